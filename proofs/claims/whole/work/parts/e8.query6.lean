section Q6
variable {D : Int} {σ : Hp} {s : Lsv}
theorem X_util_to {c : Int} {k1 k2 : Nat} {Q : Res → Hp → Prop} (h : CIv D σ s) (hk : 0 ≤ c ∧ c < s.1 0) (k58 : V m_X10_utilization 10 k1 k2 58 [some (vR (some (10, 0))), some (vI c), some (vI (utL s.1 c)), some (vI (utH s.1 c)), some (vI (s.1 1))] [] σ Q) : V m_X10_utilization 10 k1 k2 0 [some (vR (some (10, 0))), some (vI c), none, none, none] [] σ Q := by
  have hc := h.1
  have hW := hc.2.1
  have hI := hc.2.2.2.2
  have hn := hI.n
  have n1 := hc.2.2.1.1.2.1
  have r1 := R_needSec0 hc hk
  refine V_aldn0 a_X10_utilization_0 ?_
  refine V_ildn1 a_X10_utilization_1 ?_
  refine V_v1V a_X10_utilization_2 c_X10_180 r1 ?_
  refine V_iconst a_X10_utilization_5 ?_
  refine V_istn2 a_X10_utilization_6 ?_
  refine V_iconst a_X10_utilization_7 ?_
  refine V_istn3 a_X10_utilization_8 ?_
  refine V_iconst a_X10_utilization_9 ?_
  refine V_ist4 a_X10_utilization_10 ?_
  refine loopI (P := fun l => V m_X10_utilization 10 k1 k2 12 [some (vR (some (10, 0))), some (vI c), some (vI (sm (fun l => lentA s.1 l c) l)), some (vI (sm (fun l => s.1 (49 + 4 * l + c)) l)), some (vI l)] [] σ Q) (N := s.1 1) (by omega) ?_ ?_
  · refine V_ild4 a_X10_utilization_12 ?_
    refine V_aldn0 a_X10_utilization_14 ?_
    refine V_fin a_X10_utilization_15 f_X10_61 rfl hW ?_
    refine V_fin a_X10_utilization_18 f_X10_196 rfl hW ?_
    refine V_iconst a_X10_utilization_21 ?_
    refine V_ialdE a_X10_utilization_22 rfl (by omega) n1 ?_
    refine V_icmp_ge_t a_X10_utilization_23 (by omega) (by omega) ?_
    exact k58
  · intro l l0 l1 ih
    rw [sm_s _ l0, sm_s _ l0] at ih
    have r2 := R_ClentBy (l := l) (s := c) hc (by omega) (by unfold iR; omega)
    have r3 := R_heldBy (i := 0) (l := l) (s := c) hW (by omega) (by omega) (hc.2.2.1.held l0 (by omega) hk.1 (by omega))
    refine V_ild4 a_X10_utilization_12 ?_
    refine V_aldn0 a_X10_utilization_14 ?_
    refine V_fin a_X10_utilization_15 f_X10_61 rfl hW ?_
    refine V_fin a_X10_utilization_18 f_X10_196 rfl hW ?_
    refine V_iconst a_X10_utilization_21 ?_
    refine V_ialdE a_X10_utilization_22 rfl (by omega) n1 ?_
    refine V_icmp_ge_f a_X10_utilization_23 (by omega) (by omega) ?_
    refine V_ildn2 a_X10_utilization_26 ?_
    refine V_aldn0 a_X10_utilization_27 ?_
    refine V_fin a_X10_utilization_28 f_X10_61 rfl hW ?_
    refine V_ild4 a_X10_utilization_31 ?_
    refine V_ildn1 a_X10_utilization_33 ?_
    refine V_v2R a_X10_utilization_34 c_X10_168 r2 ?_
    refine V_iadd a_X10_utilization_37 ?_
    refine V_istn2 a_X10_utilization_38 ?_
    refine V_ildn3 a_X10_utilization_39 ?_
    refine V_aldn0 a_X10_utilization_40 ?_
    refine V_fin a_X10_utilization_41 f_X10_61 rfl hW ?_
    refine V_ild4 a_X10_utilization_44 ?_
    refine V_ildn1 a_X10_utilization_46 ?_
    refine V_v2R a_X10_utilization_47 c_X10_158 r3 ?_
    refine V_iadd a_X10_utilization_50 ?_
    refine V_istn3 a_X10_utilization_51 ?_
    refine V_inc4 a_X10_utilization_52 ?_
    refine V_goto a_X10_utilization_55 ?_
    exact ih
theorem X_utilization0 {c : Int} (h : CIv D σ s) (hk : 0 ≤ c ∧ c < s.1 0) (hu : utH s.1 c ≠ 0) : Rt m_X10_utilization 10 0 0 [vR (some (10, 0)), vI c] σ (some (vD (utV (utL s.1 c) (utH s.1 c)))) σ := by
  have hI := h.1.2.2.2.2
  have hn := hI.n
  have hub := ut_bd hI (s := c) (by omega)
  have hnn := fp_div (x := utL s.1 c) (y := utH s.1 c) (by omega) (by omega) (by omega) (by omega)
  have e1 := fp_i2d (x := utL s.1 c) (by omega) (by omega)
  have e2 := fp_i2d (x := utH s.1 c) (by omega) (by omega)
  rw [← e1, ← e2] at hnn
  have e3 : utV (utL s.1 c) (utH s.1 c) = FP.ddiv (FP.i2d (i32 (utL s.1 c))) (FP.i2d (i32 (utH s.1 c))) := by
    rw [e1, e2]
    rfl
  rw [e3]
  show V _ 10 0 0 0 [some (vR (some (10, 0))), some (vI c), none, none, none] [] σ _
  refine X_util_to h hk ?_
  refine V_ildn3 a_X10_utilization_58 ?_
  refine V_if_ne_t a_X10_utilization_59 (by omega) (by omega) ?_
  refine V_ildn2 a_X10_utilization_72 ?_
  refine V_i2d a_X10_utilization_73 ?_
  refine V_ildn3 a_X10_utilization_74 ?_
  refine V_i2d a_X10_utilization_75 ?_
  refine V_ddiv a_X10_utilization_76 hnn ?_
  exact V_dret a_X10_utilization_77 (⟨rfl, rfl⟩)
theorem X_utilization1 {c : Int} (h : CIv D σ s) (ic : iR c) (hk : ¬ (0 ≤ c ∧ c < s.1 0)) : Tr m_X10_utilization 10 1 6 [vR (some (10, 0)), vI c] σ xIOB σ := by
  have r1 := R_needSec1 h.1 hk ic
  show V _ 10 1 6 0 [some (vR (some (10, 0))), some (vI c), none, none, none] [] σ _
  refine V_aldn0 a_X10_utilization_0 ?_
  refine V_ildn1 a_X10_utilization_1 ?_
  exact V_v1Q a_X10_utilization_2 c_X10_180 (r1) (fun v τ hq => by cases hq.1) (fun E τ hq => by obtain ⟨h1, hq⟩ := hq; cases h1; exact ⟨rfl, hq⟩)
theorem X_utilization2 {c : Int} (h : CIv D σ s) (hk : 0 ≤ c ∧ c < s.1 0) (hu : utH s.1 c = 0) : Tr m_X10_utilization 10 1 6 [vR (some (10, 0)), vI c] σ xARI σ := by
  show V _ 10 1 6 0 [some (vR (some (10, 0))), some (vI c), none, none, none] [] σ _
  refine X_util_to h hk ?_
  refine V_ildn3 a_X10_utilization_58 ?_
  refine V_if_ne_f a_X10_utilization_59 (by omega) (by omega) ?_
  exact V_throw (cls := xARI) (wide := false) rfl a_X10_utilization_62 a_X10_utilization_65 a_X10_utilization_66 a_X10_utilization_68 a_X10_utilization_71 xf_ARI kl_X10_225 xi_ARI sr_X10_227 xa_ARI xg_ARI (by omega) (by exact Nat.le_of_ble_eq_true rfl) (⟨rfl, rfl⟩)
theorem R_earlier {x y : Int} (hx : -1 ≤ x ∧ x ≤ 100000000) (hy : -1 ≤ y ∧ y ≤ 100000000) : Rt m_X10_earlier 5 0 0 [vI x, vI y] σ (some (vI (if y ≠ -1 ∧ (x = -1 ∨ y < x) then y else x))) σ := by
  have r1 := R_imax (σ := σ) (x := x) (y := y) (by omega) (by omega)
  have r2 := R_imin (σ := σ) (x := x) (y := y) (by omega) (by omega)
  show V _ 5 0 0 0 [some (vI x), some (vI y)] [] σ _
  by_cases a : x = -1
  · have e : (if y ≠ -1 ∧ (x = -1 ∨ y < x) then y else x) = max x y := by split <;> omega
    rw [e]
    refine V_ildn0 a_X10_earlier_0 ?_
    refine V_iconst a_X10_earlier_1 ?_
    refine V_icmp_eq_t a_X10_earlier_2 (by omega) (by omega) ?_
    refine V_ildn0 a_X10_earlier_10 ?_
    refine V_ildn1 a_X10_earlier_11 ?_
    refine V_s2R a_X10_earlier_12 c_X10_434 r1 ?_
    exact V_iret a_X10_earlier_15 (⟨rfl, rfl⟩)
  · by_cases b : y = -1
    · have e : (if y ≠ -1 ∧ (x = -1 ∨ y < x) then y else x) = max x y := by split <;> omega
      rw [e]
      refine V_ildn0 a_X10_earlier_0 ?_
      refine V_iconst a_X10_earlier_1 ?_
      refine V_icmp_eq_f a_X10_earlier_2 (by omega) (by omega) ?_
      refine V_ildn1 a_X10_earlier_5 ?_
      refine V_iconst a_X10_earlier_6 ?_
      refine V_icmp_ne_f a_X10_earlier_7 (by omega) (by omega) ?_
      refine V_ildn0 a_X10_earlier_10 ?_
      refine V_ildn1 a_X10_earlier_11 ?_
      refine V_s2R a_X10_earlier_12 c_X10_434 r1 ?_
      exact V_iret a_X10_earlier_15 (⟨rfl, rfl⟩)
    · have e : (if y ≠ -1 ∧ (x = -1 ∨ y < x) then y else x) = min x y := by split <;> omega
      rw [e]
      refine V_ildn0 a_X10_earlier_0 ?_
      refine V_iconst a_X10_earlier_1 ?_
      refine V_icmp_eq_f a_X10_earlier_2 (by omega) (by omega) ?_
      refine V_ildn1 a_X10_earlier_5 ?_
      refine V_iconst a_X10_earlier_6 ?_
      refine V_icmp_ne_t a_X10_earlier_7 (by omega) (by omega) ?_
      refine V_ildn0 a_X10_earlier_16 ?_
      refine V_ildn1 a_X10_earlier_17 ?_
      refine V_s2R a_X10_earlier_18 c_X10_328 r2 ?_
      exact V_iret a_X10_earlier_21 (⟨rfl, rfl⟩)
theorem fb_due {A : St} {k m : Int} (hI : Inv D A) (k0 : 0 ≤ k) (k1 : k < A 7) : fbS A k m = if dueA A k ≠ -1 ∧ (m = -1 ∨ dueA A k < m) then dueA A k else m := by
  have hn := hI.n
  have hd := due_bd hI k0 k1
  unfold fbS
  by_cases z : nduA A k = -1
  · have e : dueA A k = -1 := by
      unfold dueA
      rw [if_pos z]
    rw [if_neg (fun y => y.1 z), if_neg (fun y => y.1 e)]
  · have e : dueA A k = A (83 + 23 * k + 17 + nduA A k) := by
      unfold dueA
      rw [if_neg z]
    rw [← e]
    have n0 : dueA A k ≠ -1 := by
      rcases ndX_ok (rc := fun l => A (83 + 23 * k + 11 + l)) (du := fun l => A (83 + 23 * k + 17 + l)) (n := A 1) (by omega) with y | y
      · exact absurd y.1 z
      · obtain ⟨y1, y2, -⟩ := y
        have e9 : ndX (fun l => A (83 + 23 * k + 11 + l)) (fun l => A (83 + 23 * k + 17 + l)) (A 1) = nduA A k := rfl
        rw [e9] at y1 y2
        have := ((hI.loan k0 k1).sl y1.1 (by omega)).2.2.1 y2
        omega
    by_cases w : m = -1 ∨ dueA A k < m
    · rw [if_pos ⟨z, w⟩, if_pos ⟨n0, w⟩]
    · rw [if_neg (fun y => w y.2), if_neg (fun y => w y.2)]
theorem fb_bdC {A : St} {n : Int} (hI : Inv D A) (n0 : 0 ≤ n) (n1 : n ≤ A 7) : -1 ≤ fbX A n ∧ fbX A n ≤ A 6 + 30 := by
  have hn := hI.n
  exact itr_ind (f := fbS A) (a := -1) (fun _ x => -1 ≤ x ∧ x ≤ A 6 + 30) ⟨by omega, by omega⟩ n0 (fun k x k0 k1 hx => by
    have hd := due_bd hI k0 (show k < A 7 by omega)
    show -1 ≤ fbS A k x ∧ fbS A k x ≤ A 6 + 30
    rw [fb_due hI k0 (by omega)]
    split <;> omega)
theorem X_first_to {k1 k2 : Nat} {Q : Res → Hp → Prop} (h : CIv D σ s) (k40 : V m_X10_firstBuyIn 10 k1 k2 40 [some (vR (some (10, 0))), some (vI (fbX s.1 (s.1 7))), some (vI (s.1 7))] [] σ Q) : V m_X10_firstBuyIn 10 k1 k2 0 [some (vR (some (10, 0))), none, none] [] σ Q := by
  have hc := h.1
  have hW := hc.2.1
  have hD := hc.1
  have hI := hc.2.2.2.2
  have hn := hI.n
  have n3 := hc.2.2.1.1.2.2.2.1
  have hL := hc.2.2.2.1.L
  refine V_iconst a_X10_firstBuyIn_0 ?_
  refine V_istn1 a_X10_firstBuyIn_1 ?_
  refine V_iconst a_X10_firstBuyIn_2 ?_
  refine V_istn2 a_X10_firstBuyIn_3 ?_
  refine loopI (P := fun k => V m_X10_firstBuyIn 10 k1 k2 4 [some (vR (some (10, 0))), some (vI (fbX s.1 k)), some (vI k)] [] σ Q) (N := s.1 7) (by omega) ?_ ?_
  · refine V_ildn2 a_X10_firstBuyIn_4 ?_
    refine V_aldn0 a_X10_firstBuyIn_5 ?_
    refine V_fin a_X10_firstBuyIn_6 f_X10_61 rfl hW ?_
    refine V_fin a_X10_firstBuyIn_9 f_X10_196 rfl hW ?_
    refine V_iconst a_X10_firstBuyIn_12 ?_
    refine V_ialdE a_X10_firstBuyIn_13 rfl (by omega) n3 ?_
    refine V_icmp_ge_t a_X10_firstBuyIn_14 (by omega) (by omega) ?_
    exact k40
  · intro k k0 k1 ih
    have hb := fb_bdC hI k0 (show k ≤ s.1 7 by omega)
    have hd := due_bd hI k0 k1
    rw [fbX_s k0, fb_due hI k0 k1] at ih
    have r1 := R_due6 hc ⟨k0, k1⟩
    have r2 := R_earlier (σ := σ) (x := fbX s.1 k) (y := dueA s.1 k) (by omega) (by omega)
    refine V_ildn2 a_X10_firstBuyIn_4 ?_
    refine V_aldn0 a_X10_firstBuyIn_5 ?_
    refine V_fin a_X10_firstBuyIn_6 f_X10_61 rfl hW ?_
    refine V_fin a_X10_firstBuyIn_9 f_X10_196 rfl hW ?_
    refine V_iconst a_X10_firstBuyIn_12 ?_
    refine V_ialdE a_X10_firstBuyIn_13 rfl (by omega) n3 ?_
    refine V_icmp_ge_f a_X10_firstBuyIn_14 (by omega) (by omega) ?_
    refine V_ildn1 a_X10_firstBuyIn_17 ?_
    refine V_aldn0 a_X10_firstBuyIn_18 ?_
    refine V_fin a_X10_firstBuyIn_19 f_X10_61 rfl hW ?_
    refine V_fin a_X10_firstBuyIn_22 f_X10_244 rfl hW ?_
    refine V_ildn2 a_X10_firstBuyIn_25 ?_
    refine V_aald a_X10_firstBuyIn_26 rfl (by omega) (hL _ (by omega) (by omega)) ?_
    refine V_v0R a_X10_firstBuyIn_27 c_X10_276 r1 ?_
    refine V_s2R a_X10_firstBuyIn_30 c_X10_351 r2 ?_
    refine V_istn1 a_X10_firstBuyIn_33 ?_
    refine V_inc2 a_X10_firstBuyIn_34 ?_
    refine V_goto a_X10_firstBuyIn_37 ?_
    exact ih
theorem X_firstBuyIn0 (h : CIv D σ s) (hf : fbX s.1 (s.1 7) ≠ -1) : Rt m_X10_firstBuyIn 10 0 0 [vR (some (10, 0))] σ (some (vI (fbX s.1 (s.1 7) + 1 - s.1 6))) σ := by
  have hc := h.1
  have hW := hc.2.1
  have hD := hc.1
  have hI := hc.2.2.2.2
  have hn := hI.n
  have n5 := hc.2.2.1.1.2.2.2.2.2.1
  have hb := fb_bdC hI (n := s.1 7) (by omega) (Int.le_refl _)
  show V _ 10 0 0 0 [some (vR (some (10, 0))), none, none] [] σ _
  refine X_first_to h ?_
  refine V_ildn1 a_X10_firstBuyIn_40 ?_
  refine V_iconst a_X10_firstBuyIn_41 ?_
  refine V_icmp_ne_t a_X10_firstBuyIn_42 (by omega) (by omega) ?_
  refine V_ildn1 a_X10_firstBuyIn_56 ?_
  refine V_iconst a_X10_firstBuyIn_57 ?_
  refine V_iadd a_X10_firstBuyIn_58 ?_
  refine V_aldn0 a_X10_firstBuyIn_59 ?_
  refine V_fin a_X10_firstBuyIn_60 f_X10_61 rfl hW ?_
  refine V_fin a_X10_firstBuyIn_63 f_X10_196 rfl hW ?_
  refine V_iconst a_X10_firstBuyIn_66 ?_
  refine V_ialdE a_X10_firstBuyIn_67 rfl (by omega) n5 ?_
  refine V_isub a_X10_firstBuyIn_68 ?_
  exact V_iret a_X10_firstBuyIn_69 (⟨rfl, rfl⟩)
theorem X_richestLender0 (h : CIv D σ s) (h1 : s.1 1 ≠ 0) : Rt m_X10_richestLender 10 0 0 [vR (some (10, 0))] σ (some (vI (riA s.1))) σ := by
  have hc := h.1
  have hW := hc.2.1
  have hI := hc.2.2.2.2
  have hn := hI.n
  have n1 := hc.2.2.1.1.2.1
  have hJ := hc.2.2.1.acc.1.1
  show V _ 10 0 0 0 [some (vR (some (10, 0))), none, none] [] σ _
  refine V_aldn0 a_X10_richestLender_0 ?_
  refine V_fin a_X10_richestLender_1 f_X10_61 rfl hW ?_
  refine V_fin a_X10_richestLender_4 f_X10_196 rfl hW ?_
  refine V_iconst a_X10_richestLender_7 ?_
  refine V_ialdE a_X10_richestLender_8 rfl (by omega) n1 ?_
  refine V_if_ne_t a_X10_richestLender_9 (by omega) (by omega) ?_
  refine V_iconst a_X10_richestLender_23 ?_
  refine V_istn1 a_X10_richestLender_24 ?_
  refine V_iconst a_X10_richestLender_25 ?_
  refine V_istn2 a_X10_richestLender_26 ?_
  refine loopF (P := fun l => V _ 10 0 0 27 [some (vR (some (10, 0))), some (vI (itr (riS s.1) (l - 1) 0)), some (vI l)] [] σ _) (a := 1) (N := s.1 1) (by omega) ?_ ?_
  · refine V_ildn2 a_X10_richestLender_27 ?_
    refine V_aldn0 a_X10_richestLender_28 ?_
    refine V_fin a_X10_richestLender_29 f_X10_61 rfl hW ?_
    refine V_fin a_X10_richestLender_32 f_X10_196 rfl hW ?_
    refine V_iconst a_X10_richestLender_35 ?_
    refine V_ialdE a_X10_richestLender_36 rfl (by omega) n1 ?_
    refine V_icmp_ge_t a_X10_richestLender_37 (by omega) (by omega) ?_
    refine V_ildn1 a_X10_richestLender_70 ?_
    exact V_iret a_X10_richestLender_71 (⟨rfl, rfl⟩)
  · intro l l0 l1 ih
    have hb := ri_bd (A := s.1) (n := l - 1) (by omega)
    rw [show l + 1 - 1 = (l - 1) + 1 by omega, itr_s _ (by omega)] at ih
    generalize itr (riS s.1) (l - 1) 0 = b at hb ih ⊢
    have hcb := c64_bd (s.1 (73 + l)) (s.1 (73 + b))
    unfold riS at ih
    rw [show l - 1 + 1 = l by omega] at ih
    by_cases q : c64 (s.1 (73 + l)) (s.1 (73 + b)) ≤ 0
    · rw [if_pos q] at ih
      refine V_ildn2 a_X10_richestLender_27 ?_
      refine V_aldn0 a_X10_richestLender_28 ?_
      refine V_fin a_X10_richestLender_29 f_X10_61 rfl hW ?_
      refine V_fin a_X10_richestLender_32 f_X10_196 rfl hW ?_
      refine V_iconst a_X10_richestLender_35 ?_
      refine V_ialdE a_X10_richestLender_36 rfl (by omega) n1 ?_
      refine V_icmp_ge_f a_X10_richestLender_37 (by omega) (by omega) ?_
      refine V_aldn0 a_X10_richestLender_40 ?_
      refine V_fin a_X10_richestLender_41 f_X10_61 rfl hW ?_
      refine V_fin a_X10_richestLender_44 f_X10_234 rfl hW ?_
      refine V_ildn2 a_X10_richestLender_47 ?_
      refine V_laldE a_X10_richestLender_48 rfl (by omega) (hJ l (by omega) (by omega)) ?_
      refine V_aldn0 a_X10_richestLender_49 ?_
      refine V_fin a_X10_richestLender_50 f_X10_61 rfl hW ?_
      refine V_fin a_X10_richestLender_53 f_X10_234 rfl hW ?_
      refine V_ildn1 a_X10_richestLender_56 ?_
      refine V_laldE a_X10_richestLender_57 rfl (by omega) (hJ b (by omega) (by omega)) ?_
      refine V_lcmpG a_X10_richestLender_58 ?_
      refine V_if_le_t a_X10_richestLender_59 (by omega) (by omega) ?_
      refine V_inc2 a_X10_richestLender_64 ?_
      refine V_goto a_X10_richestLender_67 ?_
      exact ih
    · rw [if_neg q] at ih
      refine V_ildn2 a_X10_richestLender_27 ?_
      refine V_aldn0 a_X10_richestLender_28 ?_
      refine V_fin a_X10_richestLender_29 f_X10_61 rfl hW ?_
      refine V_fin a_X10_richestLender_32 f_X10_196 rfl hW ?_
      refine V_iconst a_X10_richestLender_35 ?_
      refine V_ialdE a_X10_richestLender_36 rfl (by omega) n1 ?_
      refine V_icmp_ge_f a_X10_richestLender_37 (by omega) (by omega) ?_
      refine V_aldn0 a_X10_richestLender_40 ?_
      refine V_fin a_X10_richestLender_41 f_X10_61 rfl hW ?_
      refine V_fin a_X10_richestLender_44 f_X10_234 rfl hW ?_
      refine V_ildn2 a_X10_richestLender_47 ?_
      refine V_laldE a_X10_richestLender_48 rfl (by omega) (hJ l (by omega) (by omega)) ?_
      refine V_aldn0 a_X10_richestLender_49 ?_
      refine V_fin a_X10_richestLender_50 f_X10_61 rfl hW ?_
      refine V_fin a_X10_richestLender_53 f_X10_234 rfl hW ?_
      refine V_ildn1 a_X10_richestLender_56 ?_
      refine V_laldE a_X10_richestLender_57 rfl (by omega) (hJ b (by omega) (by omega)) ?_
      refine V_lcmpG a_X10_richestLender_58 ?_
      refine V_if_le_f a_X10_richestLender_59 (by omega) (by omega) ?_
      refine V_ildn2 a_X10_richestLender_62 ?_
      refine V_istn1 a_X10_richestLender_63 ?_
      refine V_inc2 a_X10_richestLender_64 ?_
      refine V_goto a_X10_richestLender_67 ?_
      exact ih
end Q6

