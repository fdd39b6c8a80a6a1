section Gp
variable {D : Int} {σ : Hp} {A : St} {s ex q : Int}
theorem R_giveParts (hI : Inv D A) (hW : WF σ) (hs : 0 ≤ s ∧ s < 4) (hq : 0 < q ∧ q ≤ freeB A ex s) (hM : Ms σ A s ex) : Cv m_X0_giveParts 0 0 0 [vR (some (0, 0)), vI q] σ (some (vI (q - sm (partA A s ex q) (A 1)))) (fun τ => Fm [24, 29] σ τ ∧ ∀ l, 0 ≤ l → l < A 1 → τ.I 24 0 l = partA A s ex q l ∧ τ.J 29 0 l = rstA A s ex q l) := by
  have hn := hI.n
  obtain ⟨m7, m8, m2, ml⟩ := hM
  have hS := freeB_bd hI (but := ex) hs.1 hs.2
  show V _ 0 0 0 0 [some (vR (some (0, 0))), some (vI q), none, none, none, none] [] σ _
  refine V_ildn1 a_X0_giveParts_0 ?_
  refine V_istn2 a_X0_giveParts_1 ?_
  refine V_iconst a_X0_giveParts_2 ?_
  refine V_istn3 a_X0_giveParts_3 ?_
  skip
  have key := loopI (P := fun k => ∀ (x4 : Option AV) τ, Fm [24, 29] σ τ → (∀ l, 0 ≤ l → l < k → τ.I 24 0 l = partA A s ex q l ∧ τ.J 29 0 l = rstA A s ex q l) → V m_X0_giveParts 0 0 0 4 [some (vR (some (0, 0))), some (vI q), some (vI (q - sm (partA A s ex q) k)), some (vI k), x4, none] [] τ (fun r τ => r = .inl (some (vI (q - sm (partA A s ex q) (A 1)))) ∧ Fm [24, 29] σ τ ∧ ∀ l, 0 ≤ l → l < A 1 → τ.I 24 0 l = partA A s ex q l ∧ τ.J 29 0 l = rstA A s ex q l)) (N := A 1) (by omega) ?_ ?_ none σ (Fm.refl _ _) (fun l l0 l1 => by omega)
  · rw [sm_0, Int.sub_zero] at key
    exact key
  · intro x4 τ f hτ
    have hW := f.wf hW
    have g7 : τ.I 0 0 7 = A 1 := by
      rw [f.I (by decide)]
      exact m7
    refine V_ildn3 a_X0_giveParts_4 ?_
    refine V_aldn0 a_X0_giveParts_5 ?_
    refine V_getIE a_X0_giveParts_6 f_X0_36 rfl g7 ?_
    refine V_icmp_ge_t a_X0_giveParts_9 (by omega) (by omega) ?_
    refine V_ildn2 a_X0_giveParts_75 ?_
    exact V_iret a_X0_giveParts_76 (⟨rfl, f, hτ⟩)
  · intro k k0 k1 ih x4 τ f hτ
    have hWτ := f.wf hW
    have g7 : τ.I 0 0 7 = A 1 := by
      rw [f.I (by decide)]
      exact m7
    have g2 : ∀ v, (τ.setI 24 0 k v).I 0 0 2 = freeB A ex s := fun v => by
      rw [setI_t (by decide), f.I (by decide)]
      exact m2
    have g2' : τ.I 0 0 2 = freeB A ex s := by
      rw [f.I (by decide)]
      exact m2
    have g26 : τ.I 26 0 k = (if k = ex then 0 else freeA A k s) := by
      rw [f.I (by decide)]
      exact (ml k k0 k1).2.2
    have hfb := (free_bd hI k0 k1 hs.1 hs.2).1
    have eal : q * (if k = ex then 0 else freeA A k s) = alA A s ex q k := by
      unfold alA
      split
      · exact Int.mul_zero q
      · rfl
    have hpo := part_ok hI hs hq k0 k1
    have hfr : 0 ≤ (if k = ex then 0 else freeA A k s) ∧ (if k = ex then 0 else freeA A k s) ≤ 99999 := by
      split <;> omega
    have hal := mul_bd (a := q) (b := if k = ex then 0 else freeA A k s) (M := 599994) (N := 99999) (by omega) (by omega) hfr.1 hfr.2
    rw [eal] at hal
    have k2 := ih (some (vL (alA A s ex q k))) ((τ.setI 24 0 k (partA A s ex q k)).setJ 29 0 k (rstA A s ex q k)) (f.trans ((Fm.setI (by decide)).trans (Fm.setJ (by decide)))) (fun l l0 l1 => by
      have e24 : ((τ.setI 24 0 k (partA A s ex q k)).setJ 29 0 k (rstA A s ex q k)).I 24 0 l = (τ.setI 24 0 k (partA A s ex q k)).I 24 0 l := rfl
      have e29 : ((τ.setI 24 0 k (partA A s ex q k)).setJ 29 0 k (rstA A s ex q k)).J 29 0 l = u3 τ.J 29 0 k (rstA A s ex q k) 29 0 l := rfl
      rw [e24, e29]
      unfold u3
      by_cases z : l = k
      · rw [z, setI_I, if_pos ⟨rfl, rfl, rfl⟩]
        exact ⟨rfl, rfl⟩
      · rw [setI_ne z, if_neg (fun y => z y.2.2)]
        exact hτ l l0 (by omega))
    rw [sm_s _ k0] at k2
    have g24 : ((τ.setI 24 0 k (partA A s ex q k)).setJ 29 0 k (rstA A s ex q k)).I 24 0 k = partA A s ex q k := by
      show (τ.setI 24 0 k (partA A s ex q k)).I 24 0 k = _
      exact setI_I
    have ep : (alA A s ex q k).tdiv (freeB A ex s) = partA A s ex q k := rfl
    have er : (alA A s ex q k).tmod (freeB A ex s) = rstA A s ex q k := rfl
    have hW := hWτ
    refine V_ildn3 a_X0_giveParts_4 ?_
    refine V_aldn0 a_X0_giveParts_5 ?_
    refine V_getIE a_X0_giveParts_6 f_X0_36 rfl g7 ?_
    refine V_icmp_ge_f a_X0_giveParts_9 (by omega) (by omega) ?_
    refine V_aldn0 a_X0_giveParts_12 ?_
    refine V_getIE a_X0_giveParts_13 f_X0_46 rfl g2' ?_
    refine V_if_le_f a_X0_giveParts_16 (by omega) (by omega) ?_
    refine V_ildn1 a_X0_giveParts_19 ?_
    refine V_i2l a_X0_giveParts_20 (by omega) ?_
    refine V_aldn0 a_X0_giveParts_21 ?_
    refine V_fin a_X0_giveParts_22 f_X0_18 rfl hW ?_
    refine V_ildn3 a_X0_giveParts_25 ?_
    refine V_ialdE a_X0_giveParts_26 rfl (by omega) g26 ?_
    refine V_i2l a_X0_giveParts_27 (by omega) ?_
    refine V_lmul a_X0_giveParts_28 ?_
    rw [eal]
    refine V_lst4 a_X0_giveParts_29 ?_
    refine V_aldn0 a_X0_giveParts_31 ?_
    refine V_fin a_X0_giveParts_32 f_X0_9 rfl hW ?_
    refine V_ildn3 a_X0_giveParts_35 ?_
    refine V_lld4 a_X0_giveParts_36 ?_
    refine V_aldn0 a_X0_giveParts_38 ?_
    refine V_getIE a_X0_giveParts_39 f_X0_46 rfl g2' ?_
    refine V_i2l a_X0_giveParts_42 (by omega) ?_
    refine V_ldiv a_X0_giveParts_43 (by omega) ?_
    rw [ep]
    refine V_l2i a_X0_giveParts_44 ?_
    refine V_iast a_X0_giveParts_45 rfl (by omega) ?_
    refine V_aldn0 a_X0_giveParts_46 ?_
    refine V_fin a_X0_giveParts_47 f_X0_27 rfl hW ?_
    refine V_ildn3 a_X0_giveParts_50 ?_
    refine V_lld4 a_X0_giveParts_51 ?_
    refine V_aldn0 a_X0_giveParts_53 ?_
    refine V_getIE a_X0_giveParts_54 f_X0_46 rfl (g2 _) ?_
    refine V_i2l a_X0_giveParts_57 (by omega) ?_
    refine V_lrem a_X0_giveParts_58 (by omega) ?_
    rw [er]
    refine V_last a_X0_giveParts_59 rfl (by omega) ?_
    refine V_ildn2 a_X0_giveParts_60 ?_
    refine V_aldn0 a_X0_giveParts_61 ?_
    refine V_fin a_X0_giveParts_62 f_X0_9 rfl hW ?_
    refine V_ildn3 a_X0_giveParts_65 ?_
    refine V_ialdE a_X0_giveParts_66 rfl (by omega) g24 ?_
    refine V_isub a_X0_giveParts_67 ?_
    refine V_istn2 a_X0_giveParts_68 ?_
    refine V_inc3 a_X0_giveParts_69 ?_
    refine V_goto a_X0_giveParts_72 ?_
    rw [Int.sub_sub]
    exact k2
theorem rest_w (hI : Inv D A) (hs : 0 ≤ s ∧ s < 4) (hq : 0 < q ∧ q ≤ freeB A ex s) : q - sm (partA A s ex q) (A 1) ≤ A 1 := by
  have hn := hI.n
  have hS := part_sum hI hs hq
  have hP := PI_ok hI hs hq hS.2 (Int.le_refl _)
  have h1 := sm_le (f := (pickX (A 1) (q - sm (partA A s ex q) (A 1)) (partA A s ex q) (rstA A s ex q)).1) (g := fun l => partA A s ex q l + 1) (k := A 1) (fun j j0 j1 => by
    rcases hP.1 j j0 j1 with z | z
    · show _ ≤ partA A s ex q j + 1
      omega
    · show _ ≤ partA A s ex q j + 1
      omega)
  have h2 : sm (fun l => partA A s ex q l + 1) (A 1) = sm (partA A s ex q) (A 1) + sm (fun _ => 1) (A 1) := sm_add
  have h3 := sm_bd (f := fun _ => (1 : Int)) (k := A 1) (lo := 1) (hi := 1) (by omega) (fun _ _ _ => ⟨Int.le_refl 1, Int.le_refl 1⟩)
  have h4 := hP.2.2
  omega
theorem R_giveByRest (hI : Inv D A) (hW : WF σ) (hs : 0 ≤ s ∧ s < 4) (hq : 0 < q ∧ q ≤ freeB A ex s) (h7 : σ.I 0 0 7 = A 1) (h0 : ∀ l, 0 ≤ l → l < A 1 → σ.I 24 0 l = partA A s ex q l ∧ σ.J 29 0 l = rstA A s ex q l) : Cv m_X0_giveByRest 0 0 0 [vR (some (0, 0)), vI (q - sm (partA A s ex q) (A 1))] σ none (fun τ => Fm [24, 29] σ τ ∧ ∀ l, 0 ≤ l → l < A 1 → τ.I 24 0 l = (pickX (A 1) (q - sm (partA A s ex q) (A 1)) (partA A s ex q) (rstA A s ex q)).1 l) := by
  have hn := hI.n
  have hS := part_sum hI hs hq
  have hw := rest_w hI hs hq
  have hSb := freeB_bd hI (but := ex) hs.1 hs.2
  have hn1 := free_n (A := A) (s := s) (but := ex) (by omega)
  show V _ 0 0 0 0 [some (vR (some (0, 0))), some (vI (q - sm (partA A s ex q) (A 1))), none, none, none] [] σ _
  refine V_iconst a_X0_giveByRest_0 ?_
  refine V_istn2 a_X0_giveByRest_1 ?_
  skip
  refine loopI (P := fun m => ∀ (x3 x4 : Option AV) τ, Fm [24, 29] σ τ → (∀ l, 0 ≤ l → l < A 1 → τ.I 24 0 l = (pickX (A 1) m (partA A s ex q) (rstA A s ex q)).1 l ∧ τ.J 29 0 l = max ((pickX (A 1) m (partA A s ex q) (rstA A s ex q)).2 l) 0) → V m_X0_giveByRest 0 0 0 2 [some (vR (some (0, 0))), some (vI (q - sm (partA A s ex q) (A 1))), some (vI m), x3, x4] [] τ (fun r τ => r = .inl none ∧ Fm [24, 29] σ τ ∧ ∀ l, 0 ≤ l → l < A 1 → τ.I 24 0 l = (pickX (A 1) (q - sm (partA A s ex q) (A 1)) (partA A s ex q) (rstA A s ex q)).1 l)) (N := q - sm (partA A s ex q) (A 1)) hS.2 ?_ ?_ none none σ (Fm.refl _ _) (fun l l0 l1 => by
    have hpo := part_ok hI hs hq l0 l1
    rw [pickX_0]
    refine ⟨(h0 l l0 l1).1, (h0 l l0 l1).2.trans ?_⟩
    show rstA A s ex q l = max (rstA A s ex q l) 0
    omega)
  · intro x3 x4 τ f hτ
    have hW := f.wf hW
    have g7 : τ.I 0 0 7 = A 1 := by
      rw [f.I (by decide)]
      exact h7
    refine V_ildn2 a_X0_giveByRest_2 ?_
    refine V_aldn0 a_X0_giveByRest_3 ?_
    refine V_getIE a_X0_giveByRest_4 f_X0_36 rfl g7 ?_
    refine V_icmp_ge a_X0_giveByRest_7 (by omega) (fun hc7 => ?_) (fun hc7 => ?_)
    · exact V_ret a_X0_giveByRest_78 (⟨rfl, f, fun l l0 l1 => (hτ l l0 l1).1⟩)
    · refine V_ildn2 a_X0_giveByRest_10 ?_
      refine V_ildn1 a_X0_giveByRest_11 ?_
      refine V_icmp_ge_t a_X0_giveByRest_12 (by omega) (by omega) ?_
      exact V_ret a_X0_giveByRest_78 (⟨rfl, f, fun l l0 l1 => (hτ l l0 l1).1⟩)
  · intro m m0 m1 ih x3 x4 τ f hτ
    have hWτ := f.wf hW
    have g7 : τ.I 0 0 7 = A 1 := by
      rw [f.I (by decide)]
      exact h7
    have hP := PI_ok hI hs hq m0 (by omega : m ≤ q - sm (partA A s ex q) (A 1))
    rw [pickX_s m0] at ih
    unfold pickS at ih
    generalize pickX (A 1) m (partA A s ex q) (rstA A s ex q) = x at hτ ih hP
    obtain ⟨P1, P2, P3⟩ := hP
    obtain ⟨b1, b2, b3⟩ := amx_ok (r := x.2) hn1
    have hpos : 0 < x.2 (amx x.2 (A 1)) := by
      rcases lt_ge 0 (x.2 (amx x.2 (A 1))) with g | g
      · exact g
      · have e := sm_hi (f := fun l => max (x.2 l) 0) (k := A 1) (hi := 0) (by omega) (fun j j0 j1 => by
          have := b2 j j0 j1
          show max (x.2 j) 0 ≤ 0
          omega)
        have e2 := Int.mul_pos (a := q - sm (partA A s ex q) (A 1) - m) (b := freeB A ex s) (by omega) (by omega)
        rw [Int.mul_zero] at e
        omega
    have eam : amx (fun l => max (x.2 l) 0) (A 1) = amx x.2 (A 1) := amx_of hn1 b1.1 b1.2 (fun j j0 j1 => by
      have := b2 j j0 j1
      show max (x.2 j) 0 ≤ max (x.2 (amx x.2 (A 1))) 0
      omega) (fun j j0 j1 => by
      have := b3 j j0 j1
      show max (x.2 j) 0 < max (x.2 (amx x.2 (A 1))) 0
      omega)
    have hrb : ∀ l, 0 ≤ l → l < A 1 → 0 ≤ max (x.2 l) 0 ∧ max (x.2 l) 0 ≤ 599994 := fun l l0 l1 => by
      have hpo := part_ok hI hs hq l0 l1
      rcases P1 l l0 l1 with z | z <;> omega
    have k2 := ih (some (vI (amx x.2 (A 1)))) (some (vI (A 1))) ((τ.setI 24 0 (amx x.2 (A 1)) (x.1 (amx x.2 (A 1)) + 1)).setJ 29 0 (amx x.2 (A 1)) 0) (f.trans ((Fm.setI (by decide)).trans (Fm.setJ (by decide)))) (fun l l0 l1 => by
      have e24 : ((τ.setI 24 0 (amx x.2 (A 1)) (x.1 (amx x.2 (A 1)) + 1)).setJ 29 0 (amx x.2 (A 1)) 0).I 24 0 l = (τ.setI 24 0 (amx x.2 (A 1)) (x.1 (amx x.2 (A 1)) + 1)).I 24 0 l := rfl
      have e29 : ((τ.setI 24 0 (amx x.2 (A 1)) (x.1 (amx x.2 (A 1)) + 1)).setJ 29 0 (amx x.2 (A 1)) 0).J 29 0 l = u3 τ.J 29 0 (amx x.2 (A 1)) 0 29 0 l := rfl
      rw [e24, e29]
      unfold u3
      show _ = upI x.1 _ _ l ∧ _ = max (upI x.2 _ (-1) l) 0
      by_cases z : l = amx x.2 (A 1)
      · rw [z, setI_I, upI_eq, upI_eq, if_pos ⟨rfl, rfl, rfl⟩]
        exact ⟨rfl, rfl⟩
      · rw [setI_ne z, upI_ne z, upI_ne z, if_neg (fun y => z y.2.2)]
        exact hτ l l0 l1)
    have g24 := (hτ _ b1.1 b1.2).1
    have hW := hWτ
    refine V_ildn2 a_X0_giveByRest_2 ?_
    refine V_aldn0 a_X0_giveByRest_3 ?_
    refine V_getIE a_X0_giveByRest_4 f_X0_36 rfl g7 ?_
    refine V_icmp_ge_f a_X0_giveByRest_7 (by omega) (by omega) ?_
    refine V_ildn2 a_X0_giveByRest_10 ?_
    refine V_ildn1 a_X0_giveByRest_11 ?_
    refine V_icmp_ge_f a_X0_giveByRest_12 (by omega) (by omega) ?_
    refine V_iconst a_X0_giveByRest_15 ?_
    refine V_istn3 a_X0_giveByRest_16 ?_
    refine V_iconst a_X0_giveByRest_17 ?_
    refine V_ist4 a_X0_giveByRest_18 ?_
    refine loopF (P := fun k => V _ 0 0 0 20 [some (vR (some (0, 0))), some (vI (q - sm (partA A s ex q) (A 1))), some (vI m), some (vI (amxK (fun l => max (x.2 l) 0) (k - 1))), some (vI k)] [] τ _) (a := 1) (N := A 1) (by omega) ?_ ?_
    · have ea : amxK (fun l => max (x.2 l) 0) (A 1 - 1) = amx x.2 (A 1) := eam
      rw [ea]
      refine V_ild4 a_X0_giveByRest_20 ?_
      refine V_aldn0 a_X0_giveByRest_22 ?_
      refine V_getIE a_X0_giveByRest_23 f_X0_36 rfl g7 ?_
      refine V_icmp_ge_t a_X0_giveByRest_26 (by omega) (by omega) ?_
      refine V_aldn0 a_X0_giveByRest_55 ?_
      refine V_fin a_X0_giveByRest_56 f_X0_9 rfl hW ?_
      refine V_ildn3 a_X0_giveByRest_59 ?_
      first | refine V_dup2IR a_X0_giveByRest_60 ?_ | refine V_dup2L a_X0_giveByRest_60 ?_
      refine V_ialdE a_X0_giveByRest_61 rfl (by omega) g24 ?_
      refine V_iconst a_X0_giveByRest_62 ?_
      refine V_iadd a_X0_giveByRest_63 ?_
      refine V_iast a_X0_giveByRest_64 rfl (by omega) ?_
      refine V_aldn0 a_X0_giveByRest_65 ?_
      refine V_fin a_X0_giveByRest_66 f_X0_27 rfl hW ?_
      refine V_ildn3 a_X0_giveByRest_69 ?_
      refine V_lconst0 a_X0_giveByRest_70 ?_
      refine V_last a_X0_giveByRest_71 rfl (by omega) ?_
      refine V_inc2 a_X0_giveByRest_72 ?_
      refine V_goto a_X0_giveByRest_75 ?_
      exact k2
    · intro k k0 k1 ih2
      rw [show k + 1 - 1 = (k - 1) + 1 by omega, amxK_s (by omega), show k - 1 + 1 = k by omega] at ih2
      have hab := (amxK_ok (r := fun l => max (x.2 l) 0) (k := k - 1) (by omega)).1
      generalize amxK (fun l => max (x.2 l) 0) (k - 1) = b at hab ih2 ⊢
      have r1 := hrb k (by omega) k1
      have r2 := hrb b (by omega) (by omega)
      have j1 := (hτ k (by omega) k1).2
      have j2 := (hτ b (by omega) (by omega)).2
      by_cases z : max (x.2 k) 0 > max (x.2 b) 0
      · rw [if_pos z] at ih2
        refine V_ild4 a_X0_giveByRest_20 ?_
        refine V_aldn0 a_X0_giveByRest_22 ?_
        refine V_getIE a_X0_giveByRest_23 f_X0_36 rfl g7 ?_
        refine V_icmp_ge_f a_X0_giveByRest_26 (by omega) (by omega) ?_
        refine V_aldn0 a_X0_giveByRest_29 ?_
        refine V_fin a_X0_giveByRest_30 f_X0_27 rfl hW ?_
        refine V_ild4 a_X0_giveByRest_33 ?_
        refine V_laldE a_X0_giveByRest_35 rfl (by omega) j1 ?_
        refine V_aldn0 a_X0_giveByRest_36 ?_
        refine V_fin a_X0_giveByRest_37 f_X0_27 rfl hW ?_
        refine V_ildn3 a_X0_giveByRest_40 ?_
        refine V_laldE a_X0_giveByRest_41 rfl (by omega) j2 ?_
        refine V_lc_le_f a_X0_giveByRest_42 a_X0_giveByRest_43 (by omega) (by omega) ?_
        refine V_ild4 a_X0_giveByRest_46 ?_
        refine V_istn3 a_X0_giveByRest_48 ?_
        refine V_inc4 a_X0_giveByRest_49 ?_
        refine V_goto a_X0_giveByRest_52 ?_
        exact ih2
      · rw [if_neg z] at ih2
        refine V_ild4 a_X0_giveByRest_20 ?_
        refine V_aldn0 a_X0_giveByRest_22 ?_
        refine V_getIE a_X0_giveByRest_23 f_X0_36 rfl g7 ?_
        refine V_icmp_ge_f a_X0_giveByRest_26 (by omega) (by omega) ?_
        refine V_aldn0 a_X0_giveByRest_29 ?_
        refine V_fin a_X0_giveByRest_30 f_X0_27 rfl hW ?_
        refine V_ild4 a_X0_giveByRest_33 ?_
        refine V_laldE a_X0_giveByRest_35 rfl (by omega) j1 ?_
        refine V_aldn0 a_X0_giveByRest_36 ?_
        refine V_fin a_X0_giveByRest_37 f_X0_27 rfl hW ?_
        refine V_ildn3 a_X0_giveByRest_40 ?_
        refine V_laldE a_X0_giveByRest_41 rfl (by omega) j2 ?_
        refine V_lc_le_t a_X0_giveByRest_42 a_X0_giveByRest_43 (by omega) (by omega) ?_
        refine V_inc4 a_X0_giveByRest_49 ?_
        refine V_goto a_X0_giveByRest_52 ?_
        exact ih2
theorem Ms.fm {τ : Hp} {L : List Nat} (h : Ms σ A s ex) (hf : Fm L σ τ) (h0 : τ.I 0 0 7 = σ.I 0 0 7 ∧ τ.I 0 0 8 = σ.I 0 0 8 ∧ τ.I 0 0 2 = σ.I 0 0 2) (hd : 26 ∉ L ∧ 27 ∉ L ∧ 28 ∉ L) : Ms τ A s ex := ⟨h0.1.trans h.1, h0.2.1.trans h.2.1, h0.2.2.trans h.2.2.1, fun l l0 l1 => by
  rw [hf.I hd.1, hf.I hd.2.1, hf.I hd.2.2]
  exact h.2.2.2 l l0 l1⟩
def litA (A : St) (s q ex : Int) : Int := if A 5 = 0 then -1 else if A 5 = 1 then -1 else glX A s ex (turnO A s) q (A 1)
theorem R_share (hI : Inv D A) (hW : WF σ) (hs : 0 ≤ s ∧ s < 4) (hq : 0 < q ∧ q ≤ freeB A ex s) (hM : Ms σ A s ex) : Cv m_X0_share 2 0 0 [vR (some (0, 0)), vI (A 5), vI q] σ none (fun τ => Fm [0, 24, 25, 29] σ τ ∧ Ms τ A s ex ∧ (∀ l, 0 ≤ l → l < A 1 → τ.I 24 0 l = giveA A s q ex l) ∧ τ.I 0 0 9 = litA A s q ex) := by
  have hn := hI.n
  have hSb := freeB_bd hI (but := ex) hs.1 hs.2
  have hla := hI.last hs.1 hs.2
  have rf := R_fillI (σ := σ) (t := 24) (i := 0) (v := 0) rfl (by decide) (by decide)
  have f1 : Fm [0, 24, 25, 29] σ ((σ.rI 24 0 (mix (fun _ => 0) (σ.I 24 0) ((6 : Nat) : Int))).setI 0 0 9 (-1)) := (Fm.rI (by decide)).trans (Fm.setI (by decide))
  have i0 : ∀ k, k ≠ 9 → ((σ.rI 24 0 (mix (fun _ => 0) (σ.I 24 0) ((6 : Nat) : Int))).setI 0 0 9 (-1)).I 0 0 k = σ.I 0 0 k := fun k hk => by
    rw [setI_ne hk, rI_ne (by decide)]
  have hM1 : Ms ((σ.rI 24 0 (mix (fun _ => 0) (σ.I 24 0) ((6 : Nat) : Int))).setI 0 0 9 (-1)) A s ex := hM.fm f1 ⟨i0 7 (by decide), i0 8 (by decide), i0 2 (by decide)⟩ (by decide)
  have h24 : ∀ l, 0 ≤ l → l < A 1 → ((σ.rI 24 0 (mix (fun _ => 0) (σ.I 24 0) ((6 : Nat) : Int))).setI 0 0 9 (-1)).I 24 0 l = 0 := fun l l0 l1 => by
    rw [setI_t (by decide), rI_I]
    exact mix_in l0 (by show l < 6; omega)
  have h9 : ((σ.rI 24 0 (mix (fun _ => 0) (σ.I 24 0) ((6 : Nat) : Int))).setI 0 0 9 (-1)).I 0 0 9 = -1 := setI_I
  show V _ 2 0 0 0 [some (vR (some (0, 0))), some (vI (A 5)), some (vI q)] [] σ _
  refine V_aldn0 a_X0_share_0 ?_
  refine V_fin a_X0_share_1 f_X0_9 rfl hW ?_
  refine V_iconst a_X0_share_4 ?_
  refine V_s2V a_X0_share_5 c_X0_64 rf ?_
  refine V_aldn0 a_X0_share_8 ?_
  refine V_iconst a_X0_share_9 ?_
  refine V_putI a_X0_share_10 f_X0_70 rfl ?_
  skip
  generalize (σ.rI 24 0 (mix (fun _ => 0) (σ.I 24 0) ((6 : Nat) : Int))).setI 0 0 9 (-1) = τ at f1 hM1 h24 h9
  have hWτ := f1.wf hW
  unfold giveA litA
  by_cases p0 : A 5 = 0
  · rw [if_pos p0, if_pos p0]
    have r1 := R_orderByUse hI hWτ hs hM1
    have hW := hWτ
    refine V_ildn1 a_X0_share_13 ?_
    refine V_iconst a_X0_share_14 ?_
    refine V_icmp_ne_t a_X0_share_15 (by omega) (by omega) ?_
    refine V_ildn1 a_X0_share_30 ?_
    refine V_if_ne_f a_X0_share_31 (by omega) (by omega) ?_
    refine V_aldn0 a_X0_share_34 ?_
    refine V_v0PV a_X0_share_35 c_X0_81 r1 (fun τ1 hτ1 => ?_)
    skip
    have r2 := R_giveInOrder (o := rankA A s) (q := q) hI (hτ1.1.wf hWτ) hs (by omega) (hM1.fm hτ1.1 ⟨by rw [hτ1.1.I (by decide)], by rw [hτ1.1.I (by decide)], by rw [hτ1.1.I (by decide)]⟩ (by decide)) (fun j j0 j1 => (rank_ok (by omega) j0 j1).1) (fun i j i0 i1 j0 j1 e => rank_inj (by omega) i0 i1 j0 j1 e) hτ1.2 (fun l l0 l1 => by rw [hτ1.1.I (by decide)]; exact h24 l l0 l1)
    refine V_aldn0 a_X0_share_38 ?_
    refine V_ildn2 a_X0_share_39 ?_
    refine V_v1PR a_X0_share_40 c_X0_84 r2 (fun τ2 hτ2 => ?_)
    first | refine V_popI a_X0_share_43 ?_ | refine V_popR a_X0_share_43 ?_
    refine V_goto a_X0_share_44 ?_
    exact V_ret a_X0_share_64 (⟨rfl, f1.trans ((hτ1.1.sub (by decide)).trans (hτ2.1.sub (by decide))), (hM1.fm hτ1.1 ⟨by rw [hτ1.1.I (by decide)], by rw [hτ1.1.I (by decide)], by rw [hτ1.1.I (by decide)]⟩ (by decide)).fm hτ2.1 ⟨by rw [hτ2.1.I (by decide)], by rw [hτ2.1.I (by decide)], by rw [hτ2.1.I (by decide)]⟩ (by decide), hτ2.2, by rw [hτ2.1.I (by decide), hτ1.1.I (by decide)]; exact h9⟩)
  · rw [if_neg p0, if_neg p0]
    by_cases p1 : A 5 = 1
    · rw [if_pos p1, if_pos p1]
      have r1 := R_giveParts (q := q) hI hWτ hs hq hM1
      have hW := hWτ
      refine V_ildn1 a_X0_share_13 ?_
      refine V_iconst a_X0_share_14 ?_
      refine V_icmp_ne_f a_X0_share_15 (by omega) (by omega) ?_
      refine V_aldn0 a_X0_share_18 ?_
      refine V_aldn0 a_X0_share_19 ?_
      refine V_ildn2 a_X0_share_20 ?_
      refine V_v1PR a_X0_share_21 c_X0_73 r1 (fun τ1 hτ1 => ?_)
      skip
      have hM2 := hM1.fm hτ1.1 ⟨by rw [hτ1.1.I (by decide)], by rw [hτ1.1.I (by decide)], by rw [hτ1.1.I (by decide)]⟩ (by decide)
      have r2 := R_giveByRest (q := q) hI (hτ1.1.wf hWτ) hs hq hM2.1 hτ1.2
      refine V_v1PV a_X0_share_24 c_X0_77 r2 (fun τ2 hτ2 => ?_)
      refine V_goto a_X0_share_27 ?_
      exact V_ret a_X0_share_64 (⟨rfl, f1.trans ((hτ1.1.sub (by decide)).trans (hτ2.1.sub (by decide))), hM2.fm hτ2.1 ⟨by rw [hτ2.1.I (by decide)], by rw [hτ2.1.I (by decide)], by rw [hτ2.1.I (by decide)]⟩ (by decide), hτ2.2, by rw [hτ2.1.I (by decide), hτ1.1.I (by decide)]; exact h9⟩)
    · rw [if_neg p1, if_neg p1]
      have r1 := R_orderByTurn (σ := τ) (n := A 1) (last := A (23 + s)) hWτ hM1.1 (by omega) (by omega)
      have hW := hWτ
      refine V_ildn1 a_X0_share_13 ?_
      refine V_iconst a_X0_share_14 ?_
      refine V_icmp_ne_t a_X0_share_15 (by omega) (by omega) ?_
      refine V_ildn1 a_X0_share_30 ?_
      refine V_if_ne_t a_X0_share_31 (by omega) (by omega) ?_
      refine V_aldn0 a_X0_share_47 ?_
      refine V_aldn0 a_X0_share_48 ?_
      refine V_getIE a_X0_share_49 f_X0_43 rfl hM1.2.1 ?_
      refine V_v1PV a_X0_share_52 c_X0_87 r1 (fun τ1 hτ1 => ?_)
      skip
      have hM2 := hM1.fm hτ1.1 ⟨by rw [hτ1.1.I (by decide)], by rw [hτ1.1.I (by decide)], by rw [hτ1.1.I (by decide)]⟩ (by decide)
      have r2 := R_giveInOrder (o := turnO A s) (q := q) hI (hτ1.1.wf hWτ) hs (by omega) hM2 (fun j j0 j1 => turn_ok hI hs j0 j1) (fun i j i0 i1 j0 j1 e => turn_inj hI hs i0 i1 j0 j1 e) hτ1.2 (fun l l0 l1 => by rw [hτ1.1.I (by decide)]; exact h24 l l0 l1)
      refine V_aldn0 a_X0_share_55 ?_
      refine V_aldn0 a_X0_share_56 ?_
      refine V_ildn2 a_X0_share_57 ?_
      refine V_v1PR a_X0_share_58 c_X0_84 r2 (fun τ2 hτ2 => ?_)
      refine V_putI a_X0_share_61 f_X0_70 rfl ?_
      exact V_ret a_X0_share_64 (⟨rfl, f1.trans ((hτ1.1.sub (by decide)).trans ((hτ2.1.sub (by decide)).trans (Fm.setI (by decide)))), (hM2.fm hτ2.1 ⟨by rw [hτ2.1.I (by decide)], by rw [hτ2.1.I (by decide)], by rw [hτ2.1.I (by decide)]⟩ (by decide)).fm (Fm.setI (L := [0]) (by decide)) ⟨setI_ne (by decide), setI_ne (by decide), setI_ne (by decide)⟩ (by decide), fun l l0 l1 => by rw [setI_t (by decide)]; exact hτ2.2 l l0 l1, setI_I⟩)
end Gp

