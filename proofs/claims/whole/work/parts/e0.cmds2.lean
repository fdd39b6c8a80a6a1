theorem buyC_q {A : St} {l s q : Int} : buyC A l s q = if qfC A l s q ≠ 0 then qfC A l s q else if A (49 + 4 * l + s) + q > 99999 then 3 else 0 := by
  by_cases a : (0 ≤ l ∧ l < A 1) ∧ 0 ≤ s ∧ s < A 0
  · by_cases b : 1 ≤ q ∧ q ≤ 99999
    · have e : qfC A l s q = 0 := by
        unfold qfC
        rw [if_neg (fun z => z a), if_neg (fun z => z b)]
      rw [e, if_neg (fun z => z rfl)]
      unfold buyC
      rw [if_neg (fun z => z a), if_neg (fun z => z b)]
    · have e : qfC A l s q = 2 := by
        unfold qfC
        rw [if_neg (fun z => z a), if_pos b]
      rw [e, if_pos (by decide)]
      unfold buyC
      rw [if_neg (fun z => z a), if_pos b]
  · have e : qfC A l s q = 1 := by
      unfold qfC
      rw [if_pos a]
    rw [e, if_pos (by decide)]
    unfold buyC
    rw [if_pos a]
theorem selC_q {A : St} {l s q : Int} : selC A l s q = if qfC A l s q ≠ 0 then qfC A l s q else if A (49 + 4 * l + s) - lentA A l s < q then 3 else 0 := by
  by_cases a : (0 ≤ l ∧ l < A 1) ∧ 0 ≤ s ∧ s < A 0
  · by_cases b : 1 ≤ q ∧ q ≤ 99999
    · have e : qfC A l s q = 0 := by
        unfold qfC
        rw [if_neg (fun z => z a), if_neg (fun z => z b)]
      rw [e, if_neg (fun z => z rfl)]
      unfold selC
      rw [if_neg (fun z => z a), if_neg (fun z => z b)]
    · have e : qfC A l s q = 2 := by
        unfold qfC
        rw [if_neg (fun z => z a), if_pos b]
      rw [e, if_pos (by decide)]
      unfold selC
      rw [if_neg (fun z => z a), if_pos b]
  · have e : qfC A l s q = 1 := by
      unfold qfC
      rw [if_pos a]
    rw [e, if_pos (by decide)]
    unfold selC
    rw [if_pos a]
theorem qf_0 {A : St} {l s q : Int} (h : qfC A l s q = 0) : ((0 ≤ l ∧ l < A 1) ∧ 0 ≤ s ∧ s < A 0) ∧ 1 ≤ q ∧ q ≤ 99999 := by
  unfold qfC at h
  by_cases a : (0 ≤ l ∧ l < A 1) ∧ 0 ≤ s ∧ s < A 0
  · rw [if_neg (fun z => z a)] at h
    by_cases b : 1 ≤ q ∧ q ≤ 99999
    · exact ⟨a, b⟩
    · rw [if_pos b] at h
      omega
  · rw [if_pos a] at h
    omega
theorem qf_bd {A : St} {l s q : Int} : 0 ≤ qfC A l s q ∧ qfC A l s q ≤ 2 := by
  unfold qfC
  split
  · omega
  · split <;> omega
section Cm2
variable {D : Int} {σ : Hp} {s : Lsv}
theorem X_buyShares0 {l c q : Int} (h : CIv D σ s) (il : iR l) (ic : iR c) (iq : iR q) (hk : buyC s.1 l c q = 0) : Cv m_X10_buyShares 9 61 419 [vR (some (10, 0)), vI l, vI c, vI q] σ (some (vI (s.1 (49 + 4 * l + c) + q))) (QCv D (psh s (trdA s.1 l c q)) σ) := by
  have hc := h.1
  have hW := hc.2.1
  have hI := hc.2.2.2.2
  have hn := hI.n
  rw [buyC_q] at hk
  have hq : qfC s.1 l c q = 0 := by
    apply Classical.byContradiction
    intro z
    rw [if_pos z] at hk
    exact z hk
  rw [if_neg (fun z => z hq)] at hk
  have h3 : ¬ s.1 (49 + 4 * l + c) + q > 99999 := fun z => by
    rw [if_pos z] at hk
    omega
  obtain ⟨h1, h2⟩ := qf_0 hq
  have rf := R_quantityFault hc il ic iq
  rw [hq] at rf
  have hh := hI.held (l := l) (s := c) h1.1.1 (by omega) h1.2.1 (by omega)
  have rh := R_heldBy (i := 0) (l := l) (s := c) hW (by omega) (by omega) (hc.2.2.1.held h1.1.1 (by omega) h1.2.1 (by omega))
  have rk := R_keep hc h.2.2.2.1
  have hl := lent_bd hI (l := l) (s := c) h1.1.1 (by omega) h1.2.1 (by omega)
  have hlt := hI.lent (l := l) (s := c) h1.1.1 (by omega) h1.2.1 (by omega)
  have hinv := trd_inv (q := q) hI (show 0 ≤ l ∧ l < 6 by omega) (show 0 ≤ c ∧ c < 4 by omega) (by omega)
  show V _ 9 61 419 0 [some (vR (some (10, 0))), some (vI l), some (vI c), some (vI q)] [] σ _
  refine V_aldn0 a_X10_buyShares_0 ?_
  refine V_fin a_X10_buyShares_1 f_X10_33 rfl hW ?_
  refine V_aldn0 a_X10_buyShares_4 ?_
  refine V_fin a_X10_buyShares_5 f_X10_61 rfl hW ?_
  refine V_ildn1 a_X10_buyShares_8 ?_
  refine V_ildn2 a_X10_buyShares_9 ?_
  refine V_ildn3 a_X10_buyShares_10 ?_
  refine V_v4R a_X10_buyShares_11 c_X10_155 rf ?_
  refine V_s1V a_X10_buyShares_14 c_X10_117 R_refuse0 ?_
  refine V_aldn0 a_X10_buyShares_17 ?_
  refine V_fin a_X10_buyShares_18 f_X10_61 rfl hW ?_
  refine V_ildn1 a_X10_buyShares_21 ?_
  refine V_ildn2 a_X10_buyShares_22 ?_
  refine V_v2R a_X10_buyShares_23 c_X10_158 rh ?_
  refine V_ildn3 a_X10_buyShares_26 ?_
  refine V_iadd a_X10_buyShares_27 ?_
  refine V_ldc a_X10_buyShares_28 q_X10_162 ?_
  refine V_icmp_le_t a_X10_buyShares_30 (by omega) (by omega) ?_
  refine V_aldn0 a_X10_buyShares_43 ?_
  refine V_fin a_X10_buyShares_44 f_X10_47 rfl hW ?_
  refine V_aldn0 a_X10_buyShares_47 ?_
  refine V_fin a_X10_buyShares_48 f_X10_61 rfl hW ?_
  refine V_v1PV a_X10_buyShares_51 c_X10_120 rk (fun τ hτ => ?_)
  skip
  obtain ⟨f1, cl1, hs1⟩ := hτ
  have hW := cl1.2.1
  have ro := R_Ctrade cl1 h1.1 h1.2 (show -99999 ≤ q ∧ q ≤ 99999 by omega) hinv
  refine V_aldn0 a_X10_buyShares_54 ?_
  refine V_fin a_X10_buyShares_55 f_X10_33 rfl hW ?_
  refine V_aldn0 a_X10_buyShares_58 ?_
  refine V_fin a_X10_buyShares_59 f_X10_61 rfl hW ?_
  refine V_ildn1 a_X10_buyShares_62 ?_
  refine V_ildn2 a_X10_buyShares_63 ?_
  refine V_ildn3 a_X10_buyShares_64 ?_
  refine V_v4PR a_X10_buyShares_65 c_X10_165 ro (fun τ2 hτ2 => ?_)
  exact V_iret a_X10_buyShares_68 (⟨rfl, h.cmd f1 hs1 hτ2.1 hτ2.2 (Int.le_refl _) hc.1⟩)
theorem X_buyShares1 {l c q : Int} (h : CIv D σ s) (il : iR l) (ic : iR c) (iq : iR q) (hk : buyC s.1 l c q ≠ 0) : Tr m_X10_buyShares 9 1 6 [vR (some (10, 0)), vI l, vI c, vI q] σ (xE (buyC s.1 l c q)) σ := by
  have hc := h.1
  have hW := hc.2.1
  have hI := hc.2.2.2.2
  have hn := hI.n
  have rf := R_quantityFault hc il ic iq
  have qb := qf_bd (A := s.1) (l := l) (s := c) (q := q)
  rw [buyC_q] at hk ⊢
  show V _ 9 1 6 0 [some (vR (some (10, 0))), some (vI l), some (vI c), some (vI q)] [] σ _
  by_cases hq : qfC s.1 l c q = 0
  · rw [if_neg (fun z => z hq)] at hk ⊢
    have h3 : s.1 (49 + 4 * l + c) + q > 99999 := by
      apply Classical.byContradiction
      intro z
      rw [if_neg z] at hk
      exact hk rfl
    rw [if_pos h3]
    rw [hq] at rf
    obtain ⟨h1, h2⟩ := qf_0 hq
    have hh := hI.held (l := l) (s := c) h1.1.1 (by omega) h1.2.1 (by omega)
    have rh := R_heldBy (i := 0) (l := l) (s := c) hW (by omega) (by omega) (hc.2.2.1.held h1.1.1 (by omega) h1.2.1 (by omega))
    refine V_aldn0 a_X10_buyShares_0 ?_
    refine V_fin a_X10_buyShares_1 f_X10_33 rfl hW ?_
    refine V_aldn0 a_X10_buyShares_4 ?_
    refine V_fin a_X10_buyShares_5 f_X10_61 rfl hW ?_
    refine V_ildn1 a_X10_buyShares_8 ?_
    refine V_ildn2 a_X10_buyShares_9 ?_
    refine V_ildn3 a_X10_buyShares_10 ?_
    refine V_v4R a_X10_buyShares_11 c_X10_155 rf ?_
    refine V_s1V a_X10_buyShares_14 c_X10_117 R_refuse0 ?_
    refine V_aldn0 a_X10_buyShares_17 ?_
    refine V_fin a_X10_buyShares_18 f_X10_61 rfl hW ?_
    refine V_ildn1 a_X10_buyShares_21 ?_
    refine V_ildn2 a_X10_buyShares_22 ?_
    refine V_v2R a_X10_buyShares_23 c_X10_158 rh ?_
    refine V_ildn3 a_X10_buyShares_26 ?_
    refine V_iadd a_X10_buyShares_27 ?_
    refine V_ldc a_X10_buyShares_28 q_X10_162 ?_
    refine V_icmp_le_f a_X10_buyShares_30 (by omega) (by omega) ?_
    exact V_throw (cls := xISE) (wide := false) rfl a_X10_buyShares_33 a_X10_buyShares_36 a_X10_buyShares_37 a_X10_buyShares_39 a_X10_buyShares_42 xf_ISE kl_X10_72 xi_ISE sr_X10_163 xa_ISE xg_ISE (by omega) (by exact Nat.le_of_ble_eq_true rfl) (⟨rfl, rfl⟩)
  · rw [if_pos hq]
    have rx := R_refuse (σ := σ) (k := qfC s.1 l c q) (by omega)
    refine V_aldn0 a_X10_buyShares_0 ?_
    refine V_fin a_X10_buyShares_1 f_X10_33 rfl hW ?_
    refine V_aldn0 a_X10_buyShares_4 ?_
    refine V_fin a_X10_buyShares_5 f_X10_61 rfl hW ?_
    refine V_ildn1 a_X10_buyShares_8 ?_
    refine V_ildn2 a_X10_buyShares_9 ?_
    refine V_ildn3 a_X10_buyShares_10 ?_
    refine V_v4R a_X10_buyShares_11 c_X10_155 rf ?_
    exact V_s1Q a_X10_buyShares_14 c_X10_117 (rx) (fun v τ hq => by cases hq.1) (fun E τ hq => by obtain ⟨h1, hq⟩ := hq; cases h1; exact ⟨rfl, hq⟩)
theorem X_sellShares0 {l c q : Int} (h : CIv D σ s) (il : iR l) (ic : iR c) (iq : iR q) (hk : selC s.1 l c q = 0) : Cv m_X10_sellShares 9 61 419 [vR (some (10, 0)), vI l, vI c, vI q] σ (some (vI (s.1 (49 + 4 * l + c) + -q))) (QCv D (psh s (trdA s.1 l c (-q))) σ) := by
  have hc := h.1
  have hW := hc.2.1
  have hI := hc.2.2.2.2
  have hn := hI.n
  rw [selC_q] at hk
  have hq : qfC s.1 l c q = 0 := by
    apply Classical.byContradiction
    intro z
    rw [if_pos z] at hk
    exact z hk
  rw [if_neg (fun z => z hq)] at hk
  have h3 : ¬ s.1 (49 + 4 * l + c) - lentA s.1 l c < q := fun z => by
    rw [if_pos z] at hk
    omega
  obtain ⟨h1, h2⟩ := qf_0 hq
  have rf := R_quantityFault hc il ic iq
  rw [hq] at rf
  have hh := hI.held (l := l) (s := c) h1.1.1 (by omega) h1.2.1 (by omega)
  have rh := R_heldBy (i := 0) (l := l) (s := c) hW (by omega) (by omega) (hc.2.2.1.held h1.1.1 (by omega) h1.2.1 (by omega))
  have rl := R_ClentBy (l := l) (s := c) hc (by omega) ic
  have rk := R_keep hc h.2.2.2.1
  have hl := lent_bd hI (l := l) (s := c) h1.1.1 (by omega) h1.2.1 (by omega)
  have hlt := hI.lent (l := l) (s := c) h1.1.1 (by omega) h1.2.1 (by omega)
  have hinv := trd_inv (q := -q) hI (show 0 ≤ l ∧ l < 6 by omega) (show 0 ≤ c ∧ c < 4 by omega) (by omega)
  show V _ 9 61 419 0 [some (vR (some (10, 0))), some (vI l), some (vI c), some (vI q)] [] σ _
  refine V_aldn0 a_X10_sellShares_0 ?_
  refine V_fin a_X10_sellShares_1 f_X10_33 rfl hW ?_
  refine V_aldn0 a_X10_sellShares_4 ?_
  refine V_fin a_X10_sellShares_5 f_X10_61 rfl hW ?_
  refine V_ildn1 a_X10_sellShares_8 ?_
  refine V_ildn2 a_X10_sellShares_9 ?_
  refine V_ildn3 a_X10_sellShares_10 ?_
  refine V_v4R a_X10_sellShares_11 c_X10_155 rf ?_
  refine V_s1V a_X10_sellShares_14 c_X10_117 R_refuse0 ?_
  refine V_aldn0 a_X10_sellShares_17 ?_
  refine V_fin a_X10_sellShares_18 f_X10_61 rfl hW ?_
  refine V_ildn1 a_X10_sellShares_21 ?_
  refine V_ildn2 a_X10_sellShares_22 ?_
  refine V_v2R a_X10_sellShares_23 c_X10_158 rh ?_
  refine V_aldn0 a_X10_sellShares_26 ?_
  refine V_fin a_X10_sellShares_27 f_X10_61 rfl hW ?_
  refine V_ildn1 a_X10_sellShares_30 ?_
  refine V_ildn2 a_X10_sellShares_31 ?_
  refine V_v2R a_X10_sellShares_32 c_X10_168 rl ?_
  refine V_isub a_X10_sellShares_35 ?_
  refine V_ildn3 a_X10_sellShares_36 ?_
  refine V_icmp_ge_t a_X10_sellShares_37 (by omega) (by omega) ?_
  refine V_aldn0 a_X10_sellShares_50 ?_
  refine V_fin a_X10_sellShares_51 f_X10_47 rfl hW ?_
  refine V_aldn0 a_X10_sellShares_54 ?_
  refine V_fin a_X10_sellShares_55 f_X10_61 rfl hW ?_
  refine V_v1PV a_X10_sellShares_58 c_X10_120 rk (fun τ hτ => ?_)
  skip
  obtain ⟨f1, cl1, hs1⟩ := hτ
  have hW := cl1.2.1
  have ro := R_Ctrade cl1 h1.1 h1.2 (show -99999 ≤ -q ∧ -q ≤ 99999 by omega) hinv
  refine V_aldn0 a_X10_sellShares_61 ?_
  refine V_fin a_X10_sellShares_62 f_X10_33 rfl hW ?_
  refine V_aldn0 a_X10_sellShares_65 ?_
  refine V_fin a_X10_sellShares_66 f_X10_61 rfl hW ?_
  refine V_ildn1 a_X10_sellShares_69 ?_
  refine V_ildn2 a_X10_sellShares_70 ?_
  refine V_ildn3 a_X10_sellShares_71 ?_
  refine V_ineg a_X10_sellShares_72 ?_
  refine V_v4PR a_X10_sellShares_73 c_X10_165 ro (fun τ2 hτ2 => ?_)
  exact V_iret a_X10_sellShares_76 (⟨rfl, h.cmd f1 hs1 hτ2.1 hτ2.2 (Int.le_refl _) hc.1⟩)
theorem X_sellShares1 {l c q : Int} (h : CIv D σ s) (il : iR l) (ic : iR c) (iq : iR q) (hk : selC s.1 l c q ≠ 0) : Tr m_X10_sellShares 9 1 6 [vR (some (10, 0)), vI l, vI c, vI q] σ (xE (selC s.1 l c q)) σ := by
  have hc := h.1
  have hW := hc.2.1
  have hI := hc.2.2.2.2
  have hn := hI.n
  have rf := R_quantityFault hc il ic iq
  have qb := qf_bd (A := s.1) (l := l) (s := c) (q := q)
  rw [selC_q] at hk ⊢
  show V _ 9 1 6 0 [some (vR (some (10, 0))), some (vI l), some (vI c), some (vI q)] [] σ _
  by_cases hq : qfC s.1 l c q = 0
  · rw [if_neg (fun z => z hq)] at hk ⊢
    have h3 : s.1 (49 + 4 * l + c) - lentA s.1 l c < q := by
      apply Classical.byContradiction
      intro z
      rw [if_neg z] at hk
      exact hk rfl
    rw [if_pos h3]
    rw [hq] at rf
    obtain ⟨h1, h2⟩ := qf_0 hq
    have hh := hI.held (l := l) (s := c) h1.1.1 (by omega) h1.2.1 (by omega)
    have hl := lent_bd hI (l := l) (s := c) h1.1.1 (by omega) h1.2.1 (by omega)
    have rh := R_heldBy (i := 0) (l := l) (s := c) hW (by omega) (by omega) (hc.2.2.1.held h1.1.1 (by omega) h1.2.1 (by omega))
    have rl := R_ClentBy (l := l) (s := c) hc (by omega) ic
    refine V_aldn0 a_X10_sellShares_0 ?_
    refine V_fin a_X10_sellShares_1 f_X10_33 rfl hW ?_
    refine V_aldn0 a_X10_sellShares_4 ?_
    refine V_fin a_X10_sellShares_5 f_X10_61 rfl hW ?_
    refine V_ildn1 a_X10_sellShares_8 ?_
    refine V_ildn2 a_X10_sellShares_9 ?_
    refine V_ildn3 a_X10_sellShares_10 ?_
    refine V_v4R a_X10_sellShares_11 c_X10_155 rf ?_
    refine V_s1V a_X10_sellShares_14 c_X10_117 R_refuse0 ?_
    refine V_aldn0 a_X10_sellShares_17 ?_
    refine V_fin a_X10_sellShares_18 f_X10_61 rfl hW ?_
    refine V_ildn1 a_X10_sellShares_21 ?_
    refine V_ildn2 a_X10_sellShares_22 ?_
    refine V_v2R a_X10_sellShares_23 c_X10_158 rh ?_
    refine V_aldn0 a_X10_sellShares_26 ?_
    refine V_fin a_X10_sellShares_27 f_X10_61 rfl hW ?_
    refine V_ildn1 a_X10_sellShares_30 ?_
    refine V_ildn2 a_X10_sellShares_31 ?_
    refine V_v2R a_X10_sellShares_32 c_X10_168 rl ?_
    refine V_isub a_X10_sellShares_35 ?_
    refine V_ildn3 a_X10_sellShares_36 ?_
    refine V_icmp_ge_f a_X10_sellShares_37 (by omega) (by omega) ?_
    exact V_throw (cls := xISE) (wide := false) rfl a_X10_sellShares_40 a_X10_sellShares_43 a_X10_sellShares_44 a_X10_sellShares_46 a_X10_sellShares_49 xf_ISE kl_X10_72 xi_ISE sr_X10_171 xa_ISE xg_ISE (by omega) (by exact Nat.le_of_ble_eq_true rfl) (⟨rfl, rfl⟩)
  · rw [if_pos hq]
    have rx := R_refuse (σ := σ) (k := qfC s.1 l c q) (by omega)
    refine V_aldn0 a_X10_sellShares_0 ?_
    refine V_fin a_X10_sellShares_1 f_X10_33 rfl hW ?_
    refine V_aldn0 a_X10_sellShares_4 ?_
    refine V_fin a_X10_sellShares_5 f_X10_61 rfl hW ?_
    refine V_ildn1 a_X10_sellShares_8 ?_
    refine V_ildn2 a_X10_sellShares_9 ?_
    refine V_ildn3 a_X10_sellShares_10 ?_
    refine V_v4R a_X10_sellShares_11 c_X10_155 rf ?_
    exact V_s1Q a_X10_sellShares_14 c_X10_117 (rx) (fun v τ hq => by cases hq.1) (fun E τ hq => by obtain ⟨h1, hq⟩ := hq; cases h1; exact ⟨rfl, hq⟩)
theorem fp_1 {t : Nat} {k v : Int} (ht : 36 ≤ t ∧ t ≤ 46) : Fp 0 σ (σ.setI t 0 k v) := (FX.setI (S := fun t' n => t' = t ∧ n = 0) ⟨rfl, rfl⟩).fp (fun t' n z => by unfold plS; omega)
theorem X_setPrice0 {c v : Int} (h : CIv D σ s) (hk : (0 ≤ c ∧ c < s.1 0) ∧ 1 ≤ v ∧ v ≤ 9999) : Cv m_X10_setPrice 9 61 419 [vR (some (10, 0)), vI c, vI v] σ (some (vI (s.1 (15 + c)))) (QCv D (psh s (upI s.1 (15 + c) v)) σ) := by
  have hc := h.1
  have hW := hc.2.1
  have hI := hc.2.2.2.2
  have hn := hI.n
  have rf := R_priceFault (s := c) (a := v) hc (by unfold iR; omega) (by unfold iR; omega)
  rw [dvdC_0.mpr hk] at rf
  have rk := R_keep hc h.2.2.2.1
  have hinv := inv_set (j := 15 + c) (v := v) hI (Or.inl ⟨c, rfl, by omega, by omega⟩)
  show V _ 9 61 419 0 [some (vR (some (10, 0))), some (vI c), some (vI v), none] [] σ _
  refine V_aldn0 a_X10_setPrice_0 ?_
  refine V_fin a_X10_setPrice_1 f_X10_33 rfl hW ?_
  refine V_aldn0 a_X10_setPrice_4 ?_
  refine V_fin a_X10_setPrice_5 f_X10_61 rfl hW ?_
  refine V_ildn1 a_X10_setPrice_8 ?_
  refine V_ildn2 a_X10_setPrice_9 ?_
  refine V_v3R a_X10_setPrice_10 c_X10_173 rf ?_
  refine V_s1V a_X10_setPrice_13 c_X10_117 R_refuse0 ?_
  refine V_aldn0 a_X10_setPrice_16 ?_
  refine V_fin a_X10_setPrice_17 f_X10_47 rfl hW ?_
  refine V_aldn0 a_X10_setPrice_20 ?_
  refine V_fin a_X10_setPrice_21 f_X10_61 rfl hW ?_
  refine V_v1PV a_X10_setPrice_24 c_X10_120 rk (fun τ hτ => ?_)
  skip
  obtain ⟨f1, cl1, hs1⟩ := hτ
  have hW := cl1.2.1
  have g37 := (cl1.2.2.1.sec hk.1.1 hk.1.2).1
  have rp := rel_pt (v := v) cl1.2.2.1 (by omega) (t := 37) (o := 15) (x := c) (Or.inl ⟨rfl, rfl, by omega, by omega⟩)
  have cl2 : Cl D (τ.setI 37 0 c v) 0 (upI s.1 (15 + c) v) := ⟨hc.1, hW, rp, cl1.2.2.2.1, hinv⟩
  refine V_aldn0 a_X10_setPrice_27 ?_
  refine V_fin a_X10_setPrice_28 f_X10_61 rfl hW ?_
  refine V_fin a_X10_setPrice_31 f_X10_176 rfl hW ?_
  refine V_ildn1 a_X10_setPrice_34 ?_
  refine V_ialdE a_X10_setPrice_35 rfl (by omega) g37 ?_
  refine V_istn3 a_X10_setPrice_36 ?_
  refine V_aldn0 a_X10_setPrice_37 ?_
  refine V_fin a_X10_setPrice_38 f_X10_61 rfl hW ?_
  refine V_fin a_X10_setPrice_41 f_X10_176 rfl hW ?_
  refine V_ildn1 a_X10_setPrice_44 ?_
  refine V_ildn2 a_X10_setPrice_45 ?_
  refine V_iast a_X10_setPrice_46 rfl (by omega) ?_
  refine V_ildn3 a_X10_setPrice_47 ?_
  exact V_iret a_X10_setPrice_48 (⟨rfl, h.cmd f1 hs1 (fp_1 (by decide)) cl2 (Int.le_refl _) hc.1⟩)
theorem X_setPrice1 {c v : Int} (h : CIv D σ s) (ic : iR c) (iv : iR v) (hk : dvdC s.1 c v ≠ 0) : Tr m_X10_setPrice 9 1 6 [vR (some (10, 0)), vI c, vI v] σ (xE (dvdC s.1 c v)) σ := by
  have hc := h.1
  have hW := hc.2.1
  have rf := R_priceFault hc ic iv
  have rb := dvdC_bd (A := s.1) (b := c) (q := v)
  have rx := R_refuse (σ := σ) (k := dvdC s.1 c v) (by omega)
  show V _ 9 1 6 0 [some (vR (some (10, 0))), some (vI c), some (vI v), none] [] σ _
  refine V_aldn0 a_X10_setPrice_0 ?_
  refine V_fin a_X10_setPrice_1 f_X10_33 rfl hW ?_
  refine V_aldn0 a_X10_setPrice_4 ?_
  refine V_fin a_X10_setPrice_5 f_X10_61 rfl hW ?_
  refine V_ildn1 a_X10_setPrice_8 ?_
  refine V_ildn2 a_X10_setPrice_9 ?_
  refine V_v3R a_X10_setPrice_10 c_X10_173 rf ?_
  exact V_s1Q a_X10_setPrice_13 c_X10_117 (rx) (fun v τ hq => by cases hq.1) (fun E τ hq => by obtain ⟨h1, hq⟩ := hq; cases h1; exact ⟨rfl, hq⟩)
theorem X_setRate0 {c v : Int} (h : CIv D σ s) (hk : (0 ≤ c ∧ c < s.1 0) ∧ 0 ≤ v ∧ v ≤ 9999) : Cv m_X10_setRate 9 61 419 [vR (some (10, 0)), vI c, vI v] σ (some (vI (s.1 (19 + c)))) (QCv D (psh s (upI s.1 (19 + c) v)) σ) := by
  have hc := h.1
  have hW := hc.2.1
  have hI := hc.2.2.2.2
  have hn := hI.n
  have r1 := R_needSec0 hc hk.1
  have r2 := R_needRange0 (σ := σ) (x := v) (lo := 0) (hi := 9999) hk.2 (by decide) (by decide)
  have rk := R_keep hc h.2.2.2.1
  have hinv := inv_set (j := 19 + c) (v := v) hI (Or.inr (Or.inl ⟨c, rfl, by omega, by omega⟩))
  show V _ 9 61 419 0 [some (vR (some (10, 0))), some (vI c), some (vI v), none] [] σ _
  refine V_aldn0 a_X10_setRate_0 ?_
  refine V_ildn1 a_X10_setRate_1 ?_
  refine V_v1V a_X10_setRate_2 c_X10_180 r1 ?_
  refine V_ildn2 a_X10_setRate_5 ?_
  refine V_iconst a_X10_setRate_6 ?_
  refine V_sipush a_X10_setRate_7 (by decide) ?_
  refine V_s3V a_X10_setRate_10 c_X10_183 r2 ?_
  refine V_aldn0 a_X10_setRate_13 ?_
  refine V_fin a_X10_setRate_14 f_X10_47 rfl hW ?_
  refine V_aldn0 a_X10_setRate_17 ?_
  refine V_fin a_X10_setRate_18 f_X10_61 rfl hW ?_
  refine V_v1PV a_X10_setRate_21 c_X10_120 rk (fun τ hτ => ?_)
  skip
  obtain ⟨f1, cl1, hs1⟩ := hτ
  have hW := cl1.2.1
  have g38 := (cl1.2.2.1.sec hk.1.1 hk.1.2).2
  have rp := rel_pt (v := v) cl1.2.2.1 (by omega) (t := 38) (o := 19) (x := c) (Or.inr (Or.inl ⟨rfl, rfl, by omega, by omega⟩))
  have cl2 : Cl D (τ.setI 38 0 c v) 0 (upI s.1 (19 + c) v) := ⟨hc.1, hW, rp, cl1.2.2.2.1, hinv⟩
  refine V_aldn0 a_X10_setRate_24 ?_
  refine V_fin a_X10_setRate_25 f_X10_61 rfl hW ?_
  refine V_fin a_X10_setRate_28 f_X10_187 rfl hW ?_
  refine V_ildn1 a_X10_setRate_31 ?_
  refine V_ialdE a_X10_setRate_32 rfl (by omega) g38 ?_
  refine V_istn3 a_X10_setRate_33 ?_
  refine V_aldn0 a_X10_setRate_34 ?_
  refine V_fin a_X10_setRate_35 f_X10_61 rfl hW ?_
  refine V_fin a_X10_setRate_38 f_X10_187 rfl hW ?_
  refine V_ildn1 a_X10_setRate_41 ?_
  refine V_ildn2 a_X10_setRate_42 ?_
  refine V_iast a_X10_setRate_43 rfl (by omega) ?_
  refine V_ildn3 a_X10_setRate_44 ?_
  exact V_iret a_X10_setRate_45 (⟨rfl, h.cmd f1 hs1 (fp_1 (by decide)) cl2 (Int.le_refl _) hc.1⟩)
theorem X_setRate1 {c v : Int} (h : CIv D σ s) (ic : iR c) (hk : ¬ (0 ≤ c ∧ c < s.1 0)) : Tr m_X10_setRate 9 1 6 [vR (some (10, 0)), vI c, vI v] σ xIOB σ := by
  have r1 := R_needSec1 h.1 hk ic
  show V _ 9 1 6 0 [some (vR (some (10, 0))), some (vI c), some (vI v), none] [] σ _
  refine V_aldn0 a_X10_setRate_0 ?_
  refine V_ildn1 a_X10_setRate_1 ?_
  exact V_v1Q a_X10_setRate_2 c_X10_180 (r1) (fun v τ hq => by cases hq.1) (fun E τ hq => by obtain ⟨h1, hq⟩ := hq; cases h1; exact ⟨rfl, hq⟩)
theorem X_setRate2 {c v : Int} (h : CIv D σ s) (iv : iR v) (hk : 0 ≤ c ∧ c < s.1 0) (hv : ¬ (0 ≤ v ∧ v ≤ 9999)) : Tr m_X10_setRate 9 1 6 [vR (some (10, 0)), vI c, vI v] σ xIAE σ := by
  have r1 := R_needSec0 h.1 hk
  have r2 := R_needRange1 (σ := σ) (x := v) (lo := 0) (hi := 9999) hv iv (by decide) (by decide)
  show V _ 9 1 6 0 [some (vR (some (10, 0))), some (vI c), some (vI v), none] [] σ _
  refine V_aldn0 a_X10_setRate_0 ?_
  refine V_ildn1 a_X10_setRate_1 ?_
  refine V_v1V a_X10_setRate_2 c_X10_180 r1 ?_
  refine V_ildn2 a_X10_setRate_5 ?_
  refine V_iconst a_X10_setRate_6 ?_
  refine V_sipush a_X10_setRate_7 (by decide) ?_
  exact V_s3Q a_X10_setRate_10 c_X10_183 (r2) (fun v τ hq => by cases hq.1) (fun E τ hq => by obtain ⟨h1, hq⟩ := hq; cases h1; exact ⟨rfl, hq⟩)
theorem X_setLimit0 {c v : Int} (h : CIv D σ s) (hk : (0 ≤ c ∧ c < s.1 1) ∧ 0 ≤ v ∧ v ≤ 100) : Cv m_X10_setLimit 9 61 419 [vR (some (10, 0)), vI c, vI v] σ (some (vI (s.1 (33 + c)))) (QCv D (psh s (upI s.1 (33 + c) v)) σ) := by
  have hc := h.1
  have hW := hc.2.1
  have hI := hc.2.2.2.2
  have hn := hI.n
  have r1 := R_needLen0 hc hk.1
  have r2 := R_needRange0 (σ := σ) (x := v) (lo := 0) (hi := 100) hk.2 (by decide) (by decide)
  have rk := R_keep hc h.2.2.2.1
  have hinv := inv_set (j := 33 + c) (v := v) hI (Or.inr (Or.inr (Or.inl ⟨c, rfl, by omega, by omega⟩)))
  show V _ 9 61 419 0 [some (vR (some (10, 0))), some (vI c), some (vI v), none] [] σ _
  refine V_aldn0 a_X10_setLimit_0 ?_
  refine V_ildn1 a_X10_setLimit_1 ?_
  refine V_v1V a_X10_setLimit_2 c_X10_190 r1 ?_
  refine V_ildn2 a_X10_setLimit_5 ?_
  refine V_iconst a_X10_setLimit_6 ?_
  refine V_bipush a_X10_setLimit_7 (by decide) ?_
  refine V_s3V a_X10_setLimit_9 c_X10_183 r2 ?_
  refine V_aldn0 a_X10_setLimit_12 ?_
  refine V_fin a_X10_setLimit_13 f_X10_47 rfl hW ?_
  refine V_aldn0 a_X10_setLimit_16 ?_
  refine V_fin a_X10_setLimit_17 f_X10_61 rfl hW ?_
  refine V_v1PV a_X10_setLimit_20 c_X10_120 rk (fun τ hτ => ?_)
  skip
  obtain ⟨f1, cl1, hs1⟩ := hτ
  have hW := cl1.2.1
  have g41 := (cl1.2.2.1.lend hk.1.1 hk.1.2).2.1
  have rp := rel_pt (v := v) cl1.2.2.1 (by omega) (t := 41) (o := 33) (x := c) (Or.inr (Or.inr (Or.inr (Or.inr (Or.inl ⟨rfl, rfl, by omega, by omega⟩)))))
  have cl2 : Cl D (τ.setI 41 0 c v) 0 (upI s.1 (33 + c) v) := ⟨hc.1, hW, rp, cl1.2.2.2.1, hinv⟩
  refine V_aldn0 a_X10_setLimit_23 ?_
  refine V_fin a_X10_setLimit_24 f_X10_61 rfl hW ?_
  refine V_fin a_X10_setLimit_27 f_X10_193 rfl hW ?_
  refine V_ildn1 a_X10_setLimit_30 ?_
  refine V_ialdE a_X10_setLimit_31 rfl (by omega) g41 ?_
  refine V_istn3 a_X10_setLimit_32 ?_
  refine V_aldn0 a_X10_setLimit_33 ?_
  refine V_fin a_X10_setLimit_34 f_X10_61 rfl hW ?_
  refine V_fin a_X10_setLimit_37 f_X10_193 rfl hW ?_
  refine V_ildn1 a_X10_setLimit_40 ?_
  refine V_ildn2 a_X10_setLimit_41 ?_
  refine V_iast a_X10_setLimit_42 rfl (by omega) ?_
  refine V_ildn3 a_X10_setLimit_43 ?_
  exact V_iret a_X10_setLimit_44 (⟨rfl, h.cmd f1 hs1 (fp_1 (by decide)) cl2 (Int.le_refl _) hc.1⟩)
theorem X_setLimit1 {c v : Int} (h : CIv D σ s) (ic : iR c) (hk : ¬ (0 ≤ c ∧ c < s.1 1)) : Tr m_X10_setLimit 9 1 6 [vR (some (10, 0)), vI c, vI v] σ xIOB σ := by
  have r1 := R_needLen1 h.1 hk ic
  show V _ 9 1 6 0 [some (vR (some (10, 0))), some (vI c), some (vI v), none] [] σ _
  refine V_aldn0 a_X10_setLimit_0 ?_
  refine V_ildn1 a_X10_setLimit_1 ?_
  exact V_v1Q a_X10_setLimit_2 c_X10_190 (r1) (fun v τ hq => by cases hq.1) (fun E τ hq => by obtain ⟨h1, hq⟩ := hq; cases h1; exact ⟨rfl, hq⟩)
theorem X_setLimit2 {c v : Int} (h : CIv D σ s) (iv : iR v) (hk : 0 ≤ c ∧ c < s.1 1) (hv : ¬ (0 ≤ v ∧ v ≤ 100)) : Tr m_X10_setLimit 9 1 6 [vR (some (10, 0)), vI c, vI v] σ xIAE σ := by
  have r1 := R_needLen0 h.1 hk
  have r2 := R_needRange1 (σ := σ) (x := v) (lo := 0) (hi := 100) hv iv (by decide) (by decide)
  show V _ 9 1 6 0 [some (vR (some (10, 0))), some (vI c), some (vI v), none] [] σ _
  refine V_aldn0 a_X10_setLimit_0 ?_
  refine V_ildn1 a_X10_setLimit_1 ?_
  refine V_v1V a_X10_setLimit_2 c_X10_190 r1 ?_
  refine V_ildn2 a_X10_setLimit_5 ?_
  refine V_iconst a_X10_setLimit_6 ?_
  refine V_bipush a_X10_setLimit_7 (by decide) ?_
  exact V_s3Q a_X10_setLimit_9 c_X10_183 (r2) (fun v τ hq => by cases hq.1) (fun E τ hq => by obtain ⟨h1, hq⟩ := hq; cases h1; exact ⟨rfl, hq⟩)
theorem X_setPolicy0 {v : Int} (h : CIv D σ s) (hk : 0 ≤ v ∧ v ≤ 2) : Cv m_X10_setPolicy 9 61 419 [vR (some (10, 0)), vI v] σ (some (vI (s.1 5))) (QCv D (psh s (upI s.1 5 v)) σ) := by
  have hc := h.1
  have hW := hc.2.1
  have hI := hc.2.2.2.2
  have hn := hI.n
  have r2 := R_needRange0 (σ := σ) (x := v) (lo := 0) (hi := 2) hk (by decide) (by decide)
  have rk := R_keep hc h.2.2.2.1
  have hinv := pol_inv hI hk
  show V _ 9 61 419 0 [some (vR (some (10, 0))), some (vI v), none] [] σ _
  refine V_ildn1 a_X10_setPolicy_0 ?_
  refine V_iconst a_X10_setPolicy_1 ?_
  refine V_iconst a_X10_setPolicy_2 ?_
  refine V_s3V a_X10_setPolicy_3 c_X10_183 r2 ?_
  refine V_aldn0 a_X10_setPolicy_6 ?_
  refine V_fin a_X10_setPolicy_7 f_X10_47 rfl hW ?_
  refine V_aldn0 a_X10_setPolicy_10 ?_
  refine V_fin a_X10_setPolicy_11 f_X10_61 rfl hW ?_
  refine V_v1PV a_X10_setPolicy_14 c_X10_120 rk (fun τ hτ => ?_)
  skip
  obtain ⟨f1, cl1, hs1⟩ := hτ
  have hW := cl1.2.1
  have n6 := cl1.2.2.1.1.2.2.2.2.2.2.1
  have rp := cl1.2.2.1.setN (v := v) (p := 6) (c := 5) (by omega) (Or.inr (Or.inl ⟨rfl, rfl⟩))
  have cl2 : Cl D (τ.setI 36 0 6 v) 0 (upI s.1 5 v) := ⟨hc.1, hW, rp, cl1.2.2.2.1, hinv⟩
  refine V_aldn0 a_X10_setPolicy_17 ?_
  refine V_fin a_X10_setPolicy_18 f_X10_61 rfl hW ?_
  refine V_fin a_X10_setPolicy_21 f_X10_196 rfl hW ?_
  refine V_bipush a_X10_setPolicy_24 (by decide) ?_
  refine V_ialdE a_X10_setPolicy_26 rfl (by omega) n6 ?_
  refine V_istn2 a_X10_setPolicy_27 ?_
  refine V_aldn0 a_X10_setPolicy_28 ?_
  refine V_fin a_X10_setPolicy_29 f_X10_61 rfl hW ?_
  refine V_fin a_X10_setPolicy_32 f_X10_196 rfl hW ?_
  refine V_bipush a_X10_setPolicy_35 (by decide) ?_
  refine V_ildn1 a_X10_setPolicy_37 ?_
  refine V_iast a_X10_setPolicy_38 rfl (by omega) ?_
  refine V_ildn2 a_X10_setPolicy_39 ?_
  exact V_iret a_X10_setPolicy_40 (⟨rfl, h.cmd f1 hs1 (fp_1 (by decide)) cl2 (Int.le_refl _) hc.1⟩)
theorem X_setPolicy1 {v : Int} (iv : iR v) (hv : ¬ (0 ≤ v ∧ v ≤ 2)) : Tr m_X10_setPolicy 9 1 6 [vR (some (10, 0)), vI v] σ xIAE σ := by
  have r2 := R_needRange1 (σ := σ) (x := v) (lo := 0) (hi := 2) hv iv (by decide) (by decide)
  show V _ 9 1 6 0 [some (vR (some (10, 0))), some (vI v), none] [] σ _
  refine V_ildn1 a_X10_setPolicy_0 ?_
  refine V_iconst a_X10_setPolicy_1 ?_
  refine V_iconst a_X10_setPolicy_2 ?_
  exact V_s3Q a_X10_setPolicy_3 c_X10_183 (r2) (fun v τ hq => by cases hq.1) (fun E τ hq => by obtain ⟨h1, hq⟩ := hq; cases h1; exact ⟨rfl, hq⟩)
end Cm2

