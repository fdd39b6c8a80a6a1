/-- the model holds A -/
def Md (D : Int) (σ : Hp) (A : St) : Prop := D ≤ 20000000 ∧ WF σ ∧ σ.J 50 0 = A ∧ Inv D A
abbrev Hp.th (σ : Hp) (c : Int) : Hp := σ.setI 11 0 6 c
theorem th_th {σ : Hp} {a c : Int} : (σ.th a).th c = σ.th c := setI_setI
section Mo1
variable {D : Int} {σ : Hp} {A : St}
theorem R_thrown : Rt m_X11_thrown 0 0 0 [vR (some (11, 0))] σ (some (vI (σ.I 11 0 6))) σ := by
  show V _ 0 0 0 0 [some (vR (some (11, 0)))] [] σ _
  refine V_aldn0 a_X11_thrown_0 ?_
  refine V_getI a_X11_thrown_1 f_X11_58 rfl ?_
  exact V_iret a_X11_thrown_4 (⟨rfl, rfl⟩)
theorem R_no {c : Int} : Rt m_X11_no 0 0 0 [vR (some (11, 0)), vI c] σ (some (vI 0)) (σ.th c) := by
  show V _ 0 0 0 0 [some (vR (some (11, 0))), some (vI c)] [] σ _
  refine V_aldn0 a_X11_no_0 ?_
  refine V_ildn1 a_X11_no_1 ?_
  refine V_putI a_X11_no_2 f_X11_58 rfl ?_
  refine V_iconst a_X11_no_5 ?_
  exact V_iret a_X11_no_6 (⟨rfl, rfl⟩)
theorem R_fails {b c : Int} (hb : b = 0 ∨ b = 1) : Rt m_X11_fails 0 0 0 [vR (some (11, 0)), vI b, vI c] σ (some (vI b)) (σ.th (if b = 0 then 0 else c)) := by
  show V _ 0 0 0 0 [some (vR (some (11, 0))), some (vI b), some (vI c)] [] σ _
  refine V_aldn0 a_X11_fails_0 ?_
  refine V_ildn1 a_X11_fails_1 ?_
  refine V_if_eq a_X11_fails_2 (by omega) (fun hc2 => ?_) (fun hc2 => ?_)
  · refine V_iconst a_X11_fails_9 ?_
    refine V_putI a_X11_fails_10 f_X11_58 rfl ?_
    refine V_ildn1 a_X11_fails_13 ?_
    exact V_zret a_X11_fails_14 (by omega) (⟨rfl, by first | rw [if_pos (by omega)] | rw [if_neg (by omega)]⟩)
  · refine V_ildn2 a_X11_fails_5 ?_
    refine V_goto a_X11_fails_6 ?_
    refine V_putI a_X11_fails_10 f_X11_58 rfl ?_
    refine V_ildn1 a_X11_fails_13 ?_
    exact V_zret a_X11_fails_14 (by omega) (⟨rfl, by first | rw [if_pos (by omega)] | rw [if_neg (by omega)]⟩)
theorem R_fails0 {c : Int} : Rt m_X11_fails 0 0 0 [vR (some (11, 0)), vI 0, vI c] σ (some (vI 0)) (σ.th 0) := R_fails (Or.inl rfl)
theorem R_fails1 {c : Int} : Rt m_X11_fails 0 0 0 [vR (some (11, 0)), vI 1, vI c] σ (some (vI 1)) (σ.th c) := R_fails (Or.inr rfl)
theorem B_isSecurity {s : Int} (h : Md D σ A) (hs : -2147483648 ≤ s ∧ s < 2147483648) : ∃ b : Int, ((b = 1 ∧ 0 ≤ s ∧ s < A 0) ∨ (b = 0 ∧ ¬ (0 ≤ s ∧ s < A 0))) ∧ Rt m_X11_isSecurity 1 0 0 [vR (some (11, 0)), vI s] σ (some (vI b)) σ := by
  obtain ⟨hD, hW, hA, hI⟩ := h
  have hn := hI.n
  obtain ⟨b, hb, r⟩ := B_in (σ := σ) (v := s) (x := 0) (y := A 0 - 1) (by omega) (by omega) (by omega)
  refine ⟨b, by omega, ?_⟩
  show V _ 1 0 0 0 [some (vR (some (11, 0))), some (vI s)] [] σ _
  refine V_ildn1 a_X11_isSecurity_0 ?_
  refine V_i2l a_X11_isSecurity_1 (by omega) ?_
  refine V_lconst0 a_X11_isSecurity_2 ?_
  refine V_aldn0 a_X11_isSecurity_3 ?_
  refine V_fin a_X11_isSecurity_4 f_X11_7 rfl hW ?_
  refine V_iconst a_X11_isSecurity_7 ?_
  refine V_w a_X11_isSecurity_8 (by omega) hA ?_
  refine V_lconst1 a_X11_isSecurity_9 ?_
  refine V_lsub a_X11_isSecurity_10 ?_
  refine V_s3R a_X11_isSecurity_11 c_X11_61 r ?_
  exact V_zret a_X11_isSecurity_14 (by omega) (⟨rfl, rfl⟩)
theorem B_isLender {l : Int} (h : Md D σ A) (hl : -2147483648 ≤ l ∧ l < 2147483648) : ∃ b : Int, ((b = 1 ∧ 0 ≤ l ∧ l < A 1) ∨ (b = 0 ∧ ¬ (0 ≤ l ∧ l < A 1))) ∧ Rt m_X11_isLender 1 0 0 [vR (some (11, 0)), vI l] σ (some (vI b)) σ := by
  obtain ⟨hD, hW, hA, hI⟩ := h
  have hn := hI.n
  obtain ⟨b, hb, r⟩ := B_in (σ := σ) (v := l) (x := 0) (y := A 1 - 1) (by omega) (by omega) (by omega)
  refine ⟨b, by omega, ?_⟩
  show V _ 1 0 0 0 [some (vR (some (11, 0))), some (vI l)] [] σ _
  refine V_ildn1 a_X11_isLender_0 ?_
  refine V_i2l a_X11_isLender_1 (by omega) ?_
  refine V_lconst0 a_X11_isLender_2 ?_
  refine V_aldn0 a_X11_isLender_3 ?_
  refine V_fin a_X11_isLender_4 f_X11_7 rfl hW ?_
  refine V_iconst a_X11_isLender_7 ?_
  refine V_w a_X11_isLender_8 (by omega) hA ?_
  refine V_lconst1 a_X11_isLender_9 ?_
  refine V_lsub a_X11_isLender_10 ?_
  refine V_s3R a_X11_isLender_11 c_X11_61 r ?_
  exact V_zret a_X11_isLender_14 (by omega) (⟨rfl, rfl⟩)
theorem B_isBorrower {l : Int} (h : Md D σ A) (hl : -2147483648 ≤ l ∧ l < 2147483648) : ∃ b : Int, ((b = 1 ∧ 0 ≤ l ∧ l < A 2) ∨ (b = 0 ∧ ¬ (0 ≤ l ∧ l < A 2))) ∧ Rt m_X11_isBorrower 1 0 0 [vR (some (11, 0)), vI l] σ (some (vI b)) σ := by
  obtain ⟨hD, hW, hA, hI⟩ := h
  have hn := hI.n
  obtain ⟨b, hb, r⟩ := B_in (σ := σ) (v := l) (x := 0) (y := A 2 - 1) (by omega) (by omega) (by omega)
  refine ⟨b, by omega, ?_⟩
  show V _ 1 0 0 0 [some (vR (some (11, 0))), some (vI l)] [] σ _
  refine V_ildn1 a_X11_isBorrower_0 ?_
  refine V_i2l a_X11_isBorrower_1 (by omega) ?_
  refine V_lconst0 a_X11_isBorrower_2 ?_
  refine V_aldn0 a_X11_isBorrower_3 ?_
  refine V_fin a_X11_isBorrower_4 f_X11_7 rfl hW ?_
  refine V_iconst a_X11_isBorrower_7 ?_
  refine V_w a_X11_isBorrower_8 (by omega) hA ?_
  refine V_lconst1 a_X11_isBorrower_9 ?_
  refine V_lsub a_X11_isBorrower_10 ?_
  refine V_s3R a_X11_isBorrower_11 c_X11_61 r ?_
  exact V_zret a_X11_isBorrower_14 (by omega) (⟨rfl, rfl⟩)
theorem B_isQuantity {q : Int} (hq : -2147483648 ≤ q ∧ q < 2147483648) : ∃ b : Int, ((b = 1 ∧ 1 ≤ q ∧ q ≤ 99999) ∨ (b = 0 ∧ ¬ (1 ≤ q ∧ q ≤ 99999))) ∧ Rt m_X11_isQuantity 1 0 0 [vI q] σ (some (vI b)) σ := by
  obtain ⟨b, hb, r⟩ := B_in (σ := σ) (v := q) (x := 1) (y := 99999) (by omega) (by omega) (by omega)
  refine ⟨b, by omega, ?_⟩
  show V _ 1 0 0 0 [some (vI q)] [] σ _
  refine V_ildn0 a_X11_isQuantity_0 ?_
  refine V_i2l a_X11_isQuantity_1 (by omega) ?_
  refine V_lconst1 a_X11_isQuantity_2 ?_
  refine V_ldc2 a_X11_isQuantity_3 q_X11_76 ?_
  refine V_s3R a_X11_isQuantity_6 c_X11_61 r ?_
  exact V_zret a_X11_isQuantity_9 (by omega) (⟨rfl, rfl⟩)
theorem B_isNoHolding {l s : Int} (h : Md D σ A) (hl : -2147483648 ≤ l ∧ l < 2147483648) (hs : -2147483648 ≤ s ∧ s < 2147483648) : ∃ b : Int, ((b = 0 ∧ (0 ≤ l ∧ l < A 1) ∧ 0 ≤ s ∧ s < A 0) ∨ (b = 1 ∧ ¬ ((0 ≤ l ∧ l < A 1) ∧ 0 ≤ s ∧ s < A 0))) ∧ Rt m_X11_isNoHolding 2 0 0 [vR (some (11, 0)), vI l, vI s] σ (some (vI b)) (σ.th b) := by
  obtain ⟨b1, hb1, r1⟩ := B_isLender (l := l) h hl
  obtain ⟨b2, hb2, r2⟩ := B_isSecurity (s := s) h hs
  by_cases hp : (0 ≤ l ∧ l < A 1) ∧ 0 ≤ s ∧ s < A 0
  · refine ⟨0, Or.inl ⟨rfl, hp⟩, ?_⟩
    show V _ 2 0 0 0 [some (vR (some (11, 0))), some (vI l), some (vI s)] [] σ _
    refine V_aldn0 a_X11_isNoHolding_0 ?_
    refine V_aldn0 a_X11_isNoHolding_1 ?_
    refine V_ildn1 a_X11_isNoHolding_2 ?_
    refine V_v1R a_X11_isNoHolding_3 c_X11_65 r1 ?_
    refine V_if_eq_f a_X11_isNoHolding_6 (by omega) (by omega) ?_
    refine V_aldn0 a_X11_isNoHolding_9 ?_
    refine V_ildn2 a_X11_isNoHolding_10 ?_
    refine V_v1R a_X11_isNoHolding_11 c_X11_69 r2 ?_
    refine V_if_ne_t a_X11_isNoHolding_14 (by omega) (by omega) ?_
    refine V_iconst a_X11_isNoHolding_21 ?_
    refine V_iconst a_X11_isNoHolding_22 ?_
    refine V_v2R a_X11_isNoHolding_23 c_X11_72 R_fails0 ?_
    exact V_zret a_X11_isNoHolding_26 (by omega) (⟨rfl, rfl⟩)
  · refine ⟨1, Or.inr ⟨rfl, hp⟩, ?_⟩
    show V _ 2 0 0 0 [some (vR (some (11, 0))), some (vI l), some (vI s)] [] σ _
    refine V_aldn0 a_X11_isNoHolding_0 ?_
    refine V_aldn0 a_X11_isNoHolding_1 ?_
    refine V_ildn1 a_X11_isNoHolding_2 ?_
    refine V_v1R a_X11_isNoHolding_3 c_X11_65 r1 ?_
    refine V_if_eq a_X11_isNoHolding_6 (by omega) (fun hc6 => ?_) (fun hc6 => ?_)
    · refine V_iconst a_X11_isNoHolding_17 ?_
      refine V_goto a_X11_isNoHolding_18 ?_
      refine V_iconst a_X11_isNoHolding_22 ?_
      refine V_v2R a_X11_isNoHolding_23 c_X11_72 R_fails1 ?_
      exact V_zret a_X11_isNoHolding_26 (by omega) (⟨rfl, rfl⟩)
    · refine V_aldn0 a_X11_isNoHolding_9 ?_
      refine V_ildn2 a_X11_isNoHolding_10 ?_
      refine V_v1R a_X11_isNoHolding_11 c_X11_69 r2 ?_
      refine V_if_ne_f a_X11_isNoHolding_14 (by omega) (by omega) ?_
      refine V_iconst a_X11_isNoHolding_17 ?_
      refine V_goto a_X11_isNoHolding_18 ?_
      refine V_iconst a_X11_isNoHolding_22 ?_
      refine V_v2R a_X11_isNoHolding_23 c_X11_72 R_fails1 ?_
      exact V_zret a_X11_isNoHolding_26 (by omega) (⟨rfl, rfl⟩)
theorem B_isNoSecurity {s : Int} (h : Md D σ A) (hs : -2147483648 ≤ s ∧ s < 2147483648) : ∃ b : Int, ((b = 0 ∧ 0 ≤ s ∧ s < A 0) ∨ (b = 1 ∧ ¬ (0 ≤ s ∧ s < A 0))) ∧ Rt m_X11_isNoSecurity 2 0 0 [vR (some (11, 0)), vI s] σ (some (vI b)) (σ.th b) := by
  obtain ⟨b2, hb2, r2⟩ := B_isSecurity (s := s) h hs
  by_cases hp : 0 ≤ s ∧ s < A 0
  · refine ⟨0, Or.inl ⟨rfl, hp⟩, ?_⟩
    show V _ 2 0 0 0 [some (vR (some (11, 0))), some (vI s)] [] σ _
    refine V_aldn0 a_X11_isNoSecurity_0 ?_
    refine V_aldn0 a_X11_isNoSecurity_1 ?_
    refine V_ildn1 a_X11_isNoSecurity_2 ?_
    refine V_v1R a_X11_isNoSecurity_3 c_X11_69 r2 ?_
    refine V_if_ne_t a_X11_isNoSecurity_6 (by omega) (by omega) ?_
    refine V_iconst a_X11_isNoSecurity_13 ?_
    refine V_iconst a_X11_isNoSecurity_14 ?_
    refine V_v2R a_X11_isNoSecurity_15 c_X11_72 R_fails0 ?_
    exact V_zret a_X11_isNoSecurity_18 (by omega) (⟨rfl, rfl⟩)
  · refine ⟨1, Or.inr ⟨rfl, hp⟩, ?_⟩
    show V _ 2 0 0 0 [some (vR (some (11, 0))), some (vI s)] [] σ _
    refine V_aldn0 a_X11_isNoSecurity_0 ?_
    refine V_aldn0 a_X11_isNoSecurity_1 ?_
    refine V_ildn1 a_X11_isNoSecurity_2 ?_
    refine V_v1R a_X11_isNoSecurity_3 c_X11_69 r2 ?_
    refine V_if_ne_f a_X11_isNoSecurity_6 (by omega) (by omega) ?_
    refine V_iconst a_X11_isNoSecurity_9 ?_
    refine V_goto a_X11_isNoSecurity_10 ?_
    refine V_iconst a_X11_isNoSecurity_14 ?_
    refine V_v2R a_X11_isNoSecurity_15 c_X11_72 R_fails1 ?_
    exact V_zret a_X11_isNoSecurity_18 (by omega) (⟨rfl, rfl⟩)
theorem R_lentBy {l s : Int} (h : Md D σ A) (hl : 0 ≤ l ∧ l < 6) (hs : 0 ≤ s ∧ s < 4) : Rt m_X11_lentBy 1 0 0 [vR (some (11, 0)), vI l, vI s] σ (some (vL (lentA A l s))) σ := by
  obtain ⟨hD, hW, hA, hI⟩ := h
  show V _ 1 0 0 0 [some (vR (some (11, 0))), some (vI l), some (vI s), none, none, none] [] σ _
  have hn := hI.n
  refine V_lconst0 a_X11_lentBy_0 ?_
  refine V_lstn3 a_X11_lentBy_1 ?_
  refine V_iconst a_X11_lentBy_2 ?_
  refine V_ist5 a_X11_lentBy_3 ?_
  refine loopI (P := fun k => V _ 1 0 0 5 [some (vR (some (11, 0))), some (vI l), some (vI s), some (vL (sm (fun k => if A (83 + 23 * k + 2) = s then A (83 + 23 * k + 5 + l) else 0) k)), none, some (vI k)] [] σ _) (N := A 7) (by omega) ?_ ?_
  · refine V_ild5 a_X11_lentBy_5 ?_
    refine V_i2l a_X11_lentBy_7 (by omega) ?_
    refine V_aldn0 a_X11_lentBy_8 ?_
    refine V_fin a_X11_lentBy_9 f_X11_7 rfl hW ?_
    refine V_bipush a_X11_lentBy_12 (by decide) ?_
    refine V_w a_X11_lentBy_14 (by omega) hA ?_
    refine V_lc_ge_t a_X11_lentBy_15 a_X11_lentBy_16 (by omega) (by omega) ?_
    refine V_lldn3 a_X11_lentBy_60 ?_
    exact V_lret a_X11_lentBy_61 (⟨rfl, rfl⟩)
  · intro k h0 h1 ih
    obtain ⟨-, -, q2, -⟩ := hI.loan h0 h1
    refine V_ild5 a_X11_lentBy_5 ?_
    refine V_i2l a_X11_lentBy_7 (by omega) ?_
    refine V_aldn0 a_X11_lentBy_8 ?_
    refine V_fin a_X11_lentBy_9 f_X11_7 rfl hW ?_
    refine V_bipush a_X11_lentBy_12 (by decide) ?_
    refine V_w a_X11_lentBy_14 (by omega) hA ?_
    refine V_lc_ge_f a_X11_lentBy_15 a_X11_lentBy_16 (by omega) (by omega) ?_
    refine V_aldn0 a_X11_lentBy_19 ?_
    refine V_fin a_X11_lentBy_20 f_X11_7 rfl hW ?_
    refine V_ild5 a_X11_lentBy_23 ?_
    refine V_s1R a_X11_lentBy_25 c_X11_197 R_loanAt ?_
    refine V_iconst a_X11_lentBy_28 ?_
    refine V_iadd a_X11_lentBy_29 ?_
    refine V_w a_X11_lentBy_30 (by omega) hA ?_
    refine V_ildn2 a_X11_lentBy_31 ?_
    refine V_i2l a_X11_lentBy_32 (by omega) ?_
    refine V_lc_ne a_X11_lentBy_33 a_X11_lentBy_34 (by omega) (fun hc33 => ?_) (fun hc33 => ?_)
    · refine V_inc5 a_X11_lentBy_54 ?_
      refine V_goto a_X11_lentBy_57 ?_
      first | (rw [sm_s _ h0, if_pos (by omega)] at ih; exact ih) | (rw [sm_s _ h0, if_neg (by omega), Int.add_zero] at ih; exact ih)
    · refine V_lldn3 a_X11_lentBy_37 ?_
      refine V_aldn0 a_X11_lentBy_38 ?_
      refine V_fin a_X11_lentBy_39 f_X11_7 rfl hW ?_
      refine V_ild5 a_X11_lentBy_42 ?_
      refine V_s1R a_X11_lentBy_44 c_X11_197 R_loanAt ?_
      refine V_iconst a_X11_lentBy_47 ?_
      refine V_iadd a_X11_lentBy_48 ?_
      refine V_ildn1 a_X11_lentBy_49 ?_
      refine V_iadd a_X11_lentBy_50 ?_
      refine V_w a_X11_lentBy_51 (by omega) hA ?_
      refine V_ladd a_X11_lentBy_52 ?_
      refine V_lstn3 a_X11_lentBy_53 ?_
      refine V_inc5 a_X11_lentBy_54 ?_
      refine V_goto a_X11_lentBy_57 ?_
      first | (rw [sm_s _ h0, if_pos (by omega)] at ih; exact ih) | (rw [sm_s _ h0, if_neg (by omega), Int.add_zero] at ih; exact ih)
theorem R_quantityAt {k : Int} (h : Md D σ A) (hk : 0 ≤ k ∧ k < 12) : Rt m_X11_quantityAt 0 0 0 [vR (some (11, 0)), vI (83 + 23 * k)] σ (some (vL (quanA A k))) σ := by
  obtain ⟨hD, hW, hA, hI⟩ := h
  show V _ 0 0 0 0 [some (vR (some (11, 0))), some (vI (83 + 23 * k)), none, none, none] [] σ _
  have hn := hI.n
  refine V_lconst0 a_X11_quantityAt_0 ?_
  refine V_lstn2 a_X11_quantityAt_1 ?_
  refine V_iconst a_X11_quantityAt_2 ?_
  refine V_ist4 a_X11_quantityAt_3 ?_
  refine loopI (P := fun l => V _ 0 0 0 5 [some (vR (some (11, 0))), some (vI (83 + 23 * k)), some (vL (sm (fun l => A (83 + 23 * k + 5 + l)) l)), none, some (vI l)] [] σ _) (N := A 1) (by omega) ?_ ?_
  · refine V_ild4 a_X11_quantityAt_5 ?_
    refine V_i2l a_X11_quantityAt_7 (by omega) ?_
    refine V_aldn0 a_X11_quantityAt_8 ?_
    refine V_fin a_X11_quantityAt_9 f_X11_7 rfl hW ?_
    refine V_iconst a_X11_quantityAt_12 ?_
    refine V_w a_X11_quantityAt_13 (by omega) hA ?_
    refine V_lc_ge_t a_X11_quantityAt_14 a_X11_quantityAt_15 (by omega) (by omega) ?_
    refine V_lldn2 a_X11_quantityAt_38 ?_
    exact V_lret a_X11_quantityAt_39 (⟨rfl, rfl⟩)
  · intro l h0 h1 ih
    rw [sm_s _ h0] at ih
    refine V_ild4 a_X11_quantityAt_5 ?_
    refine V_i2l a_X11_quantityAt_7 (by omega) ?_
    refine V_aldn0 a_X11_quantityAt_8 ?_
    refine V_fin a_X11_quantityAt_9 f_X11_7 rfl hW ?_
    refine V_iconst a_X11_quantityAt_12 ?_
    refine V_w a_X11_quantityAt_13 (by omega) hA ?_
    refine V_lc_ge_f a_X11_quantityAt_14 a_X11_quantityAt_15 (by omega) (by omega) ?_
    refine V_lldn2 a_X11_quantityAt_18 ?_
    refine V_aldn0 a_X11_quantityAt_19 ?_
    refine V_fin a_X11_quantityAt_20 f_X11_7 rfl hW ?_
    refine V_ildn1 a_X11_quantityAt_23 ?_
    refine V_iconst a_X11_quantityAt_24 ?_
    refine V_iadd a_X11_quantityAt_25 ?_
    refine V_ild4 a_X11_quantityAt_26 ?_
    refine V_iadd a_X11_quantityAt_28 ?_
    refine V_w a_X11_quantityAt_29 (by omega) hA ?_
    refine V_ladd a_X11_quantityAt_30 ?_
    refine V_lstn2 a_X11_quantityAt_31 ?_
    refine V_inc4 a_X11_quantityAt_32 ?_
    refine V_goto a_X11_quantityAt_35 ?_
    exact ih
theorem R_holdingOf {l s : Int} (h : Md D σ A) (hl : 0 ≤ l ∧ l < 6) (hs : 0 ≤ s ∧ s < 4) : Rt m_X11_holdingOf 0 0 0 [vR (some (11, 0)), vI l, vI s] σ (some (vL (A (49 + 4 * l + s)))) σ := by
  obtain ⟨hD, hW, hA, hI⟩ := h
  show V _ 0 0 0 0 [some (vR (some (11, 0))), some (vI l), some (vI s)] [] σ _
  refine V_aldn0 a_X11_holdingOf_0 ?_
  refine V_fin a_X11_holdingOf_1 f_X11_7 rfl hW ?_
  refine V_bipush a_X11_holdingOf_4 (by decide) ?_
  refine V_iconst a_X11_holdingOf_6 ?_
  refine V_ildn1 a_X11_holdingOf_7 ?_
  refine V_imul a_X11_holdingOf_8 ?_
  refine V_iadd a_X11_holdingOf_9 ?_
  refine V_ildn2 a_X11_holdingOf_10 ?_
  refine V_iadd a_X11_holdingOf_11 ?_
  refine V_w a_X11_holdingOf_12 (by omega) hA ?_
  exact V_lret a_X11_holdingOf_13 (⟨rfl, rfl⟩)
theorem R_freeOf {l s : Int} (h : Md D σ A) (hl : 0 ≤ l ∧ l < A 1) (hs : 0 ≤ s ∧ s < 4) : Rt m_X11_freeOf 2 0 0 [vR (some (11, 0)), vI l, vI s] σ (some (vL (freeA A l s))) σ := by
  have h' := h
  obtain ⟨hD, hW, hA, hI⟩ := h
  have hn := hI.n
  obtain ⟨f1, f2, f3⟩ := free_bd hI hl.1 hl.2 hs.1 hs.2
  have f4 := lent_bd hI hl.1 (by omega) hs.1 hs.2
  show V _ 2 0 0 0 [some (vR (some (11, 0))), some (vI l), some (vI s)] [] σ _
  refine V_lconst0 a_X11_freeOf_0 ?_
  refine V_aldn0 a_X11_freeOf_1 ?_
  refine V_ildn1 a_X11_freeOf_2 ?_
  refine V_ildn2 a_X11_freeOf_3 ?_
  refine V_v2R a_X11_freeOf_4 c_X11_200 (R_holdingOf h' (by omega) hs) ?_
  refine V_aldn0 a_X11_freeOf_7 ?_
  refine V_fin a_X11_freeOf_8 f_X11_7 rfl hW ?_
  refine V_bipush a_X11_freeOf_11 (by decide) ?_
  refine V_ildn1 a_X11_freeOf_13 ?_
  refine V_iadd a_X11_freeOf_14 ?_
  refine V_w a_X11_freeOf_15 (by omega) hA ?_
  refine V_lmul a_X11_freeOf_16 ?_
  refine V_ldc2 a_X11_freeOf_17 q_X11_149 ?_
  refine V_ldiv a_X11_freeOf_20 (by omega) ?_
  refine V_aldn0 a_X11_freeOf_21 ?_
  refine V_ildn1 a_X11_freeOf_22 ?_
  refine V_ildn2 a_X11_freeOf_23 ?_
  refine V_v2R a_X11_freeOf_24 c_X11_204 (R_lentBy h' (by omega) hs) ?_
  refine V_lsub a_X11_freeOf_27 ?_
  refine V_s2R a_X11_freeOf_28 c_X11_207 (R_lmax (by omega) (by omega)) ?_
  exact V_lret a_X11_freeOf_31 (⟨rfl, rfl⟩)
theorem R_freeBut {but s : Int} (h : Md D σ A) (hl : -2147483648 ≤ but ∧ but < 2147483648) (hs : 0 ≤ s ∧ s < 4) : Rt m_X11_freeBut 3 0 0 [vR (some (11, 0)), vI but, vI s] σ (some (vL (freeB A but s))) σ := by
  have h' := h
  obtain ⟨hD, hW, hA, hI⟩ := h
  have hn := hI.n
  show V _ 3 0 0 0 [some (vR (some (11, 0))), some (vI but), some (vI s), none, none, none] [] σ _
  refine V_lconst0 a_X11_freeBut_0 ?_
  refine V_lstn3 a_X11_freeBut_1 ?_
  refine V_iconst a_X11_freeBut_2 ?_
  refine V_ist5 a_X11_freeBut_3 ?_
  refine loopI (P := fun l => V _ 3 0 0 5 [some (vR (some (11, 0))), some (vI but), some (vI s), some (vL (sm (fun l => if l = but then 0 else freeA A l s) l)), none, some (vI l)] [] σ _) (N := A 1) (by omega) ?_ ?_
  · refine V_ild5 a_X11_freeBut_5 ?_
    refine V_i2l a_X11_freeBut_7 (by omega) ?_
    refine V_aldn0 a_X11_freeBut_8 ?_
    refine V_fin a_X11_freeBut_9 f_X11_7 rfl hW ?_
    refine V_iconst a_X11_freeBut_12 ?_
    refine V_w a_X11_freeBut_13 (by omega) hA ?_
    refine V_lc_ge_t a_X11_freeBut_14 a_X11_freeBut_15 (by omega) (by omega) ?_
    refine V_lldn3 a_X11_freeBut_44 ?_
    exact V_lret a_X11_freeBut_45 (⟨rfl, rfl⟩)
  · intro l h0 h1 ih
    rw [sm_s _ h0] at ih
    refine V_ild5 a_X11_freeBut_5 ?_
    refine V_i2l a_X11_freeBut_7 (by omega) ?_
    refine V_aldn0 a_X11_freeBut_8 ?_
    refine V_fin a_X11_freeBut_9 f_X11_7 rfl hW ?_
    refine V_iconst a_X11_freeBut_12 ?_
    refine V_w a_X11_freeBut_13 (by omega) hA ?_
    refine V_lc_ge_f a_X11_freeBut_14 a_X11_freeBut_15 (by omega) (by omega) ?_
    refine V_lldn3 a_X11_freeBut_18 ?_
    refine V_ild5 a_X11_freeBut_19 ?_
    refine V_ildn1 a_X11_freeBut_21 ?_
    refine V_icmp_ne a_X11_freeBut_22 (by omega) (fun hc22 => ?_) (fun hc22 => ?_)
    · refine V_aldn0 a_X11_freeBut_29 ?_
      refine V_ild5 a_X11_freeBut_30 ?_
      refine V_ildn2 a_X11_freeBut_32 ?_
      refine V_v2R a_X11_freeBut_33 c_X11_213 (R_freeOf h' (by omega) hs) ?_
      refine V_ladd a_X11_freeBut_36 ?_
      refine V_lstn3 a_X11_freeBut_37 ?_
      refine V_inc5 a_X11_freeBut_38 ?_
      refine V_goto a_X11_freeBut_41 ?_
      first | (rw [if_pos (by omega)] at ih; exact ih) | (rw [if_neg (by omega)] at ih; exact ih)
    · refine V_lconst0 a_X11_freeBut_25 ?_
      refine V_goto a_X11_freeBut_26 ?_
      refine V_ladd a_X11_freeBut_36 ?_
      refine V_lstn3 a_X11_freeBut_37 ?_
      refine V_inc5 a_X11_freeBut_38 ?_
      refine V_goto a_X11_freeBut_41 ?_
      first | (rw [if_pos (by omega)] at ih; exact ih) | (rw [if_neg (by omega)] at ih; exact ih)
end Mo1

