section Mo26
variable {D : Int} {σ : Hp} {A : St}
theorem R_holding {l s : Int} (h : Md D σ A) (hl : iR l) (hs : iR s) : (((0 ≤ l ∧ l < A 1) ∧ 0 ≤ s ∧ s < A 0) → Rt m_X11_holding 3 0 0 [vR (some (11, 0)), vI l, vI s] σ (some (vI (A (49 + 4 * l + s)))) (σ.th 0)) ∧ (¬ ((0 ≤ l ∧ l < A 1) ∧ 0 ≤ s ∧ s < A 0) → Rt m_X11_holding 3 0 0 [vR (some (11, 0)), vI l, vI s] σ (some (vI 0)) (σ.th 1)) := by
  have hn := h.2.2.2.n
  obtain ⟨b1, hb1, r1⟩ := B_isNoHolding (l := l) (s := s) h hl hs
  have hm : Md D (σ.th 0) A := h
  refine ⟨fun e => ?_, fun e => ?_⟩
  · have hb : b1 = 0 := by omega
    subst hb
    show V _ 3 0 0 0 [some (vR (some (11, 0))), some (vI l), some (vI s)] [] σ _
    refine V_aldn0 a_X11_holding_0 ?_
    refine V_ildn1 a_X11_holding_1 ?_
    refine V_ildn2 a_X11_holding_2 ?_
    refine V_v2R a_X11_holding_3 c_X11_320 r1 ?_
    refine V_if_eq_t a_X11_holding_6 (by omega) (by omega) ?_
    refine V_aldn0 a_X11_holding_13 ?_
    refine V_ildn1 a_X11_holding_14 ?_
    refine V_ildn2 a_X11_holding_15 ?_
    refine V_v2R a_X11_holding_16 c_X11_200 (R_holdingOf hm (by omega) (by omega)) ?_
    refine V_l2i a_X11_holding_19 ?_
    exact V_iret a_X11_holding_20 (⟨rfl, rfl⟩)
  · have hb : b1 = 1 := by omega
    subst hb
    show V _ 3 0 0 0 [some (vR (some (11, 0))), some (vI l), some (vI s)] [] σ _
    refine V_aldn0 a_X11_holding_0 ?_
    refine V_ildn1 a_X11_holding_1 ?_
    refine V_ildn2 a_X11_holding_2 ?_
    refine V_v2R a_X11_holding_3 c_X11_320 r1 ?_
    refine V_if_eq_f a_X11_holding_6 (by omega) (by omega) ?_
    refine V_iconst a_X11_holding_9 ?_
    refine V_goto a_X11_holding_10 ?_
    exact V_iret a_X11_holding_20 (⟨rfl, rfl⟩)
theorem R_onLoan {l s : Int} (h : Md D σ A) (hl : iR l) (hs : iR s) : (((0 ≤ l ∧ l < A 1) ∧ 0 ≤ s ∧ s < A 0) → Rt m_X11_onLoan 3 0 0 [vR (some (11, 0)), vI l, vI s] σ (some (vI (lentA A l s))) (σ.th 0)) ∧ (¬ ((0 ≤ l ∧ l < A 1) ∧ 0 ≤ s ∧ s < A 0) → Rt m_X11_onLoan 3 0 0 [vR (some (11, 0)), vI l, vI s] σ (some (vI 0)) (σ.th 1)) := by
  have hn := h.2.2.2.n
  obtain ⟨b1, hb1, r1⟩ := B_isNoHolding (l := l) (s := s) h hl hs
  have hm : Md D (σ.th 0) A := h
  refine ⟨fun e => ?_, fun e => ?_⟩
  · have hb : b1 = 0 := by omega
    subst hb
    show V _ 3 0 0 0 [some (vR (some (11, 0))), some (vI l), some (vI s)] [] σ _
    refine V_aldn0 a_X11_onLoan_0 ?_
    refine V_ildn1 a_X11_onLoan_1 ?_
    refine V_ildn2 a_X11_onLoan_2 ?_
    refine V_v2R a_X11_onLoan_3 c_X11_320 r1 ?_
    refine V_if_eq_t a_X11_onLoan_6 (by omega) (by omega) ?_
    refine V_aldn0 a_X11_onLoan_13 ?_
    refine V_ildn1 a_X11_onLoan_14 ?_
    refine V_ildn2 a_X11_onLoan_15 ?_
    refine V_v2R a_X11_onLoan_16 c_X11_204 (R_lentBy hm (by omega) (by omega)) ?_
    refine V_l2i a_X11_onLoan_19 ?_
    exact V_iret a_X11_onLoan_20 (⟨rfl, rfl⟩)
  · have hb : b1 = 1 := by omega
    subst hb
    show V _ 3 0 0 0 [some (vR (some (11, 0))), some (vI l), some (vI s)] [] σ _
    refine V_aldn0 a_X11_onLoan_0 ?_
    refine V_ildn1 a_X11_onLoan_1 ?_
    refine V_ildn2 a_X11_onLoan_2 ?_
    refine V_v2R a_X11_onLoan_3 c_X11_320 r1 ?_
    refine V_if_eq_f a_X11_onLoan_6 (by omega) (by omega) ?_
    refine V_iconst a_X11_onLoan_9 ?_
    refine V_goto a_X11_onLoan_10 ?_
    exact V_iret a_X11_onLoan_20 (⟨rfl, rfl⟩)
theorem R_available {l s : Int} (h : Md D σ A) (hl : iR l) (hs : iR s) : (((0 ≤ l ∧ l < A 1) ∧ 0 ≤ s ∧ s < A 0) → Rt m_X11_available 3 0 0 [vR (some (11, 0)), vI l, vI s] σ (some (vI (freeA A l s))) (σ.th 0)) ∧ (¬ ((0 ≤ l ∧ l < A 1) ∧ 0 ≤ s ∧ s < A 0) → Rt m_X11_available 3 0 0 [vR (some (11, 0)), vI l, vI s] σ (some (vI 0)) (σ.th 1)) := by
  have hn := h.2.2.2.n
  obtain ⟨b1, hb1, r1⟩ := B_isNoHolding (l := l) (s := s) h hl hs
  have hm : Md D (σ.th 0) A := h
  refine ⟨fun e => ?_, fun e => ?_⟩
  · have hb : b1 = 0 := by omega
    subst hb
    show V _ 3 0 0 0 [some (vR (some (11, 0))), some (vI l), some (vI s)] [] σ _
    refine V_aldn0 a_X11_available_0 ?_
    refine V_ildn1 a_X11_available_1 ?_
    refine V_ildn2 a_X11_available_2 ?_
    refine V_v2R a_X11_available_3 c_X11_320 r1 ?_
    refine V_if_eq_t a_X11_available_6 (by omega) (by omega) ?_
    refine V_aldn0 a_X11_available_13 ?_
    refine V_ildn1 a_X11_available_14 ?_
    refine V_ildn2 a_X11_available_15 ?_
    refine V_v2R a_X11_available_16 c_X11_213 (R_freeOf hm (by omega) (by omega)) ?_
    refine V_l2i a_X11_available_19 ?_
    exact V_iret a_X11_available_20 (⟨rfl, rfl⟩)
  · have hb : b1 = 1 := by omega
    subst hb
    show V _ 3 0 0 0 [some (vR (some (11, 0))), some (vI l), some (vI s)] [] σ _
    refine V_aldn0 a_X11_available_0 ?_
    refine V_ildn1 a_X11_available_1 ?_
    refine V_ildn2 a_X11_available_2 ?_
    refine V_v2R a_X11_available_3 c_X11_320 r1 ?_
    refine V_if_eq_f a_X11_available_6 (by omega) (by omega) ?_
    refine V_iconst a_X11_available_9 ?_
    refine V_goto a_X11_available_10 ?_
    exact V_iret a_X11_available_20 (⟨rfl, rfl⟩)
theorem R_recallable {l s : Int} (h : Md D σ A) (hl : iR l) (hs : iR s) : (((0 ≤ l ∧ l < A 1) ∧ 0 ≤ s ∧ s < A 0) → Rt m_X11_recallable 3 0 0 [vR (some (11, 0)), vI l, vI s] σ (some (vI (recbA A l s))) (σ.th 0)) ∧ (¬ ((0 ≤ l ∧ l < A 1) ∧ 0 ≤ s ∧ s < A 0) → Rt m_X11_recallable 3 0 0 [vR (some (11, 0)), vI l, vI s] σ (some (vI 0)) (σ.th 1)) := by
  have hn := h.2.2.2.n
  obtain ⟨b1, hb1, r1⟩ := B_isNoHolding (l := l) (s := s) h hl hs
  have hm : Md D (σ.th 0) A := h
  refine ⟨fun e => ?_, fun e => ?_⟩
  · have hb : b1 = 0 := by omega
    subst hb
    show V _ 3 0 0 0 [some (vR (some (11, 0))), some (vI l), some (vI s)] [] σ _
    refine V_aldn0 a_X11_recallable_0 ?_
    refine V_ildn1 a_X11_recallable_1 ?_
    refine V_ildn2 a_X11_recallable_2 ?_
    refine V_v2R a_X11_recallable_3 c_X11_320 r1 ?_
    refine V_if_eq_t a_X11_recallable_6 (by omega) (by omega) ?_
    refine V_aldn0 a_X11_recallable_13 ?_
    refine V_ildn1 a_X11_recallable_14 ?_
    refine V_ildn2 a_X11_recallable_15 ?_
    refine V_v2R a_X11_recallable_16 c_X11_323 (R_recallableOf hm (by omega) (by omega)) ?_
    refine V_l2i a_X11_recallable_19 ?_
    exact V_iret a_X11_recallable_20 (⟨rfl, rfl⟩)
  · have hb : b1 = 1 := by omega
    subst hb
    show V _ 3 0 0 0 [some (vR (some (11, 0))), some (vI l), some (vI s)] [] σ _
    refine V_aldn0 a_X11_recallable_0 ?_
    refine V_ildn1 a_X11_recallable_1 ?_
    refine V_ildn2 a_X11_recallable_2 ?_
    refine V_v2R a_X11_recallable_3 c_X11_320 r1 ?_
    refine V_if_eq_f a_X11_recallable_6 (by omega) (by omega) ?_
    refine V_iconst a_X11_recallable_9 ?_
    refine V_goto a_X11_recallable_10 ?_
    exact V_iret a_X11_recallable_20 (⟨rfl, rfl⟩)
theorem R_pooled {s : Int} (h : Md D σ A) (hs : iR s) : ((0 ≤ s ∧ s < A 0) → Rt m_X11_pooled 4 0 0 [vR (some (11, 0)), vI s] σ (some (vI (freeB A (-1) s))) (σ.th 0)) ∧ (¬ (0 ≤ s ∧ s < A 0) → Rt m_X11_pooled 4 0 0 [vR (some (11, 0)), vI s] σ (some (vI 0)) (σ.th 1)) := by
  have hn := h.2.2.2.n
  obtain ⟨b1, hb1, r1⟩ := B_isNoSecurity (s := s) h hs
  have hm : Md D (σ.th 0) A := h
  refine ⟨fun e => ?_, fun e => ?_⟩
  · have hb : b1 = 0 := by omega
    subst hb
    show V _ 4 0 0 0 [some (vR (some (11, 0))), some (vI s)] [] σ _
    refine V_aldn0 a_X11_pooled_0 ?_
    refine V_ildn1 a_X11_pooled_1 ?_
    refine V_v1R a_X11_pooled_2 c_X11_349 r1 ?_
    refine V_if_eq_t a_X11_pooled_5 (by omega) (by omega) ?_
    refine V_aldn0 a_X11_pooled_12 ?_
    refine V_iconst a_X11_pooled_13 ?_
    refine V_ildn1 a_X11_pooled_14 ?_
    refine V_v2R a_X11_pooled_15 c_X11_238 (R_freeBut hm (by omega) (by omega)) ?_
    refine V_l2i a_X11_pooled_18 ?_
    exact V_iret a_X11_pooled_19 (⟨rfl, rfl⟩)
  · have hb : b1 = 1 := by omega
    subst hb
    show V _ 4 0 0 0 [some (vR (some (11, 0))), some (vI s)] [] σ _
    refine V_aldn0 a_X11_pooled_0 ?_
    refine V_ildn1 a_X11_pooled_1 ?_
    refine V_v1R a_X11_pooled_2 c_X11_349 r1 ?_
    refine V_if_eq_f a_X11_pooled_5 (by omega) (by omega) ?_
    refine V_iconst a_X11_pooled_8 ?_
    refine V_goto a_X11_pooled_9 ?_
    exact V_iret a_X11_pooled_19 (⟨rfl, rfl⟩)
theorem R_lastServed {s : Int} (h : Md D σ A) (hs : iR s) : ((0 ≤ s ∧ s < A 0) → Rt m_X11_lastServed 4 0 0 [vR (some (11, 0)), vI s] σ (some (vI (A (23 + s)))) (σ.th 0)) ∧ (¬ (0 ≤ s ∧ s < A 0) → Rt m_X11_lastServed 4 0 0 [vR (some (11, 0)), vI s] σ (some (vI 0)) (σ.th 1)) := by
  have hn := h.2.2.2.n
  obtain ⟨b1, hb1, r1⟩ := B_isNoSecurity (s := s) h hs
  have hm : Md D (σ.th 0) A := h
  obtain ⟨-, hW, hA, -⟩ := id hm
  refine ⟨fun e => ?_, fun e => ?_⟩
  · have hb : b1 = 0 := by omega
    subst hb
    show V _ 4 0 0 0 [some (vR (some (11, 0))), some (vI s)] [] σ _
    refine V_aldn0 a_X11_lastServed_0 ?_
    refine V_ildn1 a_X11_lastServed_1 ?_
    refine V_v1R a_X11_lastServed_2 c_X11_349 r1 ?_
    refine V_if_eq_t a_X11_lastServed_5 (by omega) (by omega) ?_
    refine V_aldn0 a_X11_lastServed_12 ?_
    refine V_fin a_X11_lastServed_13 f_X11_7 rfl hW ?_
    refine V_bipush a_X11_lastServed_16 (by decide) ?_
    refine V_ildn1 a_X11_lastServed_18 ?_
    refine V_iadd a_X11_lastServed_19 ?_
    refine V_w a_X11_lastServed_20 (by omega) hA ?_
    refine V_l2i a_X11_lastServed_21 ?_
    exact V_iret a_X11_lastServed_22 (⟨rfl, rfl⟩)
  · have hb : b1 = 1 := by omega
    subst hb
    show V _ 4 0 0 0 [some (vR (some (11, 0))), some (vI s)] [] σ _
    refine V_aldn0 a_X11_lastServed_0 ?_
    refine V_ildn1 a_X11_lastServed_1 ?_
    refine V_v1R a_X11_lastServed_2 c_X11_349 r1 ?_
    refine V_if_eq_f a_X11_lastServed_5 (by omega) (by omega) ?_
    refine V_iconst a_X11_lastServed_8 ?_
    refine V_goto a_X11_lastServed_9 ?_
    exact V_iret a_X11_lastServed_22 (⟨rfl, rfl⟩)
theorem R_credit {b : Int} (h : Md D σ A) (hb : iR b) : ((0 ≤ b ∧ b < A 2) → Rt m_X11_credit 4 0 0 [vR (some (11, 0)), vI b] σ (some (vI (A (45 + b)))) (σ.th 0)) ∧ (¬ (0 ≤ b ∧ b < A 2) → Rt m_X11_credit 4 0 0 [vR (some (11, 0)), vI b] σ (some (vI 0)) (σ.th 1)) := by
  have hn := h.2.2.2.n
  obtain ⟨b1, hb1, r1⟩ := B_isBorrower (l := b) h hb
  have hm : Md D (σ.th 0) A := h
  obtain ⟨-, hW, hA, -⟩ := id hm
  refine ⟨fun e => ?_, fun e => ?_⟩
  · show V _ 4 0 0 0 [some (vR (some (11, 0))), some (vI b)] [] σ _
    refine V_aldn0 a_X11_credit_0 ?_
    refine V_aldn0 a_X11_credit_1 ?_
    refine V_ildn1 a_X11_credit_2 ?_
    refine V_v1R a_X11_credit_3 c_X11_262 r1 ?_
    refine V_if_ne_t a_X11_credit_6 (by omega) (by omega) ?_
    refine V_iconst a_X11_credit_13 ?_
    refine V_iconst a_X11_credit_14 ?_
    refine V_v2R a_X11_credit_15 c_X11_72 R_fails0 ?_
    refine V_if_eq_t a_X11_credit_18 (by omega) (by omega) ?_
    refine V_aldn0 a_X11_credit_25 ?_
    refine V_fin a_X11_credit_26 f_X11_7 rfl hW ?_
    refine V_bipush a_X11_credit_29 (by decide) ?_
    refine V_ildn1 a_X11_credit_31 ?_
    refine V_iadd a_X11_credit_32 ?_
    refine V_w a_X11_credit_33 (by omega) hA ?_
    refine V_l2i a_X11_credit_34 ?_
    exact V_iret a_X11_credit_35 (⟨rfl, rfl⟩)
  · show V _ 4 0 0 0 [some (vR (some (11, 0))), some (vI b)] [] σ _
    refine V_aldn0 a_X11_credit_0 ?_
    refine V_aldn0 a_X11_credit_1 ?_
    refine V_ildn1 a_X11_credit_2 ?_
    refine V_v1R a_X11_credit_3 c_X11_262 r1 ?_
    refine V_if_ne_f a_X11_credit_6 (by omega) (by omega) ?_
    refine V_iconst a_X11_credit_9 ?_
    refine V_goto a_X11_credit_10 ?_
    refine V_iconst a_X11_credit_14 ?_
    refine V_v2R a_X11_credit_15 c_X11_72 R_fails1 ?_
    refine V_if_eq_f a_X11_credit_18 (by omega) (by omega) ?_
    refine V_iconst a_X11_credit_21 ?_
    refine V_goto a_X11_credit_22 ?_
    exact V_iret a_X11_credit_35 (⟨rfl, rfl⟩)
theorem R_exposure {b : Int} (h : Md D σ A) (hb : iR b) : ((0 ≤ b ∧ b < A 2) → Rt m_X11_exposure 4 0 0 [vR (some (11, 0)), vI b] σ (some (vL (expoA A b))) (σ.th 0)) ∧ (¬ (0 ≤ b ∧ b < A 2) → Rt m_X11_exposure 4 0 0 [vR (some (11, 0)), vI b] σ (some (vL 0)) (σ.th 1)) := by
  have hn := h.2.2.2.n
  obtain ⟨b1, hb1, r1⟩ := B_isBorrower (l := b) h hb
  have hm : Md D (σ.th 0) A := h
  refine ⟨fun e => ?_, fun e => ?_⟩
  · show V _ 4 0 0 0 [some (vR (some (11, 0))), some (vI b)] [] σ _
    refine V_aldn0 a_X11_exposure_0 ?_
    refine V_aldn0 a_X11_exposure_1 ?_
    refine V_ildn1 a_X11_exposure_2 ?_
    refine V_v1R a_X11_exposure_3 c_X11_262 r1 ?_
    refine V_if_ne_t a_X11_exposure_6 (by omega) (by omega) ?_
    refine V_iconst a_X11_exposure_13 ?_
    refine V_iconst a_X11_exposure_14 ?_
    refine V_v2R a_X11_exposure_15 c_X11_72 R_fails0 ?_
    refine V_if_eq_t a_X11_exposure_18 (by omega) (by omega) ?_
    refine V_aldn0 a_X11_exposure_25 ?_
    refine V_ildn1 a_X11_exposure_26 ?_
    refine V_v1R a_X11_exposure_27 c_X11_253 (R_exposureOf hm (by omega)) ?_
    exact V_lret a_X11_exposure_30 (⟨rfl, rfl⟩)
  · show V _ 4 0 0 0 [some (vR (some (11, 0))), some (vI b)] [] σ _
    refine V_aldn0 a_X11_exposure_0 ?_
    refine V_aldn0 a_X11_exposure_1 ?_
    refine V_ildn1 a_X11_exposure_2 ?_
    refine V_v1R a_X11_exposure_3 c_X11_262 r1 ?_
    refine V_if_ne_f a_X11_exposure_6 (by omega) (by omega) ?_
    refine V_iconst a_X11_exposure_9 ?_
    refine V_goto a_X11_exposure_10 ?_
    refine V_iconst a_X11_exposure_14 ?_
    refine V_v2R a_X11_exposure_15 c_X11_72 R_fails1 ?_
    refine V_if_eq_f a_X11_exposure_18 (by omega) (by omega) ?_
    refine V_lconst0 a_X11_exposure_21 ?_
    refine V_goto a_X11_exposure_22 ?_
    exact V_lret a_X11_exposure_30 (⟨rfl, rfl⟩)
end Mo26

