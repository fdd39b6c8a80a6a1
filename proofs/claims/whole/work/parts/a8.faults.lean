/-- what stands against a lender, a security and a quantity -/
def qfC (A : St) (l s q : Int) : Int := if ¬ ((0 ≤ l ∧ l < A 1) ∧ 0 ≤ s ∧ s < A 0) then 1 else if ¬ (1 ≤ q ∧ q ≤ 99999) then 2 else 0
section Fa
variable {D : Int} {σ : Hp} {A : St} {i j : Nat}
theorem R_quantityFault {l s q : Int} (h : Cl D σ i A) (hl : iR l) (hs : iR s) (hq : iR q) : Rt m_X1_quantityFault 2 0 0 [vR (some (1, 0)), vR (some (6, i)), vI l, vI s, vI q] σ (some (vI (qfC A l s q))) σ := by
  have r1 := R_hasLender (s := l) h hl
  have r2 := R_hasSecurity (s := s) h hs
  have r3 := R_outside (σ := σ) (v := q) (lo := 1) (hi := 99999) hq (by omega) (by omega)
  show V _ 2 0 0 0 [some (vR (some (1, 0))), some (vR (some (6, i))), some (vI l), some (vI s), some (vI q)] [] σ _
  unfold qfC
  by_cases c1 : (0 ≤ l ∧ l < A 1) ∧ 0 ≤ s ∧ s < A 0
  · rw [if_neg (fun z => z c1)]
    rw [bI_t c1.1] at r1
    rw [bI_t c1.2] at r2
    by_cases c2 : 1 ≤ q ∧ q ≤ 99999
    · rw [if_neg (fun z => z c2)]
      rw [bI_f (fun z => z c2)] at r3
      refine V_aldn1 a_X1_quantityFault_0 ?_
      refine V_ildn2 a_X1_quantityFault_1 ?_
      refine V_v1R a_X1_quantityFault_2 c_X1_113 r1 ?_
      refine V_if_eq_f a_X1_quantityFault_5 (by omega) (by omega) ?_
      refine V_aldn1 a_X1_quantityFault_8 ?_
      refine V_ildn3 a_X1_quantityFault_9 ?_
      refine V_v1R a_X1_quantityFault_10 c_X1_35 r2 ?_
      refine V_if_ne_t a_X1_quantityFault_13 (by omega) (by omega) ?_
      refine V_ild4 a_X1_quantityFault_18 ?_
      refine V_iconst a_X1_quantityFault_20 ?_
      refine V_ldc a_X1_quantityFault_21 q_X1_38 ?_
      refine V_n3R a_X1_quantityFault_23 c_X1_39 r3 ?_
      refine V_if_eq_t a_X1_quantityFault_26 (by omega) (by omega) ?_
      refine V_iconst a_X1_quantityFault_33 ?_
      exact V_iret a_X1_quantityFault_34 (⟨rfl, rfl⟩)
    · rw [if_pos c2]
      rw [bI_t c2] at r3
      refine V_aldn1 a_X1_quantityFault_0 ?_
      refine V_ildn2 a_X1_quantityFault_1 ?_
      refine V_v1R a_X1_quantityFault_2 c_X1_113 r1 ?_
      refine V_if_eq_f a_X1_quantityFault_5 (by omega) (by omega) ?_
      refine V_aldn1 a_X1_quantityFault_8 ?_
      refine V_ildn3 a_X1_quantityFault_9 ?_
      refine V_v1R a_X1_quantityFault_10 c_X1_35 r2 ?_
      refine V_if_ne_t a_X1_quantityFault_13 (by omega) (by omega) ?_
      refine V_ild4 a_X1_quantityFault_18 ?_
      refine V_iconst a_X1_quantityFault_20 ?_
      refine V_ldc a_X1_quantityFault_21 q_X1_38 ?_
      refine V_n3R a_X1_quantityFault_23 c_X1_39 r3 ?_
      refine V_if_eq_f a_X1_quantityFault_26 (by omega) (by omega) ?_
      refine V_iconst a_X1_quantityFault_29 ?_
      refine V_goto a_X1_quantityFault_30 ?_
      exact V_iret a_X1_quantityFault_34 (⟨rfl, rfl⟩)
  · rw [if_pos c1]
    by_cases d1 : 0 ≤ l ∧ l < A 1
    · rw [bI_t d1] at r1
      rw [bI_f (show ¬ (0 ≤ s ∧ s < A 0) from fun z => c1 ⟨d1, z⟩)] at r2
      refine V_aldn1 a_X1_quantityFault_0 ?_
      refine V_ildn2 a_X1_quantityFault_1 ?_
      refine V_v1R a_X1_quantityFault_2 c_X1_113 r1 ?_
      refine V_if_eq_f a_X1_quantityFault_5 (by omega) (by omega) ?_
      refine V_aldn1 a_X1_quantityFault_8 ?_
      refine V_ildn3 a_X1_quantityFault_9 ?_
      refine V_v1R a_X1_quantityFault_10 c_X1_35 r2 ?_
      refine V_if_ne_f a_X1_quantityFault_13 (by omega) (by omega) ?_
      refine V_iconst a_X1_quantityFault_16 ?_
      exact V_iret a_X1_quantityFault_17 (⟨rfl, rfl⟩)
    · rw [bI_f d1] at r1
      refine V_aldn1 a_X1_quantityFault_0 ?_
      refine V_ildn2 a_X1_quantityFault_1 ?_
      refine V_v1R a_X1_quantityFault_2 c_X1_113 r1 ?_
      refine V_if_eq_t a_X1_quantityFault_5 (by omega) (by omega) ?_
      refine V_iconst a_X1_quantityFault_16 ?_
      exact V_iret a_X1_quantityFault_17 (⟨rfl, rfl⟩)
theorem R_callInFault {l s q : Int} (h : Cl D σ i A) (hl : iR l) (hs : iR s) (hq : iR q) : Rt m_X1_callInFault 3 0 0 [vR (some (1, 0)), vR (some (6, i)), vI l, vI s, vI q] σ (some (vI (rclC A l s q))) σ := by
  have r1 := R_quantityFault h hl hs hq
  have hn := h.2.2.2.2.n
  show V _ 3 0 0 0 [some (vR (some (1, 0))), some (vR (some (6, i))), some (vI l), some (vI s), some (vI q), none] [] σ _
  unfold rclC
  unfold qfC at r1
  by_cases c1 : (0 ≤ l ∧ l < A 1) ∧ 0 ≤ s ∧ s < A 0
  · rw [if_neg (fun z => z c1)] at r1 ⊢
    by_cases c2 : 1 ≤ q ∧ q ≤ 99999
    · rw [if_neg (fun z => z c2)] at r1 ⊢
      have r2 := R_unrecalledOf (l := l) (s := s) h (by omega) hs
      have hb := recb_bd h.2.2.2.2 (l := l) (s := s) (by omega) (by omega)
      by_cases c3 : recbA A l s < q
      · rw [if_pos c3]
        refine V_aldn0 a_X1_callInFault_0 ?_
        refine V_aldn1 a_X1_callInFault_1 ?_
        refine V_ildn2 a_X1_callInFault_2 ?_
        refine V_ildn3 a_X1_callInFault_3 ?_
        refine V_ild4 a_X1_callInFault_4 ?_
        refine V_v4R a_X1_callInFault_6 c_X1_116 r1 ?_
        refine V_ist5 a_X1_callInFault_9 ?_
        refine V_ild5 a_X1_callInFault_11 ?_
        refine V_if_eq_t a_X1_callInFault_13 (by omega) (by omega) ?_
        refine V_aldn1 a_X1_callInFault_19 ?_
        refine V_ildn2 a_X1_callInFault_20 ?_
        refine V_ildn3 a_X1_callInFault_21 ?_
        refine V_v2R a_X1_callInFault_22 c_X1_120 r2 ?_
        refine V_ild4 a_X1_callInFault_25 ?_
        refine V_icmp_ge_f a_X1_callInFault_27 (by omega) (by omega) ?_
        refine V_iconst a_X1_callInFault_30 ?_
        refine V_goto a_X1_callInFault_31 ?_
        exact V_iret a_X1_callInFault_35 (⟨rfl, rfl⟩)
      · rw [if_neg c3]
        refine V_aldn0 a_X1_callInFault_0 ?_
        refine V_aldn1 a_X1_callInFault_1 ?_
        refine V_ildn2 a_X1_callInFault_2 ?_
        refine V_ildn3 a_X1_callInFault_3 ?_
        refine V_ild4 a_X1_callInFault_4 ?_
        refine V_v4R a_X1_callInFault_6 c_X1_116 r1 ?_
        refine V_ist5 a_X1_callInFault_9 ?_
        refine V_ild5 a_X1_callInFault_11 ?_
        refine V_if_eq_t a_X1_callInFault_13 (by omega) (by omega) ?_
        refine V_aldn1 a_X1_callInFault_19 ?_
        refine V_ildn2 a_X1_callInFault_20 ?_
        refine V_ildn3 a_X1_callInFault_21 ?_
        refine V_v2R a_X1_callInFault_22 c_X1_120 r2 ?_
        refine V_ild4 a_X1_callInFault_25 ?_
        refine V_icmp_ge_t a_X1_callInFault_27 (by omega) (by omega) ?_
        refine V_iconst a_X1_callInFault_34 ?_
        exact V_iret a_X1_callInFault_35 (⟨rfl, rfl⟩)
    · rw [if_pos c2] at r1 ⊢
      refine V_aldn0 a_X1_callInFault_0 ?_
      refine V_aldn1 a_X1_callInFault_1 ?_
      refine V_ildn2 a_X1_callInFault_2 ?_
      refine V_ildn3 a_X1_callInFault_3 ?_
      refine V_ild4 a_X1_callInFault_4 ?_
      refine V_v4R a_X1_callInFault_6 c_X1_116 r1 ?_
      refine V_ist5 a_X1_callInFault_9 ?_
      refine V_ild5 a_X1_callInFault_11 ?_
      refine V_if_eq_f a_X1_callInFault_13 (by omega) (by omega) ?_
      refine V_ild5 a_X1_callInFault_16 ?_
      exact V_iret a_X1_callInFault_18 (⟨rfl, rfl⟩)
  · rw [if_pos c1] at r1 ⊢
    refine V_aldn0 a_X1_callInFault_0 ?_
    refine V_aldn1 a_X1_callInFault_1 ?_
    refine V_ildn2 a_X1_callInFault_2 ?_
    refine V_ildn3 a_X1_callInFault_3 ?_
    refine V_ild4 a_X1_callInFault_4 ?_
    refine V_v4R a_X1_callInFault_6 c_X1_116 r1 ?_
    refine V_ist5 a_X1_callInFault_9 ?_
    refine V_ild5 a_X1_callInFault_11 ?_
    refine V_if_eq_f a_X1_callInFault_13 (by omega) (by omega) ?_
    refine V_ild5 a_X1_callInFault_16 ?_
    exact V_iret a_X1_callInFault_18 (⟨rfl, rfl⟩)
theorem R_goOnFault {d : Int} (hd : iR d) : Rt m_X1_goOnFault 1 0 0 [vR (some (1, 0)), vI d] σ (some (vI (if 1 ≤ d ∧ d ≤ 400 then 0 else 2))) σ := by
  have r3 := R_outside (σ := σ) (v := d) (lo := 1) (hi := 400) hd (by omega) (by omega)
  show V _ 1 0 0 0 [some (vR (some (1, 0))), some (vI d)] [] σ _
  by_cases c : 1 ≤ d ∧ d ≤ 400
  · rw [if_pos c]
    rw [bI_f (fun z => z c)] at r3
    refine V_ildn1 a_X1_goOnFault_0 ?_
    refine V_iconst a_X1_goOnFault_1 ?_
    refine V_sipush a_X1_goOnFault_2 (by decide) ?_
    refine V_n3R a_X1_goOnFault_5 c_X1_39 r3 ?_
    refine V_if_eq_t a_X1_goOnFault_8 (by omega) (by omega) ?_
    refine V_iconst a_X1_goOnFault_15 ?_
    exact V_iret a_X1_goOnFault_16 (⟨rfl, rfl⟩)
  · rw [if_neg c]
    rw [bI_t c] at r3
    refine V_ildn1 a_X1_goOnFault_0 ?_
    refine V_iconst a_X1_goOnFault_1 ?_
    refine V_sipush a_X1_goOnFault_2 (by decide) ?_
    refine V_n3R a_X1_goOnFault_5 c_X1_39 r3 ?_
    refine V_if_eq_f a_X1_goOnFault_8 (by omega) (by omega) ?_
    refine V_iconst a_X1_goOnFault_11 ?_
    refine V_goto a_X1_goOnFault_12 ?_
    exact V_iret a_X1_goOnFault_16 (⟨rfl, rfl⟩)
theorem R_dividendFault {s a : Int} (h : Cl D σ i A) (hs : iR s) (ha : iR a) : Rt m_X1_dividendFault 2 0 0 [vR (some (1, 0)), vR (some (6, i)), vI s, vI a] σ (some (vI (dvdC A s a))) σ := by
  have r1 := R_hasSecurity (s := s) h hs
  have r3 := R_outside (σ := σ) (v := a) (lo := 1) (hi := 9999) ha (by omega) (by omega)
  show V _ 2 0 0 0 [some (vR (some (1, 0))), some (vR (some (6, i))), some (vI s), some (vI a)] [] σ _
  unfold dvdC
  by_cases c1 : 0 ≤ s ∧ s < A 0
  · rw [if_neg (fun z => z c1)]
    rw [bI_t c1] at r1
    by_cases c : 1 ≤ a ∧ a ≤ 9999
    · rw [if_neg (fun z => z c)]
      rw [bI_f (fun z => z c)] at r3
      refine V_aldn1 a_X1_dividendFault_0 ?_
      refine V_ildn2 a_X1_dividendFault_1 ?_
      refine V_v1R a_X1_dividendFault_2 c_X1_35 r1 ?_
      refine V_if_ne_t a_X1_dividendFault_5 (by omega) (by omega) ?_
      refine V_ildn3 a_X1_dividendFault_10 ?_
      refine V_iconst a_X1_dividendFault_11 ?_
      refine V_sipush a_X1_dividendFault_12 (by decide) ?_
      refine V_n3R a_X1_dividendFault_15 c_X1_39 r3 ?_
      refine V_if_eq_t a_X1_dividendFault_18 (by omega) (by omega) ?_
      refine V_iconst a_X1_dividendFault_25 ?_
      exact V_iret a_X1_dividendFault_26 (⟨rfl, rfl⟩)
    · rw [if_pos c]
      rw [bI_t c] at r3
      refine V_aldn1 a_X1_dividendFault_0 ?_
      refine V_ildn2 a_X1_dividendFault_1 ?_
      refine V_v1R a_X1_dividendFault_2 c_X1_35 r1 ?_
      refine V_if_ne_t a_X1_dividendFault_5 (by omega) (by omega) ?_
      refine V_ildn3 a_X1_dividendFault_10 ?_
      refine V_iconst a_X1_dividendFault_11 ?_
      refine V_sipush a_X1_dividendFault_12 (by decide) ?_
      refine V_n3R a_X1_dividendFault_15 c_X1_39 r3 ?_
      refine V_if_eq_f a_X1_dividendFault_18 (by omega) (by omega) ?_
      refine V_iconst a_X1_dividendFault_21 ?_
      refine V_goto a_X1_dividendFault_22 ?_
      exact V_iret a_X1_dividendFault_26 (⟨rfl, rfl⟩)
  · rw [if_pos c1]
    rw [bI_f c1] at r1
    refine V_aldn1 a_X1_dividendFault_0 ?_
    refine V_ildn2 a_X1_dividendFault_1 ?_
    refine V_v1R a_X1_dividendFault_2 c_X1_35 r1 ?_
    refine V_if_ne_f a_X1_dividendFault_5 (by omega) (by omega) ?_
    refine V_iconst a_X1_dividendFault_8 ?_
    exact V_iret a_X1_dividendFault_9 (⟨rfl, rfl⟩)
theorem R_priceFault {s a : Int} (h : Cl D σ i A) (hs : iR s) (ha : iR a) : Rt m_X1_priceFault 2 0 0 [vR (some (1, 0)), vR (some (6, i)), vI s, vI a] σ (some (vI (dvdC A s a))) σ := by
  have r1 := R_hasSecurity (s := s) h hs
  have r3 := R_outside (σ := σ) (v := a) (lo := 1) (hi := 9999) ha (by omega) (by omega)
  show V _ 2 0 0 0 [some (vR (some (1, 0))), some (vR (some (6, i))), some (vI s), some (vI a)] [] σ _
  unfold dvdC
  by_cases c1 : 0 ≤ s ∧ s < A 0
  · rw [if_neg (fun z => z c1)]
    rw [bI_t c1] at r1
    by_cases c : 1 ≤ a ∧ a ≤ 9999
    · rw [if_neg (fun z => z c)]
      rw [bI_f (fun z => z c)] at r3
      refine V_aldn1 a_X1_priceFault_0 ?_
      refine V_ildn2 a_X1_priceFault_1 ?_
      refine V_v1R a_X1_priceFault_2 c_X1_35 r1 ?_
      refine V_if_ne_t a_X1_priceFault_5 (by omega) (by omega) ?_
      refine V_ildn3 a_X1_priceFault_10 ?_
      refine V_iconst a_X1_priceFault_11 ?_
      refine V_sipush a_X1_priceFault_12 (by decide) ?_
      refine V_n3R a_X1_priceFault_15 c_X1_39 r3 ?_
      refine V_if_eq_t a_X1_priceFault_18 (by omega) (by omega) ?_
      refine V_iconst a_X1_priceFault_25 ?_
      exact V_iret a_X1_priceFault_26 (⟨rfl, rfl⟩)
    · rw [if_pos c]
      rw [bI_t c] at r3
      refine V_aldn1 a_X1_priceFault_0 ?_
      refine V_ildn2 a_X1_priceFault_1 ?_
      refine V_v1R a_X1_priceFault_2 c_X1_35 r1 ?_
      refine V_if_ne_t a_X1_priceFault_5 (by omega) (by omega) ?_
      refine V_ildn3 a_X1_priceFault_10 ?_
      refine V_iconst a_X1_priceFault_11 ?_
      refine V_sipush a_X1_priceFault_12 (by decide) ?_
      refine V_n3R a_X1_priceFault_15 c_X1_39 r3 ?_
      refine V_if_eq_f a_X1_priceFault_18 (by omega) (by omega) ?_
      refine V_iconst a_X1_priceFault_21 ?_
      refine V_goto a_X1_priceFault_22 ?_
      exact V_iret a_X1_priceFault_26 (⟨rfl, rfl⟩)
  · rw [if_pos c1]
    rw [bI_f c1] at r1
    refine V_aldn1 a_X1_priceFault_0 ?_
    refine V_ildn2 a_X1_priceFault_1 ?_
    refine V_v1R a_X1_priceFault_2 c_X1_35 r1 ?_
    refine V_if_ne_f a_X1_priceFault_5 (by omega) (by omega) ?_
    refine V_iconst a_X1_priceFault_8 ?_
    exact V_iret a_X1_priceFault_9 (⟨rfl, rfl⟩)
theorem R_giveBackFault {m q : Int} (h : Cl D σ i A) (hm : iR m) (hq : iR q) : Rt m_X1_giveBackFault 1 0 0 [vR (some (1, 0)), vR (some (6, i)), vI m, vI q] σ (some (vI (retC A m q))) σ := by
  have r1 := R_CplaceOf (n := m) h hm
  have hW := h.2.1
  have hn := h.2.2.2.2.n
  have hL := h.2.2.2.1.L
  have hp := place_bd (A := A) (n := m)
  show V _ 1 0 0 0 [some (vR (some (1, 0))), some (vR (some (6, i))), some (vI m), some (vI q), none] [] σ _
  unfold retC
  by_cases c1 : placeA A m = -1
  · rw [if_pos c1]
    refine V_aldn1 a_X1_giveBackFault_0 ?_
    refine V_ildn2 a_X1_giveBackFault_1 ?_
    refine V_v1R a_X1_giveBackFault_2 c_X1_80 r1 ?_
    refine V_ist4 a_X1_giveBackFault_5 ?_
    refine V_ild4 a_X1_giveBackFault_7 ?_
    refine V_iconst a_X1_giveBackFault_9 ?_
    refine V_icmp_ne_f a_X1_giveBackFault_10 (by omega) (by omega) ?_
    refine V_iconst a_X1_giveBackFault_13 ?_
    exact V_iret a_X1_giveBackFault_14 (⟨rfl, rfl⟩)
  · rw [if_neg c1]
    have r2 := R_qty6 (k := placeA A m) h (by omega)
    have hb := quan_Sl ((h.2.2.2.2.loan (k := placeA A m) (by omega) (by omega)).Sl h.1 (by omega) (by omega) (by omega))
    have r3 := R_outside (σ := σ) (v := q) (lo := 1) (hi := quanA A (placeA A m)) hq (by omega) (by omega)
    by_cases c : 1 ≤ q ∧ q ≤ quanA A (placeA A m)
    · rw [if_neg (fun z => z c)]
      rw [bI_f (fun z => z c)] at r3
      refine V_aldn1 a_X1_giveBackFault_0 ?_
      refine V_ildn2 a_X1_giveBackFault_1 ?_
      refine V_v1R a_X1_giveBackFault_2 c_X1_80 r1 ?_
      refine V_ist4 a_X1_giveBackFault_5 ?_
      refine V_ild4 a_X1_giveBackFault_7 ?_
      refine V_iconst a_X1_giveBackFault_9 ?_
      refine V_icmp_ne_t a_X1_giveBackFault_10 (by omega) (by omega) ?_
      refine V_ildn3 a_X1_giveBackFault_15 ?_
      refine V_iconst a_X1_giveBackFault_16 ?_
      refine V_aldn1 a_X1_giveBackFault_17 ?_
      refine V_fin a_X1_giveBackFault_18 f_X1_83 rfl hW ?_
      refine V_ild4 a_X1_giveBackFault_21 ?_
      refine V_aald a_X1_giveBackFault_23 rfl (by omega) (hL _ (by omega) (by omega)) ?_
      refine V_v0R a_X1_giveBackFault_24 c_X1_87 r2 ?_
      refine V_n3R a_X1_giveBackFault_27 c_X1_39 r3 ?_
      refine V_if_eq_t a_X1_giveBackFault_30 (by omega) (by omega) ?_
      refine V_iconst a_X1_giveBackFault_37 ?_
      exact V_iret a_X1_giveBackFault_38 (⟨rfl, rfl⟩)
    · rw [if_pos c]
      rw [bI_t c] at r3
      refine V_aldn1 a_X1_giveBackFault_0 ?_
      refine V_ildn2 a_X1_giveBackFault_1 ?_
      refine V_v1R a_X1_giveBackFault_2 c_X1_80 r1 ?_
      refine V_ist4 a_X1_giveBackFault_5 ?_
      refine V_ild4 a_X1_giveBackFault_7 ?_
      refine V_iconst a_X1_giveBackFault_9 ?_
      refine V_icmp_ne_t a_X1_giveBackFault_10 (by omega) (by omega) ?_
      refine V_ildn3 a_X1_giveBackFault_15 ?_
      refine V_iconst a_X1_giveBackFault_16 ?_
      refine V_aldn1 a_X1_giveBackFault_17 ?_
      refine V_fin a_X1_giveBackFault_18 f_X1_83 rfl hW ?_
      refine V_ild4 a_X1_giveBackFault_21 ?_
      refine V_aald a_X1_giveBackFault_23 rfl (by omega) (hL _ (by omega) (by omega)) ?_
      refine V_v0R a_X1_giveBackFault_24 c_X1_87 r2 ?_
      refine V_n3R a_X1_giveBackFault_27 c_X1_39 r3 ?_
      refine V_if_eq_f a_X1_giveBackFault_30 (by omega) (by omega) ?_
      refine V_iconst a_X1_giveBackFault_33 ?_
      refine V_goto a_X1_giveBackFault_34 ?_
      exact V_iret a_X1_giveBackFault_38 (⟨rfl, rfl⟩)
end Fa

