def owX (A : St) (b x : Int) : Int := sm (fun k => if A (83 + 23 * k + 1) = b ∧ A (83 + 23 * k + 2) ≠ x then quanA A k * A (15 + A (83 + 23 * k + 2)) else 0) (A 7)
def bwX (A : St) (b s : Int) : Int := sm (fun k => if A (83 + 23 * k + 1) = b ∧ A (83 + 23 * k + 2) = s then quanA A k else 0) (A 7)
def acP (A : St) (k n : Int) : Int := if k = 0 then (if 0 ≤ n ∧ n < A 1 then n else -1) else if k = 1 then (if 0 ≤ n ∧ n < A 2 then 6 + n else -1) else if 2 ≤ k ∧ k ≤ 4 then (if n = 0 then 8 + k else -1) else -1
theorem ow_expo {D : Int} {A : St} (hI : Inv D A) {b : Int} : owX A b (-1) = expoA A b := by
  unfold owX expoA
  refine sm_congr (fun k k0 k1 => ?_)
  obtain ⟨-, -, q2, -⟩ := hI.loan k0 k1
  by_cases q : A (83 + 23 * k + 1) = b
  · rw [if_pos q, if_pos ⟨q, by omega⟩]
  · rw [if_neg q, if_neg (fun z => q z.1)]
section Pm
variable {D : Int} {σ : Hp} {A : St} {i : Nat}
theorem R_qty6 {k : Int} (h : Cl D σ i A) (hk : 0 ≤ k ∧ k < A 7) : Rt m_X3_quantity 0 0 0 [vR (some (3, lid σ i k))] σ (some (vI (quanA A k))) σ := by
  have r := R_Lquantity h.2.1 (h.2.2.1.loan hk.1 hk.2).2.2.2.2.2
  rw [quan6 h.2.2.2.2 hk.1 hk.2] at r
  exact r
theorem R_valueOf {k : Int} (h : Cl D σ i A) (hk : 0 ≤ k ∧ k < A 7) : Rt m_X6_valueOf 1 0 0 [vR (some (6, i)), vR (some (3, lid σ i k))] σ (some (vL (quanA A k * A (15 + A (83 + 23 * k + 2))))) σ := by
  have h' := h
  obtain ⟨hD, hW, hR, hS, hI⟩ := h
  have hn := hI.n
  obtain ⟨g0, g1, g2, g3, g4, gs⟩ := hR.loan hk.1 hk.2
  obtain ⟨-, -, q2, -⟩ := hI.loan hk.1 hk.2
  have hq := quan_bd hI hk.1 hk.2
  have hp := (hI.price q2.1 q2.2).1
  have e := (hR.sec q2.1 q2.2).1
  show V _ 1 0 0 0 [some (vR (some (6, i))), some (vR (some (3, lid σ i k)))] [] σ _
  refine V_aldn1 a_X6_valueOf_0 ?_
  refine V_v0R a_X6_valueOf_1 c_X6_108 (R_qty6 h' hk) ?_
  refine V_i2l a_X6_valueOf_4 (by omega) ?_
  refine V_aldn0 a_X6_valueOf_5 ?_
  refine V_fin a_X6_valueOf_6 f_X6_15 rfl hW ?_
  refine V_aldn1 a_X6_valueOf_9 ?_
  refine V_getIE a_X6_valueOf_10 f_X6_76 rfl g2 ?_
  refine V_ialdE a_X6_valueOf_13 rfl (by omega) e ?_
  refine V_i2l a_X6_valueOf_14 (by omega) ?_
  refine V_lmul a_X6_valueOf_15 ?_
  exact V_lret a_X6_valueOf_16 (⟨rfl, rfl⟩)
theorem R_borrowedBy {b s : Int} (h : Cl D σ i A) (hb : iR b) (hs : iR s) : Rt m_X6_borrowedBy 1 0 0 [vR (some (6, i)), vI b, vI s] σ (some (vI (bwX A b s))) σ := by
  have h' := h
  obtain ⟨hD, hW, hR, hS, hI⟩ := h
  obtain ⟨n0, n1, n2, n3, n4, n5, n6, n7, n8⟩ := hR.1
  have hn := hI.n
  have hL := hS.L
  show V _ 1 0 0 0 [some (vR (some (6, i))), some (vI b), some (vI s), none, none] [] σ _
  unfold bwX
  refine V_iconst a_X6_borrowedBy_0 ?_
  refine V_istn3 a_X6_borrowedBy_1 ?_
  refine V_iconst a_X6_borrowedBy_2 ?_
  refine V_ist4 a_X6_borrowedBy_3 ?_
  refine loopI (P := fun k => V _ 1 0 0 5 [some (vR (some (6, i))), some (vI b), some (vI s), some (vI (sm (fun k => if A (83 + 23 * k + 1) = b ∧ A (83 + 23 * k + 2) = s then quanA A k else 0) k)), some (vI k)] [] σ _) (N := A 7) (by omega) ?_ ?_
  · refine V_ild4 a_X6_borrowedBy_5 ?_
    refine V_aldn0 a_X6_borrowedBy_7 ?_
    refine V_fin a_X6_borrowedBy_8 f_X6_9 rfl hW ?_
    refine V_iconst a_X6_borrowedBy_11 ?_
    refine V_ialdE a_X6_borrowedBy_12 rfl (by omega) n3 ?_
    refine V_icmp_ge_t a_X6_borrowedBy_13 (by omega) (by omega) ?_
    refine V_ildn3 a_X6_borrowedBy_63 ?_
    exact V_iret a_X6_borrowedBy_64 (⟨rfl, rfl⟩)
  · intro k k0 k1 ih
    obtain ⟨g0, g1, g2, g3, g4, gs⟩ := hR.loan k0 k1
    obtain ⟨-, q1, q2, -⟩ := hI.loan k0 k1
    rw [sm_s _ k0] at ih
    by_cases c1 : A (83 + 23 * k + 1) = b
    · by_cases c2 : A (83 + 23 * k + 2) = s
      · rw [if_pos ⟨c1, c2⟩] at ih
        refine V_ild4 a_X6_borrowedBy_5 ?_
        refine V_aldn0 a_X6_borrowedBy_7 ?_
        refine V_fin a_X6_borrowedBy_8 f_X6_9 rfl hW ?_
        refine V_iconst a_X6_borrowedBy_11 ?_
        refine V_ialdE a_X6_borrowedBy_12 rfl (by omega) n3 ?_
        refine V_icmp_ge_f a_X6_borrowedBy_13 (by omega) (by omega) ?_
        refine V_aldn0 a_X6_borrowedBy_16 ?_
        refine V_fin a_X6_borrowedBy_17 f_X6_48 rfl hW ?_
        refine V_ild4 a_X6_borrowedBy_20 ?_
        refine V_aald a_X6_borrowedBy_22 rfl (by omega) (hL _ (by omega) (by omega)) ?_
        refine V_getIE a_X6_borrowedBy_23 f_X6_105 rfl g1 ?_
        refine V_ildn1 a_X6_borrowedBy_26 ?_
        refine V_icmp_ne_f a_X6_borrowedBy_27 (by omega) (by omega) ?_
        refine V_aldn0 a_X6_borrowedBy_30 ?_
        refine V_fin a_X6_borrowedBy_31 f_X6_48 rfl hW ?_
        refine V_ild4 a_X6_borrowedBy_34 ?_
        refine V_aald a_X6_borrowedBy_36 rfl (by omega) (hL _ (by omega) (by omega)) ?_
        refine V_getIE a_X6_borrowedBy_37 f_X6_76 rfl g2 ?_
        refine V_ildn2 a_X6_borrowedBy_40 ?_
        refine V_icmp_ne_f a_X6_borrowedBy_41 (by omega) (by omega) ?_
        refine V_ildn3 a_X6_borrowedBy_44 ?_
        refine V_aldn0 a_X6_borrowedBy_45 ?_
        refine V_fin a_X6_borrowedBy_46 f_X6_48 rfl hW ?_
        refine V_ild4 a_X6_borrowedBy_49 ?_
        refine V_aald a_X6_borrowedBy_51 rfl (by omega) (hL _ (by omega) (by omega)) ?_
        refine V_v0R a_X6_borrowedBy_52 c_X6_108 (R_qty6 h' ⟨k0, k1⟩) ?_
        refine V_iadd a_X6_borrowedBy_55 ?_
        refine V_istn3 a_X6_borrowedBy_56 ?_
        refine V_inc4 a_X6_borrowedBy_57 ?_
        refine V_goto a_X6_borrowedBy_60 ?_
        exact ih
      · rw [if_neg (fun z => c2 z.2), Int.add_zero] at ih
        refine V_ild4 a_X6_borrowedBy_5 ?_
        refine V_aldn0 a_X6_borrowedBy_7 ?_
        refine V_fin a_X6_borrowedBy_8 f_X6_9 rfl hW ?_
        refine V_iconst a_X6_borrowedBy_11 ?_
        refine V_ialdE a_X6_borrowedBy_12 rfl (by omega) n3 ?_
        refine V_icmp_ge_f a_X6_borrowedBy_13 (by omega) (by omega) ?_
        refine V_aldn0 a_X6_borrowedBy_16 ?_
        refine V_fin a_X6_borrowedBy_17 f_X6_48 rfl hW ?_
        refine V_ild4 a_X6_borrowedBy_20 ?_
        refine V_aald a_X6_borrowedBy_22 rfl (by omega) (hL _ (by omega) (by omega)) ?_
        refine V_getIE a_X6_borrowedBy_23 f_X6_105 rfl g1 ?_
        refine V_ildn1 a_X6_borrowedBy_26 ?_
        refine V_icmp_ne_f a_X6_borrowedBy_27 (by omega) (by omega) ?_
        refine V_aldn0 a_X6_borrowedBy_30 ?_
        refine V_fin a_X6_borrowedBy_31 f_X6_48 rfl hW ?_
        refine V_ild4 a_X6_borrowedBy_34 ?_
        refine V_aald a_X6_borrowedBy_36 rfl (by omega) (hL _ (by omega) (by omega)) ?_
        refine V_getIE a_X6_borrowedBy_37 f_X6_76 rfl g2 ?_
        refine V_ildn2 a_X6_borrowedBy_40 ?_
        refine V_icmp_ne_t a_X6_borrowedBy_41 (by omega) (by omega) ?_
        refine V_inc4 a_X6_borrowedBy_57 ?_
        refine V_goto a_X6_borrowedBy_60 ?_
        exact ih
    · rw [if_neg (fun z => c1 z.1), Int.add_zero] at ih
      refine V_ild4 a_X6_borrowedBy_5 ?_
      refine V_aldn0 a_X6_borrowedBy_7 ?_
      refine V_fin a_X6_borrowedBy_8 f_X6_9 rfl hW ?_
      refine V_iconst a_X6_borrowedBy_11 ?_
      refine V_ialdE a_X6_borrowedBy_12 rfl (by omega) n3 ?_
      refine V_icmp_ge_f a_X6_borrowedBy_13 (by omega) (by omega) ?_
      refine V_aldn0 a_X6_borrowedBy_16 ?_
      refine V_fin a_X6_borrowedBy_17 f_X6_48 rfl hW ?_
      refine V_ild4 a_X6_borrowedBy_20 ?_
      refine V_aald a_X6_borrowedBy_22 rfl (by omega) (hL _ (by omega) (by omega)) ?_
      refine V_getIE a_X6_borrowedBy_23 f_X6_105 rfl g1 ?_
      refine V_ildn1 a_X6_borrowedBy_26 ?_
      refine V_icmp_ne_t a_X6_borrowedBy_27 (by omega) (by omega) ?_
      refine V_inc4 a_X6_borrowedBy_57 ?_
      refine V_goto a_X6_borrowedBy_60 ?_
      exact ih
theorem R_owedBy {b x : Int} (h : Cl D σ i A) (hb : iR b) (hs : iR x) : Rt m_X6_owedBy 2 0 0 [vR (some (6, i)), vI b, vI x] σ (some (vL (owX A b x))) σ := by
  have h' := h
  obtain ⟨hD, hW, hR, hS, hI⟩ := h
  obtain ⟨n0, n1, n2, n3, n4, n5, n6, n7, n8⟩ := hR.1
  have hn := hI.n
  have hL := hS.L
  show V _ 2 0 0 0 [some (vR (some (6, i))), some (vI b), some (vI x), none, none, none] [] σ _
  unfold owX
  refine V_lconst0 a_X6_owedBy_0 ?_
  refine V_lstn3 a_X6_owedBy_1 ?_
  refine V_iconst a_X6_owedBy_2 ?_
  refine V_ist5 a_X6_owedBy_3 ?_
  refine loopI (P := fun k => V _ 2 0 0 5 [some (vR (some (6, i))), some (vI b), some (vI x), some (vL (sm (fun k => if A (83 + 23 * k + 1) = b ∧ A (83 + 23 * k + 2) ≠ x then quanA A k * A (15 + A (83 + 23 * k + 2)) else 0) k)), none, some (vI k)] [] σ _) (N := A 7) (by omega) ?_ ?_
  · refine V_ild5 a_X6_owedBy_5 ?_
    refine V_aldn0 a_X6_owedBy_7 ?_
    refine V_fin a_X6_owedBy_8 f_X6_9 rfl hW ?_
    refine V_iconst a_X6_owedBy_11 ?_
    refine V_ialdE a_X6_owedBy_12 rfl (by omega) n3 ?_
    refine V_icmp_ge_t a_X6_owedBy_13 (by omega) (by omega) ?_
    refine V_lldn3 a_X6_owedBy_64 ?_
    exact V_lret a_X6_owedBy_65 (⟨rfl, rfl⟩)
  · intro k k0 k1 ih
    obtain ⟨g0, g1, g2, g3, g4, gs⟩ := hR.loan k0 k1
    obtain ⟨-, q1, q2, -⟩ := hI.loan k0 k1
    rw [sm_s _ k0] at ih
    by_cases c1 : A (83 + 23 * k + 1) = b
    · by_cases c2 : A (83 + 23 * k + 2) = x
      · rw [if_neg (fun z => z.2 c2), Int.add_zero] at ih
        refine V_ild5 a_X6_owedBy_5 ?_
        refine V_aldn0 a_X6_owedBy_7 ?_
        refine V_fin a_X6_owedBy_8 f_X6_9 rfl hW ?_
        refine V_iconst a_X6_owedBy_11 ?_
        refine V_ialdE a_X6_owedBy_12 rfl (by omega) n3 ?_
        refine V_icmp_ge_f a_X6_owedBy_13 (by omega) (by omega) ?_
        refine V_aldn0 a_X6_owedBy_16 ?_
        refine V_fin a_X6_owedBy_17 f_X6_48 rfl hW ?_
        refine V_ild5 a_X6_owedBy_20 ?_
        refine V_aald a_X6_owedBy_22 rfl (by omega) (hL _ (by omega) (by omega)) ?_
        refine V_getIE a_X6_owedBy_23 f_X6_105 rfl g1 ?_
        refine V_ildn1 a_X6_owedBy_26 ?_
        refine V_icmp_ne_f a_X6_owedBy_27 (by omega) (by omega) ?_
        refine V_aldn0 a_X6_owedBy_30 ?_
        refine V_fin a_X6_owedBy_31 f_X6_48 rfl hW ?_
        refine V_ild5 a_X6_owedBy_34 ?_
        refine V_aald a_X6_owedBy_36 rfl (by omega) (hL _ (by omega) (by omega)) ?_
        refine V_getIE a_X6_owedBy_37 f_X6_76 rfl g2 ?_
        refine V_ildn2 a_X6_owedBy_40 ?_
        refine V_icmp_eq_t a_X6_owedBy_41 (by omega) (by omega) ?_
        refine V_inc5 a_X6_owedBy_58 ?_
        refine V_goto a_X6_owedBy_61 ?_
        exact ih
      · rw [if_pos ⟨c1, c2⟩] at ih
        refine V_ild5 a_X6_owedBy_5 ?_
        refine V_aldn0 a_X6_owedBy_7 ?_
        refine V_fin a_X6_owedBy_8 f_X6_9 rfl hW ?_
        refine V_iconst a_X6_owedBy_11 ?_
        refine V_ialdE a_X6_owedBy_12 rfl (by omega) n3 ?_
        refine V_icmp_ge_f a_X6_owedBy_13 (by omega) (by omega) ?_
        refine V_aldn0 a_X6_owedBy_16 ?_
        refine V_fin a_X6_owedBy_17 f_X6_48 rfl hW ?_
        refine V_ild5 a_X6_owedBy_20 ?_
        refine V_aald a_X6_owedBy_22 rfl (by omega) (hL _ (by omega) (by omega)) ?_
        refine V_getIE a_X6_owedBy_23 f_X6_105 rfl g1 ?_
        refine V_ildn1 a_X6_owedBy_26 ?_
        refine V_icmp_ne_f a_X6_owedBy_27 (by omega) (by omega) ?_
        refine V_aldn0 a_X6_owedBy_30 ?_
        refine V_fin a_X6_owedBy_31 f_X6_48 rfl hW ?_
        refine V_ild5 a_X6_owedBy_34 ?_
        refine V_aald a_X6_owedBy_36 rfl (by omega) (hL _ (by omega) (by omega)) ?_
        refine V_getIE a_X6_owedBy_37 f_X6_76 rfl g2 ?_
        refine V_ildn2 a_X6_owedBy_40 ?_
        refine V_icmp_eq_f a_X6_owedBy_41 (by omega) (by omega) ?_
        refine V_lldn3 a_X6_owedBy_44 ?_
        refine V_aldn0 a_X6_owedBy_45 ?_
        refine V_aldn0 a_X6_owedBy_46 ?_
        refine V_fin a_X6_owedBy_47 f_X6_48 rfl hW ?_
        refine V_ild5 a_X6_owedBy_50 ?_
        refine V_aald a_X6_owedBy_52 rfl (by omega) (hL _ (by omega) (by omega)) ?_
        refine V_v1R a_X6_owedBy_53 c_X6_112 (R_valueOf h' ⟨k0, k1⟩) ?_
        refine V_ladd a_X6_owedBy_56 ?_
        refine V_lstn3 a_X6_owedBy_57 ?_
        refine V_inc5 a_X6_owedBy_58 ?_
        refine V_goto a_X6_owedBy_61 ?_
        exact ih
    · rw [if_neg (fun z => c1 z.1), Int.add_zero] at ih
      refine V_ild5 a_X6_owedBy_5 ?_
      refine V_aldn0 a_X6_owedBy_7 ?_
      refine V_fin a_X6_owedBy_8 f_X6_9 rfl hW ?_
      refine V_iconst a_X6_owedBy_11 ?_
      refine V_ialdE a_X6_owedBy_12 rfl (by omega) n3 ?_
      refine V_icmp_ge_f a_X6_owedBy_13 (by omega) (by omega) ?_
      refine V_aldn0 a_X6_owedBy_16 ?_
      refine V_fin a_X6_owedBy_17 f_X6_48 rfl hW ?_
      refine V_ild5 a_X6_owedBy_20 ?_
      refine V_aald a_X6_owedBy_22 rfl (by omega) (hL _ (by omega) (by omega)) ?_
      refine V_getIE a_X6_owedBy_23 f_X6_105 rfl g1 ?_
      refine V_ildn1 a_X6_owedBy_26 ?_
      refine V_icmp_ne_t a_X6_owedBy_27 (by omega) (by omega) ?_
      refine V_inc5 a_X6_owedBy_58 ?_
      refine V_goto a_X6_owedBy_61 ?_
      exact ih
theorem R_valueOfLoans (h : Cl D σ i A) : Rt m_X6_valueOfLoans 2 0 0 [vR (some (6, i))] σ (some (vL (sm (fun k => quanA A k * A (15 + A (83 + 23 * k + 2))) (A 7)))) σ := by
  have h' := h
  obtain ⟨hD, hW, hR, hS, hI⟩ := h
  obtain ⟨n0, n1, n2, n3, n4, n5, n6, n7, n8⟩ := hR.1
  have hn := hI.n
  have hL := hS.L
  show V _ 2 0 0 0 [some (vR (some (6, i))), none, none, none] [] σ _
  refine V_lconst0 a_X6_valueOfLoans_0 ?_
  refine V_lstn1 a_X6_valueOfLoans_1 ?_
  refine V_iconst a_X6_valueOfLoans_2 ?_
  refine V_istn3 a_X6_valueOfLoans_3 ?_
  refine loopI (P := fun k => V _ 2 0 0 4 [some (vR (some (6, i))), some (vL (sm (fun k => quanA A k * A (15 + A (83 + 23 * k + 2))) k)), none, some (vI k)] [] σ _) (N := A 7) (by omega) ?_ ?_
  · refine V_ildn3 a_X6_valueOfLoans_4 ?_
    refine V_aldn0 a_X6_valueOfLoans_5 ?_
    refine V_fin a_X6_valueOfLoans_6 f_X6_9 rfl hW ?_
    refine V_iconst a_X6_valueOfLoans_9 ?_
    refine V_ialdE a_X6_valueOfLoans_10 rfl (by omega) n3 ?_
    refine V_icmp_ge_t a_X6_valueOfLoans_11 (by omega) (by omega) ?_
    refine V_lldn1 a_X6_valueOfLoans_33 ?_
    exact V_lret a_X6_valueOfLoans_34 (⟨rfl, rfl⟩)
  · intro k k0 k1 ih
    rw [sm_s _ k0] at ih
    refine V_ildn3 a_X6_valueOfLoans_4 ?_
    refine V_aldn0 a_X6_valueOfLoans_5 ?_
    refine V_fin a_X6_valueOfLoans_6 f_X6_9 rfl hW ?_
    refine V_iconst a_X6_valueOfLoans_9 ?_
    refine V_ialdE a_X6_valueOfLoans_10 rfl (by omega) n3 ?_
    refine V_icmp_ge_f a_X6_valueOfLoans_11 (by omega) (by omega) ?_
    refine V_lldn1 a_X6_valueOfLoans_14 ?_
    refine V_aldn0 a_X6_valueOfLoans_15 ?_
    refine V_aldn0 a_X6_valueOfLoans_16 ?_
    refine V_fin a_X6_valueOfLoans_17 f_X6_48 rfl hW ?_
    refine V_ildn3 a_X6_valueOfLoans_20 ?_
    refine V_aald a_X6_valueOfLoans_21 rfl (by omega) (hL _ (by omega) (by omega)) ?_
    refine V_v1R a_X6_valueOfLoans_22 c_X6_112 (R_valueOf h' ⟨k0, k1⟩) ?_
    refine V_ladd a_X6_valueOfLoans_25 ?_
    refine V_lstn1 a_X6_valueOfLoans_26 ?_
    refine V_inc3 a_X6_valueOfLoans_27 ?_
    refine V_goto a_X6_valueOfLoans_30 ?_
    exact ih
theorem rcq_bd (hI : Inv D A) {k : Int} (k0 : 0 ≤ k) (k1 : k < A 7) : 0 ≤ rcqA A k ∧ rcqA A k ≤ 599994 := by
  have hn := hI.n
  have h1 := sm_bd (f := fun l => A (83 + 23 * k + 11 + l)) (k := A 1) (lo := 0) (hi := 99999) (by omega) (fun l l0 l1 => by
    have := ((hI.loan k0 k1).sl l0 (by omega)).1
    show 0 ≤ A (83 + 23 * k + 11 + l) ∧ A (83 + 23 * k + 11 + l) ≤ 99999
    omega)
  unfold rcqA
  omega
theorem R_recalledNow (h : Cl D σ i A) : Rt m_X6_recalledNow 1 0 0 [vR (some (6, i))] σ (some (vL (sm (fun k => rcqA A k) (A 7)))) σ := by
  obtain ⟨hD, hW, hR, hS, hI⟩ := h
  obtain ⟨n0, n1, n2, n3, n4, n5, n6, n7, n8⟩ := hR.1
  have hn := hI.n
  have hL := hS.L
  show V _ 1 0 0 0 [some (vR (some (6, i))), none, none, none] [] σ _
  refine V_lconst0 a_X6_recalledNow_0 ?_
  refine V_lstn1 a_X6_recalledNow_1 ?_
  refine V_iconst a_X6_recalledNow_2 ?_
  refine V_istn3 a_X6_recalledNow_3 ?_
  refine loopI (P := fun k => V _ 1 0 0 4 [some (vR (some (6, i))), some (vL (sm (fun k => rcqA A k) k)), none, some (vI k)] [] σ _) (N := A 7) (by omega) ?_ ?_
  · refine V_ildn3 a_X6_recalledNow_4 ?_
    refine V_aldn0 a_X6_recalledNow_5 ?_
    refine V_fin a_X6_recalledNow_6 f_X6_9 rfl hW ?_
    refine V_iconst a_X6_recalledNow_9 ?_
    refine V_ialdE a_X6_recalledNow_10 rfl (by omega) n3 ?_
    refine V_icmp_ge_t a_X6_recalledNow_11 (by omega) (by omega) ?_
    refine V_lldn1 a_X6_recalledNow_33 ?_
    exact V_lret a_X6_recalledNow_34 (⟨rfl, rfl⟩)
  · intro k k0 k1 ih
    rw [sm_s _ k0] at ih
    have r := R_Lrecalled hW (hR.loan k0 k1).2.2.2.2.2
    rw [rcq6 hI k0 k1] at r
    have hb := rcq_bd hI k0 k1
    refine V_ildn3 a_X6_recalledNow_4 ?_
    refine V_aldn0 a_X6_recalledNow_5 ?_
    refine V_fin a_X6_recalledNow_6 f_X6_9 rfl hW ?_
    refine V_iconst a_X6_recalledNow_9 ?_
    refine V_ialdE a_X6_recalledNow_10 rfl (by omega) n3 ?_
    refine V_icmp_ge_f a_X6_recalledNow_11 (by omega) (by omega) ?_
    refine V_lldn1 a_X6_recalledNow_14 ?_
    refine V_aldn0 a_X6_recalledNow_15 ?_
    refine V_fin a_X6_recalledNow_16 f_X6_48 rfl hW ?_
    refine V_ildn3 a_X6_recalledNow_19 ?_
    refine V_aald a_X6_recalledNow_20 rfl (by omega) (hL _ (by omega) (by omega)) ?_
    refine V_v0R a_X6_recalledNow_21 c_X6_116 r ?_
    refine V_i2l a_X6_recalledNow_24 (by omega) ?_
    refine V_ladd a_X6_recalledNow_25 ?_
    refine V_lstn1 a_X6_recalledNow_26 ?_
    refine V_inc3 a_X6_recalledNow_27 ?_
    refine V_goto a_X6_recalledNow_30 ?_
    exact ih
theorem R_lenderBalances (h : Cl D σ i A) : Rt m_X6_lenderBalances 0 0 0 [vR (some (6, i))] σ (some (vL (sm (fun l => A (73 + l)) (A 1)))) σ := by
  obtain ⟨hD, hW, hR, hS, hI⟩ := h
  obtain ⟨n0, n1, n2, n3, n4, n5, n6, n7, n8⟩ := hR.1
  have hn := hI.n
  have hJ := hR.2.2.2.2.2.2.1.1
  show V _ 0 0 0 0 [some (vR (some (6, i))), none, none, none] [] σ _
  refine V_lconst0 a_X6_lenderBalances_0 ?_
  refine V_lstn1 a_X6_lenderBalances_1 ?_
  refine V_iconst a_X6_lenderBalances_2 ?_
  refine V_istn3 a_X6_lenderBalances_3 ?_
  refine loopI (P := fun l => V _ 0 0 0 4 [some (vR (some (6, i))), some (vL (sm (fun l => A (73 + l)) l)), none, some (vI l)] [] σ _) (N := A 1) (by omega) ?_ ?_
  · refine V_ildn3 a_X6_lenderBalances_4 ?_
    refine V_aldn0 a_X6_lenderBalances_5 ?_
    refine V_fin a_X6_lenderBalances_6 f_X6_9 rfl hW ?_
    refine V_iconst a_X6_lenderBalances_9 ?_
    refine V_ialdE a_X6_lenderBalances_10 rfl (by omega) n1 ?_
    refine V_icmp_ge_t a_X6_lenderBalances_11 (by omega) (by omega) ?_
    refine V_lldn1 a_X6_lenderBalances_29 ?_
    exact V_lret a_X6_lenderBalances_30 (⟨rfl, rfl⟩)
  · intro l l0 l1 ih
    rw [sm_s _ l0] at ih
    refine V_ildn3 a_X6_lenderBalances_4 ?_
    refine V_aldn0 a_X6_lenderBalances_5 ?_
    refine V_fin a_X6_lenderBalances_6 f_X6_9 rfl hW ?_
    refine V_iconst a_X6_lenderBalances_9 ?_
    refine V_ialdE a_X6_lenderBalances_10 rfl (by omega) n1 ?_
    refine V_icmp_ge_f a_X6_lenderBalances_11 (by omega) (by omega) ?_
    refine V_lldn1 a_X6_lenderBalances_14 ?_
    refine V_aldn0 a_X6_lenderBalances_15 ?_
    refine V_fin a_X6_lenderBalances_16 f_X6_39 rfl hW ?_
    refine V_ildn3 a_X6_lenderBalances_19 ?_
    refine V_laldE a_X6_lenderBalances_20 rfl (by omega) (hJ l l0 (by omega)) ?_
    refine V_ladd a_X6_lenderBalances_21 ?_
    refine V_lstn1 a_X6_lenderBalances_22 ?_
    refine V_inc3 a_X6_lenderBalances_23 ?_
    refine V_goto a_X6_lenderBalances_26 ?_
    exact ih
theorem R_feeOf {k l : Int} (h : Cl D σ i A) (hk : 0 ≤ k ∧ k < A 7) (hl : 0 ≤ l ∧ l < 6) : Rt m_X6_feeOf 0 0 0 [vR (some (6, i)), vR (some (3, lid σ i k)), vI l] σ (some (vL (feeA A k l))) σ := by
  obtain ⟨hD, hW, hR, hS, hI⟩ := h
  have hn := hI.n
  obtain ⟨g0, g1, g2, g3, g4, gs⟩ := hR.loan hk.1 hk.2
  obtain ⟨-, -, q2, q3, -, q5⟩ := hI.loan hk.1 hk.2
  have hp := hI.price q2.1 q2.2
  have e := hR.sec q2.1 q2.2
  have hf := fee_bd hI hk hl
  have hs := (q5 l hl.1 hl.2).1
  show V _ 0 0 0 0 [some (vR (some (6, i))), some (vR (some (3, lid σ i k))), some (vI l), none] [] σ _
  refine V_aldn1 a_X6_feeOf_0 ?_
  refine V_getIE a_X6_feeOf_1 f_X6_76 rfl g2 ?_
  refine V_istn3 a_X6_feeOf_4 ?_
  refine V_aldn1 a_X6_feeOf_5 ?_
  refine V_fin a_X6_feeOf_6 f_X6_80 rfl hW ?_
  refine V_ildn2 a_X6_feeOf_9 ?_
  refine V_ialdE a_X6_feeOf_10 rfl (by omega) (gs _ (by omega) (by omega)).1 ?_
  refine V_i2l a_X6_feeOf_11 (by omega) ?_
  refine V_aldn0 a_X6_feeOf_12 ?_
  refine V_fin a_X6_feeOf_13 f_X6_15 rfl hW ?_
  refine V_ildn3 a_X6_feeOf_16 ?_
  refine V_ialdE a_X6_feeOf_17 rfl (by omega) e.1 ?_
  refine V_i2l a_X6_feeOf_18 (by omega) ?_
  refine V_lmul a_X6_feeOf_19 ?_
  refine V_aldn0 a_X6_feeOf_20 ?_
  refine V_fin a_X6_feeOf_21 f_X6_18 rfl hW ?_
  refine V_ildn3 a_X6_feeOf_24 ?_
  refine V_ialdE a_X6_feeOf_25 rfl (by omega) e.2 ?_
  refine V_aldn1 a_X6_feeOf_26 ?_
  refine V_getIE a_X6_feeOf_27 f_X6_119 rfl g3 ?_
  refine V_isub a_X6_feeOf_30 ?_
  refine V_i2l a_X6_feeOf_31 (by omega) ?_
  refine V_lmul a_X6_feeOf_32 ?_
  refine V_ldc2 a_X6_feeOf_33 q_X6_122 ?_
  refine V_ldiv a_X6_feeOf_36 (by omega) ?_
  exact V_lret a_X6_feeOf_37 (⟨rfl, rfl⟩)
theorem R_CplaceOf {n : Int} (h : Cl D σ i A) (hn0 : iR n) : Rt m_X6_placeOf 0 0 0 [vR (some (6, i)), vI n] σ (some (vI (placeA A n))) σ := by
  obtain ⟨hD, hW, hR, hS, hI⟩ := h
  obtain ⟨n0, n1, n2, n3, n4, n5, n6, n7, n8⟩ := hR.1
  have hn := hI.n
  have hL := hS.L
  show V _ 0 0 0 0 [some (vR (some (6, i))), some (vI n), none] [] σ _
  refine V_iconst a_X6_placeOf_0 ?_
  refine V_istn2 a_X6_placeOf_1 ?_
  refine loopI (P := fun k => (∀ j, 0 ≤ j → j < k → A (83 + 23 * j + 0) ≠ n) → V _ 0 0 0 2 [some (vR (some (6, i))), some (vI n), some (vI k)] [] σ _) (N := A 7) (by omega) ?_ ?_ (fun j _ _ => by omega)
  · intro hno
    refine V_ildn2 a_X6_placeOf_2 ?_
    refine V_aldn0 a_X6_placeOf_3 ?_
    refine V_fin a_X6_placeOf_4 f_X6_9 rfl hW ?_
    refine V_iconst a_X6_placeOf_7 ?_
    refine V_ialdE a_X6_placeOf_8 rfl (by omega) n3 ?_
    refine V_icmp_ge_t a_X6_placeOf_9 (by omega) (by omega) ?_
    refine V_iconst a_X6_placeOf_33 ?_
    exact V_iret a_X6_placeOf_34 (⟨by rw [show placeA A n = -1 from fst_none (fun j j0 j1 => decide_eq_false (hno j j0 j1))], rfl⟩)
  · intro k k0 k1 ih hno
    obtain ⟨g0, g1, g2, g3, g4, gs⟩ := hR.loan k0 k1
    obtain ⟨q0, -⟩ := hI.loan k0 k1
    by_cases q : A (83 + 23 * k + 0) = n
    · refine V_ildn2 a_X6_placeOf_2 ?_
      refine V_aldn0 a_X6_placeOf_3 ?_
      refine V_fin a_X6_placeOf_4 f_X6_9 rfl hW ?_
      refine V_iconst a_X6_placeOf_7 ?_
      refine V_ialdE a_X6_placeOf_8 rfl (by omega) n3 ?_
      refine V_icmp_ge_f a_X6_placeOf_9 (by omega) (by omega) ?_
      refine V_aldn0 a_X6_placeOf_12 ?_
      refine V_fin a_X6_placeOf_13 f_X6_48 rfl hW ?_
      refine V_ildn2 a_X6_placeOf_16 ?_
      refine V_aald a_X6_placeOf_17 rfl (by omega) (hL _ (by omega) (by omega)) ?_
      refine V_getIE a_X6_placeOf_18 f_X6_131 rfl g0 ?_
      refine V_ildn1 a_X6_placeOf_21 ?_
      refine V_icmp_ne_f a_X6_placeOf_22 (by omega) (by omega) ?_
      refine V_ildn2 a_X6_placeOf_25 ?_
      exact V_iret a_X6_placeOf_26 (⟨by rw [show placeA A n = k from fst_found k0 k1 (decide_eq_true q) (fun j j0 j1 => decide_eq_false (hno j j0 j1))], rfl⟩)
    · refine V_ildn2 a_X6_placeOf_2 ?_
      refine V_aldn0 a_X6_placeOf_3 ?_
      refine V_fin a_X6_placeOf_4 f_X6_9 rfl hW ?_
      refine V_iconst a_X6_placeOf_7 ?_
      refine V_ialdE a_X6_placeOf_8 rfl (by omega) n3 ?_
      refine V_icmp_ge_f a_X6_placeOf_9 (by omega) (by omega) ?_
      refine V_aldn0 a_X6_placeOf_12 ?_
      refine V_fin a_X6_placeOf_13 f_X6_48 rfl hW ?_
      refine V_ildn2 a_X6_placeOf_16 ?_
      refine V_aald a_X6_placeOf_17 rfl (by omega) (hL _ (by omega) (by omega)) ?_
      refine V_getIE a_X6_placeOf_18 f_X6_131 rfl g0 ?_
      refine V_ildn1 a_X6_placeOf_21 ?_
      refine V_icmp_ne_t a_X6_placeOf_22 (by omega) (by omega) ?_
      refine V_inc2 a_X6_placeOf_27 ?_
      refine V_goto a_X6_placeOf_30 ?_
      exact ih (fun j j0 j1 => by rcases Classical.em (j = k) with z | z; (rw [z]; exact q); exact hno j j0 (by omega))
theorem R_accountPlace {k n : Int} (h : Cl D σ i A) (hk : iR k) (hn0 : iR n) : Rt m_X6_accountPlace 2 0 0 [vR (some (6, i)), vI k, vI n] σ (some (vI (acP A k n))) σ := by
  have r1 := R_hasLender (s := n) h hn0
  have r2 := R_hasBorrower (s := n) h hn0
  have hb1 := bI_01 (0 ≤ n ∧ n < A 1)
  have hb2 := bI_01 (0 ≤ n ∧ n < A 2)
  show V _ 2 0 0 0 [some (vR (some (6, i))), some (vI k), some (vI n)] [] σ _
  unfold acP
  by_cases k0 : k = 0
  · subst k0
    rw [if_pos rfl]
    by_cases q : 0 ≤ n ∧ n < A 1
    · rw [if_pos q]
      rw [bI_t q] at r1
      refine V_ildn1 a_X6_accountPlace_0 ?_
      refine V_table_in a_X6_accountPlace_1 (off := 35) rfl rfl (by omega) (by omega) ?_
      refine V_aldn0 a_X6_accountPlace_36 ?_
      refine V_ildn2 a_X6_accountPlace_37 ?_
      refine V_v1R a_X6_accountPlace_38 c_X6_124 r1 ?_
      refine V_if_eq_f a_X6_accountPlace_41 (by omega) (by omega) ?_
      refine V_ildn2 a_X6_accountPlace_44 ?_
      refine V_goto a_X6_accountPlace_45 ?_
      exact V_iret a_X6_accountPlace_49 (⟨rfl, rfl⟩)
    · rw [if_neg q]
      rw [bI_f q] at r1
      refine V_ildn1 a_X6_accountPlace_0 ?_
      refine V_table_in a_X6_accountPlace_1 (off := 35) rfl rfl (by omega) (by omega) ?_
      refine V_aldn0 a_X6_accountPlace_36 ?_
      refine V_ildn2 a_X6_accountPlace_37 ?_
      refine V_v1R a_X6_accountPlace_38 c_X6_124 r1 ?_
      refine V_if_eq_t a_X6_accountPlace_41 (by omega) (by omega) ?_
      refine V_iconst a_X6_accountPlace_48 ?_
      exact V_iret a_X6_accountPlace_49 (⟨rfl, rfl⟩)
  · rw [if_neg k0]
    by_cases k1 : k = 1
    · subst k1
      rw [if_pos rfl]
      by_cases q : 0 ≤ n ∧ n < A 2
      · rw [if_pos q]
        rw [bI_t q] at r2
        refine V_ildn1 a_X6_accountPlace_0 ?_
        refine V_table_in a_X6_accountPlace_1 (off := 49) rfl rfl (by omega) (by omega) ?_
        refine V_aldn0 a_X6_accountPlace_50 ?_
        refine V_ildn2 a_X6_accountPlace_51 ?_
        refine V_v1R a_X6_accountPlace_52 c_X6_128 r2 ?_
        refine V_if_eq_f a_X6_accountPlace_55 (by omega) (by omega) ?_
        refine V_bipush a_X6_accountPlace_58 (by decide) ?_
        refine V_ildn2 a_X6_accountPlace_60 ?_
        refine V_iadd a_X6_accountPlace_61 ?_
        refine V_goto a_X6_accountPlace_62 ?_
        exact V_iret a_X6_accountPlace_66 (⟨rfl, rfl⟩)
      · rw [if_neg q]
        rw [bI_f q] at r2
        refine V_ildn1 a_X6_accountPlace_0 ?_
        refine V_table_in a_X6_accountPlace_1 (off := 49) rfl rfl (by omega) (by omega) ?_
        refine V_aldn0 a_X6_accountPlace_50 ?_
        refine V_ildn2 a_X6_accountPlace_51 ?_
        refine V_v1R a_X6_accountPlace_52 c_X6_128 r2 ?_
        refine V_if_eq_t a_X6_accountPlace_55 (by omega) (by omega) ?_
        refine V_iconst a_X6_accountPlace_65 ?_
        exact V_iret a_X6_accountPlace_66 (⟨rfl, rfl⟩)
    · rw [if_neg k1]
      by_cases k2 : 2 ≤ k ∧ k ≤ 4
      · rw [if_pos k2]
        have cases : k = 2 ∨ k = 3 ∨ k = 4 := by omega
        rcases cases with rfl | rfl | rfl
        · refine V_ildn1 a_X6_accountPlace_0 ?_
          refine V_table_in a_X6_accountPlace_1 (off := 66) rfl rfl (by omega) (by omega) ?_
          refine V_ildn2 a_X6_accountPlace_67 ?_
          refine V_if_ne a_X6_accountPlace_68 (by omega) (fun hc68 => ?_) (fun hc68 => ?_)
          · refine V_iconst a_X6_accountPlace_76 ?_
            exact V_iret a_X6_accountPlace_77 (⟨by first | rw [if_pos (by omega)]; rfl | rw [if_neg (by omega)], rfl⟩)
          · refine V_bipush a_X6_accountPlace_71 (by decide) ?_
            refine V_goto a_X6_accountPlace_73 ?_
            exact V_iret a_X6_accountPlace_77 (⟨by first | rw [if_pos (by omega)]; rfl | rw [if_neg (by omega)], rfl⟩)
        · refine V_ildn1 a_X6_accountPlace_0 ?_
          refine V_table_in a_X6_accountPlace_1 (off := 77) rfl rfl (by omega) (by omega) ?_
          refine V_ildn2 a_X6_accountPlace_78 ?_
          refine V_if_ne a_X6_accountPlace_79 (by omega) (fun hc79 => ?_) (fun hc79 => ?_)
          · refine V_iconst a_X6_accountPlace_87 ?_
            exact V_iret a_X6_accountPlace_88 (⟨by first | rw [if_pos (by omega)]; rfl | rw [if_neg (by omega)], rfl⟩)
          · refine V_bipush a_X6_accountPlace_82 (by decide) ?_
            refine V_goto a_X6_accountPlace_84 ?_
            exact V_iret a_X6_accountPlace_88 (⟨by first | rw [if_pos (by omega)]; rfl | rw [if_neg (by omega)], rfl⟩)
        · refine V_ildn1 a_X6_accountPlace_0 ?_
          refine V_table_in a_X6_accountPlace_1 (off := 88) rfl rfl (by omega) (by omega) ?_
          refine V_ildn2 a_X6_accountPlace_89 ?_
          refine V_if_ne a_X6_accountPlace_90 (by omega) (fun hc90 => ?_) (fun hc90 => ?_)
          · refine V_iconst a_X6_accountPlace_98 ?_
            exact V_iret a_X6_accountPlace_99 (⟨by first | rw [if_pos (by omega)]; rfl | rw [if_neg (by omega)], rfl⟩)
          · refine V_bipush a_X6_accountPlace_93 (by decide) ?_
            refine V_goto a_X6_accountPlace_95 ?_
            exact V_iret a_X6_accountPlace_99 (⟨by first | rw [if_pos (by omega)]; rfl | rw [if_neg (by omega)], rfl⟩)
      · rw [if_neg k2]
        refine V_ildn1 a_X6_accountPlace_0 ?_
        refine V_table_out a_X6_accountPlace_1 (tgt := 100) rfl (by omega) (by omega) ?_
        refine V_iconst a_X6_accountPlace_100 ?_
        exact V_iret a_X6_accountPlace_101 (⟨rfl, rfl⟩)
end Pm

