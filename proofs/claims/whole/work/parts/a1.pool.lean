/-- the class's pool i holds A -/
def Cl (D : Int) (σ : Hp) (i : Nat) (A : St) : Prop := D ≤ 20000000 ∧ WF σ ∧ Rel σ i A ∧ Shp σ i ∧ Inv D A
theorem Shp.L {σ : Hp} {i : Nat} (h : Shp σ i) : ∀ k, 0 ≤ k → k < 12 → σ.P 47 i k = some (lid σ i k) := fun k k0 k1 => (h.1 k k0 k1).1
theorem Rel.loan {σ : Hp} {i : Nat} {A : St} (h : Rel σ i A) {k : Int} (k0 : 0 ≤ k) (k1 : k < A 7) : σ.I 3 (lid σ i k) 0 = A (83 + 23 * k + 0) ∧ σ.I 3 (lid σ i k) 1 = A (83 + 23 * k + 1) ∧ σ.I 3 (lid σ i k) 2 = A (83 + 23 * k + 2) ∧ σ.I 3 (lid σ i k) 3 = A (83 + 23 * k + 3) ∧ σ.I 3 (lid σ i k) 4 = A (83 + 23 * k + 4) ∧
    ∀ l, 0 ≤ l → l < 6 → σ.I 30 (lid σ i k) l = A (83 + 23 * k + 5 + l) ∧ σ.I 31 (lid σ i k) l = A (83 + 23 * k + 11 + l) ∧ σ.I 32 (lid σ i k) l = A (83 + 23 * k + 17 + l) := h.2.2.2.2.2.2.2.2 k k0 k1
theorem Rel.held {σ : Hp} {i : Nat} {A : St} (h : Rel σ i A) {l s : Int} (l0 : 0 ≤ l) (l1 : l < 6) (s0 : 0 ≤ s) (s1 : s < 4) : σ.I 44 i (l * 4 + s) = A (49 + 4 * l + s) := h.2.2.2.2.2.1 l s l0 l1 s0 s1
theorem Rel.lend {σ : Hp} {i : Nat} {A : St} (h : Rel σ i A) {l : Int} (l0 : 0 ≤ l) (l1 : l < A 1) : σ.I 40 i l = A (27 + l) ∧ σ.I 41 i l = A (33 + l) ∧ σ.I 42 i l = A (39 + l) := h.2.2.2.1 l l0 l1
theorem Rel.sec {σ : Hp} {i : Nat} {A : St} (h : Rel σ i A) {s : Int} (s0 : 0 ≤ s) (s1 : s < A 0) : σ.I 37 i s = A (15 + s) ∧ σ.I 38 i s = A (19 + s) := h.2.1 s s0 s1
/-- a sum beyond what counts -/
theorem sm_ext {f : Int → Int} {n m : Int} (n0 : 0 ≤ n) (nm : n ≤ m) (h : ∀ j, n ≤ j → j < m → f j = 0) : sm f m = sm f n := by
  refine loopF (P := fun z => sm f (m - (z - n)) = sm f n) (a := n) (N := m) nm ?_ ?_ |> fun z => by rw [Int.sub_self, Int.sub_zero] at z; exact z
  · rw [show m - (m - n) = n by omega]
  · intro z z0 z1 ih
    rw [show m - (z - n) = (m - (z + 1 - n)) + 1 by omega, sm_s _ (by omega), ih, h _ (by omega) (by omega), Int.add_zero]
theorem quan6 {D : Int} {A : St} (hI : Inv D A) {k : Int} (k0 : 0 ≤ k) (k1 : k < A 7) : sm (fun l => A (83 + 23 * k + 5 + l)) 6 = quanA A k := by
  have hn := hI.n
  exact sm_ext (by omega) (by omega) (fun j j0 j1 => ((hI.loan k0 k1).sl (by omega) j1).2.2.2 j0)
theorem rcq6 {D : Int} {A : St} (hI : Inv D A) {k : Int} (k0 : 0 ≤ k) (k1 : k < A 7) : sm (fun l => A (83 + 23 * k + 11 + l)) 6 = rcqA A k := by
  have hn := hI.n
  refine sm_ext (by omega) (by omega) (fun j j0 j1 => ?_)
  have h1 := (hI.loan k0 k1).sl (by omega) j1
  have h2 := h1.2.2.2 j0
  show A (83 + 23 * k + 11 + j) = 0
  omega
section Pl
variable {D : Int} {σ : Hp} {A : St} {i : Nat}
theorem R_outside {v lo hi : Int} (hv : iR v) (hl : iR lo) (hh : iR hi) : Rt m_X10_outside 0 0 0 [vI v, vI lo, vI hi] σ (some (vI (bI (¬ (lo ≤ v ∧ v ≤ hi))))) σ := by
  show V _ 0 0 0 0 [some (vI v), some (vI lo), some (vI hi)] [] σ _
  refine V_ildn0 a_X10_outside_0 ?_
  refine V_ildn1 a_X10_outside_1 ?_
  refine V_icmp_lt a_X10_outside_2 (by omega) (fun hc2 => ?_) (fun hc2 => ?_)
  · refine V_iconst a_X10_outside_10 ?_
    refine V_goto a_X10_outside_11 ?_
    exact V_zret a_X10_outside_15 (by omega) (⟨by first | rw [bI_t (by omega)] | rw [bI_f (by omega)], rfl⟩)
  · refine V_ildn0 a_X10_outside_5 ?_
    refine V_ildn2 a_X10_outside_6 ?_
    refine V_icmp_le a_X10_outside_7 (by omega) (fun hc7 => ?_) (fun hc7 => ?_)
    · refine V_iconst a_X10_outside_14 ?_
      exact V_zret a_X10_outside_15 (by omega) (⟨by first | rw [bI_t (by omega)] | rw [bI_f (by omega)], rfl⟩)
    · refine V_iconst a_X10_outside_10 ?_
      refine V_goto a_X10_outside_11 ?_
      exact V_zret a_X10_outside_15 (by omega) (⟨by first | rw [bI_t (by omega)] | rw [bI_f (by omega)], rfl⟩)
theorem R_hasSecurity {s : Int} (h : Cl D σ i A) (hs : iR s) : Rt m_X6_hasSecurity 1 0 0 [vR (some (6, i)), vI s] σ (some (vI (bI (0 ≤ s ∧ s < A 0)))) σ := by
  obtain ⟨hD, hW, hR, hS, hI⟩ := h
  obtain ⟨n0, n1, n2, n3, n4, n5, n6, n7, n8⟩ := hR.1
  have hn := hI.n
  have ro := R_outside (σ := σ) (v := s) (lo := 0) (hi := A 0 - 1) hs (by omega) (by omega)
  show V _ 1 0 0 0 [some (vR (some (6, i))), some (vI s)] [] σ _
  by_cases q : 0 ≤ s ∧ s < A 0
  · rw [bI_f (by omega)] at ro
    rw [bI_t q]
    refine V_ildn1 a_X6_hasSecurity_0 ?_
    refine V_iconst a_X6_hasSecurity_1 ?_
    refine V_aldn0 a_X6_hasSecurity_2 ?_
    refine V_fin a_X6_hasSecurity_3 f_X6_9 rfl hW ?_
    refine V_iconst a_X6_hasSecurity_6 ?_
    refine V_ialdE a_X6_hasSecurity_7 rfl (by omega) n0 ?_
    refine V_iconst a_X6_hasSecurity_8 ?_
    refine V_isub a_X6_hasSecurity_9 ?_
    refine V_n3R a_X6_hasSecurity_10 c_X6_72 ro ?_
    refine V_if_ne_f a_X6_hasSecurity_13 (by omega) (by omega) ?_
    refine V_iconst a_X6_hasSecurity_16 ?_
    refine V_goto a_X6_hasSecurity_17 ?_
    exact V_zret a_X6_hasSecurity_21 (by omega) (⟨rfl, rfl⟩)
  · rw [bI_t (by omega)] at ro
    rw [bI_f q]
    refine V_ildn1 a_X6_hasSecurity_0 ?_
    refine V_iconst a_X6_hasSecurity_1 ?_
    refine V_aldn0 a_X6_hasSecurity_2 ?_
    refine V_fin a_X6_hasSecurity_3 f_X6_9 rfl hW ?_
    refine V_iconst a_X6_hasSecurity_6 ?_
    refine V_ialdE a_X6_hasSecurity_7 rfl (by omega) n0 ?_
    refine V_iconst a_X6_hasSecurity_8 ?_
    refine V_isub a_X6_hasSecurity_9 ?_
    refine V_n3R a_X6_hasSecurity_10 c_X6_72 ro ?_
    refine V_if_ne_t a_X6_hasSecurity_13 (by omega) (by omega) ?_
    refine V_iconst a_X6_hasSecurity_20 ?_
    exact V_zret a_X6_hasSecurity_21 (by omega) (⟨rfl, rfl⟩)
theorem R_hasLender {s : Int} (h : Cl D σ i A) (hs : iR s) : Rt m_X6_hasLender 1 0 0 [vR (some (6, i)), vI s] σ (some (vI (bI (0 ≤ s ∧ s < A 1)))) σ := by
  obtain ⟨hD, hW, hR, hS, hI⟩ := h
  obtain ⟨n0, n1, n2, n3, n4, n5, n6, n7, n8⟩ := hR.1
  have hn := hI.n
  have ro := R_outside (σ := σ) (v := s) (lo := 0) (hi := A 1 - 1) hs (by omega) (by omega)
  show V _ 1 0 0 0 [some (vR (some (6, i))), some (vI s)] [] σ _
  by_cases q : 0 ≤ s ∧ s < A 1
  · rw [bI_f (by omega)] at ro
    rw [bI_t q]
    refine V_ildn1 a_X6_hasLender_0 ?_
    refine V_iconst a_X6_hasLender_1 ?_
    refine V_aldn0 a_X6_hasLender_2 ?_
    refine V_fin a_X6_hasLender_3 f_X6_9 rfl hW ?_
    refine V_iconst a_X6_hasLender_6 ?_
    refine V_ialdE a_X6_hasLender_7 rfl (by omega) n1 ?_
    refine V_iconst a_X6_hasLender_8 ?_
    refine V_isub a_X6_hasLender_9 ?_
    refine V_n3R a_X6_hasLender_10 c_X6_72 ro ?_
    refine V_if_ne_f a_X6_hasLender_13 (by omega) (by omega) ?_
    refine V_iconst a_X6_hasLender_16 ?_
    refine V_goto a_X6_hasLender_17 ?_
    exact V_zret a_X6_hasLender_21 (by omega) (⟨rfl, rfl⟩)
  · rw [bI_t (by omega)] at ro
    rw [bI_f q]
    refine V_ildn1 a_X6_hasLender_0 ?_
    refine V_iconst a_X6_hasLender_1 ?_
    refine V_aldn0 a_X6_hasLender_2 ?_
    refine V_fin a_X6_hasLender_3 f_X6_9 rfl hW ?_
    refine V_iconst a_X6_hasLender_6 ?_
    refine V_ialdE a_X6_hasLender_7 rfl (by omega) n1 ?_
    refine V_iconst a_X6_hasLender_8 ?_
    refine V_isub a_X6_hasLender_9 ?_
    refine V_n3R a_X6_hasLender_10 c_X6_72 ro ?_
    refine V_if_ne_t a_X6_hasLender_13 (by omega) (by omega) ?_
    refine V_iconst a_X6_hasLender_20 ?_
    exact V_zret a_X6_hasLender_21 (by omega) (⟨rfl, rfl⟩)
theorem R_hasBorrower {s : Int} (h : Cl D σ i A) (hs : iR s) : Rt m_X6_hasBorrower 1 0 0 [vR (some (6, i)), vI s] σ (some (vI (bI (0 ≤ s ∧ s < A 2)))) σ := by
  obtain ⟨hD, hW, hR, hS, hI⟩ := h
  obtain ⟨n0, n1, n2, n3, n4, n5, n6, n7, n8⟩ := hR.1
  have hn := hI.n
  have ro := R_outside (σ := σ) (v := s) (lo := 0) (hi := A 2 - 1) hs (by omega) (by omega)
  show V _ 1 0 0 0 [some (vR (some (6, i))), some (vI s)] [] σ _
  by_cases q : 0 ≤ s ∧ s < A 2
  · rw [bI_f (by omega)] at ro
    rw [bI_t q]
    refine V_ildn1 a_X6_hasBorrower_0 ?_
    refine V_iconst a_X6_hasBorrower_1 ?_
    refine V_aldn0 a_X6_hasBorrower_2 ?_
    refine V_fin a_X6_hasBorrower_3 f_X6_9 rfl hW ?_
    refine V_iconst a_X6_hasBorrower_6 ?_
    refine V_ialdE a_X6_hasBorrower_7 rfl (by omega) n2 ?_
    refine V_iconst a_X6_hasBorrower_8 ?_
    refine V_isub a_X6_hasBorrower_9 ?_
    refine V_n3R a_X6_hasBorrower_10 c_X6_72 ro ?_
    refine V_if_ne_f a_X6_hasBorrower_13 (by omega) (by omega) ?_
    refine V_iconst a_X6_hasBorrower_16 ?_
    refine V_goto a_X6_hasBorrower_17 ?_
    exact V_zret a_X6_hasBorrower_21 (by omega) (⟨rfl, rfl⟩)
  · rw [bI_t (by omega)] at ro
    rw [bI_f q]
    refine V_ildn1 a_X6_hasBorrower_0 ?_
    refine V_iconst a_X6_hasBorrower_1 ?_
    refine V_aldn0 a_X6_hasBorrower_2 ?_
    refine V_fin a_X6_hasBorrower_3 f_X6_9 rfl hW ?_
    refine V_iconst a_X6_hasBorrower_6 ?_
    refine V_ialdE a_X6_hasBorrower_7 rfl (by omega) n2 ?_
    refine V_iconst a_X6_hasBorrower_8 ?_
    refine V_isub a_X6_hasBorrower_9 ?_
    refine V_n3R a_X6_hasBorrower_10 c_X6_72 ro ?_
    refine V_if_ne_t a_X6_hasBorrower_13 (by omega) (by omega) ?_
    refine V_iconst a_X6_hasBorrower_20 ?_
    exact V_zret a_X6_hasBorrower_21 (by omega) (⟨rfl, rfl⟩)
theorem R_heldBy {l s v : Int} (hW : WF σ) (hl : 0 ≤ l ∧ l < 6) (hs : 0 ≤ s ∧ s < 4) (hv : σ.I 44 i (l * 4 + s) = v) : Rt m_X6_heldBy 0 0 0 [vR (some (6, i)), vI l, vI s] σ (some (vI v)) σ := by
  show V _ 0 0 0 0 [some (vR (some (6, i))), some (vI l), some (vI s)] [] σ _
  refine V_aldn0 a_X6_heldBy_0 ?_
  refine V_fin a_X6_heldBy_1 f_X6_36 rfl hW ?_
  refine V_ildn1 a_X6_heldBy_4 ?_
  refine V_iconst a_X6_heldBy_5 ?_
  refine V_imul a_X6_heldBy_6 ?_
  refine V_ildn2 a_X6_heldBy_7 ?_
  refine V_iadd a_X6_heldBy_8 ?_
  refine V_ialdE a_X6_heldBy_9 rfl (by omega) hv ?_
  exact V_iret a_X6_heldBy_10 (⟨rfl, rfl⟩)
theorem R_ClentBy {l s : Int} (h : Cl D σ i A) (hl : 0 ≤ l ∧ l < 6) (hs : iR s) : Rt m_X6_lentBy 0 0 0 [vR (some (6, i)), vI l, vI s] σ (some (vI (lentA A l s))) σ := by
  obtain ⟨hD, hW, hR, hS, hI⟩ := h
  obtain ⟨n0, n1, n2, n3, n4, n5, n6, n7, n8⟩ := hR.1
  have hn := hI.n
  have hL := hS.L
  show V _ 0 0 0 0 [some (vR (some (6, i))), some (vI l), some (vI s), none, none] [] σ _
  refine V_iconst a_X6_lentBy_0 ?_
  refine V_istn3 a_X6_lentBy_1 ?_
  refine V_iconst a_X6_lentBy_2 ?_
  refine V_ist4 a_X6_lentBy_3 ?_
  refine loopI (P := fun k => V _ 0 0 0 5 [some (vR (some (6, i))), some (vI l), some (vI s), some (vI (sm (fun k => if A (83 + 23 * k + 2) = s then A (83 + 23 * k + 5 + l) else 0) k)), some (vI k)] [] σ _) (N := A 7) (by omega) ?_ ?_
  · refine V_ild4 a_X6_lentBy_5 ?_
    refine V_aldn0 a_X6_lentBy_7 ?_
    refine V_fin a_X6_lentBy_8 f_X6_9 rfl hW ?_
    refine V_iconst a_X6_lentBy_11 ?_
    refine V_ialdE a_X6_lentBy_12 rfl (by omega) n3 ?_
    refine V_icmp_ge_t a_X6_lentBy_13 (by omega) (by omega) ?_
    refine V_ildn3 a_X6_lentBy_51 ?_
    exact V_iret a_X6_lentBy_52 (⟨rfl, rfl⟩)
  · intro k k0 k1 ih
    obtain ⟨g0, g1, g2, g3, g4, gs⟩ := hR.loan k0 k1
    obtain ⟨-, -, q2, -⟩ := hI.loan k0 k1
    rw [sm_s _ k0] at ih
    by_cases q : A (83 + 23 * k + 2) = s
    · rw [if_pos q] at ih
      refine V_ild4 a_X6_lentBy_5 ?_
      refine V_aldn0 a_X6_lentBy_7 ?_
      refine V_fin a_X6_lentBy_8 f_X6_9 rfl hW ?_
      refine V_iconst a_X6_lentBy_11 ?_
      refine V_ialdE a_X6_lentBy_12 rfl (by omega) n3 ?_
      refine V_icmp_ge_f a_X6_lentBy_13 (by omega) (by omega) ?_
      refine V_aldn0 a_X6_lentBy_16 ?_
      refine V_fin a_X6_lentBy_17 f_X6_48 rfl hW ?_
      refine V_ild4 a_X6_lentBy_20 ?_
      refine V_aald a_X6_lentBy_22 rfl (by omega) (hL _ (by omega) (by omega)) ?_
      refine V_getIE a_X6_lentBy_23 f_X6_76 rfl g2 ?_
      refine V_ildn2 a_X6_lentBy_26 ?_
      refine V_icmp_ne_f a_X6_lentBy_27 (by omega) (by omega) ?_
      refine V_ildn3 a_X6_lentBy_30 ?_
      refine V_aldn0 a_X6_lentBy_31 ?_
      refine V_fin a_X6_lentBy_32 f_X6_48 rfl hW ?_
      refine V_ild4 a_X6_lentBy_35 ?_
      refine V_aald a_X6_lentBy_37 rfl (by omega) (hL _ (by omega) (by omega)) ?_
      refine V_fin a_X6_lentBy_38 f_X6_80 rfl hW ?_
      refine V_ildn1 a_X6_lentBy_41 ?_
      refine V_ialdE a_X6_lentBy_42 rfl (by omega) (gs _ (by omega) (by omega)).1 ?_
      refine V_iadd a_X6_lentBy_43 ?_
      refine V_istn3 a_X6_lentBy_44 ?_
      refine V_inc4 a_X6_lentBy_45 ?_
      refine V_goto a_X6_lentBy_48 ?_
      exact ih
    · rw [if_neg q, Int.add_zero] at ih
      refine V_ild4 a_X6_lentBy_5 ?_
      refine V_aldn0 a_X6_lentBy_7 ?_
      refine V_fin a_X6_lentBy_8 f_X6_9 rfl hW ?_
      refine V_iconst a_X6_lentBy_11 ?_
      refine V_ialdE a_X6_lentBy_12 rfl (by omega) n3 ?_
      refine V_icmp_ge_f a_X6_lentBy_13 (by omega) (by omega) ?_
      refine V_aldn0 a_X6_lentBy_16 ?_
      refine V_fin a_X6_lentBy_17 f_X6_48 rfl hW ?_
      refine V_ild4 a_X6_lentBy_20 ?_
      refine V_aald a_X6_lentBy_22 rfl (by omega) (hL _ (by omega) (by omega)) ?_
      refine V_getIE a_X6_lentBy_23 f_X6_76 rfl g2 ?_
      refine V_ildn2 a_X6_lentBy_26 ?_
      refine V_icmp_ne_t a_X6_lentBy_27 (by omega) (by omega) ?_
      refine V_inc4 a_X6_lentBy_45 ?_
      refine V_goto a_X6_lentBy_48 ?_
      exact ih
theorem R_unrecalledIn {k l s : Int} (h : Cl D σ i A) (hk : 0 ≤ k ∧ k < A 7) (hl : 0 ≤ l ∧ l < 6) (hs : iR s) : Rt m_X6_unrecalledIn 0 0 0 [vR (some (6, i)), vI k, vI l, vI s] σ (some (vI (unr A l s k))) σ := by
  obtain ⟨hD, hW, hR, hS, hI⟩ := h
  have hn := hI.n
  have hL := hS.L
  obtain ⟨g0, g1, g2, g3, g4, gs⟩ := hR.loan hk.1 hk.2
  obtain ⟨-, -, q2, -⟩ := hI.loan hk.1 hk.2
  show V _ 0 0 0 0 [some (vR (some (6, i))), some (vI k), some (vI l), some (vI s), none] [] σ _
  unfold unr
  refine V_aldn0 a_X6_unrecalledIn_0 ?_
  refine V_fin a_X6_unrecalledIn_1 f_X6_48 rfl hW ?_
  refine V_ildn1 a_X6_unrecalledIn_4 ?_
  refine V_aald a_X6_unrecalledIn_5 rfl (by omega) (hL _ (by omega) (by omega)) ?_
  refine V_ast4 a_X6_unrecalledIn_6 ?_
  refine V_ald4 a_X6_unrecalledIn_8 ?_
  refine V_getIE a_X6_unrecalledIn_10 f_X6_76 rfl g2 ?_
  refine V_ildn3 a_X6_unrecalledIn_13 ?_
  refine V_icmp_ne a_X6_unrecalledIn_14 (by omega) (fun hc14 => ?_) (fun hc14 => ?_)
  · refine V_iconst a_X6_unrecalledIn_35 ?_
    exact V_iret a_X6_unrecalledIn_36 (⟨by first | rw [if_pos (by omega)] | rw [if_neg (by omega)], rfl⟩)
  · refine V_ald4 a_X6_unrecalledIn_17 ?_
    refine V_fin a_X6_unrecalledIn_19 f_X6_80 rfl hW ?_
    refine V_ildn2 a_X6_unrecalledIn_22 ?_
    refine V_ialdE a_X6_unrecalledIn_23 rfl (by omega) (gs _ (by omega) (by omega)).1 ?_
    refine V_ald4 a_X6_unrecalledIn_24 ?_
    refine V_fin a_X6_unrecalledIn_26 f_X6_87 rfl hW ?_
    refine V_ildn2 a_X6_unrecalledIn_29 ?_
    refine V_ialdE a_X6_unrecalledIn_30 rfl (by omega) (gs _ (by omega) (by omega)).2.1 ?_
    refine V_isub a_X6_unrecalledIn_31 ?_
    refine V_goto a_X6_unrecalledIn_32 ?_
    exact V_iret a_X6_unrecalledIn_36 (⟨by first | rw [if_pos (by omega)] | rw [if_neg (by omega)], rfl⟩)
theorem R_unrecalledOf {l s : Int} (h : Cl D σ i A) (hl : 0 ≤ l ∧ l < 6) (hs : iR s) : Rt m_X6_unrecalledOf 1 0 0 [vR (some (6, i)), vI l, vI s] σ (some (vI (recbA A l s))) σ := by
  have h' := h
  obtain ⟨hD, hW, hR, hS, hI⟩ := h
  obtain ⟨n0, n1, n2, n3, n4, n5, n6, n7, n8⟩ := hR.1
  have hn := hI.n
  have e : recbA A l s = sm (unr A l s) (A 7) := rfl
  rw [e]
  show V _ 1 0 0 0 [some (vR (some (6, i))), some (vI l), some (vI s), none, none] [] σ _
  refine V_iconst a_X6_unrecalledOf_0 ?_
  refine V_istn3 a_X6_unrecalledOf_1 ?_
  refine V_iconst a_X6_unrecalledOf_2 ?_
  refine V_ist4 a_X6_unrecalledOf_3 ?_
  refine loopI (P := fun k => V _ 1 0 0 5 [some (vR (some (6, i))), some (vI l), some (vI s), some (vI (sm (unr A l s) k)), some (vI k)] [] σ _) (N := A 7) (by omega) ?_ ?_
  · refine V_ild4 a_X6_unrecalledOf_5 ?_
    refine V_aldn0 a_X6_unrecalledOf_7 ?_
    refine V_fin a_X6_unrecalledOf_8 f_X6_9 rfl hW ?_
    refine V_iconst a_X6_unrecalledOf_11 ?_
    refine V_ialdE a_X6_unrecalledOf_12 rfl (by omega) n3 ?_
    refine V_icmp_ge_t a_X6_unrecalledOf_13 (by omega) (by omega) ?_
    refine V_ildn3 a_X6_unrecalledOf_33 ?_
    exact V_iret a_X6_unrecalledOf_34 (⟨rfl, rfl⟩)
  · intro k k0 k1 ih
    rw [sm_s _ k0] at ih
    refine V_ild4 a_X6_unrecalledOf_5 ?_
    refine V_aldn0 a_X6_unrecalledOf_7 ?_
    refine V_fin a_X6_unrecalledOf_8 f_X6_9 rfl hW ?_
    refine V_iconst a_X6_unrecalledOf_11 ?_
    refine V_ialdE a_X6_unrecalledOf_12 rfl (by omega) n3 ?_
    refine V_icmp_ge_f a_X6_unrecalledOf_13 (by omega) (by omega) ?_
    refine V_ildn3 a_X6_unrecalledOf_16 ?_
    refine V_aldn0 a_X6_unrecalledOf_17 ?_
    refine V_ild4 a_X6_unrecalledOf_18 ?_
    refine V_ildn1 a_X6_unrecalledOf_20 ?_
    refine V_ildn2 a_X6_unrecalledOf_21 ?_
    refine V_v3R a_X6_unrecalledOf_22 c_X6_83 (R_unrecalledIn h' ⟨k0, k1⟩ hl hs) ?_
    refine V_iadd a_X6_unrecalledOf_25 ?_
    refine V_istn3 a_X6_unrecalledOf_26 ?_
    refine V_inc4 a_X6_unrecalledOf_27 ?_
    refine V_goto a_X6_unrecalledOf_30 ?_
    exact ih
theorem R_CfreeOf {l s : Int} (h : Cl D σ i A) (hl : 0 ≤ l ∧ l < A 1) (hs : 0 ≤ s ∧ s < 4) : Rt m_X6_freeOf 1 0 0 [vR (some (6, i)), vI l, vI s] σ (some (vI (freeA A l s))) σ := by
  have h' := h
  obtain ⟨hD, hW, hR, hS, hI⟩ := h
  have hn := hI.n
  obtain ⟨f1, f2, f3⟩ := free_bd hI hl.1 hl.2 hs.1 hs.2
  have f4 := lent_bd hI hl.1 (by omega) hs.1 hs.2
  have hle := hR.lend hl.1 hl.2
  show V _ 1 0 0 0 [some (vR (some (6, i))), some (vI l), some (vI s), none] [] σ _
  refine V_aldn0 a_X6_freeOf_0 ?_
  refine V_ildn1 a_X6_freeOf_1 ?_
  refine V_ildn2 a_X6_freeOf_2 ?_
  refine V_v2R a_X6_freeOf_3 c_X6_90 (R_heldBy hW (by omega) hs (hR.held hl.1 (by omega) hs.1 hs.2)) ?_
  refine V_aldn0 a_X6_freeOf_6 ?_
  refine V_fin a_X6_freeOf_7 f_X6_27 rfl hW ?_
  refine V_ildn1 a_X6_freeOf_10 ?_
  refine V_ialdE a_X6_freeOf_11 rfl (by omega) hle.2.1 ?_
  refine V_imul a_X6_freeOf_12 ?_
  refine V_bipush a_X6_freeOf_13 (by decide) ?_
  refine V_idiv a_X6_freeOf_15 (by omega) ?_
  refine V_istn3 a_X6_freeOf_16 ?_
  refine V_iconst a_X6_freeOf_17 ?_
  refine V_ildn3 a_X6_freeOf_18 ?_
  refine V_aldn0 a_X6_freeOf_19 ?_
  refine V_ildn1 a_X6_freeOf_20 ?_
  refine V_ildn2 a_X6_freeOf_21 ?_
  refine V_v2R a_X6_freeOf_22 c_X6_94 (R_ClentBy h' (by omega) (by omega)) ?_
  refine V_isub a_X6_freeOf_25 ?_
  refine V_s2R a_X6_freeOf_26 c_X6_97 (R_imax (by omega) (by omega)) ?_
  exact V_iret a_X6_freeOf_29 (⟨rfl, rfl⟩)
theorem R_freeOfAll {s : Int} (h : Cl D σ i A) (hs : 0 ≤ s ∧ s < 4) : Rt m_X6_freeOfAll 2 0 0 [vR (some (6, i)), vI s] σ (some (vI (freeB A (-1) s))) σ := by
  have h' := h
  obtain ⟨hD, hW, hR, hS, hI⟩ := h
  obtain ⟨n0, n1, n2, n3, n4, n5, n6, n7, n8⟩ := hR.1
  have hn := hI.n
  show V _ 2 0 0 0 [some (vR (some (6, i))), some (vI s), none, none] [] σ _
  refine V_iconst a_X6_freeOfAll_0 ?_
  refine V_istn2 a_X6_freeOfAll_1 ?_
  refine V_iconst a_X6_freeOfAll_2 ?_
  refine V_istn3 a_X6_freeOfAll_3 ?_
  refine loopI (P := fun l => V _ 2 0 0 4 [some (vR (some (6, i))), some (vI s), some (vI (sm (fun l => if l = -1 then 0 else freeA A l s) l)), some (vI l)] [] σ _) (N := A 1) (by omega) ?_ ?_
  · refine V_ildn3 a_X6_freeOfAll_4 ?_
    refine V_aldn0 a_X6_freeOfAll_5 ?_
    refine V_fin a_X6_freeOfAll_6 f_X6_9 rfl hW ?_
    refine V_iconst a_X6_freeOfAll_9 ?_
    refine V_ialdE a_X6_freeOfAll_10 rfl (by omega) n1 ?_
    refine V_icmp_ge_t a_X6_freeOfAll_11 (by omega) (by omega) ?_
    refine V_ildn2 a_X6_freeOfAll_29 ?_
    exact V_iret a_X6_freeOfAll_30 (⟨rfl, rfl⟩)
  · intro l l0 l1 ih
    rw [sm_s _ l0, if_neg (by omega)] at ih
    refine V_ildn3 a_X6_freeOfAll_4 ?_
    refine V_aldn0 a_X6_freeOfAll_5 ?_
    refine V_fin a_X6_freeOfAll_6 f_X6_9 rfl hW ?_
    refine V_iconst a_X6_freeOfAll_9 ?_
    refine V_ialdE a_X6_freeOfAll_10 rfl (by omega) n1 ?_
    refine V_icmp_ge_f a_X6_freeOfAll_11 (by omega) (by omega) ?_
    refine V_ildn2 a_X6_freeOfAll_14 ?_
    refine V_aldn0 a_X6_freeOfAll_15 ?_
    refine V_ildn3 a_X6_freeOfAll_16 ?_
    refine V_ildn1 a_X6_freeOfAll_17 ?_
    refine V_v2R a_X6_freeOfAll_18 c_X6_102 (R_CfreeOf h' ⟨l0, l1⟩ hs) ?_
    refine V_iadd a_X6_freeOfAll_21 ?_
    refine V_istn2 a_X6_freeOfAll_22 ?_
    refine V_inc3 a_X6_freeOfAll_23 ?_
    refine V_goto a_X6_freeOfAll_26 ?_
    exact ih
end Pl
section Ln
variable {σ : Hp} {j : Nat} {sh rc du : Int → Int}
theorem R_Lquantity (hW : WF σ) (gs : ∀ l, 0 ≤ l → l < 6 → σ.I 30 j l = sh l ∧ σ.I 31 j l = rc l ∧ σ.I 32 j l = du l) : Rt m_X3_quantity 0 0 0 [vR (some (3, j))] σ (some (vI (sm sh 6))) σ := by
  show V _ 0 0 0 0 [some (vR (some (3, j))), none, none] [] σ _
  refine V_iconst a_X3_quantity_0 ?_
  refine V_istn1 a_X3_quantity_1 ?_
  refine V_iconst a_X3_quantity_2 ?_
  refine V_istn2 a_X3_quantity_3 ?_
  refine loopI (P := fun l => V _ 0 0 0 4 [some (vR (some (3, j))), some (vI (sm sh l)), some (vI l)] [] σ _) (N := 6) (by omega) ?_ ?_
  · refine V_ildn2 a_X3_quantity_4 ?_
    refine V_bipush a_X3_quantity_5 (by decide) ?_
    refine V_icmp_ge_t a_X3_quantity_7 (by omega) (by omega) ?_
    refine V_ildn1 a_X3_quantity_25 ?_
    exact V_iret a_X3_quantity_26 (⟨rfl, rfl⟩)
  · intro l l0 l1 ih
    rw [sm_s _ l0] at ih
    refine V_ildn2 a_X3_quantity_4 ?_
    refine V_bipush a_X3_quantity_5 (by decide) ?_
    refine V_icmp_ge_f a_X3_quantity_7 (by omega) (by omega) ?_
    refine V_ildn1 a_X3_quantity_10 ?_
    refine V_aldn0 a_X3_quantity_11 ?_
    refine V_fin a_X3_quantity_12 f_X3_9 rfl hW ?_
    refine V_ildn2 a_X3_quantity_15 ?_
    refine V_ialdE a_X3_quantity_16 rfl (by omega) (gs _ (by omega) (by omega)).1 ?_
    refine V_iadd a_X3_quantity_17 ?_
    refine V_istn1 a_X3_quantity_18 ?_
    refine V_inc2 a_X3_quantity_19 ?_
    refine V_goto a_X3_quantity_22 ?_
    exact ih
theorem R_Lrecalled (hW : WF σ) (gs : ∀ l, 0 ≤ l → l < 6 → σ.I 30 j l = sh l ∧ σ.I 31 j l = rc l ∧ σ.I 32 j l = du l) : Rt m_X3_recalledShares 0 0 0 [vR (some (3, j))] σ (some (vI (sm rc 6))) σ := by
  show V _ 0 0 0 0 [some (vR (some (3, j))), none, none] [] σ _
  refine V_iconst a_X3_recalledShares_0 ?_
  refine V_istn1 a_X3_recalledShares_1 ?_
  refine V_iconst a_X3_recalledShares_2 ?_
  refine V_istn2 a_X3_recalledShares_3 ?_
  refine loopI (P := fun l => V _ 0 0 0 4 [some (vR (some (3, j))), some (vI (sm rc l)), some (vI l)] [] σ _) (N := 6) (by omega) ?_ ?_
  · refine V_ildn2 a_X3_recalledShares_4 ?_
    refine V_bipush a_X3_recalledShares_5 (by decide) ?_
    refine V_icmp_ge_t a_X3_recalledShares_7 (by omega) (by omega) ?_
    refine V_ildn1 a_X3_recalledShares_25 ?_
    exact V_iret a_X3_recalledShares_26 (⟨rfl, rfl⟩)
  · intro l l0 l1 ih
    rw [sm_s _ l0] at ih
    refine V_ildn2 a_X3_recalledShares_4 ?_
    refine V_bipush a_X3_recalledShares_5 (by decide) ?_
    refine V_icmp_ge_f a_X3_recalledShares_7 (by omega) (by omega) ?_
    refine V_ildn1 a_X3_recalledShares_10 ?_
    refine V_aldn0 a_X3_recalledShares_11 ?_
    refine V_fin a_X3_recalledShares_12 f_X3_15 rfl hW ?_
    refine V_ildn2 a_X3_recalledShares_15 ?_
    refine V_ialdE a_X3_recalledShares_16 rfl (by omega) (gs _ (by omega) (by omega)).2.1 ?_
    refine V_iadd a_X3_recalledShares_17 ?_
    refine V_istn1 a_X3_recalledShares_18 ?_
    refine V_inc2 a_X3_recalledShares_19 ?_
    refine V_goto a_X3_recalledShares_22 ?_
    exact ih
theorem R_LsliceCount (hW : WF σ) (gs : ∀ l, 0 ≤ l → l < 6 → σ.I 30 j l = sh l ∧ σ.I 31 j l = rc l ∧ σ.I 32 j l = du l) (hb : ∀ l, 0 ≤ l → l < 6 → iR (sh l)) : Rt m_X3_sliceCount 0 0 0 [vR (some (3, j))] σ (some (vI (sm (fun l => bI (0 < sh l)) 6))) σ := by
  show V _ 0 0 0 0 [some (vR (some (3, j))), none, none] [] σ _
  refine V_iconst a_X3_sliceCount_0 ?_
  refine V_istn1 a_X3_sliceCount_1 ?_
  refine V_iconst a_X3_sliceCount_2 ?_
  refine V_istn2 a_X3_sliceCount_3 ?_
  refine loopI (P := fun l => V _ 0 0 0 4 [some (vR (some (3, j))), some (vI (sm (fun l => bI (0 < sh l)) l)), some (vI l)] [] σ _) (N := 6) (by omega) ?_ ?_
  · refine V_ildn2 a_X3_sliceCount_4 ?_
    refine V_bipush a_X3_sliceCount_5 (by decide) ?_
    refine V_icmp_ge_t a_X3_sliceCount_7 (by omega) (by omega) ?_
    refine V_ildn1 a_X3_sliceCount_28 ?_
    exact V_iret a_X3_sliceCount_29 (⟨rfl, rfl⟩)
  · intro l l0 l1 ih
    have hb1 := hb l l0 l1
    rw [sm_s _ l0] at ih
    by_cases q : 0 < sh l
    · rw [bI_t q] at ih
      refine V_ildn2 a_X3_sliceCount_4 ?_
      refine V_bipush a_X3_sliceCount_5 (by decide) ?_
      refine V_icmp_ge_f a_X3_sliceCount_7 (by omega) (by omega) ?_
      refine V_aldn0 a_X3_sliceCount_10 ?_
      refine V_fin a_X3_sliceCount_11 f_X3_9 rfl hW ?_
      refine V_ildn2 a_X3_sliceCount_14 ?_
      refine V_ialdE a_X3_sliceCount_15 rfl (by omega) (gs _ (by omega) (by omega)).1 ?_
      refine V_if_le_f a_X3_sliceCount_16 (by omega) (by omega) ?_
      refine V_inc1 a_X3_sliceCount_19 ?_
      refine V_inc2 a_X3_sliceCount_22 ?_
      refine V_goto a_X3_sliceCount_25 ?_
      exact ih
    · rw [bI_f q, Int.add_zero] at ih
      refine V_ildn2 a_X3_sliceCount_4 ?_
      refine V_bipush a_X3_sliceCount_5 (by decide) ?_
      refine V_icmp_ge_f a_X3_sliceCount_7 (by omega) (by omega) ?_
      refine V_aldn0 a_X3_sliceCount_10 ?_
      refine V_fin a_X3_sliceCount_11 f_X3_9 rfl hW ?_
      refine V_ildn2 a_X3_sliceCount_14 ?_
      refine V_ialdE a_X3_sliceCount_15 rfl (by omega) (gs _ (by omega) (by omega)).1 ?_
      refine V_if_le_t a_X3_sliceCount_16 (by omega) (by omega) ?_
      refine V_inc2 a_X3_sliceCount_22 ?_
      refine V_goto a_X3_sliceCount_25 ?_
      exact ih
theorem ndX_bd {rc du : Int → Int} {n : Int} (h : 0 ≤ n) : -1 ≤ ndX rc du n ∧ ndX rc du n < n ∨ ndX rc du n = -1 := by
  rcases ndX_ok (rc := rc) (du := du) h with z | z
  · exact Or.inr z.1
  · exact Or.inl ⟨by omega, z.1.2⟩
theorem R_Learliest (hW : WF σ) (gs : ∀ l, 0 ≤ l → l < 6 → σ.I 30 j l = sh l ∧ σ.I 31 j l = rc l ∧ σ.I 32 j l = du l) (hb : ∀ l, 0 ≤ l → l < 6 → iR (rc l) ∧ iR (du l)) : Rt m_X3_earliestRecalled 0 0 0 [vR (some (3, j))] σ (some (vI (ndX rc du 6))) σ := by
  show V _ 0 0 0 0 [some (vR (some (3, j))), none, none] [] σ _
  refine V_iconst a_X3_earliestRecalled_0 ?_
  refine V_istn1 a_X3_earliestRecalled_1 ?_
  refine V_iconst a_X3_earliestRecalled_2 ?_
  refine V_istn2 a_X3_earliestRecalled_3 ?_
  refine loopI (P := fun l => V _ 0 0 0 4 [some (vR (some (3, j))), some (vI (ndX rc du l)), some (vI l)] [] σ _) (N := 6) (by omega) ?_ ?_
  · refine V_ildn2 a_X3_earliestRecalled_4 ?_
    refine V_bipush a_X3_earliestRecalled_5 (by decide) ?_
    refine V_icmp_ge_t a_X3_earliestRecalled_7 (by omega) (by omega) ?_
    refine V_ildn1 a_X3_earliestRecalled_47 ?_
    exact V_iret a_X3_earliestRecalled_48 (⟨rfl, rfl⟩)
  · intro l l0 l1 ih
    have hb1 := hb l l0 l1
    have hx := ndX_bd (rc := rc) (du := du) l0
    rw [ndX_s l0] at ih
    generalize ndX rc du l = m at hx ih ⊢
    by_cases q : 0 < rc l
    · by_cases q2 : m = -1
      · rw [if_pos ⟨q, Or.inl q2⟩] at ih
        refine V_ildn2 a_X3_earliestRecalled_4 ?_
        refine V_bipush a_X3_earliestRecalled_5 (by decide) ?_
        refine V_icmp_ge_f a_X3_earliestRecalled_7 (by omega) (by omega) ?_
        refine V_aldn0 a_X3_earliestRecalled_10 ?_
        refine V_fin a_X3_earliestRecalled_11 f_X3_15 rfl hW ?_
        refine V_ildn2 a_X3_earliestRecalled_14 ?_
        refine V_ialdE a_X3_earliestRecalled_15 rfl (by omega) (gs _ (by omega) (by omega)).2.1 ?_
        refine V_if_le_f a_X3_earliestRecalled_16 (by omega) (by omega) ?_
        refine V_ildn1 a_X3_earliestRecalled_19 ?_
        refine V_iconst a_X3_earliestRecalled_20 ?_
        refine V_icmp_eq_t a_X3_earliestRecalled_21 (by omega) (by omega) ?_
        refine V_ildn2 a_X3_earliestRecalled_39 ?_
        refine V_istn1 a_X3_earliestRecalled_40 ?_
        refine V_inc2 a_X3_earliestRecalled_41 ?_
        refine V_goto a_X3_earliestRecalled_44 ?_
        exact ih
      · have hb2 := hb m (by omega) (by omega)
        by_cases q3 : du l < du m
        · rw [if_pos ⟨q, Or.inr q3⟩] at ih
          refine V_ildn2 a_X3_earliestRecalled_4 ?_
          refine V_bipush a_X3_earliestRecalled_5 (by decide) ?_
          refine V_icmp_ge_f a_X3_earliestRecalled_7 (by omega) (by omega) ?_
          refine V_aldn0 a_X3_earliestRecalled_10 ?_
          refine V_fin a_X3_earliestRecalled_11 f_X3_15 rfl hW ?_
          refine V_ildn2 a_X3_earliestRecalled_14 ?_
          refine V_ialdE a_X3_earliestRecalled_15 rfl (by omega) (gs _ (by omega) (by omega)).2.1 ?_
          refine V_if_le_f a_X3_earliestRecalled_16 (by omega) (by omega) ?_
          refine V_ildn1 a_X3_earliestRecalled_19 ?_
          refine V_iconst a_X3_earliestRecalled_20 ?_
          refine V_icmp_eq_f a_X3_earliestRecalled_21 (by omega) (by omega) ?_
          refine V_aldn0 a_X3_earliestRecalled_24 ?_
          refine V_fin a_X3_earliestRecalled_25 f_X3_18 rfl hW ?_
          refine V_ildn2 a_X3_earliestRecalled_28 ?_
          refine V_ialdE a_X3_earliestRecalled_29 rfl (by omega) (gs _ (by omega) (by omega)).2.2 ?_
          refine V_aldn0 a_X3_earliestRecalled_30 ?_
          refine V_fin a_X3_earliestRecalled_31 f_X3_18 rfl hW ?_
          refine V_ildn1 a_X3_earliestRecalled_34 ?_
          refine V_ialdE a_X3_earliestRecalled_35 rfl (by omega) (gs _ (by omega) (by omega)).2.2 ?_
          refine V_icmp_ge_f a_X3_earliestRecalled_36 (by omega) (by omega) ?_
          refine V_ildn2 a_X3_earliestRecalled_39 ?_
          refine V_istn1 a_X3_earliestRecalled_40 ?_
          refine V_inc2 a_X3_earliestRecalled_41 ?_
          refine V_goto a_X3_earliestRecalled_44 ?_
          exact ih
        · rw [if_neg (fun z => by rcases z.2 with y | y; exact q2 y; exact q3 y)] at ih
          refine V_ildn2 a_X3_earliestRecalled_4 ?_
          refine V_bipush a_X3_earliestRecalled_5 (by decide) ?_
          refine V_icmp_ge_f a_X3_earliestRecalled_7 (by omega) (by omega) ?_
          refine V_aldn0 a_X3_earliestRecalled_10 ?_
          refine V_fin a_X3_earliestRecalled_11 f_X3_15 rfl hW ?_
          refine V_ildn2 a_X3_earliestRecalled_14 ?_
          refine V_ialdE a_X3_earliestRecalled_15 rfl (by omega) (gs _ (by omega) (by omega)).2.1 ?_
          refine V_if_le_f a_X3_earliestRecalled_16 (by omega) (by omega) ?_
          refine V_ildn1 a_X3_earliestRecalled_19 ?_
          refine V_iconst a_X3_earliestRecalled_20 ?_
          refine V_icmp_eq_f a_X3_earliestRecalled_21 (by omega) (by omega) ?_
          refine V_aldn0 a_X3_earliestRecalled_24 ?_
          refine V_fin a_X3_earliestRecalled_25 f_X3_18 rfl hW ?_
          refine V_ildn2 a_X3_earliestRecalled_28 ?_
          refine V_ialdE a_X3_earliestRecalled_29 rfl (by omega) (gs _ (by omega) (by omega)).2.2 ?_
          refine V_aldn0 a_X3_earliestRecalled_30 ?_
          refine V_fin a_X3_earliestRecalled_31 f_X3_18 rfl hW ?_
          refine V_ildn1 a_X3_earliestRecalled_34 ?_
          refine V_ialdE a_X3_earliestRecalled_35 rfl (by omega) (gs _ (by omega) (by omega)).2.2 ?_
          refine V_icmp_ge_t a_X3_earliestRecalled_36 (by omega) (by omega) ?_
          refine V_inc2 a_X3_earliestRecalled_41 ?_
          refine V_goto a_X3_earliestRecalled_44 ?_
          exact ih
    · rw [if_neg (fun z => q z.1)] at ih
      refine V_ildn2 a_X3_earliestRecalled_4 ?_
      refine V_bipush a_X3_earliestRecalled_5 (by decide) ?_
      refine V_icmp_ge_f a_X3_earliestRecalled_7 (by omega) (by omega) ?_
      refine V_aldn0 a_X3_earliestRecalled_10 ?_
      refine V_fin a_X3_earliestRecalled_11 f_X3_15 rfl hW ?_
      refine V_ildn2 a_X3_earliestRecalled_14 ?_
      refine V_ialdE a_X3_earliestRecalled_15 rfl (by omega) (gs _ (by omega) (by omega)).2.1 ?_
      refine V_if_le_t a_X3_earliestRecalled_16 (by omega) (by omega) ?_
      refine V_inc2 a_X3_earliestRecalled_41 ?_
      refine V_goto a_X3_earliestRecalled_44 ?_
      exact ih
/-- the greatest slice, or -1 -/
def gsX (sh : Int → Int) (n : Int) : Int := ndX sh (fun l => -sh l) n
theorem R_Lgreatest (hW : WF σ) (gs : ∀ l, 0 ≤ l → l < 6 → σ.I 30 j l = sh l ∧ σ.I 31 j l = rc l ∧ σ.I 32 j l = du l) (hb : ∀ l, 0 ≤ l → l < 6 → iR (sh l)) : Rt m_X3_greatestSlice 0 0 0 [vR (some (3, j))] σ (some (vI (gsX sh 6))) σ := by
  show V _ 0 0 0 0 [some (vR (some (3, j))), none, none] [] σ _
  unfold gsX
  refine V_iconst a_X3_greatestSlice_0 ?_
  refine V_istn1 a_X3_greatestSlice_1 ?_
  refine V_iconst a_X3_greatestSlice_2 ?_
  refine V_istn2 a_X3_greatestSlice_3 ?_
  refine loopI (P := fun l => V _ 0 0 0 4 [some (vR (some (3, j))), some (vI (ndX sh (fun l => -sh l) l)), some (vI l)] [] σ _) (N := 6) (by omega) ?_ ?_
  · refine V_ildn2 a_X3_greatestSlice_4 ?_
    refine V_bipush a_X3_greatestSlice_5 (by decide) ?_
    refine V_icmp_ge_t a_X3_greatestSlice_7 (by omega) (by omega) ?_
    refine V_ildn1 a_X3_greatestSlice_47 ?_
    exact V_iret a_X3_greatestSlice_48 (⟨rfl, rfl⟩)
  · intro l l0 l1 ih
    have hb1 := hb l l0 l1
    have hx := ndX_bd (rc := sh) (du := fun l => -sh l) l0
    rw [ndX_s l0] at ih
    generalize ndX sh (fun l => -sh l) l = m at hx ih ⊢
    by_cases q : 0 < sh l
    · by_cases q2 : m = -1
      · rw [if_pos ⟨q, Or.inl q2⟩] at ih
        refine V_ildn2 a_X3_greatestSlice_4 ?_
        refine V_bipush a_X3_greatestSlice_5 (by decide) ?_
        refine V_icmp_ge_f a_X3_greatestSlice_7 (by omega) (by omega) ?_
        refine V_aldn0 a_X3_greatestSlice_10 ?_
        refine V_fin a_X3_greatestSlice_11 f_X3_9 rfl hW ?_
        refine V_ildn2 a_X3_greatestSlice_14 ?_
        refine V_ialdE a_X3_greatestSlice_15 rfl (by omega) (gs _ (by omega) (by omega)).1 ?_
        refine V_if_le_f a_X3_greatestSlice_16 (by omega) (by omega) ?_
        refine V_ildn1 a_X3_greatestSlice_19 ?_
        refine V_iconst a_X3_greatestSlice_20 ?_
        refine V_icmp_eq_t a_X3_greatestSlice_21 (by omega) (by omega) ?_
        refine V_ildn2 a_X3_greatestSlice_39 ?_
        refine V_istn1 a_X3_greatestSlice_40 ?_
        refine V_inc2 a_X3_greatestSlice_41 ?_
        refine V_goto a_X3_greatestSlice_44 ?_
        exact ih
      · have hb2 := hb m (by omega) (by omega)
        by_cases q3 : -sh l < -sh m
        · rw [if_pos ⟨q, Or.inr q3⟩] at ih
          refine V_ildn2 a_X3_greatestSlice_4 ?_
          refine V_bipush a_X3_greatestSlice_5 (by decide) ?_
          refine V_icmp_ge_f a_X3_greatestSlice_7 (by omega) (by omega) ?_
          refine V_aldn0 a_X3_greatestSlice_10 ?_
          refine V_fin a_X3_greatestSlice_11 f_X3_9 rfl hW ?_
          refine V_ildn2 a_X3_greatestSlice_14 ?_
          refine V_ialdE a_X3_greatestSlice_15 rfl (by omega) (gs _ (by omega) (by omega)).1 ?_
          refine V_if_le_f a_X3_greatestSlice_16 (by omega) (by omega) ?_
          refine V_ildn1 a_X3_greatestSlice_19 ?_
          refine V_iconst a_X3_greatestSlice_20 ?_
          refine V_icmp_eq_f a_X3_greatestSlice_21 (by omega) (by omega) ?_
          refine V_aldn0 a_X3_greatestSlice_24 ?_
          refine V_fin a_X3_greatestSlice_25 f_X3_9 rfl hW ?_
          refine V_ildn2 a_X3_greatestSlice_28 ?_
          refine V_ialdE a_X3_greatestSlice_29 rfl (by omega) (gs _ (by omega) (by omega)).1 ?_
          refine V_aldn0 a_X3_greatestSlice_30 ?_
          refine V_fin a_X3_greatestSlice_31 f_X3_9 rfl hW ?_
          refine V_ildn1 a_X3_greatestSlice_34 ?_
          refine V_ialdE a_X3_greatestSlice_35 rfl (by omega) (gs _ (by omega) (by omega)).1 ?_
          refine V_icmp_le_f a_X3_greatestSlice_36 (by omega) (by omega) ?_
          refine V_ildn2 a_X3_greatestSlice_39 ?_
          refine V_istn1 a_X3_greatestSlice_40 ?_
          refine V_inc2 a_X3_greatestSlice_41 ?_
          refine V_goto a_X3_greatestSlice_44 ?_
          exact ih
        · rw [if_neg (fun z => by rcases z.2 with y | y; exact q2 y; exact q3 y)] at ih
          refine V_ildn2 a_X3_greatestSlice_4 ?_
          refine V_bipush a_X3_greatestSlice_5 (by decide) ?_
          refine V_icmp_ge_f a_X3_greatestSlice_7 (by omega) (by omega) ?_
          refine V_aldn0 a_X3_greatestSlice_10 ?_
          refine V_fin a_X3_greatestSlice_11 f_X3_9 rfl hW ?_
          refine V_ildn2 a_X3_greatestSlice_14 ?_
          refine V_ialdE a_X3_greatestSlice_15 rfl (by omega) (gs _ (by omega) (by omega)).1 ?_
          refine V_if_le_f a_X3_greatestSlice_16 (by omega) (by omega) ?_
          refine V_ildn1 a_X3_greatestSlice_19 ?_
          refine V_iconst a_X3_greatestSlice_20 ?_
          refine V_icmp_eq_f a_X3_greatestSlice_21 (by omega) (by omega) ?_
          refine V_aldn0 a_X3_greatestSlice_24 ?_
          refine V_fin a_X3_greatestSlice_25 f_X3_9 rfl hW ?_
          refine V_ildn2 a_X3_greatestSlice_28 ?_
          refine V_ialdE a_X3_greatestSlice_29 rfl (by omega) (gs _ (by omega) (by omega)).1 ?_
          refine V_aldn0 a_X3_greatestSlice_30 ?_
          refine V_fin a_X3_greatestSlice_31 f_X3_9 rfl hW ?_
          refine V_ildn1 a_X3_greatestSlice_34 ?_
          refine V_ialdE a_X3_greatestSlice_35 rfl (by omega) (gs _ (by omega) (by omega)).1 ?_
          refine V_icmp_le_t a_X3_greatestSlice_36 (by omega) (by omega) ?_
          refine V_inc2 a_X3_greatestSlice_41 ?_
          refine V_goto a_X3_greatestSlice_44 ?_
          exact ih
    · rw [if_neg (fun z => q z.1)] at ih
      refine V_ildn2 a_X3_greatestSlice_4 ?_
      refine V_bipush a_X3_greatestSlice_5 (by decide) ?_
      refine V_icmp_ge_f a_X3_greatestSlice_7 (by omega) (by omega) ?_
      refine V_aldn0 a_X3_greatestSlice_10 ?_
      refine V_fin a_X3_greatestSlice_11 f_X3_9 rfl hW ?_
      refine V_ildn2 a_X3_greatestSlice_14 ?_
      refine V_ialdE a_X3_greatestSlice_15 rfl (by omega) (gs _ (by omega) (by omega)).1 ?_
      refine V_if_le_t a_X3_greatestSlice_16 (by omega) (by omega) ?_
      refine V_inc2 a_X3_greatestSlice_41 ?_
      refine V_goto a_X3_greatestSlice_44 ?_
      exact ih
def nrX (sh rc du : Int → Int) : Int := if ndX rc du 6 = -1 then gsX sh 6 else ndX rc du 6
theorem R_LnextReturner (hW : WF σ) (gs : ∀ l, 0 ≤ l → l < 6 → σ.I 30 j l = sh l ∧ σ.I 31 j l = rc l ∧ σ.I 32 j l = du l) (hb : ∀ l, 0 ≤ l → l < 6 → iR (sh l) ∧ iR (rc l) ∧ iR (du l)) : Rt m_X3_nextReturner 1 0 0 [vR (some (3, j))] σ (some (vI (nrX sh rc du))) σ := by
  have hx := ndX_bd (rc := rc) (du := du) (n := 6) (by decide)
  have r1 := R_Learliest hW gs (fun l l0 l1 => (hb l l0 l1).2)
  have r2 := R_Lgreatest hW gs (fun l l0 l1 => (hb l l0 l1).1)
  show V _ 1 0 0 0 [some (vR (some (3, j))), none] [] σ _
  unfold nrX
  refine V_aldn0 a_X3_nextReturner_0 ?_
  refine V_v0R a_X3_nextReturner_1 c_X3_49 r1 ?_
  refine V_istn1 a_X3_nextReturner_4 ?_
  refine V_ildn1 a_X3_nextReturner_5 ?_
  refine V_iconst a_X3_nextReturner_6 ?_
  refine V_icmp_ne a_X3_nextReturner_7 (by omega) (fun hc7 => ?_) (fun hc7 => ?_)
  · refine V_ildn1 a_X3_nextReturner_17 ?_
    exact V_iret a_X3_nextReturner_18 (⟨by first | rw [if_pos (by omega)] | rw [if_neg (by omega)], rfl⟩)
  · refine V_aldn0 a_X3_nextReturner_10 ?_
    refine V_v0R a_X3_nextReturner_11 c_X3_53 r2 ?_
    refine V_goto a_X3_nextReturner_14 ?_
    exact V_iret a_X3_nextReturner_18 (⟨by first | rw [if_pos (by omega)] | rw [if_neg (by omega)], rfl⟩)
theorem R_LleastDue (hW : WF σ) (gs : ∀ l, 0 ≤ l → l < 6 → σ.I 30 j l = sh l ∧ σ.I 31 j l = rc l ∧ σ.I 32 j l = du l) (hb : ∀ l, 0 ≤ l → l < 6 → iR (rc l) ∧ iR (du l)) : Rt m_X3_leastDue 1 0 0 [vR (some (3, j))] σ (some (vI (if ndX rc du 6 = -1 then -1 else du (ndX rc du 6)))) σ := by
  have hx := ndX_bd (rc := rc) (du := du) (n := 6) (by decide)
  have r1 := R_Learliest hW gs hb
  show V _ 1 0 0 0 [some (vR (some (3, j))), none] [] σ _
  refine V_aldn0 a_X3_leastDue_0 ?_
  refine V_v0R a_X3_leastDue_1 c_X3_49 r1 ?_
  refine V_istn1 a_X3_leastDue_4 ?_
  refine V_ildn1 a_X3_leastDue_5 ?_
  refine V_iconst a_X3_leastDue_6 ?_
  refine V_icmp_ne a_X3_leastDue_7 (by omega) (fun hc7 => ?_) (fun hc7 => ?_)
  · refine V_aldn0 a_X3_leastDue_14 ?_
    refine V_fin a_X3_leastDue_15 f_X3_18 rfl hW ?_
    refine V_ildn1 a_X3_leastDue_18 ?_
    refine V_ialdE a_X3_leastDue_19 rfl (by omega) (gs _ (by omega) (by omega)).2.2 ?_
    exact V_iret a_X3_leastDue_20 (⟨by first | rw [if_pos (by omega)] | rw [if_neg (by omega)], rfl⟩)
  · refine V_iconst a_X3_leastDue_10 ?_
    refine V_goto a_X3_leastDue_11 ?_
    exact V_iret a_X3_leastDue_20 (⟨by first | rw [if_pos (by omega)] | rw [if_neg (by omega)], rfl⟩)
theorem R_LreturnsAtOnce {l : Int} (hW : WF σ) (gs : ∀ l, 0 ≤ l → l < 6 → σ.I 30 j l = sh l ∧ σ.I 31 j l = rc l ∧ σ.I 32 j l = du l) (hl : 0 ≤ l ∧ l < 6) (hb : iR (rc l)) : Rt m_X3_returnsAtOnce 0 0 0 [vR (some (3, j)), vI l] σ (some (vI (if 0 < rc l then rc l else sh l))) σ := by
  show V _ 0 0 0 0 [some (vR (some (3, j))), some (vI l)] [] σ _
  refine V_aldn0 a_X3_returnsAtOnce_0 ?_
  refine V_fin a_X3_returnsAtOnce_1 f_X3_15 rfl hW ?_
  refine V_ildn1 a_X3_returnsAtOnce_4 ?_
  refine V_ialdE a_X3_returnsAtOnce_5 rfl (by omega) (gs _ (by omega) (by omega)).2.1 ?_
  refine V_if_le a_X3_returnsAtOnce_6 (by omega) (fun hc6 => ?_) (fun hc6 => ?_)
  · refine V_aldn0 a_X3_returnsAtOnce_18 ?_
    refine V_fin a_X3_returnsAtOnce_19 f_X3_9 rfl hW ?_
    refine V_ildn1 a_X3_returnsAtOnce_22 ?_
    refine V_ialdE a_X3_returnsAtOnce_23 rfl (by omega) (gs _ (by omega) (by omega)).1 ?_
    exact V_iret a_X3_returnsAtOnce_24 (⟨by first | rw [if_pos (by omega)] | rw [if_neg (by omega)], rfl⟩)
  · refine V_aldn0 a_X3_returnsAtOnce_9 ?_
    refine V_fin a_X3_returnsAtOnce_10 f_X3_15 rfl hW ?_
    refine V_ildn1 a_X3_returnsAtOnce_13 ?_
    refine V_ialdE a_X3_returnsAtOnce_14 rfl (by omega) (gs _ (by omega) (by omega)).2.1 ?_
    refine V_goto a_X3_returnsAtOnce_15 ?_
    exact V_iret a_X3_returnsAtOnce_24 (⟨by first | rw [if_pos (by omega)] | rw [if_neg (by omega)], rfl⟩)
end Ln

