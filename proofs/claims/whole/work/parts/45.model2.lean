theorem setJ_J {σ : Hp} {t i : Nat} {k v : Int} : (σ.setJ t i k v).J t i k = v := by
  show u3 σ.J t i k v t i k = v
  rw [u3_same, if_pos rfl]
theorem setI_I {σ : Hp} {t i : Nat} {k v : Int} : (σ.setI t i k v).I t i k = v := by
  show u3 σ.I t i k v t i k = v
  rw [u3_same, if_pos rfl]
def gvA (A : St) (s but l left : Int) : Int := if l = but then 0 else min left (freeA A l s)
section Mo2
variable {D : Int} {σ : Hp} {A : St}
theorem used_bd (hI : Inv D A) {l s : Int} (h0 : 0 ≤ l) (h1 : l < 6) (h2 : 0 ≤ s) (h3 : s < 4) : 0 ≤ usedA A l s ∧ usedA A l s ≤ 99999 := by
  have := lent_bd hI h0 h1 h2 h3
  unfold usedA
  split <;> omega
theorem R_exposureOf {b : Int} (h : Md D σ A) (hb : -2147483648 ≤ b ∧ b < 2147483648) : Rt m_X11_exposureOf 1 0 0 [vR (some (11, 0)), vI b] σ (some (vL (expoA A b))) σ := by
  have h' := h
  obtain ⟨hD, hW, hA, hI⟩ := h
  have hn := hI.n
  show V _ 1 0 0 0 [some (vR (some (11, 0))), some (vI b), none, none, none, none] [] σ _
  refine V_lconst0 a_X11_exposureOf_0 ?_
  refine V_lstn2 a_X11_exposureOf_1 ?_
  refine V_iconst a_X11_exposureOf_2 ?_
  refine V_ist4 a_X11_exposureOf_3 ?_
  refine loopI (P := fun k => ∀ x5 : Option AV, V _ 1 0 0 5 [some (vR (some (11, 0))), some (vI b), some (vL (sm (fun k => if A (83 + 23 * k + 1) = b then quanA A k * A (15 + A (83 + 23 * k + 2)) else 0) k)), none, some (vI k), x5] [] σ _) (N := A 7) (by omega) ?_ ?_ none
  · intro x5
    refine V_ild4 a_X11_exposureOf_5 ?_
    refine V_i2l a_X11_exposureOf_7 (by omega) ?_
    refine V_aldn0 a_X11_exposureOf_8 ?_
    refine V_fin a_X11_exposureOf_9 f_X11_7 rfl hW ?_
    refine V_bipush a_X11_exposureOf_12 (by decide) ?_
    refine V_w a_X11_exposureOf_14 (by omega) hA ?_
    refine V_lc_ge_t a_X11_exposureOf_15 a_X11_exposureOf_16 (by omega) (by omega) ?_
    refine V_lldn2 a_X11_exposureOf_75 ?_
    exact V_lret a_X11_exposureOf_76 (⟨rfl, rfl⟩)
  · intro k h0 h1 ih x5
    have ih := ih (some (vI (83 + 23 * k)))
    rw [sm_s _ h0] at ih
    obtain ⟨-, q1, q2, -⟩ := hI.loan h0 h1
    refine V_ild4 a_X11_exposureOf_5 ?_
    refine V_i2l a_X11_exposureOf_7 (by omega) ?_
    refine V_aldn0 a_X11_exposureOf_8 ?_
    refine V_fin a_X11_exposureOf_9 f_X11_7 rfl hW ?_
    refine V_bipush a_X11_exposureOf_12 (by decide) ?_
    refine V_w a_X11_exposureOf_14 (by omega) hA ?_
    refine V_lc_ge_f a_X11_exposureOf_15 a_X11_exposureOf_16 (by omega) (by omega) ?_
    refine V_ild4 a_X11_exposureOf_19 ?_
    refine V_s1R a_X11_exposureOf_21 c_X11_197 R_loanAt ?_
    refine V_ist5 a_X11_exposureOf_24 ?_
    refine V_aldn0 a_X11_exposureOf_26 ?_
    refine V_fin a_X11_exposureOf_27 f_X11_7 rfl hW ?_
    refine V_ild5 a_X11_exposureOf_30 ?_
    refine V_iconst a_X11_exposureOf_32 ?_
    refine V_iadd a_X11_exposureOf_33 ?_
    refine V_w a_X11_exposureOf_34 (by omega) hA ?_
    refine V_ildn1 a_X11_exposureOf_35 ?_
    refine V_i2l a_X11_exposureOf_36 (by omega) ?_
    refine V_lc_ne a_X11_exposureOf_37 a_X11_exposureOf_38 (by omega) (fun hc37 => ?_) (fun hc37 => ?_)
    · refine V_inc4 a_X11_exposureOf_69 ?_
      refine V_goto a_X11_exposureOf_72 ?_
      first | (rw [if_pos (by omega)] at ih; exact ih) | (rw [if_neg (by omega), Int.add_zero] at ih; exact ih)
    · refine V_lldn2 a_X11_exposureOf_41 ?_
      refine V_aldn0 a_X11_exposureOf_42 ?_
      refine V_ild5 a_X11_exposureOf_43 ?_
      refine V_v1R a_X11_exposureOf_45 c_X11_216 (R_quantityAt h' (by omega)) ?_
      refine V_aldn0 a_X11_exposureOf_48 ?_
      refine V_fin a_X11_exposureOf_49 f_X11_7 rfl hW ?_
      refine V_bipush a_X11_exposureOf_52 (by decide) ?_
      refine V_aldn0 a_X11_exposureOf_54 ?_
      refine V_fin a_X11_exposureOf_55 f_X11_7 rfl hW ?_
      refine V_ild5 a_X11_exposureOf_58 ?_
      refine V_iconst a_X11_exposureOf_60 ?_
      refine V_iadd a_X11_exposureOf_61 ?_
      refine V_w a_X11_exposureOf_62 (by omega) hA ?_
      refine V_l2i a_X11_exposureOf_63 ?_
      refine V_iadd a_X11_exposureOf_64 ?_
      refine V_w a_X11_exposureOf_65 (by omega) hA ?_
      refine V_lmul a_X11_exposureOf_66 ?_
      refine V_ladd a_X11_exposureOf_67 ?_
      refine V_lstn2 a_X11_exposureOf_68 ?_
      refine V_inc4 a_X11_exposureOf_69 ?_
      refine V_goto a_X11_exposureOf_72 ?_
      first | (rw [if_pos (by omega)] at ih; exact ih) | (rw [if_neg (by omega), Int.add_zero] at ih; exact ih)
theorem R_usedOf {l s : Int} (h : Md D σ A) (hl : 0 ≤ l ∧ l < 6) (hs : 0 ≤ s ∧ s < 4) : Rt m_X11_usedOf 2 0 0 [vR (some (11, 0)), vI l, vI s] σ (some (vL (usedA A l s))) σ := by
  have hh := h.2.2.2.held hl.1 hl.2 hs.1 hs.2
  show V _ 2 0 0 0 [some (vR (some (11, 0))), some (vI l), some (vI s)] [] σ _
  refine V_aldn0 a_X11_usedOf_0 ?_
  refine V_ildn1 a_X11_usedOf_1 ?_
  refine V_ildn2 a_X11_usedOf_2 ?_
  refine V_v2R a_X11_usedOf_3 c_X11_200 (R_holdingOf h hl hs) ?_
  refine V_lconst0 a_X11_usedOf_6 ?_
  refine V_lc_ne a_X11_usedOf_7 a_X11_usedOf_8 (by omega) (fun hc7 => ?_) (fun hc7 => ?_)
  · refine V_aldn0 a_X11_usedOf_15 ?_
    refine V_ildn1 a_X11_usedOf_16 ?_
    refine V_ildn2 a_X11_usedOf_17 ?_
    refine V_v2R a_X11_usedOf_18 c_X11_204 (R_lentBy h hl hs) ?_
    exact V_lret a_X11_usedOf_21 (⟨by unfold usedA; first | rw [if_pos (by omega)] | rw [if_neg (by omega)], rfl⟩)
  · refine V_lconst0 a_X11_usedOf_11 ?_
    refine V_goto a_X11_usedOf_12 ?_
    exact V_lret a_X11_usedOf_21 (⟨by unfold usedA; first | rw [if_pos (by omega)] | rw [if_neg (by omega)], rfl⟩)
theorem B_isAhead {l t s : Int} (h : Md D σ A) (hl : 0 ≤ l ∧ l < 6) (ht : 0 ≤ t ∧ t < 6) (hs : 0 ≤ s ∧ s < 4) : ∃ b : Int, ((b = 1 ∧ aheadA A l t s = true) ∨ (b = 0 ∧ ¬ aheadA A l t s = true)) ∧ Rt m_X11_isAhead 3 0 0 [vR (some (11, 0)), vI l, vI t, vI s] σ (some (vI b)) σ := by
  have hI := h.2.2.2
  have h1 := hI.held hl.1 hl.2 hs.1 hs.2
  have h2 := hI.held ht.1 ht.2 hs.1 hs.2
  have h3 := used_bd hI hl.1 hl.2 hs.1 hs.2
  have h4 := used_bd hI ht.1 ht.2 hs.1 hs.2
  have h5 := mul_bd (M := 99999) (N := 99999) h3.1 h3.2 (by omega : 0 ≤ max 1 (A (49 + 4 * t + s))) (by omega)
  have h6 := mul_bd (M := 99999) (N := 99999) h4.1 h4.2 (by omega : 0 ≤ max 1 (A (49 + 4 * l + s))) (by omega)
  refine ⟨bI (aheadA A l t s = true), ?_, ?_⟩
  · by_cases q : aheadA A l t s = true
    · exact Or.inl ⟨bI_t q, q⟩
    · exact Or.inr ⟨bI_f q, q⟩
  show V _ 3 0 0 0 [some (vR (some (11, 0))), some (vI l), some (vI t), some (vI s), none, none, none, none] [] σ _
  refine V_aldn0 a_X11_isAhead_0 ?_
  refine V_ildn1 a_X11_isAhead_1 ?_
  refine V_ildn3 a_X11_isAhead_2 ?_
  refine V_v2R a_X11_isAhead_3 c_X11_220 (R_usedOf h hl hs) ?_
  refine V_lconst1 a_X11_isAhead_6 ?_
  refine V_aldn0 a_X11_isAhead_7 ?_
  refine V_ildn2 a_X11_isAhead_8 ?_
  refine V_ildn3 a_X11_isAhead_9 ?_
  refine V_v2R a_X11_isAhead_10 c_X11_200 (R_holdingOf h ht hs) ?_
  refine V_s2R a_X11_isAhead_13 c_X11_207 (R_lmax (by omega) (by omega)) ?_
  refine V_lmul a_X11_isAhead_16 ?_
  refine V_lst4 a_X11_isAhead_17 ?_
  refine V_aldn0 a_X11_isAhead_19 ?_
  refine V_ildn2 a_X11_isAhead_20 ?_
  refine V_ildn3 a_X11_isAhead_21 ?_
  refine V_v2R a_X11_isAhead_22 c_X11_220 (R_usedOf h ht hs) ?_
  refine V_lconst1 a_X11_isAhead_25 ?_
  refine V_aldn0 a_X11_isAhead_26 ?_
  refine V_ildn1 a_X11_isAhead_27 ?_
  refine V_ildn3 a_X11_isAhead_28 ?_
  refine V_v2R a_X11_isAhead_29 c_X11_200 (R_holdingOf h hl hs) ?_
  refine V_s2R a_X11_isAhead_32 c_X11_207 (R_lmax (by omega) (by omega)) ?_
  refine V_lmul a_X11_isAhead_35 ?_
  refine V_lst6 a_X11_isAhead_36 ?_
  refine V_lld4 a_X11_isAhead_38 ?_
  refine V_lld6 a_X11_isAhead_40 ?_
  refine V_lc_lt a_X11_isAhead_42 a_X11_isAhead_43 (by omega) (fun hc42 => ?_) (fun hc42 => ?_)
  · refine V_iconst a_X11_isAhead_59 ?_
    refine V_goto a_X11_isAhead_60 ?_
    exact V_zret a_X11_isAhead_64 (by omega) (⟨by first | rw [bI_t (ahead_iff.mpr (by omega))] | rw [bI_f (fun q => absurd (ahead_iff.mp q) (by omega))], rfl⟩)
  · refine V_lld4 a_X11_isAhead_46 ?_
    refine V_lld6 a_X11_isAhead_48 ?_
    refine V_lc_ne a_X11_isAhead_50 a_X11_isAhead_51 (by omega) (fun hc50 => ?_) (fun hc50 => ?_)
    · refine V_iconst a_X11_isAhead_63 ?_
      exact V_zret a_X11_isAhead_64 (by omega) (⟨by first | rw [bI_t (ahead_iff.mpr (by omega))] | rw [bI_f (fun q => absurd (ahead_iff.mp q) (by omega))], rfl⟩)
    · refine V_ildn1 a_X11_isAhead_54 ?_
      refine V_ildn2 a_X11_isAhead_55 ?_
      refine V_icmp_ge a_X11_isAhead_56 (by omega) (fun hc56 => ?_) (fun hc56 => ?_)
      · refine V_iconst a_X11_isAhead_63 ?_
        exact V_zret a_X11_isAhead_64 (by omega) (⟨by first | rw [bI_t (ahead_iff.mpr (by omega))] | rw [bI_f (fun q => absurd (ahead_iff.mp q) (by omega))], rfl⟩)
      · refine V_iconst a_X11_isAhead_59 ?_
        refine V_goto a_X11_isAhead_60 ?_
        exact V_zret a_X11_isAhead_64 (by omega) (⟨by first | rw [bI_t (ahead_iff.mpr (by omega))] | rw [bI_f (fun q => absurd (ahead_iff.mp q) (by omega))], rfl⟩)
theorem R_rankedAt {s p : Int} (h : Md D σ A) (hs : 0 ≤ s ∧ s < 4) (hp : 0 ≤ p ∧ p < 2147483648) : Rt m_X11_rankedAt 4 0 0 [vR (some (11, 0)), vI s, vI p] σ (some (vI (rankA A s p))) σ := by
  have h' := h
  obtain ⟨hD, hW, hA, hI⟩ := h
  have hn := hI.n
  show V _ 4 0 0 0 [some (vR (some (11, 0))), some (vI s), some (vI p), none, none, none] [] σ _
  refine V_iconst a_X11_rankedAt_0 ?_
  refine V_istn3 a_X11_rankedAt_1 ?_
  refine loopI (P := fun l => (∀ j, 0 ≤ j → j < l → cntA A j s ≠ p) → ∀ x4 x5 : Option AV, V _ 4 0 0 2 [some (vR (some (11, 0))), some (vI s), some (vI p), some (vI l), x4, x5] [] σ _) (N := A 1) (by omega) ?_ ?_ (fun j _ _ => by omega) none none
  · intro hno x4 x5
    refine V_ildn3 a_X11_rankedAt_2 ?_
    refine V_i2l a_X11_rankedAt_3 (by omega) ?_
    refine V_aldn0 a_X11_rankedAt_4 ?_
    refine V_fin a_X11_rankedAt_5 f_X11_7 rfl hW ?_
    refine V_iconst a_X11_rankedAt_8 ?_
    refine V_w a_X11_rankedAt_9 (by omega) hA ?_
    refine V_lc_ge_t a_X11_rankedAt_10 a_X11_rankedAt_11 (by omega) (by omega) ?_
    refine V_iconst a_X11_rankedAt_80 ?_
    exact V_iret a_X11_rankedAt_81 (⟨by rw [show rankA A s p = -1 from fst_none (fun j j0 j1 => decide_eq_false (hno j j0 j1))], rfl⟩)
  · intro l l0 l1 ih hno x4 x5
    have hc := cnt_bd (A := A) (s := s) l0 l1
    refine V_ildn3 a_X11_rankedAt_2 ?_
    refine V_i2l a_X11_rankedAt_3 (by omega) ?_
    refine V_aldn0 a_X11_rankedAt_4 ?_
    refine V_fin a_X11_rankedAt_5 f_X11_7 rfl hW ?_
    refine V_iconst a_X11_rankedAt_8 ?_
    refine V_w a_X11_rankedAt_9 (by omega) hA ?_
    refine V_lc_ge_f a_X11_rankedAt_10 a_X11_rankedAt_11 (by omega) (by omega) ?_
    refine V_iconst a_X11_rankedAt_14 ?_
    refine V_ist4 a_X11_rankedAt_15 ?_
    refine V_iconst a_X11_rankedAt_17 ?_
    refine V_ist5 a_X11_rankedAt_18 ?_
    refine loopI (P := fun o => V _ 4 0 0 20 [some (vR (some (11, 0))), some (vI s), some (vI p), some (vI l), some (vI (sm (fun o => bI (o ≠ l ∧ aheadA A o l s = true)) o)), some (vI o)] [] σ _) (N := A 1) (by omega) ?_ ?_
    · change 0 ≤ sm (fun o => bI (o ≠ l ∧ aheadA A o l s = true)) (A 1) ∧ sm (fun o => bI (o ≠ l ∧ aheadA A o l s = true)) (A 1) < A 1 at hc
      refine V_ild5 a_X11_rankedAt_20 ?_
      refine V_i2l a_X11_rankedAt_22 (by omega) ?_
      refine V_aldn0 a_X11_rankedAt_23 ?_
      refine V_fin a_X11_rankedAt_24 f_X11_7 rfl hW ?_
      refine V_iconst a_X11_rankedAt_27 ?_
      refine V_w a_X11_rankedAt_28 (by omega) hA ?_
      refine V_lc_ge_t a_X11_rankedAt_29 a_X11_rankedAt_30 (by omega) (by omega) ?_
      refine V_ild4 a_X11_rankedAt_66 ?_
      refine V_ildn2 a_X11_rankedAt_68 ?_
      refine V_icmp_ne a_X11_rankedAt_69 (by omega) (fun hc69 => ?_) (fun hc69 => ?_)
      · refine V_inc3 a_X11_rankedAt_74 ?_
        refine V_goto a_X11_rankedAt_77 ?_
        exact ih (fun j j0 j1 => by rcases Classical.em (j = l) with q | q; (rw [q]; unfold cntA; omega); exact hno j j0 (by omega)) _ _
      · refine V_ildn3 a_X11_rankedAt_72 ?_
        exact V_iret a_X11_rankedAt_73 (⟨by rw [show rankA A s p = l from fst_found l0 l1 (decide_eq_true (show cntA A l s = p by unfold cntA; omega)) (fun j j0 j1 => decide_eq_false (hno j j0 j1))], rfl⟩)
    · intro o o0 o1 ih2
      rw [sm_s _ o0] at ih2
      refine V_ild5 a_X11_rankedAt_20 ?_
      refine V_i2l a_X11_rankedAt_22 (by omega) ?_
      refine V_aldn0 a_X11_rankedAt_23 ?_
      refine V_fin a_X11_rankedAt_24 f_X11_7 rfl hW ?_
      refine V_iconst a_X11_rankedAt_27 ?_
      refine V_w a_X11_rankedAt_28 (by omega) hA ?_
      refine V_lc_ge_f a_X11_rankedAt_29 a_X11_rankedAt_30 (by omega) (by omega) ?_
      refine V_ild4 a_X11_rankedAt_33 ?_
      refine V_ild5 a_X11_rankedAt_35 ?_
      refine V_ildn3 a_X11_rankedAt_37 ?_
      refine V_icmp_eq a_X11_rankedAt_38 (by omega) (fun hc38 => ?_) (fun hc38 => ?_)
      · refine V_iconst a_X11_rankedAt_56 ?_
        refine V_iadd a_X11_rankedAt_57 ?_
        refine V_ist4 a_X11_rankedAt_58 ?_
        refine V_inc5 a_X11_rankedAt_60 ?_
        refine V_goto a_X11_rankedAt_63 ?_
        first | (rw [bI_t (⟨by omega, by rcases hb with q | q; exact q.2; omega⟩)] at ih2; exact ih2) | (rw [bI_f (fun q => by rcases hb with z | z; omega; exact z.2 q.2)] at ih2; exact ih2) | (rw [bI_f (fun q => q.1 (by omega))] at ih2; exact ih2)
      · obtain ⟨b, hb, r⟩ := B_isAhead (l := o) (t := l) h' (by omega) (by omega) hs
        refine V_aldn0 a_X11_rankedAt_41 ?_
        refine V_ild5 a_X11_rankedAt_42 ?_
        refine V_ildn3 a_X11_rankedAt_44 ?_
        refine V_ildn1 a_X11_rankedAt_45 ?_
        refine V_v3R a_X11_rankedAt_46 c_X11_223 r ?_
        refine V_if_eq a_X11_rankedAt_49 (by omega) (fun hc49 => ?_) (fun hc49 => ?_)
        · refine V_iconst a_X11_rankedAt_56 ?_
          refine V_iadd a_X11_rankedAt_57 ?_
          refine V_ist4 a_X11_rankedAt_58 ?_
          refine V_inc5 a_X11_rankedAt_60 ?_
          refine V_goto a_X11_rankedAt_63 ?_
          first | (rw [bI_t (⟨by omega, by rcases hb with q | q; exact q.2; omega⟩)] at ih2; exact ih2) | (rw [bI_f (fun q => by rcases hb with z | z; omega; exact z.2 q.2)] at ih2; exact ih2) | (rw [bI_f (fun q => q.1 (by omega))] at ih2; exact ih2)
        · refine V_iconst a_X11_rankedAt_52 ?_
          refine V_goto a_X11_rankedAt_53 ?_
          refine V_iadd a_X11_rankedAt_57 ?_
          refine V_ist4 a_X11_rankedAt_58 ?_
          refine V_inc5 a_X11_rankedAt_60 ?_
          refine V_goto a_X11_rankedAt_63 ?_
          first | (rw [bI_t (⟨by omega, by rcases hb with q | q; exact q.2; omega⟩)] at ih2; exact ih2) | (rw [bI_f (fun q => by rcases hb with z | z; omega; exact z.2 q.2)] at ih2; exact ih2) | (rw [bI_f (fun q => q.1 (by omega))] at ih2; exact ih2)
theorem R_gives {l s but left : Int} (h : Md D σ A) (hl : 0 ≤ l ∧ l < A 1) (hs : 0 ≤ s ∧ s < 4) (hb : -2147483648 ≤ but ∧ but < 2147483648) (hq : 0 ≤ left ∧ left ≤ 1000000) : Rt m_X11_gives 3 0 0 [vR (some (11, 0)), vI l, vI s, vI but, vL left] σ (some (vL (left - gvA A s but l left))) (σ.setJ 56 0 l (gvA A s but l left)) := by
  have h' := h
  obtain ⟨hD, hW, hA, hI⟩ := h
  have hn := hI.n
  have hf := (free_bd hI hl.1 hl.2 hs.1 hs.2).1
  show V _ 3 0 0 0 [some (vR (some (11, 0))), some (vI l), some (vI s), some (vI but), some (vL left), none] [] σ _
  refine V_aldn0 a_X11_gives_0 ?_
  refine V_fin a_X11_gives_1 f_X11_33 rfl hW ?_
  refine V_ildn1 a_X11_gives_4 ?_
  refine V_ildn1 a_X11_gives_5 ?_
  refine V_ildn3 a_X11_gives_6 ?_
  refine V_icmp_ne a_X11_gives_7 (by omega) (fun hc7 => ?_) (fun hc7 => ?_)
  · refine V_lld4 a_X11_gives_14 ?_
    refine V_aldn0 a_X11_gives_16 ?_
    refine V_ildn1 a_X11_gives_17 ?_
    refine V_ildn2 a_X11_gives_18 ?_
    refine V_v2R a_X11_gives_19 c_X11_213 (R_freeOf h' hl hs) ?_
    refine V_s2R a_X11_gives_22 c_X11_227 (R_lmin (by omega) (by omega)) ?_
    refine V_last a_X11_gives_25 rfl (by omega) ?_
    refine V_lld4 a_X11_gives_26 ?_
    refine V_aldn0 a_X11_gives_28 ?_
    refine V_fin a_X11_gives_29 f_X11_33 rfl hW ?_
    refine V_ildn1 a_X11_gives_32 ?_
    refine V_laldE a_X11_gives_33 rfl (by omega) setJ_J ?_
    refine V_lsub a_X11_gives_34 ?_
    exact V_lret a_X11_gives_35 (⟨by unfold gvA; first | rw [if_pos (by omega)] | rw [if_neg (by omega)], by unfold gvA; first | rw [if_pos (by omega)] | rw [if_neg (by omega)]⟩)
  · refine V_lconst0 a_X11_gives_10 ?_
    refine V_goto a_X11_gives_11 ?_
    refine V_last a_X11_gives_25 rfl (by omega) ?_
    refine V_lld4 a_X11_gives_26 ?_
    refine V_aldn0 a_X11_gives_28 ?_
    refine V_fin a_X11_gives_29 f_X11_33 rfl hW ?_
    refine V_ildn1 a_X11_gives_32 ?_
    refine V_laldE a_X11_gives_33 rfl (by omega) setJ_J ?_
    refine V_lsub a_X11_gives_34 ?_
    exact V_lret a_X11_gives_35 (⟨by unfold gvA; first | rw [if_pos (by omega)] | rw [if_neg (by omega)], by unfold gvA; first | rw [if_pos (by omega)] | rw [if_neg (by omega)]⟩)
end Mo2

