def buyC (A : St) (l s q : Int) : Int := if ¬ ((0 ≤ l ∧ l < A 1) ∧ 0 ≤ s ∧ s < A 0) then 1 else if ¬ (1 ≤ q ∧ q ≤ 99999) then 2 else if A (49 + 4 * l + s) + q > 99999 then 3 else 0
def selC (A : St) (l s q : Int) : Int := if ¬ ((0 ≤ l ∧ l < A 1) ∧ 0 ≤ s ∧ s < A 0) then 1 else if ¬ (1 ≤ q ∧ q ≤ 99999) then 2 else if A (49 + 4 * l + s) - lentA A l s < q then 3 else 0
section Mo22
variable {D : Int} {σ : Hp} {A : St}
theorem R_buyShares {l s q c : Int} {H : Int → St} (h : Md D σ A) (hP : PastOk σ c H) (hl : iR l) (hs : iR s) (hq : iR q) : (buyC A l s q = 0 → ∃ σ', FK [50, 51, 54] [5, 6] σ σ' ∧ σ'.I 11 0 6 = 0 ∧ σ'.J 50 0 = trdA A l s (q) ∧ PastOk σ' (pushC c) (pushH c H A) ∧ Rt m_X11_buyShares 3 0 0 [vR (some (11, 0)), vI l, vI s, vI q] σ (some (vI (A (49 + 4 * l + s) + q))) σ') ∧ (buyC A l s q ≠ 0 → Rt m_X11_buyShares 3 0 0 [vR (some (11, 0)), vI l, vI s, vI q] σ (some (vI 0)) (σ.th (buyC A l s q))) := by
  have hI := h.2.2.2
  have hn := hI.n
  obtain ⟨b1, hb1, r1⟩ := B_isNoHolding (l := l) (s := s) h hl hs
  by_cases h1 : (0 ≤ l ∧ l < A 1) ∧ 0 ≤ s ∧ s < A 0
  · have hb : b1 = 0 := by omega
    subst hb
    obtain ⟨b2, hb2, r2⟩ := B_isQuantity (σ := σ.th 0) hq
    by_cases h2 : 1 ≤ q ∧ q ≤ 99999
    · have hm : Md D ((σ.th 0).th 0) A := h
      have hh := hI.held (l := l) (s := s) (by omega) (by omega) (by omega) (by omega)
      have hle := lent_bd hI (l := l) (s := s) (by omega) (by omega) (by omega) (by omega)
      by_cases h3 : A (49 + 4 * l + s) + q > 99999
      · have e : buyC A l s q = 3 := by
          unfold buyC
          rw [if_neg (fun z => z h1), if_neg (fun z => z h2), if_pos h3]
        rw [e]
        refine ⟨fun z => absurd z (by decide), fun _ => ?_⟩
        show V _ 3 0 0 0 [some (vR (some (11, 0))), some (vI l), some (vI s), some (vI q)] [] σ _
        refine V_aldn0 a_X11_buyShares_0 ?_
        refine V_ildn1 a_X11_buyShares_1 ?_
        refine V_ildn2 a_X11_buyShares_2 ?_
        refine V_v2R a_X11_buyShares_3 c_X11_320 r1 ?_
        refine V_if_ne_f a_X11_buyShares_6 (by omega) (by omega) ?_
        refine V_aldn0 a_X11_buyShares_9 ?_
        refine V_ildn3 a_X11_buyShares_10 ?_
        refine V_s1R a_X11_buyShares_11 c_X11_259 r2 ?_
        refine V_if_ne_t a_X11_buyShares_14 (by omega) (by omega) ?_
        refine V_iconst a_X11_buyShares_21 ?_
        refine V_iconst a_X11_buyShares_22 ?_
        refine V_v2R a_X11_buyShares_23 c_X11_72 R_fails0 ?_
        refine V_if_ne_f a_X11_buyShares_26 (by omega) (by omega) ?_
        refine V_aldn0 a_X11_buyShares_29 ?_
        refine V_aldn0 a_X11_buyShares_30 ?_
        refine V_ildn1 a_X11_buyShares_31 ?_
        refine V_ildn2 a_X11_buyShares_32 ?_
        refine V_v2R a_X11_buyShares_33 c_X11_200 (R_holdingOf hm (by omega) (by omega)) ?_
        refine V_ildn3 a_X11_buyShares_36 ?_
        refine V_i2l a_X11_buyShares_37 (by omega) ?_
        refine V_ladd a_X11_buyShares_38 ?_
        refine V_ldc2 a_X11_buyShares_39 q_X11_76 ?_
        refine V_lc_le_f a_X11_buyShares_42 a_X11_buyShares_43 (by omega) (by omega) ?_
        refine V_iconst a_X11_buyShares_46 ?_
        refine V_goto a_X11_buyShares_47 ?_
        refine V_iconst a_X11_buyShares_51 ?_
        refine V_v2R a_X11_buyShares_52 c_X11_72 R_fails1 ?_
        refine V_if_eq_f a_X11_buyShares_55 (by omega) (by omega) ?_
        refine V_iconst a_X11_buyShares_58 ?_
        exact V_iret a_X11_buyShares_59 (⟨rfl, by rw [th_th, th_th]⟩)
      · have e : buyC A l s q = 0 := by
          unfold buyC
          rw [if_neg (fun z => z h1), if_neg (fun z => z h2), if_neg h3]
        refine ⟨fun _ => ?_, fun z => absurd e z⟩
        have hm3 : Md D (((σ.th 0).th 0).th 0) A := h
        obtain ⟨σ1, f1, e1, p1, r3⟩ := R_trade (l := l) (s := s) (q := q) (c := c) (H := H) hm3 hP (by omega) (by omega)
        refine ⟨σ1, (((FK.th (by decide)).trans (FK.th (by decide))).trans (FK.th (by decide))).trans (f1.sub (by decide) (by decide)), ?_, e1, p1, ?_⟩
        · rw [f1.2 6 (by decide)]
          exact setI_I
        · show V _ 3 0 0 0 [some (vR (some (11, 0))), some (vI l), some (vI s), some (vI q)] [] σ _
          refine V_aldn0 a_X11_buyShares_0 ?_
          refine V_ildn1 a_X11_buyShares_1 ?_
          refine V_ildn2 a_X11_buyShares_2 ?_
          refine V_v2R a_X11_buyShares_3 c_X11_320 r1 ?_
          refine V_if_ne_f a_X11_buyShares_6 (by omega) (by omega) ?_
          refine V_aldn0 a_X11_buyShares_9 ?_
          refine V_ildn3 a_X11_buyShares_10 ?_
          refine V_s1R a_X11_buyShares_11 c_X11_259 r2 ?_
          refine V_if_ne_t a_X11_buyShares_14 (by omega) (by omega) ?_
          refine V_iconst a_X11_buyShares_21 ?_
          refine V_iconst a_X11_buyShares_22 ?_
          refine V_v2R a_X11_buyShares_23 c_X11_72 R_fails0 ?_
          refine V_if_ne_f a_X11_buyShares_26 (by omega) (by omega) ?_
          refine V_aldn0 a_X11_buyShares_29 ?_
          refine V_aldn0 a_X11_buyShares_30 ?_
          refine V_ildn1 a_X11_buyShares_31 ?_
          refine V_ildn2 a_X11_buyShares_32 ?_
          refine V_v2R a_X11_buyShares_33 c_X11_200 (R_holdingOf hm (by omega) (by omega)) ?_
          refine V_ildn3 a_X11_buyShares_36 ?_
          refine V_i2l a_X11_buyShares_37 (by omega) ?_
          refine V_ladd a_X11_buyShares_38 ?_
          refine V_ldc2 a_X11_buyShares_39 q_X11_76 ?_
          refine V_lc_le_t a_X11_buyShares_42 a_X11_buyShares_43 (by omega) (by omega) ?_
          refine V_iconst a_X11_buyShares_50 ?_
          refine V_iconst a_X11_buyShares_51 ?_
          refine V_v2R a_X11_buyShares_52 c_X11_72 R_fails0 ?_
          refine V_if_eq_t a_X11_buyShares_55 (by omega) (by omega) ?_
          refine V_aldn0 a_X11_buyShares_60 ?_
          refine V_ildn1 a_X11_buyShares_61 ?_
          refine V_ildn2 a_X11_buyShares_62 ?_
          refine V_ildn3 a_X11_buyShares_63 ?_
          refine V_i2l a_X11_buyShares_64 (by omega) ?_
          refine V_v3R a_X11_buyShares_65 c_X11_355 r3 ?_
          exact V_iret a_X11_buyShares_68 (⟨rfl, rfl⟩)
    · have e : buyC A l s q = 2 := by
        unfold buyC
        rw [if_neg (fun z => z h1), if_pos h2]
      rw [e]
      refine ⟨fun z => absurd z (by decide), fun _ => ?_⟩
      show V _ 3 0 0 0 [some (vR (some (11, 0))), some (vI l), some (vI s), some (vI q)] [] σ _
      refine V_aldn0 a_X11_buyShares_0 ?_
      refine V_ildn1 a_X11_buyShares_1 ?_
      refine V_ildn2 a_X11_buyShares_2 ?_
      refine V_v2R a_X11_buyShares_3 c_X11_320 r1 ?_
      refine V_if_ne_f a_X11_buyShares_6 (by omega) (by omega) ?_
      refine V_aldn0 a_X11_buyShares_9 ?_
      refine V_ildn3 a_X11_buyShares_10 ?_
      refine V_s1R a_X11_buyShares_11 c_X11_259 r2 ?_
      refine V_if_ne_f a_X11_buyShares_14 (by omega) (by omega) ?_
      refine V_iconst a_X11_buyShares_17 ?_
      refine V_goto a_X11_buyShares_18 ?_
      refine V_iconst a_X11_buyShares_22 ?_
      refine V_v2R a_X11_buyShares_23 c_X11_72 R_fails1 ?_
      refine V_if_ne_t a_X11_buyShares_26 (by omega) (by omega) ?_
      refine V_iconst a_X11_buyShares_58 ?_
      exact V_iret a_X11_buyShares_59 (⟨rfl, by rw [th_th]⟩)
  · have e : buyC A l s q = 1 := by
      unfold buyC
      rw [if_pos h1]
    rw [e]
    have hb : b1 = 1 := by omega
    subst hb
    refine ⟨fun z => absurd z (by decide), fun _ => ?_⟩
    show V _ 3 0 0 0 [some (vR (some (11, 0))), some (vI l), some (vI s), some (vI q)] [] σ _
    refine V_aldn0 a_X11_buyShares_0 ?_
    refine V_ildn1 a_X11_buyShares_1 ?_
    refine V_ildn2 a_X11_buyShares_2 ?_
    refine V_v2R a_X11_buyShares_3 c_X11_320 r1 ?_
    refine V_if_ne_t a_X11_buyShares_6 (by omega) (by omega) ?_
    refine V_iconst a_X11_buyShares_58 ?_
    exact V_iret a_X11_buyShares_59 (⟨rfl, rfl⟩)
theorem R_sellShares {l s q c : Int} {H : Int → St} (h : Md D σ A) (hP : PastOk σ c H) (hl : iR l) (hs : iR s) (hq : iR q) : (selC A l s q = 0 → ∃ σ', FK [50, 51, 54] [5, 6] σ σ' ∧ σ'.I 11 0 6 = 0 ∧ σ'.J 50 0 = trdA A l s (-q) ∧ PastOk σ' (pushC c) (pushH c H A) ∧ Rt m_X11_sellShares 3 0 0 [vR (some (11, 0)), vI l, vI s, vI q] σ (some (vI (A (49 + 4 * l + s) + -q))) σ') ∧ (selC A l s q ≠ 0 → Rt m_X11_sellShares 3 0 0 [vR (some (11, 0)), vI l, vI s, vI q] σ (some (vI 0)) (σ.th (selC A l s q))) := by
  have hI := h.2.2.2
  have hn := hI.n
  obtain ⟨b1, hb1, r1⟩ := B_isNoHolding (l := l) (s := s) h hl hs
  by_cases h1 : (0 ≤ l ∧ l < A 1) ∧ 0 ≤ s ∧ s < A 0
  · have hb : b1 = 0 := by omega
    subst hb
    obtain ⟨b2, hb2, r2⟩ := B_isQuantity (σ := σ.th 0) hq
    by_cases h2 : 1 ≤ q ∧ q ≤ 99999
    · have hm : Md D ((σ.th 0).th 0) A := h
      have hh := hI.held (l := l) (s := s) (by omega) (by omega) (by omega) (by omega)
      have hle := lent_bd hI (l := l) (s := s) (by omega) (by omega) (by omega) (by omega)
      by_cases h3 : A (49 + 4 * l + s) - lentA A l s < q
      · have e : selC A l s q = 3 := by
          unfold selC
          rw [if_neg (fun z => z h1), if_neg (fun z => z h2), if_pos h3]
        rw [e]
        refine ⟨fun z => absurd z (by decide), fun _ => ?_⟩
        show V _ 3 0 0 0 [some (vR (some (11, 0))), some (vI l), some (vI s), some (vI q)] [] σ _
        refine V_aldn0 a_X11_sellShares_0 ?_
        refine V_ildn1 a_X11_sellShares_1 ?_
        refine V_ildn2 a_X11_sellShares_2 ?_
        refine V_v2R a_X11_sellShares_3 c_X11_320 r1 ?_
        refine V_if_ne_f a_X11_sellShares_6 (by omega) (by omega) ?_
        refine V_aldn0 a_X11_sellShares_9 ?_
        refine V_ildn3 a_X11_sellShares_10 ?_
        refine V_s1R a_X11_sellShares_11 c_X11_259 r2 ?_
        refine V_if_ne_t a_X11_sellShares_14 (by omega) (by omega) ?_
        refine V_iconst a_X11_sellShares_21 ?_
        refine V_iconst a_X11_sellShares_22 ?_
        refine V_v2R a_X11_sellShares_23 c_X11_72 R_fails0 ?_
        refine V_if_ne_f a_X11_sellShares_26 (by omega) (by omega) ?_
        refine V_aldn0 a_X11_sellShares_29 ?_
        refine V_aldn0 a_X11_sellShares_30 ?_
        refine V_ildn1 a_X11_sellShares_31 ?_
        refine V_ildn2 a_X11_sellShares_32 ?_
        refine V_v2R a_X11_sellShares_33 c_X11_200 (R_holdingOf hm (by omega) (by omega)) ?_
        refine V_aldn0 a_X11_sellShares_36 ?_
        refine V_ildn1 a_X11_sellShares_37 ?_
        refine V_ildn2 a_X11_sellShares_38 ?_
        refine V_v2R a_X11_sellShares_39 c_X11_204 (R_lentBy hm (by omega) (by omega)) ?_
        refine V_lsub a_X11_sellShares_42 ?_
        refine V_ildn3 a_X11_sellShares_43 ?_
        refine V_i2l a_X11_sellShares_44 (by omega) ?_
        refine V_lc_ge_f a_X11_sellShares_45 a_X11_sellShares_46 (by omega) (by omega) ?_
        refine V_iconst a_X11_sellShares_49 ?_
        refine V_goto a_X11_sellShares_50 ?_
        refine V_iconst a_X11_sellShares_54 ?_
        refine V_v2R a_X11_sellShares_55 c_X11_72 R_fails1 ?_
        refine V_if_eq_f a_X11_sellShares_58 (by omega) (by omega) ?_
        refine V_iconst a_X11_sellShares_61 ?_
        exact V_iret a_X11_sellShares_62 (⟨rfl, by rw [th_th, th_th]⟩)
      · have e : selC A l s q = 0 := by
          unfold selC
          rw [if_neg (fun z => z h1), if_neg (fun z => z h2), if_neg h3]
        refine ⟨fun _ => ?_, fun z => absurd e z⟩
        have hm3 : Md D (((σ.th 0).th 0).th 0) A := h
        obtain ⟨σ1, f1, e1, p1, r3⟩ := R_trade (l := l) (s := s) (q := -q) (c := c) (H := H) hm3 hP (by omega) (by omega)
        refine ⟨σ1, (((FK.th (by decide)).trans (FK.th (by decide))).trans (FK.th (by decide))).trans (f1.sub (by decide) (by decide)), ?_, e1, p1, ?_⟩
        · rw [f1.2 6 (by decide)]
          exact setI_I
        · show V _ 3 0 0 0 [some (vR (some (11, 0))), some (vI l), some (vI s), some (vI q)] [] σ _
          refine V_aldn0 a_X11_sellShares_0 ?_
          refine V_ildn1 a_X11_sellShares_1 ?_
          refine V_ildn2 a_X11_sellShares_2 ?_
          refine V_v2R a_X11_sellShares_3 c_X11_320 r1 ?_
          refine V_if_ne_f a_X11_sellShares_6 (by omega) (by omega) ?_
          refine V_aldn0 a_X11_sellShares_9 ?_
          refine V_ildn3 a_X11_sellShares_10 ?_
          refine V_s1R a_X11_sellShares_11 c_X11_259 r2 ?_
          refine V_if_ne_t a_X11_sellShares_14 (by omega) (by omega) ?_
          refine V_iconst a_X11_sellShares_21 ?_
          refine V_iconst a_X11_sellShares_22 ?_
          refine V_v2R a_X11_sellShares_23 c_X11_72 R_fails0 ?_
          refine V_if_ne_f a_X11_sellShares_26 (by omega) (by omega) ?_
          refine V_aldn0 a_X11_sellShares_29 ?_
          refine V_aldn0 a_X11_sellShares_30 ?_
          refine V_ildn1 a_X11_sellShares_31 ?_
          refine V_ildn2 a_X11_sellShares_32 ?_
          refine V_v2R a_X11_sellShares_33 c_X11_200 (R_holdingOf hm (by omega) (by omega)) ?_
          refine V_aldn0 a_X11_sellShares_36 ?_
          refine V_ildn1 a_X11_sellShares_37 ?_
          refine V_ildn2 a_X11_sellShares_38 ?_
          refine V_v2R a_X11_sellShares_39 c_X11_204 (R_lentBy hm (by omega) (by omega)) ?_
          refine V_lsub a_X11_sellShares_42 ?_
          refine V_ildn3 a_X11_sellShares_43 ?_
          refine V_i2l a_X11_sellShares_44 (by omega) ?_
          refine V_lc_ge_t a_X11_sellShares_45 a_X11_sellShares_46 (by omega) (by omega) ?_
          refine V_iconst a_X11_sellShares_53 ?_
          refine V_iconst a_X11_sellShares_54 ?_
          refine V_v2R a_X11_sellShares_55 c_X11_72 R_fails0 ?_
          refine V_if_eq_t a_X11_sellShares_58 (by omega) (by omega) ?_
          refine V_aldn0 a_X11_sellShares_63 ?_
          refine V_ildn1 a_X11_sellShares_64 ?_
          refine V_ildn2 a_X11_sellShares_65 ?_
          refine V_ildn3 a_X11_sellShares_66 ?_
          refine V_ineg a_X11_sellShares_67 ?_
          refine V_i2l a_X11_sellShares_68 (by omega) ?_
          refine V_v3R a_X11_sellShares_69 c_X11_355 r3 ?_
          exact V_iret a_X11_sellShares_72 (⟨rfl, rfl⟩)
    · have e : selC A l s q = 2 := by
        unfold selC
        rw [if_neg (fun z => z h1), if_pos h2]
      rw [e]
      refine ⟨fun z => absurd z (by decide), fun _ => ?_⟩
      show V _ 3 0 0 0 [some (vR (some (11, 0))), some (vI l), some (vI s), some (vI q)] [] σ _
      refine V_aldn0 a_X11_sellShares_0 ?_
      refine V_ildn1 a_X11_sellShares_1 ?_
      refine V_ildn2 a_X11_sellShares_2 ?_
      refine V_v2R a_X11_sellShares_3 c_X11_320 r1 ?_
      refine V_if_ne_f a_X11_sellShares_6 (by omega) (by omega) ?_
      refine V_aldn0 a_X11_sellShares_9 ?_
      refine V_ildn3 a_X11_sellShares_10 ?_
      refine V_s1R a_X11_sellShares_11 c_X11_259 r2 ?_
      refine V_if_ne_f a_X11_sellShares_14 (by omega) (by omega) ?_
      refine V_iconst a_X11_sellShares_17 ?_
      refine V_goto a_X11_sellShares_18 ?_
      refine V_iconst a_X11_sellShares_22 ?_
      refine V_v2R a_X11_sellShares_23 c_X11_72 R_fails1 ?_
      refine V_if_ne_t a_X11_sellShares_26 (by omega) (by omega) ?_
      refine V_iconst a_X11_sellShares_61 ?_
      exact V_iret a_X11_sellShares_62 (⟨rfl, by rw [th_th]⟩)
  · have e : selC A l s q = 1 := by
      unfold selC
      rw [if_pos h1]
    rw [e]
    have hb : b1 = 1 := by omega
    subst hb
    refine ⟨fun z => absurd z (by decide), fun _ => ?_⟩
    show V _ 3 0 0 0 [some (vR (some (11, 0))), some (vI l), some (vI s), some (vI q)] [] σ _
    refine V_aldn0 a_X11_sellShares_0 ?_
    refine V_ildn1 a_X11_sellShares_1 ?_
    refine V_ildn2 a_X11_sellShares_2 ?_
    refine V_v2R a_X11_sellShares_3 c_X11_320 r1 ?_
    refine V_if_ne_t a_X11_sellShares_6 (by omega) (by omega) ?_
    refine V_iconst a_X11_sellShares_61 ?_
    exact V_iret a_X11_sellShares_62 (⟨rfl, rfl⟩)
end Mo22

