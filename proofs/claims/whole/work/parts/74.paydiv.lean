section Mo25
variable {D : Int} {σ : Hp} {A : St}
theorem R_payDividend {s a c : Int} {H : Int → St} (h : Md D σ A) (hP : PastOk σ c H) (hs : iR s) (ha : iR a) : (dvdC A s a = 0 → ∃ σ', FK [50, 51, 54] [5, 6] σ σ' ∧ σ'.I 11 0 6 = 0 ∧ σ'.J 50 0 = (divX A s a (A 7)).1 ∧ PastOk σ' (pushC c) (pushH c H A) ∧ Rt m_X11_payDividend 3 0 0 [vR (some (11, 0)), vI s, vI a] σ (some (vL (divX A s a (A 7)).2)) σ') ∧ (dvdC A s a ≠ 0 → Rt m_X11_payDividend 3 0 0 [vR (some (11, 0)), vI s, vI a] σ (some (vL 0)) (σ.th (dvdC A s a))) := by
  have hn := h.2.2.2.n
  obtain ⟨b1, hb1, r1⟩ := B_isNoSecurity (s := s) h hs
  obtain ⟨b2, hb2, r2⟩ := B_in (σ := σ.th 0) (v := a) (x := 1) (y := 9999) (by omega) (by omega) (by omega)
  by_cases h1 : 0 ≤ s ∧ s < A 0
  · have hb : b1 = 0 := by omega
    subst hb
    by_cases h2 : 1 ≤ a ∧ a ≤ 9999
    · have e : dvdC A s a = 0 := by
        unfold dvdC
        rw [if_neg (fun z => z h1), if_neg (fun z => z h2)]
      refine ⟨fun _ => ?_, fun z => absurd e z⟩
      have hm : Md D ((σ.th 0).th 0) A := h
      obtain ⟨σ1, f1, m1, p1, r3⟩ := R_remember (c := c) (H := H) hm hP
      have r4 := R_divide (s := s) (a := a) m1 (by omega) h2
      refine ⟨σ1.rJ 50 0 (divX A s a (A 7)).1, (((FK.th (by decide)).trans (FK.th (by decide))).trans (f1.sub (by decide) (by decide))).trans ((Fm.rJ (by decide)).fk (by decide)), ?_, rJ_J, ⟨p1.1, p1.2.1, by rw [rJ_ne (by decide)]; exact p1.2.2⟩, ?_⟩
      · show σ1.I 11 0 6 = 0
        rw [f1.2 6 (by decide)]
        exact setI_I
      · show V _ 3 0 0 0 [some (vR (some (11, 0))), some (vI s), some (vI a)] [] σ _
        refine V_aldn0 a_X11_payDividend_0 ?_
        refine V_ildn1 a_X11_payDividend_1 ?_
        refine V_v1R a_X11_payDividend_2 c_X11_349 r1 ?_
        refine V_if_ne_f a_X11_payDividend_5 (by omega) (by omega) ?_
        refine V_aldn0 a_X11_payDividend_8 ?_
        refine V_ildn2 a_X11_payDividend_9 ?_
        refine V_i2l a_X11_payDividend_10 (by omega) ?_
        refine V_lconst1 a_X11_payDividend_11 ?_
        refine V_ldc2 a_X11_payDividend_12 q_X11_143 ?_
        refine V_s3R a_X11_payDividend_15 c_X11_61 r2 ?_
        refine V_if_ne_t a_X11_payDividend_18 (by omega) (by omega) ?_
        refine V_iconst a_X11_payDividend_25 ?_
        refine V_iconst a_X11_payDividend_26 ?_
        refine V_v2R a_X11_payDividend_27 c_X11_72 R_fails0 ?_
        refine V_if_eq_t a_X11_payDividend_30 (by omega) (by omega) ?_
        refine V_aldn0 a_X11_payDividend_35 ?_
        refine V_v0V a_X11_payDividend_36 c_X11_272 r3 ?_
        refine V_aldn0 a_X11_payDividend_39 ?_
        refine V_ildn1 a_X11_payDividend_40 ?_
        refine V_ildn2 a_X11_payDividend_41 ?_
        refine V_v2R a_X11_payDividend_42 c_X11_352 r4 ?_
        exact V_lret a_X11_payDividend_45 (⟨rfl, rfl⟩)
    · have e : dvdC A s a = 2 := by
        unfold dvdC
        rw [if_neg (fun z => z h1), if_pos h2]
      rw [e]
      refine ⟨fun z => absurd z (by decide), fun _ => ?_⟩
      show V _ 3 0 0 0 [some (vR (some (11, 0))), some (vI s), some (vI a)] [] σ _
      refine V_aldn0 a_X11_payDividend_0 ?_
      refine V_ildn1 a_X11_payDividend_1 ?_
      refine V_v1R a_X11_payDividend_2 c_X11_349 r1 ?_
      refine V_if_ne_f a_X11_payDividend_5 (by omega) (by omega) ?_
      refine V_aldn0 a_X11_payDividend_8 ?_
      refine V_ildn2 a_X11_payDividend_9 ?_
      refine V_i2l a_X11_payDividend_10 (by omega) ?_
      refine V_lconst1 a_X11_payDividend_11 ?_
      refine V_ldc2 a_X11_payDividend_12 q_X11_143 ?_
      refine V_s3R a_X11_payDividend_15 c_X11_61 r2 ?_
      refine V_if_ne_f a_X11_payDividend_18 (by omega) (by omega) ?_
      refine V_iconst a_X11_payDividend_21 ?_
      refine V_goto a_X11_payDividend_22 ?_
      refine V_iconst a_X11_payDividend_26 ?_
      refine V_v2R a_X11_payDividend_27 c_X11_72 R_fails1 ?_
      refine V_if_eq_f a_X11_payDividend_30 (by omega) (by omega) ?_
      refine V_lconst0 a_X11_payDividend_33 ?_
      exact V_lret a_X11_payDividend_34 (⟨rfl, by rw [th_th]⟩)
  · have hb : b1 = 1 := by omega
    subst hb
    have e : dvdC A s a = 1 := by
      unfold dvdC
      rw [if_pos h1]
    rw [e]
    refine ⟨fun z => absurd z (by decide), fun _ => ?_⟩
    show V _ 3 0 0 0 [some (vR (some (11, 0))), some (vI s), some (vI a)] [] σ _
    refine V_aldn0 a_X11_payDividend_0 ?_
    refine V_ildn1 a_X11_payDividend_1 ?_
    refine V_v1R a_X11_payDividend_2 c_X11_349 r1 ?_
    refine V_if_ne_t a_X11_payDividend_5 (by omega) (by omega) ?_
    refine V_lconst0 a_X11_payDividend_33 ?_
    exact V_lret a_X11_payDividend_34 (⟨rfl, rfl⟩)
end Mo25

