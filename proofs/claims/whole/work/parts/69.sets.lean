section Mo20
variable {D : Int} {σ : Hp} {A : St}
theorem R_sets {j v c : Int} {H : Int → St} (h : Md D σ A) (hP : PastOk σ c H) (hj : 0 ≤ j ∧ j < 359) (hv : iR v) : ∃ σ', FK [50, 51, 54] [5] σ σ' ∧ σ'.J 50 0 = upI A j v ∧ PastOk σ' (pushC c) (pushH c H A) ∧ Rt m_X11_sets 2 0 0 [vR (some (11, 0)), vI j, vI v] σ (some (vI (A j))) σ' := by
  obtain ⟨σ1, f1, m1, p1, r1⟩ := R_remember (c := c) (H := H) h hP
  obtain ⟨-, hW, hA, -⟩ := id m1
  refine ⟨σ1.rJ 50 0 (upI A j v), (f1.sub (by decide) (by decide)).trans ((Fm.rJ (by decide)).fk (by decide)), rJ_J, ⟨p1.1, p1.2.1, by rw [rJ_ne (by decide)]; exact p1.2.2⟩, ?_⟩
  show V _ 2 0 0 0 [some (vR (some (11, 0))), some (vI j), some (vI v), none] [] σ _
  refine V_aldn0 a_X11_sets_0 ?_
  refine V_v0V a_X11_sets_1 c_X11_272 r1 ?_
  refine V_aldn0 a_X11_sets_4 ?_
  refine V_fin a_X11_sets_5 f_X11_7 rfl hW ?_
  refine V_ildn1 a_X11_sets_8 ?_
  refine V_w a_X11_sets_9 (by omega) hA ?_
  refine V_l2i a_X11_sets_10 ?_
  refine V_istn3 a_X11_sets_11 ?_
  refine V_aldn0 a_X11_sets_12 ?_
  refine V_fin a_X11_sets_13 f_X11_7 rfl hW ?_
  refine V_ildn1 a_X11_sets_16 ?_
  refine V_ildn2 a_X11_sets_17 ?_
  refine V_i2l a_X11_sets_18 (by omega) ?_
  refine V_last a_X11_sets_19 rfl (by omega) ?_
  rw [setJ_row, hA]
  refine V_ildn3 a_X11_sets_20 ?_
  exact V_iret a_X11_sets_21 (⟨rfl, rfl⟩)
theorem R_setPrice {s v c : Int} {H : Int → St} (h : Md D σ A) (hP : PastOk σ c H) (hs : iR s) (hv : iR v) : (((0 ≤ s ∧ s < A 0) ∧ 1 ≤ v ∧ v ≤ 9999) → ∃ σ', FK [50, 51, 54] [5, 6] σ σ' ∧ σ'.I 11 0 6 = 0 ∧ σ'.J 50 0 = upI A (15 + s) v ∧ PastOk σ' (pushC c) (pushH c H A) ∧ Rt m_X11_setPrice 3 0 0 [vR (some (11, 0)), vI s, vI v] σ (some (vI (A (15 + s)))) σ') ∧ (¬ (0 ≤ s ∧ s < A 0) → Rt m_X11_setPrice 3 0 0 [vR (some (11, 0)), vI s, vI v] σ (some (vI 0)) (σ.th 1)) ∧ ((0 ≤ s ∧ s < A 0) → ¬ (1 ≤ v ∧ v ≤ 9999) → Rt m_X11_setPrice 3 0 0 [vR (some (11, 0)), vI s, vI v] σ (some (vI 0)) (σ.th 2)) := by
  have hn := h.2.2.2.n
  obtain ⟨b1, hb1, r1⟩ := B_isNoSecurity (s := s) h hs
  obtain ⟨b2, hb2, r2⟩ := B_in (σ := σ.th 0) (v := v) (x := 1) (y := 9999) (by omega) (by omega) (by omega)
  refine ⟨fun e => ?_, fun e => ?_, fun e1 e2 => ?_⟩
  · have hb : b1 = 0 := by omega
    subst hb
    have hm : Md D ((σ.th 0).th 0) A := h
    obtain ⟨σ1, f1, e1, p1, r3⟩ := R_sets (j := 15 + s) (v := v) (c := c) (H := H) hm hP (by omega) hv
    refine ⟨σ1, ((FK.th (by decide)).trans (FK.th (by decide))).trans (f1.sub (by decide) (by decide)), ?_, e1, p1, ?_⟩
    · rw [f1.2 6 (by decide)]
      exact setI_I
    · show V _ 3 0 0 0 [some (vR (some (11, 0))), some (vI s), some (vI v)] [] σ _
      refine V_aldn0 a_X11_setPrice_0 ?_
      refine V_ildn1 a_X11_setPrice_1 ?_
      refine V_v1R a_X11_setPrice_2 c_X11_349 r1 ?_
      refine V_if_ne_f a_X11_setPrice_5 (by omega) (by omega) ?_
      refine V_aldn0 a_X11_setPrice_8 ?_
      refine V_ildn2 a_X11_setPrice_9 ?_
      refine V_i2l a_X11_setPrice_10 (by omega) ?_
      refine V_lconst1 a_X11_setPrice_11 ?_
      refine V_ldc2 a_X11_setPrice_12 q_X11_143 ?_
      refine V_s3R a_X11_setPrice_15 c_X11_61 r2 ?_
      refine V_if_ne_t a_X11_setPrice_18 (by omega) (by omega) ?_
      refine V_iconst a_X11_setPrice_25 ?_
      refine V_iconst a_X11_setPrice_26 ?_
      refine V_v2R a_X11_setPrice_27 c_X11_72 R_fails0 ?_
      refine V_if_eq_t a_X11_setPrice_30 (by omega) (by omega) ?_
      refine V_aldn0 a_X11_setPrice_37 ?_
      refine V_bipush a_X11_setPrice_38 (by decide) ?_
      refine V_ildn1 a_X11_setPrice_40 ?_
      refine V_iadd a_X11_setPrice_41 ?_
      refine V_ildn2 a_X11_setPrice_42 ?_
      refine V_v2R a_X11_setPrice_43 c_X11_359 r3 ?_
      exact V_iret a_X11_setPrice_46 (⟨rfl, rfl⟩)
  · have hb : b1 = 1 := by omega
    subst hb
    · show V _ 3 0 0 0 [some (vR (some (11, 0))), some (vI s), some (vI v)] [] σ _
      refine V_aldn0 a_X11_setPrice_0 ?_
      refine V_ildn1 a_X11_setPrice_1 ?_
      refine V_v1R a_X11_setPrice_2 c_X11_349 r1 ?_
      refine V_if_ne_t a_X11_setPrice_5 (by omega) (by omega) ?_
      refine V_iconst a_X11_setPrice_33 ?_
      refine V_goto a_X11_setPrice_34 ?_
      exact V_iret a_X11_setPrice_46 (⟨rfl, rfl⟩)
  · have hb : b1 = 0 := by omega
    subst hb
    · show V _ 3 0 0 0 [some (vR (some (11, 0))), some (vI s), some (vI v)] [] σ _
      refine V_aldn0 a_X11_setPrice_0 ?_
      refine V_ildn1 a_X11_setPrice_1 ?_
      refine V_v1R a_X11_setPrice_2 c_X11_349 r1 ?_
      refine V_if_ne_f a_X11_setPrice_5 (by omega) (by omega) ?_
      refine V_aldn0 a_X11_setPrice_8 ?_
      refine V_ildn2 a_X11_setPrice_9 ?_
      refine V_i2l a_X11_setPrice_10 (by omega) ?_
      refine V_lconst1 a_X11_setPrice_11 ?_
      refine V_ldc2 a_X11_setPrice_12 q_X11_143 ?_
      refine V_s3R a_X11_setPrice_15 c_X11_61 r2 ?_
      refine V_if_ne_f a_X11_setPrice_18 (by omega) (by omega) ?_
      refine V_iconst a_X11_setPrice_21 ?_
      refine V_goto a_X11_setPrice_22 ?_
      refine V_iconst a_X11_setPrice_26 ?_
      refine V_v2R a_X11_setPrice_27 c_X11_72 R_fails1 ?_
      refine V_if_eq_f a_X11_setPrice_30 (by omega) (by omega) ?_
      refine V_iconst a_X11_setPrice_33 ?_
      refine V_goto a_X11_setPrice_34 ?_
      exact V_iret a_X11_setPrice_46 (⟨rfl, by rw [th_th]⟩)
theorem R_setRate {s v c : Int} {H : Int → St} (h : Md D σ A) (hP : PastOk σ c H) (hs : iR s) (hv : iR v) : (((0 ≤ s ∧ s < A 0) ∧ 0 ≤ v ∧ v ≤ 9999) → ∃ σ', FK [50, 51, 54] [5, 6] σ σ' ∧ σ'.I 11 0 6 = 0 ∧ σ'.J 50 0 = upI A (19 + s) v ∧ PastOk σ' (pushC c) (pushH c H A) ∧ Rt m_X11_setRate 3 0 0 [vR (some (11, 0)), vI s, vI v] σ (some (vI (A (19 + s)))) σ') ∧ (¬ (0 ≤ s ∧ s < A 0) → Rt m_X11_setRate 3 0 0 [vR (some (11, 0)), vI s, vI v] σ (some (vI 0)) (σ.th 1)) ∧ ((0 ≤ s ∧ s < A 0) → ¬ (0 ≤ v ∧ v ≤ 9999) → Rt m_X11_setRate 3 0 0 [vR (some (11, 0)), vI s, vI v] σ (some (vI 0)) (σ.th 2)) := by
  have hn := h.2.2.2.n
  obtain ⟨b1, hb1, r1⟩ := B_isNoSecurity (s := s) h hs
  obtain ⟨b2, hb2, r2⟩ := B_in (σ := σ.th 0) (v := v) (x := 0) (y := 9999) (by omega) (by omega) (by omega)
  refine ⟨fun e => ?_, fun e => ?_, fun e1 e2 => ?_⟩
  · have hb : b1 = 0 := by omega
    subst hb
    have hm : Md D ((σ.th 0).th 0) A := h
    obtain ⟨σ1, f1, e1, p1, r3⟩ := R_sets (j := 19 + s) (v := v) (c := c) (H := H) hm hP (by omega) hv
    refine ⟨σ1, ((FK.th (by decide)).trans (FK.th (by decide))).trans (f1.sub (by decide) (by decide)), ?_, e1, p1, ?_⟩
    · rw [f1.2 6 (by decide)]
      exact setI_I
    · show V _ 3 0 0 0 [some (vR (some (11, 0))), some (vI s), some (vI v)] [] σ _
      refine V_aldn0 a_X11_setRate_0 ?_
      refine V_ildn1 a_X11_setRate_1 ?_
      refine V_v1R a_X11_setRate_2 c_X11_349 r1 ?_
      refine V_if_ne_f a_X11_setRate_5 (by omega) (by omega) ?_
      refine V_aldn0 a_X11_setRate_8 ?_
      refine V_ildn2 a_X11_setRate_9 ?_
      refine V_i2l a_X11_setRate_10 (by omega) ?_
      refine V_lconst0 a_X11_setRate_11 ?_
      refine V_ldc2 a_X11_setRate_12 q_X11_143 ?_
      refine V_s3R a_X11_setRate_15 c_X11_61 r2 ?_
      refine V_if_ne_t a_X11_setRate_18 (by omega) (by omega) ?_
      refine V_iconst a_X11_setRate_25 ?_
      refine V_iconst a_X11_setRate_26 ?_
      refine V_v2R a_X11_setRate_27 c_X11_72 R_fails0 ?_
      refine V_if_eq_t a_X11_setRate_30 (by omega) (by omega) ?_
      refine V_aldn0 a_X11_setRate_37 ?_
      refine V_bipush a_X11_setRate_38 (by decide) ?_
      refine V_ildn1 a_X11_setRate_40 ?_
      refine V_iadd a_X11_setRate_41 ?_
      refine V_ildn2 a_X11_setRate_42 ?_
      refine V_v2R a_X11_setRate_43 c_X11_359 r3 ?_
      exact V_iret a_X11_setRate_46 (⟨rfl, rfl⟩)
  · have hb : b1 = 1 := by omega
    subst hb
    · show V _ 3 0 0 0 [some (vR (some (11, 0))), some (vI s), some (vI v)] [] σ _
      refine V_aldn0 a_X11_setRate_0 ?_
      refine V_ildn1 a_X11_setRate_1 ?_
      refine V_v1R a_X11_setRate_2 c_X11_349 r1 ?_
      refine V_if_ne_t a_X11_setRate_5 (by omega) (by omega) ?_
      refine V_iconst a_X11_setRate_33 ?_
      refine V_goto a_X11_setRate_34 ?_
      exact V_iret a_X11_setRate_46 (⟨rfl, rfl⟩)
  · have hb : b1 = 0 := by omega
    subst hb
    · show V _ 3 0 0 0 [some (vR (some (11, 0))), some (vI s), some (vI v)] [] σ _
      refine V_aldn0 a_X11_setRate_0 ?_
      refine V_ildn1 a_X11_setRate_1 ?_
      refine V_v1R a_X11_setRate_2 c_X11_349 r1 ?_
      refine V_if_ne_f a_X11_setRate_5 (by omega) (by omega) ?_
      refine V_aldn0 a_X11_setRate_8 ?_
      refine V_ildn2 a_X11_setRate_9 ?_
      refine V_i2l a_X11_setRate_10 (by omega) ?_
      refine V_lconst0 a_X11_setRate_11 ?_
      refine V_ldc2 a_X11_setRate_12 q_X11_143 ?_
      refine V_s3R a_X11_setRate_15 c_X11_61 r2 ?_
      refine V_if_ne_f a_X11_setRate_18 (by omega) (by omega) ?_
      refine V_iconst a_X11_setRate_21 ?_
      refine V_goto a_X11_setRate_22 ?_
      refine V_iconst a_X11_setRate_26 ?_
      refine V_v2R a_X11_setRate_27 c_X11_72 R_fails1 ?_
      refine V_if_eq_f a_X11_setRate_30 (by omega) (by omega) ?_
      refine V_iconst a_X11_setRate_33 ?_
      refine V_goto a_X11_setRate_34 ?_
      exact V_iret a_X11_setRate_46 (⟨rfl, by rw [th_th]⟩)
theorem R_setLimit {s v c : Int} {H : Int → St} (h : Md D σ A) (hP : PastOk σ c H) (hs : iR s) (hv : iR v) : (((0 ≤ s ∧ s < A 1) ∧ 0 ≤ v ∧ v ≤ 100) → ∃ σ', FK [50, 51, 54] [5, 6] σ σ' ∧ σ'.I 11 0 6 = 0 ∧ σ'.J 50 0 = upI A (33 + s) v ∧ PastOk σ' (pushC c) (pushH c H A) ∧ Rt m_X11_setLimit 3 0 0 [vR (some (11, 0)), vI s, vI v] σ (some (vI (A (33 + s)))) σ') ∧ (¬ (0 ≤ s ∧ s < A 1) → Rt m_X11_setLimit 3 0 0 [vR (some (11, 0)), vI s, vI v] σ (some (vI 0)) (σ.th 1)) ∧ ((0 ≤ s ∧ s < A 1) → ¬ (0 ≤ v ∧ v ≤ 100) → Rt m_X11_setLimit 3 0 0 [vR (some (11, 0)), vI s, vI v] σ (some (vI 0)) (σ.th 2)) := by
  have hn := h.2.2.2.n
  obtain ⟨b1, hb1, r1⟩ := B_isLender (l := s) h hs
  obtain ⟨b2, hb2, r2⟩ := B_in (σ := σ.th 0) (v := v) (x := 0) (y := 100) (by omega) (by omega) (by omega)
  refine ⟨fun e => ?_, fun e => ?_, fun e1 e2 => ?_⟩
  · have hb : b1 = 1 := by omega
    subst hb
    have hm : Md D ((σ.th 0).th 0) A := h
    obtain ⟨σ1, f1, e1, p1, r3⟩ := R_sets (j := 33 + s) (v := v) (c := c) (H := H) hm hP (by omega) hv
    refine ⟨σ1, ((FK.th (by decide)).trans (FK.th (by decide))).trans (f1.sub (by decide) (by decide)), ?_, e1, p1, ?_⟩
    · rw [f1.2 6 (by decide)]
      exact setI_I
    · show V _ 3 0 0 0 [some (vR (some (11, 0))), some (vI s), some (vI v)] [] σ _
      refine V_aldn0 a_X11_setLimit_0 ?_
      refine V_aldn0 a_X11_setLimit_1 ?_
      refine V_ildn1 a_X11_setLimit_2 ?_
      refine V_v1R a_X11_setLimit_3 c_X11_65 r1 ?_
      refine V_if_ne_t a_X11_setLimit_6 (by omega) (by omega) ?_
      refine V_iconst a_X11_setLimit_13 ?_
      refine V_iconst a_X11_setLimit_14 ?_
      refine V_v2R a_X11_setLimit_15 c_X11_72 R_fails0 ?_
      refine V_if_ne_f a_X11_setLimit_18 (by omega) (by omega) ?_
      refine V_aldn0 a_X11_setLimit_21 ?_
      refine V_ildn2 a_X11_setLimit_22 ?_
      refine V_i2l a_X11_setLimit_23 (by omega) ?_
      refine V_lconst0 a_X11_setLimit_24 ?_
      refine V_ldc2 a_X11_setLimit_25 q_X11_149 ?_
      refine V_s3R a_X11_setLimit_28 c_X11_61 r2 ?_
      refine V_if_ne_t a_X11_setLimit_31 (by omega) (by omega) ?_
      refine V_iconst a_X11_setLimit_38 ?_
      refine V_iconst a_X11_setLimit_39 ?_
      refine V_v2R a_X11_setLimit_40 c_X11_72 R_fails0 ?_
      refine V_if_eq_t a_X11_setLimit_43 (by omega) (by omega) ?_
      refine V_aldn0 a_X11_setLimit_50 ?_
      refine V_bipush a_X11_setLimit_51 (by decide) ?_
      refine V_ildn1 a_X11_setLimit_53 ?_
      refine V_iadd a_X11_setLimit_54 ?_
      refine V_ildn2 a_X11_setLimit_55 ?_
      refine V_v2R a_X11_setLimit_56 c_X11_359 r3 ?_
      exact V_iret a_X11_setLimit_59 (⟨rfl, rfl⟩)
  · have hb : b1 = 0 := by omega
    subst hb
    · show V _ 3 0 0 0 [some (vR (some (11, 0))), some (vI s), some (vI v)] [] σ _
      refine V_aldn0 a_X11_setLimit_0 ?_
      refine V_aldn0 a_X11_setLimit_1 ?_
      refine V_ildn1 a_X11_setLimit_2 ?_
      refine V_v1R a_X11_setLimit_3 c_X11_65 r1 ?_
      refine V_if_ne_f a_X11_setLimit_6 (by omega) (by omega) ?_
      refine V_iconst a_X11_setLimit_9 ?_
      refine V_goto a_X11_setLimit_10 ?_
      refine V_iconst a_X11_setLimit_14 ?_
      refine V_v2R a_X11_setLimit_15 c_X11_72 R_fails1 ?_
      refine V_if_ne_t a_X11_setLimit_18 (by omega) (by omega) ?_
      refine V_iconst a_X11_setLimit_46 ?_
      refine V_goto a_X11_setLimit_47 ?_
      exact V_iret a_X11_setLimit_59 (⟨rfl, rfl⟩)
  · have hb : b1 = 1 := by omega
    subst hb
    · show V _ 3 0 0 0 [some (vR (some (11, 0))), some (vI s), some (vI v)] [] σ _
      refine V_aldn0 a_X11_setLimit_0 ?_
      refine V_aldn0 a_X11_setLimit_1 ?_
      refine V_ildn1 a_X11_setLimit_2 ?_
      refine V_v1R a_X11_setLimit_3 c_X11_65 r1 ?_
      refine V_if_ne_t a_X11_setLimit_6 (by omega) (by omega) ?_
      refine V_iconst a_X11_setLimit_13 ?_
      refine V_iconst a_X11_setLimit_14 ?_
      refine V_v2R a_X11_setLimit_15 c_X11_72 R_fails0 ?_
      refine V_if_ne_f a_X11_setLimit_18 (by omega) (by omega) ?_
      refine V_aldn0 a_X11_setLimit_21 ?_
      refine V_ildn2 a_X11_setLimit_22 ?_
      refine V_i2l a_X11_setLimit_23 (by omega) ?_
      refine V_lconst0 a_X11_setLimit_24 ?_
      refine V_ldc2 a_X11_setLimit_25 q_X11_149 ?_
      refine V_s3R a_X11_setLimit_28 c_X11_61 r2 ?_
      refine V_if_ne_f a_X11_setLimit_31 (by omega) (by omega) ?_
      refine V_iconst a_X11_setLimit_34 ?_
      refine V_goto a_X11_setLimit_35 ?_
      refine V_iconst a_X11_setLimit_39 ?_
      refine V_v2R a_X11_setLimit_40 c_X11_72 R_fails1 ?_
      refine V_if_eq_f a_X11_setLimit_43 (by omega) (by omega) ?_
      refine V_iconst a_X11_setLimit_46 ?_
      refine V_goto a_X11_setLimit_47 ?_
      exact V_iret a_X11_setLimit_59 (⟨rfl, by rw [th_th]⟩)
end Mo20

