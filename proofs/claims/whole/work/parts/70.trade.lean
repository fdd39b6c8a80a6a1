def trdA (A : St) (l s q : Int) : St := upI (upI (upI A (49 + 4 * l + s) (A (49 + 4 * l + s) + q)) (73 + l) (A (73 + l) - q * A (15 + s))) 14 (A 14 + q * A (15 + s))
section Mo21
variable {D : Int} {σ : Hp} {A : St}
theorem R_setPolicy {v c : Int} {H : Int → St} (h : Md D σ A) (hP : PastOk σ c H) (hv : iR v) : ((0 ≤ v ∧ v ≤ 2) → ∃ σ', FK [50, 51, 54] [5, 6] σ σ' ∧ σ'.I 11 0 6 = 0 ∧ σ'.J 50 0 = upI A 5 v ∧ PastOk σ' (pushC c) (pushH c H A) ∧ Rt m_X11_setPolicy 3 0 0 [vR (some (11, 0)), vI v] σ (some (vI (A 5))) σ') ∧ (¬ (0 ≤ v ∧ v ≤ 2) → Rt m_X11_setPolicy 3 0 0 [vR (some (11, 0)), vI v] σ (some (vI 0)) (σ.th 1)) := by
  obtain ⟨b2, hb2, r2⟩ := B_in (σ := σ) (v := v) (x := 0) (y := 2) (by omega) (by omega) (by omega)
  refine ⟨fun e => ?_, fun e => ?_⟩
  · have hm : Md D (σ.th 0) A := h
    obtain ⟨σ1, f1, e1, p1, r3⟩ := R_sets (j := 5) (v := v) (c := c) (H := H) hm hP (by omega) hv
    refine ⟨σ1, (FK.th (by decide)).trans (f1.sub (by decide) (by decide)), ?_, e1, p1, ?_⟩
    · rw [f1.2 6 (by decide)]
      exact setI_I
    · show V _ 3 0 0 0 [some (vR (some (11, 0))), some (vI v)] [] σ _
      refine V_aldn0 a_X11_setPolicy_0 ?_
      refine V_ildn1 a_X11_setPolicy_1 ?_
      refine V_i2l a_X11_setPolicy_2 (by omega) ?_
      refine V_lconst0 a_X11_setPolicy_3 ?_
      refine V_ldc2 a_X11_setPolicy_4 q_X11_362 ?_
      refine V_s3R a_X11_setPolicy_7 c_X11_61 r2 ?_
      refine V_if_ne_t a_X11_setPolicy_10 (by omega) (by omega) ?_
      refine V_iconst a_X11_setPolicy_17 ?_
      refine V_iconst a_X11_setPolicy_18 ?_
      refine V_v2R a_X11_setPolicy_19 c_X11_72 R_fails0 ?_
      refine V_if_eq_t a_X11_setPolicy_22 (by omega) (by omega) ?_
      refine V_aldn0 a_X11_setPolicy_29 ?_
      refine V_iconst a_X11_setPolicy_30 ?_
      refine V_ildn1 a_X11_setPolicy_31 ?_
      refine V_v2R a_X11_setPolicy_32 c_X11_359 r3 ?_
      exact V_iret a_X11_setPolicy_35 (⟨rfl, rfl⟩)
  · show V _ 3 0 0 0 [some (vR (some (11, 0))), some (vI v)] [] σ _
    refine V_aldn0 a_X11_setPolicy_0 ?_
    refine V_ildn1 a_X11_setPolicy_1 ?_
    refine V_i2l a_X11_setPolicy_2 (by omega) ?_
    refine V_lconst0 a_X11_setPolicy_3 ?_
    refine V_ldc2 a_X11_setPolicy_4 q_X11_362 ?_
    refine V_s3R a_X11_setPolicy_7 c_X11_61 r2 ?_
    refine V_if_ne_f a_X11_setPolicy_10 (by omega) (by omega) ?_
    refine V_iconst a_X11_setPolicy_13 ?_
    refine V_goto a_X11_setPolicy_14 ?_
    refine V_iconst a_X11_setPolicy_18 ?_
    refine V_v2R a_X11_setPolicy_19 c_X11_72 R_fails1 ?_
    refine V_if_eq_f a_X11_setPolicy_22 (by omega) (by omega) ?_
    refine V_iconst a_X11_setPolicy_25 ?_
    refine V_goto a_X11_setPolicy_26 ?_
    exact V_iret a_X11_setPolicy_35 (⟨rfl, rfl⟩)
theorem R_hold {l s v : Int} (hW : WF σ) (hA : σ.J 50 0 (49 + 4 * l + s) = v) (hl : 0 ≤ l ∧ l < 6) (hs : 0 ≤ s ∧ s < 4) : Rt m_X11_holdingOf 0 0 0 [vR (some (11, 0)), vI l, vI s] σ (some (vL v)) σ := by
  show V _ 0 0 0 0 [some (vR (some (11, 0))), some (vI l), some (vI s)] [] σ _
  refine V_aldn0 a_X11_holdingOf_0 ?_
  refine V_fin a_X11_holdingOf_1 f_X11_7 rfl hW ?_
  refine V_bipush a_X11_holdingOf_4 (by decide) ?_
  refine V_iconst a_X11_holdingOf_6 ?_
  refine V_ildn1 a_X11_holdingOf_7 ?_
  refine V_imul a_X11_holdingOf_8 ?_
  refine V_iadd a_X11_holdingOf_9 ?_
  refine V_ildn2 a_X11_holdingOf_10 ?_
  refine V_iadd a_X11_holdingOf_11 ?_
  refine V_laldE a_X11_holdingOf_12 rfl (by omega) hA ?_
  exact V_lret a_X11_holdingOf_13 (⟨rfl, rfl⟩)
theorem R_trade {l s q c : Int} {H : Int → St} (h : Md D σ A) (hP : PastOk σ c H) (hl : 0 ≤ l ∧ l < 6) (hs : 0 ≤ s ∧ s < 4) : ∃ σ', FK [50, 51, 54] [5] σ σ' ∧ σ'.J 50 0 = trdA A l s q ∧ PastOk σ' (pushC c) (pushH c H A) ∧ Rt m_X11_trade 2 0 0 [vR (some (11, 0)), vI l, vI s, vL q] σ (some (vI (A (49 + 4 * l + s) + q))) σ' := by
  obtain ⟨σ1, f1, m1, p1, r1⟩ := R_remember (c := c) (H := H) h hP
  obtain ⟨-, hW, hA, -⟩ := id m1
  refine ⟨σ1.rJ 50 0 (trdA A l s q), (f1.sub (by decide) (by decide)).trans ((Fm.rJ (by decide)).fk (by decide)), rJ_J, ⟨p1.1, p1.2.1, by rw [rJ_ne (by decide)]; exact p1.2.2⟩, ?_⟩
  unfold trdA
  have hh : Rt m_X11_holdingOf 0 0 0 [vR (some (11, 0)), vI l, vI s] (σ1.rJ 50 0 (trdA A l s q)) (some (vL (A (49 + 4 * l + s) + q))) (σ1.rJ 50 0 (trdA A l s q)) := by
    exact R_hold (σ := σ1.rJ 50 0 (trdA A l s q)) hW (by rw [rJ_J]; unfold trdA; rw [upI_ne (by omega), upI_ne (by omega), upI_eq]) hl hs
  show V _ 2 0 0 0 [some (vR (some (11, 0))), some (vI l), some (vI s), some (vL q), none] [] σ _
  refine V_aldn0 a_X11_trade_0 ?_
  refine V_v0V a_X11_trade_1 c_X11_272 r1 ?_
  refine V_aldn0 a_X11_trade_4 ?_
  refine V_fin a_X11_trade_5 f_X11_7 rfl hW ?_
  refine V_bipush a_X11_trade_8 (by decide) ?_
  refine V_iconst a_X11_trade_10 ?_
  refine V_ildn1 a_X11_trade_11 ?_
  refine V_imul a_X11_trade_12 ?_
  refine V_iadd a_X11_trade_13 ?_
  refine V_ildn2 a_X11_trade_14 ?_
  refine V_iadd a_X11_trade_15 ?_
  first | refine V_dup2IR a_X11_trade_16 ?_ | refine V_dup2L a_X11_trade_16 ?_
  refine V_w a_X11_trade_17 (by omega) hA ?_
  refine V_lldn3 a_X11_trade_18 ?_
  refine V_ladd a_X11_trade_19 ?_
  refine V_last a_X11_trade_20 rfl (by omega) ?_
  rw [setJ_row, hA]
  refine V_aldn0 a_X11_trade_21 ?_
  refine V_fin a_X11_trade_22 f_X11_7 rfl hW ?_
  refine V_bipush a_X11_trade_25 (by decide) ?_
  refine V_ildn1 a_X11_trade_27 ?_
  refine V_iadd a_X11_trade_28 ?_
  first | refine V_dup2IR a_X11_trade_29 ?_ | refine V_dup2L a_X11_trade_29 ?_
  refine V_laldE a_X11_trade_30 rfl (by omega) (v := A (73 + l)) (by rw [rJ_J, upI_ne (by omega)]) ?_
  refine V_lldn3 a_X11_trade_31 ?_
  refine V_aldn0 a_X11_trade_32 ?_
  refine V_fin a_X11_trade_33 f_X11_7 rfl hW ?_
  refine V_bipush a_X11_trade_36 (by decide) ?_
  refine V_ildn2 a_X11_trade_38 ?_
  refine V_iadd a_X11_trade_39 ?_
  refine V_laldE a_X11_trade_40 rfl (by omega) (v := A (15 + s)) (by rw [rJ_J, upI_ne (by omega)]) ?_
  refine V_lmul a_X11_trade_41 ?_
  refine V_lsub a_X11_trade_42 ?_
  refine V_last a_X11_trade_43 rfl (by omega) ?_
  rw [rJ_set]
  refine V_aldn0 a_X11_trade_44 ?_
  refine V_fin a_X11_trade_45 f_X11_7 rfl hW ?_
  refine V_bipush a_X11_trade_48 (by decide) ?_
  first | refine V_dup2IR a_X11_trade_50 ?_ | refine V_dup2L a_X11_trade_50 ?_
  refine V_laldE a_X11_trade_51 rfl (by omega) (v := A 14) (by rw [rJ_J, upI_ne (by omega), upI_ne (by omega)]) ?_
  refine V_lldn3 a_X11_trade_52 ?_
  refine V_aldn0 a_X11_trade_53 ?_
  refine V_fin a_X11_trade_54 f_X11_7 rfl hW ?_
  refine V_bipush a_X11_trade_57 (by decide) ?_
  refine V_ildn2 a_X11_trade_59 ?_
  refine V_iadd a_X11_trade_60 ?_
  refine V_laldE a_X11_trade_61 rfl (by omega) (v := A (15 + s)) (by rw [rJ_J, upI_ne (by omega), upI_ne (by omega)]) ?_
  refine V_lmul a_X11_trade_62 ?_
  refine V_ladd a_X11_trade_63 ?_
  refine V_last a_X11_trade_64 rfl (by omega) ?_
  rw [rJ_set]
  refine V_aldn0 a_X11_trade_65 ?_
  refine V_ildn1 a_X11_trade_66 ?_
  refine V_ildn2 a_X11_trade_67 ?_
  refine V_v2R a_X11_trade_68 c_X11_200 hh ?_
  refine V_l2i a_X11_trade_71 ?_
  exact V_iret a_X11_trade_72 (⟨rfl, rfl⟩)
end Mo21

