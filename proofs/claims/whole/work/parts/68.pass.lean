section Mo19
variable {D : Int} {σ : Hp} {A : St}
theorem R_passDays {d c : Int} {H : Int → St} (h : Md D σ A) (hP : PastOk σ c H) (hd : iR d) (hD4 : D + 401 ≤ 20000000) : ((1 ≤ d ∧ d ≤ 400) → ∃ σ', FK [50, 51, 54] [5, 6] σ σ' ∧ σ'.I 11 0 6 = 0 ∧ σ'.J 50 0 = dysX A d ∧ PastOk σ' (pushC c) (pushH c H A) ∧ Rt m_X11_passDays 3 0 0 [vR (some (11, 0)), vI d] σ (some (vI (dysX A d 10 - A 10))) σ') ∧ (¬ (1 ≤ d ∧ d ≤ 400) → Rt m_X11_passDays 3 0 0 [vR (some (11, 0)), vI d] σ (some (vI 0)) (σ.th 1)) := by
  obtain ⟨b, hb, r1⟩ := B_in (σ := σ) (v := d) (x := 1) (y := 400) (by omega) (by omega) (by omega)
  refine ⟨fun e => ?_, fun e => ?_⟩
  · have hm : Md D (σ.th 0) A := h
    obtain ⟨σ1, f1, m1, p1, r2⟩ := R_remember (c := c) (H := H) hm hP
    have r3 := R_goDays (d := d) m1 (by omega) hD4
    have f3 : FK [50, 51, 54] [5, 6] σ1 (σ1.rJ 50 0 (dysX A d)) := (Fm.rJ (by decide)).fk (by decide)
    refine ⟨σ1.rJ 50 0 (dysX A d), FK.trans (FK.trans (FK.th (by decide)) (f1.sub (by decide) (by decide))) f3, ?_, rJ_J, ?_, ?_⟩
    · show σ1.I 11 0 6 = 0
      rw [f1.2 6 (by decide)]
      exact setI_I
    · exact ⟨p1.1, p1.2.1, by rw [rJ_ne (by decide)]; exact p1.2.2⟩
    · show V _ 3 0 0 0 [some (vR (some (11, 0))), some (vI d)] [] σ _
      refine V_aldn0 a_X11_passDays_0 ?_
      refine V_ildn1 a_X11_passDays_1 ?_
      refine V_i2l a_X11_passDays_2 (by omega) ?_
      refine V_lconst1 a_X11_passDays_3 ?_
      refine V_ldc2 a_X11_passDays_4 q_X11_344 ?_
      refine V_s3R a_X11_passDays_7 c_X11_61 r1 ?_
      refine V_if_ne_t a_X11_passDays_10 (by omega) (by omega) ?_
      refine V_iconst a_X11_passDays_17 ?_
      refine V_iconst a_X11_passDays_18 ?_
      refine V_v2R a_X11_passDays_19 c_X11_72 R_fails0 ?_
      refine V_if_eq_t a_X11_passDays_22 (by omega) (by omega) ?_
      refine V_aldn0 a_X11_passDays_27 ?_
      refine V_v0V a_X11_passDays_28 c_X11_272 r2 ?_
      refine V_aldn0 a_X11_passDays_31 ?_
      refine V_ildn1 a_X11_passDays_32 ?_
      refine V_v1R a_X11_passDays_33 c_X11_346 r3 ?_
      refine V_l2i a_X11_passDays_36 ?_
      exact V_iret a_X11_passDays_37 (⟨rfl, rfl⟩)
  · show V _ 3 0 0 0 [some (vR (some (11, 0))), some (vI d)] [] σ _
    refine V_aldn0 a_X11_passDays_0 ?_
    refine V_ildn1 a_X11_passDays_1 ?_
    refine V_i2l a_X11_passDays_2 (by omega) ?_
    refine V_lconst1 a_X11_passDays_3 ?_
    refine V_ldc2 a_X11_passDays_4 q_X11_344 ?_
    refine V_s3R a_X11_passDays_7 c_X11_61 r1 ?_
    refine V_if_ne_f a_X11_passDays_10 (by omega) (by omega) ?_
    refine V_iconst a_X11_passDays_13 ?_
    refine V_goto a_X11_passDays_14 ?_
    refine V_iconst a_X11_passDays_18 ?_
    refine V_v2R a_X11_passDays_19 c_X11_72 R_fails1 ?_
    refine V_if_eq_f a_X11_passDays_22 (by omega) (by omega) ?_
    refine V_iconst a_X11_passDays_25 ?_
    exact V_iret a_X11_passDays_26 (⟨rfl, rfl⟩)
theorem R_undoDepth {c : Int} {H : Int → St} (hP : PastOk σ c H) : Rt m_X11_undoDepth 0 0 0 [vR (some (11, 0))] σ (some (vI c)) (σ.th 0) := by
  show V _ 0 0 0 0 [some (vR (some (11, 0)))] [] σ _
  have e : (σ.th 0).I 11 0 5 = c := (setI_ne (by decide)).trans hP.1
  refine V_aldn0 a_X11_undoDepth_0 ?_
  refine V_iconst a_X11_undoDepth_1 ?_
  refine V_putI a_X11_undoDepth_2 f_X11_58 rfl ?_
  refine V_aldn0 a_X11_undoDepth_5 ?_
  refine V_getIE a_X11_undoDepth_6 f_X11_78 rfl e ?_
  exact V_iret a_X11_undoDepth_9 (⟨rfl, rfl⟩)
theorem R_undo {c : Int} {H : Int → St} (h : Md D σ A) (hP : PastOk σ c H) : (c = 0 → Rt m_X11_undo 1 0 0 [vR (some (11, 0))] σ (some (vI 0)) (σ.th 1)) ∧ (c ≠ 0 → ∃ σ', FK [50] [5, 6] σ σ' ∧ σ'.I 11 0 6 = 0 ∧ Eq9 (H (c - 1)) (σ'.J 50 0) ∧ PastOk σ' (c - 1) H ∧ Rt m_X11_undo 1 0 0 [vR (some (11, 0))] σ (some (vI (c - 1))) σ') := by
  obtain ⟨hc, hc1, hv⟩ := hP
  have hW := h.2.1
  refine ⟨fun e => ?_, fun e => ?_⟩
  · show V _ 1 0 0 0 [some (vR (some (11, 0))), none] [] σ _
    refine V_aldn0 a_X11_undo_0 ?_
    refine V_getIE a_X11_undo_1 f_X11_78 rfl hc ?_
    refine V_if_ne_f a_X11_undo_4 (by omega) (by omega) ?_
    refine V_aldn0 a_X11_undo_7 ?_
    refine V_iconst a_X11_undo_8 ?_
    refine V_v1R a_X11_undo_9 c_X11_87 R_no ?_
    exact V_iret a_X11_undo_12 (⟨rfl, rfl⟩)
  · have hf : FK [50] [5, 6] σ ((σ.th 0).setI 11 0 5 (c - 1)) := (FK.th (by decide)).trans ⟨Fm.setI (by decide), fun k hk => setI_ne (fun z => hk (by rw [z]; decide))⟩
    have hc5 : (σ.th 0).I 11 0 5 = c := (setI_ne (by decide)).trans hc
    generalize hτ : (σ.th 0).setI 11 0 5 (c - 1) = τ at hf
    have t5 : τ.I 11 0 5 = c - 1 := by rw [← hτ]; exact setI_I
    have t6 : τ.I 11 0 6 = 0 := by
      rw [← hτ, setI_ne (by decide)]
      exact setI_I
    have hv2 : ∀ i k, 0 ≤ i → i < c → 0 ≤ k → k < 359 → τ.J 54 0 (359 * i + k) = H i k := fun i k i0 i1 k0 k1 => by
      rw [hf.1.J (by decide)]
      exact hv i k i0 i1 k0 k1
    have hWτ : WF τ := hf.1.wf hW
    refine ⟨τ.rJ 50 0 (mix (fun k => τ.J 54 0 (359 * (c - 1) + k)) (τ.J 50 0) 359), hf.trans ((Fm.rJ (by decide)).fk (by decide)), t6, fun k k0 k1 => ?_, ⟨t5, by omega, fun i k i0 i1 k0 k1 => ?_⟩, ?_⟩
    · rw [rJ_J, mix_in k0 k1]
      exact hv2 (c - 1) k (by omega) (by omega) k0 k1
    · rw [rJ_ne (by decide)]
      exact hv2 i k i0 (by omega) k0 k1
    · have start : τ.rJ 50 0 (mix (fun k => τ.J 54 0 (359 * (c - 1) + k)) (τ.J 50 0) 0) = τ := by rw [mix_0, rJ_self]
      show V _ 1 0 0 0 [some (vR (some (11, 0))), none] [] σ _
      refine V_aldn0 a_X11_undo_0 ?_
      refine V_getIE a_X11_undo_1 f_X11_78 rfl hc ?_
      refine V_if_ne_t a_X11_undo_4 (by omega) (by omega) ?_
      refine V_aldn0 a_X11_undo_13 ?_
      refine V_iconst a_X11_undo_14 ?_
      refine V_putI a_X11_undo_15 f_X11_58 rfl ?_
      refine V_aldn0 a_X11_undo_18 ?_
      first | refine V_dupR a_X11_undo_19 ?_ | refine V_dupI a_X11_undo_19 ?_
      refine V_getIE a_X11_undo_20 f_X11_78 rfl hc5 ?_
      refine V_iconst a_X11_undo_23 ?_
      refine V_isub a_X11_undo_24 ?_
      refine V_putI a_X11_undo_25 f_X11_78 rfl ?_
      rw [hτ]
      refine V_iconst a_X11_undo_28 ?_
      refine V_istn1 a_X11_undo_29 ?_
      refine (fun z => by rw [start] at z; exact z : V _ 1 0 0 30 [some (vR (some (11, 0))), some (vI 0)] [] (τ.rJ 50 0 (mix (fun k => τ.J 54 0 (359 * (c - 1) + k)) (τ.J 50 0) 0)) _ → _) ?_
      refine loopI (P := fun k => V _ 1 0 0 30 [some (vR (some (11, 0))), some (vI k)] [] (τ.rJ 50 0 (mix (fun k => τ.J 54 0 (359 * (c - 1) + k)) (τ.J 50 0) k)) _) (N := 359) (by omega) ?_ ?_
      · have hW := hWτ
        refine V_ildn1 a_X11_undo_30 ?_
        refine V_sipush a_X11_undo_31 (by decide) ?_
        refine V_icmp_ge_t a_X11_undo_34 (by omega) (by omega) ?_
        refine V_aldn0 a_X11_undo_64 ?_
        refine V_getIE a_X11_undo_65 f_X11_78 rfl t5 ?_
        exact V_iret a_X11_undo_68 (⟨rfl, rfl⟩)
      · intro k k0 k1 ih
        have hW := hWτ
        rw [← mix_s k0, ← rJ_set] at ih
        refine V_ildn1 a_X11_undo_30 ?_
        refine V_sipush a_X11_undo_31 (by decide) ?_
        refine V_icmp_ge_f a_X11_undo_34 (by omega) (by omega) ?_
        refine V_aldn0 a_X11_undo_37 ?_
        refine V_fin a_X11_undo_38 f_X11_7 rfl hW ?_
        refine V_ildn1 a_X11_undo_41 ?_
        refine V_aldn0 a_X11_undo_42 ?_
        refine V_fin a_X11_undo_43 f_X11_22 rfl hW ?_
        refine V_sipush a_X11_undo_46 (by decide) ?_
        refine V_aldn0 a_X11_undo_49 ?_
        refine V_getIE a_X11_undo_50 f_X11_78 rfl t5 ?_
        refine V_imul a_X11_undo_53 ?_
        refine V_ildn1 a_X11_undo_54 ?_
        refine V_iadd a_X11_undo_55 ?_
        refine V_laldE a_X11_undo_56 rfl (by omega) (v := τ.J 54 0 (359 * (c - 1) + k)) (by rw [rJ_ne (by decide)]) ?_
        refine V_last a_X11_undo_57 rfl (by omega) ?_
        refine V_inc1 a_X11_undo_58 ?_
        refine V_goto a_X11_undo_61 ?_
        exact ih
end Mo19

