section Ral
variable {σ : Hp} {T : Int → Int} {e p : Int} {B : St} {i : Nat}
theorem tk_0 {f : Int} : tkA T e f = 0 ↔ ¬ f < e := by
  unfold tkA
  by_cases z : f < e
  · rw [if_pos z]
    refine ⟨fun w => ?_, fun w => absurd z w⟩
    exfalso
    revert w
    split
    · decide
    · split
      · decide
      · split <;> decide
  · rw [if_neg z]
    exact ⟨fun _ => z, fun _ => rfl⟩
theorem R_goToStart : Rt m_X9_goToStart 0 0 0 [vR (some (9, 0))] σ none (σ.setI 9 0 4 0) := by
  show V _ 0 0 0 0 [some (vR (some (9, 0)))] [] σ _
  refine V_aldn0 a_X9_goToStart_0 ?_
  refine V_iconst a_X9_goToStart_1 ?_
  refine V_putI a_X9_goToStart_2 f_X9_19 rfl ?_
  exact V_ret a_X9_goToStart_5 (⟨rfl, rfl⟩)
theorem R_readAll {g : Int → Int} (hc : TC σ T e) (hS : Shp σ i) : Cv m_X7_readAll 7 0 0 [vR (some (7, 0)), vR (some (9, 0)), vR (some (6, i))] σ (some (vI (if (psX T e g).1 = 0 then (psX T e g).2.2.1 else -1))) (fun τ => FX (rdS i) σ τ ∧ TC τ T e ∧ τ.I 7 0 0 = (psX T e g).1 ∧ τ.I 7 0 1 = (psX T e g).2.1 ∧ ((psX T e g).1 = 0 → Cl 0 τ i (psX T e g).2.2.2.1)) := by
  have he := hc.2.2.2
  have f0 : FX (rdS i) σ ((σ.setI 7 0 0 0).setI 7 0 1 (-1)) := (FX.setI (by unfold rdS; omega)).trans (FX.setI (by unfold rdS; omega))
  have s0 : Shp ((σ.setI 7 0 0 0).setI 7 0 1 (-1)) i := f0.shp hS
  have w0 : WF ((σ.setI 7 0 0 0).setI 7 0 1 (-1)) := f0.wf hc.1
  have re := R_Pempty (B := layB g) w0 s0 (fun j j0 j1 j2 => layB_0 j0 (by omega) (by omega)) (fun s a b => layB_1 a b)
  have a7 : ((σ.setI 7 0 0 0).setI 7 0 1 (-1)).I 7 0 0 = 0 := by rw [setI_ne (by decide), setI_I]
  have b7 : ((σ.setI 7 0 0 0).setI 7 0 1 (-1)).I 7 0 1 = -1 := setI_I
  have c9 : ((σ.setI 7 0 0 0).setI 7 0 1 (-1)).I 9 0 0 = e := by
    rw [setI_t (by decide), setI_t (by decide)]
    exact hc.2.2.1
  have hW := w0
  show V _ 7 0 0 0 [some (vR (some (7, 0))), some (vR (some (9, 0))), some (vR (some (6, i))), none] [] σ _
  refine V_aldn0 a_X7_readAll_0 ?_
  refine V_iconst a_X7_readAll_1 ?_
  refine V_putI a_X7_readAll_2 f_X7_19 rfl ?_
  refine V_aldn0 a_X7_readAll_5 ?_
  refine V_iconst a_X7_readAll_6 ?_
  refine V_putI a_X7_readAll_7 f_X7_9 rfl ?_
  refine V_aldn2 a_X7_readAll_10 ?_
  refine V_v0PV a_X7_readAll_11 c_X7_22 re (fun τ1 h1 => ?_)
  skip
  obtain ⟨f1, r1, s1, v1⟩ := h1
  have g7 : τ1.I 7 0 = ((σ.setI 7 0 0 0).setI 7 0 1 (-1)).I 7 0 := f1.I (by unfold cpS; omega)
  have g9 : τ1.I 9 0 = ((σ.setI 7 0 0 0).setI 7 0 1 (-1)).I 9 0 := f1.I (by unfold cpS; omega)
  have fr1 : FX (rdS i) σ (τ1.setI 9 0 4 0) := (f0.trans (f1.sub (fun t n z => by unfold cpS at z; unfold rdS; omega))).trans (FX.setI (by unfold rdS; omega))
  have hc1 : TC (τ1.setI 9 0 4 0) T e := hc.fx fr1 (by unfold rdS; omega) (by rw [setI_ne (by decide), g9]; exact c9)
  have hcl1 : Cl 0 (τ1.setI 9 0 4 0) i (layB g) := ⟨by decide, hc1.1, r1.fm (L := [9]) (Fm.setI (by decide)) (by decide), fr1.shp hS, lay_fr.1⟩
  have k7 : (τ1.setI 9 0 4 0).I 7 0 = τ1.I 7 0 := by rw [setI_t (by decide)]
  refine V_aldn1 a_X7_readAll_14 ?_
  refine V_v0V a_X7_readAll_15 c_X7_27 R_goToStart ?_
  refine V_iconst a_X7_readAll_18 ?_
  refine V_istn3 a_X7_readAll_19 ?_
  skip
  refine ((loopW (I := psI e) (g := psG T e) (f := psF T e) (m := psM e) (P := fun x => (x.1 = 0 → ∀ τ, FX (rdS i) σ τ → TC τ T e → τ.I 9 0 4 = x.2.2.2.2 → Cl 0 τ i x.2.2.2.1 → Sv τ i x.2.2.2.1 → τ.I 7 0 0 = 0 → τ.I 7 0 1 = -1 → V m_X7_readAll 7 0 0 20 [some (vR (some (7, 0))), some (vR (some (9, 0))), some (vR (some (6, i))), some (vI x.2.2.1)] [] τ (fun r τ => r = .inl (some (vI (if (psX T e g).1 = 0 then (psX T e g).2.2.1 else -1))) ∧ FX (rdS i) σ τ ∧ TC τ T e ∧ τ.I 7 0 0 = (psX T e g).1 ∧ τ.I 7 0 1 = (psX T e g).2.1 ∧ ((psX T e g).1 = 0 → Cl 0 τ i (psX T e g).2.2.2.1))) ∧ (x.1 ≠ 0 → x = psX T e g)) ps_s (E := psX T e g) ?_ ?_ (0, -1, 0, layB g, 0) (ps_0 he.1) rfl).1 rfl (τ1.setI 9 0 4 0) fr1 hc1 setI_I hcl1 (fun s a b => by rw [setI_t (by decide)]; exact v1 s a b) (by rw [k7, g7]; exact a7) (by rw [k7, g7]; exact b7))
  · intro hx hg
    generalize psX T e g = x at hx hg ⊢
    obtain ⟨c, a, n, B, p⟩ := x
    refine ⟨fun e0 τ fr tc p4 cl sv a7 b7 => ?_, fun _ => rfl⟩
    obtain ⟨h1, h2, h3, h4, h5⟩ := hx
    dsimp only at h1 h2 h3 h4 h5 e0 p4 cl sv ⊢
    have h5 := h5 e0
    have hg : ¬ (c = 0 ∧ (n = 0 ∨ tF T e p < e)) := fun z => hg (decide_eq_true z)
    have hF : ¬ tF T e p < e := fun z => hg ⟨e0, Or.inr z⟩
    have hn0 : n ≠ 0 := fun z => hg ⟨e0, Or.inl z⟩
    have rt := R_readToken tc h3 p4
    have hW := tc.1
    rw [if_pos e0]
    refine V_ildn3 a_X7_readAll_20 ?_
    refine V_sipush a_X7_readAll_21 (by decide) ?_
    refine V_icmp_gt_f a_X7_readAll_24 (by omega) (by omega) ?_
    refine V_aldn1 a_X7_readAll_27 ?_
    refine V_v0PV a_X7_readAll_28 c_X7_32 rt (fun τ2 hτ2 => ?_)
    skip
    obtain ⟨f2, t0, t1, t2, t4, t3⟩ := hτ2
    rw [tk_0.mpr hF] at t1
    have hW := f2.wf hW
    refine V_aldn1 a_X7_readAll_31 ?_
    refine V_getIE a_X7_readAll_32 f_X7_35 rfl t1 ?_
    refine V_if_ne_f a_X7_readAll_35 (by omega) (by omega) ?_
    refine V_ildn3 a_X7_readAll_38 ?_
    refine V_if_le_f a_X7_readAll_39 (by omega) (by omega) ?_
    refine V_ildn3 a_X7_readAll_42 ?_
    exact V_iret a_X7_readAll_43 (⟨rfl, fr.trans (fx9 f2), tc.fm f2 (by decide) t0, by rw [f2.I (by decide), a7]; exact e0.symm, by rw [f2.I (by decide), b7]; exact h5.1.symm, fun _ => cl.fm f2 (by decide)⟩)
  · intro x hx hg ih
    obtain ⟨c, a, n, B, p⟩ := x
    have hg : c = 0 ∧ (n = 0 ∨ tF T e p < e) := of_decide_eq_true hg
    refine ⟨fun e0 τ fr tc p4 cl sv a7 b7 => ?_, fun z => absurd hg.1 z⟩
    obtain ⟨h1, h2, h3, h4, h5⟩ := hx
    dsimp only at h1 h2 h3 h4 h5 e0 p4 cl sv ⊢
    have h5 := h5 e0
    have rt := R_readToken tc h3 p4
    have hW := tc.1
    refine V_ildn3 a_X7_readAll_20 ?_
    refine V_sipush a_X7_readAll_21 (by decide) ?_
    refine V_icmp_gt_f a_X7_readAll_24 (by omega) (by omega) ?_
    refine V_aldn1 a_X7_readAll_27 ?_
    refine V_v0PV a_X7_readAll_28 c_X7_32 rt (fun τ2 hτ2 => ?_)
    skip
    obtain ⟨f2, k2⟩ := hτ2
    have k2' := k2
    obtain ⟨t0, t1, t2, t4, t3⟩ := k2
    have tc2 : TC τ2 T e := tc.fm f2 (by decide) t0
    have cl2 : Cl 0 τ2 i B := cl.fm f2 (by decide)
    have fr2 : FX (rdS i) σ τ2 := fr.trans (fx9 f2)
    have a72 : τ2.I 7 0 0 = 0 := by
      rw [f2.I (by decide)]
      exact a7
    have b72 : τ2.I 7 0 1 = -1 := by
      rw [f2.I (by decide)]
      exact b7
    have hkb := tk_bd (T := T) (e := e) (f := tF T e p)
    have hso := st_ok (T := T) (first := decide (n = 0)) h2 h3
    have rs := R_CreadStatement (first := decide (n = 0)) tc2 k2' h3 cl2 h2 (fun s s0 s1 => by rw [f2.I (by decide)]; exact sv s s0 s1)
    unfold psF at ih
    dsimp only at ih
    generalize stA T e (decide (n = 0)) B p = y at rs hso ih
    have rs : Cv m_X7_readStatement 6 0 0 [vR (some (7, 0)), vR (some (9, 0)), vR (some (6, i)), vI (bI (decide (n = 0) = true))] τ2 (some (vI y.1)) (fun τ => FX (rdS i) τ2 τ ∧ TC τ T e ∧ (τ.I 7 0 0 = τ2.I 7 0 0 ∧ τ.I 7 0 1 = τ2.I 7 0 1) ∧ (y.1 = 0 → (Cl 0 τ i y.2.2 ∧ Sv τ i y.2.2) ∧ τ.I 9 0 4 = y.2.1) ∧ (y.1 ≠ 0 → τ.I 9 0 2 = y.2.1)) := rs
    have hW := tc2.1
    have p60 : ∀ τ3, FX (rdS i) τ2 τ3 → TC τ3 T e → (τ3.I 7 0 0 = τ2.I 7 0 0 ∧ τ3.I 7 0 1 = τ2.I 7 0 1) → (y.1 = 0 → (Cl 0 τ3 i y.2.2 ∧ Sv τ3 i y.2.2) ∧ τ3.I 9 0 4 = y.2.1) → (y.1 ≠ 0 → τ3.I 9 0 2 = y.2.1) → V m_X7_readAll 7 0 0 60 [some (vR (some (7, 0))), some (vR (some (9, 0))), some (vR (some (6, i))), some (vI n)] [vI y.1, vR (some (7, 0))] τ3 (fun r τ => r = .inl (some (vI (if (psX T e g).1 = 0 then (psX T e g).2.2.1 else -1))) ∧ FX (rdS i) σ τ ∧ TC τ T e ∧ τ.I 7 0 0 = (psX T e g).1 ∧ τ.I 7 0 1 = (psX T e g).2.1 ∧ ((psX T e g).1 = 0 → Cl 0 τ i (psX T e g).2.2.2.1)) := by
      intro τ3 f3 tc3 k73 q0 q1
      by_cases z : y.1 = 0
      · rw [if_pos z] at ih
        have q0 := q0 z
        have ih2 := ih.1 rfl (τ3.setI 7 0 0 y.1) ((fr2.trans f3).trans (FX.setI (by unfold rdS; omega))) (tc3.fm (L := [7]) (Fm.setI (by decide)) (by decide) (by rw [setI_t (by decide)]; exact tc3.2.2.1)) (by rw [setI_t (by decide)]; exact q0.2) (q0.1.1.fm (L := [7]) (Fm.setI (by decide)) (by decide)) (fun s s0 s1 => by rw [setI_t (by decide)]; exact q0.1.2 s s0 s1) (setI_I.trans z) (by rw [setI_ne (by decide), k73.2]; exact b72)
        refine V_putI a_X7_readAll_60 f_X7_19 rfl ?_
        refine V_aldn0 a_X7_readAll_63 ?_
        refine V_getIE a_X7_readAll_64 f_X7_19 rfl setI_I ?_
        refine V_if_eq_t a_X7_readAll_67 (by omega) (by omega) ?_
        refine V_inc3 a_X7_readAll_80 ?_
        refine V_goto a_X7_readAll_83 ?_
        exact ih2
      · rw [if_neg z] at ih
        have eE := ih.2 z
        rw [← eE]
        have q1 := q1 z
        have n2 : (τ3.setI 7 0 0 y.1).I 9 0 2 = y.2.1 := by
          rw [setI_t (by decide)]
          exact q1
        rw [if_neg (show ¬ (y.1, y.2.1, n + 1, B, p).1 = 0 from z)]
        have hyb := hso.1
        refine V_putI a_X7_readAll_60 f_X7_19 rfl ?_
        refine V_aldn0 a_X7_readAll_63 ?_
        refine V_getIE a_X7_readAll_64 f_X7_19 rfl setI_I ?_
        refine V_if_eq_f a_X7_readAll_67 (by omega) (by omega) ?_
        refine V_aldn0 a_X7_readAll_70 ?_
        refine V_aldn1 a_X7_readAll_71 ?_
        refine V_getIE a_X7_readAll_72 f_X7_42 rfl n2 ?_
        refine V_putI a_X7_readAll_75 f_X7_9 rfl ?_
        refine V_iconst a_X7_readAll_78 ?_
        exact V_iret a_X7_readAll_79 (⟨rfl, ((fr2.trans f3).trans (FX.setI (by unfold rdS; omega))).trans (FX.setI (by unfold rdS; omega)), tc3.fm (L := [7]) ((Fm.setI (by decide)).trans (Fm.setI (by decide))) (by decide) (by rw [setI_t (by decide), setI_t (by decide)]; exact tc3.2.2.1), by rw [setI_ne (by decide), setI_I], setI_I, fun w => absurd w z⟩)
    by_cases hn0 : n = 0
    · rw [bI_t (decide_eq_true hn0)] at rs
      by_cases hF : tF T e p < e
      · have hk0 : tkA T e (tF T e p) ≠ 0 := fun w => (tk_0.mp w) hF
        refine V_aldn1 a_X7_readAll_31 ?_
        refine V_getIE a_X7_readAll_32 f_X7_35 rfl t1 ?_
        refine V_if_ne_t a_X7_readAll_35 (by omega) (by omega) ?_
        refine V_aldn0 a_X7_readAll_44 ?_
        refine V_aldn0 a_X7_readAll_45 ?_
        refine V_aldn1 a_X7_readAll_46 ?_
        refine V_aldn2 a_X7_readAll_47 ?_
        refine V_ildn3 a_X7_readAll_48 ?_
        refine V_if_ne_f a_X7_readAll_49 (by omega) (by omega) ?_
        refine V_iconst a_X7_readAll_52 ?_
        refine V_goto a_X7_readAll_53 ?_
        refine V_v3PR a_X7_readAll_57 c_X7_38 rs (fun τ3 hτ3 => ?_)
        exact p60 τ3 hτ3.1 hτ3.2.1 hτ3.2.2.1 hτ3.2.2.2.1 hτ3.2.2.2.2
      · have hk0 : tkA T e (tF T e p) = 0 := tk_0.mpr hF
        refine V_aldn1 a_X7_readAll_31 ?_
        refine V_getIE a_X7_readAll_32 f_X7_35 rfl t1 ?_
        refine V_if_ne_f a_X7_readAll_35 (by omega) (by omega) ?_
        refine V_ildn3 a_X7_readAll_38 ?_
        refine V_if_le_t a_X7_readAll_39 (by omega) (by omega) ?_
        refine V_aldn0 a_X7_readAll_44 ?_
        refine V_aldn0 a_X7_readAll_45 ?_
        refine V_aldn1 a_X7_readAll_46 ?_
        refine V_aldn2 a_X7_readAll_47 ?_
        refine V_ildn3 a_X7_readAll_48 ?_
        refine V_if_ne_f a_X7_readAll_49 (by omega) (by omega) ?_
        refine V_iconst a_X7_readAll_52 ?_
        refine V_goto a_X7_readAll_53 ?_
        refine V_v3PR a_X7_readAll_57 c_X7_38 rs (fun τ3 hτ3 => ?_)
        exact p60 τ3 hτ3.1 hτ3.2.1 hτ3.2.2.1 hτ3.2.2.2.1 hτ3.2.2.2.2
    · rw [bI_f (fun w => hn0 (of_decide_eq_true w))] at rs
      have hF : tF T e p < e := by
        rcases hg.2 with w | w
        · exact absurd w hn0
        · exact w
      have hk0 : tkA T e (tF T e p) ≠ 0 := fun w => (tk_0.mp w) hF
      refine V_aldn1 a_X7_readAll_31 ?_
      refine V_getIE a_X7_readAll_32 f_X7_35 rfl t1 ?_
      refine V_if_ne_t a_X7_readAll_35 (by omega) (by omega) ?_
      refine V_aldn0 a_X7_readAll_44 ?_
      refine V_aldn0 a_X7_readAll_45 ?_
      refine V_aldn1 a_X7_readAll_46 ?_
      refine V_aldn2 a_X7_readAll_47 ?_
      refine V_ildn3 a_X7_readAll_48 ?_
      refine V_if_ne_t a_X7_readAll_49 (by omega) (by omega) ?_
      refine V_iconst a_X7_readAll_56 ?_
      refine V_v3PR a_X7_readAll_57 c_X7_38 rs (fun τ3 hτ3 => ?_)
      exact p60 τ3 hτ3.1 hτ3.2.1 hτ3.2.2.1 hτ3.2.2.2.1 hτ3.2.2.2.2
end Ral

