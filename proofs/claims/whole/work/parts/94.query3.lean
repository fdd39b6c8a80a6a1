theorem th_wk {D : Int} {σ τ : Hp} {A : St} (h : Md D σ A) (hW : WF τ) (h52 : τ.J 52 0 = mix A (σ.J 52 0) 359) : Md D (τ.rJ 50 0 (mix (τ.J 52 0) (τ.J 50 0) 359)) (mix A (τ.J 50 0) 359) ∧ Eq9 A (mix A (τ.J 50 0) 359) := ⟨Md.back (D' := D) h hW h52 rfl, Eq9.mix⟩
theorem mix_back {A A' : St} (h : ∀ j, ¬ (0 ≤ j ∧ j < 359) → A' j = A j) : mix A A' 359 = A := by
  funext j
  unfold mix
  by_cases q : 0 ≤ j ∧ j < 359
  · rw [if_pos q]
  · rw [if_neg q]
    exact h j q
def quC (A : St) (s q l : Int) : Int := if ¬ ((0 ≤ l ∧ l < A 1) ∧ 0 ≤ s ∧ s < A 0) then 1 else if ¬ (1 ≤ q ∧ q ≤ 99999) then 2 else if freeB A (-1) s < q then 3 else 0
def boC (A : St) (b s : Int) : Int := if (0 ≤ b ∧ b < A 2) ∧ 0 ≤ s ∧ s < A 0 then 0 else 1
def boV (A : St) (b s : Int) : Int := if A 7 = 12 ∨ A (45 + b) - expoA A b < 0 then 0 else min 99999 (min (freeB A (-1) s) ((A (45 + b) - expoA A b).tdiv (A (15 + s))))
section Qc
variable {D : Int} {σ : Hp} {A : St}
theorem R_recallOrder {l s i : Int} (h : Md D σ A) (hl : iR l) (hs : iR s) (hi : iR i) : (¬ ((0 ≤ l ∧ l < A 1) ∧ 0 ≤ s ∧ s < A 0) → Rt m_X11_recallOrder 3 0 0 [vR (some (11, 0)), vI l, vI s, vI i] σ (some (vI 0)) (σ.th 1)) ∧ (((0 ≤ l ∧ l < A 1) ∧ 0 ≤ s ∧ s < A 0) →
    ((0 ≤ i ∧ i < (loX A l s (fun _ => 0) (A 7)).2) → Cv m_X11_recallOrder 3 0 0 [vR (some (11, 0)), vI l, vI s, vI i] σ (some (vI (A (83 + 23 * (loX A l s (fun _ => 0) (A 7)).1 i + 0)))) (fun τ => FK [59] [6, 19] σ τ ∧ τ.I 11 0 6 = 0)) ∧ (¬ (0 ≤ i ∧ i < (loX A l s (fun _ => 0) (A 7)).2) → Cv m_X11_recallOrder 3 0 0 [vR (some (11, 0)), vI l, vI s, vI i] σ (some (vI 0)) (fun τ => FK [59] [6, 19] σ τ ∧ τ.I 11 0 6 = 1))) := by
  have hI := h.2.2.2
  have hn := hI.n
  obtain ⟨b1, hb1, r1⟩ := B_isNoHolding (l := l) (s := s) h hl hs
  refine ⟨fun e => ?_, fun e => ?_⟩
  · have hb : b1 = 1 := by omega
    subst hb
    show V _ 3 0 0 0 [some (vR (some (11, 0))), some (vI l), some (vI s), some (vI i)] [] σ _
    refine V_aldn0 a_X11_recallOrder_0 ?_
    refine V_ildn1 a_X11_recallOrder_1 ?_
    refine V_ildn2 a_X11_recallOrder_2 ?_
    refine V_v2R a_X11_recallOrder_3 c_X11_320 r1 ?_
    refine V_if_eq_f a_X11_recallOrder_6 (by omega) (by omega) ?_
    refine V_iconst a_X11_recallOrder_9 ?_
    exact V_iret a_X11_recallOrder_10 (⟨rfl, rfl⟩)
  · have hb : b1 = 0 := by omega
    subst hb
    have hm : Md D (σ.th 0) A := h
    have r2 := R_layOrder (l := l) (s := s) hm (by omega) (by omega)
    have hlo := lo_ok (A := A) (l := l) (s := s) (r := (σ.th 0).I 59 0) (k := A 7) (by omega)
    have hrow := lo_row (A := A) (l := l) (s := s) (k := A 7) (r := (σ.th 0).I 59 0) (r' := fun _ => 0)
    generalize loX A l s (fun _ => 0) (A 7) = y at hrow ⊢
    generalize loX A l s ((σ.th 0).I 59 0) (A 7) = x at r2 hlo hrow
    have exy : x.2 = y.2 := hrow.1
    have fk : FK [59] [6, 19] σ ((σ.th 0).od x) := FK.trans (FK.th (by decide)) (FK.od.sub (by decide) (by decide))
    have hA : ((σ.th 0).od x).J 50 0 = A := h.2.2.1
    have hW := h.2.1
    obtain ⟨b2, hb2, r3⟩ := B_in (σ := (σ.th 0).od x) (v := i) (x := 0) (y := x.2 - 1) (by omega) (by omega) (by omega)
    refine ⟨fun e2 => ?_, fun e2 => ?_⟩
    · have hxi := hlo.2 i e2.1 (by rw [hrow.1]; exact e2.2)
      rw [← hrow.2.2 i e2.1 (by rw [hrow.1]; exact e2.2)]
      show V _ 3 0 0 0 [some (vR (some (11, 0))), some (vI l), some (vI s), some (vI i)] [] σ _
      refine V_aldn0 a_X11_recallOrder_0 ?_
      refine V_ildn1 a_X11_recallOrder_1 ?_
      refine V_ildn2 a_X11_recallOrder_2 ?_
      refine V_v2R a_X11_recallOrder_3 c_X11_320 r1 ?_
      refine V_if_eq_t a_X11_recallOrder_6 (by omega) (by omega) ?_
      refine V_aldn0 a_X11_recallOrder_11 ?_
      refine V_ildn1 a_X11_recallOrder_12 ?_
      refine V_ildn2 a_X11_recallOrder_13 ?_
      refine V_v2V a_X11_recallOrder_14 c_X11_314 r2 ?_
      refine V_aldn0 a_X11_recallOrder_17 ?_
      refine V_ildn3 a_X11_recallOrder_18 ?_
      refine V_i2l a_X11_recallOrder_19 (by omega) ?_
      refine V_lconst0 a_X11_recallOrder_20 ?_
      refine V_aldn0 a_X11_recallOrder_21 ?_
      refine V_getIE a_X11_recallOrder_22 f_X11_308 rfl od_c ?_
      refine V_iconst a_X11_recallOrder_25 ?_
      refine V_isub a_X11_recallOrder_26 ?_
      refine V_i2l a_X11_recallOrder_27 (by omega) ?_
      refine V_s3R a_X11_recallOrder_28 c_X11_61 r3 ?_
      refine V_if_ne_t a_X11_recallOrder_31 (by omega) (by omega) ?_
      refine V_iconst a_X11_recallOrder_38 ?_
      refine V_iconst a_X11_recallOrder_39 ?_
      refine V_v2R a_X11_recallOrder_40 c_X11_72 R_fails0 ?_
      refine V_if_eq_t a_X11_recallOrder_43 (by omega) (by omega) ?_
      refine V_aldn0 a_X11_recallOrder_50 ?_
      refine V_fin a_X11_recallOrder_51 f_X11_7 rfl hW ?_
      refine V_aldn0 a_X11_recallOrder_54 ?_
      refine V_fin a_X11_recallOrder_55 f_X11_43 rfl hW ?_
      refine V_ildn3 a_X11_recallOrder_58 ?_
      refine V_ialdE a_X11_recallOrder_59 rfl (by omega) (v := x.1 i) (by rw [setI_t (by decide), od_r]) ?_
      refine V_s1R a_X11_recallOrder_60 c_X11_197 R_loanAt ?_
      refine V_iconst a_X11_recallOrder_63 ?_
      refine V_iadd a_X11_recallOrder_64 ?_
      refine V_w a_X11_recallOrder_65 (by omega) hA ?_
      refine V_l2i a_X11_recallOrder_66 ?_
      exact V_iret a_X11_recallOrder_67 (⟨rfl, fk.trans (FK.th (by decide)), setI_I⟩)
    · show V _ 3 0 0 0 [some (vR (some (11, 0))), some (vI l), some (vI s), some (vI i)] [] σ _
      refine V_aldn0 a_X11_recallOrder_0 ?_
      refine V_ildn1 a_X11_recallOrder_1 ?_
      refine V_ildn2 a_X11_recallOrder_2 ?_
      refine V_v2R a_X11_recallOrder_3 c_X11_320 r1 ?_
      refine V_if_eq_t a_X11_recallOrder_6 (by omega) (by omega) ?_
      refine V_aldn0 a_X11_recallOrder_11 ?_
      refine V_ildn1 a_X11_recallOrder_12 ?_
      refine V_ildn2 a_X11_recallOrder_13 ?_
      refine V_v2V a_X11_recallOrder_14 c_X11_314 r2 ?_
      refine V_aldn0 a_X11_recallOrder_17 ?_
      refine V_ildn3 a_X11_recallOrder_18 ?_
      refine V_i2l a_X11_recallOrder_19 (by omega) ?_
      refine V_lconst0 a_X11_recallOrder_20 ?_
      refine V_aldn0 a_X11_recallOrder_21 ?_
      refine V_getIE a_X11_recallOrder_22 f_X11_308 rfl od_c ?_
      refine V_iconst a_X11_recallOrder_25 ?_
      refine V_isub a_X11_recallOrder_26 ?_
      refine V_i2l a_X11_recallOrder_27 (by omega) ?_
      refine V_s3R a_X11_recallOrder_28 c_X11_61 r3 ?_
      refine V_if_ne_f a_X11_recallOrder_31 (by omega) (by omega) ?_
      refine V_iconst a_X11_recallOrder_34 ?_
      refine V_goto a_X11_recallOrder_35 ?_
      refine V_iconst a_X11_recallOrder_39 ?_
      refine V_v2R a_X11_recallOrder_40 c_X11_72 R_fails1 ?_
      refine V_if_eq_f a_X11_recallOrder_43 (by omega) (by omega) ?_
      refine V_iconst a_X11_recallOrder_46 ?_
      refine V_goto a_X11_recallOrder_47 ?_
      exact V_iret a_X11_recallOrder_67 (⟨rfl, fk.trans (FK.th (by decide)), setI_I⟩)
theorem R_returnOrder {n i : Int} (h : Md D σ A) (hn : iR n) (hi : iR i) : (placeA A n = -1 → Rt m_X11_returnOrder 3 0 0 [vR (some (11, 0)), vI n, vI i] σ (some (vI 0)) (σ.th 1)) ∧ (placeA A n ≠ -1 →
    ((0 ≤ i ∧ i < (backA (placeA A n) A (quanA A (placeA A n))).c) → Cv m_X11_returnOrder 3 0 0 [vR (some (11, 0)), vI n, vI i] σ (some (vI ((backA (placeA A n) A (quanA A (placeA A n))).r i))) (fun τ => FK [50, 52, 58] [6, 17] σ τ ∧ τ.I 11 0 6 = 0 ∧ ∃ A', Md D τ A' ∧ Eq9 A A')) ∧ (¬ (0 ≤ i ∧ i < (backA (placeA A n) A (quanA A (placeA A n))).c) → Cv m_X11_returnOrder 3 0 0 [vR (some (11, 0)), vI n, vI i] σ (some (vI 0)) (fun τ => FK [50, 52, 58] [6, 17] σ τ ∧ τ.I 11 0 6 = 1 ∧ ∃ A', Md D τ A' ∧ Eq9 A A'))) := by
  have hI := h.2.2.2
  have hD := h.1
  have hn' := hI.n
  have r1 := R_placeOf h hn
  refine ⟨fun e => ?_, fun e => ?_⟩
  · rw [if_pos e] at r1
    show V _ 3 0 0 0 [some (vR (some (11, 0))), some (vI n), some (vI i), none] [] σ _
    refine V_aldn0 a_X11_returnOrder_0 ?_
    refine V_ildn1 a_X11_returnOrder_1 ?_
    refine V_v1R a_X11_returnOrder_2 c_X11_295 r1 ?_
    refine V_istn3 a_X11_returnOrder_5 ?_
    refine V_aldn0 a_X11_returnOrder_6 ?_
    refine V_ildn3 a_X11_returnOrder_7 ?_
    refine V_iconst a_X11_returnOrder_8 ?_
    refine V_icmp_ne_f a_X11_returnOrder_9 (by omega) (by omega) ?_
    refine V_iconst a_X11_returnOrder_12 ?_
    refine V_goto a_X11_returnOrder_13 ?_
    refine V_iconst a_X11_returnOrder_17 ?_
    refine V_v2R a_X11_returnOrder_18 c_X11_72 R_fails1 ?_
    refine V_if_eq_f a_X11_returnOrder_21 (by omega) (by omega) ?_
    refine V_iconst a_X11_returnOrder_24 ?_
    exact V_iret a_X11_returnOrder_25 (⟨rfl, rfl⟩)
  · rw [if_neg e] at r1
    have hp := (place_ok e).1
    have hqb := quan_bd hI hp.1 hp.2
    have hm : Md D (σ.th 0) A := h
    have r2 := R_think (σ := σ.th 0) (A := A) hm.2.1 hm.2.2.1
    have hm2 : Md D ((σ.th 0).rJ 52 0 (mix A ((σ.th 0).J 52 0) 359)) A := hm.rJ (by decide)
    have fk2 : FK [50, 52, 58] [6, 17] σ ((σ.th 0).rJ 52 0 (mix A ((σ.th 0).J 52 0) 359)) := FK.trans (FK.th (by decide)) ((Fm.rJ (by decide)).fk (by decide))
    have j52 : ((σ.th 0).rJ 52 0 (mix A ((σ.th 0).J 52 0) 359)).J 52 0 = mix A ((σ.th 0).J 52 0) 359 := rJ_J
    have i6 : ((σ.th 0).rJ 52 0 (mix A ((σ.th 0).J 52 0) 359)).I 11 0 6 = 0 := by
      show (σ.th 0).I 11 0 6 = 0
      exact setI_I
    generalize (σ.th 0).rJ 52 0 (mix A ((σ.th 0).J 52 0) 359) = τ at r2 hm2 fk2 j52 i6
    have r3 := R_quantityAt (k := placeA A n) hm2 (by omega)
    have hG := G1_init (r := τ.I 58 0) hD hI hp.1 hp.2 (q := quanA A (placeA A n)) (by omega)
    have r4 := R_giveBack hm2.2.1 hm2.2.2.1 hG
    have ho := back_ok hG
    have hrow := back_row (k := placeA A n) (A := A) (q := quanA A (placeA A n)) (r := τ.I 58 0) (r' := fun _ => 0)
    change BkR (backX (placeA A n) A (quanA A (placeA A n)) (τ.I 58 0)) (backA (placeA A n) A (quanA A (placeA A n))) at hrow
    generalize backA (placeA A n) A (quanA A (placeA A n)) = Y at hrow ⊢
    generalize backX (placeA A n) A (quanA A (placeA A n)) (τ.I 58 0) = X at r4 ho hrow
    obtain ⟨-, -, ec, c0, er⟩ := hrow
    have hc12 := ho.1.2.1
    have hWx : WF (τ.bk X) := hm2.2.1
    have r5 := R_wake (σ := τ.bk X) hWx
    obtain ⟨hmw, heq⟩ := th_wk (σ := σ.th 0) (τ := τ.bk X) hm hWx (by
      show ((τ.rJ 50 0 X.A).rI 58 0 X.r).J 52 0 = _
      show (τ.rJ 50 0 X.A).J 52 0 = _
      rw [rJ_ne (by decide)]
      exact j52)
    have fk3 : FK [50, 52, 58] [6, 17] σ ((τ.bk X).rJ 50 0 (mix ((τ.bk X).J 52 0) ((τ.bk X).J 50 0) 359)) := FK.trans (fk2.trans (FK.bk.sub (by decide) (by decide))) ((Fm.rJ (by decide)).fk (by decide))
    have g17 : ((τ.bk X).rJ 50 0 (mix ((τ.bk X).J 52 0) ((τ.bk X).J 50 0) 359)).I 11 0 17 = X.c := by
      show (τ.bk X).I 11 0 17 = X.c
      exact bk_c
    have g58 : ((τ.bk X).rJ 50 0 (mix ((τ.bk X).J 52 0) ((τ.bk X).J 50 0) 359)).I 58 0 = X.r := by
      show ((((τ.rJ 50 0 X.A).rI 58 0 X.r).setI 11 0 17 X.c)).I 58 0 = X.r
      rw [setI_t (by decide)]
      exact rI_I
    generalize (τ.bk X).rJ 50 0 (mix ((τ.bk X).J 52 0) ((τ.bk X).J 50 0) 359) = ρ at r5 hmw fk3 g17 g58
    have hW := hmw.2.1
    obtain ⟨b2, hb2, r6⟩ := B_in (σ := ρ) (v := i) (x := 0) (y := X.c - 1) (by omega) (by omega) (by omega)
    refine ⟨fun e2 => ?_, fun e2 => ?_⟩
    · rw [← er i e2.1 (by omega)]
      show V _ 3 0 0 0 [some (vR (some (11, 0))), some (vI n), some (vI i), none] [] σ _
      refine V_aldn0 a_X11_returnOrder_0 ?_
      refine V_ildn1 a_X11_returnOrder_1 ?_
      refine V_v1R a_X11_returnOrder_2 c_X11_295 r1 ?_
      refine V_istn3 a_X11_returnOrder_5 ?_
      refine V_aldn0 a_X11_returnOrder_6 ?_
      refine V_ildn3 a_X11_returnOrder_7 ?_
      refine V_iconst a_X11_returnOrder_8 ?_
      refine V_icmp_ne_t a_X11_returnOrder_9 (by omega) (by omega) ?_
      refine V_iconst a_X11_returnOrder_16 ?_
      refine V_iconst a_X11_returnOrder_17 ?_
      refine V_v2R a_X11_returnOrder_18 c_X11_72 R_fails0 ?_
      refine V_if_eq_t a_X11_returnOrder_21 (by omega) (by omega) ?_
      refine V_aldn0 a_X11_returnOrder_26 ?_
      refine V_v0V a_X11_returnOrder_27 c_X11_405 r2 ?_
      refine V_aldn0 a_X11_returnOrder_30 ?_
      refine V_ildn3 a_X11_returnOrder_31 ?_
      refine V_aldn0 a_X11_returnOrder_32 ?_
      refine V_ildn3 a_X11_returnOrder_33 ?_
      refine V_v1R a_X11_returnOrder_34 c_X11_216 r3 ?_
      refine V_v2V a_X11_returnOrder_37 c_X11_298 r4 ?_
      refine V_aldn0 a_X11_returnOrder_40 ?_
      refine V_v0V a_X11_returnOrder_41 c_X11_408 r5 ?_
      refine V_aldn0 a_X11_returnOrder_44 ?_
      refine V_ildn2 a_X11_returnOrder_45 ?_
      refine V_i2l a_X11_returnOrder_46 (by omega) ?_
      refine V_lconst0 a_X11_returnOrder_47 ?_
      refine V_aldn0 a_X11_returnOrder_48 ?_
      refine V_getIE a_X11_returnOrder_49 f_X11_279 rfl g17 ?_
      refine V_iconst a_X11_returnOrder_52 ?_
      refine V_isub a_X11_returnOrder_53 ?_
      refine V_i2l a_X11_returnOrder_54 (by omega) ?_
      refine V_s3R a_X11_returnOrder_55 c_X11_61 r6 ?_
      refine V_if_ne_t a_X11_returnOrder_58 (by omega) (by omega) ?_
      refine V_iconst a_X11_returnOrder_65 ?_
      refine V_iconst a_X11_returnOrder_66 ?_
      refine V_v2R a_X11_returnOrder_67 c_X11_72 R_fails0 ?_
      refine V_if_eq_t a_X11_returnOrder_70 (by omega) (by omega) ?_
      refine V_aldn0 a_X11_returnOrder_77 ?_
      refine V_fin a_X11_returnOrder_78 f_X11_39 rfl hW ?_
      refine V_ildn2 a_X11_returnOrder_81 ?_
      refine V_ialdE a_X11_returnOrder_82 rfl (by omega) (v := X.r i) (by rw [setI_t (by decide), g58]) ?_
      exact V_iret a_X11_returnOrder_83 (⟨rfl, fk3.trans (FK.th (by decide)), setI_I, _, hmw, heq⟩)
    · show V _ 3 0 0 0 [some (vR (some (11, 0))), some (vI n), some (vI i), none] [] σ _
      refine V_aldn0 a_X11_returnOrder_0 ?_
      refine V_ildn1 a_X11_returnOrder_1 ?_
      refine V_v1R a_X11_returnOrder_2 c_X11_295 r1 ?_
      refine V_istn3 a_X11_returnOrder_5 ?_
      refine V_aldn0 a_X11_returnOrder_6 ?_
      refine V_ildn3 a_X11_returnOrder_7 ?_
      refine V_iconst a_X11_returnOrder_8 ?_
      refine V_icmp_ne_t a_X11_returnOrder_9 (by omega) (by omega) ?_
      refine V_iconst a_X11_returnOrder_16 ?_
      refine V_iconst a_X11_returnOrder_17 ?_
      refine V_v2R a_X11_returnOrder_18 c_X11_72 R_fails0 ?_
      refine V_if_eq_t a_X11_returnOrder_21 (by omega) (by omega) ?_
      refine V_aldn0 a_X11_returnOrder_26 ?_
      refine V_v0V a_X11_returnOrder_27 c_X11_405 r2 ?_
      refine V_aldn0 a_X11_returnOrder_30 ?_
      refine V_ildn3 a_X11_returnOrder_31 ?_
      refine V_aldn0 a_X11_returnOrder_32 ?_
      refine V_ildn3 a_X11_returnOrder_33 ?_
      refine V_v1R a_X11_returnOrder_34 c_X11_216 r3 ?_
      refine V_v2V a_X11_returnOrder_37 c_X11_298 r4 ?_
      refine V_aldn0 a_X11_returnOrder_40 ?_
      refine V_v0V a_X11_returnOrder_41 c_X11_408 r5 ?_
      refine V_aldn0 a_X11_returnOrder_44 ?_
      refine V_ildn2 a_X11_returnOrder_45 ?_
      refine V_i2l a_X11_returnOrder_46 (by omega) ?_
      refine V_lconst0 a_X11_returnOrder_47 ?_
      refine V_aldn0 a_X11_returnOrder_48 ?_
      refine V_getIE a_X11_returnOrder_49 f_X11_279 rfl g17 ?_
      refine V_iconst a_X11_returnOrder_52 ?_
      refine V_isub a_X11_returnOrder_53 ?_
      refine V_i2l a_X11_returnOrder_54 (by omega) ?_
      refine V_s3R a_X11_returnOrder_55 c_X11_61 r6 ?_
      refine V_if_ne_f a_X11_returnOrder_58 (by omega) (by omega) ?_
      refine V_iconst a_X11_returnOrder_61 ?_
      refine V_goto a_X11_returnOrder_62 ?_
      refine V_iconst a_X11_returnOrder_66 ?_
      refine V_v2R a_X11_returnOrder_67 c_X11_72 R_fails1 ?_
      refine V_if_eq_f a_X11_returnOrder_70 (by omega) (by omega) ?_
      refine V_iconst a_X11_returnOrder_73 ?_
      refine V_goto a_X11_returnOrder_74 ?_
      exact V_iret a_X11_returnOrder_83 (⟨rfl, fk3.trans (FK.th (by decide)), setI_I, _, hmw, heq⟩)
theorem R_quote {s q l : Int} (h : Md D σ A) (hs : iR s) (hq : iR q) (hl : iR l) : (quC A s q l = 0 → Cv m_X11_quote 7 0 0 [vR (some (11, 0)), vI s, vI q, vI l] σ (some (vI (giveA A s q (-1) l))) (fun τ => FK [50, 52, 56, 57] [6] σ τ ∧ τ.I 11 0 6 = 0 ∧ Md D τ A)) ∧ (quC A s q l ≠ 0 → Rt m_X11_quote 7 0 0 [vR (some (11, 0)), vI s, vI q, vI l] σ (some (vI 0)) (σ.th (quC A s q l))) := by
  have hI := h.2.2.2
  have hn := hI.n
  obtain ⟨b1, hb1, r1⟩ := B_isNoHolding (l := l) (s := s) h hl hs
  unfold quC
  by_cases h1 : (0 ≤ l ∧ l < A 1) ∧ 0 ≤ s ∧ s < A 0
  · rw [if_neg (fun z => z h1)]
    have hb : b1 = 0 := by omega
    subst hb
    obtain ⟨b2, hb2, r2⟩ := B_isQuantity (σ := σ.th 0) hq
    by_cases h2 : 1 ≤ q ∧ q ≤ 99999
    · rw [if_neg (fun z => z h2)]
      have hfb := freeB_bd hI (but := -1) h1.2.1 (by omega)
      have hm1 : Md D ((σ.th 0).th 0) A := h
      by_cases h3 : freeB A (-1) s < q
      · rw [if_pos h3]
        refine ⟨fun z => absurd z (by decide), fun _ => ?_⟩
        show V _ 7 0 0 0 [some (vR (some (11, 0))), some (vI s), some (vI q), some (vI l)] [] σ _
        refine V_aldn0 a_X11_quote_0 ?_
        refine V_ildn3 a_X11_quote_1 ?_
        refine V_ildn1 a_X11_quote_2 ?_
        refine V_v2R a_X11_quote_3 c_X11_320 r1 ?_
        refine V_if_ne_f a_X11_quote_6 (by omega) (by omega) ?_
        refine V_aldn0 a_X11_quote_9 ?_
        refine V_ildn2 a_X11_quote_10 ?_
        refine V_s1R a_X11_quote_11 c_X11_259 r2 ?_
        refine V_if_ne_t a_X11_quote_14 (by omega) (by omega) ?_
        refine V_iconst a_X11_quote_21 ?_
        refine V_iconst a_X11_quote_22 ?_
        refine V_v2R a_X11_quote_23 c_X11_72 R_fails0 ?_
        refine V_if_ne_f a_X11_quote_26 (by omega) (by omega) ?_
        refine V_aldn0 a_X11_quote_29 ?_
        refine V_aldn0 a_X11_quote_30 ?_
        refine V_iconst a_X11_quote_31 ?_
        refine V_ildn1 a_X11_quote_32 ?_
        refine V_v2R a_X11_quote_33 c_X11_238 (R_freeBut hm1 (by omega) (by omega)) ?_
        refine V_ildn2 a_X11_quote_36 ?_
        refine V_i2l a_X11_quote_37 (by omega) ?_
        refine V_lc_ge_f a_X11_quote_38 a_X11_quote_39 (by omega) (by omega) ?_
        refine V_iconst a_X11_quote_42 ?_
        refine V_goto a_X11_quote_43 ?_
        refine V_iconst a_X11_quote_47 ?_
        refine V_v2R a_X11_quote_48 c_X11_72 R_fails1 ?_
        refine V_if_eq_f a_X11_quote_51 (by omega) (by omega) ?_
        refine V_iconst a_X11_quote_54 ?_
        exact V_iret a_X11_quote_55 (⟨rfl, by rw [th_th, th_th]⟩)
      · rw [if_neg h3]
        refine ⟨fun _ => ?_, fun z => absurd rfl z⟩
        have hm : Md D (((σ.th 0).th 0).th 0) A := h
        have r3 := R_think (σ := ((σ.th 0).th 0).th 0) (A := A) hm.2.1 hm.2.2.1
        have fk1 : FK [50, 52, 56, 57] [6] σ (((σ.th 0).th 0).th 0) := FK.trans (FK.trans (FK.th (by decide)) (FK.th (by decide))) (FK.th (by decide))
        have i6 : (((σ.th 0).th 0).th 0).I 11 0 6 = 0 := setI_I
        have r33 := R_freeBut (but := -1) (s := s) hm1 (by omega) (by omega)
        generalize hσ3 : ((σ.th 0).th 0).th 0 = σ3 at hm r3 fk1 i6
        have hm2 : Md D (σ3.rJ 52 0 (mix A (σ3.J 52 0) 359)) A := hm.rJ (by decide)
        obtain ⟨τ, f4, m4, g4, r4⟩ := R_allocate (s := s) (q := q) (but := -1) hm2 (by omega) (by omega) (by omega)
        have r5 := R_wake (σ := τ) m4.2.1
        obtain ⟨hmw, heq⟩ := th_wk (σ := σ3) (τ := τ) hm m4.2.1 (by rw [f4.J (by decide)]; exact rJ_J)
        rw [m4.2.2.1, mix_back (fun j hj => alloc_8 (by omega) (by omega)), ← m4.2.2.1] at hmw
        have fk2 : FK [50, 52, 56, 57] [6] σ (τ.rJ 50 0 (mix (τ.J 52 0) (τ.J 50 0) 359)) := FK.trans (FK.trans (FK.trans fk1 ((Fm.rJ (by decide)).fk (by decide))) ((f4.sub (by decide) : Fm [50, 52, 56, 57] _ τ).fk (by decide))) ((Fm.rJ (by decide)).fk (by decide))
        have g56 : (τ.rJ 50 0 (mix (τ.J 52 0) (τ.J 50 0) 359)).J 56 0 l = giveA A s q (-1) l := by
          rw [rJ_ne (by decide)]
          exact g4 l h1.1.1 h1.1.2
        have j6 : (τ.rJ 50 0 (mix (τ.J 52 0) (τ.J 50 0) 359)).I 11 0 6 = 0 := by
          show τ.I 11 0 6 = 0
          rw [f4.I (by decide)]
          exact i6
        generalize τ.rJ 50 0 (mix (τ.J 52 0) (τ.J 50 0) 359) = ρ at r5 hmw fk2 g56 j6
        have hW := hmw.2.1
        show V _ 7 0 0 0 [some (vR (some (11, 0))), some (vI s), some (vI q), some (vI l)] [] σ _
        refine V_aldn0 a_X11_quote_0 ?_
        refine V_ildn3 a_X11_quote_1 ?_
        refine V_ildn1 a_X11_quote_2 ?_
        refine V_v2R a_X11_quote_3 c_X11_320 r1 ?_
        refine V_if_ne_f a_X11_quote_6 (by omega) (by omega) ?_
        refine V_aldn0 a_X11_quote_9 ?_
        refine V_ildn2 a_X11_quote_10 ?_
        refine V_s1R a_X11_quote_11 c_X11_259 r2 ?_
        refine V_if_ne_t a_X11_quote_14 (by omega) (by omega) ?_
        refine V_iconst a_X11_quote_21 ?_
        refine V_iconst a_X11_quote_22 ?_
        refine V_v2R a_X11_quote_23 c_X11_72 R_fails0 ?_
        refine V_if_ne_f a_X11_quote_26 (by omega) (by omega) ?_
        refine V_aldn0 a_X11_quote_29 ?_
        refine V_aldn0 a_X11_quote_30 ?_
        refine V_iconst a_X11_quote_31 ?_
        refine V_ildn1 a_X11_quote_32 ?_
        refine V_v2R a_X11_quote_33 c_X11_238 r33 ?_
        refine V_ildn2 a_X11_quote_36 ?_
        refine V_i2l a_X11_quote_37 (by omega) ?_
        refine V_lc_ge_t a_X11_quote_38 a_X11_quote_39 (by omega) (by omega) ?_
        refine V_iconst a_X11_quote_46 ?_
        refine V_iconst a_X11_quote_47 ?_
        refine V_v2R a_X11_quote_48 c_X11_72 R_fails0 ?_
        refine V_if_eq_t a_X11_quote_51 (by omega) (by omega) ?_
        rw [hσ3]
        refine V_aldn0 a_X11_quote_56 ?_
        refine V_v0V a_X11_quote_57 c_X11_405 r3 ?_
        refine V_aldn0 a_X11_quote_60 ?_
        refine V_ildn1 a_X11_quote_61 ?_
        refine V_ildn2 a_X11_quote_62 ?_
        refine V_i2l a_X11_quote_63 (by omega) ?_
        refine V_iconst a_X11_quote_64 ?_
        refine V_v3V a_X11_quote_65 c_X11_256 r4 ?_
        refine V_aldn0 a_X11_quote_68 ?_
        refine V_v0V a_X11_quote_69 c_X11_408 r5 ?_
        refine V_aldn0 a_X11_quote_72 ?_
        refine V_fin a_X11_quote_73 f_X11_33 rfl hW ?_
        refine V_ildn3 a_X11_quote_76 ?_
        refine V_laldE a_X11_quote_77 rfl (by omega) g56 ?_
        refine V_l2i a_X11_quote_78 ?_
        exact V_iret a_X11_quote_79 (⟨rfl, fk2, j6, hmw⟩)
    · rw [if_pos h2]
      refine ⟨fun z => absurd z (by decide), fun _ => ?_⟩
      show V _ 7 0 0 0 [some (vR (some (11, 0))), some (vI s), some (vI q), some (vI l)] [] σ _
      refine V_aldn0 a_X11_quote_0 ?_
      refine V_ildn3 a_X11_quote_1 ?_
      refine V_ildn1 a_X11_quote_2 ?_
      refine V_v2R a_X11_quote_3 c_X11_320 r1 ?_
      refine V_if_ne_f a_X11_quote_6 (by omega) (by omega) ?_
      refine V_aldn0 a_X11_quote_9 ?_
      refine V_ildn2 a_X11_quote_10 ?_
      refine V_s1R a_X11_quote_11 c_X11_259 r2 ?_
      refine V_if_ne_f a_X11_quote_14 (by omega) (by omega) ?_
      refine V_iconst a_X11_quote_17 ?_
      refine V_goto a_X11_quote_18 ?_
      refine V_iconst a_X11_quote_22 ?_
      refine V_v2R a_X11_quote_23 c_X11_72 R_fails1 ?_
      refine V_if_ne_t a_X11_quote_26 (by omega) (by omega) ?_
      refine V_iconst a_X11_quote_54 ?_
      exact V_iret a_X11_quote_55 (⟨rfl, by rw [th_th]⟩)
  · rw [if_pos h1]
    have hb : b1 = 1 := by omega
    subst hb
    refine ⟨fun z => absurd z (by decide), fun _ => ?_⟩
    show V _ 7 0 0 0 [some (vR (some (11, 0))), some (vI s), some (vI q), some (vI l)] [] σ _
    refine V_aldn0 a_X11_quote_0 ?_
    refine V_ildn3 a_X11_quote_1 ?_
    refine V_ildn1 a_X11_quote_2 ?_
    refine V_v2R a_X11_quote_3 c_X11_320 r1 ?_
    refine V_if_ne_t a_X11_quote_6 (by omega) (by omega) ?_
    refine V_iconst a_X11_quote_54 ?_
    exact V_iret a_X11_quote_55 (⟨rfl, rfl⟩)
theorem R_borrowable {b s : Int} (h : Md D σ A) (hb : iR b) (hs : iR s) : (boC A b s = 0 → Rt m_X11_borrowable 4 0 0 [vR (some (11, 0)), vI b, vI s] σ (some (vI (boV A b s))) (σ.th 0)) ∧ (boC A b s ≠ 0 → Rt m_X11_borrowable 4 0 0 [vR (some (11, 0)), vI b, vI s] σ (some (vI 0)) (σ.th 1)) := by
  have hI := h.2.2.2
  have hn := hI.n
  obtain ⟨b1, hb1, r1⟩ := B_isBorrower (l := b) h hb
  obtain ⟨b2, hb2, r2⟩ := B_isSecurity (s := s) h hs
  have hm : Md D (σ.th 0) A := h
  obtain ⟨-, hW, hA, -⟩ := id hm
  unfold boC
  by_cases h1 : (0 ≤ b ∧ b < A 2) ∧ 0 ≤ s ∧ s < A 0
  · rw [if_pos h1]
    refine ⟨fun _ => ?_, fun z => absurd rfl z⟩
    have hex := expo_bd hI b
    have hcr := hI.cred h1.1.1 h1.1.2
    have hpr := (hI.price h1.2.1 h1.2.2).1
    have hfb := freeB_bd hI (but := -1) h1.2.1 (by omega)
    have hr := R_exposureOf (b := b) hm (by omega)
    unfold boV
    by_cases q1 : A 7 = 12 ∨ A (45 + b) - expoA A b < 0
    · rw [if_pos q1]
      by_cases q2 : A 7 = 12
      · show V _ 4 0 0 0 [some (vR (some (11, 0))), some (vI b), some (vI s), none, none] [] σ _
        refine V_aldn0 a_X11_borrowable_0 ?_
        refine V_aldn0 a_X11_borrowable_1 ?_
        refine V_ildn1 a_X11_borrowable_2 ?_
        refine V_v1R a_X11_borrowable_3 c_X11_262 r1 ?_
        refine V_if_eq_f a_X11_borrowable_6 (by omega) (by omega) ?_
        refine V_aldn0 a_X11_borrowable_9 ?_
        refine V_ildn2 a_X11_borrowable_10 ?_
        refine V_v1R a_X11_borrowable_11 c_X11_69 r2 ?_
        refine V_if_ne_t a_X11_borrowable_14 (by omega) (by omega) ?_
        refine V_iconst a_X11_borrowable_21 ?_
        refine V_iconst a_X11_borrowable_22 ?_
        refine V_v2R a_X11_borrowable_23 c_X11_72 R_fails0 ?_
        refine V_if_eq_t a_X11_borrowable_26 (by omega) (by omega) ?_
        refine V_aldn0 a_X11_borrowable_31 ?_
        refine V_fin a_X11_borrowable_32 f_X11_7 rfl hW ?_
        refine V_bipush a_X11_borrowable_35 (by decide) ?_
        refine V_ildn1 a_X11_borrowable_37 ?_
        refine V_iadd a_X11_borrowable_38 ?_
        refine V_w a_X11_borrowable_39 (by omega) hA ?_
        refine V_aldn0 a_X11_borrowable_40 ?_
        refine V_ildn1 a_X11_borrowable_41 ?_
        refine V_v1R a_X11_borrowable_42 c_X11_253 hr ?_
        refine V_lsub a_X11_borrowable_45 ?_
        refine V_lstn3 a_X11_borrowable_46 ?_
        refine V_aldn0 a_X11_borrowable_47 ?_
        refine V_fin a_X11_borrowable_48 f_X11_7 rfl hW ?_
        refine V_bipush a_X11_borrowable_51 (by decide) ?_
        refine V_w a_X11_borrowable_53 (by omega) hA ?_
        refine V_ldc2 a_X11_borrowable_54 q_X11_251 ?_
        refine V_lc_eq_t a_X11_borrowable_57 a_X11_borrowable_58 (by omega) (by omega) ?_
        refine V_iconst a_X11_borrowable_67 ?_
        exact V_iret a_X11_borrowable_68 (⟨rfl, rfl⟩)
      · show V _ 4 0 0 0 [some (vR (some (11, 0))), some (vI b), some (vI s), none, none] [] σ _
        refine V_aldn0 a_X11_borrowable_0 ?_
        refine V_aldn0 a_X11_borrowable_1 ?_
        refine V_ildn1 a_X11_borrowable_2 ?_
        refine V_v1R a_X11_borrowable_3 c_X11_262 r1 ?_
        refine V_if_eq_f a_X11_borrowable_6 (by omega) (by omega) ?_
        refine V_aldn0 a_X11_borrowable_9 ?_
        refine V_ildn2 a_X11_borrowable_10 ?_
        refine V_v1R a_X11_borrowable_11 c_X11_69 r2 ?_
        refine V_if_ne_t a_X11_borrowable_14 (by omega) (by omega) ?_
        refine V_iconst a_X11_borrowable_21 ?_
        refine V_iconst a_X11_borrowable_22 ?_
        refine V_v2R a_X11_borrowable_23 c_X11_72 R_fails0 ?_
        refine V_if_eq_t a_X11_borrowable_26 (by omega) (by omega) ?_
        refine V_aldn0 a_X11_borrowable_31 ?_
        refine V_fin a_X11_borrowable_32 f_X11_7 rfl hW ?_
        refine V_bipush a_X11_borrowable_35 (by decide) ?_
        refine V_ildn1 a_X11_borrowable_37 ?_
        refine V_iadd a_X11_borrowable_38 ?_
        refine V_w a_X11_borrowable_39 (by omega) hA ?_
        refine V_aldn0 a_X11_borrowable_40 ?_
        refine V_ildn1 a_X11_borrowable_41 ?_
        refine V_v1R a_X11_borrowable_42 c_X11_253 hr ?_
        refine V_lsub a_X11_borrowable_45 ?_
        refine V_lstn3 a_X11_borrowable_46 ?_
        refine V_aldn0 a_X11_borrowable_47 ?_
        refine V_fin a_X11_borrowable_48 f_X11_7 rfl hW ?_
        refine V_bipush a_X11_borrowable_51 (by decide) ?_
        refine V_w a_X11_borrowable_53 (by omega) hA ?_
        refine V_ldc2 a_X11_borrowable_54 q_X11_251 ?_
        refine V_lc_eq_f a_X11_borrowable_57 a_X11_borrowable_58 (by omega) (by omega) ?_
        refine V_lldn3 a_X11_borrowable_61 ?_
        refine V_lconst0 a_X11_borrowable_62 ?_
        refine V_lc_ge_f a_X11_borrowable_63 a_X11_borrowable_64 (by omega) (by omega) ?_
        refine V_iconst a_X11_borrowable_67 ?_
        exact V_iret a_X11_borrowable_68 (⟨rfl, rfl⟩)
    · rw [if_neg q1]
      have hdv := td_bd (a := A (45 + b) - expoA A b) (c := A (15 + s)) (by omega) (by omega)
      show V _ 4 0 0 0 [some (vR (some (11, 0))), some (vI b), some (vI s), none, none] [] σ _
      refine V_aldn0 a_X11_borrowable_0 ?_
      refine V_aldn0 a_X11_borrowable_1 ?_
      refine V_ildn1 a_X11_borrowable_2 ?_
      refine V_v1R a_X11_borrowable_3 c_X11_262 r1 ?_
      refine V_if_eq_f a_X11_borrowable_6 (by omega) (by omega) ?_
      refine V_aldn0 a_X11_borrowable_9 ?_
      refine V_ildn2 a_X11_borrowable_10 ?_
      refine V_v1R a_X11_borrowable_11 c_X11_69 r2 ?_
      refine V_if_ne_t a_X11_borrowable_14 (by omega) (by omega) ?_
      refine V_iconst a_X11_borrowable_21 ?_
      refine V_iconst a_X11_borrowable_22 ?_
      refine V_v2R a_X11_borrowable_23 c_X11_72 R_fails0 ?_
      refine V_if_eq_t a_X11_borrowable_26 (by omega) (by omega) ?_
      refine V_aldn0 a_X11_borrowable_31 ?_
      refine V_fin a_X11_borrowable_32 f_X11_7 rfl hW ?_
      refine V_bipush a_X11_borrowable_35 (by decide) ?_
      refine V_ildn1 a_X11_borrowable_37 ?_
      refine V_iadd a_X11_borrowable_38 ?_
      refine V_w a_X11_borrowable_39 (by omega) hA ?_
      refine V_aldn0 a_X11_borrowable_40 ?_
      refine V_ildn1 a_X11_borrowable_41 ?_
      refine V_v1R a_X11_borrowable_42 c_X11_253 hr ?_
      refine V_lsub a_X11_borrowable_45 ?_
      refine V_lstn3 a_X11_borrowable_46 ?_
      refine V_aldn0 a_X11_borrowable_47 ?_
      refine V_fin a_X11_borrowable_48 f_X11_7 rfl hW ?_
      refine V_bipush a_X11_borrowable_51 (by decide) ?_
      refine V_w a_X11_borrowable_53 (by omega) hA ?_
      refine V_ldc2 a_X11_borrowable_54 q_X11_251 ?_
      refine V_lc_eq_f a_X11_borrowable_57 a_X11_borrowable_58 (by omega) (by omega) ?_
      refine V_lldn3 a_X11_borrowable_61 ?_
      refine V_lconst0 a_X11_borrowable_62 ?_
      refine V_lc_ge_t a_X11_borrowable_63 a_X11_borrowable_64 (by omega) (by omega) ?_
      refine V_ldc2 a_X11_borrowable_69 q_X11_76 ?_
      refine V_aldn0 a_X11_borrowable_72 ?_
      refine V_iconst a_X11_borrowable_73 ?_
      refine V_ildn2 a_X11_borrowable_74 ?_
      refine V_v2R a_X11_borrowable_75 c_X11_238 (R_freeBut hm (by omega) (by omega)) ?_
      refine V_lldn3 a_X11_borrowable_78 ?_
      refine V_aldn0 a_X11_borrowable_79 ?_
      refine V_fin a_X11_borrowable_80 f_X11_7 rfl hW ?_
      refine V_bipush a_X11_borrowable_83 (by decide) ?_
      refine V_ildn2 a_X11_borrowable_85 ?_
      refine V_iadd a_X11_borrowable_86 ?_
      refine V_w a_X11_borrowable_87 (by omega) hA ?_
      refine V_ldiv a_X11_borrowable_88 (by omega) ?_
      refine V_s2R a_X11_borrowable_89 c_X11_227 (R_lmin (by omega) (by omega)) ?_
      refine V_s2R a_X11_borrowable_92 c_X11_227 (R_lmin (by omega) (by omega)) ?_
      refine V_l2i a_X11_borrowable_95 ?_
      exact V_iret a_X11_borrowable_96 (⟨rfl, rfl⟩)
  · rw [if_neg h1]
    refine ⟨fun z => absurd z (by decide), fun _ => ?_⟩
    by_cases q1 : 0 ≤ b ∧ b < A 2
    · show V _ 4 0 0 0 [some (vR (some (11, 0))), some (vI b), some (vI s), none, none] [] σ _
      refine V_aldn0 a_X11_borrowable_0 ?_
      refine V_aldn0 a_X11_borrowable_1 ?_
      refine V_ildn1 a_X11_borrowable_2 ?_
      refine V_v1R a_X11_borrowable_3 c_X11_262 r1 ?_
      refine V_if_eq_f a_X11_borrowable_6 (by omega) (by omega) ?_
      refine V_aldn0 a_X11_borrowable_9 ?_
      refine V_ildn2 a_X11_borrowable_10 ?_
      refine V_v1R a_X11_borrowable_11 c_X11_69 r2 ?_
      refine V_if_ne_f a_X11_borrowable_14 (by omega) (by omega) ?_
      refine V_iconst a_X11_borrowable_17 ?_
      refine V_goto a_X11_borrowable_18 ?_
      refine V_iconst a_X11_borrowable_22 ?_
      refine V_v2R a_X11_borrowable_23 c_X11_72 R_fails1 ?_
      refine V_if_eq_f a_X11_borrowable_26 (by omega) (by omega) ?_
      refine V_iconst a_X11_borrowable_29 ?_
      exact V_iret a_X11_borrowable_30 (⟨rfl, rfl⟩)
    · show V _ 4 0 0 0 [some (vR (some (11, 0))), some (vI b), some (vI s), none, none] [] σ _
      refine V_aldn0 a_X11_borrowable_0 ?_
      refine V_aldn0 a_X11_borrowable_1 ?_
      refine V_ildn1 a_X11_borrowable_2 ?_
      refine V_v1R a_X11_borrowable_3 c_X11_262 r1 ?_
      refine V_if_eq_t a_X11_borrowable_6 (by omega) (by omega) ?_
      refine V_iconst a_X11_borrowable_17 ?_
      refine V_goto a_X11_borrowable_18 ?_
      refine V_iconst a_X11_borrowable_22 ?_
      refine V_v2R a_X11_borrowable_23 c_X11_72 R_fails1 ?_
      refine V_if_eq_f a_X11_borrowable_26 (by omega) (by omega) ?_
      refine V_iconst a_X11_borrowable_29 ?_
      exact V_iret a_X11_borrowable_30 (⟨rfl, rfl⟩)
theorem R_wouldReplace {l s q : Int} (h : Md D σ A) (hl : iR l) (hs : iR s) (hq : iR q) : (rclC A l s q = 0 → Cv m_X11_wouldReplace 9 0 0 [vR (some (11, 0)), vI l, vI s, vI q] σ (some (vI (rcaN A l s q))) (fun τ => FK [50, 52, 56, 57, 59] [6, 19] σ τ ∧ τ.I 11 0 6 = 0 ∧ ∃ A', Md D τ A' ∧ Eq9 A A')) ∧ (rclC A l s q ≠ 0 → Rt m_X11_wouldReplace 9 0 0 [vR (some (11, 0)), vI l, vI s, vI q] σ (some (vI 0)) (σ.th (rclC A l s q))) := by
  have hI := h.2.2.2
  have hn := hI.n
  obtain ⟨z, hz, r1⟩ := B_isNoRecall h hl hs hq
  refine ⟨fun e => ?_, fun e => ?_⟩
  · rw [if_pos e] at hz
    subst hz
    rw [e] at r1
    obtain ⟨h1, h2, h3⟩ := rcl_0 e
    have hm : Md D (σ.th 0) A := h
    have r2 := R_think (σ := σ.th 0) (A := A) hm.2.1 hm.2.2.1
    have hm2 : Md D ((σ.th 0).rJ 52 0 (mix A ((σ.th 0).J 52 0) 359)) A := hm.rJ (by decide)
    have fk2 : FK [50, 52, 56, 57, 59] [6, 19] σ ((σ.th 0).rJ 52 0 (mix A ((σ.th 0).J 52 0) 359)) := FK.trans (FK.th (by decide)) ((Fm.rJ (by decide)).fk (by decide))
    have j52 : ((σ.th 0).rJ 52 0 (mix A ((σ.th 0).J 52 0) 359)).J 52 0 = mix A ((σ.th 0).J 52 0) 359 := rJ_J
    have i6 : ((σ.th 0).rJ 52 0 (mix A ((σ.th 0).J 52 0) 359)).I 11 0 6 = 0 := by
      show (σ.th 0).I 11 0 6 = 0
      exact setI_I
    generalize (σ.th 0).rJ 52 0 (mix A ((σ.th 0).J 52 0) 359) = τ at r2 hm2 fk2 j52 i6
    have r3 := R_recallAll (l := l) (s := s) (q := q) hm2 h1.1 (by omega) (by omega)
    rw [rac_row (r := τ.I 59 0) (r' := fun _ => 0)] at r3
    show V _ 9 0 0 0 [some (vR (some (11, 0))), some (vI l), some (vI s), some (vI q), none, none] [] σ _
    refine V_aldn0 a_X11_wouldReplace_0 ?_
    refine V_ildn1 a_X11_wouldReplace_1 ?_
    refine V_ildn2 a_X11_wouldReplace_2 ?_
    refine V_ildn3 a_X11_wouldReplace_3 ?_
    refine V_v3R a_X11_wouldReplace_4 c_X11_326 r1 ?_
    refine V_if_eq_t a_X11_wouldReplace_7 (by omega) (by omega) ?_
    refine V_aldn0 a_X11_wouldReplace_12 ?_
    refine V_v0V a_X11_wouldReplace_13 c_X11_405 r2 ?_
    refine V_aldn0 a_X11_wouldReplace_16 ?_
    refine V_ildn1 a_X11_wouldReplace_17 ?_
    refine V_ildn2 a_X11_wouldReplace_18 ?_
    refine V_ildn3 a_X11_wouldReplace_19 ?_
    refine V_i2l a_X11_wouldReplace_20 (by omega) ?_
    refine V_v3PR a_X11_wouldReplace_21 c_X11_329 r3 (fun τ3 hτ3 => ?_)
    skip
    obtain ⟨f3, m3⟩ := hτ3
    have r5 := R_wake (σ := τ3) m3.2.1
    obtain ⟨hmw, heq⟩ := th_wk (σ := σ.th 0) (τ := τ3) hm m3.2.1 (by rw [f3.1.J (by decide)]; exact j52)
    have fk3 : FK [50, 52, 56, 57, 59] [6, 19] σ (τ3.rJ 50 0 (mix (τ3.J 52 0) (τ3.J 50 0) 359)) := FK.trans (fk2.trans (f3.sub (by decide) (by decide))) ((Fm.rJ (by decide)).fk (by decide))
    have j6 : (τ3.rJ 50 0 (mix (τ3.J 52 0) (τ3.J 50 0) 359)).I 11 0 6 = 0 := by
      show τ3.I 11 0 6 = 0
      rw [f3.2 6 (by decide)]
      exact i6
    refine V_lst4 a_X11_wouldReplace_24 ?_
    refine V_aldn0 a_X11_wouldReplace_26 ?_
    refine V_v0V a_X11_wouldReplace_27 c_X11_408 r5 ?_
    refine V_lld4 a_X11_wouldReplace_30 ?_
    refine V_l2i a_X11_wouldReplace_32 ?_
    exact V_iret a_X11_wouldReplace_33 (⟨rfl, fk3, j6, _, hmw, heq⟩)
  · rw [if_neg e] at hz
    subst hz
    show V _ 9 0 0 0 [some (vR (some (11, 0))), some (vI l), some (vI s), some (vI q), none, none] [] σ _
    refine V_aldn0 a_X11_wouldReplace_0 ?_
    refine V_ildn1 a_X11_wouldReplace_1 ?_
    refine V_ildn2 a_X11_wouldReplace_2 ?_
    refine V_ildn3 a_X11_wouldReplace_3 ?_
    refine V_v3R a_X11_wouldReplace_4 c_X11_326 r1 ?_
    refine V_if_eq_f a_X11_wouldReplace_7 (by omega) (by omega) ?_
    refine V_iconst a_X11_wouldReplace_10 ?_
    exact V_iret a_X11_wouldReplace_11 (⟨rfl, rfl⟩)
end Qc

