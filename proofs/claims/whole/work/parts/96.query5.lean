section Qe
variable {D : Int} {σ : Hp} {A : St}
theorem pol_inv (hI : Inv D A) {p : Int} (hp : 0 ≤ p ∧ p ≤ 2) : Inv D (upI A 5 p) := inv_set hI (Or.inr (Or.inr (Or.inr ⟨rfl, hp⟩)))
theorem pol_free (hI : Inv D A) {p s : Int} (hs : 0 ≤ s) : freeB (upI A 5 p) (-1) s = freeB A (-1) s := by
  have hn := hI.n
  have e : ∀ j, j ≠ 5 → upI A 5 p j = A j := fun j hj => upI_ne hj
  unfold freeB
  rw [e 1 (by decide)]
  refine sm_congr (fun l l0 l1 => ?_)
  have el : lentA (upI A 5 p) l s = lentA A l s := by
    unfold lentA
    rw [e 7 (by decide)]
    exact sm_congr (fun k k0 k1 => by rw [e _ (by omega), e _ (by omega)])
  split
  · rfl
  · unfold freeA
    rw [el, e (33 + l) (by omega), e (49 + 4 * l + s) (by omega)]
theorem giv_bd (hI : Inv D A) {p s q l : Int} (hp : 0 ≤ p ∧ p ≤ 2) (hs : 0 ≤ s ∧ s < 4) (hq : 0 < q ∧ q ≤ freeB A (-1) s) (l0 : 0 ≤ l) (l1 : l < A 1) : 0 ≤ giveA (upI A 5 p) s q (-1) l ∧ giveA (upI A 5 p) s q (-1) l ≤ 99999 := by
  have iP := pol_inv hI hp
  have hn := hI.n
  have e : ∀ j, j ≠ 5 → upI A 5 p j = A j := fun j hj => upI_ne hj
  have hg := give_held iP (s := s) (q := q) (but := -1) (l := l) hs (by rw [pol_free hI hs.1]; exact hq) l0 (by rw [e 1 (by decide)]; exact l1)
  have hh := iP.held l0 (by omega) hs.1 hs.2
  have hl := lent_bd iP l0 (by omega) hs.1 hs.2
  have ho := (give_ok iP (s := s) (q := q) (but := -1) hs (by rw [pol_free hI hs.1]; exact hq)).1 l l0 (by rw [e 1 (by decide)]; exact l1)
  omega
theorem R_spread {s q p : Int} (h : Md D σ A) (hs : 0 ≤ s ∧ s < 4) (hq : 1 ≤ q ∧ q ≤ 99999) (hf : q ≤ freeB A (-1) s) (hp : 0 ≤ p ∧ p ≤ 2) : Cv m_X11_spread 7 0 0 [vR (some (11, 0)), vI s, vI q, vI p] σ (some (vL (sprA A s q p))) (fun τ => Fm [50, 52, 56, 57] σ τ ∧ Md D τ A) := by
  have hI := h.2.2.2
  have hn := hI.n
  have h1 : 0 < A 1 := by
    apply Classical.byContradiction
    intro z
    have e : freeB A (-1) s = 0 := by
      unfold freeB
      exact sm_neg _ (by omega)
    omega
  have r3 := R_think (σ := σ) (A := A) h.2.1 h.2.2.1
  have hm2 : Md D (σ.rJ 52 0 (mix A (σ.J 52 0) 359)) A := h.rJ (by decide)
  have f2 : Fm [50, 52, 56, 57] σ (σ.rJ 52 0 (mix A (σ.J 52 0) 359)) := Fm.rJ (by decide)
  have j52 : (σ.rJ 52 0 (mix A (σ.J 52 0) 359)).J 52 0 = mix A (σ.J 52 0) 359 := rJ_J
  generalize σ.rJ 52 0 (mix A (σ.J 52 0) 359) = τ at r3 hm2 f2 j52
  have hs5 := setJ_row (σ := τ) (t := 50) (i := 0) (k := 5) (v := p)
  rw [hm2.2.2.1] at hs5
  have hm3 : Md D (τ.rJ 50 0 (upI A 5 p)) (upI A 5 p) := ⟨h.1, hm2.2.1, rJ_J, pol_inv hI hp⟩
  obtain ⟨τ4, f4, m4, g4, r4⟩ := R_allocate (s := s) (q := q) (but := -1) hm3 hs (by rw [pol_free hI hs.1]; omega) (by omega)
  have r5 := R_wake (σ := τ4) m4.2.1
  obtain ⟨hmw, heq⟩ := th_wk (σ := σ) (τ := τ4) h m4.2.1 (by rw [f4.J (by decide), rJ_ne (by decide)]; exact j52)
  rw [m4.2.2.1, mix_back (fun j hj => (alloc_8 hs (by omega)).trans (upI_ne (by omega))), ← m4.2.2.1] at hmw
  have f5 : Fm [50, 52, 56, 57] σ (τ4.rJ 50 0 (mix (τ4.J 52 0) (τ4.J 50 0) 359)) := Fm.trans (Fm.trans (f2.trans (Fm.rJ (by decide))) (f4.sub (by decide))) (Fm.rJ (by decide))
  have g56 : ∀ l, 0 ≤ l → l < A 1 → (τ4.rJ 50 0 (mix (τ4.J 52 0) (τ4.J 50 0) 359)).J 56 0 l = giveA (upI A 5 p) s q (-1) l := fun l l0 l1 => by
    rw [rJ_ne (by decide)]
    exact g4 l l0 (by rw [upI_ne (by decide)]; exact l1)
  generalize τ4.rJ 50 0 (mix (τ4.J 52 0) (τ4.J 50 0) 359) = ρ at r5 hmw f5 g56
  have hmw : Md D ρ A := hmw
  have hW := hmw.2.1
  have hA := hmw.2.2.1
  have hgb : ∀ l, 0 ≤ l → l < A 1 → 0 ≤ giveA (upI A 5 p) s q (-1) l ∧ giveA (upI A 5 p) s q (-1) l ≤ 99999 := fun l l0 l1 => giv_bd hI hp hs (by omega) l0 l1
  have hlb : ∀ l, 0 ≤ l → l < A 1 → 0 ≤ lentA A l s ∧ lentA A l s ≤ 99999 := fun l l0 l1 => lent_bd hI l0 (by omega) hs.1 hs.2
  have hWτ := hm2.2.1
  show V _ 7 0 0 0 [some (vR (some (11, 0))), some (vI s), some (vI q), some (vI p), none, none, none, none, none, none, none] [] σ _
  unfold sprA
  generalize hfd : giveA (upI A 5 p) s q (-1) = gv at g56 hgb ⊢
  refine V_aldn0 a_X11_spread_0 ?_
  refine V_v0V a_X11_spread_1 c_X11_405 r3 ?_
  skip
  have fin : V m_X11_spread 7 0 0 24 [some (vR (some (11, 0))), some (vI s), some (vI q), some (vI p), none, none, none, none, none, none, none] [] ρ (fun r τ => r = .inl (some (vL (mxL (fun l => gv l + lentA A l s) (A 1 - 1) - mnL (fun l => gv l + lentA A l s) (A 1 - 1)))) ∧ Fm [50, 52, 56, 57] σ τ ∧ Md D τ A) := by
    have hg0 := hgb 0 (Int.le_refl 0) h1
    have hl0 := hlb 0 (Int.le_refl 0) h1
    refine V_aldn0 a_X11_spread_24 ?_
    refine V_fin a_X11_spread_25 f_X11_33 rfl hW ?_
    refine V_iconst a_X11_spread_28 ?_
    refine V_laldE a_X11_spread_29 rfl (by omega) (g56 0 (Int.le_refl 0) h1) ?_
    refine V_aldn0 a_X11_spread_30 ?_
    refine V_iconst a_X11_spread_31 ?_
    refine V_ildn1 a_X11_spread_32 ?_
    refine V_v2R a_X11_spread_33 c_X11_204 (R_lentBy hmw (by omega) hs) ?_
    refine V_ladd a_X11_spread_36 ?_
    refine V_lst4 a_X11_spread_37 ?_
    refine V_lld4 a_X11_spread_39 ?_
    refine V_lst6 a_X11_spread_41 ?_
    refine V_iconst a_X11_spread_43 ?_
    refine V_ist8 a_X11_spread_44 ?_
    refine loopF (P := fun l => ∀ x9 : Option AV, V _ 7 0 0 46 [some (vR (some (11, 0))), some (vI s), some (vI q), some (vI p), some (vL (mxL (fun l => gv l + lentA A l s) (l - 1))), none, some (vL (mnL (fun l => gv l + lentA A l s) (l - 1))), none, some (vI l), x9, none] [] ρ _) (a := 1) (N := A 1) (by omega) ?_ ?_ none
    · intro x9
      refine V_ild8 a_X11_spread_46 ?_
      refine V_i2l a_X11_spread_48 (by omega) ?_
      refine V_aldn0 a_X11_spread_49 ?_
      refine V_fin a_X11_spread_50 f_X11_7 rfl hW ?_
      refine V_iconst a_X11_spread_53 ?_
      refine V_w a_X11_spread_54 (by omega) hA ?_
      refine V_lc_ge_t a_X11_spread_55 a_X11_spread_56 (by omega) (by omega) ?_
      refine V_lld4 a_X11_spread_100 ?_
      refine V_lld6 a_X11_spread_102 ?_
      refine V_lsub a_X11_spread_104 ?_
      exact V_lret a_X11_spread_105 (⟨rfl, f5, hmw⟩)
    · intro l l0 l1 ih x9
      have ih := ih (some (vL (gv l + lentA A l s)))
      have hgl := hgb l (by omega) l1
      have hll := hlb l (by omega) l1
      have hmb := mx_bd (f := fun l => gv l + lentA A l s) (l := l - 1) (M := 199998) (by omega) (fun j j0 j1 => by
        have a1 := hgb j j0 (by omega)
        have a2 := hlb j j0 (by omega)
        show 0 ≤ gv j + lentA A j s ∧ gv j + lentA A j s ≤ 199998
        omega)
      rw [show l + 1 - 1 = (l - 1) + 1 by omega, mxL_s (by omega), mnL_s (by omega), show l - 1 + 1 = l by omega] at ih
      refine V_ild8 a_X11_spread_46 ?_
      refine V_i2l a_X11_spread_48 (by omega) ?_
      refine V_aldn0 a_X11_spread_49 ?_
      refine V_fin a_X11_spread_50 f_X11_7 rfl hW ?_
      refine V_iconst a_X11_spread_53 ?_
      refine V_w a_X11_spread_54 (by omega) hA ?_
      refine V_lc_ge_f a_X11_spread_55 a_X11_spread_56 (by omega) (by omega) ?_
      refine V_aldn0 a_X11_spread_59 ?_
      refine V_fin a_X11_spread_60 f_X11_33 rfl hW ?_
      refine V_ild8 a_X11_spread_63 ?_
      refine V_laldE a_X11_spread_65 rfl (by omega) (g56 l (by omega) l1) ?_
      refine V_aldn0 a_X11_spread_66 ?_
      refine V_ild8 a_X11_spread_67 ?_
      refine V_ildn1 a_X11_spread_69 ?_
      refine V_v2R a_X11_spread_70 c_X11_204 (R_lentBy hmw (by omega) hs) ?_
      refine V_ladd a_X11_spread_73 ?_
      refine V_lst9 a_X11_spread_74 ?_
      refine V_lld4 a_X11_spread_76 ?_
      refine V_lld9 a_X11_spread_78 ?_
      refine V_s2R a_X11_spread_80 c_X11_207 (R_lmax (by omega) (by omega)) ?_
      refine V_lst4 a_X11_spread_83 ?_
      refine V_lld6 a_X11_spread_85 ?_
      refine V_lld9 a_X11_spread_87 ?_
      refine V_s2R a_X11_spread_89 c_X11_227 (R_lmin (by omega) (by omega)) ?_
      refine V_lst6 a_X11_spread_92 ?_
      refine V_inc8 a_X11_spread_94 ?_
      refine V_goto a_X11_spread_97 ?_
      exact ih
  have hW := hWτ
  refine V_aldn0 a_X11_spread_4 ?_
  refine V_fin a_X11_spread_5 f_X11_7 rfl hW ?_
  refine V_iconst a_X11_spread_8 ?_
  refine V_ildn3 a_X11_spread_9 ?_
  refine V_i2l a_X11_spread_10 (by omega) ?_
  refine V_last a_X11_spread_11 rfl (by omega) ?_
  rw [hs5]
  refine V_aldn0 a_X11_spread_12 ?_
  refine V_ildn1 a_X11_spread_13 ?_
  refine V_ildn2 a_X11_spread_14 ?_
  refine V_i2l a_X11_spread_15 (by omega) ?_
  refine V_iconst a_X11_spread_16 ?_
  refine V_v3V a_X11_spread_17 c_X11_256 r4 ?_
  refine V_aldn0 a_X11_spread_20 ?_
  refine V_v0V a_X11_spread_21 c_X11_408 r5 ?_
  exact fin
theorem spr_bd (hI : Inv D A) {s q p : Int} (hs : 0 ≤ s ∧ s < 4) (hq : 1 ≤ q ∧ q ≤ 99999) (hf : q ≤ freeB A (-1) s) (hp : 0 ≤ p ∧ p ≤ 2) : 0 ≤ sprA A s q p ∧ sprA A s q p ≤ 199998 := by
  have hn := hI.n
  have h1 : 0 < A 1 := by
    apply Classical.byContradiction
    intro z
    have e : freeB A (-1) s = 0 := by
      unfold freeB
      exact sm_neg _ (by omega)
    omega
  have := mx_bd (f := fun l => giveA (upI A 5 p) s q (-1) l + lentA A l s) (l := A 1 - 1) (M := 199998) (by omega) (fun j j0 j1 => by
    have a1 := giv_bd hI hp hs (q := q) (by omega) j0 (by omega : j < A 1)
    have a2 := lent_bd hI j0 (by omega : j < 6) hs.1 hs.2
    show 0 ≤ giveA (upI A 5 p) s q (-1) j + lentA A j s ∧ giveA (upI A 5 p) s q (-1) j + lentA A j s ≤ 199998
    omega)
  unfold sprA
  omega
theorem R_bestPolicy {s q : Int} (h : Md D σ A) (hs : iR s) (hq : iR q) : (bsC A s q = 0 → Cv m_X11_bestPolicy 8 0 0 [vR (some (11, 0)), vI s, vI q] σ (some (vI (bsV A s q))) (fun τ => FK [50, 52, 56, 57] [6] σ τ ∧ τ.I 11 0 6 = 0 ∧ Md D τ A)) ∧ (bsC A s q ≠ 0 → Rt m_X11_bestPolicy 8 0 0 [vR (some (11, 0)), vI s, vI q] σ (some (vI 0)) (σ.th (bsC A s q))) := by
  have hI := h.2.2.2
  have hn := hI.n
  obtain ⟨b1, hb1, r1⟩ := B_isNoSecurity (s := s) h hs
  unfold bsC
  by_cases h1 : 0 ≤ s ∧ s < A 0
  · rw [if_neg (fun z => z h1)]
    have hb : b1 = 0 := by omega
    subst hb
    obtain ⟨b2, hb2, r2⟩ := B_isQuantity (σ := σ.th 0) hq
    by_cases h2 : 1 ≤ q ∧ q ≤ 99999
    · rw [if_neg (fun z => z h2)]
      have hfb := freeB_bd hI (but := -1) h1.1 (by omega)
      have hm1 : Md D ((σ.th 0).th 0) A := h
      have r33 := R_freeBut (but := -1) (s := s) hm1 (by omega) (by omega)
      by_cases h3 : freeB A (-1) s < q
      · rw [if_pos h3]
        refine ⟨fun z => absurd z (by decide), fun _ => ?_⟩
        show V _ 8 0 0 0 [some (vR (some (11, 0))), some (vI s), some (vI q), none, none] [] σ _
        refine V_aldn0 a_X11_bestPolicy_0 ?_
        refine V_ildn1 a_X11_bestPolicy_1 ?_
        refine V_v1R a_X11_bestPolicy_2 c_X11_349 r1 ?_
        refine V_if_ne_f a_X11_bestPolicy_5 (by omega) (by omega) ?_
        refine V_aldn0 a_X11_bestPolicy_8 ?_
        refine V_ildn2 a_X11_bestPolicy_9 ?_
        refine V_s1R a_X11_bestPolicy_10 c_X11_259 r2 ?_
        refine V_if_ne_t a_X11_bestPolicy_13 (by omega) (by omega) ?_
        refine V_iconst a_X11_bestPolicy_20 ?_
        refine V_iconst a_X11_bestPolicy_21 ?_
        refine V_v2R a_X11_bestPolicy_22 c_X11_72 R_fails0 ?_
        refine V_if_ne_f a_X11_bestPolicy_25 (by omega) (by omega) ?_
        refine V_aldn0 a_X11_bestPolicy_28 ?_
        refine V_aldn0 a_X11_bestPolicy_29 ?_
        refine V_iconst a_X11_bestPolicy_30 ?_
        refine V_ildn1 a_X11_bestPolicy_31 ?_
        refine V_v2R a_X11_bestPolicy_32 c_X11_238 r33 ?_
        refine V_ildn2 a_X11_bestPolicy_35 ?_
        refine V_i2l a_X11_bestPolicy_36 (by omega) ?_
        refine V_lc_ge_f a_X11_bestPolicy_37 a_X11_bestPolicy_38 (by omega) (by omega) ?_
        refine V_iconst a_X11_bestPolicy_41 ?_
        refine V_goto a_X11_bestPolicy_42 ?_
        refine V_iconst a_X11_bestPolicy_46 ?_
        refine V_v2R a_X11_bestPolicy_47 c_X11_72 R_fails1 ?_
        refine V_if_eq_f a_X11_bestPolicy_50 (by omega) (by omega) ?_
        refine V_iconst a_X11_bestPolicy_53 ?_
        exact V_iret a_X11_bestPolicy_54 (⟨rfl, by rw [th_th, th_th]⟩)
      · rw [if_neg h3]
        refine ⟨fun _ => ?_, fun z => absurd rfl z⟩
        have hm : Md D (((σ.th 0).th 0).th 0) A := h
        have fk1 : FK [50, 52, 56, 57] [6] σ (((σ.th 0).th 0).th 0) := FK.trans (FK.trans (FK.th (by decide)) (FK.th (by decide))) (FK.th (by decide))
        have i6 : (((σ.th 0).th 0).th 0).I 11 0 6 = 0 := setI_I
        have sp : ∀ p, 0 ≤ p ∧ p ≤ 2 → 0 ≤ sprA A s q p ∧ sprA A s q p ≤ 199998 := fun p hp => spr_bd hI (by omega) h2 (by omega) hp
        have rs : ∀ (τ : Hp) (p : Int), Md D τ A → 0 ≤ p ∧ p ≤ 2 → Cv m_X11_spread 7 0 0 [vR (some (11, 0)), vI s, vI q, vI p] τ (some (vL (sprA A s q p))) (fun τ' => Fm [50, 52, 56, 57] τ τ' ∧ Md D τ' A) := fun τ p hτ hp => R_spread hτ (by omega) h2 (by omega) hp
        generalize hσ3 : ((σ.th 0).th 0).th 0 = σ3 at hm fk1 i6
        -- one policy after another
        have step : ∀ (p b : Int) (τ : Hp) (Q : Res → Hp → Prop), 0 ≤ p ∧ p ≤ 2 → 0 ≤ b ∧ b ≤ 2 → Md D τ A → FK [50, 52, 56, 57] [6] σ τ → τ.I 11 0 6 = 0 → (∀ τ', Md D τ' A → FK [50, 52, 56, 57] [6] σ τ' → τ'.I 11 0 6 = 0 → V m_X11_bestPolicy 8 0 0 60 [some (vR (some (11, 0))), some (vI s), some (vI q), some (vI (bsS A s q p b)), some (vI (p + 1))] [] τ' Q) → V m_X11_bestPolicy 8 0 0 60 [some (vR (some (11, 0))), some (vI s), some (vI q), some (vI b), some (vI p)] [] τ Q := fun p b τ Q hp hb hτ fτ iτ k => by
          have s1 := sp p hp
          have s2 := sp b hb
          have b60 : p < 3 := by omega
          unfold bsS at k
          refine V_ild4 a_X11_bestPolicy_60 ?_
          refine V_iconst a_X11_bestPolicy_62 ?_
          refine V_icmp_ge_f a_X11_bestPolicy_63 (by omega) (by omega) ?_
          refine V_aldn0 a_X11_bestPolicy_66 ?_
          refine V_ildn1 a_X11_bestPolicy_67 ?_
          refine V_ildn2 a_X11_bestPolicy_68 ?_
          refine V_ild4 a_X11_bestPolicy_69 ?_
          refine V_v3PR a_X11_bestPolicy_71 c_X11_425 (rs τ p hτ hp) (fun τ1 hτ1 => ?_)
          refine V_aldn0 a_X11_bestPolicy_74 ?_
          refine V_ildn1 a_X11_bestPolicy_75 ?_
          refine V_ildn2 a_X11_bestPolicy_76 ?_
          refine V_ildn3 a_X11_bestPolicy_77 ?_
          refine V_v3PR a_X11_bestPolicy_78 c_X11_425 (rs τ1 b hτ1.2 hb) (fun τ2 hτ2 => ?_)
          skip
          have k2 := k τ2 hτ2.2 (FK.trans (FK.trans fτ (hτ1.1.fk (by decide))) (hτ2.1.fk (by decide))) (by rw [hτ2.1.I (by decide), hτ1.1.I (by decide)]; exact iτ)
          by_cases q3 : sprA A s q p < sprA A s q b
          · rw [if_pos q3] at k2
            refine V_lc_ge_f a_X11_bestPolicy_81 a_X11_bestPolicy_82 (by omega) (by omega) ?_
            refine V_ild4 a_X11_bestPolicy_85 ?_
            refine V_goto a_X11_bestPolicy_87 ?_
            refine V_istn3 a_X11_bestPolicy_91 ?_
            refine V_inc4 a_X11_bestPolicy_92 ?_
            refine V_goto a_X11_bestPolicy_95 ?_
            exact k2
          · rw [if_neg q3] at k2
            refine V_lc_ge_t a_X11_bestPolicy_81 a_X11_bestPolicy_82 (by omega) (by omega) ?_
            refine V_ildn3 a_X11_bestPolicy_90 ?_
            refine V_istn3 a_X11_bestPolicy_91 ?_
            refine V_inc4 a_X11_bestPolicy_92 ?_
            refine V_goto a_X11_bestPolicy_95 ?_
            exact k2
        have hb1 : 0 ≤ bsS A s q 1 0 ∧ bsS A s q 1 0 ≤ 2 := by
          unfold bsS
          split <;> omega
        show V _ 8 0 0 0 [some (vR (some (11, 0))), some (vI s), some (vI q), none, none] [] σ _
        refine V_aldn0 a_X11_bestPolicy_0 ?_
        refine V_ildn1 a_X11_bestPolicy_1 ?_
        refine V_v1R a_X11_bestPolicy_2 c_X11_349 r1 ?_
        refine V_if_ne_f a_X11_bestPolicy_5 (by omega) (by omega) ?_
        refine V_aldn0 a_X11_bestPolicy_8 ?_
        refine V_ildn2 a_X11_bestPolicy_9 ?_
        refine V_s1R a_X11_bestPolicy_10 c_X11_259 r2 ?_
        refine V_if_ne_t a_X11_bestPolicy_13 (by omega) (by omega) ?_
        refine V_iconst a_X11_bestPolicy_20 ?_
        refine V_iconst a_X11_bestPolicy_21 ?_
        refine V_v2R a_X11_bestPolicy_22 c_X11_72 R_fails0 ?_
        refine V_if_ne_f a_X11_bestPolicy_25 (by omega) (by omega) ?_
        refine V_aldn0 a_X11_bestPolicy_28 ?_
        refine V_aldn0 a_X11_bestPolicy_29 ?_
        refine V_iconst a_X11_bestPolicy_30 ?_
        refine V_ildn1 a_X11_bestPolicy_31 ?_
        refine V_v2R a_X11_bestPolicy_32 c_X11_238 r33 ?_
        refine V_ildn2 a_X11_bestPolicy_35 ?_
        refine V_i2l a_X11_bestPolicy_36 (by omega) ?_
        refine V_lc_ge_t a_X11_bestPolicy_37 a_X11_bestPolicy_38 (by omega) (by omega) ?_
        refine V_iconst a_X11_bestPolicy_45 ?_
        refine V_iconst a_X11_bestPolicy_46 ?_
        refine V_v2R a_X11_bestPolicy_47 c_X11_72 R_fails0 ?_
        refine V_if_eq_t a_X11_bestPolicy_50 (by omega) (by omega) ?_
        rw [hσ3]
        refine V_iconst a_X11_bestPolicy_55 ?_
        refine V_istn3 a_X11_bestPolicy_56 ?_
        refine V_iconst a_X11_bestPolicy_57 ?_
        refine V_ist4 a_X11_bestPolicy_58 ?_
        refine step 1 0 σ3 _ (by omega) (by omega) hm fk1 i6 (fun τ1 m1 f1 j1 => ?_)
        refine step 2 _ τ1 _ (by omega) hb1 m1 f1 j1 (fun τ2 m2 f2 j2 => ?_)
        refine V_ild4 a_X11_bestPolicy_60 ?_
        refine V_iconst a_X11_bestPolicy_62 ?_
        refine V_icmp_ge_t a_X11_bestPolicy_63 (by omega) (by omega) ?_
        refine V_ildn3 a_X11_bestPolicy_98 ?_
        exact V_iret a_X11_bestPolicy_99 (⟨rfl, f2, j2, m2⟩)
    · rw [if_pos h2]
      refine ⟨fun z => absurd z (by decide), fun _ => ?_⟩
      show V _ 8 0 0 0 [some (vR (some (11, 0))), some (vI s), some (vI q), none, none] [] σ _
      refine V_aldn0 a_X11_bestPolicy_0 ?_
      refine V_ildn1 a_X11_bestPolicy_1 ?_
      refine V_v1R a_X11_bestPolicy_2 c_X11_349 r1 ?_
      refine V_if_ne_f a_X11_bestPolicy_5 (by omega) (by omega) ?_
      refine V_aldn0 a_X11_bestPolicy_8 ?_
      refine V_ildn2 a_X11_bestPolicy_9 ?_
      refine V_s1R a_X11_bestPolicy_10 c_X11_259 r2 ?_
      refine V_if_ne_f a_X11_bestPolicy_13 (by omega) (by omega) ?_
      refine V_iconst a_X11_bestPolicy_16 ?_
      refine V_goto a_X11_bestPolicy_17 ?_
      refine V_iconst a_X11_bestPolicy_21 ?_
      refine V_v2R a_X11_bestPolicy_22 c_X11_72 R_fails1 ?_
      refine V_if_ne_t a_X11_bestPolicy_25 (by omega) (by omega) ?_
      refine V_iconst a_X11_bestPolicy_53 ?_
      exact V_iret a_X11_bestPolicy_54 (⟨rfl, by rw [th_th]⟩)
  · rw [if_pos h1]
    have hb : b1 = 1 := by omega
    subst hb
    refine ⟨fun z => absurd z (by decide), fun _ => ?_⟩
    show V _ 8 0 0 0 [some (vR (some (11, 0))), some (vI s), some (vI q), none, none] [] σ _
    refine V_aldn0 a_X11_bestPolicy_0 ?_
    refine V_ildn1 a_X11_bestPolicy_1 ?_
    refine V_v1R a_X11_bestPolicy_2 c_X11_349 r1 ?_
    refine V_if_ne_t a_X11_bestPolicy_5 (by omega) (by omega) ?_
    refine V_iconst a_X11_bestPolicy_53 ?_
    exact V_iret a_X11_bestPolicy_54 (⟨rfl, rfl⟩)
theorem R_rankedLender {s p : Int} (h : Md D σ A) (hs : iR s) (hp : iR p) : (((0 ≤ s ∧ s < A 0) ∧ 0 ≤ p ∧ p < A 1) → Rt m_X11_rankedLender 5 0 0 [vR (some (11, 0)), vI s, vI p] σ (some (vI (rankA A s p))) (σ.th 0)) ∧ (¬ ((0 ≤ s ∧ s < A 0) ∧ 0 ≤ p ∧ p < A 1) → Rt m_X11_rankedLender 5 0 0 [vR (some (11, 0)), vI s, vI p] σ (some (vI 0)) (σ.th 1)) := by
  have hI := h.2.2.2
  have hn := hI.n
  obtain ⟨b1, hb1, r1⟩ := B_isNoSecurity (s := s) h hs
  have hm : Md D ((σ.th 0).th 0) A := h
  obtain ⟨-, hW, hA, -⟩ := id (show Md D (σ.th 0) A from h)
  obtain ⟨b2, hb2, r2⟩ := B_in (σ := σ.th 0) (v := p) (x := 0) (y := A 1 - 1) (by omega) (by omega) (by omega)
  refine ⟨fun e => ?_, fun e => ?_⟩
  · have hb : b1 = 0 := by omega
    subst hb
    show V _ 5 0 0 0 [some (vR (some (11, 0))), some (vI s), some (vI p)] [] σ _
    refine V_aldn0 a_X11_rankedLender_0 ?_
    refine V_ildn1 a_X11_rankedLender_1 ?_
    refine V_v1R a_X11_rankedLender_2 c_X11_349 r1 ?_
    refine V_if_ne_f a_X11_rankedLender_5 (by omega) (by omega) ?_
    refine V_aldn0 a_X11_rankedLender_8 ?_
    refine V_ildn2 a_X11_rankedLender_9 ?_
    refine V_i2l a_X11_rankedLender_10 (by omega) ?_
    refine V_lconst0 a_X11_rankedLender_11 ?_
    refine V_aldn0 a_X11_rankedLender_12 ?_
    refine V_fin a_X11_rankedLender_13 f_X11_7 rfl hW ?_
    refine V_iconst a_X11_rankedLender_16 ?_
    refine V_w a_X11_rankedLender_17 (by omega) hA ?_
    refine V_lconst1 a_X11_rankedLender_18 ?_
    refine V_lsub a_X11_rankedLender_19 ?_
    refine V_s3R a_X11_rankedLender_20 c_X11_61 r2 ?_
    refine V_if_ne_t a_X11_rankedLender_23 (by omega) (by omega) ?_
    refine V_iconst a_X11_rankedLender_30 ?_
    refine V_iconst a_X11_rankedLender_31 ?_
    refine V_v2R a_X11_rankedLender_32 c_X11_72 R_fails0 ?_
    refine V_if_eq_t a_X11_rankedLender_35 (by omega) (by omega) ?_
    refine V_aldn0 a_X11_rankedLender_42 ?_
    refine V_ildn1 a_X11_rankedLender_43 ?_
    refine V_ildn2 a_X11_rankedLender_44 ?_
    refine V_v2R a_X11_rankedLender_45 c_X11_230 (R_rankedAt hm (by omega) (by omega)) ?_
    exact V_iret a_X11_rankedLender_48 (⟨rfl, by rw [th_th]⟩)
  · by_cases q : 0 ≤ s ∧ s < A 0
    · have hb : b1 = 0 := by omega
      subst hb
      show V _ 5 0 0 0 [some (vR (some (11, 0))), some (vI s), some (vI p)] [] σ _
      refine V_aldn0 a_X11_rankedLender_0 ?_
      refine V_ildn1 a_X11_rankedLender_1 ?_
      refine V_v1R a_X11_rankedLender_2 c_X11_349 r1 ?_
      refine V_if_ne_f a_X11_rankedLender_5 (by omega) (by omega) ?_
      refine V_aldn0 a_X11_rankedLender_8 ?_
      refine V_ildn2 a_X11_rankedLender_9 ?_
      refine V_i2l a_X11_rankedLender_10 (by omega) ?_
      refine V_lconst0 a_X11_rankedLender_11 ?_
      refine V_aldn0 a_X11_rankedLender_12 ?_
      refine V_fin a_X11_rankedLender_13 f_X11_7 rfl hW ?_
      refine V_iconst a_X11_rankedLender_16 ?_
      refine V_w a_X11_rankedLender_17 (by omega) hA ?_
      refine V_lconst1 a_X11_rankedLender_18 ?_
      refine V_lsub a_X11_rankedLender_19 ?_
      refine V_s3R a_X11_rankedLender_20 c_X11_61 r2 ?_
      refine V_if_ne_f a_X11_rankedLender_23 (by omega) (by omega) ?_
      refine V_iconst a_X11_rankedLender_26 ?_
      refine V_goto a_X11_rankedLender_27 ?_
      refine V_iconst a_X11_rankedLender_31 ?_
      refine V_v2R a_X11_rankedLender_32 c_X11_72 R_fails1 ?_
      refine V_if_eq_f a_X11_rankedLender_35 (by omega) (by omega) ?_
      refine V_iconst a_X11_rankedLender_38 ?_
      refine V_goto a_X11_rankedLender_39 ?_
      exact V_iret a_X11_rankedLender_48 (⟨rfl, by rw [th_th]⟩)
    · have hb : b1 = 1 := by omega
      subst hb
      show V _ 5 0 0 0 [some (vR (some (11, 0))), some (vI s), some (vI p)] [] σ _
      refine V_aldn0 a_X11_rankedLender_0 ?_
      refine V_ildn1 a_X11_rankedLender_1 ?_
      refine V_v1R a_X11_rankedLender_2 c_X11_349 r1 ?_
      refine V_if_ne_t a_X11_rankedLender_5 (by omega) (by omega) ?_
      refine V_iconst a_X11_rankedLender_38 ?_
      refine V_goto a_X11_rankedLender_39 ?_
      exact V_iret a_X11_rankedLender_48 (⟨rfl, rfl⟩)
theorem ri_bd {A : St} {n : Int} (h : 0 ≤ n) : 0 ≤ itr (riS A) n 0 ∧ itr (riS A) n 0 ≤ n := by
  refine itr_ind (f := riS A) (a := (0 : Int)) (fun k x => 0 ≤ x ∧ x ≤ k) ⟨Int.le_refl 0, Int.le_refl 0⟩ h (fun k x k0 k1 hx => ?_)
  unfold riS
  split <;> omega
theorem R_richestLender (h : Md D σ A) : (A 1 ≠ 0 → Rt m_X11_richestLender 1 0 0 [vR (some (11, 0))] σ (some (vI (riA A))) (σ.th 0)) ∧ (A 1 = 0 → Rt m_X11_richestLender 1 0 0 [vR (some (11, 0))] σ (some (vI 0)) (σ.th 1)) := by
  obtain ⟨hD, hW, hA, hI⟩ := h
  have hn := hI.n
  refine ⟨fun e => ?_, fun e => ?_⟩
  · have hA0 : (σ.th 0).J 50 0 = A := hA
    show V _ 1 0 0 0 [some (vR (some (11, 0))), none, none] [] σ _
    refine V_aldn0 a_X11_richestLender_0 ?_
    refine V_aldn0 a_X11_richestLender_1 ?_
    refine V_fin a_X11_richestLender_2 f_X11_7 rfl hW ?_
    refine V_iconst a_X11_richestLender_5 ?_
    refine V_w a_X11_richestLender_6 (by omega) hA ?_
    refine V_lconst0 a_X11_richestLender_7 ?_
    refine V_lc_ne_t a_X11_richestLender_8 a_X11_richestLender_9 (by omega) (by omega) ?_
    refine V_iconst a_X11_richestLender_16 ?_
    refine V_iconst a_X11_richestLender_17 ?_
    refine V_v2R a_X11_richestLender_18 c_X11_72 R_fails0 ?_
    refine V_if_eq_t a_X11_richestLender_21 (by omega) (by omega) ?_
    refine V_iconst a_X11_richestLender_26 ?_
    refine V_istn1 a_X11_richestLender_27 ?_
    refine V_iconst a_X11_richestLender_28 ?_
    refine V_istn2 a_X11_richestLender_29 ?_
    refine loopF (P := fun l => V _ 1 0 0 30 [some (vR (some (11, 0))), some (vI (itr (riS A) (l - 1) 0)), some (vI l)] [] (σ.th 0) _) (a := 1) (N := A 1) (by omega) ?_ ?_
    · have hA := hA0
      refine V_ildn2 a_X11_richestLender_30 ?_
      refine V_i2l a_X11_richestLender_31 (by omega) ?_
      refine V_aldn0 a_X11_richestLender_32 ?_
      refine V_fin a_X11_richestLender_33 f_X11_7 rfl hW ?_
      refine V_iconst a_X11_richestLender_36 ?_
      refine V_w a_X11_richestLender_37 (by omega) hA ?_
      refine V_lc_ge_t a_X11_richestLender_38 a_X11_richestLender_39 (by omega) (by omega) ?_
      refine V_ildn1 a_X11_richestLender_76 ?_
      exact V_iret a_X11_richestLender_77 (⟨rfl, rfl⟩)
    · intro l l0 l1 ih
      have hA := hA0
      have hb := ri_bd (A := A) (n := l - 1) (by omega)
      rw [show l + 1 - 1 = (l - 1) + 1 by omega, itr_s _ (by omega)] at ih
      generalize itr (riS A) (l - 1) 0 = b at hb ih ⊢
      have hcb := c64_bd (A (73 + l)) (A (73 + b))
      unfold riS at ih
      rw [show l - 1 + 1 = l by omega] at ih
      by_cases q : c64 (A (73 + l)) (A (73 + b)) ≤ 0
      · rw [if_pos q] at ih
        refine V_ildn2 a_X11_richestLender_30 ?_
        refine V_i2l a_X11_richestLender_31 (by omega) ?_
        refine V_aldn0 a_X11_richestLender_32 ?_
        refine V_fin a_X11_richestLender_33 f_X11_7 rfl hW ?_
        refine V_iconst a_X11_richestLender_36 ?_
        refine V_w a_X11_richestLender_37 (by omega) hA ?_
        refine V_lc_ge_f a_X11_richestLender_38 a_X11_richestLender_39 (by omega) (by omega) ?_
        refine V_aldn0 a_X11_richestLender_42 ?_
        refine V_fin a_X11_richestLender_43 f_X11_7 rfl hW ?_
        refine V_bipush a_X11_richestLender_46 (by decide) ?_
        refine V_ildn2 a_X11_richestLender_48 ?_
        refine V_iadd a_X11_richestLender_49 ?_
        refine V_w a_X11_richestLender_50 (by omega) hA ?_
        refine V_aldn0 a_X11_richestLender_51 ?_
        refine V_fin a_X11_richestLender_52 f_X11_7 rfl hW ?_
        refine V_bipush a_X11_richestLender_55 (by decide) ?_
        refine V_ildn1 a_X11_richestLender_57 ?_
        refine V_iadd a_X11_richestLender_58 ?_
        refine V_w a_X11_richestLender_59 (by omega) hA ?_
        refine V_lcmpG a_X11_richestLender_60 ?_
        refine V_if_le_t a_X11_richestLender_61 (by omega) (by omega) ?_
        refine V_ildn1 a_X11_richestLender_68 ?_
        refine V_istn1 a_X11_richestLender_69 ?_
        refine V_inc2 a_X11_richestLender_70 ?_
        refine V_goto a_X11_richestLender_73 ?_
        exact ih
      · rw [if_neg q] at ih
        refine V_ildn2 a_X11_richestLender_30 ?_
        refine V_i2l a_X11_richestLender_31 (by omega) ?_
        refine V_aldn0 a_X11_richestLender_32 ?_
        refine V_fin a_X11_richestLender_33 f_X11_7 rfl hW ?_
        refine V_iconst a_X11_richestLender_36 ?_
        refine V_w a_X11_richestLender_37 (by omega) hA ?_
        refine V_lc_ge_f a_X11_richestLender_38 a_X11_richestLender_39 (by omega) (by omega) ?_
        refine V_aldn0 a_X11_richestLender_42 ?_
        refine V_fin a_X11_richestLender_43 f_X11_7 rfl hW ?_
        refine V_bipush a_X11_richestLender_46 (by decide) ?_
        refine V_ildn2 a_X11_richestLender_48 ?_
        refine V_iadd a_X11_richestLender_49 ?_
        refine V_w a_X11_richestLender_50 (by omega) hA ?_
        refine V_aldn0 a_X11_richestLender_51 ?_
        refine V_fin a_X11_richestLender_52 f_X11_7 rfl hW ?_
        refine V_bipush a_X11_richestLender_55 (by decide) ?_
        refine V_ildn1 a_X11_richestLender_57 ?_
        refine V_iadd a_X11_richestLender_58 ?_
        refine V_w a_X11_richestLender_59 (by omega) hA ?_
        refine V_lcmpG a_X11_richestLender_60 ?_
        refine V_if_le_f a_X11_richestLender_61 (by omega) (by omega) ?_
        refine V_ildn2 a_X11_richestLender_64 ?_
        refine V_goto a_X11_richestLender_65 ?_
        refine V_istn1 a_X11_richestLender_69 ?_
        refine V_inc2 a_X11_richestLender_70 ?_
        refine V_goto a_X11_richestLender_73 ?_
        exact ih
  · show V _ 1 0 0 0 [some (vR (some (11, 0))), none, none] [] σ _
    refine V_aldn0 a_X11_richestLender_0 ?_
    refine V_aldn0 a_X11_richestLender_1 ?_
    refine V_fin a_X11_richestLender_2 f_X11_7 rfl hW ?_
    refine V_iconst a_X11_richestLender_5 ?_
    refine V_w a_X11_richestLender_6 (by omega) hA ?_
    refine V_lconst0 a_X11_richestLender_7 ?_
    refine V_lc_ne_f a_X11_richestLender_8 a_X11_richestLender_9 (by omega) (by omega) ?_
    refine V_iconst a_X11_richestLender_12 ?_
    refine V_goto a_X11_richestLender_13 ?_
    refine V_iconst a_X11_richestLender_17 ?_
    refine V_v2R a_X11_richestLender_18 c_X11_72 R_fails1 ?_
    refine V_if_eq_f a_X11_richestLender_21 (by omega) (by omega) ?_
    refine V_iconst a_X11_richestLender_24 ?_
    exact V_iret a_X11_richestLender_25 (⟨rfl, rfl⟩)
theorem R_total {w : Int} (h : Md D σ A) (hw : iR w) : ((0 ≤ w ∧ w ≤ 5) → Rt m_X11_total 1 0 0 [vR (some (11, 0)), vI w] σ (some (vL (totV A w))) (σ.th 0)) ∧ (¬ (0 ≤ w ∧ w ≤ 5) → Rt m_X11_total 1 0 0 [vR (some (11, 0)), vI w] σ (some (vL 0)) (σ.th 1)) := by
  have hI := h.2.2.2
  have hn := hI.n
  obtain ⟨b1, hb1, r1⟩ := B_in (σ := σ) (v := w) (x := 0) (y := 5) (by omega) (by omega) (by omega)
  have hm : Md D (σ.th 0) A := h
  obtain ⟨-, hW, hA, -⟩ := id hm
  refine ⟨fun e => ?_, fun e => ?_⟩
  · show V _ 1 0 0 0 [some (vR (some (11, 0))), some (vI w), none, none, none, none] [] σ _
    unfold totV
    by_cases q0 : w < 3
    · rw [if_pos q0]
      refine V_aldn0 a_X11_total_0 ?_
      refine V_ildn1 a_X11_total_1 ?_
      refine V_i2l a_X11_total_2 (by omega) ?_
      refine V_lconst0 a_X11_total_3 ?_
      refine V_ldc2 a_X11_total_4 q_X11_428 ?_
      refine V_s3R a_X11_total_7 c_X11_61 r1 ?_
      refine V_if_ne_t a_X11_total_10 (by omega) (by omega) ?_
      refine V_iconst a_X11_total_17 ?_
      refine V_iconst a_X11_total_18 ?_
      refine V_v2R a_X11_total_19 c_X11_72 R_fails0 ?_
      refine V_if_eq_t a_X11_total_22 (by omega) (by omega) ?_
      refine V_ildn1 a_X11_total_27 ?_
      refine V_iconst a_X11_total_28 ?_
      refine V_icmp_ge_f a_X11_total_29 (by omega) (by omega) ?_
      refine V_aldn0 a_X11_total_32 ?_
      refine V_fin a_X11_total_33 f_X11_7 rfl hW ?_
      refine V_bipush a_X11_total_36 (by decide) ?_
      refine V_ildn1 a_X11_total_38 ?_
      refine V_iadd a_X11_total_39 ?_
      refine V_w a_X11_total_40 (by omega) hA ?_
      exact V_lret a_X11_total_41 (⟨rfl, rfl⟩)
    · rw [if_neg q0]
      refine V_aldn0 a_X11_total_0 ?_
      refine V_ildn1 a_X11_total_1 ?_
      refine V_i2l a_X11_total_2 (by omega) ?_
      refine V_lconst0 a_X11_total_3 ?_
      refine V_ldc2 a_X11_total_4 q_X11_428 ?_
      refine V_s3R a_X11_total_7 c_X11_61 r1 ?_
      refine V_if_ne_t a_X11_total_10 (by omega) (by omega) ?_
      refine V_iconst a_X11_total_17 ?_
      refine V_iconst a_X11_total_18 ?_
      refine V_v2R a_X11_total_19 c_X11_72 R_fails0 ?_
      refine V_if_eq_t a_X11_total_22 (by omega) (by omega) ?_
      refine V_ildn1 a_X11_total_27 ?_
      refine V_iconst a_X11_total_28 ?_
      refine V_icmp_ge_t a_X11_total_29 (by omega) (by omega) ?_
      refine V_lconst0 a_X11_total_42 ?_
      refine V_lstn2 a_X11_total_43 ?_
      refine V_iconst a_X11_total_44 ?_
      refine V_ist4 a_X11_total_45 ?_
      skip
      by_cases q3 : w = 3
      · rw [if_pos q3]
        have fin : V m_X11_total 1 0 0 87 [some (vR (some (11, 0))), some (vI w), some (vL 0), none, some (vI 0), none] [] (σ.th 0) (fun r τ => r = .inl (some (vL (sm (fun k => rcqA A k) (A 7)))) ∧ τ = σ.th 0) := by
          refine loopI (P := fun k => ∀ x5 : Option AV, V m_X11_total 1 0 0 87 [some (vR (some (11, 0))), some (vI w), some (vL (sm (fun k => rcqA A k) k)), none, some (vI k), x5] [] (σ.th 0) _) (N := A 7) (by omega) ?_ ?_ none
          · intro x5
            refine V_ild4 a_X11_total_87 ?_
            refine V_i2l a_X11_total_89 (by omega) ?_
            refine V_aldn0 a_X11_total_90 ?_
            refine V_fin a_X11_total_91 f_X11_7 rfl hW ?_
            refine V_bipush a_X11_total_94 (by decide) ?_
            refine V_w a_X11_total_96 (by omega) hA ?_
            refine V_lc_ge_t a_X11_total_97 a_X11_total_98 (by omega) (by omega) ?_
            refine V_lldn2 a_X11_total_161 ?_
            exact V_lret a_X11_total_162 (⟨rfl, rfl⟩)
          · intro k k0 k1 ih x5
            rw [sm_s _ k0] at ih
            refine V_ild4 a_X11_total_87 ?_
            refine V_i2l a_X11_total_89 (by omega) ?_
            refine V_aldn0 a_X11_total_90 ?_
            refine V_fin a_X11_total_91 f_X11_7 rfl hW ?_
            refine V_bipush a_X11_total_94 (by decide) ?_
            refine V_w a_X11_total_96 (by omega) hA ?_
            refine V_lc_ge_f a_X11_total_97 a_X11_total_98 (by omega) (by omega) ?_
            refine V_ildn1 a_X11_total_101 ?_
            refine V_iconst a_X11_total_102 ?_
            refine V_icmp_ge_f a_X11_total_103 (by omega) (by omega) ?_
            refine V_ild4 a_X11_total_106 ?_
            refine V_s1R a_X11_total_108 c_X11_197 R_loanAt ?_
            refine V_ist5 a_X11_total_111 ?_
            refine V_lldn2 a_X11_total_113 ?_
            refine V_ildn1 a_X11_total_114 ?_
            refine V_iconst a_X11_total_115 ?_
            refine V_icmp_ne_f a_X11_total_116 (by omega) (by omega) ?_
            refine V_aldn0 a_X11_total_119 ?_
            refine V_ild5 a_X11_total_120 ?_
            refine V_v1R a_X11_total_122 c_X11_399 (R_recalledAt hm (by omega)) ?_
            refine V_goto a_X11_total_125 ?_
            refine V_ladd a_X11_total_153 ?_
            refine V_lstn2 a_X11_total_154 ?_
            refine V_inc4 a_X11_total_155 ?_
            refine V_goto a_X11_total_158 ?_
            exact ih _
        refine V_ild4 a_X11_total_47 ?_
        refine V_i2l a_X11_total_49 (by omega) ?_
        refine V_aldn0 a_X11_total_50 ?_
        refine V_fin a_X11_total_51 f_X11_7 rfl hW ?_
        refine V_iconst a_X11_total_54 ?_
        refine V_w a_X11_total_55 (by omega) hA ?_
        refine V_lc_ge a_X11_total_56 a_X11_total_57 (by omega) (fun hc56 => ?_) (fun hc56 => ?_)
        · refine V_iconst a_X11_total_84 ?_
          refine V_ist4 a_X11_total_85 ?_
          exact fin
        · refine V_ildn1 a_X11_total_60 ?_
          refine V_iconst a_X11_total_61 ?_
          refine V_icmp_ne_t a_X11_total_62 (by omega) (by omega) ?_
          refine V_iconst a_X11_total_84 ?_
          refine V_ist4 a_X11_total_85 ?_
          exact fin
      · rw [if_neg q3]
        by_cases q4 : w = 4
        · rw [if_pos q4]
          have fin : V m_X11_total 1 0 0 87 [some (vR (some (11, 0))), some (vI w), some (vL 0), none, some (vI 0), none] [] (σ.th 0) (fun r τ => r = .inl (some (vL (sm (fun k => quanA A k * A (15 + A (83 + 23 * k + 2))) (A 7)))) ∧ τ = σ.th 0) := by
            refine loopI (P := fun k => ∀ x5 : Option AV, V m_X11_total 1 0 0 87 [some (vR (some (11, 0))), some (vI w), some (vL (sm (fun k => quanA A k * A (15 + A (83 + 23 * k + 2))) k)), none, some (vI k), x5] [] (σ.th 0) _) (N := A 7) (by omega) ?_ ?_ none
            · intro x5
              refine V_ild4 a_X11_total_87 ?_
              refine V_i2l a_X11_total_89 (by omega) ?_
              refine V_aldn0 a_X11_total_90 ?_
              refine V_fin a_X11_total_91 f_X11_7 rfl hW ?_
              refine V_bipush a_X11_total_94 (by decide) ?_
              refine V_w a_X11_total_96 (by omega) hA ?_
              refine V_lc_ge_t a_X11_total_97 a_X11_total_98 (by omega) (by omega) ?_
              refine V_lldn2 a_X11_total_161 ?_
              exact V_lret a_X11_total_162 (⟨rfl, rfl⟩)
            · intro k k0 k1 ih x5
              rw [sm_s _ k0] at ih
              obtain ⟨-, -, z2, -⟩ := hI.loan k0 k1
              refine V_ild4 a_X11_total_87 ?_
              refine V_i2l a_X11_total_89 (by omega) ?_
              refine V_aldn0 a_X11_total_90 ?_
              refine V_fin a_X11_total_91 f_X11_7 rfl hW ?_
              refine V_bipush a_X11_total_94 (by decide) ?_
              refine V_w a_X11_total_96 (by omega) hA ?_
              refine V_lc_ge_f a_X11_total_97 a_X11_total_98 (by omega) (by omega) ?_
              refine V_ildn1 a_X11_total_101 ?_
              refine V_iconst a_X11_total_102 ?_
              refine V_icmp_ge_f a_X11_total_103 (by omega) (by omega) ?_
              refine V_ild4 a_X11_total_106 ?_
              refine V_s1R a_X11_total_108 c_X11_197 R_loanAt ?_
              refine V_ist5 a_X11_total_111 ?_
              refine V_lldn2 a_X11_total_113 ?_
              refine V_ildn1 a_X11_total_114 ?_
              refine V_iconst a_X11_total_115 ?_
              refine V_icmp_ne_t a_X11_total_116 (by omega) (by omega) ?_
              refine V_aldn0 a_X11_total_128 ?_
              refine V_ild5 a_X11_total_129 ?_
              refine V_v1R a_X11_total_131 c_X11_216 (R_quantityAt hm (by omega)) ?_
              refine V_aldn0 a_X11_total_134 ?_
              refine V_fin a_X11_total_135 f_X11_7 rfl hW ?_
              refine V_bipush a_X11_total_138 (by decide) ?_
              refine V_aldn0 a_X11_total_140 ?_
              refine V_fin a_X11_total_141 f_X11_7 rfl hW ?_
              refine V_ild5 a_X11_total_144 ?_
              refine V_iconst a_X11_total_146 ?_
              refine V_iadd a_X11_total_147 ?_
              refine V_w a_X11_total_148 (by omega) hA ?_
              refine V_l2i a_X11_total_149 ?_
              refine V_iadd a_X11_total_150 ?_
              refine V_w a_X11_total_151 (by omega) hA ?_
              refine V_lmul a_X11_total_152 ?_
              refine V_ladd a_X11_total_153 ?_
              refine V_lstn2 a_X11_total_154 ?_
              refine V_inc4 a_X11_total_155 ?_
              refine V_goto a_X11_total_158 ?_
              exact ih _
          refine V_ild4 a_X11_total_47 ?_
          refine V_i2l a_X11_total_49 (by omega) ?_
          refine V_aldn0 a_X11_total_50 ?_
          refine V_fin a_X11_total_51 f_X11_7 rfl hW ?_
          refine V_iconst a_X11_total_54 ?_
          refine V_w a_X11_total_55 (by omega) hA ?_
          refine V_lc_ge a_X11_total_56 a_X11_total_57 (by omega) (fun hc56 => ?_) (fun hc56 => ?_)
          · refine V_iconst a_X11_total_84 ?_
            refine V_ist4 a_X11_total_85 ?_
            exact fin
          · refine V_ildn1 a_X11_total_60 ?_
            refine V_iconst a_X11_total_61 ?_
            refine V_icmp_ne_t a_X11_total_62 (by omega) (by omega) ?_
            refine V_iconst a_X11_total_84 ?_
            refine V_ist4 a_X11_total_85 ?_
            exact fin
        · rw [if_neg q4]
          have w5 : w = 5 := by omega
          subst w5
          refine loopI (P := fun l => V m_X11_total 1 0 0 47 [some (vR (some (11, 0))), some (vI 5), some (vL (sm (fun l => A (73 + l)) l)), none, some (vI l), none] [] (σ.th 0) _) (N := A 1) (by omega) ?_ ?_
          · by_cases q7 : A 7 = 0
            · refine V_ild4 a_X11_total_47 ?_
              refine V_i2l a_X11_total_49 (by omega) ?_
              refine V_aldn0 a_X11_total_50 ?_
              refine V_fin a_X11_total_51 f_X11_7 rfl hW ?_
              refine V_iconst a_X11_total_54 ?_
              refine V_w a_X11_total_55 (by omega) hA ?_
              refine V_lc_ge_t a_X11_total_56 a_X11_total_57 (by omega) (by omega) ?_
              refine V_iconst a_X11_total_84 ?_
              refine V_ist4 a_X11_total_85 ?_
              refine V_ild4 a_X11_total_87 ?_
              refine V_i2l a_X11_total_89 (by omega) ?_
              refine V_aldn0 a_X11_total_90 ?_
              refine V_fin a_X11_total_91 f_X11_7 rfl hW ?_
              refine V_bipush a_X11_total_94 (by decide) ?_
              refine V_w a_X11_total_96 (by omega) hA ?_
              refine V_lc_ge_t a_X11_total_97 a_X11_total_98 (by omega) (by omega) ?_
              refine V_lldn2 a_X11_total_161 ?_
              exact V_lret a_X11_total_162 (⟨rfl, rfl⟩)
            · refine V_ild4 a_X11_total_47 ?_
              refine V_i2l a_X11_total_49 (by omega) ?_
              refine V_aldn0 a_X11_total_50 ?_
              refine V_fin a_X11_total_51 f_X11_7 rfl hW ?_
              refine V_iconst a_X11_total_54 ?_
              refine V_w a_X11_total_55 (by omega) hA ?_
              refine V_lc_ge_t a_X11_total_56 a_X11_total_57 (by omega) (by omega) ?_
              refine V_iconst a_X11_total_84 ?_
              refine V_ist4 a_X11_total_85 ?_
              refine V_ild4 a_X11_total_87 ?_
              refine V_i2l a_X11_total_89 (by omega) ?_
              refine V_aldn0 a_X11_total_90 ?_
              refine V_fin a_X11_total_91 f_X11_7 rfl hW ?_
              refine V_bipush a_X11_total_94 (by decide) ?_
              refine V_w a_X11_total_96 (by omega) hA ?_
              refine V_lc_ge_f a_X11_total_97 a_X11_total_98 (by omega) (by omega) ?_
              refine V_ildn1 a_X11_total_101 ?_
              refine V_iconst a_X11_total_102 ?_
              refine V_icmp_ge_t a_X11_total_103 (by omega) (by omega) ?_
              refine V_lldn2 a_X11_total_161 ?_
              exact V_lret a_X11_total_162 (⟨rfl, rfl⟩)
          · intro l l0 l1 ih
            rw [sm_s _ l0] at ih
            refine V_ild4 a_X11_total_47 ?_
            refine V_i2l a_X11_total_49 (by omega) ?_
            refine V_aldn0 a_X11_total_50 ?_
            refine V_fin a_X11_total_51 f_X11_7 rfl hW ?_
            refine V_iconst a_X11_total_54 ?_
            refine V_w a_X11_total_55 (by omega) hA ?_
            refine V_lc_ge_f a_X11_total_56 a_X11_total_57 (by omega) (by omega) ?_
            refine V_ildn1 a_X11_total_60 ?_
            refine V_iconst a_X11_total_61 ?_
            refine V_icmp_ne_f a_X11_total_62 (by omega) (by omega) ?_
            refine V_lldn2 a_X11_total_65 ?_
            refine V_aldn0 a_X11_total_66 ?_
            refine V_fin a_X11_total_67 f_X11_7 rfl hW ?_
            refine V_bipush a_X11_total_70 (by decide) ?_
            refine V_ild4 a_X11_total_72 ?_
            refine V_iadd a_X11_total_74 ?_
            refine V_w a_X11_total_75 (by omega) hA ?_
            refine V_ladd a_X11_total_76 ?_
            refine V_lstn2 a_X11_total_77 ?_
            refine V_inc4 a_X11_total_78 ?_
            refine V_goto a_X11_total_81 ?_
            exact ih
  · show V _ 1 0 0 0 [some (vR (some (11, 0))), some (vI w), none, none, none, none] [] σ _
    refine V_aldn0 a_X11_total_0 ?_
    refine V_ildn1 a_X11_total_1 ?_
    refine V_i2l a_X11_total_2 (by omega) ?_
    refine V_lconst0 a_X11_total_3 ?_
    refine V_ldc2 a_X11_total_4 q_X11_428 ?_
    refine V_s3R a_X11_total_7 c_X11_61 r1 ?_
    refine V_if_ne_f a_X11_total_10 (by omega) (by omega) ?_
    refine V_iconst a_X11_total_13 ?_
    refine V_goto a_X11_total_14 ?_
    refine V_iconst a_X11_total_18 ?_
    refine V_v2R a_X11_total_19 c_X11_72 R_fails1 ?_
    refine V_if_eq_f a_X11_total_22 (by omega) (by omega) ?_
    refine V_lconst0 a_X11_total_25 ?_
    exact V_lret a_X11_total_26 (⟨rfl, rfl⟩)
end Qe

