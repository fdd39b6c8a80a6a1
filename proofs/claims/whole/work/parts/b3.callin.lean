/-- what a recall from one loan may change -/
def cfS (i j : Nat) (t n : Nat) : Prop := slS j t n ∨ (t = 39 ∧ n = i) ∨ t = 0 ∨ (24 ≤ t ∧ t ≤ 29)
/-- one loan's slices and who was served last -/
theorem rel_sv {σ τ : Hp} {i : Nat} {A B : St} {k : Int} (hR : Rel σ i A) (hS : Shp σ i) (hn : (0 ≤ A 0 ∧ A 0 ≤ 4) ∧ (0 ≤ A 1 ∧ A 1 ≤ 6) ∧ (0 ≤ A 2 ∧ A 2 ≤ 4) ∧ A 7 ≤ 12) (hk : 0 ≤ k ∧ k < A 7) (f : FX (cfS i (lid σ i k)) σ τ) (h39 : ∀ s, 0 ≤ s → s < A 0 → τ.I 39 i s = B (23 + s)) (hs : SlA τ (lid σ i k) B k) (ho : ∀ j, ¬ (83 + 23 * k + 5 ≤ j ∧ j < 83 + 23 * k + 23) → ¬ (23 ≤ j ∧ j < 27) → B j = A j) : Rel τ i B ∧ Shp τ i := by
  have el : ∀ x, lid τ i x = lid σ i x := fun x => by
    unfold lid
    rw [f.2.1]
  have eI : ∀ t, 36 ≤ t → t ≤ 44 → t ≠ 39 → τ.I t i = σ.I t i := fun t t0 t1 t2 => f.I (by intro z; unfold cfS slS at z; omega)
  have eJ : ∀ t, 36 ≤ t → τ.J t i = σ.J t i ∨ t = 39 := fun t t0 => by
    by_cases z : t = 39
    · exact Or.inr z
    · exact Or.inl (f.J (by intro z; unfold cfS slS at z; omega))
  have rt : RelT τ i B := by
    obtain ⟨r1, r2, r3, r4, r5, r6, r7, r8⟩ := hR.top
    unfold RelT
    have e45 : τ.J 45 i = σ.J 45 i := f.J (by intro z; unfold cfS slS at z; omega)
    have e46 : τ.J 46 i = σ.J 46 i := f.J (by intro z; unfold cfS slS at z; omega)
    rw [eI 36 (by decide) (by decide) (by decide), eI 37 (by decide) (by decide) (by decide), eI 38 (by decide) (by decide) (by decide), eI 40 (by decide) (by decide) (by decide), eI 41 (by decide) (by decide) (by decide), eI 42 (by decide) (by decide) (by decide), eI 43 (by decide) (by decide) (by decide), eI 44 (by decide) (by decide) (by decide), e45, e46]
    have hB : ∀ j, 0 ≤ j → j < 83 → ¬ (23 ≤ j ∧ j < 27) → B j = A j := fun j j0 j1 j2 => ho j (by omega) j2
    rw [hB 0 (by decide) (by decide) (by decide), hB 1 (by decide) (by decide) (by decide), hB 2 (by decide) (by decide) (by decide), hB 3 (by decide) (by decide) (by decide), hB 4 (by decide) (by decide) (by decide), hB 5 (by decide) (by decide) (by decide), hB 6 (by decide) (by decide) (by decide), hB 7 (by decide) (by decide) (by decide), hB 8 (by decide) (by decide) (by decide), hB 9 (by decide) (by decide) (by decide), hB 10 (by decide) (by decide) (by decide), hB 11 (by decide) (by decide) (by decide), hB 12 (by decide) (by decide) (by decide), hB 13 (by decide) (by decide) (by decide), hB 14 (by decide) (by decide) (by decide)]
    exact ⟨r1, fun s s0 s1 => by
      rw [hB _ (by omega) (by omega) (by omega), hB _ (by omega) (by omega) (by omega)]
      exact r2 s s0 s1, h39, fun l l0 l1 => by
      rw [hB _ (by omega) (by omega) (by omega), hB _ (by omega) (by omega) (by omega), hB _ (by omega) (by omega) (by omega)]
      exact r4 l l0 l1, fun b b0 b1 => by
      rw [hB _ (by omega) (by omega) (by omega)]
      exact r5 b b0 b1, fun l s l0 l1 s0 s1 => by
      rw [hB _ (by omega) (by omega) (by omega)]
      exact r6 l s l0 l1 s0 s1, ⟨fun l l0 l1 => by
      rw [hB _ (by omega) (by omega) (by omega)]
      exact r7.1 l l0 l1, fun b b0 b1 => by
      rw [hB _ (by omega) (by omega) (by omega)]
      exact r7.2.1 b b0 b1, r7.2.2⟩, r8⟩
  refine ⟨rt.full (fun x x0 x1 => ?_), ?_⟩
  · rw [ho 7 (by omega) (by omega)] at x1
    rw [el]
    by_cases e : x = k
    · rw [e]
      obtain ⟨g0, g1, g2, g3, g4, gs⟩ := hR.lns k hk.1 hk.2
      have e3 : τ.I 3 (lid σ i k) = σ.I 3 (lid σ i k) := f.I (by intro z; unfold cfS slS at z; omega)
      unfold LnA
      rw [e3, ho _ (by omega) (by omega), ho _ (by omega) (by omega), ho _ (by omega) (by omega), ho _ (by omega) (by omega), ho _ (by omega) (by omega)]
      exact ⟨g0, g1, g2, g3, g4, hs⟩
    · have hne : lid σ i x ≠ lid σ i k := fun w => e (hS.2 x k x0 (by omega) hk.1 (by omega) w)
      exact (hR.lns x x0 x1).congr (fun t ht => f.I (by intro z; unfold cfS slS at z; omega)) (fun c c0 c1 => ho _ (by omega) (by omega))
  · unfold Shp lid at hS ⊢
    rw [f.2.1]
    exact hS
section Cf
variable {D : Int} {σ : Hp} {A : St} {i : Nat}
theorem R_callInFrom {k l s w : Int} (h : Cl D σ i A) (hk : 0 ≤ k ∧ k < A 7) (hl : 0 ≤ l ∧ l < A 1) (hks : A (83 + 23 * k + 2) = s) (hw : 0 ≤ w ∧ w ≤ A (83 + 23 * k + 5 + l) - A (83 + 23 * k + 11 + l)) : Cv m_X1_callInFrom 3 0 0 [vR (some (1, 0)), vR (some (6, i)), vR (some (3, lid σ i k)), vI l, vI w] σ (some (vI (min w (freeB A l s)))) (fun τ => FX (cfS i (lid σ i k)) σ τ ∧ Cl D τ i (if 0 < w then rcfA A k l s w else A)) := by
  have h' := h
  obtain ⟨hD, hW0, hR, hS, hI⟩ := h
  have hn := hI.n
  have hli := hI.loan hk.1 hk.2
  have hs4 : 0 ≤ s ∧ s < 4 := by
    have := hli.2.2.1
    omega
  have hs0 : s < A 0 := by
    have := hli.2.2.1
    omega
  have hfb := freeB_bd hI (but := l) hs4.1 hs4.2
  have hsl := hli.sl hl.1 (show l < 6 by omega)
  have hdu : -1 ≤ A (83 + 23 * k + 17 + l) ∧ A (83 + 23 * k + 17 + l) ≤ 30000000 := ((hli.Sl hD (by omega) (by omega) (by omega)).2.2 l hl.1 (by omega)).2
  have hLn := hR.lns k hk.1 hk.2
  have hlid := hS.1 k hk.1 (by omega)
  have hinv : Inv D (if 0 < w then rcfA A k l s w else A) := by
    split
    · exact (rcf_inv hI hk hl hs4 hks (by omega)).2
    · exact hI
  have r1 := R_measure (s := s) (ex := l) h' hs4 hs0 (by omega)
  generalize hrep : min w (freeB A l s) = rep
  have rb0 : ∀ j, ¬ (83 + 23 * k + 5 ≤ j ∧ j < 83 + 23 * k + 5 + A 1) → ¬ (23 ≤ j ∧ j < 27) → rcfB A k l s rep j = A j := fun j j1 j2 => rb_out hs4 j1 j2
  have p68 : ∀ τ : Hp, FX (cfS i (lid σ i k)) σ τ → Rel τ i (rcfB A k l s rep) → Shp τ i → V m_X1_callInFrom 3 0 0 68 [some (vR (some (1, 0))), some (vR (some (6, i))), some (vR (some (3, lid σ i k))), some (vI l), some (vI w), some (vI rep)] [] τ (fun r τ => r = .inl (some (vI rep)) ∧ FX (cfS i (lid σ i k)) σ τ ∧ Cl D τ i (if 0 < w then rcfA A k l s w else A)) := by
    intro τ f rl sp
    have hW := f.wf hW0
    have elk : lid τ i k = lid σ i k := by
      unfold lid
      rw [f.2.1]
    by_cases c : w = rep
    · have e : (if 0 < w then rcfA A k l s w else A) = rcfB A k l s rep := by
        by_cases z : 0 < w
        · rw [if_pos z]
          unfold rcfA
          rw [hrep, if_pos c]
        · rw [if_neg z]
          unfold rcfB
          rw [if_neg (by omega)]
      rw [e] at hinv ⊢
      refine V_ild5 a_X1_callInFrom_68 ?_
      refine V_ild4 a_X1_callInFrom_70 ?_
      refine V_icmp_ge_t a_X1_callInFrom_72 (by omega) (by omega) ?_
      refine V_ild5 a_X1_callInFrom_119 ?_
      exact V_iret a_X1_callInFrom_121 (⟨rfl, f, hD, hW, rl, sp, hinv⟩)
    · have e : (if 0 < w then rcfA A k l s w else A) = rcfC (rcfB A k l s rep) k l (w - rep) := by
        rw [if_pos (by omega)]
        unfold rcfA
        rw [hrep, if_neg c]
      rw [e] at hinv ⊢
      have b11 : rcfB A k l s rep (83 + 23 * k + 11 + l) = A (83 + 23 * k + 11 + l) := rb0 _ (by omega) (by omega)
      have b17 : rcfB A k l s rep (83 + 23 * k + 17 + l) = A (83 + 23 * k + 17 + l) := rb0 _ (by omega) (by omega)
      have b7 : rcfB A k l s rep 7 = A 7 := rb0 _ (by omega) (by omega)
      have lnT := rl.lns k hk.1 (by rw [b7]; exact hk.2)
      rw [elk] at lnT
      have slT := lnT.2.2.2.2.2
      have g31 : τ.I 31 (lid σ i k) l = A (83 + 23 * k + 11 + l) := ((slT l hl.1 (by omega)).2.1).trans b11
      have g32 : (τ.setI 31 (lid σ i k) l (A (83 + 23 * k + 11 + l) + (w - rep))).I 32 (lid σ i k) l = A (83 + 23 * k + 17 + l) := by
        rw [setI_t (by decide)]
        exact ((slT l hl.1 (by omega)).2.2).trans b17
      have hnB : (0 ≤ rcfB A k l s rep 0 ∧ rcfB A k l s rep 0 ≤ 4) ∧ (0 ≤ rcfB A k l s rep 1 ∧ rcfB A k l s rep 1 ≤ 6) ∧ (0 ≤ rcfB A k l s rep 2 ∧ rcfB A k l s rep 2 ≤ 4) ∧ rcfB A k l s rep 7 ≤ 12 := by
        rw [rb0 0 (by omega) (by omega), rb0 1 (by omega) (by omega), rb0 2 (by omega) (by omega), b7]
        omega
      unfold rcfC at hinv ⊢
      rw [b17, b11] at hinv ⊢
      by_cases c2 : A (83 + 23 * k + 17 + l) = -1
      · rw [if_pos c2] at hinv ⊢
        have e6 : rcfB A k l s rep 6 = A 6 := rb0 _ (by omega) (by omega)
        have e3 : rcfB A k l s rep 3 = A 3 := rb0 _ (by omega) (by omega)
        rw [e6, e3] at hinv ⊢
        have n5 : (τ.setI 31 (lid σ i k) l (A (83 + 23 * k + 11 + l) + (w - rep))).I 36 i 5 = A 6 := by
          rw [setI_t (by decide)]
          exact (rl.1.2.2.2.2.2.1).trans e6
        have n7 : (τ.setI 31 (lid σ i k) l (A (83 + 23 * k + 11 + l) + (w - rep))).I 36 i 7 = A 3 := by
          rw [setI_t (by decide)]
          exact (rl.1.2.2.2.2.2.2.2.1).trans e3
        have f2 : FX (slS (lid σ i k)) τ ((τ.setI 31 (lid σ i k) l (A (83 + 23 * k + 11 + l) + (w - rep))).setI 32 (lid σ i k) l (A 6 + A 3)) := (FX.setI ⟨Or.inr (Or.inl rfl), rfl⟩).trans (FX.setI ⟨Or.inr (Or.inr rfl), rfl⟩)
        have sl2 : SlA ((τ.setI 31 (lid σ i k) l (A (83 + 23 * k + 11 + l) + (w - rep))).setI 32 (lid σ i k) l (A 6 + A 3)) (lid τ i k) (upI (upI (rcfB A k l s rep) (83 + 23 * k + 11 + l) (A (83 + 23 * k + 11 + l) + (w - rep))) (83 + 23 * k + 17 + l) (A 6 + A 3)) k := fun m m0 m1 => by
          have z := slT m m0 m1
          rw [elk]
          refine ⟨?_, ?_, ?_⟩
          · show _ = upI _ _ _ (83 + 23 * k + 5 + m)
            rw [setI_t (by decide), setI_t (by decide), upI_ne (by omega), upI_ne (by omega)]
            exact z.1
          · show _ = upI _ _ _ (83 + 23 * k + 11 + m)
            rw [setI_t (by decide), upI_ne (by omega)]
            by_cases y : m = l
            · rw [y, setI_I, upI_eq]
            · rw [setI_ne y, upI_ne (by omega)]
              exact z.2.1
          · show _ = upI _ _ _ (83 + 23 * k + 17 + m)
            by_cases y : m = l
            · rw [y, setI_I, upI_eq]
            · rw [setI_ne y, setI_t (by decide), upI_ne (by omega), upI_ne (by omega)]
              exact z.2.2
        obtain ⟨rl2, sp2⟩ := rel_sl rl sp hnB (by rw [b7]; exact hk) (by rw [elk]; exact f2) sl2 (fun j hj => by rw [upI_ne (by omega), upI_ne (by omega)])
        have ff := f.trans (f2.sub (fun t n z => Or.inl z))
        have hW2 := ff.wf hW0
        refine V_ild5 a_X1_callInFrom_68 ?_
        refine V_ild4 a_X1_callInFrom_70 ?_
        refine V_icmp_ge_f a_X1_callInFrom_72 (by omega) (by omega) ?_
        refine V_aldn2 a_X1_callInFrom_75 ?_
        refine V_fin a_X1_callInFrom_76 f_X1_130 rfl hW ?_
        refine V_ildn3 a_X1_callInFrom_79 ?_
        first | refine V_dup2IR a_X1_callInFrom_80 ?_ | refine V_dup2L a_X1_callInFrom_80 ?_
        refine V_ialdE a_X1_callInFrom_81 rfl (by omega) g31 ?_
        refine V_ild4 a_X1_callInFrom_82 ?_
        refine V_ild5 a_X1_callInFrom_84 ?_
        refine V_isub a_X1_callInFrom_86 ?_
        refine V_iadd a_X1_callInFrom_87 ?_
        refine V_iast a_X1_callInFrom_88 rfl (by omega) ?_
        refine V_aldn2 a_X1_callInFrom_89 ?_
        refine V_fin a_X1_callInFrom_90 f_X1_147 rfl hW ?_
        refine V_ildn3 a_X1_callInFrom_93 ?_
        refine V_ialdE a_X1_callInFrom_94 rfl (by omega) g32 ?_
        refine V_iconst a_X1_callInFrom_95 ?_
        refine V_icmp_ne_f a_X1_callInFrom_96 (by omega) (by omega) ?_
        refine V_aldn2 a_X1_callInFrom_99 ?_
        refine V_fin a_X1_callInFrom_100 f_X1_147 rfl hW ?_
        refine V_ildn3 a_X1_callInFrom_103 ?_
        refine V_aldn1 a_X1_callInFrom_104 ?_
        refine V_fin a_X1_callInFrom_105 f_X1_43 rfl hW ?_
        refine V_iconst a_X1_callInFrom_108 ?_
        refine V_ialdE a_X1_callInFrom_109 rfl (by omega) n5 ?_
        refine V_aldn1 a_X1_callInFrom_110 ?_
        refine V_fin a_X1_callInFrom_111 f_X1_43 rfl hW ?_
        refine V_bipush a_X1_callInFrom_114 (by decide) ?_
        refine V_ialdE a_X1_callInFrom_116 rfl (by omega) n7 ?_
        refine V_iadd a_X1_callInFrom_117 ?_
        refine V_iast a_X1_callInFrom_118 rfl (by omega) ?_
        refine V_ild5 a_X1_callInFrom_119 ?_
        exact V_iret a_X1_callInFrom_121 (⟨rfl, ff, hD, hW2, rl2, sp2, hinv⟩)
      · rw [if_neg c2] at hinv ⊢
        have f2 : FX (slS (lid σ i k)) τ (τ.setI 31 (lid σ i k) l (A (83 + 23 * k + 11 + l) + (w - rep))) := FX.setI ⟨Or.inr (Or.inl rfl), rfl⟩
        have sl2 : SlA (τ.setI 31 (lid σ i k) l (A (83 + 23 * k + 11 + l) + (w - rep))) (lid τ i k) (upI (rcfB A k l s rep) (83 + 23 * k + 11 + l) (A (83 + 23 * k + 11 + l) + (w - rep))) k := fun m m0 m1 => by
          have z := slT m m0 m1
          rw [elk]
          refine ⟨?_, ?_, ?_⟩
          · show _ = upI _ _ _ (83 + 23 * k + 5 + m)
            rw [setI_t (by decide), upI_ne (by omega)]
            exact z.1
          · show _ = upI _ _ _ (83 + 23 * k + 11 + m)
            by_cases y : m = l
            · rw [y, setI_I, upI_eq]
            · rw [setI_ne y, upI_ne (by omega)]
              exact z.2.1
          · show _ = upI _ _ _ (83 + 23 * k + 17 + m)
            rw [setI_t (by decide), upI_ne (by omega)]
            exact z.2.2
        obtain ⟨rl2, sp2⟩ := rel_sl rl sp hnB (by rw [b7]; exact hk) (by rw [elk]; exact f2) sl2 (fun j hj => by rw [upI_ne (by omega)])
        have ff := f.trans (f2.sub (fun t n z => Or.inl z))
        have hW2 := ff.wf hW0
        refine V_ild5 a_X1_callInFrom_68 ?_
        refine V_ild4 a_X1_callInFrom_70 ?_
        refine V_icmp_ge_f a_X1_callInFrom_72 (by omega) (by omega) ?_
        refine V_aldn2 a_X1_callInFrom_75 ?_
        refine V_fin a_X1_callInFrom_76 f_X1_130 rfl hW ?_
        refine V_ildn3 a_X1_callInFrom_79 ?_
        first | refine V_dup2IR a_X1_callInFrom_80 ?_ | refine V_dup2L a_X1_callInFrom_80 ?_
        refine V_ialdE a_X1_callInFrom_81 rfl (by omega) g31 ?_
        refine V_ild4 a_X1_callInFrom_82 ?_
        refine V_ild5 a_X1_callInFrom_84 ?_
        refine V_isub a_X1_callInFrom_86 ?_
        refine V_iadd a_X1_callInFrom_87 ?_
        refine V_iast a_X1_callInFrom_88 rfl (by omega) ?_
        refine V_aldn2 a_X1_callInFrom_89 ?_
        refine V_fin a_X1_callInFrom_90 f_X1_147 rfl hW ?_
        refine V_ildn3 a_X1_callInFrom_93 ?_
        refine V_ialdE a_X1_callInFrom_94 rfl (by omega) g32 ?_
        refine V_iconst a_X1_callInFrom_95 ?_
        refine V_icmp_ne_t a_X1_callInFrom_96 (by omega) (by omega) ?_
        refine V_ild5 a_X1_callInFrom_119 ?_
        exact V_iret a_X1_callInFrom_121 (⟨rfl, ff, hD, hW2, rl2, sp2, hinv⟩)
  have g2 : σ.I 3 (lid σ i k) 2 = s := hLn.2.2.1.trans hks
  have hW := hW0
  show V _ 3 0 0 0 [some (vR (some (1, 0))), some (vR (some (6, i))), some (vR (some (3, lid σ i k))), some (vI l), some (vI w), none] [] σ _
  refine V_aldn0 a_X1_callInFrom_0 ?_
  refine V_fin a_X1_callInFrom_1 f_X1_12 rfl hW ?_
  refine V_aldn1 a_X1_callInFrom_4 ?_
  refine V_aldn2 a_X1_callInFrom_5 ?_
  refine V_getIE a_X1_callInFrom_6 f_X1_141 rfl g2 ?_
  refine V_ildn3 a_X1_callInFrom_9 ?_
  refine V_v3PV a_X1_callInFrom_10 c_X1_60 r1 (fun τ1 hτ1 => ?_)
  skip
  obtain ⟨f1, m1⟩ := hτ1
  have F1 : FX (cfS i (lid σ i k)) σ τ1 := f1.fx (fun t n z => by
    unfold cfS
    simp at z
    omega)
  have hc1 := h'.fm f1 (by decide)
  have m12 := m1.2.2.1
  have rm := R_imin (σ := τ1) (x := w) (y := freeB A l s) (by omega) (by omega)
  rw [hrep] at rm
  have hW := hc1.2.1
  rcases lt_ge 0 rep with hr | hr
  · have r2 := R_share (q := rep) hI hc1.2.1 hs4 ⟨hr, by omega⟩ m1
    have n6 : τ1.I 36 i 6 = A 5 := hc1.2.2.1.1.2.2.2.2.2.2.1
    refine V_ild4 a_X1_callInFrom_13 ?_
    refine V_aldn0 a_X1_callInFrom_15 ?_
    refine V_fin a_X1_callInFrom_16 f_X1_12 rfl hW ?_
    refine V_getIE a_X1_callInFrom_19 f_X1_144 rfl m12 ?_
    refine V_s2R a_X1_callInFrom_22 c_X1_97 rm ?_
    refine V_ist5 a_X1_callInFrom_25 ?_
    refine V_ild5 a_X1_callInFrom_27 ?_
    refine V_if_le_f a_X1_callInFrom_29 (by omega) (by omega) ?_
    refine V_aldn0 a_X1_callInFrom_32 ?_
    refine V_fin a_X1_callInFrom_33 f_X1_12 rfl hW ?_
    refine V_aldn1 a_X1_callInFrom_36 ?_
    refine V_fin a_X1_callInFrom_37 f_X1_43 rfl hW ?_
    refine V_bipush a_X1_callInFrom_40 (by decide) ?_
    refine V_ialdE a_X1_callInFrom_42 rfl (by omega) n6 ?_
    refine V_ild5 a_X1_callInFrom_43 ?_
    refine V_v2PV a_X1_callInFrom_45 c_X1_64 r2 (fun τ2 hτ2 => ?_)
    skip
    obtain ⟨f2, m2, gv2, l2⟩ := hτ2
    have F2 : FX (cfS i (lid σ i k)) τ1 τ2 := f2.fx (fun t n z => by
      unfold cfS
      simp at z
      omega)
    have F12 := F1.trans F2
    have hW := F12.wf hW0
    have e30 : ∀ m, 0 ≤ m → m < 6 → τ2.I 30 (lid σ i k) m = A (83 + 23 * k + 5 + m) ∧ τ2.I 31 (lid σ i k) m = A (83 + 23 * k + 11 + m) ∧ τ2.I 32 (lid σ i k) m = A (83 + 23 * k + 17 + m) := fun m m0 m1 => by
      rw [f2.I (by decide), f1.I (by decide), f2.I (by decide), f1.I (by decide), f2.I (by decide), f1.I (by decide)]
      exact hLn.2.2.2.2.2 m m0 m1
    have g30 := (e30 l hl.1 (by omega)).1
    have e32 : τ2.I 3 (lid σ i k) 2 = s := by
      rw [f2.I (by decide), f1.I (by decide)]
      exact g2
    have F3 : FX (cfS i (lid σ i k)) τ2 (τ2.setI 30 (lid σ i k) l (A (83 + 23 * k + 5 + l) - rep)) := FX.setI (Or.inl ⟨Or.inl rfl, rfl⟩)
    have hW3 := F3.wf hW
    have r4 := R_bookInto (σ := τ2.setI 30 (lid σ i k) l (A (83 + 23 * k + 5 + l) - rep)) (i := i) (j := lid σ i k) (n := A 1) (last := litA A s rep l) (s := s) (g := giveA A s rep l) (sh := upI (fun m => A (83 + 23 * k + 5 + m)) l (A (83 + 23 * k + 5 + l) - rep)) hW3 (by rw [setI_t (by decide)]; exact m2.1) (by omega) (by rw [setI_t (by decide)]; exact l2) (lit_bd hI hs4) (by rw [setI_t (by decide)]; exact e32) hs4 (fun m m0 m1 => by rw [setI_t (by decide)]; exact gv2 m m0 m1) (fun m m0 m1 => by
      by_cases y : m = l
      · rw [y, setI_I, upI_eq]
      · rw [setI_ne y, upI_ne y]
        exact (e30 m m0 m1).1)
    refine V_aldn2 a_X1_callInFrom_48 ?_
    refine V_fin a_X1_callInFrom_49 f_X1_127 rfl hW ?_
    refine V_ildn3 a_X1_callInFrom_52 ?_
    first | refine V_dup2IR a_X1_callInFrom_53 ?_ | refine V_dup2L a_X1_callInFrom_53 ?_
    refine V_ialdE a_X1_callInFrom_54 rfl (by omega) g30 ?_
    refine V_ild5 a_X1_callInFrom_55 ?_
    refine V_isub a_X1_callInFrom_57 ?_
    refine V_iast a_X1_callInFrom_58 rfl (by omega) ?_
    refine V_aldn0 a_X1_callInFrom_59 ?_
    refine V_fin a_X1_callInFrom_60 f_X1_12 rfl hW ?_
    refine V_aldn1 a_X1_callInFrom_63 ?_
    refine V_aldn2 a_X1_callInFrom_64 ?_
    refine V_v2PV a_X1_callInFrom_65 c_X1_72 r4 (fun τ4 hτ4 => ?_)
    skip
    obtain ⟨f4, s4, e4⟩ := hτ4
    have F4 : FX (cfS i (lid σ i k)) (τ2.setI 30 (lid σ i k) l (A (83 + 23 * k + 5 + l) - rep)) τ4 := f4.sub (fun t n z => by
      unfold bkS at z
      unfold cfS slS
      omega)
    have FF := F12.trans (F3.trans F4)
    have give := give_ok hI hs4 (q := rep) (but := l) ⟨hr, by omega⟩
    have h39 : ∀ s', 0 ≤ s' → s' < A 0 → τ4.I 39 i s' = rcfB A k l s rep (23 + s') := fun s' s0 s1 => by
      have eb : rcfB A k l s rep (23 + s') = allocA A s rep l (23 + s') := by
        unfold rcfB
        rw [if_pos hr, mixO_out (by omega)]
      have e39 : (τ2.setI 30 (lid σ i k) l (A (83 + 23 * k + 5 + l) - rep)).I 39 i = σ.I 39 i := by
        rw [setI_t (by decide), f2.I (by decide), f1.I (by decide)]
      rw [eb, e4, e39]
      by_cases z : s' = s
      · rw [z, ← lit_alloc hI hs4]
        by_cases y : litA A s rep l = -1
        · rw [if_pos y, if_pos y]
          exact hR.2.2.1 s hs4.1 hs0
        · rw [if_neg y, if_neg y, upI_eq]
      · have ea : allocA A s rep l (23 + s') = A (23 + s') := by
          unfold allocA
          split
          · rfl
          · split
            · rfl
            · exact upI_ne (by omega)
        rw [ea]
        by_cases y : litA A s rep l = -1
        · rw [if_pos y]
          exact hR.2.2.1 s' s0 s1
        · rw [if_neg y, upI_ne z]
          exact hR.2.2.1 s' s0 s1
    have sl4 : SlA τ4 (lid σ i k) (rcfB A k l s rep) k := fun m m0 m1 => by
      have z := e30 m m0 m1
      show _ = rcfB A k l s rep (83 + 23 * k + 5 + m) ∧ _ = rcfB A k l s rep (83 + 23 * k + 11 + m) ∧ _ = rcfB A k l s rep (83 + 23 * k + 17 + m)
      rw [rb0 (83 + 23 * k + 11 + m) (by omega) (by omega), rb0 (83 + 23 * k + 17 + m) (by omega) (by omega), s4 m m0 m1, f4.I (t := 31) (by intro z; unfold bkS at z; omega), f4.I (t := 32) (by intro z; unfold bkS at z; omega), setI_t (t' := 31) (by decide), setI_t (t' := 32) (by decide)]
      refine ⟨?_, z.2⟩
      by_cases y : m < A 1
      · rw [if_pos y, rb_5 hs4 hr hk.1 ⟨m0, y⟩]
        by_cases x : m = l
        · rw [x, upI_eq, if_pos rfl, (give.1 l hl.1 hl.2).2 rfl]
          omega
        · rw [upI_ne x, if_neg x]
      · rw [if_neg y, upI_ne (by omega), rb0 _ (by omega) (by omega)]
    obtain ⟨rl, sp⟩ := rel_sv hR hS (by omega) hk FF h39 sl4 (fun j h1 h2 => rb0 j (by omega) h2)
    exact p68 τ4 FF rl sp
  · have eB : rcfB A k l s rep = A := by
      unfold rcfB
      rw [if_neg (by omega)]
    have k2 := p68 τ1 F1 (by rw [eB]; exact hc1.2.2.1) hc1.2.2.2.1
    refine V_ild4 a_X1_callInFrom_13 ?_
    refine V_aldn0 a_X1_callInFrom_15 ?_
    refine V_fin a_X1_callInFrom_16 f_X1_12 rfl hW ?_
    refine V_getIE a_X1_callInFrom_19 f_X1_144 rfl m12 ?_
    refine V_s2R a_X1_callInFrom_22 c_X1_97 rm ?_
    refine V_ist5 a_X1_callInFrom_25 ?_
    refine V_ild5 a_X1_callInFrom_27 ?_
    refine V_if_le_t a_X1_callInFrom_29 (by omega) (by omega) ?_
    exact k2
end Cf

