section Co
variable {D : Int} {σ : Hp} {A : St} {i : Nat}
theorem R_putInCallOrder {l s : Int} (h : Cl D σ i A) (hl : 0 ≤ l ∧ l < 6) (hs : iR s) : Rt m_X1_putInCallOrder 0 0 0 [vR (some (1, 0)), vR (some (6, i)), vI l, vI s] σ (some (vI (loX A l s (σ.I 23 0) (A 7)).2)) (σ.rI 23 0 (loX A l s (σ.I 23 0) (A 7)).1) := by
  have h' := h
  obtain ⟨hD, hW0, hR, hS, hI⟩ := h
  have hn := hI.n
  have hW : ∀ g, WF (σ.rI 23 0 g) := fun g => Fm.wf (L := [23]) (Fm.rI (by decide)) hW0
  have hL : ∀ (g : Int → Int) k, 0 ≤ k → k < 12 → (σ.rI 23 0 g).P 47 i k = some (lid σ i k) := fun g k k0 k1 => hS.L k k0 k1
  have n3 : ∀ g, (σ.rI 23 0 g).I 36 i 3 = A 7 := fun g => by
    rw [rI_ne (by omega)]
    exact hR.1.2.2.2.1
  have g2 : ∀ g k, 0 ≤ k → k < A 7 → (σ.rI 23 0 g).I 3 (lid σ i k) 2 = A (83 + 23 * k + 2) := fun g k k0 k1 => by
    rw [rI_ne (by omega)]
    exact (hR.lns k k0 k1).2.2.1
  have g3 : ∀ g k, 0 ≤ k → k < A 7 → (σ.rI 23 0 g).I 3 (lid σ i k) 3 = A (83 + 23 * k + 3) := fun g k k0 k1 => by
    rw [rI_ne (by omega)]
    exact (hR.lns k k0 k1).2.2.2.1
  have g5 : ∀ g k, 0 ≤ k → k < A 7 → (σ.rI 23 0 g).I 30 (lid σ i k) l = A (83 + 23 * k + 5 + l) := fun g k k0 k1 => by
    rw [rI_ne (by omega)]
    exact ((hR.lns k k0 k1).2.2.2.2.2 l hl.1 hl.2).1
  have start : σ.rI 23 0 (σ.I 23 0) = σ := rI_self
  show V _ 0 0 0 0 [some (vR (some (1, 0))), some (vR (some (6, i))), some (vI l), some (vI s), none, none, none] [] σ _
  have p6 : ∀ o6 : Option AV, V m_X1_putInCallOrder 0 0 0 6 [some (vR (some (1, 0))), some (vR (some (6, i))), some (vI l), some (vI s), some (vI 0), some (vI 0), o6] [] (σ.rI 23 0 (σ.I 23 0)) (fun r τ => r = .inl (some (vI (loX A l s (σ.I 23 0) (A 7)).2)) ∧ τ = σ.rI 23 0 (loX A l s (σ.I 23 0) (A 7)).1) := by
    refine loopI (P := fun k => ∀ o6 : Option AV, V m_X1_putInCallOrder 0 0 0 6 [some (vR (some (1, 0))), some (vR (some (6, i))), some (vI l), some (vI s), some (vI (loX A l s (σ.I 23 0) k).2), some (vI k), o6] [] (σ.rI 23 0 (loX A l s (σ.I 23 0) k).1) (fun r τ => r = .inl (some (vI (loX A l s (σ.I 23 0) (A 7)).2)) ∧ τ = σ.rI 23 0 (loX A l s (σ.I 23 0) (A 7)).1)) (N := A 7) (by omega) ?_ ?_
    · intro o6
      have hW := hW (loX A l s (σ.I 23 0) (A 7)).1
      have n3 := n3 (loX A l s (σ.I 23 0) (A 7)).1
      refine V_ild5 a_X1_putInCallOrder_6 ?_
      refine V_aldn1 a_X1_putInCallOrder_8 ?_
      refine V_fin a_X1_putInCallOrder_9 f_X1_43 rfl hW ?_
      refine V_iconst a_X1_putInCallOrder_12 ?_
      refine V_ialdE a_X1_putInCallOrder_13 rfl (by omega) n3 ?_
      refine V_icmp_ge_t a_X1_putInCallOrder_14 (by omega) (by omega) ?_
      refine V_ild4 a_X1_putInCallOrder_125 ?_
      exact V_iret a_X1_putInCallOrder_127 (⟨rfl, rfl⟩)
    · intro k k0 k1 ih o6
      have hx := lo_ok (A := A) (l := l) (s := s) (r := σ.I 23 0) k0
      rw [loX_s k0] at ih
      generalize loX A l s (σ.I 23 0) (A 7) = E at ih ⊢
      generalize loX A l s (σ.I 23 0) k = x at hx ih ⊢
      have hli := hI.loan k0 k1
      have hli5 := (hli.sl hl.1 hl.2).1
      have hli2 := hli.2.2.1
      have hreb : ∀ i, 0 ≤ i → i < A 7 → 0 ≤ A (83 + 23 * i + 3) ∧ A (83 + 23 * i + 3) ≤ 9999 := fun i i0 i1 => (hI.loan i0 i1).2.2.2.1
      have hrk := hreb k k0 k1
      have hWx := hW x.1
      have n3x := n3 x.1
      have g2x := g2 x.1 k k0 k1
      have g5x := g5 x.1 k k0 k1
      have hLx := hL x.1
      unfold loS at ih
      by_cases q : slcA A k l s
      · rw [if_pos q] at ih
        have q1 := q.1
        have q2 := q.2
        have p50 : V m_X1_putInCallOrder 0 0 0 50 [some (vR (some (1, 0))), some (vR (some (6, i))), some (vI l), some (vI s), some (vI x.2), some (vI k), some (vI x.2)] [] (σ.rI 23 0 x.1) (fun r τ => r = .inl (some (vI E.2)) ∧ τ = σ.rI 23 0 E.1) := by
          refine loopW (I := isI (fun v => 0 ≤ v ∧ v < A 7) x.2) (g := isG A k) (f := isF) (m := isM) (P := fun y => V m_X1_putInCallOrder 0 0 0 50 [some (vR (some (1, 0))), some (vR (some (6, i))), some (vI l), some (vI s), some (vI x.2), some (vI k), some (vI y.2)] [] (σ.rI 23 0 y.1) (fun r τ => r = .inl (some (vI E.2)) ∧ τ = σ.rI 23 0 E.1)) is_s (E := wh (isG A k) isF isM x) ?_ ?_ x ⟨⟨hx.1.1, Int.le_refl _⟩, fun i i0 i1 hi => by have := (hx.2 i i0 (by omega)).1; omega⟩ rfl
          · intro hy hg
            unfold insA at ih
            generalize wh (isG A k) isF isM x = y at hy hg ih ⊢
            obtain ⟨hy1, hy2⟩ := hy
            have hg : ¬ (0 < y.2 ∧ A (83 + 23 * y.1 (y.2 - 1) + 3) < A (83 + 23 * k + 3)) := fun z => hg (decide_eq_true z)
            have ih2 : V m_X1_putInCallOrder 0 0 0 6 [some (vR (some (1, 0))), some (vR (some (6, i))), some (vI l), some (vI s), some (vI (x.2 + 1)), some (vI (k + 1)), some (vI y.2)] [] ((σ.rI 23 0 y.1).setI 23 0 y.2 k) (fun r τ => r = .inl (some (vI E.2)) ∧ τ = σ.rI 23 0 E.1) := by
              rw [rI_set]
              exact ih (some (vI y.2))
            have hW := hW y.1
            have hL := hL y.1
            by_cases z : 0 < y.2
            · have z1 := hy2 (y.2 - 1) (by omega) (by omega) (by omega)
              have z2 := hreb _ z1.1 z1.2
              have z3 : ¬ A (83 + 23 * y.1 (y.2 - 1) + 3) < A (83 + 23 * k + 3) := fun w => hg ⟨z, w⟩
              have e3 := g3 y.1 (y.1 (y.2 - 1)) z1.1 z1.2
              have e3k := g3 y.1 k k0 k1
              have e23 : (σ.rI 23 0 y.1).I 23 0 (y.2 - 1) = y.1 (y.2 - 1) := by rw [rI_I]
              refine V_ild6 a_X1_putInCallOrder_50 ?_
              refine V_if_le_f a_X1_putInCallOrder_52 (by omega) (by omega) ?_
              refine V_aldn1 a_X1_putInCallOrder_55 ?_
              refine V_fin a_X1_putInCallOrder_56 f_X1_83 rfl hW ?_
              refine V_aldn0 a_X1_putInCallOrder_59 ?_
              refine V_fin a_X1_putInCallOrder_60 f_X1_18 rfl hW ?_
              refine V_ild6 a_X1_putInCallOrder_63 ?_
              refine V_iconst a_X1_putInCallOrder_65 ?_
              refine V_isub a_X1_putInCallOrder_66 ?_
              refine V_ialdE a_X1_putInCallOrder_67 rfl (by omega) e23 ?_
              refine V_aald a_X1_putInCallOrder_68 rfl (by omega) (hL _ (by omega) (by omega)) ?_
              refine V_getIE a_X1_putInCallOrder_69 f_X1_150 rfl e3 ?_
              refine V_aldn1 a_X1_putInCallOrder_72 ?_
              refine V_fin a_X1_putInCallOrder_73 f_X1_83 rfl hW ?_
              refine V_ild5 a_X1_putInCallOrder_76 ?_
              refine V_aald a_X1_putInCallOrder_78 rfl (by omega) (hL _ (by omega) (by omega)) ?_
              refine V_getIE a_X1_putInCallOrder_79 f_X1_150 rfl e3k ?_
              refine V_icmp_ge_t a_X1_putInCallOrder_82 (by omega) (by omega) ?_
              refine V_aldn0 a_X1_putInCallOrder_107 ?_
              refine V_fin a_X1_putInCallOrder_108 f_X1_18 rfl hW ?_
              refine V_ild6 a_X1_putInCallOrder_111 ?_
              refine V_ild5 a_X1_putInCallOrder_113 ?_
              refine V_iast a_X1_putInCallOrder_115 rfl (by omega) ?_
              refine V_inc4 a_X1_putInCallOrder_116 ?_
              refine V_inc5 a_X1_putInCallOrder_119 ?_
              refine V_goto a_X1_putInCallOrder_122 ?_
              exact ih2
            · refine V_ild6 a_X1_putInCallOrder_50 ?_
              refine V_if_le_t a_X1_putInCallOrder_52 (by omega) (by omega) ?_
              refine V_aldn0 a_X1_putInCallOrder_107 ?_
              refine V_fin a_X1_putInCallOrder_108 f_X1_18 rfl hW ?_
              refine V_ild6 a_X1_putInCallOrder_111 ?_
              refine V_ild5 a_X1_putInCallOrder_113 ?_
              refine V_iast a_X1_putInCallOrder_115 rfl (by omega) ?_
              refine V_inc4 a_X1_putInCallOrder_116 ?_
              refine V_inc5 a_X1_putInCallOrder_119 ?_
              refine V_goto a_X1_putInCallOrder_122 ?_
              exact ih2
          · intro y hy hg ih2
            have hg := of_decide_eq_true hg
            obtain ⟨hy1, hy2⟩ := hy
            have z1 := hy2 (y.2 - 1) (by omega) (by omega) (by omega)
            have z2 := hreb _ z1.1 z1.2
            have e3 := g3 y.1 (y.1 (y.2 - 1)) z1.1 z1.2
            have e3k := g3 y.1 k k0 k1
            have e23 : (σ.rI 23 0 y.1).I 23 0 (y.2 - 1) = y.1 (y.2 - 1) := by rw [rI_I]
            have ih3 : V m_X1_putInCallOrder 0 0 0 50 [some (vR (some (1, 0))), some (vR (some (6, i))), some (vI l), some (vI s), some (vI x.2), some (vI k), some (vI (y.2 + -1))] [] ((σ.rI 23 0 y.1).setI 23 0 y.2 (y.1 (y.2 - 1))) (fun r τ => r = .inl (some (vI E.2)) ∧ τ = σ.rI 23 0 E.1) := by
              rw [rI_set]
              exact ih2
            have hW := hW y.1
            have hL := hL y.1
            refine V_ild6 a_X1_putInCallOrder_50 ?_
            refine V_if_le_f a_X1_putInCallOrder_52 (by omega) (by omega) ?_
            refine V_aldn1 a_X1_putInCallOrder_55 ?_
            refine V_fin a_X1_putInCallOrder_56 f_X1_83 rfl hW ?_
            refine V_aldn0 a_X1_putInCallOrder_59 ?_
            refine V_fin a_X1_putInCallOrder_60 f_X1_18 rfl hW ?_
            refine V_ild6 a_X1_putInCallOrder_63 ?_
            refine V_iconst a_X1_putInCallOrder_65 ?_
            refine V_isub a_X1_putInCallOrder_66 ?_
            refine V_ialdE a_X1_putInCallOrder_67 rfl (by omega) e23 ?_
            refine V_aald a_X1_putInCallOrder_68 rfl (by omega) (hL _ (by omega) (by omega)) ?_
            refine V_getIE a_X1_putInCallOrder_69 f_X1_150 rfl e3 ?_
            refine V_aldn1 a_X1_putInCallOrder_72 ?_
            refine V_fin a_X1_putInCallOrder_73 f_X1_83 rfl hW ?_
            refine V_ild5 a_X1_putInCallOrder_76 ?_
            refine V_aald a_X1_putInCallOrder_78 rfl (by omega) (hL _ (by omega) (by omega)) ?_
            refine V_getIE a_X1_putInCallOrder_79 f_X1_150 rfl e3k ?_
            refine V_icmp_ge_f a_X1_putInCallOrder_82 (by omega) (by omega) ?_
            refine V_aldn0 a_X1_putInCallOrder_85 ?_
            refine V_fin a_X1_putInCallOrder_86 f_X1_18 rfl hW ?_
            refine V_ild6 a_X1_putInCallOrder_89 ?_
            refine V_aldn0 a_X1_putInCallOrder_91 ?_
            refine V_fin a_X1_putInCallOrder_92 f_X1_18 rfl hW ?_
            refine V_ild6 a_X1_putInCallOrder_95 ?_
            refine V_iconst a_X1_putInCallOrder_97 ?_
            refine V_isub a_X1_putInCallOrder_98 ?_
            refine V_ialdE a_X1_putInCallOrder_99 rfl (by omega) e23 ?_
            refine V_iast a_X1_putInCallOrder_100 rfl (by omega) ?_
            refine V_inc6 a_X1_putInCallOrder_101 ?_
            refine V_goto a_X1_putInCallOrder_104 ?_
            exact ih3
        have hW := hWx
        have hL := hLx
        have n3 := n3x
        refine V_ild5 a_X1_putInCallOrder_6 ?_
        refine V_aldn1 a_X1_putInCallOrder_8 ?_
        refine V_fin a_X1_putInCallOrder_9 f_X1_43 rfl hW ?_
        refine V_iconst a_X1_putInCallOrder_12 ?_
        refine V_ialdE a_X1_putInCallOrder_13 rfl (by omega) n3 ?_
        refine V_icmp_ge_f a_X1_putInCallOrder_14 (by omega) (by omega) ?_
        refine V_aldn1 a_X1_putInCallOrder_17 ?_
        refine V_fin a_X1_putInCallOrder_18 f_X1_83 rfl hW ?_
        refine V_ild5 a_X1_putInCallOrder_21 ?_
        refine V_aald a_X1_putInCallOrder_23 rfl (by omega) (hL _ (by omega) (by omega)) ?_
        refine V_getIE a_X1_putInCallOrder_24 f_X1_141 rfl g2x ?_
        refine V_ildn3 a_X1_putInCallOrder_27 ?_
        refine V_icmp_ne_f a_X1_putInCallOrder_28 (by omega) (by omega) ?_
        refine V_aldn1 a_X1_putInCallOrder_31 ?_
        refine V_fin a_X1_putInCallOrder_32 f_X1_83 rfl hW ?_
        refine V_ild5 a_X1_putInCallOrder_35 ?_
        refine V_aald a_X1_putInCallOrder_37 rfl (by omega) (hL _ (by omega) (by omega)) ?_
        refine V_fin a_X1_putInCallOrder_38 f_X1_127 rfl hW ?_
        refine V_ildn2 a_X1_putInCallOrder_41 ?_
        refine V_ialdE a_X1_putInCallOrder_42 rfl (by omega) g5x ?_
        refine V_if_le_f a_X1_putInCallOrder_43 (by omega) (by omega) ?_
        refine V_ild4 a_X1_putInCallOrder_46 ?_
        refine V_ist6 a_X1_putInCallOrder_48 ?_
        exact p50
      · rw [if_neg q] at ih
        have hW := hWx
        have hL := hLx
        have n3 := n3x
        by_cases q1 : A (83 + 23 * k + 2) = s
        · have q2 : ¬ 0 < A (83 + 23 * k + 5 + l) := fun w => q ⟨q1, w⟩
          refine V_ild5 a_X1_putInCallOrder_6 ?_
          refine V_aldn1 a_X1_putInCallOrder_8 ?_
          refine V_fin a_X1_putInCallOrder_9 f_X1_43 rfl hW ?_
          refine V_iconst a_X1_putInCallOrder_12 ?_
          refine V_ialdE a_X1_putInCallOrder_13 rfl (by omega) n3 ?_
          refine V_icmp_ge_f a_X1_putInCallOrder_14 (by omega) (by omega) ?_
          refine V_aldn1 a_X1_putInCallOrder_17 ?_
          refine V_fin a_X1_putInCallOrder_18 f_X1_83 rfl hW ?_
          refine V_ild5 a_X1_putInCallOrder_21 ?_
          refine V_aald a_X1_putInCallOrder_23 rfl (by omega) (hL _ (by omega) (by omega)) ?_
          refine V_getIE a_X1_putInCallOrder_24 f_X1_141 rfl g2x ?_
          refine V_ildn3 a_X1_putInCallOrder_27 ?_
          refine V_icmp_ne_f a_X1_putInCallOrder_28 (by omega) (by omega) ?_
          refine V_aldn1 a_X1_putInCallOrder_31 ?_
          refine V_fin a_X1_putInCallOrder_32 f_X1_83 rfl hW ?_
          refine V_ild5 a_X1_putInCallOrder_35 ?_
          refine V_aald a_X1_putInCallOrder_37 rfl (by omega) (hL _ (by omega) (by omega)) ?_
          refine V_fin a_X1_putInCallOrder_38 f_X1_127 rfl hW ?_
          refine V_ildn2 a_X1_putInCallOrder_41 ?_
          refine V_ialdE a_X1_putInCallOrder_42 rfl (by omega) g5x ?_
          refine V_if_le_t a_X1_putInCallOrder_43 (by omega) (by omega) ?_
          refine V_inc5 a_X1_putInCallOrder_119 ?_
          refine V_goto a_X1_putInCallOrder_122 ?_
          exact ih o6
        · refine V_ild5 a_X1_putInCallOrder_6 ?_
          refine V_aldn1 a_X1_putInCallOrder_8 ?_
          refine V_fin a_X1_putInCallOrder_9 f_X1_43 rfl hW ?_
          refine V_iconst a_X1_putInCallOrder_12 ?_
          refine V_ialdE a_X1_putInCallOrder_13 rfl (by omega) n3 ?_
          refine V_icmp_ge_f a_X1_putInCallOrder_14 (by omega) (by omega) ?_
          refine V_aldn1 a_X1_putInCallOrder_17 ?_
          refine V_fin a_X1_putInCallOrder_18 f_X1_83 rfl hW ?_
          refine V_ild5 a_X1_putInCallOrder_21 ?_
          refine V_aald a_X1_putInCallOrder_23 rfl (by omega) (hL _ (by omega) (by omega)) ?_
          refine V_getIE a_X1_putInCallOrder_24 f_X1_141 rfl g2x ?_
          refine V_ildn3 a_X1_putInCallOrder_27 ?_
          refine V_icmp_ne_t a_X1_putInCallOrder_28 (by omega) (by omega) ?_
          refine V_inc5 a_X1_putInCallOrder_119 ?_
          refine V_goto a_X1_putInCallOrder_122 ?_
          exact ih o6
  rw [start] at p6
  refine V_iconst a_X1_putInCallOrder_0 ?_
  refine V_ist4 a_X1_putInCallOrder_1 ?_
  refine V_iconst a_X1_putInCallOrder_3 ?_
  refine V_ist5 a_X1_putInCallOrder_4 ?_
  exact p6 none
end Co

