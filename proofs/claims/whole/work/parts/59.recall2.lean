section Mo12
variable {D : Int} {σ : Hp} {A : St}
theorem rb_sub {k l s rep : Int} (hI : Inv D A) (hk : 0 ≤ k ∧ k < A 7) (hl : 0 ≤ l ∧ l < A 1) (hs : 0 ≤ s ∧ s < 4) (hr : 0 ≤ rep) : rcfB A k l s rep (83 + 23 * k + 5 + l) = A (83 + 23 * k + 5 + l) - rep ∧ rcfB A k l s rep (83 + 23 * k + 11 + l) = A (83 + 23 * k + 11 + l) ∧ rcfB A k l s rep 7 = A 7 ∧ rcfB A k l s rep 1 = A 1 := by
  have hn := hI.n
  refine ⟨?_, rb_out hs (by omega) (by omega), rb_out hs (by omega) (by omega), rb_out hs (by omega) (by omega)⟩
  rcases lt_ge 0 rep with h0 | h0
  · rw [rb_5 hs h0 hk.1 hl, if_pos rfl]
    omega
  · unfold rcfB
    rw [if_neg (by omega)]
    omega
theorem rcf_inv {k l s w : Int} (hI : Inv D A) (hk : 0 ≤ k ∧ k < A 7) (hl : 0 ≤ l ∧ l < A 1) (hs : 0 ≤ s ∧ s < 4) (hks : A (83 + 23 * k + 2) = s) (hw : 0 < w ∧ w ≤ A (83 + 23 * k + 5 + l) - A (83 + 23 * k + 11 + l)) : Inv D (rcfB A k l s (min w (freeB A l s))) ∧ Inv D (rcfA A k l s w) := by
  have hn := hI.n
  have hf := freeB_bd hI (but := l) hs.1 hs.2
  have hB := rb_inv hI hk hl hs hks (rep := min w (freeB A l s)) (by omega) (by omega)
  refine ⟨hB, ?_⟩
  unfold rcfA
  split
  · exact hB
  · have h := rb_sub hI hk hl hs (rep := min w (freeB A l s)) (by omega)
    refine rc_inv hB (by rw [h.2.2.1]; exact hk) (by omega) ?_
    rw [h.1, h.2.1]
    omega
theorem R_recallFrom {k l s w : Int} (h : Md D σ A) (hk : 0 ≤ k ∧ k < A 7) (hl : 0 ≤ l ∧ l < A 1) (hs : 0 ≤ s ∧ s < 4) (hks : A (83 + 23 * k + 2) = s) (hw : 0 < w ∧ w ≤ A (83 + 23 * k + 5 + l) - A (83 + 23 * k + 11 + l)) : ∃ σ', Fm [50, 56, 57] σ σ' ∧ Md D σ' (rcfA A k l s w) ∧ Rt m_X11_recallFrom 7 0 0 [vR (some (11, 0)), vI (83 + 23 * k), vI l, vI s, vL w] σ (some (vL (min w (freeB A l s)))) σ' := by
  have h' := h
  obtain ⟨hD, hW, hA, hI⟩ := h
  have hn := hI.n
  have hf := freeB_bd hI (but := l) hs.1 hs.2
  have hsl := (hI.loan hk.1 hk.2).sl hl.1 (by omega)
  obtain ⟨iB, iC⟩ := rcf_inv hI hk hl hs hks hw
  generalize hrep : min w (freeB A l s) = rep at iB ⊢
  have hr : 0 ≤ rep ∧ rep ≤ freeB A l s ∧ rep ≤ w := by omega
  have eB := rb_sub hI hk hl hs (rep := rep) (by omega)
  have tail : ∀ (τ : Hp), WF τ → τ.J 50 0 = rcfB A k l s rep → ∀ x8 : Option AV, V m_X11_recallFrom 7 0 0 83 [some (vR (some (11, 0))), some (vI (83 + 23 * k)), some (vI l), some (vI s), some (vL w), none, some (vL rep), none, x8] [] τ (fun r τ' => r = Sum.inl (some (vL rep)) ∧ τ' = τ.rJ 50 0 (rcfA A k l s w)) := by
    intro τ hW hA x8
    have hS := (iB.loan hk.1 (by rw [eB.2.2.1]; exact hk.2)).Sl hD (by have := iB.n; omega) (by have := iB.n; omega) (by omega)
    have hS := hS.2.2 l hl.1 (by omega)
    unfold rcfA
    rw [hrep]
    generalize rcfB A k l s rep = B at hA hS iB ⊢
    have hBn := iB.n
    by_cases e : w = rep
    · rw [if_pos e]
      refine V_lld4 a_X11_recallFrom_83 ?_
      refine V_lld6 a_X11_recallFrom_85 ?_
      refine V_lc_ne_f a_X11_recallFrom_87 a_X11_recallFrom_88 (by omega) (by omega) ?_
      refine V_lld6 a_X11_recallFrom_91 ?_
      exact V_lret a_X11_recallFrom_93 (⟨rfl, by rw [← hA, rJ_self]⟩)
    · rw [if_neg e]
      refine V_lld4 a_X11_recallFrom_83 ?_
      refine V_lld6 a_X11_recallFrom_85 ?_
      refine V_lc_ne_t a_X11_recallFrom_87 a_X11_recallFrom_88 (by omega) (by omega) ?_
      refine V_aldn0 a_X11_recallFrom_94 ?_
      refine V_fin a_X11_recallFrom_95 f_X11_7 rfl hW ?_
      refine V_ildn1 a_X11_recallFrom_98 ?_
      refine V_bipush a_X11_recallFrom_99 (by decide) ?_
      refine V_iadd a_X11_recallFrom_101 ?_
      refine V_ildn2 a_X11_recallFrom_102 ?_
      refine V_iadd a_X11_recallFrom_103 ?_
      first | refine V_dup2IR a_X11_recallFrom_104 ?_ | refine V_dup2L a_X11_recallFrom_104 ?_
      refine V_w a_X11_recallFrom_105 (by omega) hA ?_
      refine V_lld4 a_X11_recallFrom_106 ?_
      refine V_lld6 a_X11_recallFrom_108 ?_
      refine V_lsub a_X11_recallFrom_110 ?_
      refine V_ladd a_X11_recallFrom_111 ?_
      refine V_last a_X11_recallFrom_112 rfl (by omega) ?_
      rw [setJ_row, hA]
      refine V_aldn0 a_X11_recallFrom_113 ?_
      refine V_fin a_X11_recallFrom_114 f_X11_7 rfl hW ?_
      refine V_ildn1 a_X11_recallFrom_117 ?_
      refine V_bipush a_X11_recallFrom_118 (by decide) ?_
      refine V_iadd a_X11_recallFrom_120 ?_
      refine V_ildn2 a_X11_recallFrom_121 ?_
      refine V_iadd a_X11_recallFrom_122 ?_
      refine V_laldE a_X11_recallFrom_123 rfl (by omega) (v := B (83 + 23 * k + 17 + l)) (by rw [rJ_J, upI_ne (by omega)]) ?_
      refine V_ldc2 a_X11_recallFrom_124 q_X11_56 ?_
      refine V_lc_ne a_X11_recallFrom_127 a_X11_recallFrom_128 (by omega) (fun hc127 => ?_) (fun hc127 => ?_)
      · try rw [rJ_set]
        refine V_lld6 a_X11_recallFrom_156 ?_
        exact V_lret a_X11_recallFrom_158 (⟨rfl, by unfold rcfC; first | rw [if_pos (by omega)] | rw [if_neg (by omega)]⟩)
      · refine V_aldn0 a_X11_recallFrom_131 ?_
        refine V_fin a_X11_recallFrom_132 f_X11_7 rfl hW ?_
        refine V_ildn1 a_X11_recallFrom_135 ?_
        refine V_bipush a_X11_recallFrom_136 (by decide) ?_
        refine V_iadd a_X11_recallFrom_138 ?_
        refine V_ildn2 a_X11_recallFrom_139 ?_
        refine V_iadd a_X11_recallFrom_140 ?_
        refine V_aldn0 a_X11_recallFrom_141 ?_
        refine V_fin a_X11_recallFrom_142 f_X11_7 rfl hW ?_
        refine V_bipush a_X11_recallFrom_145 (by decide) ?_
        refine V_laldE a_X11_recallFrom_147 rfl (by omega) (v := B 6) (by rw [rJ_J, upI_ne (by omega)]) ?_
        refine V_aldn0 a_X11_recallFrom_148 ?_
        refine V_fin a_X11_recallFrom_149 f_X11_7 rfl hW ?_
        refine V_iconst a_X11_recallFrom_152 ?_
        refine V_laldE a_X11_recallFrom_153 rfl (by omega) (v := B 3) (by rw [rJ_J, upI_ne (by omega)]) ?_
        refine V_ladd a_X11_recallFrom_154 ?_
        refine V_last a_X11_recallFrom_155 rfl (by omega) ?_
        try rw [rJ_set]
        refine V_lld6 a_X11_recallFrom_156 ?_
        exact V_lret a_X11_recallFrom_158 (⟨rfl, by unfold rcfC; first | rw [if_pos (by omega)] | rw [if_neg (by omega)]⟩)
  rcases lt_ge 0 rep with h0 | h0
  · obtain ⟨σ1, f1, m1, g1, r1⟩ := R_allocate (s := s) (q := rep) (but := l) h' hs ⟨h0, hr.2.1⟩ (by omega)
    have eB2 : rcfB A k l s rep = mixO (83 + 23 * k + 5) (fun o => allocA A s rep l (83 + 23 * k + 5 + o) + (if o = l then -rep else giveA A s rep l o)) (allocA A s rep l) (A 1) := if_pos h0
    have hW1 : ∀ B, WF (σ1.rJ 50 0 B) := fun _ => m1.2.1
    have tl := tail (σ1.rJ 50 0 (rcfB A k l s rep)) (hW1 _) rJ_J
    refine ⟨(σ1.rJ 50 0 (rcfB A k l s rep)).rJ 50 0 (rcfA A k l s w), f1.trans ((Fm.rJ (by decide)).trans (Fm.rJ (by decide))), ⟨hD, m1.2.1, rJ_J, iC⟩, ?_⟩
    rw [eB2] at tl ⊢
    have hW := m1.2.1
    have hA1 := m1.2.2.1
    have al : ∀ j, ¬ (23 ≤ j ∧ j < 27) → allocA A s rep l j = A j := fun j hj => alloc_8 hs hj
    generalize allocA A s rep l = B at *
    have start : σ1.rJ 50 0 (mixO (83 + 23 * k + 5) (fun o => B (83 + 23 * k + 5 + o) + (if o = l then -rep else giveA A s rep l o)) B 0) = σ1 := by rw [mixO_0, ← hA1, rJ_self]
    show V _ 7 0 0 0 [some (vR (some (11, 0))), some (vI (83 + 23 * k)), some (vI l), some (vI s), some (vL w), none, none, none, none] [] σ _
    refine V_lld4 a_X11_recallFrom_0 ?_
    refine V_aldn0 a_X11_recallFrom_2 ?_
    refine V_ildn2 a_X11_recallFrom_3 ?_
    refine V_ildn3 a_X11_recallFrom_4 ?_
    refine V_v2R a_X11_recallFrom_5 c_X11_238 (R_freeBut h' (by omega) hs) ?_
    refine V_s2R a_X11_recallFrom_8 c_X11_227 (R_lmin (by omega) (by omega)) ?_
    rw [hrep]
    refine V_lst6 a_X11_recallFrom_11 ?_
    refine V_lld6 a_X11_recallFrom_13 ?_
    refine V_lconst0 a_X11_recallFrom_15 ?_
    refine V_lc_le_f a_X11_recallFrom_16 a_X11_recallFrom_17 (by omega) (by omega) ?_
    refine V_aldn0 a_X11_recallFrom_20 ?_
    refine V_ildn3 a_X11_recallFrom_21 ?_
    refine V_lld6 a_X11_recallFrom_22 ?_
    refine V_ildn2 a_X11_recallFrom_24 ?_
    refine V_v3V a_X11_recallFrom_25 c_X11_256 r1 ?_
    refine V_iconst a_X11_recallFrom_28 ?_
    refine V_ist8 a_X11_recallFrom_29 ?_
    refine (fun z => by rw [start] at z; exact z : V _ 7 0 0 31 [some (vR (some (11, 0))), some (vI (83 + 23 * k)), some (vI l), some (vI s), some (vL w), none, some (vL rep), none, some (vI 0)] [] (σ1.rJ 50 0 (mixO (83 + 23 * k + 5) (fun o => B (83 + 23 * k + 5 + o) + (if o = l then -rep else giveA A s rep l o)) B 0)) _ → _) ?_
    refine loopI (P := fun o => V _ 7 0 0 31 [some (vR (some (11, 0))), some (vI (83 + 23 * k)), some (vI l), some (vI s), some (vL w), none, some (vL rep), none, some (vI o)] [] (σ1.rJ 50 0 (mixO (83 + 23 * k + 5) (fun o => B (83 + 23 * k + 5 + o) + (if o = l then -rep else giveA A s rep l o)) B o)) _) (N := A 1) (by omega) ?_ ?_
    · have y1 : mixO (83 + 23 * k + 5) (fun o => B (83 + 23 * k + 5 + o) + (if o = l then -rep else giveA A s rep l o)) B (A 1) 1 = A 1 := by rw [mixO_out (by omega), al _ (by omega)]
      refine V_ild8 a_X11_recallFrom_31 ?_
      refine V_i2l a_X11_recallFrom_33 (by omega) ?_
      refine V_aldn0 a_X11_recallFrom_34 ?_
      refine V_fin a_X11_recallFrom_35 f_X11_7 rfl hW ?_
      refine V_iconst a_X11_recallFrom_38 ?_
      refine V_laldE a_X11_recallFrom_39 rfl (by omega) (v := A 1) (by rw [rJ_J, y1]) ?_
      refine V_lc_ge_t a_X11_recallFrom_40 a_X11_recallFrom_41 (by omega) (by omega) ?_
      exact tl _
    · intro o o0 o1 ih
      rw [← mixO_s o0, ← rJ_set] at ih
      have ih2 : ∀ v : Int, v = (if o = l then -rep else giveA A s rep l o) → V m_X11_recallFrom 7 0 0 31 [some (vR (some (11, 0))), some (vI (83 + 23 * k)), some (vI l), some (vI s), some (vL w), none, some (vL rep), none, some (vI (o + 1))] [] ((σ1.rJ 50 0 (mixO (83 + 23 * k + 5) (fun o => B (83 + 23 * k + 5 + o) + (if o = l then -rep else giveA A s rep l o)) B o)).setJ 50 0 (83 + 23 * k + 5 + o) (B (83 + 23 * k + 5 + o) + v)) _ := fun v e => by
        rw [e]
        exact ih
      have y1 : mixO (83 + 23 * k + 5) (fun o => B (83 + 23 * k + 5 + o) + (if o = l then -rep else giveA A s rep l o)) B o 1 = A 1 := by rw [mixO_out (by omega), al _ (by omega)]
      have y2 : mixO (83 + 23 * k + 5) (fun o => B (83 + 23 * k + 5 + o) + (if o = l then -rep else giveA A s rep l o)) B o (83 + 23 * k + 5 + o) = B (83 + 23 * k + 5 + o) := mixO_out (by omega)
      have y3 : (σ1.rJ 50 0 (mixO (83 + 23 * k + 5) (fun o => B (83 + 23 * k + 5 + o) + (if o = l then -rep else giveA A s rep l o)) B o)).J 56 0 o = giveA A s rep l o := by
        rw [rJ_ne (by decide)]
        exact g1 o o0 o1
      refine V_ild8 a_X11_recallFrom_31 ?_
      refine V_i2l a_X11_recallFrom_33 (by omega) ?_
      refine V_aldn0 a_X11_recallFrom_34 ?_
      refine V_fin a_X11_recallFrom_35 f_X11_7 rfl hW ?_
      refine V_iconst a_X11_recallFrom_38 ?_
      refine V_laldE a_X11_recallFrom_39 rfl (by omega) (v := A 1) (by rw [rJ_J, y1]) ?_
      refine V_lc_ge_f a_X11_recallFrom_40 a_X11_recallFrom_41 (by omega) (by omega) ?_
      refine V_aldn0 a_X11_recallFrom_44 ?_
      refine V_fin a_X11_recallFrom_45 f_X11_7 rfl hW ?_
      refine V_ildn1 a_X11_recallFrom_48 ?_
      refine V_iconst a_X11_recallFrom_49 ?_
      refine V_iadd a_X11_recallFrom_50 ?_
      refine V_ild8 a_X11_recallFrom_51 ?_
      refine V_iadd a_X11_recallFrom_53 ?_
      first | refine V_dup2IR a_X11_recallFrom_54 ?_ | refine V_dup2L a_X11_recallFrom_54 ?_
      refine V_laldE a_X11_recallFrom_55 rfl (by omega) (v := B (83 + 23 * k + 5 + o)) (by rw [rJ_J, y2]) ?_
      refine V_ild8 a_X11_recallFrom_56 ?_
      refine V_ildn2 a_X11_recallFrom_58 ?_
      refine V_icmp_ne a_X11_recallFrom_59 (by omega) (fun hc59 => ?_) (fun hc59 => ?_)
      · refine V_aldn0 a_X11_recallFrom_68 ?_
        refine V_fin a_X11_recallFrom_69 f_X11_33 rfl hW ?_
        refine V_ild8 a_X11_recallFrom_72 ?_
        refine V_laldE a_X11_recallFrom_74 rfl (by omega) (v := giveA A s rep l o) y3 ?_
        refine V_ladd a_X11_recallFrom_75 ?_
        refine V_last a_X11_recallFrom_76 rfl (by omega) ?_
        refine V_inc8 a_X11_recallFrom_77 ?_
        refine V_goto a_X11_recallFrom_80 ?_
        first | exact ih2 _ (if_pos (by omega)).symm | exact ih2 _ (if_neg (by omega)).symm
      · refine V_lld6 a_X11_recallFrom_62 ?_
        refine V_lneg a_X11_recallFrom_64 ?_
        refine V_goto a_X11_recallFrom_65 ?_
        refine V_ladd a_X11_recallFrom_75 ?_
        refine V_last a_X11_recallFrom_76 rfl (by omega) ?_
        refine V_inc8 a_X11_recallFrom_77 ?_
        refine V_goto a_X11_recallFrom_80 ?_
        first | exact ih2 _ (if_pos (by omega)).symm | exact ih2 _ (if_neg (by omega)).symm
  · have eB2 : rcfB A k l s rep = A := if_neg (by omega)
    have tl := tail σ hW (hA.trans eB2.symm)
    refine ⟨σ.rJ 50 0 (rcfA A k l s w), Fm.rJ (by decide), ⟨hD, hW, rJ_J, iC⟩, ?_⟩
    show V _ 7 0 0 0 [some (vR (some (11, 0))), some (vI (83 + 23 * k)), some (vI l), some (vI s), some (vL w), none, none, none, none] [] σ _
    refine V_lld4 a_X11_recallFrom_0 ?_
    refine V_aldn0 a_X11_recallFrom_2 ?_
    refine V_ildn2 a_X11_recallFrom_3 ?_
    refine V_ildn3 a_X11_recallFrom_4 ?_
    refine V_v2R a_X11_recallFrom_5 c_X11_238 (R_freeBut h' (by omega) hs) ?_
    refine V_s2R a_X11_recallFrom_8 c_X11_227 (R_lmin (by omega) (by omega)) ?_
    rw [hrep]
    refine V_lst6 a_X11_recallFrom_11 ?_
    refine V_lld6 a_X11_recallFrom_13 ?_
    refine V_lconst0 a_X11_recallFrom_15 ?_
    refine V_lc_le_t a_X11_recallFrom_16 a_X11_recallFrom_17 (by omega) (by omega) ?_
    exact tl _
theorem R_unrecalled {k l : Int} (hW : WF σ) (hA : σ.J 50 0 = A) (hk : 0 ≤ k ∧ k < 12) (hl : 0 ≤ l ∧ l < 6) : Rt m_X11_unrecalled 0 0 0 [vR (some (11, 0)), vI (83 + 23 * k), vI l] σ (some (vL (A (83 + 23 * k + 5 + l) - A (83 + 23 * k + 11 + l)))) σ := by
  show V _ 0 0 0 0 [some (vR (some (11, 0))), some (vI (83 + 23 * k)), some (vI l)] [] σ _
  refine V_aldn0 a_X11_unrecalled_0 ?_
  refine V_fin a_X11_unrecalled_1 f_X11_7 rfl hW ?_
  refine V_ildn1 a_X11_unrecalled_4 ?_
  refine V_iconst a_X11_unrecalled_5 ?_
  refine V_iadd a_X11_unrecalled_6 ?_
  refine V_ildn2 a_X11_unrecalled_7 ?_
  refine V_iadd a_X11_unrecalled_8 ?_
  refine V_w a_X11_unrecalled_9 (by omega) hA ?_
  refine V_aldn0 a_X11_unrecalled_10 ?_
  refine V_fin a_X11_unrecalled_11 f_X11_7 rfl hW ?_
  refine V_ildn1 a_X11_unrecalled_14 ?_
  refine V_bipush a_X11_unrecalled_15 (by decide) ?_
  refine V_iadd a_X11_unrecalled_17 ?_
  refine V_ildn2 a_X11_unrecalled_18 ?_
  refine V_iadd a_X11_unrecalled_19 ?_
  refine V_w a_X11_unrecalled_20 (by omega) hA ?_
  refine V_lsub a_X11_unrecalled_21 ?_
  exact V_lret a_X11_unrecalled_22 (⟨rfl, rfl⟩)
theorem R_recallableOf {l s : Int} (h : Md D σ A) (hl : 0 ≤ l ∧ l < 6) (hs : 0 ≤ s ∧ s < 4) : Rt m_X11_recallableOf 1 0 0 [vR (some (11, 0)), vI l, vI s] σ (some (vL (recbA A l s))) σ := by
  obtain ⟨hD, hW, hA, hI⟩ := h
  show V _ 1 0 0 0 [some (vR (some (11, 0))), some (vI l), some (vI s), none, none, none] [] σ _
  have hn := hI.n
  refine V_lconst0 a_X11_recallableOf_0 ?_
  refine V_lstn3 a_X11_recallableOf_1 ?_
  refine V_iconst a_X11_recallableOf_2 ?_
  refine V_ist5 a_X11_recallableOf_3 ?_
  refine loopI (P := fun k => V _ 1 0 0 5 [some (vR (some (11, 0))), some (vI l), some (vI s), some (vL (sm (fun k => if A (83 + 23 * k + 2) = s then A (83 + 23 * k + 5 + l) - A (83 + 23 * k + 11 + l) else 0) k)), none, some (vI k)] [] σ _) (N := A 7) (by omega) ?_ ?_
  · refine V_ild5 a_X11_recallableOf_5 ?_
    refine V_i2l a_X11_recallableOf_7 (by omega) ?_
    refine V_aldn0 a_X11_recallableOf_8 ?_
    refine V_fin a_X11_recallableOf_9 f_X11_7 rfl hW ?_
    refine V_bipush a_X11_recallableOf_12 (by decide) ?_
    refine V_w a_X11_recallableOf_14 (by omega) hA ?_
    refine V_lc_ge_t a_X11_recallableOf_15 a_X11_recallableOf_16 (by omega) (by omega) ?_
    refine V_lldn3 a_X11_recallableOf_56 ?_
    exact V_lret a_X11_recallableOf_57 (⟨rfl, rfl⟩)
  · intro k h0 h1 ih
    obtain ⟨-, -, q2, -⟩ := hI.loan h0 h1
    refine V_ild5 a_X11_recallableOf_5 ?_
    refine V_i2l a_X11_recallableOf_7 (by omega) ?_
    refine V_aldn0 a_X11_recallableOf_8 ?_
    refine V_fin a_X11_recallableOf_9 f_X11_7 rfl hW ?_
    refine V_bipush a_X11_recallableOf_12 (by decide) ?_
    refine V_w a_X11_recallableOf_14 (by omega) hA ?_
    refine V_lc_ge_f a_X11_recallableOf_15 a_X11_recallableOf_16 (by omega) (by omega) ?_
    refine V_aldn0 a_X11_recallableOf_19 ?_
    refine V_fin a_X11_recallableOf_20 f_X11_7 rfl hW ?_
    refine V_ild5 a_X11_recallableOf_23 ?_
    refine V_s1R a_X11_recallableOf_25 c_X11_197 R_loanAt ?_
    refine V_iconst a_X11_recallableOf_28 ?_
    refine V_iadd a_X11_recallableOf_29 ?_
    refine V_w a_X11_recallableOf_30 (by omega) hA ?_
    refine V_ildn2 a_X11_recallableOf_31 ?_
    refine V_i2l a_X11_recallableOf_32 (by omega) ?_
    refine V_lc_ne a_X11_recallableOf_33 a_X11_recallableOf_34 (by omega) (fun hc33 => ?_) (fun hc33 => ?_)
    · refine V_inc5 a_X11_recallableOf_50 ?_
      refine V_goto a_X11_recallableOf_53 ?_
      first | (rw [sm_s _ h0, if_pos (by omega)] at ih; exact ih) | (rw [sm_s _ h0, if_neg (by omega), Int.add_zero] at ih; exact ih)
    · refine V_lldn3 a_X11_recallableOf_37 ?_
      refine V_aldn0 a_X11_recallableOf_38 ?_
      refine V_ild5 a_X11_recallableOf_39 ?_
      refine V_s1R a_X11_recallableOf_41 c_X11_197 R_loanAt ?_
      refine V_ildn1 a_X11_recallableOf_44 ?_
      refine V_v2R a_X11_recallableOf_45 c_X11_305 (R_unrecalled hW hA (by omega) hl) ?_
      refine V_ladd a_X11_recallableOf_48 ?_
      refine V_lstn3 a_X11_recallableOf_49 ?_
      refine V_inc5 a_X11_recallableOf_50 ?_
      refine V_goto a_X11_recallableOf_53 ?_
      first | (rw [sm_s _ h0, if_pos (by omega)] at ih; exact ih) | (rw [sm_s _ h0, if_neg (by omega), Int.add_zero] at ih; exact ih)
abbrev slcA (A : St) (k l s : Int) : Prop := A (83 + 23 * k + 2) = s ∧ 0 < A (83 + 23 * k + 5 + l)
theorem B_isSliced {k l s : Int} (h : Md D σ A) (hk : 0 ≤ k ∧ k < A 7) (hl : 0 ≤ l ∧ l < 6) (hs : 0 ≤ s ∧ s < 4) : ∃ b : Int, ((b = 1 ∧ slcA A k l s) ∨ (b = 0 ∧ ¬ slcA A k l s)) ∧ Rt m_X11_isSliced 1 0 0 [vR (some (11, 0)), vI k, vI l, vI s] σ (some (vI b)) σ := by
  obtain ⟨hD, hW, hA, hI⟩ := h
  have hn := hI.n
  obtain ⟨-, -, q2, -⟩ := hI.loan hk.1 hk.2
  have q3 := ((hI.loan hk.1 hk.2).sl hl.1 hl.2).1
  unfold slcA
  by_cases hp : A (83 + 23 * k + 2) = s ∧ 0 < A (83 + 23 * k + 5 + l)
  · refine ⟨1, Or.inl ⟨rfl, hp⟩, ?_⟩
    show V _ 1 0 0 0 [some (vR (some (11, 0))), some (vI k), some (vI l), some (vI s)] [] σ _
    refine V_aldn0 a_X11_isSliced_0 ?_
    refine V_fin a_X11_isSliced_1 f_X11_7 rfl hW ?_
    refine V_ildn1 a_X11_isSliced_4 ?_
    refine V_s1R a_X11_isSliced_5 c_X11_197 R_loanAt ?_
    refine V_iconst a_X11_isSliced_8 ?_
    refine V_iadd a_X11_isSliced_9 ?_
    refine V_w a_X11_isSliced_10 (by omega) hA ?_
    refine V_ildn3 a_X11_isSliced_11 ?_
    refine V_i2l a_X11_isSliced_12 (by omega) ?_
    refine V_lc_ne_f a_X11_isSliced_13 a_X11_isSliced_14 (by omega) (by omega) ?_
    refine V_aldn0 a_X11_isSliced_17 ?_
    refine V_fin a_X11_isSliced_18 f_X11_7 rfl hW ?_
    refine V_ildn1 a_X11_isSliced_21 ?_
    refine V_s1R a_X11_isSliced_22 c_X11_197 R_loanAt ?_
    refine V_iconst a_X11_isSliced_25 ?_
    refine V_iadd a_X11_isSliced_26 ?_
    refine V_ildn2 a_X11_isSliced_27 ?_
    refine V_iadd a_X11_isSliced_28 ?_
    refine V_w a_X11_isSliced_29 (by omega) hA ?_
    refine V_lconst0 a_X11_isSliced_30 ?_
    refine V_lc_le_f a_X11_isSliced_31 a_X11_isSliced_32 (by omega) (by omega) ?_
    refine V_iconst a_X11_isSliced_35 ?_
    refine V_goto a_X11_isSliced_36 ?_
    exact V_zret a_X11_isSliced_40 (by omega) (⟨rfl, rfl⟩)
  · refine ⟨0, Or.inr ⟨rfl, hp⟩, ?_⟩
    show V _ 1 0 0 0 [some (vR (some (11, 0))), some (vI k), some (vI l), some (vI s)] [] σ _
    refine V_aldn0 a_X11_isSliced_0 ?_
    refine V_fin a_X11_isSliced_1 f_X11_7 rfl hW ?_
    refine V_ildn1 a_X11_isSliced_4 ?_
    refine V_s1R a_X11_isSliced_5 c_X11_197 R_loanAt ?_
    refine V_iconst a_X11_isSliced_8 ?_
    refine V_iadd a_X11_isSliced_9 ?_
    refine V_w a_X11_isSliced_10 (by omega) hA ?_
    refine V_ildn3 a_X11_isSliced_11 ?_
    refine V_i2l a_X11_isSliced_12 (by omega) ?_
    refine V_lc_ne a_X11_isSliced_13 a_X11_isSliced_14 (by omega) (fun hc13 => ?_) (fun hc13 => ?_)
    · refine V_iconst a_X11_isSliced_39 ?_
      exact V_zret a_X11_isSliced_40 (by omega) (⟨by first | rfl | omega, rfl⟩)
    · refine V_aldn0 a_X11_isSliced_17 ?_
      refine V_fin a_X11_isSliced_18 f_X11_7 rfl hW ?_
      refine V_ildn1 a_X11_isSliced_21 ?_
      refine V_s1R a_X11_isSliced_22 c_X11_197 R_loanAt ?_
      refine V_iconst a_X11_isSliced_25 ?_
      refine V_iadd a_X11_isSliced_26 ?_
      refine V_ildn2 a_X11_isSliced_27 ?_
      refine V_iadd a_X11_isSliced_28 ?_
      refine V_w a_X11_isSliced_29 (by omega) hA ?_
      refine V_lconst0 a_X11_isSliced_30 ?_
      refine V_lc_le a_X11_isSliced_31 a_X11_isSliced_32 (by omega) (fun hc31 => ?_) (fun hc31 => ?_)
      · refine V_iconst a_X11_isSliced_39 ?_
        exact V_zret a_X11_isSliced_40 (by omega) (⟨by first | rfl | omega, rfl⟩)
      · refine V_iconst a_X11_isSliced_35 ?_
        refine V_goto a_X11_isSliced_36 ?_
        exact V_zret a_X11_isSliced_40 (by omega) (⟨by first | rfl | omega, rfl⟩)
end Mo12

