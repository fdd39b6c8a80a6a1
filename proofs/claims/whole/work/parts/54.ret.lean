/-- the heap after some slices gave back -/
abbrev Hp.bk (σ : Hp) (x : Bk) : Hp := ((σ.rJ 50 0 x.A).rI 58 0 x.r).setI 11 0 17 x.c
section Mo9
variable {D : Int} {σ : Hp} {A : St}
theorem bk_A {x : Bk} : (σ.bk x).J 50 0 = x.A := rJ_J
theorem bk_c {x : Bk} : (σ.bk x).I 11 0 17 = x.c := setI_I
theorem bk_w {x : Bk} {B : St} : (σ.bk x).rJ 50 0 B = σ.bk ⟨B, x.q, x.c, x.r⟩ :=
  congrArg (fun f => ((σ.wJ f).wI (rowR σ.I 58 0 x.r)).wI (u3 (rowR σ.I 58 0 x.r) 11 0 17 x.c)) row_row
theorem bk_from {x : Bk} {l q' : Int} : ((σ.bk x).setI 58 0 x.c l).setI 11 0 17 (x.c + 1) = σ.bk ⟨x.A, q', x.c + 1, upI x.r x.c l⟩ := by
  have e : u3 (u3 (u3 (rowR σ.I 58 0 x.r) 11 0 17 x.c) 58 0 x.c l) 11 0 17 (x.c + 1) = u3 (rowR σ.I 58 0 (upI x.r x.c l)) 11 0 17 (x.c + 1) := by
    funext t i j
    unfold u3
    by_cases h1 : t = 11 ∧ i = 0 ∧ j = 17
    · rw [if_pos h1, if_pos h1]
    · rw [if_neg h1, if_neg h1, if_neg h1]
      unfold rowR upI
      by_cases h2 : t = 58 ∧ i = 0
      · rw [if_pos h2, if_pos h2]
        by_cases h3 : j = x.c
        · rw [if_pos ⟨h2.1, h2.2, h3⟩, if_pos h3]
        · rw [if_neg (fun z => h3 z.2.2), if_neg h3]
      · rw [if_neg h2, if_neg h2, if_neg (fun z => h2 ⟨z.1, z.2.1⟩)]
  exact congrArg (fun f => ((σ.wJ (rowR σ.J 50 0 x.A)).wI (rowR σ.I 58 0 (upI x.r x.c l))).wI f) e
theorem Fm.bk {x : Bk} : Fm [11, 50, 58] σ (σ.bk x) := ((Fm.rJ (by decide)).trans (Fm.rI (by decide))).trans (Fm.setI (by decide))
theorem GB_q {k K : Int} {A0 : St} {x : Bk} (h : GB k K A0 x) : x.q ≤ 599994 := by
  obtain ⟨hs, ho, hq, hsum, hl⟩ := h
  have e1 : x.A 1 = A0 1 := ho 1 (by have := hs.2.1; omega)
  obtain ⟨hn, hk, hsl⟩ := hs
  rw [e1] at hn
  have := sm_hi (f := fun l => x.A (83 + 23 * k + 5 + l)) (k := A0 1) (hi := 99999) hn.1 (fun l l0 l1 => (hsl l l0 (by omega)).1.2.2)
  omega
def backX (k : Int) (A : St) (q : Int) (r : Int → Int) : Bk := wh gk2 (bk2 k) mk (wh (gk1 k) (bk1 k) mk ⟨A, q, 0, r⟩)
theorem back_ok {k K q : Int} {r : Int → Int} (hG : G1 k K A ⟨A, q, 0, r⟩) : G2 k K A (backX k A q r) ∧ (backX k A q r).q = 0 := by
  have i1 := wh_inv (I := G1 k K A) (fun x hx hg => G1_s hx hg) hG
  have i2 := wh_inv (I := G2 k K A) (fun x hx hg => G2_s hx hg) (G1_G2 i1.1 i1.2)
  refine ⟨i2.1, ?_⟩
  have h1 := i2.1.1.2.2.1
  have h2 : ¬ 0 < (backX k A q r).q := fun z => i2.2 (decide_eq_true z)
  have h1 : 0 ≤ (backX k A q r).q := h1.1
  omega
theorem R_giveBack {k K q : Int} (hW : WF σ) (hA : σ.J 50 0 = A) (hG : G1 k K A ⟨A, q, 0, σ.I 58 0⟩) : Rt m_X11_giveBack 2 0 0 [vR (some (11, 0)), vI (83 + 23 * k), vL q] σ none (σ.bk (backX k A q (σ.I 58 0))) := by
  have hW1 : ∀ y, WF (σ.bk y) := fun _ => hW
  have i1 := wh_inv (I := G1 k K A) (fun x hx hg => G1_s hx hg) hG
  have i2 := G1_G2 i1.1 i1.2
  unfold backX
  generalize hX1 : wh (gk1 k) (bk1 k) mk ⟨A, q, 0, σ.I 58 0⟩ = X1 at i1 i2 ⊢
  generalize hX : wh gk2 (bk2 k) mk X1 = X
  have p2 : ∀ l6 x7 x8 : Option AV, V m_X11_giveBack 2 0 0 79 [some (vR (some (11, 0))), some (vI (83 + 23 * k)), some (vL q), none, some (vL X1.q), none, l6, x7, x8] [] (σ.bk X1) (fun r τ => r = Sum.inl none ∧ τ = σ.bk X) := by
    refine loopW (I := G2 k K A) (P := fun x => ∀ l6 x7 x8 : Option AV, V m_X11_giveBack 2 0 0 79 [some (vR (some (11, 0))), some (vI (83 + 23 * k)), some (vL q), none, some (vL x.q), none, l6, x7, x8] [] (σ.bk x) (fun r τ => r = Sum.inl none ∧ τ = σ.bk X)) (fun x hx hg => G2_s hx hg) (E := X) ?_ ?_ X1 i2 hX
    · intro hx hg l6 x7 x8
      have hg : ¬ 0 < X.q := fun z => hg (decide_eq_true z)
      have h0 := hx.1.2.2.1
      refine V_lld4 a_X11_giveBack_79 ?_
      refine V_lconst0 a_X11_giveBack_81 ?_
      refine V_lc_le_t a_X11_giveBack_82 a_X11_giveBack_83 (by omega) (by omega) ?_
      exact V_ret a_X11_giveBack_143 (⟨rfl, rfl⟩)
    · intro x hx hg ih l6 x7 x8
      have hs := G2_s hx hg
      have hg := of_decide_eq_true hg
      have h0 := hx.1.2.2.1
      have hq1 := GB_q hx.1
      obtain ⟨⟨hsl, ho, hq, hsum, hl⟩, hc, hcnt⟩ := hx
      have e1 : x.A 1 = A 1 := ho 1 (by have := hsl.2.1; omega)
      have hn1 : 0 < x.A 1 := by
        rw [e1]
        rcases lt_ge 0 (A 1) with z | z
        · exact z
        · rw [sm_neg _ z] at hsum
          omega
      have hb0 := (amx_ok (r := fun l => x.A (83 + 23 * k + 5 + l)) hn1).1
      change 0 ≤ gslA x.A k ∧ gslA x.A k < x.A 1 at hb0
      have hc2 := hs.1.2.1
      change x.c + 1 ≤ 12 at hc2
      have hk := hsl.2.1
      have hn := hsl.1
      have hb := hsl.2.2 (gslA x.A k) hb0.1 (by omega)
      have hA : (σ.bk x).J 50 0 = x.A := bk_A
      have hW0 : WF (σ.bk x) := hW
      have ih := ih (some (vI (gslA x.A k))) (some (vL (min x.q (x.A (83 + 23 * k + 5 + gslA x.A k))))) none
      refine V_lld4 a_X11_giveBack_79 ?_
      refine V_lconst0 a_X11_giveBack_81 ?_
      refine V_lc_le_f a_X11_giveBack_82 a_X11_giveBack_83 (by omega) (by omega) ?_
      refine V_aldn0 a_X11_giveBack_86 ?_
      refine V_ildn1 a_X11_giveBack_87 ?_
      refine V_v1R a_X11_giveBack_88 c_X11_292 (R_greatestSlice hW0 bk_A hsl hn1) ?_
      refine V_ist6 a_X11_giveBack_91 ?_
      refine V_lld4 a_X11_giveBack_93 ?_
      refine V_aldn0 a_X11_giveBack_95 ?_
      refine V_fin a_X11_giveBack_96 f_X11_7 rfl hW ?_
      refine V_ildn1 a_X11_giveBack_99 ?_
      refine V_iconst a_X11_giveBack_100 ?_
      refine V_iadd a_X11_giveBack_101 ?_
      refine V_ild6 a_X11_giveBack_102 ?_
      refine V_iadd a_X11_giveBack_104 ?_
      refine V_w a_X11_giveBack_105 (by omega) hA ?_
      refine V_s2R a_X11_giveBack_106 c_X11_227 (R_lmin (by omega) (by omega)) ?_
      refine V_lst7 a_X11_giveBack_109 ?_
      refine V_aldn0 a_X11_giveBack_111 ?_
      refine V_fin a_X11_giveBack_112 f_X11_7 rfl hW ?_
      refine V_ildn1 a_X11_giveBack_115 ?_
      refine V_iconst a_X11_giveBack_116 ?_
      refine V_iadd a_X11_giveBack_117 ?_
      refine V_ild6 a_X11_giveBack_118 ?_
      refine V_iadd a_X11_giveBack_120 ?_
      first | refine V_dup2IR a_X11_giveBack_121 ?_ | refine V_dup2L a_X11_giveBack_121 ?_
      refine V_w a_X11_giveBack_122 (by omega) hA ?_
      refine V_lld7 a_X11_giveBack_123 ?_
      refine V_lsub a_X11_giveBack_125 ?_
      refine V_last a_X11_giveBack_126 rfl (by omega) ?_
      rw [setJ_row, hA, bk_w]
      refine V_aldn0 a_X11_giveBack_127 ?_
      refine V_ild6 a_X11_giveBack_128 ?_
      refine V_v1V a_X11_giveBack_130 c_X11_289 (R_comesFrom (c := x.c) (hW1 (⟨upI x.A (83 + 23 * k + 5 + gslA x.A k) (x.A (83 + 23 * k + 5 + gslA x.A k) - min x.q (x.A (83 + 23 * k + 5 + gslA x.A k))), x.q, x.c, x.r⟩)) bk_c (by omega)) ?_
      rw [bk_from (q' := x.q - min x.q (x.A (83 + 23 * k + 5 + gslA x.A k)))]
      refine V_lld4 a_X11_giveBack_133 ?_
      refine V_lld7 a_X11_giveBack_135 ?_
      refine V_lsub a_X11_giveBack_137 ?_
      refine V_lst4 a_X11_giveBack_138 ?_
      refine V_goto a_X11_giveBack_140 ?_
      exact ih
  have start : σ.bk ⟨A, q, 0, σ.I 58 0⟩ = σ.setI 11 0 17 0 := by
    have e1 : rowR σ.J 50 0 A = σ.J := by rw [← hA, row_self]
    have e2 : rowR σ.I 58 0 (σ.I 58 0) = σ.I := row_self
    show ((σ.wJ (rowR σ.J 50 0 A)).wI (rowR σ.I 58 0 (σ.I 58 0))).wI (u3 (rowR σ.I 58 0 (σ.I 58 0)) 11 0 17 0) = _
    rw [e1, e2]
    rfl
  show V _ 2 0 0 0 [some (vR (some (11, 0))), some (vI (83 + 23 * k)), some (vL q), none, none, none, none, none, none] [] σ _
  refine V_lldn2 a_X11_giveBack_0 ?_
  refine V_lst4 a_X11_giveBack_1 ?_
  refine V_aldn0 a_X11_giveBack_3 ?_
  refine V_iconst a_X11_giveBack_4 ?_
  refine V_putI a_X11_giveBack_5 f_X11_279 rfl ?_
  rw [← start]
  refine V_aldn0 a_X11_giveBack_8 ?_
  refine V_ildn1 a_X11_giveBack_9 ?_
  refine V_v1R a_X11_giveBack_10 c_X11_282 (R_nextDue (hW1 ⟨A, q, 0, σ.I 58 0⟩) (bk_A (σ := σ) (x := ⟨A, q, 0, σ.I 58 0⟩)) hG.1.1) ?_
  refine V_ist6 a_X11_giveBack_13 ?_
  refine loopW (I := G1 k K A) (P := fun x => ∀ x7 x8 : Option AV, V m_X11_giveBack 2 0 0 15 [some (vR (some (11, 0))), some (vI (83 + 23 * k)), some (vL q), none, some (vL x.q), none, some (vI (nduA x.A k)), x7, x8] [] (σ.bk x) (fun r τ => r = Sum.inl none ∧ τ = σ.bk X)) (fun x hx hg => G1_s hx hg) (E := X1) ?_ ?_ ⟨A, q, 0, σ.I 58 0⟩ hG hX1 none none
  · intro hx hg x7 x8
    have hg : ¬ (nduA X1.A k ≠ -1 ∧ 0 < X1.q) := fun z => hg (decide_eq_true z)
    have hq1 := GB_q hx.1
    have h0 := hx.1.2.2.1
    obtain ⟨⟨hsl, ho, hq, hsum, hl⟩, hc, hcnt⟩ := hx
    have hnd := ndX_ok (rc := fun l => X1.A (83 + 23 * k + 11 + l)) (du := fun l => X1.A (83 + 23 * k + 17 + l)) (n := X1.A 1) hsl.1.1
    change (nduA X1.A k = -1 ∧ _) ∨ ((0 ≤ nduA X1.A k ∧ nduA X1.A k < X1.A 1) ∧ _) at hnd
    have hnd : -1 ≤ nduA X1.A k ∧ nduA X1.A k < 6 := by
      have := hsl.1
      rcases hnd with z | z
      · omega
      · have := z.1
        omega
    refine V_ild6 a_X11_giveBack_15 ?_
    refine V_iconst a_X11_giveBack_17 ?_
    refine V_icmp_eq a_X11_giveBack_18 (by omega) (fun hc18 => ?_) (fun hc18 => ?_)
    · exact p2 _ _ _
    · refine V_lld4 a_X11_giveBack_21 ?_
      refine V_lconst0 a_X11_giveBack_23 ?_
      refine V_lc_le_t a_X11_giveBack_24 a_X11_giveBack_25 (by omega) (by omega) ?_
      exact p2 _ _ _
  · intro x hx hg ih x7 x8
    have hs := G1_s hx hg
    have hg := of_decide_eq_true hg
    have hq1 := GB_q hx.1
    have h0 := hx.1.2.2.1
    obtain ⟨⟨hsl, ho, hq, hsum, hl⟩, hc, hcnt⟩ := hx
    have hnd := ndX_ok (rc := fun l => x.A (83 + 23 * k + 11 + l)) (du := fun l => x.A (83 + 23 * k + 17 + l)) (n := x.A 1) hsl.1.1
    change (nduA x.A k = -1 ∧ _) ∨ ((0 ≤ nduA x.A k ∧ nduA x.A k < x.A 1) ∧ 0 < x.A (83 + 23 * k + 11 + nduA x.A k) ∧ _) at hnd
    have hnd : (0 ≤ nduA x.A k ∧ nduA x.A k < x.A 1) ∧ 0 < x.A (83 + 23 * k + 11 + nduA x.A k) := by
      rcases hnd with z | z
      · exact absurd z.1 hg.1
      · exact ⟨z.1, z.2.1⟩
    have hc2 := hs.1.2.1
    change x.c + 1 ≤ 6 at hc2
    have hk := hsl.2.1
    have hn := hsl.1
    have hb := hsl.2.2 (nduA x.A k) hnd.1.1 (by omega)
    have hA : (σ.bk x).J 50 0 = x.A := bk_A
    have hW0 : WF (σ.bk x) := hW
    have ih := ih (some (vL (min x.q (x.A (83 + 23 * k + 11 + nduA x.A k))))) none
    refine V_ild6 a_X11_giveBack_15 ?_
    refine V_iconst a_X11_giveBack_17 ?_
    refine V_icmp_eq_f a_X11_giveBack_18 (by omega) (by omega) ?_
    refine V_lld4 a_X11_giveBack_21 ?_
    refine V_lconst0 a_X11_giveBack_23 ?_
    refine V_lc_le_f a_X11_giveBack_24 a_X11_giveBack_25 (by omega) (by omega) ?_
    refine V_lld4 a_X11_giveBack_28 ?_
    refine V_aldn0 a_X11_giveBack_30 ?_
    refine V_fin a_X11_giveBack_31 f_X11_7 rfl hW ?_
    refine V_ildn1 a_X11_giveBack_34 ?_
    refine V_bipush a_X11_giveBack_35 (by decide) ?_
    refine V_iadd a_X11_giveBack_37 ?_
    refine V_ild6 a_X11_giveBack_38 ?_
    refine V_iadd a_X11_giveBack_40 ?_
    refine V_w a_X11_giveBack_41 (by omega) hA ?_
    refine V_s2R a_X11_giveBack_42 c_X11_227 (R_lmin (by omega) (by omega)) ?_
    refine V_lst7 a_X11_giveBack_45 ?_
    refine V_aldn0 a_X11_giveBack_47 ?_
    refine V_ildn1 a_X11_giveBack_48 ?_
    refine V_ild6 a_X11_giveBack_49 ?_
    refine V_lld7 a_X11_giveBack_51 ?_
    refine V_v3V a_X11_giveBack_53 c_X11_285 (R_comeBack hW0 bk_A hk (by omega) (by omega)) ?_
    rw [bk_w]
    refine V_aldn0 a_X11_giveBack_56 ?_
    refine V_ild6 a_X11_giveBack_57 ?_
    refine V_v1V a_X11_giveBack_59 c_X11_289 (R_comesFrom (c := x.c) (hW1 ⟨cbA x.A k (nduA x.A k) (min x.q (x.A (83 + 23 * k + 11 + nduA x.A k))), x.q, x.c, x.r⟩) bk_c (by omega)) ?_
    rw [bk_from (q' := x.q - min x.q (x.A (83 + 23 * k + 11 + nduA x.A k)))]
    refine V_lld4 a_X11_giveBack_62 ?_
    refine V_lld7 a_X11_giveBack_64 ?_
    refine V_lsub a_X11_giveBack_66 ?_
    refine V_lst4 a_X11_giveBack_67 ?_
    refine V_aldn0 a_X11_giveBack_69 ?_
    refine V_ildn1 a_X11_giveBack_70 ?_
    refine V_v1R a_X11_giveBack_71 c_X11_282 (R_nextDue (hW1 (bk1 k x)) (bk_A (σ := σ) (x := bk1 k x)) hs.1.1.1) ?_
    refine V_ist6 a_X11_giveBack_74 ?_
    refine V_goto a_X11_giveBack_76 ?_
    exact ih
end Mo9

