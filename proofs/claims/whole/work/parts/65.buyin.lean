def costA (A : St) (k l : Int) : Int := (A (83 + 23 * k + 11 + l) * A (15 + A (83 + 23 * k + 2)) * (100 + A 4)).tdiv 100
def binC (k l : Int) (B : St) : St :=
  upI (upI (upI B (79 + B (83 + 23 * k + 1)) (B (79 + B (83 + 23 * k + 1)) - costA B k l)) 14 (upI B (79 + B (83 + 23 * k + 1)) (B (79 + B (83 + 23 * k + 1)) - costA B k l) 14 + costA B k l)) 10 (upI (upI B (79 + B (83 + 23 * k + 1)) (B (79 + B (83 + 23 * k + 1)) - costA B k l)) 14 (upI B (79 + B (83 + 23 * k + 1)) (B (79 + B (83 + 23 * k + 1)) - costA B k l) 14 + costA B k l) 10 + B (83 + 23 * k + 11 + l))
def binB (k l : Int) (B : St) : St := if B (83 + 23 * k + 11 + l) = 0 ∨ B 6 ≤ B (83 + 23 * k + 17 + l) then B else cbA (binC k l B) k l (B (83 + 23 * k + 11 + l))
def binX (k : Int) (A : St) (n : Int) : St := itr (binB k) n A
def binA (k : Int) (A : St) : St := binX k A (A 1)
theorem binX_s {k n : Int} {A : St} (h : 0 ≤ n) : binX k A (n + 1) = binB k n (binX k A n) := itr_s _ h _
/-- what a buying in asks of the numbers -/
def Bn (k : Int) (A : St) : Prop := Sl A k ∧ (0 ≤ A 4 ∧ A 4 ≤ 100) ∧ (0 ≤ A 6 ∧ A 6 ≤ 20000000) ∧ (0 ≤ A (83 + 23 * k + 1) ∧ A (83 + 23 * k + 1) < 4) ∧ (0 ≤ A (83 + 23 * k + 2) ∧ A (83 + 23 * k + 2) < 4) ∧ (1 ≤ A (15 + A (83 + 23 * k + 2)) ∧ A (15 + A (83 + 23 * k + 2)) ≤ 9999)
theorem binC_ac {k l : Int} {B : St} (hb : 0 ≤ B (83 + 23 * k + 1) ∧ B (83 + 23 * k + 1) < 4) : Ac B (binC k l B) := by
  unfold binC
  exact ((Ac.up (by omega)).trans (Ac.up (by omega))).trans (Ac.up (by omega))
/-- all but accounts, totals and the slices of a loan -/
def As (k : Int) (A B : St) : Prop := ∀ j, ¬ (9 ≤ j ∧ j < 15) → ¬ (73 ≤ j ∧ j < 83) → ¬ (83 + 23 * k + 5 ≤ j ∧ j < 83 + 23 * k + 23) → B j = A j
theorem binB_ok {k l : Int} {B : St} (h : Bn k B) (hl : 0 ≤ l ∧ l < 6) : As k B (binB k l B) ∧ (∀ o, 0 ≤ o → o < 6 → binB k l B (83 + 23 * k + 5 + o) = (if o = l ∧ ¬ (B (83 + 23 * k + 11 + l) = 0 ∨ B 6 ≤ B (83 + 23 * k + 17 + l)) then B (83 + 23 * k + 5 + l) - B (83 + 23 * k + 11 + l) else B (83 + 23 * k + 5 + o)) ∧ binB k l B (83 + 23 * k + 11 + o) = (if o = l ∧ ¬ (B (83 + 23 * k + 11 + l) = 0 ∨ B 6 ≤ B (83 + 23 * k + 17 + l)) then 0 else B (83 + 23 * k + 11 + o)) ∧ binB k l B (83 + 23 * k + 17 + o) = (if o = l ∧ ¬ (B (83 + 23 * k + 11 + l) = 0 ∨ B 6 ≤ B (83 + 23 * k + 17 + l)) then -1 else B (83 + 23 * k + 17 + o))) := by
  have hk := h.1.2.1
  have hac := binC_ac (l := l) h.2.2.2.1
  unfold binB
  by_cases z : B (83 + 23 * k + 11 + l) = 0 ∨ B 6 ≤ B (83 + 23 * k + 17 + l)
  · rw [if_pos z]
    refine ⟨fun _ _ _ _ => rfl, fun o o0 o1 => ?_⟩
    rw [if_neg (fun w => w.2 z), if_neg (fun w => w.2 z), if_neg (fun w => w.2 z)]
    exact ⟨rfl, rfl, rfl⟩
  · rw [if_neg z]
    refine ⟨fun j h1 h2 h3 => ?_, fun o o0 o1 => ?_⟩
    · rw [cb_out hl h3]
      exact hac j h1 h2
    · rw [cb_5 hl ⟨o0, o1⟩, cb_11 hl ⟨o0, o1⟩, cb_17 hl ⟨o0, o1⟩, hac (83 + 23 * k + 5 + l) (by omega) (by omega), hac (83 + 23 * k + 5 + o) (by omega) (by omega), hac (83 + 23 * k + 11 + l) (by omega) (by omega), hac (83 + 23 * k + 11 + o) (by omega) (by omega), hac (83 + 23 * k + 17 + o) (by omega) (by omega)]
      by_cases e : o = l
      · have w : o = l ∧ ¬ (B (83 + 23 * k + 11 + l) = 0 ∨ B 6 ≤ B (83 + 23 * k + 17 + l)) := ⟨e, z⟩
        rw [if_pos e, if_pos e, if_pos (⟨e, Int.sub_self _⟩ : o = l ∧ B (83 + 23 * k + 11 + l) - B (83 + 23 * k + 11 + l) = 0), if_pos w, if_pos w, if_pos w]
        exact ⟨rfl, Int.sub_self _, rfl⟩
      · rw [if_neg e, if_neg e, if_neg (fun w => e w.1), if_neg (fun w => e w.1), if_neg (fun w => e w.1), if_neg (fun w => e w.1)]
        exact ⟨rfl, rfl, rfl⟩
theorem binB_Bn {k l : Int} {B : St} (h : Bn k B) (hl : 0 ≤ l ∧ l < 6) : Bn k (binB k l B) := by
  have ho := binB_ok h hl
  obtain ⟨⟨h1, h2, h3⟩, h4, h5, h6, h7, h8⟩ := h
  have e2 : binB k l B (83 + 23 * k + 2) = B (83 + 23 * k + 2) := ho.1 _ (by omega) (by omega) (by omega)
  refine ⟨⟨?_, h2, fun o o0 o1 => ?_⟩, ?_, ?_, ?_, ?_, ?_⟩
  · rw [ho.1 1 (by omega) (by omega) (by omega)]
    exact h1
  · have := ho.2 o o0 o1
    have a := h3 o o0 o1
    have b := h3 l hl.1 hl.2
    rw [this.1, this.2.1, this.2.2]
    by_cases w : o = l ∧ ¬ (B (83 + 23 * k + 11 + l) = 0 ∨ B 6 ≤ B (83 + 23 * k + 17 + l))
    · rw [if_pos w, if_pos w, if_pos w]
      omega
    · rw [if_neg w, if_neg w, if_neg w]
      exact a
  · rw [ho.1 4 (by omega) (by omega) (by omega)]
    exact h4
  · rw [ho.1 6 (by omega) (by omega) (by omega)]
    exact h5
  · rw [ho.1 _ (by omega) (by omega) (by omega)]
    exact h6
  · rw [e2]
    exact h7
  · rw [e2, ho.1 _ (by omega) (by omega) (by omega)]
    exact h8
theorem binX_ok {k n : Int} {A : St} (h : Bn k A) (n0 : 0 ≤ n) (n1 : n ≤ A 1) : Bn k (binX k A n) ∧ As k A (binX k A n) := by
  have hn := h.1.1
  refine itr_ind (f := binB k) (a := A) (fun _ B => Bn k B ∧ As k A B) ⟨h, fun _ _ _ _ => rfl⟩ n0 (fun j B j0 j1 hB => ⟨binB_Bn hB.1 (by omega), fun i a b c => ?_⟩)
  rw [(binB_ok hB.1 (by omega)).1 i a b c]
  exact hB.2 i a b c
section Mo17
variable {D : Int} {σ : Hp} {A : St}
theorem R_buyIn {k : Int} (hW : WF σ) (hA : σ.J 50 0 = A) (hB : Bn k A) : Rt m_X11_buyIn 1 0 0 [vR (some (11, 0)), vI (83 + 23 * k)] σ none (σ.rJ 50 0 (binA k A)) := by
  have hW1 : ∀ B, WF (σ.rJ 50 0 B) := fun _ => hW
  have start : σ.rJ 50 0 (binX k A 0) = σ := by
    show σ.rJ 50 0 A = σ
    rw [← hA, rJ_self]
  have hn := hB.1.1
  have hk := hB.1.2.1
  show V _ 1 0 0 0 [some (vR (some (11, 0))), some (vI (83 + 23 * k)), none, none, none, none, none] [] σ _
  refine V_iconst a_X11_buyIn_0 ?_
  refine V_istn2 a_X11_buyIn_1 ?_
  refine (fun z => by rw [start] at z; exact z : V _ 1 0 0 2 [some (vR (some (11, 0))), some (vI (83 + 23 * k)), some (vI 0), none, none, none, none] [] (σ.rJ 50 0 (binX k A 0)) _ → _) ?_
  refine loopI (P := fun l => ∀ x3 x4 x5 x6 : Option AV, V _ 1 0 0 2 [some (vR (some (11, 0))), some (vI (83 + 23 * k)), some (vI l), x3, x4, x5, x6] [] (σ.rJ 50 0 (binX k A l)) _) (N := A 1) (by omega) ?_ ?_ none none none none
  · intro x3 x4 x5 x6
    have e1 := (binX_ok hB (n := A 1) (by omega) (Int.le_refl _)).2 1 (by omega) (by omega) (by omega)
    refine V_ildn2 a_X11_buyIn_2 ?_
    refine V_i2l a_X11_buyIn_3 (by omega) ?_
    refine V_aldn0 a_X11_buyIn_4 ?_
    refine V_fin a_X11_buyIn_5 f_X11_7 rfl hW ?_
    refine V_iconst a_X11_buyIn_8 ?_
    refine V_laldE a_X11_buyIn_9 rfl (by omega) (v := A 1) (by rw [rJ_J, e1]) ?_
    refine V_lc_ge_t a_X11_buyIn_10 a_X11_buyIn_11 (by omega) (by omega) ?_
    exact V_ret a_X11_buyIn_151 (⟨rfl, rfl⟩)
  · intro l l0 l1 ih x3 x4 x5 x6
    have hx := binX_ok hB (n := l) l0 (by omega)
    rw [binX_s l0] at ih
    generalize binX k A l = B at hx ih ⊢
    have e1 : B 1 = A 1 := hx.2 1 (by omega) (by omega) (by omega)
    obtain ⟨⟨h1, h2, h3⟩, h4, h5, h6, h7, h8⟩ := hx.1
    have hs := h3 l l0 (by omega)
    have m1 := mul_bd (a := B (83 + 23 * k + 11 + l)) (b := B (15 + B (83 + 23 * k + 2))) (M := 99999) (N := 9999) (by omega) (by omega) (by omega) h8.2
    have m2 := mul_bd (b := 100 + B 4) (N := 200) m1.1 m1.2 (by omega) (by omega)
    have hac := binC_ac (l := l) h6
    have e11 : binC k l B (83 + 23 * k + 11 + l) = B (83 + 23 * k + 11 + l) := hac _ (by omega) (by omega)
    have hA : (σ.rJ 50 0 B).J 50 0 = B := rJ_J
    have r1 := R_comeBack (σ := σ.rJ 50 0 (binC k l B)) (A := binC k l B) (k := k) (l := l) (v := B (83 + 23 * k + 11 + l)) hW rJ_J (by omega) (by omega) (by omega)
    rw [rJ_rJ] at r1
    unfold binB at ih
    by_cases z : B (83 + 23 * k + 11 + l) = 0 ∨ B 6 ≤ B (83 + 23 * k + 17 + l)
    · rw [if_pos z] at ih
      refine V_ildn2 a_X11_buyIn_2 ?_
      refine V_i2l a_X11_buyIn_3 (by omega) ?_
      refine V_aldn0 a_X11_buyIn_4 ?_
      refine V_fin a_X11_buyIn_5 f_X11_7 rfl hW ?_
      refine V_iconst a_X11_buyIn_8 ?_
      refine V_w a_X11_buyIn_9 (by omega) hA ?_
      refine V_lc_ge_f a_X11_buyIn_10 a_X11_buyIn_11 (by omega) (by omega) ?_
      refine V_aldn0 a_X11_buyIn_14 ?_
      refine V_fin a_X11_buyIn_15 f_X11_7 rfl hW ?_
      refine V_ildn1 a_X11_buyIn_18 ?_
      refine V_bipush a_X11_buyIn_19 (by decide) ?_
      refine V_iadd a_X11_buyIn_21 ?_
      refine V_ildn2 a_X11_buyIn_22 ?_
      refine V_iadd a_X11_buyIn_23 ?_
      refine V_w a_X11_buyIn_24 (by omega) hA ?_
      refine V_lstn3 a_X11_buyIn_25 ?_
      refine V_lldn3 a_X11_buyIn_26 ?_
      refine V_lconst0 a_X11_buyIn_27 ?_
      refine V_lc_eq a_X11_buyIn_28 a_X11_buyIn_29 (by omega) (fun hc28 => ?_) (fun hc28 => ?_)
      · refine V_inc2 a_X11_buyIn_145 ?_
        refine V_goto a_X11_buyIn_148 ?_
        exact ih _ _ _ _
      · refine V_aldn0 a_X11_buyIn_32 ?_
        refine V_fin a_X11_buyIn_33 f_X11_7 rfl hW ?_
        refine V_ildn1 a_X11_buyIn_36 ?_
        refine V_bipush a_X11_buyIn_37 (by decide) ?_
        refine V_iadd a_X11_buyIn_39 ?_
        refine V_ildn2 a_X11_buyIn_40 ?_
        refine V_iadd a_X11_buyIn_41 ?_
        refine V_w a_X11_buyIn_42 (by omega) hA ?_
        refine V_aldn0 a_X11_buyIn_43 ?_
        refine V_fin a_X11_buyIn_44 f_X11_7 rfl hW ?_
        refine V_bipush a_X11_buyIn_47 (by decide) ?_
        refine V_w a_X11_buyIn_49 (by omega) hA ?_
        refine V_lc_lt_f a_X11_buyIn_50 a_X11_buyIn_51 (by omega) (by omega) ?_
        refine V_goto a_X11_buyIn_54 ?_
        refine V_inc2 a_X11_buyIn_145 ?_
        refine V_goto a_X11_buyIn_148 ?_
        exact ih _ _ _ _
    · rw [if_neg z] at ih
      refine V_ildn2 a_X11_buyIn_2 ?_
      refine V_i2l a_X11_buyIn_3 (by omega) ?_
      refine V_aldn0 a_X11_buyIn_4 ?_
      refine V_fin a_X11_buyIn_5 f_X11_7 rfl hW ?_
      refine V_iconst a_X11_buyIn_8 ?_
      refine V_w a_X11_buyIn_9 (by omega) hA ?_
      refine V_lc_ge_f a_X11_buyIn_10 a_X11_buyIn_11 (by omega) (by omega) ?_
      refine V_aldn0 a_X11_buyIn_14 ?_
      refine V_fin a_X11_buyIn_15 f_X11_7 rfl hW ?_
      refine V_ildn1 a_X11_buyIn_18 ?_
      refine V_bipush a_X11_buyIn_19 (by decide) ?_
      refine V_iadd a_X11_buyIn_21 ?_
      refine V_ildn2 a_X11_buyIn_22 ?_
      refine V_iadd a_X11_buyIn_23 ?_
      refine V_w a_X11_buyIn_24 (by omega) hA ?_
      refine V_lstn3 a_X11_buyIn_25 ?_
      refine V_lldn3 a_X11_buyIn_26 ?_
      refine V_lconst0 a_X11_buyIn_27 ?_
      refine V_lc_eq_f a_X11_buyIn_28 a_X11_buyIn_29 (by omega) (by omega) ?_
      refine V_aldn0 a_X11_buyIn_32 ?_
      refine V_fin a_X11_buyIn_33 f_X11_7 rfl hW ?_
      refine V_ildn1 a_X11_buyIn_36 ?_
      refine V_bipush a_X11_buyIn_37 (by decide) ?_
      refine V_iadd a_X11_buyIn_39 ?_
      refine V_ildn2 a_X11_buyIn_40 ?_
      refine V_iadd a_X11_buyIn_41 ?_
      refine V_w a_X11_buyIn_42 (by omega) hA ?_
      refine V_aldn0 a_X11_buyIn_43 ?_
      refine V_fin a_X11_buyIn_44 f_X11_7 rfl hW ?_
      refine V_bipush a_X11_buyIn_47 (by decide) ?_
      refine V_w a_X11_buyIn_49 (by omega) hA ?_
      refine V_lc_lt_t a_X11_buyIn_50 a_X11_buyIn_51 (by omega) (by omega) ?_
      refine V_lldn3 a_X11_buyIn_57 ?_
      refine V_aldn0 a_X11_buyIn_58 ?_
      refine V_fin a_X11_buyIn_59 f_X11_7 rfl hW ?_
      refine V_bipush a_X11_buyIn_62 (by decide) ?_
      refine V_aldn0 a_X11_buyIn_64 ?_
      refine V_fin a_X11_buyIn_65 f_X11_7 rfl hW ?_
      refine V_ildn1 a_X11_buyIn_68 ?_
      refine V_iconst a_X11_buyIn_69 ?_
      refine V_iadd a_X11_buyIn_70 ?_
      refine V_w a_X11_buyIn_71 (by omega) hA ?_
      refine V_l2i a_X11_buyIn_72 ?_
      refine V_iadd a_X11_buyIn_73 ?_
      refine V_w a_X11_buyIn_74 (by omega) hA ?_
      refine V_lmul a_X11_buyIn_75 ?_
      refine V_ldc2 a_X11_buyIn_76 q_X11_149 ?_
      refine V_aldn0 a_X11_buyIn_79 ?_
      refine V_fin a_X11_buyIn_80 f_X11_7 rfl hW ?_
      refine V_iconst a_X11_buyIn_83 ?_
      refine V_w a_X11_buyIn_84 (by omega) hA ?_
      refine V_ladd a_X11_buyIn_85 ?_
      refine V_lmul a_X11_buyIn_86 ?_
      refine V_ldc2 a_X11_buyIn_87 q_X11_149 ?_
      refine V_ldiv a_X11_buyIn_90 (by omega) ?_
      refine V_lst5 a_X11_buyIn_91 ?_
      refine V_aldn0 a_X11_buyIn_93 ?_
      refine V_fin a_X11_buyIn_94 f_X11_7 rfl hW ?_
      refine V_bipush a_X11_buyIn_97 (by decide) ?_
      refine V_aldn0 a_X11_buyIn_99 ?_
      refine V_fin a_X11_buyIn_100 f_X11_7 rfl hW ?_
      refine V_ildn1 a_X11_buyIn_103 ?_
      refine V_iconst a_X11_buyIn_104 ?_
      refine V_iadd a_X11_buyIn_105 ?_
      refine V_w a_X11_buyIn_106 (by omega) hA ?_
      refine V_l2i a_X11_buyIn_107 ?_
      refine V_iadd a_X11_buyIn_108 ?_
      first | refine V_dup2IR a_X11_buyIn_109 ?_ | refine V_dup2L a_X11_buyIn_109 ?_
      refine V_w a_X11_buyIn_110 (by omega) hA ?_
      refine V_lld5 a_X11_buyIn_111 ?_
      refine V_lsub a_X11_buyIn_113 ?_
      refine V_last a_X11_buyIn_114 rfl (by omega) ?_
      rw [rJ_set]
      clear hA
      refine V_aldn0 a_X11_buyIn_115 ?_
      refine V_fin a_X11_buyIn_116 f_X11_7 rfl hW ?_
      refine V_bipush a_X11_buyIn_119 (by decide) ?_
      first | refine V_dup2IR a_X11_buyIn_121 ?_ | refine V_dup2L a_X11_buyIn_121 ?_
      refine V_laldE a_X11_buyIn_122 rfl (by omega) (by rw [rJ_J]) ?_
      refine V_lld5 a_X11_buyIn_123 ?_
      refine V_ladd a_X11_buyIn_125 ?_
      refine V_last a_X11_buyIn_126 rfl (by omega) ?_
      rw [rJ_set]
      refine V_aldn0 a_X11_buyIn_127 ?_
      refine V_fin a_X11_buyIn_128 f_X11_7 rfl hW ?_
      refine V_bipush a_X11_buyIn_131 (by decide) ?_
      first | refine V_dup2IR a_X11_buyIn_133 ?_ | refine V_dup2L a_X11_buyIn_133 ?_
      refine V_laldE a_X11_buyIn_134 rfl (by omega) (by rw [rJ_J]) ?_
      refine V_lldn3 a_X11_buyIn_135 ?_
      refine V_ladd a_X11_buyIn_136 ?_
      refine V_last a_X11_buyIn_137 rfl (by omega) ?_
      rw [rJ_set]
      refine V_aldn0 a_X11_buyIn_138 ?_
      refine V_ildn1 a_X11_buyIn_139 ?_
      refine V_ildn2 a_X11_buyIn_140 ?_
      refine V_lldn3 a_X11_buyIn_141 ?_
      refine V_v3V a_X11_buyIn_142 c_X11_285 r1 ?_
      refine V_inc2 a_X11_buyIn_145 ?_
      refine V_goto a_X11_buyIn_148 ?_
      exact ih _ _ _ _
end Mo17

