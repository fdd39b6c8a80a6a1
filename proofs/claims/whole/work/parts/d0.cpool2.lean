/-- what a statement with these numbers adds -/
def adV (B : St) (kw v0 v1 v2 : Int) : St :=
  if kw = 0 then upI (upI B 3 v0) 4 v1
  else if kw = 1 then upI (upI (upI B (15 + B 0) v0) (19 + B 0) v1) 0 (B 0 + 1)
  else if kw = 2 then upI (upI (upI (upI B (27 + B 1) v0) (33 + B 1) v1) (39 + B 1) v2) 1 (B 1 + 1)
  else if kw = 3 then upI (upI B (45 + B 2) v0) 2 (B 2 + 1)
  else upI B (49 + 4 * v0 + v1) v2
theorem ad_V {T : Int → Int} {e p kw : Int} {B : St} : adB T e B kw p = adV B kw (nW T e p) (nW T e (tE T e p)) (nW T e (tE T e (tE T e p))) := rfl
/-- what the reader of a pool text changes -/
def rdS (i : Nat) (t n : Nat) : Prop := ((36 ≤ t ∧ t ≤ 46) ∧ n = i) ∨ ((t = 3 ∨ t = 30 ∨ t = 31 ∨ t = 32) ∧ 12 * i ≤ n ∧ n < 12 * i + 12) ∨ t = 7 ∨ t = 9 ∨ t = 21
theorem FX.shp {S : Nat → Nat → Prop} {σ τ : Hp} {i : Nat} (f : FX S σ τ) (h : Shp σ i) : Shp τ i := by
  unfold Shp lid at h ⊢
  rw [f.2.1]
  exact h
theorem TC.fx {S : Nat → Nat → Prop} {σ τ : Hp} {T : Int → Int} {e : Int} (h : TC σ T e) (f : FX S σ τ) (hS : ¬ S 20 0) (h0 : τ.I 9 0 0 = e) : TC τ T e := ⟨f.wf h.1, fun k k0 k1 => by rw [f.I hS]; exact h.2.1 k k0 k1, h0, h.2.2.2⟩
section Pad
variable {σ : Hp} {T : Int → Int} {e p : Int} {B : St} {i : Nat} {D : Int} {kw v0 v1 v2 : Int}
/-- the entries of one pool -/
def enS (i : Nat) (t n : Nat) : Prop := (36 ≤ t ∧ t ≤ 44 ∧ t ≠ 39) ∧ n = i
/-- who was served last, for every security that may come -/
def Sv (σ : Hp) (i : Nat) (B : St) : Prop := ∀ s, 0 ≤ s → s < 4 → σ.I 39 i s = B (23 + s)
theorem adV_sv {s : Int} (hn : (0 ≤ B 0 ∧ B 0 ≤ 4) ∧ (0 ≤ B 1 ∧ B 1 ≤ 6) ∧ (0 ≤ B 2 ∧ B 2 ≤ 4)) (h4 : kw = 4 → (0 ≤ v0 ∧ v0 < 6) ∧ 0 ≤ v1 ∧ v1 < 4) (hf : B 0 < 4 ∨ kw ≠ 1) (hk : 0 ≤ kw ∧ kw ≤ 4) (s0 : 0 ≤ s) (s1 : s < 4) : adV B kw v0 v1 v2 (23 + s) = B (23 + s) := by
  unfold adV
  by_cases a : kw = 0
  · rw [if_pos a, upI_ne (by omega), upI_ne (by omega)]
  · rw [if_neg a]
    by_cases b : kw = 1
    · rw [if_pos b, upI_ne (by omega), upI_ne (by omega), upI_ne (by omega)]
    · rw [if_neg b]
      by_cases c : kw = 2
      · rw [if_pos c, upI_ne (by omega), upI_ne (by omega), upI_ne (by omega), upI_ne (by omega)]
      · rw [if_neg c]
        by_cases d : kw = 3
        · rw [if_pos d, upI_ne (by omega), upI_ne (by omega)]
        · have h4 := h4 (by omega)
          rw [if_neg d, upI_ne (by omega)]
theorem R_add0 (h : Cl D σ i B) (g0 : σ.I 21 0 0 = v0) (g1 : σ.I 21 0 1 = v1) : Cv m_X7_add 0 0 0 [vR (some (7, 0)), vR (some (6, i)), vI 0] σ none (fun τ => FX (enS i) σ τ ∧ Rel τ i (adV B 0 v0 v1 v2)) := by
  obtain ⟨hD, hW, hR, hS, hI⟩ := h
  have hn := hI.n
  obtain ⟨n0, n1, n2, n3, n4, n5, n6, n7, n8⟩ := hR.1
  have hb : B 0 ≤ 4 ∧ B 1 ≤ 6 ∧ B 2 ≤ 4 := ⟨hn.1.2, hn.2.1.2, hn.2.2.1.2⟩
  have sI : ∀ (t : Nat) (k v : Int) (τ : Hp), (36 ≤ t ∧ t ≤ 44 ∧ t ≠ 39) → FX (enS i) τ (τ.setI t i k v) := fun t k v τ ht => FX.setI ⟨ht, rfl⟩
  have r1 := hR.setN (v := v0) (p := 7) (c := 3) hb (Or.inr (Or.inr (Or.inl ⟨rfl, rfl⟩)))
  have r2 := r1.setN (v := v1) (p := 8) (c := 4) (by rw [upI_ne (by decide), upI_ne (by decide), upI_ne (by decide)]; exact hb) (Or.inr (Or.inr (Or.inr ⟨rfl, rfl⟩)))
  have g1b : (σ.setI 36 i 7 v0).I 21 0 1 = v1 := by
    rw [setI_t (by decide)]
    exact g1
  show V _ 0 0 0 0 [some (vR (some (7, 0))), some (vR (some (6, i))), some (vI 0)] [] σ _
  refine V_ildn2 a_X7_add_0 ?_
  refine V_table_in a_X7_add_1 (off := 31) rfl rfl (by omega) (by omega) ?_
  refine V_aldn1 a_X7_add_32 ?_
  refine V_fin a_X7_add_33 f_X7_86 rfl hW ?_
  refine V_bipush a_X7_add_36 (by decide) ?_
  refine V_aldn0 a_X7_add_38 ?_
  refine V_fin a_X7_add_39 f_X7_15 rfl hW ?_
  refine V_iconst a_X7_add_42 ?_
  refine V_ialdE a_X7_add_43 rfl (by omega) g0 ?_
  refine V_iast a_X7_add_44 rfl (by omega) ?_
  refine V_aldn1 a_X7_add_45 ?_
  refine V_fin a_X7_add_46 f_X7_86 rfl hW ?_
  refine V_bipush a_X7_add_49 (by decide) ?_
  refine V_aldn0 a_X7_add_51 ?_
  refine V_fin a_X7_add_52 f_X7_15 rfl hW ?_
  refine V_iconst a_X7_add_55 ?_
  refine V_ialdE a_X7_add_56 rfl (by omega) g1b ?_
  refine V_iast a_X7_add_57 rfl (by omega) ?_
  refine V_goto a_X7_add_58 ?_
  exact V_ret a_X7_add_228 (⟨rfl, (sI _ _ _ _ (by decide)).trans (sI _ _ _ _ (by decide)), r2⟩)
theorem R_add1 (h : Cl D σ i B) (g0 : σ.I 21 0 0 = v0) (g1 : σ.I 21 0 1 = v1) (hf : B 0 ≠ 4) (sv : Sv σ i B) : Cv m_X7_add 0 0 0 [vR (some (7, 0)), vR (some (6, i)), vI 1] σ none (fun τ => FX (enS i) σ τ ∧ Rel τ i (adV B 1 v0 v1 v2)) := by
  obtain ⟨hD, hW, hR, hS, hI⟩ := h
  have hn := hI.n
  obtain ⟨n0, n1, n2, n3, n4, n5, n6, n7, n8⟩ := hR.1
  have hb : B 0 ≤ 4 ∧ B 1 ≤ 6 ∧ B 2 ≤ 4 := ⟨hn.1.2, hn.2.1.2, hn.2.2.1.2⟩
  have sI : ∀ (t : Nat) (k v : Int) (τ : Hp), (36 ≤ t ∧ t ≤ 44 ∧ t ≠ 39) → FX (enS i) τ (τ.setI t i k v) := fun t k v τ ht => FX.setI ⟨ht, rfl⟩
  have r1 := rel_pt (v := v0) hR hb (t := 37) (o := 15) (x := B 0) (Or.inl ⟨rfl, rfl, by omega, by omega⟩)
  have r2 := rel_pt (v := v1) r1 (by rw [upI_ne (by omega), upI_ne (by omega), upI_ne (by omega)]; exact hb) (t := 38) (o := 19) (x := B 0) (Or.inr (Or.inl ⟨rfl, rfl, by omega, by omega⟩))
  have e0 : upI (upI B (15 + B 0) v0) (19 + B 0) v1 0 = B 0 := by rw [upI_ne (by omega), upI_ne (by omega)]
  have e1 : upI (upI B (15 + B 0) v0) (19 + B 0) v1 1 = B 1 := by rw [upI_ne (by omega), upI_ne (by omega)]
  have e2 : upI (upI B (15 + B 0) v0) (19 + B 0) v1 2 = B 2 := by rw [upI_ne (by omega), upI_ne (by omega)]
  have i37 : ((σ.setI 37 i (B 0) v0).setI 38 i (B 0) v1).I 37 i (B 0) = v0 := by rw [setI_t (by decide), setI_I]
  have r3 := rel_num (v := B 0 + 1) (p := 0) (c := 0) r2 (by rw [e0, e1, e2]; exact hb) ⟨by rw [upI_eq]; omega, by rw [upI_ne (show (1 : Int) ≠ 0 by decide), e1]; exact hb.2.1, by rw [upI_ne (show (2 : Int) ≠ 0 by decide), e2]; exact hb.2.2⟩ (Or.inl ⟨rfl, rfl⟩) (by decide) (fun s s0 s1 => by
    rw [upI_eq] at s1
    by_cases z : s = B 0
    · rw [z]
      exact ⟨by rw [i37, upI_ne (by omega), upI_eq], by rw [setI_I, upI_eq]⟩
    · exact r2.sec s0 (by rw [e0]; omega)) (fun l l0 l1 => by
    rw [upI_ne (by decide)] at l1
    exact r2.lend l0 l1) (fun b b0 b1 => by
    rw [upI_ne (by decide)] at b1
    exact r2.2.2.2.2.1 b b0 b1) (fun s s0 s1 => by
    rw [upI_eq] at s1
    rw [setI_t (by decide), setI_t (by decide), upI_ne (by omega), upI_ne (by omega)]
    exact sv s s0 (by omega))
  have g1b : (σ.setI 37 i (B 0) v0).I 21 0 1 = v1 := by
    rw [setI_t (by decide)]
    exact g1
  have n0b : (σ.setI 37 i (B 0) v0).I 36 i 0 = B 0 := by
    rw [setI_t (by decide)]
    exact n0
  have n0c : ((σ.setI 37 i (B 0) v0).setI 38 i (B 0) v1).I 36 i 0 = B 0 := by
    rw [setI_t (by decide)]
    exact n0b
  show V _ 0 0 0 0 [some (vR (some (7, 0))), some (vR (some (6, i))), some (vI 1)] [] σ _
  refine V_ildn2 a_X7_add_0 ?_
  refine V_table_in a_X7_add_1 (off := 60) rfl rfl (by omega) (by omega) ?_
  refine V_aldn1 a_X7_add_61 ?_
  refine V_fin a_X7_add_62 f_X7_110 rfl hW ?_
  refine V_aldn1 a_X7_add_65 ?_
  refine V_fin a_X7_add_66 f_X7_86 rfl hW ?_
  refine V_iconst a_X7_add_69 ?_
  refine V_ialdE a_X7_add_70 rfl (by omega) n0 ?_
  refine V_aldn0 a_X7_add_71 ?_
  refine V_fin a_X7_add_72 f_X7_15 rfl hW ?_
  refine V_iconst a_X7_add_75 ?_
  refine V_ialdE a_X7_add_76 rfl (by omega) g0 ?_
  refine V_iast a_X7_add_77 rfl (by omega) ?_
  refine V_aldn1 a_X7_add_78 ?_
  refine V_fin a_X7_add_79 f_X7_113 rfl hW ?_
  refine V_aldn1 a_X7_add_82 ?_
  refine V_fin a_X7_add_83 f_X7_86 rfl hW ?_
  refine V_iconst a_X7_add_86 ?_
  refine V_ialdE a_X7_add_87 rfl (by omega) n0b ?_
  refine V_aldn0 a_X7_add_88 ?_
  refine V_fin a_X7_add_89 f_X7_15 rfl hW ?_
  refine V_iconst a_X7_add_92 ?_
  refine V_ialdE a_X7_add_93 rfl (by omega) g1b ?_
  refine V_iast a_X7_add_94 rfl (by omega) ?_
  refine V_aldn1 a_X7_add_95 ?_
  refine V_fin a_X7_add_96 f_X7_86 rfl hW ?_
  refine V_iconst a_X7_add_99 ?_
  first | refine V_dup2IR a_X7_add_100 ?_ | refine V_dup2L a_X7_add_100 ?_
  refine V_ialdE a_X7_add_101 rfl (by omega) n0c ?_
  refine V_iconst a_X7_add_102 ?_
  refine V_iadd a_X7_add_103 ?_
  refine V_iast a_X7_add_104 rfl (by omega) ?_
  refine V_goto a_X7_add_105 ?_
  exact V_ret a_X7_add_228 (⟨rfl, ((sI _ _ _ _ (by decide)).trans (sI _ _ _ _ (by decide))).trans (sI _ _ _ _ (by decide)), r3⟩)
theorem R_add2 (h : Cl D σ i B) (g0 : σ.I 21 0 0 = v0) (g1 : σ.I 21 0 1 = v1) (g2 : σ.I 21 0 2 = v2) (hf : B 1 ≠ 6) : Cv m_X7_add 0 0 0 [vR (some (7, 0)), vR (some (6, i)), vI 2] σ none (fun τ => FX (enS i) σ τ ∧ Rel τ i (adV B 2 v0 v1 v2)) := by
  obtain ⟨hD, hW, hR, hS, hI⟩ := h
  have hn := hI.n
  obtain ⟨n0, n1, n2, n3, n4, n5, n6, n7, n8⟩ := hR.1
  have hb : B 0 ≤ 4 ∧ B 1 ≤ 6 ∧ B 2 ≤ 4 := ⟨hn.1.2, hn.2.1.2, hn.2.2.1.2⟩
  have sI : ∀ (t : Nat) (k v : Int) (τ : Hp), (36 ≤ t ∧ t ≤ 44 ∧ t ≠ 39) → FX (enS i) τ (τ.setI t i k v) := fun t k v τ ht => FX.setI ⟨ht, rfl⟩
  have r1 := rel_pt (v := v0) hR hb (t := 40) (o := 27) (x := B 1) (Or.inr (Or.inr (Or.inr (Or.inl ⟨rfl, rfl, by omega, by omega⟩))))
  have r2 := rel_pt (v := v1) r1 (by rw [upI_ne (by omega), upI_ne (by omega), upI_ne (by omega)]; exact hb) (t := 41) (o := 33) (x := B 1) (Or.inr (Or.inr (Or.inr (Or.inr (Or.inl ⟨rfl, rfl, by omega, by omega⟩)))))
  have r3 := rel_pt (v := v2) r2 (by rw [upI_ne (by omega), upI_ne (by omega), upI_ne (by omega), upI_ne (by omega), upI_ne (by omega), upI_ne (by omega)]; exact hb) (t := 42) (o := 39) (x := B 1) (Or.inr (Or.inr (Or.inr (Or.inr (Or.inr (Or.inl ⟨rfl, rfl, by omega, by omega⟩))))))
  have ee : ∀ j, j < 9 → upI (upI (upI B (27 + B 1) v0) (33 + B 1) v1) (39 + B 1) v2 j = B j := fun j hj => by rw [upI_ne (by omega), upI_ne (by omega), upI_ne (by omega)]
  have i40 : (((σ.setI 40 i (B 1) v0).setI 41 i (B 1) v1).setI 42 i (B 1) v2).I 40 i (B 1) = v0 := by rw [setI_t (by decide), setI_t (by decide), setI_I]
  have i41 : (((σ.setI 40 i (B 1) v0).setI 41 i (B 1) v1).setI 42 i (B 1) v2).I 41 i (B 1) = v1 := by rw [setI_t (by decide), setI_I]
  have r4 := rel_num (v := B 1 + 1) (p := 1) (c := 1) r3 (by rw [ee 0 (by decide), ee 1 (by decide), ee 2 (by decide)]; exact hb) ⟨by rw [upI_ne (show (0 : Int) ≠ 1 by decide), ee 0 (by decide)]; exact hb.1, by rw [upI_eq]; omega, by rw [upI_ne (show (2 : Int) ≠ 1 by decide), ee 2 (by decide)]; exact hb.2.2⟩ (Or.inr (Or.inl ⟨rfl, rfl⟩)) (by decide) (fun s s0 s1 => by
    rw [upI_ne (by decide)] at s1
    exact r3.sec s0 s1) (fun l l0 l1 => by
    rw [upI_eq] at l1
    by_cases z : l = B 1
    · rw [z]
      exact ⟨by rw [i40, upI_ne (by omega), upI_ne (by omega), upI_eq], by rw [i41, upI_ne (by omega), upI_eq], by rw [setI_I, upI_eq]⟩
    · exact r3.lend l0 (by rw [ee 1 (by decide)]; omega)) (fun b b0 b1 => by
    rw [upI_ne (by decide)] at b1
    exact r3.2.2.2.2.1 b b0 b1) (fun s s0 s1 => by
    rw [upI_ne (by decide)] at s1
    exact r3.2.2.1 s s0 s1)
  have g1b : (σ.setI 40 i (B 1) v0).I 21 0 1 = v1 := by
    rw [setI_t (by decide)]
    exact g1
  have g2c : ((σ.setI 40 i (B 1) v0).setI 41 i (B 1) v1).I 21 0 2 = v2 := by
    rw [setI_t (by decide), setI_t (by decide)]
    exact g2
  have n1b : (σ.setI 40 i (B 1) v0).I 36 i 1 = B 1 := by
    rw [setI_t (by decide)]
    exact n1
  have n1c : ((σ.setI 40 i (B 1) v0).setI 41 i (B 1) v1).I 36 i 1 = B 1 := by
    rw [setI_t (by decide)]
    exact n1b
  have n1d : (((σ.setI 40 i (B 1) v0).setI 41 i (B 1) v1).setI 42 i (B 1) v2).I 36 i 1 = B 1 := by
    rw [setI_t (by decide)]
    exact n1c
  show V _ 0 0 0 0 [some (vR (some (7, 0))), some (vR (some (6, i))), some (vI 2)] [] σ _
  refine V_ildn2 a_X7_add_0 ?_
  refine V_table_in a_X7_add_1 (off := 107) rfl rfl (by omega) (by omega) ?_
  refine V_aldn1 a_X7_add_108 ?_
  refine V_fin a_X7_add_109 f_X7_116 rfl hW ?_
  refine V_aldn1 a_X7_add_112 ?_
  refine V_fin a_X7_add_113 f_X7_86 rfl hW ?_
  refine V_iconst a_X7_add_116 ?_
  refine V_ialdE a_X7_add_117 rfl (by omega) n1 ?_
  refine V_aldn0 a_X7_add_118 ?_
  refine V_fin a_X7_add_119 f_X7_15 rfl hW ?_
  refine V_iconst a_X7_add_122 ?_
  refine V_ialdE a_X7_add_123 rfl (by omega) g0 ?_
  refine V_iast a_X7_add_124 rfl (by omega) ?_
  refine V_aldn1 a_X7_add_125 ?_
  refine V_fin a_X7_add_126 f_X7_119 rfl hW ?_
  refine V_aldn1 a_X7_add_129 ?_
  refine V_fin a_X7_add_130 f_X7_86 rfl hW ?_
  refine V_iconst a_X7_add_133 ?_
  refine V_ialdE a_X7_add_134 rfl (by omega) n1b ?_
  refine V_aldn0 a_X7_add_135 ?_
  refine V_fin a_X7_add_136 f_X7_15 rfl hW ?_
  refine V_iconst a_X7_add_139 ?_
  refine V_ialdE a_X7_add_140 rfl (by omega) g1b ?_
  refine V_iast a_X7_add_141 rfl (by omega) ?_
  refine V_aldn1 a_X7_add_142 ?_
  refine V_fin a_X7_add_143 f_X7_122 rfl hW ?_
  refine V_aldn1 a_X7_add_146 ?_
  refine V_fin a_X7_add_147 f_X7_86 rfl hW ?_
  refine V_iconst a_X7_add_150 ?_
  refine V_ialdE a_X7_add_151 rfl (by omega) n1c ?_
  refine V_aldn0 a_X7_add_152 ?_
  refine V_fin a_X7_add_153 f_X7_15 rfl hW ?_
  refine V_iconst a_X7_add_156 ?_
  refine V_ialdE a_X7_add_157 rfl (by omega) g2c ?_
  refine V_iast a_X7_add_158 rfl (by omega) ?_
  refine V_aldn1 a_X7_add_159 ?_
  refine V_fin a_X7_add_160 f_X7_86 rfl hW ?_
  refine V_iconst a_X7_add_163 ?_
  first | refine V_dup2IR a_X7_add_164 ?_ | refine V_dup2L a_X7_add_164 ?_
  refine V_ialdE a_X7_add_165 rfl (by omega) n1d ?_
  refine V_iconst a_X7_add_166 ?_
  refine V_iadd a_X7_add_167 ?_
  refine V_iast a_X7_add_168 rfl (by omega) ?_
  refine V_goto a_X7_add_169 ?_
  exact V_ret a_X7_add_228 (⟨rfl, (((sI _ _ _ _ (by decide)).trans (sI _ _ _ _ (by decide))).trans (sI _ _ _ _ (by decide))).trans (sI _ _ _ _ (by decide)), r4⟩)
theorem R_add3 (h : Cl D σ i B) (g0 : σ.I 21 0 0 = v0) (hf : B 2 ≠ 4) : Cv m_X7_add 0 0 0 [vR (some (7, 0)), vR (some (6, i)), vI 3] σ none (fun τ => FX (enS i) σ τ ∧ Rel τ i (adV B 3 v0 v1 v2)) := by
  obtain ⟨hD, hW, hR, hS, hI⟩ := h
  have hn := hI.n
  obtain ⟨n0, n1, n2, n3, n4, n5, n6, n7, n8⟩ := hR.1
  have hb : B 0 ≤ 4 ∧ B 1 ≤ 6 ∧ B 2 ≤ 4 := ⟨hn.1.2, hn.2.1.2, hn.2.2.1.2⟩
  have sI : ∀ (t : Nat) (k v : Int) (τ : Hp), (36 ≤ t ∧ t ≤ 44 ∧ t ≠ 39) → FX (enS i) τ (τ.setI t i k v) := fun t k v τ ht => FX.setI ⟨ht, rfl⟩
  have r1 := rel_pt (v := v0) hR hb (t := 43) (o := 45) (x := B 2) (Or.inr (Or.inr (Or.inr (Or.inr (Or.inr (Or.inr (Or.inl ⟨rfl, rfl, by omega, by omega⟩)))))))
  have ee : ∀ j, j < 9 → upI B (45 + B 2) v0 j = B j := fun j hj => by rw [upI_ne (by omega)]
  have r2 := rel_num (v := B 2 + 1) (p := 2) (c := 2) r1 (by rw [ee 0 (by decide), ee 1 (by decide), ee 2 (by decide)]; exact hb) ⟨by rw [upI_ne (show (0 : Int) ≠ 2 by decide), ee 0 (by decide)]; exact hb.1, by rw [upI_ne (show (1 : Int) ≠ 2 by decide), ee 1 (by decide)]; exact hb.2.1, by rw [upI_eq]; omega⟩ (Or.inr (Or.inr (Or.inl ⟨rfl, rfl⟩))) (by decide) (fun s s0 s1 => by
    rw [upI_ne (by decide)] at s1
    exact r1.sec s0 s1) (fun l l0 l1 => by
    rw [upI_ne (by decide)] at l1
    exact r1.lend l0 l1) (fun b b0 b1 => by
    rw [upI_eq] at b1
    by_cases z : b = B 2
    · rw [z, setI_I, upI_eq]
    · exact r1.2.2.2.2.1 b b0 (by rw [ee 2 (by decide)]; omega)) (fun s s0 s1 => by
    rw [upI_ne (by decide)] at s1
    exact r1.2.2.1 s s0 s1)
  have n2b : (σ.setI 43 i (B 2) v0).I 36 i 2 = B 2 := by
    rw [setI_t (by decide)]
    exact n2
  show V _ 0 0 0 0 [some (vR (some (7, 0))), some (vR (some (6, i))), some (vI 3)] [] σ _
  refine V_ildn2 a_X7_add_0 ?_
  refine V_table_in a_X7_add_1 (off := 171) rfl rfl (by omega) (by omega) ?_
  refine V_aldn1 a_X7_add_172 ?_
  refine V_fin a_X7_add_173 f_X7_125 rfl hW ?_
  refine V_aldn1 a_X7_add_176 ?_
  refine V_fin a_X7_add_177 f_X7_86 rfl hW ?_
  refine V_iconst a_X7_add_180 ?_
  refine V_ialdE a_X7_add_181 rfl (by omega) n2 ?_
  refine V_aldn0 a_X7_add_182 ?_
  refine V_fin a_X7_add_183 f_X7_15 rfl hW ?_
  refine V_iconst a_X7_add_186 ?_
  refine V_ialdE a_X7_add_187 rfl (by omega) g0 ?_
  refine V_iast a_X7_add_188 rfl (by omega) ?_
  refine V_aldn1 a_X7_add_189 ?_
  refine V_fin a_X7_add_190 f_X7_86 rfl hW ?_
  refine V_iconst a_X7_add_193 ?_
  first | refine V_dup2IR a_X7_add_194 ?_ | refine V_dup2L a_X7_add_194 ?_
  refine V_ialdE a_X7_add_195 rfl (by omega) n2b ?_
  refine V_iconst a_X7_add_196 ?_
  refine V_iadd a_X7_add_197 ?_
  refine V_iast a_X7_add_198 rfl (by omega) ?_
  refine V_goto a_X7_add_199 ?_
  exact V_ret a_X7_add_228 (⟨rfl, (sI _ _ _ _ (by decide)).trans (sI _ _ _ _ (by decide)), r2⟩)
theorem R_add4 (h : Cl D σ i B) (g0 : σ.I 21 0 0 = v0) (g1 : σ.I 21 0 1 = v1) (g2 : σ.I 21 0 2 = v2) (h4 : (0 ≤ v0 ∧ v0 < 6) ∧ 0 ≤ v1 ∧ v1 < 4) : Cv m_X7_add 0 0 0 [vR (some (7, 0)), vR (some (6, i)), vI 4] σ none (fun τ => FX (enS i) σ τ ∧ Rel τ i (adV B 4 v0 v1 v2)) := by
  obtain ⟨hD, hW, hR, hS, hI⟩ := h
  have hn := hI.n
  obtain ⟨n0, n1, n2, n3, n4, n5, n6, n7, n8⟩ := hR.1
  have hb : B 0 ≤ 4 ∧ B 1 ≤ 6 ∧ B 2 ≤ 4 := ⟨hn.1.2, hn.2.1.2, hn.2.2.1.2⟩
  have sI : ∀ (t : Nat) (k v : Int) (τ : Hp), (36 ≤ t ∧ t ≤ 44 ∧ t ≠ 39) → FX (enS i) τ (τ.setI t i k v) := fun t k v τ ht => FX.setI ⟨ht, rfl⟩
  have r1 := rel_pt (v := v2) hR hb (t := 44) (o := 49) (x := v0 * 4 + v1) (Or.inr (Or.inr (Or.inr (Or.inr (Or.inr (Or.inr (Or.inr (⟨rfl, rfl, by omega, by omega⟩))))))))
  rw [show 49 + (v0 * 4 + v1) = 49 + 4 * v0 + v1 by omega] at r1
  show V _ 0 0 0 0 [some (vR (some (7, 0))), some (vR (some (6, i))), some (vI 4)] [] σ _
  refine V_ildn2 a_X7_add_0 ?_
  refine V_table_out a_X7_add_1 (tgt := 202) rfl (by omega) (by omega) ?_
  refine V_aldn1 a_X7_add_202 ?_
  refine V_fin a_X7_add_203 f_X7_128 rfl hW ?_
  refine V_aldn0 a_X7_add_206 ?_
  refine V_fin a_X7_add_207 f_X7_15 rfl hW ?_
  refine V_iconst a_X7_add_210 ?_
  refine V_ialdE a_X7_add_211 rfl (by omega) g0 ?_
  refine V_iconst a_X7_add_212 ?_
  refine V_imul a_X7_add_213 ?_
  refine V_aldn0 a_X7_add_214 ?_
  refine V_fin a_X7_add_215 f_X7_15 rfl hW ?_
  refine V_iconst a_X7_add_218 ?_
  refine V_ialdE a_X7_add_219 rfl (by omega) g1 ?_
  refine V_iadd a_X7_add_220 ?_
  refine V_aldn0 a_X7_add_221 ?_
  refine V_fin a_X7_add_222 f_X7_15 rfl hW ?_
  refine V_iconst a_X7_add_225 ?_
  refine V_ialdE a_X7_add_226 rfl (by omega) g2 ?_
  refine V_iast a_X7_add_227 rfl (by omega) ?_
  exact V_ret a_X7_add_228 (⟨rfl, sI _ _ _ _ (by decide), r1⟩)
theorem R_add (h : Cl D σ i B) (g0 : σ.I 21 0 0 = v0) (g1 : 1 < vcA kw → σ.I 21 0 1 = v1) (g2 : 2 < vcA kw → σ.I 21 0 2 = v2) (hk : 0 ≤ kw ∧ kw ≤ 4) (hf : ¬ flA B kw = true) (h4 : kw = 4 → (0 ≤ v0 ∧ v0 < 6) ∧ 0 ≤ v1 ∧ v1 < 4) (sv : Sv σ i B) : Cv m_X7_add 0 0 0 [vR (some (7, 0)), vR (some (6, i)), vI kw] σ none (fun τ => FX (enS i) σ τ ∧ Rel τ i (adV B kw v0 v1 v2)) := by
  have hf : ¬ ((kw = 1 ∧ B 0 = 4) ∨ (kw = 2 ∧ B 1 = 6) ∨ (kw = 3 ∧ B 2 = 4)) := fun z => hf (decide_eq_true z)
  have cs : kw = 0 ∨ kw = 1 ∨ kw = 2 ∨ kw = 3 ∨ kw = 4 := by omega
  rcases cs with rfl | rfl | rfl | rfl | rfl
  · exact R_add0 h g0 (g1 (by decide))
  · exact R_add1 h g0 (g1 (by decide)) (fun z => hf (Or.inl ⟨rfl, z⟩)) sv
  · exact R_add2 h g0 (g1 (by decide)) (g2 (by decide)) (fun z => hf (Or.inr (Or.inl ⟨rfl, z⟩)))
  · exact R_add3 h g0 (fun z => hf (Or.inr (Or.inr ⟨rfl, z⟩)))
  · exact R_add4 h g0 (g1 (by decide)) (g2 (by decide)) (h4 rfl)
end Pad
section Prs
variable {σ : Hp} {T : Int → Int} {e p : Int} {B : St} {i : Nat}
/-- behind a statement -/
def RsQ (σ : Hp) (T : Int → Int) (e : Int) (i : Nat) (x : Int × Int × St) (r : Res) (τ : Hp) : Prop := r = .inl (some (vI x.1)) ∧ FX (rdS i) σ τ ∧ TC τ T e ∧ (τ.I 7 0 0 = σ.I 7 0 0 ∧ τ.I 7 0 1 = σ.I 7 0 1) ∧ (x.1 = 0 → (Cl 0 τ i x.2.2 ∧ Sv τ i x.2.2) ∧ τ.I 9 0 4 = x.2.1) ∧ (x.1 ≠ 0 → τ.I 9 0 2 = x.2.1)
/-- where the numbers stand -/
def qnA (T : Int → Int) (e q : Int) (m : Int) : Int := itr (fun _ x => tE T e x) m q
theorem fx9 {σ τ : Hp} (f : Fm [9] σ τ) : FX (rdS i) σ τ := f.fx (fun t n ht => by
  have : t = 9 := List.mem_singleton.mp ht
  unfold rdS
  omega)
theorem vc_bd {kw : Int} : 0 ≤ vcA kw ∧ vcA kw ≤ 3 := by
  unfold vcA
  split
  · omega
  · split
    · omega
    · split <;> omega
theorem rs_loop {kw q0 fi : Int} (hB : FrI B) (hk : 0 ≤ kw ∧ kw ≤ 4) (hf : ¬ flA B kw = true) (hpos : kw = 4 → (ftN T e (spL B kw) q0).1 = 0 → (0 ≤ nW T e q0 ∧ nW T e q0 < 6) ∧ 0 ≤ nW T e (tE T e q0) ∧ nW T e (tE T e q0) < 4) (hfr : (ftN T e (spL B kw) q0).1 = 0 → FrI (adB T e B kw q0)) : ∀ (n : Nat) (m q : Int) (τ : Hp), m + n = vcA kw → 0 ≤ m → TC τ T e → Cl 0 τ i B → Sv τ i B → τ.I 9 0 4 = q → 0 ≤ q ∧ q ≤ e → FX (rdS i) σ τ → (τ.I 7 0 0 = σ.I 7 0 0 ∧ τ.I 7 0 1 = σ.I 7 0 1) → (∀ j, 0 ≤ j → j < m → τ.I 21 0 j = nW T e (qnA T e q0 j)) → qnA T e q0 m = q → ftN T e (spL B kw) q0 = ftN T e (spR B kw n m) q → V m_X7_readStatement 6 0 0 18 [some (vR (some (7, 0))), some (vR (some (9, 0))), some (vR (some (6, i))), some (vI fi), some (vI kw), some (vI 0), some (vI m)] [] τ (RsQ σ T e i (if (ftN T e (spR B kw n m) q).1 ≠ 0 then ((ftN T e (spR B kw n m) q).1, (ftN T e (spR B kw n m) q).2, B) else if ¬ wdB T e (ftN T e (spR B kw n m) q).2 29 = true then (1, tF T e (ftN T e (spR B kw n m) q).2, B) else (0, tE T e (ftN T e (spR B kw n m) q).2, adB T e B kw q0))) := by
  have hv := vc_bd (kw := kw)
  have rv : ∀ τ : Hp, Rt m_X7_valueCount 0 0 0 [vI kw] τ (some (vI (vcA kw))) τ := fun τ => R_valueCount (by omega)
  intro n
  induction n with
  | zero =>
    intro m q τ hm m0 hc hcl sv h4 hq fx k7 hvals hqm hft
    have hm : m = vcA kw := by omega
    have e0 : ftN T e (spR B kw 0 m) q = (0, q) := rfl
    rw [e0] at hft ⊢
    rw [if_neg (fun z => z rfl)]
    have hpos := fun z => hpos z (by rw [hft])
    have hfr := hfr (by rw [hft])
    have rt := R_readToken hc hq h4
    have rvt := rv τ
    have hW := hc.1
    refine V_ild6 a_X7_readStatement_18 ?_
    refine V_ild4 a_X7_readStatement_20 ?_
    refine V_s1R a_X7_readStatement_22 c_X7_53 rvt ?_
    refine V_icmp_ge_t a_X7_readStatement_25 (by omega) (by omega) ?_
    refine V_ild5 a_X7_readStatement_65 ?_
    refine V_if_eq_t a_X7_readStatement_67 (by omega) (by omega) ?_
    refine V_aldn1 a_X7_readStatement_73 ?_
    refine V_v0PV a_X7_readStatement_74 c_X7_32 rt (fun τ2 hτ2 => ?_)
    skip
    obtain ⟨f2, k2⟩ := hτ2
    have k2' := k2
    obtain ⟨t0, t1, t2, t4, t3⟩ := k2
    have hc2 : TC τ2 T e := hc.fm f2 (by decide) t0
    have hcl2 : Cl 0 τ2 i B := hcl.fm f2 (by decide)
    have fx2 : FX (rdS i) σ τ2 := fx.trans (fx9 f2)
    have sv2 : Sv τ2 i B := fun s s0 s1 => by
      rw [f2.I (by decide)]
      exact sv s s0 s1
    have k72 : τ2.I 7 0 0 = σ.I 7 0 0 ∧ τ2.I 7 0 1 = σ.I 7 0 1 := by
      rw [f2.I (by decide)]
      exact k7
    have hkb := tk_bd (T := T) (e := e) (f := tF T e q)
    by_cases w : wdB T e q 29 = true
    · rw [if_neg (fun z => z w)]
      have hk3 := (tk_3 hq.2).mpr w
      have hvl : ∀ j, 0 ≤ j → j < m → τ2.I 21 0 j = nW T e (qnA T e q0 j) := fun j j0 j1 => by
        rw [f2.I (by decide)]
        exact hvals j j0 j1
      have v1 : 1 ≤ vcA kw := by
        unfold vcA
        split
        · omega
        · split
          · omega
          · rw [if_pos (by omega)]
            omega
      have ra := R_add (v0 := nW T e q0) (v1 := nW T e (tE T e q0)) (v2 := nW T e (tE T e (tE T e q0))) hcl2 (hvl 0 (Int.le_refl _) (by omega)) (fun z => hvl 1 (by decide) (by omega)) (fun z => hvl 2 (by decide) (by omega)) hk hf hpos sv2
      have hnB := hB.1.n
      have n39 : ∀ s, 0 ≤ s → s < 4 → adB T e B kw q0 (23 + s) = B (23 + s) := fun s s0 s1 => by
        rw [ad_V]
        exact adV_sv (by omega) hpos (by
          by_cases z : kw = 1
          · refine Or.inl ?_
            have : B 0 ≠ 4 := fun y => hf (decide_eq_true (Or.inl ⟨z, y⟩))
            omega
          · exact Or.inr z) hk s0 s1
      have hW := hc2.1
      refine V_aldn1 a_X7_readStatement_77 ?_
      refine V_getIE a_X7_readStatement_78 f_X7_35 rfl t1 ?_
      refine V_iconst a_X7_readStatement_81 ?_
      refine V_icmp_eq_t a_X7_readStatement_82 (by omega) (by omega) ?_
      refine V_aldn0 a_X7_readStatement_87 ?_
      refine V_aldn2 a_X7_readStatement_88 ?_
      refine V_ild4 a_X7_readStatement_89 ?_
      refine V_v2PV a_X7_readStatement_91 c_X7_64 ra (fun τ3 hτ3 => ?_)
      skip
      obtain ⟨f3, r3⟩ := hτ3
      have n9 : τ3.I 9 0 = τ2.I 9 0 := f3.I (by unfold enS; omega)
      have n7 : τ3.I 7 0 = τ2.I 7 0 := f3.I (by unfold enS; omega)
      have hc3 : TC τ3 T e := hc2.fx f3 (by unfold enS; omega) (by rw [n9]; exact t0)
      have fx3 : FX (rdS i) σ τ3 := fx2.trans (f3.sub (fun t n z => by unfold enS at z; unfold rdS; omega))
      refine V_iconst a_X7_readStatement_94 ?_
      exact V_iret a_X7_readStatement_95 (⟨rfl, fx3, hc3, by rw [n7]; exact k72, fun _ => ⟨⟨⟨by decide, hc3.1, r3, f3.shp hcl2.2.2.2.1, hfr.1⟩, fun s s0 s1 => by show τ3.I 39 i s = adB T e B kw q0 (23 + s); rw [n39 s s0 s1, f3.I (by unfold enS; omega)]; exact sv2 s s0 s1⟩, by rw [n9]; exact t4⟩, fun z => absurd rfl z⟩)
    · rw [if_pos w]
      have hk3 : tkA T e (tF T e q) ≠ 3 := fun z => w ((tk_3 hq.2).mp z)
      have hW := hc2.1
      refine V_aldn1 a_X7_readStatement_77 ?_
      refine V_getIE a_X7_readStatement_78 f_X7_35 rfl t1 ?_
      refine V_iconst a_X7_readStatement_81 ?_
      refine V_icmp_eq_f a_X7_readStatement_82 (by omega) (by omega) ?_
      refine V_iconst a_X7_readStatement_85 ?_
      exact V_iret a_X7_readStatement_86 (⟨rfl, fx2, hc2, k72, fun z => absurd z (show (1 : Int) ≠ 0 by decide), fun _ => t2⟩)
  | succ n ih =>
    intro m q τ hm m0 hc hcl sv h4 hq fx k7 hvals hqm hft
    have hm1 : m < vcA kw := by omega
    have es : spR B kw (n + 1) m = spT B kw m :: spR B kw n (m + 1) := rfl
    have rt := R_readToken hc hq h4
    have rvt := rv τ
    have hW := hc.1
    refine V_ild6 a_X7_readStatement_18 ?_
    refine V_ild4 a_X7_readStatement_20 ?_
    refine V_s1R a_X7_readStatement_22 c_X7_53 rvt ?_
    refine V_icmp_ge_f a_X7_readStatement_25 (by omega) (by omega) ?_
    refine V_ild5 a_X7_readStatement_28 ?_
    refine V_if_ne_f a_X7_readStatement_30 (by omega) (by omega) ?_
    refine V_aldn1 a_X7_readStatement_33 ?_
    refine V_v0PV a_X7_readStatement_34 c_X7_32 rt (fun τ2 hτ2 => ?_)
    skip
    obtain ⟨f2, k2⟩ := hτ2
    have k2' := k2
    obtain ⟨t0, t1, t2, t4, t3⟩ := k2
    have hc2 : TC τ2 T e := hc.fm f2 (by decide) t0
    have hcl2 : Cl 0 τ2 i B := hcl.fm f2 (by decide)
    have k72 : τ2.I 7 0 0 = σ.I 7 0 0 ∧ τ2.I 7 0 1 = σ.I 7 0 1 := by
      rw [f2.I (by decide)]
      exact k7
    have rf := R_valueFault (kw := kw) (x := m) hcl2 hc2 k2' hq hk (by omega)
    have hW2 := hc2.1
    have f3 : Fm [9, 21] τ (τ2.setI 21 0 m (τ2.I 9 0 3)) := (f2.sub (by decide)).trans (Fm.setI (by decide))
    have fx3 : FX (rdS i) σ (τ2.setI 21 0 m (τ2.I 9 0 3)) := (fx.trans (fx9 f2)).trans (FX.setI (by unfold rdS; omega))
    have g9 : (τ2.setI 21 0 m (τ2.I 9 0 3)).I 9 = τ2.I 9 := setI_t (by decide)
    have g7 : (τ2.setI 21 0 m (τ2.I 9 0 3)).I 7 = τ2.I 7 := setI_t (by decide)
    have hc3 : TC (τ2.setI 21 0 m (τ2.I 9 0 3)) T e := hc.fm f3 (by decide) (by rw [g9]; exact t0)
    have hcl3 : Cl 0 (τ2.setI 21 0 m (τ2.I 9 0 3)) i B := hcl.fm f3 (by decide)
    have hb := tE_bd (T := T) hq.2
    by_cases z : nC T e q (spT B kw m).1 (spT B kw m).2.1 (spT B kw m).2.2 = 0
    · have ef : ftN T e (spR B kw (n + 1) m) q = ftN T e (spR B kw n (m + 1)) (tE T e q) := by
        rw [es]
        exact ftN_0 z
      rw [ef] at hft ⊢
      rw [z] at rf
      have nz := nC_0 z
      have v3 : τ2.I 9 0 3 = nW T e q := (t3 nz.1).trans (nW_c nz.1 nz.2)
      have ih2 := ih (m + 1) (tE T e q) (τ2.setI 21 0 m (τ2.I 9 0 3)) (by omega) (by omega) hc3 hcl3 (fun s s0 s1 => by rw [f3.I (by decide)]; exact sv s s0 s1) (by rw [g9]; exact t4) (by omega) fx3 (by rw [g7]; exact k72) (fun j j0 j1 => by
        by_cases y : j = m
        · rw [y, setI_I, v3, hqm]
        · rw [setI_ne y, f2.I (by decide)]
          exact hvals j j0 (by omega)) (by
        unfold qnA
        rw [itr_s _ m0]
        show tE T e (qnA T e q0 m) = _
        rw [hqm]) hft
      have hW := hW2
      refine V_aldn1 a_X7_readStatement_37 ?_
      refine V_aldn2 a_X7_readStatement_38 ?_
      refine V_ild4 a_X7_readStatement_39 ?_
      refine V_ild6 a_X7_readStatement_41 ?_
      refine V_s4R a_X7_readStatement_43 c_X7_57 rf ?_
      refine V_ist5 a_X7_readStatement_46 ?_
      refine V_aldn0 a_X7_readStatement_48 ?_
      refine V_fin a_X7_readStatement_49 f_X7_15 rfl hW ?_
      refine V_ild6 a_X7_readStatement_52 ?_
      refine V_aldn1 a_X7_readStatement_54 ?_
      refine V_getIE a_X7_readStatement_55 f_X7_61 rfl rfl ?_
      refine V_iast a_X7_readStatement_58 rfl (by omega) ?_
      refine V_inc6 a_X7_readStatement_59 ?_
      refine V_goto a_X7_readStatement_62 ?_
      exact ih2
    · have ef : ftN T e (spR B kw (n + 1) m) q = (nC T e q (spT B kw m).1 (spT B kw m).2.1 (spT B kw m).2.2, tF T e q) := by
        rw [es]
        exact ftN_1 z
      rw [ef, if_pos z]
      have cb := nC_bd (T := T) (e := e) (p := q) (lo := (spT B kw m).1) (hi := (spT B kw m).2.1) (c := (spT B kw m).2.2) (by
        unfold spT
        split
        · show 0 < (4 : Int) ∧ (4 : Int) < 100
          decide
        · show 0 < (2 : Int) ∧ (2 : Int) < 100
          decide)
      generalize nC T e q (spT B kw m).1 (spT B kw m).2.1 (spT B kw m).2.2 = c at z rf cb
      have rvt3 := rv (τ2.setI 21 0 m (τ2.I 9 0 3))
      have hW := hW2
      refine V_aldn1 a_X7_readStatement_37 ?_
      refine V_aldn2 a_X7_readStatement_38 ?_
      refine V_ild4 a_X7_readStatement_39 ?_
      refine V_ild6 a_X7_readStatement_41 ?_
      refine V_s4R a_X7_readStatement_43 c_X7_57 rf ?_
      refine V_ist5 a_X7_readStatement_46 ?_
      refine V_aldn0 a_X7_readStatement_48 ?_
      refine V_fin a_X7_readStatement_49 f_X7_15 rfl hW ?_
      refine V_ild6 a_X7_readStatement_52 ?_
      refine V_aldn1 a_X7_readStatement_54 ?_
      refine V_getIE a_X7_readStatement_55 f_X7_61 rfl rfl ?_
      refine V_iast a_X7_readStatement_58 rfl (by omega) ?_
      refine V_inc6 a_X7_readStatement_59 ?_
      refine V_goto a_X7_readStatement_62 ?_
      skip
      have hW := hc3.1
      by_cases y : m + 1 < vcA kw
      · refine V_ild6 a_X7_readStatement_18 ?_
        refine V_ild4 a_X7_readStatement_20 ?_
        refine V_s1R a_X7_readStatement_22 c_X7_53 rvt3 ?_
        refine V_icmp_ge_f a_X7_readStatement_25 (by omega) (by omega) ?_
        refine V_ild5 a_X7_readStatement_28 ?_
        refine V_if_ne_t a_X7_readStatement_30 (by omega) (by omega) ?_
        refine V_ild5 a_X7_readStatement_65 ?_
        refine V_if_eq_f a_X7_readStatement_67 (by omega) (by omega) ?_
        refine V_ild5 a_X7_readStatement_70 ?_
        exact V_iret a_X7_readStatement_72 (⟨rfl, fx3, hc3, by rw [g7]; exact k72, fun w => absurd w z, fun _ => by rw [g9]; exact t2⟩)
      · refine V_ild6 a_X7_readStatement_18 ?_
        refine V_ild4 a_X7_readStatement_20 ?_
        refine V_s1R a_X7_readStatement_22 c_X7_53 rvt3 ?_
        refine V_icmp_ge_t a_X7_readStatement_25 (by omega) (by omega) ?_
        refine V_ild5 a_X7_readStatement_65 ?_
        refine V_if_eq_f a_X7_readStatement_67 (by omega) (by omega) ?_
        refine V_ild5 a_X7_readStatement_70 ?_
        exact V_iret a_X7_readStatement_72 (⟨rfl, fx3, hc3, by rw [g7]; exact k72, fun w => absurd w z, fun _ => by rw [g9]; exact t2⟩)
theorem R_CreadStatement {first : Bool} (hc : TC σ T e) (ht : Tok σ T e p) (hp : 0 ≤ p ∧ p ≤ e) (h : Cl 0 σ i B) (hB : FrI B) (sv : Sv σ i B) : Ct m_X7_readStatement 6 0 0 [vR (some (7, 0)), vR (some (9, 0)), vR (some (6, i)), vI (bI (first = true))] σ (RsQ σ T e i (stA T e first B p)) := by
  have rk := R_keywordOf hc ht hp
  have hkb := kw_bd (T := T) (e := e) (p := p)
  have rf := R_keywordFault (first := first) (kw := kwA T e p) h (by omega)
  obtain ⟨t0, t1, t2, t4, t3⟩ := ht
  have rv : Rt m_X7_valueCount 0 0 0 [vI (kwA T e p)] σ (some (vI (vcA (kwA T e p)))) σ := R_valueCount (by omega)
  have hvb := vc_bd (kw := kwA T e p)
  have hb := tE_bd (T := T) hp.2
  have hW := hc.1
  unfold kfA at rf
  have bad : ∀ c : Int, c ≠ 0 → 0 ≤ c → c < 100 → kfA B first (kwA T e p) = c → stA T e first B p = (c, tF T e p, B) → Ct m_X7_readStatement 6 0 0 [vR (some (7, 0)), vR (some (9, 0)), vR (some (6, i)), vI (bI (first = true))] σ (RsQ σ T e i (stA T e first B p)) := fun c c0 c1 c2 ek ec => by
    rw [ec]
    have rf := R_keywordFault (first := first) (kw := kwA T e p) h (by omega)
    rw [ek] at rf
    show V _ 6 0 0 0 [some (vR (some (7, 0))), some (vR (some (9, 0))), some (vR (some (6, i))), some (vI (bI (first = true))), none, none, none] [] σ _
    by_cases y : 0 < vcA (kwA T e p)
    · refine V_aldn1 a_X7_readStatement_0 ?_
      refine V_s1R a_X7_readStatement_1 c_X7_45 rk ?_
      refine V_ist4 a_X7_readStatement_4 ?_
      refine V_aldn2 a_X7_readStatement_6 ?_
      refine V_ild4 a_X7_readStatement_7 ?_
      refine V_ildn3 a_X7_readStatement_9 ?_
      refine V_s3R a_X7_readStatement_10 c_X7_49 rf ?_
      refine V_ist5 a_X7_readStatement_13 ?_
      refine V_iconst a_X7_readStatement_15 ?_
      refine V_ist6 a_X7_readStatement_16 ?_
      refine V_ild6 a_X7_readStatement_18 ?_
      refine V_ild4 a_X7_readStatement_20 ?_
      refine V_s1R a_X7_readStatement_22 c_X7_53 rv ?_
      refine V_icmp_ge_f a_X7_readStatement_25 (by omega) (by omega) ?_
      refine V_ild5 a_X7_readStatement_28 ?_
      refine V_if_ne_t a_X7_readStatement_30 (by omega) (by omega) ?_
      refine V_ild5 a_X7_readStatement_65 ?_
      refine V_if_eq_f a_X7_readStatement_67 (by omega) (by omega) ?_
      refine V_ild5 a_X7_readStatement_70 ?_
      exact V_iret a_X7_readStatement_72 (⟨rfl, FX.refl _ _, hc, ⟨rfl, rfl⟩, fun z => absurd z c0, fun _ => t2⟩)
    · refine V_aldn1 a_X7_readStatement_0 ?_
      refine V_s1R a_X7_readStatement_1 c_X7_45 rk ?_
      refine V_ist4 a_X7_readStatement_4 ?_
      refine V_aldn2 a_X7_readStatement_6 ?_
      refine V_ild4 a_X7_readStatement_7 ?_
      refine V_ildn3 a_X7_readStatement_9 ?_
      refine V_s3R a_X7_readStatement_10 c_X7_49 rf ?_
      refine V_ist5 a_X7_readStatement_13 ?_
      refine V_iconst a_X7_readStatement_15 ?_
      refine V_ist6 a_X7_readStatement_16 ?_
      refine V_ild6 a_X7_readStatement_18 ?_
      refine V_ild4 a_X7_readStatement_20 ?_
      refine V_s1R a_X7_readStatement_22 c_X7_53 rv ?_
      refine V_icmp_ge_t a_X7_readStatement_25 (by omega) (by omega) ?_
      refine V_ild5 a_X7_readStatement_65 ?_
      refine V_if_eq_f a_X7_readStatement_67 (by omega) (by omega) ?_
      refine V_ild5 a_X7_readStatement_70 ?_
      exact V_iret a_X7_readStatement_72 (⟨rfl, FX.refl _ _, hc, ⟨rfl, rfl⟩, fun z => absurd z c0, fun _ => t2⟩)
  by_cases k1 : kwA T e p = -1
  · exact bad 1 (by decide) (by decide) (by decide) (by unfold kfA; rw [if_pos k1]) (by unfold stA; rw [if_pos k1])
  · by_cases k3 : first ≠ decide (kwA T e p = 0)
    · exact bad 3 (by decide) (by decide) (by decide) (by unfold kfA; rw [if_neg k1, if_pos k3]) (by unfold stA; rw [if_neg k1, if_pos k3])
    · by_cases k5 : flA B (kwA T e p) = true
      · exact bad 5 (by decide) (by decide) (by decide) (by unfold kfA; rw [if_neg k1, if_neg k3, if_pos k5]) (by unfold stA; rw [if_neg k1, if_neg k3, if_pos k5])
      · rw [if_neg k1, if_neg k3, if_neg k5] at rf
        have hkk : 0 ≤ kwA T e p ∧ kwA T e p ≤ 4 := by omega
        have lp := rs_loop (σ := σ) (T := T) (e := e) (i := i) (B := B) (kw := kwA T e p) (q0 := tE T e p) (fi := bI (first = true)) hB hkk k5 (fun k4 z => by
          rw [k4] at z
          have z : (ftN T e [(0, B 1 - 1, 4), (0, B 0 - 1, 4), (0, 99999, 2)] (tE T e p)).1 = 0 := z
          have hn := hB.1.n
          by_cases y : nC T e (tE T e p) 0 (B 1 - 1) 4 = 0
          · rw [ftN_0 y] at z
            by_cases y2 : nC T e (tE T e (tE T e p)) 0 (B 0 - 1) 4 = 0
            · have a1 := nC_in y
              have a2 := nC_in y2
              omega
            · rw [ftN_1 y2] at z
              exact absurd z y2
          · rw [ftN_1 y] at z
            exact absurd z y) (fun z => ad_fr hB hkk k5 z) (vcA (kwA T e p)).toNat 0 (tE T e p) σ (by omega) (Int.le_refl _) hc h sv t4 (by omega) (FX.refl _ _) ⟨rfl, rfl⟩ (fun j j0 j1 => by omega) rfl (by rw [spR_L hkk])
        rw [← spR_L hkk] at lp
        have es : stA T e first B p = (if (ftN T e (spL B (kwA T e p)) (tE T e p)).1 ≠ 0 then ((ftN T e (spL B (kwA T e p)) (tE T e p)).1, (ftN T e (spL B (kwA T e p)) (tE T e p)).2, B) else if ¬ wdB T e (ftN T e (spL B (kwA T e p)) (tE T e p)).2 29 = true then (1, tF T e (ftN T e (spL B (kwA T e p)) (tE T e p)).2, B) else (0, tE T e (ftN T e (spL B (kwA T e p)) (tE T e p)).2, adB T e B (kwA T e p) (tE T e p))) := by
          unfold stA
          rw [if_neg k1, if_neg k3, if_neg k5]
        rw [es]
        show V _ 6 0 0 0 [some (vR (some (7, 0))), some (vR (some (9, 0))), some (vR (some (6, i))), some (vI (bI (first = true))), none, none, none] [] σ _
        refine V_aldn1 a_X7_readStatement_0 ?_
        refine V_s1R a_X7_readStatement_1 c_X7_45 rk ?_
        refine V_ist4 a_X7_readStatement_4 ?_
        refine V_aldn2 a_X7_readStatement_6 ?_
        refine V_ild4 a_X7_readStatement_7 ?_
        refine V_ildn3 a_X7_readStatement_9 ?_
        refine V_s3R a_X7_readStatement_10 c_X7_49 rf ?_
        refine V_ist5 a_X7_readStatement_13 ?_
        refine V_iconst a_X7_readStatement_15 ?_
        refine V_ist6 a_X7_readStatement_16 ?_
        exact lp
end Prs

