/-- a slice's part of a dividend -/
def dvO (B : St) (k a l : Int) : Int := (B (83 + 23 * k + 5 + l) * a * (100 - B (39 + l))).tdiv 100
def dvB (k a l : Int) (x : St × Int) : St × Int :=
  (upI (upI (upI x.1 (79 + x.1 (83 + 23 * k + 1)) (x.1 (79 + x.1 (83 + 23 * k + 1)) - x.1 (83 + 23 * k + 5 + l) * a)) (73 + l) (upI x.1 (79 + x.1 (83 + 23 * k + 1)) (x.1 (79 + x.1 (83 + 23 * k + 1)) - x.1 (83 + 23 * k + 5 + l) * a) (73 + l) + dvO x.1 k a l)) 13 (upI (upI x.1 (79 + x.1 (83 + 23 * k + 1)) (x.1 (79 + x.1 (83 + 23 * k + 1)) - x.1 (83 + 23 * k + 5 + l) * a)) (73 + l) (upI x.1 (79 + x.1 (83 + 23 * k + 1)) (x.1 (79 + x.1 (83 + 23 * k + 1)) - x.1 (83 + 23 * k + 5 + l) * a) (73 + l) + dvO x.1 k a l) 13 + (x.1 (83 + 23 * k + 5 + l) * a - dvO x.1 k a l)), x.2 + x.1 (83 + 23 * k + 5 + l) * a)
def dvX (k a : Int) (x : St × Int) (n : Int) : St × Int := itr (dvB k a) n x
theorem dvX_s {k a n : Int} {x : St × Int} (h : 0 ≤ n) : dvX k a x (n + 1) = dvB k a n (dvX k a x n) := itr_s _ h _
def dvS (s a k : Int) (x : St × Int) : St × Int := if x.1 (83 + 23 * k + 2) = s then dvX k a x (x.1 1) else x
def divX (A : St) (s a n : Int) : St × Int := itr (dvS s a) n (A, 0)
theorem divX_s {A : St} {s a n : Int} (h : 0 ≤ n) : divX A s a (n + 1) = dvS s a n (divX A s a n) := itr_s _ h _
theorem dvX_ac {D k a n : Int} {x : St × Int} (hI : Inv D x.1) (hk : 0 ≤ k ∧ k < x.1 7) (n0 : 0 ≤ n) (n1 : n ≤ x.1 1) : Ac x.1 (dvX k a x n).1 := by
  have hn := hI.n
  have q1 := (hI.loan hk.1 hk.2).2.1
  refine itr_ind (f := dvB k a) (a := x) (fun _ (y : St × Int) => Ac x.1 y.1) (Ac.refl _) n0 (fun j y j0 j1 hy => hy.trans ?_)
  have e := hy (83 + 23 * k + 1) (by omega) (by omega)
  exact ((Ac.up (by omega)).trans (Ac.up (by omega))).trans (Ac.up (by omega))
theorem div_ac {D n s a : Int} {A : St} (hI : Inv D A) (n0 : 0 ≤ n) (n1 : n ≤ A 7) : Ac A (divX A s a n).1 := by
  refine itr_ind (f := dvS s a) (a := (A, (0 : Int))) (fun _ (y : St × Int) => Ac A y.1) (Ac.refl A) n0 (fun j y j0 j1 hy => hy.trans ?_)
  have iB := hI.ac hy
  have hn := iB.n
  unfold dvS
  split
  · exact dvX_ac iB ⟨j0, by rw [hy 7 (by omega) (by omega)]; omega⟩ (by omega) (Int.le_refl _)
  · exact Ac.refl _
section Mo23
variable {D : Int} {σ : Hp} {A : St}
theorem R_divide {s a : Int} (h : Md D σ A) (hs : 0 ≤ s ∧ s < 4) (ha : 1 ≤ a ∧ a ≤ 9999) : Rt m_X11_divide 1 0 0 [vR (some (11, 0)), vI s, vI a] σ (some (vL (divX A s a (A 7)).2)) (σ.rJ 50 0 (divX A s a (A 7)).1) := by
  obtain ⟨hD, hW, hA, hI⟩ := h
  have hn := hI.n
  have start : σ.rJ 50 0 (divX A s a 0).1 = σ := by
    show σ.rJ 50 0 A = σ
    rw [← hA, rJ_self]
  show V _ 1 0 0 0 [some (vR (some (11, 0))), some (vI s), some (vI a), none, none, none, none, none, none, none, none, none] [] σ _
  refine V_lconst0 a_X11_divide_0 ?_
  refine V_lstn3 a_X11_divide_1 ?_
  refine V_iconst a_X11_divide_2 ?_
  refine V_ist5 a_X11_divide_3 ?_
  refine (fun z => by rw [start] at z; exact z : V _ 1 0 0 5 [some (vR (some (11, 0))), some (vI s), some (vI a), some (vL (divX A s a 0).2), none, some (vI 0), none, none, none, none, none, none] [] (σ.rJ 50 0 (divX A s a 0).1) _ → _) ?_
  refine loopI (P := fun k => ∀ x6 x7 x8 x9 x10 x11 : Option AV, V _ 1 0 0 5 [some (vR (some (11, 0))), some (vI s), some (vI a), some (vL (divX A s a k).2), none, some (vI k), x6, x7, x8, x9, x10, x11] [] (σ.rJ 50 0 (divX A s a k).1) _) (N := A 7) (by omega) ?_ ?_ none none none none none none
  · intro x6 x7 x8 x9 x10 x11
    have e7 := div_ac (s := s) (a := a) hI (n := A 7) (by omega) (Int.le_refl _) 7 (by omega) (by omega)
    refine V_ild5 a_X11_divide_5 ?_
    refine V_i2l a_X11_divide_7 (by omega) ?_
    refine V_aldn0 a_X11_divide_8 ?_
    refine V_fin a_X11_divide_9 f_X11_7 rfl hW ?_
    refine V_bipush a_X11_divide_12 (by decide) ?_
    refine V_laldE a_X11_divide_14 rfl (by omega) (v := A 7) (by rw [rJ_J, e7]) ?_
    refine V_lc_ge_t a_X11_divide_15 a_X11_divide_16 (by omega) (by omega) ?_
    refine V_lldn3 a_X11_divide_167 ?_
    exact V_lret a_X11_divide_168 (⟨rfl, rfl⟩)
  · intro k k0 k1 ih x6 x7 x8 x9 x10 x11
    have hac := div_ac (s := s) (a := a) hI (n := k) k0 (by omega)
    rw [divX_s k0] at ih
    generalize divX A s a k = x at hac ih ⊢
    have iB := hI.ac hac
    have e7 := hac 7 (by omega) (by omega)
    have e1 := hac 1 (by omega) (by omega)
    have q2 := (iB.loan k0 (by omega)).2.2.1
    have hnB := iB.n
    unfold dvS at ih
    by_cases z : x.1 (83 + 23 * k + 2) = s
    · rw [if_pos z] at ih
      refine V_ild5 a_X11_divide_5 ?_
      refine V_i2l a_X11_divide_7 (by omega) ?_
      refine V_aldn0 a_X11_divide_8 ?_
      refine V_fin a_X11_divide_9 f_X11_7 rfl hW ?_
      refine V_bipush a_X11_divide_12 (by decide) ?_
      refine V_laldE a_X11_divide_14 rfl (by omega) (v := A 7) (by rw [rJ_J, e7]) ?_
      refine V_lc_ge_f a_X11_divide_15 a_X11_divide_16 (by omega) (by omega) ?_
      refine V_ild5 a_X11_divide_19 ?_
      refine V_s1R a_X11_divide_21 c_X11_197 R_loanAt ?_
      refine V_ist6 a_X11_divide_24 ?_
      refine V_iconst a_X11_divide_26 ?_
      refine V_ist7 a_X11_divide_27 ?_
      refine loopI (P := fun l => ∀ x8 x9 x10 x11 : Option AV, V _ 1 0 0 29 [some (vR (some (11, 0))), some (vI s), some (vI a), some (vL (dvX k a x l).2), none, some (vI k), some (vI (83 + 23 * k)), some (vI l), x8, x9, x10, x11] [] (σ.rJ 50 0 (dvX k a x l).1) _) (N := x.1 1) (by omega) ?_ ?_ _ _ _ _
      · intro x8 x9 x10 x11
        have e1b := dvX_ac (a := a) iB ⟨k0, by omega⟩ (n := x.1 1) (by omega) (Int.le_refl _) 1 (by omega) (by omega)
        refine V_ild7 a_X11_divide_29 ?_
        refine V_i2l a_X11_divide_31 (by omega) ?_
        refine V_aldn0 a_X11_divide_32 ?_
        refine V_fin a_X11_divide_33 f_X11_7 rfl hW ?_
        refine V_iconst a_X11_divide_36 ?_
        refine V_laldE a_X11_divide_37 rfl (by omega) (v := x.1 1) (by rw [rJ_J, e1b]) ?_
        refine V_lc_ge_t a_X11_divide_38 a_X11_divide_39 (by omega) (by omega) ?_
        refine V_inc5 a_X11_divide_161 ?_
        refine V_goto a_X11_divide_164 ?_
        exact ih _ _ _ _ _ _
      · intro l l0 l1 ih2 x8 x9 x10 x11
        have hy := dvX_ac (a := a) iB ⟨k0, by omega⟩ (n := l) l0 (by omega)
        rw [dvX_s l0] at ih2
        generalize dvX k a x l = y at hy ih2 ⊢
        have iY := iB.ac hy
        have f1 := hy 1 (by omega) (by omega)
        have f2 : y.1 (83 + 23 * k + 2) = s := (hy _ (by omega) (by omega)).trans z
        have f7 := hy 7 (by omega) (by omega)
        have nY := iY.n
        obtain ⟨-, p1, p2, -, -, p5⟩ := iY.loan k0 (by omega)
        have hsh := (p5 l l0 (by omega)).1
        have hl3 := (iY.lend l0 (by omega)).2.2
        have m1 := mul_bd (a := y.1 (83 + 23 * k + 5 + l)) (b := a) (M := 99999) (N := 9999) (by omega) (by omega) (by omega) ha.2
        have m2 := mul_bd (b := 100 - y.1 (39 + l)) (N := 100) m1.1 m1.2 (by omega) (by omega)
        have hA : (σ.rJ 50 0 y.1).J 50 0 = y.1 := rJ_J
        unfold dvB at ih2
        refine V_ild7 a_X11_divide_29 ?_
        refine V_i2l a_X11_divide_31 (by omega) ?_
        refine V_aldn0 a_X11_divide_32 ?_
        refine V_fin a_X11_divide_33 f_X11_7 rfl hW ?_
        refine V_iconst a_X11_divide_36 ?_
        refine V_w a_X11_divide_37 (by omega) hA ?_
        refine V_lc_ge_f a_X11_divide_38 a_X11_divide_39 (by omega) (by omega) ?_
        refine V_aldn0 a_X11_divide_42 ?_
        refine V_fin a_X11_divide_43 f_X11_7 rfl hW ?_
        refine V_ild6 a_X11_divide_46 ?_
        refine V_iconst a_X11_divide_48 ?_
        refine V_iadd a_X11_divide_49 ?_
        refine V_w a_X11_divide_50 (by omega) hA ?_
        refine V_ildn1 a_X11_divide_51 ?_
        refine V_i2l a_X11_divide_52 (by omega) ?_
        refine V_lc_ne_f a_X11_divide_53 a_X11_divide_54 (by omega) (by omega) ?_
        refine V_aldn0 a_X11_divide_57 ?_
        refine V_fin a_X11_divide_58 f_X11_7 rfl hW ?_
        refine V_ild6 a_X11_divide_61 ?_
        refine V_iconst a_X11_divide_63 ?_
        refine V_iadd a_X11_divide_64 ?_
        refine V_ild7 a_X11_divide_65 ?_
        refine V_iadd a_X11_divide_67 ?_
        refine V_w a_X11_divide_68 (by omega) hA ?_
        refine V_ildn2 a_X11_divide_69 ?_
        refine V_i2l a_X11_divide_70 (by omega) ?_
        refine V_lmul a_X11_divide_71 ?_
        refine V_lst8 a_X11_divide_72 ?_
        refine V_lld8 a_X11_divide_74 ?_
        refine V_ldc2 a_X11_divide_76 q_X11_149 ?_
        refine V_aldn0 a_X11_divide_79 ?_
        refine V_fin a_X11_divide_80 f_X11_7 rfl hW ?_
        refine V_bipush a_X11_divide_83 (by decide) ?_
        refine V_ild7 a_X11_divide_85 ?_
        refine V_iadd a_X11_divide_87 ?_
        refine V_w a_X11_divide_88 (by omega) hA ?_
        refine V_lsub a_X11_divide_89 ?_
        refine V_lmul a_X11_divide_90 ?_
        refine V_ldc2 a_X11_divide_91 q_X11_149 ?_
        refine V_ldiv a_X11_divide_94 (by omega) ?_
        refine V_lst10 a_X11_divide_95 ?_
        refine V_aldn0 a_X11_divide_97 ?_
        refine V_fin a_X11_divide_98 f_X11_7 rfl hW ?_
        refine V_bipush a_X11_divide_101 (by decide) ?_
        refine V_aldn0 a_X11_divide_103 ?_
        refine V_fin a_X11_divide_104 f_X11_7 rfl hW ?_
        refine V_ild6 a_X11_divide_107 ?_
        refine V_iconst a_X11_divide_109 ?_
        refine V_iadd a_X11_divide_110 ?_
        refine V_w a_X11_divide_111 (by omega) hA ?_
        refine V_l2i a_X11_divide_112 ?_
        refine V_iadd a_X11_divide_113 ?_
        first | refine V_dup2IR a_X11_divide_114 ?_ | refine V_dup2L a_X11_divide_114 ?_
        refine V_w a_X11_divide_115 (by omega) hA ?_
        refine V_lld8 a_X11_divide_116 ?_
        refine V_lsub a_X11_divide_118 ?_
        refine V_last a_X11_divide_119 rfl (by omega) ?_
        rw [rJ_set]
        clear hA
        refine V_aldn0 a_X11_divide_120 ?_
        refine V_fin a_X11_divide_121 f_X11_7 rfl hW ?_
        refine V_bipush a_X11_divide_124 (by decide) ?_
        refine V_ild7 a_X11_divide_126 ?_
        refine V_iadd a_X11_divide_128 ?_
        first | refine V_dup2IR a_X11_divide_129 ?_ | refine V_dup2L a_X11_divide_129 ?_
        refine V_laldE a_X11_divide_130 rfl (by omega) (by rw [rJ_J]) ?_
        refine V_lld10 a_X11_divide_131 ?_
        refine V_ladd a_X11_divide_133 ?_
        refine V_last a_X11_divide_134 rfl (by omega) ?_
        rw [rJ_set]
        refine V_aldn0 a_X11_divide_135 ?_
        refine V_fin a_X11_divide_136 f_X11_7 rfl hW ?_
        refine V_bipush a_X11_divide_139 (by decide) ?_
        first | refine V_dup2IR a_X11_divide_141 ?_ | refine V_dup2L a_X11_divide_141 ?_
        refine V_laldE a_X11_divide_142 rfl (by omega) (by rw [rJ_J]) ?_
        refine V_lld8 a_X11_divide_143 ?_
        refine V_lld10 a_X11_divide_145 ?_
        refine V_lsub a_X11_divide_147 ?_
        refine V_ladd a_X11_divide_148 ?_
        refine V_last a_X11_divide_149 rfl (by omega) ?_
        rw [rJ_set]
        refine V_lldn3 a_X11_divide_150 ?_
        refine V_lld8 a_X11_divide_151 ?_
        refine V_ladd a_X11_divide_153 ?_
        refine V_lstn3 a_X11_divide_154 ?_
        refine V_inc7 a_X11_divide_155 ?_
        refine V_goto a_X11_divide_158 ?_
        exact ih2 _ _ _ _
    · rw [if_neg z] at ih
      refine V_ild5 a_X11_divide_5 ?_
      refine V_i2l a_X11_divide_7 (by omega) ?_
      refine V_aldn0 a_X11_divide_8 ?_
      refine V_fin a_X11_divide_9 f_X11_7 rfl hW ?_
      refine V_bipush a_X11_divide_12 (by decide) ?_
      refine V_laldE a_X11_divide_14 rfl (by omega) (v := A 7) (by rw [rJ_J, e7]) ?_
      refine V_lc_ge_f a_X11_divide_15 a_X11_divide_16 (by omega) (by omega) ?_
      refine V_ild5 a_X11_divide_19 ?_
      refine V_s1R a_X11_divide_21 c_X11_197 R_loanAt ?_
      refine V_ist6 a_X11_divide_24 ?_
      refine V_iconst a_X11_divide_26 ?_
      refine V_ist7 a_X11_divide_27 ?_
      refine V_ild7 a_X11_divide_29 ?_
      refine V_i2l a_X11_divide_31 (by omega) ?_
      refine V_aldn0 a_X11_divide_32 ?_
      refine V_fin a_X11_divide_33 f_X11_7 rfl hW ?_
      refine V_iconst a_X11_divide_36 ?_
      refine V_laldE a_X11_divide_37 rfl (by omega) (by rw [rJ_J]) ?_
      refine V_lc_ge a_X11_divide_38 a_X11_divide_39 (by omega) (fun hc38 => ?_) (fun hc38 => ?_)
      · refine V_inc5 a_X11_divide_161 ?_
        refine V_goto a_X11_divide_164 ?_
        exact ih _ _ _ _ _ _
      · refine V_aldn0 a_X11_divide_42 ?_
        refine V_fin a_X11_divide_43 f_X11_7 rfl hW ?_
        refine V_ild6 a_X11_divide_46 ?_
        refine V_iconst a_X11_divide_48 ?_
        refine V_iadd a_X11_divide_49 ?_
        refine V_laldE a_X11_divide_50 rfl (by omega) (by rw [rJ_J]) ?_
        refine V_ildn1 a_X11_divide_51 ?_
        refine V_i2l a_X11_divide_52 (by omega) ?_
        refine V_lc_ne_t a_X11_divide_53 a_X11_divide_54 (by omega) (by omega) ?_
        refine V_inc5 a_X11_divide_161 ?_
        refine V_goto a_X11_divide_164 ?_
        exact ih _ _ _ _ _ _
end Mo23

