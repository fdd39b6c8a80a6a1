/-- a loan put into the order -/
def isG (A : St) (k : Int) (x : (Int → Int) × Int) : Bool := decide (0 < x.2 ∧ A (83 + 23 * x.1 (x.2 - 1) + 3) < A (83 + 23 * k + 3))
def isF (x : (Int → Int) × Int) : (Int → Int) × Int := (upI x.1 x.2 (x.1 (x.2 - 1)), x.2 - 1)
def isM (x : (Int → Int) × Int) : Nat := x.2.toNat
def insA (A : St) (k : Int) (r : Int → Int) (c : Int) : Int → Int := upI (wh (isG A k) isF isM (r, c)).1 (wh (isG A k) isF isM (r, c)).2 k
def loS (A : St) (l s k : Int) (x : (Int → Int) × Int) : (Int → Int) × Int := if slcA A k l s then (insA A k x.1 x.2, x.2 + 1) else x
def loX (A : St) (l s : Int) (r : Int → Int) (k : Int) : (Int → Int) × Int := itr (loS A l s) k (r, 0)
theorem loX_s {A : St} {l s k : Int} {r : Int → Int} (h : 0 ≤ k) : loX A l s r (k + 1) = loS A l s k (loX A l s r k) := itr_s _ h _
/-- the places in the order but one hold loans -/
def isI (E : Int → Prop) (c : Int) (x : (Int → Int) × Int) : Prop := (0 ≤ x.2 ∧ x.2 ≤ c) ∧ ∀ i, 0 ≤ i → i ≤ c → i ≠ x.2 → E (x.1 i)
theorem is_s {A : St} {k c : Int} {E : Int → Prop} : ∀ x, isI E c x → isG A k x = true → isI E c (isF x) ∧ isM (isF x) < isM x := fun x hx hg => by
  have hg := of_decide_eq_true hg
  obtain ⟨h1, h2⟩ := hx
  refine ⟨⟨?_, fun i i0 i1 hi => ?_⟩, ?_⟩
  · show 0 ≤ x.2 - 1 ∧ x.2 - 1 ≤ c
    omega
  · have hi : i ≠ x.2 - 1 := hi
    show E (upI x.1 x.2 (x.1 (x.2 - 1)) i)
    by_cases e : i = x.2
    · rw [e, upI_eq]
      exact h2 _ (by omega) (by omega) (by omega)
    · rw [upI_ne e]
      exact h2 i i0 i1 e
  · show (x.2 - 1).toNat < x.2.toNat
    omega
theorem ins_ok {A : St} {k c : Int} {r : Int → Int} {E : Int → Prop} (hc : 0 ≤ c) (hr : ∀ i, 0 ≤ i → i < c → E (r i)) (hk : E k) : ∀ i, 0 ≤ i → i < c + 1 → E (insA A k r c i) := fun i i0 i1 => by
  have h := (wh_inv (I := isI E c) (g := isG A k) (f := isF) (m := isM) is_s (x := (r, c)) ⟨⟨hc, Int.le_refl c⟩, fun i i0 i1 hi => hr i i0 (by have : i ≠ c := hi; omega)⟩).1
  unfold insA
  by_cases e : i = (wh (isG A k) isF isM (r, c)).2
  · rw [e, upI_eq]
    exact hk
  · rw [upI_ne e]
    exact h.2 i i0 (by omega) e
theorem lo_ok {A : St} {l s k : Int} {r : Int → Int} (k0 : 0 ≤ k) : (0 ≤ (loX A l s r k).2 ∧ (loX A l s r k).2 ≤ k) ∧ ∀ i, 0 ≤ i → i < (loX A l s r k).2 → (0 ≤ (loX A l s r k).1 i ∧ (loX A l s r k).1 i < k) ∧ slcA A ((loX A l s r k).1 i) l s := by
  refine itr_ind (f := loS A l s) (a := (r, (0 : Int))) (fun k (x : (Int → Int) × Int) => (0 ≤ x.2 ∧ x.2 ≤ k) ∧ ∀ i, 0 ≤ i → i < x.2 → (0 ≤ x.1 i ∧ x.1 i < k) ∧ slcA A (x.1 i) l s) ⟨by show 0 ≤ (0 : Int) ∧ (0 : Int) ≤ 0; omega, fun i i0 i1 => by have : i < 0 := i1; omega⟩ k0 (fun j x j0 j1 hx => ?_)
  unfold loS
  split
  · rename_i q
    refine ⟨by show 0 ≤ x.2 + 1 ∧ x.2 + 1 ≤ j + 1; omega, fun i i0 i1 => ?_⟩
    exact ins_ok (A := A) (k := j) (c := x.2) (r := x.1) (E := fun v => (0 ≤ v ∧ v < j + 1) ∧ slcA A v l s) hx.1.1 (fun i i0 i1 => ⟨by have := (hx.2 i i0 i1).1; omega, (hx.2 i i0 i1).2⟩) ⟨by omega, q⟩ i i0 i1
  · exact ⟨by omega, fun i i0 i1 => ⟨by have := (hx.2 i i0 i1).1; omega, (hx.2 i i0 i1).2⟩⟩
abbrev Hp.od (σ : Hp) (x : (Int → Int) × Int) : Hp := (σ.rI 59 0 x.1).setI 11 0 19 x.2
section Mo13
variable {D : Int} {σ : Hp} {A : St}
theorem od_c {x : (Int → Int) × Int} : (σ.od x).I 11 0 19 = x.2 := setI_I
theorem od_r {x : (Int → Int) × Int} : (σ.od x).I 59 0 = x.1 := by
  show u3 (rowR σ.I 59 0 x.1) 11 0 19 x.2 59 0 = _
  rw [u3_t (by decide)]
  exact row_eq
theorem od_set {x : (Int → Int) × Int} {j v : Int} : (σ.od x).setI 59 0 j v = σ.od (upI x.1 j v, x.2) := by
  have e : u3 (u3 (rowR σ.I 59 0 x.1) 11 0 19 x.2) 59 0 j v = u3 (rowR σ.I 59 0 (upI x.1 j v)) 11 0 19 x.2 := by
    funext t i c
    unfold u3 rowR upI
    by_cases h1 : t = 11 ∧ i = 0 ∧ c = 19
    · rw [if_pos h1, if_pos h1, if_neg (fun z => absurd (h1.1.symm.trans z.1) (by decide))]
    · rw [if_neg h1, if_neg h1]
      by_cases h2 : t = 59 ∧ i = 0
      · rw [if_pos h2, if_pos h2]
        by_cases h3 : c = j
        · rw [if_pos ⟨h2.1, h2.2, h3⟩, if_pos h3]
        · rw [if_neg (fun z => h3 z.2.2), if_neg h3]
      · rw [if_neg h2, if_neg h2, if_neg (fun z => h2 ⟨z.1, z.2.1⟩)]
  exact congrArg (fun f => (σ.wI (rowR σ.I 59 0 (upI x.1 j v))).wI f) e
theorem od_cnt {x : (Int → Int) × Int} {c : Int} : (σ.od x).setI 11 0 19 c = σ.od (x.1, c) := setI_setI
theorem FK.od {x : (Int → Int) × Int} : FK [59] [19] σ (σ.od x) := ⟨(Fm.rI (by decide)).trans (Fm.setI (by decide)), fun j hj => by
  rw [show (σ.od x).I 11 0 j = (σ.rI 59 0 x.1).I 11 0 j from setI_ne (fun e => hj (by rw [e]; decide)), rI_ne (by decide)]⟩
theorem R_layOrder {l s : Int} (h : Md D σ A) (hl : 0 ≤ l ∧ l < 6) (hs : 0 ≤ s ∧ s < 4) : Rt m_X11_layOrder 2 0 0 [vR (some (11, 0)), vI l, vI s] σ none (σ.od (loX A l s (σ.I 59 0) (A 7))) := by
  have h' := h
  obtain ⟨hD, hW, hA, hI⟩ := h
  have hn := hI.n
  have start : σ.od (σ.I 59 0, 0) = σ.setI 11 0 19 0 := by
    show (σ.wI (rowR σ.I 59 0 (σ.I 59 0))).wI (u3 (rowR σ.I 59 0 (σ.I 59 0)) 11 0 19 0) = _
    rw [row_self]
    rfl
  show V _ 2 0 0 0 [some (vR (some (11, 0))), some (vI l), some (vI s), none, none] [] σ _
  refine V_aldn0 a_X11_layOrder_0 ?_
  refine V_iconst a_X11_layOrder_1 ?_
  refine V_putI a_X11_layOrder_2 f_X11_308 rfl ?_
  rw [← start]
  refine V_iconst a_X11_layOrder_5 ?_
  refine V_istn3 a_X11_layOrder_6 ?_
  refine loopI (P := fun k => ∀ x4 : Option AV, V _ 2 0 0 7 [some (vR (some (11, 0))), some (vI l), some (vI s), some (vI k), x4] [] (σ.od (loX A l s (σ.I 59 0) k)) _) (N := A 7) (by omega) ?_ ?_ none
  · intro x4
    refine V_ildn3 a_X11_layOrder_7 ?_
    refine V_i2l a_X11_layOrder_8 (by omega) ?_
    refine V_aldn0 a_X11_layOrder_9 ?_
    refine V_fin a_X11_layOrder_10 f_X11_7 rfl hW ?_
    refine V_bipush a_X11_layOrder_13 (by decide) ?_
    refine V_w a_X11_layOrder_15 (by omega) hA ?_
    refine V_lc_ge_t a_X11_layOrder_16 a_X11_layOrder_17 (by omega) (by omega) ?_
    exact V_ret a_X11_layOrder_124 (⟨rfl, rfl⟩)
  · intro k k0 k1 ih x4
    have hx := lo_ok (A := A) (l := l) (s := s) (r := σ.I 59 0) k0
    rw [loX_s k0] at ih
    generalize loX A l s (σ.I 59 0) k = x at hx ih ⊢
    have hm : Md D (σ.od x) A := h'
    obtain ⟨b, hb, rb⟩ := B_isSliced (k := k) (l := l) (s := s) hm ⟨k0, k1⟩ hl hs
    have hreb : ∀ i, 0 ≤ i → i < A 7 → 0 ≤ A (83 + 23 * i + 3) ∧ A (83 + 23 * i + 3) ≤ 9999 := fun i i0 i1 => (hI.loan i0 i1).2.2.2.1
    have hrk := hreb k k0 k1
    unfold loS at ih
    by_cases q : slcA A k l s
    · have hb1 : b = 1 := by
        rcases hb with z | z
        · exact z.1
        · exact absurd q z.2
      rw [if_pos q] at ih
      refine V_ildn3 a_X11_layOrder_7 ?_
      refine V_i2l a_X11_layOrder_8 (by omega) ?_
      refine V_aldn0 a_X11_layOrder_9 ?_
      refine V_fin a_X11_layOrder_10 f_X11_7 rfl hW ?_
      refine V_bipush a_X11_layOrder_13 (by decide) ?_
      refine V_w a_X11_layOrder_15 (by omega) hA ?_
      refine V_lc_ge_f a_X11_layOrder_16 a_X11_layOrder_17 (by omega) (by omega) ?_
      refine V_aldn0 a_X11_layOrder_20 ?_
      refine V_ildn3 a_X11_layOrder_21 ?_
      refine V_ildn1 a_X11_layOrder_22 ?_
      refine V_ildn2 a_X11_layOrder_23 ?_
      refine V_v3R a_X11_layOrder_24 c_X11_311 rb ?_
      refine V_if_ne_t a_X11_layOrder_27 (by omega) (by omega) ?_
      refine V_aldn0 a_X11_layOrder_33 ?_
      refine V_getIE a_X11_layOrder_34 f_X11_308 rfl od_c ?_
      refine V_ist4 a_X11_layOrder_37 ?_
      refine loopW (I := isI (fun v => 0 ≤ v ∧ v < A 7) x.2) (g := isG A k) (f := isF) (m := isM) (P := fun y => V _ 2 0 0 39 [some (vR (some (11, 0))), some (vI l), some (vI s), some (vI k), some (vI y.2)] [] (σ.od (y.1, x.2)) _) is_s (E := wh (isG A k) isF isM x) ?_ ?_ x ⟨⟨hx.1.1, Int.le_refl _⟩, fun i i0 i1 hi => by have := (hx.2 i i0 (by omega)).1; omega⟩ rfl
      · intro hy hg
        unfold insA at ih
        generalize wh (isG A k) isF isM x = y at hy hg ih ⊢
        obtain ⟨hy1, hy2⟩ := hy
        have hg : ¬ (0 < y.2 ∧ A (83 + 23 * y.1 (y.2 - 1) + 3) < A (83 + 23 * k + 3)) := fun z => hg (decide_eq_true z)
        have hz : 0 < y.2 → (0 ≤ y.1 (y.2 - 1) ∧ y.1 (y.2 - 1) < A 7) ∧ 0 ≤ A (83 + 23 * y.1 (y.2 - 1) + 3) ∧ A (83 + 23 * y.1 (y.2 - 1) + 3) ≤ 9999 := fun z => by
          have z1 := hy2 (y.2 - 1) (by omega) (by omega) (by omega)
          exact ⟨z1, hreb _ z1.1 z1.2⟩
        refine V_ild4 a_X11_layOrder_39 ?_
        refine V_if_le a_X11_layOrder_41 (by omega) (fun hc41 => ?_) (fun hc41 => ?_)
        · refine V_aldn0 a_X11_layOrder_100 ?_
          refine V_fin a_X11_layOrder_101 f_X11_43 rfl hW ?_
          refine V_ild4 a_X11_layOrder_104 ?_
          refine V_ildn3 a_X11_layOrder_106 ?_
          refine V_iast a_X11_layOrder_107 rfl (by omega) ?_
          rw [od_set]
          refine V_aldn0 a_X11_layOrder_108 ?_
          first | refine V_dupR a_X11_layOrder_109 ?_ | refine V_dupI a_X11_layOrder_109 ?_
          refine V_getIE a_X11_layOrder_110 f_X11_308 rfl od_c ?_
          refine V_iconst a_X11_layOrder_113 ?_
          refine V_iadd a_X11_layOrder_114 ?_
          refine V_putI a_X11_layOrder_115 f_X11_308 rfl ?_
          rw [od_cnt]
          refine V_inc3 a_X11_layOrder_118 ?_
          refine V_goto a_X11_layOrder_121 ?_
          exact ih _
        · refine V_aldn0 a_X11_layOrder_44 ?_
          refine V_fin a_X11_layOrder_45 f_X11_7 rfl hW ?_
          refine V_aldn0 a_X11_layOrder_48 ?_
          refine V_fin a_X11_layOrder_49 f_X11_43 rfl hW ?_
          refine V_ild4 a_X11_layOrder_52 ?_
          refine V_iconst a_X11_layOrder_54 ?_
          refine V_isub a_X11_layOrder_55 ?_
          refine V_ialdE a_X11_layOrder_56 rfl (by omega) (v := y.1 (y.2 - 1)) (by rw [od_r]) ?_
          have hz := hz (by omega)
          refine V_s1R a_X11_layOrder_57 c_X11_197 R_loanAt ?_
          refine V_iconst a_X11_layOrder_60 ?_
          refine V_iadd a_X11_layOrder_61 ?_
          refine V_w a_X11_layOrder_62 (by omega) hA ?_
          refine V_aldn0 a_X11_layOrder_63 ?_
          refine V_fin a_X11_layOrder_64 f_X11_7 rfl hW ?_
          refine V_ildn3 a_X11_layOrder_67 ?_
          refine V_s1R a_X11_layOrder_68 c_X11_197 R_loanAt ?_
          refine V_iconst a_X11_layOrder_71 ?_
          refine V_iadd a_X11_layOrder_72 ?_
          refine V_w a_X11_layOrder_73 (by omega) hA ?_
          refine V_lc_ge_t a_X11_layOrder_74 a_X11_layOrder_75 (by omega) (by omega) ?_
          refine V_aldn0 a_X11_layOrder_100 ?_
          refine V_fin a_X11_layOrder_101 f_X11_43 rfl hW ?_
          refine V_ild4 a_X11_layOrder_104 ?_
          refine V_ildn3 a_X11_layOrder_106 ?_
          refine V_iast a_X11_layOrder_107 rfl (by omega) ?_
          rw [od_set]
          refine V_aldn0 a_X11_layOrder_108 ?_
          first | refine V_dupR a_X11_layOrder_109 ?_ | refine V_dupI a_X11_layOrder_109 ?_
          refine V_getIE a_X11_layOrder_110 f_X11_308 rfl od_c ?_
          refine V_iconst a_X11_layOrder_113 ?_
          refine V_iadd a_X11_layOrder_114 ?_
          refine V_putI a_X11_layOrder_115 f_X11_308 rfl ?_
          rw [od_cnt]
          refine V_inc3 a_X11_layOrder_118 ?_
          refine V_goto a_X11_layOrder_121 ?_
          exact ih _
      · intro y hy hg ih2
        have hs2 := is_s y hy hg
        obtain ⟨hy1, hy2⟩ := hy
        have hg := of_decide_eq_true hg
        have z1 := hy2 (y.2 - 1) (by omega) (by omega) (by omega)
        have z2 := hreb _ z1.1 z1.2
        refine V_ild4 a_X11_layOrder_39 ?_
        refine V_if_le_f a_X11_layOrder_41 (by omega) (by omega) ?_
        refine V_aldn0 a_X11_layOrder_44 ?_
        refine V_fin a_X11_layOrder_45 f_X11_7 rfl hW ?_
        refine V_aldn0 a_X11_layOrder_48 ?_
        refine V_fin a_X11_layOrder_49 f_X11_43 rfl hW ?_
        refine V_ild4 a_X11_layOrder_52 ?_
        refine V_iconst a_X11_layOrder_54 ?_
        refine V_isub a_X11_layOrder_55 ?_
        refine V_ialdE a_X11_layOrder_56 rfl (by omega) (v := y.1 (y.2 - 1)) (by rw [od_r]) ?_
        refine V_s1R a_X11_layOrder_57 c_X11_197 R_loanAt ?_
        refine V_iconst a_X11_layOrder_60 ?_
        refine V_iadd a_X11_layOrder_61 ?_
        refine V_w a_X11_layOrder_62 (by omega) hA ?_
        refine V_aldn0 a_X11_layOrder_63 ?_
        refine V_fin a_X11_layOrder_64 f_X11_7 rfl hW ?_
        refine V_ildn3 a_X11_layOrder_67 ?_
        refine V_s1R a_X11_layOrder_68 c_X11_197 R_loanAt ?_
        refine V_iconst a_X11_layOrder_71 ?_
        refine V_iadd a_X11_layOrder_72 ?_
        refine V_w a_X11_layOrder_73 (by omega) hA ?_
        refine V_lc_ge_f a_X11_layOrder_74 a_X11_layOrder_75 (by omega) (by omega) ?_
        refine V_aldn0 a_X11_layOrder_78 ?_
        refine V_fin a_X11_layOrder_79 f_X11_43 rfl hW ?_
        refine V_ild4 a_X11_layOrder_82 ?_
        refine V_aldn0 a_X11_layOrder_84 ?_
        refine V_fin a_X11_layOrder_85 f_X11_43 rfl hW ?_
        refine V_ild4 a_X11_layOrder_88 ?_
        refine V_iconst a_X11_layOrder_90 ?_
        refine V_isub a_X11_layOrder_91 ?_
        refine V_ialdE a_X11_layOrder_92 rfl (by omega) (v := y.1 (y.2 - 1)) (by rw [od_r]) ?_
        refine V_iast a_X11_layOrder_93 rfl (by omega) ?_
        rw [od_set]
        refine V_inc4 a_X11_layOrder_94 ?_
        refine V_goto a_X11_layOrder_97 ?_
        exact ih2
    · have hb1 : b = 0 := by
        rcases hb with z | z
        · exact absurd z.2 q
        · exact z.1
      rw [if_neg q] at ih
      refine V_ildn3 a_X11_layOrder_7 ?_
      refine V_i2l a_X11_layOrder_8 (by omega) ?_
      refine V_aldn0 a_X11_layOrder_9 ?_
      refine V_fin a_X11_layOrder_10 f_X11_7 rfl hW ?_
      refine V_bipush a_X11_layOrder_13 (by decide) ?_
      refine V_w a_X11_layOrder_15 (by omega) hA ?_
      refine V_lc_ge_f a_X11_layOrder_16 a_X11_layOrder_17 (by omega) (by omega) ?_
      refine V_aldn0 a_X11_layOrder_20 ?_
      refine V_ildn3 a_X11_layOrder_21 ?_
      refine V_ildn1 a_X11_layOrder_22 ?_
      refine V_ildn2 a_X11_layOrder_23 ?_
      refine V_v3R a_X11_layOrder_24 c_X11_311 rb ?_
      refine V_if_ne_f a_X11_layOrder_27 (by omega) (by omega) ?_
      refine V_goto a_X11_layOrder_30 ?_
      refine V_inc3 a_X11_layOrder_118 ?_
      refine V_goto a_X11_layOrder_121 ?_
      exact ih _
end Mo13

