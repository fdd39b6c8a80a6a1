theorem itr_const {α : Type} {f : Int → α → α} {a : α} {k n : Int} (k0 : 0 ≤ k) (kn : k ≤ n) (h : ∀ j, k ≤ j → j < n → f j (itr f k a) = itr f k a) : itr f n a = itr f k a := by
  refine loopF (P := fun z => itr f (n - (z - k)) a = itr f k a) (a := k) (N := n) kn ?_ ?_ |> fun z => by rw [Int.sub_self, Int.sub_zero] at z; exact z
  · rw [show n - (n - k) = k by omega]
  · intro z z0 z1 ih
    rw [show n - (z - k) = (n - (z + 1 - k)) + 1 by omega, itr_s _ (by omega), ih]
    exact h _ (by omega) (by omega)
theorem rcf_out {A : St} {k l s w j : Int} (hs : 0 ≤ s ∧ s < 4) (h1 : 0 ≤ A 1 ∧ A 1 ≤ 6) (hl : 0 ≤ l ∧ l < 6) (hj : ¬ (83 + 23 * k + 5 ≤ j ∧ j < 83 + 23 * k + 23)) (h2 : ¬ (23 ≤ j ∧ j < 27)) : rcfA A k l s w j = A j := by
  have hB := rb_out (A := A) (k := k) (l := l) (s := s) (rep := min w (freeB A l s)) (j := j) hs (by omega) h2
  unfold rcfA rcfC
  split
  · exact hB
  · split
    · rw [upI_ne (by omega), upI_ne (by omega)]
      exact hB
    · rw [upI_ne (by omega)]
      exact hB
def raS (row : Int → Int) (l s k : Int) (x : St × Int × Int) : St × Int × Int := if 0 < x.2.1 then (if 0 < min x.2.1 (x.1 (83 + 23 * row k + 5 + l) - x.1 (83 + 23 * row k + 11 + l)) then (rcfA x.1 (row k) l s (min x.2.1 (x.1 (83 + 23 * row k + 5 + l) - x.1 (83 + 23 * row k + 11 + l))), x.2.1 - min x.2.1 (x.1 (83 + 23 * row k + 5 + l) - x.1 (83 + 23 * row k + 11 + l)), x.2.2 + min (min x.2.1 (x.1 (83 + 23 * row k + 5 + l) - x.1 (83 + 23 * row k + 11 + l))) (freeB x.1 l s)) else (x.1, x.2.1 - min x.2.1 (x.1 (83 + 23 * row k + 5 + l) - x.1 (83 + 23 * row k + 11 + l)), x.2.2)) else x
def raX (A : St) (row : Int → Int) (l s q k : Int) : St × Int × Int := itr (raS row l s) k (A, q, 0)
theorem raX_s {A : St} {row : Int → Int} {l s q k : Int} (h : 0 ≤ k) : raX A row l s q (k + 1) = raS row l s k (raX A row l s q k) := itr_s _ h _
def racX (A : St) (l s q : Int) (r : Int → Int) : St × Int × Int := raX A (loX A l s r (A 7)).1 l s q (loX A l s r (A 7)).2
def racA (A : St) (l s q : Int) (r : Int → Int) : St := upI (racX A l s q r).1 11 ((racX A l s q r).1 11 + (racX A l s q r).2.2)
section Mo14
variable {D : Int} {σ : Hp} {A : St}
def RaI (D : Int) (A : St) (q : Int) (x : St × Int × Int) : Prop := Inv D x.1 ∧ (x.1 7 = A 7 ∧ x.1 1 = A 1) ∧ (∀ i, 0 ≤ i → x.1 (83 + 23 * i + 2) = A (83 + 23 * i + 2)) ∧ (0 ≤ x.2.1 ∧ 0 ≤ x.2.2 ∧ x.2.2 ≤ q - x.2.1)
theorem ra_ok {row : Int → Int} {l s q c k : Int} (hI : Inv D A) (hl : 0 ≤ l ∧ l < A 1) (hs : 0 ≤ s ∧ s < 4) (hq : 0 ≤ q) (hr : ∀ i, 0 ≤ i → i < c → (0 ≤ row i ∧ row i < A 7) ∧ A (83 + 23 * row i + 2) = s) (k0 : 0 ≤ k) (k1 : k ≤ c) : RaI D A q (raX A row l s q k) := by
  have hn := hI.n
  refine itr_ind (f := raS row l s) (a := (A, q, (0 : Int))) (fun _ x => RaI D A q x) ⟨hI, ⟨rfl, rfl⟩, fun _ _ => rfl, by show 0 ≤ q ∧ (0 : Int) ≤ 0 ∧ (0 : Int) ≤ q - q; omega⟩ k0 (fun j x j0 j1 hx => ?_)
  obtain ⟨h1, h2, h3, h4⟩ := hx
  have hj := hr j j0 (by omega)
  have hsl := ((h1.loan hj.1.1 (by rw [h2.1]; exact hj.1.2)).sl hl.1 (by omega)).1
  have hf := freeB_bd h1 (but := l) hs.1 hs.2
  unfold raS
  by_cases z1 : 0 < x.2.1
  · rw [if_pos z1]
    generalize hv : min x.2.1 (x.1 (83 + 23 * row j + 5 + l) - x.1 (83 + 23 * row j + 11 + l)) = v
    by_cases z2 : 0 < v
    · rw [if_pos z2]
      refine ⟨(rcf_inv h1 (by rw [h2.1]; exact hj.1) (by rw [h2.2]; exact hl) hs (by rw [h3 _ hj.1.1]; exact hj.2) (by omega)).2, ⟨?_, ?_⟩, fun i i0 => ?_, ?_⟩
      · show rcfA x.1 (row j) l s v 7 = A 7
        rw [rcf_out hs (by omega) (by omega) (by omega) (by omega)]
        exact h2.1
      · show rcfA x.1 (row j) l s v 1 = A 1
        rw [rcf_out hs (by omega) (by omega) (by omega) (by omega)]
        exact h2.2
      · show rcfA x.1 (row j) l s v _ = _
        rw [rcf_out hs (by omega) (by omega) (by omega) (by omega)]
        exact h3 i i0
      · show 0 ≤ x.2.1 - v ∧ 0 ≤ x.2.2 + min v (freeB x.1 l s) ∧ x.2.2 + min v (freeB x.1 l s) ≤ q - (x.2.1 - v)
        omega
    · rw [if_neg z2]
      refine ⟨h1, h2, h3, ?_⟩
      show 0 ≤ x.2.1 - v ∧ 0 ≤ x.2.2 ∧ x.2.2 ≤ q - (x.2.1 - v)
      omega
  · rw [if_neg z1]
    exact ⟨h1, h2, h3, h4⟩
theorem inv_acc {j v : Int} (hI : Inv D A) (hj : (9 ≤ j ∧ j < 15) ∨ (73 ≤ j ∧ j < 83)) : Inv D (upI A j v) := by
  have hn := hI.n
  refine hI.agree (Ag.up (by omega)) (fun z z0 z1 => ?_)
  rw [upI_ne (by omega)]
  exact hI.last z0 z1
theorem rac_ok {l s q : Int} {r : Int → Int} (hI : Inv D A) (hl : 0 ≤ l ∧ l < A 1) (hs : 0 ≤ s ∧ s < 4) (hq : 0 ≤ q) : RaI D A q (racX A l s q r) ∧ Inv D (racA A l s q r) := by
  have hn := hI.n
  have hx := lo_ok (A := A) (l := l) (s := s) (r := r) (k := A 7) (by omega)
  have h := ra_ok (q := q) (row := (loX A l s r (A 7)).1) (c := (loX A l s r (A 7)).2) hI hl hs hq (fun i i0 i1 => ⟨(hx.2 i i0 i1).1, (hx.2 i i0 i1).2.1⟩) hx.1.1 (Int.le_refl _)
  exact ⟨h, inv_acc h.1 (by omega)⟩
theorem R_recallAll {l s q : Int} (h : Md D σ A) (hl : 0 ≤ l ∧ l < A 1) (hs : 0 ≤ s ∧ s < 4) (hq : 0 ≤ q ∧ q ≤ 99999) : Cv m_X11_recallAll 8 0 0 [vR (some (11, 0)), vI l, vI s, vL q] σ (some (vL (racX A l s q (σ.I 59 0)).2.2)) (fun τ => FK [50, 56, 57, 59] [19] σ τ ∧ Md D τ (racA A l s q (σ.I 59 0))) := by
  have h' := h
  obtain ⟨hD, hW, hA, hI⟩ := h
  have hn := hI.n
  have hx := lo_ok (A := A) (l := l) (s := s) (r := σ.I 59 0) (k := A 7) (by omega)
  have r1 := R_layOrder (l := l) (s := s) h' (by omega) hs
  have hok := rac_ok (l := l) (s := s) (q := q) (r := σ.I 59 0) hI hl hs hq.1
  unfold racA at hok ⊢
  have hXe : racX A l s q (σ.I 59 0) = raX A (loX A l s (σ.I 59 0) (A 7)).1 l s q (loX A l s (σ.I 59 0) (A 7)).2 := rfl
  generalize loX A l s (σ.I 59 0) (A 7) = O at hx r1 hXe
  have hR : ∀ i, 0 ≤ i → i < O.2 → (0 ≤ O.1 i ∧ O.1 i < A 7) ∧ A (83 + 23 * O.1 i + 2) = s := fun i i0 i1 => ⟨(hx.2 i i0 i1).1, (hx.2 i i0 i1).2.1⟩
  generalize racX A l s q (σ.I 59 0) = X at hok hXe ⊢
  have hm : Md D (σ.od O) A := h'
  have tail : ∀ τ, FK [50, 56, 57, 59] [19] σ τ → Md D τ X.1 → ∀ x5 x9 x10 x11 x12 : Option AV, V m_X11_recallAll 8 0 0 92 [some (vR (some (11, 0))), some (vI l), some (vI s), some (vL q), none, x5, none, some (vL X.2.2), none, x9, x10, x11, x12] [] τ (fun r τ' => r = Sum.inl (some (vL X.2.2)) ∧ FK [50, 56, 57, 59] [19] σ τ' ∧ Md D τ' (upI X.1 11 (X.1 11 + X.2.2))) := by
    intro τ f m x5 x9 x10 x11 x12
    obtain ⟨-, hW, hA, -⟩ := id m
    refine V_aldn0 a_X11_recallAll_92 ?_
    refine V_fin a_X11_recallAll_93 f_X11_7 rfl hW ?_
    refine V_bipush a_X11_recallAll_96 (by decide) ?_
    first | refine V_dup2IR a_X11_recallAll_98 ?_ | refine V_dup2L a_X11_recallAll_98 ?_
    refine V_w a_X11_recallAll_99 (by omega) hA ?_
    refine V_lld7 a_X11_recallAll_100 ?_
    refine V_ladd a_X11_recallAll_102 ?_
    refine V_last a_X11_recallAll_103 rfl (by omega) ?_
    rw [setJ_row, hA]
    refine V_lld7 a_X11_recallAll_104 ?_
    exact V_lret a_X11_recallAll_106 (⟨rfl, f.trans ((Fm.rJ (by decide)).fk (by decide)), m.w hD hok.2⟩)
  show V _ 8 0 0 0 [some (vR (some (11, 0))), some (vI l), some (vI s), some (vL q), none, none, none, none, none, none, none, none, none] [] σ _
  refine V_lldn3 a_X11_recallAll_0 ?_
  refine V_lst5 a_X11_recallAll_1 ?_
  refine V_lconst0 a_X11_recallAll_3 ?_
  refine V_lst7 a_X11_recallAll_4 ?_
  refine V_aldn0 a_X11_recallAll_6 ?_
  refine V_ildn1 a_X11_recallAll_7 ?_
  refine V_ildn2 a_X11_recallAll_8 ?_
  refine V_v2V a_X11_recallAll_9 c_X11_314 r1 ?_
  refine V_iconst a_X11_recallAll_12 ?_
  refine V_ist9 a_X11_recallAll_13 ?_
  refine loopI (P := fun k => ∀ τ, FK [50, 56, 57] [] (σ.od O) τ → Md D τ (raX A O.1 l s q k).1 → ∀ x10 x11 x12 : Option AV, V m_X11_recallAll 8 0 0 15 [some (vR (some (11, 0))), some (vI l), some (vI s), some (vL q), none, some (vL (raX A O.1 l s q k).2.1), none, some (vL (raX A O.1 l s q k).2.2), none, some (vI k), x10, x11, x12] [] τ (fun r τ' => r = Sum.inl (some (vL X.2.2)) ∧ FK [50, 56, 57, 59] [19] σ τ' ∧ Md D τ' (upI X.1 11 (X.1 11 + X.2.2)))) (N := O.2) hx.1.1 ?_ ?_ (σ.od O) (FK.refl _ _ _) hm none none none
  · intro τ f m x10 x11 x12
    have fo : FK [50, 56, 57, 59] [19] σ τ := (FK.od.sub (by decide) (by decide)).trans (f.sub (by decide) (by decide))
    have ec : τ.I 11 0 19 = O.2 := by rw [f.2 19 (by decide)]; exact od_c
    rw [← hXe] at m ⊢
    obtain ⟨-, hW, hA, -⟩ := id m
    refine V_ild9 a_X11_recallAll_15 ?_
    refine V_aldn0 a_X11_recallAll_17 ?_
    refine V_getIE a_X11_recallAll_18 f_X11_308 rfl ec ?_
    refine V_icmp_ge_t a_X11_recallAll_21 (by omega) (by omega) ?_
    exact tail τ fo m _ _ _ _ _
  · intro k k0 k1 ih τ f m x10 x11 x12
    have fo : FK [50, 56, 57, 59] [19] σ τ := (FK.od.sub (by decide) (by decide)).trans (f.sub (by decide) (by decide))
    have ec : τ.I 11 0 19 = O.2 := by rw [f.2 19 (by decide)]; exact od_c
    have er : τ.I 59 0 k = O.1 k := by rw [f.1.I (by decide), od_r]
    have hra := ra_ok (q := q) hI hl hs hq.1 hR k0 (Int.le_of_lt k1)
    have hc : 0 ≤ (raX A O.1 l s q k).2.1 ∧ (raX A O.1 l s q k).2.1 ≤ q := by have := hra.2.2.2; omega
    obtain ⟨-, hW, hA, -⟩ := id m
    by_cases z1 : 0 < (raX A O.1 l s q k).2.1
    · rw [raX_s k0] at ih
      generalize raX A O.1 l s q k = x at hra m ih hc z1 hA ⊢
      obtain ⟨i1, i2, i3, i4⟩ := hra
      have hj := hR k k0 k1
      have hsl := ((i1.loan hj.1.1 (by rw [i2.1]; exact hj.1.2)).sl hl.1 (by omega)).1
      have hf := freeB_bd i1 (but := l) hs.1 hs.2
      unfold raS at ih
      rw [if_pos z1] at ih
      generalize hv : min x.2.1 (x.1 (83 + 23 * O.1 k + 5 + l) - x.1 (83 + 23 * O.1 k + 11 + l)) = v at ih
      by_cases z2 : 0 < v
      · rw [if_pos z2] at ih
        obtain ⟨τ1, f1, m1, r2⟩ := R_recallFrom (k := O.1 k) (l := l) (s := s) (w := v) m (by rw [i2.1]; exact hj.1) (by rw [i2.2]; exact hl) hs (by rw [i3 _ hj.1.1]; exact hj.2) (by omega)
        have ih := ih τ1 (f.trans (f1.fk (by decide))) m1
        refine V_ild9 a_X11_recallAll_15 ?_
        refine V_aldn0 a_X11_recallAll_17 ?_
        refine V_getIE a_X11_recallAll_18 f_X11_308 rfl ec ?_
        refine V_icmp_ge_f a_X11_recallAll_21 (by omega) (by omega) ?_
        refine V_lld5 a_X11_recallAll_24 ?_
        refine V_lconst0 a_X11_recallAll_26 ?_
        refine V_lc_le_f a_X11_recallAll_27 a_X11_recallAll_28 (by omega) (by omega) ?_
        refine V_aldn0 a_X11_recallAll_31 ?_
        refine V_fin a_X11_recallAll_32 f_X11_43 rfl hW ?_
        refine V_ild9 a_X11_recallAll_35 ?_
        refine V_ialdE a_X11_recallAll_37 rfl (by omega) (v := O.1 k) er ?_
        refine V_s1R a_X11_recallAll_38 c_X11_197 R_loanAt ?_
        refine V_ist10 a_X11_recallAll_41 ?_
        refine V_lld5 a_X11_recallAll_43 ?_
        refine V_aldn0 a_X11_recallAll_45 ?_
        refine V_ild10 a_X11_recallAll_46 ?_
        refine V_ildn1 a_X11_recallAll_48 ?_
        refine V_v2R a_X11_recallAll_49 c_X11_305 (R_unrecalled hW hA (by omega) (by omega)) ?_
        refine V_s2R a_X11_recallAll_52 c_X11_227 (R_lmin (by omega) (by omega)) ?_
        rw [hv]
        refine V_lst11 a_X11_recallAll_55 ?_
        refine V_lld11 a_X11_recallAll_57 ?_
        refine V_lconst0 a_X11_recallAll_59 ?_
        refine V_lc_le_f a_X11_recallAll_60 a_X11_recallAll_61 (by omega) (by omega) ?_
        refine V_lld7 a_X11_recallAll_64 ?_
        refine V_aldn0 a_X11_recallAll_66 ?_
        refine V_ild10 a_X11_recallAll_67 ?_
        refine V_ildn1 a_X11_recallAll_69 ?_
        refine V_ildn2 a_X11_recallAll_70 ?_
        refine V_lld11 a_X11_recallAll_71 ?_
        refine V_v4R a_X11_recallAll_73 c_X11_317 r2 ?_
        refine V_ladd a_X11_recallAll_76 ?_
        refine V_lst7 a_X11_recallAll_77 ?_
        refine V_lld5 a_X11_recallAll_79 ?_
        refine V_lld11 a_X11_recallAll_81 ?_
        refine V_lsub a_X11_recallAll_83 ?_
        refine V_lst5 a_X11_recallAll_84 ?_
        refine V_inc9 a_X11_recallAll_86 ?_
        refine V_goto a_X11_recallAll_89 ?_
        exact ih _ _ _
      · rw [if_neg z2] at ih
        have ih := ih τ f m
        refine V_ild9 a_X11_recallAll_15 ?_
        refine V_aldn0 a_X11_recallAll_17 ?_
        refine V_getIE a_X11_recallAll_18 f_X11_308 rfl ec ?_
        refine V_icmp_ge_f a_X11_recallAll_21 (by omega) (by omega) ?_
        refine V_lld5 a_X11_recallAll_24 ?_
        refine V_lconst0 a_X11_recallAll_26 ?_
        refine V_lc_le_f a_X11_recallAll_27 a_X11_recallAll_28 (by omega) (by omega) ?_
        refine V_aldn0 a_X11_recallAll_31 ?_
        refine V_fin a_X11_recallAll_32 f_X11_43 rfl hW ?_
        refine V_ild9 a_X11_recallAll_35 ?_
        refine V_ialdE a_X11_recallAll_37 rfl (by omega) (v := O.1 k) er ?_
        refine V_s1R a_X11_recallAll_38 c_X11_197 R_loanAt ?_
        refine V_ist10 a_X11_recallAll_41 ?_
        refine V_lld5 a_X11_recallAll_43 ?_
        refine V_aldn0 a_X11_recallAll_45 ?_
        refine V_ild10 a_X11_recallAll_46 ?_
        refine V_ildn1 a_X11_recallAll_48 ?_
        refine V_v2R a_X11_recallAll_49 c_X11_305 (R_unrecalled hW hA (by omega) (by omega)) ?_
        refine V_s2R a_X11_recallAll_52 c_X11_227 (R_lmin (by omega) (by omega)) ?_
        rw [hv]
        refine V_lst11 a_X11_recallAll_55 ?_
        refine V_lld11 a_X11_recallAll_57 ?_
        refine V_lconst0 a_X11_recallAll_59 ?_
        refine V_lc_le_t a_X11_recallAll_60 a_X11_recallAll_61 (by omega) (by omega) ?_
        refine V_lld5 a_X11_recallAll_79 ?_
        refine V_lld11 a_X11_recallAll_81 ?_
        refine V_lsub a_X11_recallAll_83 ?_
        refine V_lst5 a_X11_recallAll_84 ?_
        refine V_inc9 a_X11_recallAll_86 ?_
        refine V_goto a_X11_recallAll_89 ?_
        exact ih _ _ _
    · have e : X = raX A O.1 l s q k := by
        rw [hXe]
        exact itr_const k0 (Int.le_of_lt k1) (fun j _ _ => if_neg z1)
      rw [← e] at m hc z1 ⊢
      refine V_ild9 a_X11_recallAll_15 ?_
      refine V_aldn0 a_X11_recallAll_17 ?_
      refine V_getIE a_X11_recallAll_18 f_X11_308 rfl ec ?_
      refine V_icmp_ge_f a_X11_recallAll_21 (by omega) (by omega) ?_
      refine V_lld5 a_X11_recallAll_24 ?_
      refine V_lconst0 a_X11_recallAll_26 ?_
      refine V_lc_le_t a_X11_recallAll_27 a_X11_recallAll_28 (by omega) (by omega) ?_
      exact tail τ fo m _ _ _ _ _
end Mo14

