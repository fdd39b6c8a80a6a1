/-- the accounts and sums of a pool -/
def RelJ (σ : Hp) (i : Nat) (A : St) : Prop := ((∀ l, 0 ≤ l → l < 6 → σ.J 45 i l = A (73 + l)) ∧ (∀ b, 0 ≤ b → b < 4 → σ.J 45 i (6 + b) = A (79 + b)) ∧ σ.J 45 i 10 = A 12 ∧ σ.J 45 i 11 = A 13 ∧ σ.J 45 i 12 = A 14) ∧ (σ.J 46 i 0 = A 9 ∧ σ.J 46 i 1 = A 10 ∧ σ.J 46 i 2 = A 11)
theorem Rel.acc {σ : Hp} {i : Nat} {A : St} (h : Rel σ i A) : RelJ σ i A := ⟨h.2.2.2.2.2.2.1, h.2.2.2.2.2.2.2.1⟩
theorem rel_J {σ τ : Hp} {i : Nat} {A B : St} (hR : Rel σ i A) (hn : (0 ≤ A 0 ∧ A 0 ≤ 4) ∧ (0 ≤ A 1 ∧ A 1 ≤ 6) ∧ (0 ≤ A 2 ∧ A 2 ≤ 4)) (hI : τ.I = σ.I) (hP : τ.P = σ.P) (hB : ∀ j, ¬ (9 ≤ j ∧ j < 15) → ¬ (73 ≤ j ∧ j < 83) → B j = A j) (hJ : RelJ τ i B) : Rel τ i B := by
  have el : ∀ x, lid τ i x = lid σ i x := fun x => by
    unfold lid
    rw [hP]
  obtain ⟨r1, r2, r3, r4, r5, r6, r7, r8, r9⟩ := hR
  unfold Rel
  rw [hI, hB 0 (by decide) (by decide), hB 1 (by decide) (by decide), hB 2 (by decide) (by decide), hB 3 (by decide) (by decide), hB 4 (by decide) (by decide), hB 5 (by decide) (by decide), hB 6 (by decide) (by decide), hB 7 (by decide) (by decide), hB 8 (by decide) (by decide)]
  refine ⟨r1, fun s s0 s1 => ?_, fun s s0 s1 => ?_, fun l l0 l1 => ?_, fun b b0 b1 => ?_, fun l s l0 l1 s0 s1 => ?_, hJ.1, hJ.2, fun k k0 k1 => ?_⟩
  · rw [hB _ (by omega) (by omega), hB _ (by omega) (by omega)]
    exact r2 s s0 s1
  · rw [hB _ (by omega) (by omega)]
    exact r3 s s0 s1
  · rw [hB _ (by omega) (by omega), hB _ (by omega) (by omega), hB _ (by omega) (by omega)]
    exact r4 l l0 l1
  · rw [hB _ (by omega) (by omega)]
    exact r5 b b0 b1
  · rw [hB _ (by omega) (by omega)]
    exact r6 l s l0 l1 s0 s1
  · rw [el]
    have h9 : LnA σ (lid σ i k) A k := r9 k k0 k1
    have h9 := h9.congr (τ := τ) (B := B) (k' := k) (fun t _ => by rw [hI]) (fun c c0 c1 => hB _ (by omega) (by omega))
    unfold LnA at h9
    rw [hI] at h9
    exact h9
theorem relJ_sum {σ : Hp} {i : Nat} {A : St} {c v : Int} (h : RelJ σ i A) (hc : 0 ≤ c ∧ c < 3) : RelJ (σ.setJ 46 i c v) i (upI A (9 + c) v) := by
  obtain ⟨⟨a1, a2, a3, a4, a5⟩, b1, b2, b3⟩ := h
  have e : (σ.setJ 46 i c v).J 45 i = σ.J 45 i := setJ_nn (by omega)
  unfold RelJ
  rw [e, upI_ne (j := 12) (by omega), upI_ne (j := 13) (by omega), upI_ne (j := 14) (by omega)]
  refine ⟨⟨fun l l0 l1 => ?_, fun b b0 b1 => ?_, a3, a4, a5⟩, ?_, ?_, ?_⟩
  · rw [upI_ne (by omega)]
    exact a1 l l0 l1
  · rw [upI_ne (by omega)]
    exact a2 b b0 b1
  · by_cases z : c = 0
    · rw [z, setJ_J]
      exact upI_eq.symm
    · rw [setJ_ne (by omega), upI_ne (by omega)]
      exact b1
  · by_cases z : c = 1
    · rw [z, setJ_J]
      exact upI_eq.symm
    · rw [setJ_ne (by omega), upI_ne (by omega)]
      exact b2
  · by_cases z : c = 2
    · rw [z, setJ_J]
      exact upI_eq.symm
    · rw [setJ_ne (by omega), upI_ne (by omega)]
      exact b3
/-- where an account stands in the state -/
def acI (p : Int) : Int := if p < 6 then 73 + p else if p < 10 then 73 + p else 2 + p
theorem relJ_bal {σ : Hp} {i : Nat} {A : St} {p v : Int} (h : RelJ σ i A) (hp : 0 ≤ p ∧ p < 13) : RelJ (σ.setJ 45 i p v) i (upI A (acI p) v) := by
  obtain ⟨⟨a1, a2, a3, a4, a5⟩, b1, b2, b3⟩ := h
  have e : (σ.setJ 45 i p v).J 46 i = σ.J 46 i := setJ_nn (by omega)
  have ha : (p < 10 ∧ acI p = 73 + p) ∨ (10 ≤ p ∧ acI p = 2 + p) := by
    unfold acI
    by_cases z : p < 6
    · rw [if_pos z]
      omega
    · rw [if_neg z]
      by_cases y : p < 10
      · rw [if_pos y]
        omega
      · rw [if_neg y]
        omega
  unfold RelJ
  rw [e, upI_ne (j := 9) (by omega), upI_ne (j := 10) (by omega), upI_ne (j := 11) (by omega)]
  refine ⟨⟨fun l l0 l1 => ?_, fun b b0 b1 => ?_, ?_, ?_, ?_⟩, b1, b2, b3⟩
  · by_cases z : p = l
    · rw [show acI p = 73 + l by omega, z, setJ_J]
      exact upI_eq.symm
    · rw [setJ_ne (by omega), upI_ne (by omega)]
      exact a1 l l0 l1
  · by_cases z : p = 6 + b
    · rw [show acI p = 79 + b by omega, z, setJ_J]
      exact upI_eq.symm
    · rw [setJ_ne (by omega), upI_ne (by omega)]
      exact a2 b b0 b1
  · by_cases z : p = 10
    · rw [show acI p = 12 by omega, z, setJ_J]
      exact upI_eq.symm
    · rw [setJ_ne (by omega), upI_ne (by omega)]
      exact a3
  · by_cases z : p = 11
    · rw [show acI p = 13 by omega, z, setJ_J]
      exact upI_eq.symm
    · rw [setJ_ne (by omega), upI_ne (by omega)]
      exact a4
  · by_cases z : p = 12
    · rw [show acI p = 14 by omega, z, setJ_J]
      exact upI_eq.symm
    · rw [setJ_ne (by omega), upI_ne (by omega)]
      exact a5
section Ci
variable {D : Int} {σ : Hp} {A : St} {i : Nat}
theorem R_callIn {l s q : Int} (h : Cl D σ i A) (hl : 0 ≤ l ∧ l < A 1) (hs : 0 ≤ s ∧ s < 4) (hq : 0 ≤ q ∧ q ≤ 99999) : Cv m_X1_callIn 4 0 0 [vR (some (1, 0)), vR (some (6, i)), vI l, vI s, vI q] σ (some (vI (rcaN A l s q))) (fun τ => Fp i σ τ ∧ Cl D τ i (rcaA A l s q)) := by
  have h' := h
  obtain ⟨hD, hW0, hR, hS, hI⟩ := h
  have hn := hI.n
  have r1 := R_putInCallOrder (l := l) (s := s) h' (by omega) (by omega)
  have eN : rcaN A l s q = (racX A l s q (σ.I 23 0)).2.2 := by
    unfold rcaN
    rw [rac_row (r' := σ.I 23 0)]
  have eA : rcaA A l s q = racA A l s q (σ.I 23 0) := racA_row
  have hok := lo_ok (A := A) (l := l) (s := s) (r := σ.I 23 0) (k := A 7) (by omega)
  have hfin := rac_ok (r := σ.I 23 0) hI hl hs hq.1
  rw [eN, eA]
  unfold racA at hfin ⊢
  unfold racX at hfin ⊢
  generalize loX A l s (σ.I 23 0) (A 7) = x at r1 hok hfin ⊢
  have F0 : Fp i σ (σ.rI 23 0 x.1) := (FX.rI (S := fun t n => t = 23 ∧ n = 0) ⟨rfl, rfl⟩).fp (fun t n z => by unfold plS; omega)
  have hc0 : Cl D (σ.rI 23 0 x.1) i A := h'.fm (L := [23]) (Fm.rI (by decide)) (by decide)
  have hra : ∀ k, 0 ≤ k → k ≤ x.2 → RaI D A q (raX A x.1 l s q k) := fun k k0 k1 => ra_ok (c := x.2) hI hl hs hq.1 (fun j j0 j1 => ⟨(hok.2 j j0 j1).1, (hok.2 j j0 j1).2.1⟩) k0 k1
  have p95 : ∀ (τ : Hp) (k : Int) (o9 o10 : Option AV), Fp i σ τ → Cl D τ i (raX A x.1 l s q x.2).1 → V m_X1_callIn 4 0 0 95 [some (vR (some (1, 0))), some (vR (some (6, i))), some (vI l), some (vI s), some (vI q), some (vI x.2), some (vI (raX A x.1 l s q x.2).2.1), some (vI (raX A x.1 l s q x.2).2.2), some (vI k), o9, o10] [] τ (fun r τ => r = .inl (some (vI (raX A x.1 l s q x.2).2.2)) ∧ Fp i σ τ ∧ Cl D τ i (upI (raX A x.1 l s q x.2).1 11 ((raX A x.1 l s q x.2).1 11 + (raX A x.1 l s q x.2).2.2))) := by
    intro τ k o9 o10 f hc
    have hb := (hra x.2 hok.1.1 (Int.le_refl _)).2.2.2
    generalize raX A x.1 l s q x.2 = y at hb hc hfin ⊢
    obtain ⟨_, hW, hRt, hSt, hIt⟩ := hc
    have hny := hIt.n
    have g : τ.J 46 i 2 = y.1 11 := hRt.acc.2.2.2
    have rl : Rel (τ.setJ 46 i 2 (y.1 11 + y.2.2)) i (upI y.1 11 (y.1 11 + y.2.2)) := rel_J hRt (by omega) rfl rfl (fun j j1 j2 => upI_ne (by omega)) (relJ_sum (c := 2) hRt.acc (by omega))
    have F1 : Fp i τ (τ.setJ 46 i 2 (y.1 11 + y.2.2)) := (FX.setJ (S := fun t n => t = 46 ∧ n = i) ⟨rfl, rfl⟩).fp (fun t n z => by unfold plS; omega)
    refine V_aldn1 a_X1_callIn_95 ?_
    refine V_fin a_X1_callIn_96 f_X1_137 rfl hW ?_
    refine V_iconst a_X1_callIn_99 ?_
    first | refine V_dup2IR a_X1_callIn_100 ?_ | refine V_dup2L a_X1_callIn_100 ?_
    refine V_laldE a_X1_callIn_101 rfl (by omega) g ?_
    refine V_ild7 a_X1_callIn_102 ?_
    refine V_i2l a_X1_callIn_104 (by omega) ?_
    refine V_ladd a_X1_callIn_105 ?_
    refine V_last a_X1_callIn_106 rfl (by omega) ?_
    refine V_ild7 a_X1_callIn_107 ?_
    exact V_iret a_X1_callIn_109 (⟨rfl, f.trans F1, hD, hW, rl, hSt, hfin.2⟩)
  have p19 : ∀ (τ : Hp) (o9 o10 : Option AV), Fp i σ τ → τ.P = σ.P → τ.I 23 0 = x.1 → Cl D τ i A → V m_X1_callIn 4 0 0 19 [some (vR (some (1, 0))), some (vR (some (6, i))), some (vI l), some (vI s), some (vI q), some (vI x.2), some (vI q), some (vI 0), some (vI 0), o9, o10] [] τ (fun r τ => r = .inl (some (vI (raX A x.1 l s q x.2).2.2)) ∧ Fp i σ τ ∧ Cl D τ i (upI (raX A x.1 l s q x.2).1 11 ((raX A x.1 l s q x.2).1 11 + (raX A x.1 l s q x.2).2.2))) := by
    refine loopI (P := fun k => ∀ (τ : Hp) (o9 o10 : Option AV), Fp i σ τ → τ.P = σ.P → τ.I 23 0 = x.1 → Cl D τ i (raX A x.1 l s q k).1 → V m_X1_callIn 4 0 0 19 [some (vR (some (1, 0))), some (vR (some (6, i))), some (vI l), some (vI s), some (vI q), some (vI x.2), some (vI (raX A x.1 l s q k).2.1), some (vI (raX A x.1 l s q k).2.2), some (vI k), o9, o10] [] τ (fun r τ => r = .inl (some (vI (raX A x.1 l s q x.2).2.2)) ∧ Fp i σ τ ∧ Cl D τ i (upI (raX A x.1 l s q x.2).1 11 ((raX A x.1 l s q x.2).1 11 + (raX A x.1 l s q x.2).2.2)))) (N := x.2) hok.1.1 ?_ ?_
    · intro τ o9 o10 f hP h23 hc
      have k2 := p95 τ x.2 o9 o10 f hc
      refine V_ild8 a_X1_callIn_19 ?_
      refine V_ild5 a_X1_callIn_21 ?_
      refine V_icmp_ge_t a_X1_callIn_23 (by omega) (by omega) ?_
      exact k2
    · intro k k0 k1 ih τ o9 o10 f hP h23 hc
      have hbk := hra k k0 (by omega)
      by_cases z : 0 < (raX A x.1 l s q k).2.1
      · rw [raX_s k0] at ih
        have hrow := hok.2 k k0 k1
        generalize raX A x.1 l s q k = y at hbk hc ih z ⊢
        obtain ⟨hIy, ⟨e7, e1⟩, e2, hb⟩ := hbk
        have hky : 0 ≤ x.1 k ∧ x.1 k < y.1 7 := by omega
        have hks : y.1 (83 + 23 * x.1 k + 2) = s := (e2 _ hrow.1.1).trans hrow.2.1
        have hsl := ((hIy.loan hky.1 hky.2).sl hl.1 (show l < 6 by omega)).1
        have rm := R_imin (σ := τ) (x := y.2.1) (y := y.1 (83 + 23 * x.1 k + 5 + l) - y.1 (83 + 23 * x.1 k + 11 + l)) (by omega) (by omega)
        unfold raS at ih
        rw [if_pos z] at ih
        generalize hw : min y.2.1 (y.1 (83 + 23 * x.1 k + 5 + l) - y.1 (83 + 23 * x.1 k + 11 + l)) = w at ih rm
        have rf := R_callInFrom (k := x.1 k) (l := l) (s := s) (w := w) hc hky (by omega) hks (by omega)
        have hfb := freeB_bd hIy (but := l) hs.1 hs.2
        have hL := hc.2.2.2.1.L
        have lns := hc.2.2.1.lns _ hky.1 hky.2
        have g30 := (lns.2.2.2.2.2 l hl.1 (by omega)).1
        have g31 := (lns.2.2.2.2.2 l hl.1 (by omega)).2.1
        have g23 : τ.I 23 0 k = x.1 k := by rw [h23]
        have hlid := hc.2.2.2.1.1 (x.1 k) hky.1 (by omega)
        have hW := hc.2.1
        refine V_ild8 a_X1_callIn_19 ?_
        refine V_ild5 a_X1_callIn_21 ?_
        refine V_icmp_ge_f a_X1_callIn_23 (by omega) (by omega) ?_
        refine V_ild6 a_X1_callIn_26 ?_
        refine V_if_le_f a_X1_callIn_28 (by omega) (by omega) ?_
        refine V_aldn1 a_X1_callIn_31 ?_
        refine V_fin a_X1_callIn_32 f_X1_83 rfl hW ?_
        refine V_aldn0 a_X1_callIn_35 ?_
        refine V_fin a_X1_callIn_36 f_X1_18 rfl hW ?_
        refine V_ild8 a_X1_callIn_39 ?_
        refine V_ialdE a_X1_callIn_41 rfl (by omega) g23 ?_
        refine V_aald a_X1_callIn_42 rfl (by omega) (hL _ (by omega) (by omega)) ?_
        refine V_ast9 a_X1_callIn_43 ?_
        refine V_ild6 a_X1_callIn_45 ?_
        refine V_ald9 a_X1_callIn_47 ?_
        refine V_fin a_X1_callIn_49 f_X1_127 rfl hW ?_
        refine V_ildn2 a_X1_callIn_52 ?_
        refine V_ialdE a_X1_callIn_53 rfl (by omega) g30 ?_
        refine V_ald9 a_X1_callIn_54 ?_
        refine V_fin a_X1_callIn_56 f_X1_130 rfl hW ?_
        refine V_ildn2 a_X1_callIn_59 ?_
        refine V_ialdE a_X1_callIn_60 rfl (by omega) g31 ?_
        refine V_isub a_X1_callIn_61 ?_
        refine V_s2R a_X1_callIn_62 c_X1_97 rm ?_
        refine V_ist10 a_X1_callIn_65 ?_
        refine V_ild7 a_X1_callIn_67 ?_
        refine V_aldn0 a_X1_callIn_69 ?_
        refine V_aldn1 a_X1_callIn_70 ?_
        refine V_ald9 a_X1_callIn_71 ?_
        refine V_ildn2 a_X1_callIn_73 ?_
        refine V_ild10 a_X1_callIn_74 ?_
        refine V_v4PR a_X1_callIn_76 c_X1_133 rf (fun τ2 hτ2 => ?_)
        skip
        obtain ⟨f2, c2⟩ := hτ2
        have F2 : Fp i σ τ2 := f.trans (f2.fp (fun t n z => by unfold cfS slS at z; unfold plS; omega))
        have hP2 : τ2.P = σ.P := f2.2.1.trans hP
        have h232 : τ2.I 23 0 = x.1 := by
          rw [f2.I (by intro z; unfold cfS slS at z; omega)]
          exact h23
        by_cases zw : 0 < w
        · rw [if_pos zw] at ih c2
          have ih2 := ih τ2 (some (vR (some (3, lid τ i (x.1 k))))) (some (vI w)) F2 hP2 h232 c2
          refine V_iadd a_X1_callIn_79 ?_
          refine V_ist7 a_X1_callIn_80 ?_
          refine V_ild6 a_X1_callIn_82 ?_
          refine V_ild10 a_X1_callIn_84 ?_
          refine V_isub a_X1_callIn_86 ?_
          refine V_ist6 a_X1_callIn_87 ?_
          refine V_inc8 a_X1_callIn_89 ?_
          refine V_goto a_X1_callIn_92 ?_
          exact ih2
        · rw [if_neg zw] at ih c2
          have e0 : min w (freeB y.1 l s) = 0 := by omega
          rw [e0]
          have ih2 := ih τ2 (some (vR (some (3, lid τ i (x.1 k))))) (some (vI w)) F2 hP2 h232 c2
          have ea : y.2.2 + 0 = y.2.2 := Int.add_zero _
          refine V_iadd a_X1_callIn_79 ?_
          rw [ea]
          refine V_ist7 a_X1_callIn_80 ?_
          refine V_ild6 a_X1_callIn_82 ?_
          refine V_ild10 a_X1_callIn_84 ?_
          refine V_isub a_X1_callIn_86 ?_
          refine V_ist6 a_X1_callIn_87 ?_
          refine V_inc8 a_X1_callIn_89 ?_
          refine V_goto a_X1_callIn_92 ?_
          exact ih2
      · have e : raX A x.1 l s q x.2 = raX A x.1 l s q k := itr_const k0 (by omega) (fun j j0 j1 => if_neg z)
        have hb := hbk.2.2.2
        have k2 := p95 τ k o9 o10 f (by rw [e]; exact hc)
        rw [e] at k2 ⊢
        refine V_ild8 a_X1_callIn_19 ?_
        refine V_ild5 a_X1_callIn_21 ?_
        refine V_icmp_ge_f a_X1_callIn_23 (by omega) (by omega) ?_
        refine V_ild6 a_X1_callIn_26 ?_
        refine V_if_le_t a_X1_callIn_28 (by omega) (by omega) ?_
        exact k2
  have k1 := p19 (σ.rI 23 0 x.1) none none F0 rfl rI_I hc0
  show V _ 4 0 0 0 [some (vR (some (1, 0))), some (vR (some (6, i))), some (vI l), some (vI s), some (vI q), none, none, none, none, none, none] [] σ _
  refine V_aldn0 a_X1_callIn_0 ?_
  refine V_aldn1 a_X1_callIn_1 ?_
  refine V_ildn2 a_X1_callIn_2 ?_
  refine V_ildn3 a_X1_callIn_3 ?_
  refine V_v3R a_X1_callIn_4 c_X1_123 r1 ?_
  refine V_ist5 a_X1_callIn_7 ?_
  refine V_ild4 a_X1_callIn_9 ?_
  refine V_ist6 a_X1_callIn_11 ?_
  refine V_iconst a_X1_callIn_13 ?_
  refine V_ist7 a_X1_callIn_14 ?_
  refine V_iconst a_X1_callIn_16 ?_
  refine V_ist8 a_X1_callIn_17 ?_
  exact k1
end Ci

