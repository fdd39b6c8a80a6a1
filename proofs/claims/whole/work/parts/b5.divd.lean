theorem acI_l {l : Int} (h : l < 6) : acI l = 73 + l := if_pos h
theorem acI_b {b : Int} (h : 0 ≤ b ∧ b < 4) : acI (6 + b) = 79 + b := by
  unfold acI
  rw [if_neg (by omega), if_pos (by omega)]
  omega
theorem acI_x {c : Int} (h : 0 ≤ c) : acI (10 + c) = 12 + c := by
  unfold acI
  rw [if_neg (by omega), if_neg (by omega)]
  omega
/-- the accounts and sums of one pool -/
def jsS (i : Nat) (t n : Nat) : Prop := (t = 45 ∨ t = 46) ∧ n = i
def FJ (i : Nat) (σ τ : Hp) : Prop := τ.I = σ.I ∧ FX (jsS i) σ τ
theorem FJ.refl (i : Nat) (σ : Hp) : FJ i σ σ := ⟨rfl, FX.refl _ _⟩
theorem FJ.trans {i : Nat} {σ τ ρ : Hp} (h : FJ i σ τ) (h2 : FJ i τ ρ) : FJ i σ ρ := ⟨h2.1.trans h.1, h.2.trans h2.2⟩
theorem FJ.bal {i : Nat} {σ : Hp} {p v : Int} : FJ i σ (σ.setJ 45 i p v) := ⟨rfl, FX.setJ ⟨Or.inl rfl, rfl⟩⟩
theorem FJ.sum {i : Nat} {σ : Hp} {p v : Int} : FJ i σ (σ.setJ 46 i p v) := ⟨rfl, FX.setJ ⟨Or.inr rfl, rfl⟩⟩
theorem FJ.fp {i : Nat} {σ τ : Hp} (h : FJ i σ τ) : Fp i σ τ := h.2.fp (fun t n z => by
  unfold jsS at z
  unfold plS
  omega)
/-- only accounts changed -/
theorem Cl.ac {D : Int} {σ τ : Hp} {i : Nat} {A B : St} (h : Cl D σ i A) (f : FJ i σ τ) (ha : Ac A B) (hJ : RelJ τ i B) : Cl D τ i B := by
  obtain ⟨hD, hW, hR, hS, hI⟩ := h
  have hn := hI.n
  refine ⟨hD, f.2.wf hW, rel_J hR (by omega) f.1 f.2.2.1 ha hJ, ?_, hI.ac ha⟩
  unfold Shp lid at hS ⊢
  rw [f.2.2.1]
  exact hS
section Dv
variable {D : Int} {σ : Hp} {A : St} {i : Nat}
theorem R_Ctrade {l s q : Int} (h : Cl D σ i A) (hl : 0 ≤ l ∧ l < A 1) (hs : 0 ≤ s ∧ s < A 0) (hq : -99999 ≤ q ∧ q ≤ 99999) (hinv : Inv D (trdA A l s q)) : Cv m_X1_trade 1 0 0 [vR (some (1, 0)), vR (some (6, i)), vI l, vI s, vI q] σ (some (vI (A (49 + 4 * l + s) + q))) (fun τ => Fp i σ τ ∧ Cl D τ i (trdA A l s q)) := by
  obtain ⟨hD, hW, hR, hS, hI⟩ := h
  have hn := hI.n
  have g37 := (hR.sec hs.1 hs.2).1
  have hpr := (hI.price hs.1 hs.2).1
  have gl : σ.J 45 i l = A (73 + l) := hR.acc.1.1 l hl.1 (by omega)
  have g12 : (σ.setJ 45 i l (A (73 + l) - q * A (15 + s))).J 45 i 12 = A 14 := by
    rw [setJ_ne (by omega)]
    exact hR.acc.1.2.2.2.2
  have g44 : ((σ.setJ 45 i l (A (73 + l) - q * A (15 + s))).setJ 45 i 12 (A 14 + q * A (15 + s))).I 44 i (l * 4 + s) = A (49 + 4 * l + s) := hR.held hl.1 (by omega) hs.1 (by omega)
  have rh := R_heldBy (σ := ((σ.setJ 45 i l (A (73 + l) - q * A (15 + s))).setJ 45 i 12 (A 14 + q * A (15 + s))).setI 44 i (l * 4 + s) (A (49 + 4 * l + s) + q)) (i := i) (l := l) (s := s) (v := A (49 + 4 * l + s) + q) hW (by omega) (by omega) setI_I
  have rel1 : Rel (σ.setI 44 i (l * 4 + s) (A (49 + 4 * l + s) + q)) i (upI A (49 + 4 * l + s) (A (49 + 4 * l + s) + q)) := by
    obtain ⟨r1, r2, r3, r4, r5, r6, r7, r8, r9⟩ := hR
    have eI : ∀ t, t ≠ 44 → (σ.setI 44 i (l * 4 + s) (A (49 + 4 * l + s) + q)).I t = σ.I t := fun t ht => setI_t ht
    have hB : ∀ j, ¬ (49 ≤ j ∧ j < 73) → upI A (49 + 4 * l + s) (A (49 + 4 * l + s) + q) j = A j := fun j hj => upI_ne (by omega)
    unfold Rel
    rw [eI 36 (by decide), eI 37 (by decide), eI 38 (by decide), eI 39 (by decide), eI 40 (by decide), eI 41 (by decide), eI 42 (by decide), eI 43 (by decide), eI 3 (by decide), eI 30 (by decide), eI 31 (by decide), eI 32 (by decide)]
    rw [hB 0 (by decide), hB 1 (by decide), hB 2 (by decide), hB 3 (by decide), hB 4 (by decide), hB 5 (by decide), hB 6 (by decide), hB 7 (by decide), hB 8 (by decide), hB 9 (by decide), hB 10 (by decide), hB 11 (by decide), hB 12 (by decide), hB 13 (by decide), hB 14 (by decide)]
    refine ⟨r1, fun s s0 s1 => ?_, fun s s0 s1 => ?_, fun l l0 l1 => ?_, fun b b0 b1 => ?_, fun l' s' l0 l1 s0 s1 => ?_, ⟨fun l l0 l1 => ?_, fun b b0 b1 => ?_, r7.2.2⟩, r8, fun k k0 k1 => ?_⟩
    · rw [hB _ (by omega), hB _ (by omega)]
      exact r2 s s0 s1
    · rw [hB _ (by omega)]
      exact r3 s s0 s1
    · rw [hB _ (by omega), hB _ (by omega), hB _ (by omega)]
      exact r4 l l0 l1
    · rw [hB _ (by omega)]
      exact r5 b b0 b1
    · by_cases z : l' = l ∧ s' = s
      · rw [z.1, z.2, setI_I, upI_eq]
      · rw [setI_ne (by omega), upI_ne (by omega)]
        exact r6 l' s' l0 l1 s0 s1
    · rw [hB _ (by omega)]
      exact r7.1 l l0 l1
    · rw [hB _ (by omega)]
      exact r7.2.1 b b0 b1
    · have h9 : LnA σ (lid σ i k) A k := r9 k k0 k1
      exact h9.congr (τ := σ) (k' := k) (fun t _ => rfl) (fun c c0 c1 => hB _ (by omega))
  have j1 := relJ_bal (p := l) (v := A (73 + l) - q * A (15 + s)) rel1.acc (by omega)
  rw [acI_l (by omega)] at j1
  have j2 := relJ_bal (p := 12) (v := A 14 + q * A (15 + s)) j1 (by omega)
  rw [show acI 12 = 14 from rfl] at j2
  have rl : Rel (((σ.setJ 45 i l (A (73 + l) - q * A (15 + s))).setJ 45 i 12 (A 14 + q * A (15 + s))).setI 44 i (l * 4 + s) (A (49 + 4 * l + s) + q)) i (trdA A l s q) := by
    have z := rel_J (τ := ((σ.setI 44 i (l * 4 + s) (A (49 + 4 * l + s) + q)).setJ 45 i l (A (73 + l) - q * A (15 + s))).setJ 45 i 12 (A 14 + q * A (15 + s))) (B := trdA A l s q) rel1 (by rw [upI_ne (by omega), upI_ne (by omega), upI_ne (by omega)]; omega) rfl rfl (fun j c1 c2 => by unfold trdA; rw [upI_ne (by omega), upI_ne (by omega)]) j2
    exact z
  have ff : Fp i σ (((σ.setJ 45 i l (A (73 + l) - q * A (15 + s))).setJ 45 i 12 (A 14 + q * A (15 + s))).setI 44 i (l * 4 + s) (A (49 + 4 * l + s) + q)) := ((FJ.bal.trans FJ.bal).fp).trans ((FX.setI (S := fun t n => t = 44 ∧ n = i) ⟨rfl, rfl⟩).fp (fun t n z => by unfold plS; omega))
  show V _ 1 0 0 0 [some (vR (some (1, 0))), some (vR (some (6, i))), some (vI l), some (vI s), some (vI q), none, none] [] σ _
  refine V_ild4 a_X1_trade_0 ?_
  refine V_i2l a_X1_trade_2 (by omega) ?_
  refine V_aldn1 a_X1_trade_3 ?_
  refine V_fin a_X1_trade_4 f_X1_54 rfl hW ?_
  refine V_ildn3 a_X1_trade_7 ?_
  refine V_ialdE a_X1_trade_8 rfl (by omega) g37 ?_
  refine V_i2l a_X1_trade_9 (by omega) ?_
  refine V_lmul a_X1_trade_10 ?_
  refine V_lst5 a_X1_trade_11 ?_
  refine V_aldn1 a_X1_trade_13 ?_
  refine V_fin a_X1_trade_14 f_X1_173 rfl hW ?_
  refine V_ildn2 a_X1_trade_17 ?_
  first | refine V_dup2IR a_X1_trade_18 ?_ | refine V_dup2L a_X1_trade_18 ?_
  refine V_laldE a_X1_trade_19 rfl (by omega) gl ?_
  refine V_lld5 a_X1_trade_20 ?_
  refine V_lsub a_X1_trade_22 ?_
  refine V_last a_X1_trade_23 rfl (by omega) ?_
  refine V_aldn1 a_X1_trade_24 ?_
  refine V_fin a_X1_trade_25 f_X1_173 rfl hW ?_
  refine V_bipush a_X1_trade_28 (by decide) ?_
  first | refine V_dup2IR a_X1_trade_30 ?_ | refine V_dup2L a_X1_trade_30 ?_
  refine V_laldE a_X1_trade_31 rfl (by omega) g12 ?_
  refine V_lld5 a_X1_trade_32 ?_
  refine V_ladd a_X1_trade_34 ?_
  refine V_last a_X1_trade_35 rfl (by omega) ?_
  refine V_aldn1 a_X1_trade_36 ?_
  refine V_fin a_X1_trade_37 f_X1_186 rfl hW ?_
  refine V_ildn2 a_X1_trade_40 ?_
  refine V_iconst a_X1_trade_41 ?_
  refine V_imul a_X1_trade_42 ?_
  refine V_ildn3 a_X1_trade_43 ?_
  refine V_iadd a_X1_trade_44 ?_
  first | refine V_dup2IR a_X1_trade_45 ?_ | refine V_dup2L a_X1_trade_45 ?_
  refine V_ialdE a_X1_trade_46 rfl (by omega) g44 ?_
  refine V_ild4 a_X1_trade_47 ?_
  refine V_iadd a_X1_trade_49 ?_
  refine V_iast a_X1_trade_50 rfl (by omega) ?_
  refine V_aldn1 a_X1_trade_51 ?_
  refine V_ildn2 a_X1_trade_52 ?_
  refine V_ildn3 a_X1_trade_53 ?_
  refine V_v2R a_X1_trade_54 c_X1_189 rh ?_
  exact V_iret a_X1_trade_57 (⟨rfl, ff, hD, hW, rl, hS, hinv⟩)
theorem R_payOn {k l a : Int} {x : St × Int} (h : Cl D σ i x.1) (hk : 0 ≤ k ∧ k < x.1 7) (hl : 0 ≤ l ∧ l < x.1 1) (ha : 1 ≤ a ∧ a ≤ 9999) : Cv m_X1_payOn 0 0 0 [vR (some (1, 0)), vR (some (6, i)), vR (some (3, lid σ i k)), vI l, vI a] σ (some (vL (x.1 (83 + 23 * k + 5 + l) * a))) (fun τ => FJ i σ τ ∧ Cl D τ i (dvB k a l x).1) := by
  have h' := h
  obtain ⟨hD, hW, hR, hS, hI⟩ := h
  have hn := hI.n
  have hli := hI.loan hk.1 hk.2
  have hsl := (hli.sl hl.1 (show l < 6 by omega)).1
  have hb := hli.2.1
  have lns := hR.lns k hk.1 hk.2
  have g30 := (lns.2.2.2.2.2 l hl.1 (by omega)).1
  have g1 := lns.2.1
  have g42 := (hR.lend hl.1 hl.2).2.2
  have htx := (hI.lend hl.1 hl.2).2.2
  have m1 := mul_bd (a := x.1 (83 + 23 * k + 5 + l)) (b := a) (M := 99999) (N := 9999) (by omega) (by omega) (by omega) (by omega)
  have m2 := mul_bd (a := x.1 (83 + 23 * k + 5 + l) * a) (b := 100 - x.1 (39 + l)) (M := 999890001) (N := 100) (by omega) (by omega) (by omega) (by omega)
  have hac : Ac x.1 (dvB k a l x).1 := fun j c1 c2 => by
    show upI _ 13 _ j = _
    rw [upI_ne (by omega), upI_ne (by omega), upI_ne (by omega)]
  have ej : (dvB k a l x).1 = upI (upI (upI x.1 (79 + x.1 (83 + 23 * k + 1)) (x.1 (79 + x.1 (83 + 23 * k + 1)) - x.1 (83 + 23 * k + 5 + l) * a)) (73 + l) (x.1 (73 + l) + dvO x.1 k a l)) 13 (x.1 13 + (x.1 (83 + 23 * k + 5 + l) * a - dvO x.1 k a l)) := by
    unfold dvB
    show upI (upI _ _ (upI _ _ _ _ + _)) 13 (upI (upI _ _ _) _ _ 13 + _) = _
    rw [upI_ne (j := 13) (by omega), upI_ne (j := 13) (by omega), upI_ne (j := 73 + l) (by omega)]
  rw [ej] at hac ⊢
  have j1 := relJ_bal (p := 6 + x.1 (83 + 23 * k + 1)) (v := x.1 (79 + x.1 (83 + 23 * k + 1)) - x.1 (83 + 23 * k + 5 + l) * a) hR.acc (by omega)
  rw [acI_b (by omega)] at j1
  have j2 := relJ_bal (p := l) (v := x.1 (73 + l) + dvO x.1 k a l) j1 (by omega)
  rw [acI_l (by omega)] at j2
  have j3 := relJ_bal (p := 11) (v := x.1 13 + (x.1 (83 + 23 * k + 5 + l) * a - dvO x.1 k a l)) j2 (by omega)
  rw [show acI 11 = 13 from rfl] at j3
  have gb : σ.J 45 i (6 + x.1 (83 + 23 * k + 1)) = x.1 (79 + x.1 (83 + 23 * k + 1)) := hR.acc.1.2.1 _ (by omega) (by omega)
  have gl := j1.1.1 l hl.1 (by omega)
  rw [upI_ne (by omega)] at gl
  have gt := j2.1.2.2.2.1
  rw [upI_ne (by omega), upI_ne (by omega)] at gt
  have fj : FJ i σ (((σ.setJ 45 i (6 + x.1 (83 + 23 * k + 1)) (x.1 (79 + x.1 (83 + 23 * k + 1)) - x.1 (83 + 23 * k + 5 + l) * a)).setJ 45 i l (x.1 (73 + l) + dvO x.1 k a l)).setJ 45 i 11 (x.1 13 + (x.1 (83 + 23 * k + 5 + l) * a - dvO x.1 k a l))) := (FJ.bal.trans FJ.bal).trans FJ.bal
  have cf := h'.ac fj hac j3
  unfold dvO at *
  show V _ 0 0 0 0 [some (vR (some (1, 0))), some (vR (some (6, i))), some (vR (some (3, lid σ i k))), some (vI l), some (vI a), none, none, none, none] [] σ _
  refine V_aldn2 a_X1_payOn_0 ?_
  refine V_fin a_X1_payOn_1 f_X1_127 rfl hW ?_
  refine V_ildn3 a_X1_payOn_4 ?_
  refine V_ialdE a_X1_payOn_5 rfl (by omega) g30 ?_
  refine V_i2l a_X1_payOn_6 (by omega) ?_
  refine V_ild4 a_X1_payOn_7 ?_
  refine V_i2l a_X1_payOn_9 (by omega) ?_
  refine V_lmul a_X1_payOn_10 ?_
  refine V_lst5 a_X1_payOn_11 ?_
  refine V_lld5 a_X1_payOn_13 ?_
  refine V_bipush a_X1_payOn_15 (by decide) ?_
  refine V_aldn1 a_X1_payOn_17 ?_
  refine V_fin a_X1_payOn_18 f_X1_183 rfl hW ?_
  refine V_ildn3 a_X1_payOn_21 ?_
  refine V_ialdE a_X1_payOn_22 rfl (by omega) g42 ?_
  refine V_isub a_X1_payOn_23 ?_
  refine V_i2l a_X1_payOn_24 (by omega) ?_
  refine V_lmul a_X1_payOn_25 ?_
  refine V_ldc2 a_X1_payOn_26 q_X1_171 ?_
  refine V_ldiv a_X1_payOn_29 (by omega) ?_
  refine V_lst7 a_X1_payOn_30 ?_
  refine V_aldn1 a_X1_payOn_32 ?_
  refine V_fin a_X1_payOn_33 f_X1_173 rfl hW ?_
  refine V_bipush a_X1_payOn_36 (by decide) ?_
  refine V_aldn2 a_X1_payOn_38 ?_
  refine V_getIE a_X1_payOn_39 f_X1_176 rfl g1 ?_
  refine V_iadd a_X1_payOn_42 ?_
  first | refine V_dup2IR a_X1_payOn_43 ?_ | refine V_dup2L a_X1_payOn_43 ?_
  refine V_laldE a_X1_payOn_44 rfl (by omega) gb ?_
  refine V_lld5 a_X1_payOn_45 ?_
  refine V_lsub a_X1_payOn_47 ?_
  refine V_last a_X1_payOn_48 rfl (by omega) ?_
  refine V_aldn1 a_X1_payOn_49 ?_
  refine V_fin a_X1_payOn_50 f_X1_173 rfl hW ?_
  refine V_ildn3 a_X1_payOn_53 ?_
  first | refine V_dup2IR a_X1_payOn_54 ?_ | refine V_dup2L a_X1_payOn_54 ?_
  refine V_laldE a_X1_payOn_55 rfl (by omega) gl ?_
  refine V_lld7 a_X1_payOn_56 ?_
  refine V_ladd a_X1_payOn_58 ?_
  refine V_last a_X1_payOn_59 rfl (by omega) ?_
  refine V_aldn1 a_X1_payOn_60 ?_
  refine V_fin a_X1_payOn_61 f_X1_173 rfl hW ?_
  refine V_bipush a_X1_payOn_64 (by decide) ?_
  first | refine V_dup2IR a_X1_payOn_66 ?_ | refine V_dup2L a_X1_payOn_66 ?_
  refine V_laldE a_X1_payOn_67 rfl (by omega) gt ?_
  refine V_lld5 a_X1_payOn_68 ?_
  refine V_lld7 a_X1_payOn_70 ?_
  refine V_lsub a_X1_payOn_72 ?_
  refine V_ladd a_X1_payOn_73 ?_
  refine V_last a_X1_payOn_74 rfl (by omega) ?_
  refine V_lld5 a_X1_payOn_75 ?_
  exact V_lret a_X1_payOn_77 (⟨rfl, fj, cf⟩)
theorem R_dividend {s a : Int} (h : Cl D σ i A) (hs : 0 ≤ s ∧ s < 4) (ha : 1 ≤ a ∧ a ≤ 9999) : Cv m_X1_dividend 1 0 0 [vR (some (1, 0)), vR (some (6, i)), vI s, vI a] σ (some (vL (divX A s a (A 7)).2)) (fun τ => FJ i σ τ ∧ Cl D τ i (divX A s a (A 7)).1) := by
  have h' := h
  obtain ⟨hD, hW, hR, hS, hI⟩ := h
  have hn := hI.n
  show V _ 1 0 0 0 [some (vR (some (1, 0))), some (vR (some (6, i))), some (vI s), some (vI a), none, none, none, none] [] σ _
  refine V_lconst0 a_X1_dividend_0 ?_
  refine V_lst4 a_X1_dividend_1 ?_
  refine V_iconst a_X1_dividend_3 ?_
  refine V_ist6 a_X1_dividend_4 ?_
  skip
  refine loopI (P := fun k => ∀ (τ : Hp) (o7 : Option AV), FJ i σ τ → Cl D τ i (divX A s a k).1 → V m_X1_dividend 1 0 0 6 [some (vR (some (1, 0))), some (vR (some (6, i))), some (vI s), some (vI a), some (vL (divX A s a k).2), none, some (vI k), o7] [] τ (fun r τ => r = .inl (some (vL (divX A s a (A 7)).2)) ∧ FJ i σ τ ∧ Cl D τ i (divX A s a (A 7)).1)) (N := A 7) (by omega) ?_ ?_ σ none (FJ.refl _ _) h'
  · intro τ o7 f hc
    have hac := div_ac (s := s) (a := a) hI (n := A 7) (by omega) (Int.le_refl _)
    have n3 : τ.I 36 i 3 = A 7 := hc.2.2.1.1.2.2.2.1.trans (hac 7 (by omega) (by omega))
    have hW := hc.2.1
    refine V_ild6 a_X1_dividend_6 ?_
    refine V_aldn1 a_X1_dividend_8 ?_
    refine V_fin a_X1_dividend_9 f_X1_43 rfl hW ?_
    refine V_iconst a_X1_dividend_12 ?_
    refine V_ialdE a_X1_dividend_13 rfl (by omega) n3 ?_
    refine V_icmp_ge_t a_X1_dividend_14 (by omega) (by omega) ?_
    refine V_lld4 a_X1_dividend_77 ?_
    exact V_lret a_X1_dividend_79 (⟨rfl, f, hc⟩)
  · intro k k0 k1 ih τ o7 f hc
    have hac := div_ac (s := s) (a := a) hI (n := k) k0 (by omega)
    rw [divX_s k0] at ih
    generalize divX A s a (A 7) = E at ih ⊢
    generalize divX A s a k = x at hac ih hc ⊢
    have e7 := hac 7 (by omega) (by omega)
    have e1 := hac 1 (by omega) (by omega)
    have iB := hc.2.2.2.2
    have n3 : τ.I 36 i 3 = A 7 := hc.2.2.1.1.2.2.2.1.trans e7
    have lns := hc.2.2.1.lns k k0 (by omega)
    have g2 := lns.2.2.1
    have q2 := (iB.loan k0 (by omega)).2.2.1
    have hnB := iB.n
    have hL := hc.2.2.2.1.L
    have hW := hc.2.1
    unfold dvS at ih
    by_cases z : x.1 (83 + 23 * k + 2) = s
    · rw [if_pos z] at ih
      have p34 : ∀ (τ : Hp), FJ i σ τ → Cl D τ i x.1 → V m_X1_dividend 1 0 0 34 [some (vR (some (1, 0))), some (vR (some (6, i))), some (vI s), some (vI a), some (vL x.2), none, some (vI k), some (vI 0)] [] τ (fun r τ => r = .inl (some (vL E.2)) ∧ FJ i σ τ ∧ Cl D τ i E.1) := by
        refine loopI (P := fun l => ∀ (τ : Hp), FJ i σ τ → Cl D τ i (dvX k a x l).1 → V m_X1_dividend 1 0 0 34 [some (vR (some (1, 0))), some (vR (some (6, i))), some (vI s), some (vI a), some (vL (dvX k a x l).2), none, some (vI k), some (vI l)] [] τ (fun r τ => r = .inl (some (vL E.2)) ∧ FJ i σ τ ∧ Cl D τ i E.1)) (N := x.1 1) (by omega) ?_ ?_
        · intro τ f hc
          have e1b := dvX_ac (a := a) iB ⟨k0, by omega⟩ (n := x.1 1) (by omega) (Int.le_refl _) 1 (by omega) (by omega)
          have n1 : τ.I 36 i 1 = x.1 1 := hc.2.2.1.1.2.1.trans e1b
          have hW := hc.2.1
          have ih2 := ih τ (some (vI (x.1 1))) f hc
          refine V_ild7 a_X1_dividend_34 ?_
          refine V_aldn1 a_X1_dividend_36 ?_
          refine V_fin a_X1_dividend_37 f_X1_43 rfl hW ?_
          refine V_iconst a_X1_dividend_40 ?_
          refine V_ialdE a_X1_dividend_41 rfl (by omega) n1 ?_
          refine V_icmp_ge_t a_X1_dividend_42 (by omega) (by omega) ?_
          refine V_inc6 a_X1_dividend_71 ?_
          refine V_goto a_X1_dividend_74 ?_
          exact ih2
        · intro l l0 l1 ih2 τ f hc
          have hy := dvX_ac (a := a) iB ⟨k0, by omega⟩ (n := l) l0 (by omega)
          rw [dvX_s l0] at ih2
          generalize dvX k a x l = y at hy ih2 hc ⊢
          have f1 := hy 1 (by omega) (by omega)
          have f7 := hy 7 (by omega) (by omega)
          have n1 : τ.I 36 i 1 = x.1 1 := hc.2.2.1.1.2.1.trans f1
          have hL := hc.2.2.2.1.L
          have hW := hc.2.1
          have rp := R_payOn (k := k) (l := l) (a := a) (x := y) hc ⟨k0, by omega⟩ ⟨l0, by omega⟩ ha
          refine V_ild7 a_X1_dividend_34 ?_
          refine V_aldn1 a_X1_dividend_36 ?_
          refine V_fin a_X1_dividend_37 f_X1_43 rfl hW ?_
          refine V_iconst a_X1_dividend_40 ?_
          refine V_ialdE a_X1_dividend_41 rfl (by omega) n1 ?_
          refine V_icmp_ge_f a_X1_dividend_42 (by omega) (by omega) ?_
          refine V_lld4 a_X1_dividend_45 ?_
          refine V_aldn0 a_X1_dividend_47 ?_
          refine V_aldn1 a_X1_dividend_48 ?_
          refine V_aldn1 a_X1_dividend_49 ?_
          refine V_fin a_X1_dividend_50 f_X1_83 rfl hW ?_
          refine V_ild6 a_X1_dividend_53 ?_
          refine V_aald a_X1_dividend_55 rfl (by omega) (hL _ (by omega) (by omega)) ?_
          refine V_ild7 a_X1_dividend_56 ?_
          refine V_ildn3 a_X1_dividend_58 ?_
          refine V_v4PR a_X1_dividend_59 c_X1_179 rp (fun τ2 hτ2 => ?_)
          refine V_ladd a_X1_dividend_62 ?_
          refine V_lst4 a_X1_dividend_63 ?_
          refine V_inc7 a_X1_dividend_65 ?_
          refine V_goto a_X1_dividend_68 ?_
          exact ih2 τ2 (f.trans hτ2.1) hτ2.2
      have k2 := p34 τ f hc
      refine V_ild6 a_X1_dividend_6 ?_
      refine V_aldn1 a_X1_dividend_8 ?_
      refine V_fin a_X1_dividend_9 f_X1_43 rfl hW ?_
      refine V_iconst a_X1_dividend_12 ?_
      refine V_ialdE a_X1_dividend_13 rfl (by omega) n3 ?_
      refine V_icmp_ge_f a_X1_dividend_14 (by omega) (by omega) ?_
      refine V_aldn1 a_X1_dividend_17 ?_
      refine V_fin a_X1_dividend_18 f_X1_83 rfl hW ?_
      refine V_ild6 a_X1_dividend_21 ?_
      refine V_aald a_X1_dividend_23 rfl (by omega) (hL _ (by omega) (by omega)) ?_
      refine V_getIE a_X1_dividend_24 f_X1_141 rfl g2 ?_
      refine V_ildn2 a_X1_dividend_27 ?_
      refine V_icmp_ne_f a_X1_dividend_28 (by omega) (by omega) ?_
      refine V_iconst a_X1_dividend_31 ?_
      refine V_ist7 a_X1_dividend_32 ?_
      exact k2
    · rw [if_neg z] at ih
      have ih2 := ih τ o7 f hc
      refine V_ild6 a_X1_dividend_6 ?_
      refine V_aldn1 a_X1_dividend_8 ?_
      refine V_fin a_X1_dividend_9 f_X1_43 rfl hW ?_
      refine V_iconst a_X1_dividend_12 ?_
      refine V_ialdE a_X1_dividend_13 rfl (by omega) n3 ?_
      refine V_icmp_ge_f a_X1_dividend_14 (by omega) (by omega) ?_
      refine V_aldn1 a_X1_dividend_17 ?_
      refine V_fin a_X1_dividend_18 f_X1_83 rfl hW ?_
      refine V_ild6 a_X1_dividend_21 ?_
      refine V_aald a_X1_dividend_23 rfl (by omega) (hL _ (by omega) (by omega)) ?_
      refine V_getIE a_X1_dividend_24 f_X1_141 rfl g2 ?_
      refine V_ildn2 a_X1_dividend_27 ?_
      refine V_icmp_ne_t a_X1_dividend_28 (by omega) (by omega) ?_
      refine V_inc6 a_X1_dividend_71 ?_
      refine V_goto a_X1_dividend_74 ?_
      exact ih2
end Dv

