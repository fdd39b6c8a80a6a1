/-- a change of pool i and of what S names -/
def FP (S : Nat → Nat → Prop) (i : Nat) (σ τ : Hp) : Prop := τ.F = σ.F ∧ τ.B = σ.B ∧ τ.al = σ.al ∧ τ.sl = σ.sl ∧ (∀ t n, ¬ (t = 47 ∧ n = i) → τ.P t n = σ.P t n) ∧ ∀ t n, ¬ S t n → τ.I t n = σ.I t n ∧ τ.J t n = σ.J t n
theorem FP.refl (S : Nat → Nat → Prop) (i : Nat) (σ : Hp) : FP S i σ σ := ⟨rfl, rfl, rfl, rfl, fun _ _ _ => rfl, fun _ _ _ => ⟨rfl, rfl⟩⟩
theorem FP.trans {S : Nat → Nat → Prop} {i : Nat} {σ τ ρ : Hp} (h : FP S i σ τ) (h2 : FP S i τ ρ) : FP S i σ ρ := ⟨h2.1.trans h.1, h2.2.1.trans h.2.1, h2.2.2.1.trans h.2.2.1, h2.2.2.2.1.trans h.2.2.2.1, fun t n hn => (h2.2.2.2.2.1 t n hn).trans (h.2.2.2.2.1 t n hn), fun t n hn => ⟨(h2.2.2.2.2.2 t n hn).1.trans (h.2.2.2.2.2 t n hn).1, (h2.2.2.2.2.2 t n hn).2.trans (h.2.2.2.2.2 t n hn).2⟩⟩
theorem FP.I {S : Nat → Nat → Prop} {i : Nat} {σ τ : Hp} (h : FP S i σ τ) {t n : Nat} (hn : ¬ S t n) : τ.I t n = σ.I t n := (h.2.2.2.2.2 t n hn).1
theorem FP.J {S : Nat → Nat → Prop} {i : Nat} {σ τ : Hp} (h : FP S i σ τ) {t n : Nat} (hn : ¬ S t n) : τ.J t n = σ.J t n := (h.2.2.2.2.2 t n hn).2
theorem FP.wf {S : Nat → Nat → Prop} {i : Nat} {σ τ : Hp} (h : FP S i σ τ) (hW : WF σ) : WF τ := fun t k i r hf hal => by
  rw [h.2.2.1] at hal
  rw [h.1]
  exact hW t k i r hf hal
theorem Fp.fP {S : Nat → Nat → Prop} {i : Nat} {σ τ : Hp} (h : Fp i σ τ) (hs : ∀ t n, plS i t n → S t n) : FP S i σ τ := ⟨h.1, h.2.1, h.2.2.1, h.2.2.2.1, h.2.2.2.2.1, fun t n hn => h.2.2.2.2.2 t n (fun z => hn (hs t n z))⟩
theorem FX.fP {S S' : Nat → Nat → Prop} {i : Nat} {σ τ : Hp} (h : FX S σ τ) (hs : ∀ t n, S t n → S' t n) : FP S' i σ τ := ⟨h.1, h.2.2.1, h.2.2.2.1, h.2.2.2.2.1, fun t n _ => by rw [h.2.1], fun t n hn => h.2.2.2.2.2 t n (fun z => hn (hs t n z))⟩
theorem FP.sub {S S' : Nat → Nat → Prop} {i : Nat} {σ τ : Hp} (h : FP S i σ τ) (hs : ∀ t n, S t n → S' t n) : FP S' i σ τ := ⟨h.1, h.2.1, h.2.2.1, h.2.2.2.1, h.2.2.2.2.1, fun t n hn => h.2.2.2.2.2 t n (fun z => hn (hs t n z))⟩
theorem Cl.up {D D' : Int} {σ : Hp} {i : Nat} {A : St} (h : Cl D σ i A) (hd : D ≤ D') (h2 : D' ≤ 20000000) : Cl D' σ i A := ⟨h2, h.2.1, h.2.2.1, h.2.2.2.1, h.2.2.2.2.up hd⟩
/-- what the reader of orders changes besides the pool -/
def orS (i : Nat) (t n : Nat) : Prop := plS i t n ∨ t = 9 ∨ t = 22
section Orr
variable {σ : Hp} {T : Int → Int} {e p : Int} {A : St} {i : Nat} {D : Int}
theorem R_wordOf (hc : TC σ T e) (h : Tok σ T e p) (hp : 0 ≤ p ∧ p ≤ e) : Rt m_X5_wordOf 5 0 0 [vR (some (9, 0))] σ (some (vI (owA T e p))) σ := by
  have r0 := R_CisWord (j := 5) hc h hp (by decide)
  have r1 := R_CisWord (j := 6) hc h hp (by decide)
  have r2 := R_CisWord (j := 7) hc h hp (by decide)
  have r3 := R_CisWord (j := 8) hc h hp (by decide)
  have r4 := R_CisWord (j := 9) hc h hp (by decide)
  have r5 := R_CisWord (j := 10) hc h hp (by decide)
  show V _ 5 0 0 0 [some (vR (some (9, 0)))] [] σ _
  unfold owA
  by_cases w0 : wdB T e p 5 = true
  · rw [if_pos w0]
    rw [bI_t w0] at r0
    refine V_aldn0 a_X5_wordOf_0 ?_
    refine V_ldcS a_X5_wordOf_1 sr_X5_57 ?_
    refine V_v1R a_X5_wordOf_3 c_X5_59 r0 ?_
    refine V_if_eq_f a_X5_wordOf_6 (by omega) (by omega) ?_
    refine V_iconst a_X5_wordOf_9 ?_
    exact V_iret a_X5_wordOf_10 (⟨rfl, rfl⟩)
  · rw [if_neg w0]
    rw [bI_f w0] at r0
    by_cases w1 : wdB T e p 6 = true
    · rw [if_pos w1]
      rw [bI_t w1] at r1
      refine V_aldn0 a_X5_wordOf_0 ?_
      refine V_ldcS a_X5_wordOf_1 sr_X5_57 ?_
      refine V_v1R a_X5_wordOf_3 c_X5_59 r0 ?_
      refine V_if_eq_t a_X5_wordOf_6 (by omega) (by omega) ?_
      refine V_aldn0 a_X5_wordOf_11 ?_
      refine V_ldcS a_X5_wordOf_12 sr_X5_63 ?_
      refine V_v1R a_X5_wordOf_14 c_X5_59 r1 ?_
      refine V_if_eq_f a_X5_wordOf_17 (by omega) (by omega) ?_
      refine V_iconst a_X5_wordOf_20 ?_
      exact V_iret a_X5_wordOf_21 (⟨rfl, rfl⟩)
    · rw [if_neg w1]
      rw [bI_f w1] at r1
      by_cases w2 : wdB T e p 7 = true
      · rw [if_pos w2]
        rw [bI_t w2] at r2
        refine V_aldn0 a_X5_wordOf_0 ?_
        refine V_ldcS a_X5_wordOf_1 sr_X5_57 ?_
        refine V_v1R a_X5_wordOf_3 c_X5_59 r0 ?_
        refine V_if_eq_t a_X5_wordOf_6 (by omega) (by omega) ?_
        refine V_aldn0 a_X5_wordOf_11 ?_
        refine V_ldcS a_X5_wordOf_12 sr_X5_63 ?_
        refine V_v1R a_X5_wordOf_14 c_X5_59 r1 ?_
        refine V_if_eq_t a_X5_wordOf_17 (by omega) (by omega) ?_
        refine V_aldn0 a_X5_wordOf_22 ?_
        refine V_ldcS a_X5_wordOf_23 sr_X5_65 ?_
        refine V_v1R a_X5_wordOf_25 c_X5_59 r2 ?_
        refine V_if_eq_f a_X5_wordOf_28 (by omega) (by omega) ?_
        refine V_iconst a_X5_wordOf_31 ?_
        exact V_iret a_X5_wordOf_32 (⟨rfl, rfl⟩)
      · rw [if_neg w2]
        rw [bI_f w2] at r2
        by_cases w3 : wdB T e p 8 = true
        · rw [if_pos w3]
          rw [bI_t w3] at r3
          refine V_aldn0 a_X5_wordOf_0 ?_
          refine V_ldcS a_X5_wordOf_1 sr_X5_57 ?_
          refine V_v1R a_X5_wordOf_3 c_X5_59 r0 ?_
          refine V_if_eq_t a_X5_wordOf_6 (by omega) (by omega) ?_
          refine V_aldn0 a_X5_wordOf_11 ?_
          refine V_ldcS a_X5_wordOf_12 sr_X5_63 ?_
          refine V_v1R a_X5_wordOf_14 c_X5_59 r1 ?_
          refine V_if_eq_t a_X5_wordOf_17 (by omega) (by omega) ?_
          refine V_aldn0 a_X5_wordOf_22 ?_
          refine V_ldcS a_X5_wordOf_23 sr_X5_65 ?_
          refine V_v1R a_X5_wordOf_25 c_X5_59 r2 ?_
          refine V_if_eq_t a_X5_wordOf_28 (by omega) (by omega) ?_
          refine V_aldn0 a_X5_wordOf_33 ?_
          refine V_ldcS a_X5_wordOf_34 sr_X5_67 ?_
          refine V_v1R a_X5_wordOf_36 c_X5_59 r3 ?_
          refine V_if_eq_f a_X5_wordOf_39 (by omega) (by omega) ?_
          refine V_iconst a_X5_wordOf_42 ?_
          exact V_iret a_X5_wordOf_43 (⟨rfl, rfl⟩)
        · rw [if_neg w3]
          rw [bI_f w3] at r3
          by_cases w4 : wdB T e p 9 = true
          · rw [if_pos w4]
            rw [bI_t w4] at r4
            refine V_aldn0 a_X5_wordOf_0 ?_
            refine V_ldcS a_X5_wordOf_1 sr_X5_57 ?_
            refine V_v1R a_X5_wordOf_3 c_X5_59 r0 ?_
            refine V_if_eq_t a_X5_wordOf_6 (by omega) (by omega) ?_
            refine V_aldn0 a_X5_wordOf_11 ?_
            refine V_ldcS a_X5_wordOf_12 sr_X5_63 ?_
            refine V_v1R a_X5_wordOf_14 c_X5_59 r1 ?_
            refine V_if_eq_t a_X5_wordOf_17 (by omega) (by omega) ?_
            refine V_aldn0 a_X5_wordOf_22 ?_
            refine V_ldcS a_X5_wordOf_23 sr_X5_65 ?_
            refine V_v1R a_X5_wordOf_25 c_X5_59 r2 ?_
            refine V_if_eq_t a_X5_wordOf_28 (by omega) (by omega) ?_
            refine V_aldn0 a_X5_wordOf_33 ?_
            refine V_ldcS a_X5_wordOf_34 sr_X5_67 ?_
            refine V_v1R a_X5_wordOf_36 c_X5_59 r3 ?_
            refine V_if_eq_t a_X5_wordOf_39 (by omega) (by omega) ?_
            refine V_aldn0 a_X5_wordOf_44 ?_
            refine V_ldcS a_X5_wordOf_45 sr_X5_69 ?_
            refine V_v1R a_X5_wordOf_47 c_X5_59 r4 ?_
            refine V_if_eq_f a_X5_wordOf_50 (by omega) (by omega) ?_
            refine V_iconst a_X5_wordOf_53 ?_
            exact V_iret a_X5_wordOf_54 (⟨rfl, rfl⟩)
          · rw [if_neg w4]
            rw [bI_f w4] at r4
            by_cases w5 : wdB T e p 10 = true
            · rw [if_pos w5]
              rw [bI_t w5] at r5
              refine V_aldn0 a_X5_wordOf_0 ?_
              refine V_ldcS a_X5_wordOf_1 sr_X5_57 ?_
              refine V_v1R a_X5_wordOf_3 c_X5_59 r0 ?_
              refine V_if_eq_t a_X5_wordOf_6 (by omega) (by omega) ?_
              refine V_aldn0 a_X5_wordOf_11 ?_
              refine V_ldcS a_X5_wordOf_12 sr_X5_63 ?_
              refine V_v1R a_X5_wordOf_14 c_X5_59 r1 ?_
              refine V_if_eq_t a_X5_wordOf_17 (by omega) (by omega) ?_
              refine V_aldn0 a_X5_wordOf_22 ?_
              refine V_ldcS a_X5_wordOf_23 sr_X5_65 ?_
              refine V_v1R a_X5_wordOf_25 c_X5_59 r2 ?_
              refine V_if_eq_t a_X5_wordOf_28 (by omega) (by omega) ?_
              refine V_aldn0 a_X5_wordOf_33 ?_
              refine V_ldcS a_X5_wordOf_34 sr_X5_67 ?_
              refine V_v1R a_X5_wordOf_36 c_X5_59 r3 ?_
              refine V_if_eq_t a_X5_wordOf_39 (by omega) (by omega) ?_
              refine V_aldn0 a_X5_wordOf_44 ?_
              refine V_ldcS a_X5_wordOf_45 sr_X5_69 ?_
              refine V_v1R a_X5_wordOf_47 c_X5_59 r4 ?_
              refine V_if_eq_t a_X5_wordOf_50 (by omega) (by omega) ?_
              refine V_aldn0 a_X5_wordOf_55 ?_
              refine V_ldcS a_X5_wordOf_56 sr_X5_71 ?_
              refine V_v1R a_X5_wordOf_58 c_X5_59 r5 ?_
              refine V_if_eq_f a_X5_wordOf_61 (by omega) (by omega) ?_
              refine V_iconst a_X5_wordOf_64 ?_
              refine V_goto a_X5_wordOf_65 ?_
              exact V_iret a_X5_wordOf_69 (⟨rfl, rfl⟩)
            · rw [if_neg w5]
              rw [bI_f w5] at r5
              refine V_aldn0 a_X5_wordOf_0 ?_
              refine V_ldcS a_X5_wordOf_1 sr_X5_57 ?_
              refine V_v1R a_X5_wordOf_3 c_X5_59 r0 ?_
              refine V_if_eq_t a_X5_wordOf_6 (by omega) (by omega) ?_
              refine V_aldn0 a_X5_wordOf_11 ?_
              refine V_ldcS a_X5_wordOf_12 sr_X5_63 ?_
              refine V_v1R a_X5_wordOf_14 c_X5_59 r1 ?_
              refine V_if_eq_t a_X5_wordOf_17 (by omega) (by omega) ?_
              refine V_aldn0 a_X5_wordOf_22 ?_
              refine V_ldcS a_X5_wordOf_23 sr_X5_65 ?_
              refine V_v1R a_X5_wordOf_25 c_X5_59 r2 ?_
              refine V_if_eq_t a_X5_wordOf_28 (by omega) (by omega) ?_
              refine V_aldn0 a_X5_wordOf_33 ?_
              refine V_ldcS a_X5_wordOf_34 sr_X5_67 ?_
              refine V_v1R a_X5_wordOf_36 c_X5_59 r3 ?_
              refine V_if_eq_t a_X5_wordOf_39 (by omega) (by omega) ?_
              refine V_aldn0 a_X5_wordOf_44 ?_
              refine V_ldcS a_X5_wordOf_45 sr_X5_69 ?_
              refine V_v1R a_X5_wordOf_47 c_X5_59 r4 ?_
              refine V_if_eq_t a_X5_wordOf_50 (by omega) (by omega) ?_
              refine V_aldn0 a_X5_wordOf_55 ?_
              refine V_ldcS a_X5_wordOf_56 sr_X5_71 ?_
              refine V_v1R a_X5_wordOf_58 c_X5_59 r5 ?_
              refine V_if_eq_t a_X5_wordOf_61 (by omega) (by omega) ?_
              refine V_iconst a_X5_wordOf_68 ?_
              exact V_iret a_X5_wordOf_69 (⟨rfl, rfl⟩)
theorem R_OvalueCount {w : Int} (hk : 0 ≤ w ∧ w ≤ 5) : Rt m_X5_valueCount 0 0 0 [vI w] σ (some (vI (nmA w))) σ := by
  have c : w = 0 ∨ w = 1 ∨ w = 2 ∨ w = 3 ∨ w = 4 ∨ w = 5 := by omega
  rcases c with rfl | rfl | rfl | rfl | rfl | rfl
  · show V _ 0 0 0 0 [some (vI 0)] [] σ _
    refine V_ildn0 a_X5_valueCount_0 ?_
    refine V_table_in a_X5_valueCount_1 (off := 31) rfl rfl (by omega) (by omega) ?_
    refine V_iconst a_X5_valueCount_32 ?_
    exact V_iret a_X5_valueCount_33 (⟨rfl, rfl⟩)
  · show V _ 0 0 0 0 [some (vI 1)] [] σ _
    refine V_ildn0 a_X5_valueCount_0 ?_
    refine V_table_in a_X5_valueCount_1 (off := 37) rfl rfl (by omega) (by omega) ?_
    refine V_iconst a_X5_valueCount_38 ?_
    exact V_iret a_X5_valueCount_39 (⟨rfl, rfl⟩)
  · show V _ 0 0 0 0 [some (vI 2)] [] σ _
    refine V_ildn0 a_X5_valueCount_0 ?_
    refine V_table_in a_X5_valueCount_1 (off := 33) rfl rfl (by omega) (by omega) ?_
    refine V_iconst a_X5_valueCount_34 ?_
    exact V_iret a_X5_valueCount_35 (⟨rfl, rfl⟩)
  · show V _ 0 0 0 0 [some (vI 3)] [] σ _
    refine V_ildn0 a_X5_valueCount_0 ?_
    refine V_table_in a_X5_valueCount_1 (off := 35) rfl rfl (by omega) (by omega) ?_
    refine V_iconst a_X5_valueCount_36 ?_
    exact V_iret a_X5_valueCount_37 (⟨rfl, rfl⟩)
  · show V _ 0 0 0 0 [some (vI 4)] [] σ _
    refine V_ildn0 a_X5_valueCount_0 ?_
    refine V_table_out a_X5_valueCount_1 (tgt := 38) rfl (by omega) (by omega) ?_
    refine V_iconst a_X5_valueCount_38 ?_
    exact V_iret a_X5_valueCount_39 (⟨rfl, rfl⟩)
  · show V _ 0 0 0 0 [some (vI 5)] [] σ _
    refine V_ildn0 a_X5_valueCount_0 ?_
    refine V_table_out a_X5_valueCount_1 (tgt := 38) rfl (by omega) (by omega) ?_
    refine V_iconst a_X5_valueCount_38 ?_
    exact V_iret a_X5_valueCount_39 (⟨rfl, rfl⟩)
/-- behind the numbers of an order and its semicolon -/
def RrQ (σ : Hp) (T : Int → Int) (e w q0 : Int) (x : Int × Int) (r : Res) (τ : Hp) : Prop := Fm [9, 22] σ τ ∧ TC τ T e ∧ (x.1 = 0 ∧ wdB T e x.2 29 = true → r = .inl (some (vI 1)) ∧ τ.I 9 0 4 = tE T e x.2 ∧ ∀ k, 0 ≤ k → k < nmA w → τ.I 22 0 k = nW T e (tEn T e q0 k)) ∧ (¬ (x.1 = 0 ∧ wdB T e x.2 29 = true) → r = .inl (some (vI 0)) ∧ τ.I 9 0 2 = if x.1 ≠ 0 then x.2 else tF T e x.2)
theorem oL_s {n : Nat} : oL (n + 1) = (0, 9999999, 1) :: oL n := rfl
theorem rr_loop {w q0 : Int} (hw : 0 ≤ w ∧ w ≤ 5) : ∀ (n : Nat) (m q : Int) (τ : Hp), m + n = nmA w → 0 ≤ m → TC τ T e → τ.I 9 0 4 = q → 0 ≤ q ∧ q ≤ e → Fm [9, 22] σ τ → (∀ j, 0 ≤ j → j < m → τ.I 22 0 j = nW T e (tEn T e q0 j)) → tEn T e q0 m = q → V m_X5_readRest 4 0 0 9 [some (vR (some (5, 0))), some (vR (some (9, 0))), some (vI w), some (vI m)] [] τ (RrQ σ T e w q0 (ftN T e (oL n) q)) := by
  have hv := nm_bd (w := w)
  have rv : ∀ τ : Hp, Rt m_X5_valueCount 0 0 0 [vI w] τ (some (vI (nmA w))) τ := fun τ => R_OvalueCount hw
  intro n
  induction n with
  | zero =>
    intro m q τ hm m0 hc h4 hq fm hvals hqm
    have hm : m = nmA w := by omega
    have e0 : ftN T e (oL 0) q = (0, q) := rfl
    rw [e0]
    have rt := R_readToken hc hq h4
    have rvt := rv τ
    have hW := hc.1
    refine V_ildn3 a_X5_readRest_9 ?_
    refine V_ildn2 a_X5_readRest_10 ?_
    refine V_s1R a_X5_readRest_11 c_X5_46 rvt ?_
    refine V_icmp_ge_t a_X5_readRest_14 (by omega) (by omega) ?_
    refine V_aldn1 a_X5_readRest_54 ?_
    refine V_v0PV a_X5_readRest_55 c_X5_20 rt (fun τ2 hτ2 => ?_)
    skip
    obtain ⟨f2, t0, t1, t2, t4, t3⟩ := hτ2
    have hc2 : TC τ2 T e := hc.fm f2 (by decide) t0
    have fm2 : Fm [9, 22] σ τ2 := fm.trans (f2.sub (by decide))
    have hkb := tk_bd (T := T) (e := e) (f := tF T e q)
    have hW := hc2.1
    by_cases z : wdB T e q 29 = true
    · have hk3 := (tk_3 hq.2).mpr z
      refine V_aldn1 a_X5_readRest_58 ?_
      refine V_getIE a_X5_readRest_59 f_X5_23 rfl t1 ?_
      refine V_iconst a_X5_readRest_62 ?_
      refine V_icmp_ne_f a_X5_readRest_63 (by omega) (by omega) ?_
      refine V_iconst a_X5_readRest_66 ?_
      refine V_goto a_X5_readRest_67 ?_
      exact V_zret a_X5_readRest_71 (by omega) (⟨fm2, hc2, fun _ => ⟨rfl, t4, fun k k0 k1 => by rw [f2.I (by decide)]; exact hvals k k0 (by omega)⟩, fun y => absurd ⟨rfl, z⟩ y⟩)
    · have hk3 : tkA T e (tF T e q) ≠ 3 := fun y => z ((tk_3 hq.2).mp y)
      refine V_aldn1 a_X5_readRest_58 ?_
      refine V_getIE a_X5_readRest_59 f_X5_23 rfl t1 ?_
      refine V_iconst a_X5_readRest_62 ?_
      refine V_icmp_ne_t a_X5_readRest_63 (by omega) (by omega) ?_
      refine V_iconst a_X5_readRest_70 ?_
      exact V_zret a_X5_readRest_71 (by omega) (⟨fm2, hc2, fun y => absurd y.2 z, fun _ => ⟨rfl, t2⟩⟩)
  | succ n ih =>
    intro m q τ hm m0 hc h4 hq fm hvals hqm
    have hm1 : m < nmA w := by omega
    rw [oL_s]
    have rt := R_readToken hc hq h4
    have rvt := rv τ
    have hW := hc.1
    refine V_ildn3 a_X5_readRest_9 ?_
    refine V_ildn2 a_X5_readRest_10 ?_
    refine V_s1R a_X5_readRest_11 c_X5_46 rvt ?_
    refine V_icmp_ge_f a_X5_readRest_14 (by omega) (by omega) ?_
    refine V_aldn1 a_X5_readRest_17 ?_
    refine V_v0PV a_X5_readRest_18 c_X5_20 rt (fun τ2 hτ2 => ?_)
    skip
    obtain ⟨f2, k2⟩ := hτ2
    have k2' := k2
    obtain ⟨t0, t1, t2, t4, t3⟩ := k2
    have hc2 : TC τ2 T e := hc.fm f2 (by decide) t0
    have fm2 : Fm [9, 22] σ τ2 := fm.trans (f2.sub (by decide))
    have hkb := tk_bd (T := T) (e := e) (f := tF T e q)
    have he := hc.2.2.2
    have rl := R_isLongNumber k2' hq (by omega)
    have hW := hc2.1
    have hb := tE_bd (T := T) hq.2
    by_cases a : tkA T e (tF T e q) = 2
    · by_cases b : 7 < tE T e q - tF T e q
      · have z : nC T e q 0 9999999 1 ≠ 0 := by
          rw [nC_b a b]
          decide
        rw [ftN_1 z]
        rw [bI_t ⟨a, b⟩] at rl
        refine V_aldn1 a_X5_readRest_21 ?_
        refine V_getIE a_X5_readRest_22 f_X5_23 rfl t1 ?_
        refine V_iconst a_X5_readRest_25 ?_
        refine V_icmp_ne_f a_X5_readRest_26 (by omega) (by omega) ?_
        refine V_aldn1 a_X5_readRest_29 ?_
        refine V_v0R a_X5_readRest_30 c_X5_50 rl ?_
        refine V_if_eq_f a_X5_readRest_33 (by omega) (by omega) ?_
        refine V_iconst a_X5_readRest_36 ?_
        exact V_zret a_X5_readRest_37 (by omega) (⟨fm2, hc2, fun y => absurd y.1 z, fun _ => ⟨rfl, by rw [if_pos z]; exact t2⟩⟩)
      · have hw7 := nW_bd (T := T) (e := e) (p := q) hq.2
        have z : nC T e q 0 9999999 1 = 0 := by
          rw [nC_c a b, if_pos (by omega)]
        rw [ftN_0 z]
        rw [bI_f (fun y => b y.2)] at rl
        have v3 : τ2.I 9 0 3 = nW T e q := (t3 a).trans (nW_c a b)
        have g9 : (τ2.setI 22 0 m (τ2.I 9 0 3)).I 9 = τ2.I 9 := setI_t (by decide)
        have f3 : Fm [9, 22] σ (τ2.setI 22 0 m (τ2.I 9 0 3)) := fm2.trans (Fm.setI (by decide))
        have ih2 := ih (m + 1) (tE T e q) (τ2.setI 22 0 m (τ2.I 9 0 3)) (by omega) (by omega) (hc2.fm (L := [22]) (Fm.setI (by decide)) (by decide) (by rw [g9]; exact t0)) (by rw [g9]; exact t4) (by omega) f3 (fun j j0 j1 => by
          by_cases y : j = m
          · rw [y, setI_I, v3, hqm]
          · rw [setI_ne y, f2.I (by decide)]
            exact hvals j j0 (by omega)) (by rw [tEn_s m0, hqm])
        refine V_aldn1 a_X5_readRest_21 ?_
        refine V_getIE a_X5_readRest_22 f_X5_23 rfl t1 ?_
        refine V_iconst a_X5_readRest_25 ?_
        refine V_icmp_ne_f a_X5_readRest_26 (by omega) (by omega) ?_
        refine V_aldn1 a_X5_readRest_29 ?_
        refine V_v0R a_X5_readRest_30 c_X5_50 rl ?_
        refine V_if_eq_t a_X5_readRest_33 (by omega) (by omega) ?_
        refine V_aldn0 a_X5_readRest_38 ?_
        refine V_fin a_X5_readRest_39 f_X5_9 rfl hW ?_
        refine V_ildn3 a_X5_readRest_42 ?_
        refine V_aldn1 a_X5_readRest_43 ?_
        refine V_getIE a_X5_readRest_44 f_X5_54 rfl rfl ?_
        refine V_iast a_X5_readRest_47 rfl (by omega) ?_
        refine V_inc3 a_X5_readRest_48 ?_
        refine V_goto a_X5_readRest_51 ?_
        exact ih2
    · have z : nC T e q 0 9999999 1 ≠ 0 := by
        rw [nC_a a]
        decide
      rw [ftN_1 z]
      refine V_aldn1 a_X5_readRest_21 ?_
      refine V_getIE a_X5_readRest_22 f_X5_23 rfl t1 ?_
      refine V_iconst a_X5_readRest_25 ?_
      refine V_icmp_ne_t a_X5_readRest_26 (by omega) (by omega) ?_
      refine V_iconst a_X5_readRest_36 ?_
      exact V_zret a_X5_readRest_37 (by omega) (⟨fm2, hc2, fun y => absurd y.1 z, fun _ => ⟨rfl, by rw [if_pos z]; exact t2⟩⟩)
theorem R_readRest {w : Int} (hc : TC σ T e) (ht : Tok σ T e p) (hp : 0 ≤ p ∧ p ≤ e) (hw : 0 ≤ w ∧ w ≤ 5) : Ct m_X5_readRest 4 0 0 [vR (some (5, 0)), vR (some (9, 0)), vI w] σ (RrQ σ T e w (tE T e p) (ftN T e (oL (nmA w).toNat) (tE T e p))) := by
  have hv := nm_bd (w := w)
  have hb := tE_bd (T := T) hp.2
  have lp := rr_loop (σ := σ) (T := T) (e := e) (q0 := tE T e p) hw (nmA w).toNat 0 (tE T e p) σ (by omega) (Int.le_refl _) hc ht.2.2.2.1 (by omega) (Fm.refl _ _) (fun j _ _ => by omega) rfl
  show V _ 4 0 0 0 [some (vR (some (5, 0))), some (vR (some (9, 0))), some (vI w), none] [] σ _
  refine V_ildn2 a_X5_readRest_0 ?_
  refine V_iconst a_X5_readRest_1 ?_
  refine V_icmp_ne_t a_X5_readRest_2 (by omega) (by omega) ?_
  refine V_iconst a_X5_readRest_7 ?_
  refine V_istn3 a_X5_readRest_8 ?_
  exact lp
theorem R_readRest0 : Rt m_X5_readRest 4 0 0 [vR (some (5, 0)), vR (some (9, 0)), vI (-1)] σ (some (vI 0)) σ := by
  show V _ 4 0 0 0 [some (vR (some (5, 0))), some (vR (some (9, 0))), some (vI (-1)), none] [] σ _
  refine V_ildn2 a_X5_readRest_0 ?_
  refine V_iconst a_X5_readRest_1 ?_
  refine V_icmp_ne_f a_X5_readRest_2 (by omega) (by omega) ?_
  refine V_iconst a_X5_readRest_5 ?_
  exact V_zret a_X5_readRest_6 (by omega) (⟨rfl, rfl⟩)
end Orr

