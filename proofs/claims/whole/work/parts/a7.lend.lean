/-- the cells of pool i, and of the desk and its allocation -/
def plS (i : Nat) (t n : Nat) : Prop := ((36 ≤ t ∧ t ≤ 46) ∧ n = i) ∨ ((t = 3 ∨ t = 30 ∨ t = 31 ∨ t = 32) ∧ 12 * i ≤ n ∧ n < 12 * i + 12) ∨ t = 0 ∨ (23 ≤ t ∧ t ≤ 29)
/-- what a change of pool i leaves as it was -/
def Fp (i : Nat) (σ τ : Hp) : Prop := τ.F = σ.F ∧ τ.B = σ.B ∧ τ.al = σ.al ∧ τ.sl = σ.sl ∧ (∀ t n, ¬ (t = 47 ∧ n = i) → τ.P t n = σ.P t n) ∧ ∀ t n, ¬ plS i t n → τ.I t n = σ.I t n ∧ τ.J t n = σ.J t n
theorem Fp.refl (i : Nat) (σ : Hp) : Fp i σ σ := ⟨rfl, rfl, rfl, rfl, fun _ _ _ => rfl, fun _ _ _ => ⟨rfl, rfl⟩⟩
theorem Fp.trans {i : Nat} {σ τ ρ : Hp} (h : Fp i σ τ) (h2 : Fp i τ ρ) : Fp i σ ρ := ⟨h2.1.trans h.1, h2.2.1.trans h.2.1, h2.2.2.1.trans h.2.2.1, h2.2.2.2.1.trans h.2.2.2.1, fun t n hn => (h2.2.2.2.2.1 t n hn).trans (h.2.2.2.2.1 t n hn), fun t n hn => ⟨(h2.2.2.2.2.2 t n hn).1.trans (h.2.2.2.2.2 t n hn).1, (h2.2.2.2.2.2 t n hn).2.trans (h.2.2.2.2.2 t n hn).2⟩⟩
theorem FX.fp {S : Nat → Nat → Prop} {i : Nat} {σ τ : Hp} (h : FX S σ τ) (hs : ∀ t n, S t n → plS i t n) : Fp i σ τ := ⟨h.1, h.2.2.1, h.2.2.2.1, h.2.2.2.2.1, fun t n _ => by rw [h.2.1], fun t n hn => h.2.2.2.2.2 t n (fun z => hn (hs t n z))⟩
theorem Fm.fp {L : List Nat} {i : Nat} {σ τ : Hp} (h : Fm L σ τ) (hs : ∀ t ∈ L, t = 0 ∨ (23 ≤ t ∧ t ≤ 29)) : Fp i σ τ := (h.fx (S := fun t _ => t ∈ L) (fun t n z => z)).fp (fun t n z => by
  have := hs t z
  unfold plS
  omega)
theorem Fp.I {i : Nat} {σ τ : Hp} (h : Fp i σ τ) {t n : Nat} (hn : ¬ plS i t n) : τ.I t n = σ.I t n := (h.2.2.2.2.2 t n hn).1
theorem Fp.J {i : Nat} {σ τ : Hp} (h : Fp i σ τ) {t n : Nat} (hn : ¬ plS i t n) : τ.J t n = σ.J t n := (h.2.2.2.2.2 t n hn).2
theorem Fp.wf {i : Nat} {σ τ : Hp} (h : Fp i σ τ) (hW : WF σ) : WF τ := fun t k i r hf hal => by
  rw [h.2.2.1] at hal
  rw [h.1]
  exact hW t k i r hf hal
/-- another pool -/
theorem Cl.fp {D : Int} {σ τ : Hp} {i i' : Nat} {A : St} (h : Cl D σ i' A) (hf : Fp i σ τ) (hne : i' ≠ i) : Cl D τ i' A := by
  obtain ⟨hD, hW, hR, hS, hI⟩ := h
  have hn := hI.n
  have eP : τ.P 47 i' = σ.P 47 i' := hf.2.2.2.2.1 47 i' (fun z => hne z.2)
  have el : ∀ k, lid τ i' k = lid σ i' k := fun k => by
    unfold lid
    rw [eP]
  have eI : ∀ t, 36 ≤ t → t ≤ 46 → τ.I t i' = σ.I t i' ∧ τ.J t i' = σ.J t i' := fun t t0 t1 => hf.2.2.2.2.2 t i' (fun z => by unfold plS at z; omega)
  have eL : ∀ t k, (t = 3 ∨ t = 30 ∨ t = 31 ∨ t = 32) → 0 ≤ k → k < 12 → τ.I t (lid σ i' k) = σ.I t (lid σ i' k) := fun t k ht k0 k1 => hf.I (fun z => by
    have := hS.1 k k0 k1
    unfold plS at z
    omega)
  refine ⟨hD, hf.wf hW, ?_, ?_, hI⟩
  · obtain ⟨r1, r2, r3, r4, r5, r6, r7, r8, r9⟩ := hR
    unfold Rel
    rw [(eI 36 (by decide) (by decide)).1, (eI 37 (by decide) (by decide)).1, (eI 38 (by decide) (by decide)).1, (eI 39 (by decide) (by decide)).1, (eI 40 (by decide) (by decide)).1, (eI 41 (by decide) (by decide)).1, (eI 42 (by decide) (by decide)).1, (eI 43 (by decide) (by decide)).1, (eI 44 (by decide) (by decide)).1, (eI 45 (by decide) (by decide)).2, (eI 46 (by decide) (by decide)).2]
    refine ⟨r1, r2, r3, r4, r5, r6, r7, r8, fun k k0 k1 => ?_⟩
    rw [el, eL 3 k (Or.inl rfl) k0 (by omega), eL 30 k (Or.inr (Or.inl rfl)) k0 (by omega), eL 31 k (Or.inr (Or.inr (Or.inl rfl))) k0 (by omega), eL 32 k (Or.inr (Or.inr (Or.inr rfl))) k0 (by omega)]
    exact r9 k k0 k1
  · unfold Shp lid at hS ⊢
    rw [eP]
    exact hS
theorem last_gl {A : St} {s q k : Int} (k0 : 0 ≤ k) : (∀ j, 0 ≤ j → j < k → 0 ≤ turnO A s j) → lastX A s (-1) q (fun _ => 0) k = (if glX A s (-1) (turnO A s) q k = -1 then A (23 + s) else glX A s (-1) (turnO A s) q k) := fun ht => by
  have h := itr_rel (f := lastS A s (-1) q (fun _ => 0)) (g := glS A s (-1) (turnO A s) q) (a := A (23 + s)) (b := (-1 : Int)) (fun _ x y => x = if y = -1 then A (23 + s) else y) (by rw [if_pos rfl]) (n := k) k0 (fun j x y j0 j1 hxy => by
    unfold lastS glS
    have := ht j j0 j1
    by_cases z : 0 < gvA A s (-1) (turnO A s j) (ordX A s (-1) (turnO A s) j (fun _ => 0) q).2
    · rw [if_pos z, if_pos z, if_neg (by omega)]
    · rw [if_neg z, if_neg z]
      exact hxy)
  exact h
theorem last_glX {A : St} {s q k ex : Int} (k0 : 0 ≤ k) : (∀ j, 0 ≤ j → j < k → 0 ≤ turnO A s j) → lastX A s ex q (fun _ => 0) k = (if glX A s ex (turnO A s) q k = -1 then A (23 + s) else glX A s ex (turnO A s) q k) := fun ht => by
  have h := itr_rel (f := lastS A s ex q (fun _ => 0)) (g := glS A s ex (turnO A s) q) (a := A (23 + s)) (b := (-1 : Int)) (fun _ x y => x = if y = -1 then A (23 + s) else y) (by rw [if_pos rfl]) (n := k) k0 (fun j x y j0 j1 hxy => by
    unfold lastS glS
    have := ht j j0 j1
    by_cases z : 0 < gvA A s ex (turnO A s j) (ordX A s ex (turnO A s) j (fun _ => 0) q).2
    · rw [if_pos z, if_pos z, if_neg (by omega)]
    · rw [if_neg z, if_neg z]
      exact hxy)
  exact h
section Lf
variable {D : Int} {σ : Hp} {A : St} {i : Nat}
theorem lit_bd (hI : Inv D A) {s q ex : Int} (hs : 0 ≤ s ∧ s < 4) : -1 ≤ litA A s q ex ∧ litA A s q ex < 6 := by
  have hn := hI.n
  unfold litA
  split
  · omega
  · split
    · omega
    · have h := itr_ind (f := glS A s ex (turnO A s) q) (a := (-1 : Int)) (fun _ x => -1 ≤ x ∧ x < 6) (by decide) (n := A 1) (by omega) (fun j x j0 j1 hx => by
        have := turn_ok hI hs j0 j1
        unfold glS
        split <;> omega)
      exact h
/-- who was served last, as the class books it -/
theorem lit_alloc (hI : Inv D A) {s q ex : Int} (hs : 0 ≤ s ∧ s < 4) : (if litA A s q ex = -1 then A (23 + s) else litA A s q ex) = allocA A s q ex (23 + s) := by
  have hn := hI.n
  unfold litA allocA
  by_cases p0 : A 5 = 0
  · rw [if_pos p0, if_pos p0, if_pos rfl]
  · rw [if_neg p0, if_neg p0]
    by_cases p1 : A 5 = 1
    · rw [if_pos p1, if_pos p1, if_pos rfl]
    · rw [if_neg p1, if_neg p1, upI_eq, last_glX (by omega) (fun j j0 j1 => (turn_ok hI hs j0 j1).1)]
theorem R_lendFault {b s q r : Int} (h : Cl D σ i A) (hb : iR b) (hs : iR s) (hq : iR q) (hr : iR r) : Rt m_X1_lendFault 3 0 0 [vR (some (1, 0)), vR (some (6, i)), vI b, vI s, vI q, vI r] σ (some (vI (brC A b s q r))) σ := by
  have h' := h
  have r1 := R_hasBorrower (s := b) h hb
  have r2 := R_hasSecurity (s := s) h hs
  have r3 := R_outside (σ := σ) (v := q) (lo := 1) (hi := 99999) hq (by omega) (by omega)
  have r4 := R_outside (σ := σ) (v := r) (lo := 0) (hi := 9999) hr (by omega) (by omega)
  obtain ⟨hD, hW, hR, hS, hI⟩ := h
  obtain ⟨n0, n1, n2, n3, n4, n5, n6, n7, n8⟩ := hR.1
  have hn := hI.n
  show V _ 3 0 0 0 [some (vR (some (1, 0))), some (vR (some (6, i))), some (vI b), some (vI s), some (vI q), some (vI r), none, none] [] σ _
  unfold brC
  by_cases c1 : (0 ≤ b ∧ b < A 2) ∧ 0 ≤ s ∧ s < A 0
  · rw [if_neg (fun z => z c1)]
    rw [bI_t c1.1] at r1
    rw [bI_t c1.2] at r2
    by_cases c2 : (1 ≤ q ∧ q ≤ 99999) ∧ 0 ≤ r ∧ r ≤ 9999
    · rw [if_neg (fun z => z c2)]
      rw [bI_f (fun z => z c2.1)] at r3
      rw [bI_f (fun z => z c2.2)] at r4
      have r5 := R_freeOfAll (s := s) h' (by omega)
      have hfb := freeB_bd hI (but := -1) (s := s) (by omega) (by omega)
      have r6 := R_owedBy (b := b) (x := -1) h' hb (by omega)
      rw [ow_expo hI] at r6
      have hex := expo_bd hI b
      have hp := (hI.price c1.2.1 c1.2.2).1
      have e1 := (hR.sec c1.2.1 c1.2.2).1
      have e2 := hR.2.2.2.2.1 b c1.1.1 c1.1.2
      have hcr := hI.cred c1.1.1 c1.1.2
      have hm := mul_bd (a := q) (b := A (15 + s)) (M := 99999) (N := 9999) (by omega) (by omega) (by omega) (by omega)
      by_cases c3 : canA A b s q
      · rw [if_neg (fun z => z c3)]
        obtain ⟨d1, d2, d3⟩ := c3
        refine V_aldn1 a_X1_lendFault_0 ?_
        refine V_ildn2 a_X1_lendFault_1 ?_
        refine V_v1R a_X1_lendFault_2 c_X1_29 r1 ?_
        refine V_if_eq_f a_X1_lendFault_5 (by omega) (by omega) ?_
        refine V_aldn1 a_X1_lendFault_8 ?_
        refine V_ildn3 a_X1_lendFault_9 ?_
        refine V_v1R a_X1_lendFault_10 c_X1_35 r2 ?_
        refine V_if_ne_t a_X1_lendFault_13 (by omega) (by omega) ?_
        refine V_ild4 a_X1_lendFault_18 ?_
        refine V_iconst a_X1_lendFault_20 ?_
        refine V_ldc a_X1_lendFault_21 q_X1_38 ?_
        refine V_n3R a_X1_lendFault_23 c_X1_39 r3 ?_
        refine V_if_ne_f a_X1_lendFault_26 (by omega) (by omega) ?_
        refine V_ild5 a_X1_lendFault_29 ?_
        refine V_iconst a_X1_lendFault_31 ?_
        refine V_sipush a_X1_lendFault_32 (by decide) ?_
        refine V_n3R a_X1_lendFault_35 c_X1_39 r4 ?_
        refine V_if_eq_t a_X1_lendFault_38 (by omega) (by omega) ?_
        refine V_aldn1 a_X1_lendFault_43 ?_
        refine V_fin a_X1_lendFault_44 f_X1_43 rfl hW ?_
        refine V_iconst a_X1_lendFault_47 ?_
        refine V_ialdE a_X1_lendFault_48 rfl (by omega) n3 ?_
        refine V_bipush a_X1_lendFault_49 (by decide) ?_
        refine V_icmp_ge_f a_X1_lendFault_51 (by omega) (by omega) ?_
        refine V_aldn1 a_X1_lendFault_54 ?_
        refine V_ildn3 a_X1_lendFault_55 ?_
        refine V_v1R a_X1_lendFault_56 c_X1_46 r5 ?_
        refine V_ild4 a_X1_lendFault_59 ?_
        refine V_icmp_ge_t a_X1_lendFault_61 (by omega) (by omega) ?_
        refine V_aldn1 a_X1_lendFault_66 ?_
        refine V_ildn2 a_X1_lendFault_67 ?_
        refine V_iconst a_X1_lendFault_68 ?_
        refine V_v2R a_X1_lendFault_69 c_X1_50 r6 ?_
        refine V_ild4 a_X1_lendFault_72 ?_
        refine V_i2l a_X1_lendFault_74 (by omega) ?_
        refine V_aldn1 a_X1_lendFault_75 ?_
        refine V_fin a_X1_lendFault_76 f_X1_54 rfl hW ?_
        refine V_ildn3 a_X1_lendFault_79 ?_
        refine V_ialdE a_X1_lendFault_80 rfl (by omega) e1 ?_
        refine V_i2l a_X1_lendFault_81 (by omega) ?_
        refine V_lmul a_X1_lendFault_82 ?_
        refine V_ladd a_X1_lendFault_83 ?_
        refine V_lst6 a_X1_lendFault_84 ?_
        refine V_lld6 a_X1_lendFault_86 ?_
        refine V_aldn1 a_X1_lendFault_88 ?_
        refine V_fin a_X1_lendFault_89 f_X1_57 rfl hW ?_
        refine V_ildn2 a_X1_lendFault_92 ?_
        refine V_ialdE a_X1_lendFault_93 rfl (by omega) e2 ?_
        refine V_i2l a_X1_lendFault_94 (by omega) ?_
        refine V_lc_le_t a_X1_lendFault_95 a_X1_lendFault_96 (by omega) (by omega) ?_
        refine V_iconst a_X1_lendFault_103 ?_
        exact V_iret a_X1_lendFault_104 (⟨rfl, rfl⟩)
      · rw [if_pos c3]
        by_cases d1 : A 7 < 12
        · by_cases d2 : q ≤ freeB A (-1) s
          · have d3 : ¬ expoA A b + q * A (15 + s) ≤ A (45 + b) := fun z => c3 ⟨d1, d2, z⟩
            refine V_aldn1 a_X1_lendFault_0 ?_
            refine V_ildn2 a_X1_lendFault_1 ?_
            refine V_v1R a_X1_lendFault_2 c_X1_29 r1 ?_
            refine V_if_eq_f a_X1_lendFault_5 (by omega) (by omega) ?_
            refine V_aldn1 a_X1_lendFault_8 ?_
            refine V_ildn3 a_X1_lendFault_9 ?_
            refine V_v1R a_X1_lendFault_10 c_X1_35 r2 ?_
            refine V_if_ne_t a_X1_lendFault_13 (by omega) (by omega) ?_
            refine V_ild4 a_X1_lendFault_18 ?_
            refine V_iconst a_X1_lendFault_20 ?_
            refine V_ldc a_X1_lendFault_21 q_X1_38 ?_
            refine V_n3R a_X1_lendFault_23 c_X1_39 r3 ?_
            refine V_if_ne_f a_X1_lendFault_26 (by omega) (by omega) ?_
            refine V_ild5 a_X1_lendFault_29 ?_
            refine V_iconst a_X1_lendFault_31 ?_
            refine V_sipush a_X1_lendFault_32 (by decide) ?_
            refine V_n3R a_X1_lendFault_35 c_X1_39 r4 ?_
            refine V_if_eq_t a_X1_lendFault_38 (by omega) (by omega) ?_
            refine V_aldn1 a_X1_lendFault_43 ?_
            refine V_fin a_X1_lendFault_44 f_X1_43 rfl hW ?_
            refine V_iconst a_X1_lendFault_47 ?_
            refine V_ialdE a_X1_lendFault_48 rfl (by omega) n3 ?_
            refine V_bipush a_X1_lendFault_49 (by decide) ?_
            refine V_icmp_ge_f a_X1_lendFault_51 (by omega) (by omega) ?_
            refine V_aldn1 a_X1_lendFault_54 ?_
            refine V_ildn3 a_X1_lendFault_55 ?_
            refine V_v1R a_X1_lendFault_56 c_X1_46 r5 ?_
            refine V_ild4 a_X1_lendFault_59 ?_
            refine V_icmp_ge_t a_X1_lendFault_61 (by omega) (by omega) ?_
            refine V_aldn1 a_X1_lendFault_66 ?_
            refine V_ildn2 a_X1_lendFault_67 ?_
            refine V_iconst a_X1_lendFault_68 ?_
            refine V_v2R a_X1_lendFault_69 c_X1_50 r6 ?_
            refine V_ild4 a_X1_lendFault_72 ?_
            refine V_i2l a_X1_lendFault_74 (by omega) ?_
            refine V_aldn1 a_X1_lendFault_75 ?_
            refine V_fin a_X1_lendFault_76 f_X1_54 rfl hW ?_
            refine V_ildn3 a_X1_lendFault_79 ?_
            refine V_ialdE a_X1_lendFault_80 rfl (by omega) e1 ?_
            refine V_i2l a_X1_lendFault_81 (by omega) ?_
            refine V_lmul a_X1_lendFault_82 ?_
            refine V_ladd a_X1_lendFault_83 ?_
            refine V_lst6 a_X1_lendFault_84 ?_
            refine V_lld6 a_X1_lendFault_86 ?_
            refine V_aldn1 a_X1_lendFault_88 ?_
            refine V_fin a_X1_lendFault_89 f_X1_57 rfl hW ?_
            refine V_ildn2 a_X1_lendFault_92 ?_
            refine V_ialdE a_X1_lendFault_93 rfl (by omega) e2 ?_
            refine V_i2l a_X1_lendFault_94 (by omega) ?_
            refine V_lc_le_f a_X1_lendFault_95 a_X1_lendFault_96 (by omega) (by omega) ?_
            refine V_iconst a_X1_lendFault_99 ?_
            refine V_goto a_X1_lendFault_100 ?_
            exact V_iret a_X1_lendFault_104 (⟨rfl, rfl⟩)
          · refine V_aldn1 a_X1_lendFault_0 ?_
            refine V_ildn2 a_X1_lendFault_1 ?_
            refine V_v1R a_X1_lendFault_2 c_X1_29 r1 ?_
            refine V_if_eq_f a_X1_lendFault_5 (by omega) (by omega) ?_
            refine V_aldn1 a_X1_lendFault_8 ?_
            refine V_ildn3 a_X1_lendFault_9 ?_
            refine V_v1R a_X1_lendFault_10 c_X1_35 r2 ?_
            refine V_if_ne_t a_X1_lendFault_13 (by omega) (by omega) ?_
            refine V_ild4 a_X1_lendFault_18 ?_
            refine V_iconst a_X1_lendFault_20 ?_
            refine V_ldc a_X1_lendFault_21 q_X1_38 ?_
            refine V_n3R a_X1_lendFault_23 c_X1_39 r3 ?_
            refine V_if_ne_f a_X1_lendFault_26 (by omega) (by omega) ?_
            refine V_ild5 a_X1_lendFault_29 ?_
            refine V_iconst a_X1_lendFault_31 ?_
            refine V_sipush a_X1_lendFault_32 (by decide) ?_
            refine V_n3R a_X1_lendFault_35 c_X1_39 r4 ?_
            refine V_if_eq_t a_X1_lendFault_38 (by omega) (by omega) ?_
            refine V_aldn1 a_X1_lendFault_43 ?_
            refine V_fin a_X1_lendFault_44 f_X1_43 rfl hW ?_
            refine V_iconst a_X1_lendFault_47 ?_
            refine V_ialdE a_X1_lendFault_48 rfl (by omega) n3 ?_
            refine V_bipush a_X1_lendFault_49 (by decide) ?_
            refine V_icmp_ge_f a_X1_lendFault_51 (by omega) (by omega) ?_
            refine V_aldn1 a_X1_lendFault_54 ?_
            refine V_ildn3 a_X1_lendFault_55 ?_
            refine V_v1R a_X1_lendFault_56 c_X1_46 r5 ?_
            refine V_ild4 a_X1_lendFault_59 ?_
            refine V_icmp_ge_f a_X1_lendFault_61 (by omega) (by omega) ?_
            refine V_iconst a_X1_lendFault_64 ?_
            exact V_iret a_X1_lendFault_65 (⟨rfl, rfl⟩)
        · refine V_aldn1 a_X1_lendFault_0 ?_
          refine V_ildn2 a_X1_lendFault_1 ?_
          refine V_v1R a_X1_lendFault_2 c_X1_29 r1 ?_
          refine V_if_eq_f a_X1_lendFault_5 (by omega) (by omega) ?_
          refine V_aldn1 a_X1_lendFault_8 ?_
          refine V_ildn3 a_X1_lendFault_9 ?_
          refine V_v1R a_X1_lendFault_10 c_X1_35 r2 ?_
          refine V_if_ne_t a_X1_lendFault_13 (by omega) (by omega) ?_
          refine V_ild4 a_X1_lendFault_18 ?_
          refine V_iconst a_X1_lendFault_20 ?_
          refine V_ldc a_X1_lendFault_21 q_X1_38 ?_
          refine V_n3R a_X1_lendFault_23 c_X1_39 r3 ?_
          refine V_if_ne_f a_X1_lendFault_26 (by omega) (by omega) ?_
          refine V_ild5 a_X1_lendFault_29 ?_
          refine V_iconst a_X1_lendFault_31 ?_
          refine V_sipush a_X1_lendFault_32 (by decide) ?_
          refine V_n3R a_X1_lendFault_35 c_X1_39 r4 ?_
          refine V_if_eq_t a_X1_lendFault_38 (by omega) (by omega) ?_
          refine V_aldn1 a_X1_lendFault_43 ?_
          refine V_fin a_X1_lendFault_44 f_X1_43 rfl hW ?_
          refine V_iconst a_X1_lendFault_47 ?_
          refine V_ialdE a_X1_lendFault_48 rfl (by omega) n3 ?_
          refine V_bipush a_X1_lendFault_49 (by decide) ?_
          refine V_icmp_ge_t a_X1_lendFault_51 (by omega) (by omega) ?_
          refine V_iconst a_X1_lendFault_64 ?_
          exact V_iret a_X1_lendFault_65 (⟨rfl, rfl⟩)
    · rw [if_pos c2]
      by_cases d1 : 1 ≤ q ∧ q ≤ 99999
      · rw [bI_f (fun z => z d1)] at r3
        rw [bI_t (show ¬ (0 ≤ r ∧ r ≤ 9999) from fun z => c2 ⟨d1, z⟩)] at r4
        refine V_aldn1 a_X1_lendFault_0 ?_
        refine V_ildn2 a_X1_lendFault_1 ?_
        refine V_v1R a_X1_lendFault_2 c_X1_29 r1 ?_
        refine V_if_eq_f a_X1_lendFault_5 (by omega) (by omega) ?_
        refine V_aldn1 a_X1_lendFault_8 ?_
        refine V_ildn3 a_X1_lendFault_9 ?_
        refine V_v1R a_X1_lendFault_10 c_X1_35 r2 ?_
        refine V_if_ne_t a_X1_lendFault_13 (by omega) (by omega) ?_
        refine V_ild4 a_X1_lendFault_18 ?_
        refine V_iconst a_X1_lendFault_20 ?_
        refine V_ldc a_X1_lendFault_21 q_X1_38 ?_
        refine V_n3R a_X1_lendFault_23 c_X1_39 r3 ?_
        refine V_if_ne_f a_X1_lendFault_26 (by omega) (by omega) ?_
        refine V_ild5 a_X1_lendFault_29 ?_
        refine V_iconst a_X1_lendFault_31 ?_
        refine V_sipush a_X1_lendFault_32 (by decide) ?_
        refine V_n3R a_X1_lendFault_35 c_X1_39 r4 ?_
        refine V_if_eq_f a_X1_lendFault_38 (by omega) (by omega) ?_
        refine V_iconst a_X1_lendFault_41 ?_
        exact V_iret a_X1_lendFault_42 (⟨rfl, rfl⟩)
      · rw [bI_t d1] at r3
        refine V_aldn1 a_X1_lendFault_0 ?_
        refine V_ildn2 a_X1_lendFault_1 ?_
        refine V_v1R a_X1_lendFault_2 c_X1_29 r1 ?_
        refine V_if_eq_f a_X1_lendFault_5 (by omega) (by omega) ?_
        refine V_aldn1 a_X1_lendFault_8 ?_
        refine V_ildn3 a_X1_lendFault_9 ?_
        refine V_v1R a_X1_lendFault_10 c_X1_35 r2 ?_
        refine V_if_ne_t a_X1_lendFault_13 (by omega) (by omega) ?_
        refine V_ild4 a_X1_lendFault_18 ?_
        refine V_iconst a_X1_lendFault_20 ?_
        refine V_ldc a_X1_lendFault_21 q_X1_38 ?_
        refine V_n3R a_X1_lendFault_23 c_X1_39 r3 ?_
        refine V_if_ne_t a_X1_lendFault_26 (by omega) (by omega) ?_
        refine V_iconst a_X1_lendFault_41 ?_
        exact V_iret a_X1_lendFault_42 (⟨rfl, rfl⟩)
  · rw [if_pos c1]
    by_cases d1 : 0 ≤ b ∧ b < A 2
    · rw [bI_t d1] at r1
      rw [bI_f (fun z => c1 ⟨d1, z⟩)] at r2
      refine V_aldn1 a_X1_lendFault_0 ?_
      refine V_ildn2 a_X1_lendFault_1 ?_
      refine V_v1R a_X1_lendFault_2 c_X1_29 r1 ?_
      refine V_if_eq_f a_X1_lendFault_5 (by omega) (by omega) ?_
      refine V_aldn1 a_X1_lendFault_8 ?_
      refine V_ildn3 a_X1_lendFault_9 ?_
      refine V_v1R a_X1_lendFault_10 c_X1_35 r2 ?_
      refine V_if_ne_f a_X1_lendFault_13 (by omega) (by omega) ?_
      refine V_iconst a_X1_lendFault_16 ?_
      exact V_iret a_X1_lendFault_17 (⟨rfl, rfl⟩)
    · rw [bI_f d1] at r1
      refine V_aldn1 a_X1_lendFault_0 ?_
      refine V_ildn2 a_X1_lendFault_1 ?_
      refine V_v1R a_X1_lendFault_2 c_X1_29 r1 ?_
      refine V_if_eq_t a_X1_lendFault_5 (by omega) (by omega) ?_
      refine V_iconst a_X1_lendFault_16 ?_
      exact V_iret a_X1_lendFault_17 (⟨rfl, rfl⟩)
theorem R_Clend {b s q r : Int} (h : Cl D σ i A) (hb : 0 ≤ b ∧ b < A 2) (hs : 0 ≤ s ∧ s < A 0) (hq : 1 ≤ q ∧ q ≤ 99999) (hr : 0 ≤ r ∧ r ≤ 9999) (hc : canA A b s q) (hD4 : D + 1 ≤ 20000000) : Cv m_X1_lend 3 0 0 [vR (some (1, 0)), vR (some (6, i)), vI b, vI s, vI q, vI r] σ (some (vI (A 8))) (fun τ => Fp i σ τ ∧ Cl (D + 1) τ i (lendA A b s q r)) := by
  have h' := h
  obtain ⟨hD, hW, hR, hS, hI⟩ := h
  have hn := hI.n
  have hs4 : 0 ≤ s ∧ s < 4 := by omega
  have hfq : 0 < q ∧ q ≤ freeB A (-1) s := ⟨by omega, hc.2.1⟩
  have r1 := R_measure (s := s) (ex := -1) h' hs4 hs.2 (by omega)
  show V _ 3 0 0 0 [some (vR (some (1, 0))), some (vR (some (6, i))), some (vI b), some (vI s), some (vI q), some (vI r), none] [] σ _
  refine V_aldn0 a_X1_lend_0 ?_
  refine V_fin a_X1_lend_1 f_X1_12 rfl hW ?_
  refine V_aldn1 a_X1_lend_4 ?_
  refine V_ildn3 a_X1_lend_5 ?_
  refine V_iconst a_X1_lend_6 ?_
  refine V_v3PV a_X1_lend_7 c_X1_60 r1 (fun τ1 hτ1 => ?_)
  skip
  obtain ⟨f1, m1⟩ := hτ1
  have hc1 := h'.fm f1 (by decide)
  have r2 := R_share (q := q) hI hc1.2.1 hs4 hfq m1
  have n6 : τ1.I 36 i 6 = A 5 := hc1.2.2.1.1.2.2.2.2.2.2.1
  have hW := hc1.2.1
  refine V_aldn0 a_X1_lend_10 ?_
  refine V_fin a_X1_lend_11 f_X1_12 rfl hW ?_
  refine V_aldn1 a_X1_lend_14 ?_
  refine V_fin a_X1_lend_15 f_X1_43 rfl hW ?_
  refine V_bipush a_X1_lend_18 (by decide) ?_
  refine V_ialdE a_X1_lend_20 rfl (by omega) n6 ?_
  refine V_ild4 a_X1_lend_21 ?_
  refine V_v2PV a_X1_lend_23 c_X1_64 r2 (fun τ2 hτ2 => ?_)
  skip
  obtain ⟨f2, m2, g2, l2⟩ := hτ2
  have hc2 := hc1.fm f2 (by decide)
  have f12 : Fp i σ τ2 := (f1.fp (by decide)).trans (f2.fp (by decide))
  have r3 := R_open (b := b) (s := s) (r := r) hc2 hc.1
  refine V_aldn1 a_X1_lend_26 ?_
  refine V_ildn2 a_X1_lend_27 ?_
  refine V_ildn3 a_X1_lend_28 ?_
  refine V_ild5 a_X1_lend_29 ?_
  refine V_v3PR a_X1_lend_31 c_X1_68 r3 (fun τ3 hτ3 => ?_)
  skip
  obtain ⟨f3, v3, e3⟩ := hτ3
  have hlid := hc2.2.2.2.1.1 (A 7) (by omega) hc.1
  have hWs3 := f3.wf hc2.2.1
  have e0 : τ3.I 0 0 = τ2.I 0 0 := f3.I (by intro z; unfold opS jS at z; omega)
  have e24 : τ3.I 24 0 = τ2.I 24 0 := f3.I (by intro z; unfold opS jS at z; omega)
  have r4 := R_bookInto (σ := τ3) (i := i) (j := lid τ2 i (A 7)) (n := A 1) (last := litA A s q (-1)) (s := s) (g := giveA A s q (-1)) (sh := fun _ => 0) hWs3 (by rw [e0]; exact m2.1) (by omega) (by rw [e0]; exact l2) (lit_bd hI hs4) (v3.1 2 (by decide) (by decide)) hs4 (fun l l0 l1 => by rw [e24]; exact g2 l l0 l1) (fun l l0 l1 => (v3.2 l l0 l1).1)
  have hW := hWs3
  refine V_ast6 a_X1_lend_34 ?_
  refine V_aldn0 a_X1_lend_36 ?_
  refine V_fin a_X1_lend_37 f_X1_12 rfl hW ?_
  refine V_aldn1 a_X1_lend_40 ?_
  refine V_ald6 a_X1_lend_41 ?_
  refine V_v2PV a_X1_lend_43 c_X1_72 r4 (fun τ4 hτ4 => ?_)
  skip
  obtain ⟨f4, s4, e4⟩ := hτ4
  have v40 : τ4.I 3 (lid τ2 i (A 7)) 0 = A 8 := by
    rw [f4.I (by intro z; unfold bkS at z; omega)]
    exact v3.1 0 (by decide) (by decide)
  have F3 : Fp i τ2 τ3 := f3.fp (fun t n z => by unfold opS jS at z; unfold plS; omega)
  have F4 : Fp i τ3 τ4 := f4.fp (fun t n z => by unfold bkS at z; unfold plS; omega)
  have hP4 : τ4.P = τ2.P := f4.2.1.trans f3.2.1
  have el : ∀ k, lid τ4 i k = lid τ2 i k := fun k => by
    unfold lid
    rw [hP4]
  have e36 : τ4.I 36 i = upI (upI (τ2.I 36 i) 3 (A 7 + 1)) 4 (A 8 + 1) := by
    rw [f4.I (by intro z; unfold bkS at z; omega)]
    exact e3
  have eI : ∀ t, 37 ≤ t → t ≤ 46 → t ≠ 39 → τ4.I t i = τ2.I t i ∧ τ4.J t i = τ2.J t i := fun t t0 t1 t2 => ⟨by
    rw [f4.I (by intro z; unfold bkS at z; omega), f3.I (by intro z; unfold opS jS at z; omega)], by
    rw [f4.J (by intro z; unfold bkS at z; omega), f3.J (by intro z; unfold opS jS at z; omega)]⟩
  have e39 : τ4.I 39 i = if litA A s q (-1) = -1 then τ2.I 39 i else upI (τ2.I 39 i) s (litA A s q (-1)) := by
    rw [e4, f3.I (by intro z; unfold opS jS at z; omega)]
  have eO : ∀ t n, (t = 3 ∨ t = 30 ∨ t = 31 ∨ t = 32) → n ≠ lid τ2 i (A 7) → τ4.I t n = τ2.I t n := fun t n ht hnn => by
    rw [f4.I (by intro z; unfold bkS at z; omega), f3.I (by intro z; unfold opS jS at z; omega)]
  have iv := lend_inv hI hb hs hq hr hc
  have o : ∀ j, j < 83 → j ≠ 7 → j ≠ 8 → ¬ (23 ≤ j ∧ j < 27) → lendA A b s q r j = A j := fun j j0 j1 j2 j3 => by
    rw [ld_0 (by omega) (by omega) ⟨j1, j2⟩, alloc_8 hs4 j3]
  obtain ⟨R1, R2, R3, R4, R5, R6, R7, R8, R9⟩ := hc2.2.2.1
  have rel : Rel τ4 i (lendA A b s q r) := by
    refine ⟨?_, fun s' s0 s1 => ?_, fun s' s0 s1 => ?_, fun l l0 l1 => ?_, fun b' b0 b1 => ?_, fun l s' l0 l1 s0 s1 => ?_, ⟨fun l l0 l1 => ?_, fun b' b0 b1 => ?_, ?_, ?_, ?_⟩, ⟨?_, ?_, ?_⟩, fun k k0 k1 => ?_⟩
    · rw [e36, ld_7, ld_8, o 0 (by decide) (by decide) (by decide) (by decide), o 1 (by decide) (by decide) (by decide) (by decide), o 2 (by decide) (by decide) (by decide) (by decide), o 6 (by decide) (by decide) (by decide) (by decide), o 5 (by decide) (by decide) (by decide) (by decide), o 3 (by decide) (by decide) (by decide) (by decide), o 4 (by decide) (by decide) (by decide) (by decide)]
      obtain ⟨a0, a1, a2, a3, a4, a5, a6, a7, a8⟩ := R1
      exact ⟨a0, a1, a2, rfl, rfl, a5, a6, a7, a8⟩
    · rw [o 0 (by decide) (by decide) (by decide) (by decide)] at s1
      rw [(eI 37 (by decide) (by decide) (by decide)).1, (eI 38 (by decide) (by decide) (by decide)).1, o _ (by omega) (by omega) (by omega) (by omega), o _ (by omega) (by omega) (by omega) (by omega)]
      exact R2 s' s0 s1
    · rw [o 0 (by decide) (by decide) (by decide) (by decide)] at s1
      rw [ld_0 (by omega) (by omega) ⟨by omega, by omega⟩, e39]
      by_cases z : s' = s
      · rw [z, ← lit_alloc hI hs4]
        by_cases y : litA A s q (-1) = -1
        · rw [if_pos y, if_pos y]
          exact R3 s hs.1 hs.2
        · rw [if_neg y, if_neg y, upI_eq]
      · have ea : allocA A s q (-1) (23 + s') = A (23 + s') := by
          unfold allocA
          split
          · rfl
          · split
            · rfl
            · exact upI_ne (by omega)
        rw [ea]
        by_cases y : litA A s q (-1) = -1
        · rw [if_pos y]
          exact R3 s' s0 s1
        · rw [if_neg y, upI_ne z]
          exact R3 s' s0 s1
    · rw [o 1 (by decide) (by decide) (by decide) (by decide)] at l1
      rw [(eI 40 (by decide) (by decide) (by decide)).1, (eI 41 (by decide) (by decide) (by decide)).1, (eI 42 (by decide) (by decide) (by decide)).1, o _ (by omega) (by omega) (by omega) (by omega), o _ (by omega) (by omega) (by omega) (by omega), o _ (by omega) (by omega) (by omega) (by omega)]
      exact R4 l l0 l1
    · rw [o 2 (by decide) (by decide) (by decide) (by decide)] at b1
      rw [(eI 43 (by decide) (by decide) (by decide)).1, o _ (by omega) (by omega) (by omega) (by omega)]
      exact R5 b' b0 b1
    · rw [(eI 44 (by decide) (by decide) (by decide)).1, o _ (by omega) (by omega) (by omega) (by omega)]
      exact R6 l s' l0 l1 s0 s1
    · rw [(eI 45 (by decide) (by decide) (by decide)).2, o _ (by omega) (by omega) (by omega) (by omega)]
      exact R7.1 l l0 l1
    · rw [(eI 45 (by decide) (by decide) (by decide)).2, o _ (by omega) (by omega) (by omega) (by omega)]
      exact R7.2.1 b' b0 b1
    · rw [(eI 45 (by decide) (by decide) (by decide)).2, o 12 (by decide) (by decide) (by decide) (by decide)]
      exact R7.2.2.1
    · rw [(eI 45 (by decide) (by decide) (by decide)).2, o 13 (by decide) (by decide) (by decide) (by decide)]
      exact R7.2.2.2.1
    · rw [(eI 45 (by decide) (by decide) (by decide)).2, o 14 (by decide) (by decide) (by decide) (by decide)]
      exact R7.2.2.2.2
    · rw [(eI 46 (by decide) (by decide) (by decide)).2, o 9 (by decide) (by decide) (by decide) (by decide)]
      exact R8.1
    · rw [(eI 46 (by decide) (by decide) (by decide)).2, o 10 (by decide) (by decide) (by decide) (by decide)]
      exact R8.2.1
    · rw [(eI 46 (by decide) (by decide) (by decide)).2, o 11 (by decide) (by decide) (by decide) (by decide)]
      exact R8.2.2
    · rw [ld_7] at k1
      rw [el]
      by_cases z : k = A 7
      · rw [z]
        have w : ∀ c, 0 ≤ c → c < 5 → τ4.I 3 (lid τ2 i (A 7)) c = va5 (A 8) b s r (A 6) c := fun c c0 c1 => by
          rw [f4.I (by intro z; unfold bkS at z; omega)]
          exact v3.1 c c0 c1
        refine ⟨(w 0 (by decide) (by decide)).trans (ld_c (by omega) (by decide) rfl).symm, (w 1 (by decide) (by decide)).trans (ld_c (by omega) (by decide) rfl).symm, (w 2 (by decide) (by decide)).trans (ld_c (by omega) (by decide) rfl).symm, (w 3 (by decide) (by decide)).trans (ld_c (by omega) (by decide) rfl).symm, (w 4 (by decide) (by decide)).trans (ld_c (by omega) (by decide) rfl).symm, fun l l0 l1 => ?_⟩
        rw [ld_5 (by omega) ⟨l0, l1⟩ (by omega), ld_11 (by omega) ⟨l0, l1⟩ (by omega), ld_17 (by omega) ⟨l0, l1⟩ (by omega), s4 l l0 l1, f4.I (t := 31) (by intro z; unfold bkS at z; omega), f4.I (t := 32) (by intro z; unfold bkS at z; omega)]
        refine ⟨?_, (v3.2 l l0 l1).2⟩
        split
        · omega
        · rfl
      · have hk : lid τ2 i k ≠ lid τ2 i (A 7) := fun e => z (hc2.2.2.2.1.2 k (A 7) k0 (by omega) (by omega) hc.1 e)
        rw [eO 3 _ (Or.inl rfl) hk, eO 30 _ (Or.inr (Or.inl rfl)) hk, eO 31 _ (Or.inr (Or.inr (Or.inl rfl))) hk, eO 32 _ (Or.inr (Or.inr (Or.inr rfl))) hk]
        have o2 : ∀ j, 83 ≤ j → j < 83 + 23 * A 7 → lendA A b s q r j = A j := fun j j0 j1 => by
          rw [ld_0 (by omega) j1 ⟨by omega, by omega⟩, alloc_8 hs4 (by omega)]
        rw [o2 _ (by omega) (by omega), o2 _ (by omega) (by omega), o2 _ (by omega) (by omega), o2 _ (by omega) (by omega), o2 _ (by omega) (by omega)]
        obtain ⟨g0, g1, g2, g3, g4, gs⟩ := R9 k k0 (by omega)
        refine ⟨g0, g1, g2, g3, g4, fun l l0 l1 => ?_⟩
        rw [o2 _ (by omega) (by omega), o2 _ (by omega) (by omega), o2 _ (by omega) (by omega)]
        exact gs l l0 l1
  have shp : Shp τ4 i := by
    have z := hc2.2.2.2.1
    unfold Shp lid at z ⊢
    rw [hP4]
    exact z
  have hW := f4.wf hWs3
  refine V_ald6 a_X1_lend_46 ?_
  refine V_getIE a_X1_lend_48 f_X1_76 rfl v40 ?_
  exact V_iret a_X1_lend_51 (⟨rfl, f12.trans (F3.trans F4), hD4, hW, rel, shp, iv⟩)
end Lf

