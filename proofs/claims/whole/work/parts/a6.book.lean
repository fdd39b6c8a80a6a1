/-- what is left as it was: all but the numbers that S names -/
def FX (S : Nat → Nat → Prop) (σ τ : Hp) : Prop := τ.F = σ.F ∧ τ.P = σ.P ∧ τ.B = σ.B ∧ τ.al = σ.al ∧ τ.sl = σ.sl ∧ ∀ t n, ¬ S t n → τ.I t n = σ.I t n ∧ τ.J t n = σ.J t n
theorem FX.refl (S : Nat → Nat → Prop) (σ : Hp) : FX S σ σ := ⟨rfl, rfl, rfl, rfl, rfl, fun _ _ _ => ⟨rfl, rfl⟩⟩
theorem FX.trans {S : Nat → Nat → Prop} {σ τ ρ : Hp} (h : FX S σ τ) (h2 : FX S τ ρ) : FX S σ ρ := ⟨h2.1.trans h.1, h2.2.1.trans h.2.1, h2.2.2.1.trans h.2.2.1, h2.2.2.2.1.trans h.2.2.2.1, h2.2.2.2.2.1.trans h.2.2.2.2.1, fun t n hn => ⟨(h2.2.2.2.2.2 t n hn).1.trans (h.2.2.2.2.2 t n hn).1, (h2.2.2.2.2.2 t n hn).2.trans (h.2.2.2.2.2 t n hn).2⟩⟩
theorem FX.sub {S S' : Nat → Nat → Prop} {σ τ : Hp} (h : FX S σ τ) (hs : ∀ t n, S t n → S' t n) : FX S' σ τ := ⟨h.1, h.2.1, h.2.2.1, h.2.2.2.1, h.2.2.2.2.1, fun t n hn => h.2.2.2.2.2 t n (fun z => hn (hs t n z))⟩
theorem FX.I {S : Nat → Nat → Prop} {σ τ : Hp} (h : FX S σ τ) {t n : Nat} (hn : ¬ S t n) : τ.I t n = σ.I t n := (h.2.2.2.2.2 t n hn).1
theorem FX.J {S : Nat → Nat → Prop} {σ τ : Hp} (h : FX S σ τ) {t n : Nat} (hn : ¬ S t n) : τ.J t n = σ.J t n := (h.2.2.2.2.2 t n hn).2
theorem FX.wf {S : Nat → Nat → Prop} {σ τ : Hp} (h : FX S σ τ) (hW : WF σ) : WF τ := fun t k i r hf hal => by
  rw [h.2.2.2.1] at hal
  rw [h.1]
  exact hW t k i r hf hal
theorem Fm.fx {L : List Nat} {S : Nat → Nat → Prop} {σ τ : Hp} (h : Fm L σ τ) (hs : ∀ t n, t ∈ L → S t n) : FX S σ τ := ⟨h.1, h.2.1, h.2.2.1, h.2.2.2.1, h.2.2.2.2.1, fun t n hn => ⟨by rw [h.I (fun z => hn (hs t n z))], by rw [h.J (fun z => hn (hs t n z))]⟩⟩
theorem FX.setI {S : Nat → Nat → Prop} {σ : Hp} {t i : Nat} {k v : Int} (hs : S t i) : FX S σ (σ.setI t i k v) := ⟨rfl, rfl, rfl, rfl, rfl, fun t' n hn => ⟨by
  funext k'
  show u3 σ.I t i k v t' n k' = _
  unfold u3
  exact if_neg (fun z => hn (by rw [z.1, z.2.1]; exact hs)), rfl⟩⟩
theorem FX.setJ {S : Nat → Nat → Prop} {σ : Hp} {t i : Nat} {k v : Int} (hs : S t i) : FX S σ (σ.setJ t i k v) := ⟨rfl, rfl, rfl, rfl, rfl, fun t' n hn => ⟨rfl, by
  funext k'
  show u3 σ.J t i k v t' n k' = _
  unfold u3
  exact if_neg (fun z => hn (by rw [z.1, z.2.1]; exact hs))⟩⟩
theorem FX.rI {S : Nat → Nat → Prop} {σ : Hp} {t i : Nat} {g : Int → Int} (hs : S t i) : FX S σ (σ.rI t i g) := ⟨rfl, rfl, rfl, rfl, rfl, fun t' n hn => ⟨rI_ne (fun z => hn (by rw [z.1, z.2]; exact hs)), rfl⟩⟩
theorem FX.rJ {S : Nat → Nat → Prop} {σ : Hp} {t i : Nat} {g : Int → Int} (hs : S t i) : FX S σ (σ.rJ t i g) := ⟨rfl, rfl, rfl, rfl, rfl, fun t' n hn => ⟨rfl, rJ_ne (fun z => hn (by rw [z.1, z.2]; exact hs))⟩⟩
theorem setI_nn {σ : Hp} {t i t' i' : Nat} {k v : Int} (h : ¬ (t' = t ∧ i' = i)) : (σ.setI t i k v).I t' i' = σ.I t' i' := by
  funext k'
  show u3 σ.I t i k v t' i' k' = _
  unfold u3
  exact if_neg (fun z => h ⟨z.1, z.2.1⟩)
theorem setJ_nn {σ : Hp} {t i t' i' : Nat} {k v : Int} (h : ¬ (t' = t ∧ i' = i)) : (σ.setJ t i k v).J t' i' = σ.J t' i' := by
  funext k'
  show u3 σ.J t i k v t' i' k' = _
  unfold u3
  exact if_neg (fun z => h ⟨z.1, z.2.1⟩)
theorem setJ_ne {σ : Hp} {t i : Nat} {k v k' : Int} (h : k' ≠ k) : (σ.setJ t i k v).J t i k' = σ.J t i k' := by
  show u3 σ.J t i k v t i k' = _
  unfold u3
  exact if_neg (fun e => h e.2.2)
/-- one loan's cells -/
def jS (j : Nat) (t n : Nat) : Prop := (t = 3 ∨ t = 30 ∨ t = 31 ∨ t = 32) ∧ n = j
/-- a loan's numbers -/
def LnV (τ : Hp) (j : Nat) (f sh rc du : Int → Int) : Prop := (∀ c, 0 ≤ c → c < 5 → τ.I 3 j c = f c) ∧ ∀ l, 0 ≤ l → l < 6 → τ.I 30 j l = sh l ∧ τ.I 31 j l = rc l ∧ τ.I 32 j l = du l
theorem LnV.fx {S : Nat → Nat → Prop} {σ τ : Hp} {j : Nat} {f sh rc du : Int → Int} (h : LnV σ j f sh rc du) (hf : FX S σ τ) (hd : ∀ t n, S t n → ¬ jS j t n) : LnV τ j f sh rc du := ⟨fun c c0 c1 => by
  rw [hf.I (fun z => hd 3 j z ⟨Or.inl rfl, rfl⟩)]
  exact h.1 c c0 c1, fun l l0 l1 => by
  rw [hf.I (fun z => hd 30 j z ⟨Or.inr (Or.inl rfl), rfl⟩), hf.I (fun z => hd 31 j z ⟨Or.inr (Or.inr (Or.inl rfl)), rfl⟩), hf.I (fun z => hd 32 j z ⟨Or.inr (Or.inr (Or.inr rfl)), rfl⟩)]
  exact h.2 l l0 l1⟩
theorem five {c : Int} (h0 : 0 ≤ c) (h1 : c < 5) : c = 0 ∨ c = 1 ∨ c = 2 ∨ c = 3 ∨ c = 4 := by omega
section Bk
variable {D : Int} {σ : Hp} {A : St} {i j : Nat}
theorem R_Lbegin {a b c d e : Int} (hW : WF σ) : Cv m_X3_begin 1 0 0 [vR (some (3, j)), vI a, vI b, vI c, vI d, vI e] σ none (fun τ => FX (jS j) σ τ ∧ LnV τ j (va5 a b c d e) (fun _ => 0) (fun _ => 0) (fun _ => -1)) := by
  have f1 : FX (jS j) σ (((((σ.setI 3 j 0 a).setI 3 j 1 b).setI 3 j 2 c).setI 3 j 3 d).setI 3 j 4 e) := ((((FX.setI ⟨Or.inl rfl, rfl⟩).trans (FX.setI ⟨Or.inl rfl, rfl⟩)).trans (FX.setI ⟨Or.inl rfl, rfl⟩)).trans (FX.setI ⟨Or.inl rfl, rfl⟩)).trans (FX.setI ⟨Or.inl rfl, rfl⟩)
  have v1 : ∀ k, 0 ≤ k → k < 5 → (((((σ.setI 3 j 0 a).setI 3 j 1 b).setI 3 j 2 c).setI 3 j 3 d).setI 3 j 4 e).I 3 j k = va5 a b c d e k := fun k k0 k1 => by
    rcases five k0 k1 with z | z | z | z | z <;> subst z
    · rw [setI_ne (by decide), setI_ne (by decide), setI_ne (by decide), setI_ne (by decide), setI_I]
      rfl
    · rw [setI_ne (by decide), setI_ne (by decide), setI_ne (by decide), setI_I]
      rfl
    · rw [setI_ne (by decide), setI_ne (by decide), setI_I]
      rfl
    · rw [setI_ne (by decide), setI_I]
      rfl
    · rw [setI_I]
      rfl
  show V _ 1 0 0 0 [some (vR (some (3, j))), some (vI a), some (vI b), some (vI c), some (vI d), some (vI e)] [] σ _
  refine V_aldn0 a_X3_begin_0 ?_
  refine V_ildn1 a_X3_begin_1 ?_
  refine V_putI a_X3_begin_2 f_X3_21 rfl ?_
  refine V_aldn0 a_X3_begin_5 ?_
  refine V_ildn2 a_X3_begin_6 ?_
  refine V_putI a_X3_begin_7 f_X3_25 rfl ?_
  refine V_aldn0 a_X3_begin_10 ?_
  refine V_ildn3 a_X3_begin_11 ?_
  refine V_putI a_X3_begin_12 f_X3_28 rfl ?_
  refine V_aldn0 a_X3_begin_15 ?_
  refine V_ild4 a_X3_begin_16 ?_
  refine V_putI a_X3_begin_18 f_X3_31 rfl ?_
  refine V_aldn0 a_X3_begin_21 ?_
  refine V_ild5 a_X3_begin_22 ?_
  refine V_putI a_X3_begin_24 f_X3_34 rfl ?_
  skip
  generalize ((((σ.setI 3 j 0 a).setI 3 j 1 b).setI 3 j 2 c).setI 3 j 3 d).setI 3 j 4 e = τ at f1 v1
  have hWτ := f1.wf hW
  have r1 := R_fillI (σ := τ) (t := 30) (i := j) (v := 0) rfl (by decide) (by decide)
  have r2 := R_fillI (σ := τ.rI 30 j (mix (fun _ => 0) (τ.I 30 j) ((6 : Nat) : Int))) (t := 31) (i := j) (v := 0) rfl (by decide) (by decide)
  have r3 := R_fillI (σ := (τ.rI 30 j (mix (fun _ => 0) (τ.I 30 j) ((6 : Nat) : Int))).rI 31 j (mix (fun _ => 0) ((τ.rI 30 j (mix (fun _ => 0) (τ.I 30 j) ((6 : Nat) : Int))).I 31 j) ((6 : Nat) : Int))) (t := 32) (i := j) (v := -1) rfl (by decide) (by decide)
  have hW := hWτ
  refine V_aldn0 a_X3_begin_27 ?_
  refine V_fin a_X3_begin_28 f_X3_9 rfl hW ?_
  refine V_iconst a_X3_begin_31 ?_
  refine V_s2V a_X3_begin_32 c_X3_37 r1 ?_
  refine V_aldn0 a_X3_begin_35 ?_
  refine V_fin a_X3_begin_36 f_X3_15 rfl hW ?_
  refine V_iconst a_X3_begin_39 ?_
  refine V_s2V a_X3_begin_40 c_X3_37 r2 ?_
  refine V_aldn0 a_X3_begin_43 ?_
  refine V_fin a_X3_begin_44 f_X3_18 rfl hW ?_
  refine V_iconst a_X3_begin_47 ?_
  refine V_s2V a_X3_begin_48 c_X3_37 r3 ?_
  exact V_ret a_X3_begin_51 (⟨rfl, f1.trans (((FX.rI ⟨Or.inr (Or.inl rfl), rfl⟩).trans (FX.rI ⟨Or.inr (Or.inr (Or.inl rfl)), rfl⟩)).trans (FX.rI ⟨Or.inr (Or.inr (Or.inr rfl)), rfl⟩)), fun k k0 k1 => by rw [rI_ne (by omega), rI_ne (by omega), rI_ne (by omega)]; exact v1 k k0 k1, fun l l0 l1 => ⟨by rw [rI_ne (t' := 30) (by omega), rI_ne (t' := 30) (by omega), rI_I]; exact mix_in l0 l1, by rw [rI_ne (t' := 31) (by omega), rI_I]; exact mix_in l0 l1, by rw [rI_I]; exact mix_in l0 l1⟩⟩)
/-- a loan's shares, and who was served last -/
def bkS (i j : Nat) (t n : Nat) : Prop := (t = 30 ∧ n = j) ∨ (t = 39 ∧ n = i)
theorem R_bookInto {n last s : Int} {g sh : Int → Int} (hW : WF σ) (h7 : σ.I 0 0 7 = n) (hn : 0 ≤ n ∧ n ≤ 6) (h9 : σ.I 0 0 9 = last) (hl : -1 ≤ last ∧ last < 6) (h2 : σ.I 3 j 2 = s) (hs : 0 ≤ s ∧ s < 4) (h24 : ∀ l, 0 ≤ l → l < n → σ.I 24 0 l = g l) (h30 : ∀ l, 0 ≤ l → l < 6 → σ.I 30 j l = sh l) : Cv m_X0_bookInto 0 0 0 [vR (some (0, 0)), vR (some (6, i)), vR (some (3, j))] σ none (fun τ => FX (bkS i j) σ τ ∧ (∀ l, 0 ≤ l → l < 6 → τ.I 30 j l = if l < n then sh l + g l else sh l) ∧ τ.I 39 i = if last = -1 then σ.I 39 i else upI (σ.I 39 i) s last) := by
  show V _ 0 0 0 0 [some (vR (some (0, 0))), some (vR (some (6, i))), some (vR (some (3, j))), none] [] σ _
  refine V_iconst a_X0_bookInto_0 ?_
  refine V_istn3 a_X0_bookInto_1 ?_
  skip
  refine loopI (P := fun k => ∀ τ, FX (bkS i j) σ τ → τ.I 39 i = σ.I 39 i → (∀ l, 0 ≤ l → l < 6 → τ.I 30 j l = if l < k then sh l + g l else sh l) → V m_X0_bookInto 0 0 0 2 [some (vR (some (0, 0))), some (vR (some (6, i))), some (vR (some (3, j))), some (vI k)] [] τ (fun r τ => r = .inl none ∧ FX (bkS i j) σ τ ∧ (∀ l, 0 ≤ l → l < 6 → τ.I 30 j l = if l < n then sh l + g l else sh l) ∧ τ.I 39 i = if last = -1 then σ.I 39 i else upI (σ.I 39 i) s last)) (N := n) hn.1 ?_ ?_ σ (FX.refl _ _) rfl (fun l l0 l1 => by rw [if_neg (by omega)]; exact h30 l l0 l1)
  · intro τ f e39 hτ
    have hW := f.wf hW
    have g7 : τ.I 0 0 7 = n := by
      rw [f.I (by intro z; unfold bkS at z; omega)]
      exact h7
    have g9 : τ.I 0 0 9 = last := by
      rw [f.I (by intro z; unfold bkS at z; omega)]
      exact h9
    have g2 : τ.I 3 j 2 = s := by
      rw [f.I (by intro z; unfold bkS at z; omega)]
      exact h2
    by_cases q : last = -1
    · rw [if_pos q]
      refine V_ildn3 a_X0_bookInto_2 ?_
      refine V_aldn0 a_X0_bookInto_3 ?_
      refine V_getIE a_X0_bookInto_4 f_X0_36 rfl g7 ?_
      refine V_icmp_ge_t a_X0_bookInto_7 (by omega) (by omega) ?_
      refine V_aldn0 a_X0_bookInto_31 ?_
      refine V_getIE a_X0_bookInto_32 f_X0_70 rfl g9 ?_
      refine V_iconst a_X0_bookInto_35 ?_
      refine V_icmp_eq_t a_X0_bookInto_36 (by omega) (by omega) ?_
      exact V_ret a_X0_bookInto_52 (⟨rfl, f, hτ, e39⟩)
    · rw [if_neg q]
      have e2 : (τ.setI 39 i s last).I 39 i = upI (σ.I 39 i) s last := by
        rw [setI_row, rI_I, e39]
      refine V_ildn3 a_X0_bookInto_2 ?_
      refine V_aldn0 a_X0_bookInto_3 ?_
      refine V_getIE a_X0_bookInto_4 f_X0_36 rfl g7 ?_
      refine V_icmp_ge_t a_X0_bookInto_7 (by omega) (by omega) ?_
      refine V_aldn0 a_X0_bookInto_31 ?_
      refine V_getIE a_X0_bookInto_32 f_X0_70 rfl g9 ?_
      refine V_iconst a_X0_bookInto_35 ?_
      refine V_icmp_eq_f a_X0_bookInto_36 (by omega) (by omega) ?_
      refine V_aldn1 a_X0_bookInto_39 ?_
      refine V_fin a_X0_bookInto_40 f_X0_40 rfl hW ?_
      refine V_aldn2 a_X0_bookInto_43 ?_
      refine V_getIE a_X0_bookInto_44 f_X0_98 rfl g2 ?_
      refine V_aldn0 a_X0_bookInto_47 ?_
      refine V_getIE a_X0_bookInto_48 f_X0_70 rfl g9 ?_
      refine V_iast a_X0_bookInto_51 rfl (by omega) ?_
      exact V_ret a_X0_bookInto_52 (⟨rfl, f.trans (FX.setI (Or.inr ⟨rfl, rfl⟩)), fun l l0 l1 => by rw [setI_t (by decide)]; exact hτ l l0 l1, e2⟩)
  · intro k k0 k1 ih τ f e39 hτ
    have hW := f.wf hW
    have g7 : τ.I 0 0 7 = n := by
      rw [f.I (by intro z; unfold bkS at z; omega)]
      exact h7
    have g24 : τ.I 24 0 k = g k := by
      rw [f.I (by intro z; unfold bkS at z; omega)]
      exact h24 k k0 k1
    have g30 : τ.I 30 j k = sh k := by
      rw [hτ k k0 (by omega), if_neg (by omega)]
    have k2 := ih (τ.setI 30 j k (sh k + g k)) (f.trans (FX.setI (Or.inl ⟨rfl, rfl⟩))) (by rw [setI_t (by decide)]; exact e39) (fun l l0 l1 => by
      by_cases z : l = k
      · rw [z, setI_I, if_pos (by omega)]
      · rw [setI_ne z, hτ l l0 l1]
        by_cases y : l < k
        · rw [if_pos y, if_pos (by omega)]
        · rw [if_neg y, if_neg (by omega)])
    refine V_ildn3 a_X0_bookInto_2 ?_
    refine V_aldn0 a_X0_bookInto_3 ?_
    refine V_getIE a_X0_bookInto_4 f_X0_36 rfl g7 ?_
    refine V_icmp_ge_f a_X0_bookInto_7 (by omega) (by omega) ?_
    refine V_aldn2 a_X0_bookInto_10 ?_
    refine V_fin a_X0_bookInto_11 f_X0_93 rfl hW ?_
    refine V_ildn3 a_X0_bookInto_14 ?_
    first | refine V_dup2IR a_X0_bookInto_15 ?_ | refine V_dup2L a_X0_bookInto_15 ?_
    refine V_ialdE a_X0_bookInto_16 rfl (by omega) g30 ?_
    refine V_aldn0 a_X0_bookInto_17 ?_
    refine V_fin a_X0_bookInto_18 f_X0_9 rfl hW ?_
    refine V_ildn3 a_X0_bookInto_21 ?_
    refine V_ialdE a_X0_bookInto_22 rfl (by omega) g24 ?_
    refine V_iadd a_X0_bookInto_23 ?_
    refine V_iast a_X0_bookInto_24 rfl (by omega) ?_
    refine V_inc3 a_X0_bookInto_25 ?_
    refine V_goto a_X0_bookInto_28 ?_
    exact k2
/-- a new loan's cells and two numbers of its pool -/
def opS (i j : Nat) (t n : Nat) : Prop := jS j t n ∨ (t = 36 ∧ n = i)
theorem R_open {b s r : Int} (h : Cl D σ i A) (h12 : A 7 < 12) : Cv m_X6_open 2 0 0 [vR (some (6, i)), vI b, vI s, vI r] σ (some (vR (some (3, lid σ i (A 7))))) (fun τ => FX (opS i (lid σ i (A 7))) σ τ ∧ LnV τ (lid σ i (A 7)) (va5 (A 8) b s r (A 6)) (fun _ => 0) (fun _ => 0) (fun _ => -1) ∧ τ.I 36 i = upI (upI (σ.I 36 i) 3 (A 7 + 1)) 4 (A 8 + 1)) := by
  obtain ⟨hD, hW, hR, hS, hI⟩ := h
  obtain ⟨n0, n1, n2, n3, n4, n5, n6, n7, n8⟩ := hR.1
  have hn := hI.n
  have hL := hS.L
  have rb := R_Lbegin (j := lid σ i (A 7)) (a := A 8) (b := b) (c := s) (d := r) (e := A 6) hW
  show V _ 2 0 0 0 [some (vR (some (6, i))), some (vI b), some (vI s), some (vI r), none] [] σ _
  refine V_aldn0 a_X6_open_0 ?_
  refine V_fin a_X6_open_1 f_X6_48 rfl hW ?_
  refine V_aldn0 a_X6_open_4 ?_
  refine V_fin a_X6_open_5 f_X6_9 rfl hW ?_
  refine V_iconst a_X6_open_8 ?_
  refine V_ialdE a_X6_open_9 rfl (by omega) n3 ?_
  refine V_aald a_X6_open_10 rfl (by omega) (hL _ (by omega) (by omega)) ?_
  refine V_ast4 a_X6_open_11 ?_
  refine V_ald4 a_X6_open_13 ?_
  refine V_aldn0 a_X6_open_15 ?_
  refine V_fin a_X6_open_16 f_X6_9 rfl hW ?_
  refine V_iconst a_X6_open_19 ?_
  refine V_ialdE a_X6_open_20 rfl (by omega) n4 ?_
  refine V_ildn1 a_X6_open_21 ?_
  refine V_ildn2 a_X6_open_22 ?_
  refine V_ildn3 a_X6_open_23 ?_
  refine V_aldn0 a_X6_open_24 ?_
  refine V_fin a_X6_open_25 f_X6_9 rfl hW ?_
  refine V_iconst a_X6_open_28 ?_
  refine V_ialdE a_X6_open_29 rfl (by omega) n5 ?_
  refine V_v5PV a_X6_open_30 c_X6_134 rb (fun τ hτ => ?_)
  skip
  obtain ⟨f, v⟩ := hτ
  have e36 : τ.I 36 i = σ.I 36 i := f.I (by intro z; unfold jS at z; omega)
  have n3t : τ.I 36 i 3 = A 7 := by rw [e36]; exact n3
  have n4t : (τ.setI 36 i 3 (A 7 + 1)).I 36 i 4 = A 8 := by rw [setI_ne (by decide), e36]; exact n4
  have hWτ := f.wf hW
  have ef : ((τ.setI 36 i 3 (A 7 + 1)).setI 36 i 4 (A 8 + 1)).I 36 i = upI (upI (σ.I 36 i) 3 (A 7 + 1)) 4 (A 8 + 1) := by
    rw [setI_row, rI_I, setI_row, rI_I, e36]
  have ff : FX (opS i (lid σ i (A 7))) σ ((τ.setI 36 i 3 (A 7 + 1)).setI 36 i 4 (A 8 + 1)) := (f.sub (fun t n z => Or.inl z)).trans ((FX.setI (Or.inr ⟨rfl, rfl⟩)).trans (FX.setI (Or.inr ⟨rfl, rfl⟩)))
  have vf : LnV ((τ.setI 36 i 3 (A 7 + 1)).setI 36 i 4 (A 8 + 1)) (lid σ i (A 7)) (va5 (A 8) b s r (A 6)) (fun _ => 0) (fun _ => 0) (fun _ => -1) := v.fx (S := fun t n => t = 36 ∧ n = i) ((FX.setI ⟨rfl, rfl⟩).trans (FX.setI ⟨rfl, rfl⟩)) (fun t n z y => by unfold jS at y; omega)
  have hW := hWτ
  refine V_aldn0 a_X6_open_33 ?_
  refine V_fin a_X6_open_34 f_X6_9 rfl hW ?_
  refine V_iconst a_X6_open_37 ?_
  first | refine V_dup2IR a_X6_open_38 ?_ | refine V_dup2L a_X6_open_38 ?_
  refine V_ialdE a_X6_open_39 rfl (by omega) n3t ?_
  refine V_iconst a_X6_open_40 ?_
  refine V_iadd a_X6_open_41 ?_
  refine V_iast a_X6_open_42 rfl (by omega) ?_
  refine V_aldn0 a_X6_open_43 ?_
  refine V_fin a_X6_open_44 f_X6_9 rfl hW ?_
  refine V_iconst a_X6_open_47 ?_
  first | refine V_dup2IR a_X6_open_48 ?_ | refine V_dup2L a_X6_open_48 ?_
  refine V_ialdE a_X6_open_49 rfl (by omega) n4t ?_
  refine V_iconst a_X6_open_50 ?_
  refine V_iadd a_X6_open_51 ?_
  refine V_iast a_X6_open_52 rfl (by omega) ?_
  refine V_ald4 a_X6_open_53 ?_
  exact V_aret a_X6_open_55 (⟨rfl, ff, vf, ef⟩) rfl
end Bk

