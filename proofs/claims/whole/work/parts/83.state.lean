theorem V_mono {M : MI} {n b bs pc : Nat} {ls : List (Option AV)} {st : List AV} {σ : Hp} {Q Q' : Res → Hp → Prop} (hq : ∀ r τ, Q r τ → Q' r τ) (h : V M n b bs pc ls st σ Q) : V M n b bs pc ls st σ Q' := by
  intro g ad p l e R s m args below meth c H locs cells slots lsA ad0 σ0 hp T hT X
  obtain ⟨t, a1, o, b1, b2, b3⟩ := h g ad p l e R s m args below meth c H locs cells slots lsA ad0 σ0 hp T hT X
  refine ⟨t, a1, o, b1, b2, ?_⟩
  rcases b3 with ⟨⟨v, ad', σ', e1, e2, e3⟩, z⟩ | ⟨q, e1, E, ce, L, ⟨ad', σ', x1, x2⟩, rest⟩
  · exact Or.inl ⟨⟨v, ad', σ', e1, hq _ _ e2, e3⟩, z⟩
  · exact Or.inr ⟨q, e1, E, ce, L, ⟨ad', σ', hq _ _ x1, x2⟩, rest⟩
theorem Rt.cv {M : MI} {n b bs : Nat} {as : List AV} {σ σ' : Hp} {v : Option AV} {Φ : Hp → Prop} (h : Rt M n b bs as σ v σ') (hp : Φ σ') : Cv M n b bs as σ v Φ := V_mono (fun r τ hq => ⟨hq.1, by rw [hq.2]; exact hp⟩) h
theorem Cv.mono {M : MI} {n b bs : Nat} {as : List AV} {σ : Hp} {v : Option AV} {Φ Φ' : Hp → Prop} (h : Cv M n b bs as σ v Φ) (hp : ∀ τ, Φ τ → Φ' τ) : Cv M n b bs as σ v Φ' := V_mono (fun r τ hq => ⟨hq.1, hp τ hq.2⟩) h
theorem Ct.mono {M : MI} {n b bs : Nat} {as : List AV} {σ : Hp} {Q Q' : Res → Hp → Prop} (h : Ct M n b bs as σ Q) (hq : ∀ r τ, Q r τ → Q' r τ) : Ct M n b bs as σ Q' := V_mono hq h
/-- is the token behind p the word j? -/
noncomputable def wdB (T : Int → Int) (e p : Int) (j : Nat) : Bool := @decide (wdA T e (tF T e p) (tE T e p) j) (Classical.propDecidable _)
theorem wdB_t {T : Int → Int} {e p : Int} {j : Nat} : wdB T e p j = true ↔ wdA T e (tF T e p) (tE T e p) j := by
  unfold wdB
  exact @decide_eq_true_iff _ (Classical.propDecidable _)
/-- the keyword there, or -1 -/
noncomputable def kwA (T : Int → Int) (e p : Int) : Int := if wdB T e p 0 = true then 0 else if wdB T e p 1 = true then 1 else if wdB T e p 2 = true then 2 else if wdB T e p 3 = true then 3 else if wdB T e p 4 = true then 4 else -1
/-- the numbers behind a keyword: bounds and fault -/
def spL (B : St) (kw : Int) : List (Int × Int × Int) := if kw = 0 then [(0, 30, 2), (0, 100, 2)] else if kw = 1 then [(1, 9999, 2), (0, 9999, 2)] else if kw = 2 then [(0, 100, 2), (0, 100, 2), (0, 100, 2)] else if kw = 3 then [(0, 9999999, 2)] else [(0, B 1 - 1, 4), (0, B 0 - 1, 4), (0, 99999, 2)]
def ftN (T : Int → Int) (e : Int) : List (Int × Int × Int) → Int → Int × Int
  | [], p => (0, p)
  | x :: r, p => if nC T e p x.1 x.2.1 x.2.2 = 0 then ftN T e r (tE T e p) else (nC T e p x.1 x.2.1 x.2.2, tF T e p)
def flA (B : St) (kw : Int) : Bool := decide ((kw = 1 ∧ B 0 = 4) ∨ (kw = 2 ∧ B 1 = 6) ∨ (kw = 3 ∧ B 2 = 4))
/-- a statement: its fault (0: none), where that is or where the next one begins, the state -/
noncomputable def stA (T : Int → Int) (e : Int) (first : Bool) (B : St) (p : Int) : Int × Int × St :=
  if kwA T e p = -1 then (1, tF T e p, B) else if first ≠ decide (kwA T e p = 0) then (3, tF T e p, B) else if flA B (kwA T e p) = true then (5, tF T e p, B)
  else if (ftN T e (spL B (kwA T e p)) (tE T e p)).1 ≠ 0 then ((ftN T e (spL B (kwA T e p)) (tE T e p)).1, (ftN T e (spL B (kwA T e p)) (tE T e p)).2, B)
  else if ¬ wdB T e (ftN T e (spL B (kwA T e p)) (tE T e p)).2 29 = true then (1, tF T e (ftN T e (spL B (kwA T e p)) (tE T e p)).2, B)
  else (0, tE T e (ftN T e (spL B (kwA T e p)) (tE T e p)).2, adB T e B (kwA T e p) (tE T e p))
theorem ftN_0 {T : Int → Int} {e p lo hi c : Int} {r : List (Int × Int × Int)} (h : nC T e p lo hi c = 0) : ftN T e ((lo, hi, c) :: r) p = ftN T e r (tE T e p) := by
  show (if _ then _ else _) = _
  rw [if_pos h]
theorem ftN_1 {T : Int → Int} {e p lo hi c : Int} {r : List (Int × Int × Int)} (h : nC T e p lo hi c ≠ 0) : ftN T e ((lo, hi, c) :: r) p = (nC T e p lo hi c, tF T e p) := by
  show (if _ then _ else _) = _
  rw [if_neg h]
theorem ftN_bd {T : Int → Int} {e : Int} : ∀ (L : List (Int × Int × Int)) (p : Int), 0 ≤ p ∧ p ≤ e → (∀ x ∈ L, 0 < x.2.2 ∧ x.2.2 < 100) → (0 ≤ (ftN T e L p).1 ∧ (ftN T e L p).1 < 100) ∧ p ≤ (ftN T e L p).2 ∧ (ftN T e L p).2 ≤ e := by
  intro L
  induction L with
  | nil => intro p hp _; exact ⟨⟨Int.le_refl 0, by show (0 : Int) < 100; decide⟩, Int.le_refl p, hp.2⟩
  | cons x r ih =>
    intro p hp hL
    obtain ⟨h0, h1, h2, -⟩ := tE_bd (T := T) hp.2
    obtain ⟨lo, hi, c⟩ := x
    have hc := hL (lo, hi, c) List.mem_cons_self
    by_cases q : nC T e p lo hi c = 0
    · rw [ftN_0 q]
      have := ih (tE T e p) (by omega) (fun x hx => hL x (List.mem_cons_of_mem _ hx))
      omega
    · rw [ftN_1 q]
      have := nC_bd (T := T) (e := e) (p := p) (lo := lo) (hi := hi) hc
      exact ⟨this, h0, by show tF T e p ≤ e; omega⟩
section Sm
variable {σ : Hp} {T : Int → Int} {e p a : Int} {B : St}
theorem R_word {c a : Int} {j : Nat} (h : Tx σ T e) (hj : j < 30) (hp : 0 ≤ p ∧ p ≤ e) : Rt m_X11_isWord 4 0 0 [vR (some (11, 0)), vR (some (98, j))] (σ.pz (tF T e p) (tE T e p) c a) (some (vI (bI (wdB T e p j = true)))) (σ.pz (tF T e p) (tE T e p) c a) := by
  obtain ⟨h0, h1, h2, -⟩ := tE_bd (T := T) hp.2
  obtain ⟨b, hb, r⟩ := B_isWord (c := c) (a := a) (f := tF T e p) (t := tE T e p) h hj (by omega)
  have eb : bI (wdB T e p j = true) = b := by
    rcases hb with ⟨q1, q2⟩ | ⟨q1, q2⟩
    · rw [q1]
      exact bI_t (wdB_t.mpr q2)
    · rw [q1]
      exact bI_f (fun z => q2 (wdB_t.mp z))
  rw [eb]
  exact r
theorem R_wordT {c a : Int} {j : Nat} (h : Tx σ T e) (hj : j < 30) (hp : 0 ≤ p ∧ p ≤ e) (hw : wdB T e p j = true) : Rt m_X11_isWord 4 0 0 [vR (some (11, 0)), vR (some (98, j))] (σ.pz (tF T e p) (tE T e p) c a) (some (vI 1)) (σ.pz (tF T e p) (tE T e p) c a) := by
  have r := R_word (c := c) (a := a) h hj hp
  rw [bI_t hw] at r
  exact r
theorem R_wordF {c a : Int} {j : Nat} (h : Tx σ T e) (hj : j < 30) (hp : 0 ≤ p ∧ p ≤ e) (hw : ¬ wdB T e p j = true) : Rt m_X11_isWord 4 0 0 [vR (some (11, 0)), vR (some (98, j))] (σ.pz (tF T e p) (tE T e p) c a) (some (vI 0)) (σ.pz (tF T e p) (tE T e p) c a) := by
  have r := R_word (c := c) (a := a) h hj hp
  rw [bI_f hw] at r
  exact r
theorem R_isKeyword (h : Tx σ T e) (hp : 0 ≤ p ∧ p ≤ e) : Rt m_X11_isKeyword 5 0 0 [vR (some (11, 0))] (σ.pz (tF T e p) (tE T e p) 0 a) (some (vI (bI (kwA T e p ≠ -1)))) (σ.pz (tF T e p) (tE T e p) 0 a) := by
  show V _ 5 0 0 0 [some (vR (some (11, 0)))] [] (σ.pz (tF T e p) (tE T e p) 0 a) _
  unfold kwA
  by_cases w0 : wdB T e p 0 = true
  · rw [if_pos w0]
    refine V_aldn0 a_X11_isKeyword_0 ?_
    refine V_ldcS a_X11_isKeyword_1 sr_X11_155 ?_
    refine V_v1R a_X11_isKeyword_3 c_X11_157 (R_wordT h (by decide) hp w0) ?_
    refine V_if_ne_t a_X11_isKeyword_6 (by omega) (by omega) ?_
    refine V_iconst a_X11_isKeyword_45 ?_
    refine V_goto a_X11_isKeyword_46 ?_
    exact V_zret a_X11_isKeyword_50 (by omega) (⟨rfl, rfl⟩)
  · rw [if_neg w0]
    by_cases w1 : wdB T e p 1 = true
    · rw [if_pos w1]
      refine V_aldn0 a_X11_isKeyword_0 ?_
      refine V_ldcS a_X11_isKeyword_1 sr_X11_155 ?_
      refine V_v1R a_X11_isKeyword_3 c_X11_157 (R_wordF h (by decide) hp w0) ?_
      refine V_if_ne_f a_X11_isKeyword_6 (by omega) (by omega) ?_
      refine V_aldn0 a_X11_isKeyword_9 ?_
      refine V_ldcS a_X11_isKeyword_10 sr_X11_161 ?_
      refine V_v1R a_X11_isKeyword_12 c_X11_157 (R_wordT h (by decide) hp w1) ?_
      refine V_if_ne_t a_X11_isKeyword_15 (by omega) (by omega) ?_
      refine V_iconst a_X11_isKeyword_45 ?_
      refine V_goto a_X11_isKeyword_46 ?_
      exact V_zret a_X11_isKeyword_50 (by omega) (⟨rfl, rfl⟩)
    · rw [if_neg w1]
      by_cases w2 : wdB T e p 2 = true
      · rw [if_pos w2]
        refine V_aldn0 a_X11_isKeyword_0 ?_
        refine V_ldcS a_X11_isKeyword_1 sr_X11_155 ?_
        refine V_v1R a_X11_isKeyword_3 c_X11_157 (R_wordF h (by decide) hp w0) ?_
        refine V_if_ne_f a_X11_isKeyword_6 (by omega) (by omega) ?_
        refine V_aldn0 a_X11_isKeyword_9 ?_
        refine V_ldcS a_X11_isKeyword_10 sr_X11_161 ?_
        refine V_v1R a_X11_isKeyword_12 c_X11_157 (R_wordF h (by decide) hp w1) ?_
        refine V_if_ne_f a_X11_isKeyword_15 (by omega) (by omega) ?_
        refine V_aldn0 a_X11_isKeyword_18 ?_
        refine V_ldcS a_X11_isKeyword_19 sr_X11_163 ?_
        refine V_v1R a_X11_isKeyword_21 c_X11_157 (R_wordT h (by decide) hp w2) ?_
        refine V_if_ne_t a_X11_isKeyword_24 (by omega) (by omega) ?_
        refine V_iconst a_X11_isKeyword_45 ?_
        refine V_goto a_X11_isKeyword_46 ?_
        exact V_zret a_X11_isKeyword_50 (by omega) (⟨rfl, rfl⟩)
      · rw [if_neg w2]
        by_cases w3 : wdB T e p 3 = true
        · rw [if_pos w3]
          refine V_aldn0 a_X11_isKeyword_0 ?_
          refine V_ldcS a_X11_isKeyword_1 sr_X11_155 ?_
          refine V_v1R a_X11_isKeyword_3 c_X11_157 (R_wordF h (by decide) hp w0) ?_
          refine V_if_ne_f a_X11_isKeyword_6 (by omega) (by omega) ?_
          refine V_aldn0 a_X11_isKeyword_9 ?_
          refine V_ldcS a_X11_isKeyword_10 sr_X11_161 ?_
          refine V_v1R a_X11_isKeyword_12 c_X11_157 (R_wordF h (by decide) hp w1) ?_
          refine V_if_ne_f a_X11_isKeyword_15 (by omega) (by omega) ?_
          refine V_aldn0 a_X11_isKeyword_18 ?_
          refine V_ldcS a_X11_isKeyword_19 sr_X11_163 ?_
          refine V_v1R a_X11_isKeyword_21 c_X11_157 (R_wordF h (by decide) hp w2) ?_
          refine V_if_ne_f a_X11_isKeyword_24 (by omega) (by omega) ?_
          refine V_aldn0 a_X11_isKeyword_27 ?_
          refine V_ldcS a_X11_isKeyword_28 sr_X11_165 ?_
          refine V_v1R a_X11_isKeyword_30 c_X11_157 (R_wordT h (by decide) hp w3) ?_
          refine V_if_ne_t a_X11_isKeyword_33 (by omega) (by omega) ?_
          refine V_iconst a_X11_isKeyword_45 ?_
          refine V_goto a_X11_isKeyword_46 ?_
          exact V_zret a_X11_isKeyword_50 (by omega) (⟨rfl, rfl⟩)
        · rw [if_neg w3]
          by_cases w4 : wdB T e p 4 = true
          · rw [if_pos w4]
            refine V_aldn0 a_X11_isKeyword_0 ?_
            refine V_ldcS a_X11_isKeyword_1 sr_X11_155 ?_
            refine V_v1R a_X11_isKeyword_3 c_X11_157 (R_wordF h (by decide) hp w0) ?_
            refine V_if_ne_f a_X11_isKeyword_6 (by omega) (by omega) ?_
            refine V_aldn0 a_X11_isKeyword_9 ?_
            refine V_ldcS a_X11_isKeyword_10 sr_X11_161 ?_
            refine V_v1R a_X11_isKeyword_12 c_X11_157 (R_wordF h (by decide) hp w1) ?_
            refine V_if_ne_f a_X11_isKeyword_15 (by omega) (by omega) ?_
            refine V_aldn0 a_X11_isKeyword_18 ?_
            refine V_ldcS a_X11_isKeyword_19 sr_X11_163 ?_
            refine V_v1R a_X11_isKeyword_21 c_X11_157 (R_wordF h (by decide) hp w2) ?_
            refine V_if_ne_f a_X11_isKeyword_24 (by omega) (by omega) ?_
            refine V_aldn0 a_X11_isKeyword_27 ?_
            refine V_ldcS a_X11_isKeyword_28 sr_X11_165 ?_
            refine V_v1R a_X11_isKeyword_30 c_X11_157 (R_wordF h (by decide) hp w3) ?_
            refine V_if_ne_f a_X11_isKeyword_33 (by omega) (by omega) ?_
            refine V_aldn0 a_X11_isKeyword_36 ?_
            refine V_ldcS a_X11_isKeyword_37 sr_X11_167 ?_
            refine V_v1R a_X11_isKeyword_39 c_X11_157 (R_wordT h (by decide) hp w4) ?_
            refine V_if_eq_f a_X11_isKeyword_42 (by omega) (by omega) ?_
            refine V_iconst a_X11_isKeyword_45 ?_
            refine V_goto a_X11_isKeyword_46 ?_
            exact V_zret a_X11_isKeyword_50 (by omega) (⟨rfl, rfl⟩)
          · rw [if_neg w4]
            refine V_aldn0 a_X11_isKeyword_0 ?_
            refine V_ldcS a_X11_isKeyword_1 sr_X11_155 ?_
            refine V_v1R a_X11_isKeyword_3 c_X11_157 (R_wordF h (by decide) hp w0) ?_
            refine V_if_ne_f a_X11_isKeyword_6 (by omega) (by omega) ?_
            refine V_aldn0 a_X11_isKeyword_9 ?_
            refine V_ldcS a_X11_isKeyword_10 sr_X11_161 ?_
            refine V_v1R a_X11_isKeyword_12 c_X11_157 (R_wordF h (by decide) hp w1) ?_
            refine V_if_ne_f a_X11_isKeyword_15 (by omega) (by omega) ?_
            refine V_aldn0 a_X11_isKeyword_18 ?_
            refine V_ldcS a_X11_isKeyword_19 sr_X11_163 ?_
            refine V_v1R a_X11_isKeyword_21 c_X11_157 (R_wordF h (by decide) hp w2) ?_
            refine V_if_ne_f a_X11_isKeyword_24 (by omega) (by omega) ?_
            refine V_aldn0 a_X11_isKeyword_27 ?_
            refine V_ldcS a_X11_isKeyword_28 sr_X11_165 ?_
            refine V_v1R a_X11_isKeyword_30 c_X11_157 (R_wordF h (by decide) hp w3) ?_
            refine V_if_ne_f a_X11_isKeyword_33 (by omega) (by omega) ?_
            refine V_aldn0 a_X11_isKeyword_36 ?_
            refine V_ldcS a_X11_isKeyword_37 sr_X11_167 ?_
            refine V_v1R a_X11_isKeyword_39 c_X11_157 (R_wordF h (by decide) hp w4) ?_
            refine V_if_eq_t a_X11_isKeyword_42 (by omega) (by omega) ?_
            refine V_iconst a_X11_isKeyword_49 ?_
            exact V_zret a_X11_isKeyword_50 (by omega) (⟨rfl, rfl⟩)
/-- behind the numbers of a statement -/
def StO (σ : Hp) (T : Int → Int) (e a : Int) (B' : St) (x : Int × Int) (τ : Hp) : Prop := (x.1 = 0 → τ = (σ.rJ 53 0 B').pz (tF T e x.2) (tE T e x.2) 0 a) ∧ (x.1 ≠ 0 → FS σ e x.1 x.2 τ)
theorem D_readPool (h : Tx σ T e) (hB : FrI B) (hp : 0 ≤ p ∧ p ≤ e) : Cv m_X11_readPool 4 0 0 [vR (some (11, 0))] ((σ.rJ 53 0 B).pz (tF T e p) (tE T e p) 0 a) none (StO σ T e a (adB T e B 0 (tE T e p)) (ftN T e (spL B 0) (tE T e p))) := by
  show Cv _ _ _ _ _ _ _ (StO σ T e a (adB T e B 0 (tE T e p)) (ftN T e [(0, 30, 2), (0, 100, 2)] (tE T e p)))
  by_cases c0 : nC T e (tE T e p) 0 30 2 = 0
  · rw [ftN_0 c0]
    by_cases c1 : nC T e (tE T e (tE T e p)) 0 100 2 = 0
    · rw [ftN_0 c1]
      exact (K_readPool h hB hp c0 c1).cv ⟨fun _ => rfl, fun z => absurd rfl z⟩
    · rw [ftN_1 c1]
      exact (F_readPool1 h hB hp c0 c1).mono (fun τ q => ⟨fun z => absurd z c1, fun _ => q⟩)
  · rw [ftN_1 c0]
    exact (F_readPool0 h hB hp c0).mono (fun τ q => ⟨fun z => absurd z c0, fun _ => q⟩)
theorem D_readSecurity (h : Tx σ T e) (hB : FrI B) (hp : 0 ≤ p ∧ p ≤ e) (hf : ¬ B 0 = 4) : Cv m_X11_readSecurity 4 0 0 [vR (some (11, 0))] ((σ.rJ 53 0 B).pz (tF T e p) (tE T e p) 0 a) none (StO σ T e a (adB T e B 1 (tE T e p)) (ftN T e (spL B 1) (tE T e p))) := by
  show Cv _ _ _ _ _ _ _ (StO σ T e a (adB T e B 1 (tE T e p)) (ftN T e [(1, 9999, 2), (0, 9999, 2)] (tE T e p)))
  by_cases c0 : nC T e (tE T e p) 1 9999 2 = 0
  · rw [ftN_0 c0]
    by_cases c1 : nC T e (tE T e (tE T e p)) 0 9999 2 = 0
    · rw [ftN_0 c1]
      exact (K_readSecurity h hB hp hf c0 c1).cv ⟨fun _ => rfl, fun z => absurd rfl z⟩
    · rw [ftN_1 c1]
      exact (F_readSecurity1 h hB hp hf c0 c1).mono (fun τ q => ⟨fun z => absurd z c1, fun _ => q⟩)
  · rw [ftN_1 c0]
    exact (F_readSecurity0 h hB hp hf c0).mono (fun τ q => ⟨fun z => absurd z c0, fun _ => q⟩)
theorem D_readLender (h : Tx σ T e) (hB : FrI B) (hp : 0 ≤ p ∧ p ≤ e) (hf : ¬ B 1 = 6) : Cv m_X11_readLender 4 0 0 [vR (some (11, 0))] ((σ.rJ 53 0 B).pz (tF T e p) (tE T e p) 0 a) none (StO σ T e a (adB T e B 2 (tE T e p)) (ftN T e (spL B 2) (tE T e p))) := by
  show Cv _ _ _ _ _ _ _ (StO σ T e a (adB T e B 2 (tE T e p)) (ftN T e [(0, 100, 2), (0, 100, 2), (0, 100, 2)] (tE T e p)))
  by_cases c0 : nC T e (tE T e p) 0 100 2 = 0
  · rw [ftN_0 c0]
    by_cases c1 : nC T e (tE T e (tE T e p)) 0 100 2 = 0
    · rw [ftN_0 c1]
      by_cases c2 : nC T e (tE T e (tE T e (tE T e p))) 0 100 2 = 0
      · rw [ftN_0 c2]
        exact (K_readLender h hB hp hf c0 c1 c2).cv ⟨fun _ => rfl, fun z => absurd rfl z⟩
      · rw [ftN_1 c2]
        exact (F_readLender2 h hB hp hf c0 c1 c2).mono (fun τ q => ⟨fun z => absurd z c2, fun _ => q⟩)
    · rw [ftN_1 c1]
      exact (F_readLender1 h hB hp hf c0 c1).mono (fun τ q => ⟨fun z => absurd z c1, fun _ => q⟩)
  · rw [ftN_1 c0]
    exact (F_readLender0 h hB hp hf c0).mono (fun τ q => ⟨fun z => absurd z c0, fun _ => q⟩)
theorem D_readBorrower (h : Tx σ T e) (hB : FrI B) (hp : 0 ≤ p ∧ p ≤ e) (hf : ¬ B 2 = 4) : Cv m_X11_readBorrower 4 0 0 [vR (some (11, 0))] ((σ.rJ 53 0 B).pz (tF T e p) (tE T e p) 0 a) none (StO σ T e a (adB T e B 3 (tE T e p)) (ftN T e (spL B 3) (tE T e p))) := by
  show Cv _ _ _ _ _ _ _ (StO σ T e a (adB T e B 3 (tE T e p)) (ftN T e [(0, 9999999, 2)] (tE T e p)))
  by_cases c0 : nC T e (tE T e p) 0 9999999 2 = 0
  · rw [ftN_0 c0]
    exact (K_readBorrower h hB hp hf c0).cv ⟨fun _ => rfl, fun z => absurd rfl z⟩
  · rw [ftN_1 c0]
    exact (F_readBorrower0 h hB hp hf c0).mono (fun τ q => ⟨fun z => absurd z c0, fun _ => q⟩)
theorem D_readHolding (h : Tx σ T e) (hB : FrI B) (hp : 0 ≤ p ∧ p ≤ e) : Cv m_X11_readHolding 4 0 0 [vR (some (11, 0))] ((σ.rJ 53 0 B).pz (tF T e p) (tE T e p) 0 a) none (StO σ T e a (adB T e B 4 (tE T e p)) (ftN T e (spL B 4) (tE T e p))) := by
  show Cv _ _ _ _ _ _ _ (StO σ T e a (adB T e B 4 (tE T e p)) (ftN T e [(0, B 1 - 1, 4), (0, B 0 - 1, 4), (0, 99999, 2)] (tE T e p)))
  by_cases c0 : nC T e (tE T e p) 0 (B 1 - 1) 4 = 0
  · rw [ftN_0 c0]
    by_cases c1 : nC T e (tE T e (tE T e p)) 0 (B 0 - 1) 4 = 0
    · rw [ftN_0 c1]
      by_cases c2 : nC T e (tE T e (tE T e (tE T e p))) 0 99999 2 = 0
      · rw [ftN_0 c2]
        exact (K_readHolding h hB hp c0 c1 c2).cv ⟨fun _ => rfl, fun z => absurd rfl z⟩
      · rw [ftN_1 c2]
        exact (F_readHolding2 h hB hp c0 c1 c2).mono (fun τ q => ⟨fun z => absurd z c2, fun _ => q⟩)
    · rw [ftN_1 c1]
      exact (F_readHolding1 h hB hp c0 c1).mono (fun τ q => ⟨fun z => absurd z c1, fun _ => q⟩)
  · rw [ftN_1 c0]
    exact (F_readHolding0 h hB hp c0).mono (fun τ q => ⟨fun z => absurd z c0, fun _ => q⟩)
end Sm

