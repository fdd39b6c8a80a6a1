/-- the row that a text begins with -/
def layB (g : Int → Int) : St := mixO 23 (fun _ => -1) (mix (fun _ => 0) g 359) 4
theorem layB_0 {g : Int → Int} {k : Int} (h0 : 0 ≤ k) (h1 : k < 359) (h : ¬ (23 ≤ k ∧ k < 27)) : layB g k = 0 := by
  unfold layB
  rw [mixO_out (by omega), mix_in h0 h1]
theorem layB_1 {g : Int → Int} {s : Int} (h0 : 0 ≤ s) (h1 : s < 4) : layB g (23 + s) = -1 := by
  unfold layB
  rw [mixO_in h0 h1]
theorem lay_fr {g : Int → Int} : FrI (layB g) := by
  have e : ∀ k, 0 ≤ k → k < 23 → layB g k = 0 := fun k k0 k1 => layB_0 k0 (by omega) (by omega)
  have e7 := e 7 (by decide) (by decide)
  refine ⟨⟨?_, fun s s0 s1 => ?_, fun s s0 s1 => ?_, fun l l0 l1 => ?_, fun b b0 b1 => ?_, fun l s l0 l1 s0 s1 => ?_, fun k k0 k1 => ?_, fun j k j0 jk k1 => ?_, fun l s l0 l1 s0 s1 => ?_⟩, e7⟩
  · rw [e 0 (by decide) (by decide), e 1 (by decide) (by decide), e 2 (by decide) (by decide), e 3 (by decide) (by decide), e 4 (by decide) (by decide), e 5 (by decide) (by decide), e 6 (by decide) (by decide), e7, e 8 (by decide) (by decide)]
    decide
  · rw [e 0 (by decide) (by decide)] at s1
    omega
  · rw [layB_1 s0 s1]
    omega
  · rw [e 1 (by decide) (by decide)] at l1
    omega
  · rw [e 2 (by decide) (by decide)] at b1
    omega
  · rw [layB_0 (by omega) (by omega) (by omega)]
    omega
  · rw [e7] at k1
    omega
  · rw [e7] at k1
    omega
  · unfold lentA
    rw [e7, sm_0, layB_0 (by omega) (by omega) (by omega)]
    omega
/-- a state without loans: what a change must keep -/
theorem fr_mk {B B' : St} (h : FrI B) (h0 : 0 ≤ B' 0 ∧ B' 0 ≤ 4) (h1 : 0 ≤ B' 1 ∧ B' 1 ≤ 6 ∧ B 1 ≤ B' 1) (h2 : 0 ≤ B' 2 ∧ B' 2 ≤ 4) (h3 : 0 ≤ B' 3 ∧ B' 3 ≤ 30) (h4 : 0 ≤ B' 4 ∧ B' 4 ≤ 100) (h58 : ∀ k, 5 ≤ k → k ≤ 8 → B' k = B k)
    (hpr : ∀ s, 0 ≤ s → s < B' 0 → (1 ≤ B' (15 + s) ∧ B' (15 + s) ≤ 9999) ∧ 0 ≤ B' (19 + s) ∧ B' (19 + s) ≤ 9999) (hla : ∀ s, 0 ≤ s → s < 4 → B' (23 + s) = B (23 + s))
    (hle : ∀ l, 0 ≤ l → l < B' 1 → (0 ≤ B' (27 + l) ∧ B' (27 + l) ≤ 100) ∧ (0 ≤ B' (33 + l) ∧ B' (33 + l) ≤ 100) ∧ 0 ≤ B' (39 + l) ∧ B' (39 + l) ≤ 100) (hcr : ∀ b, 0 ≤ b → b < B' 2 → 0 ≤ B' (45 + b) ∧ B' (45 + b) ≤ 9999999)
    (hho : ∀ l s, 0 ≤ l → l < 6 → 0 ≤ s → s < 4 → 0 ≤ B' (49 + 4 * l + s) ∧ B' (49 + 4 * l + s) ≤ 99999) : FrI B' := by
  have hn := h.1.n
  have e7 : B' 7 = 0 := (h58 7 (by decide) (by decide)).trans h.2
  refine ⟨⟨?_, hpr, fun s s0 s1 => ?_, hle, hcr, hho, fun k k0 k1 => ?_, fun j k j0 jk k1 => ?_, fun l s l0 l1 s0 s1 => ?_⟩, e7⟩
  · rw [h58 5 (by decide) (by decide), h58 6 (by decide) (by decide), e7, h58 8 (by decide) (by decide)]
    omega
  · rw [hla s s0 s1]
    have := h.1.last s0 s1
    omega
  · omega
  · omega
  · unfold lentA
    rw [e7, sm_0]
    exact (hho l s l0 l1 s0 s1).1
theorem ad_fr {T : Int → Int} {e p kw : Int} {B : St} (h : FrI B) (hk : 0 ≤ kw ∧ kw ≤ 4) (hf : ¬ flA B kw = true) (hc : (ftN T e (spL B kw) p).1 = 0) : FrI (adB T e B kw p) := by
  have hn := h.1.n
  have hf : ¬ ((kw = 1 ∧ B 0 = 4) ∨ (kw = 2 ∧ B 1 = 6) ∨ (kw = 3 ∧ B 2 = 4)) := fun z => hf (decide_eq_true z)
  have two : ∀ {lo hi c : Int} {r : List (Int × Int × Int)} {q : Int}, (0 < c ∧ c < 100) → (ftN T e ((lo, hi, c) :: r) q).1 = 0 → (lo ≤ nW T e q ∧ nW T e q ≤ hi) ∧ (ftN T e r (tE T e q)).1 = 0 := fun {lo hi c r q} hc0 z => by
    by_cases y : nC T e q lo hi c = 0
    · rw [ftN_0 y] at z
      exact ⟨nC_in y hc0, z⟩
    · rw [ftN_1 y] at z
      exact absurd z y
  have cases : kw = 0 ∨ kw = 1 ∨ kw = 2 ∨ kw = 3 ∨ kw = 4 := by omega
  rcases cases with rfl | rfl | rfl | rfl | rfl
  · obtain ⟨v0, hc⟩ := two (by decide) (show (ftN T e [(0, 30, 2), (0, 100, 2)] p).1 = 0 from hc)
    obtain ⟨v1, hc⟩ := two (by decide) hc
    rw [adB_0]
    refine fr_mk h ?_ ?_ ?_ ?_ ?_ (fun k k0 k1 => ?_) (fun s s0 s1 => ?_) (fun s s0 s1 => ?_) (fun l l0 l1 => ?_) (fun b b0 b1 => ?_) (fun l s l0 l1 s0 s1 => ?_)
    · rw [upI_ne (by decide), upI_ne (by decide)]; omega
    · rw [upI_ne (by decide), upI_ne (by decide)]; omega
    · rw [upI_ne (by decide), upI_ne (by decide)]; omega
    · rw [upI_ne (by decide), upI_eq]; omega
    · rw [upI_eq]; omega
    · rw [upI_ne (by omega), upI_ne (by omega)]
    · rw [upI_ne (by decide), upI_ne (by decide)] at s1
      rw [upI_ne (by omega), upI_ne (by omega), upI_ne (by omega), upI_ne (by omega)]
      exact h.1.price s0 s1
    · rw [upI_ne (by omega), upI_ne (by omega)]
    · rw [upI_ne (by decide), upI_ne (by decide)] at l1
      rw [upI_ne (by omega), upI_ne (by omega), upI_ne (by omega), upI_ne (by omega), upI_ne (by omega), upI_ne (by omega)]
      exact h.1.lend l0 l1
    · rw [upI_ne (by decide), upI_ne (by decide)] at b1
      rw [upI_ne (by omega), upI_ne (by omega)]
      exact h.1.cred b0 b1
    · rw [upI_ne (by omega), upI_ne (by omega)]
      exact h.1.held l0 l1 s0 s1
  · obtain ⟨v0, hc⟩ := two (by decide) (show (ftN T e [(1, 9999, 2), (0, 9999, 2)] p).1 = 0 from hc)
    obtain ⟨v1, hc⟩ := two (by decide) hc
    rw [adB_1]
    generalize nW T e p = a0 at v0
    generalize nW T e (tE T e p) = a1 at v1
    have g : ∀ k, k ≠ 0 → k ≠ 19 + B 0 → k ≠ 15 + B 0 → upI (upI (upI B (15 + B 0) a0) (19 + B 0) a1) 0 (B 0 + 1) k = B k := fun k k0 k1 k2 => by
      rw [upI_ne k0, upI_ne k1, upI_ne k2]
    refine fr_mk h ?_ ?_ ?_ ?_ ?_ (fun k k0 k1 => ?_) (fun s s0 s1 => ?_) (fun s s0 s1 => ?_) (fun l l0 l1 => ?_) (fun b b0 b1 => ?_) (fun l s l0 l1 s0 s1 => ?_)
    · rw [upI_eq]; omega
    · rw [g 1 (by decide) (by omega) (by omega)]; omega
    · rw [g 2 (by decide) (by omega) (by omega)]; omega
    · rw [g 3 (by decide) (by omega) (by omega)]; omega
    · rw [g 4 (by decide) (by omega) (by omega)]; omega
    · rw [g k (by omega) (by omega) (by omega)]
    · rw [upI_eq] at s1
      by_cases q : s = B 0
      · rw [q, upI_ne (by omega), upI_ne (by omega), upI_eq, upI_ne (by omega), upI_eq]
        omega
      · rw [g _ (by omega) (by omega) (by omega), g _ (by omega) (by omega) (by omega)]
        exact h.1.price s0 (by omega)
    · rw [g _ (by omega) (by omega) (by omega)]
    · rw [g 1 (by decide) (by omega) (by omega)] at l1
      rw [g _ (by omega) (by omega) (by omega), g _ (by omega) (by omega) (by omega), g _ (by omega) (by omega) (by omega)]
      exact h.1.lend l0 l1
    · rw [g 2 (by decide) (by omega) (by omega)] at b1
      rw [g _ (by omega) (by omega) (by omega)]
      exact h.1.cred b0 b1
    · rw [g _ (by omega) (by omega) (by omega)]
      exact h.1.held l0 l1 s0 s1
  · obtain ⟨v0, hc⟩ := two (by decide) (show (ftN T e [(0, 100, 2), (0, 100, 2), (0, 100, 2)] p).1 = 0 from hc)
    obtain ⟨v1, hc⟩ := two (by decide) hc
    obtain ⟨v2, hc⟩ := two (by decide) hc
    rw [adB_2]
    generalize nW T e p = a0 at v0
    generalize nW T e (tE T e p) = a1 at v1
    generalize nW T e (tE T e (tE T e p)) = a2 at v2
    have g : ∀ k, k ≠ 1 → k ≠ 39 + B 1 → k ≠ 33 + B 1 → k ≠ 27 + B 1 → upI (upI (upI (upI B (27 + B 1) a0) (33 + B 1) a1) (39 + B 1) a2) 1 (B 1 + 1) k = B k := fun k k0 k1 k2 k3 => by
      rw [upI_ne k0, upI_ne k1, upI_ne k2, upI_ne k3]
    refine fr_mk h ?_ ?_ ?_ ?_ ?_ (fun k k0 k1 => ?_) (fun s s0 s1 => ?_) (fun s s0 s1 => ?_) (fun l l0 l1 => ?_) (fun b b0 b1 => ?_) (fun l s l0 l1 s0 s1 => ?_)
    · rw [g 0 (by decide) (by omega) (by omega) (by omega)]; omega
    · rw [upI_eq]; omega
    · rw [g 2 (by decide) (by omega) (by omega) (by omega)]; omega
    · rw [g 3 (by decide) (by omega) (by omega) (by omega)]; omega
    · rw [g 4 (by decide) (by omega) (by omega) (by omega)]; omega
    · rw [g k (by omega) (by omega) (by omega) (by omega)]
    · rw [g 0 (by decide) (by omega) (by omega) (by omega)] at s1
      rw [g _ (by omega) (by omega) (by omega) (by omega), g _ (by omega) (by omega) (by omega) (by omega)]
      exact h.1.price s0 s1
    · rw [g _ (by omega) (by omega) (by omega) (by omega)]
    · rw [upI_eq] at l1
      by_cases q : l = B 1
      · rw [q, upI_ne (by omega), upI_ne (by omega), upI_ne (by omega), upI_eq, upI_ne (by omega), upI_ne (by omega), upI_eq, upI_ne (by omega), upI_eq]
        omega
      · rw [g _ (by omega) (by omega) (by omega) (by omega), g _ (by omega) (by omega) (by omega) (by omega), g _ (by omega) (by omega) (by omega) (by omega)]
        exact h.1.lend l0 (by omega)
    · rw [g 2 (by decide) (by omega) (by omega) (by omega)] at b1
      rw [g _ (by omega) (by omega) (by omega) (by omega)]
      exact h.1.cred b0 b1
    · rw [g _ (by omega) (by omega) (by omega) (by omega)]
      exact h.1.held l0 l1 s0 s1
  · obtain ⟨v0, hc⟩ := two (by decide) (show (ftN T e [(0, 9999999, 2)] p).1 = 0 from hc)
    rw [adB_3]
    generalize nW T e p = a0 at v0
    have g : ∀ k, k ≠ 2 → k ≠ 45 + B 2 → upI (upI B (45 + B 2) a0) 2 (B 2 + 1) k = B k := fun k k0 k1 => by
      rw [upI_ne k0, upI_ne k1]
    refine fr_mk h ?_ ?_ ?_ ?_ ?_ (fun k k0 k1 => ?_) (fun s s0 s1 => ?_) (fun s s0 s1 => ?_) (fun l l0 l1 => ?_) (fun b b0 b1 => ?_) (fun l s l0 l1 s0 s1 => ?_)
    · rw [g 0 (by decide) (by omega)]; omega
    · rw [g 1 (by decide) (by omega)]; omega
    · rw [upI_eq]; omega
    · rw [g 3 (by decide) (by omega)]; omega
    · rw [g 4 (by decide) (by omega)]; omega
    · rw [g k (by omega) (by omega)]
    · rw [g 0 (by decide) (by omega)] at s1
      rw [g _ (by omega) (by omega), g _ (by omega) (by omega)]
      exact h.1.price s0 s1
    · rw [g _ (by omega) (by omega)]
    · rw [g 1 (by decide) (by omega)] at l1
      rw [g _ (by omega) (by omega), g _ (by omega) (by omega), g _ (by omega) (by omega)]
      exact h.1.lend l0 l1
    · rw [upI_eq] at b1
      by_cases q : b = B 2
      · rw [q, upI_ne (by omega), upI_eq]
        omega
      · rw [g _ (by omega) (by omega)]
        exact h.1.cred b0 (by omega)
    · rw [g _ (by omega) (by omega)]
      exact h.1.held l0 l1 s0 s1
  · obtain ⟨v0, hc⟩ := two (by decide) (show (ftN T e [(0, B 1 - 1, 4), (0, B 0 - 1, 4), (0, 99999, 2)] p).1 = 0 from hc)
    obtain ⟨v1, hc⟩ := two (by decide) hc
    obtain ⟨v2, hc⟩ := two (by decide) hc
    rw [adB_4]
    generalize nW T e p = a0 at v0
    generalize nW T e (tE T e p) = a1 at v1
    generalize nW T e (tE T e (tE T e p)) = a2 at v2
    have g : ∀ k, k < 49 → upI B (49 + 4 * a0 + a1) a2 k = B k := fun k k0 => upI_ne (by omega)
    refine fr_mk h ?_ ?_ ?_ ?_ ?_ (fun k k0 k1 => ?_) (fun s s0 s1 => ?_) (fun s s0 s1 => ?_) (fun l l0 l1 => ?_) (fun b b0 b1 => ?_) (fun l s l0 l1 s0 s1 => ?_)
    · rw [g 0 (by decide)]; omega
    · rw [g 1 (by decide)]; omega
    · rw [g 2 (by decide)]; omega
    · rw [g 3 (by decide)]; omega
    · rw [g 4 (by decide)]; omega
    · rw [g k (by omega)]
    · rw [g 0 (by decide)] at s1
      rw [g _ (by omega), g _ (by omega)]
      exact h.1.price s0 s1
    · rw [g _ (by omega)]
    · rw [g 1 (by decide)] at l1
      rw [g _ (by omega), g _ (by omega), g _ (by omega)]
      exact h.1.lend l0 l1
    · rw [g 2 (by decide)] at b1
      rw [g _ (by omega)]
      exact h.1.cred b0 b1
    · unfold upI
      split
      · omega
      · exact h.1.held l0 l1 s0 s1
theorem kw_bd {T : Int → Int} {e p : Int} : -1 ≤ kwA T e p ∧ kwA T e p ≤ 4 := by
  unfold kwA
  split
  · omega
  · split
    · omega
    · split
      · omega
      · split
        · omega
        · split <;> omega
theorem st_ok {T : Int → Int} {e p : Int} {B : St} {first : Bool} (hB : FrI B) (hp : 0 ≤ p ∧ p ≤ e) : (0 ≤ (stA T e first B p).1 ∧ (stA T e first B p).1 < 100) ∧ ((stA T e first B p).1 = 0 → (p < (stA T e first B p).2.1 ∧ (stA T e first B p).2.1 ≤ e) ∧ FrI (stA T e first B p).2.2) := by
  obtain ⟨h0, h1, h2, -⟩ := tE_bd (T := T) hp.2
  have hk := kw_bd (T := T) (e := e) (p := p)
  have fb := ftN_bd (T := T) (e := e) (spL B (kwA T e p)) (tE T e p) (by omega) spL_c
  unfold stA
  by_cases k1 : kwA T e p = -1
  · rw [if_pos k1]
    exact ⟨by show 0 ≤ (1 : Int) ∧ (1 : Int) < 100; decide, fun z => absurd z (show (1 : Int) ≠ 0 by decide)⟩
  · rw [if_neg k1]
    by_cases k3 : first ≠ decide (kwA T e p = 0)
    · rw [if_pos k3]
      exact ⟨by show 0 ≤ (3 : Int) ∧ (3 : Int) < 100; decide, fun z => absurd z (show (3 : Int) ≠ 0 by decide)⟩
    · rw [if_neg k3]
      by_cases k5 : flA B (kwA T e p) = true
      · rw [if_pos k5]
        exact ⟨by show 0 ≤ (5 : Int) ∧ (5 : Int) < 100; decide, fun z => absurd z (show (5 : Int) ≠ 0 by decide)⟩
      · rw [if_neg k5]
        by_cases k6 : (ftN T e (spL B (kwA T e p)) (tE T e p)).1 ≠ 0
        · rw [if_pos k6]
          exact ⟨fb.1, fun z => absurd z k6⟩
        · rw [if_neg k6]
          have k6 : (ftN T e (spL B (kwA T e p)) (tE T e p)).1 = 0 := Classical.byContradiction k6
          have hfr := ad_fr hB (by omega) k5 k6
          generalize (ftN T e (spL B (kwA T e p)) (tE T e p)).2 = q at fb
          obtain ⟨g0, g1, g2, -⟩ := tE_bd (T := T) (e := e) (p := q) (by omega)
          by_cases k7 : wdB T e q 29 = true
          · rw [if_neg (fun z => z k7)]
            have hl := (wdB_t.mp k7).1
            have hl : tE T e q - tF T e q = 1 := hl
            exact ⟨by show 0 ≤ (0 : Int) ∧ (0 : Int) < 100; decide, fun _ => ⟨⟨by show p < tE T e q; omega, g2⟩, hfr⟩⟩
          · rw [if_pos k7]
            exact ⟨by show 0 ≤ (1 : Int) ∧ (1 : Int) < 100; decide, fun z => absurd z (show (1 : Int) ≠ 0 by decide)⟩

