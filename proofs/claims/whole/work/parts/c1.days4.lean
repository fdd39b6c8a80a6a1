/-- C is B with some empty loans left out -/
def Cls (B C : St) : Prop := (∀ j, 0 ≤ j → j < 83 → j ≠ 7 → C j = B j) ∧ (0 ≤ C 7 ∧ C 7 ≤ B 7) ∧ ∃ p : Int → Int, (∀ x, 0 ≤ x → x < C 7 → (0 ≤ p x ∧ p x < B 7) ∧ ∀ c, 0 ≤ c → c < 23 → C (83 + 23 * x + c) = B (83 + 23 * p x + c)) ∧ (∀ x y, 0 ≤ x → x < y → y < C 7 → p x < p y) ∧ ∀ F : Int → Int, (∀ k, 0 ≤ k → k < B 7 → quanA B k = 0 → F k = 0) → sm (fun x => F (p x)) (C 7) = sm F (B 7)
theorem Cls.refl {B : St} (h : 0 ≤ B 7) : Cls B B := ⟨fun _ _ _ _ => rfl, ⟨h, Int.le_refl _⟩, fun x => x, fun x x0 x1 => ⟨⟨x0, x1⟩, fun _ _ _ => rfl⟩, fun x y _ h _ => h, fun F _ => rfl⟩
theorem quan_at {B C : St} {x y : Int} (h1 : C 1 = B 1) (h6 : B 1 ≤ 6) (h : ∀ c, 0 ≤ c → c < 23 → C (83 + 23 * x + c) = B (83 + 23 * y + c)) : quanA C x = quanA B y := by
  unfold quanA
  rw [h1]
  refine sm_congr (fun l l0 l1 => ?_)
  show C (83 + 23 * x + 5 + l) = B (83 + 23 * y + 5 + l)
  rw [Int.add_assoc (83 + 23 * x) 5 l, Int.add_assoc (83 + 23 * y) 5 l]
  exact h (5 + l) (by omega) (by omega)
theorem Cls.close {B C : St} (h : Cls B C) (h6 : B 1 ≤ 6) (hnn : ∀ k, 0 ≤ k → k < C 7 → 0 ≤ quanA C k) : Cls B (closeA C) ∧ ∀ k, 0 ≤ k → k < closeA C 7 → 0 < quanA (closeA C) k := by
  obtain ⟨hj, h7, p, hp, hmo, hsu⟩ := h
  have ho := cl_out (A := C) (k := C 7) h7.1
  obtain ⟨q, hq, hqm, hqs⟩ := cl_map (k := C 7) hnn h7.1 (Int.le_refl _)
  have c0 : ∀ j, 0 ≤ j → j < 83 → j ≠ 7 → closeA C j = C j := fun j _ h1 h2 => by
    unfold closeA
    rw [upI_ne h2]
    exact ho.2 j (Or.inl h1)
  have c7 : closeA C 7 = (clX C (C 7)).2 := upI_eq
  have cl : ∀ i c, 0 ≤ i → i < (clX C (C 7)).2 → 0 ≤ c → c < 23 → closeA C (83 + 23 * i + c) = C (83 + 23 * q i + c) := fun i c i0 i1 z0 z1 => by
    unfold closeA
    rw [upI_ne (by omega)]
    exact (hq i i0 i1).2.2 c z0 z1
  have e1 : C 1 = B 1 := hj 1 (by decide) (by decide) (by decide)
  refine ⟨⟨fun j a b c => (c0 j a b c).trans (hj j a b c), by rw [c7]; omega, fun x => p (q x), fun x x0 x1 => ?_, fun x y x0 xy y1 => ?_, fun F hF => ?_⟩, fun k k0 k1 => ?_⟩
  · rw [c7] at x1
    have a := (hq x x0 x1).1
    have b := hp (q x) (by omega) (by omega)
    exact ⟨b.1, fun c c0 c1 => (cl x c x0 x1 c0 c1).trans (b.2 c c0 c1)⟩
  · rw [c7] at y1
    have a := (hq x x0 (by omega)).1
    have b := (hq y (by omega) y1).1
    exact hmo (q x) (q y) (by omega) (hqm x y x0 xy y1) (by omega)
  · rw [c7]
    have t := hqs (fun x => F (p x)) (fun x x0 x1 hx => by
      have b := hp x x0 x1
      refine hF (p x) b.1.1 b.1.2 ?_
      rw [← quan_at e1 h6 b.2]
      exact hx)
    exact t.trans (hsu F hF)
  · rw [c7] at k1
    have a := hq k k0 k1
    have e : quanA (closeA C) k = quanA C (q k) := quan_at (c0 1 (by decide) (by decide) (by decide)) (by omega) (fun c z0 z1 => cl k c k0 k1 z0 z1)
    rw [e]
    exact a.2.1
/-- how many places are mapped to k or below -/
theorem cnt {r : Int → Int} {m K : Int} (m0 : 0 ≤ m) (hm : ∀ x y, 0 ≤ x → x < y → y < m → r x < r y) : (0 ≤ sm (fun x => bI (r x ≤ K)) m ∧ sm (fun x => bI (r x ≤ K)) m ≤ m) ∧ ∀ x, 0 ≤ x → x < m → (r x ≤ K ↔ x < sm (fun x => bI (r x ≤ K)) m) := by
  have key : ∀ n : Nat, (n : Int) ≤ m → (0 ≤ sm (fun x => bI (r x ≤ K)) n ∧ sm (fun x => bI (r x ≤ K)) n ≤ n) ∧ ∀ x, 0 ≤ x → x < (n : Int) → (r x ≤ K ↔ x < sm (fun x => bI (r x ≤ K)) n) := by
    intro n
    induction n with
    | zero =>
      intro _
      refine ⟨by rw [show ((0 : Nat) : Int) = 0 from rfl, sm_neg _ (Int.le_refl 0)]; omega, fun x x0 x1 => by omega⟩
    | succ n ih =>
      intro hn
      have ih := ih (by omega)
      rw [show ((n + 1 : Nat) : Int) = (n : Int) + 1 by omega, sm_s _ (by omega)]
      by_cases z : r n ≤ K
      · have all : sm (fun x => bI (r x ≤ K)) n = n := by
          rcases lt_ge 0 (n : Int) with w | w
          · have t := (ih.2 (n - 1) (by omega) (by omega)).1 (by have := hm (n - 1) n (by omega) (by omega) (by omega); omega)
            omega
          · have := ih.1
            omega
        rw [all, bI_t z]
        refine ⟨by omega, fun x x0 x1 => ⟨fun _ => x1, fun _ => ?_⟩⟩
        by_cases e : x = n
        · rw [e]
          exact z
        · have := hm x n x0 (by omega) (by omega)
          omega
      · rw [bI_f z, Int.add_zero]
        refine ⟨by omega, fun x x0 x1 => ?_⟩
        by_cases e : x = n
        · rw [e]
          exact ⟨fun w => absurd w z, fun w => by omega⟩
        · exact ih.2 x x0 (by omega)
  have t := key m.toNat (by omega)
  rw [show ((m.toNat : Nat) : Int) = m by omega] at t
  exact t
theorem map_le {B : St} {p q : Int → Int} {m m' N : Int} (m0 : 0 ≤ m) (m0' : 0 ≤ m') (hp : ∀ x, 0 ≤ x → x < m → 0 < quanA B (p x)) (hq : ∀ x, 0 ≤ x → x < m' → 0 < quanA B (q x)) (hpm : ∀ x y, 0 ≤ x → x < y → y < m → p x < p y) (hqm : ∀ x y, 0 ≤ x → x < y → y < m' → q x < q y) (hps : ∀ F : Int → Int, (∀ k, 0 ≤ k → k < N → quanA B k = 0 → F k = 0) → sm (fun x => F (p x)) m = sm F N) (hqs : ∀ F : Int → Int, (∀ k, 0 ≤ k → k < N → quanA B k = 0 → F k = 0) → sm (fun x => F (q x)) m' = sm F N) {x : Int} (x0 : 0 ≤ x) (x1 : x < m) : x < m' ∧ q x ≤ p x := by
  have h1 := hps (fun k => bI (0 < quanA B k ∧ k ≤ p x)) (fun k k0 k1 hk => bI_f (by omega))
  have h2 := hqs (fun k => bI (0 < quanA B k ∧ k ≤ p x)) (fun k k0 k1 hk => bI_f (by omega))
  have e1 : sm (fun y => bI (0 < quanA B (p y) ∧ p y ≤ p x)) m = sm (fun y => bI (p y ≤ p x)) m := sm_congr (fun y y0 y1 => bI_iff ⟨fun w => w.2, fun w => ⟨hp y y0 y1, w⟩⟩)
  have e2 : sm (fun y => bI (0 < quanA B (q y) ∧ q y ≤ p x)) m' = sm (fun y => bI (q y ≤ p x)) m' := sm_congr (fun y y0 y1 => bI_iff ⟨fun w => w.2, fun w => ⟨hq y y0 y1, w⟩⟩)
  have h1 : sm (fun y => bI (0 < quanA B (p y) ∧ p y ≤ p x)) m = _ := h1
  have h2 : sm (fun y => bI (0 < quanA B (q y) ∧ q y ≤ p x)) m' = _ := h2
  rw [e1] at h1
  rw [e2] at h2
  have c1 := cnt (r := p) (m := m) (K := p x) m0 hpm
  have c2 := cnt (r := q) (m := m') (K := p x) m0' hqm
  have a := (c1.2 x x0 x1).1 (Int.le_refl _)
  have b : x < sm (fun y => bI (q y ≤ p x)) m' := by omega
  exact ⟨by omega, (c2.2 x x0 (by omega)).2 b⟩
/-- there is one state without empty loans -/
theorem Cls.uniq {B C C' : St} (h : Cls B C) (h' : Cls B C') (h6 : B 1 ≤ 6) (hp : ∀ k, 0 ≤ k → k < C 7 → 0 < quanA C k) (hp' : ∀ k, 0 ≤ k → k < C' 7 → 0 < quanA C' k) : (∀ j, 0 ≤ j → j < 83 → C' j = C j) ∧ ∀ x c, 0 ≤ x → x < C 7 → 0 ≤ c → c < 23 → C' (83 + 23 * x + c) = C (83 + 23 * x + c) := by
  obtain ⟨aj, a7, p, ap, am, as⟩ := h
  obtain ⟨bj, b7, q, bp, bm, bs⟩ := h'
  have e1 := aj 1 (by decide) (by decide) (by decide)
  have e1' := bj 1 (by decide) (by decide) (by decide)
  have hP : ∀ x, 0 ≤ x → x < C 7 → 0 < quanA B (p x) := fun x x0 x1 => by
    rw [← quan_at e1 h6 (ap x x0 x1).2]
    exact hp x x0 x1
  have hQ : ∀ x, 0 ≤ x → x < C' 7 → 0 < quanA B (q x) := fun x x0 x1 => by
    rw [← quan_at e1' h6 (bp x x0 x1).2]
    exact hp' x x0 x1
  have l1 : ∀ x, 0 ≤ x → x < C 7 → x < C' 7 ∧ q x ≤ p x := fun x x0 x1 => map_le (N := B 7) a7.1 b7.1 hP hQ am bm as bs x0 x1
  have l2 : ∀ x, 0 ≤ x → x < C' 7 → x < C 7 ∧ p x ≤ q x := fun x x0 x1 => map_le (N := B 7) b7.1 a7.1 hQ hP bm am bs as x0 x1
  have e7 : C' 7 = C 7 := by
    rcases lt_ge (C 7) (C' 7) with z | z
    · have := (l2 (C 7) a7.1 z).1
      omega
    · rcases lt_ge (C' 7) (C 7) with y | y
      · have := (l1 (C' 7) b7.1 y).1
        omega
      · omega
  refine ⟨fun j j0 j1 => ?_, fun x c x0 x1 c0 c1 => ?_⟩
  · by_cases z : j = 7
    · rw [z]
      exact e7
    · rw [aj j j0 j1 z, bj j j0 j1 z]
  · have u := (l1 x x0 x1).2
    have w := (l2 x x0 (by omega)).2
    rw [(ap x x0 x1).2 c c0 c1, (bp x x0 (by omega)).2 c c0 c1, show q x = p x by omega]

