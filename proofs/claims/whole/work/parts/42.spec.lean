theorem mul_bd {a b M N : Int} (h0 : 0 ≤ a) (h1 : a ≤ M) (h2 : 0 ≤ b) (h3 : b ≤ N) : 0 ≤ a * b ∧ a * b ≤ M * N := ⟨Int.mul_nonneg h0 h2, Int.mul_le_mul h1 h3 h2 (by omega)⟩
theorem td_bd {a c : Int} (h0 : 0 ≤ a) (hc : 0 < c) : 0 ≤ a.tdiv c ∧ a.tdiv c ≤ a ∧ a.tdiv c * c ≤ a ∧ a < (a.tdiv c + 1) * c := by
  rw [Int.tdiv_eq_ediv_of_nonneg h0]
  have h1 := Int.ediv_nonneg h0 (by omega : 0 ≤ c)
  have h2 := Int.ediv_mul_le a (by omega : c ≠ 0)
  have h3 := Int.lt_ediv_add_one_mul_self a hc
  refine ⟨h1, ?_, h2, h3⟩
  have h4 : a / c * 1 ≤ a / c * c := Int.mul_le_mul_of_nonneg_left (by omega) h1
  omega
theorem bI_t {p : Prop} [Decidable p] (h : p) : bI p = 1 := if_pos h
theorem bI_f {p : Prop} [Decidable p] (h : ¬ p) : bI p = 0 := if_neg h
theorem bI_01 (p : Prop) [Decidable p] : bI p = 0 ∨ bI p = 1 := by
  by_cases h : p
  · exact Or.inr (bI_t h)
  · exact Or.inl (bI_f h)
theorem bI_iff {p q : Prop} [Decidable p] [Decidable q] (h : p ↔ q) : bI p = bI q := by
  by_cases hp : p
  · rw [bI_t hp, bI_t (h.mp hp)]
  · rw [bI_f hp, bI_f (fun x => hp (h.mpr x))]
/-- a loop over 0, 1 .. k - 1 -/
def itN {α : Type} (f : Int → α → α) (a : α) : Nat → α
  | 0 => a
  | n + 1 => f (n : Int) (itN f a n)
def itr {α : Type} (f : Int → α → α) (k : Int) (a : α) : α := itN f a k.toNat
theorem itr_0 {α : Type} (f : Int → α → α) (a : α) : itr f 0 a = a := rfl
theorem itr_s {α : Type} (f : Int → α → α) {k : Int} (h : 0 ≤ k) (a : α) : itr f (k + 1) a = f k (itr f k a) := by
  unfold itr
  rw [show (k + 1).toNat = k.toNat + 1 by omega]
  show f (k.toNat : Int) _ = _
  rw [Int.toNat_of_nonneg h]
theorem itr_ind {α : Type} {f : Int → α → α} {a : α} (I : Int → α → Prop) (h0 : I 0 a) {n : Int} (hn : 0 ≤ n) (hs : ∀ k x, 0 ≤ k → k < n → I k x → I (k + 1) (f k x)) : I n (itr f n a) := by
  have key : ∀ m : Nat, (m : Int) ≤ n → I m (itN f a m) := by
    intro m
    induction m with
    | zero => intro _; exact h0
    | succ m ih =>
      intro h
      exact hs m _ (by omega) (by omega) (ih (by omega))
  have := key n.toNat (by omega)
  rw [Int.toNat_of_nonneg hn] at this
  exact this
theorem itr_congr {α : Type} {f g : Int → α → α} {a : α} {n : Int} (h : ∀ k x, 0 ≤ k → k < n → f k x = g k x) : itr f n a = itr g n a := by
  have key : ∀ m : Nat, (m : Int) ≤ n → itN f a m = itN g a m := by
    intro m
    induction m with
    | zero => intro _; rfl
    | succ m ih =>
      intro hm
      show f m _ = g m _
      rw [ih (by omega), h m _ (by omega) (by omega)]
  rcases Int.le_total 0 n with h1 | h1
  · exact key n.toNat (by omega)
  · unfold itr
    rw [show n.toNat = 0 by omega]
    rfl
/-- the least k in 0 .. n - 1 with p, or -1 -/
def fsN (p : Int → Bool) : Nat → Int → Int
  | 0, _ => -1
  | n + 1, k => if p k then k else fsN p n (k + 1)
def fst (p : Int → Bool) (n : Int) : Int := fsN p n.toNat 0
theorem fsN_spec (p : Int → Bool) : ∀ (n : Nat) (k : Int), (fsN p n k = -1 ∧ ∀ j, k ≤ j → j < k + n → p j = false) ∨ (k ≤ fsN p n k ∧ fsN p n k < k + n ∧ p (fsN p n k) = true ∧ ∀ j, k ≤ j → j < fsN p n k → p j = false) := by
  intro n
  induction n with
  | zero => intro k; exact Or.inl ⟨rfl, fun j h1 h2 => by omega⟩
  | succ n ih =>
    intro k
    show ((if p k then k else fsN p n (k + 1)) = -1 ∧ _) ∨ _
    by_cases h : p k = true
    · rw [if_pos h]
      exact Or.inr ⟨by show k ≤ (if _ then _ else _); rw [if_pos h]; omega, by show (if _ then _ else _) < _; rw [if_pos h]; omega, by show p (if _ then _ else _) = true; rw [if_pos h]; exact h, fun j h1 h2 => by
        have : j < (if p k then k else fsN p n (k + 1)) := h2
        rw [if_pos h] at this
        omega⟩
    · have hf : p k = false := by simpa using h
      have e : fsN p (n + 1) k = fsN p n (k + 1) := by show (if _ then _ else _) = _; rw [if_neg h]
      rw [if_neg h]
      rcases ih (k + 1) with ⟨h1, h2⟩ | ⟨h1, h2, h3, h4⟩
      · exact Or.inl ⟨h1, fun j q1 q2 => by
          by_cases q : j = k
          · rw [q]; exact hf
          · exact h2 j (by omega) (by omega)⟩
      · refine Or.inr ?_
        rw [e]
        exact ⟨by omega, by omega, h3, fun j q1 q2 => by
          by_cases q : j = k
          · rw [q]; exact hf
          · exact h4 j (by omega) (by omega)⟩
theorem fst_spec (p : Int → Bool) (n : Int) : (fst p n = -1 ∧ ∀ j, 0 ≤ j → j < n → p j = false) ∨ (0 ≤ fst p n ∧ fst p n < n ∧ p (fst p n) = true ∧ ∀ j, 0 ≤ j → j < fst p n → p j = false) := by
  rcases fsN_spec p n.toNat 0 with ⟨h1, h2⟩ | ⟨h1, h2, h3, h4⟩
  · exact Or.inl ⟨h1, fun j q1 q2 => h2 j q1 (by omega)⟩
  · have h2 : fst p n < 0 + (n.toNat : Int) := h2
    exact Or.inr ⟨h1, by show fst p n < n; omega, h3, h4⟩
theorem fst_found {p : Int → Bool} {n k : Int} (h0 : 0 ≤ k) (h1 : k < n) (h2 : p k = true) (h3 : ∀ j, 0 ≤ j → j < k → p j = false) : fst p n = k := by
  rcases fst_spec p n with ⟨h4, h5⟩ | ⟨h4, h5, h6, h7⟩
  · have := h5 k h0 h1; rw [h2] at this; cases this
  · rcases Int.lt_trichotomy (fst p n) k with q | q | q
    · have := h3 _ h4 q; rw [h6] at this; cases this
    · exact q
    · have := h7 k h0 q; rw [h2] at this; cases this
theorem fst_none {p : Int → Bool} {n : Int} (h : ∀ j, 0 ≤ j → j < n → p j = false) : fst p n = -1 := by
  rcases fst_spec p n with ⟨h4, h5⟩ | ⟨h4, h5, h6, h7⟩
  · exact h4
  · have := h _ h4 h5; rw [h6] at this; cases this
def freeA (A : St) (l s : Int) : Int := max 0 ((A (49 + 4 * l + s) * A (33 + l)).tdiv 100 - lentA A l s)
def freeB (A : St) (but s : Int) : Int := sm (fun l => if l = but then 0 else freeA A l s) (A 1)
def expoA (A : St) (b : Int) : Int := sm (fun k => if A (83 + 23 * k + 1) = b then quanA A k * A (15 + A (83 + 23 * k + 2)) else 0) (A 7)
def usedA (A : St) (l s : Int) : Int := if A (49 + 4 * l + s) = 0 then 0 else lentA A l s
def aheadA (A : St) (l t s : Int) : Bool := decide (usedA A l s * max 1 (A (49 + 4 * t + s)) < usedA A t s * max 1 (A (49 + 4 * l + s)) ∨ (usedA A l s * max 1 (A (49 + 4 * t + s)) = usedA A t s * max 1 (A (49 + 4 * l + s)) ∧ l < t))
def cntA (A : St) (l s : Int) : Int := sm (fun o => bI (o ≠ l ∧ aheadA A o l s = true)) (A 1)
def rankA (A : St) (s p : Int) : Int := fst (fun l => decide (cntA A l s = p)) (A 1)
def placeA (A : St) (n : Int) : Int := fst (fun k => decide (A (83 + 23 * k + 0) = n)) (A 7)
def recbA (A : St) (l s : Int) : Int := sm (fun k => if A (83 + 23 * k + 2) = s then A (83 + 23 * k + 5 + l) - A (83 + 23 * k + 11 + l) else 0) (A 7)
theorem sm_nn {f : Int → Int} {k : Int} (h : ∀ j, 0 ≤ j → j < k → 0 ≤ f j) : 0 ≤ sm f k := by
  rcases Int.le_total 0 k with h0 | h0
  · have key : ∀ n : Nat, (∀ j : Int, 0 ≤ j → j < (n : Int) → 0 ≤ f j) → 0 ≤ smN f n := by
      intro n
      induction n with
      | zero => intro _; exact Int.le_refl 0
      | succ n ih =>
        intro h
        have h1 := ih (fun j q1 q2 => h j q1 (by omega))
        have h2 := h n (by omega) (by omega)
        show 0 ≤ smN f n + f n
        omega
    exact key _ (fun j q1 q2 => h j q1 (by omega))
  · rw [sm_neg f h0]
    exact Int.le_refl 0
theorem sm_hi {f : Int → Int} {k hi : Int} (h0 : 0 ≤ k) (h : ∀ j, 0 ≤ j → j < k → f j ≤ hi) : sm f k ≤ k * hi := by
  have key : ∀ n : Nat, (∀ j : Int, 0 ≤ j → j < (n : Int) → f j ≤ hi) → smN f n ≤ (n : Int) * hi := by
    intro n
    induction n with
    | zero => intro _; simp [smN]
    | succ n ih =>
      intro h
      have h1 := ih (fun j h1 h2 => h j h1 (by omega))
      have h2 := h n (by omega) (by omega)
      show smN f n + f n ≤ _
      rw [show ((n + 1 : Nat) : Int) * hi = (n : Int) * hi + hi by rw [Int.natCast_add, Int.add_mul]; simp]
      omega
  have := key k.toNat (fun j h1 h2 => h j h1 (by omega))
  rw [Int.toNat_of_nonneg h0] at this
  exact this
section Bd
variable {D : Int} {A : St}
theorem lent_bd (h : Inv D A) {l s : Int} (h0 : 0 ≤ l) (h1 : l < 6) (h2 : 0 ≤ s) (h3 : s < 4) : 0 ≤ lentA A l s ∧ lentA A l s ≤ 99999 := by
  have q1 := h.lent h0 h1 h2 h3
  have q2 := h.held h0 h1 h2 h3
  refine ⟨sm_nn (fun j g1 g2 => ?_), by omega⟩
  have := ((h.loan g1 g2).sl h0 h1).1
  split <;> omega
theorem quan_bd (h : Inv D A) {k : Int} (h0 : 0 ≤ k) (h1 : k < A 7) : 0 < quanA A k ∧ quanA A k ≤ 599994 := by
  have hn := h.n
  refine ⟨h.quan h0 h1, ?_⟩
  have := sm_hi (f := fun l => A (83 + 23 * k + 5 + l)) (k := A 1) (hi := 99999) (by omega) (fun j g1 g2 => ((h.loan h0 h1).sl g1 (by omega)).1.2.2)
  show sm _ _ ≤ _
  omega
theorem free_bd (h : Inv D A) {l s : Int} (h0 : 0 ≤ l) (h1 : l < A 1) (h2 : 0 ≤ s) (h3 : s < 4) : (0 ≤ freeA A l s ∧ freeA A l s ≤ 99999) ∧ (0 ≤ A (49 + 4 * l + s) * A (33 + l) ∧ A (49 + 4 * l + s) * A (33 + l) ≤ 9999900) ∧ (0 ≤ (A (49 + 4 * l + s) * A (33 + l)).tdiv 100 ∧ (A (49 + 4 * l + s) * A (33 + l)).tdiv 100 ≤ 99999) := by
  have hn := h.n
  have q1 := lent_bd h h0 (by omega) h2 h3
  have q2 := h.held h0 (by omega) h2 h3
  have q3 := (h.lend h0 h1).2.1
  have q4 := mul_bd q2.1 q2.2 q3.1 q3.2
  have q5 := td_bd (c := 100) q4.1 (by decide)
  unfold freeA
  omega
theorem freeB_bd (h : Inv D A) {but s : Int} (h2 : 0 ≤ s) (h3 : s < 4) : 0 ≤ freeB A but s ∧ freeB A but s ≤ 599994 := by
  have hn := h.n
  refine ⟨sm_nn (fun j g1 g2 => ?_), ?_⟩
  · have := (free_bd h g1 g2 h2 h3).1
    split <;> omega
  · have := sm_hi (f := fun l => if l = but then 0 else freeA A l s) (k := A 1) (hi := 99999) (by omega) (fun j g1 g2 => by
      have := (free_bd h g1 g2 h2 h3).1
      split <;> omega)
    show sm _ _ ≤ _
    omega
theorem expo_bd (h : Inv D A) (b : Int) : 0 ≤ expoA A b ∧ expoA A b ≤ 12 * (599994 * 9999) := by
  have hn := h.n
  have key : ∀ j, 0 ≤ j → j < A 7 → 0 ≤ quanA A j * A (15 + A (83 + 23 * j + 2)) ∧ quanA A j * A (15 + A (83 + 23 * j + 2)) ≤ 599994 * 9999 := fun j g1 g2 => by
    have q1 := quan_bd h g1 g2
    obtain ⟨-, -, q2, -⟩ := h.loan g1 g2
    have q3 := (h.price q2.1 q2.2).1
    exact mul_bd (by omega) q1.2 (by omega) q3.2
  refine ⟨sm_nn (fun j g1 g2 => ?_), ?_⟩
  · have := key j g1 g2
    split <;> omega
  · have := sm_hi (f := fun k => if A (83 + 23 * k + 1) = b then quanA A k * A (15 + A (83 + 23 * k + 2)) else 0) (k := A 7) (hi := 599994 * 9999) (by omega) (fun j g1 g2 => by
      have := key j g1 g2
      split <;> omega)
    show sm _ _ ≤ _
    omega
end Bd

