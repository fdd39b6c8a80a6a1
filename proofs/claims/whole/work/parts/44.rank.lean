/-- an injection of 0 .. n - 1 into itself meets every place -/
theorem pig : ∀ (n : Nat) (f : Int → Int), (∀ j : Int, 0 ≤ j → j < n → 0 ≤ f j ∧ f j < n) → (∀ i j : Int, 0 ≤ i → i < n → 0 ≤ j → j < n → f i = f j → i = j) → ∀ p : Int, 0 ≤ p → p < n → ∃ j : Int, 0 ≤ j ∧ j < n ∧ f j = p := by
  intro n
  induction n with
  | zero => intro f _ _ p h0 h1; omega
  | succ n ih =>
    intro f hr hi p h0 h1
    by_cases ha : ∃ a : Int, 0 ≤ a ∧ a < (n + 1 : Nat) ∧ f a = n
    · obtain ⟨a, a0, a1, a2⟩ := ha
      by_cases hp : p = n
      · exact ⟨a, a0, a1, by omega⟩
      · have key := ih (fun j => if j = a then f n else f j) (fun j q0 q1 => by
          have hv : ∀ x : Int, 0 ≤ x → x < (n + 1 : Nat) → x ≠ a → 0 ≤ f x ∧ f x < n := fun x x0 x1 xa => by
            have h2 := hr x x0 x1
            have h3 : f x ≠ n := fun e => xa (hi x a x0 x1 a0 a1 (by omega))
            omega
          show 0 ≤ (if j = a then f n else f j) ∧ (if j = a then f n else f j) < n
          by_cases hj : j = a
          · rw [if_pos hj]
            exact hv n (by omega) (by omega) (by omega)
          · rw [if_neg hj]
            exact hv j q0 (by omega) hj) (fun i j i0 i1 j0 j1 e => by
          have e : (if i = a then f n else f i) = (if j = a then f n else f j) := e
          by_cases hia : i = a
          · by_cases hja : j = a
            · omega
            · rw [if_pos hia, if_neg hja] at e
              have := hi n j (by omega) (by omega) j0 (by omega) e
              omega
          · by_cases hja : j = a
            · rw [if_neg hia, if_pos hja] at e
              have := hi i n i0 (by omega) (by omega) (by omega) e
              omega
            · rw [if_neg hia, if_neg hja] at e
              exact hi i j i0 (by omega) j0 (by omega) e) p h0 (by omega)
        obtain ⟨j, j0, j1, j2⟩ := key
        have j2 : (if j = a then f n else f j) = p := j2
        by_cases hj : j = a
        · rw [if_pos hj] at j2
          exact ⟨n, by omega, by omega, j2⟩
        · rw [if_neg hj] at j2
          exact ⟨j, j0, by omega, j2⟩
    · have hv : ∀ x : Int, 0 ≤ x → x < (n + 1 : Nat) → 0 ≤ f x ∧ f x < n := fun x x0 x1 => by
        have h2 := hr x x0 x1
        have h3 : f x ≠ n := fun e => ha ⟨x, x0, x1, e⟩
        omega
      have key := ih f (fun j q0 q1 => hv j q0 (by omega)) (fun i j i0 i1 j0 j1 e => hi i j i0 (by omega) j0 (by omega) e) (f n) (hv n (by omega) (by omega)).1 (hv n (by omega) (by omega)).2
      obtain ⟨j, j0, j1, j2⟩ := key
      have := hi j n j0 (by omega) (by omega) (by omega) j2
      omega
theorem ahead_iff {A : St} {l t s : Int} : aheadA A l t s = true ↔ (usedA A l s * max 1 (A (49 + 4 * t + s)) < usedA A t s * max 1 (A (49 + 4 * l + s)) ∨ (usedA A l s * max 1 (A (49 + 4 * t + s)) = usedA A t s * max 1 (A (49 + 4 * l + s)) ∧ l < t)) := by
  unfold aheadA
  exact decide_eq_true_iff
/-- fractions a / x, b / y, c / z in order -/
theorem frac_lt {a b c x y z : Int} (hx : 0 < x) (hy : 0 < y) (hz : 0 < z) (h1 : a * y ≤ b * x) (h2 : b * z ≤ c * y) : a * z ≤ c * x ∧ ((a * y < b * x ∨ b * z < c * y) → a * z < c * x) := by
  have e1 : a * y * z ≤ b * x * z := Int.mul_le_mul_of_nonneg_right h1 (by omega)
  have e2 : b * z * x ≤ c * y * x := Int.mul_le_mul_of_nonneg_right h2 (by omega)
  have r1 : a * z * y = a * y * z := by rw [Int.mul_assoc, Int.mul_comm z y, ← Int.mul_assoc]
  have r2 : b * x * z = b * z * x := by rw [Int.mul_assoc, Int.mul_comm x z, ← Int.mul_assoc]
  have r3 : c * y * x = c * x * y := by rw [Int.mul_assoc, Int.mul_comm y x, ← Int.mul_assoc]
  constructor
  · have : a * z * y ≤ c * x * y := by omega
    exact Int.le_of_mul_le_mul_right this hy
  · intro h
    have : a * z * y < c * x * y := by
      rcases h with h | h
      · have e3 : a * y * z < b * x * z := Int.mul_lt_mul_of_pos_right h hz
        omega
      · have e3 : b * z * x < c * y * x := Int.mul_lt_mul_of_pos_right h hx
        omega
    exact Int.lt_of_mul_lt_mul_right this (by omega)
theorem ahead_trans {A : St} {a b c s : Int} (h1 : aheadA A a b s = true) (h2 : aheadA A b c s = true) : aheadA A a c s = true := by
  rw [ahead_iff] at *
  have hx : 0 < max 1 (A (49 + 4 * a + s)) := by omega
  have hy : 0 < max 1 (A (49 + 4 * b + s)) := by omega
  have hz : 0 < max 1 (A (49 + 4 * c + s)) := by omega
  have k := frac_lt (a := usedA A a s) (b := usedA A b s) (c := usedA A c s) hx hy hz (by omega) (by omega)
  rcases h1 with h1 | h1
  · exact Or.inl (k.2 (Or.inl h1))
  · rcases h2 with h2 | h2
    · exact Or.inl (k.2 (Or.inr h2))
    · have k2 := frac_lt (a := usedA A c s) (b := usedA A b s) (c := usedA A a s) hz hy hx (by omega) (by omega)
      exact Or.inr ⟨by have := k.1; have := k2.1; omega, by omega⟩
theorem ahead_tot {A : St} {a b s : Int} (h : a ≠ b) : aheadA A a b s = true ∨ aheadA A b a s = true := by
  rw [ahead_iff, ahead_iff]
  omega
theorem ahead_asym {A : St} {a b s : Int} (h : aheadA A a b s = true) : ¬ aheadA A b a s = true := by
  rw [ahead_iff] at *
  omega
theorem sm_le {f g : Int → Int} {k : Int} (h : ∀ j, 0 ≤ j → j < k → f j ≤ g j) : sm f k ≤ sm g k := by
  have key : ∀ n : Nat, (∀ j : Int, 0 ≤ j → j < (n : Int) → f j ≤ g j) → smN f n ≤ smN g n := by
    intro n
    induction n with
    | zero => intro _; exact Int.le_refl _
    | succ n ih =>
      intro h
      have h1 := ih (fun j q0 q1 => h j q0 (by omega))
      have h2 := h n (by omega) (by omega)
      show smN f n + f n ≤ smN g n + g n
      omega
  exact key _ (fun j q0 q1 => h j q0 (by omega))
theorem sm_lt {f g : Int → Int} {k a : Int} (h : ∀ j, 0 ≤ j → j < k → f j ≤ g j) (a0 : 0 ≤ a) (a1 : a < k) (ha : f a < g a) : sm f k < sm g k := by
  have key : ∀ n : Nat, (∀ j : Int, 0 ≤ j → j < (n : Int) → f j ≤ g j) → a < n → smN f n < smN g n := by
    intro n
    induction n with
    | zero => intro _ h; omega
    | succ n ih =>
      intro h hn
      have h2 := h n (by omega) (by omega)
      show smN f n + f n < smN g n + g n
      by_cases e : a = n
      · have h1 := sm_le (f := f) (g := g) (k := n) (fun j q0 q1 => h j q0 (by omega))
        have e1 : sm f n = smN f n := by show smN f (n : Int).toNat = _; rw [Int.toNat_natCast]
        have e2 : sm g n = smN g n := by show smN g (n : Int).toNat = _; rw [Int.toNat_natCast]
        rw [e1, e2] at h1
        rw [e] at ha
        omega
      · have h1 := ih (fun j q0 q1 => h j q0 (by omega)) (by omega)
        omega
  exact key _ (fun j q0 q1 => h j q0 (by omega)) (by omega)
theorem cnt_lt {A : St} {a b s : Int} (a0 : 0 ≤ a) (a1 : a < A 1) (h : aheadA A a b s = true) : cntA A a s < cntA A b s := by
  refine sm_lt (fun j j0 j1 => ?_) a0 a1 ?_
  · by_cases q : j ≠ a ∧ aheadA A j a s = true
    · rw [bI_t q]
      have h2 := ahead_trans q.2 h
      have h3 : j ≠ b := fun e => by
        rw [e] at h2
        exact ahead_asym h2 h2
      rw [bI_t ⟨h3, h2⟩]
      exact Int.le_refl 1
    · rw [bI_f q]
      rcases bI_01 (j ≠ b ∧ aheadA A j b s = true) with e | e <;> omega
  · have h3 : a ≠ b := fun e => by
      rw [e] at h
      exact ahead_asym h h
    rw [bI_f (fun q => q.1 rfl), bI_t ⟨h3, h⟩]
    omega
theorem cnt_bd {A : St} {l s : Int} (l0 : 0 ≤ l) (l1 : l < A 1) : 0 ≤ cntA A l s ∧ cntA A l s < A 1 := by
  refine ⟨sm_nn (fun j _ _ => by rcases bI_01 (j ≠ l ∧ aheadA A j l s = true) with e | e <;> omega), ?_⟩
  have h := sm_lt (f := fun o => bI (o ≠ l ∧ aheadA A o l s = true)) (g := fun _ => 1) (k := A 1) (fun j _ _ => by
    show bI _ ≤ 1
    rcases bI_01 (j ≠ l ∧ aheadA A j l s = true) with e | e <;> omega) l0 l1 (by
    show bI _ < 1
    rw [bI_f (fun q => q.1 rfl)]
    omega)
  have h2 := sm_hi (f := fun _ => 1) (k := A 1) (hi := 1) (by omega) (fun _ _ _ => Int.le_refl 1)
  show sm _ _ < _
  omega
theorem rank_ok {A : St} {s p : Int} (hA : 0 ≤ A 1) (p0 : 0 ≤ p) (p1 : p < A 1) : (0 ≤ rankA A s p ∧ rankA A s p < A 1) ∧ cntA A (rankA A s p) s = p := by
  have hex := pig (A 1).toNat (fun l => cntA A l s) (fun j j0 j1 => by
    have := cnt_bd (A := A) (s := s) j0 (by omega : j < A 1)
    show 0 ≤ cntA A j s ∧ cntA A j s < _
    omega) (fun i j i0 i1 j0 j1 e => by
    have e : cntA A i s = cntA A j s := e
    rcases Classical.em (i = j) with q | q
    · exact q
    · rcases ahead_tot (A := A) (s := s) q with h | h
      · have := cnt_lt i0 (by omega) h
        omega
      · have := cnt_lt j0 (by omega) h
        omega) p p0 (by omega)
  obtain ⟨j, j0, j1, j2⟩ := hex
  have j2 : cntA A j s = p := j2
  rcases fst_spec (fun l => decide (cntA A l s = p)) (A 1) with ⟨h4, h5⟩ | ⟨h4, h5, h6, h7⟩
  · have := h5 j j0 (by omega)
    have : ¬ cntA A j s = p := by simpa using this
    exact absurd j2 this
  · exact ⟨⟨h4, h5⟩, of_decide_eq_true h6⟩
theorem rank_inj {A : St} {s p q : Int} (hA : 0 ≤ A 1) (p0 : 0 ≤ p) (p1 : p < A 1) (q0 : 0 ≤ q) (q1 : q < A 1) (e : rankA A s p = rankA A s q) : p = q := by
  rw [← (rank_ok (s := s) hA p0 p1).2, e, (rank_ok (s := s) hA q0 q1).2]
/-- the rank of a lender is the only place where it stands -/
theorem rank_of {A : St} {s l : Int} (l0 : 0 ≤ l) (l1 : l < A 1) : rankA A s (cntA A l s) = l := by
  refine fst_found l0 l1 (decide_eq_true rfl) (fun j j0 j1 => ?_)
  refine decide_eq_false (fun e => ?_)
  rcases ahead_tot (A := A) (s := s) (a := j) (b := l) (by omega) with h | h
  · have := cnt_lt j0 (by omega) h
    omega
  · have := cnt_lt l0 l1 h
    omega

