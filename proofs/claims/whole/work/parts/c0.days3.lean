theorem sm_one {f : Int → Int} {n b : Int} (h0 : 0 ≤ b) (h1 : b < n) (h : ∀ j, 0 ≤ j → j < n → j ≠ b → f j = 0) : sm f n = f b := by
  rw [sm_congr (g := fun j => if j = b then f b else (fun _ => 0) j) (fun j j0 j1 => by
    by_cases e : j = b
    · rw [if_pos e, e]
    · rw [if_neg e]
      exact h j j0 j1 e), sm_if (f := fun _ => 0) h0 h1, sm_zero (f := fun _ => 0) (fun _ _ _ => rfl)]
  omega
section Dl
variable {A B : St} {k l n j v : Int}
/-- the slice is bought in within n days -/
abbrev bCd (A : St) (k l n : Int) : Prop := 0 < A (83 + 23 * k + 11 + l) ∧ A (83 + 23 * k + 17 + l) + 1 - A 6 ≤ n
/-- what n days add for one slice -/
def dlt (A : St) (k l n j : Int) : Int := if bCd A k l n then pD A k l (A (83 + 23 * k + 5 + l)) (A (83 + 23 * k + 17 + l) + 1 - A 6) j + bD A k l j + pD A k l (A (83 + 23 * k + 5 + l) - A (83 + 23 * k + 11 + l)) (n - (A (83 + 23 * k + 17 + l) + 1 - A 6)) j else pD A k l (A (83 + 23 * k + 5 + l)) n j
def UU (A : St) (n : Int) : St := fun j => A j + sm (fun k => sm (fun l => dlt A k l n j) (A 1)) (A 7) + (if j = 6 then n else 0)
theorem pD_add {m : Int} : pD A k l v n j + pD A k l v m j = pD A k l v (n + m) j := by
  unfold pD
  split
  · rw [Int.mul_add]
    omega
  · split
    · rw [Int.mul_add]
    · split
      · rw [Int.mul_add]
      · split
        · rw [Int.mul_add]
        · rfl
theorem pD_n0 : pD A k l v 0 j = 0 := by
  unfold pD
  simp only [Int.mul_zero]
  split
  · rfl
  · split
    · rfl
    · split
      · rfl
      · split <;> rfl
theorem bD_0 (h : j ≠ 79 + A (83 + 23 * k + 1)) (h2 : j ≠ 14) (h3 : j ≠ 10) (h4 : j ≠ 83 + 23 * k + 5 + l) (h5 : j ≠ 83 + 23 * k + 11 + l) (h6 : j ≠ 83 + 23 * k + 17 + l) : bD A k l j = 0 := by
  unfold bD
  rw [if_neg h, if_neg h2, if_neg h3, if_neg h4, if_neg h5, if_neg h6]
theorem bD_c (hk : 0 ≤ k) (hb : 0 ≤ A (83 + 23 * k + 1) ∧ A (83 + 23 * k + 1) < 4) (hl : 0 ≤ l ∧ l < 6) : bD A k l (83 + 23 * k + 5 + l) = -A (83 + 23 * k + 11 + l) ∧ bD A k l (83 + 23 * k + 11 + l) = -A (83 + 23 * k + 11 + l) ∧ bD A k l (83 + 23 * k + 17 + l) = -1 - A (83 + 23 * k + 17 + l) := by
  refine ⟨?_, ?_, ?_⟩
  · unfold bD
    rw [if_neg (by omega), if_neg (by omega), if_neg (by omega), if_pos rfl]
  · unfold bD
    rw [if_neg (by omega), if_neg (by omega), if_neg (by omega), if_neg (by omega), if_pos rfl]
  · unfold bD
    rw [if_neg (by omega), if_neg (by omega), if_neg (by omega), if_neg (by omega), if_neg (by omega), if_pos rfl]
theorem dlt_0 (hb : 0 ≤ A (83 + 23 * k + 1) ∧ A (83 + 23 * k + 1) < 4) (hl : 0 ≤ l ∧ l < 6) (h1 : ¬ (9 ≤ j ∧ j < 15)) (h2 : ¬ (73 ≤ j ∧ j < 83)) (h4 : j ≠ 83 + 23 * k + 5 + l) (h5 : j ≠ 83 + 23 * k + 11 + l) (h6 : j ≠ 83 + 23 * k + 17 + l) : dlt A k l n j = 0 := by
  have p0 : ∀ v n, pD A k l v n j = 0 := fun v n => pD_0 (by omega) (by omega) (by omega) (by omega)
  unfold dlt
  rw [p0, p0, p0, bD_0 (by omega) (by omega) (by omega) h4 h5 h6]
  split <;> rfl
theorem dlt_c (hk : 0 ≤ k) (hb : 0 ≤ A (83 + 23 * k + 1) ∧ A (83 + 23 * k + 1) < 4) (hl : 0 ≤ l ∧ l < 6) : dlt A k l n (83 + 23 * k + 5 + l) = (if bCd A k l n then -A (83 + 23 * k + 11 + l) else 0) ∧ dlt A k l n (83 + 23 * k + 11 + l) = (if bCd A k l n then -A (83 + 23 * k + 11 + l) else 0) ∧ dlt A k l n (83 + 23 * k + 17 + l) = (if bCd A k l n then -1 - A (83 + 23 * k + 17 + l) else 0) := by
  have p0 : ∀ v n j, 83 ≤ j → pD A k l v n j = 0 := fun v n j hj => pD_0 (by omega) (by omega) (by omega) (by omega)
  have c := bD_c hk hb hl
  refine ⟨?_, ?_, ?_⟩
  · unfold dlt
    rw [p0 _ _ _ (by omega), p0 _ _ _ (by omega), p0 _ _ _ (by omega), c.1]
    split <;> omega
  · unfold dlt
    rw [p0 _ _ _ (by omega), p0 _ _ _ (by omega), p0 _ _ _ (by omega), c.2.1]
    split <;> omega
  · unfold dlt
    rw [p0 _ _ _ (by omega), p0 _ _ _ (by omega), p0 _ _ _ (by omega), c.2.2]
    split <;> omega
end Dl
section Us
variable {A : St} {n : Int}
theorem U_j (hA : DyI A) {j : Int} (h6 : j ≠ 6) (h1 : ¬ (9 ≤ j ∧ j < 15)) (h2 : ¬ (73 ≤ j ∧ j < 83)) (h3 : ∀ k l, 0 ≤ k → k < A 7 → 0 ≤ l → l < A 1 → j ≠ 83 + 23 * k + 5 + l ∧ j ≠ 83 + 23 * k + 11 + l ∧ j ≠ 83 + 23 * k + 17 + l) : UU A n j = A j := by
  obtain ⟨a1, a7, al⟩ := hA
  unfold UU
  rw [if_neg h6, sm_zero (fun k k0 k1 => sm_zero (fun l l0 l1 => by
    have := h3 k l k0 k1 l0 l1
    exact dlt_0 (al k k0 k1).1 (by omega) h1 h2 this.1 this.2.1 this.2.2))]
  omega
theorem U_sta (hA : DyI A) : Sta A (UU A n) := ⟨fun j a b c d => U_j hA c d (by omega) (fun k l _ _ _ _ => by omega), fun k c a b d => U_j hA (by omega) (by omega) (by omega) (fun k' l _ _ _ _ => by
  have := hA.1
  omega)⟩
theorem U_6 (hA : DyI A) : UU A n 6 = A 6 + n := by
  obtain ⟨a1, a7, al⟩ := hA
  unfold UU
  rw [if_pos rfl, sm_zero (fun k k0 k1 => sm_zero (fun l l0 l1 => dlt_0 (al k k0 k1).1 (by omega) (by omega) (by omega) (by omega) (by omega) (by omega)))]
  omega
theorem U_one (hA : DyI A) {k l j : Int} (hk : 0 ≤ k ∧ k < A 7) (hl : 0 ≤ l ∧ l < A 1) (hj : j = 83 + 23 * k + 5 + l ∨ j = 83 + 23 * k + 11 + l ∨ j = 83 + 23 * k + 17 + l) : UU A n j = A j + dlt A k l n j := by
  obtain ⟨a1, a7, al⟩ := hA
  unfold UU
  rw [if_neg (by omega), sm_one (b := k) hk.1 hk.2 (fun k' k0 k1 hne => sm_zero (fun l' l0 l1 => dlt_0 (al k' k0 k1).1 (by omega) (by omega) (by omega) (by omega) (by omega) (by omega))), sm_one (b := l) hl.1 hl.2 (fun l' l0 l1 hne => dlt_0 (al k hk.1 hk.2).1 (by omega) (by omega) (by omega) (by omega) (by omega) (by omega))]
  omega
/-- one slice, one more day -/
theorem dlt_s {k l j : Int} (hA : DyI A) (n0 : 0 ≤ n) (hk : 0 ≤ k ∧ k < A 7) (hl : 0 ≤ l ∧ l < A 1) (hr : 0 ≤ A (83 + 23 * k + 11 + l)) : dlt A k l n j + (pD (UU A n) k l (UU A n (83 + 23 * k + 5 + l)) 1 j + bE (UU A n) k l (UU A n 6 + 1) j) = dlt A k l (n + 1) j := by
  have st := U_sta (n := n) hA
  have h6 := U_6 (n := n) hA
  have hb := hA.2.2 k hk.1 hk.2
  have h1 := hA.1
  have c := dlt_c (n := n) hk.1 hb.1 (l := l) (by omega)
  have u5 := U_one (n := n) hA hk hl (Or.inl rfl)
  have u11 := U_one (n := n) hA hk hl (Or.inr (Or.inl rfl))
  have u17 := U_one (n := n) hA hk hl (Or.inr (Or.inr rfl))
  rw [c.1] at u5
  rw [c.2.1] at u11
  rw [c.2.2] at u17
  rw [pD_con st hk.1 hb.2 (by omega), h6]
  by_cases z : bCd A k l n
  · rw [if_pos z] at u5 u11 u17
    have z2 : bCd A k l (n + 1) := ⟨z.1, by have := z.2; omega⟩
    have e0 : bE (UU A n) k l (A 6 + n + 1) j = 0 := by
      unfold bE
      rw [if_pos (Or.inl (by omega))]
    rw [e0, u5]
    unfold dlt
    rw [if_pos z, if_pos z2, show A (83 + 23 * k + 5 + l) + -A (83 + 23 * k + 11 + l) = A (83 + 23 * k + 5 + l) - A (83 + 23 * k + 11 + l) by omega, show n + 1 - (A (83 + 23 * k + 17 + l) + 1 - A 6) = n - (A (83 + 23 * k + 17 + l) + 1 - A 6) + 1 by omega, ← pD_add (m := 1)]
    omega
  · rw [if_neg z, Int.add_zero] at u5 u11 u17
    rw [u5, bE_con st hk.1 hb.2 u11 u17]
    unfold dlt bE
    rw [if_neg z]
    by_cases z2 : bCd A k l (n + 1)
    · have e : A (83 + 23 * k + 17 + l) + 1 - A 6 = n + 1 := by
        have := z2.2
        have : ¬ A (83 + 23 * k + 17 + l) + 1 - A 6 ≤ n := fun w => z ⟨z2.1, w⟩
        omega
      have := z2.1
      rw [if_pos z2, if_neg (by omega), e, Int.sub_self, pD_n0, ← pD_add (m := 1)]
      omega
    · have : A (83 + 23 * k + 11 + l) = 0 ∨ A 6 + n + 1 ≤ A (83 + 23 * k + 17 + l) := by
        rcases lt_ge 0 (A (83 + 23 * k + 11 + l)) with w | w
        · have : ¬ A (83 + 23 * k + 17 + l) + 1 - A 6 ≤ n + 1 := fun y => z2 ⟨w, y⟩
          omega
        · omega
      rw [if_neg z2, if_pos this, ← pD_add (m := 1)]
      omega
theorem U_s (hA : DyI A) (n0 : 0 ≤ n) (hr : ∀ k l, 0 ≤ k → k < A 7 → 0 ≤ l → l < A 1 → 0 ≤ A (83 + 23 * k + 11 + l)) : dayU (UU A n) = UU A (n + 1) := by
  have st := U_sta (n := n) hA
  have e1 := st.1 1 (by decide) (by decide) (by decide) (by decide)
  have e7 := st.1 7 (by decide) (by decide) (by decide) (by decide)
  funext j
  rw [dayU_ad (st.dy hA), e1, e7]
  show A j + sm (fun k => sm (fun l => dlt A k l n j) (A 1)) (A 7) + (if j = 6 then n else 0) + sm _ (A 7) + _ = A j + sm (fun k => sm (fun l => dlt A k l (n + 1) j) (A 1)) (A 7) + (if j = 6 then n + 1 else 0)
  rw [sm_congr (f := fun k => sm (fun l => dlt A k l (n + 1) j) (A 1)) (g := fun k => sm (fun l => dlt A k l n j) (A 1) + sm (fun l => pD (UU A n) k l (UU A n (83 + 23 * k + 5 + l)) 1 j + bE (UU A n) k l (UU A n 6 + 1) j) (A 1)) (fun k k0 k1 => by
    rw [← sm_add]
    exact sm_congr (fun l l0 l1 => (dlt_s hA n0 ⟨k0, k1⟩ ⟨l0, l1⟩ (hr k l k0 k1 l0 l1)).symm)), sm_add]
  by_cases c : j = 6
  · rw [if_pos c, if_pos c, if_pos c]
    omega
  · rw [if_neg c, if_neg c, if_neg c]
    omega
theorem U_0 (hr : ∀ k l, 0 ≤ k → k < A 7 → 0 ≤ l → l < A 1 → 0 < A (83 + 23 * k + 11 + l) → A 6 ≤ A (83 + 23 * k + 17 + l)) : UU A 0 = A := by
  funext j
  unfold UU
  rw [sm_zero (fun k k0 k1 => sm_zero (fun l l0 l1 => by
    unfold dlt
    rw [if_neg (fun z => by
      have := hr k l k0 k1 l0 l1 z.1
      have := z.2
      omega), pD_n0]))]
  split <;> omega
end Us

