section TI
variable {D : Int} {A : St}
theorem inv_hold {l s v : Int} (hI : Inv D A) (hl : 0 ≤ l ∧ l < 6) (hs : 0 ≤ s ∧ s < 4) (hv : lentA A l s ≤ v ∧ v ≤ 99999) : Inv D (upI A (49 + 4 * l + s) v) := by
  have hn := hI.n
  have hle := lent_bd hI hl.1 hl.2 hs.1 hs.2
  have o : ∀ i, ¬ (49 ≤ i ∧ i < 73) → upI A (49 + 4 * l + s) v i = A i := fun i a => upI_ne (by omega)
  have e : ∀ x y, lentA (upI A (49 + 4 * l + s) v) x y = lentA A x y ∨ x < 0 := fun x y => by
    rcases lt_ge x 0 with z | z
    · exact Or.inr z
    · refine Or.inl ?_
      unfold lentA
      rw [o 7 (by omega)]
      exact sm_congr (fun i i0 i1 => by rw [o _ (by omega), o (83 + 23 * i + 5 + x) (by omega)])
  refine ⟨?_, fun z z0 z1 => ?_, fun z z0 z1 => ?_, fun x x0 x1 => ?_, fun b b0 b1 => ?_, fun x y x0 x1 y0 y1 => ?_, fun k k0 k1 => ⟨?_, ?_⟩, fun i k i0 ik k1 => ?_, fun x y x0 x1 y0 y1 => ?_⟩
  · rw [o 0 (by omega), o 1 (by omega), o 2 (by omega), o 3 (by omega), o 4 (by omega), o 5 (by omega), o 6 (by omega), o 7 (by omega), o 8 (by omega)]
    exact hn
  · rw [o 0 (by omega)] at z1
    rw [o _ (by omega), o _ (by omega)]
    exact hI.price z0 z1
  · rw [o _ (by omega), o 1 (by omega)]
    exact hI.last z0 z1
  · rw [o 1 (by omega)] at x1
    rw [o _ (by omega), o _ (by omega), o _ (by omega)]
    exact hI.lend x0 x1
  · rw [o 2 (by omega)] at b1
    rw [o _ (by omega)]
    exact hI.cred b0 b1
  · have h1 := hI.held x0 x1 y0 y1
    unfold upI
    split <;> omega
  · rw [o 7 (by omega)] at k1
    obtain ⟨q0, q1, q2, q3, q4, q5⟩ := hI.loan k0 k1
    refine ⟨?_, ?_, ?_, ?_, ?_, fun x x0 x1 => ?_⟩
    · rw [o _ (by omega), o 8 (by omega)]; exact q0
    · rw [o _ (by omega), o 2 (by omega)]; exact q1
    · rw [o _ (by omega), o 0 (by omega)]; exact q2
    · rw [o _ (by omega)]; exact q3
    · rw [o _ (by omega), o 6 (by omega)]; exact q4
    · rw [o (83 + 23 * k + 11 + x) (by omega), o (83 + 23 * k + 5 + x) (by omega), o (83 + 23 * k + 17 + x) (by omega), o 6 (by omega), o 1 (by omega)]
      exact q5 x x0 x1
  · rw [o 7 (by omega)] at k1
    rw [quan_congr (o 1 (by omega)) (fun x x0 x1 => o _ (by omega))]
    exact hI.quan k0 k1
  · rw [o 7 (by omega)] at k1
    rw [o _ (by omega), o _ (by omega)]
    exact hI.incr i0 ik k1
  · rcases e x y with z | z
    · rw [z]
      have h1 := hI.lent x0 x1 y0 y1
      by_cases w : 49 + 4 * x + y = 49 + 4 * l + s
      · have e1 : x = l := by omega
        have e2 : y = s := by omega
        subst e1
        subst e2
        rw [upI_eq]
        exact hv.1
      · rw [upI_ne w]
        exact h1
    · omega
theorem trd_inv {l s q : Int} (hI : Inv D A) (hl : 0 ≤ l ∧ l < 6) (hs : 0 ≤ s ∧ s < 4) (hv : lentA A l s ≤ A (49 + 4 * l + s) + q ∧ A (49 + 4 * l + s) + q ≤ 99999) : Inv D (trdA A l s q) := by
  unfold trdA
  exact inv_acc (inv_acc (inv_hold hI hl hs hv) (by omega)) (by omega)
end TI

