def dvdC (A : St) (s a : Int) : Int := if ¬ (0 ≤ s ∧ s < A 0) then 1 else if ¬ (1 ≤ a ∧ a ≤ 9999) then 2 else 0
section Mo24
variable {D : Int} {σ : Hp} {A : St}
theorem div_inv {s a : Int} (hI : Inv D A) : Inv D (divX A s a (A 7)).1 := hI.ac (div_ac hI (by have := hI.n; omega) (Int.le_refl _))
theorem inv_set {j v : Int} (hI : Inv D A) (h : (∃ s, j = 15 + s ∧ (0 ≤ s ∧ s < 4) ∧ 1 ≤ v ∧ v ≤ 9999) ∨ (∃ s, j = 19 + s ∧ (0 ≤ s ∧ s < 4) ∧ 0 ≤ v ∧ v ≤ 9999) ∨ (∃ l, j = 33 + l ∧ (0 ≤ l ∧ l < 6) ∧ 0 ≤ v ∧ v ≤ 100) ∨ (j = 5 ∧ 0 ≤ v ∧ v ≤ 2)) : Inv D (upI A j v) := by
  have hn := hI.n
  have hj : j = 5 ∨ (15 ≤ j ∧ j < 23) ∨ (33 ≤ j ∧ j < 39) := by
    rcases h with ⟨s, a, b, c⟩ | ⟨s, a, b, c⟩ | ⟨s, a, b, c⟩ | ⟨a, b⟩ <;> omega
  have o : ∀ i, i ≠ 5 → ¬ (15 ≤ i ∧ i < 23) → ¬ (33 ≤ i ∧ i < 39) → upI A j v i = A i := fun i a b c => upI_ne (by omega)
  have e0 := o 0 (by omega) (by omega) (by omega)
  have e1 := o 1 (by omega) (by omega) (by omega)
  have e2 := o 2 (by omega) (by omega) (by omega)
  have e6 := o 6 (by omega) (by omega) (by omega)
  have e7 := o 7 (by omega) (by omega) (by omega)
  have e8 := o 8 (by omega) (by omega) (by omega)
  refine ⟨?_, fun s s0 s1 => ?_, fun s s0 s1 => ?_, fun l l0 l1 => ?_, fun b b0 b1 => ?_, fun l s l0 l1 s0 s1 => ?_, fun k k0 k1 => ⟨?_, ?_⟩, fun i k i0 ik k1 => ?_, fun l s l0 l1 s0 s1 => ?_⟩
  · rw [e0, e1, e2, e6, e7, e8, o 3 (by omega) (by omega) (by omega), o 4 (by omega) (by omega) (by omega)]
    by_cases z : j = 5
    · rw [z, upI_eq]
      rcases h with ⟨s, a, b, c⟩ | ⟨s, a, b, c⟩ | ⟨s, a, b, c⟩ | ⟨a, b⟩ <;> omega
    · rw [upI_ne (by omega)]
      exact hn
  · rw [e0] at s1
    have hp := hI.price s0 s1
    unfold upI
    rcases h with ⟨z, a, b, c⟩ | ⟨z, a, b, c⟩ | ⟨z, a, b, c⟩ | ⟨a, b⟩ <;> (split <;> split <;> omega)
  · rw [o _ (by omega) (by omega) (by omega), e1]
    exact hI.last s0 s1
  · rw [e1] at l1
    have hp := hI.lend l0 l1
    rw [o (27 + l) (by omega) (by omega) (by omega), o (39 + l) (by omega) (by omega) (by omega)]
    unfold upI
    rcases h with ⟨z, a, b, c⟩ | ⟨z, a, b, c⟩ | ⟨z, a, b, c⟩ | ⟨a, b⟩ <;> (split <;> omega)
  · rw [e2] at b1
    rw [o _ (by omega) (by omega) (by omega)]
    exact hI.cred b0 b1
  · rw [o _ (by omega) (by omega) (by omega)]
    exact hI.held l0 l1 s0 s1
  · rw [e7] at k1
    obtain ⟨q0, q1, q2, q3, q4, q5⟩ := hI.loan k0 k1
    refine ⟨?_, ?_, ?_, ?_, ?_, fun l l0 l1 => ?_⟩
    · rw [o _ (by omega) (by omega) (by omega), e8]; exact q0
    · rw [o _ (by omega) (by omega) (by omega), e2]; exact q1
    · rw [o _ (by omega) (by omega) (by omega), e0]; exact q2
    · rw [o _ (by omega) (by omega) (by omega)]; exact q3
    · rw [o _ (by omega) (by omega) (by omega), e6]; exact q4
    · rw [o (83 + 23 * k + 11 + l) (by omega) (by omega) (by omega), o (83 + 23 * k + 5 + l) (by omega) (by omega) (by omega), o (83 + 23 * k + 17 + l) (by omega) (by omega) (by omega), e6, e1]
      exact q5 l l0 l1
  · rw [e7] at k1
    rw [quan_congr e1 (fun l l0 l1 => o _ (by omega) (by omega) (by omega))]
    exact hI.quan k0 k1
  · rw [e7] at k1
    rw [o _ (by omega) (by omega) (by omega), o _ (by omega) (by omega) (by omega)]
    exact hI.incr i0 ik k1
  · have e : lentA (upI A j v) l s = lentA A l s := by
      unfold lentA
      rw [e7]
      exact sm_congr (fun i i0 i1 => by rw [o _ (by omega) (by omega) (by omega), o (83 + 23 * i + 5 + l) (by omega) (by omega) (by omega)])
    rw [e, o _ (by omega) (by omega) (by omega)]
    exact hI.lent l0 l1 s0 s1
end Mo24

