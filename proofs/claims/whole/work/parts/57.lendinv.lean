section LI
variable {D : Int} {A : St} {b s q r : Int}
theorem ld_7 : lendA A b s q r 7 = A 7 + 1 := by
  unfold lendA lendB
  rw [upI_ne (by omega), upI_eq]
theorem ld_8 : lendA A b s q r 8 = A 8 + 1 := by
  unfold lendA lendB
  rw [upI_eq]
theorem ld_0 {j : Int} (h7 : 0 ≤ A 7) (h : j < 83 + 23 * A 7) (hj : j ≠ 7 ∧ j ≠ 8) : lendA A b s q r j = allocA A s q (-1) j := by
  unfold lendA lendB
  rw [upI_ne hj.2, upI_ne hj.1, mixO_out (by omega), upI_ne (by omega), upI_ne (by omega), upI_ne (by omega), upI_ne (by omega), upI_ne (by omega), mixO_out (by omega)]
theorem ld_c {c v : Int} (h7 : 0 ≤ A 7) (hc : 0 ≤ c ∧ c < 5) (hv : v = if c = 0 then A 8 else if c = 1 then b else if c = 2 then s else if c = 3 then r else A 6) : lendA A b s q r (83 + 23 * A 7 + c) = v := by
  unfold lendA lendB
  rw [upI_ne (by omega), upI_ne (by omega), mixO_out (by omega)]
  have : c = 0 ∨ c = 1 ∨ c = 2 ∨ c = 3 ∨ c = 4 := by omega
  rcases this with e | e | e | e | e <;> subst e
  · rw [upI_ne (by omega), upI_ne (by omega), upI_ne (by omega), upI_ne (by omega), upI_eq, hv]
    rfl
  · rw [upI_ne (by omega), upI_ne (by omega), upI_ne (by omega), upI_eq, hv]
    rfl
  · rw [upI_ne (by omega), upI_ne (by omega), upI_eq, hv]
    rfl
  · rw [upI_ne (by omega), upI_eq, hv]
    rfl
  · rw [upI_eq, hv]
    rfl
theorem ld_5 {l : Int} (h7 : 0 ≤ A 7) (hl : 0 ≤ l ∧ l < 6) (h1 : 0 ≤ A 1 ∧ A 1 ≤ 6) : lendA A b s q r (83 + 23 * A 7 + 5 + l) = if l < A 1 then giveA A s q (-1) l else 0 := by
  unfold lendA lendB
  rw [upI_ne (by omega), upI_ne (by omega)]
  by_cases e : l < A 1
  · rw [if_pos e, mixO_in hl.1 e]
  · rw [if_neg e, mixO_out (by omega), upI_ne (by omega), upI_ne (by omega), upI_ne (by omega), upI_ne (by omega), upI_ne (by omega), show 83 + 23 * A 7 + 5 + l = 83 + 23 * A 7 + (5 + l) by omega, mixO_in (by omega) (by omega)]
    exact if_neg (by omega)
theorem ld_11 {l : Int} (h7 : 0 ≤ A 7) (hl : 0 ≤ l ∧ l < 6) (h1 : 0 ≤ A 1 ∧ A 1 ≤ 6) : lendA A b s q r (83 + 23 * A 7 + 11 + l) = 0 := by
  unfold lendA lendB
  rw [upI_ne (by omega), upI_ne (by omega), mixO_out (by omega), upI_ne (by omega), upI_ne (by omega), upI_ne (by omega), upI_ne (by omega), upI_ne (by omega), show 83 + 23 * A 7 + 11 + l = 83 + 23 * A 7 + (11 + l) by omega, mixO_in (by omega) (by omega)]
  exact if_neg (by omega)
theorem ld_17 {l : Int} (h7 : 0 ≤ A 7) (hl : 0 ≤ l ∧ l < 6) (h1 : 0 ≤ A 1 ∧ A 1 ≤ 6) : lendA A b s q r (83 + 23 * A 7 + 17 + l) = -1 := by
  unfold lendA lendB
  rw [upI_ne (by omega), upI_ne (by omega), mixO_out (by omega), upI_ne (by omega), upI_ne (by omega), upI_ne (by omega), upI_ne (by omega), upI_ne (by omega), show 83 + 23 * A 7 + 17 + l = 83 + 23 * A 7 + (17 + l) by omega, mixO_in (by omega) (by omega)]
  exact if_pos (by omega)
/-- what a lender gives, it holds beside what it has lent -/
theorem give_held (hI : Inv D A) {l s q but : Int} (hs : 0 ≤ s ∧ s < 4) (hq : 0 < q ∧ q ≤ freeB A but s) (l0 : 0 ≤ l) (l1 : l < A 1) : lentA A l s + giveA A s q but l ≤ A (49 + 4 * l + s) := by
  have hn := hI.n
  have h1 := ((give_ok hI hs hq).1 l l0 l1).1
  have h2 := hI.lent l0 (by omega) hs.1 hs.2
  have h3 := free_bd hI l0 l1 hs.1 hs.2
  have h4 := hI.held l0 (by omega) hs.1 hs.2
  have h5 := (hI.lend l0 l1).2.1
  have h6 : A (49 + 4 * l + s) * A (33 + l) ≤ A (49 + 4 * l + s) * 100 := Int.mul_le_mul_of_nonneg_left h5.2 h4.1
  have h7 := td_bd (a := A (49 + 4 * l + s) * A (33 + l)) (c := 100) h3.2.1.1 (by decide)
  unfold freeA at h1
  omega
theorem lend_inv (hI : Inv D A) (hb : 0 ≤ b ∧ b < A 2) (hs : 0 ≤ s ∧ s < A 0) (hq : 1 ≤ q ∧ q ≤ 99999) (hr : 0 ≤ r ∧ r ≤ 9999) (hc : canA A b s q) : Inv (D + 1) (lendA A b s q r) := by
  have hn := hI.n
  have hs4 : 0 ≤ s ∧ s < 4 := by omega
  have hg := give_ok hI hs4 (q := q) (but := -1) ⟨by omega, hc.2.1⟩
  have h7 := hc.1
  have hag := alloc_ag (A := A) (s := s) (but := -1) (q := q) hs4
  have ha := alloc_inv hI (s := s) (but := -1) (q := q) hs4
  have c0 : ∀ j, j < 83 → j ≠ 7 → j ≠ 8 → lendA A b s q r j = allocA A s q (-1) j := fun j h1 h2 h3 => ld_0 (by omega) (by omega) ⟨h2, h3⟩
  have cA : ∀ j, j < 83 → j ≠ 7 → j ≠ 8 → ¬ (23 ≤ j ∧ j < 27) → lendA A b s q r j = A j := fun j h1 h2 h3 h4 => by
    rw [c0 j h1 h2 h3]
    exact alloc_8 hs4 h4
  have lo : ∀ i c, 0 ≤ i → i < A 7 → 0 ≤ c → c < 23 → lendA A b s q r (83 + 23 * i + c) = A (83 + 23 * i + c) := fun i c i0 i1 z0 z1 => by
    rw [ld_0 (by omega) (by omega) (by omega)]
    exact alloc_8 hs4 (by omega)
  have lo2 : ∀ i o c, 0 ≤ i → i < A 7 → 0 ≤ o + c → o + c < 23 → 0 ≤ o → lendA A b s q r (83 + 23 * i + o + c) = A (83 + 23 * i + o + c) := fun i o c i0 i1 z0 z1 _ => by
    rw [ld_0 (by omega) (by omega) (by omega)]
    exact alloc_8 hs4 (by omega)
  have e1 := cA 1 (by omega) (by omega) (by omega) (by omega)
  refine ⟨?_, fun z z0 z1 => ?_, fun z z0 z1 => ?_, fun l l0 l1 => ?_, fun z z0 z1 => ?_, fun l z l0 l1 z0 z1 => ?_, fun i i0 i1 => ?_, fun i j i0 ij j1 => ?_, fun l z l0 l1 z0 z1 => ?_⟩
  · rw [cA 0 (by omega) (by omega) (by omega) (by omega), e1, cA 2 (by omega) (by omega) (by omega) (by omega), cA 3 (by omega) (by omega) (by omega) (by omega), cA 4 (by omega) (by omega) (by omega) (by omega), cA 5 (by omega) (by omega) (by omega) (by omega), cA 6 (by omega) (by omega) (by omega) (by omega), ld_7, ld_8]
    omega
  · rw [cA 0 (by omega) (by omega) (by omega) (by omega)] at z1
    rw [cA _ (by omega) (by omega) (by omega) (by omega), cA _ (by omega) (by omega) (by omega) (by omega)]
    exact hI.price z0 z1
  · rw [c0 _ (by omega) (by omega) (by omega), e1]
    have := ha.last z0 z1
    rw [hag 1 (by omega)] at this
    exact this
  · rw [e1] at l1
    rw [cA _ (by omega) (by omega) (by omega) (by omega), cA _ (by omega) (by omega) (by omega) (by omega), cA _ (by omega) (by omega) (by omega) (by omega)]
    exact hI.lend l0 l1
  · rw [cA 2 (by omega) (by omega) (by omega) (by omega)] at z1
    rw [cA _ (by omega) (by omega) (by omega) (by omega)]
    exact hI.cred z0 z1
  · rw [cA _ (by omega) (by omega) (by omega) (by omega)]
    exact hI.held l0 l1 z0 z1
  · rw [ld_7] at i1
    have e6 := cA 6 (by omega) (by omega) (by omega) (by omega)
    by_cases e : i = A 7
    · subst e
      refine ⟨⟨?_, ?_, ?_, ?_, ?_, fun l l0 l1 => ?_⟩, ?_⟩
      · rw [ld_c (v := A 8) (by omega) (by omega) rfl, ld_8]
        omega
      · rw [ld_c (v := b) (by omega) (by omega) rfl, cA 2 (by omega) (by omega) (by omega) (by omega)]
        exact hb
      · rw [ld_c (v := s) (by omega) (by omega) rfl, cA 0 (by omega) (by omega) (by omega) (by omega)]
        exact hs
      · rw [ld_c (v := r) (by omega) (by omega) rfl]
        exact hr
      · rw [ld_c (v := A 6) (by omega) (by omega) rfl, e6]
        omega
      · rw [ld_5 (by omega) ⟨l0, l1⟩ (by omega), ld_11 (by omega) ⟨l0, l1⟩ (by omega), ld_17 (by omega) ⟨l0, l1⟩ (by omega), e1, e6]
        by_cases z : l < A 1
        · rw [if_pos z]
          have h1 := (hg.1 l l0 z).1
          have h2 := (free_bd hI l0 z hs4.1 hs4.2).1
          omega
        · rw [if_neg z]
          omega
      · have e : quanA (lendA A b s q r) (A 7) = q := by
          refine Eq.trans ?_ hg.2
          unfold quanA
          rw [e1]
          exact sm_congr (fun l l0 l1 => by rw [ld_5 (by omega) ⟨l0, by omega⟩ (by omega), if_pos l1])
        rw [e]
        omega
    · have i2 : i < A 7 := by omega
      obtain ⟨q0, q1, q2, q3, q4, q5⟩ := hI.loan i0 i2
      refine ⟨⟨?_, ?_, ?_, ?_, ?_, fun l l0 l1 => ?_⟩, ?_⟩
      · rw [lo i 0 i0 i2 (by omega) (by omega), ld_8]
        omega
      · rw [lo i 1 i0 i2 (by omega) (by omega), cA 2 (by omega) (by omega) (by omega) (by omega)]
        exact q1
      · rw [lo i 2 i0 i2 (by omega) (by omega), cA 0 (by omega) (by omega) (by omega) (by omega)]
        exact q2
      · rw [lo i 3 i0 i2 (by omega) (by omega)]
        exact q3
      · rw [lo i 4 i0 i2 (by omega) (by omega), e6]
        exact q4
      · rw [lo2 i 11 l i0 i2 (by omega) (by omega) (by omega), lo2 i 5 l i0 i2 (by omega) (by omega) (by omega), lo2 i 17 l i0 i2 (by omega) (by omega) (by omega), e1, e6]
        exact q5 l l0 l1
      · rw [quan_congr e1 (fun l l0 l1 => lo2 i 5 l i0 i2 (by omega) (by omega) (by omega))]
        exact hI.quan i0 i2
  · rw [ld_7] at j1
    rw [lo i 0 i0 (by omega) (by omega) (by omega)]
    by_cases e : j = A 7
    · subst e
      rw [ld_c (v := A 8) (by omega) (by omega) rfl]
      exact (hI.loan i0 ij).1.2
    · rw [lo j 0 (by omega) (by omega) (by omega) (by omega)]
      exact hI.incr i0 ij (by omega)
  · rw [cA _ (by omega) (by omega) (by omega) (by omega)]
    have e : lentA (lendA A b s q r) l z = lentA A l z + if s = z then (if l < A 1 then giveA A s q (-1) l else 0) else 0 := by
      unfold lentA
      rw [ld_7, sm_s _ (by omega), ld_c (v := s) (by omega) (by omega) rfl, ld_5 (by omega) ⟨l0, l1⟩ (by omega)]
      congr 1
      exact sm_congr (fun i i0 i1 => by rw [lo i 2 i0 i1 (by omega) (by omega), lo2 i 5 l i0 i1 (by omega) (by omega) (by omega)])
    rw [e]
    have h1 := hI.lent l0 l1 z0 z1
    split
    · rename_i w
      split
      · rename_i w2
        rw [← w]
        exact give_held hI hs4 ⟨by omega, hc.2.1⟩ l0 w2
      · omega
    · omega
end LI

