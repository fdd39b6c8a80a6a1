def rcfB (A : St) (k l s rep : Int) : St := if 0 < rep then mixO (83 + 23 * k + 5) (fun o => allocA A s rep l (83 + 23 * k + 5 + o) + (if o = l then -rep else giveA A s rep l o)) (allocA A s rep l) (A 1) else A
def rcfC (B : St) (k l d : Int) : St := if B (83 + 23 * k + 17 + l) = -1 then upI (upI B (83 + 23 * k + 11 + l) (B (83 + 23 * k + 11 + l) + d)) (83 + 23 * k + 17 + l) (B 6 + B 3) else upI B (83 + 23 * k + 11 + l) (B (83 + 23 * k + 11 + l) + d)
def rcfA (A : St) (k l s w : Int) : St := if w = min w (freeB A l s) then rcfB A k l s (min w (freeB A l s)) else rcfC (rcfB A k l s (min w (freeB A l s))) k l (w - min w (freeB A l s))
section RI
variable {D : Int} {A : St} {k l s rep : Int}
theorem rb_out {j : Int} (hs : 0 ≤ s ∧ s < 4) (hj : ¬ (83 + 23 * k + 5 ≤ j ∧ j < 83 + 23 * k + 5 + A 1)) (h2 : ¬ (23 ≤ j ∧ j < 27)) : rcfB A k l s rep j = A j := by
  unfold rcfB
  split
  · rw [mixO_out hj]
    exact alloc_8 hs h2
  · rfl
theorem rb_5 {o : Int} (hs : 0 ≤ s ∧ s < 4) (hr : 0 < rep) (hk : 0 ≤ k) (ho : 0 ≤ o ∧ o < A 1) : rcfB A k l s rep (83 + 23 * k + 5 + o) = A (83 + 23 * k + 5 + o) + (if o = l then -rep else giveA A s rep l o) := by
  unfold rcfB
  rw [if_pos hr, mixO_in ho.1 ho.2, alloc_8 hs (by omega)]
/-- the lenders that step in and the one that steps out -/
theorem rb_inv (hI : Inv D A) (hk : 0 ≤ k ∧ k < A 7) (hl : 0 ≤ l ∧ l < A 1) (hs : 0 ≤ s ∧ s < 4) (hks : A (83 + 23 * k + 2) = s) (hr : 0 ≤ rep ∧ rep ≤ freeB A l s) (hw : rep ≤ A (83 + 23 * k + 5 + l) - A (83 + 23 * k + 11 + l)) : Inv D (rcfB A k l s rep) := by
  have hn := hI.n
  rcases lt_ge 0 rep with h0 | h0
  · have hg := give_ok hI hs (q := rep) (but := l) ⟨h0, hr.2⟩
    have cA : ∀ j, j < 83 → ¬ (23 ≤ j ∧ j < 27) → rcfB A k l s rep j = A j := fun j h1 h2 => rb_out hs (by omega) h2
    have lo : ∀ i c, 0 ≤ i → 0 ≤ c → c < 5 → rcfB A k l s rep (83 + 23 * i + c) = A (83 + 23 * i + c) := fun i c i0 z0 z1 => rb_out hs (by omega) (by omega)
    have lo2 : ∀ i o c, 0 ≤ i → i ≠ k → 0 ≤ o + c → o + c < 23 → rcfB A k l s rep (83 + 23 * i + o + c) = A (83 + 23 * i + o + c) := fun i o c i0 ik z0 z1 => rb_out hs (by omega) (by omega)
    have lo3 : ∀ i o c, 0 ≤ i → 11 ≤ o + c → o + c < 23 → rcfB A k l s rep (83 + 23 * i + o + c) = A (83 + 23 * i + o + c) := fun i o c i0 z0 z1 => rb_out hs (by omega) (by omega)
    have e1 := cA 1 (by omega) (by omega)
    have e7 := cA 7 (by omega) (by omega)
    have sh : ∀ o, 0 ≤ o → o < 6 → rcfB A k l s rep (83 + 23 * k + 5 + o) = A (83 + 23 * k + 5 + o) + (if o < A 1 then (if o = l then -rep else giveA A s rep l o) else 0) := fun o o0 o1 => by
      by_cases z : o < A 1
      · rw [if_pos z]
        exact rb_5 hs h0 hk.1 ⟨o0, z⟩
      · rw [if_neg z, rb_out hs (by omega) (by omega), Int.add_zero]
    have hlent : ∀ o z, 0 ≤ o → o < 6 → lentA (rcfB A k l s rep) o z = lentA A o z + if s = z then (if o < A 1 then (if o = l then -rep else giveA A s rep l o) else 0) else 0 := fun o z o0 o1 => by
      have hx := sm_if (f := fun i => if A (83 + 23 * i + 2) = z then A (83 + 23 * i + 5 + o) else 0) (b := k) (v := if s = z then A (83 + 23 * k + 5 + o) + (if o < A 1 then (if o = l then -rep else giveA A s rep l o) else 0) else 0) (n := A 7) hk.1 hk.2
      have hy : lentA (rcfB A k l s rep) o z = sm (fun j => if j = k then (if s = z then A (83 + 23 * k + 5 + o) + (if o < A 1 then (if o = l then -rep else giveA A s rep l o) else 0) else 0) else (if A (83 + 23 * j + 2) = z then A (83 + 23 * j + 5 + o) else 0)) (A 7) := by
        unfold lentA
        rw [e7]
        refine sm_congr (fun i i0 i1 => ?_)
        rw [lo i 2 i0 (by omega) (by omega)]
        by_cases e : i = k
        · rw [if_pos e, e, hks, sh o o0 o1]
        · rw [if_neg e, lo2 i 5 o i0 e (by omega) (by omega)]
      rw [hy, hx, hks]
      unfold lentA
      split <;> omega
    have hbd : ∀ o, 0 ≤ o → o < A 1 → o ≠ l → lentA A o s + giveA A s rep l o ≤ A (49 + 4 * o + s) := fun o o0 o1 _ => give_held hI hs ⟨h0, hr.2⟩ o0 o1
    have hin : ∀ o, 0 ≤ o → o < 6 → A (83 + 23 * k + 5 + o) ≤ lentA A o s := fun o o0 o1 => by
      have := sm_le (f := fun i => if i = k then A (83 + 23 * k + 5 + o) else 0) (g := fun i => if A (83 + 23 * i + 2) = s then A (83 + 23 * i + 5 + o) else 0) (k := A 7) (fun i i0 i1 => by
        have := ((hI.loan i0 i1).sl o0 o1).1
        show (if _ then _ else _) ≤ (if _ then _ else _)
        by_cases e : i = k
        · rw [if_pos e, e, if_pos hks]
          exact Int.le_refl _
        · rw [if_neg e]
          split <;> omega)
      have h2 := sm_if (f := fun _ => 0) (b := k) (v := A (83 + 23 * k + 5 + o)) (n := A 7) hk.1 hk.2
      have h3 := sm_bd (f := fun _ => 0) (k := A 7) (lo := 0) (hi := 0) (by omega) (fun _ _ _ => ⟨Int.le_refl 0, Int.le_refl 0⟩)
      unfold lentA
      omega
    refine ⟨?_, fun z z0 z1 => ?_, fun z z0 z1 => ?_, fun o l0 l1 => ?_, fun z z0 z1 => ?_, fun o z l0 l1 z0 z1 => ?_, fun i i0 i1 => ?_, fun i j i0 ij j1 => ?_, fun o z l0 l1 z0 z1 => ?_⟩
    · rw [cA 0 (by omega) (by omega), e1, cA 2 (by omega) (by omega), cA 3 (by omega) (by omega), cA 4 (by omega) (by omega), cA 5 (by omega) (by omega), cA 6 (by omega) (by omega), e7, cA 8 (by omega) (by omega)]
      exact hn
    · rw [cA 0 (by omega) (by omega)] at z1
      rw [cA _ (by omega) (by omega), cA _ (by omega) (by omega)]
      exact hI.price z0 z1
    · rw [e1]
      unfold rcfB
      rw [if_pos h0, mixO_out (by omega)]
      have := (alloc_inv hI (s := s) (but := l) (q := rep) hs).last z0 z1
      rw [alloc_8 hs (by omega : ¬ (23 ≤ (1 : Int) ∧ (1 : Int) < 27))] at this
      exact this
    · rw [e1] at l1
      rw [cA _ (by omega) (by omega), cA _ (by omega) (by omega), cA _ (by omega) (by omega)]
      exact hI.lend l0 l1
    · rw [cA 2 (by omega) (by omega)] at z1
      rw [cA _ (by omega) (by omega)]
      exact hI.cred z0 z1
    · rw [cA _ (by omega) (by omega)]
      exact hI.held l0 l1 z0 z1
    · rw [e7] at i1
      obtain ⟨q0, q1, q2, q3, q4, q5⟩ := hI.loan i0 i1
      refine ⟨⟨?_, ?_, ?_, ?_, ?_, fun o o0 o1 => ?_⟩, ?_⟩
      · rw [lo i 0 i0 (by omega) (by omega), cA 8 (by omega) (by omega)]; exact q0
      · rw [lo i 1 i0 (by omega) (by omega), cA 2 (by omega) (by omega)]; exact q1
      · rw [lo i 2 i0 (by omega) (by omega), cA 0 (by omega) (by omega)]; exact q2
      · rw [lo i 3 i0 (by omega) (by omega)]; exact q3
      · rw [lo i 4 i0 (by omega) (by omega), cA 6 (by omega) (by omega)]; exact q4
      · rw [lo3 i 11 o i0 (by omega) (by omega), lo3 i 17 o i0 (by omega) (by omega), e1, cA 6 (by omega) (by omega)]
        have z1 := q5 o o0 o1
        by_cases e : i = k
        · rw [e] at z1 ⊢
          rw [sh o o0 o1]
          by_cases z : o < A 1
          · rw [if_pos z]
            by_cases w : o = l
            · rw [if_pos w, w]
              rw [w] at z1
              omega
            · rw [if_neg w]
              have h2 := (hg.1 o o0 z).1
              have h3 := hbd o o0 z w
              have h4 := hin o o0 o1
              have h5 := hI.held o0 o1 hs.1 hs.2
              omega
          · rw [if_neg z]
            omega
        · rw [lo2 i 5 o i0 e (by omega) (by omega)]
          exact z1
      · by_cases e : i = k
        · rw [e]
          have h2 := hI.quan hk.1 hk.2
          have h3 : quanA (rcfB A k l s rep) k = quanA A k := by
            unfold quanA
            rw [e1, sm_congr (g := fun o => A (83 + 23 * k + 5 + o) + (if o = l then -rep else giveA A s rep l o)) (fun o o0 o1 => rb_5 hs h0 hk.1 ⟨o0, o1⟩), sm_add, sm_if (f := giveA A s rep l) hl.1 hl.2, hg.2, (hg.1 l hl.1 hl.2).2 rfl]
            omega
          rw [h3]
          exact h2
        · rw [quan_congr e1 (fun o o0 o1 => lo2 i 5 o i0 e (by omega) (by omega))]
          exact hI.quan i0 i1
    · rw [e7] at j1
      rw [lo i 0 i0 (by omega) (by omega), lo j 0 (by omega) (by omega) (by omega)]
      exact hI.incr i0 ij j1
    · rw [cA _ (by omega) (by omega), hlent o z l0 l1]
      have h1 := hI.lent l0 l1 z0 z1
      by_cases e : s = z
      · rw [if_pos e]
        by_cases z : o < A 1
        · rw [if_pos z]
          by_cases w : o = l
          · rw [if_pos w]
            omega
          · rw [if_neg w, ← e]
            exact hbd o l0 z w
        · rw [if_neg z]
          omega
      · rw [if_neg e]
        omega
  · unfold rcfB
    rw [if_neg (by omega)]
    exact hI
theorem rc_inv (hI : Inv D A) {d : Int} (hk : 0 ≤ k ∧ k < A 7) (hl : 0 ≤ l ∧ l < 6) (hd : 0 < d ∧ d ≤ A (83 + 23 * k + 5 + l) - A (83 + 23 * k + 11 + l)) : Inv D (rcfC A k l d) := by
  have hn := hI.n
  have cA : ∀ j, ¬ (83 + 23 * k + 11 ≤ j ∧ j < 83 + 23 * k + 23) → rcfC A k l d j = A j := fun j h1 => by
    unfold rcfC
    split
    · rw [upI_ne (by omega), upI_ne (by omega)]
    · rw [upI_ne (by omega)]
  have c11 : ∀ o, 0 ≤ o → o < 6 → rcfC A k l d (83 + 23 * k + 11 + o) = if o = l then A (83 + 23 * k + 11 + l) + d else A (83 + 23 * k + 11 + o) := fun o o0 o1 => by
    unfold rcfC
    by_cases e : o = l
    · rw [if_pos e, e]
      split
      · rw [upI_ne (by omega), upI_eq]
      · rw [upI_eq]
    · rw [if_neg e]
      split
      · rw [upI_ne (by omega), upI_ne (by omega)]
      · rw [upI_ne (by omega)]
  have c17 : ∀ o, 0 ≤ o → o < 6 → rcfC A k l d (83 + 23 * k + 17 + o) = if o = l ∧ A (83 + 23 * k + 17 + l) = -1 then A 6 + A 3 else A (83 + 23 * k + 17 + o) := fun o o0 o1 => by
    unfold rcfC
    by_cases z : A (83 + 23 * k + 17 + l) = -1
    · rw [if_pos z]
      by_cases e : o = l
      · rw [if_pos ⟨e, z⟩, e, upI_eq]
      · rw [if_neg (fun w => e w.1), upI_ne (by omega), upI_ne (by omega)]
    · rw [if_neg z, if_neg (fun w => z w.2), upI_ne (by omega)]
  have lo2 : ∀ i o c, 0 ≤ i → i ≠ k → 0 ≤ o + c → o + c < 23 → rcfC A k l d (83 + 23 * i + o + c) = A (83 + 23 * i + o + c) := fun i o c i0 ik z0 z1 => cA _ (by omega)
  have e1 := cA 1 (by omega)
  have e6 := cA 6 (by omega)
  have e7 := cA 7 (by omega)
  refine ⟨?_, fun z z0 z1 => ?_, fun z z0 z1 => ?_, fun o l0 l1 => ?_, fun z z0 z1 => ?_, fun o z l0 l1 z0 z1 => ?_, fun i i0 i1 => ?_, fun i j i0 ij j1 => ?_, fun o z l0 l1 z0 z1 => ?_⟩
  · rw [cA 0 (by omega), e1, cA 2 (by omega), cA 3 (by omega), cA 4 (by omega), cA 5 (by omega), e6, e7, cA 8 (by omega)]
    exact hn
  · rw [cA 0 (by omega)] at z1
    rw [cA _ (by omega), cA _ (by omega)]
    exact hI.price z0 z1
  · rw [e1, cA _ (by omega)]
    exact hI.last z0 z1
  · rw [e1] at l1
    rw [cA _ (by omega), cA _ (by omega), cA _ (by omega)]
    exact hI.lend l0 l1
  · rw [cA 2 (by omega)] at z1
    rw [cA _ (by omega)]
    exact hI.cred z0 z1
  · rw [cA _ (by omega)]
    exact hI.held l0 l1 z0 z1
  · rw [e7] at i1
    obtain ⟨q0, q1, q2, q3, q4, q5⟩ := hI.loan i0 i1
    refine ⟨⟨?_, ?_, ?_, ?_, ?_, fun o o0 o1 => ?_⟩, ?_⟩
    · rw [cA _ (by omega), cA 8 (by omega)]; exact q0
    · rw [cA _ (by omega), cA 2 (by omega)]; exact q1
    · rw [cA _ (by omega), cA 0 (by omega)]; exact q2
    · rw [cA _ (by omega)]; exact q3
    · rw [cA _ (by omega), e6]; exact q4
    · rw [e1, e6, cA (83 + 23 * i + 5 + o) (by omega)]
      have z1 := q5 o o0 o1
      by_cases e : i = k
      · rw [e] at z1 ⊢
        rw [c11 o o0 o1, c17 o o0 o1]
        by_cases w : o = l
        · rw [w] at z1 ⊢
          rw [if_pos rfl]
          by_cases y : A (83 + 23 * k + 17 + l) = -1
          · rw [if_pos ⟨rfl, y⟩]
            omega
          · rw [if_neg (fun v => y v.2)]
            omega
        · rw [if_neg w, if_neg (fun v => w v.1)]
          exact z1
      · rw [lo2 i 11 o i0 e (by omega) (by omega), lo2 i 17 o i0 e (by omega) (by omega)]
        exact z1
    · rw [quan_congr e1 (fun o o0 o1 => cA _ (by omega))]
      exact hI.quan i0 i1
  · rw [e7] at j1
    rw [cA _ (by omega), cA _ (by omega)]
    exact hI.incr i0 ij j1
  · have e : lentA (rcfC A k l d) o z = lentA A o z := by
      unfold lentA
      rw [e7]
      exact sm_congr (fun i i0 i1 => by rw [cA _ (by omega), cA (83 + 23 * i + 5 + o) (by omega)])
    rw [e, cA _ (by omega)]
    exact hI.lent l0 l1 z0 z1
end RI

