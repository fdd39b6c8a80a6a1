section Ui
variable {D n : Int} {A : St}
theorem Inv0.dyI (h : Inv0 D A) : DyI A := by
  have hn := h.1
  refine ⟨by omega, by omega, fun k k0 k1 => ?_⟩
  have q := h.loan k0 k1
  have q1 := q.2.1
  have q2 := q.2.2.1
  exact ⟨by omega, by omega⟩
/-- the slices after n days -/
theorem U_sl (h : Inv0 D A) {k l : Int} (hk : 0 ≤ k ∧ k < A 7) (hl : 0 ≤ l ∧ l < 6) : (UU A n (83 + 23 * k + 5 + l) = A (83 + 23 * k + 5 + l) ∧ UU A n (83 + 23 * k + 11 + l) = A (83 + 23 * k + 11 + l) ∧ UU A n (83 + 23 * k + 17 + l) = A (83 + 23 * k + 17 + l) ∧ ¬ (l < A 1 ∧ bCd A k l n)) ∨ (UU A n (83 + 23 * k + 5 + l) = A (83 + 23 * k + 5 + l) - A (83 + 23 * k + 11 + l) ∧ UU A n (83 + 23 * k + 11 + l) = 0 ∧ UU A n (83 + 23 * k + 17 + l) = -1 ∧ l < A 1 ∧ bCd A k l n) := by
  have hA := h.dyI
  have h1 := hA.1
  by_cases z : l < A 1
  · have hb := hA.2.2 k hk.1 hk.2
    have c := dlt_c (n := n) hk.1 hb.1 hl
    have u5 := U_one (n := n) hA hk ⟨hl.1, z⟩ (Or.inl rfl)
    have u11 := U_one (n := n) hA hk ⟨hl.1, z⟩ (Or.inr (Or.inl rfl))
    have u17 := U_one (n := n) hA hk ⟨hl.1, z⟩ (Or.inr (Or.inr rfl))
    rw [c.1] at u5
    rw [c.2.1] at u11
    rw [c.2.2] at u17
    by_cases y : bCd A k l n
    · rw [if_pos y] at u5 u11 u17
      exact Or.inr ⟨by omega, by omega, by omega, z, y⟩
    · rw [if_neg y] at u5 u11 u17
      exact Or.inl ⟨by omega, by omega, by omega, fun w => y w.2⟩
  · refine Or.inl ⟨U_j hA (by omega) (by omega) (by omega) (fun k' l' _ _ _ _ => by omega), U_j hA (by omega) (by omega) (by omega) (fun k' l' _ _ _ _ => by omega), U_j hA (by omega) (by omega) (by omega) (fun k' l' _ _ _ _ => by omega), fun w => z w.1⟩
theorem U_inv (h : Inv0 D A) (n0 : 0 ≤ n) : Inv0 (D + n) (UU A n) := by
  have hA := h.dyI
  have st := U_sta (n := n) hA
  have e6 := U_6 (n := n) hA
  have hn := h.1
  have o : ∀ j, 0 ≤ j → j < 73 → j ≠ 6 → ¬ (9 ≤ j ∧ j < 15) → UU A n j = A j := fun j a b c d => st.1 j a b c d
  obtain ⟨-, i2, i3, i4, i5, i6, i7, i8, i9⟩ := h
  have h : Inv0 D A := ⟨hn, i2, i3, i4, i5, i6, i7, i8, i9⟩
  have e1 := o 1 (by decide) (by decide) (by decide) (by decide)
  have e7 := o 7 (by decide) (by decide) (by decide) (by decide)
  refine ⟨?_, fun s s0 s1 => ?_, fun s s0 s1 => ?_, fun l l0 l1 => ?_, fun b b0 b1 => ?_, fun l s l0 l1 s0 s1 => ?_, fun k k0 k1 => ?_, fun j k j0 jk k1 => ?_, fun l s l0 l1 s0 s1 => ?_⟩
  · rw [o 0 (by decide) (by decide) (by decide) (by decide), e1, o 2 (by decide) (by decide) (by decide) (by decide), o 3 (by decide) (by decide) (by decide) (by decide), o 4 (by decide) (by decide) (by decide) (by decide), o 5 (by decide) (by decide) (by decide) (by decide), e6, e7, o 8 (by decide) (by decide) (by decide) (by decide)]
    omega
  · rw [o 0 (by decide) (by decide) (by decide) (by decide)] at s1
    rw [o _ (by omega) (by omega) (by omega) (by omega), o _ (by omega) (by omega) (by omega) (by omega)]
    exact i2 s s0 s1
  · rw [o _ (by omega) (by omega) (by omega) (by omega), e1]
    exact i3 s s0 s1
  · rw [e1] at l1
    rw [o _ (by omega) (by omega) (by omega) (by omega), o _ (by omega) (by omega) (by omega) (by omega), o _ (by omega) (by omega) (by omega) (by omega)]
    exact i4 l l0 l1
  · rw [o 2 (by decide) (by decide) (by decide) (by decide)] at b1
    rw [o _ (by omega) (by omega) (by omega) (by omega)]
    exact i5 b b0 b1
  · rw [o _ (by omega) (by omega) (by omega) (by omega)]
    exact i6 l s l0 l1 s0 s1
  · rw [e7] at k1
    obtain ⟨q0, q1, q2, q3, q4, q5⟩ := i7 k k0 k1
    unfold LoanIn
    rw [st.2 k 0 k0 (by decide) (by decide), st.2 k 1 k0 (by decide) (by decide), st.2 k 2 k0 (by decide) (by decide), st.2 k 3 k0 (by decide) (by decide), st.2 k 4 k0 (by decide) (by decide), e6, e1, o 8 (by decide) (by decide) (by decide) (by decide), o 2 (by decide) (by decide) (by decide) (by decide), o 0 (by decide) (by decide) (by decide) (by decide)]
    refine ⟨q0, q1, q2, q3, by omega, fun l l0 l1 => ?_⟩
    have z := q5 l l0 l1
    rcases U_sl (n := n) h ⟨k0, k1⟩ ⟨l0, l1⟩ with u | u
    · obtain ⟨u5, u11, u17, u⟩ := u
      rw [u5, u11, u17]
      refine ⟨z.1, z.2.1, fun w => ?_, z.2.2.2⟩
      have y := z.2.2.1 w
      by_cases v : l < A 1
      · have : ¬ A (83 + 23 * k + 17 + l) + 1 - A 6 ≤ n := fun x => u ⟨v, w, x⟩
        omega
      · have := z.2.2.2 (by omega)
        omega
    · obtain ⟨u5, u11, u17, v, u⟩ := u
      rw [u5, u11, u17]
      exact ⟨by omega, fun _ => rfl, fun w => by omega, fun w => by omega⟩
  · rw [e7] at k1
    rw [st.2 j 0 j0 (by decide) (by decide), st.2 k 0 (by omega) (by decide) (by decide)]
    exact i8 j k j0 jk k1
  · rw [o _ (by omega) (by omega) (by omega) (by omega)]
    refine Int.le_trans ?_ (i9 l s l0 l1 s0 s1)
    unfold lentA
    rw [e7]
    refine sm_le (fun k k0 k1 => ?_)
    rw [st.2 k 2 k0 (by decide) (by decide)]
    split
    · have z := ((i7 k k0 k1).2.2.2.2.2 l l0 l1).1
      rcases U_sl (n := n) h ⟨k0, k1⟩ ⟨l0, l1⟩ with u | u
      · rw [u.1]
        exact Int.le_refl _
      · rw [u.1]
        omega
    · exact Int.le_refl _
theorem Inv0.sln (h : Inv0 D A) : SlN A := fun k l k0 k1 l0 l1 => by
  have hn := h.1
  have z := ((h.loan k0 k1).sl l0 (show l < 6 by omega)).1
  exact ⟨z.1, z.2.1⟩
theorem Inv0.nn (h : Inv0 D A) (hD : D ≤ 20000000) : ∀ k, 0 ≤ k → k < A 7 → 0 ≤ quanA A k := fun k k0 k1 => by
  have hn := h.1
  exact (quan_Sl ((h.loan k0 k1).Sl hD (by omega) (by omega) (by omega))).1
theorem dayU_inv (hD : D < 20000000) (hI : Inv D A) : Inv0 (D + 1) (dayU A) := by
  have hn := hI.n
  have hp := pd_ac hI (n := A 7) (by omega) (Int.le_refl _)
  have iP := hI.ac hp
  have e7 := hp 7 (by omega) (by omega)
  unfold dayU
  generalize pdX A (A 7) = P at iP e7 ⊢
  rw [← e7]
  exact bd_inv iP (bd_ok hD iP (by have := iP.n; omega) (Int.le_refl _))
/-- the model's n days, and n days without closing -/
theorem dys_cls (hD : D + n ≤ 20000000) (hI : Inv D A) (n0 : 0 ≤ n) : Cls (UU A n) (dysX A n) := by
  have h0 := hI.w
  have hA := h0.dyI
  have hn := hI.n
  have key := itr_ind (f := fun _ => dayA) (a := A) (fun m C => Cls (UU A m) C ∧ Inv (D + m) C) ⟨by
    rw [U_0 (fun k l k0 k1 l0 l1 z => ((((h0.loan k0 k1).sl l0 (show l < 6 by omega)).2.2.1) z).1)]
    exact Cls.refl (by omega), by rw [Int.add_zero]; exact hI⟩ n0 (fun m C m0 m1 hC => by
    obtain ⟨hc, hi⟩ := hC
    have u := U_inv (n := m) h0 m0
    have d := hc.day u.dyI u.sln
    rw [U_s hA m0 (fun k l k0 k1 l0 l1 => (h0.sln k l k0 k1 l0 l1).1)] at d
    have u1 := U_inv (n := m + 1) h0 (by omega)
    have i0 := dayU_inv (by omega) hi
    refine ⟨(d.close (by have := u1.1; omega) (i0.nn (by omega))).1, ?_⟩
    rw [show D + (m + 1) = D + m + 1 by omega]
    exact day_inv (by omega) hi)
  exact key.1
/-- what the class is left with after it has dropped closed loans -/
theorem dys_eq (hD : D + n ≤ 20000000) (hI : Inv D A) (n0 : 0 ≤ n) : (∀ j, 0 ≤ j → j < 83 → dysX A n j = closeA (UU A n) j) ∧ ∀ x c, 0 ≤ x → x < closeA (UU A n) 7 → 0 ≤ c → c < 23 → dysX A n (83 + 23 * x + c) = closeA (UU A n) (83 + 23 * x + c) := by
  have u := U_inv (n := n) hI.w n0
  have hn := u.1
  have a := (Cls.refl (B := UU A n) (by omega)).close (by omega) (u.nn (by omega))
  have i := dys_inv hD hI n0
  exact Cls.uniq a.1 (dys_cls hD hI n0) (by omega) a.2 (fun k k0 k1 => i.quan k0 k1)
end Ui

