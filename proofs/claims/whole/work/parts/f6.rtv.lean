section Rv
variable {D : Int} {A : St} {k K : Int}
/-- the lenders in the row of a return are lenders -/
theorem back_lend {q : Int} (hG : G1 k K A ⟨A, q, 0, fun _ => 0⟩) : ∀ j, 0 ≤ (backA k A q).r j ∧ (backA k A q).r j ≤ 6 := by
  have up : ∀ (r : Int → Int) (c v : Int), (∀ j, 0 ≤ r j ∧ r j ≤ 6) → (0 ≤ v ∧ v ≤ 6) → ∀ j, 0 ≤ upI r c v j ∧ upI r c v j ≤ 6 := fun r c v h hv j => by
    unfold upI
    split
    · exact hv
    · exact h j
  have i1 := wh_inv (I := fun x : Bk => G1 k K A x ∧ ∀ j, 0 ≤ x.r j ∧ x.r j ≤ 6) (g := gk1 k) (f := bk1 k) (m := mk) (fun x hx hg => by
    have s1 := G1_s hx.1 hg
    refine ⟨⟨s1.1, ?_⟩, s1.2⟩
    have hg2 := of_decide_eq_true hg
    have hs := hx.1.1.1.1
    refine up x.r x.c (nduA x.A k) hx.2 ?_
    rcases ndX_ok (rc := fun l => x.A (83 + 23 * k + 11 + l)) (du := fun l => x.A (83 + 23 * k + 17 + l)) (n := x.A 1) hs.1 with y | y
    · exact absurd y.1 hg2.1
    · have e : ndX (fun l => x.A (83 + 23 * k + 11 + l)) (fun l => x.A (83 + 23 * k + 17 + l)) (x.A 1) = nduA x.A k := rfl
      rw [e] at y
      have := y.1
      omega) (x := ⟨A, q, 0, fun _ => 0⟩) ⟨hG, fun j => ⟨Int.le_refl 0, by show (0 : Int) ≤ 6; decide⟩⟩
  have i2 := wh_inv (I := fun x : Bk => G2 k K A x ∧ ∀ j, 0 ≤ x.r j ∧ x.r j ≤ 6) (g := gk2) (f := bk2 k) (m := mk) (fun x hx hg => by
    have s1 := G2_s hx.1 hg
    refine ⟨⟨s1.1, ?_⟩, s1.2⟩
    have hg2 := of_decide_eq_true hg
    obtain ⟨hs, ho, hq, hsum, -⟩ := hx.1.1
    have e1 : x.A 1 = A 1 := ho 1 (by have := hs.2.1; omega)
    have hn1 : 0 < A 1 := by
      rcases lt_ge 0 (A 1) with z | z
      · exact z
      · rw [sm_neg _ z] at hsum
        omega
    have hgs := (amx_ok (r := fun l => x.A (83 + 23 * k + 5 + l)) (n := x.A 1) (by omega)).1
    have h6 := hs.1
    refine up x.r x.c (gslA x.A k) hx.2 ?_
    have e : amx (fun l => x.A (83 + 23 * k + 5 + l)) (x.A 1) = gslA x.A k := rfl
    rw [e] at hgs
    omega) ⟨G1_G2 i1.1.1 i1.2, i1.1.2⟩
  exact i2.1.2
theorem rt_bd {n : Int} (hD : D ≤ 20000000) (hI : Inv D A) (hk : 0 ≤ k ∧ k < A 7) : (rtV A k n = -1 ∧ ¬ n < (backA k A (quanA A k)).c) ∨ ((0 ≤ rtV A k n ∧ rtV A k n ≤ 6) ∧ n < (backA k A (quanA A k)).c ∧ rtV A k n = (backA k A (quanA A k)).r n) := by
  have hq := hI.quan hk.1 hk.2
  have h := back_lend (G1_init (r := fun _ => 0) hD hI hk.1 hk.2 (q := quanA A k) ⟨by omega, Int.le_refl _⟩) n
  unfold rtV
  by_cases z : n < (backA k A (quanA A k)).c
  · rw [if_pos z]
    exact Or.inr ⟨h, z, rfl⟩
  · rw [if_neg z]
    exact Or.inl ⟨rfl, z⟩
end Rv

