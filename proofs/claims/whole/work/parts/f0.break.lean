section Q8
variable {D : Int} {σ : Hp} {s : Lsv}
theorem bw_nn {A : St} (hI : Inv D A) {b c : Int} : 0 ≤ bwX A b c ∧ bwX A b c ≤ 12 * 599994 := by
  have hn := hI.n
  have h := sm_bd (f := fun k => if A (83 + 23 * k + 1) = b ∧ A (83 + 23 * k + 2) = c then quanA A k else 0) (k := A 7) (lo := 0) (hi := 599994) (by omega) (fun k k0 k1 => by
    have := quan_bd hI k0 k1
    show 0 ≤ (if A (83 + 23 * k + 1) = b ∧ A (83 + 23 * k + 2) = c then quanA A k else 0) ∧ (if A (83 + 23 * k + 1) = b ∧ A (83 + 23 * k + 2) = c then quanA A k else 0) ≤ 599994
    split <;> omega)
  unfold bwX
  omega
theorem ow_nn {A : St} (hI : Inv D A) {b c : Int} : 0 ≤ owX A b c ∧ owX A b c ≤ 12 * (599994 * 9999) := by
  have hn := hI.n
  have h := sm_bd (f := fun k => if A (83 + 23 * k + 1) = b ∧ A (83 + 23 * k + 2) ≠ c then quanA A k * A (15 + A (83 + 23 * k + 2)) else 0) (k := A 7) (lo := 0) (hi := 599994 * 9999) (by omega) (fun k k0 k1 => by
    have h1 := quan_bd hI k0 k1
    obtain ⟨-, -, q2, -⟩ := hI.loan k0 k1
    have h2 := (hI.price q2.1 q2.2).1
    have h3 := mul_bd (a := quanA A k) (b := A (15 + A (83 + 23 * k + 2))) (M := 599994) (N := 9999) (by omega) (by omega) (by omega) (by omega)
    show 0 ≤ (if A (83 + 23 * k + 1) = b ∧ A (83 + 23 * k + 2) ≠ c then quanA A k * A (15 + A (83 + 23 * k + 2)) else 0) ∧ (if A (83 + 23 * k + 1) = b ∧ A (83 + 23 * k + 2) ≠ c then quanA A k * A (15 + A (83 + 23 * k + 2)) else 0) ≤ 599994 * 9999
    split <;> omega)
  unfold owX
  omega
/-- what a borrower owes when a price is v -/
theorem expo_up {A : St} (hI : Inv D A) {b c v : Int} (hc : 0 ≤ c ∧ c < 4) : expoA (upI A (15 + c) v) b = owX A b c + v * bwX A b c := by
  have hn := hI.n
  have e : ∀ j, j < 15 ∨ 19 ≤ j → upI A (15 + c) v j = A j := fun j hj => upI_ne (by omega)
  unfold expoA owX bwX
  rw [← sm_mul, ← sm_add, e 7 (by omega)]
  refine sm_congr (fun k k0 k1 => ?_)
  obtain ⟨-, -, q2, -⟩ := hI.loan k0 k1
  have eq : quanA (upI A (15 + c) v) k = quanA A k := by
    unfold quanA
    rw [e 1 (by omega)]
    exact sm_congr (fun l l0 l1 => e _ (by omega))
  rw [eq, e (83 + 23 * k + 1) (by omega), e (83 + 23 * k + 2) (by omega)]
  by_cases z : A (83 + 23 * k + 1) = b
  · rw [if_pos z]
    by_cases y : A (83 + 23 * k + 2) = c
    · rw [if_neg (fun w => w.2 y), if_pos ⟨z, y⟩, y, upI_eq, Int.zero_add, Int.mul_comm]
    · rw [if_pos ⟨z, y⟩, if_neg (fun w => y w.2), upI_ne (by omega), Int.mul_zero, Int.add_zero]
  · rw [if_neg z, if_neg (fun w => z w.1), if_neg (fun w => z w.1), Int.mul_zero, Int.add_zero]
/-- the search's end -/
theorem bp_eq {A : St} (hI : Inv D A) {b c : Int} (hc : 0 ≤ c ∧ c < 4) : bpA A b c = if A (45 + b) - owX A b c < 0 then 0 else if bwX A b c ≤ 0 ∨ 9999 ≤ (A (45 + b) - owX A b c).tdiv (bwX A b c) then -1 else (A (45 + b) - owX A b c).tdiv (bwX A b c) := by
  have hb := bw_nn hI (b := b) (c := c)
  have key : ∀ i, decide (A (45 + b) < expoA (upI A (15 + c) (i + 1)) b) = decide (A (45 + b) - owX A b c < (i + 1) * bwX A b c) := fun i => by
    rw [expo_up hI hc]
    exact decide_eq_decide.mpr (by omega)
  have e0 : bpA A b c = fst (fun i => decide (A (45 + b) - owX A b c < (i + 1) * bwX A b c)) 9999 := by
    unfold bpA
    rw [funext key]
  rw [e0]
  generalize A (45 + b) - owX A b c = r
  generalize bwX A b c = w at hb
  by_cases z : r < 0
  · rw [if_pos z]
    exact fst_found (Int.le_refl 0) (by decide) (decide_eq_true (by omega)) (fun j j0 j1 => by omega)
  · rw [if_neg z]
    by_cases y : w ≤ 0
    · rw [if_pos (Or.inl y)]
      exact fst_none (fun j j0 j1 => decide_eq_false (by rw [show w = 0 by omega, Int.mul_zero]; omega))
    · rw [Int.tdiv_eq_ediv_of_nonneg (by omega)]
      have d0 := Int.ediv_nonneg (a := r) (b := w) (by omega) (by omega)
      have d1 := Int.mul_ediv_self_le (x := r) (k := w) (by omega)
      have d2 := Int.lt_mul_ediv_self_add (x := r) (k := w) (by omega)
      have less : ∀ j, 0 ≤ j → j < r / w → decide (r < (j + 1) * w) = false := fun j j0 j1 => decide_eq_false (by
        have := Int.mul_le_mul_of_nonneg_right (show j + 1 ≤ r / w by omega) (show 0 ≤ w by omega)
        rw [Int.mul_comm (r / w) w] at this
        omega)
      by_cases x : 9999 ≤ r / w
      · rw [if_pos (Or.inr x)]
        exact fst_none (fun j j0 j1 => less j j0 (by omega))
      · rw [if_neg (by omega)]
        refine fst_found d0 (by omega) (decide_eq_true ?_) less
        rw [Int.add_mul, Int.one_mul, Int.mul_comm (r / w) w]
        omega
theorem X_break_to {b c : Int} {k1 k2 : Nat} {Q : Res → Hp → Prop} (h : CIv D σ s) (hk : (0 ≤ b ∧ b < s.1 2) ∧ 0 ≤ c ∧ c < s.1 0) (k42 : V m_X10_breakingPrice 10 k1 k2 42 [some (vR (some (10, 0))), some (vI b), some (vI c), some (vI (bwX s.1 b c)), some (vL (s.1 (45 + b) - owX s.1 b c)), none] [] σ Q) : V m_X10_breakingPrice 10 k1 k2 0 [some (vR (some (10, 0))), some (vI b), some (vI c), none, none, none] [] σ Q := by
  have hc := h.1
  have hW := hc.2.1
  have hI := hc.2.2.2.2
  have hn := hI.n
  have r1 := R_needBor0 hc hk.1
  have r2 := R_needSec0 hc hk.2
  have cr := hI.cred hk.1.1 hk.1.2
  have ec := hc.2.2.1.2.2.2.2.1 b hk.1.1 hk.1.2
  have r3 := R_borrowedBy (b := b) (s := c) hc (by unfold iR; omega) (by unfold iR; omega)
  have r4 := R_owedBy (b := b) (x := c) hc (by unfold iR; omega) (by unfold iR; omega)
  refine V_aldn0 a_X10_breakingPrice_0 ?_
  refine V_ildn1 a_X10_breakingPrice_1 ?_
  refine V_v1V a_X10_breakingPrice_2 c_X10_209 r1 ?_
  refine V_aldn0 a_X10_breakingPrice_5 ?_
  refine V_ildn2 a_X10_breakingPrice_6 ?_
  refine V_v1V a_X10_breakingPrice_7 c_X10_180 r2 ?_
  refine V_aldn0 a_X10_breakingPrice_10 ?_
  refine V_fin a_X10_breakingPrice_11 f_X10_61 rfl hW ?_
  refine V_ildn1 a_X10_breakingPrice_14 ?_
  refine V_ildn2 a_X10_breakingPrice_15 ?_
  refine V_v2R a_X10_breakingPrice_16 c_X10_359 r3 ?_
  refine V_istn3 a_X10_breakingPrice_19 ?_
  refine V_aldn0 a_X10_breakingPrice_20 ?_
  refine V_fin a_X10_breakingPrice_21 f_X10_61 rfl hW ?_
  refine V_fin a_X10_breakingPrice_24 f_X10_212 rfl hW ?_
  refine V_ildn1 a_X10_breakingPrice_27 ?_
  refine V_ialdE a_X10_breakingPrice_28 rfl (by omega) ec ?_
  refine V_i2l a_X10_breakingPrice_29 (by omega) ?_
  refine V_aldn0 a_X10_breakingPrice_30 ?_
  refine V_fin a_X10_breakingPrice_31 f_X10_61 rfl hW ?_
  refine V_ildn1 a_X10_breakingPrice_34 ?_
  refine V_ildn2 a_X10_breakingPrice_35 ?_
  refine V_v2R a_X10_breakingPrice_36 c_X10_230 r4 ?_
  refine V_lsub a_X10_breakingPrice_39 ?_
  refine V_lst4 a_X10_breakingPrice_40 ?_
  exact k42
theorem X_breakingPrice0 {b c : Int} (h : CIv D σ s) (hk : (0 ≤ b ∧ b < s.1 2) ∧ 0 ≤ c ∧ c < s.1 0) (hp : bpA s.1 b c ≠ -1) : Rt m_X10_breakingPrice 10 0 0 [vR (some (10, 0)), vI b, vI c] σ (some (vI (bpA s.1 b c + 1))) σ := by
  have hI := h.1.2.2.2.2
  have hn := hI.n
  have cr := hI.cred hk.1.1 hk.1.2
  have b1 := bw_nn hI (b := b) (c := c)
  have b2 := ow_nn hI (b := b) (c := c)
  have e := bp_eq hI (b := b) (c := c) (by omega)
  show V _ 10 0 0 0 [some (vR (some (10, 0))), some (vI b), some (vI c), none, none, none] [] σ _
  refine X_break_to h hk ?_
  rw [e] at hp ⊢
  have rb : -72000000000 ≤ s.1 (45 + b) - owX s.1 b c ∧ s.1 (45 + b) - owX s.1 b c ≤ 9999999 := by omega
  generalize s.1 (45 + b) - owX s.1 b c = r at rb hp ⊢
  generalize bwX s.1 b c = w at b1 hp ⊢
  by_cases z : r < 0
  · rw [if_pos z]
    refine V_lld4 a_X10_breakingPrice_42 ?_
    refine V_lconst0 a_X10_breakingPrice_44 ?_
    refine V_lc_ge_f a_X10_breakingPrice_45 a_X10_breakingPrice_46 (by omega) (by omega) ?_
    refine V_iconst a_X10_breakingPrice_49 ?_
    exact V_iret a_X10_breakingPrice_50 (⟨rfl, rfl⟩)
  · rw [if_neg z] at hp ⊢
    by_cases y : w ≤ 0 ∨ 9999 ≤ r.tdiv w
    · rw [if_pos y] at hp
      exact absurd rfl hp
    · rw [if_neg y]
      have d0 : 0 ≤ r.tdiv w := by
        rw [Int.tdiv_eq_ediv_of_nonneg (by omega)]
        exact Int.ediv_nonneg (by omega) (by omega)
      refine V_lld4 a_X10_breakingPrice_42 ?_
      refine V_lconst0 a_X10_breakingPrice_44 ?_
      refine V_lc_ge_t a_X10_breakingPrice_45 a_X10_breakingPrice_46 (by omega) (by omega) ?_
      refine V_ildn3 a_X10_breakingPrice_51 ?_
      refine V_if_le_f a_X10_breakingPrice_52 (by omega) (by omega) ?_
      refine V_lld4 a_X10_breakingPrice_55 ?_
      refine V_ildn3 a_X10_breakingPrice_57 ?_
      refine V_i2l a_X10_breakingPrice_58 (by omega) ?_
      refine V_ldiv a_X10_breakingPrice_59 (by omega) ?_
      refine V_ldc2 a_X10_breakingPrice_60 q_X10_362 ?_
      refine V_lc_lt_t a_X10_breakingPrice_63 a_X10_breakingPrice_64 (by omega) (by omega) ?_
      refine V_lld4 a_X10_breakingPrice_78 ?_
      refine V_ildn3 a_X10_breakingPrice_80 ?_
      refine V_i2l a_X10_breakingPrice_81 (by omega) ?_
      refine V_ldiv a_X10_breakingPrice_82 (by omega) ?_
      refine V_l2i a_X10_breakingPrice_83 ?_
      refine V_iconst a_X10_breakingPrice_84 ?_
      refine V_iadd a_X10_breakingPrice_85 ?_
      exact V_iret a_X10_breakingPrice_86 (⟨rfl, rfl⟩)
theorem X_breakingPrice1 {b c : Int} (h : CIv D σ s) (ib : iR b) (ic : iR c) (hk : ¬ ((0 ≤ b ∧ b < s.1 2) ∧ 0 ≤ c ∧ c < s.1 0)) : Tr m_X10_breakingPrice 10 1 6 [vR (some (10, 0)), vI b, vI c] σ xIOB σ := by
  have hc := h.1
  show V _ 10 1 6 0 [some (vR (some (10, 0))), some (vI b), some (vI c), none, none, none] [] σ _
  by_cases z : 0 ≤ b ∧ b < s.1 2
  · have r1 := R_needBor0 hc z
    have r2 := R_needSec1 hc (fun y => hk ⟨z, y⟩) ic
    refine V_aldn0 a_X10_breakingPrice_0 ?_
    refine V_ildn1 a_X10_breakingPrice_1 ?_
    refine V_v1V a_X10_breakingPrice_2 c_X10_209 r1 ?_
    refine V_aldn0 a_X10_breakingPrice_5 ?_
    refine V_ildn2 a_X10_breakingPrice_6 ?_
    exact V_v1Q a_X10_breakingPrice_7 c_X10_180 (r2) (fun v τ hq => by cases hq.1) (fun E τ hq => by obtain ⟨h1, hq⟩ := hq; cases h1; exact ⟨rfl, hq⟩)
  · have r1 := R_needBor1 hc z ib
    refine V_aldn0 a_X10_breakingPrice_0 ?_
    refine V_ildn1 a_X10_breakingPrice_1 ?_
    exact V_v1Q a_X10_breakingPrice_2 c_X10_209 (r1) (fun v τ hq => by cases hq.1) (fun E τ hq => by obtain ⟨h1, hq⟩ := hq; cases h1; exact ⟨rfl, hq⟩)
end Q8

