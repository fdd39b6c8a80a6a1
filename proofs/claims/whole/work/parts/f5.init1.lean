section In5
variable {σ : Hp} {j : Nat}
def hX0 (σ : Hp) : Hp := (((((((((((σ.new 24 0).setF 0 0 0 (some (24, 0))).new 25 0).setF 0 0 1 (some (25, 0))).new 26 0).setF 0 0 3 (some (26, 0))).new 27 0).setF 0 0 4 (some (27, 0))).new 28 0).setF 0 0 5 (some (28, 0))).new 29 0).setF 0 0 6 (some (29, 0))
def hX3 (j : Nat) (σ : Hp) : Hp := (((((σ.new 30 j).setF 3 j 5 (some (30, j))).new 31 j).setF 3 j 6 (some (31, j))).new 32 j).setF 3 j 7 (some (32, j))
def hX1 (σ : Hp) : Hp := (hX3 999 ((((((hX0 (σ.new 0 0)).setF 1 0 0 (some (0, 0))).new 23 0).setF 1 0 1 (some (23, 0))).new 3 999))).setF 1 0 2 (some (3, 999))
theorem al_hX0 {t n : Nat} : (hX0 σ).al t n = if (24 ≤ t ∧ t ≤ 29) ∧ n = 0 then true else σ.al t n := by
  unfold hX0
  simp only [al_setF, al_new]
  by_cases z : (24 ≤ t ∧ t ≤ 29) ∧ n = 0
  · rw [if_pos z]
    have c : t = 24 ∨ t = 25 ∨ t = 26 ∨ t = 27 ∨ t = 28 ∨ t = 29 := by omega
    obtain ⟨-, rfl⟩ := z
    rcases c with rfl | rfl | rfl | rfl | rfl | rfl <;> simp
  · rw [if_neg z, if_neg (by omega), if_neg (by omega), if_neg (by omega), if_neg (by omega), if_neg (by omega), if_neg (by omega)]
theorem R_X3e (h30 : σ.al 30 j = false) (h31 : σ.al 31 j = false) (h32 : σ.al 32 j = false) : Rt m_X3_init 1 3 18 [vR (some (3, j))] σ none (hX3 j σ) := by
  show V _ 1 3 18 0 [some (vR (some (3, j)))] [] σ _
  refine V_aldn0 a_X3_init_0 ?_
  refine V_objInit a_X3_init_1 oi_X3_3 oi_i oi_c (by omega) (by exact Nat.le_of_ble_eq_true rfl) ?_
  refine V_aldn0 a_X3_init_4 ?_
  refine V_bipush a_X3_init_5 (by decide) ?_
  refine V_newA a_X3_init_7 (t := 30) (i := j) rfl rfl (by decide) rfl arc_int h30 ?_
  refine V_putF a_X3_init_9 f_X3_9 rfl rfl rfl (by exact Nat.le_of_ble_eq_true rfl) ?_
  refine V_aldn0 a_X3_init_12 ?_
  refine V_bipush a_X3_init_13 (by decide) ?_
  refine V_newA a_X3_init_15 (t := 31) (i := j) rfl rfl (by decide) rfl arc_int (by simp [al_new, al_setF, h31]) ?_
  refine V_putF a_X3_init_17 f_X3_15 rfl rfl rfl (by exact Nat.le_of_ble_eq_true rfl) ?_
  refine V_aldn0 a_X3_init_20 ?_
  refine V_bipush a_X3_init_21 (by decide) ?_
  refine V_newA a_X3_init_23 (t := 32) (i := j) rfl rfl (by decide) rfl arc_int (by simp [al_new, al_setF, h32]) ?_
  refine V_putF a_X3_init_25 f_X3_18 rfl rfl rfl (by exact Nat.le_of_ble_eq_true rfl) ?_
  exact V_ret a_X3_init_28 (⟨rfl, rfl⟩)
theorem R_X0e (h : ∀ t, 24 ≤ t → t ≤ 29 → σ.al t 0 = false) : Rt m_X0_init 1 6 36 [vR (some (0, 0))] σ none (hX0 σ) := R_X0init (h 24 (by decide) (by decide)) (h 25 (by decide) (by decide)) (h 26 (by decide) (by decide)) (h 27 (by decide) (by decide)) (h 28 (by decide) (by decide)) (h 29 (by decide) (by decide))
theorem R_X1init (h0 : σ.al 0 0 = false) (h : ∀ t, 23 ≤ t → t ≤ 29 → σ.al t 0 = false) (h3 : σ.al 3 999 = false) (h30 : σ.al 30 999 = false) (h31 : σ.al 31 999 = false) (h32 : σ.al 32 999 = false) : Rt m_X1_init 2 12 84 [vR (some (1, 0))] σ none (hX1 σ) := by
  have h23 := h 23 (by decide) (by decide)
  have r0 : Rt m_X0_init 1 6 36 [vR (some (0, 0))] (σ.new 0 0) none (hX0 (σ.new 0 0)) := R_X0e (fun t t0 t1 => by
    rw [al_new, if_neg (by omega)]
    exact h t (by omega) t1)
  have e23 : (hX0 (σ.new 0 0)).al 23 0 = false := by
    rw [al_hX0, if_neg (by decide), al_new, if_neg (by decide)]
    exact h23
  have e9 : ∀ t, (t = 3 ∨ t = 30 ∨ t = 31 ∨ t = 32) → (hX0 (σ.new 0 0)).al t 999 = false := fun t ht => by
    rw [al_hX0, if_neg (by omega), al_new, if_neg (by omega)]
    rcases ht with rfl | rfl | rfl | rfl
    · exact h3
    · exact h30
    · exact h31
    · exact h32
  unfold hX1
  generalize hX0 (σ.new 0 0) = τ at r0 e23 e9 ⊢
  have e4 : ∀ t, (t = 3 ∨ t = 30 ∨ t = 31 ∨ t = 32) → (((τ.setF 1 0 0 (some (0, 0))).new 23 0).setF 1 0 1 (some (23, 0))).al t 999 = false := fun t ht => by
    rw [al_setF, al_new, if_neg (by omega), al_setF]
    exact e9 t ht
  have k23 : V m_X1_init 2 4 26 23 [some (vR (some (1, 0)))] [] (((τ.setF 1 0 0 (some (0, 0))).new 23 0).setF 1 0 1 (some (23, 0))) (fun r ρ => r = .inl none ∧ ρ = (hX3 999 ((((τ.setF 1 0 0 (some (0, 0))).new 23 0).setF 1 0 1 (some (23, 0))).new 3 999)).setF 1 0 2 (some (3, 999))) := by
    generalize ((τ.setF 1 0 0 (some (0, 0))).new 23 0).setF 1 0 1 (some (23, 0)) = κ at e4 ⊢
    have r3 : Rt m_X3_init 1 3 18 [vR (some (3, 999))] (κ.new 3 999) none (hX3 999 (κ.new 3 999)) := R_X3e (by rw [al_new, if_neg (by omega)]; exact e4 30 (by omega)) (by rw [al_new, if_neg (by omega)]; exact e4 31 (by omega)) (by rw [al_new, if_neg (by omega)]; exact e4 32 (by omega))
    generalize hX3 999 (κ.new 3 999) = ρ at r3 ⊢
    refine V_aldn0 a_X1_init_23 ?_
    refine V_newO a_X1_init_24 (t := 3) (i := 999) (by decide) kl_X1_22 ins_3 ini_3 (e4 3 (by omega)) ?_
    first | refine V_dupR a_X1_init_27 ?_ | refine V_dupI a_X1_init_27 ?_
    refine V_i0V a_X1_init_28 c_X1_24 r3 ?_
    refine V_putF a_X1_init_31 f_X1_25 rfl rfl rfl (by exact Nat.le_of_ble_eq_true rfl) ?_
    exact V_ret a_X1_init_34 (⟨rfl, rfl⟩)
  generalize (hX3 999 ((((τ.setF 1 0 0 (some (0, 0))).new 23 0).setF 1 0 1 (some (23, 0))).new 3 999)).setF 1 0 2 (some (3, 999)) = ω at k23 ⊢
  show V _ 2 12 84 0 [some (vR (some (1, 0)))] [] σ _
  refine V_aldn0 a_X1_init_0 ?_
  refine V_objInit a_X1_init_1 oi_X1_3 oi_i oi_c (by omega) (by exact Nat.le_of_ble_eq_true rfl) ?_
  refine V_aldn0 a_X1_init_4 ?_
  refine V_newO a_X1_init_5 (t := 0) (i := 0) (by decide) kl_X1_9 ins_0 ini_0 h0 ?_
  first | refine V_dupR a_X1_init_8 ?_ | refine V_dupI a_X1_init_8 ?_
  refine V_i0V a_X1_init_9 c_X1_11 r0 ?_
  refine V_putF a_X1_init_12 f_X1_12 rfl rfl rfl (by exact Nat.le_of_ble_eq_true rfl) ?_
  refine V_aldn0 a_X1_init_15 ?_
  refine V_bipush a_X1_init_16 (by decide) ?_
  refine V_newA a_X1_init_18 (t := 23) (i := 0) rfl rfl (by decide) rfl arc_int (by rw [al_setF]; exact e23) ?_
  refine V_putF a_X1_init_20 f_X1_18 rfl rfl rfl (by exact Nat.le_of_ble_eq_true rfl) ?_
  exact k23
end In5

