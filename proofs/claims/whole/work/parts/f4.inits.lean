section In4
variable {σ : Hp}
theorem R_X0init (h24 : σ.al 24 0 = false) (h25 : σ.al 25 0 = false) (h26 : σ.al 26 0 = false) (h27 : σ.al 27 0 = false) (h28 : σ.al 28 0 = false) (h29 : σ.al 29 0 = false) : Rt m_X0_init 1 6 36 [vR (some (0, 0))] σ none ((((((((((((σ.new 24 0).setF 0 0 0 (some (24, 0))).new 25 0).setF 0 0 1 (some (25, 0))).new 26 0).setF 0 0 3 (some (26, 0))).new 27 0).setF 0 0 4 (some (27, 0))).new 28 0).setF 0 0 5 (some (28, 0))).new 29 0).setF 0 0 6 (some (29, 0))) := by
  show V _ 1 6 36 0 [some (vR (some (0, 0)))] [] σ _
  refine V_aldn0 a_X0_init_0 ?_
  refine V_objInit a_X0_init_1 oi_X0_3 oi_i oi_c (by omega) (by exact Nat.le_of_ble_eq_true rfl) ?_
  refine V_aldn0 a_X0_init_4 ?_
  refine V_bipush a_X0_init_5 (by decide) ?_
  refine V_newA a_X0_init_7 (t := 24) (i := 0) rfl rfl (by decide) rfl arc_int h24 ?_
  refine V_putF a_X0_init_9 f_X0_9 rfl rfl rfl (by exact Nat.le_of_ble_eq_true rfl) ?_
  refine V_aldn0 a_X0_init_12 ?_
  refine V_bipush a_X0_init_13 (by decide) ?_
  refine V_newA a_X0_init_15 (t := 25) (i := 0) rfl rfl (by decide) rfl arc_int (by simp [al_new, al_setF, h25]) ?_
  refine V_putF a_X0_init_17 f_X0_15 rfl rfl rfl (by exact Nat.le_of_ble_eq_true rfl) ?_
  refine V_aldn0 a_X0_init_20 ?_
  refine V_bipush a_X0_init_21 (by decide) ?_
  refine V_newA a_X0_init_23 (t := 26) (i := 0) rfl rfl (by decide) rfl arc_int (by simp [al_new, al_setF, h26]) ?_
  refine V_putF a_X0_init_25 f_X0_18 rfl rfl rfl (by exact Nat.le_of_ble_eq_true rfl) ?_
  refine V_aldn0 a_X0_init_28 ?_
  refine V_bipush a_X0_init_29 (by decide) ?_
  refine V_newA a_X0_init_31 (t := 27) (i := 0) rfl rfl (by decide) rfl arc_int (by simp [al_new, al_setF, h27]) ?_
  refine V_putF a_X0_init_33 f_X0_21 rfl rfl rfl (by exact Nat.le_of_ble_eq_true rfl) ?_
  refine V_aldn0 a_X0_init_36 ?_
  refine V_bipush a_X0_init_37 (by decide) ?_
  refine V_newA a_X0_init_39 (t := 28) (i := 0) rfl rfl (by decide) rfl arc_int (by simp [al_new, al_setF, h28]) ?_
  refine V_putF a_X0_init_41 f_X0_24 rfl rfl rfl (by exact Nat.le_of_ble_eq_true rfl) ?_
  refine V_aldn0 a_X0_init_44 ?_
  refine V_bipush a_X0_init_45 (by decide) ?_
  refine V_newA a_X0_init_47 (t := 29) (i := 0) rfl rfl (by decide) rfl arc_long (by simp [al_new, al_setF, h29]) ?_
  refine V_putF a_X0_init_49 f_X0_27 rfl rfl rfl (by exact Nat.le_of_ble_eq_true rfl) ?_
  exact V_ret a_X0_init_52 (⟨rfl, rfl⟩)
theorem R_X4init (h33 : σ.al 33 0 = false) : Rt m_X4_init 1 1 12 [vR (some (4, 0))] σ none ((σ.new 33 0).setF 4 0 5 (some (33, 0))) := by
  show V _ 1 1 12 0 [some (vR (some (4, 0)))] [] σ _
  refine V_aldn0 a_X4_init_0 ?_
  refine V_objInit a_X4_init_1 oi_X4_3 oi_i oi_c (by omega) (by exact Nat.le_of_ble_eq_true rfl) ?_
  refine V_aldn0 a_X4_init_4 ?_
  refine V_bipush a_X4_init_5 (by decide) ?_
  refine V_newA a_X4_init_7 (t := 33) (i := 0) rfl rfl (by decide) rfl arc_int h33 ?_
  refine V_putF a_X4_init_9 f_X4_9 rfl rfl rfl (by exact Nat.le_of_ble_eq_true rfl) ?_
  exact V_ret a_X4_init_12 (⟨rfl, rfl⟩)
theorem R_X5init (h22 : σ.al 22 0 = false) : Rt m_X5_init 1 1 4 [vR (some (5, 0))] σ none ((σ.new 22 0).setF 5 0 0 (some (22, 0))) := by
  show V _ 1 1 4 0 [some (vR (some (5, 0)))] [] σ _
  refine V_aldn0 a_X5_init_0 ?_
  refine V_objInit a_X5_init_1 oi_X5_3 oi_i oi_c (by omega) (by exact Nat.le_of_ble_eq_true rfl) ?_
  refine V_aldn0 a_X5_init_4 ?_
  refine V_iconst a_X5_init_5 ?_
  refine V_newA a_X5_init_6 (t := 22) (i := 0) rfl rfl (by decide) rfl arc_int h22 ?_
  refine V_putF a_X5_init_8 f_X5_9 rfl rfl rfl (by exact Nat.le_of_ble_eq_true rfl) ?_
  exact V_ret a_X5_init_11 (⟨rfl, rfl⟩)
theorem R_X9init (h20 : σ.al 20 0 = false) : Rt m_X9_init 1 1 600 [vR (some (9, 0))] σ none ((σ.new 20 0).setF 9 0 5 (some (20, 0))) := by
  show V _ 1 1 600 0 [some (vR (some (9, 0)))] [] σ _
  refine V_aldn0 a_X9_init_0 ?_
  refine V_objInit a_X9_init_1 oi_X9_3 oi_i oi_c (by omega) (by exact Nat.le_of_ble_eq_true rfl) ?_
  refine V_aldn0 a_X9_init_4 ?_
  refine V_sipush a_X9_init_5 (by decide) ?_
  refine V_newA a_X9_init_8 (t := 20) (i := 0) rfl rfl (by decide) rfl arc_char h20 ?_
  refine V_putF a_X9_init_10 f_X9_9 rfl rfl rfl (by exact Nat.le_of_ble_eq_true rfl) ?_
  exact V_ret a_X9_init_13 (⟨rfl, rfl⟩)
theorem R_X8init (h35 : σ.al 35 0 = false) : Rt m_X8_init 1 1 2200 [vR (some (8, 0))] σ none ((σ.new 35 0).setF 8 0 1 (some (35, 0))) := by
  show V _ 1 1 2200 0 [some (vR (some (8, 0)))] [] σ _
  refine V_aldn0 a_X8_init_0 ?_
  refine V_objInit a_X8_init_1 oi_X8_3 oi_i oi_c (by omega) (by exact Nat.le_of_ble_eq_true rfl) ?_
  refine V_aldn0 a_X8_init_4 ?_
  refine V_sipush a_X8_init_5 (by decide) ?_
  refine V_newA a_X8_init_8 (t := 35) (i := 0) rfl rfl (by decide) rfl arc_byte h35 ?_
  refine V_putF a_X8_init_10 f_X8_11 rfl rfl rfl (by exact Nat.le_of_ble_eq_true rfl) ?_
  exact V_ret a_X8_init_13 (⟨rfl, rfl⟩)
theorem R_X7init (h21 : σ.al 21 0 = false) : Rt m_X7_init 1 1 3 [vR (some (7, 0))] σ none (((σ.setI 7 0 1 (-1)).new 21 0).setF 7 0 2 (some (21, 0))) := by
  show V _ 1 1 3 0 [some (vR (some (7, 0)))] [] σ _
  refine V_aldn0 a_X7_init_0 ?_
  refine V_objInit a_X7_init_1 oi_X7_3 oi_i oi_c (by omega) (by exact Nat.le_of_ble_eq_true rfl) ?_
  refine V_aldn0 a_X7_init_4 ?_
  refine V_iconst a_X7_init_5 ?_
  refine V_putI a_X7_init_6 f_X7_9 rfl ?_
  refine V_aldn0 a_X7_init_9 ?_
  refine V_iconst a_X7_init_10 ?_
  refine V_newA a_X7_init_11 (t := 21) (i := 0) rfl rfl (by decide) rfl arc_int h21 ?_
  refine V_putF a_X7_init_13 f_X7_15 rfl rfl rfl (by exact Nat.le_of_ble_eq_true rfl) ?_
  exact V_ret a_X7_init_16 (⟨rfl, rfl⟩)
theorem R_X2init (h34 : σ.al 34 0 = false) : Rt m_X2_init 1 1 10 [vR (some (2, 0))] σ none ((σ.new 34 0).setF 2 0 2 (some (34, 0))) := by
  show V _ 1 1 10 0 [some (vR (some (2, 0)))] [] σ _
  refine V_aldn0 a_X2_init_0 ?_
  refine V_objInit a_X2_init_1 oi_X2_3 oi_i oi_c (by omega) (by exact Nat.le_of_ble_eq_true rfl) ?_
  refine V_aldn0 a_X2_init_4 ?_
  refine V_bipush a_X2_init_5 (by decide) ?_
  refine V_newQ a_X2_init_7 (t := 34) (i := 0) rfl (Or.inl ⟨rfl, rfl⟩) kl_X2_9 h34 ?_
  refine V_putF a_X2_init_10 f_X2_11 rfl rfl rfl (by exact Nat.le_of_ble_eq_true rfl) ?_
  exact V_ret a_X2_init_13 (⟨rfl, rfl⟩)
end In4

