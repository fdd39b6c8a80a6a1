section In6
variable {σ : Hp} {i : Nat}
def pS (i : Nat) (t n : Nat) : Prop := (t = 6 ∨ (36 ≤ t ∧ t ≤ 47)) ∧ n = i
def nwS (i : Nat) (t n : Nat) : Prop := pS i t n ∨ ((t = 3 ∨ t = 30 ∨ t = 31 ∨ t = 32) ∧ 12 * i ≤ n ∧ n < 12 * i + 12)
/-- the loans of pool i that are there -/
def lkS (i : Nat) (k : Int) (t n : Nat) : Prop := (t = 3 ∨ t = 30 ∨ t = 31 ∨ t = 32) ∧ 12 * i ≤ n ∧ (n : Int) < 12 * i + k
theorem R_X6init (ha : ∀ t n, nwS i t n → t ≠ 6 → σ.al t n = false) : Cv m_X6_init 2 60 407 [vR (some (6, i))] σ none (fun τ => Nw (nwS i) σ τ ∧ τ.al 6 i = σ.al 6 i ∧ (∀ t n, nwS i t n → t ≠ 6 → τ.al t n = true) ∧ (∀ t k n r, nwS i t n → fin t k n = some r → τ.F t n k = some r) ∧ Shp τ i ∧ (∀ t k, 36 ≤ t → t ≤ 44 → τ.I t i k = 0) ∧ ∀ t k, 45 ≤ t → t ≤ 46 → τ.J t i k = 0) := by
  have h36 : σ.al 36 i = false := ha 36 i (Or.inl ⟨Or.inr (by decide), rfl⟩) (by decide)
  have h37 : σ.al 37 i = false := ha 37 i (Or.inl ⟨Or.inr (by decide), rfl⟩) (by decide)
  have h38 : σ.al 38 i = false := ha 38 i (Or.inl ⟨Or.inr (by decide), rfl⟩) (by decide)
  have h39 : σ.al 39 i = false := ha 39 i (Or.inl ⟨Or.inr (by decide), rfl⟩) (by decide)
  have h40 : σ.al 40 i = false := ha 40 i (Or.inl ⟨Or.inr (by decide), rfl⟩) (by decide)
  have h41 : σ.al 41 i = false := ha 41 i (Or.inl ⟨Or.inr (by decide), rfl⟩) (by decide)
  have h42 : σ.al 42 i = false := ha 42 i (Or.inl ⟨Or.inr (by decide), rfl⟩) (by decide)
  have h43 : σ.al 43 i = false := ha 43 i (Or.inl ⟨Or.inr (by decide), rfl⟩) (by decide)
  have h44 : σ.al 44 i = false := ha 44 i (Or.inl ⟨Or.inr (by decide), rfl⟩) (by decide)
  have h45 : σ.al 45 i = false := ha 45 i (Or.inl ⟨Or.inr (by decide), rfl⟩) (by decide)
  have h46 : σ.al 46 i = false := ha 46 i (Or.inl ⟨Or.inr (by decide), rfl⟩) (by decide)
  have h47 : σ.al 47 i = false := ha 47 i (Or.inl ⟨Or.inr (by decide), rfl⟩) (by decide)
  show V _ 2 60 407 0 [some (vR (some (6, i))), none] [] σ _
  refine V_aldn0 a_X6_init_0 ?_
  refine V_objInit a_X6_init_1 oi_X6_3 oi_i oi_c (by omega) (by exact Nat.le_of_ble_eq_true rfl) ?_
  refine V_aldn0 a_X6_init_4 ?_
  refine V_bipush a_X6_init_5 (by decide) ?_
  refine V_newA a_X6_init_7 (t := 36) (i := i) rfl rfl (by decide) rfl arc_int h36 ?_
  refine V_putF a_X6_init_9 f_X6_9 rfl rfl rfl (by exact Nat.le_of_ble_eq_true rfl) ?_
  refine V_aldn0 a_X6_init_12 ?_
  refine V_iconst a_X6_init_13 ?_
  refine V_newA a_X6_init_14 (t := 37) (i := i) rfl rfl (by decide) rfl arc_int (by simp [al_new, al_setF, h37]) ?_
  refine V_putF a_X6_init_16 f_X6_15 rfl rfl rfl (by exact Nat.le_of_ble_eq_true rfl) ?_
  refine V_aldn0 a_X6_init_19 ?_
  refine V_iconst a_X6_init_20 ?_
  refine V_newA a_X6_init_21 (t := 38) (i := i) rfl rfl (by decide) rfl arc_int (by simp [al_new, al_setF, h38]) ?_
  refine V_putF a_X6_init_23 f_X6_18 rfl rfl rfl (by exact Nat.le_of_ble_eq_true rfl) ?_
  refine V_aldn0 a_X6_init_26 ?_
  refine V_iconst a_X6_init_27 ?_
  refine V_newA a_X6_init_28 (t := 39) (i := i) rfl rfl (by decide) rfl arc_int (by simp [al_new, al_setF, h39]) ?_
  refine V_putF a_X6_init_30 f_X6_21 rfl rfl rfl (by exact Nat.le_of_ble_eq_true rfl) ?_
  refine V_aldn0 a_X6_init_33 ?_
  refine V_bipush a_X6_init_34 (by decide) ?_
  refine V_newA a_X6_init_36 (t := 40) (i := i) rfl rfl (by decide) rfl arc_int (by simp [al_new, al_setF, h40]) ?_
  refine V_putF a_X6_init_38 f_X6_24 rfl rfl rfl (by exact Nat.le_of_ble_eq_true rfl) ?_
  refine V_aldn0 a_X6_init_41 ?_
  refine V_bipush a_X6_init_42 (by decide) ?_
  refine V_newA a_X6_init_44 (t := 41) (i := i) rfl rfl (by decide) rfl arc_int (by simp [al_new, al_setF, h41]) ?_
  refine V_putF a_X6_init_46 f_X6_27 rfl rfl rfl (by exact Nat.le_of_ble_eq_true rfl) ?_
  refine V_aldn0 a_X6_init_49 ?_
  refine V_bipush a_X6_init_50 (by decide) ?_
  refine V_newA a_X6_init_52 (t := 42) (i := i) rfl rfl (by decide) rfl arc_int (by simp [al_new, al_setF, h42]) ?_
  refine V_putF a_X6_init_54 f_X6_30 rfl rfl rfl (by exact Nat.le_of_ble_eq_true rfl) ?_
  refine V_aldn0 a_X6_init_57 ?_
  refine V_iconst a_X6_init_58 ?_
  refine V_newA a_X6_init_59 (t := 43) (i := i) rfl rfl (by decide) rfl arc_int (by simp [al_new, al_setF, h43]) ?_
  refine V_putF a_X6_init_61 f_X6_33 rfl rfl rfl (by exact Nat.le_of_ble_eq_true rfl) ?_
  refine V_aldn0 a_X6_init_64 ?_
  refine V_bipush a_X6_init_65 (by decide) ?_
  refine V_newA a_X6_init_67 (t := 44) (i := i) rfl rfl (by decide) rfl arc_int (by simp [al_new, al_setF, h44]) ?_
  refine V_putF a_X6_init_69 f_X6_36 rfl rfl rfl (by exact Nat.le_of_ble_eq_true rfl) ?_
  refine V_aldn0 a_X6_init_72 ?_
  refine V_bipush a_X6_init_73 (by decide) ?_
  refine V_newA a_X6_init_75 (t := 45) (i := i) rfl rfl (by decide) rfl arc_long (by simp [al_new, al_setF, h45]) ?_
  refine V_putF a_X6_init_77 f_X6_39 rfl rfl rfl (by exact Nat.le_of_ble_eq_true rfl) ?_
  refine V_aldn0 a_X6_init_80 ?_
  refine V_iconst a_X6_init_81 ?_
  refine V_newA a_X6_init_82 (t := 46) (i := i) rfl rfl (by decide) rfl arc_long (by simp [al_new, al_setF, h46]) ?_
  refine V_putF a_X6_init_84 f_X6_43 rfl rfl rfl (by exact Nat.le_of_ble_eq_true rfl) ?_
  refine V_aldn0 a_X6_init_87 ?_
  refine V_bipush a_X6_init_88 (by decide) ?_
  refine V_newQ a_X6_init_90 (t := 47) (i := i) rfl (Or.inr ⟨rfl, rfl⟩) kl_X6_46 (by simp [al_new, al_setF, h47]) ?_
  refine V_putF a_X6_init_93 f_X6_48 rfl rfl rfl (by exact Nat.le_of_ble_eq_true rfl) ?_
  refine V_iconst a_X6_init_96 ?_
  refine V_istn1 a_X6_init_97 ?_
  skip
  have nw : Nw (pS i) σ (((((((((((((((((((((((((σ).new 36 i).setF 6 i 0 (some (36, i))).new 37 i).setF 6 i 1 (some (37, i))).new 38 i).setF 6 i 2 (some (38, i))).new 39 i).setF 6 i 3 (some (39, i))).new 40 i).setF 6 i 4 (some (40, i))).new 41 i).setF 6 i 5 (some (41, i))).new 42 i).setF 6 i 6 (some (42, i))).new 43 i).setF 6 i 7 (some (43, i))).new 44 i).setF 6 i 8 (some (44, i))).new 45 i).setF 6 i 9 (some (45, i))).new 46 i).setF 6 i 10 (some (46, i))).new 47 i).setF 6 i 11 (some (47, i))) := ((((((((((((((((((((((((Nw.refl _ _).trans (Nw.new ⟨Or.inr (by decide), rfl⟩)).trans (Nw.setF ⟨Or.inl rfl, rfl⟩)).trans (Nw.new ⟨Or.inr (by decide), rfl⟩)).trans (Nw.setF ⟨Or.inl rfl, rfl⟩)).trans (Nw.new ⟨Or.inr (by decide), rfl⟩)).trans (Nw.setF ⟨Or.inl rfl, rfl⟩)).trans (Nw.new ⟨Or.inr (by decide), rfl⟩)).trans (Nw.setF ⟨Or.inl rfl, rfl⟩)).trans (Nw.new ⟨Or.inr (by decide), rfl⟩)).trans (Nw.setF ⟨Or.inl rfl, rfl⟩)).trans (Nw.new ⟨Or.inr (by decide), rfl⟩)).trans (Nw.setF ⟨Or.inl rfl, rfl⟩)).trans (Nw.new ⟨Or.inr (by decide), rfl⟩)).trans (Nw.setF ⟨Or.inl rfl, rfl⟩)).trans (Nw.new ⟨Or.inr (by decide), rfl⟩)).trans (Nw.setF ⟨Or.inl rfl, rfl⟩)).trans (Nw.new ⟨Or.inr (by decide), rfl⟩)).trans (Nw.setF ⟨Or.inl rfl, rfl⟩)).trans (Nw.new ⟨Or.inr (by decide), rfl⟩)).trans (Nw.setF ⟨Or.inl rfl, rfl⟩)).trans (Nw.new ⟨Or.inr (by decide), rfl⟩)).trans (Nw.setF ⟨Or.inl rfl, rfl⟩)).trans (Nw.new ⟨Or.inr (by decide), rfl⟩)).trans (Nw.setF ⟨Or.inl rfl, rfl⟩)
  have a6 : (((((((((((((((((((((((((σ).new 36 i).setF 6 i 0 (some (36, i))).new 37 i).setF 6 i 1 (some (37, i))).new 38 i).setF 6 i 2 (some (38, i))).new 39 i).setF 6 i 3 (some (39, i))).new 40 i).setF 6 i 4 (some (40, i))).new 41 i).setF 6 i 5 (some (41, i))).new 42 i).setF 6 i 6 (some (42, i))).new 43 i).setF 6 i 7 (some (43, i))).new 44 i).setF 6 i 8 (some (44, i))).new 45 i).setF 6 i 9 (some (45, i))).new 46 i).setF 6 i 10 (some (46, i))).new 47 i).setF 6 i 11 (some (47, i))).al 6 i = σ.al 6 i := by simp [al_new, al_setF]
  have a36 : (((((((((((((((((((((((((σ).new 36 i).setF 6 i 0 (some (36, i))).new 37 i).setF 6 i 1 (some (37, i))).new 38 i).setF 6 i 2 (some (38, i))).new 39 i).setF 6 i 3 (some (39, i))).new 40 i).setF 6 i 4 (some (40, i))).new 41 i).setF 6 i 5 (some (41, i))).new 42 i).setF 6 i 6 (some (42, i))).new 43 i).setF 6 i 7 (some (43, i))).new 44 i).setF 6 i 8 (some (44, i))).new 45 i).setF 6 i 9 (some (45, i))).new 46 i).setF 6 i 10 (some (46, i))).new 47 i).setF 6 i 11 (some (47, i))).al 36 i = true := by simp [al_new, al_setF]
  have a37 : (((((((((((((((((((((((((σ).new 36 i).setF 6 i 0 (some (36, i))).new 37 i).setF 6 i 1 (some (37, i))).new 38 i).setF 6 i 2 (some (38, i))).new 39 i).setF 6 i 3 (some (39, i))).new 40 i).setF 6 i 4 (some (40, i))).new 41 i).setF 6 i 5 (some (41, i))).new 42 i).setF 6 i 6 (some (42, i))).new 43 i).setF 6 i 7 (some (43, i))).new 44 i).setF 6 i 8 (some (44, i))).new 45 i).setF 6 i 9 (some (45, i))).new 46 i).setF 6 i 10 (some (46, i))).new 47 i).setF 6 i 11 (some (47, i))).al 37 i = true := by simp [al_new, al_setF]
  have a38 : (((((((((((((((((((((((((σ).new 36 i).setF 6 i 0 (some (36, i))).new 37 i).setF 6 i 1 (some (37, i))).new 38 i).setF 6 i 2 (some (38, i))).new 39 i).setF 6 i 3 (some (39, i))).new 40 i).setF 6 i 4 (some (40, i))).new 41 i).setF 6 i 5 (some (41, i))).new 42 i).setF 6 i 6 (some (42, i))).new 43 i).setF 6 i 7 (some (43, i))).new 44 i).setF 6 i 8 (some (44, i))).new 45 i).setF 6 i 9 (some (45, i))).new 46 i).setF 6 i 10 (some (46, i))).new 47 i).setF 6 i 11 (some (47, i))).al 38 i = true := by simp [al_new, al_setF]
  have a39 : (((((((((((((((((((((((((σ).new 36 i).setF 6 i 0 (some (36, i))).new 37 i).setF 6 i 1 (some (37, i))).new 38 i).setF 6 i 2 (some (38, i))).new 39 i).setF 6 i 3 (some (39, i))).new 40 i).setF 6 i 4 (some (40, i))).new 41 i).setF 6 i 5 (some (41, i))).new 42 i).setF 6 i 6 (some (42, i))).new 43 i).setF 6 i 7 (some (43, i))).new 44 i).setF 6 i 8 (some (44, i))).new 45 i).setF 6 i 9 (some (45, i))).new 46 i).setF 6 i 10 (some (46, i))).new 47 i).setF 6 i 11 (some (47, i))).al 39 i = true := by simp [al_new, al_setF]
  have a40 : (((((((((((((((((((((((((σ).new 36 i).setF 6 i 0 (some (36, i))).new 37 i).setF 6 i 1 (some (37, i))).new 38 i).setF 6 i 2 (some (38, i))).new 39 i).setF 6 i 3 (some (39, i))).new 40 i).setF 6 i 4 (some (40, i))).new 41 i).setF 6 i 5 (some (41, i))).new 42 i).setF 6 i 6 (some (42, i))).new 43 i).setF 6 i 7 (some (43, i))).new 44 i).setF 6 i 8 (some (44, i))).new 45 i).setF 6 i 9 (some (45, i))).new 46 i).setF 6 i 10 (some (46, i))).new 47 i).setF 6 i 11 (some (47, i))).al 40 i = true := by simp [al_new, al_setF]
  have a41 : (((((((((((((((((((((((((σ).new 36 i).setF 6 i 0 (some (36, i))).new 37 i).setF 6 i 1 (some (37, i))).new 38 i).setF 6 i 2 (some (38, i))).new 39 i).setF 6 i 3 (some (39, i))).new 40 i).setF 6 i 4 (some (40, i))).new 41 i).setF 6 i 5 (some (41, i))).new 42 i).setF 6 i 6 (some (42, i))).new 43 i).setF 6 i 7 (some (43, i))).new 44 i).setF 6 i 8 (some (44, i))).new 45 i).setF 6 i 9 (some (45, i))).new 46 i).setF 6 i 10 (some (46, i))).new 47 i).setF 6 i 11 (some (47, i))).al 41 i = true := by simp [al_new, al_setF]
  have a42 : (((((((((((((((((((((((((σ).new 36 i).setF 6 i 0 (some (36, i))).new 37 i).setF 6 i 1 (some (37, i))).new 38 i).setF 6 i 2 (some (38, i))).new 39 i).setF 6 i 3 (some (39, i))).new 40 i).setF 6 i 4 (some (40, i))).new 41 i).setF 6 i 5 (some (41, i))).new 42 i).setF 6 i 6 (some (42, i))).new 43 i).setF 6 i 7 (some (43, i))).new 44 i).setF 6 i 8 (some (44, i))).new 45 i).setF 6 i 9 (some (45, i))).new 46 i).setF 6 i 10 (some (46, i))).new 47 i).setF 6 i 11 (some (47, i))).al 42 i = true := by simp [al_new, al_setF]
  have a43 : (((((((((((((((((((((((((σ).new 36 i).setF 6 i 0 (some (36, i))).new 37 i).setF 6 i 1 (some (37, i))).new 38 i).setF 6 i 2 (some (38, i))).new 39 i).setF 6 i 3 (some (39, i))).new 40 i).setF 6 i 4 (some (40, i))).new 41 i).setF 6 i 5 (some (41, i))).new 42 i).setF 6 i 6 (some (42, i))).new 43 i).setF 6 i 7 (some (43, i))).new 44 i).setF 6 i 8 (some (44, i))).new 45 i).setF 6 i 9 (some (45, i))).new 46 i).setF 6 i 10 (some (46, i))).new 47 i).setF 6 i 11 (some (47, i))).al 43 i = true := by simp [al_new, al_setF]
  have a44 : (((((((((((((((((((((((((σ).new 36 i).setF 6 i 0 (some (36, i))).new 37 i).setF 6 i 1 (some (37, i))).new 38 i).setF 6 i 2 (some (38, i))).new 39 i).setF 6 i 3 (some (39, i))).new 40 i).setF 6 i 4 (some (40, i))).new 41 i).setF 6 i 5 (some (41, i))).new 42 i).setF 6 i 6 (some (42, i))).new 43 i).setF 6 i 7 (some (43, i))).new 44 i).setF 6 i 8 (some (44, i))).new 45 i).setF 6 i 9 (some (45, i))).new 46 i).setF 6 i 10 (some (46, i))).new 47 i).setF 6 i 11 (some (47, i))).al 44 i = true := by simp [al_new, al_setF]
  have a45 : (((((((((((((((((((((((((σ).new 36 i).setF 6 i 0 (some (36, i))).new 37 i).setF 6 i 1 (some (37, i))).new 38 i).setF 6 i 2 (some (38, i))).new 39 i).setF 6 i 3 (some (39, i))).new 40 i).setF 6 i 4 (some (40, i))).new 41 i).setF 6 i 5 (some (41, i))).new 42 i).setF 6 i 6 (some (42, i))).new 43 i).setF 6 i 7 (some (43, i))).new 44 i).setF 6 i 8 (some (44, i))).new 45 i).setF 6 i 9 (some (45, i))).new 46 i).setF 6 i 10 (some (46, i))).new 47 i).setF 6 i 11 (some (47, i))).al 45 i = true := by simp [al_new, al_setF]
  have a46 : (((((((((((((((((((((((((σ).new 36 i).setF 6 i 0 (some (36, i))).new 37 i).setF 6 i 1 (some (37, i))).new 38 i).setF 6 i 2 (some (38, i))).new 39 i).setF 6 i 3 (some (39, i))).new 40 i).setF 6 i 4 (some (40, i))).new 41 i).setF 6 i 5 (some (41, i))).new 42 i).setF 6 i 6 (some (42, i))).new 43 i).setF 6 i 7 (some (43, i))).new 44 i).setF 6 i 8 (some (44, i))).new 45 i).setF 6 i 9 (some (45, i))).new 46 i).setF 6 i 10 (some (46, i))).new 47 i).setF 6 i 11 (some (47, i))).al 46 i = true := by simp [al_new, al_setF]
  have a47 : (((((((((((((((((((((((((σ).new 36 i).setF 6 i 0 (some (36, i))).new 37 i).setF 6 i 1 (some (37, i))).new 38 i).setF 6 i 2 (some (38, i))).new 39 i).setF 6 i 3 (some (39, i))).new 40 i).setF 6 i 4 (some (40, i))).new 41 i).setF 6 i 5 (some (41, i))).new 42 i).setF 6 i 6 (some (42, i))).new 43 i).setF 6 i 7 (some (43, i))).new 44 i).setF 6 i 8 (some (44, i))).new 45 i).setF 6 i 9 (some (45, i))).new 46 i).setF 6 i 10 (some (46, i))).new 47 i).setF 6 i 11 (some (47, i))).al 47 i = true := by simp [al_new, al_setF]
  have f36 : (((((((((((((((((((((((((σ).new 36 i).setF 6 i 0 (some (36, i))).new 37 i).setF 6 i 1 (some (37, i))).new 38 i).setF 6 i 2 (some (38, i))).new 39 i).setF 6 i 3 (some (39, i))).new 40 i).setF 6 i 4 (some (40, i))).new 41 i).setF 6 i 5 (some (41, i))).new 42 i).setF 6 i 6 (some (42, i))).new 43 i).setF 6 i 7 (some (43, i))).new 44 i).setF 6 i 8 (some (44, i))).new 45 i).setF 6 i 9 (some (45, i))).new 46 i).setF 6 i 10 (some (46, i))).new 47 i).setF 6 i 11 (some (47, i))).F 6 i 0 = some (36, i) := by simp [F_new, F_setF]
  have f37 : (((((((((((((((((((((((((σ).new 36 i).setF 6 i 0 (some (36, i))).new 37 i).setF 6 i 1 (some (37, i))).new 38 i).setF 6 i 2 (some (38, i))).new 39 i).setF 6 i 3 (some (39, i))).new 40 i).setF 6 i 4 (some (40, i))).new 41 i).setF 6 i 5 (some (41, i))).new 42 i).setF 6 i 6 (some (42, i))).new 43 i).setF 6 i 7 (some (43, i))).new 44 i).setF 6 i 8 (some (44, i))).new 45 i).setF 6 i 9 (some (45, i))).new 46 i).setF 6 i 10 (some (46, i))).new 47 i).setF 6 i 11 (some (47, i))).F 6 i 1 = some (37, i) := by simp [F_new, F_setF]
  have f38 : (((((((((((((((((((((((((σ).new 36 i).setF 6 i 0 (some (36, i))).new 37 i).setF 6 i 1 (some (37, i))).new 38 i).setF 6 i 2 (some (38, i))).new 39 i).setF 6 i 3 (some (39, i))).new 40 i).setF 6 i 4 (some (40, i))).new 41 i).setF 6 i 5 (some (41, i))).new 42 i).setF 6 i 6 (some (42, i))).new 43 i).setF 6 i 7 (some (43, i))).new 44 i).setF 6 i 8 (some (44, i))).new 45 i).setF 6 i 9 (some (45, i))).new 46 i).setF 6 i 10 (some (46, i))).new 47 i).setF 6 i 11 (some (47, i))).F 6 i 2 = some (38, i) := by simp [F_new, F_setF]
  have f39 : (((((((((((((((((((((((((σ).new 36 i).setF 6 i 0 (some (36, i))).new 37 i).setF 6 i 1 (some (37, i))).new 38 i).setF 6 i 2 (some (38, i))).new 39 i).setF 6 i 3 (some (39, i))).new 40 i).setF 6 i 4 (some (40, i))).new 41 i).setF 6 i 5 (some (41, i))).new 42 i).setF 6 i 6 (some (42, i))).new 43 i).setF 6 i 7 (some (43, i))).new 44 i).setF 6 i 8 (some (44, i))).new 45 i).setF 6 i 9 (some (45, i))).new 46 i).setF 6 i 10 (some (46, i))).new 47 i).setF 6 i 11 (some (47, i))).F 6 i 3 = some (39, i) := by simp [F_new, F_setF]
  have f40 : (((((((((((((((((((((((((σ).new 36 i).setF 6 i 0 (some (36, i))).new 37 i).setF 6 i 1 (some (37, i))).new 38 i).setF 6 i 2 (some (38, i))).new 39 i).setF 6 i 3 (some (39, i))).new 40 i).setF 6 i 4 (some (40, i))).new 41 i).setF 6 i 5 (some (41, i))).new 42 i).setF 6 i 6 (some (42, i))).new 43 i).setF 6 i 7 (some (43, i))).new 44 i).setF 6 i 8 (some (44, i))).new 45 i).setF 6 i 9 (some (45, i))).new 46 i).setF 6 i 10 (some (46, i))).new 47 i).setF 6 i 11 (some (47, i))).F 6 i 4 = some (40, i) := by simp [F_new, F_setF]
  have f41 : (((((((((((((((((((((((((σ).new 36 i).setF 6 i 0 (some (36, i))).new 37 i).setF 6 i 1 (some (37, i))).new 38 i).setF 6 i 2 (some (38, i))).new 39 i).setF 6 i 3 (some (39, i))).new 40 i).setF 6 i 4 (some (40, i))).new 41 i).setF 6 i 5 (some (41, i))).new 42 i).setF 6 i 6 (some (42, i))).new 43 i).setF 6 i 7 (some (43, i))).new 44 i).setF 6 i 8 (some (44, i))).new 45 i).setF 6 i 9 (some (45, i))).new 46 i).setF 6 i 10 (some (46, i))).new 47 i).setF 6 i 11 (some (47, i))).F 6 i 5 = some (41, i) := by simp [F_new, F_setF]
  have f42 : (((((((((((((((((((((((((σ).new 36 i).setF 6 i 0 (some (36, i))).new 37 i).setF 6 i 1 (some (37, i))).new 38 i).setF 6 i 2 (some (38, i))).new 39 i).setF 6 i 3 (some (39, i))).new 40 i).setF 6 i 4 (some (40, i))).new 41 i).setF 6 i 5 (some (41, i))).new 42 i).setF 6 i 6 (some (42, i))).new 43 i).setF 6 i 7 (some (43, i))).new 44 i).setF 6 i 8 (some (44, i))).new 45 i).setF 6 i 9 (some (45, i))).new 46 i).setF 6 i 10 (some (46, i))).new 47 i).setF 6 i 11 (some (47, i))).F 6 i 6 = some (42, i) := by simp [F_new, F_setF]
  have f43 : (((((((((((((((((((((((((σ).new 36 i).setF 6 i 0 (some (36, i))).new 37 i).setF 6 i 1 (some (37, i))).new 38 i).setF 6 i 2 (some (38, i))).new 39 i).setF 6 i 3 (some (39, i))).new 40 i).setF 6 i 4 (some (40, i))).new 41 i).setF 6 i 5 (some (41, i))).new 42 i).setF 6 i 6 (some (42, i))).new 43 i).setF 6 i 7 (some (43, i))).new 44 i).setF 6 i 8 (some (44, i))).new 45 i).setF 6 i 9 (some (45, i))).new 46 i).setF 6 i 10 (some (46, i))).new 47 i).setF 6 i 11 (some (47, i))).F 6 i 7 = some (43, i) := by simp [F_new, F_setF]
  have f44 : (((((((((((((((((((((((((σ).new 36 i).setF 6 i 0 (some (36, i))).new 37 i).setF 6 i 1 (some (37, i))).new 38 i).setF 6 i 2 (some (38, i))).new 39 i).setF 6 i 3 (some (39, i))).new 40 i).setF 6 i 4 (some (40, i))).new 41 i).setF 6 i 5 (some (41, i))).new 42 i).setF 6 i 6 (some (42, i))).new 43 i).setF 6 i 7 (some (43, i))).new 44 i).setF 6 i 8 (some (44, i))).new 45 i).setF 6 i 9 (some (45, i))).new 46 i).setF 6 i 10 (some (46, i))).new 47 i).setF 6 i 11 (some (47, i))).F 6 i 8 = some (44, i) := by simp [F_new, F_setF]
  have f45 : (((((((((((((((((((((((((σ).new 36 i).setF 6 i 0 (some (36, i))).new 37 i).setF 6 i 1 (some (37, i))).new 38 i).setF 6 i 2 (some (38, i))).new 39 i).setF 6 i 3 (some (39, i))).new 40 i).setF 6 i 4 (some (40, i))).new 41 i).setF 6 i 5 (some (41, i))).new 42 i).setF 6 i 6 (some (42, i))).new 43 i).setF 6 i 7 (some (43, i))).new 44 i).setF 6 i 8 (some (44, i))).new 45 i).setF 6 i 9 (some (45, i))).new 46 i).setF 6 i 10 (some (46, i))).new 47 i).setF 6 i 11 (some (47, i))).F 6 i 9 = some (45, i) := by simp [F_new, F_setF]
  have f46 : (((((((((((((((((((((((((σ).new 36 i).setF 6 i 0 (some (36, i))).new 37 i).setF 6 i 1 (some (37, i))).new 38 i).setF 6 i 2 (some (38, i))).new 39 i).setF 6 i 3 (some (39, i))).new 40 i).setF 6 i 4 (some (40, i))).new 41 i).setF 6 i 5 (some (41, i))).new 42 i).setF 6 i 6 (some (42, i))).new 43 i).setF 6 i 7 (some (43, i))).new 44 i).setF 6 i 8 (some (44, i))).new 45 i).setF 6 i 9 (some (45, i))).new 46 i).setF 6 i 10 (some (46, i))).new 47 i).setF 6 i 11 (some (47, i))).F 6 i 10 = some (46, i) := by simp [F_new, F_setF]
  have f47 : (((((((((((((((((((((((((σ).new 36 i).setF 6 i 0 (some (36, i))).new 37 i).setF 6 i 1 (some (37, i))).new 38 i).setF 6 i 2 (some (38, i))).new 39 i).setF 6 i 3 (some (39, i))).new 40 i).setF 6 i 4 (some (40, i))).new 41 i).setF 6 i 5 (some (41, i))).new 42 i).setF 6 i 6 (some (42, i))).new 43 i).setF 6 i 7 (some (43, i))).new 44 i).setF 6 i 8 (some (44, i))).new 45 i).setF 6 i 9 (some (45, i))).new 46 i).setF 6 i 10 (some (46, i))).new 47 i).setF 6 i 11 (some (47, i))).F 6 i 11 = some (47, i) := by simp [F_new, F_setF]
  have z36 : ∀ k, (((((((((((((((((((((((((σ).new 36 i).setF 6 i 0 (some (36, i))).new 37 i).setF 6 i 1 (some (37, i))).new 38 i).setF 6 i 2 (some (38, i))).new 39 i).setF 6 i 3 (some (39, i))).new 40 i).setF 6 i 4 (some (40, i))).new 41 i).setF 6 i 5 (some (41, i))).new 42 i).setF 6 i 6 (some (42, i))).new 43 i).setF 6 i 7 (some (43, i))).new 44 i).setF 6 i 8 (some (44, i))).new 45 i).setF 6 i 9 (some (45, i))).new 46 i).setF 6 i 10 (some (46, i))).new 47 i).setF 6 i 11 (some (47, i))).I 36 i k = 0 := fun k => by simp [I_new, I_setF]
  have z37 : ∀ k, (((((((((((((((((((((((((σ).new 36 i).setF 6 i 0 (some (36, i))).new 37 i).setF 6 i 1 (some (37, i))).new 38 i).setF 6 i 2 (some (38, i))).new 39 i).setF 6 i 3 (some (39, i))).new 40 i).setF 6 i 4 (some (40, i))).new 41 i).setF 6 i 5 (some (41, i))).new 42 i).setF 6 i 6 (some (42, i))).new 43 i).setF 6 i 7 (some (43, i))).new 44 i).setF 6 i 8 (some (44, i))).new 45 i).setF 6 i 9 (some (45, i))).new 46 i).setF 6 i 10 (some (46, i))).new 47 i).setF 6 i 11 (some (47, i))).I 37 i k = 0 := fun k => by simp [I_new, I_setF]
  have z38 : ∀ k, (((((((((((((((((((((((((σ).new 36 i).setF 6 i 0 (some (36, i))).new 37 i).setF 6 i 1 (some (37, i))).new 38 i).setF 6 i 2 (some (38, i))).new 39 i).setF 6 i 3 (some (39, i))).new 40 i).setF 6 i 4 (some (40, i))).new 41 i).setF 6 i 5 (some (41, i))).new 42 i).setF 6 i 6 (some (42, i))).new 43 i).setF 6 i 7 (some (43, i))).new 44 i).setF 6 i 8 (some (44, i))).new 45 i).setF 6 i 9 (some (45, i))).new 46 i).setF 6 i 10 (some (46, i))).new 47 i).setF 6 i 11 (some (47, i))).I 38 i k = 0 := fun k => by simp [I_new, I_setF]
  have z39 : ∀ k, (((((((((((((((((((((((((σ).new 36 i).setF 6 i 0 (some (36, i))).new 37 i).setF 6 i 1 (some (37, i))).new 38 i).setF 6 i 2 (some (38, i))).new 39 i).setF 6 i 3 (some (39, i))).new 40 i).setF 6 i 4 (some (40, i))).new 41 i).setF 6 i 5 (some (41, i))).new 42 i).setF 6 i 6 (some (42, i))).new 43 i).setF 6 i 7 (some (43, i))).new 44 i).setF 6 i 8 (some (44, i))).new 45 i).setF 6 i 9 (some (45, i))).new 46 i).setF 6 i 10 (some (46, i))).new 47 i).setF 6 i 11 (some (47, i))).I 39 i k = 0 := fun k => by simp [I_new, I_setF]
  have z40 : ∀ k, (((((((((((((((((((((((((σ).new 36 i).setF 6 i 0 (some (36, i))).new 37 i).setF 6 i 1 (some (37, i))).new 38 i).setF 6 i 2 (some (38, i))).new 39 i).setF 6 i 3 (some (39, i))).new 40 i).setF 6 i 4 (some (40, i))).new 41 i).setF 6 i 5 (some (41, i))).new 42 i).setF 6 i 6 (some (42, i))).new 43 i).setF 6 i 7 (some (43, i))).new 44 i).setF 6 i 8 (some (44, i))).new 45 i).setF 6 i 9 (some (45, i))).new 46 i).setF 6 i 10 (some (46, i))).new 47 i).setF 6 i 11 (some (47, i))).I 40 i k = 0 := fun k => by simp [I_new, I_setF]
  have z41 : ∀ k, (((((((((((((((((((((((((σ).new 36 i).setF 6 i 0 (some (36, i))).new 37 i).setF 6 i 1 (some (37, i))).new 38 i).setF 6 i 2 (some (38, i))).new 39 i).setF 6 i 3 (some (39, i))).new 40 i).setF 6 i 4 (some (40, i))).new 41 i).setF 6 i 5 (some (41, i))).new 42 i).setF 6 i 6 (some (42, i))).new 43 i).setF 6 i 7 (some (43, i))).new 44 i).setF 6 i 8 (some (44, i))).new 45 i).setF 6 i 9 (some (45, i))).new 46 i).setF 6 i 10 (some (46, i))).new 47 i).setF 6 i 11 (some (47, i))).I 41 i k = 0 := fun k => by simp [I_new, I_setF]
  have z42 : ∀ k, (((((((((((((((((((((((((σ).new 36 i).setF 6 i 0 (some (36, i))).new 37 i).setF 6 i 1 (some (37, i))).new 38 i).setF 6 i 2 (some (38, i))).new 39 i).setF 6 i 3 (some (39, i))).new 40 i).setF 6 i 4 (some (40, i))).new 41 i).setF 6 i 5 (some (41, i))).new 42 i).setF 6 i 6 (some (42, i))).new 43 i).setF 6 i 7 (some (43, i))).new 44 i).setF 6 i 8 (some (44, i))).new 45 i).setF 6 i 9 (some (45, i))).new 46 i).setF 6 i 10 (some (46, i))).new 47 i).setF 6 i 11 (some (47, i))).I 42 i k = 0 := fun k => by simp [I_new, I_setF]
  have z43 : ∀ k, (((((((((((((((((((((((((σ).new 36 i).setF 6 i 0 (some (36, i))).new 37 i).setF 6 i 1 (some (37, i))).new 38 i).setF 6 i 2 (some (38, i))).new 39 i).setF 6 i 3 (some (39, i))).new 40 i).setF 6 i 4 (some (40, i))).new 41 i).setF 6 i 5 (some (41, i))).new 42 i).setF 6 i 6 (some (42, i))).new 43 i).setF 6 i 7 (some (43, i))).new 44 i).setF 6 i 8 (some (44, i))).new 45 i).setF 6 i 9 (some (45, i))).new 46 i).setF 6 i 10 (some (46, i))).new 47 i).setF 6 i 11 (some (47, i))).I 43 i k = 0 := fun k => by simp [I_new, I_setF]
  have z44 : ∀ k, (((((((((((((((((((((((((σ).new 36 i).setF 6 i 0 (some (36, i))).new 37 i).setF 6 i 1 (some (37, i))).new 38 i).setF 6 i 2 (some (38, i))).new 39 i).setF 6 i 3 (some (39, i))).new 40 i).setF 6 i 4 (some (40, i))).new 41 i).setF 6 i 5 (some (41, i))).new 42 i).setF 6 i 6 (some (42, i))).new 43 i).setF 6 i 7 (some (43, i))).new 44 i).setF 6 i 8 (some (44, i))).new 45 i).setF 6 i 9 (some (45, i))).new 46 i).setF 6 i 10 (some (46, i))).new 47 i).setF 6 i 11 (some (47, i))).I 44 i k = 0 := fun k => by simp [I_new, I_setF]
  have z45 : ∀ k, (((((((((((((((((((((((((σ).new 36 i).setF 6 i 0 (some (36, i))).new 37 i).setF 6 i 1 (some (37, i))).new 38 i).setF 6 i 2 (some (38, i))).new 39 i).setF 6 i 3 (some (39, i))).new 40 i).setF 6 i 4 (some (40, i))).new 41 i).setF 6 i 5 (some (41, i))).new 42 i).setF 6 i 6 (some (42, i))).new 43 i).setF 6 i 7 (some (43, i))).new 44 i).setF 6 i 8 (some (44, i))).new 45 i).setF 6 i 9 (some (45, i))).new 46 i).setF 6 i 10 (some (46, i))).new 47 i).setF 6 i 11 (some (47, i))).J 45 i k = 0 := fun k => by simp [J_new, J_setF]
  have z46 : ∀ k, (((((((((((((((((((((((((σ).new 36 i).setF 6 i 0 (some (36, i))).new 37 i).setF 6 i 1 (some (37, i))).new 38 i).setF 6 i 2 (some (38, i))).new 39 i).setF 6 i 3 (some (39, i))).new 40 i).setF 6 i 4 (some (40, i))).new 41 i).setF 6 i 5 (some (41, i))).new 42 i).setF 6 i 6 (some (42, i))).new 43 i).setF 6 i 7 (some (43, i))).new 44 i).setF 6 i 8 (some (44, i))).new 45 i).setF 6 i 9 (some (45, i))).new 46 i).setF 6 i 10 (some (46, i))).new 47 i).setF 6 i 11 (some (47, i))).J 46 i k = 0 := fun k => by simp [J_new, J_setF]
  generalize ((((((((((((((((((((((((σ).new 36 i).setF 6 i 0 (some (36, i))).new 37 i).setF 6 i 1 (some (37, i))).new 38 i).setF 6 i 2 (some (38, i))).new 39 i).setF 6 i 3 (some (39, i))).new 40 i).setF 6 i 4 (some (40, i))).new 41 i).setF 6 i 5 (some (41, i))).new 42 i).setF 6 i 6 (some (42, i))).new 43 i).setF 6 i 7 (some (43, i))).new 44 i).setF 6 i 8 (some (44, i))).new 45 i).setF 6 i 9 (some (45, i))).new 46 i).setF 6 i 10 (some (46, i))).new 47 i).setF 6 i 11 (some (47, i)) = τ0 at nw a6 a36 a37 a38 a39 a40 a41 a42 a43 a44 a45 a46 a47 f36 f37 f38 f39 f40 f41 f42 f43 f44 f45 f46 f47 z36 z37 z38 z39 z40 z41 z42 z43 z44 z45 z46
  have b0 : ∀ t n, (t = 3 ∨ t = 30 ∨ t = 31 ∨ t = 32) → 12 * i ≤ n → n < 12 * i + 12 → τ0.al t n = false := fun t n ht n0 n1 => by
    rw [nw.al (fun z => by unfold pS at z; omega)]
    exact ha t n (Or.inr ⟨ht, n0, n1⟩) (by omega)
  refine loopI (P := fun k => ∀ τ, Nw (fun t n => lkS i k t n ∨ (t = 47 ∧ n = i)) τ0 τ → (∀ t n, lkS i k t n → τ.al t n = true) → (∀ n, lkS i k 3 n → τ.F 3 n 5 = some (30, n) ∧ τ.F 3 n 6 = some (31, n) ∧ τ.F 3 n 7 = some (32, n)) → τ.al 47 i = true → (∀ x, 0 ≤ x → x < k → τ.P 47 i x = some (12 * i + x.toNat)) → V m_X6_init 2 (4 * (12 - k).toNat) (26 * (12 - k).toNat) 98 [some (vR (some (6, i))), some (vI k)] [] τ (fun r τ => r = .inl none ∧ Nw (nwS i) σ τ ∧ τ.al 6 i = σ.al 6 i ∧ (∀ t n, nwS i t n → t ≠ 6 → τ.al t n = true) ∧ (∀ t k n r, nwS i t n → fin t k n = some r → τ.F t n k = some r) ∧ Shp τ i ∧ (∀ t k, 36 ≤ t → t ≤ 44 → τ.I t i k = 0) ∧ ∀ t k, 45 ≤ t → t ≤ 46 → τ.J t i k = 0)) (N := 12) (by decide) ?_ ?_ τ0 (Nw.refl _ _) (fun t n z => by unfold lkS at z; omega) (fun n z => by unfold lkS at z; omega) a47 (fun x x0 x1 => by omega)
  · intro τ n1 al fs a47' hp
    have ni : ∀ t, (t = 6 ∨ (36 ≤ t ∧ t ≤ 46)) → ¬ (lkS i 12 t i ∨ (t = 47 ∧ i = i)) := fun t ht z => by unfold lkS at z; omega
    have eF : τ.F 6 i = τ0.F 6 i := n1.F (ni 6 (Or.inl rfl))
    have el : ∀ x, 0 ≤ x → x < 12 → lid τ i x = 12 * i + x.toNat := fun x x0 x1 => by
      unfold lid
      rw [hp x x0 x1]
      rfl
    have nf : Nw (nwS i) σ τ := (nw.sub (fun t n z => Or.inl z)).trans (n1.sub (fun t n z => by
      rcases z with z | z
      · exact Or.inr ⟨z.1, z.2.1, by have := z.2.2; omega⟩
      · exact Or.inl ⟨Or.inr (by omega), z.2⟩))
    have hal : ∀ t n, nwS i t n → t ≠ 6 → τ.al t n = true := fun t n z h6 => by
      rcases z with z | z
      · obtain ⟨z1, z2⟩ := z
        rw [z2]
        by_cases h47 : t = 47
        · rw [h47]
          exact a47'
        · rw [n1.al (ni t (by omega))]
          have c : t = 36 ∨ t = 37 ∨ t = 38 ∨ t = 39 ∨ t = 40 ∨ t = 41 ∨ t = 42 ∨ t = 43 ∨ t = 44 ∨ t = 45 ∨ t = 46 := by omega
          rcases c with rfl | rfl | rfl | rfl | rfl | rfl | rfl | rfl | rfl | rfl | rfl <;> assumption
      · exact al t n ⟨z.1, z.2.1, by omega⟩
    have hfin : ∀ t k n r, nwS i t n → fin t k n = some r → τ.F t n k = some r := fun t k n r z hr => by
      rcases z with z | z
      · obtain ⟨z1, z2⟩ := z
        subst z2
        rcases z1 with z1 | z1
        · subst z1
          rw [eF]
          match k, hr with
          | 0, hr => rw [f36]; exact hr
          | 1, hr => rw [f37]; exact hr
          | 2, hr => rw [f38]; exact hr
          | 3, hr => rw [f39]; exact hr
          | 4, hr => rw [f40]; exact hr
          | 5, hr => rw [f41]; exact hr
          | 6, hr => rw [f42]; exact hr
          | 7, hr => rw [f43]; exact hr
          | 8, hr => rw [f44]; exact hr
          | 9, hr => rw [f45]; exact hr
          | 10, hr => rw [f46]; exact hr
          | 11, hr => rw [f47]; exact hr
          | k + 12, hr => cases hr
        · exfalso
          have c : t = 36 ∨ t = 37 ∨ t = 38 ∨ t = 39 ∨ t = 40 ∨ t = 41 ∨ t = 42 ∨ t = 43 ∨ t = 44 ∨ t = 45 ∨ t = 46 ∨ t = 47 := by omega
          rcases c with rfl | rfl | rfl | rfl | rfl | rfl | rfl | rfl | rfl | rfl | rfl | rfl <;> cases hr
      · obtain ⟨z1, z2⟩ := z
        rcases z1 with rfl | rfl | rfl | rfl
        · have q := fs n ⟨Or.inl rfl, z2.1, by omega⟩
          match k, hr with
          | 0, hr => cases hr
          | 1, hr => cases hr
          | 2, hr => cases hr
          | 3, hr => cases hr
          | 4, hr => cases hr
          | 5, hr => rw [q.1]; exact hr
          | 6, hr => rw [q.2.1]; exact hr
          | 7, hr => rw [q.2.2]; exact hr
          | k + 8, hr => cases hr
        · cases hr
        · cases hr
        · cases hr
    have hsh : Shp τ i := ⟨fun x x0 x1 => by
      rw [el x x0 x1]
      exact ⟨hp x x0 x1, by omega, by omega⟩, fun a b a0 a1 b0 b1 h => by
      rw [el a a0 a1, el b b0 b1] at h
      omega⟩
    have zI : ∀ t k, 36 ≤ t → t ≤ 44 → τ.I t i k = 0 := fun t k t0 t1 => by
      rw [n1.I (ni t (by omega))]
      have c : t = 36 ∨ t = 37 ∨ t = 38 ∨ t = 39 ∨ t = 40 ∨ t = 41 ∨ t = 42 ∨ t = 43 ∨ t = 44 := by omega
      rcases c with rfl | rfl | rfl | rfl | rfl | rfl | rfl | rfl | rfl
      · exact z36 k
      · exact z37 k
      · exact z38 k
      · exact z39 k
      · exact z40 k
      · exact z41 k
      · exact z42 k
      · exact z43 k
      · exact z44 k
    have zJ : ∀ t k, 45 ≤ t → t ≤ 46 → τ.J t i k = 0 := fun t k t0 t1 => by
      rw [n1.J (ni t (by omega))]
      have c : t = 45 ∨ t = 46 := by omega
      rcases c with rfl | rfl
      · exact z45 k
      · exact z46 k
    have h6 : τ.al 6 i = σ.al 6 i := (n1.al (ni 6 (Or.inl rfl))).trans a6
    refine V_ildn1 a_X6_init_98 ?_
    refine V_bipush a_X6_init_99 (by decide) ?_
    refine V_icmp_ge_t a_X6_init_101 (by omega) (by omega) ?_
    exact V_ret a_X6_init_123 (⟨rfl, nf, h6, hal, hfin, hsh, zI, zJ⟩)
  · intro k k0 k1 ih τ n1 al fs a47' hp
    have eb : 4 * (12 - k).toNat = 4 * (12 - (k + 1)).toNat + 3 + 1 := by omega
    have es : 26 * (12 - k).toNat = 26 * (12 - (k + 1)).toNat + 18 + 8 := by omega
    rw [eb, es]
    have ej : ∀ t n, (t = 3 ∨ t = 30 ∨ t = 31 ∨ t = 32) → n = 12 * i + k.toNat → τ.al t n = false := fun t n ht hn => by
      rw [n1.al (fun z => by unfold lkS at z; omega)]
      exact b0 t n ht (by omega) (by omega)
    generalize hj : 12 * i + k.toNat = j at ej
    have a3 : τ.al 3 j = false := ej 3 j (Or.inl rfl) rfl
    have r3 := R_X3init (σ := τ.new 3 j) (j := j) (by rw [al_new, if_neg (by omega)]; exact ej 30 j (by omega) rfl) (by rw [al_new, if_neg (by omega)]; exact ej 31 j (by omega) rfl) (by rw [al_new, if_neg (by omega)]; exact ej 32 j (by omega) rfl)
    have f11 : τ.F 6 i 11 = some (47, i) := by
      rw [n1.F (fun z => by unfold lkS at z; omega)]
      exact f47
    refine V_ildn1 a_X6_init_98 ?_
    refine V_bipush a_X6_init_99 (by decide) ?_
    refine V_icmp_ge_f a_X6_init_101 (by omega) (by omega) ?_
    refine V_aldn0 a_X6_init_104 ?_
    refine V_getF a_X6_init_105 f_X6_48 rfl (fun _ => f11) ?_
    refine V_ildn1 a_X6_init_108 ?_
    refine V_newO a_X6_init_109 (t := 3) (i := j) (by decide) kl_X6_46 ins_3 ini_3 a3 ?_
    first | refine V_dupR a_X6_init_112 ?_ | refine V_dupI a_X6_init_112 ?_
    refine V_i0PV a_X6_init_113 c_X6_52 r3 (fun τ2 hτ2 => ?_)
    refine V_aast a_X6_init_116 rfl (by omega) ?_
    skip
    obtain ⟨n2, q3, qa, qf⟩ := hτ2
    have n3 : Nw (lnS j) τ τ2 := (Nw.new (S := lnS j) ⟨Or.inl rfl, rfl⟩).trans n2
    have nj : ∀ t n, lkS i k t n → ¬ lnS j t n := fun t n z y => by unfold lkS at z; unfold lnS at y; omega
    have ih2 := ih (τ2.setP 47 i k (some j)) ((n1.sub (fun t n z => by unfold lkS at z ⊢; omega)).trans ((n3.sub (fun t n z => by unfold lnS at z; unfold lkS; omega)).trans (Nw.setP (Or.inr ⟨rfl, rfl⟩)))) (fun t n z => by
      rw [al_setP]
      by_cases y : lkS i k t n
      · rw [n3.al (nj t n y)]
        exact al t n y
      · have hn : n = j := by unfold lkS at z y; omega
        rw [hn]
        unfold lkS at z
        rcases z.1 with h | h | h | h
        · rw [h, q3, al_new, if_pos ⟨rfl, rfl⟩]
        · rw [h]
          exact qa.1
        · rw [h]
          exact qa.2.1
        · rw [h]
          exact qa.2.2) (fun n z => by
      rw [F_setP]
      by_cases y : lkS i k 3 n
      · rw [n3.F (nj 3 n y)]
        exact fs n y
      · have hn : n = j := by unfold lkS at z y; omega
        rw [hn]
        exact qf) (by
      rw [al_setP, n3.al (fun z => by unfold lnS at z; omega)]
      exact a47') (fun x x0 x1 => by
      by_cases y : x = k
      · rw [y, setP_P, ← hj]
      · rw [setP_ne y, n3.P (fun z => by unfold lnS at z; omega)]
        exact hp x x0 (by omega))
    refine V_inc1 a_X6_init_117 ?_
    refine V_goto a_X6_init_120 ?_
    exact ih2
end In6

