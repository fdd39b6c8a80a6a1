theorem no_s1 {t n : Nat} (z : s1S t n) : ¬ ((t = 10 ∧ n = 0) ∨ oS 3 t n) := fun y => by
  unfold s1S at z
  rcases y with y | y | y | y | y | y | y | y | y | y
  · omega
  · have e := y.2; omega
  · have e := y.2; omega
  · have e := y.2; omega
  all_goals exact absurd y.1 (by decide)
theorem no_n0 {t n : Nat} (z : nwS 0 t n) : ¬ ((t = 10 ∧ n = 0) ∨ oS 7 t n) := fun y => by
  unfold nwS pS at z
  rcases y with y | y | y | y | y | y | y | y | y | y
  · omega
  · have e := y.2; omega
  · have e := y.2; omega
  · have e := y.2; omega
  · have e := y.2; omega
  · have e := y.2; omega
  · have e := y.2; omega
  · have e := y.2; omega
  all_goals exact absurd y.1 (by decide)
theorem no_n1 {t n : Nat} (z : nwS 1 t n) : ¬ ((t = 10 ∧ n = 0) ∨ oS 8 t n) := fun y => by
  unfold nwS pS at z
  rcases y with y | y | y | y | y | y | y | y | y | y
  · omega
  · have e := y.2; omega
  · have e := y.2; omega
  · have e := y.2; omega
  · have e := y.2; omega
  · have e := y.2; omega
  · have e := y.2; omega
  · have e := y.2; omega
  · have e := y.2; unfold nwS pS at e; omega
  · exact absurd y.1 (by decide)
section Z2
variable {σ : Hp}
theorem R_X10init (h : ∀ t n, σ.al t n = true → t = 10 ∧ n = 0) : Cv m_X10_init 3 147 3775 [vR (some (10, 0))] σ none (fun τ => Nw ocS σ τ ∧ Bz 9 τ) := by
  have b0 : Bz 0 σ := ⟨fun t n e => Or.inl (h t n e), fun t j n r ht _ e => absurd (h t n e).1 ht, fun j r hj => absurd hj (by omega), fun m hm => by
    have e : m = 0 := by omega
    subst e
    trivial⟩
  have k10 : ∀ κ, Bz 9 κ → Nw ocS σ κ → V m_X10_init 3 0 0 103 [some (vR (some (10, 0)))] [] κ (fun r τ => r = .inl none ∧ Nw ocS σ τ ∧ Bz 9 τ) := fun κ hb hw => by
    exact V_ret a_X10_init_103 (⟨rfl, hw, hb⟩)
  have k9 : ∀ κ, Bz 8 κ → Nw ocS σ κ → V m_X10_init 3 61 419 92 [some (vR (some (10, 0)))] [] κ (fun r τ => r = .inl none ∧ Nw ocS σ τ ∧ Bz 9 τ) := fun κ hb hw => by
    have a1 : κ.al 6 1 = false := hb.no (by unfold oS nwS pS; decide)
    have ha : ∀ t n, nwS 1 t n → t ≠ 6 → (κ.new 6 1).al t n = false := fun t n z ht => by
      rw [al_new, if_neg (fun y => ht y.1)]
      exact hb.no (no_n1 z)
    refine V_aldn0 a_X10_init_92 ?_
    refine V_newO a_X10_init_93 (t := 6) (i := 1) (by decide) kl_X10_58 ins_6 ini_6 a1 ?_
    first | refine V_dupR a_X10_init_96 ?_ | refine V_dupI a_X10_init_96 ?_
    refine V_i0PV a_X10_init_97 c_X10_60 (R_X6init (i := 1) ha) (fun τ hτ => ?_)
    refine V_putF a_X10_init_100 f_X10_65 rfl rfl rfl (by exact Nat.le_of_ble_eq_true rfl) ?_
    skip
    obtain ⟨n1, -, -, n4, n5, n6, n7⟩ := hτ
    have f : Nw (fun t n => (t = 10 ∧ n = 0) ∨ nwS 1 t n) κ (τ.setF 10 0 8 (some (6, 1))) := (((Nw.new (Or.inr (Or.inl ⟨Or.inl rfl, rfl⟩))).trans (n1.sub (fun t n z => Or.inr z)))).trans (Nw.setF (Or.inl ⟨rfl, rfl⟩))
    have e10 : τ.F 10 0 = κ.F 10 0 := (n1.F (by unfold nwS pS; omega)).trans (by funext j; rw [F_new, if_neg (by omega)])
    refine k10 _ (hb.step f (fun t n z => ?_) (fun t j n r z ht hr => ?_) (fun j hj => ?_) (fun r hr => ?_) (show zF 9 _ from n5)) (hw.trans (f.sub (fun t n z => ?_)))
    · rcases z with z | z
      · exact Or.inl z
      · exact Or.inr ⟨Or.inr (Or.inr (Or.inr (Or.inr (Or.inr (Or.inr (Or.inr (Or.inr ⟨by decide, z⟩))))))), fun y => no_n1 z (Or.inr y)⟩
    · rcases z with z | z
      · exact absurd z.1 ht
      · rw [F_setF, if_neg (fun y => ht y.1)]
        exact n4 t j n r z hr
    · rw [F_setF, if_neg (by omega), e10]
    · rw [F_setF, if_pos ⟨rfl, rfl, rfl⟩, ← hr]
      rfl
    · unfold nwS pS at z
      unfold ocS
      omega
  have k8 : ∀ κ, Bz 7 κ → Nw ocS σ κ → V m_X10_init 3 122 838 81 [some (vR (some (10, 0)))] [] κ (fun r τ => r = .inl none ∧ Nw ocS σ τ ∧ Bz 9 τ) := fun κ hb hw => by
    have a1 : κ.al 6 0 = false := hb.no (by unfold oS nwS pS; decide)
    have ha : ∀ t n, nwS 0 t n → t ≠ 6 → (κ.new 6 0).al t n = false := fun t n z ht => by
      rw [al_new, if_neg (fun y => ht y.1)]
      exact hb.no (no_n0 z)
    refine V_aldn0 a_X10_init_81 ?_
    refine V_newO a_X10_init_82 (t := 6) (i := 0) (by decide) kl_X10_58 ins_6 ini_6 a1 ?_
    first | refine V_dupR a_X10_init_85 ?_ | refine V_dupI a_X10_init_85 ?_
    refine V_i0PV a_X10_init_86 c_X10_60 (R_X6init (i := 0) ha) (fun τ hτ => ?_)
    refine V_putF a_X10_init_89 f_X10_61 rfl rfl rfl (by exact Nat.le_of_ble_eq_true rfl) ?_
    skip
    obtain ⟨n1, -, -, n4, n5, n6, n7⟩ := hτ
    have f : Nw (fun t n => (t = 10 ∧ n = 0) ∨ nwS 0 t n) κ (τ.setF 10 0 7 (some (6, 0))) := (((Nw.new (Or.inr (Or.inl ⟨Or.inl rfl, rfl⟩))).trans (n1.sub (fun t n z => Or.inr z)))).trans (Nw.setF (Or.inl ⟨rfl, rfl⟩))
    have e10 : τ.F 10 0 = κ.F 10 0 := (n1.F (by unfold nwS pS; omega)).trans (by funext j; rw [F_new, if_neg (by omega)])
    refine k9 _ (hb.step f (fun t n z => ?_) (fun t j n r z ht hr => ?_) (fun j hj => ?_) (fun r hr => ?_) (show zF 8 _ from ⟨n5, n6, n7⟩)) (hw.trans (f.sub (fun t n z => ?_)))
    · rcases z with z | z
      · exact Or.inl z
      · exact Or.inr ⟨Or.inr (Or.inr (Or.inr (Or.inr (Or.inr (Or.inr (Or.inr (Or.inl ⟨by decide, z⟩))))))), fun y => no_n0 z (Or.inr y)⟩
    · rcases z with z | z
      · exact absurd z.1 ht
      · rw [F_setF, if_neg (fun y => ht y.1)]
        exact n4 t j n r z hr
    · rw [F_setF, if_neg (by omega), e10]
    · rw [F_setF, if_pos ⟨rfl, rfl, rfl⟩, ← hr]
      rfl
    · unfold nwS pS at z
      unfold ocS
      omega
  have k7 : ∀ κ, Bz 6 κ → Nw ocS σ κ → V m_X10_init 3 124 3040 70 [some (vR (some (10, 0)))] [] κ (fun r τ => r = .inl none ∧ Nw ocS σ τ ∧ Bz 9 τ) := fun κ hb hw => by
    have a1 : κ.al 8 0 = false := hb.no (by unfold oS nwS pS; decide)
    have a2 : (κ.new 8 0).al 35 0 = false := by
      rw [al_new, if_neg (by omega)]
      exact hb.no (by unfold oS nwS pS; decide)
    have r := R_X8init (σ := κ.new 8 0) a2
    have q := hb.one (t0 := 8) (a0 := 35) (f0 := 1) (Nw.new (S := fun t n => t = 8 ∧ n = 0) ⟨rfl, rfl⟩) rfl (fun j r hr => fin_8 hr) (fun j r hr => by cases hr) (by decide) ⟨by unfold oS nwS pS; decide, by unfold oS nwS pS; decide, by unfold oS nwS pS; decide, by unfold oS nwS pS; decide⟩ (show zF 7 _ from by show Hp.I _ 8 0 0 = 0; simp [I_setF, I_new])
    have nx := k8 _ q.2 (hw.trans (q.1.sub (fun t n z => by unfold ocS; omega)))
    refine V_aldn0 a_X10_init_70 ?_
    refine V_newO a_X10_init_71 (t := 8) (i := 0) (by decide) kl_X10_51 ins_8 ini_8 a1 ?_
    first | refine V_dupR a_X10_init_74 ?_ | refine V_dupI a_X10_init_74 ?_
    refine V_i0V a_X10_init_75 c_X10_53 r ?_
    refine V_putF a_X10_init_78 f_X10_54 rfl rfl rfl (by exact Nat.le_of_ble_eq_true rfl) ?_
    exact nx
  have k6 : ∀ κ, Bz 5 κ → Nw ocS σ κ → V m_X10_init 3 126 3053 59 [some (vR (some (10, 0)))] [] κ (fun r τ => r = .inl none ∧ Nw ocS σ τ ∧ Bz 9 τ) := fun κ hb hw => by
    have a1 : κ.al 2 0 = false := hb.no (by unfold oS nwS pS; decide)
    have a2 : (κ.new 2 0).al 34 0 = false := by
      rw [al_new, if_neg (by omega)]
      exact hb.no (by unfold oS nwS pS; decide)
    have r := R_X2init (σ := κ.new 2 0) a2
    have q := hb.one (t0 := 2) (a0 := 34) (f0 := 2) (Nw.new (S := fun t n => t = 2 ∧ n = 0) ⟨rfl, rfl⟩) rfl (fun j r hr => fin_2 hr) (fun j r hr => by cases hr) (by decide) ⟨by unfold oS nwS pS; decide, by unfold oS nwS pS; decide, by unfold oS nwS pS; decide, by unfold oS nwS pS; decide⟩ (show zF 6 _ from ⟨by simp [I_setF, I_new], by simp [I_setF, I_new], fun x => by simp [P_setF, P_new]⟩)
    have nx := k7 _ q.2 (hw.trans (q.1.sub (fun t n z => by unfold ocS; omega)))
    refine V_aldn0 a_X10_init_59 ?_
    refine V_newO a_X10_init_60 (t := 2) (i := 0) (by decide) kl_X10_44 ins_2 ini_2 a1 ?_
    first | refine V_dupR a_X10_init_63 ?_ | refine V_dupI a_X10_init_63 ?_
    refine V_i0V a_X10_init_64 c_X10_46 r ?_
    refine V_putF a_X10_init_67 f_X10_47 rfl rfl rfl (by exact Nat.le_of_ble_eq_true rfl) ?_
    exact nx
  have k5 : ∀ κ, Bz 4 κ → Nw ocS σ κ → V m_X10_init 3 128 3071 48 [some (vR (some (10, 0)))] [] κ (fun r τ => r = .inl none ∧ Nw ocS σ τ ∧ Bz 9 τ) := fun κ hb hw => by
    have a1 : κ.al 4 0 = false := hb.no (by unfold oS nwS pS; decide)
    have a2 : (κ.new 4 0).al 33 0 = false := by
      rw [al_new, if_neg (by omega)]
      exact hb.no (by unfold oS nwS pS; decide)
    have r := R_X4init (σ := κ.new 4 0) a2
    have q := hb.one (t0 := 4) (a0 := 33) (f0 := 5) (Nw.new (S := fun t n => t = 4 ∧ n = 0) ⟨rfl, rfl⟩) rfl (fun j r hr => fin_4 hr) (fun j r hr => by cases hr) (by decide) ⟨by unfold oS nwS pS; decide, by unfold oS nwS pS; decide, by unfold oS nwS pS; decide, by unfold oS nwS pS; decide⟩ (show zF 5 _ from trivial)
    have nx := k6 _ q.2 (hw.trans (q.1.sub (fun t n z => by unfold ocS; omega)))
    refine V_aldn0 a_X10_init_48 ?_
    refine V_newO a_X10_init_49 (t := 4) (i := 0) (by decide) kl_X10_37 ins_4 ini_4 a1 ?_
    first | refine V_dupR a_X10_init_52 ?_ | refine V_dupI a_X10_init_52 ?_
    refine V_i0V a_X10_init_53 c_X10_39 r ?_
    refine V_putF a_X10_init_56 f_X10_40 rfl rfl rfl (by exact Nat.le_of_ble_eq_true rfl) ?_
    exact nx
  have k4 : ∀ κ, Bz 3 κ → Nw ocS σ κ → V m_X10_init 3 141 3158 37 [some (vR (some (10, 0)))] [] κ (fun r τ => r = .inl none ∧ Nw ocS σ τ ∧ Bz 9 τ) := fun κ hb hw => by
    have a1 : κ.al 1 0 = false := hb.no (by unfold oS nwS pS; decide)
    have an : ∀ t n, s1S t n → ¬ (t = 1 ∧ n = 0) → (κ.new 1 0).al t n = false := fun t n z ht => by
      rw [al_new, if_neg ht]
      exact hb.no (no_s1 z)
    have r := R_X1init (σ := κ.new 1 0) (an 0 0 (by unfold s1S; omega) (by omega)) (fun t t0 t1 => an t 0 (by unfold s1S; omega) (by omega)) (an 3 999 (by unfold s1S; omega) (by omega)) (an 30 999 (by unfold s1S; omega) (by omega)) (an 31 999 (by unfold s1S; omega) (by omega)) (an 32 999 (by unfold s1S; omega) (by omega))
    have f0 : Nw s1S κ (hX1 (κ.new 1 0)) := (Nw.new (by unfold s1S; omega)).trans nw_hX1
    have fi : ∀ t j n r, s1S t n → fin t j n = some r → (hX1 (κ.new 1 0)).F t n j = some r := fun t j n r z hr => hX1_fin z hr
    generalize hX1 (κ.new 1 0) = τ at r f0 fi
    have f : Nw (fun t n => (t = 10 ∧ n = 0) ∨ s1S t n) κ (τ.setF 10 0 3 (some (1, 0))) := (f0.sub (fun t n z => Or.inr z)).trans (Nw.setF (Or.inl ⟨rfl, rfl⟩))
    have e10 : τ.F 10 0 = κ.F 10 0 := f0.F (by unfold s1S; omega)
    refine V_aldn0 a_X10_init_37 ?_
    refine V_newO a_X10_init_38 (t := 1) (i := 0) (by decide) kl_X10_30 ins_1 ini_1 a1 ?_
    first | refine V_dupR a_X10_init_41 ?_ | refine V_dupI a_X10_init_41 ?_
    refine V_i0V a_X10_init_42 c_X10_32 r ?_
    refine V_putF a_X10_init_45 f_X10_33 rfl rfl rfl (by exact Nat.le_of_ble_eq_true rfl) ?_
    skip
    refine k5 _ (hb.step f (fun t n z => ?_) (fun t j n r z ht hr => ?_) (fun j hj => ?_) (fun r hr => ?_) (show zF 4 _ from trivial)) (hw.trans (f.sub (fun t n z => ?_)))
    · rcases z with z | z
      · exact Or.inl z
      · exact Or.inr ⟨Or.inr (Or.inr (Or.inr (Or.inl ⟨by decide, z⟩))), fun y => no_s1 z (Or.inr y)⟩
    · rcases z with z | z
      · exact absurd z.1 ht
      · rw [F_setF, if_neg (fun y => ht y.1)]
        exact fi t j n r z hr
    · rw [F_setF, if_neg (by omega), e10]
    · rw [F_setF, if_pos ⟨rfl, rfl, rfl⟩, ← hr]
      rfl
    · unfold s1S at z
      unfold ocS
      omega
  have k3 : ∀ κ, Bz 2 κ → Nw ocS σ κ → V m_X10_init 3 143 3163 26 [some (vR (some (10, 0)))] [] κ (fun r τ => r = .inl none ∧ Nw ocS σ τ ∧ Bz 9 τ) := fun κ hb hw => by
    have a1 : κ.al 5 0 = false := hb.no (by unfold oS nwS pS; decide)
    have a2 : (κ.new 5 0).al 22 0 = false := by
      rw [al_new, if_neg (by omega)]
      exact hb.no (by unfold oS nwS pS; decide)
    have r := R_X5init (σ := κ.new 5 0) a2
    have q := hb.one (t0 := 5) (a0 := 22) (f0 := 0) (Nw.new (S := fun t n => t = 5 ∧ n = 0) ⟨rfl, rfl⟩) rfl (fun j r hr => fin_5 hr) (fun j r hr => by cases hr) (by decide) ⟨by unfold oS nwS pS; decide, by unfold oS nwS pS; decide, by unfold oS nwS pS; decide, by unfold oS nwS pS; decide⟩ (show zF 3 _ from trivial)
    have nx := k4 _ q.2 (hw.trans (q.1.sub (fun t n z => by unfold ocS; omega)))
    refine V_aldn0 a_X10_init_26 ?_
    refine V_newO a_X10_init_27 (t := 5) (i := 0) (by decide) kl_X10_23 ins_5 ini_5 a1 ?_
    first | refine V_dupR a_X10_init_30 ?_ | refine V_dupI a_X10_init_30 ?_
    refine V_i0V a_X10_init_31 c_X10_25 r ?_
    refine V_putF a_X10_init_34 f_X10_26 rfl rfl rfl (by exact Nat.le_of_ble_eq_true rfl) ?_
    exact nx
  have k2 : ∀ κ, Bz 1 κ → Nw ocS σ κ → V m_X10_init 3 145 3169 15 [some (vR (some (10, 0)))] [] κ (fun r τ => r = .inl none ∧ Nw ocS σ τ ∧ Bz 9 τ) := fun κ hb hw => by
    have a1 : κ.al 7 0 = false := hb.no (by unfold oS nwS pS; decide)
    have a2 : (κ.new 7 0).al 21 0 = false := by
      rw [al_new, if_neg (by omega)]
      exact hb.no (by unfold oS nwS pS; decide)
    have r := R_X7init (σ := κ.new 7 0) a2
    have q := hb.one (t0 := 7) (a0 := 21) (f0 := 2) ((Nw.new (S := fun t n => t = 7 ∧ n = 0) ⟨rfl, rfl⟩).trans (Nw.setI (k := 1) (v := -1) ⟨rfl, rfl⟩)) rfl (fun j r hr => fin_7 hr) (fun j r hr => by cases hr) (by decide) ⟨by unfold oS nwS pS; decide, by unfold oS nwS pS; decide, by unfold oS nwS pS; decide, by unfold oS nwS pS; decide⟩ (show zF 2 _ from ⟨by show Hp.I _ 7 0 0 = 0; rw [I_setF, I_setF, I_new, if_neg (by omega)]; exact (setI_ne (by decide)).trans (by rw [I_new, if_pos ⟨rfl, rfl⟩]), by show Hp.I _ 7 0 1 = -1; rw [I_setF, I_setF, I_new, if_neg (by omega)]; exact setI_I⟩)
    have nx := k3 _ q.2 (hw.trans (q.1.sub (fun t n z => by unfold ocS; omega)))
    refine V_aldn0 a_X10_init_15 ?_
    refine V_newO a_X10_init_16 (t := 7) (i := 0) (by decide) kl_X10_16 ins_7 ini_7 a1 ?_
    first | refine V_dupR a_X10_init_19 ?_ | refine V_dupI a_X10_init_19 ?_
    refine V_i0V a_X10_init_20 c_X10_18 r ?_
    refine V_putF a_X10_init_23 f_X10_19 rfl rfl rfl (by exact Nat.le_of_ble_eq_true rfl) ?_
    exact nx
  have k1 : ∀ κ, Bz 0 κ → Nw ocS σ κ → V m_X10_init 3 147 3775 4 [some (vR (some (10, 0)))] [] κ (fun r τ => r = .inl none ∧ Nw ocS σ τ ∧ Bz 9 τ) := fun κ hb hw => by
    have a1 : κ.al 9 0 = false := hb.no (by unfold oS nwS pS; decide)
    have a2 : (κ.new 9 0).al 20 0 = false := by
      rw [al_new, if_neg (by omega)]
      exact hb.no (by unfold oS nwS pS; decide)
    have r := R_X9init (σ := κ.new 9 0) a2
    have q := hb.one (t0 := 9) (a0 := 20) (f0 := 5) (Nw.new (S := fun t n => t = 9 ∧ n = 0) ⟨rfl, rfl⟩) rfl (fun j r hr => fin_9 hr) (fun j r hr => by cases hr) (by decide) ⟨by unfold oS nwS pS; decide, by unfold oS nwS pS; decide, by unfold oS nwS pS; decide, by unfold oS nwS pS; decide⟩ (show zF 1 _ from by show Hp.I _ 9 0 0 = 0; simp [I_setF, I_new])
    have nx := k2 _ q.2 (hw.trans (q.1.sub (fun t n z => by unfold ocS; omega)))
    refine V_aldn0 a_X10_init_4 ?_
    refine V_newO a_X10_init_5 (t := 9) (i := 0) (by decide) kl_X10_9 ins_9 ini_9 a1 ?_
    first | refine V_dupR a_X10_init_8 ?_ | refine V_dupI a_X10_init_8 ?_
    refine V_i0V a_X10_init_9 c_X10_11 r ?_
    refine V_putF a_X10_init_12 f_X10_12 rfl rfl rfl (by exact Nat.le_of_ble_eq_true rfl) ?_
    exact nx
  show V _ 3 147 3775 0 [some (vR (some (10, 0)))] [] σ _
  refine V_aldn0 a_X10_init_0 ?_
  refine V_objInit a_X10_init_1 oi_X10_3 oi_i oi_c (by omega) (by exact Nat.le_of_ble_eq_true rfl) ?_
  exact k1 σ b0 (Nw.refl _ _)
end Z2

