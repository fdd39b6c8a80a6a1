theorem fin_11 {j : Nat} {r : Nat × Nat} (h : fin 11 j 0 = some r) : (j = 0 ∧ r = (50, 0)) ∨ (j = 1 ∧ r = (51, 0)) ∨ (j = 2 ∧ r = (52, 0)) ∨ (j = 3 ∧ r = (53, 0)) ∨ (j = 4 ∧ r = (54, 0)) ∨ (j = 7 ∧ r = (55, 0)) ∨ (j = 14 ∧ r = (56, 0)) ∨ (j = 15 ∧ r = (57, 0)) ∨ (j = 16 ∧ r = (58, 0)) ∨ (j = 18 ∧ r = (59, 0)) ∨ (j = 20 ∧ r = (60, 0)) ∨ (j = 21 ∧ r = (61, 0)) := by
  match j, h with
  | 0, h => cases h; decide
  | 1, h => cases h; decide
  | 2, h => cases h; decide
  | 3, h => cases h; decide
  | 4, h => cases h; decide
  | 5, h => cases h
  | 6, h => cases h
  | 7, h => cases h; decide
  | 8, h => cases h
  | 9, h => cases h
  | 10, h => cases h
  | 11, h => cases h
  | 12, h => cases h
  | 13, h => cases h
  | 14, h => cases h; decide
  | 15, h => cases h; decide
  | 16, h => cases h; decide
  | 17, h => cases h
  | 18, h => cases h; decide
  | 19, h => cases h
  | 20, h => cases h; decide
  | 21, h => cases h; decide
  | j + 22, h => cases h
section Z3
variable {κ σ τ : Hp} {k : Nat} {z : Int → Int}
/-- the model's own part of the heap -/
def mdS (t n : Nat) : Prop := (t = 11 ∧ n = 0) ∨ (50 ≤ t ∧ t ≤ 61)
def Mz (k : Nat) (z : Int → Int) (κ : Hp) : Prop := (∀ t n, 50 + k ≤ t → t ≤ 61 → κ.al t n = false) ∧ (∀ j r, fin 11 j 0 = some r → r.1 < 50 + k → κ.F 11 0 j = some r) ∧ κ.I 11 0 = z ∧ (1 ≤ k → κ.J 50 0 = fun _ => 0) ∧ (6 ≤ k → κ.I 55 0 = fun _ => 0)
theorem Mz.step {f : Nat} (h : Mz k z κ) (hf : fin 11 f 0 = some (50 + k, 0)) (hk : k < 12) : Mz (k + 1) z ((κ.new (50 + k) 0).setF 11 0 f (some (50 + k, 0))) := by
  obtain ⟨a1, a2, a3, a4, a5⟩ := h
  refine ⟨fun t n t0 t1 => ?_, fun j r hr h1 => ?_, ?_, fun k1 => ?_, fun k6 => ?_⟩
  · rw [al_setF, al_new, if_neg (by omega)]
    exact a1 t n (by omega) t1
  · by_cases q : j = f
    · subst q
      rw [F_setF, if_pos ⟨rfl, rfl, rfl⟩, ← hf, hr]
    · rw [F_setF, if_neg (fun y => q y.2.2), F_new, if_neg (by omega)]
      have c1 := fin_11 hr
      have c2 := fin_11 hf
      refine a2 j r hr ?_
      rcases c1 with c1 | c1 | c1 | c1 | c1 | c1 | c1 | c1 | c1 | c1 | c1 | c1 <;> obtain ⟨d1, d2⟩ := c1 <;> subst d2 <;> dsimp only at h1 ⊢ <;> simp only [Prod.mk.injEq] at c2 <;> omega
  · rw [I_setF]
    funext x
    rw [I_new, if_neg (by omega), a3]
  · rw [J_setF]
    funext x
    by_cases q : k = 0
    · rw [J_new, if_pos ⟨by omega, rfl⟩]
    · rw [J_new, if_neg (by omega), a4 (by omega)]
  · rw [I_setF]
    funext x
    by_cases q : k = 5
    · rw [I_new, if_pos ⟨by omega, rfl⟩]
    · rw [I_new, if_neg (by omega), a5 (by omega)]
theorem Nw.rJ {S : Nat → Nat → Prop} {t i : Nat} {g : Int → Int} (hs : S t i) : Nw S σ (σ.rJ t i g) := ⟨rfl, fun t' n hn => ⟨rfl, rfl, row_ne (fun z => hn (by rw [z.1, z.2]; exact hs)), rfl, rfl, rfl⟩⟩
theorem Nw.md {f : Nat} (hk : k < 12) : Nw mdS κ ((κ.new (50 + k) 0).setF 11 0 f (some (50 + k, 0))) := (Nw.new (by unfold mdS; omega)).trans (Nw.setF (by unfold mdS; omega))
theorem R_X11init (ha : ∀ t n, 50 ≤ t → t ≤ 61 → σ.al t n = false) (hF : ∀ t j n r, t ≠ 11 → fin t j n = some r → σ.al t n = true → σ.F t n j = some r) (h11 : ∀ n, σ.al 11 n = true → n = 0) (hI : σ.I 11 0 = fun _ => 0) : Cv m_X11_init 1 12 8066 [vR (some (11, 0))] σ none (fun τ => Nw mdS σ τ ∧ WF τ ∧ τ.J 50 0 = layB (fun _ => 0) ∧ τ.I 11 0 = (fun k => if k = 13 then -1 else 0) ∧ τ.I 55 0 = fun _ => 0) := by
  have b0 : Mz 0 (fun _ => 0) σ := ⟨fun t n t0 t1 => ha t n (by omega) t1, fun j r hr h1 => by
    exfalso
    have c1 := fin_11 hr
    rcases c1 with c1 | c1 | c1 | c1 | c1 | c1 | c1 | c1 | c1 | c1 | c1 | c1 <;> obtain ⟨d1, d2⟩ := c1 <;> subst d2 <;> dsimp only at h1 <;> omega, hI, fun h => absurd h (by omega), fun h => absurd h (by omega)⟩
  have k12 : ∀ κ, Mz 12 (fun k => if k = 13 then -1 else 0) κ → Nw mdS σ κ → V m_X11_init 1 0 0 111 [some (vR (some (11, 0)))] [] κ (fun r τ => r = .inl none ∧ Nw mdS σ τ ∧ WF τ ∧ τ.J 50 0 = layB (fun _ => 0) ∧ τ.I 11 0 = (fun k => if k = 13 then -1 else 0) ∧ τ.I 55 0 = fun _ => 0) := fun κ hb hw => by
    obtain ⟨a1, a2, a3, a4, a5⟩ := hb
    have hW : WF κ := fun t j n r hr hal => by
      by_cases q : t = 11
      · subst q
        have q2 : κ.al 11 n = true → n = 0 := fun e => by
          by_cases y : n = 0
          · exact y
          · exfalso
            exact y (h11 n (by rw [← hw.al (t := 11) (n := n) (by unfold mdS; omega)]; exact e))
        have e := q2 hal
        subst e
        refine a2 j r hr ?_
        have c1 := fin_11 hr
        rcases c1 with c1 | c1 | c1 | c1 | c1 | c1 | c1 | c1 | c1 | c1 | c1 | c1 <;> obtain ⟨d1, d2⟩ := c1 <;> subst d2 <;> decide
      · by_cases y : 50 ≤ t ∧ t ≤ 61
        · exfalso
          have c : t = 50 ∨ t = 51 ∨ t = 52 ∨ t = 53 ∨ t = 54 ∨ t = 55 ∨ t = 56 ∨ t = 57 ∨ t = 58 ∨ t = 59 ∨ t = 60 ∨ t = 61 := by omega
          rcases c with rfl | rfl | rfl | rfl | rfl | rfl | rfl | rfl | rfl | rfl | rfl | rfl <;> cases hr
        · have ns : ¬ mdS t n := by
            unfold mdS
            omega
          rw [hw.F ns]
          rw [hw.al ns] at hal
          exact hF t j n r q hr hal
    refine V_aldn0 a_X11_init_111 ?_
    refine V_fin a_X11_init_112 f_X11_7 rfl hW ?_
    refine V_s1V a_X11_init_115 c_X11_52 (R_lay (t := 50) (i := 0) rfl (by decide)) ?_
    exact V_ret a_X11_init_118 (⟨rfl, hw.trans (Nw.rJ (by unfold mdS; omega)), hW, by rw [rJ_J, a4 (by omega)], a3, a5 (by omega)⟩)
  have k11 : ∀ κ, Mz 11 (fun k => if k = 13 then -1 else 0) κ → Nw mdS σ κ → V m_X11_init 1 1 2400 102 [some (vR (some (11, 0)))] [] κ (fun r τ => r = .inl none ∧ Nw mdS σ τ ∧ WF τ ∧ τ.J 50 0 = layB (fun _ => 0) ∧ τ.I 11 0 = (fun k => if k = 13 then -1 else 0) ∧ τ.I 55 0 = fun _ => 0) := fun κ hb hw => by
    have nx := k12 _ (hb.step (f := 21) rfl (by decide)) (hw.trans (Nw.md (by decide)))
    refine V_aldn0 a_X11_init_102 ?_
    refine V_sipush a_X11_init_103 (by decide) ?_
    refine V_newA a_X11_init_106 (t := 61) (i := 0) rfl rfl (by decide) rfl arc_byte (hb.1 61 0 (by decide) (by decide)) ?_
    refine V_putF a_X11_init_108 f_X11_49 rfl rfl rfl (by exact Nat.le_of_ble_eq_true rfl) ?_
    exact nx
  have k10 : ∀ κ, Mz 10 (fun k => if k = 13 then -1 else 0) κ → Nw mdS σ κ → V m_X11_init 1 2 2404 95 [some (vR (some (11, 0)))] [] κ (fun r τ => r = .inl none ∧ Nw mdS σ τ ∧ WF τ ∧ τ.J 50 0 = layB (fun _ => 0) ∧ τ.I 11 0 = (fun k => if k = 13 then -1 else 0) ∧ τ.I 55 0 = fun _ => 0) := fun κ hb hw => by
    have nx := k11 _ (hb.step (f := 20) rfl (by decide)) (hw.trans (Nw.md (by decide)))
    refine V_aldn0 a_X11_init_95 ?_
    refine V_iconst a_X11_init_96 ?_
    refine V_newA a_X11_init_97 (t := 60) (i := 0) rfl rfl (by decide) rfl arc_int (hb.1 60 0 (by decide) (by decide)) ?_
    refine V_putF a_X11_init_99 f_X11_46 rfl rfl rfl (by exact Nat.le_of_ble_eq_true rfl) ?_
    exact nx
  have k9 : ∀ κ, Mz 9 (fun k => if k = 13 then -1 else 0) κ → Nw mdS σ κ → V m_X11_init 1 3 2416 87 [some (vR (some (11, 0)))] [] κ (fun r τ => r = .inl none ∧ Nw mdS σ τ ∧ WF τ ∧ τ.J 50 0 = layB (fun _ => 0) ∧ τ.I 11 0 = (fun k => if k = 13 then -1 else 0) ∧ τ.I 55 0 = fun _ => 0) := fun κ hb hw => by
    have nx := k10 _ (hb.step (f := 18) rfl (by decide)) (hw.trans (Nw.md (by decide)))
    refine V_aldn0 a_X11_init_87 ?_
    refine V_bipush a_X11_init_88 (by decide) ?_
    refine V_newA a_X11_init_90 (t := 59) (i := 0) rfl rfl (by decide) rfl arc_int (hb.1 59 0 (by decide) (by decide)) ?_
    refine V_putF a_X11_init_92 f_X11_43 rfl rfl rfl (by exact Nat.le_of_ble_eq_true rfl) ?_
    exact nx
  have k8 : ∀ κ, Mz 8 (fun k => if k = 13 then -1 else 0) κ → Nw mdS σ κ → V m_X11_init 1 4 2428 79 [some (vR (some (11, 0)))] [] κ (fun r τ => r = .inl none ∧ Nw mdS σ τ ∧ WF τ ∧ τ.J 50 0 = layB (fun _ => 0) ∧ τ.I 11 0 = (fun k => if k = 13 then -1 else 0) ∧ τ.I 55 0 = fun _ => 0) := fun κ hb hw => by
    have nx := k9 _ (hb.step (f := 16) rfl (by decide)) (hw.trans (Nw.md (by decide)))
    refine V_aldn0 a_X11_init_79 ?_
    refine V_bipush a_X11_init_80 (by decide) ?_
    refine V_newA a_X11_init_82 (t := 58) (i := 0) rfl rfl (by decide) rfl arc_int (hb.1 58 0 (by decide) (by decide)) ?_
    refine V_putF a_X11_init_84 f_X11_39 rfl rfl rfl (by exact Nat.le_of_ble_eq_true rfl) ?_
    exact nx
  have k7 : ∀ κ, Mz 7 (fun k => if k = 13 then -1 else 0) κ → Nw mdS σ κ → V m_X11_init 1 5 2434 71 [some (vR (some (11, 0)))] [] κ (fun r τ => r = .inl none ∧ Nw mdS σ τ ∧ WF τ ∧ τ.J 50 0 = layB (fun _ => 0) ∧ τ.I 11 0 = (fun k => if k = 13 then -1 else 0) ∧ τ.I 55 0 = fun _ => 0) := fun κ hb hw => by
    have nx := k8 _ (hb.step (f := 15) rfl (by decide)) (hw.trans (Nw.md (by decide)))
    refine V_aldn0 a_X11_init_71 ?_
    refine V_bipush a_X11_init_72 (by decide) ?_
    refine V_newA a_X11_init_74 (t := 57) (i := 0) rfl rfl (by decide) rfl arc_long (hb.1 57 0 (by decide) (by decide)) ?_
    refine V_putF a_X11_init_76 f_X11_36 rfl rfl rfl (by exact Nat.le_of_ble_eq_true rfl) ?_
    exact nx
  have k6 : ∀ κ, Mz 6 (fun k => if k = 13 then -1 else 0) κ → Nw mdS σ κ → V m_X11_init 1 6 2440 63 [some (vR (some (11, 0)))] [] κ (fun r τ => r = .inl none ∧ Nw mdS σ τ ∧ WF τ ∧ τ.J 50 0 = layB (fun _ => 0) ∧ τ.I 11 0 = (fun k => if k = 13 then -1 else 0) ∧ τ.I 55 0 = fun _ => 0) := fun κ hb hw => by
    have nx := k7 _ (hb.step (f := 14) rfl (by decide)) (hw.trans (Nw.md (by decide)))
    refine V_aldn0 a_X11_init_63 ?_
    refine V_bipush a_X11_init_64 (by decide) ?_
    refine V_newA a_X11_init_66 (t := 56) (i := 0) rfl rfl (by decide) rfl arc_long (hb.1 56 0 (by decide) (by decide)) ?_
    refine V_putF a_X11_init_68 f_X11_33 rfl rfl rfl (by exact Nat.le_of_ble_eq_true rfl) ?_
    exact nx
  have kI : ∀ κ, Mz 6 (fun _ => 0) κ → Nw mdS σ κ → V m_X11_init 1 6 2440 58 [some (vR (some (11, 0)))] [] κ (fun r τ => r = .inl none ∧ Nw mdS σ τ ∧ WF τ ∧ τ.J 50 0 = layB (fun _ => 0) ∧ τ.I 11 0 = (fun k => if k = 13 then -1 else 0) ∧ τ.I 55 0 = fun _ => 0) := fun κ hb hw => by
    have hb2 : Mz 6 (fun k => if k = 13 then -1 else 0) (κ.setI 11 0 13 (-1)) := by
      obtain ⟨a1, a2, a3, a4, a5⟩ := hb
      refine ⟨a1, a2, ?_, a4, fun h6 => ?_⟩
      · funext x
        by_cases q : x = 13
        · subst q
          rw [setI_I, if_pos rfl]
        · rw [setI_ne q, if_neg q, a3]
      · rw [setI_t (by decide)]
        exact a5 h6
    have nx := k6 _ hb2 (hw.trans (Nw.setI (by unfold mdS; omega)))
    refine V_aldn0 a_X11_init_58 ?_
    refine V_iconst a_X11_init_59 ?_
    refine V_putI a_X11_init_60 f_X11_29 rfl ?_
    exact nx
  have k5 : ∀ κ, Mz 5 (fun _ => 0) κ → Nw mdS σ κ → V m_X11_init 1 7 3040 49 [some (vR (some (11, 0)))] [] κ (fun r τ => r = .inl none ∧ Nw mdS σ τ ∧ WF τ ∧ τ.J 50 0 = layB (fun _ => 0) ∧ τ.I 11 0 = (fun k => if k = 13 then -1 else 0) ∧ τ.I 55 0 = fun _ => 0) := fun κ hb hw => by
    have nx := kI _ (hb.step (f := 7) rfl (by decide)) (hw.trans (Nw.md (by decide)))
    refine V_aldn0 a_X11_init_49 ?_
    refine V_sipush a_X11_init_50 (by decide) ?_
    refine V_newA a_X11_init_53 (t := 55) (i := 0) rfl rfl (by decide) rfl arc_byte (hb.1 55 0 (by decide) (by decide)) ?_
    refine V_putF a_X11_init_55 f_X11_25 rfl rfl rfl (by exact Nat.le_of_ble_eq_true rfl) ?_
    exact nx
  have k4 : ∀ κ, Mz 4 (fun _ => 0) κ → Nw mdS σ κ → V m_X11_init 1 8 6630 40 [some (vR (some (11, 0)))] [] κ (fun r τ => r = .inl none ∧ Nw mdS σ τ ∧ WF τ ∧ τ.J 50 0 = layB (fun _ => 0) ∧ τ.I 11 0 = (fun k => if k = 13 then -1 else 0) ∧ τ.I 55 0 = fun _ => 0) := fun κ hb hw => by
    have nx := k5 _ (hb.step (f := 4) rfl (by decide)) (hw.trans (Nw.md (by decide)))
    refine V_aldn0 a_X11_init_40 ?_
    refine V_sipush a_X11_init_41 (by decide) ?_
    refine V_newA a_X11_init_44 (t := 54) (i := 0) rfl rfl (by decide) rfl arc_long (hb.1 54 0 (by decide) (by decide)) ?_
    refine V_putF a_X11_init_46 f_X11_22 rfl rfl rfl (by exact Nat.le_of_ble_eq_true rfl) ?_
    exact nx
  have k3 : ∀ κ, Mz 3 (fun _ => 0) κ → Nw mdS σ κ → V m_X11_init 1 9 6989 31 [some (vR (some (11, 0)))] [] κ (fun r τ => r = .inl none ∧ Nw mdS σ τ ∧ WF τ ∧ τ.J 50 0 = layB (fun _ => 0) ∧ τ.I 11 0 = (fun k => if k = 13 then -1 else 0) ∧ τ.I 55 0 = fun _ => 0) := fun κ hb hw => by
    have nx := k4 _ (hb.step (f := 3) rfl (by decide)) (hw.trans (Nw.md (by decide)))
    refine V_aldn0 a_X11_init_31 ?_
    refine V_sipush a_X11_init_32 (by decide) ?_
    refine V_newA a_X11_init_35 (t := 53) (i := 0) rfl rfl (by decide) rfl arc_long (hb.1 53 0 (by decide) (by decide)) ?_
    refine V_putF a_X11_init_37 f_X11_19 rfl rfl rfl (by exact Nat.le_of_ble_eq_true rfl) ?_
    exact nx
  have k2 : ∀ κ, Mz 2 (fun _ => 0) κ → Nw mdS σ κ → V m_X11_init 1 10 7348 22 [some (vR (some (11, 0)))] [] κ (fun r τ => r = .inl none ∧ Nw mdS σ τ ∧ WF τ ∧ τ.J 50 0 = layB (fun _ => 0) ∧ τ.I 11 0 = (fun k => if k = 13 then -1 else 0) ∧ τ.I 55 0 = fun _ => 0) := fun κ hb hw => by
    have nx := k3 _ (hb.step (f := 2) rfl (by decide)) (hw.trans (Nw.md (by decide)))
    refine V_aldn0 a_X11_init_22 ?_
    refine V_sipush a_X11_init_23 (by decide) ?_
    refine V_newA a_X11_init_26 (t := 52) (i := 0) rfl rfl (by decide) rfl arc_long (hb.1 52 0 (by decide) (by decide)) ?_
    refine V_putF a_X11_init_28 f_X11_16 rfl rfl rfl (by exact Nat.le_of_ble_eq_true rfl) ?_
    exact nx
  have k1 : ∀ κ, Mz 1 (fun _ => 0) κ → Nw mdS σ κ → V m_X11_init 1 11 7707 13 [some (vR (some (11, 0)))] [] κ (fun r τ => r = .inl none ∧ Nw mdS σ τ ∧ WF τ ∧ τ.J 50 0 = layB (fun _ => 0) ∧ τ.I 11 0 = (fun k => if k = 13 then -1 else 0) ∧ τ.I 55 0 = fun _ => 0) := fun κ hb hw => by
    have nx := k2 _ (hb.step (f := 1) rfl (by decide)) (hw.trans (Nw.md (by decide)))
    refine V_aldn0 a_X11_init_13 ?_
    refine V_sipush a_X11_init_14 (by decide) ?_
    refine V_newA a_X11_init_17 (t := 51) (i := 0) rfl rfl (by decide) rfl arc_long (hb.1 51 0 (by decide) (by decide)) ?_
    refine V_putF a_X11_init_19 f_X11_13 rfl rfl rfl (by exact Nat.le_of_ble_eq_true rfl) ?_
    exact nx
  have k0 : ∀ κ, Mz 0 (fun _ => 0) κ → Nw mdS σ κ → V m_X11_init 1 12 8066 4 [some (vR (some (11, 0)))] [] κ (fun r τ => r = .inl none ∧ Nw mdS σ τ ∧ WF τ ∧ τ.J 50 0 = layB (fun _ => 0) ∧ τ.I 11 0 = (fun k => if k = 13 then -1 else 0) ∧ τ.I 55 0 = fun _ => 0) := fun κ hb hw => by
    have nx := k1 _ (hb.step (f := 0) rfl (by decide)) (hw.trans (Nw.md (by decide)))
    refine V_aldn0 a_X11_init_4 ?_
    refine V_sipush a_X11_init_5 (by decide) ?_
    refine V_newA a_X11_init_8 (t := 50) (i := 0) rfl rfl (by decide) rfl arc_long (hb.1 50 0 (by decide) (by decide)) ?_
    refine V_putF a_X11_init_10 f_X11_7 rfl rfl rfl (by exact Nat.le_of_ble_eq_true rfl) ?_
    exact nx
  show V _ 1 12 8066 0 [some (vR (some (11, 0)))] [] σ _
  refine V_aldn0 a_X11_init_0 ?_
  refine V_objInit a_X11_init_1 oi_X11_1 oi_i oi_c (by omega) (by exact Nat.le_of_ble_eq_true rfl) ?_
  exact k0 σ b0 (Nw.refl _ _)
end Z3

