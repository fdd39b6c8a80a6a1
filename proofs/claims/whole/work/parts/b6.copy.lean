/-- all cells of pool i -/
def cpS (i : Nat) (t n : Nat) : Prop := ((36 ≤ t ∧ t ≤ 46) ∧ n = i) ∨ ((t = 3 ∨ t = 30 ∨ t = 31 ∨ t = 32) ∧ 12 * i ≤ n ∧ n < 12 * i + 12)
def cpN (t : Nat) : Int := if t = 36 then 9 else if t ≤ 39 then 4 else if t ≤ 42 then 6 else if t = 43 then 4 else if t = 44 then 24 else if t = 45 then 13 else 3
/-- the rows below p are copied -/
def Cp (i i' : Nat) (σ τ : Hp) (p : Nat) : Prop := FX (cpS i) σ τ ∧ (∀ t, 36 ≤ t → t < p → t ≤ 44 → ∀ x, 0 ≤ x → x < cpN t → τ.I t i x = σ.I t i' x) ∧ ∀ t, 45 ≤ t → t < p → t ≤ 46 → ∀ x, 0 ≤ x → x < cpN t → τ.J t i x = σ.J t i' x
theorem cp_I {i i' : Nat} {σ τ : Hp} {p : Nat} {N : Int} (h : Cp i i' σ τ p) (hp : 36 ≤ p ∧ p ≤ 44) (hN : cpN p = N) (hne : i' ≠ i) : Cp i i' σ (τ.rI p i (mix (τ.I p i') (τ.I p i) N)) (p + 1) := by
  obtain ⟨f, a, b⟩ := h
  refine ⟨f.trans (FX.rI (Or.inl ⟨by omega, rfl⟩)), fun t t0 t1 t2 x x0 x1 => ?_, fun t t0 t1 t2 x x0 x1 => by omega⟩
  by_cases z : t = p
  · rw [z] at x1 ⊢
    rw [hN] at x1
    rw [rI_I, mix_in x0 x1, f.I (by intro w; unfold cpS at w; omega)]
  · rw [rI_ne (by omega)]
    exact a t t0 (by omega) t2 x x0 x1
theorem cp_J {i i' : Nat} {σ τ : Hp} {p : Nat} {N : Int} (h : Cp i i' σ τ p) (hp : 45 ≤ p ∧ p ≤ 46) (hN : cpN p = N) (hne : i' ≠ i) : Cp i i' σ (τ.rJ p i (mix (τ.J p i') (τ.J p i) N)) (p + 1) := by
  obtain ⟨f, a, b⟩ := h
  refine ⟨f.trans (FX.rJ (Or.inl ⟨by omega, rfl⟩)), fun t t0 t1 t2 x x0 x1 => a t t0 (by omega) t2 x x0 x1, fun t t0 t1 t2 x x0 x1 => ?_⟩
  by_cases z : t = p
  · rw [z] at x1 ⊢
    rw [hN] at x1
    rw [rJ_J, mix_in x0 x1, f.J (by intro w; unfold cpS at w; omega)]
  · rw [rJ_ne (by omega)]
    exact b t t0 (by omega) t2 x x0 x1
theorem cp_rel {i i' : Nat} {σ τ : Hp} {A : St} (h : Cp i i' σ τ 47) (hn : (0 ≤ A 0 ∧ A 0 ≤ 4) ∧ (0 ≤ A 1 ∧ A 1 ≤ 6) ∧ (0 ≤ A 2 ∧ A 2 ≤ 4)) (hR : RelT σ i' A) : RelT τ i A := by
  obtain ⟨r1, r2, r3, r4, r5, r6, r7, r8⟩ := hR
  obtain ⟨f, a, b⟩ := h
  have c36 : ∀ x, 0 ≤ x → x < 9 → τ.I 36 i x = σ.I 36 i' x := fun x x0 x1 => a 36 (by decide) (by decide) (by decide) x x0 x1
  have c45 : ∀ x, 0 ≤ x → x < 13 → τ.J 45 i x = σ.J 45 i' x := fun x x0 x1 => b 45 (by decide) (by decide) (by decide) x x0 x1
  have c46 : ∀ x, 0 ≤ x → x < 3 → τ.J 46 i x = σ.J 46 i' x := fun x x0 x1 => b 46 (by decide) (by decide) (by decide) x x0 x1
  unfold RelT
  rw [c36 0 (by decide) (by decide), c36 1 (by decide) (by decide), c36 2 (by decide) (by decide), c36 3 (by decide) (by decide), c36 4 (by decide) (by decide), c36 5 (by decide) (by decide), c36 6 (by decide) (by decide), c36 7 (by decide) (by decide), c36 8 (by decide) (by decide), c46 0 (by decide) (by decide), c46 1 (by decide) (by decide), c46 2 (by decide) (by decide), c45 10 (by decide) (by decide), c45 11 (by decide) (by decide), c45 12 (by decide) (by decide)]
  refine ⟨r1, fun s s0 s1 => ?_, fun s s0 s1 => ?_, fun l l0 l1 => ?_, fun b b0 b1 => ?_, fun l s l0 l1 s0 s1 => ?_, ⟨fun l l0 l1 => ?_, fun b b0 b1 => ?_, r7.2.2⟩, r8⟩
  · rw [a 37 (by decide) (by decide) (by decide) s s0 (show s < 4 by omega), a 38 (by decide) (by decide) (by decide) s s0 (show s < 4 by omega)]
    exact r2 s s0 s1
  · rw [a 39 (by decide) (by decide) (by decide) s s0 (show s < 4 by omega)]
    exact r3 s s0 s1
  · rw [a 40 (by decide) (by decide) (by decide) l l0 (show l < 6 by omega), a 41 (by decide) (by decide) (by decide) l l0 (show l < 6 by omega), a 42 (by decide) (by decide) (by decide) l l0 (show l < 6 by omega)]
    exact r4 l l0 l1
  · rw [a 43 (by decide) (by decide) (by decide) b b0 (show b < 4 by omega)]
    exact r5 b b0 b1
  · rw [a 44 (by decide) (by decide) (by decide) (l * 4 + s) (by omega) (show l * 4 + s < 24 by omega)]
    exact r6 l s l0 l1 s0 s1
  · rw [c45 l l0 (by omega)]
    exact r7.1 l l0 l1
  · rw [c45 (6 + b) (by omega) (by omega)]
    exact r7.2.1 b b0 b1
theorem Cp.fx {i i' : Nat} {σ τ ρ : Hp} {S : Nat → Nat → Prop} (h : Cp i i' σ τ 47) (f : FX S τ ρ) (hs : ∀ t n, S t n → (t = 3 ∨ t = 30 ∨ t = 31 ∨ t = 32) ∧ 12 * i ≤ n ∧ n < 12 * i + 12) : Cp i i' σ ρ 47 := ⟨h.1.trans (f.sub (fun t n z => Or.inr (hs t n z))), fun t t0 t1 t2 x x0 x1 => by
  rw [f.I (fun z => by have := hs _ _ z; omega)]
  exact h.2.1 t t0 t1 t2 x x0 x1, fun t t0 t1 t2 x x0 x1 => by
  rw [f.J (fun z => by have := hs _ _ z; omega)]
  exact h.2.2 t t0 t1 t2 x x0 x1⟩
section Cy
variable {D : Int} {σ : Hp} {A : St} {i i' : Nat}
theorem R_Pcopy (h : Cl D σ i' A) (hS2 : Shp σ i) (hne : i' ≠ i) : Cv m_X6_copyFrom 2 0 0 [vR (some (6, i)), vR (some (6, i'))] σ none (fun τ => FX (cpS i) σ τ ∧ Cl D τ i A) := by
  obtain ⟨hD, hW0, hR, hS, hI⟩ := h
  have hn := hI.n
  have c0 : Cp i i' σ σ 36 := ⟨FX.refl _ _, fun t t0 t1 => by omega, fun t t0 t1 => by omega⟩
  show V _ 2 0 0 0 [some (vR (some (6, i))), some (vR (some (6, i'))), none] [] σ _
  have p160 : ∀ τ : Hp, Cp i i' σ τ 47 → V m_X6_copyFrom 2 0 0 162 [some (vR (some (6, i))), some (vR (some (6, i'))), some (vI 0)] [] τ (fun r τ => r = .inl none ∧ FX (cpS i) σ τ ∧ Cl D τ i A) := by
    intro τ hc
    refine loopI (P := fun k => ∀ τ : Hp, Cp i i' σ τ 47 → (∀ x, 0 ≤ x → x < k → LnA τ (lid σ i x) A x) → V m_X6_copyFrom 2 0 0 162 [some (vR (some (6, i))), some (vR (some (6, i'))), some (vI k)] [] τ (fun r τ => r = .inl none ∧ FX (cpS i) σ τ ∧ Cl D τ i A)) (N := A 7) (by omega) ?_ ?_ τ hc (fun x x0 x1 => by omega)
    · intro τ hc hl
      have rt := cp_rel hc (by omega) hR.top
      have n3 : τ.I 36 i 3 = A 7 := rt.1.2.2.2.1
      have hW := hc.1.wf hW0
      have el : ∀ x, lid τ i x = lid σ i x := fun x => by
        unfold lid
        rw [hc.1.2.1]
      have rl : Rel τ i A := rt.full (fun x x0 x1 => by
        rw [el]
        exact hl x x0 x1)
      have sp : Shp τ i := by
        unfold Shp lid at hS2 ⊢
        rw [hc.1.2.1]
        exact hS2
      refine V_ildn2 a_X6_copyFrom_162 ?_
      refine V_aldn0 a_X6_copyFrom_163 ?_
      refine V_fin a_X6_copyFrom_164 f_X6_9 rfl hW ?_
      refine V_iconst a_X6_copyFrom_167 ?_
      refine V_ialdE a_X6_copyFrom_168 rfl (by omega) n3 ?_
      refine V_icmp_ge_t a_X6_copyFrom_169 (by omega) (by omega) ?_
      exact V_ret a_X6_copyFrom_193 (⟨rfl, hc.1, hD, hW, rl, sp, hI⟩)
    · intro k k0 k1 ih τ hc hl
      have rt := cp_rel hc (by omega) hR.top
      have n3 : τ.I 36 i 3 = A 7 := rt.1.2.2.2.1
      have hW := hc.1.wf hW0
      have hL1 : τ.P 47 i k = some (lid σ i k) := by
        rw [hc.1.2.1]
        exact hS2.L k k0 (by omega)
      have hL2 : τ.P 47 i' k = some (lid σ i' k) := by
        rw [hc.1.2.1]
        exact hS.L k k0 (by omega)
      have b1 := hS2.1 k k0 (by omega)
      have b2 := hS.1 k k0 (by omega)
      have r1 := R_Lcopy (σ := τ) (j := lid σ i k) (j' := lid σ i' k) hW (by omega)
      refine V_ildn2 a_X6_copyFrom_162 ?_
      refine V_aldn0 a_X6_copyFrom_163 ?_
      refine V_fin a_X6_copyFrom_164 f_X6_9 rfl hW ?_
      refine V_iconst a_X6_copyFrom_167 ?_
      refine V_ialdE a_X6_copyFrom_168 rfl (by omega) n3 ?_
      refine V_icmp_ge_f a_X6_copyFrom_169 (by omega) (by omega) ?_
      refine V_aldn0 a_X6_copyFrom_172 ?_
      refine V_fin a_X6_copyFrom_173 f_X6_48 rfl hW ?_
      refine V_ildn2 a_X6_copyFrom_176 ?_
      refine V_aald a_X6_copyFrom_177 rfl (by omega) hL1 ?_
      refine V_aldn1 a_X6_copyFrom_178 ?_
      refine V_fin a_X6_copyFrom_179 f_X6_48 rfl hW ?_
      refine V_ildn2 a_X6_copyFrom_182 ?_
      refine V_aald a_X6_copyFrom_183 rfl (by omega) hL2 ?_
      refine V_v1PV a_X6_copyFrom_184 c_X6_68 r1 (fun ρ hρ => ?_)
      skip
      obtain ⟨f2, v2⟩ := hρ
      have hc2 := hc.fx f2 (fun t n z => by unfold jS at z; omega)
      have fj : ∀ t, (t = 3 ∨ t = 30 ∨ t = 31 ∨ t = 32) → τ.I t (lid σ i' k) = σ.I t (lid σ i' k) := fun t ht => hc.1.I (by intro z; unfold cpS at z; omega)
      rw [fj 3 (by decide), fj 30 (by decide), fj 31 (by decide), fj 32 (by decide)] at v2
      obtain ⟨g0, g1, g2, g3, g4, gs⟩ := hR.lns k k0 k1
      have ih2 := ih ρ hc2 (fun x x0 x1 => by
        by_cases z : x = k
        · rw [z]
          exact ⟨(v2.1 0 (by decide) (by decide)).trans g0, (v2.1 1 (by decide) (by decide)).trans g1, (v2.1 2 (by decide) (by decide)).trans g2, (v2.1 3 (by decide) (by decide)).trans g3, (v2.1 4 (by decide) (by decide)).trans g4, fun l l0 l1 => by
            have y := v2.2 l l0 l1
            have w := gs l l0 l1
            exact ⟨y.1.trans w.1, y.2.1.trans w.2.1, y.2.2.trans w.2.2⟩⟩
        · have nx : lid σ i x ≠ lid σ i k := fun w => z (hS2.2 x k x0 (by omega) k0 (by omega) w)
          exact (hl x x0 (by omega)).congr (fun t ht => f2.I (by intro w; unfold jS at w; omega)) (fun c _ _ => rfl))
      refine V_inc2 a_X6_copyFrom_187 ?_
      refine V_goto a_X6_copyFrom_190 ?_
      exact ih2
  have hW := hW0
  refine V_aldn1 a_X6_copyFrom_0 ?_
  refine V_fin a_X6_copyFrom_1 f_X6_9 rfl hW ?_
  refine V_iconst a_X6_copyFrom_4 ?_
  refine V_aldn0 a_X6_copyFrom_5 ?_
  refine V_fin a_X6_copyFrom_6 f_X6_9 rfl hW ?_
  refine V_iconst a_X6_copyFrom_9 ?_
  refine V_bipush a_X6_copyFrom_10 (by decide) ?_
  refine V_cpyI a_X6_copyFrom_12 rfl rfl (by omega) ac_X6_62 ac_n ac_s ac_i (by omega) (by exact Nat.le_of_ble_eq_true rfl) ?_
  rw [cpI]
  have c1 := cp_I (N := 9) c0 (by decide) rfl hne
  generalize σ.rI 36 i (mix (σ.I 36 i') (σ.I 36 i) 9) = τ1 at c1 ⊢
  have hW := c1.1.wf hW0
  refine V_aldn1 a_X6_copyFrom_15 ?_
  refine V_fin a_X6_copyFrom_16 f_X6_15 rfl hW ?_
  refine V_iconst a_X6_copyFrom_19 ?_
  refine V_aldn0 a_X6_copyFrom_20 ?_
  refine V_fin a_X6_copyFrom_21 f_X6_15 rfl hW ?_
  refine V_iconst a_X6_copyFrom_24 ?_
  refine V_iconst a_X6_copyFrom_25 ?_
  refine V_cpyI a_X6_copyFrom_26 rfl rfl (by omega) ac_X6_62 ac_n ac_s ac_i (by omega) (by exact Nat.le_of_ble_eq_true rfl) ?_
  rw [cpI]
  have c2 := cp_I (N := 4) c1 (by decide) rfl hne
  generalize τ1.rI 37 i (mix (τ1.I 37 i') (τ1.I 37 i) 4) = τ2 at c2 ⊢
  have hW := c2.1.wf hW0
  refine V_aldn1 a_X6_copyFrom_29 ?_
  refine V_fin a_X6_copyFrom_30 f_X6_18 rfl hW ?_
  refine V_iconst a_X6_copyFrom_33 ?_
  refine V_aldn0 a_X6_copyFrom_34 ?_
  refine V_fin a_X6_copyFrom_35 f_X6_18 rfl hW ?_
  refine V_iconst a_X6_copyFrom_38 ?_
  refine V_iconst a_X6_copyFrom_39 ?_
  refine V_cpyI a_X6_copyFrom_40 rfl rfl (by omega) ac_X6_62 ac_n ac_s ac_i (by omega) (by exact Nat.le_of_ble_eq_true rfl) ?_
  rw [cpI]
  have c3 := cp_I (N := 4) c2 (by decide) rfl hne
  generalize τ2.rI 38 i (mix (τ2.I 38 i') (τ2.I 38 i) 4) = τ3 at c3 ⊢
  have hW := c3.1.wf hW0
  refine V_aldn1 a_X6_copyFrom_43 ?_
  refine V_fin a_X6_copyFrom_44 f_X6_21 rfl hW ?_
  refine V_iconst a_X6_copyFrom_47 ?_
  refine V_aldn0 a_X6_copyFrom_48 ?_
  refine V_fin a_X6_copyFrom_49 f_X6_21 rfl hW ?_
  refine V_iconst a_X6_copyFrom_52 ?_
  refine V_iconst a_X6_copyFrom_53 ?_
  refine V_cpyI a_X6_copyFrom_54 rfl rfl (by omega) ac_X6_62 ac_n ac_s ac_i (by omega) (by exact Nat.le_of_ble_eq_true rfl) ?_
  rw [cpI]
  have c4 := cp_I (N := 4) c3 (by decide) rfl hne
  generalize τ3.rI 39 i (mix (τ3.I 39 i') (τ3.I 39 i) 4) = τ4 at c4 ⊢
  have hW := c4.1.wf hW0
  refine V_aldn1 a_X6_copyFrom_57 ?_
  refine V_fin a_X6_copyFrom_58 f_X6_24 rfl hW ?_
  refine V_iconst a_X6_copyFrom_61 ?_
  refine V_aldn0 a_X6_copyFrom_62 ?_
  refine V_fin a_X6_copyFrom_63 f_X6_24 rfl hW ?_
  refine V_iconst a_X6_copyFrom_66 ?_
  refine V_bipush a_X6_copyFrom_67 (by decide) ?_
  refine V_cpyI a_X6_copyFrom_69 rfl rfl (by omega) ac_X6_62 ac_n ac_s ac_i (by omega) (by exact Nat.le_of_ble_eq_true rfl) ?_
  rw [cpI]
  have c5 := cp_I (N := 6) c4 (by decide) rfl hne
  generalize τ4.rI 40 i (mix (τ4.I 40 i') (τ4.I 40 i) 6) = τ5 at c5 ⊢
  have hW := c5.1.wf hW0
  refine V_aldn1 a_X6_copyFrom_72 ?_
  refine V_fin a_X6_copyFrom_73 f_X6_27 rfl hW ?_
  refine V_iconst a_X6_copyFrom_76 ?_
  refine V_aldn0 a_X6_copyFrom_77 ?_
  refine V_fin a_X6_copyFrom_78 f_X6_27 rfl hW ?_
  refine V_iconst a_X6_copyFrom_81 ?_
  refine V_bipush a_X6_copyFrom_82 (by decide) ?_
  refine V_cpyI a_X6_copyFrom_84 rfl rfl (by omega) ac_X6_62 ac_n ac_s ac_i (by omega) (by exact Nat.le_of_ble_eq_true rfl) ?_
  rw [cpI]
  have c6 := cp_I (N := 6) c5 (by decide) rfl hne
  generalize τ5.rI 41 i (mix (τ5.I 41 i') (τ5.I 41 i) 6) = τ6 at c6 ⊢
  have hW := c6.1.wf hW0
  refine V_aldn1 a_X6_copyFrom_87 ?_
  refine V_fin a_X6_copyFrom_88 f_X6_30 rfl hW ?_
  refine V_iconst a_X6_copyFrom_91 ?_
  refine V_aldn0 a_X6_copyFrom_92 ?_
  refine V_fin a_X6_copyFrom_93 f_X6_30 rfl hW ?_
  refine V_iconst a_X6_copyFrom_96 ?_
  refine V_bipush a_X6_copyFrom_97 (by decide) ?_
  refine V_cpyI a_X6_copyFrom_99 rfl rfl (by omega) ac_X6_62 ac_n ac_s ac_i (by omega) (by exact Nat.le_of_ble_eq_true rfl) ?_
  rw [cpI]
  have c7 := cp_I (N := 6) c6 (by decide) rfl hne
  generalize τ6.rI 42 i (mix (τ6.I 42 i') (τ6.I 42 i) 6) = τ7 at c7 ⊢
  have hW := c7.1.wf hW0
  refine V_aldn1 a_X6_copyFrom_102 ?_
  refine V_fin a_X6_copyFrom_103 f_X6_33 rfl hW ?_
  refine V_iconst a_X6_copyFrom_106 ?_
  refine V_aldn0 a_X6_copyFrom_107 ?_
  refine V_fin a_X6_copyFrom_108 f_X6_33 rfl hW ?_
  refine V_iconst a_X6_copyFrom_111 ?_
  refine V_iconst a_X6_copyFrom_112 ?_
  refine V_cpyI a_X6_copyFrom_113 rfl rfl (by omega) ac_X6_62 ac_n ac_s ac_i (by omega) (by exact Nat.le_of_ble_eq_true rfl) ?_
  rw [cpI]
  have c8 := cp_I (N := 4) c7 (by decide) rfl hne
  generalize τ7.rI 43 i (mix (τ7.I 43 i') (τ7.I 43 i) 4) = τ8 at c8 ⊢
  have hW := c8.1.wf hW0
  refine V_aldn1 a_X6_copyFrom_116 ?_
  refine V_fin a_X6_copyFrom_117 f_X6_36 rfl hW ?_
  refine V_iconst a_X6_copyFrom_120 ?_
  refine V_aldn0 a_X6_copyFrom_121 ?_
  refine V_fin a_X6_copyFrom_122 f_X6_36 rfl hW ?_
  refine V_iconst a_X6_copyFrom_125 ?_
  refine V_bipush a_X6_copyFrom_126 (by decide) ?_
  refine V_cpyI a_X6_copyFrom_128 rfl rfl (by omega) ac_X6_62 ac_n ac_s ac_i (by omega) (by exact Nat.le_of_ble_eq_true rfl) ?_
  rw [cpI]
  have c9 := cp_I (N := 24) c8 (by decide) rfl hne
  generalize τ8.rI 44 i (mix (τ8.I 44 i') (τ8.I 44 i) 24) = τ9 at c9 ⊢
  have hW := c9.1.wf hW0
  refine V_aldn1 a_X6_copyFrom_131 ?_
  refine V_fin a_X6_copyFrom_132 f_X6_39 rfl hW ?_
  refine V_iconst a_X6_copyFrom_135 ?_
  refine V_aldn0 a_X6_copyFrom_136 ?_
  refine V_fin a_X6_copyFrom_137 f_X6_39 rfl hW ?_
  refine V_iconst a_X6_copyFrom_140 ?_
  refine V_bipush a_X6_copyFrom_141 (by decide) ?_
  refine V_cpyJ a_X6_copyFrom_143 rfl rfl (by omega) ac_X6_62 ac_n ac_s ac_i (by omega) (by exact Nat.le_of_ble_eq_true rfl) ?_
  rw [cpJ]
  have c10 := cp_J (N := 13) c9 (by decide) rfl hne
  generalize τ9.rJ 45 i (mix (τ9.J 45 i') (τ9.J 45 i) 13) = τ10 at c10 ⊢
  have hW := c10.1.wf hW0
  refine V_aldn1 a_X6_copyFrom_146 ?_
  refine V_fin a_X6_copyFrom_147 f_X6_43 rfl hW ?_
  refine V_iconst a_X6_copyFrom_150 ?_
  refine V_aldn0 a_X6_copyFrom_151 ?_
  refine V_fin a_X6_copyFrom_152 f_X6_43 rfl hW ?_
  refine V_iconst a_X6_copyFrom_155 ?_
  refine V_iconst a_X6_copyFrom_156 ?_
  refine V_cpyJ a_X6_copyFrom_157 rfl rfl (by omega) ac_X6_62 ac_n ac_s ac_i (by omega) (by exact Nat.le_of_ble_eq_true rfl) ?_
  rw [cpJ]
  have c11 := cp_J (N := 3) c10 (by decide) rfl hne
  generalize τ10.rJ 46 i (mix (τ10.J 46 i') (τ10.J 46 i) 3) = τ11 at c11 ⊢
  have hW := c11.1.wf hW0
  have k2 := p160 τ11 c11
  refine V_iconst a_X6_copyFrom_160 ?_
  refine V_istn2 a_X6_copyFrom_161 ?_
  exact k2
end Cy

