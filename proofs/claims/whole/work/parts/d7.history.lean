section Cg
variable {D : Int} {σ τ : Hp} {A : St} {i : Nat}
theorem Cl.cg (h : Cl D σ i A) (hW : WF τ) (eP : τ.P 47 i = σ.P 47 i) (eI : ∀ t n, nwS i t n → τ.I t n = σ.I t n ∧ τ.J t n = σ.J t n) : Cl D τ i A := by
  obtain ⟨hD, -, hR, hS, hI⟩ := h
  have hn := hI.n
  have el : ∀ k, lid τ i k = lid σ i k := fun k => by
    unfold lid
    rw [eP]
  refine ⟨hD, hW, (hR.top.congr (by omega) (fun t t0 t1 => (eI t i (Or.inl ⟨Or.inr (by omega), rfl⟩)).1) (fun t t0 t1 => (eI t i (Or.inl ⟨Or.inr (by omega), rfl⟩)).2) (fun j _ _ => rfl)).full (fun k k0 k1 => ?_), ?_, hI⟩
  · rw [el]
    have hl := hS.1 k k0 (by omega)
    exact (hR.lns k k0 k1).congr (fun t ht => (eI t _ (Or.inr ⟨ht, hl.2.1, hl.2.2⟩)).1) (fun c _ _ => rfl)
  · unfold Shp lid at hS ⊢
    rw [eP]
    exact hS
theorem Shp.cg (hS : Shp σ i) (eP : τ.P 47 i = σ.P 47 i) : Shp τ i := by
  unfold Shp lid at hS ⊢
  rw [eP]
  exact hS
theorem Cl.nw {S : Nat → Nat → Prop} (h : Cl D σ i A) (f : Nw S σ τ) (hW : WF τ) (hs : ∀ t n, nwS i t n → ¬ S t n) : Cl D τ i A := h.cg hW (f.P (hs 47 i (Or.inl ⟨Or.inr (by decide), rfl⟩))) (fun t n z => ⟨f.I (hs t n z), f.J (hs t n z)⟩)
/-- the states before the latest changes -/
def HsC (D : Int) (σ : Hp) (c : Int) (H : Int → St) : Prop := ∃ nx : Int, (σ.I 2 0 0 = c ∧ σ.I 2 0 1 = nx) ∧ (0 ≤ nx ∧ nx < 10) ∧ (0 ≤ c ∧ c ≤ 10) ∧ (∀ x : Int, 0 ≤ x → x < 10 → (σ.P 34 0 x = none ∧ ∀ t n, nwS (2 + x.toNat) t n → σ.al t n = false) ∨ (σ.P 34 0 x = some (2 + x.toNat) ∧ Shp σ (2 + x.toNat))) ∧ ∀ k, 0 ≤ k → k < c → σ.P 34 0 ((nx - c + k) % 10) = some (2 + ((nx - c + k) % 10).toNat) ∧ Cl D σ (2 + ((nx - c + k) % 10).toNat) (H k)
/-- what is not of the history stays -/
theorem HsC.nw {S : Nat → Nat → Prop} {c : Int} {H : Int → St} (h : HsC D σ c H) (f : Nw S σ τ) (hW : WF τ) (h2 : ¬ S 2 0) (h34 : ¬ S 34 0) (hs : ∀ t n x, x < 10 → nwS (2 + x) t n → ¬ S t n) : HsC D τ c H := by
  obtain ⟨nx, a, b, c0, e, g⟩ := h
  refine ⟨nx, by rw [f.I h2]; exact a, b, c0, fun x x0 x1 => ?_, fun k k0 k1 => ?_⟩
  · rw [f.P h34]
    rcases e x x0 x1 with z | z
    · exact Or.inl ⟨z.1, fun t n y => by rw [f.al (hs t n x.toNat (by omega) y)]; exact z.2 t n y⟩
    · exact Or.inr ⟨z.1, z.2.cg (f.P (hs 47 _ x.toNat (by omega) (Or.inl ⟨Or.inr (by decide), rfl⟩)))⟩
  · rw [f.P h34]
    obtain ⟨g1, g2⟩ := g k k0 k1
    exact ⟨g1, g2.nw f hW (fun t n z => hs t n ((nx - c + k) % 10).toNat (by omega) z)⟩
theorem HsC.up {D' c : Int} {H : Int → St} (h : HsC D σ c H) (hd : D ≤ D') (h2 : D' ≤ 20000000) : HsC D' σ c H := by
  obtain ⟨nx, a, b, c0, e, g⟩ := h
  exact ⟨nx, a, b, c0, e, fun k k0 k1 => ⟨(g k k0 k1).1, (g k k0 k1).2.up hd h2⟩⟩
/-- what keeping a pool changes -/
def kpS (t n : Nat) : Prop := t = 2 ∨ t = 34 ∨ ∃ x, x < 10 ∧ nwS (2 + x) t n
theorem R_keep {c : Int} {H : Int → St} (h : Cl D σ 0 A) (hH : HsC D σ c H) : Cv m_X2_keep 4 61 419 [vR (some (2, 0)), vR (some (6, 0))] σ none (fun τ => Nw kpS σ τ ∧ Cl D τ 0 A ∧ HsC D τ (pushC c) (pushH c H A)) := by
  have hH' := hH
  obtain ⟨nx, ⟨h0, h1⟩, hx, hc, he, hg⟩ := hH
  have hW := h.2.1
  generalize hp : 2 + nx.toNat = p
  have hp2 : 2 ≤ p ∧ p < 12 := by omega
  have nd : ∀ t n, nwS 0 t n → ¬ nwS p t n := fun t n a b => by unfold nwS pS at a b; omega
  have ndx : ∀ x t n, x < 10 → 2 + x ≠ p → nwS (2 + x) t n → ¬ nwS p t n := fun x t n _ _ a b => by unfold nwS pS at a b; omega
  have tail : ∀ τ, Nw (fun t n => (t = 34 ∧ n = 0) ∨ nwS p t n) σ τ → WF τ → Shp τ p → τ.P 34 0 nx = some p → (∀ x, 0 ≤ x → x < 10 → x ≠ nx → τ.P 34 0 x = σ.P 34 0 x) → V m_X2_keep 4 0 0 28 [some (vR (some (2, 0))), some (vR (some (6, 0)))] [] τ (fun r τ => r = .inl none ∧ Nw kpS σ τ ∧ Cl D τ 0 A ∧ HsC D τ (pushC c) (pushH c H A)) := by
    intro τ f hWt hSt hP hPo
    have clt : Cl D τ 0 A := h.nw f hWt (fun t n z y => by
      rcases y with y | y
      · unfold nwS pS at z
        omega
      · exact nd t n z y)
    have rc := R_Pcopy clt hSt (by omega)
    have k0 : τ.I 2 0 0 = c := by
      rw [f.I (by unfold nwS pS; omega)]
      exact h0
    have k1 : τ.I 2 0 1 = nx := by
      rw [f.I (by unfold nwS pS; omega)]
      exact h1
    have hW := hWt
    refine V_aldn0 a_X2_keep_28 ?_
    refine V_fin a_X2_keep_29 f_X2_11 rfl hW ?_
    refine V_aldn0 a_X2_keep_32 ?_
    refine V_getIE a_X2_keep_33 f_X2_17 rfl k1 ?_
    refine V_aald a_X2_keep_36 rfl (by omega) hP ?_
    refine V_aldn1 a_X2_keep_37 ?_
    refine V_v1PV a_X2_keep_38 c_X2_22 rc (fun τ2 hτ2 => ?_)
    skip
    obtain ⟨f2, cl2⟩ := hτ2
    have n2 : Nw (cpS p) τ τ2 := f2.nw
    have e2 : τ2.I 2 0 = τ.I 2 0 := f2.I (by unfold cpS; omega)
    have rm := R_imin (σ := τ2.setI 2 0 1 ((nx + 1).tmod 10)) (x := c + 1) (y := 10) (by omega) (by omega)
    have em : (nx + 1).tmod 10 = (nx + 1) % 10 := Int.tmod_eq_emod_of_nonneg (by omega)
    rw [em] at rm
    have k1b : τ2.I 2 0 1 = nx := by
      rw [e2]
      exact k1
    have k0b : (τ2.setI 2 0 1 ((nx + 1) % 10)).I 2 0 0 = c := by
      rw [setI_ne (by decide), e2]
      exact k0
    have hpc : pushC c = min (c + 1) 10 := by
      unfold pushC
      split <;> omega
    have n3 : Nw (fun t n => t = 2 ∧ n = 0) τ2 ((τ2.setI 2 0 1 ((nx + 1) % 10)).setI 2 0 0 (min (c + 1) 10)) := (FX.trans (FX.setI (S := fun t n => t = 2 ∧ n = 0) ⟨rfl, rfl⟩) (FX.setI ⟨rfl, rfl⟩)).nw
    have i0 : ((τ2.setI 2 0 1 ((nx + 1) % 10)).setI 2 0 0 (min (c + 1) 10)).I 2 0 0 = min (c + 1) 10 := setI_I
    have i1 : ((τ2.setI 2 0 1 ((nx + 1) % 10)).setI 2 0 0 (min (c + 1) 10)).I 2 0 1 = (nx + 1) % 10 := by rw [setI_ne (by decide), setI_I]
    have wf3 : WF ((τ2.setI 2 0 1 ((nx + 1) % 10)).setI 2 0 0 (min (c + 1) 10)) := (FX.trans (FX.setI (S := fun t n => t = 2 ∧ n = 0) ⟨rfl, rfl⟩) (FX.setI ⟨rfl, rfl⟩)).wf (f2.wf hWt)
    generalize hτ3 : (τ2.setI 2 0 1 ((nx + 1) % 10)).setI 2 0 0 (min (c + 1) 10) = τ3 at n3 i0 i1 wf3
    have nn : Nw (fun t n => (t = 2 ∧ n = 0) ∨ (t = 34 ∧ n = 0) ∨ nwS p t n) σ τ3 := (f.sub (fun t n z => Or.inr z)).trans ((n2.sub (fun t n z => Or.inr (Or.inr (by unfold cpS at z; unfold nwS pS; omega)))).trans (n3.sub (fun t n z => Or.inl z)))
    have cl3 : Cl D τ3 p A := cl2.nw n3 wf3 (fun t n z y => by unfold nwS pS at z; omega)
    have c03 : Cl D τ3 0 A := h.nw nn wf3 (fun t n z y => by
      rcases y with y | y | y
      · unfold nwS pS at z
        omega
      · unfold nwS pS at z
        omega
      · exact nd t n z y)
    have p34 : ∀ x, τ3.P 34 0 x = τ.P 34 0 x := fun x => by rw [n3.P (by omega), n2.P (by unfold cpS; omega)]
    have oth : ∀ x : Int, 0 ≤ x → x < 10 → x ≠ nx → ∀ t n, nwS (2 + x.toNat) t n → ¬ ((t = 2 ∧ n = 0) ∨ (t = 34 ∧ n = 0) ∨ nwS p t n) := fun x x0 x1 x2 t n z y => by
      rcases y with y | y | y
      · unfold nwS pS at z
        omega
      · unfold nwS pS at z
        omega
      · exact ndx x.toNat t n (by omega) (by omega) z y
    have hfin : HsC D τ3 (pushC c) (pushH c H A) := by
      refine ⟨(nx + 1) % 10, ⟨i0.trans hpc.symm, i1⟩, by omega, by omega, fun x x0 x1 => ?_, fun k a0 a1 => ?_⟩
      · by_cases z : x = nx
        · rw [p34, z, hP, hp]
          exact Or.inr ⟨rfl, cl3.2.2.2.1⟩
        · rw [p34, hPo x x0 x1 z]
          rcases he x x0 x1 with y | y
          · exact Or.inl ⟨y.1, fun t n w => by rw [nn.al (oth x x0 x1 z t n w)]; exact y.2 t n w⟩
          · exact Or.inr ⟨y.1, y.2.cg (nn.P (oth x x0 x1 z 47 _ (Or.inl ⟨Or.inr (by decide), rfl⟩)))⟩
      · have old : ∀ k', 0 ≤ k' → k' < c → (nx - c + k') % 10 ≠ nx → τ3.P 34 0 ((nx - c + k') % 10) = some (2 + ((nx - c + k') % 10).toNat) ∧ Cl D τ3 (2 + ((nx - c + k') % 10).toNat) (H k') := fun k' b0 b1 b2 => by
          obtain ⟨g1, g2⟩ := hg k' b0 b1
          rw [p34, hPo _ (by omega) (by omega) b2]
          exact ⟨g1, g2.nw nn wf3 (oth _ (by omega) (by omega) b2)⟩
        have new : τ3.P 34 0 nx = some (2 + nx.toNat) ∧ Cl D τ3 (2 + nx.toNat) A := by
          rw [p34, hP, hp]
          exact ⟨rfl, cl3⟩
        unfold pushH
        by_cases z : c = 10
        · have e10 : pushC c = 10 := if_pos z
          rw [e10] at a1 ⊢
          rw [if_pos z]
          by_cases y : k = 9
          · rw [if_pos y, show ((nx + 1) % 10 - 10 + k) % 10 = nx by omega]
            exact new
          · rw [if_neg y, show ((nx + 1) % 10 - 10 + k) % 10 = (nx - c + (k + 1)) % 10 by omega]
            exact old (k + 1) (by omega) (by omega) (by omega)
        · have e10 : pushC c = c + 1 := if_neg z
          rw [e10] at a1 ⊢
          rw [if_neg z]
          by_cases y : k = c
          · rw [if_pos y, show ((nx + 1) % 10 - (c + 1) + k) % 10 = nx by omega]
            exact new
          · rw [if_neg y, show ((nx + 1) % 10 - (c + 1) + k) % 10 = (nx - c + k) % 10 by omega]
            exact old k (by omega) (by omega) (by omega)
    refine V_aldn0 a_X2_keep_41 ?_
    refine V_aldn0 a_X2_keep_42 ?_
    refine V_getIE a_X2_keep_43 f_X2_17 rfl k1b ?_
    refine V_iconst a_X2_keep_46 ?_
    refine V_iadd a_X2_keep_47 ?_
    refine V_bipush a_X2_keep_48 (by decide) ?_
    refine V_irem a_X2_keep_50 (by omega) ?_
    rw [em]
    refine V_putI a_X2_keep_51 f_X2_17 rfl ?_
    refine V_aldn0 a_X2_keep_54 ?_
    refine V_aldn0 a_X2_keep_55 ?_
    refine V_getIE a_X2_keep_56 f_X2_26 rfl k0b ?_
    refine V_iconst a_X2_keep_59 ?_
    refine V_iadd a_X2_keep_60 ?_
    refine V_bipush a_X2_keep_61 (by decide) ?_
    refine V_s2R a_X2_keep_63 c_X2_29 rm ?_
    refine V_putI a_X2_keep_66 f_X2_26 rfl ?_
    rw [hτ3]
    exact V_ret a_X2_keep_69 (⟨rfl, nn.sub (fun t n z => by
    rcases z with z | z | z
    · exact Or.inl z.1
    · exact Or.inr (Or.inl z.1)
    · exact Or.inr (Or.inr ⟨nx.toNat, by omega, by rw [hp]; exact z⟩)), c03, hfin⟩)
  show V _ 4 61 419 0 [some (vR (some (2, 0))), some (vR (some (6, 0)))] [] σ _
  rcases he nx hx.1 hx.2 with z | z
  · rw [hp] at z
    have a6 : σ.al 6 p = false := z.2 6 p (Or.inl ⟨Or.inl rfl, rfl⟩)
    have ri := R_X6init (σ := σ.new 6 p) (i := p) (fun t n y h6 => by
      rw [al_new, if_neg (fun w => h6 w.1)]
      exact z.2 t n y)
    refine V_aldn0 a_X2_keep_0 ?_
    refine V_fin a_X2_keep_1 f_X2_11 rfl hW ?_
    refine V_aldn0 a_X2_keep_4 ?_
    refine V_getIE a_X2_keep_5 f_X2_17 rfl h1 ?_
    refine V_aaldN a_X2_keep_8 rfl (by omega) z.1 ?_
    refine V_ifnonnull_N a_X2_keep_9 ?_
    refine V_aldn0 a_X2_keep_12 ?_
    refine V_fin a_X2_keep_13 f_X2_11 rfl hW ?_
    refine V_aldn0 a_X2_keep_16 ?_
    refine V_getIE a_X2_keep_17 f_X2_17 rfl h1 ?_
    refine V_newO a_X2_keep_20 (t := 6) (i := p) (by decide) kl_X2_9 ins_6 ini_6 a6 ?_
    first | refine V_dupR a_X2_keep_23 ?_ | refine V_dupI a_X2_keep_23 ?_
    refine V_i0PV a_X2_keep_24 c_X2_21 ri (fun τ hτ => ?_)
    refine V_aast a_X2_keep_27 rfl (by omega) ?_
    skip
    obtain ⟨n1, q6, qa, qf, qs, -, -⟩ := hτ
    have n0 : Nw (nwS p) σ τ := (Nw.new (S := nwS p) (Or.inl ⟨Or.inl rfl, rfl⟩)).trans n1
    have wf : WF (τ.setP 34 0 nx (some p)) := fun t k n r hf hal => by
      by_cases y : nwS p t n
      · exact qf t k n r y hf
      · have a1 : σ.al t n = true := (n0.al y).symm.trans hal
        have a2 : τ.F t n = σ.F t n := n0.F y
        show τ.F t n k = some r
        rw [a2]
        exact hW t k n r hf a1
    exact V_low (tail (τ.setP 34 0 nx (some p)) ((n0.sub (fun t n y => Or.inr y)).trans (Nw.setP (Or.inl ⟨rfl, rfl⟩))) wf (qs.cg (by
      funext x
      show u3 τ.P 34 0 nx (some p) 47 p x = τ.P 47 p x
      unfold u3
      rw [if_neg (fun y => absurd y.1 (by decide))])) setP_P (fun x x0 x1 x2 => by rw [setP_ne x2, n0.P (by unfold nwS pS; omega)])) (by decide) (by decide)
  · rw [hp] at z
    have tl := V_low (tail σ (Nw.refl _ _) hW z.2 z.1 (fun _ _ _ _ => rfl)) (b' := 61) (bs' := 419) (by decide) (by decide)
    refine V_aldn0 a_X2_keep_0 ?_
    refine V_fin a_X2_keep_1 f_X2_11 rfl hW ?_
    refine V_aldn0 a_X2_keep_4 ?_
    refine V_getIE a_X2_keep_5 f_X2_17 rfl h1 ?_
    refine V_aald a_X2_keep_8 rfl (by omega) z.1 ?_
    refine V_ifnonnull_S a_X2_keep_9 ?_
    exact tl
theorem R_restore {c : Int} {H : Int → St} (h : Cl D σ 0 A) (hH : HsC D σ c H) (hc0 : 0 < c) : Cv m_X2_restore 3 0 0 [vR (some (2, 0)), vR (some (6, 0))] σ none (fun τ => FX (fun t n => (t = 2 ∧ n = 0) ∨ cpS 0 t n) σ τ ∧ Cl D τ 0 (H (c - 1)) ∧ HsC D τ (c - 1) H) := by
  have hH' := hH
  obtain ⟨nx, ⟨h0, h1⟩, hx, hc, he, hg⟩ := hH
  have hW := h.2.1
  obtain ⟨g1, g2⟩ := hg (c - 1) (by omega) (by omega)
  have em : (nx + 10 - 1).tmod 10 = (nx - c + (c - 1)) % 10 := by
    rw [Int.tmod_eq_emod_of_nonneg (by omega)]
    omega
  have hy : 0 ≤ (nx - c + (c - 1)) % 10 ∧ (nx - c + (c - 1)) % 10 < 10 ∧ (nx - c + (c - 1)) % 10 = (nx + 9) % 10 := by omega
  generalize (nx - c + (c - 1)) % 10 = y at g1 g2 em hy
  have rc := R_Pcopy (i := 0) g2 h.2.2.2.1 (by omega)
  show V _ 3 0 0 0 [some (vR (some (2, 0))), some (vR (some (6, 0))), none] [] σ _
  refine V_aldn0 a_X2_restore_0 ?_
  refine V_getIE a_X2_restore_1 f_X2_17 rfl h1 ?_
  refine V_bipush a_X2_restore_4 (by decide) ?_
  refine V_iadd a_X2_restore_6 ?_
  refine V_iconst a_X2_restore_7 ?_
  refine V_isub a_X2_restore_8 ?_
  refine V_bipush a_X2_restore_9 (by decide) ?_
  refine V_irem a_X2_restore_11 (by omega) ?_
  rw [em]
  refine V_istn2 a_X2_restore_12 ?_
  refine V_aldn0 a_X2_restore_13 ?_
  refine V_getIE a_X2_restore_14 f_X2_26 rfl h0 ?_
  refine V_if_le_f a_X2_restore_17 (by omega) (by omega) ?_
  refine V_aldn0 a_X2_restore_20 ?_
  refine V_fin a_X2_restore_21 f_X2_11 rfl hW ?_
  refine V_ildn2 a_X2_restore_24 ?_
  refine V_aald a_X2_restore_25 rfl (by omega) g1 ?_
  refine V_ifnull_S a_X2_restore_26 ?_
  refine V_aldn1 a_X2_restore_29 ?_
  refine V_aldn0 a_X2_restore_30 ?_
  refine V_fin a_X2_restore_31 f_X2_11 rfl hW ?_
  refine V_ildn2 a_X2_restore_34 ?_
  refine V_aald a_X2_restore_35 rfl (by omega) g1 ?_
  refine V_v1PV a_X2_restore_36 c_X2_22 rc (fun τ2 hτ2 => ?_)
  skip
  obtain ⟨f2, cl2⟩ := hτ2
  have e2 : τ2.I 2 0 = σ.I 2 0 := f2.I (by unfold cpS; omega)
  have k0 : (τ2.setI 2 0 1 y).I 2 0 0 = c := by
    rw [setI_ne (by decide), e2]
    exact h0
  have f3 : FX (fun t n => (t = 2 ∧ n = 0) ∨ cpS 0 t n) σ ((τ2.setI 2 0 1 y).setI 2 0 0 (c - 1)) := (f2.sub (fun t n z => Or.inr z)).trans ((FX.setI (Or.inl ⟨rfl, rfl⟩)).trans (FX.setI (Or.inl ⟨rfl, rfl⟩)))
  have n3 : Nw (fun t n => t = 2 ∧ n = 0) τ2 ((τ2.setI 2 0 1 y).setI 2 0 0 (c - 1)) := ((FX.setI (S := fun t n => t = 2 ∧ n = 0) ⟨rfl, rfl⟩).trans (FX.setI ⟨rfl, rfl⟩)).nw
  have wf3 := f3.wf hW
  have i0 : ((τ2.setI 2 0 1 y).setI 2 0 0 (c - 1)).I 2 0 0 = c - 1 := setI_I
  have i1 : ((τ2.setI 2 0 1 y).setI 2 0 0 (c - 1)).I 2 0 1 = y := by rw [setI_ne (by decide), setI_I]
  have fin : Cl D ((τ2.setI 2 0 1 y).setI 2 0 0 (c - 1)) 0 (H (c - 1)) ∧ HsC D ((τ2.setI 2 0 1 y).setI 2 0 0 (c - 1)) (c - 1) H := by
    generalize (τ2.setI 2 0 1 y).setI 2 0 0 (c - 1) = τ3 at f3 n3 wf3 i0 i1
    have nn := f3.nw
    have oth : ∀ x : Int, 0 ≤ x → x < 10 → ∀ t n, nwS (2 + x.toNat) t n → ¬ ((t = 2 ∧ n = 0) ∨ cpS 0 t n) := fun x x0 x1 t n z w => by
      unfold nwS pS at z
      unfold cpS at w
      omega
    have p34 : τ3.P 34 0 = σ.P 34 0 := by rw [f3.2.1]
    refine ⟨cl2.nw n3 wf3 (fun t n z w => by unfold nwS pS at z; omega), y, ⟨i0, i1⟩, by omega, by omega, fun x x0 x1 => ?_, fun k a0 a1 => ?_⟩
    · rw [p34]
      rcases he x x0 x1 with w | w
      · exact Or.inl ⟨w.1, fun t n v => by rw [nn.al (oth x x0 x1 t n v)]; exact w.2 t n v⟩
      · exact Or.inr ⟨w.1, w.2.cg (nn.P (oth x x0 x1 47 _ (Or.inl ⟨Or.inr (by decide), rfl⟩)))⟩
    · rw [p34, show (y - (c - 1) + k) % 10 = (nx - c + k) % 10 by omega]
      obtain ⟨b1, b2⟩ := hg k a0 (by omega)
      exact ⟨b1, b2.nw nn wf3 (oth _ (by omega) (by omega))⟩
  refine V_aldn0 a_X2_restore_39 ?_
  refine V_ildn2 a_X2_restore_40 ?_
  refine V_putI a_X2_restore_41 f_X2_17 rfl ?_
  refine V_aldn0 a_X2_restore_44 ?_
  first | refine V_dupR a_X2_restore_45 ?_ | refine V_dupI a_X2_restore_45 ?_
  refine V_getIE a_X2_restore_46 f_X2_26 rfl k0 ?_
  refine V_iconst a_X2_restore_49 ?_
  refine V_isub a_X2_restore_50 ?_
  refine V_putI a_X2_restore_51 f_X2_26 rfl ?_
  exact V_ret a_X2_restore_54 (⟨rfl, f3, fin⟩)
end Cg

