theorem ps_inv {T : Int → Int} {e : Int} {g : Int → Int} (he : 0 ≤ e) : psI e (psX T e g) := (wh_inv ps_s (ps_0 he)).1
theorem go_pos {D : Int} {A : St} {T : Int → Int} {e p : Int} (hp : 0 ≤ p ∧ p ≤ e) (h : (goA T e A p).1 ≠ 0) : 0 ≤ (goA T e A p).2.1 ∧ (goA T e A p).2.1 ≤ e := by
  obtain ⟨h0, h1, h2, -⟩ := tE_bd (T := T) hp.2
  have fb := ftN_bd (T := T) (e := e) (oL (nmA (owA T e p)).toNat) (tE T e p) (by omega) oL_c
  unfold goA at h ⊢
  by_cases k1 : owA T e p = -1
  · rw [if_pos k1]
    show 0 ≤ tF T e p ∧ tF T e p ≤ e
    omega
  · rw [if_neg k1] at h ⊢
    by_cases k6 : (ftN T e (oL (nmA (owA T e p)).toNat) (tE T e p)).1 ≠ 0
    · rw [if_pos k6]
      show 0 ≤ (ftN T e (oL (nmA (owA T e p)).toNat) (tE T e p)).2 ∧ (ftN T e (oL (nmA (owA T e p)).toNat) (tE T e p)).2 ≤ e
      omega
    · rw [if_neg k6] at h ⊢
      by_cases k7 : wdB T e (ftN T e (oL (nmA (owA T e p)).toNat) (tE T e p)).2 29 = true
      · rw [if_neg (fun z => z k7)] at h ⊢
        by_cases k8 : doC A (owA T e p) (ovA T e p (owA T e p)) ≠ 0
        · rw [if_pos k8]
          show 0 ≤ tF T e p ∧ tF T e p ≤ e
          omega
        · rw [if_neg k8] at h
          exact absurd rfl h
      · rw [if_pos k7]
        have b := tF_bd (T := T) (e := e) (p := (ftN T e (oL (nmA (owA T e p)).toNat) (tE T e p)).2) (by omega)
        show 0 ≤ tF T e (ftN T e (oL (nmA (owA T e p)).toNat) (tE T e p)).2 ∧ tF T e (ftN T e (oL (nmA (owA T e p)).toNat) (tE T e p)).2 ≤ e
        omega
theorem og_inv {D : Int} {T : Int → Int} {e : Int} {A : St} (he : 0 ≤ e ∧ e ≤ 600) (hD : D + 41000 ≤ 20000000) (hI : Inv D A) : ogI D e (ogX T e A) ∧ ((ogX T e A).1 ≠ 0 → 0 ≤ (ogX T e A).2.1 ∧ (ogX T e A).2.1 ≤ e) := by
  refine (wh_inv (I := fun x => ogI D e x ∧ (x.1 ≠ 0 → 0 ≤ x.2.1 ∧ x.2.1 ≤ e)) (fun x hx hg => ?_) ⟨og_0 he.1 hI, fun z => absurd rfl z⟩).1
  have s := og_s (T := T) he.2 hD x hx.1 hg
  refine ⟨⟨s.1, fun z => ?_⟩, s.2⟩
  obtain ⟨c, a, n, B, p⟩ := x
  obtain ⟨h1, h3, h4, h5⟩ := hx.1
  unfold ogF at z ⊢
  dsimp only at h3 z ⊢
  by_cases q : (goA T e B p).1 = 0
  · rw [if_pos q] at z
    exact absurd rfl z
  · rw [if_neg q]
    exact go_pos (D := D) h3 q
section Pp2
variable {D : Int} {σ : Hp} {s : Lsv}
theorem R_forget : Rt m_X2_forget 0 0 0 [vR (some (2, 0))] σ none (σ.setI 2 0 0 0) := by
  show V _ 0 0 0 0 [some (vR (some (2, 0)))] [] σ _
  refine V_aldn0 a_X2_forget_0 ?_
  refine V_iconst a_X2_forget_1 ?_
  refine V_putI a_X2_forget_2 f_X2_26 rfl ?_
  exact V_ret a_X2_forget_5 (⟨rfl, rfl⟩)
theorem HsC.forget {τ : Hp} {c : Int} {H : Int → St} (h : HsC D σ c H) : HsC D (σ.setI 2 0 0 0) 0 H := by
  obtain ⟨nx, a, b, c0, e, g⟩ := h
  refine ⟨nx, ⟨setI_I, (setI_ne (by decide)).trans a.2⟩, b, by decide, fun x x0 x1 => ?_, fun k k0 k1 => by omega⟩
  rcases e x x0 x1 with z | z
  · exact Or.inl z
  · exact Or.inr ⟨z.1, z.2.cg rfl⟩
theorem X_parsePool {g : Int → Int} {A' : St} (h : CIv D σ s) (hA : Eq9 (psX s.2.1 s.2.2.1 g).2.2.2.1 A') : Cv m_X10_parsePool 9 0 0 [vR (some (10, 0))] σ (some (vI (if (psX s.2.1 s.2.2.1 g).1 = 0 then (psX s.2.1 s.2.2.1 g).2.2.1 else -1))) (QCv D (if (psX s.2.1 s.2.2.1 g).1 = 0 then (A', s.2.1, 0, 0, s.2.2.2.2.1, 0, (psX s.2.1 s.2.2.1 g).2.1, s.2.2.2.2.2.2.2) else (s.1, s.2.1, 0, s.2.2.2.1, s.2.2.2.2.1, (psX s.2.1 s.2.2.1 g).1, (psX s.2.1 s.2.2.1 g).2.1, s.2.2.2.2.2.2.2)) σ) := by
  obtain ⟨c1, c2, c3, c4, c5, c6⟩ := h
  have hW := c1.2.1
  have hD := c1.1
  have hn := c1.2.2.2.2.n
  have he := c3.2.2.2
  have pin := ps_inv (T := s.2.1) (g := g) he.1
  have rr := R_readAll (g := g) c3 c2
  generalize psX s.2.1 s.2.2.1 g = x at rr pin hA ⊢
  obtain ⟨p1, p2, p3, p4, p5⟩ := pin
  show V _ 9 0 0 0 [some (vR (some (10, 0))), none] [] σ _
  refine V_aldn0 a_X10_parsePool_0 ?_
  refine V_fin a_X10_parsePool_1 f_X10_19 rfl hW ?_
  refine V_aldn0 a_X10_parsePool_4 ?_
  refine V_fin a_X10_parsePool_5 f_X10_12 rfl hW ?_
  refine V_aldn0 a_X10_parsePool_8 ?_
  refine V_fin a_X10_parsePool_9 f_X10_65 rfl hW ?_
  refine V_v2PR a_X10_parsePool_12 c_X10_96 rr (fun τ hτ => ?_)
  skip
  obtain ⟨f, tc, a7, b7, hcl⟩ := hτ
  have hWt := tc.1
  have no0 : ∀ t n, nwS 0 t n → ¬ rdS 1 t n := fun t n z y => by
    unfold nwS pS at z
    unfold rdS at y
    omega
  have noh : ∀ t n x, x < 10 → nwS (2 + x) t n → ¬ rdS 1 t n := fun t n x hx z y => by
    unfold nwS pS at z
    unfold rdS at y
    omega
  have d1 : Cl D τ 0 s.1 := c1.nw f.nw hWt no0
  have d2 : Shp τ 1 := f.shp c2
  have d4 : HsC D τ s.2.2.2.1 s.2.2.2.2.1 := c4.nw f.nw hWt (by unfold rdS; omega) (by unfold rdS; omega) noh
  have e8 : τ.I 8 0 = σ.I 8 0 := f.I (by unfold rdS; omega)
  have e35 : τ.I 35 0 = σ.I 35 0 := f.I (by unfold rdS; omega)
  have d6 : Pg τ s.2.2.2.2.2.2.2 := by
    unfold Pg
    rw [e8, e35]
    exact c6
  have f9 : Fm [9] τ (τ.setI 9 0 0 0) := Fm.setI (by decide)
  have g1 : Cl D (τ.setI 9 0 0 0) 0 s.1 := d1.fm f9 (by decide)
  have g2 : Shp (τ.setI 9 0 0 0) 1 := d2.fm f9
  have g4 : HsC D (τ.setI 9 0 0 0) s.2.2.2.1 s.2.2.2.2.1 := d4.nw f9.nw (f9.wf hWt) (by decide) (by decide) (fun t n x hx z y => by
    have : t = 9 := List.mem_singleton.mp y
    unfold nwS pS at z
    omega)
  have g7 : (τ.setI 9 0 0 0).I 7 0 0 = x.1 ∧ (τ.setI 9 0 0 0).I 7 0 1 = x.2.1 := by
    rw [setI_t (by decide)]
    exact ⟨a7, b7⟩
  have g6 : Pg (τ.setI 9 0 0 0) s.2.2.2.2.2.2.2 := d6.fm f9 (by decide) (by decide)
  have g3 : TC (τ.setI 9 0 0 0) s.2.1 0 := ⟨f9.wf hWt, fun k k0 k1 => by omega, setI_I, by decide, by decide⟩
  have nf : Nw ocS σ (τ.setI 9 0 0 0) := (f.nw.sub (fun t n z => by unfold rdS at z; unfold ocS; omega)).trans (f9.nw.sub (fun t n z => by
    have : t = 9 := List.mem_singleton.mp z
    unfold ocS
    omega))
  have hW := hWt
  by_cases z : x.1 = 0
  · rw [if_pos z, if_pos z]
    have cl0 : Cl 0 (τ.setI 9 0 0 0) 1 x.2.2.2.1 := (hcl z).fm f9 (by decide)
    have rc := R_Pcopy (i := 0) cl0 g1.2.2.2.1 (by decide)
    have hx := p4
    have h0 : 0 ≤ D := by omega
    refine V_istn1 a_X10_parsePool_15 ?_
    refine V_aldn0 a_X10_parsePool_16 ?_
    refine V_fin a_X10_parsePool_17 f_X10_12 rfl hW ?_
    refine V_iconst a_X10_parsePool_20 ?_
    refine V_putI a_X10_parsePool_21 f_X10_83 rfl ?_
    refine V_ildn1 a_X10_parsePool_24 ?_
    refine V_iconst a_X10_parsePool_25 ?_
    refine V_icmp_eq_f a_X10_parsePool_26 (by omega) (by omega) ?_
    skip
    have hW := f9.wf hWt
    refine V_aldn0 a_X10_parsePool_29 ?_
    refine V_fin a_X10_parsePool_30 f_X10_61 rfl hW ?_
    refine V_aldn0 a_X10_parsePool_33 ?_
    refine V_fin a_X10_parsePool_34 f_X10_65 rfl hW ?_
    refine V_v1PV a_X10_parsePool_37 c_X10_100 rc (fun τ2 hτ2 => ?_)
    skip
    obtain ⟨f2, cl2⟩ := hτ2
    have hW := f2.wf hW
    have k4 : HsC D τ2 s.2.2.2.1 s.2.2.2.2.1 := g4.nw f2.nw hW (by unfold cpS; omega) (by unfold cpS; omega) (fun t n y hy w v => by
      unfold nwS pS at w
      unfold cpS at v
      omega)
    have fin : QCv D (A', s.2.1, 0, 0, s.2.2.2.2.1, 0, x.2.1, s.2.2.2.2.2.2.2) σ (τ2.setI 2 0 0 0) := by
      have f3 : Fm [2] τ2 (τ2.setI 2 0 0 0) := Fm.setI (by decide)
      have q9 : τ2.I 9 0 = (τ.setI 9 0 0 0).I 9 0 := f2.I (by unfold cpS; omega)
      have q7 : τ2.I 7 0 = (τ.setI 9 0 0 0).I 7 0 := f2.I (by unfold cpS; omega)
      have q8 : τ2.I 8 0 = (τ.setI 9 0 0 0).I 8 0 := f2.I (by unfold cpS; omega)
      have q35 : τ2.I 35 0 = (τ.setI 9 0 0 0).I 35 0 := f2.I (by unfold cpS; omega)
      have tc0 : TC (τ2.setI 2 0 0 0) s.2.1 0 := ⟨f3.wf hW, fun k k0 k1 => by omega, by rw [setI_t (by decide), q9]; exact setI_I, by decide, by decide⟩
      have s7 : (τ2.setI 2 0 0 0).I 7 0 0 = 0 ∧ (τ2.setI 2 0 0 0).I 7 0 1 = x.2.1 := by
        rw [setI_t (by decide), q7]
        exact ⟨g7.1.trans z, g7.2⟩
      refine ⟨(nf.trans (f2.nw.sub (fun t n w => by unfold cpS at w; unfold ocS; omega))).trans (f3.nw.sub (fun t n w => by
        have : t = 2 := List.mem_singleton.mp w
        unfold ocS
        omega)), ((cl2.up h0 hD).eq9 hA).fm f3 (by decide), (f2.shp g2).fm f3, tc0, k4.forget (τ := τ2), s7, ?_⟩
      refine Pg.fm (σ := τ2) ?_ f3 (by decide) (by decide)
      unfold Pg
      rw [q8, q35]
      exact g6
    refine V_aldn0 a_X10_parsePool_40 ?_
    refine V_fin a_X10_parsePool_41 f_X10_47 rfl hW ?_
    refine V_v0V a_X10_parsePool_44 c_X10_104 R_forget ?_
    refine V_ildn1 a_X10_parsePool_47 ?_
    exact V_iret a_X10_parsePool_48 (⟨rfl, fin⟩)
  · rw [if_neg z, if_neg z]
    refine V_istn1 a_X10_parsePool_15 ?_
    refine V_aldn0 a_X10_parsePool_16 ?_
    refine V_fin a_X10_parsePool_17 f_X10_12 rfl hW ?_
    refine V_iconst a_X10_parsePool_20 ?_
    refine V_putI a_X10_parsePool_21 f_X10_83 rfl ?_
    refine V_ildn1 a_X10_parsePool_24 ?_
    refine V_iconst a_X10_parsePool_25 ?_
    refine V_icmp_eq_t a_X10_parsePool_26 (by omega) (by omega) ?_
    refine V_ildn1 a_X10_parsePool_47 ?_
    exact V_iret a_X10_parsePool_48 (⟨rfl, nf, g1, g2, g3, g4, g7, g6⟩)
theorem X_runOrders (h : CIv D σ s) (hD4 : D + 41000 ≤ 20000000) : Cv m_X10_runOrders 9 61 419 [vR (some (10, 0))] σ (some (vI (if (ogX s.2.1 s.2.2.1 s.1).1 = 0 then (ogX s.2.1 s.2.2.1 s.1).2.2.1 else -1 - (ogX s.2.1 s.2.2.1 s.1).2.1))) (QCv (D + 67 * s.2.2.1) (if (ogX s.2.1 s.2.2.1 s.1).1 = 0 then ((ogX s.2.1 s.2.2.1 s.1).2.2.2.1, s.2.1, 0, pushC s.2.2.2.1, pushH s.2.2.2.1 s.2.2.2.2.1 s.1, s.2.2.2.2.2.1, s.2.2.2.2.2.2.1, s.2.2.2.2.2.2.2) else (s.1, s.2.1, 0, s.2.2.2.1, s.2.2.2.2.1, s.2.2.2.2.2.1, s.2.2.2.2.2.2.1, s.2.2.2.2.2.2.2)) σ) := by
  obtain ⟨c1, c2, c3, c4, c5, c6⟩ := h
  have hW := c1.2.1
  have hD := c1.1
  have he := c3.2.2.2
  have oin := og_inv (T := s.2.1) he hD4 c1.2.2.2.2
  have rc := R_Pcopy (i := 1) c1 c2 (by decide)
  show V _ 9 61 419 0 [some (vR (some (10, 0))), none] [] σ _
  refine V_aldn0 a_X10_runOrders_0 ?_
  refine V_fin a_X10_runOrders_1 f_X10_65 rfl hW ?_
  refine V_aldn0 a_X10_runOrders_4 ?_
  refine V_fin a_X10_runOrders_5 f_X10_61 rfl hW ?_
  refine V_v1PV a_X10_runOrders_8 c_X10_100 rc (fun τ1 h1 => ?_)
  skip
  obtain ⟨f1, cl1⟩ := h1
  have hW1 := f1.wf hW
  have t1 : TC τ1 s.2.1 s.2.2.1 := c3.fx f1 (by unfold cpS; omega) (by rw [f1.I (by unfold cpS; omega)]; exact c3.2.2.1)
  have rr := R_runAll t1 cl1 hD4
  generalize ogX s.2.1 s.2.2.1 s.1 = x at rr oin ⊢
  obtain ⟨⟨p1, p2, p3, p4⟩, p5⟩ := oin
  have hW := hW1
  refine V_aldn0 a_X10_runOrders_11 ?_
  refine V_fin a_X10_runOrders_12 f_X10_26 rfl hW ?_
  refine V_aldn0 a_X10_runOrders_15 ?_
  refine V_fin a_X10_runOrders_16 f_X10_12 rfl hW ?_
  refine V_aldn0 a_X10_runOrders_19 ?_
  refine V_fin a_X10_runOrders_20 f_X10_33 rfl hW ?_
  refine V_aldn0 a_X10_runOrders_23 ?_
  refine V_fin a_X10_runOrders_24 f_X10_65 rfl hW ?_
  refine V_v3PR a_X10_runOrders_27 c_X10_199 rr (fun τ2 h2 => ?_)
  skip
  obtain ⟨f2, t2, s2, hcl⟩ := h2
  have hW2 := t2.1
  have fN : Nw (fun t n => orS 1 t n ∨ (t = 47 ∧ n = 1)) τ1 τ2 := ⟨f2.2.2.2.1, fun t n hn => ⟨by rw [f2.2.2.1], (f2.2.2.2.2.2 t n (fun z => hn (Or.inl z))).1, (f2.2.2.2.2.2 t n (fun z => hn (Or.inl z))).2, by rw [f2.1], f2.2.2.2.2.1 t n (fun z => hn (Or.inr z)), by rw [f2.2.1]⟩⟩
  have f9 : Fm [9] τ2 (τ2.setI 9 0 0 0) := Fm.setI (by decide)
  have nn : Nw (fun t n => cpS 1 t n ∨ orS 1 t n ∨ (t = 47 ∧ n = 1)) σ (τ2.setI 9 0 0 0) := ((f1.nw.sub (fun t n z => Or.inl z)).trans (fN.sub (fun t n z => Or.inr z))).trans (f9.nw.sub (fun t n z => by
    have : t = 9 := List.mem_singleton.mp z
    exact Or.inr (Or.inl (Or.inr (Or.inl this)))))
  have wf3 : WF (τ2.setI 9 0 0 0) := f9.wf hW2
  have nz : ∀ t n, ((t = 6 ∨ (36 ≤ t ∧ t ≤ 47)) ∧ n ≠ 1) ∨ ((t = 3 ∨ t = 30 ∨ t = 31 ∨ t = 32) ∧ (n < 12 ∨ 24 ≤ n)) ∨ t = 2 ∨ t = 34 ∨ t = 7 ∨ t = 8 ∨ t = 20 ∨ t = 35 → ¬ (cpS 1 t n ∨ orS 1 t n ∨ (t = 47 ∧ n = 1)) := fun t n ht z => by
    unfold cpS orS plS at z
    omega
  have g1 : Cl D (τ2.setI 9 0 0 0) 0 s.1 := c1.nw nn wf3 (fun t n z => nz t n (by unfold nwS pS at z; omega))
  have g2 : Shp (τ2.setI 9 0 0 0) 1 := s2.fm f9
  have g4 : HsC D (τ2.setI 9 0 0 0) s.2.2.2.1 s.2.2.2.2.1 := c4.nw nn wf3 (nz 2 0 (by omega)) (nz 34 0 (by omega)) (fun t n x hx z => nz t n (by unfold nwS pS at z; omega))
  have g3 : TC (τ2.setI 9 0 0 0) s.2.1 0 := ⟨wf3, fun k k0 k1 => by omega, setI_I, by decide, by decide⟩
  have e7 : (τ2.setI 9 0 0 0).I 7 0 = σ.I 7 0 := nn.I (nz 7 0 (by omega))
  have e8 : (τ2.setI 9 0 0 0).I 8 0 = σ.I 8 0 := nn.I (nz 8 0 (by omega))
  have e35 : (τ2.setI 9 0 0 0).I 35 0 = σ.I 35 0 := nn.I (nz 35 0 (by omega))
  have g6 : Pg (τ2.setI 9 0 0 0) s.2.2.2.2.2.2.2 := by
    unfold Pg
    rw [e8, e35]
    exact c6
  have g7 : (τ2.setI 9 0 0 0).I 7 0 0 = s.2.2.2.2.2.1 ∧ (τ2.setI 9 0 0 0).I 7 0 1 = s.2.2.2.2.2.2.1 := by
    rw [e7]
    exact c5
  have oc : Nw ocS σ (τ2.setI 9 0 0 0) := nn.sub (fun t n z => by
    unfold cpS orS plS at z
    unfold ocS
    omega)
  have gc : CIv D (τ2.setI 9 0 0 0) (tps s s.2.1 0) := ⟨g1, g2, g3, g4, g7, g6⟩
  have hW := hW2
  by_cases z : x.1 = 0
  · rw [if_pos z, if_pos z]
    have cl := (hcl z).fm f9 (by decide)
    have rk := R_keep g1 g4
    have hx := p4 z
    refine V_istn1 a_X10_runOrders_30 ?_
    refine V_aldn0 a_X10_runOrders_31 ?_
    refine V_fin a_X10_runOrders_32 f_X10_12 rfl hW ?_
    refine V_iconst a_X10_runOrders_35 ?_
    refine V_putI a_X10_runOrders_36 f_X10_83 rfl ?_
    refine V_ildn1 a_X10_runOrders_39 ?_
    refine V_if_lt_f a_X10_runOrders_40 (by omega) (by omega) ?_
    skip
    have hW := wf3
    refine V_aldn0 a_X10_runOrders_43 ?_
    refine V_fin a_X10_runOrders_44 f_X10_47 rfl hW ?_
    refine V_aldn0 a_X10_runOrders_47 ?_
    refine V_fin a_X10_runOrders_48 f_X10_61 rfl hW ?_
    refine V_v1PV a_X10_runOrders_51 c_X10_120 rk (fun τ4 h4 => ?_)
    skip
    obtain ⟨f4, cl4, hs4⟩ := h4
    have hW := cl4.2.1
    have k1 : Cl (D + 67 * s.2.2.1) τ4 1 x.2.2.2.1 := cl.nw f4 hW (fun t n w y => by
      unfold kpS at y
      rcases y with y | y | ⟨v, _, y⟩
      · unfold nwS pS at w
        omega
      · unfold nwS pS at w
        omega
      · unfold nwS pS at w y
        omega)
    have rc2 := R_Pcopy (i := 0) k1 cl4.2.2.2.1 (by decide)
    refine V_aldn0 a_X10_runOrders_54 ?_
    refine V_fin a_X10_runOrders_55 f_X10_61 rfl hW ?_
    refine V_aldn0 a_X10_runOrders_58 ?_
    refine V_fin a_X10_runOrders_59 f_X10_65 rfl hW ?_
    refine V_v1PV a_X10_runOrders_62 c_X10_100 rc2 (fun τ5 h5 => ?_)
    skip
    obtain ⟨f5, cl5⟩ := h5
    have f5p : Fp 0 τ4 τ5 := f5.fp (fun t n w => by
      unfold cpS at w
      unfold plS
      omega)
    have q := gc.cmd f4 hs4 f5p cl5 (by omega) (by omega)
    refine V_ildn1 a_X10_runOrders_65 ?_
    exact V_iret a_X10_runOrders_66 (⟨rfl, oc.trans q.1, q.2⟩)
  · rw [if_neg z, if_neg z]
    have hx := p5 z
    refine V_istn1 a_X10_runOrders_30 ?_
    refine V_aldn0 a_X10_runOrders_31 ?_
    refine V_fin a_X10_runOrders_32 f_X10_12 rfl hW ?_
    refine V_iconst a_X10_runOrders_35 ?_
    refine V_putI a_X10_runOrders_36 f_X10_83 rfl ?_
    refine V_ildn1 a_X10_runOrders_39 ?_
    refine V_if_lt_t a_X10_runOrders_40 (by omega) (by omega) ?_
    refine V_ildn1 a_X10_runOrders_65 ?_
    exact V_iret a_X10_runOrders_66 (⟨rfl, oc, g1.up (by omega) (by omega), g2, g3, g4.up (by omega) (by omega), g7, g6⟩)
end Pp2

