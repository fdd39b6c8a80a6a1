theorem do_inv {D : Int} {A : St} {w : Int} {v : Int → Int} (hI : Inv D A) (hw : 0 ≤ w ∧ w ≤ 5) (hc : doC A w v = 0) (hD4 : D + 401 ≤ 20000000) : Inv (D + 401) (doA A w v) := by
  have hn := hI.n
  have cases : w = 0 ∨ w = 1 ∨ w = 2 ∨ w = 3 ∨ w = 4 ∨ w = 5 := by omega
  rcases cases with rfl | rfl | rfl | rfl | rfl | rfl
  · obtain ⟨h1, h2, h3⟩ := br_0 hc
    exact (lend_inv hI h1.1 h1.2 h2.1 h2.2 h3).up (by omega)
  · exact (ret_inv (by omega) hI hc).up (by omega)
  · obtain ⟨h1, h2, h3⟩ := rcl_0 hc
    exact (rac_ok hI h1.1 (by omega) (by omega)).2.up (by omega)
  · have hc : (if 1 ≤ v 0 ∧ v 0 ≤ 400 then (0 : Int) else 1) = 0 := hc
    by_cases q : 1 ≤ v 0 ∧ v 0 ≤ 400
    · exact (dys_inv (by omega) hI (by omega)).up (by omega)
    · rw [if_neg q] at hc
      omega
  · have hc : (if (0 ≤ v 0 ∧ v 0 < A 0) ∧ 1 ≤ v 1 ∧ v 1 ≤ 9999 then (0 : Int) else 1) = 0 := hc
    by_cases q : (0 ≤ v 0 ∧ v 0 < A 0) ∧ 1 ≤ v 1 ∧ v 1 ≤ 9999
    · exact (inv_set hI (Or.inl ⟨v 0, rfl, by omega, by omega⟩)).up (by omega)
    · rw [if_neg q] at hc
      omega
  · exact (div_inv hI).up (by omega)
theorem go_ok {D : Int} {A : St} {T : Int → Int} {e p : Int} (hI : Inv D A) (hp : 0 ≤ p ∧ p ≤ e) (hD4 : D + 401 ≤ 20000000) : (0 ≤ (goA T e A p).1 ∧ (goA T e A p).1 < 100) ∧ ((goA T e A p).1 = 0 → (0 ≤ (goA T e A p).2.1 ∧ (goA T e A p).2.1 ≤ e) ∧ (p + 6 ≤ tE T e (goA T e A p).2.1 ∧ tE T e (goA T e A p).2.1 ≤ e) ∧ Inv (D + 401) (goA T e A p).2.2) := by
  obtain ⟨h0, h1, h2, -⟩ := tE_bd (T := T) hp.2
  have hob := ow_bd (T := T) (e := e) (p := p)
  have hnm := nm_bd (w := owA T e p)
  have fb := ftN_bd (T := T) (e := e) (oL (nmA (owA T e p)).toNat) (tE T e p) (by omega) oL_c
  unfold goA
  by_cases k1 : owA T e p = -1
  · rw [if_pos k1]
    exact ⟨by show 0 ≤ (1 : Int) ∧ (1 : Int) < 100; decide, fun z => absurd z (show (1 : Int) ≠ 0 by decide)⟩
  · rw [if_neg k1]
    have hl := ow_len k1
    by_cases k6 : (ftN T e (oL (nmA (owA T e p)).toNat) (tE T e p)).1 ≠ 0
    · rw [if_pos k6]
      exact ⟨fb.1, fun z => absurd z k6⟩
    · rw [if_neg k6]
      have k6 : (ftN T e (oL (nmA (owA T e p)).toNat) (tE T e p)).1 = 0 := Classical.byContradiction k6
      have adv : tE T e p + 1 ≤ (ftN T e (oL (nmA (owA T e p)).toNat) (tE T e p)).2 := by
        obtain ⟨m, hm⟩ : ∃ m, (nmA (owA T e p)).toNat = m + 1 := ⟨(nmA (owA T e p)).toNat - 1, by omega⟩
        rw [hm] at k6 ⊢
        have k6 : (ftN T e ((0, 9999999, 1) :: oL m) (tE T e p)).1 = 0 := k6
        show tE T e p + 1 ≤ (ftN T e ((0, 9999999, 1) :: oL m) (tE T e p)).2
        by_cases y : nC T e (tE T e p) 0 9999999 1 = 0
        · rw [ftN_0 y] at k6 ⊢
          obtain ⟨g0, g1, g2, g3⟩ := tE_bd (T := T) (e := e) (p := tE T e p) h2
          have hb := ftN_bd (T := T) (e := e) (oL m) (tE T e (tE T e p)) (by omega) oL_c
          have hdg : isDg (bAt T e (tF T e (tE T e p))) = true := by
            apply Classical.byContradiction
            intro q
            unfold nC nuC nuS at y
            rw [if_neg q, if_neg (by decide)] at y
            omega
          have := g3 (bAt_lt (p := isDg) rfl hdg)
          omega
        · rw [ftN_1 y] at k6
          exact absurd k6 y
      generalize (ftN T e (oL (nmA (owA T e p)).toNat) (tE T e p)).2 = q at fb adv
      by_cases k7 : wdB T e q 29 = true
      · rw [if_neg (fun z => z k7)]
        have hl2 : tE T e q - tF T e q = 1 := (wdB_t.mp k7).1
        obtain ⟨g0, g1, g2, -⟩ := tE_bd (T := T) (e := e) (p := q) (by omega)
        by_cases k8 : doC A (owA T e p) (ovA T e p (owA T e p)) ≠ 0
        · rw [if_pos k8]
          exact ⟨by show 0 ≤ (1 : Int) ∧ (1 : Int) < 100; decide, fun z => absurd z (show (1 : Int) ≠ 0 by decide)⟩
        · rw [if_neg k8]
          refine ⟨by show 0 ≤ (0 : Int) ∧ (0 : Int) < 100; decide, fun _ => ⟨by show 0 ≤ q ∧ q ≤ e; omega, by show p + 6 ≤ tE T e q ∧ tE T e q ≤ e; omega, do_inv hI (by omega) (Classical.byContradiction k8) hD4⟩⟩
      · rw [if_pos k7]
        exact ⟨by show 0 ≤ (1 : Int) ∧ (1 : Int) < 100; decide, fun z => absurd z (show (1 : Int) ≠ 0 by decide)⟩
/-- the reader of orders -/
noncomputable def ogG (T : Int → Int) (e : Int) (x : PS) : Bool := decide (x.1 = 0 ∧ tF T e x.2.2.2.2 < e)
noncomputable def ogF (T : Int → Int) (e : Int) (x : PS) : PS := if (goA T e x.2.2.2.1 x.2.2.2.2).1 = 0 then (0, x.2.1, x.2.2.1 + 1, (goA T e x.2.2.2.1 x.2.2.2.2).2.2, tE T e (goA T e x.2.2.2.1 x.2.2.2.2).2.1) else ((goA T e x.2.2.2.1 x.2.2.2.2).1, (goA T e x.2.2.2.1 x.2.2.2.2).2.1, x.2.2.1 + 1, x.2.2.2.1, x.2.2.2.2)
def ogI (D e : Int) (x : PS) : Prop := (0 ≤ x.1 ∧ x.1 < 100) ∧ (0 ≤ x.2.2.2.2 ∧ x.2.2.2.2 ≤ e) ∧ (0 ≤ x.2.2.1 ∧ x.2.2.1 ≤ x.2.2.2.2 + 1) ∧ (x.1 = 0 → x.2.2.1 ≤ x.2.2.2.2 ∧ Inv (D + 67 * x.2.2.2.2) x.2.2.2.1)
theorem og_s {T : Int → Int} {D e : Int} (he : e ≤ 600) (hD4 : D + 41000 ≤ 20000000) : ∀ x : PS, ogI D e x → ogG T e x = true → ogI D e (ogF T e x) ∧ psM e (ogF T e x) < psM e x := fun x hx hg => by
  obtain ⟨c, a, n, B, p⟩ := x
  obtain ⟨h1, h3, h4, h5⟩ := hx
  have hg : c = 0 ∧ tF T e p < e := of_decide_eq_true hg
  have h5 := h5 hg.1
  dsimp only at h1 h3 h4 h5
  have hs := go_ok (T := T) h5.2 h3 (by omega)
  unfold ogF
  dsimp only
  generalize goA T e B p = y at hs
  by_cases q : y.1 = 0
  · rw [if_pos q]
    have hs2 := hs.2 q
    refine ⟨⟨by show 0 ≤ (0 : Int) ∧ (0 : Int) < 100; decide, by show 0 ≤ tE T e y.2.1 ∧ tE T e y.2.1 ≤ e; omega, by show 0 ≤ n + 1 ∧ n + 1 ≤ tE T e y.2.1 + 1; omega, fun _ => ⟨by show n + 1 ≤ tE T e y.2.1; omega, hs2.2.2.up (by show D + 67 * p + 401 ≤ D + 67 * tE T e y.2.1; omega)⟩⟩, ?_⟩
    unfold psM
    dsimp only
    rw [if_pos rfl, if_pos hg.1]
    omega
  · rw [if_neg q]
    refine ⟨⟨hs.1, h3, by show 0 ≤ n + 1 ∧ n + 1 ≤ p + 1; omega, fun z => absurd z q⟩, ?_⟩
    unfold psM
    dsimp only
    rw [if_neg q, if_pos hg.1]
    omega
noncomputable def ogX (T : Int → Int) (e : Int) (A : St) : PS := wh (ogG T e) (ogF T e) (psM e) (0, -1, 0, A, 0)
theorem og_0 {D e : Int} {A : St} (he : 0 ≤ e) (hI : Inv D A) : ogI D e (0, -1, 0, A, 0) := ⟨by show 0 ≤ (0 : Int) ∧ (0 : Int) < 100; decide, by show 0 ≤ (0 : Int) ∧ (0 : Int) ≤ e; omega, by show 0 ≤ (0 : Int) ∧ (0 : Int) ≤ 0 + 1; decide, fun _ => ⟨by show (0 : Int) ≤ 0; decide, hI.up (by show D ≤ D + 67 * 0; omega)⟩⟩
section Ro
variable {D : Int} {σ : Hp} {T : Int → Int} {e c : Int} {A : St} {H : Int → St}
/-- while orders are read -/
def HO (σ : Hp) (T : Int → Int) (D e : Int) (G : Int → Int) (x : PS) (τ : Hp) : Prop :=
  FK [50, 51, 56, 57, 58, 59, 60] [6, 8, 9, 10, 11, 12, 13, 17, 19] σ τ ∧ (τ.I 11 0 6 = 0 ∧ τ.I 11 0 8 = 0 ∧ τ.I 11 0 12 = x.1 ∧ τ.I 11 0 11 = e ∧ τ.J 51 0 = G ∧ WF τ) ∧ (x.1 ≠ 0 → τ.I 11 0 13 = x.2.1) ∧ (x.1 = 0 → (τ.I 11 0 9 = tF T e x.2.2.2.2 ∧ τ.I 11 0 10 = tE T e x.2.2.2.2) ∧ Md (D + 67 * x.2.2.2.2) τ x.2.2.2.1 ∧ Tx τ T e)
/-- what runOrders leaves -/
def RoQ (σ : Hp) (D e c : Int) (H : Int → St) (A : St) (x : PS) (r : Res) (τ : Hp) : Prop :=
  FK [50, 51, 54, 56, 57, 58, 59, 60] [5, 6, 8, 9, 10, 11, 12, 13, 17, 19] σ τ ∧ τ.I 11 0 6 = 0 ∧ τ.I 11 0 8 = 0 ∧ τ.I 11 0 12 = σ.I 11 0 12 ∧ τ.I 11 0 13 = σ.I 11 0 13 ∧
  (x.1 = 0 → r = .inl (some (vI x.2.2.1)) ∧ Md (D + 67 * e) τ x.2.2.2.1 ∧ PastOk τ (pushC c) (pushH c H A)) ∧ (x.1 ≠ 0 → r = .inl (some (vI (-1 - x.2.1))) ∧ PastOk τ c H ∧ ∃ A', Md D τ A' ∧ Eq9 A A')
theorem pz_eq {τ : Hp} {f t c a : Int} (h9 : τ.I 11 0 9 = f) (h10 : τ.I 11 0 10 = t) (h12 : τ.I 11 0 12 = c) (h13 : τ.I 11 0 13 = a) : τ.pz f t c a = τ := by
  rw [← h9, ← h10, ← h12, ← h13]
  exact pz_self
theorem R_runOrders (hm : Md D σ A) (hP : PastOk σ c H) (hT : ∀ k, σ.I 55 0 k % 256 = T k) (hl : σ.I 11 0 8 = e) (he : 0 ≤ e ∧ e ≤ 600) (hD4 : D + 41000 ≤ 20000000) : Ct m_X11_runOrders 11 0 0 [vR (some (11, 0))] σ (RoQ σ D e c H A (ogX T e A)) := by
  have hW := hm.2.1
  have hI := hm.2.2.2
  have rk := R_keepAside (σ := σ.th 0) (A := A) hW hm.2.2.1
  have rb := R_begin (σ := (σ.th 0).rJ 51 0 (mix A (σ.J 51 0) 359)) (T := T) (n := e) hW (fun k => by
    rw [← hT k, show ((σ.th 0).rJ 51 0 (mix A (σ.J 51 0) 359)).I 55 = (σ.th 0).I 55 from rfl, setI_t (by decide)]) (by
    show (σ.th 0).I 11 0 8 = e
    rw [setI_ne (by decide)]
    exact hl) he
  have e12 : (σ.th 0).I 11 0 12 = σ.I 11 0 12 := setI_ne (by decide)
  have e13 : (σ.th 0).I 11 0 13 = σ.I 11 0 13 := setI_ne (by decide)
  show V _ 11 0 0 0 [some (vR (some (11, 0))), none, none, none, none, none] [] σ _
  refine V_aldn0 a_X11_runOrders_0 ?_
  refine V_iconst a_X11_runOrders_1 ?_
  refine V_putI a_X11_runOrders_2 f_X11_58 rfl ?_
  refine V_aldn0 a_X11_runOrders_5 ?_
  refine V_getIE a_X11_runOrders_6 f_X11_118 rfl e12 ?_
  refine V_istn1 a_X11_runOrders_9 ?_
  refine V_aldn0 a_X11_runOrders_10 ?_
  refine V_getIE a_X11_runOrders_11 f_X11_29 rfl e13 ?_
  refine V_istn2 a_X11_runOrders_14 ?_
  refine V_aldn0 a_X11_runOrders_15 ?_
  refine V_v0V a_X11_runOrders_16 c_X11_81 rk ?_
  refine V_aldn0 a_X11_runOrders_19 ?_
  refine V_v0V a_X11_runOrders_20 c_X11_190 rb ?_
  refine V_iconst a_X11_runOrders_23 ?_
  refine V_istn3 a_X11_runOrders_24 ?_
  skip
  have first : HO σ T D e (mix A (σ.J 51 0) 359) (0, -1, 0, A, 0) (((((σ.th 0).rJ 51 0 (mix A (σ.J 51 0) 359)).setI 11 0 11 e).setI 11 0 8 0).pz (tF T e 0) (tE T e 0) 0 (((σ.th 0).rJ 51 0 (mix A (σ.J 51 0) 359)).I 11 0 13)) := by
    generalize ((σ.th 0).rJ 51 0 (mix A (σ.J 51 0) 359)).I 11 0 13 = z13
    have f0 : FK [50, 51, 56, 57, 58, 59, 60] [6, 8, 9, 10, 11, 12, 13, 17, 19] σ ((((σ.th 0).rJ 51 0 (mix A (σ.J 51 0) 359)).setI 11 0 11 e).setI 11 0 8 0) := FK.trans (FK.trans (FK.th (by decide)) ((Fm.rJ (by decide)).fk (by decide))) ⟨(Fm.setI (by decide)).trans (Fm.setI (by decide)), fun k hk => by
      rw [setI_ne (fun z => hk (by rw [z]; decide)), setI_ne (fun z => hk (by rw [z]; decide))]⟩
    have j6 : ((((σ.th 0).rJ 51 0 (mix A (σ.J 51 0) 359)).setI 11 0 11 e).setI 11 0 8 0).I 11 0 6 = 0 := by
      rw [setI_ne (by decide), setI_ne (by decide)]
      show (σ.th 0).I 11 0 6 = 0
      exact setI_I
    have j8 : ((((σ.th 0).rJ 51 0 (mix A (σ.J 51 0) 359)).setI 11 0 11 e).setI 11 0 8 0).I 11 0 8 = 0 := setI_I
    have j11 : ((((σ.th 0).rJ 51 0 (mix A (σ.J 51 0) 359)).setI 11 0 11 e).setI 11 0 8 0).I 11 0 11 = e := (setI_ne (by decide)).trans setI_I
    have j51 : ((((σ.th 0).rJ 51 0 (mix A (σ.J 51 0) 359)).setI 11 0 11 e).setI 11 0 8 0).J 51 0 = mix A (σ.J 51 0) 359 := by
      show ((σ.th 0).rJ 51 0 (mix A (σ.J 51 0) 359)).J 51 0 = _
      exact rJ_J
    have j50 : ((((σ.th 0).rJ 51 0 (mix A (σ.J 51 0) 359)).setI 11 0 11 e).setI 11 0 8 0).J 50 0 = A := by
      show ((σ.th 0).rJ 51 0 (mix A (σ.J 51 0) 359)).J 50 0 = A
      rw [rJ_ne (by decide)]
      exact hm.2.2.1
    have j55 : ∀ k, ((((σ.th 0).rJ 51 0 (mix A (σ.J 51 0) 359)).setI 11 0 11 e).setI 11 0 8 0).I 55 0 k % 256 = T k := fun k => by
      rw [setI_t (by decide), setI_t (by decide)]
      show (σ.th 0).I 55 0 k % 256 = T k
      rw [setI_t (by decide)]
      exact hT k
    generalize (((σ.th 0).rJ 51 0 (mix A (σ.J 51 0) 359)).setI 11 0 11 e).setI 11 0 8 0 = ρ at f0 j6 j8 j11 j51 j50 j55
    have hWρ : WF ρ := f0.1.wf hW
    have hTx : Tx ρ T e := ⟨hWρ, j55, j11, he⟩
    exact ⟨f0.trans (FK.pz.sub (by decide) (by decide)), ⟨by rw [pz_k (by decide)]; exact j6, by rw [pz_k (by decide)]; exact j8, pz_12, by rw [pz_k (by decide)]; exact j11, j51, hWρ⟩, fun z => absurd rfl z, fun _ => ⟨⟨pz_9, pz_10⟩, ⟨by show D + 67 * 0 ≤ 20000000; omega, hWρ, j50, hI.up (by show D ≤ D + 67 * 0; omega)⟩, hTx.pz⟩⟩
  generalize (((((σ.th 0).rJ 51 0 (mix A (σ.J 51 0) 359)).setI 11 0 11 e).setI 11 0 8 0).pz (tF T e 0) (tE T e 0) 0 (((σ.th 0).rJ 51 0 (mix A (σ.J 51 0) 359)).I 11 0 13)) = τ0 at first
  unfold ogX
  have key := loopW (I := ogI D e) (g := ogG T e) (f := ogF T e) (m := psM e) (E := wh (ogG T e) (ogF T e) (psM e) (0, -1, 0, A, 0)) (P := fun x => ∀ τ, HO σ T D e (mix A (σ.J 51 0) 359) x τ → V m_X11_runOrders 11 0 0 25 [some (vR (some (11, 0))), some (vI (σ.I 11 0 12)), some (vI (σ.I 11 0 13)), some (vI x.2.2.1), none, none] [] τ (RoQ σ D e c H A (wh (ogG T e) (ogF T e) (psM e) (0, -1, 0, A, 0)))) (og_s he.2 hD4) ?_ ?_ (0, -1, 0, A, 0) (og_0 he.1 hI) rfl
  · exact key τ0 first
  · intro hE hg τ hτ
    generalize wh (ogG T e) (ogF T e) (psM e) (0, -1, 0, A, 0) = x at hE hg hτ ⊢
    obtain ⟨d, a, n, B, p⟩ := x
    obtain ⟨h1, h3, h4, h5⟩ := hE
    have hg : ¬ (d = 0 ∧ tF T e p < e) := fun z => hg (decide_eq_true z)
    obtain ⟨f1, ⟨i6, i8, i12, i11, j51, hWτ⟩, i13, hz⟩ := hτ
    dsimp only at h1 h3 h4 h5 i12 i13 hz ⊢
    have hPτ : PastOk τ c H := ⟨by rw [f1.2 5 (by decide)]; exact hP.1, hP.2.1, fun i k i0 i1 k0 k1 => by rw [f1.1.J (by decide)]; exact hP.2.2 i k i0 i1 k0 k1⟩
    by_cases q : d = 0
    · subst q
      obtain ⟨⟨i9, i10⟩, hmτ, hTx⟩ := hz rfl
      have hpF := tF_bd (T := T) h3.2
      obtain ⟨τ1, f2, p2, r2⟩ := R_push (B := A) hWτ hPτ (by rw [j51]; exact Eq9.mix)
      have g12 : τ1.I 11 0 12 = 0 := (f2.2 12 (by decide)).trans i12
      have fin : FK [50, 51, 54, 56, 57, 58, 59, 60] [5, 6, 8, 9, 10, 11, 12, 13, 17, 19] σ ((τ1.setI 11 0 12 (σ.I 11 0 12)).setI 11 0 13 (σ.I 11 0 13)) := FK.trans (FK.trans (f1.sub (by decide) (by decide)) (f2.sub (by decide) (by decide))) ⟨(Fm.setI (by decide)).trans (Fm.setI (by decide)), fun k hk => by
        rw [setI_ne (fun z => hk (by rw [z]; decide)), setI_ne (fun z => hk (by rw [z]; decide))]⟩
      have g6 : ((τ1.setI 11 0 12 (σ.I 11 0 12)).setI 11 0 13 (σ.I 11 0 13)).I 11 0 6 = 0 := by
        rw [setI_ne (by decide), setI_ne (by decide), f2.2 6 (by decide)]
        exact i6
      have g8 : ((τ1.setI 11 0 12 (σ.I 11 0 12)).setI 11 0 13 (σ.I 11 0 13)).I 11 0 8 = 0 := by
        rw [setI_ne (by decide), setI_ne (by decide), f2.2 8 (by decide)]
        exact i8
      have gm : Md (D + 67 * e) ((τ1.setI 11 0 12 (σ.I 11 0 12)).setI 11 0 13 (σ.I 11 0 13)) B := ⟨by omega, f2.1.wf hWτ, by show τ1.J 50 0 = B; rw [f2.1.J (by decide)]; exact hmτ.2.2.1, hmτ.2.2.2.up (by omega)⟩
      have gp : PastOk ((τ1.setI 11 0 12 (σ.I 11 0 12)).setI 11 0 13 (σ.I 11 0 13)) (pushC c) (pushH c H A) := ⟨by rw [setI_ne (by decide), setI_ne (by decide)]; exact p2.1, p2.2⟩
      refine V_aldn0 a_X11_runOrders_25 ?_
      refine V_getIE a_X11_runOrders_26 f_X11_118 rfl i12 ?_
      refine V_if_ne_f a_X11_runOrders_29 (by omega) (by omega) ?_
      refine V_aldn0 a_X11_runOrders_32 ?_
      refine V_getIE a_X11_runOrders_33 f_X11_104 rfl i9 ?_
      refine V_aldn0 a_X11_runOrders_36 ?_
      refine V_getIE a_X11_runOrders_37 f_X11_98 rfl i11 ?_
      refine V_icmp_ge_t a_X11_runOrders_40 (by omega) (by omega) ?_
      refine V_aldn0 a_X11_runOrders_57 ?_
      refine V_getIE a_X11_runOrders_58 f_X11_118 rfl i12 ?_
      refine V_if_ne_f a_X11_runOrders_61 (by omega) (by omega) ?_
      refine V_ildn3 a_X11_runOrders_64 ?_
      refine V_goto a_X11_runOrders_65 ?_
      refine V_ist4 a_X11_runOrders_74 ?_
      refine V_aldn0 a_X11_runOrders_76 ?_
      refine V_getIE a_X11_runOrders_77 f_X11_118 rfl i12 ?_
      refine V_if_ne_f a_X11_runOrders_80 (by omega) (by omega) ?_
      refine V_aldn0 a_X11_runOrders_83 ?_
      refine V_v0V a_X11_runOrders_84 c_X11_84 r2 ?_
      refine V_iconst a_X11_runOrders_87 ?_
      refine V_ist5 a_X11_runOrders_88 ?_
      refine V_ild5 a_X11_runOrders_90 ?_
      refine V_sipush a_X11_runOrders_92 (by decide) ?_
      refine V_icmp_ge_f a_X11_runOrders_95 (by omega) (by omega) ?_
      refine V_aldn0 a_X11_runOrders_98 ?_
      refine V_getIE a_X11_runOrders_99 f_X11_118 rfl g12 ?_
      refine V_if_le_t a_X11_runOrders_102 (by omega) (by omega) ?_
      refine V_aldn0 a_X11_runOrders_125 ?_
      refine V_ildn1 a_X11_runOrders_126 ?_
      refine V_putI a_X11_runOrders_127 f_X11_118 rfl ?_
      refine V_aldn0 a_X11_runOrders_130 ?_
      refine V_ildn2 a_X11_runOrders_131 ?_
      refine V_putI a_X11_runOrders_132 f_X11_29 rfl ?_
      refine V_ild4 a_X11_runOrders_135 ?_
      exact V_iret a_X11_runOrders_137 (⟨fin, g6, g8, (setI_ne (by decide)).trans setI_I, setI_I, fun _ => ⟨rfl, gm, gp⟩, fun z => absurd rfl z⟩)
    · have i13 := i13 q
      have start : τ.rJ 50 0 (mix (mix A (σ.J 51 0) 359) (τ.J 50 0) 0) = τ := by rw [mix_0, rJ_self]
      have gi : ∀ g k, (τ.rJ 50 0 g).I 11 0 k = τ.I 11 0 k := fun _ _ => rfl
      have g12 : ∀ g, (τ.rJ 50 0 g).I 11 0 12 = d := fun g => i12
      have g51 : ∀ g, (τ.rJ 50 0 g).J 51 0 = mix A (σ.J 51 0) 359 := fun g => by
        rw [rJ_ne (by decide)]
        exact j51
      have gF : ∀ g, FK [50, 51, 54, 56, 57, 58, 59, 60] [5, 6, 8, 9, 10, 11, 12, 13, 17, 19] σ (((τ.rJ 50 0 g).setI 11 0 12 (σ.I 11 0 12)).setI 11 0 13 (σ.I 11 0 13)) := fun g => FK.trans (FK.trans (f1.sub (by decide) (by decide)) ((Fm.rJ (by decide)).fk (by decide))) ⟨(Fm.setI (by decide)).trans (Fm.setI (by decide)), fun k hk => by
        rw [setI_ne (fun z => hk (by rw [z]; decide)), setI_ne (fun z => hk (by rw [z]; decide))]⟩
      have g6 : ∀ g, (((τ.rJ 50 0 g).setI 11 0 12 (σ.I 11 0 12)).setI 11 0 13 (σ.I 11 0 13)).I 11 0 6 = 0 := fun g => by
        rw [setI_ne (by decide), setI_ne (by decide), gi]
        exact i6
      have g8 : ∀ g, (((τ.rJ 50 0 g).setI 11 0 12 (σ.I 11 0 12)).setI 11 0 13 (σ.I 11 0 13)).I 11 0 8 = 0 := fun g => by
        rw [setI_ne (by decide), setI_ne (by decide), gi]
        exact i8
      have gp : ∀ g, PastOk (((τ.rJ 50 0 g).setI 11 0 12 (σ.I 11 0 12)).setI 11 0 13 (σ.I 11 0 13)) c H := fun g => ⟨by rw [setI_ne (by decide), setI_ne (by decide), gi]; exact hPτ.1, hPτ.2.1, fun i k i0 i1 k0 k1 => by
        show (τ.rJ 50 0 g).J 54 0 _ = _
        rw [rJ_ne (by decide)]
        exact hPτ.2.2 i k i0 i1 k0 k1⟩
      have eq9 : Eq9 A (mix (mix A (σ.J 51 0) 359) (τ.J 50 0) 359) := fun j j0 j1 => by rw [mix_in j0 j1, mix_in j0 j1]
      have gm : ∃ A', Md D (((τ.rJ 50 0 (mix (mix A (σ.J 51 0) 359) (τ.J 50 0) 359)).setI 11 0 12 (σ.I 11 0 12)).setI 11 0 13 (σ.I 11 0 13)) A' ∧ Eq9 A A' := ⟨_, ⟨by omega, hWτ, rJ_J, hI.eq9 eq9⟩, eq9⟩
      have hW := hWτ
      refine V_aldn0 a_X11_runOrders_25 ?_
      refine V_getIE a_X11_runOrders_26 f_X11_118 rfl i12 ?_
      refine V_if_ne_t a_X11_runOrders_29 (by omega) (by omega) ?_
      refine V_aldn0 a_X11_runOrders_57 ?_
      refine V_getIE a_X11_runOrders_58 f_X11_118 rfl i12 ?_
      refine V_if_ne_t a_X11_runOrders_61 (by omega) (by omega) ?_
      refine V_iconst a_X11_runOrders_68 ?_
      refine V_aldn0 a_X11_runOrders_69 ?_
      refine V_getIE a_X11_runOrders_70 f_X11_29 rfl i13 ?_
      refine V_isub a_X11_runOrders_73 ?_
      refine V_ist4 a_X11_runOrders_74 ?_
      refine V_aldn0 a_X11_runOrders_76 ?_
      refine V_getIE a_X11_runOrders_77 f_X11_118 rfl i12 ?_
      refine V_if_ne_t a_X11_runOrders_80 (by omega) (by omega) ?_
      refine V_iconst a_X11_runOrders_87 ?_
      refine V_ist5 a_X11_runOrders_88 ?_
      refine (fun z => by rw [start] at z; exact z : V _ 11 0 0 90 [some (vR (some (11, 0))), some (vI (σ.I 11 0 12)), some (vI (σ.I 11 0 13)), some (vI n), some (vI (-1 - a)), some (vI 0)] [] (τ.rJ 50 0 (mix (mix A (σ.J 51 0) 359) (τ.J 50 0) 0)) _ → _) ?_
      refine loopI (P := fun k => V _ 11 0 0 90 [some (vR (some (11, 0))), some (vI (σ.I 11 0 12)), some (vI (σ.I 11 0 13)), some (vI n), some (vI (-1 - a)), some (vI k)] [] (τ.rJ 50 0 (mix (mix A (σ.J 51 0) 359) (τ.J 50 0) k)) _) (N := 359) (by omega) ?_ ?_
      · refine V_ild5 a_X11_runOrders_90 ?_
        refine V_sipush a_X11_runOrders_92 (by decide) ?_
        refine V_icmp_ge_t a_X11_runOrders_95 (by omega) (by omega) ?_
        refine V_aldn0 a_X11_runOrders_125 ?_
        refine V_ildn1 a_X11_runOrders_126 ?_
        refine V_putI a_X11_runOrders_127 f_X11_118 rfl ?_
        refine V_aldn0 a_X11_runOrders_130 ?_
        refine V_ildn2 a_X11_runOrders_131 ?_
        refine V_putI a_X11_runOrders_132 f_X11_29 rfl ?_
        refine V_ild4 a_X11_runOrders_135 ?_
        exact V_iret a_X11_runOrders_137 (⟨gF _, g6 _, g8 _, (setI_ne (by decide)).trans setI_I, setI_I, fun z => absurd z q, fun _ => ⟨rfl, gp _, gm⟩⟩)
      · intro k k0 k1 ih
        rw [← mix_s k0, ← rJ_set] at ih
        refine V_ild5 a_X11_runOrders_90 ?_
        refine V_sipush a_X11_runOrders_92 (by decide) ?_
        refine V_icmp_ge_f a_X11_runOrders_95 (by omega) (by omega) ?_
        refine V_aldn0 a_X11_runOrders_98 ?_
        refine V_getIE a_X11_runOrders_99 f_X11_118 rfl (g12 _) ?_
        refine V_if_le_f a_X11_runOrders_102 (by omega) (by omega) ?_
        refine V_aldn0 a_X11_runOrders_105 ?_
        refine V_fin a_X11_runOrders_106 f_X11_7 rfl hW ?_
        refine V_ild5 a_X11_runOrders_109 ?_
        refine V_aldn0 a_X11_runOrders_111 ?_
        refine V_fin a_X11_runOrders_112 f_X11_13 rfl hW ?_
        refine V_ild5 a_X11_runOrders_115 ?_
        refine V_laldE a_X11_runOrders_117 rfl (by omega) (v := mix A (σ.J 51 0) 359 k) (by rw [g51]) ?_
        refine V_last a_X11_runOrders_118 rfl (by omega) ?_
        refine V_inc5 a_X11_runOrders_119 ?_
        refine V_goto a_X11_runOrders_122 ?_
        exact ih
  · intro x hx hg ih τ hτ
    generalize wh (ogG T e) (ogF T e) (psM e) (0, -1, 0, A, 0) = E at ih ⊢
    obtain ⟨d, a, n, B, p⟩ := x
    obtain ⟨h1, h3, h4, h5⟩ := hx
    have hg : d = 0 ∧ tF T e p < e := of_decide_eq_true hg
    obtain ⟨rfl, hg2⟩ := hg
    obtain ⟨f1, ⟨i6, i8, i12, i11, j51, hWτ⟩, i13, hz⟩ := hτ
    obtain ⟨⟨i9, i10⟩, hmτ, hTx⟩ := hz rfl
    dsimp only at h1 h3 h4 h5 i12 i9 i10 hmτ ⊢
    have hpF := tF_bd (T := T) h3.2
    have hgo := go_ok (T := T) (h5 rfl).2 h3 (by omega)
    have rg := R_goesThrough (a := τ.I 11 0 13) hTx hmτ h3 (by omega)
    rw [pz_eq i9 i10 i12 rfl] at rg
    unfold ogF at ih
    dsimp only at ih
    generalize goA T e B p = y at hgo rg ih
    have after : ∀ τ1, OrO τ T e (τ.I 11 0 13) (D + 67 * p) y τ1 → V m_X11_runOrders 11 0 0 47 [some (vR (some (11, 0))), some (vI (σ.I 11 0 12)), some (vI (σ.I 11 0 13)), some (vI n), none, none] [] τ1 (RoQ σ D e c H A E) := fun τ1 hτ1 => by
      obtain ⟨f2, k12, k13, kz⟩ := hτ1
      have f3 : FK [50, 51, 56, 57, 58, 59, 60] [6, 8, 9, 10, 11, 12, 13, 17, 19] σ τ1 := f1.trans (f2.sub (by decide) (by decide))
      have k6 : τ1.I 11 0 6 = 0 := (f2.2 6 (by decide)).trans i6
      have k8 : τ1.I 11 0 8 = 0 := (f2.2 8 (by decide)).trans i8
      have k11 : τ1.I 11 0 11 = e := (f2.2 11 (by decide)).trans i11
      have k51 : τ1.J 51 0 = mix A (σ.J 51 0) 359 := by
        rw [f2.1.J (by decide)]
        exact j51
      have hW1 : WF τ1 := f2.1.wf hWτ
      by_cases q : y.1 = 0
      · rw [if_pos q] at ih
        obtain ⟨l13, l9, l10, lm⟩ := kz q
        obtain ⟨y0, y1, y2⟩ := hgo.2 q
        have hTx1 : Tx τ1 T e := ⟨hW1, fun k => by rw [f2.1.I (by decide)]; exact hTx.2.1 k, k11, he⟩
        have rp := R_pass0 (f := tF T e y.2.1) (t := tE T e y.2.1) (a := τ.I 11 0 13) hTx1 (by omega)
        rw [pz_eq l9 l10 (k12.trans q) l13] at rp
        have k := ih (τ1.pz (tF T e (tE T e y.2.1)) (tE T e (tE T e y.2.1)) 0 (τ.I 11 0 13)) ⟨f3.trans (FK.pz.sub (by decide) (by decide)), ⟨by rw [pz_k (by decide)]; exact k6, by rw [pz_k (by decide)]; exact k8, pz_12, by rw [pz_k (by decide)]; exact k11, k51, hW1⟩, fun z => absurd rfl z, fun _ => ⟨⟨pz_9, pz_10⟩, ⟨by show D + 67 * tE T e y.2.1 ≤ 20000000; omega, hW1, lm.2.2.1, lm.2.2.2.up (by show D + 67 * p + 401 ≤ D + 67 * tE T e y.2.1; omega)⟩, hTx1.pz⟩⟩
        refine V_aldn0 a_X11_runOrders_47 ?_
        refine V_v0V a_X11_runOrders_48 c_X11_136 rp ?_
        refine V_inc3 a_X11_runOrders_51 ?_
        refine V_goto a_X11_runOrders_54 ?_
        exact k
      · rw [if_neg q] at ih
        have rp := R_pass1 (σ := τ1) (f := τ1.I 11 0 9) (t := τ1.I 11 0 10) (d := y.1) (a := y.2.1) (by omega)
        rw [pz_eq rfl rfl k12 (k13 q)] at rp
        have k := ih τ1 ⟨f3, ⟨k6, k8, k12, k11, k51, hW1⟩, fun _ => k13 q, fun z => absurd z q⟩
        refine V_aldn0 a_X11_runOrders_47 ?_
        refine V_v0V a_X11_runOrders_48 c_X11_136 rp ?_
        refine V_inc3 a_X11_runOrders_51 ?_
        refine V_goto a_X11_runOrders_54 ?_
        exact k
    refine V_aldn0 a_X11_runOrders_25 ?_
    refine V_getIE a_X11_runOrders_26 f_X11_118 rfl i12 ?_
    refine V_if_ne_f a_X11_runOrders_29 (by omega) (by omega) ?_
    refine V_aldn0 a_X11_runOrders_32 ?_
    refine V_getIE a_X11_runOrders_33 f_X11_104 rfl i9 ?_
    refine V_aldn0 a_X11_runOrders_36 ?_
    refine V_getIE a_X11_runOrders_37 f_X11_98 rfl i11 ?_
    refine V_icmp_ge_f a_X11_runOrders_40 (by omega) (by omega) ?_
    refine V_aldn0 a_X11_runOrders_43 ?_
    refine V_v0PV a_X11_runOrders_44 c_X11_384 rg (fun τ1 hτ1 => ?_)
    exact after τ1 hτ1
end Ro

