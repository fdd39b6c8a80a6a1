theorem nd_ext {rc du : Int → Int} {n m : Int} (n0 : 0 ≤ n) (nm : n ≤ m) (h : ∀ j, n ≤ j → j < m → rc j ≤ 0) : ndX rc du m = ndX rc du n := by
  refine loopF (P := fun z => ndX rc du (m - (z - n)) = ndX rc du n) (a := n) (N := m) nm ?_ ?_ |> fun z => by rw [Int.sub_self, Int.sub_zero] at z; exact z
  · rw [show m - (m - n) = n by omega]
  · intro z z0 z1 ih
    have := h (m - (z + 1 - n)) (by omega) (by omega)
    rw [show m - (z - n) = (m - (z + 1 - n)) + 1 by omega, ndX_s (by omega), if_neg (fun w => by omega), ih]
/-- the greatest slice, both ways -/
theorem gs_amx {sh : Int → Int} {n b : Int} (n0 : 0 < n) (n6 : n ≤ 6) (h : ∀ j, n ≤ j → j < 6 → sh j ≤ 0) (b0 : 0 ≤ b) (b1 : b < n) (hb : 0 < sh b) : gsX sh 6 = amx sh n := by
  unfold gsX
  rw [nd_ext (by omega) n6 h]
  rcases ndX_ok (rc := sh) (du := fun l => -sh l) (n := n) (by omega) with z | z
  · have := z.2 b b0 b1
    omega
  · obtain ⟨z1, z2, z3, z4⟩ := z
    refine (amx_of n0 z1.1 z1.2 (fun j j0 j1 => ?_) (fun j j0 j1 => ?_)).symm
    · rcases lt_ge 0 (sh j) with y | y
      · have w := z3 j j0 j1 y
        have w : -sh (ndX sh (fun l => -sh l) n) ≤ -sh j := w
        omega
      · omega
    · rcases lt_ge 0 (sh j) with y | y
      · have w := z4 j j0 j1 y
        have w : -sh (ndX sh (fun l => -sh l) n) < -sh j := w
        omega
      · omega
/-- the loan's slices are those of the state -/
abbrev SlA (τ : Hp) (j : Nat) (A : St) (k : Int) : Prop := Slc τ j (fun l => A (83 + 23 * k + 5 + l)) (fun l => A (83 + 23 * k + 11 + l)) (fun l => A (83 + 23 * k + 17 + l))
abbrev nrA (A : St) (k : Int) : Int := nrX (fun l => A (83 + 23 * k + 5 + l)) (fun l => A (83 + 23 * k + 11 + l)) (fun l => A (83 + 23 * k + 17 + l))
section Gm
variable {k K : Int} {A0 : St} {x : Bk}
theorem GB_nd (h : GB k K A0 x) : ndX (fun l => x.A (83 + 23 * k + 11 + l)) (fun l => x.A (83 + 23 * k + 17 + l)) 6 = nduA x.A k ∧ (nduA x.A k = -1 ∨ ((0 ≤ nduA x.A k ∧ nduA x.A k < 6) ∧ 0 < x.A (83 + 23 * k + 11 + nduA x.A k))) := by
  obtain ⟨hs, ho, hq, hsum, hl⟩ := h
  have e1 : x.A 1 = A0 1 := ho 1 (by have := hs.2.1; omega)
  obtain ⟨hn, hk, hsl⟩ := hs
  refine ⟨nd_ext (by omega) (by omega) (fun j j0 j1 => ?_), ?_⟩
  · have a := hsl j (by omega) j1
    have b := (hl j (by omega) j1).2.2.2 (by omega)
    show x.A (83 + 23 * k + 11 + j) ≤ 0
    omega
  · have z := ndX_ok (rc := fun l => x.A (83 + 23 * k + 11 + l)) (du := fun l => x.A (83 + 23 * k + 17 + l)) (n := x.A 1) hn.1
    have e2 : nduA x.A k = ndX (fun l => x.A (83 + 23 * k + 11 + l)) (fun l => x.A (83 + 23 * k + 17 + l)) (x.A 1) := rfl
    rw [← e2] at z
    rcases z with z | z
    · exact Or.inl z.1
    · exact Or.inr ⟨by omega, z.2.1⟩
theorem nr_1 (h : GB k K A0 x) (hg : nduA x.A k ≠ -1) : nrA x.A k = nduA x.A k := by
  unfold nrA nrX
  rw [(GB_nd h).1, if_neg hg]
theorem nr_2 (h : G2 k K A0 x) (hq : 0 < x.q) : nrA x.A k = gslA x.A k ∧ (0 ≤ gslA x.A k ∧ gslA x.A k < 6) ∧ 0 < x.A (83 + 23 * k + 5 + gslA x.A k) ∧ x.c < 12 := by
  have hnd := GB_nd h.1
  obtain ⟨⟨hs, ho, hq0, hsum, hl⟩, hc, hcnt⟩ := h
  have e1 : x.A 1 = A0 1 := ho 1 (by have := hs.2.1; omega)
  obtain ⟨hn, hk, hsl⟩ := hs
  rw [e1] at hn
  have hn1 : 0 < A0 1 := by
    rcases lt_ge 0 (A0 1) with z | z
    · exact z
    · rw [sm_neg _ z] at hsum
      omega
  have hgs := amx_ok (r := fun l => x.A (83 + 23 * k + 5 + l)) hn1
  have e2 : gslA x.A k = amx (fun l => x.A (83 + 23 * k + 5 + l)) (A0 1) := by
    unfold gslA
    rw [e1]
  rw [← e2] at hgs
  have hpos : 0 < x.A (83 + 23 * k + 5 + gslA x.A k) := by
    rcases lt_ge 0 (x.A (83 + 23 * k + 5 + gslA x.A k)) with z | z
    · exact z
    · have h1 := sm_hi (f := fun l => x.A (83 + 23 * k + 5 + l)) (k := A0 1) (hi := 0) (by omega) (fun j j0 j1 => by
        have := hgs.2.1 j j0 j1
        show x.A (83 + 23 * k + 5 + j) ≤ 0
        have this : x.A (83 + 23 * k + 5 + j) ≤ x.A (83 + 23 * k + 5 + gslA x.A k) := this
        omega)
      rw [Int.mul_zero] at h1
      omega
  have hcn := hcnt hq
  have en : nduA x.A k = -1 := by
    rcases hnd.2 with z | z
    · exact z
    · have := hcn.2 _ z.1.1 z.1.2
      omega
  refine ⟨?_, by omega, hpos, ?_⟩
  · unfold nrA nrX
    rw [hnd.1, if_pos en, gs_amx (sh := fun l => x.A (83 + 23 * k + 5 + l)) (n := A0 1) (b := gslA x.A k) hn1 hn.2 (fun j j0 j1 => by
      have := (hl j (by omega) j1).2.2.2 j0
      show x.A (83 + 23 * k + 5 + j) ≤ 0
      omega) hgs.1.1 hgs.1.2 hpos]
    exact e2.symm
  · have := sm_bI1 (p := fun l => 0 < x.A (83 + 23 * k + 5 + l)) (n := A0 1) hgs.1.1 hgs.1.2 hpos
    omega
/-- one hand-back, as the model books it -/
theorem hb_1 {τ : Hp} {j : Nat} {A : St} {l p : Int} (hl : 0 ≤ l ∧ l < 6) (hp : p ≤ A (83 + 23 * k + 11 + l)) (h : Slc τ j (upI (fun l => A (83 + 23 * k + 5 + l)) l (A (83 + 23 * k + 5 + l) - p)) (hbR (fun l => A (83 + 23 * k + 11 + l)) l p) (hbD (fun l => A (83 + 23 * k + 11 + l)) (fun l => A (83 + 23 * k + 17 + l)) l p)) : SlA τ j (cbA A k l p) k := fun m m0 m1 => by
  have z := h m m0 m1
  show τ.I 30 j m = cbA A k l p (83 + 23 * k + 5 + m) ∧ τ.I 31 j m = cbA A k l p (83 + 23 * k + 11 + m) ∧ τ.I 32 j m = cbA A k l p (83 + 23 * k + 17 + m)
  rw [cb_5 hl ⟨m0, m1⟩, cb_11 hl ⟨m0, m1⟩, cb_17 hl ⟨m0, m1⟩]
  unfold hbR hbD at z
  have em : min p (A (83 + 23 * k + 11 + l)) = p := by omega
  rw [em] at z
  by_cases e : m = l
  · rw [if_pos e, if_pos e]
    rw [e, upI_eq, upI_eq] at z
    rw [e]
    refine ⟨z.1, z.2.1, ?_⟩
    by_cases y : A (83 + 23 * k + 11 + l) - p = 0
    · rw [if_pos ⟨rfl, y⟩]
      rw [if_pos y, upI_eq] at z
      exact z.2.2
    · rw [if_neg (fun w => y w.2)]
      rw [if_neg y] at z
      exact z.2.2
  · rw [if_neg e, if_neg e, if_neg (fun w => e w.1)]
    rw [upI_ne e, upI_ne e] at z
    refine ⟨z.1, z.2.1, ?_⟩
    by_cases y : A (83 + 23 * k + 11 + l) - p = 0
    · rw [if_pos y, upI_ne e] at z
      exact z.2.2
    · rw [if_neg y] at z
      exact z.2.2
theorem hb_2 {τ : Hp} {j : Nat} {A : St} {l p : Int} (hl : 0 ≤ l ∧ l < 6) (hp : 0 ≤ p) (h0 : A (83 + 23 * k + 11 + l) = 0) (h1 : A (83 + 23 * k + 17 + l) = -1) (h : Slc τ j (upI (fun l => A (83 + 23 * k + 5 + l)) l (A (83 + 23 * k + 5 + l) - p)) (hbR (fun l => A (83 + 23 * k + 11 + l)) l p) (hbD (fun l => A (83 + 23 * k + 11 + l)) (fun l => A (83 + 23 * k + 17 + l)) l p)) : SlA τ j (upI A (83 + 23 * k + 5 + l) (A (83 + 23 * k + 5 + l) - p)) k := fun m m0 m1 => by
  have z := h m m0 m1
  show τ.I 30 j m = upI A (83 + 23 * k + 5 + l) (A (83 + 23 * k + 5 + l) - p) (83 + 23 * k + 5 + m) ∧ τ.I 31 j m = upI A (83 + 23 * k + 5 + l) (A (83 + 23 * k + 5 + l) - p) (83 + 23 * k + 11 + m) ∧ τ.I 32 j m = upI A (83 + 23 * k + 5 + l) (A (83 + 23 * k + 5 + l) - p) (83 + 23 * k + 17 + m)
  rw [upI_ne (j := 83 + 23 * k + 11 + m) (by omega), upI_ne (j := 83 + 23 * k + 17 + m) (by omega)]
  unfold hbR hbD at z
  have em : A (83 + 23 * k + 11 + l) - min p (A (83 + 23 * k + 11 + l)) = 0 := by omega
  rw [if_pos em, em] at z
  by_cases e : m = l
  · rw [e, upI_eq, upI_eq, upI_eq] at z
    rw [e, upI_eq, h0, h1]
    exact z
  · rw [upI_ne e, upI_ne e, upI_ne e] at z
    rw [upI_ne (by omega)]
    exact z
end Gm
/-- a change of one loan's slices -/
theorem rel_sl {σ τ : Hp} {i : Nat} {A B : St} {k : Int} (hR : Rel σ i A) (hS : Shp σ i) (hn : (0 ≤ A 0 ∧ A 0 ≤ 4) ∧ (0 ≤ A 1 ∧ A 1 ≤ 6) ∧ (0 ≤ A 2 ∧ A 2 ≤ 4) ∧ A 7 ≤ 12) (hk : 0 ≤ k ∧ k < A 7) (f : FX (slS (lid σ i k)) σ τ) (hs : SlA τ (lid σ i k) B k) (ho : ∀ j, ¬ (83 + 23 * k + 5 ≤ j ∧ j < 83 + 23 * k + 23) → B j = A j) : Rel τ i B ∧ Shp τ i := by
  have el : ∀ x, lid τ i x = lid σ i x := fun x => by
    unfold lid
    rw [f.2.1]
  refine ⟨(hR.top.congr (by omega) (fun t t0 t1 => f.I (by intro z; unfold slS at z; omega)) (fun t t0 t1 => f.J (by intro z; unfold slS at z; omega)) (fun j j0 j1 => ho j (by omega))).full (fun x x0 x1 => ?_), ?_⟩
  · rw [ho 7 (by omega)] at x1
    rw [el]
    by_cases e : x = k
    · rw [e]
      obtain ⟨g0, g1, g2, g3, g4, gs⟩ := hR.lns k hk.1 hk.2
      have e3 : τ.I 3 (lid σ i k) = σ.I 3 (lid σ i k) := f.I (by intro z; unfold slS at z; omega)
      unfold LnA
      rw [e3, ho _ (by omega), ho _ (by omega), ho _ (by omega), ho _ (by omega), ho _ (by omega)]
      exact ⟨g0, g1, g2, g3, g4, hs⟩
    · have hne : lid σ i x ≠ lid σ i k := fun w => e (hS.2 x k x0 (by omega) hk.1 (by omega) w)
      exact (hR.lns x x0 x1).congr (fun t ht => f.I (by intro z; unfold slS at z; omega)) (fun c c0 c1 => ho _ (by omega))
  · unfold Shp lid at hS ⊢
    rw [f.2.1]
    exact hS
section Gv
variable {D : Int} {σ : Hp} {A : St} {i : Nat}
theorem ret_0 {m q : Int} (h : retC A m q = 0) : placeA A m ≠ -1 ∧ 1 ≤ q ∧ q ≤ quanA A (placeA A m) := by
  unfold retC at h
  by_cases h1 : placeA A m = -1
  · rw [if_pos h1] at h
    omega
  · rw [if_neg h1] at h
    by_cases h2 : 1 ≤ q ∧ q ≤ quanA A (placeA A m)
    · exact ⟨h1, h2⟩
    · rw [if_pos h2] at h
      omega
theorem R_CgiveBack {m q : Int} (h : Cl D σ i A) (hm : iR m) (hc : retC A m q = 0) : Cv m_X1_giveBack 2 0 0 [vR (some (1, 0)), vR (some (6, i)), vI m, vI q] σ (some (vI (quanA A (placeA A m) - q))) (fun τ => Fp i σ τ ∧ Cl D τ i (retA A m q)) := by
  have r1 := R_CplaceOf (n := m) h hm
  obtain ⟨hD, hW, hR, hS, hI⟩ := h
  have hn := hI.n
  obtain ⟨c1, c2⟩ := ret_0 hc
  have hp := (place_ok c1).1
  have hG := G1_init (r := fun _ => 0) hD hI hp.1 hp.2 ⟨by omega, c2.2⟩
  have hL := hS.L
  have hbk := back_ok hG
  have hi0 := back_inv hD hI hp.1 hp.2 hbk.1.1
  have hlid := hS.1 (placeA A m) hp.1 (by omega)
  have gs0 := (hR.lns _ hp.1 hp.2).2.2.2.2.2
  unfold retA backA
  generalize hX : backX (placeA A m) A q (fun _ => 0) = X at hbk hi0 ⊢
  generalize hk : placeA A m = k at *
  have hQ : sm (fun l => X.A (83 + 23 * k + 5 + l)) 6 = quanA A k - q := by
    have e := hbk.1.1.2.2.2.1
    have e1 : X.A 1 = A 1 := hbk.1.1.2.1 1 (by omega)
    rw [sm_ext (n := A 1) (by omega) (by omega) (fun j j0 j1 => (hbk.1.1.2.2.2.2 j (by omega) j1).2.2.2 j0), e, hbk.2]
    omega
  have p94 : ∀ (τ : Hp) (o7 o8 o9 : Option AV), FX (slS (lid σ i k)) σ τ → SlA τ (lid σ i k) X.A k → V m_X1_giveBack 2 0 0 94 [some (vR (some (1, 0))), some (vR (some (6, i))), some (vI m), some (vI q), some (vI k), some (vR (some (3, lid σ i k))), some (vI X.q), o7, o8, o9] [] τ (fun r τ => r = .inl (some (vI (quanA A k - q))) ∧ Fp i σ τ ∧ Cl D τ i (closeA X.A)) := by
    intro τ o7 o8 o9 f hs
    obtain ⟨rl, sh⟩ := rel_sl hR hS (by omega) ⟨hp.1, hp.2⟩ f hs hbk.1.1.2.1
    have hWt := f.wf hW
    have hc0 : Cl0 D τ i X.A := ⟨hD, hWt, rl, sh, hi0⟩
    have r3 := R_dropClosed hc0
    refine V_aldn1 a_X1_giveBack_94 ?_
    refine V_v0PV a_X1_giveBack_95 c_X1_106 r3 (fun ρ hρ => ?_)
    skip
    obtain ⟨f2, e2, c2⟩ := hρ
    have r4 := R_Lquantity (σ := ρ) (j := lid σ i k) (sh := fun l => X.A (83 + 23 * k + 5 + l)) (rc := fun l => X.A (83 + 23 * k + 11 + l)) (du := fun l => X.A (83 + 23 * k + 17 + l)) c2.2.1 (fun l l0 l1 => by
      rw [e2 30 (by decide), e2 31 (by decide), e2 32 (by decide)]
      exact hs l l0 l1)
    rw [hQ] at r4
    have ff : Fp i σ ρ := (f.fp (fun t n z => by unfold slS at z; unfold plS; omega)).trans f2
    refine V_ald5 a_X1_giveBack_98 ?_
    refine V_v0R a_X1_giveBack_100 c_X1_87 r4 ?_
    exact V_iret a_X1_giveBack_103 (⟨rfl, ff, c2⟩)
  have i1 := wh_inv (I := G1 k (quanA A k - q) A) (fun x hx hg => G1_s hx hg) hG
  have i2 := G1_G2 i1.1 i1.2
  unfold backX at hX
  generalize hX1 : wh (gk1 k) (bk1 k) mk ⟨A, q, 0, fun _ => 0⟩ = X1 at i1 i2 hX
  have st : ∀ x : Bk, GB k (quanA A k - q) A x → 0 < x.q → x.c < 12 → 0 ≤ nrA x.A k ∧ nrA x.A k < 6 → ∀ p, p = (if 0 < x.A (83 + 23 * k + 11 + nrA x.A k) then x.A (83 + 23 * k + 11 + nrA x.A k) else x.A (83 + 23 * k + 5 + nrA x.A k)) → ∀ (τ : Hp) (o8 o9 : Option AV), FX (slS (lid σ i k)) σ τ → SlA τ (lid σ i k) x.A k → (∀ τ2 : Hp, FX (slS (lid σ i k)) σ τ2 → Slc τ2 (lid σ i k) (upI (fun l => x.A (83 + 23 * k + 5 + l)) (nrA x.A k) (x.A (83 + 23 * k + 5 + nrA x.A k) - min x.q p)) (hbR (fun l => x.A (83 + 23 * k + 11 + l)) (nrA x.A k) (min x.q p)) (hbD (fun l => x.A (83 + 23 * k + 11 + l)) (fun l => x.A (83 + 23 * k + 17 + l)) (nrA x.A k) (min x.q p)) → ∀ o8 o9 : Option AV, V m_X1_giveBack 2 0 0 30 [some (vR (some (1, 0))), some (vR (some (6, i))), some (vI m), some (vI q), some (vI k), some (vR (some (3, lid σ i k))), some (vI (x.q - min x.q p)), some (vI (x.c + 1)), o8, o9] [] τ2 (fun r τ => r = .inl (some (vI (quanA A k - q))) ∧ Fp i σ τ ∧ Cl D τ i (closeA X.A))) → V m_X1_giveBack 2 0 0 30 [some (vR (some (1, 0))), some (vR (some (6, i))), some (vI m), some (vI q), some (vI k), some (vR (some (3, lid σ i k))), some (vI x.q), some (vI x.c), o8, o9] [] τ (fun r τ => r = .inl (some (vI (quanA A k - q))) ∧ Fp i σ τ ∧ Cl D τ i (closeA X.A)) := by
    intro x hx hq0 hc12 hb p hpp τ o8 o9 f hs kk
    have hW := f.wf hW
    have hqb := GB_q hx
    have hc0 := hx.2.2.1
    have sl := hx.1.2.2
    have slb := sl _ hb.1 hb.2
    have rn : Rt m_X3_nextReturner 1 0 0 [vR (some (3, lid σ i k))] τ (some (vI (nrA x.A k))) τ := R_LnextReturner (σ := τ) (j := lid σ i k) hW hs (fun l l0 l1 => by
      have := sl l l0 l1
      show iR (x.A _) ∧ iR (x.A _) ∧ iR (x.A _)
      omega)
    have ra := R_LreturnsAtOnce (σ := τ) (j := lid σ i k) (l := nrA x.A k) hW hs hb (by
      show iR (x.A _)
      omega)
    have rm := R_imin (σ := τ) (x := x.q) (y := p) (by omega) (by rw [hpp]; split <;> omega)
    have rh := R_handBack (σ := τ) (j := lid σ i k) (l := nrA x.A k) (p := min x.q p) hW hs hb (by
      show 0 ≤ x.A _ ∧ x.A _ ≤ 1000000
      omega) (by
      have : 0 ≤ p := by
        rw [hpp]
        split <;> omega
      omega)
    rw [show (if 0 < (fun l => x.A (83 + 23 * k + 11 + l)) (nrA x.A k) then (fun l => x.A (83 + 23 * k + 11 + l)) (nrA x.A k) else (fun l => x.A (83 + 23 * k + 5 + l)) (nrA x.A k)) = p from hpp.symm] at ra
    refine V_ild7 a_X1_giveBack_30 ?_
    refine V_bipush a_X1_giveBack_32 (by decide) ?_
    refine V_icmp_ge_f a_X1_giveBack_34 (by omega) (by omega) ?_
    refine V_ild6 a_X1_giveBack_37 ?_
    refine V_if_le_f a_X1_giveBack_39 (by omega) (by omega) ?_
    refine V_ald5 a_X1_giveBack_42 ?_
    refine V_v0R a_X1_giveBack_44 c_X1_91 rn ?_
    refine V_ist8 a_X1_giveBack_47 ?_
    refine V_ild8 a_X1_giveBack_49 ?_
    refine V_iconst a_X1_giveBack_51 ?_
    refine V_icmp_ne_t a_X1_giveBack_52 (by omega) (by omega) ?_
    refine V_ild6 a_X1_giveBack_58 ?_
    refine V_ald5 a_X1_giveBack_60 ?_
    refine V_ild8 a_X1_giveBack_62 ?_
    refine V_v1R a_X1_giveBack_64 c_X1_94 ra ?_
    refine V_s2R a_X1_giveBack_67 c_X1_97 rm ?_
    refine V_ist9 a_X1_giveBack_70 ?_
    refine V_ald5 a_X1_giveBack_72 ?_
    refine V_ild8 a_X1_giveBack_74 ?_
    refine V_ild9 a_X1_giveBack_76 ?_
    refine V_v2PV a_X1_giveBack_78 c_X1_103 rh (fun τ2 hτ2 => ?_)
    refine V_ild6 a_X1_giveBack_81 ?_
    refine V_ild9 a_X1_giveBack_83 ?_
    refine V_isub a_X1_giveBack_85 ?_
    refine V_ist6 a_X1_giveBack_86 ?_
    refine V_inc7 a_X1_giveBack_88 ?_
    refine V_goto a_X1_giveBack_91 ?_
    exact kk τ2 (f.trans hτ2.1) hτ2.2 _ _
  have p2 : ∀ (τ : Hp) (o8 o9 : Option AV), FX (slS (lid σ i k)) σ τ → SlA τ (lid σ i k) X1.A k → V m_X1_giveBack 2 0 0 30 [some (vR (some (1, 0))), some (vR (some (6, i))), some (vI m), some (vI q), some (vI k), some (vR (some (3, lid σ i k))), some (vI X1.q), some (vI X1.c), o8, o9] [] τ (fun r τ => r = .inl (some (vI (quanA A k - q))) ∧ Fp i σ τ ∧ Cl D τ i (closeA X.A)) := by
    refine loopW (I := G2 k (quanA A k - q) A) (P := fun x => ∀ (τ : Hp) (o8 o9 : Option AV), FX (slS (lid σ i k)) σ τ → SlA τ (lid σ i k) x.A k → V m_X1_giveBack 2 0 0 30 [some (vR (some (1, 0))), some (vR (some (6, i))), some (vI m), some (vI q), some (vI k), some (vR (some (3, lid σ i k))), some (vI x.q), some (vI x.c), o8, o9] [] τ (fun r τ => r = .inl (some (vI (quanA A k - q))) ∧ Fp i σ τ ∧ Cl D τ i (closeA X.A))) (fun x hx hg => G2_s hx hg) (E := X) ?_ ?_ X1 i2 hX
    · intro hx hg τ o8 o9 f hs
      have k2 := p94 τ (some (vI X.c)) o8 o9 f hs
      have hq0 : X.q = 0 := hbk.2
      have hc0 := hx.2.1
      have hc1 := hx.1.2.2.1
      by_cases z : 12 ≤ X.c
      · refine V_ild7 a_X1_giveBack_30 ?_
        refine V_bipush a_X1_giveBack_32 (by decide) ?_
        refine V_icmp_ge_t a_X1_giveBack_34 (by omega) (by omega) ?_
        exact k2
      · refine V_ild7 a_X1_giveBack_30 ?_
        refine V_bipush a_X1_giveBack_32 (by decide) ?_
        refine V_icmp_ge_f a_X1_giveBack_34 (by omega) (by omega) ?_
        refine V_ild6 a_X1_giveBack_37 ?_
        refine V_if_le_t a_X1_giveBack_39 (by omega) (by omega) ?_
        exact k2
    · intro x hx hg ih τ o8 o9 f hs
      have hg := of_decide_eq_true hg
      obtain ⟨e1, e2, e3, e4⟩ := nr_2 hx hg
      have hrc := (hx.2.2 hg).2 _ e2.1 e2.2
      have hdu := (hx.1.2.2.2.2 _ e2.1 e2.2).1 hrc
      refine st x hx.1 hg e4 (by rw [e1]; exact e2) (x.A (83 + 23 * k + 5 + gslA x.A k)) (by rw [e1, if_neg (by omega)]) τ o8 o9 f hs (fun τ2 f2 h2 o8 o9 => ?_)
      rw [e1] at h2
      exact ih τ2 o8 o9 f2 (hb_2 e2 (by omega) hrc hdu h2)
  have p1 : ∀ (τ : Hp) (o8 o9 : Option AV), FX (slS (lid σ i k)) σ τ → SlA τ (lid σ i k) A k → V m_X1_giveBack 2 0 0 30 [some (vR (some (1, 0))), some (vR (some (6, i))), some (vI m), some (vI q), some (vI k), some (vR (some (3, lid σ i k))), some (vI q), some (vI 0), o8, o9] [] τ (fun r τ => r = .inl (some (vI (quanA A k - q))) ∧ Fp i σ τ ∧ Cl D τ i (closeA X.A)) := by
    refine loopW (I := G1 k (quanA A k - q) A) (P := fun x => ∀ (τ : Hp) (o8 o9 : Option AV), FX (slS (lid σ i k)) σ τ → SlA τ (lid σ i k) x.A k → V m_X1_giveBack 2 0 0 30 [some (vR (some (1, 0))), some (vR (some (6, i))), some (vI m), some (vI q), some (vI k), some (vR (some (3, lid σ i k))), some (vI x.q), some (vI x.c), o8, o9] [] τ (fun r τ => r = .inl (some (vI (quanA A k - q))) ∧ Fp i σ τ ∧ Cl D τ i (closeA X.A))) (fun x hx hg => G1_s hx hg) (E := X1) (fun _ _ => p2) ?_ ⟨A, q, 0, fun _ => 0⟩ hG hX1
    intro x hx hg ih τ o8 o9 f hs
    have hg := of_decide_eq_true hg
    have e1 := nr_1 hx.1 hg.1
    have e2 : (0 ≤ nduA x.A k ∧ nduA x.A k < 6) ∧ 0 < x.A (83 + 23 * k + 11 + nduA x.A k) := by
      rcases (GB_nd hx.1).2 with z | z
      · exact absurd z hg.1
      · exact z
    have hc6 := hx.2.1
    refine st x hx.1 hg.2 (by omega) (by rw [e1]; exact e2.1) (x.A (83 + 23 * k + 11 + nduA x.A k)) (by rw [e1, if_pos e2.2]) τ o8 o9 f hs (fun τ2 f2 h2 o8 o9 => ?_)
    rw [e1] at h2
    exact ih τ2 o8 o9 f2 (hb_1 e2.1 (by omega) h2)
  have p1 := p1 σ none none (FX.refl _ _) gs0
  show V _ 2 0 0 0 [some (vR (some (1, 0))), some (vR (some (6, i))), some (vI m), some (vI q), none, none, none, none, none, none] [] σ _
  refine V_aldn1 a_X1_giveBack_0 ?_
  refine V_ildn2 a_X1_giveBack_1 ?_
  refine V_v1R a_X1_giveBack_2 c_X1_80 r1 ?_
  refine V_ist4 a_X1_giveBack_5 ?_
  refine V_ild4 a_X1_giveBack_7 ?_
  refine V_iconst a_X1_giveBack_9 ?_
  refine V_icmp_ne_t a_X1_giveBack_10 (by omega) (by omega) ?_
  refine V_aldn1 a_X1_giveBack_15 ?_
  refine V_fin a_X1_giveBack_16 f_X1_83 rfl hW ?_
  refine V_ild4 a_X1_giveBack_19 ?_
  refine V_aald a_X1_giveBack_21 rfl (by omega) (hL _ (by omega) (by omega)) ?_
  refine V_ast5 a_X1_giveBack_22 ?_
  refine V_ildn3 a_X1_giveBack_24 ?_
  refine V_ist6 a_X1_giveBack_25 ?_
  refine V_iconst a_X1_giveBack_27 ?_
  refine V_ist7 a_X1_giveBack_28 ?_
  exact p1
end Gv

