section Em
variable {D : Int} {σ : Hp} {A : St} {i : Nat}
theorem R_Pempty {B : St} (hW : WF σ) (hS : Shp σ i) (hB : ∀ j, 0 ≤ j → j < 83 → ¬ (23 ≤ j ∧ j < 27) → B j = 0) (hB2 : ∀ s, 0 ≤ s → s < 4 → B (23 + s) = -1) : Cv m_X6_empty 1 0 0 [vR (some (6, i))] σ none (fun τ => FX (cpS i) σ τ ∧ Rel τ i B ∧ Shp τ i ∧ ∀ s, 0 ≤ s → s < 4 → τ.I 39 i s = B (23 + s)) := by
  have hW0 := hW
  have s1 : FX (cpS i) σ (σ.rI 36 i (mix (fun _ => 0) (σ.I 36 i) ((9 : Nat) : Int))) := FX.rI (Or.inl ⟨by decide, rfl⟩)
  have v1 : ∀ x, 0 ≤ x → x < 9 → (σ.rI 36 i (mix (fun _ => 0) (σ.I 36 i) ((9 : Nat) : Int))).I 36 i x = 0 := fun x x0 x1 => by rw [rI_I]; exact mix_in x0 x1
  have r1 := R_fillI (σ := σ) (t := 36) (i := i) (v := 0) rfl (by decide) (by decide)
  show V _ 1 0 0 0 [some (vR (some (6, i)))] [] σ _
  refine V_aldn0 a_X6_empty_0 ?_
  refine V_fin a_X6_empty_1 f_X6_9 rfl hW ?_
  refine V_iconst a_X6_empty_4 ?_
  refine V_s2V a_X6_empty_5 c_X6_53 r1 ?_
  skip
  generalize σ.rI 36 i (mix (fun _ => 0) (σ.I 36 i) ((9 : Nat) : Int)) = τ1 at s1 v1
  have hW := s1.wf hW0
  have s2 : FX (cpS i) τ1 (τ1.rI 44 i (mix (fun _ => 0) (τ1.I 44 i) ((24 : Nat) : Int))) := FX.rI (Or.inl ⟨by decide, rfl⟩)
  have v2 : ∀ x, 0 ≤ x → x < 24 → (τ1.rI 44 i (mix (fun _ => 0) (τ1.I 44 i) ((24 : Nat) : Int))).I 44 i x = 0 := fun x x0 x1 => by rw [rI_I]; exact mix_in x0 x1
  have v12 : (τ1.rI 44 i (mix (fun _ => 0) (τ1.I 44 i) ((24 : Nat) : Int))).I 36 i = τ1.I 36 i := rI_ne (by omega)
  have r2 := R_fillI (σ := τ1) (t := 44) (i := i) (v := 0) rfl (by decide) (by decide)
  refine V_aldn0 a_X6_empty_8 ?_
  refine V_fin a_X6_empty_9 f_X6_36 rfl hW ?_
  refine V_iconst a_X6_empty_12 ?_
  refine V_s2V a_X6_empty_13 c_X6_53 r2 ?_
  skip
  generalize τ1.rI 44 i (mix (fun _ => 0) (τ1.I 44 i) ((24 : Nat) : Int)) = τ2 at s2 v2 v12
  have s12 := s1.trans s2
  have hW := s12.wf hW0
  have s3 : FX (cpS i) τ2 (τ2.rJ 45 i (mix (fun _ => 0) (τ2.J 45 i) ((13 : Nat) : Int))) := FX.rJ (Or.inl ⟨by decide, rfl⟩)
  have v3 : ∀ x, 0 ≤ x → x < 13 → (τ2.rJ 45 i (mix (fun _ => 0) (τ2.J 45 i) ((13 : Nat) : Int))).J 45 i x = 0 := fun x x0 x1 => by rw [rJ_J]; exact mix_in x0 x1
  have v3I : (τ2.rJ 45 i (mix (fun _ => 0) (τ2.J 45 i) ((13 : Nat) : Int))).I = τ2.I := rfl
  have r3 := R_fillJ (σ := τ2) (t := 45) (i := i) (v := 0) rfl (by decide) (by decide)
  refine V_aldn0 a_X6_empty_16 ?_
  refine V_fin a_X6_empty_17 f_X6_39 rfl hW ?_
  refine V_lconst0 a_X6_empty_20 ?_
  refine V_s2V a_X6_empty_21 c_X6_59 r3 ?_
  skip
  generalize τ2.rJ 45 i (mix (fun _ => 0) (τ2.J 45 i) ((13 : Nat) : Int)) = τ3 at s3 v3 v3I
  have s13 := s12.trans s3
  have hW := s13.wf hW0
  have s4 : FX (cpS i) τ3 (τ3.rJ 46 i (mix (fun _ => 0) (τ3.J 46 i) ((3 : Nat) : Int))) := FX.rJ (Or.inl ⟨by decide, rfl⟩)
  have v4 : ∀ x, 0 ≤ x → x < 3 → (τ3.rJ 46 i (mix (fun _ => 0) (τ3.J 46 i) ((3 : Nat) : Int))).J 46 i x = 0 := fun x x0 x1 => by rw [rJ_J]; exact mix_in x0 x1
  have v4I : (τ3.rJ 46 i (mix (fun _ => 0) (τ3.J 46 i) ((3 : Nat) : Int))).I = τ3.I := rfl
  have v4J : (τ3.rJ 46 i (mix (fun _ => 0) (τ3.J 46 i) ((3 : Nat) : Int))).J 45 i = τ3.J 45 i := rJ_ne (by omega)
  have r4 := R_fillJ (σ := τ3) (t := 46) (i := i) (v := 0) rfl (by decide) (by decide)
  refine V_aldn0 a_X6_empty_24 ?_
  refine V_fin a_X6_empty_25 f_X6_43 rfl hW ?_
  refine V_lconst0 a_X6_empty_28 ?_
  refine V_s2V a_X6_empty_29 c_X6_59 r4 ?_
  skip
  generalize τ3.rJ 46 i (mix (fun _ => 0) (τ3.J 46 i) ((3 : Nat) : Int)) = τ4 at s4 v4 v4I v4J
  have s14 := s13.trans s4
  have hW := s14.wf hW0
  have s5 : FX (cpS i) τ4 (τ4.rI 39 i (mix (fun _ => -1) (τ4.I 39 i) ((4 : Nat) : Int))) := FX.rI (Or.inl ⟨by decide, rfl⟩)
  have v5 : ∀ x, 0 ≤ x → x < 4 → (τ4.rI 39 i (mix (fun _ => -1) (τ4.I 39 i) ((4 : Nat) : Int))).I 39 i x = -1 := fun x x0 x1 => by rw [rI_I]; exact mix_in x0 x1
  have v5J : (τ4.rI 39 i (mix (fun _ => -1) (τ4.I 39 i) ((4 : Nat) : Int))).J = τ4.J := rfl
  have v5a : (τ4.rI 39 i (mix (fun _ => -1) (τ4.I 39 i) ((4 : Nat) : Int))).I 36 i = τ1.I 36 i := by
    rw [rI_ne (by omega), v4I, v3I, v12]
  have v5b : (τ4.rI 39 i (mix (fun _ => -1) (τ4.I 39 i) ((4 : Nat) : Int))).I 44 i = τ2.I 44 i := by
    rw [rI_ne (by omega), v4I, v3I]
  have r5 := R_fillI (σ := τ4) (t := 39) (i := i) (v := -1) rfl (by decide) (by decide)
  refine V_aldn0 a_X6_empty_32 ?_
  refine V_fin a_X6_empty_33 f_X6_21 rfl hW ?_
  refine V_iconst a_X6_empty_36 ?_
  refine V_s2V a_X6_empty_37 c_X6_53 r5 ?_
  skip
  generalize τ4.rI 39 i (mix (fun _ => -1) (τ4.I 39 i) ((4 : Nat) : Int)) = τ5 at s5 v5 v5J v5a v5b
  have s15 := s14.trans s5
  have z : ∀ j, 0 ≤ j → j < 15 → B j = 0 := fun j j0 j1 => hB j j0 (by omega) (by omega)
  have rt : RelT τ5 i B := by
    unfold RelT
    rw [v5a, v5b, v5J, v4J, z 0 (by decide) (by decide), z 1 (by decide) (by decide), z 2 (by decide) (by decide), z 3 (by decide) (by decide), z 4 (by decide) (by decide), z 5 (by decide) (by decide), z 6 (by decide) (by decide), z 7 (by decide) (by decide), z 8 (by decide) (by decide), z 9 (by decide) (by decide), z 10 (by decide) (by decide), z 11 (by decide) (by decide), z 12 (by decide) (by decide), z 13 (by decide) (by decide), z 14 (by decide) (by decide)]
    refine ⟨⟨v1 0 (by decide) (by decide), v1 1 (by decide) (by decide), v1 2 (by decide) (by decide), v1 3 (by decide) (by decide), v1 4 (by decide) (by decide), v1 5 (by decide) (by decide), v1 6 (by decide) (by decide), v1 7 (by decide) (by decide), v1 8 (by decide) (by decide)⟩, fun s s0 s1 => by omega, fun s s0 s1 => by omega, fun l l0 l1 => by omega, fun b b0 b1 => by omega, fun l s l0 l1 s0 s1 => by rw [v2 _ (by omega) (by omega), hB _ (by omega) (by omega) (by omega)], ⟨fun l l0 l1 => by rw [v3 _ (by omega) (by omega), hB _ (by omega) (by omega) (by omega)], fun b b0 b1 => by rw [v3 _ (by omega) (by omega), hB _ (by omega) (by omega) (by omega)], v3 10 (by decide) (by decide), v3 11 (by decide) (by decide), v3 12 (by decide) (by decide)⟩, v4 0 (by decide) (by decide), v4 1 (by decide) (by decide), v4 2 (by decide) (by decide)⟩
  have rl : Rel τ5 i B := rt.full (fun k k0 k1 => by
    rw [z 7 (by decide) (by decide)] at k1
    omega)
  have sp : Shp τ5 i := by
    unfold Shp lid at hS ⊢
    rw [s15.2.1]
    exact hS
  exact V_ret a_X6_empty_40 (⟨rfl, s15, rl, sp, fun s s0 s1 => by rw [v5 s s0 s1, hB2 s s0 s1]⟩)
end Em
theorem sm_le1 {f : Int → Int} {n b : Int} (b0 : 0 ≤ b) (b1 : b < n) (h : ∀ j, 0 ≤ j → j < n → 0 ≤ f j) : f b ≤ sm f n := by
  have e := sm_if (f := f) (v := 0) b0 b1
  have h3 := sm_le (f := fun _ => (0 : Int)) (g := fun j => if j = b then 0 else f j) (k := n) (fun j j0 j1 => by
    show 0 ≤ if j = b then 0 else f j
    split
    · omega
    · exact h j j0 j1)
  have h4 := sm_bd (f := fun _ => 0) (k := n) (lo := 0) (hi := 0) (by omega) (fun _ _ _ => ⟨Int.le_refl 0, Int.le_refl 0⟩)
  omega
section Rr
variable {k : Int} {A : St}
abbrev F2 (k : Int) (x : Bk) : Bk := wh gk2 (bk2 k) mk x
abbrev F1 (k : Int) (x : Bk) : Bk := F2 k (wh (gk1 k) (bk1 k) mk x)
theorem per2 {K : Int} {x : Bk} (h : G2 k K A x) : x.c ≤ (F2 k x).c ∧ ∀ j, j < x.c → (F2 k x).r j = x.r j := by
  have z := (wh_inv (I := fun y : Bk => G2 k K A y ∧ x.c ≤ y.c ∧ ∀ j, j < x.c → y.r j = x.r j) (g := gk2) (f := bk2 k) (m := mk) (fun y hy hg => ⟨⟨(G2_s hy.1 hg).1, by
    show x.c ≤ y.c + 1
    have := hy.2.1
    omega, fun j hj => by
    show upI y.r y.c _ j = _
    have := hy.2.1
    rw [upI_ne (by omega)]
    exact hy.2.2 j hj⟩, (G2_s hy.1 hg).2⟩) (x := x) ⟨h, Int.le_refl _, fun _ _ => rfl⟩).1
  exact z.2
theorem per1 {K : Int} {x : Bk} (h : G1 k K A x) : x.c ≤ (F1 k x).c ∧ ∀ j, j < x.c → (F1 k x).r j = x.r j := by
  have w := wh_inv (I := fun y : Bk => G1 k K A y ∧ x.c ≤ y.c ∧ ∀ j, j < x.c → y.r j = x.r j) (g := gk1 k) (f := bk1 k) (m := mk) (fun y hy hg => ⟨⟨(G1_s hy.1 hg).1, by
    show x.c ≤ y.c + 1
    have := hy.2.1
    omega, fun j hj => by
    show upI y.r y.c _ j = _
    have := hy.2.1
    rw [upI_ne (by omega)]
    exact hy.2.2 j hj⟩, (G1_s hy.1 hg).2⟩) (x := x) ⟨h, Int.le_refl _, fun _ _ => rfl⟩
  have z := per2 (G1_G2 w.1.1 w.2)
  refine ⟨Int.le_trans w.1.2.1 z.1, fun j hj => ?_⟩
  have := w.1.2.1
  exact (z.2 j (by omega)).trans (w.1.2.2 j hj)
/-- nothing is left: nobody returns -/
theorem nr_0 {x : Bk} (h : GB k 0 A x) (hq : x.q = 0) : nrA x.A k = -1 := by
  have hnd := GB_nd h
  obtain ⟨hs, ho, hq0, hsum, hl⟩ := h
  have e1 : x.A 1 = A 1 := ho 1 (by have := hs.2.1; omega)
  obtain ⟨hn, hk, hsl⟩ := hs
  rw [e1] at hn
  have z : ∀ l, 0 ≤ l → l < 6 → x.A (83 + 23 * k + 5 + l) = 0 := fun l l0 l1 => by
    by_cases y : l < A 1
    · have w := sm_le1 (f := fun l => x.A (83 + 23 * k + 5 + l)) (n := A 1) (b := l) l0 y (fun j j0 j1 => (by have := hsl j j0 (by omega); show 0 ≤ x.A _; omega))
      have w : x.A (83 + 23 * k + 5 + l) ≤ sm (fun l => x.A (83 + 23 * k + 5 + l)) (A 1) := w
      have := hsl l l0 l1
      omega
    · exact (hl l l0 l1).2.2.2 (by omega)
  have en : nduA x.A k = -1 := by
    rcases hnd.2 with y | y
    · exact y
    · have a := hsl _ y.1.1 y.1.2
      have b := z _ y.1.1 y.1.2
      omega
  unfold nrA nrX
  rw [hnd.1, if_pos en]
  unfold gsX
  rcases ndX_ok (rc := fun l => x.A (83 + 23 * k + 5 + l)) (du := fun l => -x.A (83 + 23 * k + 5 + l)) (n := 6) (by decide) with y | y
  · exact y.1
  · have b := z _ y.1.1 y.1.2
    have c : 0 < x.A (83 + 23 * k + 5 + ndX (fun l => x.A (83 + 23 * k + 5 + l)) (fun l => -x.A (83 + 23 * k + 5 + l)) 6) := y.2.1
    omega
end Rr
section Re
variable {D : Int} {σ : Hp} {A : St} {i : Nat}
/-- who returns at an index -/
def rtV (A : St) (k n : Int) : Int := if n < (backA k A (quanA A k)).c then (backA k A (quanA A k)).r n else -1
theorem R_returner {k n : Int} (h : Cl D σ i A) (hi : i < 20) (hk : 0 ≤ k ∧ k < A 7) (hn0 : 0 ≤ n ∧ n < 12) : Cv m_X1_returner 2 0 0 [vR (some (1, 0)), vR (some (3, lid σ i k)), vI n] σ (some (vI (rtV A k n))) (fun τ => FX (jS 999) σ τ) := by
  have h' := h
  obtain ⟨hD, hW0, hR, hS, hI⟩ := h
  have hn := hI.n
  have hlid := hS.1 k hk.1 (by omega)
  have hqk := hI.quan hk.1 hk.2
  have hG := G1_init (r := fun _ => 0) hD hI hk.1 hk.2 (q := quanA A k) ⟨by omega, Int.le_refl _⟩
  rw [Int.sub_self] at hG
  have r0 := R_Lcopy (σ := σ) (j := 999) (j' := lid σ i k) hW0 (by omega)
  have st : ∀ (x : Bk) (R : Int), GB k 0 A x → 0 < x.q → x.c ≤ n → 0 ≤ nrA x.A k ∧ nrA x.A k < 6 → (x.c = n → R = nrA x.A k) → ∀ p, p = (if 0 < x.A (83 + 23 * k + 11 + nrA x.A k) then x.A (83 + 23 * k + 11 + nrA x.A k) else x.A (83 + 23 * k + 5 + nrA x.A k)) → ∀ (τ : Hp) (o4 : Option AV), FX (jS 999) σ τ → SlA τ 999 x.A k → (x.c < n → ∀ τ2 : Hp, FX (jS 999) σ τ2 → Slc τ2 999 (upI (fun l => x.A (83 + 23 * k + 5 + l)) (nrA x.A k) (x.A (83 + 23 * k + 5 + nrA x.A k) - p)) (hbR (fun l => x.A (83 + 23 * k + 11 + l)) (nrA x.A k) p) (hbD (fun l => x.A (83 + 23 * k + 11 + l)) (fun l => x.A (83 + 23 * k + 17 + l)) (nrA x.A k) p) → ∀ o4 : Option AV, V m_X1_returner 2 0 0 10 [some (vR (some (1, 0))), some (vR (some (3, lid σ i k))), some (vI n), some (vI (x.c + 1)), o4] [] τ2 (fun r τ => r = .inl (some (vI R)) ∧ FX (jS 999) σ τ)) → V m_X1_returner 2 0 0 10 [some (vR (some (1, 0))), some (vR (some (3, lid σ i k))), some (vI n), some (vI x.c), o4] [] τ (fun r τ => r = .inl (some (vI R)) ∧ FX (jS 999) σ τ) := by
    intro x R hx hq0 hcn hb hR2 p hpp τ o4 f hs kk
    have hW := f.wf hW0
    have hc0 := hx.2.2.1
    have sl := hx.1.2.2
    have slb := sl _ hb.1 hb.2
    have rn : Rt m_X3_nextReturner 1 0 0 [vR (some (3, 999))] τ (some (vI (nrA x.A k))) τ := R_LnextReturner (σ := τ) (j := 999) hW hs (fun l l0 l1 => by
      have := sl l l0 l1
      show iR (x.A _) ∧ iR (x.A _) ∧ iR (x.A _)
      omega)
    by_cases c : x.c = n
    · have e := hR2 c
      refine V_ildn3 a_X1_returner_10 ?_
      refine V_ildn2 a_X1_returner_11 ?_
      refine V_icmp_ge_t a_X1_returner_12 (by omega) (by omega) ?_
      refine V_aldn0 a_X1_returner_56 ?_
      refine V_fin a_X1_returner_57 f_X1_25 rfl hW ?_
      refine V_v0R a_X1_returner_60 c_X1_91 rn ?_
      exact V_iret a_X1_returner_63 (⟨by rw [e], f⟩)
    · have ra := R_LreturnsAtOnce (σ := τ) (j := 999) (l := nrA x.A k) hW hs hb (by
        show iR (x.A _)
        omega)
      have rh := R_handBack (σ := τ) (j := 999) (l := nrA x.A k) (p := p) hW hs hb (by
        show 0 ≤ x.A _ ∧ x.A _ ≤ 1000000
        omega) (by
        rw [hpp]
        split <;> omega)
      rw [show (if 0 < (fun l => x.A (83 + 23 * k + 11 + l)) (nrA x.A k) then (fun l => x.A (83 + 23 * k + 11 + l)) (nrA x.A k) else (fun l => x.A (83 + 23 * k + 5 + l)) (nrA x.A k)) = p from hpp.symm] at ra
      refine V_ildn3 a_X1_returner_10 ?_
      refine V_ildn2 a_X1_returner_11 ?_
      refine V_icmp_ge_f a_X1_returner_12 (by omega) (by omega) ?_
      refine V_aldn0 a_X1_returner_15 ?_
      refine V_fin a_X1_returner_16 f_X1_25 rfl hW ?_
      refine V_v0R a_X1_returner_19 c_X1_91 rn ?_
      refine V_ist4 a_X1_returner_22 ?_
      refine V_ild4 a_X1_returner_24 ?_
      refine V_iconst a_X1_returner_26 ?_
      refine V_icmp_ne_t a_X1_returner_27 (by omega) (by omega) ?_
      refine V_aldn0 a_X1_returner_32 ?_
      refine V_fin a_X1_returner_33 f_X1_25 rfl hW ?_
      refine V_ild4 a_X1_returner_36 ?_
      refine V_aldn0 a_X1_returner_38 ?_
      refine V_fin a_X1_returner_39 f_X1_25 rfl hW ?_
      refine V_ild4 a_X1_returner_42 ?_
      refine V_v1R a_X1_returner_44 c_X1_94 ra ?_
      refine V_v2PV a_X1_returner_47 c_X1_103 rh (fun τ2 hτ2 => ?_)
      refine V_inc3 a_X1_returner_50 ?_
      refine V_goto a_X1_returner_53 ?_
      exact kk (by omega) τ2 (f.trans (hτ2.1.sub (fun t m z => ⟨Or.inr z.1, z.2⟩))) hτ2.2 _
  have s0 : ∀ (x : Bk) (R : Int), GB k 0 A x → x.q = 0 → x.c ≤ n → R = -1 → ∀ (τ : Hp) (o4 : Option AV), FX (jS 999) σ τ → SlA τ 999 x.A k → V m_X1_returner 2 0 0 10 [some (vR (some (1, 0))), some (vR (some (3, lid σ i k))), some (vI n), some (vI x.c), o4] [] τ (fun r τ => r = .inl (some (vI R)) ∧ FX (jS 999) σ τ) := by
    intro x R hx hq0 hcn hR2 τ o4 f hs
    have hW := f.wf hW0
    have hc0 := hx.2.2.1
    have sl := hx.1.2.2
    have e0 := nr_0 hx hq0
    have rn : Rt m_X3_nextReturner 1 0 0 [vR (some (3, 999))] τ (some (vI (nrA x.A k))) τ := R_LnextReturner (σ := τ) (j := 999) hW hs (fun l l0 l1 => by
      have := sl l l0 l1
      show iR (x.A _) ∧ iR (x.A _) ∧ iR (x.A _)
      omega)
    rw [e0] at rn
    by_cases c : x.c = n
    · refine V_ildn3 a_X1_returner_10 ?_
      refine V_ildn2 a_X1_returner_11 ?_
      refine V_icmp_ge_t a_X1_returner_12 (by omega) (by omega) ?_
      refine V_aldn0 a_X1_returner_56 ?_
      refine V_fin a_X1_returner_57 f_X1_25 rfl hW ?_
      refine V_v0R a_X1_returner_60 c_X1_91 rn ?_
      exact V_iret a_X1_returner_63 (⟨by rw [hR2], f⟩)
    · refine V_ildn3 a_X1_returner_10 ?_
      refine V_ildn2 a_X1_returner_11 ?_
      refine V_icmp_ge_f a_X1_returner_12 (by omega) (by omega) ?_
      refine V_aldn0 a_X1_returner_15 ?_
      refine V_fin a_X1_returner_16 f_X1_25 rfl hW ?_
      refine V_v0R a_X1_returner_19 c_X1_91 rn ?_
      refine V_ist4 a_X1_returner_22 ?_
      refine V_ild4 a_X1_returner_24 ?_
      refine V_iconst a_X1_returner_26 ?_
      refine V_icmp_ne_f a_X1_returner_27 (by omega) (by omega) ?_
      refine V_iconst a_X1_returner_30 ?_
      exact V_iret a_X1_returner_31 (⟨by rw [hR2], f⟩)
  have leq : ∀ x : Bk, GB k 0 A x → ∀ l, 0 ≤ l → l < 6 → x.A (83 + 23 * k + 5 + l) ≤ x.q := fun x hx l l0 l1 => by
    obtain ⟨hs, ho, hq0, hsum, hl⟩ := hx
    by_cases y : l < A 1
    · have w := sm_le1 (f := fun l => x.A (83 + 23 * k + 5 + l)) (n := A 1) (b := l) l0 y (fun j j0 j1 => (by have := hs.2.2 j j0 (by omega); show 0 ≤ x.A _; omega))
      have w : x.A (83 + 23 * k + 5 + l) ≤ sm (fun l => x.A (83 + 23 * k + 5 + l)) (A 1) := w
      omega
    · have := (hl l l0 l1).2.2.2 (by omega)
      omega
  have p2 : ∀ x : Bk, G2 k 0 A x → ∀ (τ : Hp) (o4 : Option AV), x.c ≤ n → FX (jS 999) σ τ → SlA τ 999 x.A k → V m_X1_returner 2 0 0 10 [some (vR (some (1, 0))), some (vR (some (3, lid σ i k))), some (vI n), some (vI x.c), o4] [] τ (fun r τ => r = .inl (some (vI (if n < (F2 k x).c then (F2 k x).r n else -1))) ∧ FX (jS 999) σ τ) := fun x hx => by
    refine loopW (I := G2 k 0 A) (P := fun x => ∀ (τ : Hp) (o4 : Option AV), x.c ≤ n → FX (jS 999) σ τ → SlA τ 999 x.A k → V m_X1_returner 2 0 0 10 [some (vR (some (1, 0))), some (vR (some (3, lid σ i k))), some (vI n), some (vI x.c), o4] [] τ (fun r τ => r = .inl (some (vI (if n < (F2 k x).c then (F2 k x).r n else -1))) ∧ FX (jS 999) σ τ)) (fun x hx hg => G2_s hx hg) (E := F2 k x) ?_ ?_ x hx rfl
    · intro hE hg τ o4 hcn f hs
      have e : F2 k (F2 k x) = F2 k x := wh_f hg
      rw [e]
      generalize F2 k x = y at *
      have h1 := hE.1.2.2.1
      have h2 : ¬ 0 < y.q := fun z => hg (decide_eq_true z)
      exact s0 y _ hE.1 (by omega) hcn (if_neg (by omega)) τ o4 f hs
    · intro y hy hg ih τ o4 hcn f hs
      have e : F2 k y = F2 k (bk2 k y) := wh_t (I := G2 k 0 A) (fun x hx hg => G2_s hx hg) hy hg
      have pr := per2 (G2_s hy hg).1
      rw [e]
      have hg := of_decide_eq_true hg
      obtain ⟨e1, e2, e3, e4⟩ := nr_2 hy hg
      have hrc := (hy.2.2 hg).2 _ e2.1 e2.2
      have hdu := (hy.1.2.2.2.2 _ e2.1 e2.2).1 hrc
      have lq := leq y hy.1 _ e2.1 e2.2
      have emin : min y.q (y.A (83 + 23 * k + 5 + gslA y.A k)) = y.A (83 + 23 * k + 5 + gslA y.A k) := by omega
      refine st y _ hy.1 hg hcn (by rw [e1]; exact e2) (fun c => ?_) (y.A (83 + 23 * k + 5 + gslA y.A k)) (by rw [e1, if_neg (by omega)]) τ o4 f hs (fun hc2 τ2 f2 h2 o4 => ?_)
      · have a1 : y.c + 1 ≤ (F2 k (bk2 k y)).c := pr.1
        have a2 : (F2 k (bk2 k y)).r n = upI y.r y.c (gslA y.A k) n := pr.2 n (by show n < y.c + 1; omega)
        rw [if_pos (by omega), a2, ← c, upI_eq, e1]
      · rw [e1] at h2
        refine ih τ2 o4 (by show y.c + 1 ≤ n; omega) f2 ?_
        show SlA τ2 999 (upI y.A (83 + 23 * k + 5 + gslA y.A k) (y.A (83 + 23 * k + 5 + gslA y.A k) - min y.q (y.A (83 + 23 * k + 5 + gslA y.A k)))) k
        rw [emin]
        exact hb_2 e2 (by omega) hrc hdu h2
  have p1 : ∀ x : Bk, G1 k 0 A x → ∀ (τ : Hp) (o4 : Option AV), x.c ≤ n → FX (jS 999) σ τ → SlA τ 999 x.A k → V m_X1_returner 2 0 0 10 [some (vR (some (1, 0))), some (vR (some (3, lid σ i k))), some (vI n), some (vI x.c), o4] [] τ (fun r τ => r = .inl (some (vI (if n < (F1 k x).c then (F1 k x).r n else -1))) ∧ FX (jS 999) σ τ) := fun x hx => by
    refine loopW (I := G1 k 0 A) (P := fun x => ∀ (τ : Hp) (o4 : Option AV), x.c ≤ n → FX (jS 999) σ τ → SlA τ 999 x.A k → V m_X1_returner 2 0 0 10 [some (vR (some (1, 0))), some (vR (some (3, lid σ i k))), some (vI n), some (vI x.c), o4] [] τ (fun r τ => r = .inl (some (vI (if n < (F1 k x).c then (F1 k x).r n else -1))) ∧ FX (jS 999) σ τ)) (fun x hx hg => G1_s hx hg) (E := wh (gk1 k) (bk1 k) mk x) ?_ ?_ x hx rfl
    · intro hE hg τ o4 hcn f hs
      have e : F1 k (wh (gk1 k) (bk1 k) mk x) = F2 k (wh (gk1 k) (bk1 k) mk x) := by
        unfold F1
        rw [wh_f hg]
      rw [e]
      exact p2 _ (G1_G2 hE hg) τ o4 hcn f hs
    · intro y hy hg ih τ o4 hcn f hs
      have e : F1 k y = F1 k (bk1 k y) := by
        unfold F1
        rw [wh_t (I := G1 k 0 A) (fun x hx hg => G1_s hx hg) hy hg]
      have pr := per1 (G1_s hy hg).1
      rw [e]
      have hg := of_decide_eq_true hg
      have e1 := nr_1 hy.1 hg.1
      have e2 : (0 ≤ nduA y.A k ∧ nduA y.A k < 6) ∧ 0 < y.A (83 + 23 * k + 11 + nduA y.A k) := by
        rcases (GB_nd hy.1).2 with z | z
        · exact absurd z hg.1
        · exact z
      have lq := leq y hy.1 _ e2.1.1 e2.1.2
      have sl := hy.1.1.2.2 _ e2.1.1 e2.1.2
      have emin : min y.q (y.A (83 + 23 * k + 11 + nduA y.A k)) = y.A (83 + 23 * k + 11 + nduA y.A k) := by omega
      refine st y _ hy.1 hg.2 hcn (by rw [e1]; exact e2.1) (fun c => ?_) (y.A (83 + 23 * k + 11 + nduA y.A k)) (by rw [e1, if_pos e2.2]) τ o4 f hs (fun hc2 τ2 f2 h2 o4 => ?_)
      · have a1 : y.c + 1 ≤ (F1 k (bk1 k y)).c := pr.1
        have a2 : (F1 k (bk1 k y)).r n = upI y.r y.c (nduA y.A k) n := pr.2 n (by show n < y.c + 1; omega)
        rw [if_pos (by omega), a2, ← c, upI_eq, e1]
      · rw [e1] at h2
        refine ih τ2 o4 (by show y.c + 1 ≤ n; omega) f2 ?_
        show SlA τ2 999 (cbA y.A k (nduA y.A k) (min y.q (y.A (83 + 23 * k + 11 + nduA y.A k)))) k
        rw [emin]
        exact hb_1 e2.1 (Int.le_refl _) h2
  have gs := (hR.lns k hk.1 hk.2).2.2.2.2.2
  have hW := hW0
  show V _ 2 0 0 0 [some (vR (some (1, 0))), some (vR (some (3, lid σ i k))), some (vI n), none, none] [] σ _
  refine V_aldn0 a_X1_returner_0 ?_
  refine V_fin a_X1_returner_1 f_X1_25 rfl hW ?_
  refine V_aldn1 a_X1_returner_4 ?_
  refine V_v1PV a_X1_returner_5 c_X1_109 r0 (fun τ hτ => ?_)
  skip
  obtain ⟨f, v⟩ := hτ
  have k2 := p1 ⟨A, quanA A k, 0, fun _ => 0⟩ hG τ none hn0.1 f (fun l l0 l1 => by
    have y := v.2 l l0 l1
    have w := gs l l0 l1
    exact ⟨y.1.trans w.1, y.2.1.trans w.2.1, y.2.2.trans w.2.2⟩)
  refine V_iconst a_X1_returner_8 ?_
  refine V_istn3 a_X1_returner_9 ?_
  exact k2
end Re

