/-! The law's first steps: a new class, a new model, the two rows. -/
section Fs
variable {κ σ τ ρ : Hp} {k : Nat}
theorem oS.le {t n : Nat} (h : oS k t n) : t ≤ 47 ∧ t ≠ 10 ∧ t ≠ 11 := by
  unfold oS at h
  rcases h with h | h | h | h | h | h | h | h | h
  · have := h.2; omega
  · have := h.2; omega
  · have := h.2; omega
  · have := h.2; omega
  · have := h.2; omega
  · have := h.2; omega
  · have := h.2; omega
  · have := h.2; unfold nwS pS at this; omega
  · have := h.2; unfold nwS pS at this; omega
theorem oS.hist {t n x : Nat} (z : nwS (2 + x) t n) (hx : x < 10) : ¬ ((t = 10 ∧ n = 0) ∨ oS k t n) := fun y => by
  unfold nwS pS at z
  rcases y with y | y
  · omega
  · unfold oS at y
    rcases y with h | h | h | h | h | h | h | h | h
    · have := h.2; omega
    · have := h.2; omega
    · have := h.2; omega
    · have := h.2; omega
    · have := h.2; omega
    · have := h.2; omega
    · have := h.2; omega
    · have := h.2; unfold nwS pS at this; omega
    · have := h.2; unfold nwS pS at this; omega
theorem fin_10 {j : Nat} {r : Nat × Nat} (h : fin 10 j 0 = some r) : j < 9 := by
  match j, h with
  | 0, _ => decide
  | 1, _ => decide
  | 2, _ => decide
  | 3, _ => decide
  | 4, _ => decide
  | 5, _ => decide
  | 6, _ => decide
  | 7, _ => decide
  | 8, _ => decide
  | j + 9, h => cases h
theorem layZ {j : Int} (h : ¬ (23 ≤ j ∧ j < 27)) : layB (fun _ => 0) j = 0 := by
  unfold layB
  rw [mixO_out (by omega)]
  unfold mix
  split <;> rfl
def s0L : Lsv := (layB (fun _ => 0), fun _ => 0, 0, 0, fun _ => layB (fun _ => 0), 0, -1, [])
theorem Bz.civ (h : Bz 9 κ) (f : Nw mlS κ τ) (hW : WF τ) : CIv 0 τ s0L := by
  have z : ∀ m, m ≤ 9 → zF m τ := fun m hm => (h.2.2.2 m hm).nw f (fun t n y y2 => by
    have q := y.le
    unfold mlS at y2
    omega)
  have z1 : τ.I 9 0 0 = 0 := z 1 (by decide)
  have z2 : τ.I 7 0 0 = 0 ∧ τ.I 7 0 1 = -1 := z 2 (by decide)
  have z6 : τ.I 2 0 0 = 0 ∧ τ.I 2 0 1 = 0 ∧ ∀ x, τ.P 34 0 x = none := z 6 (by decide)
  have z7 : τ.I 8 0 0 = 0 := z 7 (by decide)
  have z8 : Shp τ 0 ∧ (∀ t k, 36 ≤ t → t ≤ 44 → τ.I t 0 k = 0) ∧ ∀ t k, 45 ≤ t → t ≤ 46 → τ.J t 0 k = 0 := z 8 (by decide)
  have z9 : Shp τ 1 := z 9 (by decide)
  have zi : ∀ (t : Nat) (k j : Int), 36 ≤ t → t ≤ 44 → ¬ (23 ≤ j ∧ j < 27) → τ.I t 0 k = layB (fun _ => 0) j := fun t k j t0 t1 hj => (z8.2.1 t k t0 t1).trans (layZ hj).symm
  have zj : ∀ (t : Nat) (k j : Int), 45 ≤ t → t ≤ 46 → ¬ (23 ≤ j ∧ j < 27) → τ.J t 0 k = layB (fun _ => 0) j := fun t k j t0 t1 hj => (z8.2.2 t k t0 t1).trans (layZ hj).symm
  have a0 : layB (fun _ => 0) 0 = 0 := layZ (by decide)
  have a1 : layB (fun _ => 0) 1 = 0 := layZ (by decide)
  have a2 : layB (fun _ => 0) 2 = 0 := layZ (by decide)
  have a7 : layB (fun _ => 0) 7 = 0 := layZ (by decide)
  have hR : Rel τ 0 (layB (fun _ => 0)) := by
    refine ⟨⟨zi 36 0 0 (by decide) (by decide) (by decide), zi 36 1 1 (by decide) (by decide) (by decide), zi 36 2 2 (by decide) (by decide) (by decide), zi 36 3 7 (by decide) (by decide) (by decide), zi 36 4 8 (by decide) (by decide) (by decide), zi 36 5 6 (by decide) (by decide) (by decide), zi 36 6 5 (by decide) (by decide) (by decide), zi 36 7 3 (by decide) (by decide) (by decide), zi 36 8 4 (by decide) (by decide) (by decide)⟩, fun s h0 h1 => ?_, fun s h0 h1 => ?_, fun l h0 h1 => ?_, fun b h0 h1 => ?_, fun l s h0 h1 h2 h3 => zi 44 _ _ (by decide) (by decide) (by omega), ⟨fun l h0 h1 => zj 45 _ _ (by decide) (by decide) (by omega), fun b h0 h1 => zj 45 _ _ (by decide) (by decide) (by omega), zj 45 _ _ (by decide) (by decide) (by decide), zj 45 _ _ (by decide) (by decide) (by decide), zj 45 _ _ (by decide) (by decide) (by decide)⟩, ⟨zj 46 _ _ (by decide) (by decide) (by decide), zj 46 _ _ (by decide) (by decide) (by decide), zj 46 _ _ (by decide) (by decide) (by decide)⟩, fun k h0 h1 => ?_⟩
    · rw [a0] at h1
      omega
    · rw [a0] at h1
      omega
    · rw [a1] at h1
      omega
    · rw [a2] at h1
      omega
    · rw [a7] at h1
      omega
  refine ⟨⟨by decide, hW, hR, z8.1, lay_fr.1⟩, z9, ⟨hW, fun k k0 k1 => ?_, z1, by decide, by decide⟩, ⟨0, ⟨z6.1, z6.2.1⟩, by decide, by decide, fun x x0 x1 => Or.inl ⟨z6.2.2 x, fun t n y => ?_⟩, fun k k0 k1 => ?_⟩, z2, ⟨z7, by decide, fun j j0 j1 => ?_⟩⟩
  · have k1 : k < 0 := k1
    omega
  · have hx : x.toNat < 10 := by omega
    rw [f.al (by unfold nwS pS at y; unfold mlS; omega)]
    exact h.no (oS.hist y hx)
  · have k1 : k < 0 := k1
    omega
  · have j1 : j < 0 := j1
    omega
theorem miv_0 (hW : WF τ) (h50 : τ.J 50 0 = layB (fun _ => 0)) (h11 : τ.I 11 0 = (fun k => if k = 13 then -1 else 0)) (h55 : τ.I 55 0 = fun _ => 0) : MIv 0 τ s0L := by
  refine ⟨⟨by decide, hW, h50, lay_fr.1⟩, ⟨?_, by decide, fun i k i0 i1 => ?_⟩, ⟨fun k => ?_, ?_⟩, ⟨?_, ?_⟩, ⟨?_, by decide, fun i i0 i1 => ?_⟩⟩
  · rw [h11]
    rfl
  · have i1 : i < 0 := i1
    omega
  · rw [h55]
    rfl
  · rw [h11]
    rfl
  · rw [h11]
    rfl
  · rw [h11]
    rfl
  · rw [h11]
    rfl
  · have i1 : i < 0 := i1
    omega
theorem WF.newA {t i : Nat} (hW : WF σ) (ht : ∀ k r, fin t k i = some r → False) : WF (σ.new t i) := fun t' k i' r hr hal => by
  by_cases q : t' = t ∧ i' = i
  · obtain ⟨q1, q2⟩ := q
    subst q1
    subst q2
    exact (ht k r hr).elim
  · rw [F_new, if_neg q]
    rw [al_new, if_neg q] at hal
    exact hW t' k i' r hr hal
theorem law_first (ha : ∀ t n, σ.al t n = false) (hs : σ.sl ≤ 3072) (hr : ∀ k, iR (σ.I 96 0 k)) : V m_L_law 17 31395 226403 0 [some (vR (some (96, 0))), none, none, none, none, none, none, none, none] [] σ (fun r _ => r = .inl (some (vI 1))) := by
  refine V_newO a_L_law_0 (t := 10) (i := 0) (by decide) kl_L_8 ins_10 ini_10 (ha 10 0) ?_
  first | refine V_dupR a_L_law_3 ?_ | refine V_dupI a_L_law_3 ?_
  refine V_i0PV a_L_law_4 c_L_173 (R_X10init (fun t n e => by
  by_cases q : t = 10 ∧ n = 0
  · exact q
  · rw [al_new, if_neg q, ha] at e
    cases e)) (fun τ hτ => ?_)
  obtain ⟨n1, hb⟩ := hτ
  have no : ∀ t n, ¬ (t ≤ 47) → τ.al t n = false := fun t n z => hb.no (fun y => by
    rcases y with y | y
    · omega
    · exact z y.le.1)
  have no11 : ∀ n, τ.al 11 n = false := fun n => hb.no (fun y => by
    rcases y with y | y
    · omega
    · exact y.le.2.2 rfl)
  have r11 := R_X11init (σ := τ.new 11 0) (fun t n t0 t1 => by
    rw [al_new, if_neg (by omega)]
    exact no t n (by omega)) (fun t j n r ht hr2 e => by
    rw [al_new, if_neg (fun y => ht y.1)] at e
    rw [F_new, if_neg (fun y => ht y.1)]
    by_cases q : t = 10
    · subst q
      have e0 : n = 0 := by
        rcases hb.1 10 n e with y | y
        · exact y.2
        · exact absurd rfl y.le.2.1
      subst e0
      exact hb.2.2.1 j r (fin_10 hr2) hr2
    · exact hb.2.1 t j n r q hr2 e) (fun n e => by
    by_cases q : n = 0
    · exact q
    · rw [al_new, if_neg (fun y => q y.2), no11] at e
      cases e) (by
    funext k
    rw [I_new, if_pos ⟨rfl, rfl⟩])
  refine V_astn1 a_L_law_7 ?_
  refine V_newO a_L_law_8 (t := 11) (i := 0) (by decide) kl_L_174 ins_11 ini_11 (no11 0) ?_
  first | refine V_dupR a_L_law_11 ?_ | refine V_dupI a_L_law_11 ?_
  refine V_i0PV a_L_law_12 c_L_176 r11 (fun ρ hρ => ?_)
  obtain ⟨n2, hW, h50, h11, h55⟩ := hρ
  have n3 : Nw mlS τ ρ := (Nw.new (by unfold mlS; omega)).trans (n2.sub (fun t n z => by unfold mdS at z; unfold mlS; omega))
  have hC := hb.civ n3 hW
  have hM := miv_0 hW h50 h11 h55
  have a70 : ρ.al 70 0 = false := by
    rw [n3.al (by unfold mlS; omega)]
    exact no 70 0 (by decide)
  have a71 : (ρ.new 70 0).al 71 0 = false := by
    rw [al_new, if_neg (by decide), n3.al (by unfold mlS; omega)]
    exact no 71 0 (by decide)
  have n4 : Nw (fun t _ => t = 70 ∨ t = 71) ρ ((ρ.new 70 0).new 71 0) := (Nw.new (Or.inl rfl)).trans (Nw.new (Or.inr rfl))
  have hW2 : WF ((ρ.new 70 0).new 71 0) := (hW.newA (fun k r hr => by cases hr)).newA (fun k r hr => by cases hr)
  have hC2 := hC.out n4 hW2 (fun t n z => by unfold ocS; omega)
  have hM2 := hM.out n4 hW2 (fun t n z => by unfold mlS; omega)
  have e1 : ((ρ.new 70 0).new 71 0).sl = σ.sl := (n4.1.trans n3.1).trans n1.1
  have e2 : ((ρ.new 70 0).new 71 0).I 96 0 = σ.I 96 0 := ((n4.I (by decide)).trans (n3.I n96_ml)).trans ((n1.I (by unfold ocS; omega)).trans (by funext k; rw [I_new, if_neg (by decide)]))
  refine V_astn2 a_L_law_15 ?_
  refine V_iconst a_L_law_16 ?_
  refine V_newA a_L_law_17 (t := 70) (i := 0) rfl rfl (by decide) rfl arc_long a70 ?_
  refine V_astn3 a_L_law_19 ?_
  refine V_iconst a_L_law_20 ?_
  refine V_newA a_L_law_21 (t := 71) (i := 0) rfl rfl (by decide) rfl arc_double a71 ?_
  refine V_ast4 a_L_law_23 ?_
  refine V_iconst a_L_law_25 ?_
  refine V_ist5 a_L_law_26 ?_
  exact law_loop 512 _ 0 0 s0L hC2 hM2 (by rw [e1]; omega) (by rw [e1]; exact hs) (fun k => by rw [e2]; exact hr k) (by decide)
end Fs

