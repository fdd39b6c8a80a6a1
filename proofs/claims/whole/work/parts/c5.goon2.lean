section Ag
variable {D : Int} {σ : Hp} {A B : St} {i : Nat} {k l n v : Int}
def dlN (A : St) (k l n j : Int) : Int := if j = 10 then 0 else dlt A k l n j
def bV (A : St) (k l n : Int) : Int := if bCd A k l n then A (83 + 23 * k + 11 + l) else 0
theorem pD_sta (hb : 0 ≤ A (83 + 23 * k + 1) ∧ A (83 + 23 * k + 1) < 4) (hl : 0 ≤ l ∧ l < 6) : Sta B (adD B (pD A k l v n)) ∧ ∀ j, 83 ≤ j → adD B (pD A k l v n) j = B j := by
  have e : ∀ j, ¬ (9 ≤ j ∧ j < 15) → ¬ (73 ≤ j ∧ j < 83) → adD B (pD A k l v n) j = B j := fun j c1 c2 => by
    unfold adD
    rw [pD_0 (by omega) (by omega) (by omega) (by omega), Int.add_zero]
  exact ⟨⟨fun j a b c d => e j d (by omega), fun k c a b d => e _ (by omega) (by omega)⟩, fun j hj => e j (by omega) (by omega)⟩
theorem bN_sta (hk : 0 ≤ k) (hb : 0 ≤ A (83 + 23 * k + 1) ∧ A (83 + 23 * k + 1) < 4) (hl : 0 ≤ l ∧ l < 6) : Sta B (adD B (bN A k l)) ∧ adD B (bN A k l) (83 + 23 * k + 5 + l) = B (83 + 23 * k + 5 + l) - A (83 + 23 * k + 11 + l) := by
  have e : ∀ j, ¬ (9 ≤ j ∧ j < 15) → ¬ (73 ≤ j ∧ j < 83) → j ≠ 83 + 23 * k + 5 + l → j ≠ 83 + 23 * k + 11 + l → j ≠ 83 + 23 * k + 17 + l → adD B (bN A k l) j = B j := fun j c1 c2 c3 c4 c5 => by
    unfold adD bN
    rw [if_neg (by omega), bD_0 (by omega) (by omega) (by omega) c3 c4 c5, Int.add_zero]
  refine ⟨⟨fun j a b c d => e j d (by omega) (by omega) (by omega) (by omega), fun k c a b d => e _ (by omega) (by omega) (by omega) (by omega) (by omega)⟩, ?_⟩
  unfold adD bN
  rw [if_neg (by omega), (bD_c hk hb hl).1]
  omega
theorem dl_f (z : ¬ bCd A k l n) (hb : 0 ≤ A (83 + 23 * k + 1) ∧ A (83 + 23 * k + 1) < 4) (hl : 0 ≤ l ∧ l < 6) : adD B (pD A k l (A (83 + 23 * k + 5 + l)) n) = adD B (dlN A k l n) := by
  funext j
  unfold adD dlN dlt
  rw [if_neg z]
  by_cases c : j = 10
  · rw [if_pos c, c, pD_0 (by omega) (by omega) (by omega) (by omega)]
  · rw [if_neg c]
theorem dl_t (z : bCd A k l n) (hb : 0 ≤ A (83 + 23 * k + 1) ∧ A (83 + 23 * k + 1) < 4) (hl : 0 ≤ l ∧ l < 6) : adD (adD (adD B (pD A k l (A (83 + 23 * k + 5 + l)) (A (83 + 23 * k + 17 + l) + 1 - A 6))) (bN A k l)) (pD A k l (A (83 + 23 * k + 5 + l) - A (83 + 23 * k + 11 + l)) (n - (A (83 + 23 * k + 17 + l) + 1 - A 6))) = adD B (dlN A k l n) := by
  funext j
  unfold adD dlN dlt bN
  rw [if_pos z]
  by_cases c : j = 10
  · rw [if_pos c, if_pos c, c, pD_0 (by omega) (by omega) (by omega) (by omega), pD_0 (by omega) (by omega) (by omega) (by omega)]
    omega
  · rw [if_neg c, if_neg c]
    omega
theorem R_ageSlice (hD : D ≤ 20000000) (hI : Inv D A) (hW : WF σ) (hR : Rel σ i B) (hS : Shp σ i) (st : Sta A B) (h6 : B 6 = A 6) (hk : 0 ≤ k ∧ k < A 7) (hl : 0 ≤ l ∧ l < A 1) (b1 : B (83 + 23 * k + 5 + l) = A (83 + 23 * k + 5 + l)) (b2 : B (83 + 23 * k + 11 + l) = A (83 + 23 * k + 11 + l)) (b3 : B (83 + 23 * k + 17 + l) = A (83 + 23 * k + 17 + l)) (hd : 0 ≤ n ∧ n ≤ 400) : Cv m_X1_ageSlice 3 0 0 [vR (some (1, 0)), vR (some (6, i)), vR (some (3, lid σ i k)), vI l, vI n] σ (some (vI (bV A k l n))) (fun τ => Fp i σ τ ∧ τ.P = σ.P ∧ Rel τ i (adD B (dlN A k l n))) := by
  have hn := hI.n
  obtain ⟨-, q1, q2, q3, -, q5⟩ := hI.loan hk.1 hk.2
  have hsl := q5 l hl.1 (by omega)
  have z7 := st.1 7 (by decide) (by decide) (by decide) (by decide)
  have lns := (hR.lns k hk.1 (by omega)).2.2.2.2.2 l hl.1 (by omega)
  have g31 := lns.2.1
  rw [b2] at g31
  have g32 := lns.2.2
  rw [b3] at g32
  have n5 : σ.I 36 i 5 = A 6 := hR.1.2.2.2.2.2.1.trans h6
  have hb : 0 ≤ A (83 + 23 * k + 1) ∧ A (83 + 23 * k + 1) < 4 := by omega
  show V _ 3 0 0 0 [some (vR (some (1, 0))), some (vR (some (6, i))), some (vR (some (3, lid σ i k))), some (vI l), some (vI n), none, none, none] [] σ _
  by_cases z : bCd A k l n
  · have zv : bV A k l n = A (83 + 23 * k + 11 + l) := if_pos z
    rw [zv]
    have zl := z.1
    have zr := z.2
    have hdu := hsl.2.2.1 zl
    have rc := R_chargeFees (n := A (83 + 23 * k + 17 + l) + 1 - A 6) hI hW hR st hk hl b1 (by omega) (by omega)
    refine V_ild4 a_X1_ageSlice_0 ?_
    refine V_ist5 a_X1_ageSlice_2 ?_
    refine V_iconst a_X1_ageSlice_4 ?_
    refine V_ist6 a_X1_ageSlice_5 ?_
    refine V_aldn2 a_X1_ageSlice_7 ?_
    refine V_fin a_X1_ageSlice_8 f_X1_130 rfl hW ?_
    refine V_ildn3 a_X1_ageSlice_11 ?_
    refine V_ialdE a_X1_ageSlice_12 rfl (by omega) g31 ?_
    refine V_if_le_f a_X1_ageSlice_13 (by omega) (by omega) ?_
    refine V_aldn2 a_X1_ageSlice_16 ?_
    refine V_fin a_X1_ageSlice_17 f_X1_147 rfl hW ?_
    refine V_ildn3 a_X1_ageSlice_20 ?_
    refine V_ialdE a_X1_ageSlice_21 rfl (by omega) g32 ?_
    refine V_iconst a_X1_ageSlice_22 ?_
    refine V_iadd a_X1_ageSlice_23 ?_
    refine V_aldn1 a_X1_ageSlice_24 ?_
    refine V_fin a_X1_ageSlice_25 f_X1_43 rfl hW ?_
    refine V_iconst a_X1_ageSlice_28 ?_
    refine V_ialdE a_X1_ageSlice_29 rfl (by omega) n5 ?_
    refine V_isub a_X1_ageSlice_30 ?_
    refine V_ist7 a_X1_ageSlice_31 ?_
    refine V_ild7 a_X1_ageSlice_33 ?_
    refine V_ild4 a_X1_ageSlice_35 ?_
    refine V_icmp_gt_f a_X1_ageSlice_37 (by omega) (by omega) ?_
    refine V_ild7 a_X1_ageSlice_40 ?_
    refine V_ist5 a_X1_ageSlice_42 ?_
    refine V_aldn2 a_X1_ageSlice_44 ?_
    refine V_fin a_X1_ageSlice_45 f_X1_130 rfl hW ?_
    refine V_ildn3 a_X1_ageSlice_48 ?_
    refine V_ialdE a_X1_ageSlice_49 rfl (by omega) g31 ?_
    refine V_ist6 a_X1_ageSlice_50 ?_
    refine V_aldn0 a_X1_ageSlice_52 ?_
    refine V_aldn1 a_X1_ageSlice_53 ?_
    refine V_aldn2 a_X1_ageSlice_54 ?_
    refine V_ildn3 a_X1_ageSlice_55 ?_
    refine V_ild5 a_X1_ageSlice_56 ?_
    refine V_v4PV a_X1_ageSlice_58 c_X1_156 rc (fun τ1 h1 => ?_)
    skip
    obtain ⟨f1, r1⟩ := h1
    have s1 := pD_sta (A := A) (B := B) (v := A (83 + 23 * k + 5 + l)) (n := A (83 + 23 * k + 17 + l) + 1 - A 6) hb (show 0 ≤ l ∧ l < 6 by omega)
    have el : lid τ1 i k = lid σ i k := by
      unfold lid
      rw [f1.2.2.1]
    have hS1 : Shp τ1 i := by
      unfold Shp lid at hS ⊢
      rw [f1.2.2.1]
      exact hS
    have hW1 := f1.2.wf hW
    have rb := R_CbuyIn hI hW1 r1 hS1 (st.trans s1.1) hk hl ((s1.2 _ (by omega)).trans b1) ((s1.2 _ (by omega)).trans b2) ((s1.2 _ (by omega)).trans b3)
    rw [el] at rb
    refine V_ild6 a_X1_ageSlice_61 ?_
    refine V_if_le_f a_X1_ageSlice_63 (by omega) (by omega) ?_
    refine V_aldn0 a_X1_ageSlice_66 ?_
    refine V_aldn1 a_X1_ageSlice_67 ?_
    refine V_aldn2 a_X1_ageSlice_68 ?_
    refine V_ildn3 a_X1_ageSlice_69 ?_
    refine V_v3PV a_X1_ageSlice_70 c_X1_160 rb (fun τ2 h2 => ?_)
    skip
    obtain ⟨f2, p2, r2⟩ := h2
    have s2 := bN_sta (A := A) (B := adD B (pD A k l (A (83 + 23 * k + 5 + l)) (A (83 + 23 * k + 17 + l) + 1 - A 6))) hk.1 hb (show 0 ≤ l ∧ l < 6 by omega)
    rw [s1.2 _ (by omega), b1] at s2
    have el2 : lid τ2 i k = lid σ i k := by
      unfold lid
      rw [p2, f1.2.2.1]
    have hW2 := f2.wf hW1
    have rd := R_chargeFees (n := n - (A (83 + 23 * k + 17 + l) + 1 - A 6)) hI hW2 r2 ((st.trans s1.1).trans s2.1) hk hl s2.2 (by omega) (by omega)
    rw [el2, dl_t z hb (by omega)] at rd
    refine V_aldn0 a_X1_ageSlice_73 ?_
    refine V_aldn1 a_X1_ageSlice_74 ?_
    refine V_aldn2 a_X1_ageSlice_75 ?_
    refine V_ildn3 a_X1_ageSlice_76 ?_
    refine V_ild4 a_X1_ageSlice_77 ?_
    refine V_ild5 a_X1_ageSlice_79 ?_
    refine V_isub a_X1_ageSlice_81 ?_
    refine V_v4PV a_X1_ageSlice_82 c_X1_156 rd (fun τ3 h3 => ?_)
    refine V_ild6 a_X1_ageSlice_85 ?_
    exact V_iret a_X1_ageSlice_87 (⟨rfl, (f1.fp.trans f2).trans h3.1.fp, (h3.1.2.2.1.trans p2).trans f1.2.2.1, h3.2⟩)
  · have zv : bV A k l n = 0 := if_neg z
    rw [zv]
    have rc := R_chargeFees (n := n) hI hW hR st hk hl b1 (by omega) (by omega)
    rw [dl_f z hb (by omega)] at rc
    by_cases y : A (83 + 23 * k + 11 + l) ≤ 0
    · refine V_ild4 a_X1_ageSlice_0 ?_
      refine V_ist5 a_X1_ageSlice_2 ?_
      refine V_iconst a_X1_ageSlice_4 ?_
      refine V_ist6 a_X1_ageSlice_5 ?_
      refine V_aldn2 a_X1_ageSlice_7 ?_
      refine V_fin a_X1_ageSlice_8 f_X1_130 rfl hW ?_
      refine V_ildn3 a_X1_ageSlice_11 ?_
      refine V_ialdE a_X1_ageSlice_12 rfl (by omega) g31 ?_
      refine V_if_le_t a_X1_ageSlice_13 (by omega) (by omega) ?_
      refine V_aldn0 a_X1_ageSlice_52 ?_
      refine V_aldn1 a_X1_ageSlice_53 ?_
      refine V_aldn2 a_X1_ageSlice_54 ?_
      refine V_ildn3 a_X1_ageSlice_55 ?_
      refine V_ild5 a_X1_ageSlice_56 ?_
      refine V_v4PV a_X1_ageSlice_58 c_X1_156 rc (fun τ1 h1 => ?_)
      refine V_ild6 a_X1_ageSlice_61 ?_
      refine V_if_le_t a_X1_ageSlice_63 (by omega) (by omega) ?_
      refine V_ild6 a_X1_ageSlice_85 ?_
      exact V_iret a_X1_ageSlice_87 (⟨rfl, h1.1.fp, h1.1.2.2.1, h1.2⟩)
    · have y2 : ¬ A (83 + 23 * k + 17 + l) + 1 - A 6 ≤ n := fun w => z ⟨by omega, w⟩
      have hdu := hsl.2.2.1 (by omega)
      refine V_ild4 a_X1_ageSlice_0 ?_
      refine V_ist5 a_X1_ageSlice_2 ?_
      refine V_iconst a_X1_ageSlice_4 ?_
      refine V_ist6 a_X1_ageSlice_5 ?_
      refine V_aldn2 a_X1_ageSlice_7 ?_
      refine V_fin a_X1_ageSlice_8 f_X1_130 rfl hW ?_
      refine V_ildn3 a_X1_ageSlice_11 ?_
      refine V_ialdE a_X1_ageSlice_12 rfl (by omega) g31 ?_
      refine V_if_le_f a_X1_ageSlice_13 (by omega) (by omega) ?_
      refine V_aldn2 a_X1_ageSlice_16 ?_
      refine V_fin a_X1_ageSlice_17 f_X1_147 rfl hW ?_
      refine V_ildn3 a_X1_ageSlice_20 ?_
      refine V_ialdE a_X1_ageSlice_21 rfl (by omega) g32 ?_
      refine V_iconst a_X1_ageSlice_22 ?_
      refine V_iadd a_X1_ageSlice_23 ?_
      refine V_aldn1 a_X1_ageSlice_24 ?_
      refine V_fin a_X1_ageSlice_25 f_X1_43 rfl hW ?_
      refine V_iconst a_X1_ageSlice_28 ?_
      refine V_ialdE a_X1_ageSlice_29 rfl (by omega) n5 ?_
      refine V_isub a_X1_ageSlice_30 ?_
      refine V_ist7 a_X1_ageSlice_31 ?_
      refine V_ild7 a_X1_ageSlice_33 ?_
      refine V_ild4 a_X1_ageSlice_35 ?_
      refine V_icmp_gt_t a_X1_ageSlice_37 (by omega) (by omega) ?_
      refine V_aldn0 a_X1_ageSlice_52 ?_
      refine V_aldn1 a_X1_ageSlice_53 ?_
      refine V_aldn2 a_X1_ageSlice_54 ?_
      refine V_ildn3 a_X1_ageSlice_55 ?_
      refine V_ild5 a_X1_ageSlice_56 ?_
      refine V_v4PV a_X1_ageSlice_58 c_X1_156 rc (fun τ1 h1 => ?_)
      refine V_ild6 a_X1_ageSlice_61 ?_
      refine V_if_le_t a_X1_ageSlice_63 (by omega) (by omega) ?_
      refine V_ild6 a_X1_ageSlice_85 ?_
      exact V_iret a_X1_ageSlice_87 (⟨rfl, h1.1.fp, h1.1.2.2.1, h1.2⟩)
end Ag
abbrev NmP (p c : Int) : Prop := (p = 0 ∧ c = 0) ∨ (p = 1 ∧ c = 1) ∨ (p = 2 ∧ c = 2) ∨ (p = 3 ∧ c = 7) ∨ (p = 4 ∧ c = 8) ∨ (p = 5 ∧ c = 6) ∨ (p = 6 ∧ c = 5) ∨ (p = 7 ∧ c = 3) ∨ (p = 8 ∧ c = 4)
/-- one of a pool's numbers changes -/
theorem rel_num {σ : Hp} {i : Nat} {A : St} {v p c : Int} (h : Rel σ i A) (hn : A 0 ≤ 4 ∧ A 1 ≤ 6 ∧ A 2 ≤ 4) (hm : upI A c v 0 ≤ 4 ∧ upI A c v 1 ≤ 6 ∧ upI A c v 2 ≤ 4) (hp : NmP p c) (hc7 : c ≠ 7) (H0 : ∀ s, 0 ≤ s → s < upI A c v 0 → σ.I 37 i s = A (15 + s) ∧ σ.I 38 i s = A (19 + s)) (H1 : ∀ l, 0 ≤ l → l < upI A c v 1 → σ.I 40 i l = A (27 + l) ∧ σ.I 41 i l = A (33 + l) ∧ σ.I 42 i l = A (39 + l)) (H2 : ∀ b, 0 ≤ b → b < upI A c v 2 → σ.I 43 i b = A (45 + b)) (H3 : ∀ s, 0 ≤ s → s < upI A c v 0 → σ.I 39 i s = A (23 + s)) : Rel (σ.setI 36 i p v) i (upI A c v) := by
  have hl := h.lns
  obtain ⟨r1, r2, r3, r4, r5, r6, r7, r8⟩ := h.top
  have eI : ∀ t, t ≠ 36 → (σ.setI 36 i p v).I t = σ.I t := fun t ht => setI_t ht
  have hc9 : 0 ≤ c ∧ c < 9 := by omega
  have u : ∀ j, 9 ≤ j → upI A c v j = A j := fun j hj => upI_ne (by omega)
  have key : ∀ p' c', NmP p' c' → σ.I 36 i p' = A c' → (σ.setI 36 i p v).I 36 i p' = upI A c v c' := fun p' c' hp' e => by
    by_cases z : p' = p
    · have : c' = c := by omega
      rw [z, this, setI_I, upI_eq]
    · have : c' ≠ c := by omega
      rw [setI_ne z, upI_ne this]
      exact e
  obtain ⟨a0, a1, a2, a3, a4, a5, a6, a7, a8⟩ := r1
  refine RelT.full ?_ (fun x x0 x1 => ?_)
  · refine ⟨⟨key 0 0 (by omega) a0, key 1 1 (by omega) a1, key 2 2 (by omega) a2, key 3 7 (by omega) a3, key 4 8 (by omega) a4, key 5 6 (by omega) a5, key 6 5 (by omega) a6, key 7 3 (by omega) a7, key 8 4 (by omega) a8⟩, fun s s0 s1 => ?_, fun s s0 s1 => ?_, fun l l0 l1 => ?_, fun b b0 b1 => ?_, fun l s l0 l1 s0 s1 => ?_, ⟨fun l l0 l1 => ?_, fun b b0 b1 => ?_, ?_⟩, ?_⟩
    · rw [u _ (by omega), u _ (by omega), eI 37 (by decide), eI 38 (by decide)]
      exact H0 s s0 s1
    · rw [u _ (by omega), eI 39 (by decide)]
      exact H3 s s0 s1
    · rw [u _ (by omega), u _ (by omega), u _ (by omega), eI 40 (by decide), eI 41 (by decide), eI 42 (by decide)]
      exact H1 l l0 l1
    · rw [u _ (by omega), eI 43 (by decide)]
      exact H2 b b0 b1
    · rw [u _ (by omega), eI 44 (by decide)]
      exact r6 l s l0 l1 s0 s1
    · rw [u _ (by omega)]
      exact r7.1 l l0 l1
    · rw [u _ (by omega)]
      exact r7.2.1 b b0 b1
    · rw [u 12 (by decide), u 13 (by decide), u 14 (by decide)]
      exact r7.2.2
    · rw [u 9 (by decide), u 10 (by decide), u 11 (by decide)]
      exact r8
  · rw [upI_ne (fun z => hc7 z.symm)] at x1
    exact (hl x x0 x1).congr (fun t ht => by rw [eI t (by omega)]) (fun c' c0 c1 => u _ (by omega))
/-- the day, the policy, the notice or the penalty of a pool -/
theorem Rel.setN {σ : Hp} {i : Nat} {A : St} {v p c : Int} (h : Rel σ i A) (hn : A 0 ≤ 4 ∧ A 1 ≤ 6 ∧ A 2 ≤ 4) (hp : (p = 5 ∧ c = 6) ∨ (p = 6 ∧ c = 5) ∨ (p = 7 ∧ c = 3) ∨ (p = 8 ∧ c = 4)) : Rel (σ.setI 36 i p v) i (upI A c v) := by
  have u : ∀ j, j < 3 → upI A c v j = A j := fun j hj => upI_ne (by omega)
  have hR := h
  refine rel_num h hn (by rw [u 0 (by decide), u 1 (by decide), u 2 (by decide)]; exact hn) (by omega) (by omega) (fun s s0 s1 => ?_) (fun l l0 l1 => ?_) (fun b b0 b1 => ?_) (fun s s0 s1 => ?_)
  · rw [u 0 (by decide)] at s1
    exact hR.sec s0 s1
  · rw [u 1 (by decide)] at l1
    exact hR.lend l0 l1
  · rw [u 2 (by decide)] at b1
    exact hR.2.2.2.2.1 b b0 b1
  · rw [u 0 (by decide)] at s1
    exact hR.2.2.1 s s0 s1
abbrev PtP (t : Nat) (o x : Int) : Prop := (t = 37 ∧ o = 15 ∧ 0 ≤ x ∧ x < 4) ∨ (t = 38 ∧ o = 19 ∧ 0 ≤ x ∧ x < 4) ∨ (t = 39 ∧ o = 23 ∧ 0 ≤ x ∧ x < 4) ∨ (t = 40 ∧ o = 27 ∧ 0 ≤ x ∧ x < 6) ∨ (t = 41 ∧ o = 33 ∧ 0 ≤ x ∧ x < 6) ∨ (t = 42 ∧ o = 39 ∧ 0 ≤ x ∧ x < 6) ∨ (t = 43 ∧ o = 45 ∧ 0 ≤ x ∧ x < 4) ∨ (t = 44 ∧ o = 49 ∧ 0 ≤ x ∧ x < 24)
/-- one of a pool's entries changes -/
theorem rel_pt {σ : Hp} {i : Nat} {A : St} {t : Nat} {o x v : Int} (h : Rel σ i A) (hn : A 0 ≤ 4 ∧ A 1 ≤ 6 ∧ A 2 ≤ 4) (hp : PtP t o x) : Rel (σ.setI t i x v) i (upI A (o + x) v) := by
  have hl := h.lns
  obtain ⟨r1, r2, r3, r4, r5, r6, r7, r8⟩ := h.top
  have ht : 37 ≤ t ∧ t ≤ 44 := by omega
  have ho : 15 ≤ o + x ∧ o + x < 73 := by omega
  have eI : ∀ t', t' ≠ t → (σ.setI t i x v).I t' = σ.I t' := fun t' ht => setI_t ht
  have u : ∀ j, (j < 15 ∨ 73 ≤ j) → upI A (o + x) v j = A j := fun j hj => upI_ne (by omega)
  have key : ∀ (t' : Nat) (o' x' : Int), PtP t' o' x' → σ.I t' i x' = A (o' + x') → (σ.setI t i x v).I t' i x' = upI A (o + x) v (o' + x') := fun t' o' x' hp' e => by
    by_cases z : t' = t
    · by_cases y : x' = x
      · have : o' + x' = o + x := by omega
        rw [this, z, y, setI_I, upI_eq]
      · have : o' + x' ≠ o + x := by omega
        rw [upI_ne this, z, setI_ne y, ← z]
        exact e
    · have : o' + x' ≠ o + x := by omega
      rw [upI_ne this, eI t' z]
      exact e
  refine RelT.full ?_ (fun x x0 x1 => ?_)
  · unfold RelT
    rw [u 0 (by decide), u 1 (by decide), u 2 (by decide), u 3 (by decide), u 4 (by decide), u 5 (by decide), u 6 (by decide), u 7 (by decide), u 8 (by decide), u 9 (by decide), u 10 (by decide), u 11 (by decide), u 12 (by decide), u 13 (by decide), u 14 (by decide), eI 36 (by omega)]
    refine ⟨r1, fun s s0 s1 => ⟨key 37 15 s (by omega) (r2 s s0 s1).1, key 38 19 s (by omega) (r2 s s0 s1).2⟩, fun s s0 s1 => key 39 23 s (by omega) (r3 s s0 s1), fun l l0 l1 => ⟨key 40 27 l (by omega) (r4 l l0 l1).1, key 41 33 l (by omega) (r4 l l0 l1).2.1, key 42 39 l (by omega) (r4 l l0 l1).2.2⟩, fun b b0 b1 => key 43 45 b (by omega) (r5 b b0 b1), fun l s l0 l1 s0 s1 => ?_, ⟨fun l l0 l1 => ?_, fun b b0 b1 => ?_, r7.2.2⟩, r8⟩
    · rw [show 49 + 4 * l + s = 49 + (l * 4 + s) by omega]
      exact key 44 49 (l * 4 + s) (by omega) (by rw [show 49 + (l * 4 + s) = 49 + 4 * l + s by omega]; exact r6 l s l0 l1 s0 s1)
    · rw [u _ (by omega)]
      exact r7.1 l l0 l1
    · rw [u _ (by omega)]
      exact r7.2.1 b b0 b1
  · rw [u 7 (by decide)] at x1
    exact (hl x x0 x1).congr (fun t' ht' => by rw [eI t' (by omega)]) (fun c' c0 c1 => u _ (by omega))
section Gn
variable {D : Int} {σ : Hp} {A : St} {i : Nat} {k l n j : Int}
def goS (A : St) (n k l : Int) : St := fun j => A j + sm (fun k' => sm (fun l' => dlN A k' l' n j) (A 1)) k + sm (fun l' => dlN A k l' n j) l
def goB (A : St) (n k l : Int) : Int := sm (fun k' => sm (fun l' => bV A k' l' n) (A 1)) k + sm (fun l' => bV A k l' n) l
theorem goS_0 : goS A n 0 0 = A := by
  funext j
  unfold goS
  rw [sm_0, sm_0]
  omega
theorem goS_l (l0 : 0 ≤ l) : adD (goS A n k l) (dlN A k l n) = goS A n k (l + 1) := by
  funext j
  unfold adD goS
  rw [sm_s _ l0]
  omega
theorem goS_k (k0 : 0 ≤ k) : goS A n k (A 1) = goS A n (k + 1) 0 := by
  funext j
  unfold goS
  rw [sm_s _ k0, sm_0]
  omega
theorem goB_l (l0 : 0 ≤ l) : goB A n k l + bV A k l n = goB A n k (l + 1) := by
  unfold goB
  rw [sm_s _ l0]
  omega
theorem goB_k (k0 : 0 ≤ k) : goB A n k (A 1) = goB A n (k + 1) 0 := by
  unfold goB
  rw [sm_s _ k0, sm_0]
  omega
theorem goS_j (hA : DyI A) (hk : 0 ≤ k ∧ k ≤ A 7) (hl : 0 ≤ l ∧ l ≤ A 1) (hkl : l = 0 ∨ k < A 7) (h1 : j = 10 ∨ ¬ (9 ≤ j ∧ j < 15)) (h2 : ¬ (73 ≤ j ∧ j < 83)) (h3 : ∀ k' l', 0 ≤ k' → 0 ≤ l' → l' < A 1 → (k' < k ∨ (k' = k ∧ l' < l)) → j ≠ 83 + 23 * k' + 5 + l' ∧ j ≠ 83 + 23 * k' + 11 + l' ∧ j ≠ 83 + 23 * k' + 17 + l') : goS A n k l j = A j := by
  obtain ⟨a1, a7, al⟩ := hA
  have e : ∀ k' l', 0 ≤ k' → k' < A 7 → 0 ≤ l' → l' < A 1 → (k' < k ∨ (k' = k ∧ l' < l)) → dlN A k' l' n j = 0 := fun k' l' c0 c1 c2 c3 c4 => by
    unfold dlN
    by_cases c : j = 10
    · rw [if_pos c]
    · rw [if_neg c]
      have := h3 k' l' c0 c2 c3 c4
      exact dlt_0 (al k' c0 c1).1 (by omega) (by omega) h2 this.1 this.2.1 this.2.2
  unfold goS
  rw [sm_zero (fun k' c0 c1 => sm_zero (fun l' d0 d1 => e k' l' c0 (by omega) d0 d1 (Or.inl c1))), sm_zero (fun l' d0 d1 => e k l' hk.1 (by omega) d0 (by omega) (Or.inr ⟨rfl, d1⟩))]
  omega
theorem goS_sta (hA : DyI A) (hk : 0 ≤ k ∧ k ≤ A 7) (hl : 0 ≤ l ∧ l ≤ A 1) (hkl : l = 0 ∨ k < A 7) : Sta A (goS A n k l) ∧ goS A n k l 6 = A 6 ∧ goS A n k l 10 = A 10 := by
  have h1 := hA.1
  exact ⟨⟨fun j a b c d => goS_j hA hk hl hkl (Or.inr d) (by omega) (fun k' l' c0 c1 c2 c3 => by omega), fun k1 c a b d => goS_j hA hk hl hkl (by omega) (by omega) (fun k' l' c0 c1 c2 c3 => by omega)⟩, goS_j hA hk hl hkl (by omega) (by omega) (fun k' l' c0 c1 c2 c3 => by omega), goS_j hA hk hl hkl (by omega) (by omega) (fun k' l' c0 c1 c2 c3 => by omega)⟩
theorem goS_U (hA : DyI A) : upI (upI (goS A n (A 7) 0) 6 (A 6 + n)) 10 (A 10 + goB A n (A 7) 0) = UU A n := by
  obtain ⟨a1, a7, al⟩ := hA
  funext j
  by_cases c : j = 10
  · rw [c, upI_eq]
    unfold UU goB
    rw [sm_0, if_neg (by decide), sm_congr (f := fun k => sm (fun l => dlt A k l n 10) (A 1)) (g := fun k' => sm (fun l' => bV A k' l' n) (A 1)) (fun k k0 k1 => sm_congr (fun l l0 l1 => by
      have hb := (al k k0 k1).1
      unfold dlt bV
      rw [pD_0 (by omega) (by omega) (by omega) (by omega), pD_0 (by omega) (by omega) (by omega) (by omega), pD_0 (by omega) (by omega) (by omega) (by omega)]
      split
      · unfold bD
        rw [if_neg (by omega), if_neg (by omega), if_pos rfl]
        omega
      · rfl))]
    omega
  · rw [upI_ne c]
    have e : goS A n (A 7) 0 j = A j + sm (fun k => sm (fun l => dlt A k l n j) (A 1)) (A 7) := by
      unfold goS dlN
      simp only [if_neg c]
      rw [sm_0]
      omega
    by_cases d : j = 6
    · rw [d, upI_eq]
      unfold UU
      rw [if_pos rfl, sm_zero (fun k k0 k1 => sm_zero (fun l l0 l1 => dlt_0 (al k k0 k1).1 (by omega) (by omega) (by omega) (by omega) (by omega) (by omega)))]
      omega
    · rw [upI_ne d, e]
      unfold UU
      rw [if_neg d]
      omega
theorem goB_bd (hI : Inv D A) (hk : 0 ≤ k ∧ k ≤ A 7) : 0 ≤ goB A n k 0 ∧ goB A n k 0 ≤ 7200000 := by
  have hn := hI.n
  have h := sm_bd (f := fun k' => sm (fun l' => bV A k' l' n) (A 1)) (k := k) (lo := 0) (hi := 599994) hk.1 (fun k' c0 c1 => by
    have h2 := sm_bd (f := fun l' => bV A k' l' n) (k := A 1) (lo := 0) (hi := 99999) (by omega) (fun l' d0 d1 => by
      have z := ((hI.loan c0 (show k' < A 7 by omega)).sl d0 (show l' < 6 by omega)).1
      unfold bV
      split <;> omega)
    show 0 ≤ sm (fun l' => bV A k' l' n) (A 1) ∧ sm (fun l' => bV A k' l' n) (A 1) ≤ 599994
    omega)
  unfold goB
  rw [sm_0]
  omega
theorem R_goOn (hD : D + n ≤ 20000000) (h : Cl D σ i A) (hd : 0 ≤ n ∧ n ≤ 400) : Cv m_X1_goOn 4 0 0 [vR (some (1, 0)), vR (some (6, i)), vI n] σ (some (vI (dysX A n 10 - A 10))) (fun τ => Fp i σ τ ∧ Cl (D + n) τ i (dysX A n)) := by
  obtain ⟨hD', hW, hR, hS, hI⟩ := h
  have hn := hI.n
  have hA := hI.w.dyI
  have e10 : dysX A n 10 - A 10 = goB A n (A 7) 0 := by
    have e := (dys_eq hD hI (by omega)).1 10 (by decide) (by decide)
    have u := congrFun (goS_U (n := n) hA) 10
    rw [upI_eq] at u
    have o := (cl_out (A := UU A n) (k := UU A n 7) (by
      have := (U_inv (n := n) hI.w (by omega)).1
      omega)).2 10 (by omega)
    have ec : closeA (UU A n) 10 = UU A n 10 := by
      unfold closeA
      rw [upI_ne (by omega)]
      exact o
    omega
  rw [e10]
  have hSof : ∀ τ : Hp, τ.P = σ.P → Shp τ i := fun τ hp => by
    unfold Shp lid at hS ⊢
    rw [hp]
    exact hS
  have hlof : ∀ (τ : Hp) x, τ.P = σ.P → lid τ i x = lid σ i x := fun τ x hp => by
    unfold lid
    rw [hp]
  show V _ 4 0 0 0 [some (vR (some (1, 0))), some (vR (some (6, i))), some (vI n), none, none, none] [] σ _
  refine V_iconst a_X1_goOn_0 ?_
  refine V_istn3 a_X1_goOn_1 ?_
  refine V_iconst a_X1_goOn_2 ?_
  refine V_ist4 a_X1_goOn_3 ?_
  skip
  refine (fun z => by
    rw [show goB A n 0 0 = 0 from rfl] at z
    exact z) (loopI (P := fun k => ∀ (τ : Hp) (o : Option AV), Fp i σ τ → τ.P = σ.P → Rel τ i (goS A n k 0) → V m_X1_goOn 4 0 0 5 [some (vR (some (1, 0))), some (vR (some (6, i))), some (vI n), some (vI (goB A n k 0)), some (vI k), o] [] τ (fun r τ => r = .inl (some (vI (goB A n (A 7) 0))) ∧ Fp i σ τ ∧ Cl (D + n) τ i (dysX A n))) (N := A 7) (by omega) ?_ ?_ σ none (Fp.refl _ _) rfl (by rw [goS_0]; exact hR))
  · intro τ o f hp hr
    have hWt := f.wf hW
    have s := goS_sta (n := n) (k := A 7) (l := 0) hA ⟨by omega, Int.le_refl _⟩ ⟨Int.le_refl _, by omega⟩ (Or.inl rfl)
    have hgb := goB_bd (n := n) (k := A 7) hI ⟨by omega, Int.le_refl _⟩
    have z0 := s.1.1 0 (by decide) (by decide) (by decide) (by decide)
    have z1 := s.1.1 1 (by decide) (by decide) (by decide) (by decide)
    have z2 := s.1.1 2 (by decide) (by decide) (by decide) (by decide)
    have n3 : τ.I 36 i 3 = A 7 := hr.1.2.2.2.1.trans (s.1.1 7 (by decide) (by decide) (by decide) (by decide))
    have n5 : τ.I 36 i 5 = A 6 := hr.1.2.2.2.2.2.1.trans s.2.1
    have g10 : (τ.setI 36 i 5 (A 6 + n)).J 46 i 1 = A 10 := hr.acc.2.2.1.trans s.2.2
    have r1 := hr.setN (v := A 6 + n) (p := 5) (c := 6) (by omega) (Or.inl ⟨rfl, rfl⟩)
    have j1 := relJ_sum (c := 1) (v := A 10 + goB A n (A 7) 0) r1.acc (by omega)
    rw [show (9 : Int) + 1 = 10 from rfl] at j1
    have r2 := rel_J (τ := (τ.setI 36 i 5 (A 6 + n)).setJ 46 i 1 (A 10 + goB A n (A 7) 0)) r1 (by rw [upI_ne (by decide), upI_ne (by decide), upI_ne (by decide), z0, z1, z2]; omega) rfl rfl (fun j c1 c2 => upI_ne (by omega)) j1
    rw [goS_U hA] at r2
    have f1 : Fp i τ ((τ.setI 36 i 5 (A 6 + n)).setJ 46 i 1 (A 10 + goB A n (A 7) 0)) := ((FX.setI (S := fun t n => t = 36 ∧ n = i) ⟨rfl, rfl⟩).fp (fun t n z => by unfold plS; omega)).trans FJ.sum.fp
    have cd : Cl0 (D + n) ((τ.setI 36 i 5 (A 6 + n)).setJ 46 i 1 (A 10 + goB A n (A 7) 0)) i (UU A n) := ⟨hD, f1.wf hWt, r2, hSof _ hp, U_inv hI.w (by omega)⟩
    have rd := R_dropClosed cd
    have hW := hWt
    refine V_ild4 a_X1_goOn_5 ?_
    refine V_aldn1 a_X1_goOn_7 ?_
    refine V_fin a_X1_goOn_8 f_X1_43 rfl hW ?_
    refine V_iconst a_X1_goOn_11 ?_
    refine V_ialdE a_X1_goOn_12 rfl (by omega) n3 ?_
    refine V_icmp_ge_t a_X1_goOn_13 (by omega) (by omega) ?_
    refine V_aldn1 a_X1_goOn_60 ?_
    refine V_fin a_X1_goOn_61 f_X1_43 rfl hW ?_
    refine V_iconst a_X1_goOn_64 ?_
    first | refine V_dup2IR a_X1_goOn_65 ?_ | refine V_dup2L a_X1_goOn_65 ?_
    refine V_ialdE a_X1_goOn_66 rfl (by omega) n5 ?_
    refine V_ildn2 a_X1_goOn_67 ?_
    refine V_iadd a_X1_goOn_68 ?_
    refine V_iast a_X1_goOn_69 rfl (by omega) ?_
    refine V_aldn1 a_X1_goOn_70 ?_
    refine V_fin a_X1_goOn_71 f_X1_137 rfl hW ?_
    refine V_iconst a_X1_goOn_74 ?_
    first | refine V_dup2IR a_X1_goOn_75 ?_ | refine V_dup2L a_X1_goOn_75 ?_
    refine V_laldE a_X1_goOn_76 rfl (by omega) g10 ?_
    refine V_ildn3 a_X1_goOn_77 ?_
    refine V_i2l a_X1_goOn_78 (by omega) ?_
    refine V_ladd a_X1_goOn_79 ?_
    refine V_last a_X1_goOn_80 rfl (by omega) ?_
    refine V_aldn1 a_X1_goOn_81 ?_
    refine V_v0PV a_X1_goOn_82 c_X1_106 rd (fun τ2 h2 => ?_)
    skip
    obtain ⟨f2, -, -, w2, rr, ss, ii⟩ := h2
    have eq := dys_eq hD hI (show 0 ≤ n by omega)
    have i2 := dys_inv hD hI (show 0 ≤ n by omega)
    have hm := ii.n
    have rel : Rel τ2 i (dysX A n) := (rr.top.congr (by omega) (fun t _ _ => rfl) (fun t _ _ => rfl) eq.1).full (fun x x0 x1 => by
      rw [eq.1 7 (by decide) (by decide)] at x1
      exact (rr.lns x x0 x1).congr (fun t _ => rfl) (fun c c0 c1 => eq.2 x c x0 x1 c0 c1))
    refine V_ildn3 a_X1_goOn_85 ?_
    exact V_iret a_X1_goOn_86 (⟨rfl, (f.trans f1).trans f2, hD, w2, rel, ss, i2⟩)
  · intro k k0 k1 ih τ o f hp hr
    have hWt := f.wf hW
    have p19 : ∀ (τ : Hp), Fp i σ τ → τ.P = σ.P → Rel τ i (goS A n k 0) → V m_X1_goOn 4 0 0 19 [some (vR (some (1, 0))), some (vR (some (6, i))), some (vI n), some (vI (goB A n k 0)), some (vI k), some (vI 0)] [] τ (fun r τ => r = .inl (some (vI (goB A n (A 7) 0))) ∧ Fp i σ τ ∧ Cl (D + n) τ i (dysX A n)) := by
      refine loopI (P := fun l => ∀ (τ : Hp), Fp i σ τ → τ.P = σ.P → Rel τ i (goS A n k l) → V m_X1_goOn 4 0 0 19 [some (vR (some (1, 0))), some (vR (some (6, i))), some (vI n), some (vI (goB A n k l)), some (vI k), some (vI l)] [] τ (fun r τ => r = .inl (some (vI (goB A n (A 7) 0))) ∧ Fp i σ τ ∧ Cl (D + n) τ i (dysX A n))) (N := A 1) (by omega) ?_ ?_
      · intro τ f hp hr
        have s := goS_sta (n := n) (k := k) (l := A 1) hA ⟨k0, by omega⟩ ⟨by omega, Int.le_refl _⟩ (Or.inr k1)
        have n1 : τ.I 36 i 1 = A 1 := hr.1.2.1.trans (s.1.1 1 (by decide) (by decide) (by decide) (by decide))
        have hW := f.wf hW
        rw [goS_k k0] at hr
        rw [goB_k k0]
        have ih2 := ih τ (some (vI (A 1))) f hp hr
        refine V_ild5 a_X1_goOn_19 ?_
        refine V_aldn1 a_X1_goOn_21 ?_
        refine V_fin a_X1_goOn_22 f_X1_43 rfl hW ?_
        refine V_iconst a_X1_goOn_25 ?_
        refine V_ialdE a_X1_goOn_26 rfl (by omega) n1 ?_
        refine V_icmp_ge_t a_X1_goOn_27 (by omega) (by omega) ?_
        refine V_inc4 a_X1_goOn_54 ?_
        refine V_goto a_X1_goOn_57 ?_
        exact ih2
      · intro l l0 l1 ih2 τ f hp hr
        have s := goS_sta (n := n) (k := k) (l := l) hA ⟨k0, by omega⟩ ⟨l0, by omega⟩ (Or.inr k1)
        have n1 : τ.I 36 i 1 = A 1 := hr.1.2.1.trans (s.1.1 1 (by decide) (by decide) (by decide) (by decide))
        have hWt := f.wf hW
        have hSt := hSof τ hp
        have ra := R_ageSlice (n := n) hD' hI hWt hr hSt s.1 s.2.1 ⟨k0, k1⟩ ⟨l0, l1⟩ (goS_j hA ⟨k0, by omega⟩ ⟨l0, by omega⟩ (Or.inr k1) (by omega) (by omega) (fun k' l' c0 c1 c2 c3 => by omega)) (goS_j hA ⟨k0, by omega⟩ ⟨l0, by omega⟩ (Or.inr k1) (by omega) (by omega) (fun k' l' c0 c1 c2 c3 => by omega)) (goS_j hA ⟨k0, by omega⟩ ⟨l0, by omega⟩ (Or.inr k1) (by omega) (by omega) (fun k' l' c0 c1 c2 c3 => by omega)) hd
        rw [goS_l l0] at ra
        rw [← goB_l l0] at ih2
        have hL := hSt.L
        have hW := hWt
        refine V_ild5 a_X1_goOn_19 ?_
        refine V_aldn1 a_X1_goOn_21 ?_
        refine V_fin a_X1_goOn_22 f_X1_43 rfl hW ?_
        refine V_iconst a_X1_goOn_25 ?_
        refine V_ialdE a_X1_goOn_26 rfl (by omega) n1 ?_
        refine V_icmp_ge_f a_X1_goOn_27 (by omega) (by omega) ?_
        refine V_ildn3 a_X1_goOn_30 ?_
        refine V_aldn0 a_X1_goOn_31 ?_
        refine V_aldn1 a_X1_goOn_32 ?_
        refine V_aldn1 a_X1_goOn_33 ?_
        refine V_fin a_X1_goOn_34 f_X1_83 rfl hW ?_
        refine V_ild4 a_X1_goOn_37 ?_
        refine V_aald a_X1_goOn_39 rfl (by omega) (hL _ (by omega) (by omega)) ?_
        refine V_ild5 a_X1_goOn_40 ?_
        refine V_ildn2 a_X1_goOn_42 ?_
        refine V_v4PR a_X1_goOn_43 c_X1_153 ra (fun τ2 h2 => ?_)
        refine V_iadd a_X1_goOn_46 ?_
        refine V_istn3 a_X1_goOn_47 ?_
        refine V_inc5 a_X1_goOn_48 ?_
        refine V_goto a_X1_goOn_51 ?_
        exact ih2 τ2 (f.trans h2.1) (h2.2.1.trans hp) h2.2.2
    have s := goS_sta (n := n) (k := k) (l := 0) hA ⟨k0, by omega⟩ ⟨Int.le_refl _, by omega⟩ (Or.inl rfl)
    have n3 : τ.I 36 i 3 = A 7 := hr.1.2.2.2.1.trans (s.1.1 7 (by decide) (by decide) (by decide) (by decide))
    have k2 := p19 τ f hp hr
    have hW := hWt
    refine V_ild4 a_X1_goOn_5 ?_
    refine V_aldn1 a_X1_goOn_7 ?_
    refine V_fin a_X1_goOn_8 f_X1_43 rfl hW ?_
    refine V_iconst a_X1_goOn_11 ?_
    refine V_ialdE a_X1_goOn_12 rfl (by omega) n3 ?_
    refine V_icmp_ge_f a_X1_goOn_13 (by omega) (by omega) ?_
    refine V_iconst a_X1_goOn_16 ?_
    refine V_ist5 a_X1_goOn_17 ?_
    exact k2
end Gn

