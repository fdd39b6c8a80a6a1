theorem whl_rel {α β : Type} {g : α → Bool} {f : α → α} {g' : β → Bool} {f' : β → β} {R : α → β → Prop} (hg : ∀ x y, R x y → g x = g' y) (hf : ∀ x y, R x y → R (f x) (f' y)) : ∀ (n : Nat) (x : α) (y : β), R x y → R (whl g f n x) (whl g' f' n y) := by
  intro n
  induction n with
  | zero => intro x y h; exact h
  | succ n ih =>
    intro x y h
    show R (if g x = true then whl g f n (f x) else x) (if g' y = true then whl g' f' n (f' y) else y)
    rw [hg x y h]
    split
    · exact ih _ _ (hf x y h)
    · exact h
def BkR (x y : Bk) : Prop := x.A = y.A ∧ x.q = y.q ∧ x.c = y.c ∧ 0 ≤ x.c ∧ ∀ j, 0 ≤ j → j < x.c → x.r j = y.r j
theorem upI_agree {r r' : Int → Int} {c l : Int} (h : ∀ j, 0 ≤ j → j < c → r j = r' j) : ∀ j, 0 ≤ j → j < c + 1 → upI r c l j = upI r' c l j := fun j j0 j1 => by
  unfold upI
  by_cases e : j = c
  · rw [if_pos e, if_pos e]
  · rw [if_neg e, if_neg e]
    exact h j j0 (by omega)
/-- what comes back does not hang on what the row of the lenders was -/
theorem back_row {k q : Int} {A : St} {r r' : Int → Int} : BkR (backX k A q r) (backX k A q r') := by
  have h1 : BkR (wh (gk1 k) (bk1 k) mk ⟨A, q, 0, r⟩) (wh (gk1 k) (bk1 k) mk ⟨A, q, 0, r'⟩) := whl_rel (R := BkR) (fun x y h => by unfold gk1; rw [h.1, h.2.1]) (fun x y h => by
    obtain ⟨h1, h2, h3, h4, h5⟩ := h
    unfold bk1
    rw [← h1, ← h2, ← h3]
    exact ⟨rfl, rfl, rfl, by show 0 ≤ x.c + 1; omega, upI_agree h5⟩) _ _ _ ⟨rfl, rfl, rfl, Int.le_refl 0, fun j j0 j1 => by have : j < 0 := j1; omega⟩
  unfold backX
  generalize wh (gk1 k) (bk1 k) mk ⟨A, q, 0, r⟩ = x at h1 ⊢
  generalize wh (gk1 k) (bk1 k) mk ⟨A, q, 0, r'⟩ = y at h1 ⊢
  have e : mk x = mk y := by unfold mk; rw [h1.2.1]
  unfold wh
  rw [e]
  exact whl_rel (R := BkR) (fun x y h => by unfold gk2; rw [h.2.1]) (fun x y h => by
    obtain ⟨h1, h2, h3, h4, h5⟩ := h
    unfold bk2
    rw [← h1, ← h2, ← h3]
    exact ⟨rfl, rfl, rfl, by show 0 ≤ x.c + 1; omega, upI_agree h5⟩) _ _ _ h1
def backA (k : Int) (A : St) (q : Int) : Bk := backX k A q (fun _ => 0)
section Rt1
variable {D : Int} {A : St}
theorem G1_init (hD : D ≤ 20000000) (hI : Inv D A) {k q : Int} {r : Int → Int} (h0 : 0 ≤ k) (h1 : k < A 7) (hq : 0 ≤ q ∧ q ≤ quanA A k) : G1 k (quanA A k - q) A ⟨A, q, 0, r⟩ := by
  have hn := hI.n
  have hL := hI.loan h0 h1
  refine ⟨⟨hL.Sl hD (by omega) (by omega) (by omega), fun _ _ => rfl, ?_, ?_, fun l l0 l1 => ?_⟩, by show (0 : Int) ≤ 6; omega, fun _ => ?_⟩
  · show 0 ≤ q ∧ (0 : Int) ≤ 0 ∧ 0 ≤ quanA A k - q
    omega
  · show quanA A k = q + (quanA A k - q)
    omega
  · have := hL.sl l0 l1
    exact ⟨this.2.1, fun z => ⟨rfl, z⟩, Int.le_refl _, this.2.2.2⟩
  · have := sm_hi (f := fun l => bI (0 < A (83 + 23 * k + 11 + l))) (k := A 1) (hi := 1) (by omega) (fun j _ _ => by
      show bI _ ≤ 1
      rcases bI_01 (0 < A (83 + 23 * k + 11 + j)) with e | e <;> omega)
    show 0 + sm (fun l => bI (0 < A (83 + 23 * k + 11 + l))) (A 1) ≤ 6
    omega
theorem back_inv (hD : D ≤ 20000000) (hI : Inv D A) {k K : Int} {x : Bk} (h0 : 0 ≤ k) (h1 : k < A 7) (hG : GB k K A x) : Inv0 D x.A := by
  have hn := hI.n
  obtain ⟨⟨-, -, hsl⟩, ho, hq, hsum, hl⟩ := hG
  have o : ∀ j, j < 83 → x.A j = A j := fun j hj => ho j (by omega)
  have lo : ∀ i c, 0 ≤ i → 0 ≤ c → c < 5 → x.A (83 + 23 * i + c) = A (83 + 23 * i + c) := fun i c i0 c0 c1 => ho _ (by omega)
  have lo2 : ∀ i o c, 0 ≤ i → i ≠ k → 0 ≤ o + c → o + c < 23 → x.A (83 + 23 * i + o + c) = A (83 + 23 * i + o + c) := fun i o c i0 ik c0 c1 => ho _ (by omega)
  refine ⟨?_, fun s s0 s1 => ?_, fun s s0 s1 => ?_, fun l l0 l1 => ?_, fun b b0 b1 => ?_, fun l s l0 l1 s0 s1 => ?_, fun i i0 i1 => ?_, fun i j i0 ij j1 => ?_, fun l s l0 l1 s0 s1 => ?_⟩
  · rw [o 0 (by omega), o 1 (by omega), o 2 (by omega), o 3 (by omega), o 4 (by omega), o 5 (by omega), o 6 (by omega), o 7 (by omega), o 8 (by omega)]
    exact hn
  · rw [o 0 (by omega)] at s1
    rw [o _ (by omega), o _ (by omega)]
    exact hI.price s0 s1
  · rw [o _ (by omega), o 1 (by omega)]
    exact hI.last s0 s1
  · rw [o 1 (by omega)] at l1
    rw [o _ (by omega), o _ (by omega), o _ (by omega)]
    exact hI.lend l0 l1
  · rw [o 2 (by omega)] at b1
    rw [o _ (by omega)]
    exact hI.cred b0 b1
  · rw [o _ (by omega)]
    exact hI.held l0 l1 s0 s1
  · rw [o 7 (by omega)] at i1
    obtain ⟨q0, q1, q2, q3, q4, q5⟩ := hI.loan i0 i1
    refine ⟨?_, ?_, ?_, ?_, ?_, fun l l0 l1 => ?_⟩
    · rw [lo i 0 i0 (by omega) (by omega), o 8 (by omega)]; exact q0
    · rw [lo i 1 i0 (by omega) (by omega), o 2 (by omega)]; exact q1
    · rw [lo i 2 i0 (by omega) (by omega), o 0 (by omega)]; exact q2
    · rw [lo i 3 i0 (by omega) (by omega)]; exact q3
    · rw [lo i 4 i0 (by omega) (by omega), o 6 (by omega)]; exact q4
    · rw [o 6 (by omega), o 1 (by omega)]
      by_cases e : i = k
      · rw [e]
        have z1 := hsl l l0 l1
        have z2 := hl l l0 l1
        have z3 := (hI.loan h0 h1).sl l0 l1
        refine ⟨z1.1, z2.1, fun z => ?_, z2.2.2.2⟩
        have z4 := z2.2.1 z
        rw [z4.1]
        exact z3.2.2.1 z4.2
      · rw [lo2 i 11 l i0 e (by omega) (by omega), lo2 i 5 l i0 e (by omega) (by omega), lo2 i 17 l i0 e (by omega) (by omega)]
        exact q5 l l0 l1
  · rw [o 7 (by omega)] at j1
    rw [lo i 0 i0 (by omega) (by omega), lo j 0 (by omega) (by omega) (by omega)]
    exact hI.incr i0 ij j1
  · rw [o _ (by omega)]
    refine Int.le_trans ?_ (hI.lent l0 l1 s0 s1)
    unfold lentA
    rw [o 7 (by omega)]
    refine sm_le (fun i i0 i1 => ?_)
    rw [lo i 2 i0 (by omega) (by omega)]
    split
    · by_cases e : i = k
      · rw [e]
        exact (hl l l0 l1).2.2.1
      · rw [lo2 i 5 l i0 e (by omega) (by omega)]
        exact Int.le_refl _
    · exact Int.le_refl _
end Rt1
theorem place_ok {A : St} {n : Int} (h : placeA A n ≠ -1) : (0 ≤ placeA A n ∧ placeA A n < A 7) ∧ A (83 + 23 * placeA A n + 0) = n := by
  rcases fst_spec (fun k => decide (A (83 + 23 * k + 0) = n)) (A 7) with z | z
  · exact absurd z.1 h
  · exact ⟨⟨z.1, z.2.1⟩, of_decide_eq_true z.2.2.1⟩
theorem place_bd {A : St} {n : Int} : placeA A n = -1 ∨ (0 ≤ placeA A n ∧ placeA A n < A 7) := by
  rcases Classical.em (placeA A n = -1) with z | z
  · exact Or.inl z
  · exact Or.inr (place_ok z).1
def retC (A : St) (n q : Int) : Int := if placeA A n = -1 then 1 else if ¬ (1 ≤ q ∧ q ≤ quanA A (placeA A n)) then 2 else 0
def retA (A : St) (n q : Int) : St := closeA (backA (placeA A n) A q).A
section Mo11
variable {D : Int} {σ : Hp} {A : St}
theorem FK.bk {x : Bk} : FK [50, 58] [17] σ (σ.bk x) := ⟨Fm.bk.sub (by decide), fun j hj => by
  rw [show (σ.bk x).I 11 0 j = ((σ.rJ 50 0 x.A).rI 58 0 x.r).I 11 0 j from setI_ne (fun e => hj (by rw [e]; decide)), rI_ne (by decide)]
  rfl⟩
theorem ret_inv (hD : D ≤ 20000000) (hI : Inv D A) {n q : Int} (hc : retC A n q = 0) : Inv D (retA A n q) := by
  unfold retC at hc
  by_cases h1 : placeA A n = -1
  · rw [if_pos h1] at hc
    omega
  · rw [if_neg h1] at hc
    by_cases h2 : 1 ≤ q ∧ q ≤ quanA A (placeA A n)
    · have hp := (place_ok h1).1
      exact close_inv hD (back_inv hD hI hp.1 hp.2 (back_ok (G1_init hD hI hp.1 hp.2 (by omega))).1.1)
    · rw [if_pos h2] at hc
      omega
theorem R_returnShares {n q c : Int} {H : Int → St} (h : Md D σ A) (hP : PastOk σ c H) (hn : iR n) (hq : iR q) : (retC A n q = 0 → ∃ σ', FK [50, 51, 54, 58] [5, 6, 17] σ σ' ∧ σ'.I 11 0 6 = 0 ∧ σ'.J 50 0 = retA A n q ∧ PastOk σ' (pushC c) (pushH c H A) ∧ Rt m_X11_returnShares 3 0 0 [vR (some (11, 0)), vI n, vI q] σ (some (vI (quanA A (placeA A n) - q))) σ') ∧ (retC A n q ≠ 0 → Rt m_X11_returnShares 3 0 0 [vR (some (11, 0)), vI n, vI q] σ (some (vI 0)) (σ.th (retC A n q))) := by
  have hD := h.1
  have hI := h.2.2.2
  have hn' := hI.n
  have hpb := place_bd (A := A) (n := n)
  unfold retC
  by_cases h1 : placeA A n = -1
  · rw [if_pos h1]
    refine ⟨fun z => absurd z (by decide), fun _ => ?_⟩
    have r1 := R_placeOf h hn
    rw [if_pos h1] at r1
    show V _ 3 0 0 0 [some (vR (some (11, 0))), some (vI n), some (vI q), none, none] [] σ _
    refine V_aldn0 a_X11_returnShares_0 ?_
    refine V_ildn1 a_X11_returnShares_1 ?_
    refine V_v1R a_X11_returnShares_2 c_X11_295 r1 ?_
    refine V_istn3 a_X11_returnShares_5 ?_
    refine V_aldn0 a_X11_returnShares_6 ?_
    refine V_ildn3 a_X11_returnShares_7 ?_
    refine V_iconst a_X11_returnShares_8 ?_
    refine V_icmp_ne_f a_X11_returnShares_9 (by omega) (by omega) ?_
    refine V_iconst a_X11_returnShares_12 ?_
    refine V_goto a_X11_returnShares_13 ?_
    refine V_iconst a_X11_returnShares_17 ?_
    refine V_v2R a_X11_returnShares_18 c_X11_72 R_fails1 ?_
    refine V_if_ne_t a_X11_returnShares_21 (by omega) (by omega) ?_
    refine V_iconst a_X11_returnShares_51 ?_
    exact V_iret a_X11_returnShares_52 (⟨rfl, rfl⟩)
  · rw [if_neg h1]
    have r1 := R_placeOf h hn
    rw [if_neg h1] at r1
    have hp := (place_ok h1).1
    have hqb := quan_bd hI hp.1 hp.2
    have h0 : Md D (σ.th 0) A := h
    obtain ⟨b, hb, r3⟩ := B_in (σ := σ.th 0) (v := q) (x := 1) (y := quanA A (placeA A n)) (by omega) (by omega) (by omega)
    by_cases h2 : 1 ≤ q ∧ q ≤ quanA A (placeA A n)
    · rw [if_neg (fun z => z h2)]
      refine ⟨fun _ => ?_, fun z => absurd rfl z⟩
      have hm : Md D ((σ.th 0).th 0) A := h
      obtain ⟨σ1, f1, m1, p1, r5⟩ := R_remember (c := c) (H := H) hm hP
      have hG := G1_init (r := σ1.I 58 0) hD hI hp.1 hp.2 (q := q) (by omega)
      have r6 := R_giveBack m1.2.1 m1.2.2.1 hG
      have ho := back_ok hG
      have hv := back_inv hD hI hp.1 hp.2 ho.1.1
      generalize hX : backX (placeA A n) A q (σ1.I 58 0) = X at r6 ho hv
      have eX : X.A = (backA (placeA A n) A q).A := by
        rw [← hX]
        exact back_row.1
      have hv1 := hv.1
      have r7 := R_close (σ := σ1.bk X) (A := X.A) m1.2.1 bk_A (by omega) (by omega) (fun k k0 k1 => (hv.loan k0 k1).Sl hD (by omega) (by omega) (by omega))
      have f2 : FK [50, 51, 54, 58] [5, 6, 17] σ ((σ1.bk X).rJ 50 0 (closeA X.A)) := FK.trans (FK.trans (FK.trans (FK.trans (FK.th (by decide)) (FK.th (by decide))) (f1.sub (by decide) (by decide))) (FK.bk.sub (by decide) (by decide))) ((Fm.rJ (by decide) : Fm [50, 51, 54, 58] (σ1.bk X) _).fk (by decide))
      refine ⟨(σ1.bk X).rJ 50 0 (closeA X.A), f2, ?_, by unfold retA; rw [← eX]; exact rJ_J, ?_, ?_⟩
      · show (σ1.bk X).I 11 0 6 = 0
        rw [FK.bk.2 6 (by decide), f1.2 6 (by decide)]
        exact setI_I
      · refine ⟨?_, p1.2.1, fun i k i0 i1 k0 k1 => ?_⟩
        · show (σ1.bk X).I 11 0 5 = _
          rw [FK.bk.2 5 (by decide)]
          exact p1.1
        · rw [rJ_ne (by decide), FK.bk.1.J (by decide)]
          exact p1.2.2 i k i0 i1 k0 k1
      · show V _ 3 0 0 0 [some (vR (some (11, 0))), some (vI n), some (vI q), none, none] [] σ _
        refine V_aldn0 a_X11_returnShares_0 ?_
        refine V_ildn1 a_X11_returnShares_1 ?_
        refine V_v1R a_X11_returnShares_2 c_X11_295 r1 ?_
        refine V_istn3 a_X11_returnShares_5 ?_
        refine V_aldn0 a_X11_returnShares_6 ?_
        refine V_ildn3 a_X11_returnShares_7 ?_
        refine V_iconst a_X11_returnShares_8 ?_
        refine V_icmp_ne_t a_X11_returnShares_9 (by omega) (by omega) ?_
        refine V_iconst a_X11_returnShares_16 ?_
        refine V_iconst a_X11_returnShares_17 ?_
        refine V_v2R a_X11_returnShares_18 c_X11_72 R_fails0 ?_
        refine V_if_ne_f a_X11_returnShares_21 (by omega) (by omega) ?_
        refine V_aldn0 a_X11_returnShares_24 ?_
        refine V_ildn2 a_X11_returnShares_25 ?_
        refine V_i2l a_X11_returnShares_26 (by omega) ?_
        refine V_lconst1 a_X11_returnShares_27 ?_
        refine V_aldn0 a_X11_returnShares_28 ?_
        refine V_ildn3 a_X11_returnShares_29 ?_
        refine V_v1R a_X11_returnShares_30 c_X11_216 (R_quantityAt h0 (by omega)) ?_
        refine V_s3R a_X11_returnShares_33 c_X11_61 r3 ?_
        refine V_if_ne_t a_X11_returnShares_36 (by omega) (by omega) ?_
        refine V_iconst a_X11_returnShares_43 ?_
        refine V_iconst a_X11_returnShares_44 ?_
        refine V_v2R a_X11_returnShares_45 c_X11_72 R_fails0 ?_
        refine V_if_eq_t a_X11_returnShares_48 (by omega) (by omega) ?_
        refine V_aldn0 a_X11_returnShares_53 ?_
        refine V_v0V a_X11_returnShares_54 c_X11_272 r5 ?_
        refine V_aldn0 a_X11_returnShares_57 ?_
        refine V_ildn3 a_X11_returnShares_58 ?_
        refine V_v1R a_X11_returnShares_59 c_X11_216 (R_quantityAt m1 (by omega)) ?_
        refine V_l2i a_X11_returnShares_62 ?_
        refine V_ildn2 a_X11_returnShares_63 ?_
        refine V_isub a_X11_returnShares_64 ?_
        refine V_ist4 a_X11_returnShares_65 ?_
        refine V_aldn0 a_X11_returnShares_67 ?_
        refine V_ildn3 a_X11_returnShares_68 ?_
        refine V_ildn2 a_X11_returnShares_69 ?_
        refine V_i2l a_X11_returnShares_70 (by omega) ?_
        refine V_v2V a_X11_returnShares_71 c_X11_298 r6 ?_
        refine V_aldn0 a_X11_returnShares_74 ?_
        refine V_v0V a_X11_returnShares_75 c_X11_302 r7 ?_
        refine V_ild4 a_X11_returnShares_78 ?_
        exact V_iret a_X11_returnShares_80 (⟨rfl, rfl⟩)
    · rw [if_pos h2]
      refine ⟨fun z => absurd z (by decide), fun _ => ?_⟩
      show V _ 3 0 0 0 [some (vR (some (11, 0))), some (vI n), some (vI q), none, none] [] σ _
      refine V_aldn0 a_X11_returnShares_0 ?_
      refine V_ildn1 a_X11_returnShares_1 ?_
      refine V_v1R a_X11_returnShares_2 c_X11_295 r1 ?_
      refine V_istn3 a_X11_returnShares_5 ?_
      refine V_aldn0 a_X11_returnShares_6 ?_
      refine V_ildn3 a_X11_returnShares_7 ?_
      refine V_iconst a_X11_returnShares_8 ?_
      refine V_icmp_ne_t a_X11_returnShares_9 (by omega) (by omega) ?_
      refine V_iconst a_X11_returnShares_16 ?_
      refine V_iconst a_X11_returnShares_17 ?_
      refine V_v2R a_X11_returnShares_18 c_X11_72 R_fails0 ?_
      refine V_if_ne_f a_X11_returnShares_21 (by omega) (by omega) ?_
      refine V_aldn0 a_X11_returnShares_24 ?_
      refine V_ildn2 a_X11_returnShares_25 ?_
      refine V_i2l a_X11_returnShares_26 (by omega) ?_
      refine V_lconst1 a_X11_returnShares_27 ?_
      refine V_aldn0 a_X11_returnShares_28 ?_
      refine V_ildn3 a_X11_returnShares_29 ?_
      refine V_v1R a_X11_returnShares_30 c_X11_216 (R_quantityAt h0 (by omega)) ?_
      refine V_s3R a_X11_returnShares_33 c_X11_61 r3 ?_
      refine V_if_ne_f a_X11_returnShares_36 (by omega) (by omega) ?_
      refine V_iconst a_X11_returnShares_39 ?_
      refine V_goto a_X11_returnShares_40 ?_
      refine V_iconst a_X11_returnShares_44 ?_
      refine V_v2R a_X11_returnShares_45 c_X11_72 R_fails1 ?_
      refine V_if_eq_f a_X11_returnShares_48 (by omega) (by omega) ?_
      refine V_iconst a_X11_returnShares_51 ?_
      exact V_iret a_X11_returnShares_52 (⟨rfl, by rw [th_th]⟩)
end Mo11

