/-- the earliest due day of all loans, or -1 -/
def fbS (A : St) (k m : Int) : Int := if nduA A k ≠ -1 ∧ (m = -1 ∨ A (83 + 23 * k + 17 + nduA A k) < m) then A (83 + 23 * k + 17 + nduA A k) else m
def fbX (A : St) (n : Int) : Int := itr (fbS A) n (-1)
theorem fbX_s {A : St} {n : Int} (h : 0 ≤ n) : fbX A (n + 1) = fbS A n (fbX A n) := itr_s _ h _
/-- the lowest price at which a borrower owes more than its credit, less one, or -1 -/
def bpA (A : St) (b s : Int) : Int := fst (fun i => decide (A (45 + b) < expoA (upI A (15 + s) (i + 1)) b)) 9999
/-- the greatest and the least of f 0, f 1 .. f l -/
def mxL (f : Int → Int) (l : Int) : Int := itr (fun j m => max m (f (j + 1))) l (f 0)
def mnL (f : Int → Int) (l : Int) : Int := itr (fun j m => min m (f (j + 1))) l (f 0)
theorem mxL_s {f : Int → Int} {l : Int} (h : 0 ≤ l) : mxL f (l + 1) = max (mxL f l) (f (l + 1)) := itr_s _ h _
theorem mnL_s {f : Int → Int} {l : Int} (h : 0 ≤ l) : mnL f (l + 1) = min (mnL f l) (f (l + 1)) := itr_s _ h _
theorem mx_bd {f : Int → Int} {l M : Int} (h : 0 ≤ l) (hf : ∀ j, 0 ≤ j → j ≤ l → 0 ≤ f j ∧ f j ≤ M) : (0 ≤ mnL f l ∧ mnL f l ≤ mxL f l) ∧ mxL f l ≤ M := by
  have h1 := itr_ind (f := fun j m => max m (f (j + 1))) (a := f 0) (fun _ x => 0 ≤ x ∧ x ≤ M ∧ f 0 ≤ x) ⟨(hf 0 (Int.le_refl 0) h).1, (hf 0 (Int.le_refl 0) h).2, Int.le_refl _⟩ h (fun k x k0 k1 hx => by
    have := hf (k + 1) (by omega) (by omega)
    show 0 ≤ max x (f (k + 1)) ∧ max x (f (k + 1)) ≤ M ∧ f 0 ≤ max x (f (k + 1))
    omega)
  have h2 := itr_ind (f := fun j m => min m (f (j + 1))) (a := f 0) (fun _ x => 0 ≤ x ∧ x ≤ f 0) ⟨(hf 0 (Int.le_refl 0) h).1, Int.le_refl _⟩ h (fun k x k0 k1 hx => by
    have := hf (k + 1) (by omega) (by omega)
    show 0 ≤ min x (f (k + 1)) ∧ min x (f (k + 1)) ≤ f 0
    omega)
  have h1 : 0 ≤ mxL f l ∧ mxL f l ≤ M ∧ f 0 ≤ mxL f l := h1
  have h2 : 0 ≤ mnL f l ∧ mnL f l ≤ f 0 := h2
  omega
/-- by how much lenders would differ by a policy -/
def sprA (A : St) (s q p : Int) : Int := mxL (fun l => giveA (upI A 5 p) s q (-1) l + lentA A l s) (A 1 - 1) - mnL (fun l => giveA (upI A 5 p) s q (-1) l + lentA A l s) (A 1 - 1)
def bsC (A : St) (s q : Int) : Int := if ¬ (0 ≤ s ∧ s < A 0) then 1 else if ¬ (1 ≤ q ∧ q ≤ 99999) then 2 else if freeB A (-1) s < q then 3 else 0
def bsS (A : St) (s q p b : Int) : Int := if sprA A s q p < sprA A s q b then p else b
def bsV (A : St) (s q : Int) : Int := bsS A s q 2 (bsS A s q 1 0)
def riS (A : St) (l b : Int) : Int := if c64 (A (73 + (l + 1))) (A (73 + b)) ≤ 0 then b else l + 1
def riA (A : St) : Int := itr (riS A) (A 1 - 1) 0
def totV (A : St) (w : Int) : Int := if w < 3 then A (9 + w) else if w = 3 then sm (fun k => rcqA A k) (A 7) else if w = 4 then sm (fun k => quanA A k * A (15 + A (83 + 23 * k + 2))) (A 7) else sm (fun l => A (73 + l)) (A 1)
theorem c64_bd (x y : Int) : -1 ≤ c64 x y ∧ c64 x y ≤ 1 := by
  unfold c64 cmpI
  split
  · omega
  · split <;> omega
section Qd
variable {D : Int} {σ : Hp} {A : St}
theorem R_accountAfter {d k n : Int} (h : Md D σ A) (hd : iR d) (hk : iR k) (hn : iR n) (hD4 : D + 401 ≤ 20000000) : (((0 ≤ d ∧ d ≤ 400) ∧ isAc A k n) → Cv m_X11_accountAfter 3 0 0 [vR (some (11, 0)), vI d, vI k, vI n] σ (some (vL (balA (dysX A d) k n))) (fun τ => FK [50, 52] [6] σ τ ∧ τ.I 11 0 6 = 0 ∧ ∃ A', Md D τ A' ∧ Eq9 A A')) ∧ (¬ ((0 ≤ d ∧ d ≤ 400) ∧ isAc A k n) → Rt m_X11_accountAfter 3 0 0 [vR (some (11, 0)), vI d, vI k, vI n] σ (some (vL 0)) (σ.th 1)) := by
  have hI := h.2.2.2
  have hnn := hI.n
  obtain ⟨b1, hb1, r1⟩ := B_in (σ := σ) (v := d) (x := 0) (y := 400) (by omega) (by omega) (by omega)
  obtain ⟨b2, hb2, r2⟩ := B_isAccount h hk hn
  refine ⟨fun e => ?_, fun e => ?_⟩
  · have hb3 : b2 = 1 := by
      rcases hb2 with z | z
      · exact z.1
      · exact absurd e.2 z.2
    have e2 : (k = 0 ∧ 0 ≤ n ∧ n < 6) ∨ (k = 1 ∧ 0 ≤ n ∧ n < 4) ∨ ((2 ≤ k ∧ k ≤ 4) ∧ n = 0) := by
      have e := e.2
      unfold isAc at e
      omega
    have hm : Md D (σ.th 0) A := h
    have r3 := R_think (σ := σ.th 0) (A := A) hm.2.1 hm.2.2.1
    have hm2 : Md D ((σ.th 0).rJ 52 0 (mix A ((σ.th 0).J 52 0) 359)) A := hm.rJ (by decide)
    have fk2 : FK [50, 52] [6] σ ((σ.th 0).rJ 52 0 (mix A ((σ.th 0).J 52 0) 359)) := FK.trans (FK.th (by decide)) ((Fm.rJ (by decide)).fk (by decide))
    have j52 : ((σ.th 0).rJ 52 0 (mix A ((σ.th 0).J 52 0) 359)).J 52 0 = mix A ((σ.th 0).J 52 0) 359 := rJ_J
    have i6 : ((σ.th 0).rJ 52 0 (mix A ((σ.th 0).J 52 0) 359)).I 11 0 6 = 0 := by
      show (σ.th 0).I 11 0 6 = 0
      exact setI_I
    generalize (σ.th 0).rJ 52 0 (mix A ((σ.th 0).J 52 0) 359) = τ at r3 hm2 fk2 j52 i6
    have r4 := R_goDays (d := d) hm2 (by omega) hD4
    have r5 := R_bal (σ := τ.rJ 50 0 (dysX A d)) (A := dysX A d) (k := k) (n := n) hm2.2.1 rJ_J e2
    have r6 := R_wake (σ := τ.rJ 50 0 (dysX A d)) hm2.2.1
    obtain ⟨hmw, heq⟩ := th_wk (σ := σ.th 0) (τ := τ.rJ 50 0 (dysX A d)) hm hm2.2.1 (by rw [rJ_ne (by decide)]; exact j52)
    show V _ 3 0 0 0 [some (vR (some (11, 0))), some (vI d), some (vI k), some (vI n), none, none, none, none] [] σ _
    refine V_aldn0 a_X11_accountAfter_0 ?_
    refine V_ildn1 a_X11_accountAfter_1 ?_
    refine V_i2l a_X11_accountAfter_2 (by omega) ?_
    refine V_lconst0 a_X11_accountAfter_3 ?_
    refine V_ldc2 a_X11_accountAfter_4 q_X11_344 ?_
    refine V_s3R a_X11_accountAfter_7 c_X11_61 r1 ?_
    refine V_if_eq_f a_X11_accountAfter_10 (by omega) (by omega) ?_
    refine V_aldn0 a_X11_accountAfter_13 ?_
    refine V_ildn2 a_X11_accountAfter_14 ?_
    refine V_ildn3 a_X11_accountAfter_15 ?_
    refine V_v2R a_X11_accountAfter_16 c_X11_391 r2 ?_
    refine V_if_ne_t a_X11_accountAfter_19 (by omega) (by omega) ?_
    refine V_iconst a_X11_accountAfter_26 ?_
    refine V_iconst a_X11_accountAfter_27 ?_
    refine V_v2R a_X11_accountAfter_28 c_X11_72 R_fails0 ?_
    refine V_if_eq_t a_X11_accountAfter_31 (by omega) (by omega) ?_
    refine V_aldn0 a_X11_accountAfter_36 ?_
    refine V_v0V a_X11_accountAfter_37 c_X11_405 r3 ?_
    refine V_aldn0 a_X11_accountAfter_40 ?_
    refine V_ildn1 a_X11_accountAfter_41 ?_
    refine V_v1R a_X11_accountAfter_42 c_X11_346 r4 ?_
    refine V_lst4 a_X11_accountAfter_45 ?_
    refine V_aldn0 a_X11_accountAfter_47 ?_
    refine V_ildn2 a_X11_accountAfter_48 ?_
    refine V_ildn3 a_X11_accountAfter_49 ?_
    refine V_v2R a_X11_accountAfter_50 c_X11_394 r5 ?_
    refine V_lst6 a_X11_accountAfter_53 ?_
    refine V_aldn0 a_X11_accountAfter_55 ?_
    refine V_v0V a_X11_accountAfter_56 c_X11_408 r6 ?_
    refine V_lld6 a_X11_accountAfter_59 ?_
    exact V_lret a_X11_accountAfter_61 (⟨rfl, FK.trans (FK.trans fk2 ((Fm.rJ (by decide)).fk (by decide))) ((Fm.rJ (by decide)).fk (by decide)), i6, _, hmw, heq⟩)
  · by_cases q : 0 ≤ d ∧ d ≤ 400
    · have hb3 : b2 = 0 := by
        rcases hb2 with z | z
        · exact absurd ⟨q, z.2⟩ e
        · exact z.1
      show V _ 3 0 0 0 [some (vR (some (11, 0))), some (vI d), some (vI k), some (vI n), none, none, none, none] [] σ _
      refine V_aldn0 a_X11_accountAfter_0 ?_
      refine V_ildn1 a_X11_accountAfter_1 ?_
      refine V_i2l a_X11_accountAfter_2 (by omega) ?_
      refine V_lconst0 a_X11_accountAfter_3 ?_
      refine V_ldc2 a_X11_accountAfter_4 q_X11_344 ?_
      refine V_s3R a_X11_accountAfter_7 c_X11_61 r1 ?_
      refine V_if_eq_f a_X11_accountAfter_10 (by omega) (by omega) ?_
      refine V_aldn0 a_X11_accountAfter_13 ?_
      refine V_ildn2 a_X11_accountAfter_14 ?_
      refine V_ildn3 a_X11_accountAfter_15 ?_
      refine V_v2R a_X11_accountAfter_16 c_X11_391 r2 ?_
      refine V_if_ne_f a_X11_accountAfter_19 (by omega) (by omega) ?_
      refine V_iconst a_X11_accountAfter_22 ?_
      refine V_goto a_X11_accountAfter_23 ?_
      refine V_iconst a_X11_accountAfter_27 ?_
      refine V_v2R a_X11_accountAfter_28 c_X11_72 R_fails1 ?_
      refine V_if_eq_f a_X11_accountAfter_31 (by omega) (by omega) ?_
      refine V_lconst0 a_X11_accountAfter_34 ?_
      exact V_lret a_X11_accountAfter_35 (⟨rfl, rfl⟩)
    · show V _ 3 0 0 0 [some (vR (some (11, 0))), some (vI d), some (vI k), some (vI n), none, none, none, none] [] σ _
      refine V_aldn0 a_X11_accountAfter_0 ?_
      refine V_ildn1 a_X11_accountAfter_1 ?_
      refine V_i2l a_X11_accountAfter_2 (by omega) ?_
      refine V_lconst0 a_X11_accountAfter_3 ?_
      refine V_ldc2 a_X11_accountAfter_4 q_X11_344 ?_
      refine V_s3R a_X11_accountAfter_7 c_X11_61 r1 ?_
      refine V_if_eq_t a_X11_accountAfter_10 (by omega) (by omega) ?_
      refine V_iconst a_X11_accountAfter_22 ?_
      refine V_goto a_X11_accountAfter_23 ?_
      refine V_iconst a_X11_accountAfter_27 ?_
      refine V_v2R a_X11_accountAfter_28 c_X11_72 R_fails1 ?_
      refine V_if_eq_f a_X11_accountAfter_31 (by omega) (by omega) ?_
      refine V_lconst0 a_X11_accountAfter_34 ?_
      exact V_lret a_X11_accountAfter_35 (⟨rfl, rfl⟩)
theorem R_boughtInAfter {d : Int} (h : Md D σ A) (hd : iR d) (hD4 : D + 401 ≤ 20000000) : ((1 ≤ d ∧ d ≤ 400) → Cv m_X11_boughtInAfter 3 0 0 [vR (some (11, 0)), vI d] σ (some (vI (dysX A d 10 - A 10))) (fun τ => FK [50, 52] [6] σ τ ∧ τ.I 11 0 6 = 0 ∧ ∃ A', Md D τ A' ∧ Eq9 A A')) ∧ (¬ (1 ≤ d ∧ d ≤ 400) → Rt m_X11_boughtInAfter 3 0 0 [vR (some (11, 0)), vI d] σ (some (vI 0)) (σ.th 1)) := by
  obtain ⟨b1, hb1, r1⟩ := B_in (σ := σ) (v := d) (x := 1) (y := 400) (by omega) (by omega) (by omega)
  refine ⟨fun e => ?_, fun e => ?_⟩
  · have hm : Md D (σ.th 0) A := h
    have r3 := R_think (σ := σ.th 0) (A := A) hm.2.1 hm.2.2.1
    have hm2 : Md D ((σ.th 0).rJ 52 0 (mix A ((σ.th 0).J 52 0) 359)) A := hm.rJ (by decide)
    have fk2 : FK [50, 52] [6] σ ((σ.th 0).rJ 52 0 (mix A ((σ.th 0).J 52 0) 359)) := FK.trans (FK.th (by decide)) ((Fm.rJ (by decide)).fk (by decide))
    have j52 : ((σ.th 0).rJ 52 0 (mix A ((σ.th 0).J 52 0) 359)).J 52 0 = mix A ((σ.th 0).J 52 0) 359 := rJ_J
    have i6 : ((σ.th 0).rJ 52 0 (mix A ((σ.th 0).J 52 0) 359)).I 11 0 6 = 0 := by
      show (σ.th 0).I 11 0 6 = 0
      exact setI_I
    generalize (σ.th 0).rJ 52 0 (mix A ((σ.th 0).J 52 0) 359) = τ at r3 hm2 fk2 j52 i6
    have r4 := R_goDays (d := d) hm2 (by omega) hD4
    have r6 := R_wake (σ := τ.rJ 50 0 (dysX A d)) hm2.2.1
    obtain ⟨hmw, heq⟩ := th_wk (σ := σ.th 0) (τ := τ.rJ 50 0 (dysX A d)) hm hm2.2.1 (by rw [rJ_ne (by decide)]; exact j52)
    show V _ 3 0 0 0 [some (vR (some (11, 0))), some (vI d), none, none] [] σ _
    refine V_aldn0 a_X11_boughtInAfter_0 ?_
    refine V_ildn1 a_X11_boughtInAfter_1 ?_
    refine V_i2l a_X11_boughtInAfter_2 (by omega) ?_
    refine V_lconst1 a_X11_boughtInAfter_3 ?_
    refine V_ldc2 a_X11_boughtInAfter_4 q_X11_344 ?_
    refine V_s3R a_X11_boughtInAfter_7 c_X11_61 r1 ?_
    refine V_if_ne_t a_X11_boughtInAfter_10 (by omega) (by omega) ?_
    refine V_iconst a_X11_boughtInAfter_17 ?_
    refine V_iconst a_X11_boughtInAfter_18 ?_
    refine V_v2R a_X11_boughtInAfter_19 c_X11_72 R_fails0 ?_
    refine V_if_eq_t a_X11_boughtInAfter_22 (by omega) (by omega) ?_
    refine V_aldn0 a_X11_boughtInAfter_27 ?_
    refine V_v0V a_X11_boughtInAfter_28 c_X11_405 r3 ?_
    refine V_aldn0 a_X11_boughtInAfter_31 ?_
    refine V_ildn1 a_X11_boughtInAfter_32 ?_
    refine V_v1R a_X11_boughtInAfter_33 c_X11_346 r4 ?_
    refine V_lstn2 a_X11_boughtInAfter_36 ?_
    refine V_aldn0 a_X11_boughtInAfter_37 ?_
    refine V_v0V a_X11_boughtInAfter_38 c_X11_408 r6 ?_
    refine V_lldn2 a_X11_boughtInAfter_41 ?_
    refine V_l2i a_X11_boughtInAfter_42 ?_
    exact V_iret a_X11_boughtInAfter_43 (⟨rfl, FK.trans (FK.trans fk2 ((Fm.rJ (by decide)).fk (by decide))) ((Fm.rJ (by decide)).fk (by decide)), i6, _, hmw, heq⟩)
  · show V _ 3 0 0 0 [some (vR (some (11, 0))), some (vI d), none, none] [] σ _
    refine V_aldn0 a_X11_boughtInAfter_0 ?_
    refine V_ildn1 a_X11_boughtInAfter_1 ?_
    refine V_i2l a_X11_boughtInAfter_2 (by omega) ?_
    refine V_lconst1 a_X11_boughtInAfter_3 ?_
    refine V_ldc2 a_X11_boughtInAfter_4 q_X11_344 ?_
    refine V_s3R a_X11_boughtInAfter_7 c_X11_61 r1 ?_
    refine V_if_ne_f a_X11_boughtInAfter_10 (by omega) (by omega) ?_
    refine V_iconst a_X11_boughtInAfter_13 ?_
    refine V_goto a_X11_boughtInAfter_14 ?_
    refine V_iconst a_X11_boughtInAfter_18 ?_
    refine V_v2R a_X11_boughtInAfter_19 c_X11_72 R_fails1 ?_
    refine V_if_eq_f a_X11_boughtInAfter_22 (by omega) (by omega) ?_
    refine V_iconst a_X11_boughtInAfter_25 ?_
    exact V_iret a_X11_boughtInAfter_26 (⟨rfl, rfl⟩)
theorem fb_bd (hI : Inv D A) {n : Int} (n0 : 0 ≤ n) (n1 : n ≤ A 7) : fbX A n = -1 ∨ (A 6 ≤ fbX A n ∧ fbX A n ≤ A 6 + 30) := by
  have hn := hI.n
  refine itr_ind (f := fbS A) (a := (-1 : Int)) (fun _ x => x = -1 ∨ (A 6 ≤ x ∧ x ≤ A 6 + 30)) (Or.inl rfl) n0 (fun k x k0 k1 hx => ?_)
  unfold fbS
  split
  · rename_i q
    have hnd := ndX_ok (rc := fun l => A (83 + 23 * k + 11 + l)) (du := fun l => A (83 + 23 * k + 17 + l)) (n := A 1) (by omega)
    change (nduA A k = -1 ∧ _) ∨ ((0 ≤ nduA A k ∧ nduA A k < A 1) ∧ 0 < A (83 + 23 * k + 11 + nduA A k) ∧ _) at hnd
    rcases hnd with z | z
    · exact absurd z.1 q.1
    · have := ((hI.loan k0 (by omega)).sl z.1.1 (by omega)).2.2.1 z.2.1
      exact Or.inr this
  · exact hx
theorem R_firstBuyIn (h : Md D σ A) : (fbX A (A 7) ≠ -1 → Rt m_X11_firstBuyIn 1 0 0 [vR (some (11, 0))] σ (some (vI (fbX A (A 7) + 1 - A 6))) (σ.th 0)) ∧ (fbX A (A 7) = -1 → Rt m_X11_firstBuyIn 1 0 0 [vR (some (11, 0))] σ (some (vI 0)) (σ.th 1)) := by
  have h' := h
  obtain ⟨hD, hW, hA, hI⟩ := h
  have hn := hI.n
  have body : ∀ Q : Res → Hp → Prop, (∀ x4 x5 : Option AV, V m_X11_firstBuyIn 1 0 0 85 [some (vR (some (11, 0))), some (vL (fbX A (A 7))), none, some (vI (A 7)), x4, x5] [] σ Q) → V m_X11_firstBuyIn 1 0 0 0 [some (vR (some (11, 0))), none, none, none, none, none] [] σ Q := fun Q k85 => by
    refine V_ldc2 a_X11_firstBuyIn_0 q_X11_56 ?_
    refine V_lstn1 a_X11_firstBuyIn_3 ?_
    refine V_iconst a_X11_firstBuyIn_4 ?_
    refine V_istn3 a_X11_firstBuyIn_5 ?_
    refine loopI (P := fun k => ∀ x4 x5 : Option AV, V _ 1 0 0 6 [some (vR (some (11, 0))), some (vL (fbX A k)), none, some (vI k), x4, x5] [] σ _) (N := A 7) (by omega) ?_ ?_ none none
    · intro x4 x5
      refine V_ildn3 a_X11_firstBuyIn_6 ?_
      refine V_i2l a_X11_firstBuyIn_7 (by omega) ?_
      refine V_aldn0 a_X11_firstBuyIn_8 ?_
      refine V_fin a_X11_firstBuyIn_9 f_X11_7 rfl hW ?_
      refine V_bipush a_X11_firstBuyIn_12 (by decide) ?_
      refine V_w a_X11_firstBuyIn_14 (by omega) hA ?_
      refine V_lc_ge_t a_X11_firstBuyIn_15 a_X11_firstBuyIn_16 (by omega) (by omega) ?_
      exact k85 _ _
    · intro k k0 k1 ih x4 x5
      have ih := ih (some (vI (83 + 23 * k))) (some (vI (nduA A k)))
      have hb := fb_bd hI k0 (by omega)
      rw [fbX_s k0] at ih
      generalize fbX A k = m at hb ih ⊢
      have hSl := (hI.loan k0 k1).Sl hD (by omega) (by omega) (by omega)
      have hnd := ndX_ok (rc := fun l => A (83 + 23 * k + 11 + l)) (du := fun l => A (83 + 23 * k + 17 + l)) (n := A 1) (by omega)
      change (nduA A k = -1 ∧ _) ∨ ((0 ≤ nduA A k ∧ nduA A k < A 1) ∧ 0 < A (83 + 23 * k + 11 + nduA A k) ∧ _) at hnd
      have rn := R_nextDue hW hA hSl
      unfold fbS at ih
      by_cases q : nduA A k = -1
      · rw [if_neg (fun z => z.1 q)] at ih
        refine V_ildn3 a_X11_firstBuyIn_6 ?_
        refine V_i2l a_X11_firstBuyIn_7 (by omega) ?_
        refine V_aldn0 a_X11_firstBuyIn_8 ?_
        refine V_fin a_X11_firstBuyIn_9 f_X11_7 rfl hW ?_
        refine V_bipush a_X11_firstBuyIn_12 (by decide) ?_
        refine V_w a_X11_firstBuyIn_14 (by omega) hA ?_
        refine V_lc_ge_f a_X11_firstBuyIn_15 a_X11_firstBuyIn_16 (by omega) (by omega) ?_
        refine V_ildn3 a_X11_firstBuyIn_19 ?_
        refine V_s1R a_X11_firstBuyIn_20 c_X11_197 R_loanAt ?_
        refine V_ist4 a_X11_firstBuyIn_23 ?_
        refine V_aldn0 a_X11_firstBuyIn_25 ?_
        refine V_ild4 a_X11_firstBuyIn_26 ?_
        refine V_v1R a_X11_firstBuyIn_28 c_X11_282 rn ?_
        refine V_ist5 a_X11_firstBuyIn_31 ?_
        refine V_ild5 a_X11_firstBuyIn_33 ?_
        refine V_iconst a_X11_firstBuyIn_35 ?_
        refine V_icmp_eq_t a_X11_firstBuyIn_36 (by omega) (by omega) ?_
        refine V_inc3 a_X11_firstBuyIn_79 ?_
        refine V_goto a_X11_firstBuyIn_82 ?_
        exact ih
      · have hd : A 6 ≤ A (83 + 23 * k + 17 + nduA A k) ∧ A (83 + 23 * k + 17 + nduA A k) ≤ A 6 + 30 := by
          rcases hnd with z | z
          · exact absurd z.1 q
          · exact ((hI.loan k0 k1).sl z.1.1 (by omega)).2.2.1 z.2.1
        by_cases q2 : m = -1
        · rw [if_pos ⟨q, Or.inl q2⟩] at ih
          refine V_ildn3 a_X11_firstBuyIn_6 ?_
          refine V_i2l a_X11_firstBuyIn_7 (by omega) ?_
          refine V_aldn0 a_X11_firstBuyIn_8 ?_
          refine V_fin a_X11_firstBuyIn_9 f_X11_7 rfl hW ?_
          refine V_bipush a_X11_firstBuyIn_12 (by decide) ?_
          refine V_w a_X11_firstBuyIn_14 (by omega) hA ?_
          refine V_lc_ge_f a_X11_firstBuyIn_15 a_X11_firstBuyIn_16 (by omega) (by omega) ?_
          refine V_ildn3 a_X11_firstBuyIn_19 ?_
          refine V_s1R a_X11_firstBuyIn_20 c_X11_197 R_loanAt ?_
          refine V_ist4 a_X11_firstBuyIn_23 ?_
          refine V_aldn0 a_X11_firstBuyIn_25 ?_
          refine V_ild4 a_X11_firstBuyIn_26 ?_
          refine V_v1R a_X11_firstBuyIn_28 c_X11_282 rn ?_
          refine V_ist5 a_X11_firstBuyIn_31 ?_
          refine V_ild5 a_X11_firstBuyIn_33 ?_
          refine V_iconst a_X11_firstBuyIn_35 ?_
          refine V_icmp_eq_f a_X11_firstBuyIn_36 (by omega) (by omega) ?_
          refine V_lldn1 a_X11_firstBuyIn_39 ?_
          refine V_ldc2 a_X11_firstBuyIn_40 q_X11_56 ?_
          refine V_lc_eq_t a_X11_firstBuyIn_43 a_X11_firstBuyIn_44 (by omega) (by omega) ?_
          refine V_aldn0 a_X11_firstBuyIn_65 ?_
          refine V_fin a_X11_firstBuyIn_66 f_X11_7 rfl hW ?_
          refine V_ild4 a_X11_firstBuyIn_69 ?_
          refine V_bipush a_X11_firstBuyIn_71 (by decide) ?_
          refine V_iadd a_X11_firstBuyIn_73 ?_
          refine V_ild5 a_X11_firstBuyIn_74 ?_
          refine V_iadd a_X11_firstBuyIn_76 ?_
          refine V_w a_X11_firstBuyIn_77 (by omega) hA ?_
          refine V_lstn1 a_X11_firstBuyIn_78 ?_
          refine V_inc3 a_X11_firstBuyIn_79 ?_
          refine V_goto a_X11_firstBuyIn_82 ?_
          exact ih
        · by_cases q3 : A (83 + 23 * k + 17 + nduA A k) < m
          · rw [if_pos ⟨q, Or.inr q3⟩] at ih
            refine V_ildn3 a_X11_firstBuyIn_6 ?_
            refine V_i2l a_X11_firstBuyIn_7 (by omega) ?_
            refine V_aldn0 a_X11_firstBuyIn_8 ?_
            refine V_fin a_X11_firstBuyIn_9 f_X11_7 rfl hW ?_
            refine V_bipush a_X11_firstBuyIn_12 (by decide) ?_
            refine V_w a_X11_firstBuyIn_14 (by omega) hA ?_
            refine V_lc_ge_f a_X11_firstBuyIn_15 a_X11_firstBuyIn_16 (by omega) (by omega) ?_
            refine V_ildn3 a_X11_firstBuyIn_19 ?_
            refine V_s1R a_X11_firstBuyIn_20 c_X11_197 R_loanAt ?_
            refine V_ist4 a_X11_firstBuyIn_23 ?_
            refine V_aldn0 a_X11_firstBuyIn_25 ?_
            refine V_ild4 a_X11_firstBuyIn_26 ?_
            refine V_v1R a_X11_firstBuyIn_28 c_X11_282 rn ?_
            refine V_ist5 a_X11_firstBuyIn_31 ?_
            refine V_ild5 a_X11_firstBuyIn_33 ?_
            refine V_iconst a_X11_firstBuyIn_35 ?_
            refine V_icmp_eq_f a_X11_firstBuyIn_36 (by omega) (by omega) ?_
            refine V_lldn1 a_X11_firstBuyIn_39 ?_
            refine V_ldc2 a_X11_firstBuyIn_40 q_X11_56 ?_
            refine V_lc_eq_f a_X11_firstBuyIn_43 a_X11_firstBuyIn_44 (by omega) (by omega) ?_
            refine V_aldn0 a_X11_firstBuyIn_47 ?_
            refine V_fin a_X11_firstBuyIn_48 f_X11_7 rfl hW ?_
            refine V_ild4 a_X11_firstBuyIn_51 ?_
            refine V_bipush a_X11_firstBuyIn_53 (by decide) ?_
            refine V_iadd a_X11_firstBuyIn_55 ?_
            refine V_ild5 a_X11_firstBuyIn_56 ?_
            refine V_iadd a_X11_firstBuyIn_58 ?_
            refine V_w a_X11_firstBuyIn_59 (by omega) hA ?_
            refine V_lldn1 a_X11_firstBuyIn_60 ?_
            refine V_lc_ge_f a_X11_firstBuyIn_61 a_X11_firstBuyIn_62 (by omega) (by omega) ?_
            refine V_aldn0 a_X11_firstBuyIn_65 ?_
            refine V_fin a_X11_firstBuyIn_66 f_X11_7 rfl hW ?_
            refine V_ild4 a_X11_firstBuyIn_69 ?_
            refine V_bipush a_X11_firstBuyIn_71 (by decide) ?_
            refine V_iadd a_X11_firstBuyIn_73 ?_
            refine V_ild5 a_X11_firstBuyIn_74 ?_
            refine V_iadd a_X11_firstBuyIn_76 ?_
            refine V_w a_X11_firstBuyIn_77 (by omega) hA ?_
            refine V_lstn1 a_X11_firstBuyIn_78 ?_
            refine V_inc3 a_X11_firstBuyIn_79 ?_
            refine V_goto a_X11_firstBuyIn_82 ?_
            exact ih
          · rw [if_neg (fun z => by rcases z.2 with y | y; exact q2 y; exact q3 y)] at ih
            refine V_ildn3 a_X11_firstBuyIn_6 ?_
            refine V_i2l a_X11_firstBuyIn_7 (by omega) ?_
            refine V_aldn0 a_X11_firstBuyIn_8 ?_
            refine V_fin a_X11_firstBuyIn_9 f_X11_7 rfl hW ?_
            refine V_bipush a_X11_firstBuyIn_12 (by decide) ?_
            refine V_w a_X11_firstBuyIn_14 (by omega) hA ?_
            refine V_lc_ge_f a_X11_firstBuyIn_15 a_X11_firstBuyIn_16 (by omega) (by omega) ?_
            refine V_ildn3 a_X11_firstBuyIn_19 ?_
            refine V_s1R a_X11_firstBuyIn_20 c_X11_197 R_loanAt ?_
            refine V_ist4 a_X11_firstBuyIn_23 ?_
            refine V_aldn0 a_X11_firstBuyIn_25 ?_
            refine V_ild4 a_X11_firstBuyIn_26 ?_
            refine V_v1R a_X11_firstBuyIn_28 c_X11_282 rn ?_
            refine V_ist5 a_X11_firstBuyIn_31 ?_
            refine V_ild5 a_X11_firstBuyIn_33 ?_
            refine V_iconst a_X11_firstBuyIn_35 ?_
            refine V_icmp_eq_f a_X11_firstBuyIn_36 (by omega) (by omega) ?_
            refine V_lldn1 a_X11_firstBuyIn_39 ?_
            refine V_ldc2 a_X11_firstBuyIn_40 q_X11_56 ?_
            refine V_lc_eq_f a_X11_firstBuyIn_43 a_X11_firstBuyIn_44 (by omega) (by omega) ?_
            refine V_aldn0 a_X11_firstBuyIn_47 ?_
            refine V_fin a_X11_firstBuyIn_48 f_X11_7 rfl hW ?_
            refine V_ild4 a_X11_firstBuyIn_51 ?_
            refine V_bipush a_X11_firstBuyIn_53 (by decide) ?_
            refine V_iadd a_X11_firstBuyIn_55 ?_
            refine V_ild5 a_X11_firstBuyIn_56 ?_
            refine V_iadd a_X11_firstBuyIn_58 ?_
            refine V_w a_X11_firstBuyIn_59 (by omega) hA ?_
            refine V_lldn1 a_X11_firstBuyIn_60 ?_
            refine V_lc_ge_t a_X11_firstBuyIn_61 a_X11_firstBuyIn_62 (by omega) (by omega) ?_
            refine V_inc3 a_X11_firstBuyIn_79 ?_
            refine V_goto a_X11_firstBuyIn_82 ?_
            exact ih
  have hb := fb_bd hI (n := A 7) (by omega) (Int.le_refl _)
  refine ⟨fun e => body _ (fun x4 x5 => ?_), fun e => body _ (fun x4 x5 => ?_)⟩
  · refine V_aldn0 a_X11_firstBuyIn_85 ?_
    refine V_lldn1 a_X11_firstBuyIn_86 ?_
    refine V_ldc2 a_X11_firstBuyIn_87 q_X11_56 ?_
    refine V_lc_ne_t a_X11_firstBuyIn_90 a_X11_firstBuyIn_91 (by omega) (by omega) ?_
    refine V_iconst a_X11_firstBuyIn_98 ?_
    refine V_iconst a_X11_firstBuyIn_99 ?_
    refine V_v2R a_X11_firstBuyIn_100 c_X11_72 R_fails0 ?_
    refine V_if_eq_t a_X11_firstBuyIn_103 (by omega) (by omega) ?_
    refine V_lldn1 a_X11_firstBuyIn_110 ?_
    refine V_lconst1 a_X11_firstBuyIn_111 ?_
    refine V_ladd a_X11_firstBuyIn_112 ?_
    refine V_aldn0 a_X11_firstBuyIn_113 ?_
    refine V_fin a_X11_firstBuyIn_114 f_X11_7 rfl hW ?_
    refine V_bipush a_X11_firstBuyIn_117 (by decide) ?_
    refine V_w a_X11_firstBuyIn_119 (by omega) hA ?_
    refine V_lsub a_X11_firstBuyIn_120 ?_
    refine V_l2i a_X11_firstBuyIn_121 ?_
    exact V_iret a_X11_firstBuyIn_122 (⟨rfl, rfl⟩)
  · refine V_aldn0 a_X11_firstBuyIn_85 ?_
    refine V_lldn1 a_X11_firstBuyIn_86 ?_
    refine V_ldc2 a_X11_firstBuyIn_87 q_X11_56 ?_
    refine V_lc_ne_f a_X11_firstBuyIn_90 a_X11_firstBuyIn_91 (by omega) (by omega) ?_
    refine V_iconst a_X11_firstBuyIn_94 ?_
    refine V_goto a_X11_firstBuyIn_95 ?_
    refine V_iconst a_X11_firstBuyIn_99 ?_
    refine V_v2R a_X11_firstBuyIn_100 c_X11_72 R_fails1 ?_
    refine V_if_eq_f a_X11_firstBuyIn_103 (by omega) (by omega) ?_
    refine V_iconst a_X11_firstBuyIn_106 ?_
    refine V_goto a_X11_firstBuyIn_107 ?_
    exact V_iret a_X11_firstBuyIn_122 (⟨rfl, rfl⟩)
theorem pr_inv (hI : Inv D A) {s p : Int} (hs : 0 ≤ s ∧ s < A 0) (hp : 1 ≤ p ∧ p ≤ 9999) : Inv D (upI A (15 + s) p) := inv_set hI (Or.inl ⟨s, rfl, by have := hI.n; omega, hp⟩)
theorem R_breakingPrice {b s : Int} (h : Md D σ A) (hb : iR b) (hs : iR s) : (boC A b s ≠ 0 → Rt m_X11_breakingPrice 3 0 0 [vR (some (11, 0)), vI b, vI s] σ (some (vI 0)) (σ.th 1)) ∧ (boC A b s = 0 → (bpA A b s ≠ -1 → Cv m_X11_breakingPrice 3 0 0 [vR (some (11, 0)), vI b, vI s] σ (some (vI (bpA A b s + 1))) (fun τ => FK [50, 52] [6] σ τ ∧ τ.I 11 0 6 = 0 ∧ Md D τ A)) ∧ (bpA A b s = -1 → Cv m_X11_breakingPrice 3 0 0 [vR (some (11, 0)), vI b, vI s] σ (some (vI 0)) (fun τ => FK [50, 52] [6] σ τ ∧ τ.I 11 0 6 = 2 ∧ Md D τ A))) := by
  have hI := h.2.2.2
  have hn := hI.n
  obtain ⟨b1, hb1, r1⟩ := B_isBorrower (l := b) h hb
  obtain ⟨b2, hb2, r2⟩ := B_isSecurity (s := s) h hs
  unfold boC
  by_cases h1 : (0 ≤ b ∧ b < A 2) ∧ 0 ≤ s ∧ s < A 0
  · rw [if_pos h1]
    refine ⟨fun z => absurd rfl z, fun _ => ?_⟩
    have hcr := hI.cred h1.1.1 h1.1.2
    have hm : Md D (σ.th 0) A := h
    have r3 := R_think (σ := σ.th 0) (A := A) hm.2.1 hm.2.2.1
    have hm2 : Md D ((σ.th 0).rJ 52 0 (mix A ((σ.th 0).J 52 0) 359)) A := hm.rJ (by decide)
    have fk2 : FK [50, 52] [6] σ ((σ.th 0).rJ 52 0 (mix A ((σ.th 0).J 52 0) 359)) := FK.trans (FK.th (by decide)) ((Fm.rJ (by decide)).fk (by decide))
    have j52 : ((σ.th 0).rJ 52 0 (mix A ((σ.th 0).J 52 0) 359)).J 52 0 = mix A ((σ.th 0).J 52 0) 359 := rJ_J
    have i6 : ((σ.th 0).rJ 52 0 (mix A ((σ.th 0).J 52 0) 359)).I 11 0 6 = 0 := by
      show (σ.th 0).I 11 0 6 = 0
      exact setI_I
    generalize (σ.th 0).rJ 52 0 (mix A ((σ.th 0).J 52 0) 359) = τ at r3 hm2 fk2 j52 i6
    have hW := hm2.2.1
    have hsp := fst_spec (fun i => decide (A (45 + b) < expoA (upI A (15 + s) (i + 1)) b)) 9999
    change (bpA A b s = -1 ∧ _) ∨ (0 ≤ bpA A b s ∧ bpA A b s < 9999 ∧ decide (A (45 + b) < expoA (upI A (15 + s) (bpA A b s + 1)) b) = true ∧ ∀ j, 0 ≤ j → j < bpA A b s → decide (A (45 + b) < expoA (upI A (15 + s) (j + 1)) b) = false) at hsp
    -- the end of the search
    have fin : ∀ p : Int, 1 ≤ p ∧ p ≤ 10000 → ∀ Q : Res → Hp → Prop, (∀ ρ, FK [50, 52] [6] σ ρ → ρ.I 11 0 6 = (if p = 10000 then 2 else 0) → Md D ρ A → Q (.inl (some (vI (if p = 10000 then 0 else p)))) ρ) → V m_X11_breakingPrice 3 0 0 76 [some (vR (some (11, 0))), some (vI b), some (vI s), some (vI p)] [] (τ.rJ 50 0 (upI A (15 + s) p)) Q := fun p hp Q hQ => by
      have r6 := R_wake (σ := τ.rJ 50 0 (upI A (15 + s) p)) hm2.2.1
      obtain ⟨hmw, heq⟩ := th_wk (σ := σ.th 0) (τ := τ.rJ 50 0 (upI A (15 + s) p)) hm hm2.2.1 (by rw [rJ_ne (by decide)]; exact j52)
      rw [rJ_J, mix_back (fun j hj => upI_ne (by omega))] at hmw
      have fk3 : FK [50, 52] [6] σ ((τ.rJ 50 0 (upI A (15 + s) p)).rJ 50 0 (mix ((τ.rJ 50 0 (upI A (15 + s) p)).J 52 0) (upI A (15 + s) p) 359)) := FK.trans (FK.trans fk2 ((Fm.rJ (by decide)).fk (by decide))) ((Fm.rJ (by decide)).fk (by decide))
      rw [rJ_J] at r6
      generalize (τ.rJ 50 0 (upI A (15 + s) p)).rJ 50 0 (mix ((τ.rJ 50 0 (upI A (15 + s) p)).J 52 0) (upI A (15 + s) p) 359) = ρ at r6 hmw fk3
      by_cases q : p = 10000
      · refine V_aldn0 a_X11_breakingPrice_76 ?_
        refine V_v0V a_X11_breakingPrice_77 c_X11_408 r6 ?_
        refine V_aldn0 a_X11_breakingPrice_80 ?_
        refine V_ildn3 a_X11_breakingPrice_81 ?_
        refine V_sipush a_X11_breakingPrice_82 (by decide) ?_
        refine V_icmp_ne_f a_X11_breakingPrice_85 (by omega) (by omega) ?_
        refine V_iconst a_X11_breakingPrice_88 ?_
        refine V_goto a_X11_breakingPrice_89 ?_
        refine V_iconst a_X11_breakingPrice_93 ?_
        refine V_v2R a_X11_breakingPrice_94 c_X11_72 R_fails1 ?_
        refine V_if_eq_f a_X11_breakingPrice_97 (by omega) (by omega) ?_
        refine V_iconst a_X11_breakingPrice_100 ?_
        refine V_goto a_X11_breakingPrice_101 ?_
        exact V_iret a_X11_breakingPrice_105 ((by have z := hQ (ρ.th 2) (fk3.trans (FK.th (by decide))) (by rw [if_pos q]; exact setI_I) hmw; rw [if_pos q] at z; exact z))
      · refine V_aldn0 a_X11_breakingPrice_76 ?_
        refine V_v0V a_X11_breakingPrice_77 c_X11_408 r6 ?_
        refine V_aldn0 a_X11_breakingPrice_80 ?_
        refine V_ildn3 a_X11_breakingPrice_81 ?_
        refine V_sipush a_X11_breakingPrice_82 (by decide) ?_
        refine V_icmp_ne_t a_X11_breakingPrice_85 (by omega) (by omega) ?_
        refine V_iconst a_X11_breakingPrice_92 ?_
        refine V_iconst a_X11_breakingPrice_93 ?_
        refine V_v2R a_X11_breakingPrice_94 c_X11_72 R_fails0 ?_
        refine V_if_eq_t a_X11_breakingPrice_97 (by omega) (by omega) ?_
        refine V_ildn3 a_X11_breakingPrice_104 ?_
        exact V_iret a_X11_breakingPrice_105 ((by have z := hQ (ρ.th 0) (fk3.trans (FK.th (by decide))) (by rw [if_neg q]; exact setI_I) hmw; rw [if_neg q] at z; exact z))
    have head : ∀ (p : Int) (B : St) (Q : Res → Hp → Prop), 0 ≤ p ∧ p < 10000 → (B = A ∨ B = upI A (15 + s) p) → V m_X11_breakingPrice 3 0 0 51 [some (vR (some (11, 0))), some (vI b), some (vI s), some (vI (p + 1))] [] (τ.rJ 50 0 (upI A (15 + s) (p + 1))) Q → V m_X11_breakingPrice 3 0 0 37 [some (vR (some (11, 0))), some (vI b), some (vI s), some (vI p)] [] (τ.rJ 50 0 B) Q := fun p B Q hp hB k51 => by
      have eB : upI B (15 + s) (p + 1) = upI A (15 + s) (p + 1) := by
        rcases hB with rfl | rfl
        · rfl
        · funext j
          unfold upI
          by_cases q : j = 15 + s
          · rw [if_pos q, if_pos q]
          · rw [if_neg q, if_neg q, if_neg q]
      refine V_inc3 a_X11_breakingPrice_37 ?_
      refine V_aldn0 a_X11_breakingPrice_40 ?_
      refine V_fin a_X11_breakingPrice_41 f_X11_7 rfl hW ?_
      refine V_bipush a_X11_breakingPrice_44 (by decide) ?_
      refine V_ildn2 a_X11_breakingPrice_46 ?_
      refine V_iadd a_X11_breakingPrice_47 ?_
      refine V_ildn3 a_X11_breakingPrice_48 ?_
      refine V_i2l a_X11_breakingPrice_49 (by omega) ?_
      refine V_last a_X11_breakingPrice_50 rfl (by omega) ?_
      rw [rJ_set, eB]
      exact k51
    have startA : τ.rJ 50 0 A = τ := by
      rw [← hm2.2.2.1]
      exact rJ_self
    -- one price after another, up to the first that breaks
    have srch : ∀ N : Int, 1 ≤ N ∧ N ≤ 10000 → (∀ j, 0 ≤ j → j < N - 1 → ¬ A (45 + b) < expoA (upI A (15 + s) (j + 1)) b) → ∀ Q : Res → Hp → Prop, V m_X11_breakingPrice 3 0 0 51 [some (vR (some (11, 0))), some (vI b), some (vI s), some (vI N)] [] (τ.rJ 50 0 (upI A (15 + s) N)) Q → V m_X11_breakingPrice 3 0 0 37 [some (vR (some (11, 0))), some (vI b), some (vI s), some (vI 0)] [] τ Q := fun N hN hno Q k51 => by
      have key : V m_X11_breakingPrice 3 0 0 51 [some (vR (some (11, 0))), some (vI b), some (vI s), some (vI 1)] [] (τ.rJ 50 0 (upI A (15 + s) 1)) Q := by
        refine loopF (P := fun k => V m_X11_breakingPrice 3 0 0 51 [some (vR (some (11, 0))), some (vI b), some (vI s), some (vI k)] [] (τ.rJ 50 0 (upI A (15 + s) k)) Q) (a := 1) (N := N) hN.1 k51 ?_
        intro k k0 k1 ih
        have hno := hno (k - 1) (by omega) (by omega)
        rw [show k - 1 + 1 = k by omega] at hno
        have iP := pr_inv hI h1.2 (p := k) (by omega)
        have hex := expo_bd iP b
        have hmk : Md D (τ.rJ 50 0 (upI A (15 + s) k)) (upI A (15 + s) k) := ⟨h.1, hW, rJ_J, iP⟩
        have hA := hmk.2.2.1
        have e45 : upI A (15 + s) k (45 + b) = A (45 + b) := upI_ne (by omega)
        have ih2 := head k (upI A (15 + s) k) Q (by omega) (Or.inr rfl) ih
        refine V_ildn3 a_X11_breakingPrice_51 ?_
        refine V_sipush a_X11_breakingPrice_52 (by decide) ?_
        refine V_icmp_ge_f a_X11_breakingPrice_55 (by omega) (by omega) ?_
        refine V_aldn0 a_X11_breakingPrice_58 ?_
        refine V_ildn1 a_X11_breakingPrice_59 ?_
        refine V_v1R a_X11_breakingPrice_60 c_X11_253 (R_exposureOf hmk (by omega)) ?_
        refine V_aldn0 a_X11_breakingPrice_63 ?_
        refine V_fin a_X11_breakingPrice_64 f_X11_7 rfl hW ?_
        refine V_bipush a_X11_breakingPrice_67 (by decide) ?_
        refine V_ildn1 a_X11_breakingPrice_69 ?_
        refine V_iadd a_X11_breakingPrice_70 ?_
        refine V_w a_X11_breakingPrice_71 (by omega) hA ?_
        refine V_lc_le_t a_X11_breakingPrice_72 a_X11_breakingPrice_73 (by omega) (by omega) ?_
        exact ih2
      have z := head 0 A Q (by omega) (Or.inl rfl) (by rw [show (0 : Int) + 1 = 1 from rfl]; exact key)
      rw [startA] at z
      exact z
    refine ⟨fun e2 => ?_, fun e2 => ?_⟩
    · rcases hsp with z | ⟨p0, p1, pt, pn⟩
      · exact absurd z.1 e2
      · have pt := of_decide_eq_true pt
        have iP := pr_inv hI h1.2 (p := bpA A b s + 1) (by omega)
        have hex := expo_bd iP b
        have hmk : Md D (τ.rJ 50 0 (upI A (15 + s) (bpA A b s + 1))) (upI A (15 + s) (bpA A b s + 1)) := ⟨h.1, hW, rJ_J, iP⟩
        have hA := hmk.2.2.1
        have e45 : upI A (15 + s) (bpA A b s + 1) (45 + b) = A (45 + b) := upI_ne (by omega)
        generalize bpA A b s = p at p0 p1 pt pn iP hex hmk hA e45 e2 ⊢
        show V _ 3 0 0 0 [some (vR (some (11, 0))), some (vI b), some (vI s), none] [] σ _
        refine V_aldn0 a_X11_breakingPrice_0 ?_
        refine V_aldn0 a_X11_breakingPrice_1 ?_
        refine V_ildn1 a_X11_breakingPrice_2 ?_
        refine V_v1R a_X11_breakingPrice_3 c_X11_262 r1 ?_
        refine V_if_eq_f a_X11_breakingPrice_6 (by omega) (by omega) ?_
        refine V_aldn0 a_X11_breakingPrice_9 ?_
        refine V_ildn2 a_X11_breakingPrice_10 ?_
        refine V_v1R a_X11_breakingPrice_11 c_X11_69 r2 ?_
        refine V_if_ne_t a_X11_breakingPrice_14 (by omega) (by omega) ?_
        refine V_iconst a_X11_breakingPrice_21 ?_
        refine V_iconst a_X11_breakingPrice_22 ?_
        refine V_v2R a_X11_breakingPrice_23 c_X11_72 R_fails0 ?_
        refine V_if_eq_t a_X11_breakingPrice_26 (by omega) (by omega) ?_
        refine V_aldn0 a_X11_breakingPrice_31 ?_
        refine V_v0V a_X11_breakingPrice_32 c_X11_405 r3 ?_
        refine V_iconst a_X11_breakingPrice_35 ?_
        refine V_istn3 a_X11_breakingPrice_36 ?_
        refine srch (p + 1) (by omega) (fun j j0 j1 => of_decide_eq_false (pn j j0 (by omega))) _ ?_
        refine V_ildn3 a_X11_breakingPrice_51 ?_
        refine V_sipush a_X11_breakingPrice_52 (by decide) ?_
        refine V_icmp_ge_f a_X11_breakingPrice_55 (by omega) (by omega) ?_
        refine V_aldn0 a_X11_breakingPrice_58 ?_
        refine V_ildn1 a_X11_breakingPrice_59 ?_
        refine V_v1R a_X11_breakingPrice_60 c_X11_253 (R_exposureOf hmk (by omega)) ?_
        refine V_aldn0 a_X11_breakingPrice_63 ?_
        refine V_fin a_X11_breakingPrice_64 f_X11_7 rfl hW ?_
        refine V_bipush a_X11_breakingPrice_67 (by decide) ?_
        refine V_ildn1 a_X11_breakingPrice_69 ?_
        refine V_iadd a_X11_breakingPrice_70 ?_
        refine V_w a_X11_breakingPrice_71 (by omega) hA ?_
        refine V_lc_le_f a_X11_breakingPrice_72 a_X11_breakingPrice_73 (by omega) (by omega) ?_
        exact fin (p + 1) (by omega) _ (fun ρ f i m => by rw [if_neg (by omega)] at i ⊢; exact ⟨rfl, f, i, m⟩)
    · rcases hsp with z | z
      · show V _ 3 0 0 0 [some (vR (some (11, 0))), some (vI b), some (vI s), none] [] σ _
        refine V_aldn0 a_X11_breakingPrice_0 ?_
        refine V_aldn0 a_X11_breakingPrice_1 ?_
        refine V_ildn1 a_X11_breakingPrice_2 ?_
        refine V_v1R a_X11_breakingPrice_3 c_X11_262 r1 ?_
        refine V_if_eq_f a_X11_breakingPrice_6 (by omega) (by omega) ?_
        refine V_aldn0 a_X11_breakingPrice_9 ?_
        refine V_ildn2 a_X11_breakingPrice_10 ?_
        refine V_v1R a_X11_breakingPrice_11 c_X11_69 r2 ?_
        refine V_if_ne_t a_X11_breakingPrice_14 (by omega) (by omega) ?_
        refine V_iconst a_X11_breakingPrice_21 ?_
        refine V_iconst a_X11_breakingPrice_22 ?_
        refine V_v2R a_X11_breakingPrice_23 c_X11_72 R_fails0 ?_
        refine V_if_eq_t a_X11_breakingPrice_26 (by omega) (by omega) ?_
        refine V_aldn0 a_X11_breakingPrice_31 ?_
        refine V_v0V a_X11_breakingPrice_32 c_X11_405 r3 ?_
        refine V_iconst a_X11_breakingPrice_35 ?_
        refine V_istn3 a_X11_breakingPrice_36 ?_
        refine srch 10000 (by omega) (fun j j0 j1 => of_decide_eq_false (z.2 j j0 (by omega))) _ ?_
        refine V_ildn3 a_X11_breakingPrice_51 ?_
        refine V_sipush a_X11_breakingPrice_52 (by decide) ?_
        refine V_icmp_ge_t a_X11_breakingPrice_55 (by omega) (by omega) ?_
        exact fin 10000 (by omega) _ (fun ρ f i m => by rw [if_pos rfl] at i ⊢; exact ⟨rfl, f, i, m⟩)
      · omega
  · rw [if_neg h1]
    refine ⟨fun _ => ?_, fun z => absurd z (by decide)⟩
    by_cases q1 : 0 ≤ b ∧ b < A 2
    · show V _ 3 0 0 0 [some (vR (some (11, 0))), some (vI b), some (vI s), none] [] σ _
      refine V_aldn0 a_X11_breakingPrice_0 ?_
      refine V_aldn0 a_X11_breakingPrice_1 ?_
      refine V_ildn1 a_X11_breakingPrice_2 ?_
      refine V_v1R a_X11_breakingPrice_3 c_X11_262 r1 ?_
      refine V_if_eq_f a_X11_breakingPrice_6 (by omega) (by omega) ?_
      refine V_aldn0 a_X11_breakingPrice_9 ?_
      refine V_ildn2 a_X11_breakingPrice_10 ?_
      refine V_v1R a_X11_breakingPrice_11 c_X11_69 r2 ?_
      refine V_if_ne_f a_X11_breakingPrice_14 (by omega) (by omega) ?_
      refine V_iconst a_X11_breakingPrice_17 ?_
      refine V_goto a_X11_breakingPrice_18 ?_
      refine V_iconst a_X11_breakingPrice_22 ?_
      refine V_v2R a_X11_breakingPrice_23 c_X11_72 R_fails1 ?_
      refine V_if_eq_f a_X11_breakingPrice_26 (by omega) (by omega) ?_
      refine V_iconst a_X11_breakingPrice_29 ?_
      exact V_iret a_X11_breakingPrice_30 (⟨rfl, rfl⟩)
    · show V _ 3 0 0 0 [some (vR (some (11, 0))), some (vI b), some (vI s), none] [] σ _
      refine V_aldn0 a_X11_breakingPrice_0 ?_
      refine V_aldn0 a_X11_breakingPrice_1 ?_
      refine V_ildn1 a_X11_breakingPrice_2 ?_
      refine V_v1R a_X11_breakingPrice_3 c_X11_262 r1 ?_
      refine V_if_eq_t a_X11_breakingPrice_6 (by omega) (by omega) ?_
      refine V_iconst a_X11_breakingPrice_17 ?_
      refine V_goto a_X11_breakingPrice_18 ?_
      refine V_iconst a_X11_breakingPrice_22 ?_
      refine V_v2R a_X11_breakingPrice_23 c_X11_72 R_fails1 ?_
      refine V_if_eq_f a_X11_breakingPrice_26 (by omega) (by omega) ?_
      refine V_iconst a_X11_breakingPrice_29 ?_
      exact V_iret a_X11_breakingPrice_30 (⟨rfl, rfl⟩)
end Qd

