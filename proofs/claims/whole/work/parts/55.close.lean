def clS (A : St) (k : Int) (x : St × Int) : St × Int := if quanA A k = 0 then x else (mixO (83 + 23 * x.2) (fun c => A (83 + 23 * k + c)) x.1 23, x.2 + 1)
def clX (A : St) (k : Int) : St × Int := itr (clS A) k (A, 0)
def closeA (A : St) : St := upI (clX A (A 7)).1 7 (clX A (A 7)).2
theorem clX_s {A : St} {k : Int} (h : 0 ≤ k) : clX A (k + 1) = clS A k (clX A k) := itr_s _ h _
/-- all but that every open loan has shares -/
def Inv0 (D : Int) (A : St) : Prop :=
  ((0 ≤ A 0 ∧ A 0 ≤ 4) ∧ (0 ≤ A 1 ∧ A 1 ≤ 6) ∧ (0 ≤ A 2 ∧ A 2 ≤ 4) ∧ (0 ≤ A 3 ∧ A 3 ≤ 30) ∧ (0 ≤ A 4 ∧ A 4 ≤ 100) ∧ (0 ≤ A 5 ∧ A 5 ≤ 2) ∧ (0 ≤ A 6 ∧ A 6 ≤ D) ∧ (0 ≤ A 7 ∧ A 7 ≤ 12) ∧ (0 ≤ A 8 ∧ A 8 ≤ D)) ∧
  (∀ s, 0 ≤ s → s < A 0 → (1 ≤ A (15 + s) ∧ A (15 + s) ≤ 9999) ∧ 0 ≤ A (19 + s) ∧ A (19 + s) ≤ 9999) ∧
  (∀ s, 0 ≤ s → s < 4 → -1 ≤ A (23 + s) ∧ (A (23 + s) = -1 ∨ A (23 + s) < A 1)) ∧
  (∀ l, 0 ≤ l → l < A 1 → (0 ≤ A (27 + l) ∧ A (27 + l) ≤ 100) ∧ (0 ≤ A (33 + l) ∧ A (33 + l) ≤ 100) ∧ 0 ≤ A (39 + l) ∧ A (39 + l) ≤ 100) ∧
  (∀ b, 0 ≤ b → b < A 2 → 0 ≤ A (45 + b) ∧ A (45 + b) ≤ 9999999) ∧
  (∀ l s, 0 ≤ l → l < 6 → 0 ≤ s → s < 4 → 0 ≤ A (49 + 4 * l + s) ∧ A (49 + 4 * l + s) ≤ 99999) ∧
  (∀ k, 0 ≤ k → k < A 7 → LoanIn D A k) ∧
  (∀ j k, 0 ≤ j → j < k → k < A 7 → A (83 + 23 * j + 0) < A (83 + 23 * k + 0)) ∧
  (∀ l s, 0 ≤ l → l < 6 → 0 ≤ s → s < 4 → lentA A l s ≤ A (49 + 4 * l + s))
theorem Inv.w {D : Int} {A : St} (h : Inv D A) : Inv0 D A := ⟨h.1, h.2.1, h.2.2.1, h.2.2.2.1, h.2.2.2.2.1, h.2.2.2.2.2.1, fun k h0 h1 => h.loan h0 h1, h.2.2.2.2.2.2.2.1, h.2.2.2.2.2.2.2.2⟩
theorem Inv0.full {D : Int} {A : St} (h : Inv0 D A) (hq : ∀ k, 0 ≤ k → k < A 7 → 0 < quanA A k) : Inv D A := ⟨h.1, h.2.1, h.2.2.1, h.2.2.2.1, h.2.2.2.2.1, h.2.2.2.2.2.1, fun k h0 h1 => ⟨h.2.2.2.2.2.2.1 k h0 h1, hq k h0 h1⟩, h.2.2.2.2.2.2.2.1, h.2.2.2.2.2.2.2.2⟩
theorem Inv0.loan {D : Int} {A : St} (h : Inv0 D A) {k : Int} (h0 : 0 ≤ k) (h1 : k < A 7) : LoanIn D A k := h.2.2.2.2.2.2.1 k h0 h1
theorem LoanIn.Sl {D : Int} {A : St} {k : Int} (h : LoanIn D A k) (hD : D ≤ 20000000) (h6 : 0 ≤ A 6 ∧ A 6 ≤ D) (h1 : 0 ≤ A 1 ∧ A 1 ≤ 6) (hk : 0 ≤ k ∧ k < 12) : Sl A k := ⟨h1, hk, fun l l0 l1 => by
  have := h.sl l0 l1
  refine ⟨this.1, ?_⟩
  rcases lt_ge 0 (A (83 + 23 * k + 11 + l)) with z | z
  · have := this.2.2.1 z
    omega
  · have := this.2.1 (by omega)
    omega⟩
theorem quan_Sl {A : St} {k : Int} (h : Sl A k) : 0 ≤ quanA A k ∧ quanA A k ≤ 599994 := by
  obtain ⟨hn, hk, hl⟩ := h
  have := sm_bd (f := fun l => A (83 + 23 * k + 5 + l)) (k := A 1) (lo := 0) (hi := 99999) hn.1 (fun l l0 l1 => by
    have := hl l l0 (by omega)
    show 0 ≤ A (83 + 23 * k + 5 + l) ∧ A (83 + 23 * k + 5 + l) ≤ 99999
    omega)
  unfold quanA
  omega
theorem quan_congr {A B : St} {k : Int} (h1 : B 1 = A 1) (h : ∀ l, 0 ≤ l → l < A 1 → B (83 + 23 * k + 5 + l) = A (83 + 23 * k + 5 + l)) : quanA B k = quanA A k := by
  unfold quanA
  rw [h1]
  exact sm_congr (fun l l0 l1 => h l l0 l1)
theorem cl_out {A : St} {k : Int} (k0 : 0 ≤ k) : (0 ≤ (clX A k).2 ∧ (clX A k).2 ≤ k) ∧ ∀ j, (j < 83 ∨ 83 + 23 * k ≤ j) → (clX A k).1 j = A j := by
  refine itr_ind (f := clS A) (a := (A, (0 : Int))) (fun k (x : St × Int) => (0 ≤ x.2 ∧ x.2 ≤ k) ∧ ∀ j, (j < 83 ∨ 83 + 23 * k ≤ j) → x.1 j = A j) ⟨by show 0 ≤ (0 : Int) ∧ (0 : Int) ≤ 0; omega, fun _ _ => rfl⟩ k0 (fun i x i0 i1 hx => ?_)
  unfold clS
  split
  · exact ⟨by omega, fun j hj => hx.2 j (by omega)⟩
  · exact ⟨by show 0 ≤ x.2 + 1 ∧ x.2 + 1 ≤ i + 1; omega, fun j hj => by
      show mixO (83 + 23 * x.2) (fun c => A (83 + 23 * i + c)) x.1 23 j = A j
      rw [mixO_out (by omega)]
      exact hx.2 j (by omega)⟩
section Mo10
variable {D : Int} {σ : Hp} {A : St}
theorem R_qty {k : Int} (hW : WF σ) (hA : σ.J 50 0 = A) (hn : 0 ≤ A 1 ∧ A 1 ≤ 6) (hk : 0 ≤ k ∧ k < 12) : Rt m_X11_quantityAt 0 0 0 [vR (some (11, 0)), vI (83 + 23 * k)] σ (some (vL (quanA A k))) σ := by
  show V _ 0 0 0 0 [some (vR (some (11, 0))), some (vI (83 + 23 * k)), none, none, none] [] σ _
  refine V_lconst0 a_X11_quantityAt_0 ?_
  refine V_lstn2 a_X11_quantityAt_1 ?_
  refine V_iconst a_X11_quantityAt_2 ?_
  refine V_ist4 a_X11_quantityAt_3 ?_
  refine loopI (P := fun l => V _ 0 0 0 5 [some (vR (some (11, 0))), some (vI (83 + 23 * k)), some (vL (sm (fun l => A (83 + 23 * k + 5 + l)) l)), none, some (vI l)] [] σ _) (N := A 1) (by omega) ?_ ?_
  · refine V_ild4 a_X11_quantityAt_5 ?_
    refine V_i2l a_X11_quantityAt_7 (by omega) ?_
    refine V_aldn0 a_X11_quantityAt_8 ?_
    refine V_fin a_X11_quantityAt_9 f_X11_7 rfl hW ?_
    refine V_iconst a_X11_quantityAt_12 ?_
    refine V_w a_X11_quantityAt_13 (by omega) hA ?_
    refine V_lc_ge_t a_X11_quantityAt_14 a_X11_quantityAt_15 (by omega) (by omega) ?_
    refine V_lldn2 a_X11_quantityAt_38 ?_
    exact V_lret a_X11_quantityAt_39 (⟨rfl, rfl⟩)
  · intro l h0 h1 ih
    rw [sm_s _ h0] at ih
    refine V_ild4 a_X11_quantityAt_5 ?_
    refine V_i2l a_X11_quantityAt_7 (by omega) ?_
    refine V_aldn0 a_X11_quantityAt_8 ?_
    refine V_fin a_X11_quantityAt_9 f_X11_7 rfl hW ?_
    refine V_iconst a_X11_quantityAt_12 ?_
    refine V_w a_X11_quantityAt_13 (by omega) hA ?_
    refine V_lc_ge_f a_X11_quantityAt_14 a_X11_quantityAt_15 (by omega) (by omega) ?_
    refine V_lldn2 a_X11_quantityAt_18 ?_
    refine V_aldn0 a_X11_quantityAt_19 ?_
    refine V_fin a_X11_quantityAt_20 f_X11_7 rfl hW ?_
    refine V_ildn1 a_X11_quantityAt_23 ?_
    refine V_iconst a_X11_quantityAt_24 ?_
    refine V_iadd a_X11_quantityAt_25 ?_
    refine V_ild4 a_X11_quantityAt_26 ?_
    refine V_iadd a_X11_quantityAt_28 ?_
    refine V_w a_X11_quantityAt_29 (by omega) hA ?_
    refine V_ladd a_X11_quantityAt_30 ?_
    refine V_lstn2 a_X11_quantityAt_31 ?_
    refine V_inc4 a_X11_quantityAt_32 ?_
    refine V_goto a_X11_quantityAt_35 ?_
    exact ih
theorem R_close (hW : WF σ) (hA : σ.J 50 0 = A) (hn : 0 ≤ A 1 ∧ A 1 ≤ 6) (h7 : 0 ≤ A 7 ∧ A 7 ≤ 12) (hs : ∀ k, 0 ≤ k → k < A 7 → Sl A k) : Rt m_X11_close 1 0 0 [vR (some (11, 0))] σ none (σ.rJ 50 0 (closeA A)) := by
  have hW1 : ∀ B, WF (σ.rJ 50 0 B) := fun _ => hW
  have start : σ.rJ 50 0 (clX A 0).1 = σ := by
    show σ.rJ 50 0 A = σ
    rw [← hA, rJ_self]
  show V _ 1 0 0 0 [some (vR (some (11, 0))), none, none, none] [] σ _
  refine V_iconst a_X11_close_0 ?_
  refine V_istn1 a_X11_close_1 ?_
  refine V_iconst a_X11_close_2 ?_
  refine V_istn2 a_X11_close_3 ?_
  refine (fun z => by rw [start] at z; exact z : V _ 1 0 0 4 [some (vR (some (11, 0))), some (vI (clX A 0).2), some (vI 0), none] [] (σ.rJ 50 0 (clX A 0).1) _ → _) ?_
  refine loopI (P := fun k => ∀ x3 : Option AV, V _ 1 0 0 4 [some (vR (some (11, 0))), some (vI (clX A k).2), some (vI k), x3] [] (σ.rJ 50 0 (clX A k).1) _) (N := A 7) (by omega) ?_ ?_ none
  · intro x3
    have ho := cl_out (A := A) h7.1
    refine V_ildn2 a_X11_close_4 ?_
    refine V_i2l a_X11_close_5 (by omega) ?_
    refine V_aldn0 a_X11_close_6 ?_
    refine V_fin a_X11_close_7 f_X11_7 rfl hW ?_
    refine V_bipush a_X11_close_10 (by decide) ?_
    refine V_laldE a_X11_close_12 rfl (by omega) (v := A 7) (by rw [rJ_J, ho.2 _ (by omega)]) ?_
    refine V_lc_ge_t a_X11_close_13 a_X11_close_14 (by omega) (by omega) ?_
    refine V_aldn0 a_X11_close_78 ?_
    refine V_fin a_X11_close_79 f_X11_7 rfl hW ?_
    refine V_bipush a_X11_close_82 (by decide) ?_
    refine V_ildn1 a_X11_close_84 ?_
    refine V_i2l a_X11_close_85 (by omega) ?_
    refine V_last a_X11_close_86 rfl (by omega) ?_
    rw [rJ_set]
    exact V_ret a_X11_close_87 (⟨rfl, rfl⟩)
  · intro k k0 k1 ih x3
    have ho := cl_out (A := A) k0
    rw [clX_s k0] at ih
    generalize clX A k = x at ho ih ⊢
    have e1 : x.1 1 = A 1 := ho.2 1 (by omega)
    have hq : quanA x.1 k = quanA A k := quan_congr e1 (fun l l0 l1 => ho.2 _ (by omega))
    have hqb := quan_Sl (hs k k0 k1)
    unfold clS at ih
    by_cases q0 : quanA A k = 0
    · rw [if_pos q0] at ih
      refine V_ildn2 a_X11_close_4 ?_
      refine V_i2l a_X11_close_5 (by omega) ?_
      refine V_aldn0 a_X11_close_6 ?_
      refine V_fin a_X11_close_7 f_X11_7 rfl hW ?_
      refine V_bipush a_X11_close_10 (by decide) ?_
      refine V_laldE a_X11_close_12 rfl (by omega) (v := A 7) (by rw [rJ_J, ho.2 _ (by omega)]) ?_
      refine V_lc_ge_f a_X11_close_13 a_X11_close_14 (by omega) (by omega) ?_
      refine V_aldn0 a_X11_close_17 ?_
      refine V_ildn2 a_X11_close_18 ?_
      refine V_s1R a_X11_close_19 c_X11_197 R_loanAt ?_
      refine V_v1R a_X11_close_22 c_X11_216 (R_qty (hW1 x.1) rJ_J (by omega) (by omega)) ?_
      refine V_lconst0 a_X11_close_25 ?_
      refine V_lc_ne_f a_X11_close_26 a_X11_close_27 (by omega) (by omega) ?_
      refine V_goto a_X11_close_30 ?_
      refine V_inc2 a_X11_close_72 ?_
      refine V_goto a_X11_close_75 ?_
      exact ih _
    · rw [if_neg q0] at ih
      refine V_ildn2 a_X11_close_4 ?_
      refine V_i2l a_X11_close_5 (by omega) ?_
      refine V_aldn0 a_X11_close_6 ?_
      refine V_fin a_X11_close_7 f_X11_7 rfl hW ?_
      refine V_bipush a_X11_close_10 (by decide) ?_
      refine V_laldE a_X11_close_12 rfl (by omega) (v := A 7) (by rw [rJ_J, ho.2 _ (by omega)]) ?_
      refine V_lc_ge_f a_X11_close_13 a_X11_close_14 (by omega) (by omega) ?_
      refine V_aldn0 a_X11_close_17 ?_
      refine V_ildn2 a_X11_close_18 ?_
      refine V_s1R a_X11_close_19 c_X11_197 R_loanAt ?_
      refine V_v1R a_X11_close_22 c_X11_216 (R_qty (hW1 x.1) rJ_J (by omega) (by omega)) ?_
      refine V_lconst0 a_X11_close_25 ?_
      refine V_lc_ne_t a_X11_close_26 a_X11_close_27 (by omega) (by omega) ?_
      refine V_iconst a_X11_close_33 ?_
      refine V_istn3 a_X11_close_34 ?_
      refine (fun z => by rw [mixO_0] at z; exact z : V _ 1 0 0 35 [some (vR (some (11, 0))), some (vI x.2), some (vI k), some (vI 0)] [] (σ.rJ 50 0 (mixO (83 + 23 * x.2) (fun c => A (83 + 23 * k + c)) x.1 0)) _ → _) ?_
      refine loopI (P := fun c => V _ 1 0 0 35 [some (vR (some (11, 0))), some (vI x.2), some (vI k), some (vI c)] [] (σ.rJ 50 0 (mixO (83 + 23 * x.2) (fun c => A (83 + 23 * k + c)) x.1 c)) _) (N := 23) (by omega) ?_ ?_
      · refine V_ildn3 a_X11_close_35 ?_
        refine V_bipush a_X11_close_36 (by decide) ?_
        refine V_icmp_ge_t a_X11_close_38 (by omega) (by omega) ?_
        refine V_inc1 a_X11_close_69 ?_
        refine V_inc2 a_X11_close_72 ?_
        refine V_goto a_X11_close_75 ?_
        exact ih _
      · intro c c0 c1 ih2
        rw [← mixO_s c0, ← rJ_set] at ih2
        refine V_ildn3 a_X11_close_35 ?_
        refine V_bipush a_X11_close_36 (by decide) ?_
        refine V_icmp_ge_f a_X11_close_38 (by omega) (by omega) ?_
        refine V_aldn0 a_X11_close_41 ?_
        refine V_fin a_X11_close_42 f_X11_7 rfl hW ?_
        refine V_ildn1 a_X11_close_45 ?_
        refine V_s1R a_X11_close_46 c_X11_197 R_loanAt ?_
        refine V_ildn3 a_X11_close_49 ?_
        refine V_iadd a_X11_close_50 ?_
        refine V_aldn0 a_X11_close_51 ?_
        refine V_fin a_X11_close_52 f_X11_7 rfl hW ?_
        refine V_ildn2 a_X11_close_55 ?_
        refine V_s1R a_X11_close_56 c_X11_197 R_loanAt ?_
        refine V_ildn3 a_X11_close_59 ?_
        refine V_iadd a_X11_close_60 ?_
        refine V_laldE a_X11_close_61 rfl (by omega) (v := A (83 + 23 * k + c)) (by rw [rJ_J, mixO_out (by omega), ho.2 _ (by omega)]) ?_
        refine V_last a_X11_close_62 rfl (by omega) ?_
        refine V_inc3 a_X11_close_63 ?_
        refine V_goto a_X11_close_66 ?_
        exact ih2
end Mo10
/-- which loans stay -/
theorem cl_map {A : St} {k : Int} (hnn : ∀ k, 0 ≤ k → k < A 7 → 0 ≤ quanA A k) (k0 : 0 ≤ k) (k1 : k ≤ A 7) : ∃ p : Int → Int, (∀ i, 0 ≤ i → i < (clX A k).2 → (i ≤ p i ∧ p i < k) ∧ 0 < quanA A (p i) ∧ ∀ c, 0 ≤ c → c < 23 → (clX A k).1 (83 + 23 * i + c) = A (83 + 23 * p i + c)) ∧ (∀ i j, 0 ≤ i → i < j → j < (clX A k).2 → p i < p j) ∧ ∀ F : Int → Int, (∀ k', 0 ≤ k' → k' < k → quanA A k' = 0 → F k' = 0) → sm (fun i => F (p i)) (clX A k).2 = sm F k := by
  have key := itr_ind (f := clS A) (a := (A, (0 : Int))) (n := k) (fun k (x : St × Int) => (0 ≤ x.2 ∧ x.2 ≤ k) ∧ ∃ p : Int → Int, (∀ i, 0 ≤ i → i < x.2 → (i ≤ p i ∧ p i < k) ∧ 0 < quanA A (p i) ∧ ∀ c, 0 ≤ c → c < 23 → x.1 (83 + 23 * i + c) = A (83 + 23 * p i + c)) ∧ (∀ i j, 0 ≤ i → i < j → j < x.2 → p i < p j) ∧ ∀ F : Int → Int, (∀ k', 0 ≤ k' → k' < k → quanA A k' = 0 → F k' = 0) → sm (fun i => F (p i)) x.2 = sm F k) ⟨by show 0 ≤ (0 : Int) ∧ (0 : Int) ≤ 0; omega, fun i => i, fun i i0 i1 => by have : i < 0 := i1; omega, fun i j i0 ij j1 => by have : j < 0 := j1; omega, fun F _ => rfl⟩ k0 (fun m x m0 m1 hx => by
    obtain ⟨hb, p, h1, h2, h3⟩ := hx
    unfold clS
    by_cases q : quanA A m = 0
    · rw [if_pos q]
      refine ⟨by omega, p, fun i i0 i1 => ?_, h2, fun F hF => ?_⟩
      · have := h1 i i0 i1
        exact ⟨by omega, this.2⟩
      · rw [sm_s _ m0, hF m m0 (by omega) q, Int.add_zero]
        exact h3 F (fun k' a b => hF k' a (by omega))
    · rw [if_neg q]
      have hq := hnn m m0 (by omega)
      refine ⟨by show 0 ≤ x.2 + 1 ∧ x.2 + 1 ≤ m + 1; omega, upI p x.2 m, fun i i0 i1 => ?_, fun i j i0 ij j1 => ?_, fun F hF => ?_⟩
      · have i1 : i < x.2 + 1 := i1
        show _ ∧ _ ∧ ∀ c, 0 ≤ c → c < 23 → mixO (83 + 23 * x.2) (fun c => A (83 + 23 * m + c)) x.1 23 (83 + 23 * i + c) = _
        by_cases e : i = x.2
        · rw [e, upI_eq]
          exact ⟨by omega, by omega, fun c c0 c1 => mixO_in c0 c1⟩
        · rw [upI_ne e]
          have := h1 i i0 (by omega)
          exact ⟨by omega, this.2.1, fun c c0 c1 => by rw [mixO_out (by omega)]; exact this.2.2 c c0 c1⟩
      · have j1 : j < x.2 + 1 := j1
        by_cases e : j = x.2
        · rw [e, upI_eq, upI_ne (by omega)]
          have := h1 i i0 (by omega)
          omega
        · rw [upI_ne e, upI_ne (by omega)]
          exact h2 i j i0 ij (by omega)
      · show sm _ (x.2 + 1) = _
        rw [sm_s _ hb.1, sm_s _ m0, upI_eq, sm_congr (g := fun i => F (p i)) (fun i i0 i1 => by rw [upI_ne (by omega)]), h3 F (fun k' a b => hF k' a (by omega))])
  exact key.2
theorem close_inv {D : Int} {A : St} (hD : D ≤ 20000000) (h : Inv0 D A) : Inv D (closeA A) := by
  have hn := h.1
  have hnn : ∀ k, 0 ≤ k → k < A 7 → 0 ≤ quanA A k := fun k h0 h1 => (quan_Sl ((h.loan h0 h1).Sl hD (by omega) (by omega) (by omega))).1
  have ho := cl_out (A := A) (k := A 7) (by omega)
  obtain ⟨p, hp, hmo, hsu⟩ := cl_map (k := A 7) hnn (by omega) (Int.le_refl _)
  have c0 : ∀ j, j < 83 → j ≠ 7 → closeA A j = A j := fun j h1 h2 => by
    unfold closeA
    rw [upI_ne h2]
    exact ho.2 j (by omega)
  have c7 : closeA A 7 = (clX A (A 7)).2 := upI_eq
  have cl : ∀ i c, 0 ≤ i → i < (clX A (A 7)).2 → 0 ≤ c → c < 23 → closeA A (83 + 23 * i + c) = A (83 + 23 * p i + c) := fun i c i0 i1 z0 z1 => by
    unfold closeA
    rw [upI_ne (by omega)]
    exact (hp i i0 i1).2.2 c z0 z1
  have cl2 : ∀ i o c, 0 ≤ i → i < (clX A (A 7)).2 → 0 ≤ o + c → o + c < 23 → closeA A (83 + 23 * i + o + c) = A (83 + 23 * p i + o + c) := fun i o c i0 i1 z0 z1 => by
    have := cl i (o + c) i0 i1 z0 z1
    rw [← Int.add_assoc, ← Int.add_assoc] at this
    exact this
  refine Inv0.full ⟨?_, fun s s0 s1 => ?_, fun s s0 s1 => ?_, fun l l0 l1 => ?_, fun b b0 b1 => ?_, fun l s l0 l1 s0 s1 => ?_, fun k k0 k1 => ?_, fun j k j0 jk k1 => ?_, fun l s l0 l1 s0 s1 => ?_⟩ (fun k k0 k1 => ?_)
  · rw [c0 0 (by omega) (by omega), c0 1 (by omega) (by omega), c0 2 (by omega) (by omega), c0 3 (by omega) (by omega), c0 4 (by omega) (by omega), c0 5 (by omega) (by omega), c0 6 (by omega) (by omega), c0 8 (by omega) (by omega), c7]
    omega
  · rw [c0 0 (by omega) (by omega)] at s1
    rw [c0 _ (by omega) (by omega), c0 _ (by omega) (by omega)]
    exact h.2.1 s s0 s1
  · rw [c0 _ (by omega) (by omega), c0 1 (by omega) (by omega)]
    exact h.2.2.1 s s0 s1
  · rw [c0 1 (by omega) (by omega)] at l1
    rw [c0 _ (by omega) (by omega), c0 _ (by omega) (by omega), c0 _ (by omega) (by omega)]
    exact h.2.2.2.1 l l0 l1
  · rw [c0 2 (by omega) (by omega)] at b1
    rw [c0 _ (by omega) (by omega)]
    exact h.2.2.2.2.1 b b0 b1
  · rw [c0 _ (by omega) (by omega)]
    exact h.2.2.2.2.2.1 l s l0 l1 s0 s1
  · rw [c7] at k1
    have hk := hp k k0 k1
    obtain ⟨q0, q1, q2, q3, q4, q5⟩ := h.loan (k := p k) (by omega) (by omega)
    refine ⟨?_, ?_, ?_, ?_, ?_, fun l l0 l1 => ?_⟩
    · rw [cl k 0 k0 k1 (by omega) (by omega), c0 8 (by omega) (by omega)]; exact q0
    · rw [cl k 1 k0 k1 (by omega) (by omega), c0 2 (by omega) (by omega)]; exact q1
    · rw [cl k 2 k0 k1 (by omega) (by omega), c0 0 (by omega) (by omega)]; exact q2
    · rw [cl k 3 k0 k1 (by omega) (by omega)]; exact q3
    · rw [cl k 4 k0 k1 (by omega) (by omega), c0 6 (by omega) (by omega)]; exact q4
    · rw [cl2 k 11 l k0 k1 (by omega) (by omega), cl2 k 5 l k0 k1 (by omega) (by omega), cl2 k 17 l k0 k1 (by omega) (by omega), c0 6 (by omega) (by omega), c0 1 (by omega) (by omega)]
      exact q5 l l0 l1
  · rw [c7] at k1
    have h1 := hp j j0 (by omega)
    have h2 := hp k (by omega) k1
    rw [cl k 0 (by omega) k1 (by omega) (by omega), cl j 0 j0 (by omega) (by omega) (by omega)]
    exact h.2.2.2.2.2.2.2.1 (p j) (p k) (by omega) (hmo j k j0 jk k1) (by omega)
  · rw [c0 _ (by omega) (by omega)]
    have e : lentA (closeA A) l s = lentA A l s := by
      unfold lentA
      rw [c7, ← hsu (fun k => if A (83 + 23 * k + 2) = s then A (83 + 23 * k + 5 + l) else 0) (fun k k0 k1 hq => by
        have hL := h.loan k0 k1
        show (if _ then _ else _) = _
        split
        · by_cases z : l < A 1
          · have h1 := sm_nn (f := fun l => A (83 + 23 * k + 5 + l)) (k := A 1) (fun j j0 j1 => by
              have := (hL.sl j0 (by omega)).1
              show 0 ≤ A (83 + 23 * k + 5 + j)
              omega)
            rcases lt_ge 0 (A (83 + 23 * k + 5 + l)) with w | w
            · have h2 := sm_lt (f := fun _ => 0) (g := fun l => A (83 + 23 * k + 5 + l)) (k := A 1) (fun j j0 j1 => by
                have := (hL.sl j0 (by omega)).1
                show 0 ≤ A (83 + 23 * k + 5 + j)
                omega) l0 z w
              have h3 := sm_bd (f := fun _ => 0) (k := A 1) (lo := 0) (hi := 0) (by omega) (fun _ _ _ => ⟨Int.le_refl 0, Int.le_refl 0⟩)
              unfold quanA at hq
              omega
            · have := (hL.sl l0 l1).1
              omega
          · exact (hL.sl l0 l1).2.2.2 (by omega)
        · rfl)]
      exact sm_congr (fun i i0 i1 => by rw [cl i 2 i0 i1 (by omega) (by omega), cl2 i 5 l i0 i1 (by omega) (by omega)])
    rw [e]
    exact h.2.2.2.2.2.2.2.2 l s l0 l1 s0 s1
  · rw [c7] at k1
    have hk := hp k k0 k1
    have e : quanA (closeA A) k = quanA A (p k) := by
      unfold quanA
      rw [c0 1 (by omega) (by omega)]
      exact sm_congr (fun l l0 l1 => by rw [cl2 k 5 l k0 k1 (by omega) (by omega)])
    rw [e]
    exact hk.2.1

