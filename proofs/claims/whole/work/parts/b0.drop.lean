/-- all of Rel but the loans -/
def RelT (σ : Hp) (i : Nat) (A : St) : Prop :=
  (σ.I 36 i 0 = A 0 ∧ σ.I 36 i 1 = A 1 ∧ σ.I 36 i 2 = A 2 ∧ σ.I 36 i 3 = A 7 ∧ σ.I 36 i 4 = A 8 ∧ σ.I 36 i 5 = A 6 ∧ σ.I 36 i 6 = A 5 ∧ σ.I 36 i 7 = A 3 ∧ σ.I 36 i 8 = A 4) ∧
  (∀ s, 0 ≤ s → s < A 0 → σ.I 37 i s = A (15 + s) ∧ σ.I 38 i s = A (19 + s)) ∧
  (∀ s, 0 ≤ s → s < A 0 → σ.I 39 i s = A (23 + s)) ∧
  (∀ l, 0 ≤ l → l < A 1 → σ.I 40 i l = A (27 + l) ∧ σ.I 41 i l = A (33 + l) ∧ σ.I 42 i l = A (39 + l)) ∧
  (∀ b, 0 ≤ b → b < A 2 → σ.I 43 i b = A (45 + b)) ∧
  (∀ l s, 0 ≤ l → l < 6 → 0 ≤ s → s < 4 → σ.I 44 i (l * 4 + s) = A (49 + 4 * l + s)) ∧
  ((∀ l, 0 ≤ l → l < 6 → σ.J 45 i l = A (73 + l)) ∧ (∀ b, 0 ≤ b → b < 4 → σ.J 45 i (6 + b) = A (79 + b)) ∧ σ.J 45 i 10 = A 12 ∧ σ.J 45 i 11 = A 13 ∧ σ.J 45 i 12 = A 14) ∧
  (σ.J 46 i 0 = A 9 ∧ σ.J 46 i 1 = A 10 ∧ σ.J 46 i 2 = A 11)
/-- the loan number j holds the loan at place k -/
def LnA (σ : Hp) (j : Nat) (A : St) (k : Int) : Prop := σ.I 3 j 0 = A (83 + 23 * k + 0) ∧ σ.I 3 j 1 = A (83 + 23 * k + 1) ∧ σ.I 3 j 2 = A (83 + 23 * k + 2) ∧ σ.I 3 j 3 = A (83 + 23 * k + 3) ∧ σ.I 3 j 4 = A (83 + 23 * k + 4) ∧
    ∀ l, 0 ≤ l → l < 6 → σ.I 30 j l = A (83 + 23 * k + 5 + l) ∧ σ.I 31 j l = A (83 + 23 * k + 11 + l) ∧ σ.I 32 j l = A (83 + 23 * k + 17 + l)
theorem Rel.top {σ : Hp} {i : Nat} {A : St} (h : Rel σ i A) : RelT σ i A := ⟨h.1, h.2.1, h.2.2.1, h.2.2.2.1, h.2.2.2.2.1, h.2.2.2.2.2.1, h.2.2.2.2.2.2.1, h.2.2.2.2.2.2.2.1⟩
theorem Rel.lns {σ : Hp} {i : Nat} {A : St} (h : Rel σ i A) : ∀ k, 0 ≤ k → k < A 7 → LnA σ (lid σ i k) A k := h.2.2.2.2.2.2.2.2
theorem RelT.full {σ : Hp} {i : Nat} {A : St} (h : RelT σ i A) (hl : ∀ k, 0 ≤ k → k < A 7 → LnA σ (lid σ i k) A k) : Rel σ i A := ⟨h.1, h.2.1, h.2.2.1, h.2.2.2.1, h.2.2.2.2.1, h.2.2.2.2.2.1, h.2.2.2.2.2.2.1, h.2.2.2.2.2.2.2, hl⟩
theorem RelT.congr {σ τ : Hp} {i : Nat} {A B : St} (h : RelT σ i A) (hn : A 0 ≤ 4 ∧ A 1 ≤ 6 ∧ A 2 ≤ 4) (hI : ∀ t, 36 ≤ t → t ≤ 44 → τ.I t i = σ.I t i) (hJ : ∀ t, 45 ≤ t → t ≤ 46 → τ.J t i = σ.J t i) (hB : ∀ j, 0 ≤ j → j < 83 → B j = A j) : RelT τ i B := by
  obtain ⟨r1, r2, r3, r4, r5, r6, r7, r8⟩ := h
  unfold RelT
  rw [hI 36 (by decide) (by decide), hI 37 (by decide) (by decide), hI 38 (by decide) (by decide), hI 39 (by decide) (by decide), hI 40 (by decide) (by decide), hI 41 (by decide) (by decide), hI 42 (by decide) (by decide), hI 43 (by decide) (by decide), hI 44 (by decide) (by decide), hJ 45 (by decide) (by decide), hJ 46 (by decide) (by decide)]
  rw [hB 0 (by decide) (by decide), hB 1 (by decide) (by decide), hB 2 (by decide) (by decide), hB 3 (by decide) (by decide), hB 4 (by decide) (by decide), hB 5 (by decide) (by decide), hB 6 (by decide) (by decide), hB 7 (by decide) (by decide), hB 8 (by decide) (by decide), hB 9 (by decide) (by decide), hB 10 (by decide) (by decide), hB 11 (by decide) (by decide), hB 12 (by decide) (by decide), hB 13 (by decide) (by decide), hB 14 (by decide) (by decide)]
  exact ⟨r1, fun s s0 s1 => by
    rw [hB _ (by omega) (by omega), hB _ (by omega) (by omega)]
    exact r2 s s0 s1, fun s s0 s1 => by
    rw [hB _ (by omega) (by omega)]
    exact r3 s s0 s1, fun l l0 l1 => by
    rw [hB _ (by omega) (by omega), hB _ (by omega) (by omega), hB _ (by omega) (by omega)]
    exact r4 l l0 l1, fun b b0 b1 => by
    rw [hB _ (by omega) (by omega)]
    exact r5 b b0 b1, fun l s l0 l1 s0 s1 => by
    rw [hB _ (by omega) (by omega)]
    exact r6 l s l0 l1 s0 s1, ⟨fun l l0 l1 => by
    rw [hB _ (by omega) (by omega)]
    exact r7.1 l l0 l1, fun b b0 b1 => by
    rw [hB _ (by omega) (by omega)]
    exact r7.2.1 b b0 b1, r7.2.2⟩, r8⟩
theorem RelT.set7 {σ : Hp} {i : Nat} {A : St} {v : Int} (h : RelT σ i A) (hn : A 0 ≤ 4 ∧ A 1 ≤ 6 ∧ A 2 ≤ 4) : RelT (σ.setI 36 i 3 v) i (upI A 7 v) := by
  obtain ⟨r1, r2, r3, r4, r5, r6, r7, r8⟩ := h
  have eI : ∀ t, t ≠ 36 → (σ.setI 36 i 3 v).I t = σ.I t := fun t ht => setI_t ht
  have u : ∀ j, j ≠ 7 → upI A 7 v j = A j := fun j hj => upI_ne hj
  unfold RelT
  rw [eI 37 (by decide), eI 38 (by decide), eI 39 (by decide), eI 40 (by decide), eI 41 (by decide), eI 42 (by decide), eI 43 (by decide), eI 44 (by decide)]
  rw [u 0 (by decide), u 1 (by decide), u 2 (by decide), u 3 (by decide), u 4 (by decide), u 5 (by decide), u 6 (by decide), u 8 (by decide), u 9 (by decide), u 10 (by decide), u 11 (by decide), u 12 (by decide), u 13 (by decide), u 14 (by decide), upI_eq]
  rw [setI_ne (by decide), setI_ne (by decide), setI_ne (by decide), setI_I, setI_ne (by decide), setI_ne (by decide), setI_ne (by decide), setI_ne (by decide), setI_ne (by decide)]
  obtain ⟨a0, a1, a2, a3, a4, a5, a6, a7, a8⟩ := r1
  exact ⟨⟨a0, a1, a2, rfl, a4, a5, a6, a7, a8⟩, fun s s0 s1 => by
    rw [u _ (by omega), u _ (by omega)]
    exact r2 s s0 s1, fun s s0 s1 => by
    rw [u _ (by omega)]
    exact r3 s s0 s1, fun l l0 l1 => by
    rw [u _ (by omega), u _ (by omega), u _ (by omega)]
    exact r4 l l0 l1, fun b b0 b1 => by
    rw [u _ (by omega)]
    exact r5 b b0 b1, fun l s l0 l1 s0 s1 => by
    rw [u _ (by omega)]
    exact r6 l s l0 l1 s0 s1, ⟨fun l l0 l1 => by
    rw [u _ (by omega)]
    exact r7.1 l l0 l1, fun b b0 b1 => by
    rw [u _ (by omega)]
    exact r7.2.1 b b0 b1, r7.2.2⟩, r8⟩
theorem LnA.congr {σ τ : Hp} {j : Nat} {A B : St} {k k' : Int} (h : LnA σ j A k) (hI : ∀ t, (t = 3 ∨ t = 30 ∨ t = 31 ∨ t = 32) → τ.I t j = σ.I t j) (hB : ∀ c, 0 ≤ c → c < 23 → B (83 + 23 * k' + c) = A (83 + 23 * k + c)) : LnA τ j B k' := by
  obtain ⟨g0, g1, g2, g3, g4, gs⟩ := h
  unfold LnA
  rw [hI 3 (Or.inl rfl), hI 30 (Or.inr (Or.inl rfl)), hI 31 (Or.inr (Or.inr (Or.inl rfl))), hI 32 (Or.inr (Or.inr (Or.inr rfl)))]
  rw [hB 0 (by decide) (by decide), hB 1 (by decide) (by decide), hB 2 (by decide) (by decide), hB 3 (by decide) (by decide), hB 4 (by decide) (by decide)]
  refine ⟨g0, g1, g2, g3, g4, fun l l0 l1 => ?_⟩
  rw [Int.add_assoc _ 5 l, Int.add_assoc _ 11 l, Int.add_assoc _ 17 l, hB (5 + l) (by omega) (by omega), hB (11 + l) (by omega) (by omega), hB (17 + l) (by omega) (by omega), ← Int.add_assoc, ← Int.add_assoc, ← Int.add_assoc]
  exact gs l l0 l1
/-- a pool whose loans may be empty -/
def Cl0 (D : Int) (σ : Hp) (i : Nat) (A : St) : Prop := D ≤ 20000000 ∧ WF σ ∧ Rel σ i A ∧ Shp σ i ∧ Inv0 D A
theorem Cl.w {D : Int} {σ : Hp} {i : Nat} {A : St} (h : Cl D σ i A) : Cl0 D σ i A := ⟨h.1, h.2.1, h.2.2.1, h.2.2.2.1, h.2.2.2.2.w⟩
/-- all but one pool's row of loans -/
def FD (i : Nat) (σ τ : Hp) : Prop := τ.I = σ.I ∧ τ.J = σ.J ∧ τ.F = σ.F ∧ τ.B = σ.B ∧ τ.al = σ.al ∧ τ.sl = σ.sl ∧ ∀ t n, ¬ (t = 47 ∧ n = i) → τ.P t n = σ.P t n
theorem FD.refl (i : Nat) (σ : Hp) : FD i σ σ := ⟨rfl, rfl, rfl, rfl, rfl, rfl, fun _ _ _ => rfl⟩
theorem FD.setP {i : Nat} {σ τ : Hp} {k : Int} {v : Option Nat} (h : FD i σ τ) : FD i σ (τ.setP 47 i k v) := ⟨h.1, h.2.1, h.2.2.1, h.2.2.2.1, h.2.2.2.2.1, h.2.2.2.2.2.1, fun t n hn => by
  rw [← h.2.2.2.2.2.2 t n hn]
  funext x
  show u3 τ.P 47 i k v t n x = _
  unfold u3
  exact if_neg (fun z => hn ⟨z.1, z.2.1⟩)⟩
theorem FD.wf {i : Nat} {σ τ : Hp} (h : FD i σ τ) (hW : WF σ) : WF τ := fun t k i r hf hal => by
  rw [h.2.2.2.2.1] at hal
  rw [h.2.2.1]
  exact hW t k i r hf hal
theorem FD.fp {i : Nat} {σ τ : Hp} (h : FD i σ τ) : Fp i σ τ := ⟨h.2.2.1, h.2.2.2.1, h.2.2.2.2.1, h.2.2.2.2.2.1, h.2.2.2.2.2.2, fun t n _ => ⟨by rw [h.1], by rw [h.2.1]⟩⟩
theorem setP_P {σ : Hp} {t i : Nat} {k : Int} {v : Option Nat} : (σ.setP t i k v).P t i k = v := by
  show u3 σ.P t i k v t i k = v
  unfold u3
  exact if_pos ⟨rfl, rfl, rfl⟩
theorem setP_ne {σ : Hp} {t i : Nat} {k k' : Int} {v : Option Nat} (h : k' ≠ k) : (σ.setP t i k v).P t i k' = σ.P t i k' := by
  show u3 σ.P t i k v t i k' = _
  unfold u3
  exact if_neg (fun z => h z.2.2)
/-- the place that changes with another -/
def swp (m k x : Int) : Int := if x = m then k else if x = k then m else x
theorem swp_bd {m k x : Int} (hm : 0 ≤ m ∧ m < 12) (hk : 0 ≤ k ∧ k < 12) (hx : 0 ≤ x ∧ x < 12) : 0 ≤ swp m k x ∧ swp m k x < 12 := by
  unfold swp
  split
  · omega
  · split <;> omega
theorem swp_inj {m k x y : Int} (h : swp m k x = swp m k y) : x = y := by
  unfold swp at h
  by_cases a : x = m
  · rw [if_pos a] at h
    by_cases c : y = m
    · omega
    · rw [if_neg c] at h
      by_cases d : y = k
      · rw [if_pos d] at h
        omega
      · rw [if_neg d] at h
        omega
  · rw [if_neg a] at h
    by_cases b : x = k
    · rw [if_pos b] at h
      by_cases c : y = m
      · rw [if_pos c] at h
        omega
      · rw [if_neg c] at h
        by_cases d : y = k
        · omega
        · rw [if_neg d] at h
          omega
    · rw [if_neg b] at h
      by_cases c : y = m
      · rw [if_pos c] at h
        omega
      · rw [if_neg c] at h
        by_cases d : y = k
        · rw [if_pos d] at h
          omega
        · rw [if_neg d] at h
          omega
theorem swp_lid {τ : Hp} {i : Nat} {m k x : Int} (hS : Shp τ i) (hx : 0 ≤ x ∧ x < 12) : ((τ.setP 47 i k (some (lid τ i m))).setP 47 i m (some (lid τ i k))).P 47 i x = some (lid τ i (swp m k x)) := by
  unfold swp
  by_cases a : x = m
  · rw [if_pos a, a, setP_P]
  · rw [if_neg a, setP_ne a]
    by_cases b : x = k
    · rw [if_pos b, b, setP_P]
    · rw [if_neg b, setP_ne b]
      exact hS.L x hx.1 hx.2
theorem swp_shp {τ : Hp} {i : Nat} {m k : Int} (hS : Shp τ i) (hm : 0 ≤ m ∧ m < 12) (hk : 0 ≤ k ∧ k < 12) : Shp ((τ.setP 47 i k (some (lid τ i m))).setP 47 i m (some (lid τ i k))) i ∧ ∀ x, 0 ≤ x → x < 12 → lid ((τ.setP 47 i k (some (lid τ i m))).setP 47 i m (some (lid τ i k))) i x = lid τ i (swp m k x) := by
  have e : ∀ x, 0 ≤ x → x < 12 → lid ((τ.setP 47 i k (some (lid τ i m))).setP 47 i m (some (lid τ i k))) i x = lid τ i (swp m k x) := fun x x0 x1 => by
    have := swp_lid (m := m) (k := k) (x := x) hS ⟨x0, x1⟩
    show (((τ.setP 47 i k (some (lid τ i m))).setP 47 i m (some (lid τ i k))).P 47 i x).getD 0 = _
    rw [this]
    rfl
  refine ⟨⟨fun x x0 x1 => ?_, fun a b a0 a1 b0 b1 h => ?_⟩, e⟩
  · rw [e x x0 x1]
    have z := swp_bd hm hk ⟨x0, x1⟩
    exact ⟨swp_lid hS ⟨x0, x1⟩, (hS.1 _ z.1 z.2).2⟩
  · rw [e a a0 a1, e b b0 b1] at h
    have za := swp_bd hm hk ⟨a0, a1⟩
    have zb := swp_bd hm hk ⟨b0, b1⟩
    exact swp_inj (hS.2 _ _ za.1 za.2 zb.1 zb.2 h)
section Dr
variable {D : Int} {σ : Hp} {A : St} {i : Nat}
theorem quan6w (hI : Inv0 D A) {k : Int} (k0 : 0 ≤ k) (k1 : k < A 7) : sm (fun l => A (83 + 23 * k + 5 + l)) 6 = quanA A k := by
  have hn := hI.1
  exact sm_ext (by omega) (by omega) (fun j j0 j1 => ((hI.loan k0 k1).sl (by omega) j1).2.2.2 j0)
theorem R_dropClosed (h : Cl0 D σ i A) : Cv m_X6_dropClosed 1 0 0 [vR (some (6, i))] σ none (fun τ => Fp i σ τ ∧ (∀ t, t ≠ 36 → τ.I t = σ.I t) ∧ Cl D τ i (closeA A)) := by
  obtain ⟨hD, hW, hR, hS, hI⟩ := h
  have hn := hI.1
  have hcl := close_inv hD hI
  have hnn : ∀ k, 0 ≤ k → k < A 7 → 0 ≤ quanA A k ∧ quanA A k ≤ 599994 := fun k h0 h1 => quan_Sl ((hI.loan h0 h1).Sl hD (by omega) (by omega) (by omega))
  show V _ 1 0 0 0 [some (vR (some (6, i))), none, none, none] [] σ _
  refine V_iconst a_X6_dropClosed_0 ?_
  refine V_istn1 a_X6_dropClosed_1 ?_
  refine V_iconst a_X6_dropClosed_2 ?_
  refine V_istn2 a_X6_dropClosed_3 ?_
  skip
  refine loopI (P := fun k => ∀ (τ : Hp) (o : Option AV), FD i σ τ → Shp τ i → (∀ x, k ≤ x → x < 12 → lid τ i x = lid σ i x) → (∀ x, 0 ≤ x → x < (clX A k).2 → LnA σ (lid τ i x) (clX A k).1 x) → V m_X6_dropClosed 1 0 0 4 [some (vR (some (6, i))), some (vI (clX A k).2), some (vI k), o] [] τ (fun r τ => r = .inl none ∧ Fp i σ τ ∧ (∀ t, t ≠ 36 → τ.I t = σ.I t) ∧ Cl D τ i (closeA A))) (N := A 7) (by omega) ?_ ?_ σ none (FD.refl _ _) hS (fun x _ _ => rfl) (fun x x0 x1 => by have : x < 0 := x1; omega)
  · intro τ o f hSt hk hx
    have hW := f.wf hW
    have n3 : τ.I 36 i 3 = A 7 := by
      rw [f.1]
      exact hR.1.2.2.2.1
    have ho := cl_out (A := A) (k := A 7) (by omega)
    have rt : RelT (τ.setI 36 i 3 (clX A (A 7)).2) i (closeA A) := RelT.set7 (hR.top.congr (by omega) (fun t _ _ => by rw [f.1]) (fun t _ _ => by rw [f.2.1]) (fun j j0 j1 => ho.2 j (Or.inl j1))) (by rw [ho.2 0 (by omega), ho.2 1 (by omega), ho.2 2 (by omega)]; omega)
    have el : ∀ x, lid (τ.setI 36 i 3 (clX A (A 7)).2) i x = lid τ i x := fun x => rfl
    have rl : Rel (τ.setI 36 i 3 (clX A (A 7)).2) i (closeA A) := rt.full (fun x x0 x1 => by
      have x1 : x < (clX A (A 7)).2 := by
        unfold closeA at x1
        rw [upI_eq] at x1
        exact x1
      rw [el]
      exact (hx x x0 x1).congr (fun t ht => by rw [setI_t (by omega), f.1]) (fun c c0 c1 => by unfold closeA; rw [upI_ne (by omega)]))
    refine V_ildn2 a_X6_dropClosed_4 ?_
    refine V_aldn0 a_X6_dropClosed_5 ?_
    refine V_fin a_X6_dropClosed_6 f_X6_9 rfl hW ?_
    refine V_iconst a_X6_dropClosed_9 ?_
    refine V_ialdE a_X6_dropClosed_10 rfl (by omega) n3 ?_
    refine V_icmp_ge_t a_X6_dropClosed_11 (by omega) (by omega) ?_
    refine V_aldn0 a_X6_dropClosed_56 ?_
    refine V_fin a_X6_dropClosed_57 f_X6_9 rfl hW ?_
    refine V_iconst a_X6_dropClosed_60 ?_
    refine V_ildn1 a_X6_dropClosed_61 ?_
    refine V_iast a_X6_dropClosed_62 rfl (by omega) ?_
    exact V_ret a_X6_dropClosed_63 (⟨rfl, f.fp.trans ((FX.setI (S := fun t n => t = 36 ∧ n = i) ⟨rfl, rfl⟩).fp (fun t n z => by unfold plS; omega)), fun t ht => by rw [setI_t ht, f.1], hD, hW, rl, hSt, hcl⟩)
  · intro k k0 k1 ih τ o f hSt hk hx
    have hWt := f.wf hW
    have n3 : τ.I 36 i 3 = A 7 := by
      rw [f.1]
      exact hR.1.2.2.2.1
    have hL := hSt.L
    have ek : lid τ i k = lid σ i k := hk k (Int.le_refl _) (by omega)
    have gl := hR.lns k k0 k1
    have r1 := R_Lquantity (σ := τ) (j := lid τ i k) (sh := fun l => A (83 + 23 * k + 5 + l)) (rc := fun l => A (83 + 23 * k + 11 + l)) (du := fun l => A (83 + 23 * k + 17 + l)) hWt (fun l l0 l1 => by
      rw [f.1, ek]
      exact gl.2.2.2.2.2 l l0 l1)
    rw [quan6w hI k0 k1] at r1
    have hq := hnn k k0 k1
    have ho := cl_out (A := A) (k := k) k0
    have hW := hWt
    by_cases c : quanA A k = 0
    · have es : clX A (k + 1) = clX A k := by
        rw [clX_s k0]
        exact if_pos c
      rw [es] at ih
      have ih2 := ih τ (some (vR (some (3, lid τ i k)))) f hSt (fun x x0 x1 => hk x (by omega) x1) hx
      refine V_ildn2 a_X6_dropClosed_4 ?_
      refine V_aldn0 a_X6_dropClosed_5 ?_
      refine V_fin a_X6_dropClosed_6 f_X6_9 rfl hW ?_
      refine V_iconst a_X6_dropClosed_9 ?_
      refine V_ialdE a_X6_dropClosed_10 rfl (by omega) n3 ?_
      refine V_icmp_ge_f a_X6_dropClosed_11 (by omega) (by omega) ?_
      refine V_aldn0 a_X6_dropClosed_14 ?_
      refine V_fin a_X6_dropClosed_15 f_X6_48 rfl hW ?_
      refine V_ildn2 a_X6_dropClosed_18 ?_
      refine V_aald a_X6_dropClosed_19 rfl (by omega) (hL _ (by omega) (by omega)) ?_
      refine V_astn3 a_X6_dropClosed_20 ?_
      refine V_aldn3 a_X6_dropClosed_21 ?_
      refine V_v0R a_X6_dropClosed_22 c_X6_108 r1 ?_
      refine V_if_le_t a_X6_dropClosed_25 (by omega) (by omega) ?_
      refine V_inc2 a_X6_dropClosed_50 ?_
      refine V_goto a_X6_dropClosed_53 ?_
      exact ih2
    · have es : clX A (k + 1) = (mixO (83 + 23 * (clX A k).2) (fun c => A (83 + 23 * k + c)) (clX A k).1 23, (clX A k).2 + 1) := by
        rw [clX_s k0]
        exact if_neg c
      rw [es] at ih
      have hm : 0 ≤ (clX A k).2 ∧ (clX A k).2 < 12 := by omega
      obtain ⟨hS2, el2⟩ := swp_shp (m := (clX A k).2) (k := k) hSt hm ⟨k0, by omega⟩
      have ih2 := ih ((τ.setP 47 i k (some (lid τ i (clX A k).2))).setP 47 i (clX A k).2 (some (lid τ i k))) (some (vR (some (3, lid τ i k)))) f.setP.setP hS2 (fun x x0 x1 => by
        rw [el2 x (by omega) x1]
        have : swp (clX A k).2 k x = x := by
          unfold swp
          rw [if_neg (by omega), if_neg (by omega)]
        rw [this]
        exact hk x (by omega) x1) (fun x x0 x1 => by
        have x1 : x < (clX A k).2 + 1 := x1
        rw [el2 x x0 (by omega)]
        by_cases z : x = (clX A k).2
        · have : swp (clX A k).2 k x = k := by
            unfold swp
            rw [if_pos z]
          rw [this, ek]
          refine gl.congr (fun t _ => rfl) (fun c c0 c1 => ?_)
          rw [z]
          show mixO (83 + 23 * (clX A k).2) (fun c => A (83 + 23 * k + c)) (clX A k).1 23 (83 + 23 * (clX A k).2 + c) = _
          exact mixO_in c0 c1
        · have : swp (clX A k).2 k x = x := by
            unfold swp
            rw [if_neg z, if_neg (by omega)]
          rw [this]
          refine (hx x x0 (by omega)).congr (fun t _ => rfl) (fun c c0 c1 => ?_)
          show mixO (83 + 23 * (clX A k).2) (fun c => A (83 + 23 * k + c)) (clX A k).1 23 (83 + 23 * x + c) = _
          exact mixO_out (by omega))
      have hL2 : (τ.setP 47 i k (some (lid τ i (clX A k).2))).P 47 i k = some (lid τ i (clX A k).2) := setP_P
      refine V_ildn2 a_X6_dropClosed_4 ?_
      refine V_aldn0 a_X6_dropClosed_5 ?_
      refine V_fin a_X6_dropClosed_6 f_X6_9 rfl hW ?_
      refine V_iconst a_X6_dropClosed_9 ?_
      refine V_ialdE a_X6_dropClosed_10 rfl (by omega) n3 ?_
      refine V_icmp_ge_f a_X6_dropClosed_11 (by omega) (by omega) ?_
      refine V_aldn0 a_X6_dropClosed_14 ?_
      refine V_fin a_X6_dropClosed_15 f_X6_48 rfl hW ?_
      refine V_ildn2 a_X6_dropClosed_18 ?_
      refine V_aald a_X6_dropClosed_19 rfl (by omega) (hL _ (by omega) (by omega)) ?_
      refine V_astn3 a_X6_dropClosed_20 ?_
      refine V_aldn3 a_X6_dropClosed_21 ?_
      refine V_v0R a_X6_dropClosed_22 c_X6_108 r1 ?_
      refine V_if_le_f a_X6_dropClosed_25 (by omega) (by omega) ?_
      refine V_aldn0 a_X6_dropClosed_28 ?_
      refine V_fin a_X6_dropClosed_29 f_X6_48 rfl hW ?_
      refine V_ildn2 a_X6_dropClosed_32 ?_
      refine V_aldn0 a_X6_dropClosed_33 ?_
      refine V_fin a_X6_dropClosed_34 f_X6_48 rfl hW ?_
      refine V_ildn1 a_X6_dropClosed_37 ?_
      refine V_aald a_X6_dropClosed_38 rfl (by omega) (hL _ (by omega) (by omega)) ?_
      refine V_aast a_X6_dropClosed_39 rfl (by omega) ?_
      refine V_aldn0 a_X6_dropClosed_40 ?_
      refine V_fin a_X6_dropClosed_41 f_X6_48 rfl hW ?_
      refine V_ildn1 a_X6_dropClosed_44 ?_
      refine V_aldn3 a_X6_dropClosed_45 ?_
      refine V_aast a_X6_dropClosed_46 rfl (by omega) ?_
      refine V_inc1 a_X6_dropClosed_47 ?_
      refine V_inc2 a_X6_dropClosed_50 ?_
      refine V_goto a_X6_dropClosed_53 ?_
      exact ih2
end Dr

