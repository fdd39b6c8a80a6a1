/-- who gave last -/
def glS (A : St) (s ex : Int) (o : Int → Int) (q k x : Int) : Int := if 0 < gvA A s ex (o k) (ordX A s ex o k (fun _ => 0) q).2 then o k else x
def glX (A : St) (s ex : Int) (o : Int → Int) (q k : Int) : Int := itr (glS A s ex o q) k (-1)
theorem glX_s {A : St} {s ex q k : Int} {o : Int → Int} (h : 0 ≤ k) : glX A s ex o q (k + 1) = glS A s ex o q k (glX A s ex o q k) := itr_s _ h _
section Gi
variable {D : Int} {σ : Hp} {A : St} {s ex q : Int} {o : Int → Int}
theorem ord_un {k l : Int} {g : Int → Int} (k0 : 0 ≤ k) (h : ∀ j, 0 ≤ j → j < k → o j ≠ l) : (ordX A s ex o k g q).1 l = g l := by
  refine itr_ind (f := ordS A s ex o) (a := (g, q)) (fun _ (x : (Int → Int) × Int) => x.1 l = g l) rfl k0 (fun j x j0 j1 hx => ?_)
  show upI x.1 (o j) _ l = g l
  rw [upI_ne (fun z => h j j0 j1 z.symm)]
  exact hx
theorem gv_0 (hI : Inv D A) {l : Int} (hs : 0 ≤ s ∧ s < 4) (hl : 0 ≤ l ∧ l < A 1) : gvA A s ex l 0 = 0 := by
  have := (free_bd hI hl.1 hl.2 hs.1 hs.2).1
  unfold gvA
  split <;> omega
theorem ord_tail (hI : Inv D A) (hs : 0 ≤ s ∧ s < 4) (ho : ∀ j, 0 ≤ j → j < A 1 → 0 ≤ o j ∧ o j < A 1) (hi : ∀ i j, 0 ≤ i → i < A 1 → 0 ≤ j → j < A 1 → o i = o j → i = j) {k : Int} (k0 : 0 ≤ k) (h : (ordX A s ex o k (fun _ => 0) q).2 = 0) : ∀ m : Nat, k + m ≤ A 1 → (ordX A s ex o (k + m) (fun _ => 0) q).2 = 0 ∧ (∀ l, (ordX A s ex o (k + m) (fun _ => 0) q).1 l = (ordX A s ex o k (fun _ => 0) q).1 l) ∧ glX A s ex o q (k + m) = glX A s ex o q k := by
  intro m
  induction m with
  | zero =>
    intro _
    rw [show k + ((0 : Nat) : Int) = k by omega]
    exact ⟨h, fun _ => rfl, rfl⟩
  | succ m ih =>
    intro hm
    obtain ⟨i1, i2, i3⟩ := ih (by omega)
    have hg := gv_0 (ex := ex) hI hs (ho (k + m) (by omega) (by omega))
    rw [show k + ((m + 1 : Nat) : Int) = (k + m) + 1 by omega, ordX_s (by omega), i1, hg]
    refine ⟨by show (0 : Int) - 0 = 0; omega, fun l => ?_, ?_⟩
    · show upI _ (o (k + m)) 0 l = _
      by_cases z : l = o (k + m)
      · rw [z, upI_eq]
        exact (ord_un (A := A) (s := s) (ex := ex) (q := q) (g := fun _ => 0) k0 (fun j j0 j1 e => by
          have := hi j (k + m) j0 (by omega) (by omega) (by omega) e
          omega)).symm
      · rw [upI_ne z]
        exact i2 l
    · rw [glX_s (by omega)]
      unfold glS
      rw [i1, hg, if_neg (by omega)]
      exact i3
theorem ord_end (hI : Inv D A) (hs : 0 ≤ s ∧ s < 4) (ho : ∀ j, 0 ≤ j → j < A 1 → 0 ≤ o j ∧ o j < A 1) (hi : ∀ i j, 0 ≤ i → i < A 1 → 0 ≤ j → j < A 1 → o i = o j → i = j) {k : Int} (k0 : 0 ≤ k) (k1 : k ≤ A 1) (h : (ordX A s ex o k (fun _ => 0) q).2 = 0) : (∀ l, (ordX A s ex o (A 1) (fun _ => 0) q).1 l = (ordX A s ex o k (fun _ => 0) q).1 l) ∧ glX A s ex o q (A 1) = glX A s ex o q k := by
  have := ord_tail (ex := ex) hI hs ho hi k0 h (A 1 - k).toNat (by omega)
  rw [show k + ((A 1 - k).toNat : Int) = A 1 by omega] at this
  exact this.2
theorem R_giveInOrder (hI : Inv D A) (hW : WF σ) (hs : 0 ≤ s ∧ s < 4) (hq : 0 ≤ q ∧ q ≤ 1000000) (hM : Ms σ A s ex) (ho : ∀ j, 0 ≤ j → j < A 1 → 0 ≤ o j ∧ o j < A 1) (hi : ∀ i j, 0 ≤ i → i < A 1 → 0 ≤ j → j < A 1 → o i = o j → i = j) (h25 : ∀ p, 0 ≤ p → p < A 1 → σ.I 25 0 p = o p) (h24 : ∀ l, 0 ≤ l → l < A 1 → σ.I 24 0 l = 0) : Cv m_X0_giveInOrder 1 0 0 [vR (some (0, 0)), vI q] σ (some (vI (glX A s ex o q (A 1)))) (fun τ => Fm [24] σ τ ∧ ∀ l, 0 ≤ l → l < A 1 → τ.I 24 0 l = (ordX A s ex o (A 1) (fun _ => 0) q).1 l) := by
  have hn := hI.n
  obtain ⟨m7, m8, m2, ml⟩ := hM
  show V _ 1 0 0 0 [some (vR (some (0, 0))), some (vI q), none, none, none, none] [] σ _
  refine V_ildn1 a_X0_giveInOrder_0 ?_
  refine V_istn2 a_X0_giveInOrder_1 ?_
  refine V_iconst a_X0_giveInOrder_2 ?_
  refine V_istn3 a_X0_giveInOrder_3 ?_
  refine V_iconst a_X0_giveInOrder_4 ?_
  refine V_ist4 a_X0_giveInOrder_5 ?_
  skip
  refine loopI (P := fun k => ∀ (x5 : Option AV) τ, Fm [24] σ τ → (∀ l, 0 ≤ l → l < A 1 → τ.I 24 0 l = (ordX A s ex o k (fun _ => 0) q).1 l) → V m_X0_giveInOrder 1 0 0 7 [some (vR (some (0, 0))), some (vI q), some (vI (ordX A s ex o k (fun _ => 0) q).2), some (vI (glX A s ex o q k)), some (vI k), x5] [] τ (fun r τ => r = .inl (some (vI (glX A s ex o q (A 1)))) ∧ Fm [24] σ τ ∧ ∀ l, 0 ≤ l → l < A 1 → τ.I 24 0 l = (ordX A s ex o (A 1) (fun _ => 0) q).1 l)) (N := A 1) (by omega) ?_ ?_ none σ (Fm.refl _ _) (fun l l0 l1 => h24 l l0 l1)
  · intro x5 τ f hτ
    have hW := f.wf hW
    have g7 : τ.I 0 0 7 = A 1 := by
      rw [f.I (by decide)]
      exact m7
    refine V_ild4 a_X0_giveInOrder_7 ?_
    refine V_aldn0 a_X0_giveInOrder_9 ?_
    refine V_getIE a_X0_giveInOrder_10 f_X0_36 rfl g7 ?_
    refine V_icmp_ge_t a_X0_giveInOrder_13 (by omega) (by omega) ?_
    refine V_ildn3 a_X0_giveInOrder_76 ?_
    exact V_iret a_X0_giveInOrder_77 (⟨rfl, f, hτ⟩)
  · intro k k0 k1 ih x5 τ f hτ
    have hW := f.wf hW
    have g7 : τ.I 0 0 7 = A 1 := by
      rw [f.I (by decide)]
      exact m7
    have hob := ordX_bd hI (but := ex) (g := fun _ => 0) hs ho hq.1 k0 (by omega)
    have hok := ho k k0 k1
    have hfb := (free_bd hI hok.1 hok.2 hs.1 hs.2).1
    by_cases q0 : (ordX A s ex o k (fun _ => 0) q).2 = 0
    · obtain ⟨e1, e2⟩ := ord_end hI hs ho hi k0 (by omega) q0
      refine V_ild4 a_X0_giveInOrder_7 ?_
      refine V_aldn0 a_X0_giveInOrder_9 ?_
      refine V_getIE a_X0_giveInOrder_10 f_X0_36 rfl g7 ?_
      refine V_icmp_ge_f a_X0_giveInOrder_13 (by omega) (by omega) ?_
      refine V_ildn2 a_X0_giveInOrder_16 ?_
      refine V_if_le_t a_X0_giveInOrder_17 (by omega) (by omega) ?_
      refine V_ildn3 a_X0_giveInOrder_76 ?_
      exact V_iret a_X0_giveInOrder_77 (⟨by rw [e2], f, fun l l0 l1 => by rw [e1]; exact hτ l l0 l1⟩)
    · have g25 : τ.I 25 0 k = o k := by
        rw [f.I (by decide)]
        exact h25 k k0 k1
      have g26 : τ.I 26 0 (o k) = (if o k = ex then 0 else freeA A (o k) s) := by
        rw [f.I (by decide)]
        exact (ml (o k) hok.1 hok.2).2.2
      rw [ordX_s k0, glX_s k0] at ih
      unfold glS at ih
      have egv : min (if o k = ex then 0 else freeA A (o k) s) (ordX A s ex o k (fun _ => 0) q).2 = gvA A s ex (o k) (ordX A s ex o k (fun _ => 0) q).2 := by
        unfold gvA
        split <;> omega
      have hgb := gv_bd hI (but := ex) hok hs hob.1
      generalize ordX A s ex o k (fun _ => 0) q = x at hτ ih hob q0 egv hgb ⊢
      generalize gvA A s ex (o k) x.2 = v at ih egv hgb
      have hfr : 0 ≤ (if o k = ex then 0 else freeA A (o k) s) ∧ (if o k = ex then 0 else freeA A (o k) s) ≤ 99999 := by
        split <;> omega
      have k2 := ih (some (vI (o k))) (τ.setI 24 0 (o k) v) (f.trans (Fm.setI (by decide))) (fun l l0 l1 => by
        show _ = upI x.1 (o k) v l
        by_cases z : l = o k
        · rw [z, upI_eq]
          exact setI_I
        · rw [upI_ne z, setI_ne z]
          exact hτ l l0 l1)
      by_cases q1 : 0 < v
      · rw [if_pos q1] at k2
        refine V_ild4 a_X0_giveInOrder_7 ?_
        refine V_aldn0 a_X0_giveInOrder_9 ?_
        refine V_getIE a_X0_giveInOrder_10 f_X0_36 rfl g7 ?_
        refine V_icmp_ge_f a_X0_giveInOrder_13 (by omega) (by omega) ?_
        refine V_ildn2 a_X0_giveInOrder_16 ?_
        refine V_if_le_f a_X0_giveInOrder_17 (by omega) (by omega) ?_
        refine V_aldn0 a_X0_giveInOrder_20 ?_
        refine V_fin a_X0_giveInOrder_21 f_X0_15 rfl hW ?_
        refine V_ild4 a_X0_giveInOrder_24 ?_
        refine V_ialdE a_X0_giveInOrder_26 rfl (by omega) g25 ?_
        refine V_ist5 a_X0_giveInOrder_27 ?_
        refine V_aldn0 a_X0_giveInOrder_29 ?_
        refine V_fin a_X0_giveInOrder_30 f_X0_9 rfl hW ?_
        refine V_ild5 a_X0_giveInOrder_33 ?_
        refine V_aldn0 a_X0_giveInOrder_35 ?_
        refine V_fin a_X0_giveInOrder_36 f_X0_18 rfl hW ?_
        refine V_ild5 a_X0_giveInOrder_39 ?_
        refine V_ialdE a_X0_giveInOrder_41 rfl (by omega) g26 ?_
        refine V_ildn2 a_X0_giveInOrder_42 ?_
        refine V_s2R a_X0_giveInOrder_43 c_X0_90 (R_imin (by omega) (by omega)) ?_
        rw [egv]
        refine V_iast a_X0_giveInOrder_46 rfl (by omega) ?_
        refine V_ildn2 a_X0_giveInOrder_47 ?_
        refine V_aldn0 a_X0_giveInOrder_48 ?_
        refine V_fin a_X0_giveInOrder_49 f_X0_9 rfl hW ?_
        refine V_ild5 a_X0_giveInOrder_52 ?_
        refine V_ialdE a_X0_giveInOrder_54 rfl (by omega) setI_I ?_
        refine V_isub a_X0_giveInOrder_55 ?_
        refine V_istn2 a_X0_giveInOrder_56 ?_
        refine V_aldn0 a_X0_giveInOrder_57 ?_
        refine V_fin a_X0_giveInOrder_58 f_X0_9 rfl hW ?_
        refine V_ild5 a_X0_giveInOrder_61 ?_
        refine V_ialdE a_X0_giveInOrder_63 rfl (by omega) setI_I ?_
        refine V_if_le_f a_X0_giveInOrder_64 (by omega) (by omega) ?_
        refine V_ild5 a_X0_giveInOrder_67 ?_
        refine V_istn3 a_X0_giveInOrder_69 ?_
        refine V_inc4 a_X0_giveInOrder_70 ?_
        refine V_goto a_X0_giveInOrder_73 ?_
        exact k2
      · rw [if_neg q1] at k2
        refine V_ild4 a_X0_giveInOrder_7 ?_
        refine V_aldn0 a_X0_giveInOrder_9 ?_
        refine V_getIE a_X0_giveInOrder_10 f_X0_36 rfl g7 ?_
        refine V_icmp_ge_f a_X0_giveInOrder_13 (by omega) (by omega) ?_
        refine V_ildn2 a_X0_giveInOrder_16 ?_
        refine V_if_le_f a_X0_giveInOrder_17 (by omega) (by omega) ?_
        refine V_aldn0 a_X0_giveInOrder_20 ?_
        refine V_fin a_X0_giveInOrder_21 f_X0_15 rfl hW ?_
        refine V_ild4 a_X0_giveInOrder_24 ?_
        refine V_ialdE a_X0_giveInOrder_26 rfl (by omega) g25 ?_
        refine V_ist5 a_X0_giveInOrder_27 ?_
        refine V_aldn0 a_X0_giveInOrder_29 ?_
        refine V_fin a_X0_giveInOrder_30 f_X0_9 rfl hW ?_
        refine V_ild5 a_X0_giveInOrder_33 ?_
        refine V_aldn0 a_X0_giveInOrder_35 ?_
        refine V_fin a_X0_giveInOrder_36 f_X0_18 rfl hW ?_
        refine V_ild5 a_X0_giveInOrder_39 ?_
        refine V_ialdE a_X0_giveInOrder_41 rfl (by omega) g26 ?_
        refine V_ildn2 a_X0_giveInOrder_42 ?_
        refine V_s2R a_X0_giveInOrder_43 c_X0_90 (R_imin (by omega) (by omega)) ?_
        rw [egv]
        refine V_iast a_X0_giveInOrder_46 rfl (by omega) ?_
        refine V_ildn2 a_X0_giveInOrder_47 ?_
        refine V_aldn0 a_X0_giveInOrder_48 ?_
        refine V_fin a_X0_giveInOrder_49 f_X0_9 rfl hW ?_
        refine V_ild5 a_X0_giveInOrder_52 ?_
        refine V_ialdE a_X0_giveInOrder_54 rfl (by omega) setI_I ?_
        refine V_isub a_X0_giveInOrder_55 ?_
        refine V_istn2 a_X0_giveInOrder_56 ?_
        refine V_aldn0 a_X0_giveInOrder_57 ?_
        refine V_fin a_X0_giveInOrder_58 f_X0_9 rfl hW ?_
        refine V_ild5 a_X0_giveInOrder_61 ?_
        refine V_ialdE a_X0_giveInOrder_63 rfl (by omega) setI_I ?_
        refine V_if_le_t a_X0_giveInOrder_64 (by omega) (by omega) ?_
        refine V_inc4 a_X0_giveInOrder_70 ?_
        refine V_goto a_X0_giveInOrder_73 ?_
        exact k2
end Gi
/-- an increasing numbering of 0 .. n - 1 -/
theorem inc_id {n : Int} {f : Int → Int} (h0 : ∀ p, 0 ≤ p → p < n → 0 ≤ f p ∧ f p < n) (h1 : ∀ p p', 0 ≤ p → p < p' → p' < n → f p < f p') : ∀ p, 0 ≤ p → p < n → f p = p := by
  have lo : ∀ m : Nat, (m : Int) < n → (m : Int) ≤ f m := by
    intro m
    induction m with
    | zero => intro h; exact (h0 0 (by omega) (by omega)).1
    | succ m ih =>
      intro h
      have a := ih (by omega)
      have b := h1 m (m + 1) (by omega) (by omega) (by omega)
      have e : ((m + 1 : Nat) : Int) = (m : Int) + 1 := by omega
      rw [e]
      omega
  have hi : ∀ m : Nat, (m : Int) < n → f (n - 1 - m) ≤ n - 1 - m := by
    intro m
    induction m with
    | zero =>
      intro h
      have := (h0 (n - 1) (by omega) (by omega)).2
      rw [show n - 1 - ((0 : Nat) : Int) = n - 1 by omega]
      omega
    | succ m ih =>
      intro h
      have a := ih (by omega)
      have b := h1 (n - 1 - ((m + 1 : Nat) : Int)) (n - 1 - m) (by omega) (by omega) (by omega)
      omega
  intro p p0 p1
  have a := lo p.toNat (by omega)
  have b := hi (n - 1 - p).toNat (by omega)
  rw [show n - 1 - ((n - 1 - p).toNat : Int) = p by omega] at b
  rw [Int.toNat_of_nonneg p0] at a
  omega
/-- the order is sorted -/
def Srt (A : St) (s l : Int) (f : Int → Int) : Prop := (∀ p, 0 ≤ p → p < l → 0 ≤ f p ∧ f p < l) ∧ ∀ p p', 0 ≤ p → p < p' → p' < l → aheadA A (f p) (f p') s = true
theorem srt_rank {A : St} {s : Int} {f : Int → Int} (h : Srt A s (A 1) f) : ∀ p, 0 ≤ p → p < A 1 → f p = rankA A s p := fun p p0 p1 => by
  have e := inc_id (n := A 1) (f := fun p => cntA A (f p) s) (fun p p0 p1 => cnt_bd (h.1 p p0 p1).1 (h.1 p p0 p1).2) (fun p p' p0 pp p1 => cnt_lt (h.1 p p0 (by omega)).1 (h.1 p p0 (by omega)).2 (h.2 p p' p0 pp p1)) p p0 p1
  have e : cntA A (f p) s = p := e
  have r := rank_of (s := s) (h.1 p p0 p1).1 (h.1 p p0 p1).2
  rw [e] at r
  exact r.symm
theorem used_lent {D : Int} {A : St} (hI : Inv D A) {l s : Int} (l0 : 0 ≤ l) (l1 : l < 6) (s0 : 0 ≤ s) (s1 : s < 4) : usedA A l s = lentA A l s := by
  have h1 := lent_bd hI l0 l1 s0 s1
  have h2 := hI.lent l0 l1 s0 s1
  unfold usedA
  split <;> omega
section Ou
variable {D : Int} {σ : Hp} {A : St} {s ex : Int}
theorem R_orderByUse (hI : Inv D A) (hW : WF σ) (hs : 0 ≤ s ∧ s < 4) (hM : Ms σ A s ex) : Cv m_X0_orderByUse 0 0 0 [vR (some (0, 0))] σ none (fun τ => Fm [25] σ τ ∧ ∀ p, 0 ≤ p → p < A 1 → τ.I 25 0 p = rankA A s p) := by
  have hn := hI.n
  obtain ⟨m7, m8, m2, ml⟩ := hM
  show V _ 0 0 0 0 [some (vR (some (0, 0))), none, none] [] σ _
  refine V_iconst a_X0_orderByUse_0 ?_
  refine V_istn1 a_X0_orderByUse_1 ?_
  skip
  refine loopI (P := fun l => ∀ (x2 : Option AV) τ, Fm [25] σ τ → Srt A s l (τ.I 25 0) → V m_X0_orderByUse 0 0 0 2 [some (vR (some (0, 0))), some (vI l), x2] [] τ (fun r τ => r = .inl none ∧ Fm [25] σ τ ∧ ∀ p, 0 ≤ p → p < A 1 → τ.I 25 0 p = rankA A s p)) (N := A 1) (by omega) ?_ ?_ none σ (Fm.refl _ _) ⟨fun p p0 p1 => by omega, fun p p' p0 pp p1 => by omega⟩
  · intro x2 τ f hτ
    have hW := f.wf hW
    have g7 : τ.I 0 0 7 = A 1 := by
      rw [f.I (by decide)]
      exact m7
    refine V_ildn1 a_X0_orderByUse_2 ?_
    refine V_aldn0 a_X0_orderByUse_3 ?_
    refine V_getIE a_X0_orderByUse_4 f_X0_36 rfl g7 ?_
    refine V_icmp_ge_t a_X0_orderByUse_7 (by omega) (by omega) ?_
    exact V_ret a_X0_orderByUse_97 (⟨rfl, f, srt_rank hτ⟩)
  · intro l l0 l1 ih x2 τ f hτ
    obtain ⟨s1, s2⟩ := hτ
    generalize hold : τ.I 25 0 = old at s1 s2
    have inner : ∀ (m : Nat) ρ, (m : Int) ≤ l → Fm [25] σ ρ → (∀ p, 0 ≤ p → p < (m : Int) → ρ.I 25 0 p = old p) → (∀ p, (m : Int) < p → p ≤ l → ρ.I 25 0 p = old (p - 1)) → (∀ p, (m : Int) ≤ p → p < l → aheadA A l (old p) s = true) → V m_X0_orderByUse 0 0 0 12 [some (vR (some (0, 0))), some (vI l), some (vI (m : Int))] [] ρ (fun r τ => r = .inl none ∧ Fm [25] σ τ ∧ ∀ p, 0 ≤ p → p < A 1 → τ.I 25 0 p = rankA A s p) := by
      intro m
      induction m with
      | zero =>
        intro ρ hm fρ a1 a2 a3
        have hW := fρ.wf hW
        have k2 := ih (some (vI ((0 : Nat) : Int))) (ρ.setI 25 0 ((0 : Nat) : Int) l) (fρ.trans (Fm.setI (by decide))) ⟨fun p p0 p1 => by
          by_cases z : p = ((0 : Nat) : Int)
          · rw [z, setI_I]
            omega
          · rw [setI_ne z, a2 p (by omega) (by omega)]
            have := s1 (p - 1) (by omega) (by omega)
            omega, fun p p' p0 pp p1 => by
          rw [setI_ne (k' := p') (by omega), a2 p' (by omega) (by omega)]
          by_cases z : p = ((0 : Nat) : Int)
          · rw [z, setI_I]
            exact a3 (p' - 1) (by omega) (by omega)
          · rw [setI_ne z, a2 p (by omega) (by omega)]
            exact s2 (p - 1) (p' - 1) (by omega) (by omega) (by omega)⟩
        refine V_ildn2 a_X0_orderByUse_12 ?_
        refine V_if_le_t a_X0_orderByUse_13 (by omega) (by omega) ?_
        refine V_aldn0 a_X0_orderByUse_84 ?_
        refine V_fin a_X0_orderByUse_85 f_X0_15 rfl hW ?_
        refine V_ildn2 a_X0_orderByUse_88 ?_
        refine V_ildn1 a_X0_orderByUse_89 ?_
        refine V_iast a_X0_orderByUse_90 rfl (by omega) ?_
        refine V_inc1 a_X0_orderByUse_91 ?_
        refine V_goto a_X0_orderByUse_94 ?_
        exact k2
      | succ m ihm =>
        intro ρ hm fρ a1 a2 a3
        have hWρ := fρ.wf hW
        have em : ((m + 1 : Nat) : Int) = (m : Int) + 1 := by omega
        rw [em] at hm a1 a2 a3 ⊢
        have hom := s1 m (by omega) (by omega)
        have g25 : ρ.I 25 0 ((m : Int) + 1 - 1) = old m := by
          rw [show (m : Int) + 1 - 1 = m by omega]
          exact a1 m (by omega) (by omega)
        have gl : ρ.I 28 0 l = max 1 (A (49 + 4 * l + s)) ∧ ρ.I 27 0 l = lentA A l s := by
          rw [fρ.I (by decide), fρ.I (by decide)]
          exact ⟨(ml l l0 l1).1, (ml l l0 l1).2.1⟩
        have go : ρ.I 28 0 (old m) = max 1 (A (49 + 4 * old m + s)) ∧ ρ.I 27 0 (old m) = lentA A (old m) s := by
          rw [fρ.I (by decide), fρ.I (by decide)]
          exact ⟨(ml (old m) hom.1 (by omega)).1, (ml (old m) hom.1 (by omega)).2.1⟩
        have b1 := lent_bd hI l0 (by omega) hs.1 hs.2
        have b2 := lent_bd hI hom.1 (by omega) hs.1 hs.2
        have c1 := hI.held l0 (by omega) hs.1 hs.2
        have c2 := hI.held hom.1 (by omega) hs.1 hs.2
        have d1 := mul_bd (M := 99999) (N := 99999) b1.1 b1.2 (by omega : 0 ≤ max 1 (A (49 + 4 * old m + s))) (by omega)
        have d2 := mul_bd (M := 99999) (N := 99999) b2.1 b2.2 (by omega : 0 ≤ max 1 (A (49 + 4 * l + s))) (by omega)
        have hah : aheadA A l (old m) s = true ↔ lentA A l s * max 1 (A (49 + 4 * old m + s)) < lentA A (old m) s * max 1 (A (49 + 4 * l + s)) := by
          rw [ahead_iff, used_lent hI l0 (by omega) hs.1 hs.2, used_lent hI hom.1 (by omega) hs.1 hs.2]
          exact ⟨fun z => by rcases z with z | z; exact z; omega, fun z => Or.inl z⟩
        have hW := hWρ
        by_cases q : aheadA A l (old m) s = true
        · have q' := hah.mp q
          have k2 := ihm (ρ.setI 25 0 ((m : Int) + 1) (old m)) (by omega) (fρ.trans (Fm.setI (by decide))) (fun p p0 p1 => by
            rw [setI_ne (by omega)]
            exact a1 p p0 (by omega)) (fun p p0 p1 => by
            by_cases z : p = (m : Int) + 1
            · rw [z, setI_I, show (m : Int) + 1 - 1 = m by omega]
            · rw [setI_ne z]
              exact a2 p (by omega) p1) (fun p p0 p1 => by
            by_cases z : p = (m : Int)
            · rw [z]
              exact q
            · exact a3 p (by omega) p1)
          refine V_ildn2 a_X0_orderByUse_12 ?_
          refine V_if_le_f a_X0_orderByUse_13 (by omega) (by omega) ?_
          refine V_aldn0 a_X0_orderByUse_16 ?_
          refine V_fin a_X0_orderByUse_17 f_X0_21 rfl hW ?_
          refine V_ildn1 a_X0_orderByUse_20 ?_
          refine V_ialdE a_X0_orderByUse_21 rfl (by omega) gl.2 ?_
          refine V_i2l a_X0_orderByUse_22 (by omega) ?_
          refine V_aldn0 a_X0_orderByUse_23 ?_
          refine V_fin a_X0_orderByUse_24 f_X0_24 rfl hW ?_
          refine V_aldn0 a_X0_orderByUse_27 ?_
          refine V_fin a_X0_orderByUse_28 f_X0_15 rfl hW ?_
          refine V_ildn2 a_X0_orderByUse_31 ?_
          refine V_iconst a_X0_orderByUse_32 ?_
          refine V_isub a_X0_orderByUse_33 ?_
          refine V_ialdE a_X0_orderByUse_34 rfl (by omega) g25 ?_
          refine V_ialdE a_X0_orderByUse_35 rfl (by omega) go.1 ?_
          refine V_i2l a_X0_orderByUse_36 (by omega) ?_
          refine V_lmul a_X0_orderByUse_37 ?_
          refine V_aldn0 a_X0_orderByUse_38 ?_
          refine V_fin a_X0_orderByUse_39 f_X0_21 rfl hW ?_
          refine V_aldn0 a_X0_orderByUse_42 ?_
          refine V_fin a_X0_orderByUse_43 f_X0_15 rfl hW ?_
          refine V_ildn2 a_X0_orderByUse_46 ?_
          refine V_iconst a_X0_orderByUse_47 ?_
          refine V_isub a_X0_orderByUse_48 ?_
          refine V_ialdE a_X0_orderByUse_49 rfl (by omega) g25 ?_
          refine V_ialdE a_X0_orderByUse_50 rfl (by omega) go.2 ?_
          refine V_i2l a_X0_orderByUse_51 (by omega) ?_
          refine V_aldn0 a_X0_orderByUse_52 ?_
          refine V_fin a_X0_orderByUse_53 f_X0_24 rfl hW ?_
          refine V_ildn1 a_X0_orderByUse_56 ?_
          refine V_ialdE a_X0_orderByUse_57 rfl (by omega) gl.1 ?_
          refine V_i2l a_X0_orderByUse_58 (by omega) ?_
          refine V_lmul a_X0_orderByUse_59 ?_
          refine V_lc_ge_f a_X0_orderByUse_60 a_X0_orderByUse_61 (by omega) (by omega) ?_
          refine V_aldn0 a_X0_orderByUse_64 ?_
          refine V_fin a_X0_orderByUse_65 f_X0_15 rfl hW ?_
          refine V_ildn2 a_X0_orderByUse_68 ?_
          refine V_aldn0 a_X0_orderByUse_69 ?_
          refine V_fin a_X0_orderByUse_70 f_X0_15 rfl hW ?_
          refine V_ildn2 a_X0_orderByUse_73 ?_
          refine V_iconst a_X0_orderByUse_74 ?_
          refine V_isub a_X0_orderByUse_75 ?_
          refine V_ialdE a_X0_orderByUse_76 rfl (by omega) g25 ?_
          refine V_iast a_X0_orderByUse_77 rfl (by omega) ?_
          refine V_inc2 a_X0_orderByUse_78 ?_
          refine V_goto a_X0_orderByUse_81 ?_
          rw [show (m : Int) + 1 + -1 = m by omega]
          exact k2
        · have q' : ¬ lentA A l s * max 1 (A (49 + 4 * old m + s)) < lentA A (old m) s * max 1 (A (49 + 4 * l + s)) := fun z => q (hah.mpr z)
          have qm : aheadA A (old m) l s = true := (ahead_tot (by omega : old m ≠ l)).resolve_right q
          have k2 := ih (some (vI ((m : Int) + 1))) (ρ.setI 25 0 ((m : Int) + 1) l) (fρ.trans (Fm.setI (by decide))) ⟨fun p p0 p1 => by
            by_cases z : p = (m : Int) + 1
            · rw [z, setI_I]
              omega
            · rw [setI_ne z]
              by_cases y : p < (m : Int) + 1
              · rw [a1 p p0 y]
                have := s1 p p0 (by omega)
                omega
              · rw [a2 p (by omega) (by omega)]
                have := s1 (p - 1) (by omega) (by omega)
                omega, fun p p' p0 pp p1 => by
            have hlt : ∀ p, 0 ≤ p → p < (m : Int) + 1 → aheadA A (old p) l s = true := fun p p0 p1 => by
              by_cases z : p = (m : Int)
              · rw [z]
                exact qm
              · exact ahead_trans (s2 p m p0 (by omega) (by omega)) qm
            by_cases z : p' = (m : Int) + 1
            · rw [z, setI_I, setI_ne (k' := p) (by omega), a1 p p0 (by omega)]
              exact hlt p p0 (by omega)
            · rw [setI_ne z]
              by_cases y : p = (m : Int) + 1
              · rw [y, setI_I, a2 p' (by omega) (by omega)]
                exact a3 (p' - 1) (by omega) (by omega)
              · rw [setI_ne y]
                by_cases y1 : p' < (m : Int) + 1
                · rw [a1 p p0 (by omega), a1 p' (by omega) y1]
                  exact s2 p p' p0 pp (by omega)
                · rw [a2 p' (by omega) (by omega)]
                  by_cases y2 : p < (m : Int) + 1
                  · rw [a1 p p0 y2]
                    exact s2 p (p' - 1) p0 (by omega) (by omega)
                  · rw [a2 p (by omega) (by omega)]
                    exact s2 (p - 1) (p' - 1) (by omega) (by omega) (by omega)⟩
          refine V_ildn2 a_X0_orderByUse_12 ?_
          refine V_if_le_f a_X0_orderByUse_13 (by omega) (by omega) ?_
          refine V_aldn0 a_X0_orderByUse_16 ?_
          refine V_fin a_X0_orderByUse_17 f_X0_21 rfl hW ?_
          refine V_ildn1 a_X0_orderByUse_20 ?_
          refine V_ialdE a_X0_orderByUse_21 rfl (by omega) gl.2 ?_
          refine V_i2l a_X0_orderByUse_22 (by omega) ?_
          refine V_aldn0 a_X0_orderByUse_23 ?_
          refine V_fin a_X0_orderByUse_24 f_X0_24 rfl hW ?_
          refine V_aldn0 a_X0_orderByUse_27 ?_
          refine V_fin a_X0_orderByUse_28 f_X0_15 rfl hW ?_
          refine V_ildn2 a_X0_orderByUse_31 ?_
          refine V_iconst a_X0_orderByUse_32 ?_
          refine V_isub a_X0_orderByUse_33 ?_
          refine V_ialdE a_X0_orderByUse_34 rfl (by omega) g25 ?_
          refine V_ialdE a_X0_orderByUse_35 rfl (by omega) go.1 ?_
          refine V_i2l a_X0_orderByUse_36 (by omega) ?_
          refine V_lmul a_X0_orderByUse_37 ?_
          refine V_aldn0 a_X0_orderByUse_38 ?_
          refine V_fin a_X0_orderByUse_39 f_X0_21 rfl hW ?_
          refine V_aldn0 a_X0_orderByUse_42 ?_
          refine V_fin a_X0_orderByUse_43 f_X0_15 rfl hW ?_
          refine V_ildn2 a_X0_orderByUse_46 ?_
          refine V_iconst a_X0_orderByUse_47 ?_
          refine V_isub a_X0_orderByUse_48 ?_
          refine V_ialdE a_X0_orderByUse_49 rfl (by omega) g25 ?_
          refine V_ialdE a_X0_orderByUse_50 rfl (by omega) go.2 ?_
          refine V_i2l a_X0_orderByUse_51 (by omega) ?_
          refine V_aldn0 a_X0_orderByUse_52 ?_
          refine V_fin a_X0_orderByUse_53 f_X0_24 rfl hW ?_
          refine V_ildn1 a_X0_orderByUse_56 ?_
          refine V_ialdE a_X0_orderByUse_57 rfl (by omega) gl.1 ?_
          refine V_i2l a_X0_orderByUse_58 (by omega) ?_
          refine V_lmul a_X0_orderByUse_59 ?_
          refine V_lc_ge_t a_X0_orderByUse_60 a_X0_orderByUse_61 (by omega) (by omega) ?_
          refine V_aldn0 a_X0_orderByUse_84 ?_
          refine V_fin a_X0_orderByUse_85 f_X0_15 rfl hW ?_
          refine V_ildn2 a_X0_orderByUse_88 ?_
          refine V_ildn1 a_X0_orderByUse_89 ?_
          refine V_iast a_X0_orderByUse_90 rfl (by omega) ?_
          refine V_inc1 a_X0_orderByUse_91 ?_
          refine V_goto a_X0_orderByUse_94 ?_
          exact k2
    have hWτ := f.wf hW
    have g7 : τ.I 0 0 7 = A 1 := by
      rw [f.I (by decide)]
      exact m7
    have k2 := inner l.toNat τ (by omega) f (fun p _ _ => by rw [hold]) (fun p p0 p1 => by omega) (fun p p0 p1 => by omega)
    rw [Int.toNat_of_nonneg l0] at k2
    have hW := hWτ
    refine V_ildn1 a_X0_orderByUse_2 ?_
    refine V_aldn0 a_X0_orderByUse_3 ?_
    refine V_getIE a_X0_orderByUse_4 f_X0_36 rfl g7 ?_
    refine V_icmp_ge_f a_X0_orderByUse_7 (by omega) (by omega) ?_
    refine V_ildn1 a_X0_orderByUse_10 ?_
    refine V_istn2 a_X0_orderByUse_11 ?_
    exact k2
end Ou

