theorem itr_rel {α β : Type} {f : Int → α → α} {g : Int → β → β} {a : α} {b : β} (R : Int → α → β → Prop) (h0 : R 0 a b) {n : Int} (hn : 0 ≤ n) (hs : ∀ k x y, 0 ≤ k → k < n → R k x y → R (k + 1) (f k x) (g k y)) : R n (itr f n a) (itr g n b) := by
  have key : ∀ m : Nat, (m : Int) ≤ n → R m (itN f a m) (itN g b m) := by
    intro m
    induction m with
    | zero => intro _; exact h0
    | succ m ih =>
      intro h
      exact hs m _ _ (by omega) (by omega) (ih (by omega))
  have := key n.toNat (by omega)
  rw [Int.toNat_of_nonneg hn] at this
  exact this
/-- what lenders give together -/
def Alo (A : St) (s but q : Int) (g : Int → Int) : Prop := (∀ l, 0 ≤ l → l < A 1 → (0 ≤ g l ∧ g l ≤ freeA A l s) ∧ (l = but → g l = 0)) ∧ sm g (A 1) = q
section Al
variable {D : Int} {A : St}
theorem ordX_row {s but q k : Int} {o g g' : Int → Int} (k0 : 0 ≤ k) : (ordX A s but o k g q).2 = (ordX A s but o k g' q).2 ∧ ∀ l, (∃ j, 0 ≤ j ∧ j < k ∧ o j = l) → (ordX A s but o k g q).1 l = (ordX A s but o k g' q).1 l := by
  refine itr_rel (f := ordS A s but o) (g := ordS A s but o) (a := (g, q)) (b := (g', q)) (fun k (x y : (Int → Int) × Int) => x.2 = y.2 ∧ ∀ l, (∃ j, 0 ≤ j ∧ j < k ∧ o j = l) → x.1 l = y.1 l) ⟨rfl, fun l ⟨j, h0, h1, _⟩ => by omega⟩ k0 (fun j x y j0 j1 hx => ?_)
  obtain ⟨h1, h2⟩ := hx
  refine ⟨?_, fun l hl => ?_⟩
  · show x.2 - gvA A s but (o j) x.2 = y.2 - gvA A s but (o j) y.2
    rw [h1]
  · show upI x.1 (o j) (gvA A s but (o j) x.2) l = upI y.1 (o j) (gvA A s but (o j) y.2) l
    rw [h1]
    unfold upI
    by_cases e : l = o j
    · rw [if_pos e, if_pos e]
    · rw [if_neg e, if_neg e]
      obtain ⟨i, i0, i1, i2⟩ := hl
      exact h2 l ⟨i, i0, by
        rcases Classical.em (i = j) with z | z
        · exact absurd (by rw [← i2, z]) e
        · omega, i2⟩
theorem ord_ok (hI : Inv D A) {s but q : Int} {o : Int → Int} (hs : 0 ≤ s ∧ s < 4) (hq : 0 ≤ q ∧ q ≤ freeB A but s) (ho : ∀ j, 0 ≤ j → j < A 1 → 0 ≤ o j ∧ o j < A 1) (hi : ∀ i j, 0 ≤ i → i < A 1 → 0 ≤ j → j < A 1 → o i = o j → i = j) : Alo A s but q (ordX A s but o (A 1) (fun _ => 0) q).1 ∧ (ordX A s but o (A 1) (fun _ => 0) q).2 = 0 := by
  have hn := hI.n
  have key := itr_ind (f := ordS A s but o) (a := ((fun _ => 0 : Int → Int), q)) (n := A 1) (fun k (x : (Int → Int) × Int) => (0 ≤ x.2 ∧ sm x.1 (A 1) + x.2 = q) ∧ (∀ l, (∀ j, 0 ≤ j → j < k → o j ≠ l) → x.1 l = 0) ∧ (∀ j, 0 ≤ j → j < k → (0 ≤ x.1 (o j) ∧ x.1 (o j) ≤ freeA A (o j) s) ∧ (o j = but → x.1 (o j) = 0)) ∧ (0 < x.2 → ∀ j, 0 ≤ j → j < k → x.1 (o j) = if o j = but then 0 else freeA A (o j) s)) ⟨⟨hq.1, by
      have := sm_bd (f := fun _ => 0) (k := A 1) (lo := 0) (hi := 0) (by omega) (fun _ _ _ => ⟨Int.le_refl 0, Int.le_refl 0⟩)
      show sm (fun _ => 0) (A 1) + q = q
      omega⟩, fun _ _ => rfl, fun j j0 j1 => by omega, fun _ j j0 j1 => by omega⟩ (by omega) (fun k x k0 k1 hx => by
      obtain ⟨⟨h1, h2⟩, h3, h4, h5⟩ := hx
      have hk := ho k k0 k1
      have hg := gv_bd hI (but := but) hk hs h1
      have hne : ∀ j, 0 ≤ j → j < k → o j ≠ o k := fun j j0 j1 e => by
        have := hi j k j0 (by omega) k0 k1 e
        omega
      have hz := h3 (o k) hne
      refine ⟨⟨?_, ?_⟩, fun l hl => ?_, fun j j0 j1 => ?_, fun hp j j0 j1 => ?_⟩
      · show 0 ≤ x.2 - gvA A s but (o k) x.2
        omega
      · show sm (upI x.1 (o k) (gvA A s but (o k) x.2)) (A 1) + (x.2 - gvA A s but (o k) x.2) = q
        rw [sm_up hk.1 hk.2]
        omega
      · show upI x.1 (o k) (gvA A s but (o k) x.2) l = 0
        rw [upI_ne (fun e => hl k k0 (by omega) e.symm)]
        exact h3 l (fun j j0 j1 => hl j j0 (by omega))
      · show (0 ≤ upI x.1 (o k) (gvA A s but (o k) x.2) (o j) ∧ upI x.1 (o k) (gvA A s but (o k) x.2) (o j) ≤ _) ∧ (_ → upI x.1 (o k) (gvA A s but (o k) x.2) (o j) = 0)
        by_cases e : j = k
        · rw [e, upI_eq]
          exact ⟨⟨hg.1, hg.2.2.1⟩, hg.2.2.2⟩
        · rw [upI_ne (hne j j0 (by omega))]
          exact h4 j j0 (by omega)
      · have hp : 0 < x.2 - gvA A s but (o k) x.2 := hp
        show upI x.1 (o k) (gvA A s but (o k) x.2) (o j) = _
        by_cases e : j = k
        · rw [e, upI_eq]
          unfold gvA at hp ⊢
          by_cases z : o k = but
          · rw [if_pos z, if_pos z]
          · rw [if_neg z] at hp ⊢
            rw [if_neg z]
            omega
        · rw [upI_ne (hne j j0 (by omega))]
          exact h5 (by omega) j j0 (by omega))
  obtain ⟨⟨h1, h2⟩, h3, h4, h5⟩ := key
  have hsur : ∀ l, 0 ≤ l → l < A 1 → ∃ j, 0 ≤ j ∧ j < A 1 ∧ o j = l := fun l l0 l1 => by
    obtain ⟨j, j0, j1, j2⟩ := pig (A 1).toNat o (fun j j0 j1 => by
      have := ho j j0 (by omega)
      omega) (fun i j i0 i1 j0 j1 e => hi i j i0 (by omega) j0 (by omega) e) l l0 (by omega)
    exact ⟨j, j0, by omega, j2⟩
  have hz : (ordX A s but o (A 1) (fun _ => 0) q).2 = 0 := by
    rcases lt_ge 0 (ordX A s but o (A 1) (fun _ => 0) q).2 with g | g
    · have e : sm (ordX A s but o (A 1) (fun _ => 0) q).1 (A 1) = freeB A but s := sm_congr (fun l l0 l1 => by
        obtain ⟨j, j0, j1, j2⟩ := hsur l l0 l1
        have := h5 g j j0 j1
        rw [j2] at this
        exact this)
      have h2 : sm (ordX A s but o (A 1) (fun _ => 0) q).1 (A 1) + (ordX A s but o (A 1) (fun _ => 0) q).2 = q := h2
      omega
    · have h1 : 0 ≤ (ordX A s but o (A 1) (fun _ => 0) q).2 := h1
      omega
  refine ⟨⟨fun l l0 l1 => ?_, ?_⟩, hz⟩
  · obtain ⟨j, j0, j1, j2⟩ := hsur l l0 l1
    have := h4 j j0 j1
    rw [j2] at this
    exact this
  · have h2 : sm (ordX A s but o (A 1) (fun _ => 0) q).1 (A 1) + (ordX A s but o (A 1) (fun _ => 0) q).2 = q := h2
    omega
theorem turn_inj (hI : Inv D A) {s i j : Int} (hs : 0 ≤ s ∧ s < 4) (i0 : 0 ≤ i) (i1 : i < A 1) (j0 : 0 ≤ j) (j1 : j < A 1) (e : turnO A s i = turnO A s j) : i = j := by
  have hn := hI.n
  have h1 := hI.last hs.1 hs.2
  unfold turnO at e
  rw [Int.tmod_eq_emod_of_nonneg (by omega), Int.tmod_eq_emod_of_nonneg (by omega)] at e
  have hc : A 1 = 1 ∨ A 1 = 2 ∨ A 1 = 3 ∨ A 1 = 4 ∨ A 1 = 5 ∨ A 1 = 6 := by omega
  rcases hc with z | z | z | z | z | z <;> rw [z] at e i1 j1 <;> omega
theorem pick_ok (hI : Inv D A) {s but q : Int} (hs : 0 ≤ s ∧ s < 4) (hq : 0 < q ∧ q ≤ freeB A but s) : Alo A s but q (pickX (A 1) (q - sm (partA A s but q) (A 1)) (partA A s but q) (rstA A s but q)).1 := by
  have hp := PI_ok hI hs hq (part_sum hI hs hq).2 (Int.le_refl _)
  refine ⟨fun l l0 l1 => ?_, by have := hp.2.2; omega⟩
  have h1 := hp.1 l l0 l1
  have h2 := part_ok hI hs hq l0 l1
  have h3 := h2.2.2.2.1
  have h4 := h2.2.2.2.2.1
  refine ⟨?_, fun e => ?_⟩
  · rcases h1 with z | z
    · omega
    · have := h3 z.2.2
      omega
  · have := h4 e
    omega
def giveA (A : St) (s q but : Int) : Int → Int := if A 5 = 0 then (ordX A s but (rankA A s) (A 1) (fun _ => 0) q).1 else if A 5 = 1 then (pickX (A 1) (q - sm (partA A s but q) (A 1)) (partA A s but q) (rstA A s but q)).1 else (ordX A s but (turnO A s) (A 1) (fun _ => 0) q).1
def allocA (A : St) (s q but : Int) : St := if A 5 = 0 then A else if A 5 = 1 then A else upI A (23 + s) (lastX A s but q (fun _ => 0) (A 1))
theorem give_ok (hI : Inv D A) {s but q : Int} (hs : 0 ≤ s ∧ s < 4) (hq : 0 < q ∧ q ≤ freeB A but s) : Alo A s but q (giveA A s q but) := by
  have hn := hI.n
  unfold giveA
  by_cases h0 : A 5 = 0
  · rw [if_pos h0]
    exact (ord_ok hI hs ⟨by omega, hq.2⟩ (fun j j0 j1 => (rank_ok (by omega) j0 j1).1) (fun i j i0 i1 j0 j1 e => rank_inj (by omega) i0 i1 j0 j1 e)).1
  · rw [if_neg h0]
    by_cases h1 : A 5 = 1
    · rw [if_pos h1]
      exact pick_ok hI hs hq
    · rw [if_neg h1]
      exact (ord_ok hI hs ⟨by omega, hq.2⟩ (fun j j0 j1 => turn_ok hI hs j0 j1) (fun i j i0 i1 j0 j1 e => turn_inj hI hs i0 i1 j0 j1 e)).1
theorem alloc_ag {s but q : Int} (hs : 0 ≤ s ∧ s < 4) : Ag A (allocA A s q but) := by
  unfold allocA
  split
  · exact Ag.refl A
  · split
    · exact Ag.refl A
    · exact Ag.up (by omega)
theorem lastX_row {s but q k : Int} {g g' : Int → Int} (k0 : 0 ≤ k) : lastX A s but q g k = lastX A s but q g' k := by
  refine itr_rel (f := lastS A s but q g) (g := lastS A s but q g') (a := A (23 + s)) (b := A (23 + s)) (fun _ (x y : Int) => x = y) rfl k0 (fun j x y j0 j1 e => ?_)
  show lastS A s but q g j x = lastS A s but q g' j y
  unfold lastS
  rw [(ordX_row (A := A) (g := g) (g' := g') j0).1, e]
theorem alloc_inv (hI : Inv D A) {s but q : Int} (hs : 0 ≤ s ∧ s < 4) : Inv D (allocA A s q but) := by
  have hn := hI.n
  unfold allocA
  split
  · exact hI
  · split
    · exact hI
    · exact inv_last hI hs (lastX_bd hI hs (by omega) (Int.le_refl _))
end Al
section Mo5
variable {D : Int} {σ : Hp} {A : St}
theorem gr_1 {g : Int → Int} : σ.rJ 56 0 g = σ.gr g (σ.J 57 0) := by
  have e : (σ.rJ 56 0 g).J 57 0 = σ.J 57 0 := rJ_ne (by decide)
  have e2 : (σ.rJ 56 0 g).rJ 57 0 ((σ.rJ 56 0 g).J 57 0) = σ.rJ 56 0 g := rJ_self
  rw [e] at e2
  exact e2.symm
theorem Fm.gr {g r : Int → Int} : Fm [56, 57] σ (σ.gr g r) := (Fm.rJ (by decide)).trans (Fm.rJ (by decide))
theorem R_allocate {s q but : Int} (h : Md D σ A) (hs : 0 ≤ s ∧ s < 4) (hq : 0 < q ∧ q ≤ freeB A but s) (hb : -2147483648 ≤ but ∧ but < 2147483648) : ∃ σ', Fm [50, 56, 57] σ σ' ∧ Md D σ' (allocA A s q but) ∧ (∀ l, 0 ≤ l → l < A 1 → σ'.J 56 0 l = giveA A s q but l) ∧ Rt m_X11_allocate 6 0 0 [vR (some (11, 0)), vI s, vL q, vI but] σ none σ' := by
  have h' := h
  obtain ⟨hD, hW, hA, hI⟩ := h
  have hn := hI.n
  have hS := freeB_bd hI (but := but) hs.1 hs.2
  by_cases h0 : A 5 = 0
  · refine ⟨_, (Fm.rJ (t := 56) (i := 0) (g := (ordX A s but (rankA A s) (A 1) (σ.J 56 0) q).1) (by decide)), ?_, fun l l0 l1 => ?_, ?_⟩
    · unfold allocA
      rw [if_pos h0]
      exact h'.rJ (by decide)
    · unfold giveA
      rw [if_pos h0, rJ_J]
      exact (ordX_row (by omega)).2 l ⟨_, (cnt_bd l0 l1).1, (cnt_bd l0 l1).2, rank_of l0 l1⟩
    · show V _ 6 0 0 0 [some (vR (some (11, 0))), some (vI s), some (vL q), none, some (vI but)] [] σ _
      refine V_aldn0 a_X11_allocate_0 ?_
      refine V_fin a_X11_allocate_1 f_X11_7 rfl hW ?_
      refine V_iconst a_X11_allocate_4 ?_
      refine V_w a_X11_allocate_5 (by omega) hA ?_
      refine V_lconst0 a_X11_allocate_6 ?_
      refine V_lc_ne_f a_X11_allocate_7 a_X11_allocate_8 (by omega) (by omega) ?_
      refine V_aldn0 a_X11_allocate_11 ?_
      refine V_ildn1 a_X11_allocate_12 ?_
      refine V_lldn2 a_X11_allocate_13 ?_
      refine V_ild4 a_X11_allocate_14 ?_
      refine V_v3V a_X11_allocate_16 c_X11_241 (R_byUse h' hs (by omega) hb) ?_
      refine V_goto a_X11_allocate_19 ?_
      exact V_ret a_X11_allocate_52 (⟨rfl, rfl⟩)
  · by_cases h1 : A 5 = 1
    · refine ⟨_, (Fm.gr (σ := σ) (g := (pickX (A 1) (q - sm (partA A s but q) (A 1)) (mix (partA A s but q) (σ.J 56 0) (A 1)) (mix (rstA A s but q) (σ.J 57 0) (A 1))).1) (r := (pickX (A 1) (q - sm (partA A s but q) (A 1)) (mix (partA A s but q) (σ.J 56 0) (A 1)) (mix (rstA A s but q) (σ.J 57 0) (A 1))).2)).sub (by decide), ?_, fun l l0 l1 => ?_, ?_⟩
      · unfold allocA
        rw [if_neg h0, if_pos h1]
        exact h'.gr
      · unfold giveA
        rw [if_neg h0, if_pos h1, gr_g]
        exact (pickX_congr (by omega) (part_sum hI hs hq).2 (fun j j0 j1 => mix_in j0 j1) (fun j j0 j1 => mix_in j0 j1) l l0 l1).1
      · show V _ 6 0 0 0 [some (vR (some (11, 0))), some (vI s), some (vL q), none, some (vI but)] [] σ _
        refine V_aldn0 a_X11_allocate_0 ?_
        refine V_fin a_X11_allocate_1 f_X11_7 rfl hW ?_
        refine V_iconst a_X11_allocate_4 ?_
        refine V_w a_X11_allocate_5 (by omega) hA ?_
        refine V_lconst0 a_X11_allocate_6 ?_
        refine V_lc_ne_t a_X11_allocate_7 a_X11_allocate_8 (by omega) (by omega) ?_
        refine V_aldn0 a_X11_allocate_22 ?_
        refine V_fin a_X11_allocate_23 f_X11_7 rfl hW ?_
        refine V_iconst a_X11_allocate_26 ?_
        refine V_w a_X11_allocate_27 (by omega) hA ?_
        refine V_lconst1 a_X11_allocate_28 ?_
        refine V_lc_ne_f a_X11_allocate_29 a_X11_allocate_30 (by omega) (by omega) ?_
        refine V_aldn0 a_X11_allocate_33 ?_
        refine V_ildn1 a_X11_allocate_34 ?_
        refine V_lldn2 a_X11_allocate_35 ?_
        refine V_ild4 a_X11_allocate_36 ?_
        refine V_v3V a_X11_allocate_38 c_X11_245 (R_byParts h' hs hq hb) ?_
        refine V_goto a_X11_allocate_41 ?_
        exact V_ret a_X11_allocate_52 (⟨rfl, rfl⟩)
    · have e := lastX_row (A := A) (s := s) (but := but) (q := q) (k := A 1) (g := σ.J 56 0) (g' := fun _ => 0) (by omega)
      refine ⟨_, ((Fm.rJ (t := 56) (i := 0) (g := (ordX A s but (turnO A s) (A 1) (σ.J 56 0) q).1) (by decide)).trans (Fm.rJ (t := 50) (i := 0) (g := upI A (23 + s) (lastX A s but q (σ.J 56 0) (A 1))) (by decide))), ?_, fun l l0 l1 => ?_, ?_⟩
      · unfold allocA
        rw [if_neg h0, if_neg h1, ← e]
        exact (h'.rJ (by decide)).w hD (inv_last hI hs (lastX_bd hI hs (by omega) (Int.le_refl _)))
      · unfold giveA
        rw [if_neg h0, if_neg h1, rJ_ne (by decide), rJ_J]
        obtain ⟨j, j0, j1, j2⟩ := pig (A 1).toNat (turnO A s) (fun j j0 j1 => by
          have := turn_ok hI hs j0 (by omega : j < A 1)
          omega) (fun i j i0 i1 j0 j1 e => turn_inj hI hs i0 (by omega) j0 (by omega) e) l l0 (by omega)
        exact (ordX_row (by omega)).2 l ⟨j, j0, by omega, j2⟩
      · show V _ 6 0 0 0 [some (vR (some (11, 0))), some (vI s), some (vL q), none, some (vI but)] [] σ _
        refine V_aldn0 a_X11_allocate_0 ?_
        refine V_fin a_X11_allocate_1 f_X11_7 rfl hW ?_
        refine V_iconst a_X11_allocate_4 ?_
        refine V_w a_X11_allocate_5 (by omega) hA ?_
        refine V_lconst0 a_X11_allocate_6 ?_
        refine V_lc_ne_t a_X11_allocate_7 a_X11_allocate_8 (by omega) (by omega) ?_
        refine V_aldn0 a_X11_allocate_22 ?_
        refine V_fin a_X11_allocate_23 f_X11_7 rfl hW ?_
        refine V_iconst a_X11_allocate_26 ?_
        refine V_w a_X11_allocate_27 (by omega) hA ?_
        refine V_lconst1 a_X11_allocate_28 ?_
        refine V_lc_ne_t a_X11_allocate_29 a_X11_allocate_30 (by omega) (by omega) ?_
        refine V_aldn0 a_X11_allocate_44 ?_
        refine V_ildn1 a_X11_allocate_45 ?_
        refine V_lldn2 a_X11_allocate_46 ?_
        refine V_ild4 a_X11_allocate_47 ?_
        refine V_v3V a_X11_allocate_49 c_X11_248 (R_byTurns h' hs (by omega) hb) ?_
        exact V_ret a_X11_allocate_52 (⟨rfl, rfl⟩)
def canA (A : St) (b s q : Int) : Prop := A 7 < 12 ∧ q ≤ freeB A (-1) s ∧ expoA A b + q * A (15 + s) ≤ A (45 + b)
theorem B_canLend {b s q : Int} (h : Md D σ A) (hb : 0 ≤ b ∧ b < A 2) (hs : 0 ≤ s ∧ s < A 0) (hq : 1 ≤ q ∧ q ≤ 99999) : ∃ z : Int, ((z = 1 ∧ canA A b s q) ∨ (z = 0 ∧ ¬ canA A b s q)) ∧ Rt m_X11_canLend 4 0 0 [vR (some (11, 0)), vI b, vI s, vI q] σ (some (vI z)) σ := by
  have h' := h
  obtain ⟨hD, hW, hA, hI⟩ := h
  have hn := hI.n
  have h1 := freeB_bd hI (but := -1) hs.1 (by omega)
  have h2 := expo_bd hI b
  have h3 := (hI.price hs.1 hs.2).1
  have h4 := mul_bd (a := q) (b := A (15 + s)) (by omega) hq.2 (by omega) h3.2
  have h5 := hI.cred hb.1 hb.2
  by_cases hp : canA A b s q
  · refine ⟨1, Or.inl ⟨rfl, hp⟩, ?_⟩
    unfold canA at hp
    show V _ 4 0 0 0 [some (vR (some (11, 0))), some (vI b), some (vI s), some (vI q)] [] σ _
    refine V_aldn0 a_X11_canLend_0 ?_
    refine V_fin a_X11_canLend_1 f_X11_7 rfl hW ?_
    refine V_bipush a_X11_canLend_4 (by decide) ?_
    refine V_w a_X11_canLend_6 (by omega) hA ?_
    refine V_ldc2 a_X11_canLend_7 q_X11_251 ?_
    refine V_lc_ge_f a_X11_canLend_10 a_X11_canLend_11 (by omega) (by omega) ?_
    refine V_ildn3 a_X11_canLend_14 ?_
    refine V_i2l a_X11_canLend_15 (by omega) ?_
    refine V_aldn0 a_X11_canLend_16 ?_
    refine V_iconst a_X11_canLend_17 ?_
    refine V_ildn2 a_X11_canLend_18 ?_
    refine V_v2R a_X11_canLend_19 c_X11_238 (R_freeBut h' (by omega) (by omega)) ?_
    refine V_lc_gt_f a_X11_canLend_22 a_X11_canLend_23 (by omega) (by omega) ?_
    refine V_aldn0 a_X11_canLend_26 ?_
    refine V_ildn1 a_X11_canLend_27 ?_
    refine V_v1R a_X11_canLend_28 c_X11_253 (R_exposureOf h' (by omega)) ?_
    refine V_ildn3 a_X11_canLend_31 ?_
    refine V_i2l a_X11_canLend_32 (by omega) ?_
    refine V_aldn0 a_X11_canLend_33 ?_
    refine V_fin a_X11_canLend_34 f_X11_7 rfl hW ?_
    refine V_bipush a_X11_canLend_37 (by decide) ?_
    refine V_ildn2 a_X11_canLend_39 ?_
    refine V_iadd a_X11_canLend_40 ?_
    refine V_w a_X11_canLend_41 (by omega) hA ?_
    refine V_lmul a_X11_canLend_42 ?_
    refine V_ladd a_X11_canLend_43 ?_
    refine V_aldn0 a_X11_canLend_44 ?_
    refine V_fin a_X11_canLend_45 f_X11_7 rfl hW ?_
    refine V_bipush a_X11_canLend_48 (by decide) ?_
    refine V_ildn1 a_X11_canLend_50 ?_
    refine V_iadd a_X11_canLend_51 ?_
    refine V_w a_X11_canLend_52 (by omega) hA ?_
    refine V_lc_gt_f a_X11_canLend_53 a_X11_canLend_54 (by omega) (by omega) ?_
    refine V_iconst a_X11_canLend_57 ?_
    refine V_goto a_X11_canLend_58 ?_
    exact V_zret a_X11_canLend_62 (by omega) (⟨rfl, rfl⟩)
  · refine ⟨0, Or.inr ⟨rfl, hp⟩, ?_⟩
    unfold canA at hp
    show V _ 4 0 0 0 [some (vR (some (11, 0))), some (vI b), some (vI s), some (vI q)] [] σ _
    refine V_aldn0 a_X11_canLend_0 ?_
    refine V_fin a_X11_canLend_1 f_X11_7 rfl hW ?_
    refine V_bipush a_X11_canLend_4 (by decide) ?_
    refine V_w a_X11_canLend_6 (by omega) hA ?_
    refine V_ldc2 a_X11_canLend_7 q_X11_251 ?_
    refine V_lc_ge a_X11_canLend_10 a_X11_canLend_11 (by omega) (fun hc10 => ?_) (fun hc10 => ?_)
    · refine V_iconst a_X11_canLend_61 ?_
      exact V_zret a_X11_canLend_62 (by omega) (⟨by first | rfl | omega, rfl⟩)
    · refine V_ildn3 a_X11_canLend_14 ?_
      refine V_i2l a_X11_canLend_15 (by omega) ?_
      refine V_aldn0 a_X11_canLend_16 ?_
      refine V_iconst a_X11_canLend_17 ?_
      refine V_ildn2 a_X11_canLend_18 ?_
      refine V_v2R a_X11_canLend_19 c_X11_238 (R_freeBut h' (by omega) (by omega)) ?_
      refine V_lc_gt a_X11_canLend_22 a_X11_canLend_23 (by omega) (fun hc22 => ?_) (fun hc22 => ?_)
      · refine V_iconst a_X11_canLend_61 ?_
        exact V_zret a_X11_canLend_62 (by omega) (⟨by first | rfl | omega, rfl⟩)
      · refine V_aldn0 a_X11_canLend_26 ?_
        refine V_ildn1 a_X11_canLend_27 ?_
        refine V_v1R a_X11_canLend_28 c_X11_253 (R_exposureOf h' (by omega)) ?_
        refine V_ildn3 a_X11_canLend_31 ?_
        refine V_i2l a_X11_canLend_32 (by omega) ?_
        refine V_aldn0 a_X11_canLend_33 ?_
        refine V_fin a_X11_canLend_34 f_X11_7 rfl hW ?_
        refine V_bipush a_X11_canLend_37 (by decide) ?_
        refine V_ildn2 a_X11_canLend_39 ?_
        refine V_iadd a_X11_canLend_40 ?_
        refine V_w a_X11_canLend_41 (by omega) hA ?_
        refine V_lmul a_X11_canLend_42 ?_
        refine V_ladd a_X11_canLend_43 ?_
        refine V_aldn0 a_X11_canLend_44 ?_
        refine V_fin a_X11_canLend_45 f_X11_7 rfl hW ?_
        refine V_bipush a_X11_canLend_48 (by decide) ?_
        refine V_ildn1 a_X11_canLend_50 ?_
        refine V_iadd a_X11_canLend_51 ?_
        refine V_w a_X11_canLend_52 (by omega) hA ?_
        refine V_lc_gt a_X11_canLend_53 a_X11_canLend_54 (by omega) (fun hc53 => ?_) (fun hc53 => ?_)
        · refine V_iconst a_X11_canLend_61 ?_
          exact V_zret a_X11_canLend_62 (by omega) (⟨by first | rfl | omega, rfl⟩)
        · refine V_iconst a_X11_canLend_57 ?_
          refine V_goto a_X11_canLend_58 ?_
          exact V_zret a_X11_canLend_62 (by omega) (⟨by first | rfl | omega, rfl⟩)
end Mo5

