/-- two states that differ in accounts, totals and last served alone -/
def Ag (A B : St) : Prop := ∀ j, (j < 9 ∨ (15 ≤ j ∧ j < 23) ∨ (27 ≤ j ∧ j < 73) ∨ 83 ≤ j) → B j = A j
theorem Ag.refl (A : St) : Ag A A := fun _ _ => rfl
theorem Ag.trans {A B C : St} (h : Ag A B) (h2 : Ag B C) : Ag A C := fun j hj => (h2 j hj).trans (h j hj)
theorem Ag.symm {A B : St} (h : Ag A B) : Ag B A := fun j hj => (h j hj).symm
section Agr
variable {A B : St} (h : Ag A B)
theorem Ag.lent {A B : St} (h : Ag A B) {l s : Int} (hl : 0 ≤ l) : lentA B l s = lentA A l s := by
  unfold lentA
  rw [h 7 (by omega)]
  exact sm_congr (fun k k0 _ => by rw [h _ (by omega), h _ (by omega)])
theorem Ag.quan {A B : St} (h : Ag A B) {k : Int} (hk : 0 ≤ k) : quanA B k = quanA A k := by
  unfold quanA
  rw [h 1 (by omega)]
  exact sm_congr (fun l l0 _ => by rw [h _ (by omega)])
theorem Ag.free {A B : St} (h : Ag A B) {l s : Int} (hl : 0 ≤ l ∧ l < 6) (hs : 0 ≤ s ∧ s < 4) : freeA B l s = freeA A l s := by
  unfold freeA
  rw [h.lent hl.1, h _ (by omega), h _ (by omega)]
theorem Ag.freeB {A B : St} (h : Ag A B) {b s : Int} (h1 : A 1 ≤ 6) (hs : 0 ≤ s ∧ s < 4) : freeB B b s = freeB A b s := by
  show sm _ _ = sm _ _
  rw [h 1 (by omega)]
  exact sm_congr (fun l l0 l1 => by rw [h.free (by omega) hs])
theorem Ag.used {A B : St} (h : Ag A B) {l s : Int} (hl : 0 ≤ l ∧ l < 6) (hs : 0 ≤ s ∧ s < 4) : usedA B l s = usedA A l s := by
  unfold usedA
  rw [h.lent hl.1, h _ (by omega)]
theorem Ag.loan {A B : St} (h : Ag A B) {D k : Int} (hk : 0 ≤ k) (hL : LoanIn D A k) : LoanIn D B k := by
  obtain ⟨h0, h1, h2, h3, h4, h5⟩ := hL
  have e8 := h 8 (by omega)
  have e2 := h 2 (by omega)
  have e0 := h 0 (by omega)
  have e6 := h 6 (by omega)
  have e1 := h 1 (by omega)
  refine ⟨by rw [h _ (by omega), e8]; exact h0, by rw [h _ (by omega), e2]; exact h1, by rw [h _ (by omega), e0]; exact h2, by rw [h _ (by omega)]; exact h3, by rw [h _ (by omega), e6]; exact h4, fun l l0 l1 => ?_⟩
  rw [h (83 + 23 * k + 11 + l) (by omega), h (83 + 23 * k + 5 + l) (by omega), h (83 + 23 * k + 17 + l) (by omega), e6, e1]
  exact h5 l l0 l1
end Agr
theorem Inv.agree {D : Int} {A B : St} (hI : Inv D A) (h : Ag A B) (hl : ∀ s, 0 ≤ s → s < 4 → -1 ≤ B (23 + s) ∧ (B (23 + s) = -1 ∨ B (23 + s) < A 1)) : Inv D B := by
  have hn := hI.n
  have e0 := h 0 (by omega)
  have e1 := h 1 (by omega)
  have e2 := h 2 (by omega)
  have e7 := h 7 (by omega)
  refine ⟨?_, fun s s0 s1 => ?_, fun s s0 s1 => ?_, fun l l0 l1 => ?_, fun b b0 b1 => ?_, fun l s l0 l1 s0 s1 => ?_, fun k k0 k1 => ?_, fun j k j0 jk k1 => ?_, fun l s l0 l1 s0 s1 => ?_⟩
  · rw [e0, e1, e2, h 3 (by omega), h 4 (by omega), h 5 (by omega), h 6 (by omega), e7, h 8 (by omega)]
    exact hn
  · rw [e0] at s1
    rw [h _ (by omega), h _ (by omega)]
    exact hI.price s0 s1
  · rw [e1]
    exact hl s s0 s1
  · rw [e1] at l1
    rw [h _ (by omega), h _ (by omega), h _ (by omega)]
    exact hI.lend l0 l1
  · rw [e2] at b1
    rw [h _ (by omega)]
    exact hI.cred b0 b1
  · rw [h _ (by omega)]
    exact hI.held l0 l1 s0 s1
  · rw [e7] at k1
    exact ⟨h.loan k0 (hI.loan k0 k1), by rw [h.quan k0]; exact hI.quan k0 k1⟩
  · rw [e7] at k1
    rw [h _ (by omega), h _ (by omega)]
    exact hI.incr j0 jk k1
  · rw [h.lent l0, h _ (by omega)]
    exact hI.lent l0 l1 s0 s1
theorem Ag.up {A : St} {j v : Int} (hj : (9 ≤ j ∧ j < 15) ∨ (23 ≤ j ∧ j < 27) ∨ (73 ≤ j ∧ j < 83)) : Ag A (upI A j v) := fun k hk => upI_ne (by omega)
theorem upI_self {A : St} {j : Int} : upI A j (A j) = A := by
  funext k
  unfold upI
  by_cases h : k = j
  · rw [if_pos h, h]
  · rw [if_neg h]
theorem upI_upI {A : St} {j v w : Int} : upI (upI A j v) j w = upI A j w := by
  funext k
  unfold upI
  by_cases h : k = j
  · rw [if_pos h, if_pos h]
  · rw [if_neg h, if_neg h, if_neg h]
theorem V_rJ {M : MI} {n b bs pc : Nat} {ls : List (Option AV)} {st : List AV} {σ : Hp} {Q : Res → Hp → Prop} {t i : Nat} (h : V M n b bs pc ls st (σ.rJ t i (σ.J t i)) Q) : V M n b bs pc ls st σ Q := by
  rw [rJ_self] at h
  exact h
theorem V_rI {M : MI} {n b bs pc : Nat} {ls : List (Option AV)} {st : List AV} {σ : Hp} {Q : Res → Hp → Prop} {t i : Nat} (h : V M n b bs pc ls st (σ.rI t i (σ.I t i)) Q) : V M n b bs pc ls st σ Q := by
  rw [rI_self] at h
  exact h
theorem rJ_J {σ : Hp} {t i : Nat} {g : Int → Int} : (σ.rJ t i g).J t i = g := row_eq
theorem rI_I {σ : Hp} {t i : Nat} {g : Int → Int} : (σ.rI t i g).I t i = g := row_eq
theorem rJ_ne {σ : Hp} {t i t' i' : Nat} {g : Int → Int} (h : ¬ (t' = t ∧ i' = i)) : (σ.rJ t i g).J t' i' = σ.J t' i' := row_ne h
theorem rI_ne {σ : Hp} {t i t' i' : Nat} {g : Int → Int} (h : ¬ (t' = t ∧ i' = i)) : (σ.rI t i g).I t' i' = σ.I t' i' := row_ne h
theorem row_comm {α : Type} {f : Nat → Nat → Int → α} {t i t' i' : Nat} {g h : Int → α} (hne : ¬ (t' = t ∧ i' = i)) : rowR (rowR f t i g) t' i' h = rowR (rowR f t' i' h) t i g := by
  funext a b
  unfold rowR
  by_cases h1 : a = t' ∧ b = i'
  · rw [if_pos h1, if_neg (fun e => hne ⟨h1.1.symm.trans e.1, h1.2.symm.trans e.2⟩), if_pos h1]
  · rw [if_neg h1]
    by_cases h2 : a = t ∧ b = i
    · rw [if_pos h2, if_pos h2]
    · rw [if_neg h2, if_neg h2, if_neg h1]
theorem rJ_comm {σ : Hp} {t i t' i' : Nat} {g h : Int → Int} (hne : ¬ (t' = t ∧ i' = i)) : (σ.rJ t i g).rJ t' i' h = (σ.rJ t' i' h).rJ t i g := by
  show Hp.wJ (Hp.wJ σ _) (rowR (rowR σ.J t i g) t' i' h) = Hp.wJ (Hp.wJ σ _) (rowR (rowR σ.J t' i' h) t i g)
  rw [row_comm hne]
  rfl
theorem rI_comm {σ : Hp} {t i t' i' : Nat} {g h : Int → Int} (hne : ¬ (t' = t ∧ i' = i)) : (σ.rI t i g).rI t' i' h = (σ.rI t' i' h).rI t i g := by
  show Hp.wI (Hp.wI σ _) (rowR (rowR σ.I t i g) t' i' h) = Hp.wI (Hp.wI σ _) (rowR (rowR σ.I t' i' h) t i g)
  rw [row_comm hne]
  rfl
theorem rJ_rJ {σ : Hp} {t i : Nat} {g h : Int → Int} : (σ.rJ t i g).rJ t i h = σ.rJ t i h := by
  show Hp.wJ (Hp.wJ σ _) (rowR (rowR σ.J t i g) t i h) = _
  rw [row_row]
  rfl
theorem rI_rI {σ : Hp} {t i : Nat} {g h : Int → Int} : (σ.rI t i g).rI t i h = σ.rI t i h := by
  show Hp.wI (Hp.wI σ _) (rowR (rowR σ.I t i g) t i h) = _
  rw [row_row]
  rfl
theorem rJ_set2 {σ : Hp} {t i t' i' : Nat} {g h : Int → Int} {k v : Int} (hne : ¬ (t' = t ∧ i' = i)) : ((σ.rJ t i g).rJ t' i' h).setJ t i k v = (σ.rJ t i (upI g k v)).rJ t' i' h := by
  rw [rJ_comm hne, rJ_set, rJ_comm (fun e => hne ⟨e.1.symm, e.2.symm⟩)]
theorem rI_set2 {σ : Hp} {t i t' i' : Nat} {g h : Int → Int} {k v : Int} (hne : ¬ (t' = t ∧ i' = i)) : ((σ.rI t i g).rI t' i' h).setI t i k v = (σ.rI t i (upI g k v)).rI t' i' h := by
  rw [rI_comm hne, rI_set, rI_comm (fun e => hne ⟨e.1.symm, e.2.symm⟩)]
theorem Md.fm {D : Int} {σ σ' : Hp} {A : St} {L : List Nat} (h : Md D σ A) (hf : Fm L σ σ') (h5 : 50 ∉ L) : Md D σ' A := ⟨h.1, hf.wf h.2.1, by rw [hf.J h5]; exact h.2.2.1, h.2.2.2⟩
theorem Md.rJ {D : Int} {σ : Hp} {A : St} {t i : Nat} {g : Int → Int} (h : Md D σ A) (ht : t ≠ 50) : Md D (σ.rJ t i g) A := h.fm (L := [t]) (Fm.rJ List.mem_cons_self) (fun q => by simp at q; omega)
theorem Md.rI {D : Int} {σ : Hp} {A : St} {t i : Nat} {g : Int → Int} (h : Md D σ A) : Md D (σ.rI t i g) A := h
theorem Md.setI {D : Int} {σ : Hp} {A : St} {t i : Nat} {k v : Int} (h : Md D σ A) : Md D (σ.setI t i k v) A := h
theorem Md.setJ {D : Int} {σ : Hp} {A : St} {t i : Nat} {k v : Int} (h : Md D σ A) (ht : t ≠ 50) : Md D (σ.setJ t i k v) A := h.fm (L := [t]) (Fm.setJ List.mem_cons_self) (fun q => by simp at q; omega)
theorem Md.w {D D' : Int} {σ : Hp} {A B : St} (h : Md D σ A) (hD : D' ≤ 20000000) (hB : Inv D' B) : Md D' (σ.rJ 50 0 B) B := ⟨hD, (Fm.rJ (L := [50]) List.mem_cons_self).wf h.2.1, rJ_J, hB⟩
/-- what is left of shares that lenders give one after another -/
theorem gv_bd {D : Int} {A : St} (hI : Inv D A) {s but l left : Int} (hl : 0 ≤ l ∧ l < A 1) (hs : 0 ≤ s ∧ s < 4) (h0 : 0 ≤ left) : 0 ≤ gvA A s but l left ∧ gvA A s but l left ≤ left ∧ gvA A s but l left ≤ freeA A l s ∧ (l = but → gvA A s but l left = 0) := by
  have := (free_bd hI hl.1 hl.2 hs.1 hs.2).1
  unfold gvA
  split
  · omega
  · omega
/-- lenders give in an order -/
def ordS (A : St) (s but : Int) (o : Int → Int) (k : Int) (x : (Int → Int) × Int) : (Int → Int) × Int := (upI x.1 (o k) (gvA A s but (o k) x.2), x.2 - gvA A s but (o k) x.2)
def ordX (A : St) (s but : Int) (o : Int → Int) (k : Int) (g : Int → Int) (q : Int) : (Int → Int) × Int := itr (ordS A s but o) k (g, q)
theorem ordX_0 {A : St} {s but q : Int} {o g : Int → Int} : ordX A s but o 0 g q = (g, q) := rfl
theorem ordX_s {A : St} {s but q k : Int} {o g : Int → Int} (h : 0 ≤ k) : ordX A s but o (k + 1) g q = (upI (ordX A s but o k g q).1 (o k) (gvA A s but (o k) (ordX A s but o k g q).2), (ordX A s but o k g q).2 - gvA A s but (o k) (ordX A s but o k g q).2) := itr_s _ h _
theorem ordX_bd {D : Int} {A : St} (hI : Inv D A) {s but q k : Int} {o g : Int → Int} (hs : 0 ≤ s ∧ s < 4) (ho : ∀ j, 0 ≤ j → j < A 1 → 0 ≤ o j ∧ o j < A 1) (hq : 0 ≤ q) (k0 : 0 ≤ k) (k1 : k ≤ A 1) : 0 ≤ (ordX A s but o k g q).2 ∧ (ordX A s but o k g q).2 ≤ q := by
  refine itr_ind (fun _ (x : (Int → Int) × Int) => 0 ≤ x.2 ∧ x.2 ≤ q) ⟨hq, Int.le_refl q⟩ k0 (fun j x j0 j1 hx => ?_)
  have := gv_bd hI (but := but) (ho j j0 (by omega)) hs hx.1
  show 0 ≤ x.2 - _ ∧ x.2 - _ ≤ q
  omega

