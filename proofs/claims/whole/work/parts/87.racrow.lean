theorem V_ldcSw {M : MI} {n b bs pc nx : Nat} {ls : List (Option AV)} {st : List AV} {σ : Hp} {Q : Res → Hp → Prop} {idx j : Nat} (h : Ix M pc (.ldc_w idx) 3 nx) (hs : (M.own, idx, j) ∈ SR) (kk : V M n b bs nx ls (vR (some (98, j)) :: st) σ Q) : V M n b bs pc ls st σ Q := by
  obtain ⟨hd, rfl⟩ := h
  intro g ad p l e R s m args below meth c H locs cells slots lsA ad0 σ0 hp
  obtain ⟨F, rm, hS, hr, ⟨hol, hos⟩, hl, he⟩ := hp
  have hG := F.2.2.2.2.2.2.2.2.2
  have k2 := kk g ad p l e R s m args below meth c H locs cells slots lsA ad0 σ0 ⟨F, rm, hS, hr, ⟨hol, okS_c (Or.inr (by show 90 ≤ 98; decide)) hos⟩, hl, he⟩
  have e1 : (vR (some (98, j)) :: st).map (toV ad) = .ref (g.aK j) :: st.map (toV ad) := by
    show Value.ref (ad 98 j) :: _ = _
    rw [hr.2.2.2.2.1.2.1 j]
  rw [e1] at k2
  intro T hT X
  obtain ⟨t, a1, b1⟩ := k2 T hT X
  have hZ := hG.2.2.1.1 _ hs
  exact ⟨t, X.ldcStringW F.1 F.2.2.2.1 (text := txt j) (a := g.aK j) hZ.1 hZ.2 (g := F0 m pc lsA (st.map (toV ad))) rfl (by rw [F.2.1]; exact hd) t a1, b1⟩
theorem whl_relG {α β : Type} {g : α → Bool} {f : α → α} {g' : β → Bool} {f' : β → β} {R : α → β → Prop} (hg : ∀ x y, R x y → g x = g' y) (hf : ∀ x y, R x y → g x = true → R (f x) (f' y)) : ∀ (n : Nat) (x : α) (y : β), R x y → R (whl g f n x) (whl g' f' n y) := by
  intro n
  induction n with
  | zero => intro x y h; exact h
  | succ n ih =>
    intro x y h
    show R (if g x = true then whl g f n (f x) else x) (if g' y = true then whl g' f' n (f' y) else y)
    by_cases q : g x = true
    · rw [if_pos q, if_pos (by rw [← hg x y h]; exact q)]
      exact ih _ _ (hf x y h q)
    · rw [if_neg q, if_neg (by rw [← hg x y h]; exact q)]
      exact h
theorem itr_relC {α β : Type} {f : Int → α → α} {g : Int → β → β} {a : α} {b : β} {R : α → β → Prop} (h0 : R a b) (hs : ∀ k x y, 0 ≤ k → R x y → R (f k x) (g k y)) (n : Int) : R (itr f n a) (itr g n b) := by
  have key : ∀ m : Nat, R (itN f a m) (itN g b m) := by
    intro m
    induction m with
    | zero => exact h0
    | succ m ih => exact hs m _ _ (by omega) ih
  exact key _
def LoR (x y : (Int → Int) × Int) : Prop := x.2 = y.2 ∧ 0 ≤ x.2 ∧ ∀ i, 0 ≤ i → i < x.2 → x.1 i = y.1 i
theorem ins_row {A : St} {k c : Int} {r r' : Int → Int} (hc : 0 ≤ c) (h : ∀ i, 0 ≤ i → i < c → r i = r' i) : ∀ i, 0 ≤ i → i < c + 1 → insA A k r c i = insA A k r' c i := by
  have h1 : (fun x y : (Int → Int) × Int => x.2 = y.2 ∧ (0 ≤ x.2 ∧ x.2 ≤ c) ∧ ∀ i, 0 ≤ i → i ≤ c → i ≠ x.2 → x.1 i = y.1 i) (wh (isG A k) isF isM (r, c)) (wh (isG A k) isF isM (r', c)) := by
    refine whl_relG (R := fun x y : (Int → Int) × Int => x.2 = y.2 ∧ (0 ≤ x.2 ∧ x.2 ≤ c) ∧ ∀ i, 0 ≤ i → i ≤ c → i ≠ x.2 → x.1 i = y.1 i) (fun x y hx => ?_) (fun x y hx hg => ?_) _ _ _ ⟨rfl, ⟨hc, Int.le_refl c⟩, fun i i0 i1 i2 => h i i0 (by have : i ≠ c := i2; omega)⟩
    · unfold isG
      rw [hx.1]
      by_cases q : 0 < y.2
      · rw [hx.2.2 (y.2 - 1) (by omega) (by omega) (by omega)]
      · have e1 : ∀ z : Prop, ¬ (0 < y.2 ∧ z) := fun z w => q w.1
        rw [decide_eq_false (e1 _), decide_eq_false (e1 _)]
    · have hg := of_decide_eq_true hg
      refine ⟨by show x.2 - 1 = y.2 - 1; omega, by show 0 ≤ x.2 - 1 ∧ x.2 - 1 ≤ c; omega, fun i i0 i1 i2 => ?_⟩
      have i2 : i ≠ x.2 - 1 := i2
      show upI x.1 x.2 (x.1 (x.2 - 1)) i = upI y.1 y.2 (y.1 (y.2 - 1)) i
      rw [← hx.1]
      by_cases q : i = x.2
      · rw [q, upI_eq, upI_eq]
        exact hx.2.2 _ (by omega) (by omega) (by omega)
      · rw [upI_ne q, upI_ne q]
        exact hx.2.2 i i0 i1 q
  intro i i0 i1
  unfold insA
  rw [← h1.1]
  by_cases q : i = (wh (isG A k) isF isM (r, c)).2
  · rw [q, upI_eq, upI_eq]
  · rw [upI_ne q, upI_ne q]
    exact h1.2.2 i i0 (by omega) q
theorem lo_row {A : St} {l s k : Int} {r r' : Int → Int} : LoR (loX A l s r k) (loX A l s r' k) := by
  refine itr_relC (R := LoR) (f := loS A l s) (g := loS A l s) (a := (r, (0 : Int))) (b := (r', (0 : Int))) ⟨rfl, Int.le_refl 0, fun i i0 i1 => by have : i < 0 := i1; omega⟩ (fun k x y k0 h => ?_) k
  unfold loS
  split
  · refine ⟨by show x.2 + 1 = y.2 + 1; rw [h.1], by show 0 ≤ x.2 + 1; have := h.2.1; omega, ?_⟩
    show ∀ i, 0 ≤ i → i < x.2 + 1 → insA A k x.1 x.2 i = insA A k y.1 y.2 i
    rw [← h.1]
    exact ins_row h.2.1 h.2.2
  · exact h
theorem rac_row {A : St} {l s q : Int} {r r' : Int → Int} : racX A l s q r = racX A l s q r' := by
  have h := lo_row (A := A) (l := l) (s := s) (k := A 7) (r := r) (r' := r')
  unfold racX raX
  rw [← h.1]
  refine itr_congr (fun k x k0 k1 => ?_)
  unfold raS
  rw [h.2.2 k k0 k1]
theorem racA_row {A : St} {l s q : Int} {r r' : Int → Int} : racA A l s q r = racA A l s q r' := by
  unfold racA
  rw [rac_row (r := r) (r' := r')]
/-- recalled shares: the state, how many were replaced -/
def rcaA (A : St) (l s q : Int) : St := racA A l s q (fun _ => 0)
def rcaN (A : St) (l s q : Int) : Int := (racX A l s q (fun _ => 0)).2.2

