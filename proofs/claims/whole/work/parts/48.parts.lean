theorem lt_ge (a b : Int) : a < b ∨ b ≤ a := by omega
theorem sm_mul {f : Int → Int} {c k : Int} : sm (fun l => c * f l) k = c * sm f k := by
  have key : ∀ n : Nat, smN (fun l => c * f l) n = c * smN f n := by
    intro n
    induction n with
    | zero => exact (Int.mul_zero c).symm
    | succ n ih =>
      show smN _ n + c * f n = c * (smN f n + f n)
      rw [ih, Int.mul_add]
  exact key _
theorem sm_add {f g : Int → Int} {k : Int} : sm (fun l => f l + g l) k = sm f k + sm g k := by
  have key : ∀ n : Nat, smN (fun l => f l + g l) n = smN f n + smN g n := by
    intro n
    induction n with
    | zero => rfl
    | succ n ih =>
      show smN _ n + (f n + g n) = smN f n + f n + (smN g n + g n)
      rw [ih]
      omega
  exact key _
theorem sm_up {f : Int → Int} {b v n : Int} (h0 : 0 ≤ b) (h1 : b < n) : sm (upI f b v) n = sm f n + v - f b := by
  have key : ∀ m : Nat, (b < (m : Int) → smN (upI f b v) m = smN f m + v - f b) ∧ ((m : Int) ≤ b → smN (upI f b v) m = smN f m) := by
    intro m
    induction m with
    | zero => exact ⟨fun h => by omega, fun _ => rfl⟩
    | succ m ih =>
      refine ⟨fun h => ?_, fun h => ?_⟩
      · show smN _ m + upI f b v m = smN f m + f m + v - f b
        by_cases e : (m : Int) = b
        · rw [ih.2 (by omega), e, upI_eq]
          omega
        · rw [ih.1 (by omega), upI_ne e]
          omega
      · show smN _ m + upI f b v m = smN f m + f m
        rw [ih.2 (by omega), upI_ne (by omega)]
  have := (key n.toNat).1 (by omega)
  exact this
/-- the first k places of a row from another one -/
def mix (f g : Int → Int) (k : Int) : Int → Int := fun j => if 0 ≤ j ∧ j < k then f j else g j
theorem mix_0 {f g : Int → Int} : mix f g 0 = g := by
  funext j
  exact if_neg (by omega)
theorem mix_s {f g : Int → Int} {k : Int} (h : 0 ≤ k) : upI (mix f g k) k (f k) = mix f g (k + 1) := by
  funext j
  unfold upI mix
  by_cases e : j = k
  · rw [if_pos e, if_pos (by omega), e]
  · rw [if_neg e]
    by_cases q : 0 ≤ j ∧ j < k
    · rw [if_pos q, if_pos (by omega)]
    · rw [if_neg q, if_neg (by omega)]
theorem mix_in {f g : Int → Int} {k j : Int} (h0 : 0 ≤ j) (h1 : j < k) : mix f g k j = f j := if_pos ⟨h0, h1⟩
theorem mix_out {f g : Int → Int} {k j : Int} (h : ¬ (0 ≤ j ∧ j < k)) : mix f g k j = g j := if_neg h
/-- the first place of the greatest among n -/
def amxS (r : Int → Int) (k b : Int) : Int := if r (k + 1) > r b then k + 1 else b
def amxK (r : Int → Int) (k : Int) : Int := itr (amxS r) k 0
def amx (r : Int → Int) (n : Int) : Int := amxK r (n - 1)
theorem amxK_s {r : Int → Int} {k : Int} (h : 0 ≤ k) : amxK r (k + 1) = if r (k + 1) > r (amxK r k) then k + 1 else amxK r k := itr_s _ h _
theorem amxK_ok {r : Int → Int} {k : Int} (h : 0 ≤ k) : (0 ≤ amxK r k ∧ amxK r k ≤ k) ∧ (∀ j, 0 ≤ j → j ≤ k → r j ≤ r (amxK r k)) ∧ ∀ j, 0 ≤ j → j < amxK r k → r j < r (amxK r k) := by
  refine itr_ind (fun k b => (0 ≤ b ∧ b ≤ k) ∧ (∀ j, 0 ≤ j → j ≤ k → r j ≤ r b) ∧ ∀ j, 0 ≤ j → j < b → r j < r b) ⟨by omega, fun j h0 h1 => ?_, fun j h0 h1 => by omega⟩ h (fun k b k0 k1 hb => ?_)
  · have e : j = 0 := by omega
    rw [e]
    exact Int.le_refl _
  · show (0 ≤ amxS r k b ∧ amxS r k b ≤ k + 1) ∧ (∀ j, 0 ≤ j → j ≤ k + 1 → r j ≤ r (amxS r k b)) ∧ ∀ j, 0 ≤ j → j < amxS r k b → r j < r (amxS r k b)
    unfold amxS
    by_cases q : r (k + 1) > r b
    · rw [if_pos q]
      refine ⟨by omega, fun j j0 j1 => ?_, fun j j0 j1 => ?_⟩
      · by_cases e : j = k + 1
        · rw [e]
          exact Int.le_refl _
        · have := hb.2.1 j j0 (by omega)
          omega
      · have := hb.2.1 j j0 (by omega)
        omega
    · rw [if_neg q]
      refine ⟨by omega, fun j j0 j1 => ?_, hb.2.2⟩
      by_cases e : j = k + 1
      · rw [e]
        omega
      · exact hb.2.1 j j0 (by omega)
theorem amx_ok {r : Int → Int} {n : Int} (h : 0 < n) : (0 ≤ amx r n ∧ amx r n < n) ∧ (∀ j, 0 ≤ j → j < n → r j ≤ r (amx r n)) ∧ ∀ j, 0 ≤ j → j < amx r n → r j < r (amx r n) := by
  have := amxK_ok (r := r) (k := n - 1) (by omega)
  exact ⟨⟨this.1.1, by have := this.1.2; unfold amx; omega⟩, fun j h0 h1 => this.2.1 j h0 (by omega), this.2.2⟩
/-- the first greatest place is one alone -/
theorem amx_of {r : Int → Int} {n b : Int} (h : 0 < n) (b0 : 0 ≤ b) (b1 : b < n) (h1 : ∀ j, 0 ≤ j → j < n → r j ≤ r b) (h2 : ∀ j, 0 ≤ j → j < b → r j < r b) : amx r n = b := by
  obtain ⟨q1, q2, q3⟩ := amx_ok (r := r) h
  rcases Int.lt_trichotomy (amx r n) b with e | e | e
  · have := h2 _ q1.1 e
    have := q2 b b0 b1
    omega
  · exact e
  · have := q3 b b0 e
    have := h1 _ q1.1 q1.2
    omega
theorem amx_congr {r r' : Int → Int} {n : Int} (h : 0 < n) (he : ∀ j, 0 ≤ j → j < n → r j = r' j) : amx r n = amx r' n := by
  obtain ⟨q1, q2, q3⟩ := amx_ok (r := r') h
  refine amx_of h q1.1 q1.2 (fun j j0 j1 => ?_) (fun j j0 j1 => ?_)
  · rw [he j j0 j1, he _ q1.1 q1.2]
    exact q2 j j0 j1
  · rw [he j j0 (by omega), he _ q1.1 q1.2]
    exact q3 j j0 j1
/-- policy 1: the whole parts, the rests, and the lenders with the greatest rests -/
def alA (A : St) (s but q l : Int) : Int := if l = but then 0 else q * freeA A l s
def partA (A : St) (s but q l : Int) : Int := (alA A s but q l).tdiv (freeB A but s)
def rstA (A : St) (s but q l : Int) : Int := (alA A s but q l).tmod (freeB A but s)
def pickS (n : Int) (_ : Int) (x : (Int → Int) × (Int → Int)) : (Int → Int) × (Int → Int) := (upI x.1 (amx x.2 n) (x.1 (amx x.2 n) + 1), upI x.2 (amx x.2 n) (-1))
def pickX (n m : Int) (g r : Int → Int) : (Int → Int) × (Int → Int) := itr (pickS n) m (g, r)
theorem pickX_0 {n : Int} {g r : Int → Int} : pickX n 0 g r = (g, r) := rfl
theorem pickX_s {n m : Int} {g r : Int → Int} (h : 0 ≤ m) : pickX n (m + 1) g r = pickS n m (pickX n m g r) := itr_s _ h _
theorem pickX_congr {n m : Int} {g r g' r' : Int → Int} (hn : 0 < n) (hm : 0 ≤ m) (hg : ∀ j, 0 ≤ j → j < n → g j = g' j) (hr : ∀ j, 0 ≤ j → j < n → r j = r' j) : ∀ j, 0 ≤ j → j < n → (pickX n m g r).1 j = (pickX n m g' r').1 j ∧ (pickX n m g r).2 j = (pickX n m g' r').2 j := by
  refine loopF (P := fun z => (∀ j, 0 ≤ j → j < n → (pickX n (m - z) g r).1 j = (pickX n (m - z) g' r').1 j ∧ (pickX n (m - z) g r).2 j = (pickX n (m - z) g' r').2 j)) (a := 0) (N := m) hm ?_ ?_ |> fun z => by rw [Int.sub_zero] at z; exact z
  · intro j j0 j1
    rw [Int.sub_self]
    exact ⟨hg j j0 j1, hr j j0 j1⟩
  · intro k k0 k1 ih j j0 j1
    rw [show m - k = (m - (k + 1)) + 1 by omega, pickX_s (by omega), pickX_s (by omega)]
    have e := amx_congr (r := (pickX n (m - (k + 1)) g r).2) (r' := (pickX n (m - (k + 1)) g' r').2) hn (fun j j0 j1 => (ih j j0 j1).2)
    have hb := (amx_ok (r := (pickX n (m - (k + 1)) g' r').2) hn).1
    show upI _ _ _ _ = upI _ _ _ _ ∧ upI _ _ _ _ = upI _ _ _ _
    rw [e, (ih _ hb.1 hb.2).1]
    unfold upI
    by_cases q : j = amx (pickX n (m - (k + 1)) g' r').2 n
    · rw [if_pos q, if_pos q, if_pos q, if_pos q]
      exact ⟨rfl, rfl⟩
    · rw [if_neg q, if_neg q, if_neg q, if_neg q]
      exact ih j j0 j1
section Pt
variable {D : Int} {A : St}
theorem part_ok (hI : Inv D A) {s but q : Int} (hs : 0 ≤ s ∧ s < 4) (hq : 0 < q ∧ q ≤ freeB A but s) {l : Int} (l0 : 0 ≤ l) (l1 : l < A 1) : partA A s but q l * freeB A but s + rstA A s but q l = alA A s but q l ∧ (0 ≤ rstA A s but q l ∧ rstA A s but q l < freeB A but s) ∧ (0 ≤ partA A s but q l ∧ partA A s but q l ≤ freeA A l s) ∧ (0 < rstA A s but q l → partA A s but q l < freeA A l s) ∧ (l = but → partA A s but q l = 0 ∧ rstA A s but q l = 0) ∧ (0 ≤ alA A s but q l ∧ alA A s but q l ≤ 599994 * 99999) := by
  have hf := (free_bd hI l0 l1 hs.1 hs.2).1
  have hS := freeB_bd hI (but := but) hs.1 hs.2
  have h0 : 0 ≤ alA A s but q l ∧ alA A s but q l ≤ 599994 * 99999 := by
    have := mul_bd (a := q) (b := freeA A l s) (M := 599994) (N := 99999) (by omega) (by omega) hf.1 hf.2
    unfold alA
    split <;> omega
  have hle : alA A s but q l ≤ freeA A l s * freeB A but s := by
    have h3 : q * freeA A l s ≤ freeB A but s * freeA A l s := Int.mul_le_mul_of_nonneg_right hq.2 hf.1
    have h4 := mul_bd (a := freeA A l s) (b := freeB A but s) hf.1 hf.2 hS.1 hS.2
    rw [Int.mul_comm (freeB A but s)] at h3
    unfold alA
    split <;> omega
  have e1 : partA A s but q l * freeB A but s + rstA A s but q l = alA A s but q l := by
    unfold partA rstA
    rw [Int.mul_comm]
    exact Int.mul_tdiv_add_tmod _ _
  have r0 : 0 ≤ rstA A s but q l ∧ rstA A s but q l < freeB A but s := by
    unfold rstA
    rw [Int.tmod_eq_emod_of_nonneg h0.1]
    exact ⟨Int.emod_nonneg _ (by omega), Int.emod_lt_of_pos _ (by omega)⟩
  have p0 := td_bd (c := freeB A but s) h0.1 (by omega)
  refine ⟨e1, r0, ⟨p0.1, ?_⟩, fun hr => ?_, fun e => ?_, h0⟩
  · have : partA A s but q l * freeB A but s ≤ freeA A l s * freeB A but s := by omega
    exact Int.le_of_mul_le_mul_right this (by omega)
  · have : partA A s but q l * freeB A but s < freeA A l s * freeB A but s := by omega
    exact Int.lt_of_mul_lt_mul_right this (by omega)
  · have e0 : alA A s but q l = 0 := if_pos e
    unfold partA rstA
    rw [e0]
    exact ⟨Int.zero_tdiv _, Int.zero_tmod _⟩
theorem part_sum (hI : Inv D A) {s but q : Int} (hs : 0 ≤ s ∧ s < 4) (hq : 0 < q ∧ q ≤ freeB A but s) : (q - sm (partA A s but q) (A 1)) * freeB A but s = sm (rstA A s but q) (A 1) ∧ 0 ≤ q - sm (partA A s but q) (A 1) := by
  have e1 : sm (alA A s but q) (A 1) = q * freeB A but s := by
    show _ = q * sm _ _
    rw [← sm_mul]
    exact sm_congr (fun l _ _ => by show (if _ then _ else _) = q * (if _ then _ else _); split <;> simp)
  have e2 : sm (alA A s but q) (A 1) = freeB A but s * sm (partA A s but q) (A 1) + sm (rstA A s but q) (A 1) := by
    rw [← sm_mul, ← sm_add]
    exact sm_congr (fun l l0 l1 => by rw [Int.mul_comm]; exact (part_ok hI hs hq l0 l1).1.symm)
  have e3 : (q - sm (partA A s but q) (A 1)) * freeB A but s = sm (rstA A s but q) (A 1) := by
    rw [Int.sub_mul, Int.mul_comm (sm (partA A s but q) (A 1))]
    omega
  refine ⟨e3, ?_⟩
  have h4 : 0 ≤ sm (rstA A s but q) (A 1) := sm_nn (fun l l0 l1 => (part_ok hI hs hq l0 l1).2.1.1)
  rcases Int.le_total 0 (q - sm (partA A s but q) (A 1)) with h | h
  · exact h
  · have h5 := Int.mul_le_mul_of_nonneg_right (c := freeB A but s) h (by omega)
    rcases lt_ge (q - sm (partA A s but q) (A 1)) 0 with g | g
    · have := Int.mul_lt_mul_of_pos_right (c := freeB A but s) g (by omega)
      omega
    · exact g
/-- where the picks stand -/
def PI (A : St) (s but q m : Int) (x : (Int → Int) × (Int → Int)) : Prop :=
  (∀ l, 0 ≤ l → l < A 1 → (0 ≤ x.2 l ∧ x.2 l = rstA A s but q l ∧ x.1 l = partA A s but q l) ∨ (x.2 l = -1 ∧ x.1 l = partA A s but q l + 1 ∧ 0 < rstA A s but q l)) ∧
  (q - sm (partA A s but q) (A 1) - m) * freeB A but s ≤ sm (fun l => max (x.2 l) 0) (A 1) ∧ sm x.1 (A 1) = sm (partA A s but q) (A 1) + m
theorem free_n {s but : Int} (h : 0 < freeB A but s) : 0 < A 1 := by
  rcases lt_ge 0 (A 1) with g | g
  · exact g
  · have : freeB A but s = 0 := sm_neg _ g
    omega
theorem PI_ok (hI : Inv D A) {s but q m : Int} (hs : 0 ≤ s ∧ s < 4) (hq : 0 < q ∧ q ≤ freeB A but s) (m0 : 0 ≤ m) (m1 : m ≤ q - sm (partA A s but q) (A 1)) : PI A s but q m (pickX (A 1) m (partA A s but q) (rstA A s but q)) := by
  have hn : 0 < A 1 := free_n (s := s) (but := but) (by omega)
  have hS := part_sum hI hs hq
  refine itr_ind (PI A s but q) ⟨fun l l0 l1 => Or.inl ⟨(part_ok hI hs hq l0 l1).2.1.1, rfl, rfl⟩, ?_, by simp⟩ m0 (fun k x k0 k1 hx => ?_)
  · rw [Int.sub_zero, hS.1]
    exact Int.le_of_eq (sm_congr (fun l l0 l1 => by
      have := (part_ok hI hs hq l0 l1).2.1.1
      show _ = max (rstA A s but q l) 0
      omega))
  · obtain ⟨h1, h2, h3⟩ := hx
    obtain ⟨b1, b2, b3⟩ := amx_ok (r := x.2) hn
    have hpos : 0 < x.2 (amx x.2 (A 1)) := by
      rcases lt_ge 0 (x.2 (amx x.2 (A 1))) with g | g
      · exact g
      · have e := sm_hi (f := fun l => max (x.2 l) 0) (k := A 1) (hi := 0) (by omega) (fun j j0 j1 => by
          have := b2 j j0 j1
          show max (x.2 j) 0 ≤ 0
          omega)
        have e2 := Int.mul_pos (a := q - sm (partA A s but q) (A 1) - k) (b := freeB A but s) (by omega) (by omega)
        rw [Int.mul_zero] at e
        omega
    have hb := h1 _ b1.1 b1.2
    have ho := part_ok hI hs hq b1.1 b1.2
    refine ⟨fun l l0 l1 => ?_, ?_, ?_⟩
    · show (0 ≤ upI _ _ _ l ∧ upI _ _ _ l = _ ∧ upI _ _ _ l = _) ∨ (upI _ _ _ l = -1 ∧ upI _ _ _ l = _ ∧ _)
      by_cases e : l = amx x.2 (A 1)
      · rw [e, upI_eq, upI_eq]
        refine Or.inr ⟨rfl, ?_, ?_⟩ <;> omega
      · rw [upI_ne e, upI_ne e]
        exact h1 l l0 l1
    · have e : (fun l => max ((pickS (A 1) k x).2 l) 0) = upI (fun l => max (x.2 l) 0) (amx x.2 (A 1)) 0 := by
        funext l
        show max (upI _ _ _ l) 0 = upI _ _ _ l
        by_cases e : l = amx x.2 (A 1)
        · rw [e, upI_eq, upI_eq]
          rfl
        · rw [upI_ne e, upI_ne e]
      rw [e, sm_up b1.1 b1.2]
      have e3 : (q - sm (partA A s but q) (A 1) - (k + 1)) * freeB A but s = (q - sm (partA A s but q) (A 1) - k) * freeB A but s - freeB A but s := by
        rw [show q - sm (partA A s but q) (A 1) - (k + 1) = (q - sm (partA A s but q) (A 1) - k) - 1 by omega, Int.sub_mul, Int.one_mul]
      show _ ≤ _ + 0 - max (x.2 (amx x.2 (A 1))) 0
      omega
    · show sm (upI _ _ _) _ = _
      rw [sm_up b1.1 b1.2]
      omega
end Pt
section Mo4
variable {D : Int} {σ : Hp} {A : St}
/-- the rows given and rest -/
abbrev Hp.gr (σ : Hp) (g r : Int → Int) : Hp := (σ.rJ 56 0 g).rJ 57 0 r
theorem gr_g {g r : Int → Int} : (σ.gr g r).J 56 0 = g := by
  rw [rJ_ne (by decide), rJ_J]
theorem gr_r {g r : Int → Int} : (σ.gr g r).J 57 0 = r := rJ_J
theorem gr_w {g r : Int → Int} : (σ.gr g r).J 50 0 = σ.J 50 0 := by
  rw [rJ_ne (by decide), rJ_ne (by decide)]
theorem gr_sg {g r : Int → Int} {k v : Int} : (σ.gr g r).setJ 56 0 k v = σ.gr (upI g k v) r := rJ_set2 (by decide)
theorem gr_sr {g r : Int → Int} {k v : Int} : (σ.gr g r).setJ 57 0 k v = σ.gr g (upI r k v) := rJ_set
theorem gr_self : σ.gr (σ.J 56 0) (σ.J 57 0) = σ := by
  show (σ.rJ 56 0 (σ.J 56 0)).rJ 57 0 (σ.J 57 0) = σ
  rw [rJ_self, rJ_self]
theorem Md.gr {g r : Int → Int} (h : Md D σ A) : Md D (σ.gr g r) A := (h.rJ (by decide)).rJ (by decide)
theorem R_byParts {s q but : Int} (h : Md D σ A) (hs : 0 ≤ s ∧ s < 4) (hq : 0 < q ∧ q ≤ freeB A but s) (hb : -2147483648 ≤ but ∧ but < 2147483648) : Rt m_X11_byParts 4 0 0 [vR (some (11, 0)), vI s, vL q, vI but] σ none (σ.gr (pickX (A 1) (q - sm (partA A s but q) (A 1)) (mix (partA A s but q) (σ.J 56 0) (A 1)) (mix (rstA A s but q) (σ.J 57 0) (A 1))).1 (pickX (A 1) (q - sm (partA A s but q) (A 1)) (mix (partA A s but q) (σ.J 56 0) (A 1)) (mix (rstA A s but q) (σ.J 57 0) (A 1))).2) := by
  have h' := h
  obtain ⟨hD, hW, hA, hI⟩ := h
  have hn := hI.n
  have hn1 : 0 < A 1 := free_n (s := s) (but := but) (by omega)
  have hS := freeB_bd hI (but := but) hs.1 hs.2
  have hsum := part_sum hI hs hq
  have start : σ.gr (mix (partA A s but q) (σ.J 56 0) 0) (mix (rstA A s but q) (σ.J 57 0) 0) = σ := by
    rw [mix_0, mix_0, gr_self]
  have start2 : q - sm (partA A s but q) 0 = q := by
    rw [sm_0]
    omega
  show V _ 4 0 0 0 [some (vR (some (11, 0))), some (vI s), some (vL q), none, some (vI but), none, none, none, none, none, none, none] [] σ _
  refine V_aldn0 a_X11_byParts_0 ?_
  refine V_ild4 a_X11_byParts_1 ?_
  refine V_ildn1 a_X11_byParts_3 ?_
  refine V_v2R a_X11_byParts_4 c_X11_238 (R_freeBut h' hb hs) ?_
  refine V_lst5 a_X11_byParts_7 ?_
  refine V_lldn2 a_X11_byParts_9 ?_
  refine V_lst7 a_X11_byParts_10 ?_
  refine V_iconst a_X11_byParts_12 ?_
  refine V_ist9 a_X11_byParts_13 ?_
  refine (fun z => by rw [start, start2] at z; exact z : V _ 4 0 0 15 [some (vR (some (11, 0))), some (vI s), some (vL q), none, some (vI but), some (vL (freeB A but s)), none, some (vL (q - sm (partA A s but q) 0)), none, some (vI 0), none, none] [] (σ.gr (mix (partA A s but q) (σ.J 56 0) 0) (mix (rstA A s but q) (σ.J 57 0) 0)) _ → _) ?_
  refine loopI (P := fun k => ∀ x10 x11 : Option AV, V _ 4 0 0 15 [some (vR (some (11, 0))), some (vI s), some (vL q), none, some (vI but), some (vL (freeB A but s)), none, some (vL (q - sm (partA A s but q) k)), none, some (vI k), x10, x11] [] (σ.gr (mix (partA A s but q) (σ.J 56 0) k) (mix (rstA A s but q) (σ.J 57 0) k)) _) (N := A 1) (by omega) ?_ ?_ none none
  · intro x10 x11
    have hm := h'.gr (g := mix (partA A s but q) (σ.J 56 0) (A 1)) (r := mix (rstA A s but q) (σ.J 57 0) (A 1))
    obtain ⟨-, hW, hA, -⟩ := id hm
    refine V_ild9 a_X11_byParts_15 ?_
    refine V_i2l a_X11_byParts_17 (by omega) ?_
    refine V_aldn0 a_X11_byParts_18 ?_
    refine V_fin a_X11_byParts_19 f_X11_7 rfl hW ?_
    refine V_iconst a_X11_byParts_22 ?_
    refine V_w a_X11_byParts_23 (by omega) hA ?_
    refine V_lc_ge_t a_X11_byParts_24 a_X11_byParts_25 (by omega) (by omega) ?_
    refine (fun z => by rw [Int.sub_zero, pickX_0] at z; exact z : V _ 4 0 0 121 [some (vR (some (11, 0))), some (vI s), some (vL q), none, some (vI but), some (vL (freeB A but s)), none, some (vL (q - sm (partA A s but q) (A 1) - 0)), none, some (vI (A 1)), x10, x11] [] (σ.gr (pickX (A 1) 0 (mix (partA A s but q) (σ.J 56 0) (A 1)) (mix (rstA A s but q) (σ.J 57 0) (A 1))).1 (pickX (A 1) 0 (mix (partA A s but q) (σ.J 56 0) (A 1)) (mix (rstA A s but q) (σ.J 57 0) (A 1))).2) _ → _) ?_
    refine loopI (P := fun m => ∀ x9 x10 x11 : Option AV, V _ 4 0 0 121 [some (vR (some (11, 0))), some (vI s), some (vL q), none, some (vI but), some (vL (freeB A but s)), none, some (vL (q - sm (partA A s but q) (A 1) - m)), none, x9, x10, x11] [] (σ.gr (pickX (A 1) m (mix (partA A s but q) (σ.J 56 0) (A 1)) (mix (rstA A s but q) (σ.J 57 0) (A 1))).1 (pickX (A 1) m (mix (partA A s but q) (σ.J 56 0) (A 1)) (mix (rstA A s but q) (σ.J 57 0) (A 1))).2) _) (N := q - sm (partA A s but q) (A 1)) (by omega) ?_ ?_ _ _ _
    · intro x9 x10 x11
      refine V_lld7 a_X11_byParts_121 ?_
      refine V_lconst0 a_X11_byParts_123 ?_
      refine V_lc_le_t a_X11_byParts_124 a_X11_byParts_125 (by omega) (by omega) ?_
      exact V_ret a_X11_byParts_210 (⟨rfl, rfl⟩)
    · intro m m0 m1 ih x9 x10 x11
      have hpn : 0 ≤ sm (partA A s but q) (A 1) := sm_nn (fun l l0 l1 => (part_ok hI hs hq l0 l1).2.2.1.1)
      have hp := PI_ok hI hs hq m0 (by omega)
      have hc := pickX_congr (m := m) (g := mix (partA A s but q) (σ.J 56 0) (A 1)) (r := mix (rstA A s but q) (σ.J 57 0) (A 1)) (g' := partA A s but q) (r' := rstA A s but q) hn1 m0 (fun j j0 j1 => mix_in j0 j1) (fun j j0 j1 => mix_in j0 j1)
      generalize hX : pickX (A 1) m (mix (partA A s but q) (σ.J 56 0) (A 1)) (mix (rstA A s but q) (σ.J 57 0) (A 1)) = X at hc
      rw [pickX_s m0, hX] at ih
      have hr : ∀ j, 0 ≤ j → j < A 1 → -1 ≤ X.2 j ∧ X.2 j < 599994 := fun j j0 j1 => by
        have h1 := hp.1 j j0 j1
        have h2 := (part_ok hI hs hq j0 j1).2.1
        rw [(hc j j0 j1).2]
        omega
      have hm := h'.gr (g := X.1) (r := X.2)
      obtain ⟨-, hW, hA, -⟩ := id hm
      refine V_lld7 a_X11_byParts_121 ?_
      refine V_lconst0 a_X11_byParts_123 ?_
      refine V_lc_le_f a_X11_byParts_124 a_X11_byParts_125 (by omega) (by omega) ?_
      refine V_iconst a_X11_byParts_128 ?_
      refine V_ist9 a_X11_byParts_129 ?_
      refine V_iconst a_X11_byParts_131 ?_
      refine V_ist10 a_X11_byParts_132 ?_
      refine loopI (P := fun k => V _ 4 0 0 134 [some (vR (some (11, 0))), some (vI s), some (vL q), none, some (vI but), some (vL (freeB A but s)), none, some (vL (q - sm (partA A s but q) (A 1) - m)), none, some (vI (amxK X.2 k)), some (vI (k + 1)), x11] [] (σ.gr X.1 X.2) _) (N := A 1 - 1) (by omega) ?_ ?_
      · have hb := (amx_ok (r := X.2) hn1).1
        show V _ 4 0 0 134 [some (vR (some (11, 0))), some (vI s), some (vL q), none, some (vI but), some (vL (freeB A but s)), none, some (vL (q - sm (partA A s but q) (A 1) - m)), none, some (vI (amx X.2 (A 1))), some (vI (A 1 - 1 + 1)), x11] [] (σ.gr X.1 X.2) _
        refine V_ild10 a_X11_byParts_134 ?_
        refine V_i2l a_X11_byParts_136 (by omega) ?_
        refine V_aldn0 a_X11_byParts_137 ?_
        refine V_fin a_X11_byParts_138 f_X11_7 rfl hW ?_
        refine V_iconst a_X11_byParts_141 ?_
        refine V_w a_X11_byParts_142 (by omega) hA ?_
        refine V_lc_ge_t a_X11_byParts_143 a_X11_byParts_144 (by omega) (by omega) ?_
        refine V_aldn0 a_X11_byParts_180 ?_
        refine V_fin a_X11_byParts_181 f_X11_33 rfl hW ?_
        refine V_ild9 a_X11_byParts_184 ?_
        first | refine V_dup2IR a_X11_byParts_186 ?_ | refine V_dup2L a_X11_byParts_186 ?_
        refine V_laldE a_X11_byParts_187 rfl (by omega) (v := X.1 (amx X.2 (A 1))) (by rw [gr_g]) ?_
        refine V_lconst1 a_X11_byParts_188 ?_
        refine V_ladd a_X11_byParts_189 ?_
        refine V_last a_X11_byParts_190 rfl (by omega) ?_
        rw [gr_sg]
        refine V_aldn0 a_X11_byParts_191 ?_
        refine V_fin a_X11_byParts_192 f_X11_36 rfl hW ?_
        refine V_ild9 a_X11_byParts_195 ?_
        refine V_ldc2 a_X11_byParts_197 q_X11_56 ?_
        refine V_last a_X11_byParts_200 rfl (by omega) ?_
        rw [gr_sr]
        refine V_lld7 a_X11_byParts_201 ?_
        refine V_lconst1 a_X11_byParts_203 ?_
        refine V_lsub a_X11_byParts_204 ?_
        refine V_lst7 a_X11_byParts_205 ?_
        refine V_goto a_X11_byParts_207 ?_
        rw [show q - sm (partA A s but q) (A 1) - m - 1 = q - sm (partA A s but q) (A 1) - (m + 1) by omega]
        exact ih _ _ _
      · intro k k0 k1 ih2
        rw [amxK_s k0] at ih2
        have hk := (amxK_ok (r := X.2) k0).1
        have v1 := hr (k + 1) (by omega) (by omega)
        have v2 := hr (amxK X.2 k) (by omega) (by omega)
        refine V_ild10 a_X11_byParts_134 ?_
        refine V_i2l a_X11_byParts_136 (by omega) ?_
        refine V_aldn0 a_X11_byParts_137 ?_
        refine V_fin a_X11_byParts_138 f_X11_7 rfl hW ?_
        refine V_iconst a_X11_byParts_141 ?_
        refine V_w a_X11_byParts_142 (by omega) hA ?_
        refine V_lc_ge_f a_X11_byParts_143 a_X11_byParts_144 (by omega) (by omega) ?_
        refine V_aldn0 a_X11_byParts_147 ?_
        refine V_fin a_X11_byParts_148 f_X11_36 rfl hW ?_
        refine V_ild10 a_X11_byParts_151 ?_
        refine V_laldE a_X11_byParts_153 rfl (by omega) (by rw [gr_r]) ?_
        refine V_aldn0 a_X11_byParts_154 ?_
        refine V_fin a_X11_byParts_155 f_X11_36 rfl hW ?_
        refine V_ild9 a_X11_byParts_158 ?_
        refine V_laldE a_X11_byParts_160 rfl (by omega) (by rw [gr_r]) ?_
        refine V_lc_le a_X11_byParts_161 a_X11_byParts_162 (by omega) (fun hc161 => ?_) (fun hc161 => ?_)
        · refine V_ild9 a_X11_byParts_170 ?_
          refine V_ist9 a_X11_byParts_172 ?_
          refine V_inc10 a_X11_byParts_174 ?_
          refine V_goto a_X11_byParts_177 ?_
          first | (rw [if_pos (by omega)] at ih2; exact ih2) | (rw [if_neg (by omega)] at ih2; exact ih2)
        · refine V_ild10 a_X11_byParts_165 ?_
          refine V_goto a_X11_byParts_167 ?_
          refine V_ist9 a_X11_byParts_172 ?_
          refine V_inc10 a_X11_byParts_174 ?_
          refine V_goto a_X11_byParts_177 ?_
          first | (rw [if_pos (by omega)] at ih2; exact ih2) | (rw [if_neg (by omega)] at ih2; exact ih2)
  · intro k k0 k1 ih x10 x11
    have hm := h'.gr (g := mix (partA A s but q) (σ.J 56 0) k) (r := mix (rstA A s but q) (σ.J 57 0) k)
    obtain ⟨-, hW, hA, -⟩ := id hm
    have ho := part_ok hI hs hq k0 k1
    have ih := ih (some (vL (alA A s but q k))) none
    rw [sm_s _ k0, ← mix_s k0, ← mix_s k0] at ih
    have hf := (free_bd hI k0 k1 hs.1 hs.2).1
    have key : ∀ a : Int, a = alA A s but q k → V m_X11_byParts 4 0 0 55 [some (vR (some (11, 0))), some (vI s), some (vL q), none, some (vI but), some (vL (freeB A but s)), none, some (vL (q - sm (partA A s but q) k)), none, some (vI k), x10, x11] [vL a] (σ.gr (mix (partA A s but q) (σ.J 56 0) k) (mix (rstA A s but q) (σ.J 57 0) k)) (fun r σ' => r = Sum.inl none ∧ σ' = σ.gr (pickX (A 1) (q - sm (partA A s but q) (A 1)) (mix (partA A s but q) (σ.J 56 0) (A 1)) (mix (rstA A s but q) (σ.J 57 0) (A 1))).1 (pickX (A 1) (q - sm (partA A s but q) (A 1)) (mix (partA A s but q) (σ.J 56 0) (A 1)) (mix (rstA A s but q) (σ.J 57 0) (A 1))).2) := by
      intro a ea
      subst ea
      refine V_lst10 a_X11_byParts_55 ?_
      refine V_aldn0 a_X11_byParts_57 ?_
      refine V_fin a_X11_byParts_58 f_X11_33 rfl hW ?_
      refine V_ild9 a_X11_byParts_61 ?_
      refine V_lld5 a_X11_byParts_63 ?_
      refine V_lconst0 a_X11_byParts_65 ?_
      refine V_lc_ne_t a_X11_byParts_66 a_X11_byParts_67 (by omega) (by omega) ?_
      refine V_lld10 a_X11_byParts_74 ?_
      refine V_lld5 a_X11_byParts_76 ?_
      refine V_ldiv a_X11_byParts_78 (by omega) ?_
      refine V_last a_X11_byParts_79 rfl (by omega) ?_
      rw [gr_sg]
      refine V_aldn0 a_X11_byParts_80 ?_
      refine V_fin a_X11_byParts_81 f_X11_36 rfl hW ?_
      refine V_ild9 a_X11_byParts_84 ?_
      refine V_lld5 a_X11_byParts_86 ?_
      refine V_lconst0 a_X11_byParts_88 ?_
      refine V_lc_ne_t a_X11_byParts_89 a_X11_byParts_90 (by omega) (by omega) ?_
      refine V_lld10 a_X11_byParts_97 ?_
      refine V_lld5 a_X11_byParts_99 ?_
      refine V_lrem a_X11_byParts_101 (by omega) ?_
      refine V_last a_X11_byParts_102 rfl (by omega) ?_
      rw [gr_sr]
      refine V_lld7 a_X11_byParts_103 ?_
      refine V_aldn0 a_X11_byParts_105 ?_
      refine V_fin a_X11_byParts_106 f_X11_33 rfl hW ?_
      refine V_ild9 a_X11_byParts_109 ?_
      refine V_laldE a_X11_byParts_111 rfl (by omega) (v := partA A s but q k) (by rw [gr_g, upI_eq]; rfl) ?_
      refine V_lsub a_X11_byParts_112 ?_
      refine V_lst7 a_X11_byParts_113 ?_
      refine V_inc9 a_X11_byParts_115 ?_
      refine V_goto a_X11_byParts_118 ?_
      rw [show q - sm (partA A s but q) k - partA A s but q k = q - (sm (partA A s but q) k + partA A s but q k) by omega]
      exact ih
    refine V_ild9 a_X11_byParts_15 ?_
    refine V_i2l a_X11_byParts_17 (by omega) ?_
    refine V_aldn0 a_X11_byParts_18 ?_
    refine V_fin a_X11_byParts_19 f_X11_7 rfl hW ?_
    refine V_iconst a_X11_byParts_22 ?_
    refine V_w a_X11_byParts_23 (by omega) hA ?_
    refine V_lc_ge_f a_X11_byParts_24 a_X11_byParts_25 (by omega) (by omega) ?_
    refine V_ild9 a_X11_byParts_28 ?_
    refine V_ild4 a_X11_byParts_30 ?_
    refine V_icmp_eq a_X11_byParts_32 (by omega) (fun hc32 => ?_) (fun hc32 => ?_)
    · refine V_lconst0 a_X11_byParts_42 ?_
      refine V_goto a_X11_byParts_43 ?_
      first | exact key _ (if_pos (by omega)).symm | exact key _ (if_neg (by omega)).symm
    · refine V_lld5 a_X11_byParts_35 ?_
      refine V_lconst0 a_X11_byParts_37 ?_
      refine V_lc_ne_t a_X11_byParts_38 a_X11_byParts_39 (by omega) (by omega) ?_
      refine V_lldn2 a_X11_byParts_46 ?_
      refine V_aldn0 a_X11_byParts_47 ?_
      refine V_ild9 a_X11_byParts_48 ?_
      refine V_ildn1 a_X11_byParts_50 ?_
      refine V_v2R a_X11_byParts_51 c_X11_213 (R_freeOf hm (by omega) hs) ?_
      refine V_lmul a_X11_byParts_54 ?_
      first | exact key _ (if_pos (by omega)).symm | exact key _ (if_neg (by omega)).symm
end Mo4

