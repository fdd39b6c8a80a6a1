/-- a loop with a guard, with enough fuel -/
def whl {α : Type} (g : α → Bool) (f : α → α) : Nat → α → α
  | 0, x => x
  | n + 1, x => if g x = true then whl g f n (f x) else x
section Wh
variable {α : Type} {g : α → Bool} {f : α → α} {m : α → Nat} {I : α → Prop}
theorem whl_ge (hs : ∀ x, I x → g x = true → I (f x) ∧ m (f x) < m x) : ∀ (n : Nat) (x : α), I x → m x ≤ n → ∀ n', m x ≤ n' → whl g f n x = whl g f n' x := by
  intro n
  induction n with
  | zero =>
    intro x hx h0 n' _
    have hg : ¬ g x = true := fun h => by
      have := (hs x hx h).2
      omega
    cases n' with
    | zero => rfl
    | succ n' =>
      show x = if g x = true then _ else x
      rw [if_neg hg]
  | succ n ih =>
    intro x hx h0 n' h1
    by_cases hg : g x = true
    · have h2 := hs x hx hg
      cases n' with
      | zero => omega
      | succ n' =>
        show (if g x = true then whl g f n (f x) else x) = if g x = true then whl g f n' (f x) else x
        rw [if_pos hg, if_pos hg]
        exact ih (f x) h2.1 (by omega) n' (by omega)
    · cases n' with
      | zero =>
        show (if g x = true then whl g f n (f x) else x) = x
        rw [if_neg hg]
      | succ n' =>
        show (if g x = true then whl g f n (f x) else x) = if g x = true then whl g f n' (f x) else x
        rw [if_neg hg, if_neg hg]
def wh (g : α → Bool) (f : α → α) (m : α → Nat) (x : α) : α := whl g f (m x) x
theorem wh_f {x : α} (h : ¬ g x = true) : wh g f m x = x := by
  unfold wh
  cases m x with
  | zero => rfl
  | succ n =>
    show (if g x = true then whl g f n (f x) else x) = x
    rw [if_neg h]
theorem wh_t (hs : ∀ x, I x → g x = true → I (f x) ∧ m (f x) < m x) {x : α} (hx : I x) (h : g x = true) : wh g f m x = wh g f m (f x) := by
  unfold wh
  have h2 := hs x hx h
  rw [whl_ge hs (m x) x hx (Nat.le_refl _) (m x + 1) (by omega)]
  show (if g x = true then whl g f (m x) (f x) else x) = _
  rw [if_pos h]
  exact whl_ge hs _ _ h2.1 (by omega) _ (Nat.le_refl _)
theorem loopW {P : α → Prop} (hs : ∀ x, I x → g x = true → I (f x) ∧ m (f x) < m x) {E : α} (he : I E → ¬ g E = true → P E) (hst : ∀ x, I x → g x = true → P (f x) → P x) : ∀ x, I x → wh g f m x = E → P x := by
  have key : ∀ (n : Nat) (x : α), m x ≤ n → I x → wh g f m x = E → P x := by
    intro n
    induction n with
    | zero =>
      intro x h0 hx e
      have hg : ¬ g x = true := fun h => by
        have := (hs x hx h).2
        omega
      rw [wh_f hg] at e
      rw [← e] at he
      exact he hx hg
    | succ n ih =>
      intro x h0 hx e
      by_cases hg : g x = true
      · have h2 := hs x hx hg
        exact hst x hx hg (ih (f x) (by omega) h2.1 (by rw [← wh_t hs hx hg]; exact e))
      · rw [wh_f hg] at e
        rw [← e] at he
        exact he hx hg
  exact fun x => key (m x) x (Nat.le_refl _)
theorem wh_inv (hs : ∀ x, I x → g x = true → I (f x) ∧ m (f x) < m x) {x : α} (hx : I x) : I (wh g f m x) ∧ ¬ g (wh g f m x) = true :=
  loopW (P := fun _ => I (wh g f m x) ∧ ¬ g (wh g f m x) = true) hs (fun h1 h2 => ⟨h1, h2⟩) (fun _ _ _ h => h) x hx rfl
end Wh
/-- the slice with the next due day -/
def ndS (rc du : Int → Int) (l best : Int) : Int := if 0 < rc l ∧ (best = -1 ∨ du l < du best) then l else best
def ndX (rc du : Int → Int) (n : Int) : Int := itr (ndS rc du) n (-1)
theorem ndX_s {rc du : Int → Int} {n : Int} (h : 0 ≤ n) : ndX rc du (n + 1) = if 0 < rc n ∧ (ndX rc du n = -1 ∨ du n < du (ndX rc du n)) then n else ndX rc du n := itr_s _ h _
theorem ndX_ok {rc du : Int → Int} {n : Int} (h : 0 ≤ n) : (ndX rc du n = -1 ∧ ∀ l, 0 ≤ l → l < n → rc l ≤ 0) ∨ ((0 ≤ ndX rc du n ∧ ndX rc du n < n) ∧ 0 < rc (ndX rc du n) ∧ (∀ l, 0 ≤ l → l < n → 0 < rc l → du (ndX rc du n) ≤ du l) ∧ ∀ l, 0 ≤ l → l < ndX rc du n → 0 < rc l → du (ndX rc du n) < du l) := by
  refine itr_ind (fun n b => (b = -1 ∧ ∀ l, 0 ≤ l → l < n → rc l ≤ 0) ∨ ((0 ≤ b ∧ b < n) ∧ 0 < rc b ∧ (∀ l, 0 ≤ l → l < n → 0 < rc l → du b ≤ du l) ∧ ∀ l, 0 ≤ l → l < b → 0 < rc l → du b < du l)) (Or.inl ⟨rfl, fun l h0 h1 => by omega⟩) h (fun k b k0 k1 hb => ?_)
  show (ndS rc du k b = -1 ∧ _) ∨ ((0 ≤ ndS rc du k b ∧ ndS rc du k b < k + 1) ∧ 0 < rc (ndS rc du k b) ∧ (∀ l, 0 ≤ l → l < k + 1 → 0 < rc l → du (ndS rc du k b) ≤ du l) ∧ ∀ l, 0 ≤ l → l < ndS rc du k b → 0 < rc l → du (ndS rc du k b) < du l)
  unfold ndS
  by_cases q : 0 < rc k ∧ (b = -1 ∨ du k < du b)
  · rw [if_pos q]
    refine Or.inr ⟨by omega, q.1, fun l l0 l1 lr => ?_, fun l l0 l1 lr => ?_⟩
    · by_cases e : l = k
      · rw [e]
        exact Int.le_refl _
      · rcases hb with z | z
        · have := z.2 l l0 (by omega)
          omega
        · have := z.2.2.1 l l0 (by omega) lr
          omega
    · rcases hb with z | z
      · have := z.2 l l0 (by omega)
        omega
      · have := z.2.2.1 l l0 (by omega) lr
        omega
  · rw [if_neg q]
    rcases hb with z | z
    · refine Or.inl ⟨z.1, fun l l0 l1 => ?_⟩
      by_cases e : l = k
      · rw [e]
        omega
      · exact z.2 l l0 (by omega)
    · refine Or.inr ⟨by omega, z.2.1, fun l l0 l1 lr => ?_, z.2.2.2⟩
      by_cases e : l = k
      · rw [e] at lr ⊢
        omega
      · exact z.2.2.1 l l0 (by omega) lr
def nduA (A : St) (k : Int) : Int := ndX (fun l => A (83 + 23 * k + 11 + l)) (fun l => A (83 + 23 * k + 17 + l)) (A 1)
def gslA (A : St) (k : Int) : Int := amx (fun l => A (83 + 23 * k + 5 + l)) (A 1)
def cbA (A : St) (k l v : Int) : St := if A (83 + 23 * k + 11 + l) - v = 0 then upI (upI (upI A (83 + 23 * k + 5 + l) (A (83 + 23 * k + 5 + l) - v)) (83 + 23 * k + 11 + l) (A (83 + 23 * k + 11 + l) - v)) (83 + 23 * k + 17 + l) (-1) else upI (upI A (83 + 23 * k + 5 + l) (A (83 + 23 * k + 5 + l) - v)) (83 + 23 * k + 11 + l) (A (83 + 23 * k + 11 + l) - v)
/-- the slices of a loan hold numbers -/
def Sl (A : St) (k : Int) : Prop := (0 ≤ A 1 ∧ A 1 ≤ 6) ∧ (0 ≤ k ∧ k < 12) ∧ ∀ l, 0 ≤ l → l < 6 → (0 ≤ A (83 + 23 * k + 11 + l) ∧ A (83 + 23 * k + 11 + l) ≤ A (83 + 23 * k + 5 + l) ∧ A (83 + 23 * k + 5 + l) ≤ 99999) ∧ (-1 ≤ A (83 + 23 * k + 17 + l) ∧ A (83 + 23 * k + 17 + l) ≤ 30000000)
section Mo8
variable {D : Int} {σ : Hp} {A : St}
theorem R_placeOf {n : Int} (h : Md D σ A) (hn : -2147483648 ≤ n ∧ n < 2147483648) : Rt m_X11_placeOf 1 0 0 [vR (some (11, 0)), vI n] σ (some (vI (if placeA A n = -1 then -1 else 83 + 23 * placeA A n))) σ := by
  have h' := h
  obtain ⟨hD, hW, hA, hI⟩ := h
  have hn' := hI.n
  show V _ 1 0 0 0 [some (vR (some (11, 0))), some (vI n), none] [] σ _
  refine V_iconst a_X11_placeOf_0 ?_
  refine V_istn2 a_X11_placeOf_1 ?_
  refine loopI (P := fun k => (∀ j, 0 ≤ j → j < k → A (83 + 23 * j + 0) ≠ n) → V _ 1 0 0 2 [some (vR (some (11, 0))), some (vI n), some (vI k)] [] σ _) (N := A 7) (by omega) ?_ ?_ (fun j _ _ => by omega)
  · intro hno
    refine V_ildn2 a_X11_placeOf_2 ?_
    refine V_i2l a_X11_placeOf_3 (by omega) ?_
    refine V_aldn0 a_X11_placeOf_4 ?_
    refine V_fin a_X11_placeOf_5 f_X11_7 rfl hW ?_
    refine V_bipush a_X11_placeOf_8 (by decide) ?_
    refine V_w a_X11_placeOf_10 (by omega) hA ?_
    refine V_lc_ge_t a_X11_placeOf_11 a_X11_placeOf_12 (by omega) (by omega) ?_
    refine V_iconst a_X11_placeOf_43 ?_
    exact V_iret a_X11_placeOf_44 (⟨by rw [show placeA A n = -1 from fst_none (fun j j0 j1 => decide_eq_false (hno j j0 j1))]; rfl, rfl⟩)
  · intro k k0 k1 ih hno
    obtain ⟨q0, -⟩ := hI.loan k0 k1
    refine V_ildn2 a_X11_placeOf_2 ?_
    refine V_i2l a_X11_placeOf_3 (by omega) ?_
    refine V_aldn0 a_X11_placeOf_4 ?_
    refine V_fin a_X11_placeOf_5 f_X11_7 rfl hW ?_
    refine V_bipush a_X11_placeOf_8 (by decide) ?_
    refine V_w a_X11_placeOf_10 (by omega) hA ?_
    refine V_lc_ge_f a_X11_placeOf_11 a_X11_placeOf_12 (by omega) (by omega) ?_
    refine V_aldn0 a_X11_placeOf_15 ?_
    refine V_fin a_X11_placeOf_16 f_X11_7 rfl hW ?_
    refine V_ildn2 a_X11_placeOf_19 ?_
    refine V_s1R a_X11_placeOf_20 c_X11_197 R_loanAt ?_
    refine V_iconst a_X11_placeOf_23 ?_
    refine V_iadd a_X11_placeOf_24 ?_
    refine V_w a_X11_placeOf_25 (by omega) hA ?_
    refine V_ildn1 a_X11_placeOf_26 ?_
    refine V_i2l a_X11_placeOf_27 (by omega) ?_
    refine V_lc_ne a_X11_placeOf_28 a_X11_placeOf_29 (by omega) (fun hc28 => ?_) (fun hc28 => ?_)
    · refine V_inc2 a_X11_placeOf_37 ?_
      refine V_goto a_X11_placeOf_40 ?_
      exact ih (fun j j0 j1 => by rcases Classical.em (j = k) with q | q; (rw [q]; omega); exact hno j j0 (by omega))
    · refine V_ildn2 a_X11_placeOf_32 ?_
      refine V_s1R a_X11_placeOf_33 c_X11_197 R_loanAt ?_
      exact V_iret a_X11_placeOf_36 (⟨by rw [show placeA A n = k from fst_found k0 k1 (decide_eq_true (by omega)) (fun j j0 j1 => decide_eq_false (hno j j0 j1)), if_neg (by omega)], rfl⟩)
theorem R_nextDue {k : Int} (hW : WF σ) (hA : σ.J 50 0 = A) (hk : Sl A k) : Rt m_X11_nextDue 0 0 0 [vR (some (11, 0)), vI (83 + 23 * k)] σ (some (vI (nduA A k))) σ := by
  obtain ⟨hn, hk, hl⟩ := hk
  show V _ 0 0 0 0 [some (vR (some (11, 0))), some (vI (83 + 23 * k)), none, none] [] σ _
  refine V_iconst a_X11_nextDue_0 ?_
  refine V_istn2 a_X11_nextDue_1 ?_
  refine V_iconst a_X11_nextDue_2 ?_
  refine V_istn3 a_X11_nextDue_3 ?_
  refine loopI (P := fun l => V _ 0 0 0 4 [some (vR (some (11, 0))), some (vI (83 + 23 * k)), some (vI (ndX (fun l => A (83 + 23 * k + 11 + l)) (fun l => A (83 + 23 * k + 17 + l)) l)), some (vI l)] [] σ _) (N := A 1) (by omega) ?_ ?_
  · refine V_ildn3 a_X11_nextDue_4 ?_
    refine V_i2l a_X11_nextDue_5 (by omega) ?_
    refine V_aldn0 a_X11_nextDue_6 ?_
    refine V_fin a_X11_nextDue_7 f_X11_7 rfl hW ?_
    refine V_iconst a_X11_nextDue_10 ?_
    refine V_w a_X11_nextDue_11 (by omega) hA ?_
    refine V_lc_ge_t a_X11_nextDue_12 a_X11_nextDue_13 (by omega) (by omega) ?_
    refine V_ildn2 a_X11_nextDue_71 ?_
    exact V_iret a_X11_nextDue_72 (⟨rfl, rfl⟩)
  · intro l l0 l1 ih
    rw [ndX_s l0] at ih
    have hx := ndX_ok (rc := fun l => A (83 + 23 * k + 11 + l)) (du := fun l => A (83 + 23 * k + 17 + l)) (n := l) l0
    generalize ndX (fun l => A (83 + 23 * k + 11 + l)) (fun l => A (83 + 23 * k + 17 + l)) l = x at ih hx ⊢
    have hx2 : x = -1 ∨ (0 ≤ x ∧ x < l) := by
      rcases hx with z | z
      · exact Or.inl z.1
      · exact Or.inr z.1
    have v1 := hl l l0 (by omega)
    have v2 : x = -1 ∨ (-1 ≤ A (83 + 23 * k + 17 + x) ∧ A (83 + 23 * k + 17 + x) ≤ 30000000) := by
      rcases hx2 with z | z
      · exact Or.inl z
      · exact Or.inr (hl x z.1 (by omega)).2
    refine V_ildn3 a_X11_nextDue_4 ?_
    refine V_i2l a_X11_nextDue_5 (by omega) ?_
    refine V_aldn0 a_X11_nextDue_6 ?_
    refine V_fin a_X11_nextDue_7 f_X11_7 rfl hW ?_
    refine V_iconst a_X11_nextDue_10 ?_
    refine V_w a_X11_nextDue_11 (by omega) hA ?_
    refine V_lc_ge_f a_X11_nextDue_12 a_X11_nextDue_13 (by omega) (by omega) ?_
    refine V_aldn0 a_X11_nextDue_16 ?_
    refine V_fin a_X11_nextDue_17 f_X11_7 rfl hW ?_
    refine V_ildn1 a_X11_nextDue_20 ?_
    refine V_bipush a_X11_nextDue_21 (by decide) ?_
    refine V_iadd a_X11_nextDue_23 ?_
    refine V_ildn3 a_X11_nextDue_24 ?_
    refine V_iadd a_X11_nextDue_25 ?_
    refine V_w a_X11_nextDue_26 (by omega) hA ?_
    refine V_lconst0 a_X11_nextDue_27 ?_
    refine V_lc_le a_X11_nextDue_28 a_X11_nextDue_29 (by omega) (fun hc28 => ?_) (fun hc28 => ?_)
    · refine V_inc3 a_X11_nextDue_65 ?_
      refine V_goto a_X11_nextDue_68 ?_
      first | (rw [if_pos (by omega)] at ih; exact ih) | (rw [if_neg (by omega)] at ih; exact ih)
    · refine V_ildn2 a_X11_nextDue_32 ?_
      refine V_iconst a_X11_nextDue_33 ?_
      refine V_icmp_eq a_X11_nextDue_34 (by omega) (fun hc34 => ?_) (fun hc34 => ?_)
      · refine V_ildn3 a_X11_nextDue_63 ?_
        refine V_istn2 a_X11_nextDue_64 ?_
        refine V_inc3 a_X11_nextDue_65 ?_
        refine V_goto a_X11_nextDue_68 ?_
        first | (rw [if_pos (by omega)] at ih; exact ih) | (rw [if_neg (by omega)] at ih; exact ih)
      · refine V_aldn0 a_X11_nextDue_37 ?_
        refine V_fin a_X11_nextDue_38 f_X11_7 rfl hW ?_
        refine V_ildn1 a_X11_nextDue_41 ?_
        refine V_bipush a_X11_nextDue_42 (by decide) ?_
        refine V_iadd a_X11_nextDue_44 ?_
        refine V_ildn3 a_X11_nextDue_45 ?_
        refine V_iadd a_X11_nextDue_46 ?_
        refine V_w a_X11_nextDue_47 (by omega) hA ?_
        refine V_aldn0 a_X11_nextDue_48 ?_
        refine V_fin a_X11_nextDue_49 f_X11_7 rfl hW ?_
        refine V_ildn1 a_X11_nextDue_52 ?_
        refine V_bipush a_X11_nextDue_53 (by decide) ?_
        refine V_iadd a_X11_nextDue_55 ?_
        refine V_ildn2 a_X11_nextDue_56 ?_
        refine V_iadd a_X11_nextDue_57 ?_
        refine V_w a_X11_nextDue_58 (by omega) hA ?_
        refine V_lc_ge a_X11_nextDue_59 a_X11_nextDue_60 (by omega) (fun hc59 => ?_) (fun hc59 => ?_)
        · refine V_inc3 a_X11_nextDue_65 ?_
          refine V_goto a_X11_nextDue_68 ?_
          first | (rw [if_pos (by omega)] at ih; exact ih) | (rw [if_neg (by omega)] at ih; exact ih)
        · refine V_ildn3 a_X11_nextDue_63 ?_
          refine V_istn2 a_X11_nextDue_64 ?_
          refine V_inc3 a_X11_nextDue_65 ?_
          refine V_goto a_X11_nextDue_68 ?_
          first | (rw [if_pos (by omega)] at ih; exact ih) | (rw [if_neg (by omega)] at ih; exact ih)
theorem R_greatestSlice {k : Int} (hW : WF σ) (hA : σ.J 50 0 = A) (hk : Sl A k) (h1 : 0 < A 1) : Rt m_X11_greatestSlice 0 0 0 [vR (some (11, 0)), vI (83 + 23 * k)] σ (some (vI (gslA A k))) σ := by
  obtain ⟨hn, hk, hl⟩ := hk
  show V _ 0 0 0 0 [some (vR (some (11, 0))), some (vI (83 + 23 * k)), none, none] [] σ _
  refine V_iconst a_X11_greatestSlice_0 ?_
  refine V_istn2 a_X11_greatestSlice_1 ?_
  refine V_iconst a_X11_greatestSlice_2 ?_
  refine V_istn3 a_X11_greatestSlice_3 ?_
  refine loopI (P := fun l => V _ 0 0 0 4 [some (vR (some (11, 0))), some (vI (83 + 23 * k)), some (vI (amxK (fun l => A (83 + 23 * k + 5 + l)) l)), some (vI (l + 1))] [] σ _) (N := A 1 - 1) (by omega) ?_ ?_
  · refine V_ildn3 a_X11_greatestSlice_4 ?_
    refine V_i2l a_X11_greatestSlice_5 (by omega) ?_
    refine V_aldn0 a_X11_greatestSlice_6 ?_
    refine V_fin a_X11_greatestSlice_7 f_X11_7 rfl hW ?_
    refine V_iconst a_X11_greatestSlice_10 ?_
    refine V_w a_X11_greatestSlice_11 (by omega) hA ?_
    refine V_lc_ge_t a_X11_greatestSlice_12 a_X11_greatestSlice_13 (by omega) (by omega) ?_
    refine V_ildn2 a_X11_greatestSlice_52 ?_
    exact V_iret a_X11_greatestSlice_53 (⟨rfl, rfl⟩)
  · intro l l0 l1 ih
    rw [amxK_s l0] at ih
    have hx := (amxK_ok (r := fun l => A (83 + 23 * k + 5 + l)) (k := l) l0).1
    generalize amxK (fun l => A (83 + 23 * k + 5 + l)) l = x at ih hx ⊢
    have v1 := hl (l + 1) (by omega) (by omega)
    have v2 := hl x (by omega) (by omega)
    refine V_ildn3 a_X11_greatestSlice_4 ?_
    refine V_i2l a_X11_greatestSlice_5 (by omega) ?_
    refine V_aldn0 a_X11_greatestSlice_6 ?_
    refine V_fin a_X11_greatestSlice_7 f_X11_7 rfl hW ?_
    refine V_iconst a_X11_greatestSlice_10 ?_
    refine V_w a_X11_greatestSlice_11 (by omega) hA ?_
    refine V_lc_ge_f a_X11_greatestSlice_12 a_X11_greatestSlice_13 (by omega) (by omega) ?_
    refine V_aldn0 a_X11_greatestSlice_16 ?_
    refine V_fin a_X11_greatestSlice_17 f_X11_7 rfl hW ?_
    refine V_ildn1 a_X11_greatestSlice_20 ?_
    refine V_iconst a_X11_greatestSlice_21 ?_
    refine V_iadd a_X11_greatestSlice_22 ?_
    refine V_ildn3 a_X11_greatestSlice_23 ?_
    refine V_iadd a_X11_greatestSlice_24 ?_
    refine V_w a_X11_greatestSlice_25 (by omega) hA ?_
    refine V_aldn0 a_X11_greatestSlice_26 ?_
    refine V_fin a_X11_greatestSlice_27 f_X11_7 rfl hW ?_
    refine V_ildn1 a_X11_greatestSlice_30 ?_
    refine V_iconst a_X11_greatestSlice_31 ?_
    refine V_iadd a_X11_greatestSlice_32 ?_
    refine V_ildn2 a_X11_greatestSlice_33 ?_
    refine V_iadd a_X11_greatestSlice_34 ?_
    refine V_w a_X11_greatestSlice_35 (by omega) hA ?_
    refine V_lc_le a_X11_greatestSlice_36 a_X11_greatestSlice_37 (by omega) (fun hc36 => ?_) (fun hc36 => ?_)
    · refine V_ildn2 a_X11_greatestSlice_44 ?_
      refine V_istn2 a_X11_greatestSlice_45 ?_
      refine V_inc3 a_X11_greatestSlice_46 ?_
      refine V_goto a_X11_greatestSlice_49 ?_
      first | (rw [if_pos (by omega)] at ih; exact ih) | (rw [if_neg (by omega)] at ih; exact ih)
    · refine V_ildn3 a_X11_greatestSlice_40 ?_
      refine V_goto a_X11_greatestSlice_41 ?_
      refine V_istn2 a_X11_greatestSlice_45 ?_
      refine V_inc3 a_X11_greatestSlice_46 ?_
      refine V_goto a_X11_greatestSlice_49 ?_
      first | (rw [if_pos (by omega)] at ih; exact ih) | (rw [if_neg (by omega)] at ih; exact ih)
theorem R_comeBack {k l v : Int} (hW : WF σ) (hA : σ.J 50 0 = A) (hk : 0 ≤ k ∧ k < 12) (hl : 0 ≤ l ∧ l < 6) (hv : 0 ≤ A (83 + 23 * k + 11 + l) - v ∧ A (83 + 23 * k + 11 + l) - v ≤ 99999) : Rt m_X11_comeBack 0 0 0 [vR (some (11, 0)), vI (83 + 23 * k), vI l, vL v] σ none (σ.rJ 50 0 (cbA A k l v)) := by
  show V _ 0 0 0 0 [some (vR (some (11, 0))), some (vI (83 + 23 * k)), some (vI l), some (vL v), none] [] σ _
  refine V_aldn0 a_X11_comeBack_0 ?_
  refine V_fin a_X11_comeBack_1 f_X11_7 rfl hW ?_
  refine V_ildn1 a_X11_comeBack_4 ?_
  refine V_iconst a_X11_comeBack_5 ?_
  refine V_iadd a_X11_comeBack_6 ?_
  refine V_ildn2 a_X11_comeBack_7 ?_
  refine V_iadd a_X11_comeBack_8 ?_
  first | refine V_dup2IR a_X11_comeBack_9 ?_ | refine V_dup2L a_X11_comeBack_9 ?_
  refine V_w a_X11_comeBack_10 (by omega) hA ?_
  refine V_lldn3 a_X11_comeBack_11 ?_
  refine V_lsub a_X11_comeBack_12 ?_
  refine V_last a_X11_comeBack_13 rfl (by omega) ?_
  rw [setJ_row, hA]
  refine V_aldn0 a_X11_comeBack_14 ?_
  refine V_fin a_X11_comeBack_15 f_X11_7 rfl hW ?_
  refine V_ildn1 a_X11_comeBack_18 ?_
  refine V_bipush a_X11_comeBack_19 (by decide) ?_
  refine V_iadd a_X11_comeBack_21 ?_
  refine V_ildn2 a_X11_comeBack_22 ?_
  refine V_iadd a_X11_comeBack_23 ?_
  first | refine V_dup2IR a_X11_comeBack_24 ?_ | refine V_dup2L a_X11_comeBack_24 ?_
  refine V_laldE a_X11_comeBack_25 rfl (by omega) (v := A (83 + 23 * k + 11 + l)) (by rw [rJ_J, upI_ne (by omega)]) ?_
  refine V_lldn3 a_X11_comeBack_26 ?_
  refine V_lsub a_X11_comeBack_27 ?_
  refine V_last a_X11_comeBack_28 rfl (by omega) ?_
  rw [rJ_set]
  refine V_aldn0 a_X11_comeBack_29 ?_
  refine V_fin a_X11_comeBack_30 f_X11_7 rfl hW ?_
  refine V_ildn1 a_X11_comeBack_33 ?_
  refine V_bipush a_X11_comeBack_34 (by decide) ?_
  refine V_iadd a_X11_comeBack_36 ?_
  refine V_ildn2 a_X11_comeBack_37 ?_
  refine V_iadd a_X11_comeBack_38 ?_
  refine V_laldE a_X11_comeBack_39 rfl (by omega) (v := A (83 + 23 * k + 11 + l) - v) (by rw [rJ_J, upI_eq]) ?_
  refine V_lconst0 a_X11_comeBack_40 ?_
  refine V_lc_ne a_X11_comeBack_41 a_X11_comeBack_42 (by omega) (fun hc41 => ?_) (fun hc41 => ?_)
  · try rw [rJ_set]
    exact V_ret a_X11_comeBack_59 (⟨rfl, by unfold cbA; first | rw [if_pos (by omega)] | rw [if_neg (by omega)]⟩)
  · refine V_aldn0 a_X11_comeBack_45 ?_
    refine V_fin a_X11_comeBack_46 f_X11_7 rfl hW ?_
    refine V_ildn1 a_X11_comeBack_49 ?_
    refine V_bipush a_X11_comeBack_50 (by decide) ?_
    refine V_iadd a_X11_comeBack_52 ?_
    refine V_ildn2 a_X11_comeBack_53 ?_
    refine V_iadd a_X11_comeBack_54 ?_
    refine V_ldc2 a_X11_comeBack_55 q_X11_56 ?_
    refine V_last a_X11_comeBack_58 rfl (by omega) ?_
    try rw [rJ_set]
    exact V_ret a_X11_comeBack_59 (⟨rfl, by unfold cbA; first | rw [if_pos (by omega)] | rw [if_neg (by omega)]⟩)
theorem R_comesFrom {l c : Int} (hW : WF σ) (hc : σ.I 11 0 17 = c) (hc1 : 0 ≤ c ∧ c < 12) : Rt m_X11_comesFrom 0 0 0 [vR (some (11, 0)), vI l] σ none ((σ.setI 58 0 c l).setI 11 0 17 (c + 1)) := by
  show V _ 0 0 0 0 [some (vR (some (11, 0))), some (vI l)] [] σ _
  refine V_aldn0 a_X11_comesFrom_0 ?_
  refine V_fin a_X11_comesFrom_1 f_X11_39 rfl hW ?_
  refine V_aldn0 a_X11_comesFrom_4 ?_
  refine V_getIE a_X11_comesFrom_5 f_X11_279 rfl hc ?_
  refine V_ildn1 a_X11_comesFrom_8 ?_
  refine V_iast a_X11_comesFrom_9 rfl (by omega) ?_
  refine V_aldn0 a_X11_comesFrom_10 ?_
  first | refine V_dupR a_X11_comesFrom_11 ?_ | refine V_dupI a_X11_comesFrom_11 ?_
  refine V_getIE a_X11_comesFrom_12 f_X11_279 rfl hc ?_
  refine V_iconst a_X11_comesFrom_15 ?_
  refine V_iadd a_X11_comesFrom_16 ?_
  refine V_putI a_X11_comesFrom_17 f_X11_279 rfl ?_
  exact V_ret a_X11_comesFrom_20 (⟨rfl, rfl⟩)
end Mo8

