section Zr
variable {κ ρ σ τ : Hp} {S : Nat → Nat → Prop} {k m : Nat}
/-- what the first k steps of the class's constructor have made -/
def oS (k t n : Nat) : Prop := (1 ≤ k ∧ (t = 9 ∨ t = 20) ∧ n = 0) ∨ (2 ≤ k ∧ (t = 7 ∨ t = 21) ∧ n = 0) ∨ (3 ≤ k ∧ (t = 5 ∨ t = 22) ∧ n = 0) ∨ (4 ≤ k ∧ (((t ≤ 1 ∨ (23 ≤ t ∧ t ≤ 29)) ∧ n = 0) ∨ ((t = 3 ∨ t = 30 ∨ t = 31 ∨ t = 32) ∧ n = 999))) ∨ (5 ≤ k ∧ (t = 4 ∨ t = 33) ∧ n = 0) ∨ (6 ≤ k ∧ (t = 2 ∨ t = 34) ∧ n = 0) ∨ (7 ≤ k ∧ (t = 8 ∨ t = 35) ∧ n = 0) ∨ (8 ≤ k ∧ nwS 0 t n) ∨ (9 ≤ k ∧ nwS 1 t n)
def zF (m : Nat) (κ : Hp) : Prop := match m with
  | 1 => κ.I 9 0 0 = 0
  | 2 => κ.I 7 0 0 = 0 ∧ κ.I 7 0 1 = -1
  | 6 => κ.I 2 0 0 = 0 ∧ κ.I 2 0 1 = 0 ∧ ∀ x, κ.P 34 0 x = none
  | 7 => κ.I 8 0 0 = 0
  | 8 => Shp κ 0 ∧ (∀ t k, 36 ≤ t → t ≤ 44 → κ.I t 0 k = 0) ∧ ∀ t k, 45 ≤ t → t ≤ 46 → κ.J t 0 k = 0
  | 9 => Shp κ 1
  | _ => True
def Bz (k : Nat) (κ : Hp) : Prop := (∀ t n, κ.al t n = true → (t = 10 ∧ n = 0) ∨ oS k t n) ∧ (∀ t j n r, t ≠ 10 → fin t j n = some r → κ.al t n = true → κ.F t n j = some r) ∧ (∀ j r, j < k → fin 10 j 0 = some r → κ.F 10 0 j = some r) ∧ ∀ m, m ≤ k → zF m κ
theorem P_new {t i t' i' : Nat} {k : Int} : (σ.new t i).P t' i' k = if t' = t ∧ i' = i then none else σ.P t' i' k := rfl
theorem P_setF {t i k : Nat} {v : Option (Nat × Nat)} : (σ.setF t i k v).P = σ.P := rfl
theorem Nw.setI {t i : Nat} {k v : Int} (hs : S t i) : Nw S σ (σ.setI t i k v) := ⟨rfl, fun t' n hn => ⟨rfl, by
  funext k'
  exact if_neg (fun z => hn (by rw [z.1, z.2.1]; exact hs)), rfl, rfl, rfl, rfl⟩⟩
theorem zF.nw (z : zF m κ) (f : Nw S κ ρ) (hn : ∀ t n, oS m t n → ¬ S t n) : zF m ρ := by
  match m, z, hn with
  | 0, _, _ => trivial
  | 1, z, hn =>
    show ρ.I 9 0 0 = 0
    rw [f.I (hn 9 0 (by unfold oS; omega))]
    exact z
  | 2, z, hn =>
    show ρ.I 7 0 0 = 0 ∧ ρ.I 7 0 1 = -1
    rw [f.I (hn 7 0 (by unfold oS; omega))]
    exact z
  | 3, _, _ => trivial
  | 4, _, _ => trivial
  | 5, _, _ => trivial
  | 6, z, hn =>
    show ρ.I 2 0 0 = 0 ∧ ρ.I 2 0 1 = 0 ∧ ∀ x, ρ.P 34 0 x = none
    rw [f.I (hn 2 0 (by unfold oS; omega)), f.P (hn 34 0 (by unfold oS; omega))]
    exact z
  | 7, z, hn =>
    show ρ.I 8 0 0 = 0
    rw [f.I (hn 8 0 (by unfold oS; omega))]
    exact z
  | 8, z, hn =>
    show Shp ρ 0 ∧ (∀ t k, 36 ≤ t → t ≤ 44 → ρ.I t 0 k = 0) ∧ ∀ t k, 45 ≤ t → t ≤ 46 → ρ.J t 0 k = 0
    have z : Shp κ 0 ∧ (∀ t k, 36 ≤ t → t ≤ 44 → κ.I t 0 k = 0) ∧ ∀ t k, 45 ≤ t → t ≤ 46 → κ.J t 0 k = 0 := z
    refine ⟨z.1.cg (f.P (hn 47 0 (by unfold oS nwS pS; omega))), fun t k t0 t1 => ?_, fun t k t0 t1 => ?_⟩
    · rw [f.I (hn t 0 (by unfold oS nwS pS; omega))]
      exact z.2.1 t k t0 t1
    · rw [f.J (hn t 0 (by unfold oS nwS pS; omega))]
      exact z.2.2 t k t0 t1
  | 9, z, hn =>
    show Shp ρ 1
    have z : Shp κ 1 := z
    exact z.cg (f.P (hn 47 1 (by unfold oS nwS pS; omega)))
  | m + 10, _, _ => trivial
theorem Bz.no {t n : Nat} (h : Bz k κ) (h1 : ¬ ((t = 10 ∧ n = 0) ∨ oS k t n)) : κ.al t n = false := by
  cases e : κ.al t n
  · rfl
  · exact absurd (h.1 t n e) h1
theorem oS.mono {k' t n : Nat} (h : oS k t n) (hk : k ≤ k') : oS k' t n := by
  unfold oS at h ⊢
  rcases h with h | h | h | h | h | h | h | h | h
  · exact Or.inl ⟨by omega, h.2⟩
  · exact Or.inr (Or.inl ⟨by omega, h.2⟩)
  · exact Or.inr (Or.inr (Or.inl ⟨by omega, h.2⟩))
  · exact Or.inr (Or.inr (Or.inr (Or.inl ⟨by omega, h.2⟩)))
  · exact Or.inr (Or.inr (Or.inr (Or.inr (Or.inl ⟨by omega, h.2⟩))))
  · exact Or.inr (Or.inr (Or.inr (Or.inr (Or.inr (Or.inl ⟨by omega, h.2⟩)))))
  · exact Or.inr (Or.inr (Or.inr (Or.inr (Or.inr (Or.inr (Or.inl ⟨by omega, h.2⟩))))))
  · exact Or.inr (Or.inr (Or.inr (Or.inr (Or.inr (Or.inr (Or.inr (Or.inl ⟨by omega, h.2⟩)))))))
  · exact Or.inr (Or.inr (Or.inr (Or.inr (Or.inr (Or.inr (Or.inr (Or.inr ⟨by omega, h.2⟩)))))))
theorem oS.no10 (h : oS k 10 0) : False := by
  unfold oS at h
  rcases h with h | h | h | h | h | h | h | h | h
  · have := h.2; omega
  · have := h.2; omega
  · have := h.2; omega
  · have := h.2; omega
  · have := h.2; omega
  · have := h.2; omega
  · have := h.2; omega
  · have := h.2; unfold nwS pS at this; omega
  · have := h.2; unfold nwS pS at this; omega
theorem Bz.step (h : Bz k κ) (f : Nw S κ ρ) (hS : ∀ t n, S t n → (t = 10 ∧ n = 0) ∨ (oS (k + 1) t n ∧ ¬ oS k t n)) (hF : ∀ t j n r, S t n → t ≠ 10 → fin t j n = some r → ρ.F t n j = some r) (h10 : ∀ j, j < k → ρ.F 10 0 j = κ.F 10 0 j) (hk : ∀ r, fin 10 k 0 = some r → ρ.F 10 0 k = some r) (hz : zF (k + 1) ρ) : Bz (k + 1) ρ := by
  obtain ⟨a1, a2, a3, a4⟩ := h
  have mono : ∀ t n, oS k t n → oS (k + 1) t n := fun t n z => z.mono (by omega)
  refine ⟨fun t n e => ?_, fun t j n r ht hr e => ?_, fun j r hj hr => ?_, fun m hm => ?_⟩
  · by_cases q : S t n
    · rcases hS t n q with z | z
      · exact Or.inl z
      · exact Or.inr z.1
    · rw [f.al q] at e
      rcases a1 t n e with z | z
      · exact Or.inl z
      · exact Or.inr (mono t n z)
  · by_cases q : S t n
    · exact hF t j n r q ht hr
    · rw [f.F q]
      rw [f.al q] at e
      exact a2 t j n r ht hr e
  · by_cases q : j = k
    · subst q
      exact hk r hr
    · rw [h10 j (by omega)]
      exact a3 j r (by omega) hr
  · by_cases q : m = k + 1
    · subst q
      exact hz
    · refine (a4 m (by omega)).nw f (fun t n z s => ?_)
      have z2 : oS k t n := z.mono (by omega)
      rcases hS t n s with y | y
      · obtain ⟨y1, y2⟩ := y
        subst y1
        subst y2
        exact z2.no10
      · exact y.2 z2
theorem Bz.one {κ1 : Hp} {t0 a0 f0 : Nat} (h : Bz k κ) (f1 : Nw (fun t n => t = t0 ∧ n = 0) κ κ1) (hf : fin 10 k 0 = some (t0, 0)) (h0 : ∀ j r, fin t0 j 0 = some r → j = f0 ∧ r = (a0, 0)) (ha : ∀ j r, fin a0 j 0 = some r → False) (hd : t0 ≠ 10 ∧ a0 ≠ 10 ∧ t0 ≠ a0) (hS : oS (k + 1) t0 0 ∧ ¬ oS k t0 0 ∧ oS (k + 1) a0 0 ∧ ¬ oS k a0 0) (hz : zF (k + 1) (((κ1.new a0 0).setF t0 0 f0 (some (a0, 0))).setF 10 0 k (some (t0, 0)))) : Nw (fun t n => (t = 10 ∨ t = t0 ∨ t = a0) ∧ n = 0) κ (((κ1.new a0 0).setF t0 0 f0 (some (a0, 0))).setF 10 0 k (some (t0, 0))) ∧ Bz (k + 1) (((κ1.new a0 0).setF t0 0 f0 (some (a0, 0))).setF 10 0 k (some (t0, 0))) := by
  have f : Nw (fun t n => (t = 10 ∨ t = t0 ∨ t = a0) ∧ n = 0) κ (((κ1.new a0 0).setF t0 0 f0 (some (a0, 0))).setF 10 0 k (some (t0, 0))) := (((f1.sub (fun t n z => ⟨Or.inr (Or.inl z.1), z.2⟩)).trans (Nw.new ⟨Or.inr (Or.inr rfl), rfl⟩)).trans (Nw.setF ⟨Or.inr (Or.inl rfl), rfl⟩)).trans (Nw.setF ⟨Or.inl rfl, rfl⟩)
  have e1 : κ1.F 10 0 = κ.F 10 0 := f1.F (fun z => hd.1 z.1.symm)
  refine ⟨f, h.step f (fun t n z => ?_) (fun t j n r z ht hr => ?_) (fun j hj => ?_) (fun r hr => ?_) hz⟩
  · obtain ⟨z1, z2⟩ := z
    subst z2
    rcases z1 with rfl | rfl | rfl
    · exact Or.inl ⟨rfl, rfl⟩
    · exact Or.inr ⟨hS.1, hS.2.1⟩
    · exact Or.inr ⟨hS.2.2.1, hS.2.2.2⟩
  · obtain ⟨z1, z2⟩ := z
    subst z2
    rcases z1 with rfl | rfl | rfl
    · exact absurd rfl ht
    · obtain ⟨y1, y2⟩ := h0 j r hr
      subst y1
      subst y2
      rw [F_setF, if_neg (by omega), F_setF, if_pos ⟨rfl, rfl, rfl⟩]
    · exact (ha j r hr).elim
  · rw [F_setF, if_neg (by omega), F_setF, if_neg (by omega), F_new, if_neg (by omega), e1]
  · rw [F_setF, if_pos ⟨rfl, rfl, rfl⟩, ← hf, hr]
end Zr
theorem fin_9 {j : Nat} {r : Nat × Nat} (h : fin 9 j 0 = some r) : j = 5 ∧ r = (20, 0) := by
  match j, h with
  | 0, h => cases h
  | 1, h => cases h
  | 2, h => cases h
  | 3, h => cases h
  | 4, h => cases h
  | 5, h => exact ⟨rfl, by cases h; rfl⟩
  | j + 6, h => cases h
theorem fin_7 {j : Nat} {r : Nat × Nat} (h : fin 7 j 0 = some r) : j = 2 ∧ r = (21, 0) := by
  match j, h with
  | 0, h => cases h
  | 1, h => cases h
  | 2, h => exact ⟨rfl, by cases h; rfl⟩
  | j + 3, h => cases h
theorem fin_5 {j : Nat} {r : Nat × Nat} (h : fin 5 j 0 = some r) : j = 0 ∧ r = (22, 0) := by
  match j, h with
  | 0, h => exact ⟨rfl, by cases h; rfl⟩
  | j + 1, h => cases h
theorem fin_4 {j : Nat} {r : Nat × Nat} (h : fin 4 j 0 = some r) : j = 5 ∧ r = (33, 0) := by
  match j, h with
  | 0, h => cases h
  | 1, h => cases h
  | 2, h => cases h
  | 3, h => cases h
  | 4, h => cases h
  | 5, h => exact ⟨rfl, by cases h; rfl⟩
  | j + 6, h => cases h
theorem fin_2 {j : Nat} {r : Nat × Nat} (h : fin 2 j 0 = some r) : j = 2 ∧ r = (34, 0) := by
  match j, h with
  | 0, h => cases h
  | 1, h => cases h
  | 2, h => exact ⟨rfl, by cases h; rfl⟩
  | j + 3, h => cases h
theorem fin_8 {j : Nat} {r : Nat × Nat} (h : fin 8 j 0 = some r) : j = 1 ∧ r = (35, 0) := by
  match j, h with
  | 0, h => cases h
  | 1, h => exact ⟨rfl, by cases h; rfl⟩
  | j + 2, h => cases h
section Z1
variable {κ ρ σ : Hp}
theorem nw_hX0 : Nw (fun t n => (t = 0 ∨ (24 ≤ t ∧ t ≤ 29)) ∧ n = 0) κ (hX0 κ) := by
  unfold hX0
  exact (((((((((((Nw.new ⟨by decide, rfl⟩).trans (Nw.setF ⟨by decide, rfl⟩)).trans (Nw.new ⟨by decide, rfl⟩)).trans (Nw.setF ⟨by decide, rfl⟩)).trans (Nw.new ⟨by decide, rfl⟩)).trans (Nw.setF ⟨by decide, rfl⟩)).trans (Nw.new ⟨by decide, rfl⟩)).trans (Nw.setF ⟨by decide, rfl⟩)).trans (Nw.new ⟨by decide, rfl⟩)).trans (Nw.setF ⟨by decide, rfl⟩)).trans (Nw.new ⟨by decide, rfl⟩)).trans (Nw.setF ⟨by decide, rfl⟩)
theorem nw_hX3 {j : Nat} : Nw (lnS j) κ (hX3 j κ) := by
  unfold hX3
  exact (((((Nw.new ⟨by decide, rfl⟩).trans (Nw.setF ⟨by decide, rfl⟩)).trans (Nw.new ⟨by decide, rfl⟩)).trans (Nw.setF ⟨by decide, rfl⟩)).trans (Nw.new ⟨by decide, rfl⟩)).trans (Nw.setF ⟨by decide, rfl⟩)
def s1S (t n : Nat) : Prop := ((t ≤ 1 ∨ (23 ≤ t ∧ t ≤ 29)) ∧ n = 0) ∨ ((t = 3 ∨ t = 30 ∨ t = 31 ∨ t = 32) ∧ n = 999)
theorem nw_hX1 : Nw s1S κ (hX1 κ) := by
  unfold hX1
  refine (Nw.trans ?_ (nw_hX3.sub (fun t n z => ?_))).trans (Nw.setF (by unfold s1S; omega))
  · refine Nw.trans ?_ (Nw.new (by unfold s1S; omega))
    refine Nw.trans ?_ (Nw.setF (by unfold s1S; omega))
    refine Nw.trans ?_ (Nw.new (by unfold s1S; omega))
    refine Nw.trans ?_ (Nw.setF (by unfold s1S; omega))
    exact (Nw.new (by unfold s1S; omega)).trans (nw_hX0.sub (fun t n z => by unfold s1S; omega))
  · unfold lnS at z
    unfold s1S
    omega
theorem hX0_F : (hX0 κ).F 0 0 0 = some (24, 0) ∧ (hX0 κ).F 0 0 1 = some (25, 0) ∧ (hX0 κ).F 0 0 3 = some (26, 0) ∧ (hX0 κ).F 0 0 4 = some (27, 0) ∧ (hX0 κ).F 0 0 5 = some (28, 0) ∧ (hX0 κ).F 0 0 6 = some (29, 0) := by
  unfold hX0
  refine ⟨?_, ?_, ?_, ?_, ?_, ?_⟩ <;> simp [F_setF, F_new]
theorem hX3_F {j : Nat} : (hX3 j κ).F 3 j 5 = some (30, j) ∧ (hX3 j κ).F 3 j 6 = some (31, j) ∧ (hX3 j κ).F 3 j 7 = some (32, j) := by
  unfold hX3
  refine ⟨?_, ?_, ?_⟩ <;> simp [F_setF, F_new]
theorem hX1_F0 {j : Nat} : (hX1 κ).F 0 0 j = (hX0 (κ.new 0 0)).F 0 0 j := by
  unfold hX1
  rw [F_setF, if_neg (by omega), nw_hX3.F (by unfold lnS; omega), F_new, if_neg (by omega), F_setF, if_neg (by omega), F_new, if_neg (by omega), F_setF, if_neg (by omega)]
theorem hX1_F1 : (hX1 κ).F 1 0 0 = some (0, 0) ∧ (hX1 κ).F 1 0 1 = some (23, 0) ∧ (hX1 κ).F 1 0 2 = some (3, 999) := by
  unfold hX1
  refine ⟨?_, ?_, ?_⟩
  · rw [F_setF, if_neg (by omega), nw_hX3.F (by unfold lnS; omega), F_new, if_neg (by omega), F_setF, if_neg (by omega), F_new, if_neg (by omega), F_setF, if_pos ⟨rfl, rfl, rfl⟩]
  · rw [F_setF, if_neg (by omega), nw_hX3.F (by unfold lnS; omega), F_new, if_neg (by omega), F_setF, if_pos ⟨rfl, rfl, rfl⟩]
  · rw [F_setF, if_pos ⟨rfl, rfl, rfl⟩]
theorem hX1_F3 : (hX1 κ).F 3 999 5 = some (30, 999) ∧ (hX1 κ).F 3 999 6 = some (31, 999) ∧ (hX1 κ).F 3 999 7 = some (32, 999) := by
  unfold hX1
  refine ⟨?_, ?_, ?_⟩
  · rw [F_setF, if_neg (by omega)]
    exact hX3_F.1
  · rw [F_setF, if_neg (by omega)]
    exact hX3_F.2.1
  · rw [F_setF, if_neg (by omega)]
    exact hX3_F.2.2
theorem hX1_fin {t j n : Nat} {r : Nat × Nat} (z : s1S t n) (hr : fin t j n = some r) : (hX1 κ).F t n j = some r := by
  unfold s1S at z
  have c : (t = 0 ∧ n = 0) ∨ (t = 1 ∧ n = 0) ∨ (t = 3 ∧ n = 999) ∨ t = 23 ∨ t = 24 ∨ t = 25 ∨ t = 26 ∨ t = 27 ∨ t = 28 ∨ t = 29 ∨ t = 30 ∨ t = 31 ∨ t = 32 := by omega
  rcases c with ⟨rfl, rfl⟩ | ⟨rfl, rfl⟩ | ⟨rfl, rfl⟩ | rfl | rfl | rfl | rfl | rfl | rfl | rfl | rfl | rfl | rfl
  · rw [hX1_F0]
    have q := hX0_F (κ := κ.new 0 0)
    match j, hr with
    | 0, hr => rw [q.1]; exact hr
    | 1, hr => rw [q.2.1]; exact hr
    | 2, hr => cases hr
    | 3, hr => rw [q.2.2.1]; exact hr
    | 4, hr => rw [q.2.2.2.1]; exact hr
    | 5, hr => rw [q.2.2.2.2.1]; exact hr
    | 6, hr => rw [q.2.2.2.2.2]; exact hr
    | j + 7, hr => cases hr
  · have q := hX1_F1 (κ := κ)
    match j, hr with
    | 0, hr => rw [q.1]; exact hr
    | 1, hr => rw [q.2.1]; exact hr
    | 2, hr => rw [q.2.2]; exact hr
    | j + 3, hr => cases hr
  · have q := hX1_F3 (κ := κ)
    match j, hr with
    | 0, hr => cases hr
    | 1, hr => cases hr
    | 2, hr => cases hr
    | 3, hr => cases hr
    | 4, hr => cases hr
    | 5, hr => rw [q.1]; exact hr
    | 6, hr => rw [q.2.1]; exact hr
    | 7, hr => rw [q.2.2]; exact hr
    | j + 8, hr => cases hr
  all_goals cases hr
end Z1

