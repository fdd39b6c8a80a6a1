/-- more room does no harm -/
theorem V_low {M : MI} {n b bs pc : Nat} {ls : List (Option AV)} {st : List AV} {σ : Hp} {Q : Res → Hp → Prop} {n' b' bs' : Nat} (h : V M n b bs pc ls st σ Q) (hb : b ≤ b') (hs : bs ≤ bs') (hn : n ≤ n' := by exact Nat.le_refl _) : V M n' b' bs' pc ls st σ Q := by
  intro g ad p l e R s m args below meth c H locs cells slots lsA ad0 σ0 hp
  obtain ⟨F, ⟨r1, r2, r3, r4⟩, rest⟩ := hp
  exact h g ad p l e R s m args below meth c H locs cells slots lsA ad0 σ0 ⟨F, ⟨by omega, by omega, by omega, by omega⟩, rest⟩
section ArI
variable {M M2 : MI} {n b bs n2 b2 bs2 pc nx idx t i : Nat} {ls : List (Option AV)} {rest : List AV} {σ : Hp} {Q : Res → Hp → Prop} {Φ : Hp → Prop}
theorem V_i0PV (h : Ix M pc (.invokespecial idx) 3 nx) (hc : CI M idx M2 0) (hct : Cv M2 n2 b2 bs2 [vR (some (t, i))] σ none Φ) (kk : ∀ σ', Φ σ' → V M n b bs nx ls rest σ' Q) (hn : n2 + 1 ≤ n := by first | exact Nat.le_of_ble_eq_true rfl | omega) (hcat : cats rest ≤ 8 := by exact Nat.le_of_ble_eq_true rfl) (hM : M.hh = [] := by rfl) (hfit : (ent0 ([vR (some (t, i))] : List AV)).length ≤ M2.mL := by exact Nat.le_of_ble_eq_true rfl) : V M n (b + b2) (bs + bs2) pc ls (vR (some (t, i)) :: rest) σ Q := V_i0Q h hc hct (fun v τ hq => by obtain ⟨e1, hp⟩ := hq; cases e1; exact kk τ hp) (fun E τ hq => by cases hq.1) hn hcat hM hfit
end ArI
section Nw0
variable {σ τ ρ : Hp} {S : Nat → Nat → Prop}
theorem al_new {t i t' i' : Nat} : (σ.new t i).al t' i' = if t' = t ∧ i' = i then true else σ.al t' i' := rfl
theorem al_setF {t i k : Nat} {v : Option (Nat × Nat)} : (σ.setF t i k v).al = σ.al := rfl
theorem al_setP {t i : Nat} {k : Int} {v : Option Nat} : (σ.setP t i k v).al = σ.al := rfl
theorem F_new {t i t' i' k : Nat} : (σ.new t i).F t' i' k = if t' = t ∧ i' = i then none else σ.F t' i' k := rfl
theorem F_setF {t i k t' i' k' : Nat} {v : Option (Nat × Nat)} : (σ.setF t i k v).F t' i' k' = if t' = t ∧ i' = i ∧ k' = k then v else σ.F t' i' k' := rfl
theorem F_setP {t i : Nat} {k : Int} {v : Option Nat} : (σ.setP t i k v).F = σ.F := rfl
theorem I_new {t i t' i' : Nat} {k : Int} : (σ.new t i).I t' i' k = if t' = t ∧ i' = i then 0 else σ.I t' i' k := rfl
theorem J_new {t i t' i' : Nat} {k : Int} : (σ.new t i).J t' i' k = if t' = t ∧ i' = i then 0 else σ.J t' i' k := rfl
theorem I_setF {t i k : Nat} {v : Option (Nat × Nat)} : (σ.setF t i k v).I = σ.I := rfl
theorem J_setF {t i k : Nat} {v : Option (Nat × Nat)} : (σ.setF t i k v).J = σ.J := rfl
/-- what is not in S stays as it was -/
def Nw (S : Nat → Nat → Prop) (σ τ : Hp) : Prop := τ.sl = σ.sl ∧ ∀ t n, ¬ S t n → τ.al t n = σ.al t n ∧ τ.I t n = σ.I t n ∧ τ.J t n = σ.J t n ∧ τ.F t n = σ.F t n ∧ τ.P t n = σ.P t n ∧ τ.B t n = σ.B t n
theorem Nw.refl (S : Nat → Nat → Prop) (σ : Hp) : Nw S σ σ := ⟨rfl, fun _ _ _ => ⟨rfl, rfl, rfl, rfl, rfl, rfl⟩⟩
theorem Nw.trans (h : Nw S σ τ) (h2 : Nw S τ ρ) : Nw S σ ρ := ⟨h2.1.trans h.1, fun t n hn => by
  obtain ⟨a, b, c, d, e, f⟩ := h.2 t n hn
  obtain ⟨a2, b2, c2, d2, e2, f2⟩ := h2.2 t n hn
  exact ⟨a2.trans a, b2.trans b, c2.trans c, d2.trans d, e2.trans e, f2.trans f⟩⟩
theorem Nw.sub {S' : Nat → Nat → Prop} (h : Nw S σ τ) (hs : ∀ t n, S t n → S' t n) : Nw S' σ τ := ⟨h.1, fun t n hn => h.2 t n (fun z => hn (hs t n z))⟩
theorem Nw.new {t i : Nat} (hs : S t i) : Nw S σ (σ.new t i) := ⟨rfl, fun t' n hn => by
  have hne : ¬ (t' = t ∧ n = i) := fun z => hn (by rw [z.1, z.2]; exact hs)
  refine ⟨if_neg hne, ?_, ?_, ?_, ?_, ?_⟩
  · funext k
    exact if_neg hne
  · funext k
    exact if_neg hne
  · funext k
    exact if_neg hne
  · funext k
    exact if_neg hne
  · funext k
    exact if_neg hne⟩
theorem Nw.setF {t i k : Nat} {v : Option (Nat × Nat)} (hs : S t i) : Nw S σ (σ.setF t i k v) := ⟨rfl, fun t' n hn => ⟨rfl, rfl, rfl, by
  funext k'
  exact if_neg (fun z => hn (by rw [z.1, z.2.1]; exact hs)), rfl, rfl⟩⟩
theorem Nw.setP {t i : Nat} {k : Int} {v : Option Nat} (hs : S t i) : Nw S σ (σ.setP t i k v) := ⟨rfl, fun t' n hn => ⟨rfl, rfl, rfl, rfl, by
  funext k'
  exact if_neg (fun z => hn (by rw [z.1, z.2.1]; exact hs)), rfl⟩⟩
theorem FX.nw (h : FX S σ τ) : Nw S σ τ := ⟨h.2.2.2.2.1, fun t n hn => ⟨by rw [h.2.2.2.1], (h.2.2.2.2.2 t n hn).1, (h.2.2.2.2.2 t n hn).2, by rw [h.1], by rw [h.2.1], by rw [h.2.2.1]⟩⟩
theorem Nw.I {t n : Nat} (h : Nw S σ τ) (hn : ¬ S t n) : τ.I t n = σ.I t n := (h.2 t n hn).2.1
theorem Nw.J {t n : Nat} (h : Nw S σ τ) (hn : ¬ S t n) : τ.J t n = σ.J t n := (h.2 t n hn).2.2.1
theorem Nw.F {t n : Nat} (h : Nw S σ τ) (hn : ¬ S t n) : τ.F t n = σ.F t n := (h.2 t n hn).2.2.2.1
theorem Nw.P {t n : Nat} (h : Nw S σ τ) (hn : ¬ S t n) : τ.P t n = σ.P t n := (h.2 t n hn).2.2.2.2.1
theorem Nw.al {t n : Nat} (h : Nw S σ τ) (hn : ¬ S t n) : τ.al t n = σ.al t n := (h.2 t n hn).1
end Nw0
section In0
variable {σ : Hp} {i j : Nat}
def lnS (j : Nat) (t n : Nat) : Prop := (t = 3 ∨ t = 30 ∨ t = 31 ∨ t = 32) ∧ n = j
theorem R_X3init (h30 : σ.al 30 j = false) (h31 : σ.al 31 j = false) (h32 : σ.al 32 j = false) : Cv m_X3_init 1 3 18 [vR (some (3, j))] σ none (fun τ => Nw (lnS j) σ τ ∧ τ.al 3 j = σ.al 3 j ∧ (τ.al 30 j = true ∧ τ.al 31 j = true ∧ τ.al 32 j = true) ∧ τ.F 3 j 5 = some (30, j) ∧ τ.F 3 j 6 = some (31, j) ∧ τ.F 3 j 7 = some (32, j)) := by
  show V _ 1 3 18 0 [some (vR (some (3, j)))] [] σ _
  refine V_aldn0 a_X3_init_0 ?_
  refine V_objInit a_X3_init_1 oi_X3_3 oi_i oi_c (by omega) (by exact Nat.le_of_ble_eq_true rfl) ?_
  refine V_aldn0 a_X3_init_4 ?_
  refine V_bipush a_X3_init_5 (by decide) ?_
  refine V_newA a_X3_init_7 (t := 30) (i := j) rfl rfl (by decide) rfl arc_int h30 ?_
  refine V_putF a_X3_init_9 f_X3_9 rfl rfl rfl (by exact Nat.le_of_ble_eq_true rfl) ?_
  refine V_aldn0 a_X3_init_12 ?_
  refine V_bipush a_X3_init_13 (by decide) ?_
  refine V_newA a_X3_init_15 (t := 31) (i := j) rfl rfl (by decide) rfl arc_int (by simp [al_new, al_setF, h31]) ?_
  refine V_putF a_X3_init_17 f_X3_15 rfl rfl rfl (by exact Nat.le_of_ble_eq_true rfl) ?_
  refine V_aldn0 a_X3_init_20 ?_
  refine V_bipush a_X3_init_21 (by decide) ?_
  refine V_newA a_X3_init_23 (t := 32) (i := j) rfl rfl (by decide) rfl arc_int (by simp [al_new, al_setF, h32]) ?_
  refine V_putF a_X3_init_25 f_X3_18 rfl rfl rfl (by exact Nat.le_of_ble_eq_true rfl) ?_
  exact V_ret a_X3_init_28 (⟨rfl, (((((Nw.new ⟨by decide, rfl⟩).trans (Nw.setF ⟨by decide, rfl⟩)).trans (Nw.new ⟨by decide, rfl⟩)).trans (Nw.setF ⟨by decide, rfl⟩)).trans (Nw.new ⟨by decide, rfl⟩)).trans (Nw.setF ⟨by decide, rfl⟩), by simp [al_new, al_setF], ⟨by simp [al_new, al_setF], by simp [al_new, al_setF], by simp [al_new, al_setF]⟩, by simp [F_new, F_setF], by simp [F_new, F_setF], by simp [F_new, F_setF]⟩)
end In0

