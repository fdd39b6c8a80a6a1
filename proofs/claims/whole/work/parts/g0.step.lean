/-! The law's calls: what a call of the class and the same call of the model do together. -/
theorem i_lM (a : Int) : (i32 a).toInt64 = i64 (a.bmod (2 ^ 32)) := by
  apply Int64.toInt_inj.mp
  have h := Int.bmod_lt (x := a) (m := 2 ^ 32) (by decide)
  have h2 := Int.le_bmod (x := a) (m := 2 ^ 32) (by decide)
  rw [Int32.toInt_toInt64, n64 (by omega) (by omega)]
  exact Int32.toInt_ofInt
section Lg
variable {M : MI} {n b bs pc nx : Nat} {ls : List (Option AV)} {st : List AV} {σ : Hp} {Q : Res → Hp → Prop}
theorem V_i2lM {x : Int} (h : Ix M pc .i2l 1 nx) (k : V M n b bs nx ls (vL (x.bmod (2 ^ 32)) :: st) σ Q) : V M n b bs pc ls (vI x :: st) σ Q := by
  obtain ⟨hd, rfl⟩ := h
  exact V_pure k (fun ho => okS_c trivial (okS_t ho)) (fun ad => fun hx hb ho hts hl w => lv_i2l hx hb hd (i_lM x) w)
theorem V_forget {ls' : List (Option AV)} (hs : ∀ (i : Nat) (v : AV), ls'[i]? = some (some v) → ls[i]? = some (some v)) (h : V M n b bs pc ls' st σ Q) : V M n b bs pc ls st σ Q := by
  intro g ad p l e R s m args below meth c H locs cells slots lsA ad0 σ0 hp
  obtain ⟨F, rm, hS, hr, ⟨hol, hos⟩, hl, he⟩ := hp
  refine h g ad p l e R s m args below meth c H locs cells slots lsA ad0 σ0 ⟨F, rm, hS, hr, ⟨fun v hv => hol v ?_, hos⟩, ⟨hl.1, hl.2.1, fun i v hv => hl.2.2 i v (hs i v hv)⟩, he⟩
  obtain ⟨i, hi⟩ := List.mem_iff_getElem?.mp hv
  exact List.mem_iff_getElem?.mpr ⟨i, hs i v hi⟩
theorem V_fg3 {a0 a1 a2 a3 a4 a5 x y z : Option AV} (h : V M n b bs pc [a0, a1, a2, a3, a4, a5, none, none, none] st σ Q) : V M n b bs pc [a0, a1, a2, a3, a4, a5, x, y, z] st σ Q := by
  refine V_forget (fun i v hv => ?_) h
  match i, hv with
  | 0, hv => exact hv
  | 1, hv => exact hv
  | 2, hv => exact hv
  | 3, hv => exact hv
  | 4, hv => exact hv
  | 5, hv => exact hv
  | 6, hv => cases hv
  | 7, hv => cases hv
  | 8, hv => cases hv
  | i + 9, hv => cases hv
theorem V_sldE {x v : Int} (h : Ix M pc .iaload 1 nx) (hx : 0 ≤ x ∧ x < (σ.sl : Int)) (hs : σ.sl < 2147483648) (hv : σ.I 96 0 x = v) (kk : V M n b bs nx ls (vI v :: st) σ Q) : V M n b bs pc ls (vI x :: vR (some (96, 0)) :: st) σ Q := by
  subst hv
  exact V_sld h hx hs kk
theorem V_lcS {x : Int} {tgt mid : Nat} (h0 : Ix M pc .lcmp 1 mid) (h : Ij M mid (.ifCond .eq) 3 nx tgt) (k : V M n b bs tgt ls st σ Q) : V M n b bs pc ls (vL x :: vL x :: st) σ Q := by
  refine V_lcmpG h0 ?_
  rw [c64_self]
  exact V_if_eq_t h (by decide) rfl k
end Lg
section Lw
variable {D D' : Int} {σ τ ρ : Hp} {s s' : Lsv} {S : Nat → Nat → Prop} {L : List Nat} {K : List Int}
/-- the model's own part of the heap -/
def mlS (t _n : Nat) : Prop := t = 11 ∨ (50 ≤ t ∧ t ≤ 61)
/-- the class's part and the law's rows -/
def o7S (t n : Nat) : Prop := ocS t n ∨ t = 70 ∨ t = 71
/-- the model's whole state -/
def MIv (D : Int) (σ : Hp) (s : Lsv) : Prop := Md D σ s.1 ∧ PastOk σ s.2.2.2.1 s.2.2.2.2.1 ∧ ((∀ k, σ.I 55 0 k % 256 = s.2.1 k) ∧ σ.I 11 0 8 = s.2.2.1) ∧ (σ.I 11 0 12 = s.2.2.2.2.2.1 ∧ σ.I 11 0 13 = s.2.2.2.2.2.2.1) ∧ PgOk σ s.2.2.2.2.2.2.2
theorem FK.nw (f : FK L K σ τ) (hL : ∀ t ∈ L, 50 ≤ t ∧ t ≤ 61) : Nw mlS σ τ := f.1.nw.sub (fun t n z => by
  rcases List.mem_cons.mp z with e | e
  · exact Or.inl e
  · exact Or.inr (hL t e))
theorem CIv.out (h : CIv D σ s) (f : Nw S σ τ) (hW : WF τ) (hS : ∀ t n, S t n → ¬ ocS t n) : CIv D τ s := by
  obtain ⟨c1, c2, c3, c4, c5, c6⟩ := h
  have no : ∀ t n, ocS t n → ¬ S t n := fun t n z y => hS t n y z
  have nw : ∀ i t n, nwS i t n → ¬ S t n := fun i t n z => no t n (by unfold nwS pS at z; unfold ocS; omega)
  have e9 : τ.I 9 0 = σ.I 9 0 := f.I (no 9 0 (by unfold ocS; omega))
  have e20 : τ.I 20 0 = σ.I 20 0 := f.I (no 20 0 (by unfold ocS; omega))
  have e7 : τ.I 7 0 = σ.I 7 0 := f.I (no 7 0 (by unfold ocS; omega))
  have e8 : τ.I 8 0 = σ.I 8 0 := f.I (no 8 0 (by unfold ocS; omega))
  have e35 : τ.I 35 0 = σ.I 35 0 := f.I (no 35 0 (by unfold ocS; omega))
  refine ⟨c1.nw f hW (fun t n z => nw 0 t n z), c2.cg (f.P (no 47 1 (by unfold ocS; omega))), ⟨hW, fun k k0 k1 => by rw [e20]; exact c3.2.1 k k0 k1, by rw [e9]; exact c3.2.2.1, c3.2.2.2⟩, c4.nw f hW (no 2 0 (by unfold ocS; omega)) (no 34 0 (by unfold ocS; omega)) (fun t n x _ z => nw _ t n z), by rw [e7]; exact c5, ?_⟩
  unfold Pg
  rw [e8, e35]
  exact c6
theorem CIv.wf (h : CIv D σ s) : WF σ := h.1.2.1
theorem CIv.inv (h : CIv D σ s) : D ≤ 20000000 ∧ Inv D s.1 := ⟨h.1.1, h.1.2.2.2.2⟩
theorem CIv.len (h : CIv D σ s) : 0 ≤ s.2.2.1 ∧ s.2.2.1 ≤ 600 := h.2.2.1.2.2.2
theorem CIv.eq9 {A' : St} (h : CIv D σ s) (he : Eq9 s.1 A') : CIv D σ (A', s.2) := ⟨h.1.eq9 he, h.2⟩
theorem MIv.out (h : MIv D σ s) (f : Nw S σ τ) (hW : WF τ) (hS : ∀ t n, S t n → ¬ mlS t n) : MIv D τ s := by
  obtain ⟨⟨m1, m2, m3, m4⟩, p, t1, t2, g⟩ := h
  have no : ∀ t n, mlS t n → ¬ S t n := fun t n z y => hS t n y z
  have e11 : τ.I 11 0 = σ.I 11 0 := f.I (no 11 0 (by unfold mlS; omega))
  have e55 : τ.I 55 0 = σ.I 55 0 := f.I (no 55 0 (by unfold mlS; omega))
  have e61 : τ.I 61 0 = σ.I 61 0 := f.I (no 61 0 (by unfold mlS; omega))
  have e50 : τ.J 50 0 = σ.J 50 0 := f.J (no 50 0 (by unfold mlS; omega))
  have e54 : τ.J 54 0 = σ.J 54 0 := f.J (no 54 0 (by unfold mlS; omega))
  refine ⟨⟨m1, hW, by rw [e50]; exact m3, m4⟩, ?_, ?_, ?_, ?_⟩
  · unfold PastOk at p ⊢
    rw [e11, e54]
    exact p
  · rw [e55, e11]
    exact t1
  · rw [e11]
    exact t2
  · unfold PgOk at g ⊢
    rw [e11, e61]
    exact g
theorem MIv.fk {A' : St} {c : Int} {H : Int → St} (h : MIv D σ s) (f : FK L K σ τ) (h55 : 55 ∉ L) (h61 : 61 ∉ L) (hK : (8 : Int) ∉ K ∧ (12 : Int) ∉ K ∧ (13 : Int) ∉ K ∧ (22 : Int) ∉ K) (hm : Md D' τ A') (hp : PastOk τ c H) : MIv D' τ (A', s.2.1, s.2.2.1, c, H, s.2.2.2.2.2) := by
  obtain ⟨-, -, t1, t2, g⟩ := h
  have n55 : 55 ∉ (11 :: L) := fun z => by
    rcases List.mem_cons.mp z with e | e
    · exact absurd e (by decide)
    · exact h55 e
  have n61 : 61 ∉ (11 :: L) := fun z => by
    rcases List.mem_cons.mp z with e | e
    · exact absurd e (by decide)
    · exact h61 e
  refine ⟨hm, hp, ⟨fun k => ?_, ?_⟩, ⟨?_, ?_⟩, ?_⟩
  · rw [f.1.I n55]
    exact t1.1 k
  · rw [f.2 8 hK.1]
    exact t1.2
  · rw [f.2 12 hK.2.1]
    exact t2.1
  · rw [f.2 13 hK.2.2.1]
    exact t2.2
  · unfold PgOk at g ⊢
    rw [f.2 22 hK.2.2.2, f.1.I n61]
    exact g
/-- an answer w where the code is 0, else the exception of that number -/
def rK (Es : List String) (κ : Int) (w : AV) (r : Res) : Prop := (κ = 0 ∧ r = .inl (some w)) ∨ ∃ (j : Nat) (E : String), Es[j]? = some E ∧ κ = (j : Int) + 1 ∧ r = .inr E
def Cq (mC : MI) (as : List AV) (σ : Hp) (Es : List String) (κ : Int) (w : AV) (D' : Int) (s' : Lsv) : Prop := Ct mC 15 61 419 (vR (some (10, 0)) :: as) σ (fun r τ => rK Es κ w r ∧ QCv D' s' σ τ)
def Mp (τ : Hp) (κ D' : Int) (s' : Lsv) (ρ : Hp) : Prop := Nw mlS τ ρ ∧ (∃ A', Eq9 s'.1 A' ∧ MIv D' ρ (A', s'.2)) ∧ ρ.I 11 0 6 = κ
def Mq (mM : MI) (as : List AV) (τ : Hp) (κ : Int) (w : AV) (D' : Int) (s' : Lsv) : Prop := Cv mM 15 0 0 (vR (some (11, 0)) :: as) τ (some w) (Mp τ κ D' s')
/-- the class's call and the model's, one after the other -/
def Lstp (D : Int) (σ : Hp) (s : Lsv) (mC mM : MI) (Es : List String) (as : List AV) (ok : AV → Prop) : Prop := ∃ (κ : Int) (w : AV) (D' : Int) (s' : Lsv), (0 ≤ κ ∧ κ ≤ 3) ∧ ok w ∧ D' + 67 * s'.2.2.1 ≤ D + 67 * s.2.2.1 + 1400 ∧ Cq mC as σ Es κ w D' s' ∧ ∀ τ, Nw o7S σ τ → CIv D' τ s' → MIv D τ s → Mq mM as τ κ w D' s'
def okI (w : AV) : Prop := ∃ v : Int, w = vI v
def okJ (w : AV) : Prop := ∃ v : Int, w = vL v
variable {mC mM : MI} {as : List AV} {Es : List String} {κ : Int} {w : AV} {ok : AV → Prop} {n b bs : Nat}
theorem Lstp.mk' (hw : ok w) (hc : Cq mC as σ Es κ w D' s') (hm : ∀ τ, Nw o7S σ τ → CIv D' τ s' → MIv D τ s → Mq mM as τ κ w D' s') (hk : 0 ≤ κ ∧ κ ≤ 3 := by decide) (hp : D' + 67 * s'.2.2.1 ≤ D + 67 * s.2.2.1 + 1400 := by omega) : Lstp D σ s mC mM Es as ok := ⟨κ, w, D', s', hk, hw, hp, hc, hm⟩
theorem Cq.r (h : CIv D σ s) (hc : Rt mC n b bs (vR (some (10, 0)) :: as) σ (some w) σ) (hn : n ≤ 15 := by decide) (hb : b ≤ 61 := by decide) (hs : bs ≤ 419 := by decide) : Cq mC as σ Es 0 w D s := V_low (V_mono (fun r τ hq => ⟨Or.inl ⟨rfl, hq.1⟩, by rw [hq.2]; exact h.rfl⟩) hc) hb hs hn
theorem Cq.c (hc : Cv mC n b bs (vR (some (10, 0)) :: as) σ (some w) (QCv D' s' σ)) (hn : n ≤ 15 := by decide) (hb : b ≤ 61 := by decide) (hs : bs ≤ 419 := by decide) : Cq mC as σ Es 0 w D' s' := V_low (V_mono (fun r τ hq => ⟨Or.inl ⟨rfl, hq.1⟩, hq.2⟩) hc) hb hs hn
theorem Cq.x {E : String} (j : Nat) (hc : Txw mC n b bs (vR (some (10, 0)) :: as) σ E (QCv D' s' σ)) (hE : Es[j]? = some E) (hk : κ = (j : Int) + 1) (hn : n ≤ 15 := by decide) (hb : b ≤ 61 := by decide) (hs : bs ≤ 419 := by decide) : Cq mC as σ Es κ w D' s' := V_low (V_mono (fun r τ hq => ⟨Or.inr ⟨j, E, hE, hk, hq.1⟩, hq.2⟩) hc) hb hs hn
theorem Cq.t {E : String} (j : Nat) (h : CIv D σ s) (hc : Tr mC n b bs (vR (some (10, 0)) :: as) σ E σ) (hE : Es[j]? = some E) (hk : κ = (j : Int) + 1) (hn : n ≤ 15 := by decide) (hb : b ≤ 61 := by decide) (hs : bs ≤ 419 := by decide) : Cq mC as σ Es κ w D s := V_low (V_mono (fun r τ hq => ⟨Or.inr ⟨j, E, hE, hk, hq.1⟩, by rw [hq.2]; exact h.rfl⟩) hc) hb hs hn
theorem Cq.k3 (h : CIv D σ s) (hc : Tr mC n b bs (vR (some (10, 0)) :: as) σ (xE κ) σ) (hk : κ = 1 ∨ κ = 2 ∨ κ = 3) (hn : n ≤ 15 := by decide) (hb : b ≤ 61 := by decide) (hs : bs ≤ 419 := by decide) : Cq mC as σ [xIOB, xIAE, xISE] κ w D s := by
  rcases hk with rfl | rfl | rfl
  · exact Cq.t 0 h hc rfl rfl hn hb hs
  · exact Cq.t 1 h hc rfl rfl hn hb hs
  · exact Cq.t 2 h hc rfl rfl hn hb hs
theorem Cq.k2 (h : CIv D σ s) (hc : Tr mC n b bs (vR (some (10, 0)) :: as) σ (xE κ) σ) (hk : κ = 1 ∨ κ = 2) {Er : List String} (hn : n ≤ 15 := by decide) (hb : b ≤ 61 := by decide) (hs : bs ≤ 419 := by decide) : Cq mC as σ (xIOB :: xIAE :: Er) κ w D s := by
  rcases hk with rfl | rfl
  · exact Cq.t 0 h hc rfl rfl hn hb hs
  · exact Cq.t 1 h hc rfl rfl hn hb hs
theorem MIv.th (m : MIv D τ s) : Mp τ κ D s (τ.th κ) := by
  have f : FK [] [6] τ (τ.th κ) := FK.th (by decide)
  refine ⟨f.nw (fun t z => nomatch z), ⟨s.1, Eq9.refl _, ?_⟩, setI_I⟩
  exact m.fk f (by decide) (by decide) (by decide) m.1.setI (m.2.1.fk f (by decide) (by decide))
theorem Mq.r (m : MIv D τ s) (hm : Rt mM n 0 0 (vR (some (11, 0)) :: as) τ (some w) (τ.th κ)) (hn : n ≤ 15 := by decide) : Mq mM as τ κ w D s := V_low (hm.cv m.th) (Nat.le_refl _) (Nat.le_refl _) hn
/-- an answer that leaves the state as it was, but for what it scratched -/
theorem Mq.e {Φ : Hp → Prop} (m : MIv D τ s) (hm : Cv mM n 0 0 (vR (some (11, 0)) :: as) τ (some w) Φ) (hΦ : ∀ ρ, Φ ρ → FK L K τ ρ ∧ ρ.I 11 0 6 = κ ∧ ∃ A', Md D ρ A' ∧ Eq9 s.1 A') (hL : ∀ t ∈ L, (50 ≤ t ∧ t ≤ 61) ∧ t ≠ 54 ∧ t ≠ 55 ∧ t ≠ 61 := by decide) (hK : (8 : Int) ∉ K ∧ (12 : Int) ∉ K ∧ (13 : Int) ∉ K ∧ (22 : Int) ∉ K := by decide) (h5 : (5 : Int) ∉ K := by decide) (hn : n ≤ 15 := by decide) : Mq mM as τ κ w D s := V_low (hm.mono (fun ρ hq => by
  obtain ⟨f, e6, A', md, e9⟩ := hΦ ρ hq
  exact ⟨f.nw (fun t z => (hL t z).1), ⟨A', e9, m.fk f (fun z => (hL _ z).2.2.1 rfl) (fun z => (hL _ z).2.2.2 rfl) hK md (m.2.1.fk f h5 (fun z => (hL _ z).2.1 rfl))⟩, e6⟩)) (Nat.le_refl _) (Nat.le_refl _) hn
/-- a change -/
theorem Mq.c {A' : St} {c : Int} {H : Int → St} (m : MIv D τ s) (hI : D' ≤ 20000000 ∧ Inv D' A') (hm : ∃ ρ, FK L K τ ρ ∧ ρ.I 11 0 6 = 0 ∧ ρ.J 50 0 = A' ∧ PastOk ρ c H ∧ Rt mM n 0 0 (vR (some (11, 0)) :: as) τ (some w) ρ) (hL : ∀ t ∈ L, (50 ≤ t ∧ t ≤ 61) ∧ t ≠ 55 ∧ t ≠ 61 := by decide) (hK : (8 : Int) ∉ K ∧ (12 : Int) ∉ K ∧ (13 : Int) ∉ K ∧ (22 : Int) ∉ K := by decide) (hn : n ≤ 15 := by decide) : Mq mM as τ 0 w D' (A', s.2.1, s.2.2.1, c, H, s.2.2.2.2.2) := by
  obtain ⟨ρ, f, e6, e5, hp, hr⟩ := hm
  have md : Md D' ρ A' := ⟨hI.1, f.1.wf m.1.2.1, e5, hI.2⟩
  exact V_low (hr.cv ⟨f.nw (fun t z => (hL t z).1), ⟨A', Eq9.refl _, m.fk f (fun z => (hL _ z).2.1 rfl) (fun z => (hL _ z).2.2 rfl) hK md hp⟩, e6⟩) (Nat.le_refl _) (Nat.le_refl _) hn
end Lw

