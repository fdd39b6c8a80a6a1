/-! The law's loop: one case a call. -/
section Hl
variable {M M2 : MI} {n b bs n2 b2 bs2 pc nx idx tgt : Nat} {ls : List (Option AV)} {st rest : List AV} {σ : Hp} {Q : Res → Hp → Prop} {Φ : Hp → Prop}
theorem V_w2PR {x1 x2 x : AV} (h : Ix M pc (.invokestatic idx) 3 nx) (hc : CW M idx M2 2) (hct : Cv M2 n2 b2 bs2 [x1, x2] σ (some x) Φ) (kk : ∀ σ', Φ σ' → V M n b bs nx ls (x :: rest) σ' Q) (hn : n2 + 1 ≤ n := by first | exact Nat.le_of_ble_eq_true rfl | omega) (hcat : cats rest ≤ 8 := by exact Nat.le_of_ble_eq_true rfl) (hM : M.hh = [] := by rfl) (hfit : (ent0 ([x1, x2] : List AV)).length ≤ M2.mL := by exact Nat.le_of_ble_eq_true rfl) : V M n (b + b2) (bs + bs2) pc ls (x2 :: x1 :: rest) σ Q := V_w2Q h hc hct (fun v τ hq => by obtain ⟨e1, hp⟩ := hq; cases e1; exact kk τ hp) (fun E τ hq => by cases hq.1) hn hcat hM hfit
theorem V_w3PR {x1 x2 x3 x : AV} (h : Ix M pc (.invokestatic idx) 3 nx) (hc : CW M idx M2 3) (hct : Cv M2 n2 b2 bs2 [x1, x2, x3] σ (some x) Φ) (kk : ∀ σ', Φ σ' → V M n b bs nx ls (x :: rest) σ' Q) (hn : n2 + 1 ≤ n := by first | exact Nat.le_of_ble_eq_true rfl | omega) (hcat : cats rest ≤ 8 := by exact Nat.le_of_ble_eq_true rfl) (hM : M.hh = [] := by rfl) (hfit : (ent0 ([x1, x2, x3] : List AV)).length ≤ M2.mL := by exact Nat.le_of_ble_eq_true rfl) : V M n (b + b2) (bs + bs2) pc ls (x3 :: x2 :: x1 :: rest) σ Q := V_w3Q h hc hct (fun v τ hq => by obtain ⟨e1, hp⟩ := hq; cases e1; exact kk τ hp) (fun E τ hq => by cases hq.1) hn hcat hM hfit
theorem V_w4PR {x1 x2 x3 x4 x : AV} (h : Ix M pc (.invokestatic idx) 3 nx) (hc : CW M idx M2 4) (hct : Cv M2 n2 b2 bs2 [x1, x2, x3, x4] σ (some x) Φ) (kk : ∀ σ', Φ σ' → V M n b bs nx ls (x :: rest) σ' Q) (hn : n2 + 1 ≤ n := by first | exact Nat.le_of_ble_eq_true rfl | omega) (hcat : cats rest ≤ 8 := by exact Nat.le_of_ble_eq_true rfl) (hM : M.hh = [] := by rfl) (hfit : (ent0 ([x1, x2, x3, x4] : List AV)).length ≤ M2.mL := by exact Nat.le_of_ble_eq_true rfl) : V M n (b + b2) (bs + bs2) pc ls (x4 :: x3 :: x2 :: x1 :: rest) σ Q := V_w4Q h hc hct (fun v τ hq => by obtain ⟨e1, hp⟩ := hq; cases e1; exact kk τ hp) (fun E τ hq => by cases hq.1) hn hcat hM hfit
theorem V_w5PR {x1 x2 x3 x4 x5 x : AV} (h : Ix M pc (.invokestatic idx) 3 nx) (hc : CW M idx M2 5) (hct : Cv M2 n2 b2 bs2 [x1, x2, x3, x4, x5] σ (some x) Φ) (kk : ∀ σ', Φ σ' → V M n b bs nx ls (x :: rest) σ' Q) (hn : n2 + 1 ≤ n := by first | exact Nat.le_of_ble_eq_true rfl | omega) (hcat : cats rest ≤ 8 := by exact Nat.le_of_ble_eq_true rfl) (hM : M.hh = [] := by rfl) (hfit : (ent0 ([x1, x2, x3, x4, x5] : List AV)).length ≤ M2.mL := by exact Nat.le_of_ble_eq_true rfl) : V M n (b + b2) (bs + bs2) pc ls (x5 :: x4 :: x3 :: x2 :: x1 :: rest) σ Q := V_w5Q h hc hct (fun v τ hq => by obtain ⟨e1, hp⟩ := hq; cases e1; exact kk τ hp) (fun E τ hq => by cases hq.1) hn hcat hM hfit
theorem V_w6PR {x1 x2 x3 x4 x5 x6 x : AV} (h : Ix M pc (.invokestatic idx) 3 nx) (hc : CW M idx M2 6) (hct : Cv M2 n2 b2 bs2 [x1, x2, x3, x4, x5, x6] σ (some x) Φ) (kk : ∀ σ', Φ σ' → V M n b bs nx ls (x :: rest) σ' Q) (hn : n2 + 1 ≤ n := by first | exact Nat.le_of_ble_eq_true rfl | omega) (hcat : cats rest ≤ 8 := by exact Nat.le_of_ble_eq_true rfl) (hM : M.hh = [] := by rfl) (hfit : (ent0 ([x1, x2, x3, x4, x5, x6] : List AV)).length ≤ M2.mL := by exact Nat.le_of_ble_eq_true rfl) : V M n (b + b2) (bs + bs2) pc ls (x6 :: x5 :: x4 :: x3 :: x2 :: x1 :: rest) σ Q := V_w6Q h hc hct (fun v τ hq => by obtain ⟨e1, hp⟩ := hq; cases e1; exact kk τ hp) (fun E τ hq => by cases hq.1) hn hcat hM hfit
theorem V_w7PR {x1 x2 x3 x4 x5 x6 x7 x : AV} (h : Ix M pc (.invokestatic idx) 3 nx) (hc : CW M idx M2 7) (hct : Cv M2 n2 b2 bs2 [x1, x2, x3, x4, x5, x6, x7] σ (some x) Φ) (kk : ∀ σ', Φ σ' → V M n b bs nx ls (x :: rest) σ' Q) (hn : n2 + 1 ≤ n := by first | exact Nat.le_of_ble_eq_true rfl | omega) (hcat : cats rest ≤ 8 := by exact Nat.le_of_ble_eq_true rfl) (hM : M.hh = [] := by rfl) (hfit : (ent0 ([x1, x2, x3, x4, x5, x6, x7] : List AV)).length ≤ M2.mL := by exact Nat.le_of_ble_eq_true rfl) : V M n (b + b2) (bs + bs2) pc ls (x7 :: x6 :: x5 :: x4 :: x3 :: x2 :: x1 :: rest) σ Q := V_w7Q h hc hct (fun v τ hq => by obtain ⟨e1, hp⟩ := hq; cases e1; exact kk τ hp) (fun E τ hq => by cases hq.1) hn hcat hM hfit
theorem V_icS {x : Int} (h : Ij M pc (.if_icmp .eq) 3 nx tgt) (k : V M n b bs tgt ls st σ Q) : V M n b bs pc ls (vI x :: vI x :: st) σ Q := by
  obtain ⟨off, hd, rfl, ht⟩ := h
  exact V_two (tt := True) (np := 0) (fun _ => k) (fun z => absurd trivial z) (fun ho => okS_t (okS_t ho)) (fun ad => fun hx hb kt kf => lv_icmp_eq hx hb hd ht (fun _ => kt trivial) (fun q => absurd rfl q))
theorem R_thrE {c : Int} (h : σ.I 11 0 6 = c) : Rt m_X11_thrown 0 0 0 [vR (some (11, 0))] σ (some (vI c)) σ := by
  subst h
  exact R_thrown
theorem Cq.cv {mC : MI} {as : List AV} {κ D' : Int} {w : AV} {s' : Lsv} (h : Cq mC as σ [] κ w D' s') : Cv mC 15 61 419 (vR (some (10, 0)) :: as) σ (some w) (QCv D' s' σ) := V_mono (fun r τ hq => by
  obtain ⟨hr, hc⟩ := hq
  rcases hr with ⟨-, e⟩ | ⟨j, E, hj, -, -⟩
  · exact ⟨e, hc⟩
  · cases hj) h
end Hl
/-- how the law goes on behind a call -/
def Kq (D : Int) (σ : Hp) (s : Lsv) (i : Int) (b bs : Nat) (Q : Res → Hp → Prop) : Prop := ∀ (τ : Hp) (D' : Int) (s' : Lsv), CIv D' τ s' → MIv D' τ s' → D' + 67 * s'.2.2.1 ≤ D + 67 * s.2.2.1 + 1400 → τ.sl = σ.sl → τ.I 96 0 = σ.I 96 0 → V m_L_law 17 b bs 3585 [some (vR (some (96, 0))), some (vR (some (10, 0))), some (vR (some (11, 0))), some (vR (some (70, 0))), some (vR (some (71, 0))), some (vI i), none, none, none] [] τ Q
theorem no_ml : ∀ t n, mlS t n → ¬ ocS t n := fun t n z => by
  unfold mlS at z
  unfold ocS
  omega
theorem no_o7 : ∀ t n, o7S t n → ¬ mlS t n := fun t n z => by
  unfold o7S ocS at z
  unfold mlS
  omega
theorem n96_o7 : ¬ o7S 96 0 := by
  unfold o7S ocS
  omega
theorem n96_ml : ¬ mlS 96 0 := by
  unfold mlS
  omega
theorem n70_ml : ¬ mlS 70 0 := by
  unfold mlS
  omega
theorem n71_ml : ¬ mlS 71 0 := by
  unfold mlS
  omega
theorem Nw.B {S : Nat → Nat → Prop} {σ τ : Hp} {t n : Nat} (h : Nw S σ τ) (hn : ¬ S t n) : τ.B t n = σ.B t n := (h.2 t n hn).2.2.2.2.2

