/-- a number's digits -/
def dgF : Nat → Int → List Int
  | 0, v => [48 + v]
  | n + 1, v => if 9 < v then dgF n (v / 10) ++ [48 + v % 10] else [48 + v]
theorem dgF_len : ∀ (n m : Nat) (v : Int), 0 ≤ v → v < 10 ^ (m + 1) → (dgF n v).length ≤ m + 1 := by
  intro n
  induction n with
  | zero => intro m v _ _; exact Nat.succ_le_succ (Nat.zero_le m)
  | succ n ih =>
    intro m v h0 h1
    show (if 9 < v then dgF n (v / 10) ++ [48 + v % 10] else [48 + v]).length ≤ m + 1
    by_cases q : 9 < v
    · rw [if_pos q, List.length_append]
      cases m with
      | zero =>
        rw [show (10 : Int) ^ (0 + 1) = 10 from rfl] at h1
        omega
      | succ m =>
        rw [Int.pow_succ] at h1
        have := ih m (v / 10) (by omega) (by omega)
        show _ + 1 ≤ m + 1 + 1
        omega
    · rw [if_neg q]
      exact Nat.succ_le_succ (Nat.zero_le m)
def dg (v : Int) : List Int := dgF 9 v
theorem dg_8 {v : Int} (h0 : 0 ≤ v) (h1 : v ≤ 20000000) : (dg v).length ≤ 8 := dgF_len 9 7 v h0 (by rw [show (10 : Int) ^ (7 + 1) = 100000000 from rfl]; omega)
theorem dg_6 {v : Int} (h0 : 0 ≤ v) (h1 : v ≤ 599994) : (dg v).length ≤ 6 := dgF_len 9 5 v h0 (by rw [show (10 : Int) ^ (5 + 1) = 1000000 from rfl]; omega)
theorem dg_5 {v : Int} (h0 : 0 ≤ v) (h1 : v ≤ 99999) : (dg v).length ≤ 5 := dgF_len 9 4 v h0 (by rw [show (10 : Int) ^ (4 + 1) = 100000 from rfl]; omega)
theorem dg_2 {v : Int} (h0 : 0 ≤ v) (h1 : v ≤ 12) : (dg v).length ≤ 2 := dgF_len 9 1 v h0 (by rw [show (10 : Int) ^ (1 + 1) = 100 from rfl]; omega)
theorem dg_1 {v : Int} (h0 : 0 ≤ v) (h1 : v ≤ 9) : (dg v).length ≤ 1 := dgF_len 9 0 v h0 (by rw [show (10 : Int) ^ (0 + 1) = 10 from rfl]; omega)
/-- a word's bytes, as far as i -/
def wP (j i : Nat) : List Int := (List.range i).map (fun k : Nat => schr j (k : Int))
def wL (j : Nat) : List Int := wP j (slen j)
theorem wP_s {j i : Nat} : wP j (i + 1) = wP j i ++ [schr j (i : Int)] := by
  unfold wP
  rw [List.range_succ, List.map_append]
  rfl
theorem wP_len {j i : Nat} : (wP j i).length = i := by
  unfold wP
  rw [List.length_map, List.length_range]
/-- lists one behind another -/
def cat (f : Int → List Int) (n : Int) : List Int := itr (fun k a => a ++ f k) n []
theorem cat_s {f : Int → List Int} {n : Int} (h : 0 ≤ n) : cat f (n + 1) = cat f n ++ f n := itr_s _ h _
theorem cat_len {f : Int → List Int} {n : Int} {m : Nat} (h : 0 ≤ n) (hf : ∀ k, 0 ≤ k → k < n → (f k).length ≤ m) : ((cat f n).length : Int) ≤ n * m := by
  refine itr_ind (f := fun k a => a ++ f k) (a := ([] : List Int)) (fun k a => (a.length : Int) ≤ k * m) (by show ((0 : Nat) : Int) ≤ 0 * (m : Int); omega) h (fun k a k0 k1 ha => ?_)
  show ((a ++ f k).length : Int) ≤ (k + 1) * m
  have := hf k k0 k1
  rw [List.length_append, Int.add_mul]
  omega
def slL (A : St) (k l : Int) : List Int := if A (83 + 23 * k + 5 + l) = 0 then [] else [32] ++ dg l ++ [58] ++ dg (A (83 + 23 * k + 5 + l)) ++ (if A (83 + 23 * k + 11 + l) = 0 then [] else [45] ++ dg (A (83 + 23 * k + 11 + l)))
def lnL (A : St) (k : Int) : List Int := wL 13 ++ dg (A (83 + 23 * k + 0)) ++ wL 14 ++ dg (quanA A k) ++ cat (slL A k) (A 1) ++ [10]
def rpL (A : St) : List Int := wL 11 ++ dg (A 6) ++ wL 12 ++ dg (A 7) ++ [10] ++ cat (lnL A) (A 7)
abbrev Hp.pg (σ : Hp) (n : Int) (L : List Int) : Hp := (σ.rI 61 0 (mixO n (fun j => L.getD j.toNat 0) (σ.I 61 0) L.length)).setI 11 0 22 (n + L.length)
section Rp
variable {D : Int} {σ : Hp} {A : St}
theorem pg_22 {n : Int} {L : List Int} : (σ.pg n L).I 11 0 22 = n + L.length := setI_I
theorem pg_61 {n : Int} {L : List Int} : (σ.pg n L).I 61 0 = mixO n (fun j => L.getD j.toNat 0) (σ.I 61 0) L.length := by
  show ((σ.rI 61 0 (mixO n (fun j => L.getD j.toNat 0) (σ.I 61 0) L.length)).setI 11 0 22 (n + L.length)).I 61 0 = _
  rw [setI_t (by decide)]
  exact rI_I
theorem FK.pg {n : Int} {L : List Int} : FK [61] [22] σ (σ.pg n L) := ⟨(Fm.rI (by decide)).trans (Fm.setI (by decide)), fun j hj => by
  rw [show (σ.pg n L).I 11 0 j = (σ.rI 61 0 (mixO n (fun j => L.getD j.toNat 0) (σ.I 61 0) L.length)).I 11 0 j from setI_ne (fun z => hj (by rw [z]; decide)), rI_ne (by decide)]⟩
theorem setI_self {t i : Nat} {k v : Int} (h : σ.I t i k = v) : σ.setI t i k v = σ := by
  rw [setI_row]
  have e : upI (σ.I t i) k v = σ.I t i := by
    funext j
    unfold upI
    by_cases q : j = k
    · rw [if_pos q, q, h]
    · rw [if_neg q]
  rw [e, rI_self]
theorem setI_rI {t i t' i' : Nat} {k v : Int} {g : Int → Int} (h : t ≠ t') : (σ.setI t i k v).rI t' i' g = (σ.rI t' i' g).setI t i k v := by
  show Hp.wI (Hp.wI σ _) (rowR (u3 σ.I t i k v) t' i' g) = Hp.wI (Hp.wI σ _) (u3 (rowR σ.I t' i' g) t i k v)
  have e : rowR (u3 σ.I t i k v) t' i' g = u3 (rowR σ.I t' i' g) t i k v := by
    funext t2 i2 k2
    unfold rowR u3
    dsimp only
    by_cases h1 : t2 = t' ∧ i2 = i'
    · rw [if_pos h1, if_pos h1, if_neg (fun z => h (z.1.symm.trans h1.1))]
    · rw [if_neg h1, if_neg h1]
  rw [e]
  rfl
theorem pg_nil {n : Int} (hn : σ.I 11 0 22 = n) : σ.pg n [] = σ := by
  show (σ.rI 61 0 (mixO n (fun j => ([] : List Int).getD j.toNat 0) (σ.I 61 0) 0)).setI 11 0 22 (n + 0) = σ
  rw [mixO_0, rI_self, Int.add_zero, setI_self hn]
theorem pg_app {n : Int} {L1 L2 : List Int} : (σ.pg n L1).pg (n + L1.length) L2 = σ.pg n (L1 ++ L2) := by
  show ((σ.pg n L1).rI 61 0 (mixO (n + L1.length) (fun j => L2.getD j.toNat 0) ((σ.pg n L1).I 61 0) L2.length)).setI 11 0 22 (n + L1.length + L2.length) = (σ.rI 61 0 (mixO n (fun j => (L1 ++ L2).getD j.toNat 0) (σ.I 61 0) ((L1 ++ L2).length))).setI 11 0 22 (n + ((L1 ++ L2).length))
  rw [pg_61]
  show ((((σ.rI 61 0 (mixO n (fun j => L1.getD j.toNat 0) (σ.I 61 0) L1.length)).setI 11 0 22 (n + L1.length)).rI 61 0 _).setI 11 0 22 _) = _
  rw [setI_rI (by decide), rI_rI, setI_setI, List.length_append]
  have e : mixO (n + L1.length) (fun j => L2.getD j.toNat 0) (mixO n (fun j => L1.getD j.toNat 0) (σ.I 61 0) L1.length) L2.length = mixO n (fun j => (L1 ++ L2).getD j.toNat 0) (σ.I 61 0) ((L1.length + L2.length : Nat) : Int) := by
    funext j
    unfold mixO
    by_cases q : n + L1.length ≤ j ∧ j < n + L1.length + L2.length
    · rw [if_pos q, if_pos (by omega)]
      show L2.getD (j - (n + L1.length)).toNat 0 = (L1 ++ L2).getD (j - n).toNat 0
      rw [List.getD_eq_getElem?_getD, List.getD_eq_getElem?_getD, List.getElem?_append_right (by omega), show (j - n).toNat - L1.length = (j - (n + L1.length)).toNat by omega]
    · rw [if_neg q]
      by_cases q2 : n ≤ j ∧ j < n + L1.length
      · rw [if_pos q2, if_pos (by omega)]
        show L1.getD (j - n).toNat 0 = (L1 ++ L2).getD (j - n).toNat 0
        rw [List.getD_eq_getElem?_getD, List.getD_eq_getElem?_getD, List.getElem?_append_left (by omega)]
      · rw [if_neg q2, if_neg (by omega)]
  rw [e, show n + (L1.length : Int) + (L2.length : Int) = n + ((L1.length + L2.length : Nat) : Int) by omega]
theorem R_print {n c : Int} (hW : WF σ) (hn : σ.I 11 0 22 = n) (h0 : 0 ≤ n ∧ n < 2400) (hc : 0 ≤ c ∧ c < 128) : Rt m_X11_print 0 0 0 [vR (some (11, 0)), vI c] σ none (σ.pg n [c]) := by
  have e : ((σ.setI 61 0 n (sb c)).setI 11 0 22 (n + 1)) = σ.pg n [c] := by
    show _ = (σ.rI 61 0 (mixO n (fun j => [c].getD j.toNat 0) (σ.I 61 0) 1)).setI 11 0 22 (n + 1)
    rw [setI_row (t := 61), sb_id (by omega) (by omega)]
    have e1 : upI (σ.I 61 0) n c = mixO n (fun j => [c].getD j.toNat 0) (σ.I 61 0) 1 := by
      funext j
      unfold upI mixO
      by_cases q : j = n
      · rw [if_pos q, if_pos (by omega), q, Int.sub_self]
        rfl
      · rw [if_neg q, if_neg (by omega)]
    rw [e1]
  have g22 : (σ.setI 61 0 n (sb c)).I 11 0 22 = n := by
    rw [setI_t (by decide)]
    exact hn
  show V _ 0 0 0 0 [some (vR (some (11, 0))), some (vI c)] [] σ _
  refine V_aldn0 a_X11_print_0 ?_
  refine V_fin a_X11_print_1 f_X11_49 rfl hW ?_
  refine V_aldn0 a_X11_print_4 ?_
  refine V_getIE a_X11_print_5 f_X11_430 rfl hn ?_
  refine V_ildn1 a_X11_print_8 ?_
  refine V_i2b a_X11_print_9 ?_
  refine V_bast a_X11_print_10 rfl (by omega) (sb_bd _) ?_
  refine V_aldn0 a_X11_print_11 ?_
  first | refine V_dupR a_X11_print_12 ?_ | refine V_dupI a_X11_print_12 ?_
  refine V_getIE a_X11_print_13 f_X11_430 rfl g22 ?_
  refine V_iconst a_X11_print_16 ?_
  refine V_iadd a_X11_print_17 ?_
  refine V_putI a_X11_print_18 f_X11_430 rfl ?_
  exact V_ret a_X11_print_21 (⟨rfl, e⟩)
theorem R_printWord {n : Int} {j : Nat} (hW : WF σ) (hj : j < 30) (hn : σ.I 11 0 22 = n) (h0 : 0 ≤ n ∧ n + slen j ≤ 2400) : Rt m_X11_printWord 4 0 0 [vR (some (11, 0)), vR (some (98, j))] σ none (σ.pg n (wL j)) := by
  have hb := slen_bd j hj
  show V _ 4 0 0 0 [some (vR (some (11, 0))), some (vR (some (98, j))), none] [] σ _
  have start : σ.pg n (wP j (0 : Int).toNat) = σ := pg_nil hn
  unfold wL
  refine V_iconst a_X11_printWord_0 ?_
  refine V_istn2 a_X11_printWord_1 ?_
  refine (fun z => by rw [start] at z; exact z : V _ 4 0 0 2 [some (vR (some (11, 0))), some (vR (some (98, j))), some (vI 0)] [] (σ.pg n (wP j (0 : Int).toNat)) _ → _) ?_
  refine loopI (P := fun i => V _ 4 0 0 2 [some (vR (some (11, 0))), some (vR (some (98, j))), some (vI i)] [] (σ.pg n (wP j i.toNat)) _) (N := slen j) (by omega) ?_ ?_
  · refine V_ildn2 a_X11_printWord_2 ?_
    refine V_aldn1 a_X11_printWord_3 ?_
    refine V_t0R a_X11_printWord_4 c_X11_121 (R_slen hj) ?_ (hj := hj)
    refine V_icmp_ge_t a_X11_printWord_7 (by omega) (by omega) ?_
    exact V_ret a_X11_printWord_25 (⟨rfl, by rw [Int.toNat_natCast]⟩)
  · intro i i0 i1 ih
    have hc := schr_bd hj i0 i1
    have rp := R_print (σ := σ.pg n (wP j i.toNat)) (n := n + (wP j i.toNat).length) (c := schr j i) hW pg_22 (by rw [wP_len]; omega) (by omega)
    have es : wP j (i + 1).toNat = wP j i.toNat ++ [schr j i] := by
      rw [show (i + 1).toNat = i.toNat + 1 by omega, wP_s, Int.toNat_of_nonneg i0]
    rw [pg_app, ← es] at rp
    refine V_ildn2 a_X11_printWord_2 ?_
    refine V_aldn1 a_X11_printWord_3 ?_
    refine V_t0R a_X11_printWord_4 c_X11_121 (R_slen hj) ?_ (hj := hj)
    refine V_icmp_ge_f a_X11_printWord_7 (by omega) (by omega) ?_
    refine V_aldn0 a_X11_printWord_10 ?_
    refine V_aldn1 a_X11_printWord_11 ?_
    refine V_ildn2 a_X11_printWord_12 ?_
    refine V_t1R a_X11_printWord_13 c_X11_126 (R_charAt hj ⟨i0, i1⟩) ?_ (hj := hj)
    refine V_v1V a_X11_printWord_16 c_X11_433 rp ?_
    refine V_inc2 a_X11_printWord_19 ?_
    refine V_goto a_X11_printWord_22 ?_
    exact ih
theorem R_printNumber : ∀ (m : Nat) (σ : Hp) (n v : Int), WF σ → σ.I 11 0 22 = n → 0 ≤ n → n + m + 1 ≤ 2400 → 0 ≤ v → v < 10 ^ (m + 1) → v < 9000000000000000000 → Rt m_X11_printNumber (m + 1) 0 0 [vR (some (11, 0)), vL v] σ none (σ.pg n (dgF m v)) := by
  intro m
  induction m with
  | zero =>
    intro σ n v hW hn n0 n1 v0 v1 v2
    rw [show (10 : Int) ^ (0 + 1) = 10 from rfl] at v1
    have em : v.tmod 10 = v := by
      rw [Int.tmod_eq_emod_of_nonneg v0]
      omega
    have rp := R_print (σ := σ) (n := n) (c := 48 + v) hW hn (by omega) (by omega)
    show V _ 1 0 0 0 [some (vR (some (11, 0))), some (vL v), none] [] σ _
    refine V_lldn1 a_X11_printNumber_0 ?_
    refine V_ldc2 a_X11_printNumber_1 q_X11_437 ?_
    refine V_lc_le_t a_X11_printNumber_4 a_X11_printNumber_5 (by omega) (by omega) ?_
    refine V_aldn0 a_X11_printNumber_17 ?_
    refine V_ldc2 a_X11_printNumber_18 q_X11_114 ?_
    refine V_lldn1 a_X11_printNumber_21 ?_
    refine V_ldc2 a_X11_printNumber_22 q_X11_439 ?_
    refine V_lrem a_X11_printNumber_25 (by omega) ?_
    rw [em]
    refine V_ladd a_X11_printNumber_26 ?_
    refine V_l2i a_X11_printNumber_27 ?_
    refine V_i2c a_X11_printNumber_28 (by omega) ?_
    refine V_v1V a_X11_printNumber_29 c_X11_433 rp ?_
    exact V_ret a_X11_printNumber_32 (⟨rfl, rfl⟩)
  | succ m ih =>
    intro σ n v hW hn n0 n1 v0 v1 v2
    have em : v.tmod 10 = v % 10 := Int.tmod_eq_emod_of_nonneg v0
    show V _ (m + 1 + 1) 0 0 0 [some (vR (some (11, 0))), some (vL v), none] [] σ (fun r τ => r = .inl none ∧ τ = σ.pg n (if 9 < v then dgF m (v / 10) ++ [48 + v % 10] else [48 + v]))
    by_cases q : 9 < v
    · rw [if_pos q]
      rw [Int.pow_succ] at v1
      have ed : v.tdiv 10 = v / 10 := Int.tdiv_eq_ediv_of_nonneg v0
      have r1 := ih σ n (v / 10) hW hn n0 (by omega) (by omega) (by omega) (by omega)
      have hl := dgF_len m m (v / 10) (by omega) (by omega)
      have rp := R_print (σ := σ.pg n (dgF m (v / 10))) (n := n + (dgF m (v / 10)).length) (c := 48 + v % 10) hW pg_22 (by omega) (by omega)
      rw [pg_app] at rp
      refine V_lldn1 a_X11_printNumber_0 ?_
      refine V_ldc2 a_X11_printNumber_1 q_X11_437 ?_
      refine V_lc_le_f a_X11_printNumber_4 a_X11_printNumber_5 (by omega) (by omega) ?_
      refine V_aldn0 a_X11_printNumber_8 ?_
      refine V_lldn1 a_X11_printNumber_9 ?_
      refine V_ldc2 a_X11_printNumber_10 q_X11_439 ?_
      refine V_ldiv a_X11_printNumber_13 (by omega) ?_
      rw [ed]
      refine V_v1V a_X11_printNumber_14 c_X11_441 r1 ?_
      refine V_aldn0 a_X11_printNumber_17 ?_
      refine V_ldc2 a_X11_printNumber_18 q_X11_114 ?_
      refine V_lldn1 a_X11_printNumber_21 ?_
      refine V_ldc2 a_X11_printNumber_22 q_X11_439 ?_
      refine V_lrem a_X11_printNumber_25 (by omega) ?_
      rw [em]
      refine V_ladd a_X11_printNumber_26 ?_
      refine V_l2i a_X11_printNumber_27 ?_
      refine V_i2c a_X11_printNumber_28 (by omega) ?_
      refine V_v1V a_X11_printNumber_29 c_X11_433 rp ?_
      exact V_ret a_X11_printNumber_32 (⟨rfl, rfl⟩)
    · rw [if_neg q]
      have rp := R_print (σ := σ) (n := n) (c := 48 + v) hW hn (by omega) (by omega)
      have em2 : v % 10 = v := by omega
      refine V_lldn1 a_X11_printNumber_0 ?_
      refine V_ldc2 a_X11_printNumber_1 q_X11_437 ?_
      refine V_lc_le_t a_X11_printNumber_4 a_X11_printNumber_5 (by omega) (by omega) ?_
      refine V_aldn0 a_X11_printNumber_17 ?_
      refine V_ldc2 a_X11_printNumber_18 q_X11_114 ?_
      refine V_lldn1 a_X11_printNumber_21 ?_
      refine V_ldc2 a_X11_printNumber_22 q_X11_439 ?_
      refine V_lrem a_X11_printNumber_25 (by omega) ?_
      rw [em, em2]
      refine V_ladd a_X11_printNumber_26 ?_
      refine V_l2i a_X11_printNumber_27 ?_
      refine V_i2c a_X11_printNumber_28 (by omega) ?_
      refine V_v1V a_X11_printNumber_29 c_X11_433 rp ?_
      exact V_ret a_X11_printNumber_32 (⟨rfl, rfl⟩)
theorem R_pnum {n v : Int} (hW : WF σ) (hn : σ.I 11 0 22 = n) (n0 : 0 ≤ n ∧ n + 10 ≤ 2400) (hv : 0 ≤ v ∧ v ≤ 20000000) : Rt m_X11_printNumber 10 0 0 [vR (some (11, 0)), vL v] σ none (σ.pg n (dg v)) := R_printNumber 9 σ n v hW hn n0.1 (by omega) hv.1 (by rw [show (10 : Int) ^ (9 + 1) = 10000000000 from rfl]; omega) (by omega)
theorem slL_len (hI : Inv D A) {k l : Int} (k0 : 0 ≤ k) (k1 : k < A 7) (l0 : 0 ≤ l) (l1 : l < 6) : (slL A k l).length ≤ 14 := by
  have hs := ((hI.loan k0 k1).sl l0 l1).1
  have d1 := dg_1 (v := l) l0 (by omega)
  have d2 := dg_5 (v := A (83 + 23 * k + 5 + l)) (by omega) (by omega)
  have d3 := dg_5 (v := A (83 + 23 * k + 11 + l)) (by omega) (by omega)
  unfold slL
  split
  · exact Nat.zero_le _
  · split
    · simp only [List.length_append, List.length_cons, List.length_nil]
      omega
    · simp only [List.length_append, List.length_cons, List.length_nil]
      omega
theorem lnL_len (hD : D ≤ 20000000) (hI : Inv D A) {k : Int} (k0 : 0 ≤ k) (k1 : k < A 7) : (lnL A k).length ≤ 108 := by
  have hn := hI.n
  have hq := quan_bd hI k0 k1
  have hL := (hI.loan k0 k1).1
  have d1 := dg_8 (v := A (83 + 23 * k + 0)) (by omega) (by omega)
  have d2 := dg_6 (v := quanA A k) (by omega) (by omega)
  have d3 := cat_len (f := slL A k) (n := A 1) (m := 14) (by omega) (fun l l0 l1 => slL_len hI k0 k1 l0 (by omega))
  have w1 : (wL 13).length = 5 := by decide
  have w2 : (wL 14).length = 4 := by decide
  unfold lnL
  simp only [List.length_append, List.length_cons, List.length_nil]
  omega
theorem R_printSlice {n k l : Int} (h : Md D σ A) (hk : 0 ≤ k ∧ k < A 7) (hl : 0 ≤ l ∧ l < 6) (hn : σ.I 11 0 22 = n) (h0 : 0 ≤ n ∧ n + 40 ≤ 2400) : Rt m_X11_printSlice 11 0 0 [vR (some (11, 0)), vI (83 + 23 * k), vI l] σ none (σ.pg n (slL A k l)) := by
  have hn' := h.2.2.2.n
  have hs := ((h.2.2.2.loan hk.1 hk.2).sl hl.1 hl.2).1
  have hW := h.2.1
  have hA := h.2.2.1
  have d1 := dg_1 (v := l) hl.1 (by omega)
  have d2 := dg_5 (v := A (83 + 23 * k + 5 + l)) (by omega) (by omega)
  show V _ 11 0 0 0 [some (vR (some (11, 0))), some (vI (83 + 23 * k)), some (vI l)] [] σ _
  unfold slL
  by_cases q : A (83 + 23 * k + 5 + l) = 0
  · rw [if_pos q, pg_nil hn]
    refine V_aldn0 a_X11_printSlice_0 ?_
    refine V_fin a_X11_printSlice_1 f_X11_7 rfl hW ?_
    refine V_ildn1 a_X11_printSlice_4 ?_
    refine V_iconst a_X11_printSlice_5 ?_
    refine V_iadd a_X11_printSlice_6 ?_
    refine V_ildn2 a_X11_printSlice_7 ?_
    refine V_iadd a_X11_printSlice_8 ?_
    refine V_w a_X11_printSlice_9 (by omega) hA ?_
    refine V_lconst0 a_X11_printSlice_10 ?_
    refine V_lc_ne_f a_X11_printSlice_11 a_X11_printSlice_12 (by omega) (by omega) ?_
    exact V_ret a_X11_printSlice_15 (⟨rfl, rfl⟩)
  · rw [if_neg q]
    have r1 := R_print (c := 32) hW hn (by omega) (by omega)
    have r2 := R_pnum (σ := σ.pg n [32]) (v := l) hW pg_22 (by simp only [List.length_cons, List.length_nil]; omega) (by omega)
    rw [pg_app] at r2
    have r3 := R_print (σ := σ.pg n ([32] ++ dg l)) (c := 58) hW pg_22 (by simp only [List.length_append, List.length_cons, List.length_nil]; omega) (by omega)
    rw [pg_app] at r3
    have r4 := R_pnum (σ := σ.pg n ([32] ++ dg l ++ [58])) (v := A (83 + 23 * k + 5 + l)) hW pg_22 (by simp only [List.length_append, List.length_cons, List.length_nil]; omega) (by omega)
    rw [pg_app] at r4
    have hA4 : (σ.pg n ([32] ++ dg l ++ [58])).J 50 0 = A := hA
    have hA5 : (σ.pg n ([32] ++ dg l ++ [58] ++ dg (A (83 + 23 * k + 5 + l)))).J 50 0 = A := hA
    by_cases q2 : A (83 + 23 * k + 11 + l) = 0
    · rw [if_pos q2, List.append_nil]
      refine V_aldn0 a_X11_printSlice_0 ?_
      refine V_fin a_X11_printSlice_1 f_X11_7 rfl hW ?_
      refine V_ildn1 a_X11_printSlice_4 ?_
      refine V_iconst a_X11_printSlice_5 ?_
      refine V_iadd a_X11_printSlice_6 ?_
      refine V_ildn2 a_X11_printSlice_7 ?_
      refine V_iadd a_X11_printSlice_8 ?_
      refine V_w a_X11_printSlice_9 (by omega) hA ?_
      refine V_lconst0 a_X11_printSlice_10 ?_
      refine V_lc_ne_t a_X11_printSlice_11 a_X11_printSlice_12 (by omega) (by omega) ?_
      refine V_aldn0 a_X11_printSlice_16 ?_
      refine V_bipush a_X11_printSlice_17 (by decide) ?_
      refine V_v1V a_X11_printSlice_19 c_X11_433 r1 ?_
      refine V_aldn0 a_X11_printSlice_22 ?_
      refine V_ildn2 a_X11_printSlice_23 ?_
      refine V_i2l a_X11_printSlice_24 (by omega) ?_
      refine V_v1V a_X11_printSlice_25 c_X11_441 r2 ?_
      refine V_aldn0 a_X11_printSlice_28 ?_
      refine V_bipush a_X11_printSlice_29 (by decide) ?_
      refine V_v1V a_X11_printSlice_31 c_X11_433 r3 ?_
      refine V_aldn0 a_X11_printSlice_34 ?_
      refine V_aldn0 a_X11_printSlice_35 ?_
      refine V_fin a_X11_printSlice_36 f_X11_7 rfl hW ?_
      refine V_ildn1 a_X11_printSlice_39 ?_
      refine V_iconst a_X11_printSlice_40 ?_
      refine V_iadd a_X11_printSlice_41 ?_
      refine V_ildn2 a_X11_printSlice_42 ?_
      refine V_iadd a_X11_printSlice_43 ?_
      refine V_w a_X11_printSlice_44 (by omega) hA4 ?_
      refine V_v1V a_X11_printSlice_45 c_X11_441 r4 ?_
      refine V_aldn0 a_X11_printSlice_48 ?_
      refine V_fin a_X11_printSlice_49 f_X11_7 rfl hW ?_
      refine V_ildn1 a_X11_printSlice_52 ?_
      refine V_bipush a_X11_printSlice_53 (by decide) ?_
      refine V_iadd a_X11_printSlice_55 ?_
      refine V_ildn2 a_X11_printSlice_56 ?_
      refine V_iadd a_X11_printSlice_57 ?_
      refine V_w a_X11_printSlice_58 (by omega) hA5 ?_
      refine V_lconst0 a_X11_printSlice_59 ?_
      refine V_lc_ne_f a_X11_printSlice_60 a_X11_printSlice_61 (by omega) (by omega) ?_
      exact V_ret a_X11_printSlice_64 (⟨rfl, rfl⟩)
    · rw [if_neg q2]
      have r5 := R_print (σ := σ.pg n ([32] ++ dg l ++ [58] ++ dg (A (83 + 23 * k + 5 + l)))) (c := 45) hW pg_22 (by simp only [List.length_append, List.length_cons, List.length_nil]; omega) (by omega)
      rw [pg_app] at r5
      have r6 := R_pnum (σ := σ.pg n ([32] ++ dg l ++ [58] ++ dg (A (83 + 23 * k + 5 + l)) ++ [45])) (v := A (83 + 23 * k + 11 + l)) hW pg_22 (by simp only [List.length_append, List.length_cons, List.length_nil]; omega) (by omega)
      rw [pg_app, List.append_assoc (bs := [45])] at r6
      have hA6 : (σ.pg n ([32] ++ dg l ++ [58] ++ dg (A (83 + 23 * k + 5 + l)) ++ [45])).J 50 0 = A := hA
      refine V_aldn0 a_X11_printSlice_0 ?_
      refine V_fin a_X11_printSlice_1 f_X11_7 rfl hW ?_
      refine V_ildn1 a_X11_printSlice_4 ?_
      refine V_iconst a_X11_printSlice_5 ?_
      refine V_iadd a_X11_printSlice_6 ?_
      refine V_ildn2 a_X11_printSlice_7 ?_
      refine V_iadd a_X11_printSlice_8 ?_
      refine V_w a_X11_printSlice_9 (by omega) hA ?_
      refine V_lconst0 a_X11_printSlice_10 ?_
      refine V_lc_ne_t a_X11_printSlice_11 a_X11_printSlice_12 (by omega) (by omega) ?_
      refine V_aldn0 a_X11_printSlice_16 ?_
      refine V_bipush a_X11_printSlice_17 (by decide) ?_
      refine V_v1V a_X11_printSlice_19 c_X11_433 r1 ?_
      refine V_aldn0 a_X11_printSlice_22 ?_
      refine V_ildn2 a_X11_printSlice_23 ?_
      refine V_i2l a_X11_printSlice_24 (by omega) ?_
      refine V_v1V a_X11_printSlice_25 c_X11_441 r2 ?_
      refine V_aldn0 a_X11_printSlice_28 ?_
      refine V_bipush a_X11_printSlice_29 (by decide) ?_
      refine V_v1V a_X11_printSlice_31 c_X11_433 r3 ?_
      refine V_aldn0 a_X11_printSlice_34 ?_
      refine V_aldn0 a_X11_printSlice_35 ?_
      refine V_fin a_X11_printSlice_36 f_X11_7 rfl hW ?_
      refine V_ildn1 a_X11_printSlice_39 ?_
      refine V_iconst a_X11_printSlice_40 ?_
      refine V_iadd a_X11_printSlice_41 ?_
      refine V_ildn2 a_X11_printSlice_42 ?_
      refine V_iadd a_X11_printSlice_43 ?_
      refine V_w a_X11_printSlice_44 (by omega) hA4 ?_
      refine V_v1V a_X11_printSlice_45 c_X11_441 r4 ?_
      refine V_aldn0 a_X11_printSlice_48 ?_
      refine V_fin a_X11_printSlice_49 f_X11_7 rfl hW ?_
      refine V_ildn1 a_X11_printSlice_52 ?_
      refine V_bipush a_X11_printSlice_53 (by decide) ?_
      refine V_iadd a_X11_printSlice_55 ?_
      refine V_ildn2 a_X11_printSlice_56 ?_
      refine V_iadd a_X11_printSlice_57 ?_
      refine V_w a_X11_printSlice_58 (by omega) hA5 ?_
      refine V_lconst0 a_X11_printSlice_59 ?_
      refine V_lc_ne_t a_X11_printSlice_60 a_X11_printSlice_61 (by omega) (by omega) ?_
      refine V_aldn0 a_X11_printSlice_65 ?_
      refine V_bipush a_X11_printSlice_66 (by decide) ?_
      refine V_v1V a_X11_printSlice_68 c_X11_433 r5 ?_
      refine V_aldn0 a_X11_printSlice_71 ?_
      refine V_aldn0 a_X11_printSlice_72 ?_
      refine V_fin a_X11_printSlice_73 f_X11_7 rfl hW ?_
      refine V_ildn1 a_X11_printSlice_76 ?_
      refine V_bipush a_X11_printSlice_77 (by decide) ?_
      refine V_iadd a_X11_printSlice_79 ?_
      refine V_ildn2 a_X11_printSlice_80 ?_
      refine V_iadd a_X11_printSlice_81 ?_
      refine V_w a_X11_printSlice_82 (by omega) hA6 ?_
      refine V_v1V a_X11_printSlice_83 c_X11_441 r6 ?_
      exact V_ret a_X11_printSlice_86 (⟨rfl, rfl⟩)
end Rp

