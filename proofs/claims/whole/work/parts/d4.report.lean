/-- the class's report -/
def Pg (σ : Hp) (L : List Int) : Prop := σ.I 8 0 0 = L.length ∧ (L.length : Int) ≤ 2200 ∧ ∀ j, 0 ≤ j → j < (L.length : Int) → σ.I 35 0 j = L.getD j.toNat 0
theorem dgF_fuel : ∀ (n : Nat) (w : Int), 0 ≤ w → w < 10 ^ (n + 1) → dgF (n + 1) w = dgF n w := by
  intro n
  induction n with
  | zero =>
    intro w h0 h1
    rw [show (10 : Int) ^ (0 + 1) = 10 from rfl] at h1
    show (if 9 < w then _ else [48 + w]) = [48 + w]
    rw [if_neg (by omega)]
  | succ n ih =>
    intro w h0 h1
    show (if 9 < w then dgF (n + 1) (w / 10) ++ [48 + w % 10] else [48 + w]) = if 9 < w then dgF n (w / 10) ++ [48 + w % 10] else [48 + w]
    rw [Int.pow_succ] at h1
    by_cases z : 9 < w
    · rw [if_pos z, if_pos z, ih (w / 10) (by omega) (by omega)]
    · rw [if_neg z, if_neg z]
theorem dg_s {w d : Int} (w0 : 0 < w) (w1 : w < 1000000000) (hd : 0 ≤ d ∧ d < 10) : dg (10 * w + d) = dg w ++ [48 + d] := by
  have f := dgF_fuel 8 w (by omega) (by rw [show (10 : Int) ^ (8 + 1) = 1000000000 from rfl]; exact w1)
  unfold dg
  show (if 9 < 10 * w + d then dgF 8 ((10 * w + d) / 10) ++ [48 + (10 * w + d) % 10] else [48 + (10 * w + d)]) = _
  rw [if_pos (by omega), show (10 * w + d) / 10 = w by omega, show (10 * w + d) % 10 = d by omega, f]
theorem dg_d {d : Int} (hd : 0 ≤ d ∧ d < 10) : dg d = [48 + d] := by
  unfold dg
  show (if 9 < d then dgF 8 (d / 10) ++ [48 + d % 10] else [48 + d]) = _
  rw [if_neg (by omega)]
section Rp2
variable {D : Int} {σ : Hp} {A : St} {L : List Int} {i : Nat}
theorem Pg.fm {τ : Hp} {K : List Nat} (h : Pg σ L) (f : Fm K σ τ) (h8 : 8 ∉ K) (h35 : 35 ∉ K) : Pg τ L := by
  unfold Pg
  rw [f.I h8, f.I h35]
  exact h
theorem R_put {c : Int} (hW : WF σ) (h : Pg σ L) (hl : (L.length : Int) < 2200) (hc : 0 ≤ c ∧ c < 128) : Cv m_X8_put 0 0 0 [vR (some (8, 0)), vI c] σ none (fun τ => Fm [8, 35] σ τ ∧ Pg τ (L ++ [c])) := by
  obtain ⟨h8, hn, h35⟩ := h
  have es : sb c = c := sb_id (by omega) (by omega)
  have hln : ((L ++ [c]).length : Int) = L.length + 1 := by
    rw [List.length_append]
    rfl
  have g8 : (σ.setI 35 0 (L.length : Int) (sb c)).I 8 0 0 = L.length := by
    rw [setI_t (by decide)]
    exact h8
  have fin : Pg ((σ.setI 35 0 (L.length : Int) (sb c)).setI 8 0 0 ((L.length : Int) + 1)) (L ++ [c]) := ⟨setI_I.trans hln.symm, by omega, fun j j0 j1 => by
    rw [hln] at j1
    rw [setI_t (by decide)]
    by_cases z : j = L.length
    · rw [z, setI_I, es, Int.toNat_natCast, List.getD_eq_getElem?_getD, List.getElem?_append_right (Nat.le_refl _), Nat.sub_self]
      rfl
    · rw [setI_ne z, List.getD_eq_getElem?_getD, List.getElem?_append_left (by omega), ← List.getD_eq_getElem?_getD]
      exact h35 j j0 (by omega)⟩
  show V _ 0 0 0 0 [some (vR (some (8, 0))), some (vI c)] [] σ _
  refine V_aldn0 a_X8_put_0 ?_
  refine V_getIE a_X8_put_1 f_X8_15 rfl h8 ?_
  refine V_sipush a_X8_put_4 (by decide) ?_
  refine V_icmp_ge_f a_X8_put_7 (by omega) (by omega) ?_
  refine V_aldn0 a_X8_put_10 ?_
  refine V_fin a_X8_put_11 f_X8_11 rfl hW ?_
  refine V_aldn0 a_X8_put_14 ?_
  refine V_getIE a_X8_put_15 f_X8_15 rfl h8 ?_
  refine V_ildn1 a_X8_put_18 ?_
  refine V_i2b a_X8_put_19 ?_
  refine V_bast a_X8_put_20 rfl (by omega) (by omega) ?_
  refine V_aldn0 a_X8_put_21 ?_
  first | refine V_dupR a_X8_put_22 ?_ | refine V_dupI a_X8_put_22 ?_
  refine V_getIE a_X8_put_23 f_X8_15 rfl g8 ?_
  refine V_iconst a_X8_put_26 ?_
  refine V_iadd a_X8_put_27 ?_
  refine V_putI a_X8_put_28 f_X8_15 rfl ?_
  exact V_ret a_X8_put_31 (⟨rfl, (Fm.setI (by decide)).trans (Fm.setI (by decide)), fin⟩)
theorem R_putWord {j : Nat} (hW : WF σ) (h : Pg σ L) (hj : j < 30) (hl : (L.length : Int) + slen j ≤ 2200) : Cv m_X8_putWord 4 0 0 [vR (some (8, 0)), vR (some (98, j))] σ none (fun τ => Fm [8, 35] σ τ ∧ Pg τ (L ++ wL j)) := by
  have hs := slen_bd j hj
  show V _ 4 0 0 0 [some (vR (some (8, 0))), some (vR (some (98, j))), none] [] σ _
  refine V_iconst a_X8_putWord_0 ?_
  refine V_istn2 a_X8_putWord_1 ?_
  refine loopI (P := fun k => ∀ τ, Fm [8, 35] σ τ → Pg τ (L ++ wP j k.toNat) → V _ 4 0 0 2 [some (vR (some (8, 0))), some (vR (some (98, j))), some (vI k)] [] τ _) (N := (slen j : Int)) (by omega) ?_ ?_ σ (Fm.refl _ _) (by rw [show wP j (0 : Int).toNat = [] from rfl, List.append_nil]; exact h)
  · intro τ f hp
    have rl := R_slen (σ := τ) hj
    rw [Int.toNat_natCast] at hp
    refine V_ildn2 a_X8_putWord_2 ?_
    refine V_aldn1 a_X8_putWord_3 ?_
    refine V_t0R a_X8_putWord_4 c_X8_72 rl ?_ (hj := hj)
    refine V_icmp_ge_t a_X8_putWord_7 (by omega) (by omega) ?_
    exact V_ret a_X8_putWord_25 (⟨rfl, f, hp⟩)
  · intro k k0 k1 ih τ f hp
    have rl := R_slen (σ := τ) hj
    have rc := R_charAt (σ := τ) (k := k) hj ⟨k0, k1⟩
    have hc := schr_bd hj k0 k1
    have rp := R_put (c := schr j k) (f.wf hW) hp (by rw [List.length_append, wP_len]; omega) hc
    rw [List.append_assoc, show wP j k.toNat ++ [schr j k] = wP j (k + 1).toNat by rw [show (k + 1).toNat = k.toNat + 1 by omega, wP_s, Int.toNat_of_nonneg k0]] at rp
    refine V_ildn2 a_X8_putWord_2 ?_
    refine V_aldn1 a_X8_putWord_3 ?_
    refine V_t0R a_X8_putWord_4 c_X8_72 rl ?_ (hj := hj)
    refine V_icmp_ge_f a_X8_putWord_7 (by omega) (by omega) ?_
    refine V_aldn0 a_X8_putWord_10 ?_
    refine V_aldn1 a_X8_putWord_11 ?_
    refine V_ildn2 a_X8_putWord_12 ?_
    refine V_t1R a_X8_putWord_13 c_X8_76 rc ?_ (hj := hj)
    refine V_v1PV a_X8_putWord_16 c_X8_37 rp (fun τ2 hτ2 => ?_)
    refine V_inc2 a_X8_putWord_19 ?_
    refine V_goto a_X8_putWord_22 ?_
    exact ih τ2 (f.trans hτ2.1) hτ2.2
/-- the number without its last digits -/
def wn (v k : Int) : Int := v / (10 : Int) ^ (10 - k).toNat
def un (k : Int) : Int := if k = 10 then 0 else (10 : Int) ^ (9 - k).toNat
def pn (v k : Int) : List Int := if k = 10 then dg v else if 0 < wn v k then dg (wn v k) else []
theorem un_s {k : Int} (k0 : 0 ≤ k) (k1 : k < 10) : (1 ≤ un k ∧ un k ≤ 1000000000) ∧ (un k).tdiv 10 = un (k + 1) ∧ (un k = 1 ↔ k = 9) := by
  have c : k = 0 ∨ k = 1 ∨ k = 2 ∨ k = 3 ∨ k = 4 ∨ k = 5 ∨ k = 6 ∨ k = 7 ∨ k = 8 ∨ k = 9 := by omega
  rcases c with rfl | rfl | rfl | rfl | rfl | rfl | rfl | rfl | rfl | rfl <;> decide
theorem wn_s {v k : Int} (k0 : 0 ≤ k) (k1 : k < 10) (v0 : 0 ≤ v) : v.tdiv (un k) = wn v (k + 1) ∧ wn v (k + 1) / 10 = wn v k ∧ 0 ≤ wn v (k + 1) ∧ wn v (k + 1) ≤ v := by
  have e : un k = (10 : Int) ^ (10 - (k + 1)).toNat := by
    unfold un
    rw [if_neg (by omega), show 9 - k = 10 - (k + 1) by omega]
  have hp : (0 : Int) < (10 : Int) ^ (10 - (k + 1)).toNat := Int.pow_pos (by decide)
  refine ⟨?_, ?_, ?_, ?_⟩
  · rw [Int.tdiv_eq_ediv_of_nonneg v0, e]
    rfl
  · unfold wn
    rw [Int.ediv_ediv, if_neg (fun z => by omega), Int.sub_zero, show (10 - k).toNat = (10 - (k + 1)).toNat + 1 by omega, Int.pow_succ]
  · exact Int.ediv_nonneg v0 (by omega)
  · unfold wn
    exact Int.ediv_le_self _ v0
theorem R_putNumber {v : Int} (hW : WF σ) (h : Pg σ L) (hv : 0 ≤ v ∧ v ≤ 20000000) (hl : (L.length : Int) + 10 ≤ 2200) : Cv m_X8_putNumber 1 0 0 [vR (some (8, 0)), vI v] σ none (fun τ => Fm [8, 35] σ τ ∧ Pg τ (L ++ dg v)) := by
  have w0 : wn v 0 = 0 := by
    unfold wn
    exact Int.ediv_eq_zero_of_lt hv.1 (by rw [show (10 : Int) ^ (10 - 0 : Int).toNat = 10000000000 from rfl]; omega)
  have p0 : pn v 0 = [] := by
    unfold pn
    rw [if_neg (by decide), w0, if_neg (by decide)]
  show V _ 1 0 0 0 [some (vR (some (8, 0))), some (vI v), none, none, none] [] σ _
  refine V_iconst a_X8_putNumber_0 ?_
  refine V_istn2 a_X8_putNumber_1 ?_
  refine V_ldc a_X8_putNumber_2 q_X8_80 ?_
  refine V_istn3 a_X8_putNumber_4 ?_
  refine loopI (P := fun k => ∀ τ (b : Int) (o : Option AV), (k < 10 → b = bI (0 < wn v k)) → Fm [8, 35] σ τ → Pg τ (L ++ pn v k) → V _ 1 0 0 5 [some (vR (some (8, 0))), some (vI v), some (vI b), some (vI (un k)), o] [] τ _) (N := 10) (by decide) ?_ ?_ σ 0 none (fun _ => by rw [w0, bI_f (by decide)]) (Fm.refl _ _) (by rw [p0, List.append_nil]; exact h)
  · intro τ b o hb f hp
    rw [show un 10 = 0 from rfl]
    rw [show pn v 10 = dg v from if_pos rfl] at hp
    refine V_ildn3 a_X8_putNumber_5 ?_
    refine V_if_le_t a_X8_putNumber_6 (by omega) (by omega) ?_
    exact V_ret a_X8_putNumber_59 (⟨rfl, f, hp⟩)
  · intro k k0 k1 ih τ b o hb f hp
    obtain ⟨u1, u2, u3⟩ := un_s k0 k1
    obtain ⟨q1, q2, q3, q4⟩ := wn_s (v := v) k0 k1 hv.1
    have hb := hb k1
    have hWt := f.wf hW
    have e0 : pn v k = if 0 < wn v k then dg (wn v k) else [] := if_neg (by omega)
    rw [e0] at hp
    have em : (v.tdiv (un k)).tmod 10 = wn v (k + 1) % 10 := by rw [q1, Int.tmod_eq_emod_of_nonneg q3]
    generalize hx : wn v (k + 1) = x at q1 q2 q3 q4 em
    rw [← q2] at hb hp
    have hlen : ((if 0 < x / 10 then dg (x / 10) else []).length : Int) ≤ 8 := by
      by_cases z : 0 < x / 10
      · rw [if_pos z]
        have := dg_8 (v := x / 10) (by omega) (by omega)
        omega
      · rw [if_neg z]
        show ((0 : Nat) : Int) ≤ 8
        decide
    have hl9 : ((L ++ (if 0 < x / 10 then dg (x / 10) else [])).length : Int) < 2200 := by
      rw [List.length_append]
      omega
    have rp := R_put (c := 48 + x % 10) hWt hp hl9 (by omega)
    have u2 := u2
    by_cases c1 : 0 < x / 10
    · rw [bI_t c1] at hb
      rw [if_pos c1, List.append_assoc, ← dg_s c1 (by omega) (show 0 ≤ x % 10 ∧ x % 10 < 10 by omega), show 10 * (x / 10) + x % 10 = x by omega] at rp
      have ex : pn v (k + 1) = dg x := by
        unfold pn
        by_cases z : k + 1 = 10
        · rw [if_pos z]
          rw [z] at hx
          rw [← hx]
          show dg v = dg (v / 1)
          rw [Int.ediv_one]
        · rw [if_neg z, hx, if_pos (by omega)]
      rw [← ex] at rp
      have b1 : k + 1 < 10 → (1 : Int) = bI (0 < wn v (k + 1)) := fun _ => by rw [hx, bI_t (by omega)]
      rw [if_pos c1] at hp
      refine V_ildn3 a_X8_putNumber_5 ?_
      refine V_if_le_f a_X8_putNumber_6 (by omega) (by omega) ?_
      refine V_ildn1 a_X8_putNumber_9 ?_
      refine V_ildn3 a_X8_putNumber_10 ?_
      refine V_idiv a_X8_putNumber_11 (by omega) ?_
      refine V_bipush a_X8_putNumber_12 (by decide) ?_
      refine V_irem a_X8_putNumber_14 (by omega) ?_
      rw [em]
      refine V_ist4 a_X8_putNumber_15 ?_
      refine V_ildn2 a_X8_putNumber_17 ?_
      refine V_if_ne_t a_X8_putNumber_18 (by omega) (by omega) ?_
      refine V_iconst a_X8_putNumber_31 ?_
      refine V_goto a_X8_putNumber_32 ?_
      refine V_istn2 a_X8_putNumber_36 ?_
      refine V_ildn2 a_X8_putNumber_37 ?_
      refine V_if_eq_f a_X8_putNumber_38 (by omega) (by omega) ?_
      refine V_aldn0 a_X8_putNumber_41 ?_
      refine V_bipush a_X8_putNumber_42 (by decide) ?_
      refine V_ild4 a_X8_putNumber_44 ?_
      refine V_iadd a_X8_putNumber_46 ?_
      refine V_i2c a_X8_putNumber_47 (by omega) ?_
      refine V_v1PV a_X8_putNumber_48 c_X8_37 rp (fun τ2 hτ2 => ?_)
      refine V_ildn3 a_X8_putNumber_51 ?_
      refine V_bipush a_X8_putNumber_52 (by decide) ?_
      refine V_idiv a_X8_putNumber_54 (by omega) ?_
      rw [u2]
      refine V_istn3 a_X8_putNumber_55 ?_
      refine V_goto a_X8_putNumber_56 ?_
      exact ih τ2 1 _ b1 (f.trans hτ2.1) hτ2.2
    · rw [bI_f c1] at hb
      rw [if_neg c1, List.append_nil] at rp
      have xs : x % 10 = x := by omega
      by_cases c2 : 0 < x
      · rw [xs, ← dg_d (show 0 ≤ x ∧ x < 10 by omega)] at rp
        have ex : pn v (k + 1) = dg x := by
          unfold pn
          by_cases z : k + 1 = 10
          · rw [if_pos z]
            rw [z] at hx
            rw [← hx]
            show dg v = dg (v / 1)
            rw [Int.ediv_one]
          · rw [if_neg z, hx, if_pos c2]
        rw [← ex] at rp
        rw [xs] at em
        have b1 : k + 1 < 10 → (1 : Int) = bI (0 < wn v (k + 1)) := fun _ => by rw [hx, bI_t c2]
        refine V_ildn3 a_X8_putNumber_5 ?_
        refine V_if_le_f a_X8_putNumber_6 (by omega) (by omega) ?_
        refine V_ildn1 a_X8_putNumber_9 ?_
        refine V_ildn3 a_X8_putNumber_10 ?_
        refine V_idiv a_X8_putNumber_11 (by omega) ?_
        refine V_bipush a_X8_putNumber_12 (by decide) ?_
        refine V_irem a_X8_putNumber_14 (by omega) ?_
        rw [em]
        refine V_ist4 a_X8_putNumber_15 ?_
        refine V_ildn2 a_X8_putNumber_17 ?_
        refine V_if_ne_f a_X8_putNumber_18 (by omega) (by omega) ?_
        refine V_ild4 a_X8_putNumber_21 ?_
        refine V_if_gt_t a_X8_putNumber_23 (by omega) (by omega) ?_
        refine V_iconst a_X8_putNumber_31 ?_
        refine V_goto a_X8_putNumber_32 ?_
        refine V_istn2 a_X8_putNumber_36 ?_
        refine V_ildn2 a_X8_putNumber_37 ?_
        refine V_if_eq_f a_X8_putNumber_38 (by omega) (by omega) ?_
        refine V_aldn0 a_X8_putNumber_41 ?_
        refine V_bipush a_X8_putNumber_42 (by decide) ?_
        refine V_ild4 a_X8_putNumber_44 ?_
        refine V_iadd a_X8_putNumber_46 ?_
        refine V_i2c a_X8_putNumber_47 (by omega) ?_
        refine V_v1PV a_X8_putNumber_48 c_X8_37 rp (fun τ2 hτ2 => ?_)
        refine V_ildn3 a_X8_putNumber_51 ?_
        refine V_bipush a_X8_putNumber_52 (by decide) ?_
        refine V_idiv a_X8_putNumber_54 (by omega) ?_
        rw [u2]
        refine V_istn3 a_X8_putNumber_55 ?_
        refine V_goto a_X8_putNumber_56 ?_
        exact ih τ2 1 _ b1 (f.trans hτ2.1) hτ2.2
      · have x0 : x = 0 := by omega
        rw [xs] at em
        by_cases c3 : k = 9
        · have e1 := u3.mpr c3
          have ex : pn v (k + 1) = dg x := by
            unfold pn
            rw [if_pos (by omega)]
            rw [c3] at hx
            rw [← hx]
            show dg v = dg (v / 1)
            rw [Int.ediv_one]
          rw [xs, ← dg_d (show 0 ≤ x ∧ x < 10 by omega), ← ex] at rp
          have b1 : k + 1 < 10 → (1 : Int) = bI (0 < wn v (k + 1)) := fun z => by omega
          refine V_ildn3 a_X8_putNumber_5 ?_
          refine V_if_le_f a_X8_putNumber_6 (by omega) (by omega) ?_
          refine V_ildn1 a_X8_putNumber_9 ?_
          refine V_ildn3 a_X8_putNumber_10 ?_
          refine V_idiv a_X8_putNumber_11 (by omega) ?_
          refine V_bipush a_X8_putNumber_12 (by decide) ?_
          refine V_irem a_X8_putNumber_14 (by omega) ?_
          rw [em]
          refine V_ist4 a_X8_putNumber_15 ?_
          refine V_ildn2 a_X8_putNumber_17 ?_
          refine V_if_ne_f a_X8_putNumber_18 (by omega) (by omega) ?_
          refine V_ild4 a_X8_putNumber_21 ?_
          refine V_if_gt_f a_X8_putNumber_23 (by omega) (by omega) ?_
          refine V_ildn3 a_X8_putNumber_26 ?_
          refine V_iconst a_X8_putNumber_27 ?_
          refine V_icmp_ne_f a_X8_putNumber_28 (by omega) (by omega) ?_
          refine V_iconst a_X8_putNumber_31 ?_
          refine V_goto a_X8_putNumber_32 ?_
          refine V_istn2 a_X8_putNumber_36 ?_
          refine V_ildn2 a_X8_putNumber_37 ?_
          refine V_if_eq_f a_X8_putNumber_38 (by omega) (by omega) ?_
          refine V_aldn0 a_X8_putNumber_41 ?_
          refine V_bipush a_X8_putNumber_42 (by decide) ?_
          refine V_ild4 a_X8_putNumber_44 ?_
          refine V_iadd a_X8_putNumber_46 ?_
          refine V_i2c a_X8_putNumber_47 (by omega) ?_
          refine V_v1PV a_X8_putNumber_48 c_X8_37 rp (fun τ2 hτ2 => ?_)
          refine V_ildn3 a_X8_putNumber_51 ?_
          refine V_bipush a_X8_putNumber_52 (by decide) ?_
          refine V_idiv a_X8_putNumber_54 (by omega) ?_
          rw [u2]
          refine V_istn3 a_X8_putNumber_55 ?_
          refine V_goto a_X8_putNumber_56 ?_
          exact ih τ2 1 _ b1 (f.trans hτ2.1) hτ2.2
        · have e1 : un k ≠ 1 := fun z => c3 (u3.mp z)
          have ex : pn v (k + 1) = [] := by
            unfold pn
            rw [if_neg (by omega), hx, if_neg c2]
          rw [if_neg c1, ← ex] at hp
          have b1 : k + 1 < 10 → (0 : Int) = bI (0 < wn v (k + 1)) := fun _ => by rw [hx, bI_f c2]
          refine V_ildn3 a_X8_putNumber_5 ?_
          refine V_if_le_f a_X8_putNumber_6 (by omega) (by omega) ?_
          refine V_ildn1 a_X8_putNumber_9 ?_
          refine V_ildn3 a_X8_putNumber_10 ?_
          refine V_idiv a_X8_putNumber_11 (by omega) ?_
          refine V_bipush a_X8_putNumber_12 (by decide) ?_
          refine V_irem a_X8_putNumber_14 (by omega) ?_
          rw [em]
          refine V_ist4 a_X8_putNumber_15 ?_
          refine V_ildn2 a_X8_putNumber_17 ?_
          refine V_if_ne_f a_X8_putNumber_18 (by omega) (by omega) ?_
          refine V_ild4 a_X8_putNumber_21 ?_
          refine V_if_gt_f a_X8_putNumber_23 (by omega) (by omega) ?_
          refine V_ildn3 a_X8_putNumber_26 ?_
          refine V_iconst a_X8_putNumber_27 ?_
          refine V_icmp_ne_t a_X8_putNumber_28 (by omega) (by omega) ?_
          refine V_iconst a_X8_putNumber_35 ?_
          refine V_istn2 a_X8_putNumber_36 ?_
          refine V_ildn2 a_X8_putNumber_37 ?_
          refine V_if_eq_t a_X8_putNumber_38 (by omega) (by omega) ?_
          refine V_ildn3 a_X8_putNumber_51 ?_
          refine V_bipush a_X8_putNumber_52 (by decide) ?_
          refine V_idiv a_X8_putNumber_54 (by omega) ?_
          rw [u2]
          refine V_istn3 a_X8_putNumber_55 ?_
          refine V_goto a_X8_putNumber_56 ?_
          exact ih τ 0 _ b1 f hp
theorem R_putSlice {l s r : Int} (hW : WF σ) (h : Pg σ L) (hl : 0 ≤ l ∧ l < 6) (hs : 0 < s ∧ s ≤ 99999) (hr : 0 ≤ r ∧ r ≤ 99999) (hn : (L.length : Int) + 40 ≤ 2200) : Cv m_X8_putSlice 2 0 0 [vR (some (8, 0)), vI l, vI s, vI r] σ none (fun τ => Fm [8, 35] σ τ ∧ Pg τ (L ++ ([32] ++ dg l ++ [58] ++ dg s ++ (if r = 0 then [] else [45] ++ dg r)))) := by
  have l1 := dg_1 (v := l) hl.1 (by omega)
  have l2 := dg_5 (v := s) (by omega) hs.2
  have r1 := R_put (c := 32) hW h (by omega) (by decide)
  show V _ 2 0 0 0 [some (vR (some (8, 0))), some (vI l), some (vI s), some (vI r)] [] σ _
  refine V_aldn0 a_X8_putSlice_0 ?_
  refine V_bipush a_X8_putSlice_1 (by decide) ?_
  refine V_v1PV a_X8_putSlice_3 c_X8_37 r1 (fun τ1 h1 => ?_)
  skip
  have n1 : ((L ++ [32]).length : Int) = L.length + 1 := by rw [List.length_append]; rfl
  have r2 := R_putNumber (v := l) (h1.1.wf hW) h1.2 (by omega) (by omega)
  refine V_aldn0 a_X8_putSlice_6 ?_
  refine V_ildn1 a_X8_putSlice_7 ?_
  refine V_v1PV a_X8_putSlice_8 c_X8_31 r2 (fun τ2 h2 => ?_)
  skip
  have n2 : ((L ++ [32] ++ dg l).length : Int) ≤ L.length + 2 := by
    rw [List.length_append]
    omega
  have f2 := h1.1.trans h2.1
  have r3 := R_put (c := 58) (f2.wf hW) h2.2 (by omega) (by decide)
  refine V_aldn0 a_X8_putSlice_11 ?_
  refine V_bipush a_X8_putSlice_12 (by decide) ?_
  refine V_v1PV a_X8_putSlice_14 c_X8_37 r3 (fun τ3 h3 => ?_)
  skip
  have n3 : ((L ++ [32] ++ dg l ++ [58]).length : Int) ≤ L.length + 3 := by
    rw [List.length_append]
    show (((L ++ [32] ++ dg l).length + 1 : Nat) : Int) ≤ _
    omega
  have f3 := f2.trans h3.1
  have r4 := R_putNumber (v := s) (f3.wf hW) h3.2 (by omega) (by omega)
  have n4 : ((L ++ [32] ++ dg l ++ [58] ++ dg s).length : Int) ≤ L.length + 8 := by
    rw [List.length_append]
    omega
  have ass : L ++ [32] ++ dg l ++ [58] ++ dg s = L ++ ([32] ++ dg l ++ [58] ++ dg s) := by simp only [List.append_assoc]
  by_cases z : r = 0
  · rw [if_pos z, List.append_nil]
    rw [ass] at r4
    refine V_aldn0 a_X8_putSlice_17 ?_
    refine V_ildn2 a_X8_putSlice_18 ?_
    refine V_v1PV a_X8_putSlice_19 c_X8_31 r4 (fun τ4 h4 => ?_)
    refine V_ildn3 a_X8_putSlice_22 ?_
    refine V_if_le_t a_X8_putSlice_23 (by omega) (by omega) ?_
    exact V_ret a_X8_putSlice_37 (⟨rfl, f3.trans h4.1, h4.2⟩)
  · rw [if_neg z]
    refine V_aldn0 a_X8_putSlice_17 ?_
    refine V_ildn2 a_X8_putSlice_18 ?_
    refine V_v1PV a_X8_putSlice_19 c_X8_31 r4 (fun τ4 h4 => ?_)
    refine V_ildn3 a_X8_putSlice_22 ?_
    refine V_if_le_f a_X8_putSlice_23 (by omega) (by omega) ?_
    skip
    have f4 := f3.trans h4.1
    have r5 := R_put (c := 45) (f4.wf hW) h4.2 (by omega) (by decide)
    refine V_aldn0 a_X8_putSlice_26 ?_
    refine V_bipush a_X8_putSlice_27 (by decide) ?_
    refine V_v1PV a_X8_putSlice_29 c_X8_37 r5 (fun τ5 h5 => ?_)
    skip
    have f5 := f4.trans h5.1
    have n5 : ((L ++ [32] ++ dg l ++ [58] ++ dg s ++ [45]).length : Int) ≤ L.length + 9 := by
      rw [List.length_append]
      show (((L ++ [32] ++ dg l ++ [58] ++ dg s).length + 1 : Nat) : Int) ≤ _
      omega
    have r6 := R_putNumber (v := r) (f5.wf hW) h5.2 (by omega) (by omega)
    rw [show L ++ [32] ++ dg l ++ [58] ++ dg s ++ [45] ++ dg r = L ++ ([32] ++ dg l ++ [58] ++ dg s ++ ([45] ++ dg r)) by simp only [List.append_assoc]] at r6
    refine V_aldn0 a_X8_putSlice_32 ?_
    refine V_ildn3 a_X8_putSlice_33 ?_
    refine V_v1PV a_X8_putSlice_34 c_X8_31 r6 (fun τ6 h6 => ?_)
    exact V_ret a_X8_putSlice_37 (⟨rfl, f5.trans h6.1, h6.2⟩)
theorem cat_ext {f : Int → List Int} {n m : Int} (n0 : 0 ≤ n) (nm : n ≤ m) (h : ∀ j, n ≤ j → j < m → f j = []) : cat f m = cat f n := by
  refine loopF (P := fun z => cat f (m - (z - n)) = cat f n) (a := n) (N := m) nm ?_ ?_ |> fun z => by rw [Int.sub_self, Int.sub_zero] at z; exact z
  · rw [show m - (m - n) = n by omega]
  · intro z z0 z1 ih
    rw [show m - (z - n) = (m - (z + 1 - n)) + 1 by omega, cat_s (by omega), h _ (by omega) (by omega), List.append_nil]
    exact ih
theorem R_putLoan {k : Int} (hc : Cl D σ i A) (h : Pg σ L) (hk : 0 ≤ k ∧ k < A 7) (hn : (L.length : Int) + 160 ≤ 2200) : Cv m_X8_putLoan 5 0 0 [vR (some (8, 0)), vR (some (3, lid σ i k))] σ none (fun τ => Fm [8, 35] σ τ ∧ Pg τ (L ++ lnL A k)) := by
  have hcl := hc
  obtain ⟨hD, hW, hR, hS, hI⟩ := hc
  have hnn := hI.n
  have lns := hR.lns k hk.1 hk.2
  obtain ⟨q0, q1, q2, q3, q4, q5⟩ := hI.loan hk.1 hk.2
  have hq := quan_Sl ((hI.loan hk.1 hk.2).Sl hD (by omega) (by omega) (by omega))
  have l1 := dg_8 (v := A (83 + 23 * k + 0)) (by omega) (by omega)
  have l2 := dg_6 (v := quanA A k) (by omega) (by omega)
  have e6 : cat (slL A k) 6 = cat (slL A k) (A 1) := cat_ext (by omega) (by omega) (fun j j0 j1 => by
    unfold slL
    rw [if_pos ((q5 j (by omega) j1).2.2.2 j0)])
  have s13 : (slen 13 : Int) = 5 := by decide
  have s14 : (slen 14 : Int) = 4 := by decide
  have r1 := R_putWord (j := 13) hW h (by decide) (by omega)
  show V _ 5 0 0 0 [some (vR (some (8, 0))), some (vR (some (3, lid σ i k))), none] [] σ _
  refine V_aldn0 a_X8_putLoan_0 ?_
  refine V_ldcS a_X8_putLoan_1 sr_X8_49 ?_
  refine V_v1PV a_X8_putLoan_3 c_X8_21 r1 (fun τ1 h1 => ?_)
  skip
  have w13 : ((wL 13).length : Int) = 5 := by
    unfold wL
    rw [wP_len]
    exact s13
  have w14 : ((wL 14).length : Int) = 4 := by
    unfold wL
    rw [wP_len]
    exact s14
  have n1 : ((L ++ wL 13).length : Int) = L.length + 5 := by rw [List.length_append]; omega
  have g0 : τ1.I 3 (lid σ i k) 0 = A (83 + 23 * k + 0) := by
    rw [h1.1.I (by decide)]
    exact lns.1
  have r2 := R_putNumber (v := A (83 + 23 * k + 0)) (h1.1.wf hW) h1.2 (by omega) (by omega)
  refine V_aldn0 a_X8_putLoan_6 ?_
  refine V_aldn1 a_X8_putLoan_7 ?_
  refine V_getIE a_X8_putLoan_8 f_X8_51 rfl g0 ?_
  refine V_v1PV a_X8_putLoan_11 c_X8_31 r2 (fun τ2 h2 => ?_)
  skip
  have f2 := h1.1.trans h2.1
  have n2 : ((L ++ wL 13 ++ dg (A (83 + 23 * k + 0))).length : Int) ≤ L.length + 13 := by rw [List.length_append]; omega
  have r3 := R_putWord (j := 14) (f2.wf hW) h2.2 (by decide) (by omega)
  refine V_aldn0 a_X8_putLoan_14 ?_
  refine V_ldcS a_X8_putLoan_15 sr_X8_56 ?_
  refine V_v1PV a_X8_putLoan_17 c_X8_21 r3 (fun τ3 h3 => ?_)
  skip
  have f3 := f2.trans h3.1
  have n3 : ((L ++ wL 13 ++ dg (A (83 + 23 * k + 0)) ++ wL 14).length : Int) ≤ L.length + 17 := by rw [List.length_append]; omega
  have cl3 : Cl D τ3 i A := hcl.fm f3 (by decide)
  have rq := R_qty6 cl3 hk
  have el : lid τ3 i k = lid σ i k := by
    unfold lid
    rw [f3.2.1]
  rw [el] at rq
  have r4 := R_putNumber (v := quanA A k) (f3.wf hW) h3.2 (by omega) (by omega)
  refine V_aldn0 a_X8_putLoan_20 ?_
  refine V_aldn1 a_X8_putLoan_21 ?_
  refine V_v0R a_X8_putLoan_22 c_X8_58 rq ?_
  refine V_v1PV a_X8_putLoan_25 c_X8_31 r4 (fun τ4 h4 => ?_)
  skip
  have f4 := f3.trans h4.1
  have n4 : ((L ++ wL 13 ++ dg (A (83 + 23 * k + 0)) ++ wL 14 ++ dg (quanA A k)).length : Int) ≤ L.length + 23 := by rw [List.length_append]; omega
  have p4 := h4.2
  have eln : lnL A k = wL 13 ++ dg (A (83 + 23 * k + 0)) ++ wL 14 ++ dg (quanA A k) ++ cat (slL A k) 6 ++ [10] := by
    rw [e6]
    rfl
  rw [eln]
  generalize hM : L ++ wL 13 ++ dg (A (83 + 23 * k + 0)) ++ wL 14 ++ dg (quanA A k) = M at p4 n4
  have eM : L ++ (wL 13 ++ dg (A (83 + 23 * k + 0)) ++ wL 14 ++ dg (quanA A k) ++ cat (slL A k) 6 ++ [10]) = M ++ cat (slL A k) 6 ++ [10] := by
    rw [← hM]
    simp only [List.append_assoc]
  rw [eM]
  have hlen : ∀ m, 0 ≤ m → m ≤ 6 → ((M ++ cat (slL A k) m).length : Int) ≤ L.length + 23 + 14 * 6 := fun m m0 m1 => by
    have := cat_len (f := slL A k) (n := m) (m := 14) m0 (fun l l0 l1 => slL_len hI hk.1 hk.2 l0 (by omega))
    rw [List.length_append]
    omega
  refine V_iconst a_X8_putLoan_28 ?_
  refine V_istn2 a_X8_putLoan_29 ?_
  refine loopI (P := fun l => ∀ τ, Fm [8, 35] σ τ → Pg τ (M ++ cat (slL A k) l) → V _ 5 0 0 30 [some (vR (some (8, 0))), some (vR (some (3, lid σ i k))), some (vI l)] [] τ _) (N := 6) (by decide) ?_ ?_ τ4 f4 (by rw [show cat (slL A k) 0 = [] from rfl, List.append_nil]; exact p4)
  · intro τ f hp
    have := hlen 6 (by decide) (by decide)
    have rp := R_put (c := 10) (f.wf hW) hp (by omega) (by decide)
    refine V_ildn2 a_X8_putLoan_30 ?_
    refine V_bipush a_X8_putLoan_31 (by decide) ?_
    refine V_icmp_ge_t a_X8_putLoan_33 (by omega) (by omega) ?_
    refine V_aldn0 a_X8_putLoan_68 ?_
    refine V_bipush a_X8_putLoan_69 (by decide) ?_
    refine V_v1PV a_X8_putLoan_71 c_X8_37 rp (fun τ5 h5 => ?_)
    exact V_ret a_X8_putLoan_74 (⟨rfl, f.trans h5.1, h5.2⟩)
  · intro l l0 l1 ih τ f hp
    have hlb := hlen l l0 (by omega)
    have gs : τ.I 30 (lid σ i k) l = A (83 + 23 * k + 5 + l) ∧ τ.I 31 (lid σ i k) l = A (83 + 23 * k + 11 + l) := by
      rw [f.I (by decide), f.I (by decide)]
      exact ⟨(lns.2.2.2.2.2 l l0 l1).1, (lns.2.2.2.2.2 l l0 l1).2.1⟩
    have sb2 := (q5 l l0 l1).1
    have hWt := f.wf hW
    have hW := hWt
    by_cases z : A (83 + 23 * k + 5 + l) = 0
    · have es : slL A k l = [] := if_pos z
      have ih2 := ih τ f (by rw [cat_s l0, es, List.append_nil]; exact hp)
      refine V_ildn2 a_X8_putLoan_30 ?_
      refine V_bipush a_X8_putLoan_31 (by decide) ?_
      refine V_icmp_ge_f a_X8_putLoan_33 (by omega) (by omega) ?_
      refine V_aldn1 a_X8_putLoan_36 ?_
      refine V_fin a_X8_putLoan_37 f_X8_62 rfl hW ?_
      refine V_ildn2 a_X8_putLoan_40 ?_
      refine V_ialdE a_X8_putLoan_41 rfl (by omega) gs.1 ?_
      refine V_if_le_t a_X8_putLoan_42 (by omega) (by omega) ?_
      refine V_inc2 a_X8_putLoan_62 ?_
      refine V_goto a_X8_putLoan_65 ?_
      exact ih2
    · have rs := R_putSlice (l := l) (s := A (83 + 23 * k + 5 + l)) (r := A (83 + 23 * k + 11 + l)) hWt hp ⟨l0, l1⟩ (by omega) (by omega) (by omega)
      have es : slL A k l = [32] ++ dg l ++ [58] ++ dg (A (83 + 23 * k + 5 + l)) ++ (if A (83 + 23 * k + 11 + l) = 0 then [] else [45] ++ dg (A (83 + 23 * k + 11 + l))) := if_neg z
      rw [← es, List.append_assoc, ← cat_s l0] at rs
      refine V_ildn2 a_X8_putLoan_30 ?_
      refine V_bipush a_X8_putLoan_31 (by decide) ?_
      refine V_icmp_ge_f a_X8_putLoan_33 (by omega) (by omega) ?_
      refine V_aldn1 a_X8_putLoan_36 ?_
      refine V_fin a_X8_putLoan_37 f_X8_62 rfl hW ?_
      refine V_ildn2 a_X8_putLoan_40 ?_
      refine V_ialdE a_X8_putLoan_41 rfl (by omega) gs.1 ?_
      refine V_if_le_f a_X8_putLoan_42 (by omega) (by omega) ?_
      refine V_aldn0 a_X8_putLoan_45 ?_
      refine V_ildn2 a_X8_putLoan_46 ?_
      refine V_aldn1 a_X8_putLoan_47 ?_
      refine V_fin a_X8_putLoan_48 f_X8_62 rfl hW ?_
      refine V_ildn2 a_X8_putLoan_51 ?_
      refine V_ialdE a_X8_putLoan_52 rfl (by omega) gs.1 ?_
      refine V_aldn1 a_X8_putLoan_53 ?_
      refine V_fin a_X8_putLoan_54 f_X8_65 rfl hW ?_
      refine V_ildn2 a_X8_putLoan_57 ?_
      refine V_ialdE a_X8_putLoan_58 rfl (by omega) gs.2 ?_
      refine V_v3PV a_X8_putLoan_59 c_X8_68 rs (fun τ5 h5 => ?_)
      refine V_inc2 a_X8_putLoan_62 ?_
      refine V_goto a_X8_putLoan_65 ?_
      exact ih τ5 (f.trans h5.1) h5.2
theorem R_write (hc : Cl D σ i A) : Cv m_X8_write 6 0 0 [vR (some (8, 0)), vR (some (6, i))] σ none (fun τ => Fm [8, 35] σ τ ∧ Pg τ (rpL A)) := by
  have hcl := hc
  obtain ⟨hD, hW, hR, hS, hI⟩ := hc
  have hnn := hI.n
  have g5 := hR.1.2.2.2.2.2.1
  have g3 := hR.1.2.2.2.1
  have l1 := dg_8 (v := A 6) (by omega) (by omega)
  have l2 := dg_2 (v := A 7) (by omega) (by omega)
  have w11 : ((wL 11).length : Int) = 4 := by
    unfold wL
    rw [wP_len]
    decide
  have w12 : ((wL 12).length : Int) = 7 := by
    unfold wL
    rw [wP_len]
    decide
  have f0 : Fm [8, 35] σ (σ.setI 8 0 0 0) := Fm.setI (by decide)
  have p0 : Pg (σ.setI 8 0 0 0) [] := ⟨setI_I, by decide, fun j j0 j1 => by
    have : j < 0 := j1
    omega⟩
  have r1 := R_putWord (j := 11) (f0.wf hW) p0 (by decide) (by decide)
  show V _ 6 0 0 0 [some (vR (some (8, 0))), some (vR (some (6, i))), none] [] σ _
  refine V_aldn0 a_X8_write_0 ?_
  refine V_iconst a_X8_write_1 ?_
  refine V_putI a_X8_write_2 f_X8_15 rfl ?_
  refine V_aldn0 a_X8_write_5 ?_
  refine V_ldcS a_X8_write_6 sr_X8_19 ?_
  refine V_v1PV a_X8_write_8 c_X8_21 r1 (fun τ1 h1 => ?_)
  skip
  rw [List.nil_append] at h1
  have f1 := f0.trans h1.1
  have hW1 := f1.wf hW
  have g5a : τ1.I 36 i 5 = A 6 := by
    rw [f1.I (by decide)]
    exact g5
  have r2 := R_putNumber (v := A 6) hW1 h1.2 (by omega) (by omega)
  have hW' := hW
  have hW := hW1
  refine V_aldn0 a_X8_write_11 ?_
  refine V_aldn1 a_X8_write_12 ?_
  refine V_fin a_X8_write_13 f_X8_25 rfl hW ?_
  refine V_iconst a_X8_write_16 ?_
  refine V_ialdE a_X8_write_17 rfl (by omega) g5a ?_
  refine V_v1PV a_X8_write_18 c_X8_31 r2 (fun τ2 h2 => ?_)
  skip
  have f2 := f1.trans h2.1
  have hW2 := f2.wf hW'
  have n2 : ((wL 11 ++ dg (A 6)).length : Int) ≤ 12 := by rw [List.length_append]; omega
  have r3 := R_putWord (j := 12) hW2 h2.2 (by decide) (by
    have : (slen 12 : Int) = 7 := by decide
    omega)
  have hW := hW2
  refine V_aldn0 a_X8_write_21 ?_
  refine V_ldcS a_X8_write_22 sr_X8_35 ?_
  refine V_v1PV a_X8_write_24 c_X8_21 r3 (fun τ3 h3 => ?_)
  skip
  have f3 := f2.trans h3.1
  have hW3 := f3.wf hW'
  have n3 : ((wL 11 ++ dg (A 6) ++ wL 12).length : Int) ≤ 19 := by rw [List.length_append]; omega
  have g3a : τ3.I 36 i 3 = A 7 := by
    rw [f3.I (by decide)]
    exact g3
  have r4 := R_putNumber (v := A 7) hW3 h3.2 (by omega) (by omega)
  have hW := hW3
  refine V_aldn0 a_X8_write_27 ?_
  refine V_aldn1 a_X8_write_28 ?_
  refine V_fin a_X8_write_29 f_X8_25 rfl hW ?_
  refine V_iconst a_X8_write_32 ?_
  refine V_ialdE a_X8_write_33 rfl (by omega) g3a ?_
  refine V_v1PV a_X8_write_34 c_X8_31 r4 (fun τ4 h4 => ?_)
  skip
  have f4 := f3.trans h4.1
  have hW4 := f4.wf hW'
  have n4 : ((wL 11 ++ dg (A 6) ++ wL 12 ++ dg (A 7)).length : Int) ≤ 21 := by rw [List.length_append]; omega
  have r5 := R_put (c := 10) hW4 h4.2 (by omega) (by decide)
  have hW := hW4
  refine V_aldn0 a_X8_write_37 ?_
  refine V_bipush a_X8_write_38 (by decide) ?_
  refine V_v1PV a_X8_write_40 c_X8_37 r5 (fun τ5 h5 => ?_)
  skip
  have f5 := f4.trans h5.1
  have n5 : ((wL 11 ++ dg (A 6) ++ wL 12 ++ dg (A 7) ++ [10]).length : Int) ≤ 22 := by
    rw [List.length_append]
    show (((wL 11 ++ dg (A 6) ++ wL 12 ++ dg (A 7)).length + 1 : Nat) : Int) ≤ _
    omega
  have p5 := h5.2
  unfold rpL
  generalize wL 11 ++ dg (A 6) ++ wL 12 ++ dg (A 7) ++ [10] = M at p5 n5 ⊢
  have hlen : ∀ m, 0 ≤ m → m ≤ A 7 → ((M ++ cat (lnL A) m).length : Int) ≤ 22 + 108 * m := fun m m0 m1 => by
    have := cat_len (f := lnL A) (n := m) (m := 108) m0 (fun l l0 l1 => lnL_len hD hI l0 (by omega))
    rw [List.length_append]
    omega
  refine V_iconst a_X8_write_43 ?_
  refine V_istn2 a_X8_write_44 ?_
  refine loopI (P := fun k => ∀ τ, Fm [8, 35] σ τ → Pg τ (M ++ cat (lnL A) k) → V _ 6 0 0 45 [some (vR (some (8, 0))), some (vR (some (6, i))), some (vI k)] [] τ _) (N := A 7) (by omega) ?_ ?_ τ5 f5 (by rw [show cat (lnL A) 0 = [] from rfl, List.append_nil]; exact p5)
  · intro τ f hp
    have n3 : τ.I 36 i 3 = A 7 := by
      rw [f.I (by decide)]
      exact g3
    have hW := f.wf hW'
    refine V_ildn2 a_X8_write_45 ?_
    refine V_aldn1 a_X8_write_46 ?_
    refine V_fin a_X8_write_47 f_X8_25 rfl hW ?_
    refine V_iconst a_X8_write_50 ?_
    refine V_ialdE a_X8_write_51 rfl (by omega) n3 ?_
    refine V_icmp_ge_t a_X8_write_52 (by omega) (by omega) ?_
    exact V_ret a_X8_write_71 (⟨rfl, f, hp⟩)
  · intro k k0 k1 ih τ f hp
    have n3 : τ.I 36 i 3 = A 7 := by
      rw [f.I (by decide)]
      exact g3
    have hlb := hlen k k0 (by omega)
    have clt : Cl D τ i A := hcl.fm f (by decide)
    have rl := R_putLoan (k := k) clt hp ⟨k0, k1⟩ (by omega)
    rw [List.append_assoc, ← cat_s k0] at rl
    have hL := clt.2.2.2.1.L
    have hW := clt.2.1
    refine V_ildn2 a_X8_write_45 ?_
    refine V_aldn1 a_X8_write_46 ?_
    refine V_fin a_X8_write_47 f_X8_25 rfl hW ?_
    refine V_iconst a_X8_write_50 ?_
    refine V_ialdE a_X8_write_51 rfl (by omega) n3 ?_
    refine V_icmp_ge_f a_X8_write_52 (by omega) (by omega) ?_
    refine V_aldn0 a_X8_write_55 ?_
    refine V_aldn1 a_X8_write_56 ?_
    refine V_fin a_X8_write_57 f_X8_41 rfl hW ?_
    refine V_ildn2 a_X8_write_60 ?_
    refine V_aald a_X8_write_61 rfl (by omega) (hL _ (by omega) (by omega)) ?_
    refine V_v1PV a_X8_write_62 c_X8_45 rl (fun τ6 h6 => ?_)
    refine V_inc2 a_X8_write_65 ?_
    refine V_goto a_X8_write_68 ?_
    exact ih τ6 (f.trans h6.1) h6.2
end Rp2

