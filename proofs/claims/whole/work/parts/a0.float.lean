theorem fp_t : Jvm.FP.Core.b64.tails = 4503599627370496 := by decide
theorem fp_e : Jvm.FP.Core.b64.exps = 2048 := by decide
theorem fp_p : 2 ^ Jvm.FP.Core.b64.p = 9007199254740992 := by decide
theorem fp_lo : Jvm.FP.Core.b64.qmin = -1074 := by decide
theorem fp_hi : Jvm.FP.Core.b64.qmax = 971 := by decide
theorem fp_as {s : Bool} {e t : Nat} : Jvm.FP.Core.assemble Jvm.FP.Core.b64 s e t = s.toNat * 9223372036854775808 + (e * 4503599627370496 + t) := by
  unfold Jvm.FP.Core.assemble
  rw [fp_t, fp_e]
  omega
/-- a number in its bounds is no NaN -/
def FpOk (d : Jvm.FP.Core.Datum) : Prop := ∃ g m : Nat, g ≤ 1 ∧ m ≤ 9218868437227405312 ∧ Jvm.FP.Core.encode Jvm.FP.Core.b64 d = g * 9223372036854775808 + m
theorem fp_fin {s : Bool} {c : Nat} {q : Int} (hc : c < 9007199254740992) (hq : q ≤ 971) : FpOk (.fin s c q) := by
  have hs : s.toNat ≤ 1 := by cases s <;> decide
  unfold FpOk
  show ∃ g m : Nat, g ≤ 1 ∧ m ≤ 9218868437227405312 ∧ (if c < Jvm.FP.Core.b64.tails then Jvm.FP.Core.assemble Jvm.FP.Core.b64 s 0 c else Jvm.FP.Core.assemble Jvm.FP.Core.b64 s ((q - Jvm.FP.Core.b64.qmin).toNat + 1) (c - Jvm.FP.Core.b64.tails)) = g * 9223372036854775808 + m
  rw [fp_t, fp_lo, fp_as, fp_as]
  split
  · exact ⟨s.toNat, 0 * 4503599627370496 + c, hs, by omega, rfl⟩
  · exact ⟨s.toNat, ((q - -1074).toNat + 1) * 4503599627370496 + (c - 4503599627370496), hs, by omega, rfl⟩
theorem fp_inf {s : Bool} : FpOk (.inf s) := by
  have hs : s.toNat ≤ 1 := by cases s <;> decide
  unfold FpOk
  show ∃ g m : Nat, g ≤ 1 ∧ m ≤ 9218868437227405312 ∧ Jvm.FP.Core.assemble Jvm.FP.Core.b64 s (Jvm.FP.Core.b64.exps - 1) 0 = g * 9223372036854775808 + m
  rw [fp_e, fp_as]
  exact ⟨s.toNat, (2048 - 1) * 4503599627370496 + 0, hs, by omega, rfl⟩
theorem fp_bound {s : Bool} {c : Nat} {q : Int} (hc : c < 9007199254740992) : FpOk (Jvm.FP.Core.bound Jvm.FP.Core.b64 s c q) := by
  unfold Jvm.FP.Core.bound
  rw [fp_hi]
  split
  · rename_i h
    exact fp_fin hc h
  · exact fp_inf
theorem fp_ratio {s : Bool} {num den : Nat} {e : Int} : FpOk (Jvm.FP.Core.roundRatio Jvm.FP.Core.b64 s num den e) := by
  unfold Jvm.FP.Core.roundRatio
  split
  · rw [fp_lo]
    exact fp_fin (by decide) (by decide)
  · unfold Jvm.FP.Core.roundAt Jvm.FP.Core.settle
    rw [fp_p, fp_t]
    split
    · rename_i h
      exact fp_bound h
    · exact fp_bound (by decide)
/-- a whole number as a double -/
theorem fp_int {i : Nat} (hi : i < 1048576) : ∃ (s : Bool) (c : Nat) (q : Int), Jvm.FP.Core.decode Jvm.FP.Core.b64 (Jvm.FP.Core.fromInt Jvm.FP.Core.b64 (i : Int)) = .fin s c q ∧ (i ≠ 0 → c ≠ 0) ∧ Jvm.FP.Core.fromInt Jvm.FP.Core.b64 (i : Int) < 18446744073709551616 := by
  by_cases h0 : i = 0
  · subst h0
    exact ⟨false, 0, -1074, by decide, fun z => absurd rfl z, by decide⟩
  · have hL1 : 2 ^ i.log2 ≤ i := Nat.log2_self_le h0
    have hL2 : i < 2 ^ (i.log2 + 1) := Nat.lt_log2_self
    have hL3 : i.log2 < 20 := (Nat.log2_lt h0).mpr hi
    generalize hL : i.log2 = L at hL1 hL2 hL3
    have el : Jvm.FP.Core.leading i 1 = (L : Int) := by
      unfold Jvm.FP.Core.leading
      rw [hL, show Nat.log2 1 = 0 by decide]
      show (if 1 * 2 ^ ((L : Int) - ((0 : Nat) : Int)).toNat ≤ i * 2 ^ (-((L : Int) - ((0 : Nat) : Int))).toNat then (L : Int) - ((0 : Nat) : Int) else (L : Int) - ((0 : Nat) : Int) - 1) = (L : Int)
      rw [show ((L : Int) - ((0 : Nat) : Int)).toNat = L by omega, show (-((L : Int) - ((0 : Nat) : Int))).toNat = 0 by omega, if_pos (by omega)]
      omega
    have eq : Jvm.FP.Core.quantum Jvm.FP.Core.b64 i 1 0 = (L : Int) - 52 := by
      unfold Jvm.FP.Core.quantum
      rw [el, fp_lo, show ((Jvm.FP.Core.b64.p : Nat) : Int) = 53 from rfl]
      omega
    have e52 : 2 ^ L * 2 ^ (52 - L) = 4503599627370496 := by
      rw [← Nat.pow_add, show L + (52 - L) = 52 by omega]
    have e53 : 2 ^ (L + 1) * 2 ^ (52 - L) = 9007199254740992 := by
      rw [← Nat.pow_add, show L + 1 + (52 - L) = 53 by omega]
    have hc1 : 4503599627370496 ≤ i * 2 ^ (52 - L) := by
      rw [← e52]
      exact Nat.mul_le_mul_right _ hL1
    have hc2 : i * 2 ^ (52 - L) < 9007199254740992 := by
      rw [← e53]
      exact (Nat.mul_lt_mul_right (Nat.pow_pos (by decide))).mpr hL2
    have er : Jvm.FP.Core.round Jvm.FP.Core.b64 (Jvm.FP.Core.ofInt (i : Int)) = .fin false (i * 2 ^ (52 - L)) ((L : Int) - 52) := by
      show Jvm.FP.Core.roundRatio Jvm.FP.Core.b64 (decide ((i : Int) < 0)) (i : Int).natAbs 1 0 = _
      rw [Int.natAbs_natCast, decide_eq_false (by omega)]
      unfold Jvm.FP.Core.roundRatio
      rw [if_neg h0]
      unfold Jvm.FP.Core.roundAt
      rw [eq]
      unfold Jvm.FP.Core.unitsNum Jvm.FP.Core.unitsDen
      rw [show (0 - ((L : Int) - 52)).toNat = 52 - L by omega, show ((L : Int) - 52 - 0).toNat = 0 by omega]
      unfold Jvm.FP.Core.nearest
      rw [show 1 * 2 ^ 0 = 1 from rfl, Nat.mod_one, if_pos (by decide), Nat.div_one]
      unfold Jvm.FP.Core.settle
      rw [fp_p, if_pos hc2]
      unfold Jvm.FP.Core.bound
      rw [fp_hi, if_pos (by omega)]
    have ef : Jvm.FP.Core.fromInt Jvm.FP.Core.b64 (i : Int) = (L + 1023) * 4503599627370496 + (i * 2 ^ (52 - L) - 4503599627370496) := by
      unfold Jvm.FP.Core.fromInt
      rw [er]
      show (if i * 2 ^ (52 - L) < Jvm.FP.Core.b64.tails then Jvm.FP.Core.assemble Jvm.FP.Core.b64 false 0 (i * 2 ^ (52 - L)) else Jvm.FP.Core.assemble Jvm.FP.Core.b64 false (((L : Int) - 52 - Jvm.FP.Core.b64.qmin).toNat + 1) (i * 2 ^ (52 - L) - Jvm.FP.Core.b64.tails)) = _
      rw [fp_t, fp_lo, if_neg (by omega), fp_as]
      show 0 * 9223372036854775808 + _ = _
      rw [show ((L : Int) - 52 - -1074).toNat + 1 = L + 1023 by omega]
      omega
    rw [ef]
    generalize i * 2 ^ (52 - L) = c at hc1 hc2
    have eE : Jvm.FP.Core.fieldE Jvm.FP.Core.b64 ((L + 1023) * 4503599627370496 + (c - 4503599627370496)) = L + 1023 := by
      unfold Jvm.FP.Core.fieldE
      rw [fp_t, fp_e]
      omega
    refine ⟨Jvm.FP.Core.fieldS Jvm.FP.Core.b64 ((L + 1023) * 4503599627370496 + (c - 4503599627370496)), 4503599627370496 + Jvm.FP.Core.fieldT Jvm.FP.Core.b64 ((L + 1023) * 4503599627370496 + (c - 4503599627370496)), Jvm.FP.Core.b64.qmin + (((L + 1023 : Nat) : Int) - 1), ?_, fun _ => by omega, by omega⟩
    unfold Jvm.FP.Core.decode
    rw [eE, fp_e, if_neg (by omega), if_neg (by omega), fp_t]
theorem fp_l2d {x : Int} (h0 : 0 ≤ x) (h1 : x < 1048576) : FP.l2d (i64 x) = .ofNat (Jvm.FP.Core.fromInt Jvm.FP.Core.b64 x) := by
  show UInt64.ofNat (Jvm.FP.Core.fromInt Jvm.FP.Core.b64 (i64 x).toInt) = _
  rw [n64 (by omega) (by omega)]
theorem fp_i2d {x : Int} (h0 : 0 ≤ x) (h1 : x < 1048576) : FP.i2d (i32 x) = FP.l2d (i64 x) := by
  rw [fp_l2d h0 h1]
  show UInt64.ofNat (Jvm.FP.Core.fromInt Jvm.FP.Core.b64 (i32 x).toInt) = _
  rw [n32 (by omega) (by omega)]
/-- a quotient of two numbers of shares is a number -/
theorem fp_div {x y : Int} (h0 : 0 ≤ x) (h1 : x < 1048576) (h2 : 0 < y) (h3 : y < 1048576) : vf_n64 (FP.ddiv (FP.l2d (i64 x)) (FP.l2d (i64 y))) := by
  obtain ⟨i, rfl⟩ : ∃ i : Nat, x = (i : Int) := ⟨x.toNat, by omega⟩
  obtain ⟨j, rfl⟩ : ∃ j : Nat, y = (j : Int) := ⟨y.toNat, by omega⟩
  obtain ⟨s, c, q, ex, -, bx⟩ := fp_int (i := i) (by omega)
  obtain ⟨t, d, r, ey, hd, byy⟩ := fp_int (i := j) (by omega)
  have hd := hd (by omega)
  have e1 : FP.ddiv (FP.l2d (i64 i)) (FP.l2d (i64 j)) = .ofNat (Jvm.FP.Core.encode Jvm.FP.Core.b64 (Jvm.FP.Core.roundRatio Jvm.FP.Core.b64 (s != t) c d (q - r))) := by
    rw [fp_l2d h0 h1, fp_l2d (by omega) h3]
    show UInt64.ofNat (Jvm.FP.Core.encode Jvm.FP.Core.b64 (Jvm.FP.Core.quotient Jvm.FP.Core.b64 (Jvm.FP.Core.decode Jvm.FP.Core.b64 (UInt64.ofNat (Jvm.FP.Core.fromInt Jvm.FP.Core.b64 i)).toNat) (Jvm.FP.Core.decode Jvm.FP.Core.b64 (UInt64.ofNat (Jvm.FP.Core.fromInt Jvm.FP.Core.b64 j)).toNat))) = _
    rw [UInt64.toNat_ofNat_of_lt' bx, UInt64.toNat_ofNat_of_lt' byy, ex, ey]
    show UInt64.ofNat (Jvm.FP.Core.encode Jvm.FP.Core.b64 (if d = 0 then _ else _)) = _
    rw [if_neg hd]
  rw [e1]
  obtain ⟨g, m, hg, hm, ee⟩ := fp_ratio (s := s != t) (num := c) (den := d) (e := q - r)
  rw [ee]
  unfold vf_n64
  rw [UInt64.le_iff_toNat_le, UInt64.toNat_and, UInt64.toNat_ofNat_of_lt' (by show _ < 18446744073709551616; omega)]
  show (g * 9223372036854775808 + m) &&& 9223372036854775807 ≤ 9218868437227405312
  rw [show 9223372036854775807 = 2 ^ 63 - 1 from rfl, Nat.and_two_pow_sub_one_eq_mod]
  omega
def utV (a b : Int) : UInt64 := FP.ddiv (FP.l2d (i64 a)) (FP.l2d (i64 b))
def utL (A : St) (s : Int) : Int := sm (fun l => lentA A l s) (A 1)
def utH (A : St) (s : Int) : Int := sm (fun l => A (49 + 4 * l + s)) (A 1)
section Ut
variable {D : Int} {σ : Hp} {A : St}
theorem ut_bd (hI : Inv D A) {s : Int} (hs : 0 ≤ s ∧ s < 4) : (0 ≤ utL A s ∧ utL A s ≤ 599994) ∧ 0 ≤ utH A s ∧ utH A s ≤ 599994 := by
  have hn := hI.n
  have h1 := sm_bd (f := fun l => lentA A l s) (k := A 1) (lo := 0) (hi := 99999) (by omega) (fun l l0 l1 => lent_bd hI l0 (by omega) hs.1 hs.2)
  have h2 := sm_bd (f := fun l => A (49 + 4 * l + s)) (k := A 1) (lo := 0) (hi := 99999) (by omega) (fun l l0 l1 => hI.held l0 (by omega) hs.1 hs.2)
  unfold utL utH
  omega
theorem R_utilization {s : Int} (h : Md D σ A) (hs : iR s) : (¬ (0 ≤ s ∧ s < A 0) → Rt m_X11_utilization 3 0 0 [vR (some (11, 0)), vI s] σ (some (vD FP.dconst0)) (σ.th 1)) ∧ ((0 ≤ s ∧ s < A 0) → (utH A s = 0 → Rt m_X11_utilization 3 0 0 [vR (some (11, 0)), vI s] σ (some (vD FP.dconst0)) (σ.th 2)) ∧ (utH A s ≠ 0 → Rt m_X11_utilization 3 0 0 [vR (some (11, 0)), vI s] σ (some (vD (utV (utL A s) (utH A s)))) (σ.th 0))) := by
  have hI := h.2.2.2
  have hn := hI.n
  obtain ⟨b1, hb1, r1⟩ := B_isNoSecurity (s := s) h hs
  refine ⟨fun e => ?_, fun e => ?_⟩
  · have hb : b1 = 1 := by omega
    subst hb
    show V _ 3 0 0 0 [some (vR (some (11, 0))), some (vI s), none, none, none, none, none] [] σ _
    refine V_aldn0 a_X11_utilization_0 ?_
    refine V_ildn1 a_X11_utilization_1 ?_
    refine V_v1R a_X11_utilization_2 c_X11_349 r1 ?_
    refine V_if_eq_f a_X11_utilization_5 (by omega) (by omega) ?_
    refine V_dconst0 a_X11_utilization_8 ?_
    exact V_dret a_X11_utilization_9 (⟨rfl, rfl⟩)
  · have hb : b1 = 0 := by omega
    subst hb
    have hm : Md D (σ.th 0) A := h
    obtain ⟨-, hW, hA, -⟩ := id hm
    have hub := ut_bd hI (s := s) (by omega)
    have body : ∀ Q : Res → Hp → Prop, V m_X11_utilization 3 0 0 59 [some (vR (some (11, 0))), some (vI s), some (vL (utL A s)), none, some (vL (utH A s)), none, some (vI (A 1))] [] (σ.th 0) Q → V m_X11_utilization 3 0 0 0 [some (vR (some (11, 0))), some (vI s), none, none, none, none, none] [] σ Q := fun Q k59 => by
      refine V_aldn0 a_X11_utilization_0 ?_
      refine V_ildn1 a_X11_utilization_1 ?_
      refine V_v1R a_X11_utilization_2 c_X11_349 r1 ?_
      refine V_if_eq_t a_X11_utilization_5 (by omega) (by omega) ?_
      refine V_lconst0 a_X11_utilization_10 ?_
      refine V_lstn2 a_X11_utilization_11 ?_
      refine V_lconst0 a_X11_utilization_12 ?_
      refine V_lst4 a_X11_utilization_13 ?_
      refine V_iconst a_X11_utilization_15 ?_
      refine V_ist6 a_X11_utilization_16 ?_
      refine loopI (P := fun l => V _ 3 0 0 18 [some (vR (some (11, 0))), some (vI s), some (vL (sm (fun l => lentA A l s) l)), none, some (vL (sm (fun l => A (49 + 4 * l + s)) l)), none, some (vI l)] [] (σ.th 0) _) (N := A 1) (by omega) ?_ ?_
      · refine V_ild6 a_X11_utilization_18 ?_
        refine V_i2l a_X11_utilization_20 (by omega) ?_
        refine V_aldn0 a_X11_utilization_21 ?_
        refine V_fin a_X11_utilization_22 f_X11_7 rfl hW ?_
        refine V_iconst a_X11_utilization_25 ?_
        refine V_w a_X11_utilization_26 (by omega) hA ?_
        refine V_lc_ge_t a_X11_utilization_27 a_X11_utilization_28 (by omega) (by omega) ?_
        exact k59
      · intro l l0 l1 ih
        rw [sm_s _ l0, sm_s _ l0] at ih
        refine V_ild6 a_X11_utilization_18 ?_
        refine V_i2l a_X11_utilization_20 (by omega) ?_
        refine V_aldn0 a_X11_utilization_21 ?_
        refine V_fin a_X11_utilization_22 f_X11_7 rfl hW ?_
        refine V_iconst a_X11_utilization_25 ?_
        refine V_w a_X11_utilization_26 (by omega) hA ?_
        refine V_lc_ge_f a_X11_utilization_27 a_X11_utilization_28 (by omega) (by omega) ?_
        refine V_lldn2 a_X11_utilization_31 ?_
        refine V_aldn0 a_X11_utilization_32 ?_
        refine V_ild6 a_X11_utilization_33 ?_
        refine V_ildn1 a_X11_utilization_35 ?_
        refine V_v2R a_X11_utilization_36 c_X11_204 (R_lentBy hm (by omega) (by omega)) ?_
        refine V_ladd a_X11_utilization_39 ?_
        refine V_lstn2 a_X11_utilization_40 ?_
        refine V_lld4 a_X11_utilization_41 ?_
        refine V_aldn0 a_X11_utilization_43 ?_
        refine V_ild6 a_X11_utilization_44 ?_
        refine V_ildn1 a_X11_utilization_46 ?_
        refine V_v2R a_X11_utilization_47 c_X11_200 (R_holdingOf hm (by omega) (by omega)) ?_
        refine V_ladd a_X11_utilization_50 ?_
        refine V_lst4 a_X11_utilization_51 ?_
        refine V_inc6 a_X11_utilization_53 ?_
        refine V_goto a_X11_utilization_56 ?_
        exact ih
    refine ⟨fun z => body _ ?_, fun z => body _ ?_⟩
    · refine V_aldn0 a_X11_utilization_59 ?_
      refine V_lld4 a_X11_utilization_60 ?_
      refine V_lconst0 a_X11_utilization_62 ?_
      refine V_lc_ne_f a_X11_utilization_63 a_X11_utilization_64 (by omega) (by omega) ?_
      refine V_iconst a_X11_utilization_67 ?_
      refine V_goto a_X11_utilization_68 ?_
      refine V_iconst a_X11_utilization_72 ?_
      refine V_v2R a_X11_utilization_73 c_X11_72 R_fails1 ?_
      refine V_if_eq_f a_X11_utilization_76 (by omega) (by omega) ?_
      refine V_dconst0 a_X11_utilization_79 ?_
      refine V_goto a_X11_utilization_80 ?_
      exact V_dret a_X11_utilization_89 (⟨rfl, by rw [th_th]⟩)
    · have hnn := fp_div (x := utL A s) (y := utH A s) (by omega) (by omega) (by omega) (by omega)
      refine V_aldn0 a_X11_utilization_59 ?_
      refine V_lld4 a_X11_utilization_60 ?_
      refine V_lconst0 a_X11_utilization_62 ?_
      refine V_lc_ne_t a_X11_utilization_63 a_X11_utilization_64 (by omega) (by omega) ?_
      refine V_iconst a_X11_utilization_71 ?_
      refine V_iconst a_X11_utilization_72 ?_
      refine V_v2R a_X11_utilization_73 c_X11_72 R_fails0 ?_
      refine V_if_eq_t a_X11_utilization_76 (by omega) (by omega) ?_
      refine V_lldn2 a_X11_utilization_83 ?_
      refine V_l2d a_X11_utilization_84 ?_
      refine V_lld4 a_X11_utilization_85 ?_
      refine V_l2d a_X11_utilization_87 ?_
      refine V_ddiv a_X11_utilization_88 hnn ?_
      exact V_dret a_X11_utilization_89 (⟨rfl, by rw [th_th]⟩)
end Ut

