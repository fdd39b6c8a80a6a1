/-- the number that n digits from f on spell -/
def nvA (T : Int → Int) (e f n : Int) : Int := itr (fun j v => 10 * v + bAt T e (f + j) - 48) n 0
theorem nvA_s {T : Int → Int} {e f n : Int} (h : 0 ≤ n) : nvA T e f (n + 1) = 10 * nvA T e f n + bAt T e (f + n) - 48 := itr_s _ h _
theorem nvA_bd {T : Int → Int} {e f n : Int} (h0 : 0 ≤ n) (h7 : n ≤ 7) (hd : ∀ j, 0 ≤ j → j < n → 48 ≤ bAt T e (f + j) ∧ bAt T e (f + j) ≤ 57) : 0 ≤ nvA T e f n ∧ nvA T e f n < 10000000 := by
  have h1 : 0 ≤ nvA T e f n ∧ nvA T e f n < (10 : Int) ^ n.toNat := by
    refine itr_ind (f := fun j v => 10 * v + bAt T e (f + j) - 48) (a := (0 : Int)) (fun n v => 0 ≤ v ∧ v < (10 : Int) ^ n.toNat) (by decide) h0 (fun k x k0 k1 hx => ?_)
    have h2 := hd k k0 k1
    show 0 ≤ 10 * x + bAt T e (f + k) - 48 ∧ 10 * x + bAt T e (f + k) - 48 < _
    rw [show (k + 1).toNat = k.toNat + 1 by omega, Int.pow_succ]
    omega
  have key : ∀ m : Nat, m ≤ 7 → (10 : Int) ^ m ≤ 10000000 := by decide
  have := key n.toNat (by omega)
  omega
def nuS (T : Int → Int) (e f t : Int) : Int := if isDg (bAt T e f) = true then (if 7 < t - f then 2 else 0) else 1
def nuW (T : Int → Int) (e f t : Int) : Int := if nuS T e f t = 0 then nvA T e f (t - f) else 0
def nuC (T : Int → Int) (e f t lo hi c : Int) : Int := if nuS T e f t = 0 then (if lo ≤ nuW T e f t ∧ nuW T e f t ≤ hi then 0 else c) else nuS T e f t
theorem dg_all {T : Int → Int} {e f : Int} (h : f ≤ e) (hd : isDg (bAt T e f) = true) : ∀ j, f ≤ j → j < tZ T e f → 48 ≤ bAt T e j ∧ bAt T e j ≤ 57 := fun j j0 j1 => by
  have h1 : ¬ isLt (bAt T e f) = true := fun z => by
    have := of_decide_eq_true z
    have := of_decide_eq_true hd
    omega
  unfold tZ at j1
  rw [if_neg h1, if_pos hd] at j1
  exact of_decide_eq_true ((skp_ok (p := isDg) (T := T) rfl h).2.2.1 j j0 j1)
theorem nuW_bd {T : Int → Int} {e f t : Int} (h : f ≤ e) (ht : t = tZ T e f) : 0 ≤ nuW T e f t ∧ nuW T e f t < 10000000 := by
  unfold nuW
  by_cases q : nuS T e f t = 0
  · rw [if_pos q]
    unfold nuS at q
    by_cases q1 : isDg (bAt T e f) = true
    · rw [if_pos q1] at q
      by_cases q2 : 7 < t - f
      · rw [if_pos q2] at q
        omega
      · have h2 := tZ_bd (T := T) h
        exact nvA_bd (by omega) (by omega) (fun j j0 j1 => dg_all h q1 (f + j) (by omega) (by omega))
    · rw [if_neg q1] at q
      omega
  · rw [if_neg q]
    omega
section Nu
variable {σ : Hp} {T : Int → Int} {e : Int}
theorem R_number1 {f t a d lo hi c : Int} (hd : 0 < d ∧ d < 100) : Rt m_X11_number 3 0 0 [vR (some (11, 0)), vL lo, vL hi, vI c] (σ.pz f t d a) (some (vI 0)) (σ.pz f t d a) := by
  show V _ 3 0 0 0 [some (vR (some (11, 0))), some (vL lo), none, some (vL hi), none, some (vI c), none, none] [] (σ.pz f t d a) _
  refine V_aldn0 a_X11_number_0 ?_
  refine V_getIE a_X11_number_1 f_X11_118 rfl pz_12 ?_
  refine V_if_le_f a_X11_number_4 (by omega) (by omega) ?_
  refine V_iconst a_X11_number_7 ?_
  exact V_iret a_X11_number_8 (⟨rfl, rfl⟩)
theorem R_number0 {f t a lo hi c : Int} (h : Tx σ T e) (hf : 0 ≤ f ∧ f ≤ e) (ht : t = tZ T e f) (hlo : 0 ≤ lo ∧ lo ≤ 100000000) (hhi : -100 ≤ hi ∧ hi ≤ 100000000) (hc : 0 < c ∧ c < 100) : Rt m_X11_number 3 0 0 [vR (some (11, 0)), vL lo, vL hi, vI c] (σ.pz f t 0 a) (some (vI (nuW T e f t))) (if nuC T e f t lo hi c = 0 then σ.pz (tF T e t) (tE T e t) 0 a else σ.pz f t (nuC T e f t lo hi c) f) := by
  have hbt := h.bt
  have h6 := h.2.2.2
  have hz := tZ_bd (T := T) hf.2
  rw [← ht] at hz
  have hbf := bAt_bd (e := e) (k := f) hbt
  have hw := nuW_bd hf.2 ht
  obtain ⟨b1, hb1, r1⟩ := B_in (σ := σ.pz f t 0 a) (v := bAt T e f) (x := 48) (y := 57) (by omega) (by omega) (by omega)
  have stuck : ∀ d : Int, 0 < d ∧ d < 100 → V m_X11_number 3 0 0 60 [some (vR (some (11, 0))), some (vL lo), none, some (vL hi), none, some (vI c), some (vI 0), none] [] (σ.pz f t d f) (fun r τ => r = .inl (some (vI 0)) ∧ τ = σ.pz f t d f) := fun d hd => by
    refine V_aldn0 a_X11_number_60 ?_
    refine V_getIE a_X11_number_61 f_X11_104 rfl pz_9 ?_
    refine V_ist7 a_X11_number_64 ?_
    refine V_ild7 a_X11_number_66 ?_
    refine V_aldn0 a_X11_number_68 ?_
    refine V_getIE a_X11_number_69 f_X11_101 rfl pz_10 ?_
    refine V_icmp_ge a_X11_number_72 (by omega) (fun hc72 => ?_) (fun hc72 => ?_)
    · refine V_aldn0 a_X11_number_105 ?_
      refine V_getIE a_X11_number_106 f_X11_118 rfl pz_12 ?_
      refine V_if_ne_t a_X11_number_109 (by omega) (by omega) ?_
      refine V_aldn0 a_X11_number_129 ?_
      refine V_v0V a_X11_number_130 c_X11_136 (R_pass1 hd) ?_
      refine V_ild6 a_X11_number_133 ?_
      exact V_iret a_X11_number_135 (⟨rfl, rfl⟩)
    · refine V_aldn0 a_X11_number_75 ?_
      refine V_getIE a_X11_number_76 f_X11_118 rfl pz_12 ?_
      refine V_if_ne_t a_X11_number_79 (by omega) (by omega) ?_
      refine V_aldn0 a_X11_number_105 ?_
      refine V_getIE a_X11_number_106 f_X11_118 rfl pz_12 ?_
      refine V_if_ne_t a_X11_number_109 (by omega) (by omega) ?_
      refine V_aldn0 a_X11_number_129 ?_
      refine V_v0V a_X11_number_130 c_X11_136 (R_pass1 hd) ?_
      refine V_ild6 a_X11_number_133 ?_
      exact V_iret a_X11_number_135 (⟨rfl, rfl⟩)
  show V _ 3 0 0 0 [some (vR (some (11, 0))), some (vL lo), none, some (vL hi), none, some (vI c), none, none] [] (σ.pz f t 0 a) _
  by_cases q1 : isDg (bAt T e f) = true
  · have q1' := of_decide_eq_true q1
    by_cases q2 : 7 < t - f
    · have es : nuS T e f t = 2 := by
        unfold nuS
        rw [if_pos q1, if_pos q2]
      have ec : nuC T e f t lo hi c = 2 := by
        unfold nuC
        rw [if_neg (by omega), es]
      have ew : nuW T e f t = 0 := by
        unfold nuW
        rw [if_neg (by omega)]
      rw [ec, ew, if_neg (by decide)]
      refine V_aldn0 a_X11_number_0 ?_
      refine V_getIE a_X11_number_1 f_X11_118 rfl pz_12 ?_
      refine V_if_le_t a_X11_number_4 (by omega) (by omega) ?_
      refine V_iconst a_X11_number_9 ?_
      refine V_ist6 a_X11_number_10 ?_
      refine V_aldn0 a_X11_number_12 ?_
      refine V_aldn0 a_X11_number_13 ?_
      refine V_getIE a_X11_number_14 f_X11_104 rfl pz_9 ?_
      refine V_v1R a_X11_number_17 c_X11_107 (R_byteAt h.pz (by omega)) ?_
      refine V_i2l a_X11_number_20 (by omega) ?_
      refine V_ldc2 a_X11_number_21 q_X11_114 ?_
      refine V_ldc2 a_X11_number_24 q_X11_116 ?_
      refine V_s3R a_X11_number_27 c_X11_61 r1 ?_
      refine V_if_ne_t a_X11_number_30 (by omega) (by omega) ?_
      refine V_aldn0 a_X11_number_41 ?_
      refine V_getIE a_X11_number_42 f_X11_101 rfl pz_10 ?_
      refine V_aldn0 a_X11_number_45 ?_
      refine V_getIE a_X11_number_46 f_X11_104 rfl pz_9 ?_
      refine V_isub a_X11_number_49 ?_
      refine V_bipush a_X11_number_50 (by decide) ?_
      refine V_icmp_le_f a_X11_number_52 (by omega) (by omega) ?_
      refine V_aldn0 a_X11_number_55 ?_
      refine V_iconst a_X11_number_56 ?_
      refine V_v1V a_X11_number_57 c_X11_133 R_wrong0 ?_
      exact stuck 2 (by omega)
    · have es : nuS T e f t = 0 := by
        unfold nuS
        rw [if_pos q1, if_neg q2]
      have ew : nuW T e f t = nvA T e f (t - f) := by
        unfold nuW
        rw [if_pos es]
      have ec : nuC T e f t lo hi c = if lo ≤ nuW T e f t ∧ nuW T e f t ≤ hi then 0 else c := by
        unfold nuC
        rw [if_pos es]
      rw [ec]
      have hall := dg_all hf.2 q1
      rw [← ht] at hall
      refine V_aldn0 a_X11_number_0 ?_
      refine V_getIE a_X11_number_1 f_X11_118 rfl pz_12 ?_
      refine V_if_le_t a_X11_number_4 (by omega) (by omega) ?_
      refine V_iconst a_X11_number_9 ?_
      refine V_ist6 a_X11_number_10 ?_
      refine V_aldn0 a_X11_number_12 ?_
      refine V_aldn0 a_X11_number_13 ?_
      refine V_getIE a_X11_number_14 f_X11_104 rfl pz_9 ?_
      refine V_v1R a_X11_number_17 c_X11_107 (R_byteAt h.pz (by omega)) ?_
      refine V_i2l a_X11_number_20 (by omega) ?_
      refine V_ldc2 a_X11_number_21 q_X11_114 ?_
      refine V_ldc2 a_X11_number_24 q_X11_116 ?_
      refine V_s3R a_X11_number_27 c_X11_61 r1 ?_
      refine V_if_ne_t a_X11_number_30 (by omega) (by omega) ?_
      refine V_aldn0 a_X11_number_41 ?_
      refine V_getIE a_X11_number_42 f_X11_101 rfl pz_10 ?_
      refine V_aldn0 a_X11_number_45 ?_
      refine V_getIE a_X11_number_46 f_X11_104 rfl pz_9 ?_
      refine V_isub a_X11_number_49 ?_
      refine V_bipush a_X11_number_50 (by decide) ?_
      refine V_icmp_le_t a_X11_number_52 (by omega) (by omega) ?_
      refine V_aldn0 a_X11_number_60 ?_
      refine V_getIE a_X11_number_61 f_X11_104 rfl pz_9 ?_
      refine V_ist7 a_X11_number_64 ?_
      refine loopF (P := fun k => V _ 3 0 0 66 [some (vR (some (11, 0))), some (vL lo), none, some (vL hi), none, some (vI c), some (vI (nvA T e f (k - f))), some (vI k)] [] (σ.pz f t 0 a) _) (a := f) (N := t) (by omega) ?_ ?_ |> (fun z => by rw [Int.sub_self] at z; exact z)
      · rw [← ew]
        obtain ⟨b2, hb2, r2⟩ := B_in (σ := σ.pz f t 0 a) (v := nuW T e f t) (x := lo) (y := hi) (by omega) (by omega) (by omega)
        by_cases q3 : lo ≤ nuW T e f t ∧ nuW T e f t ≤ hi
        · rw [if_pos q3, if_pos rfl]
          refine V_ild7 a_X11_number_66 ?_
          refine V_aldn0 a_X11_number_68 ?_
          refine V_getIE a_X11_number_69 f_X11_101 rfl pz_10 ?_
          refine V_icmp_ge_t a_X11_number_72 (by omega) (by omega) ?_
          refine V_aldn0 a_X11_number_105 ?_
          refine V_getIE a_X11_number_106 f_X11_118 rfl pz_12 ?_
          refine V_if_ne_f a_X11_number_109 (by omega) (by omega) ?_
          refine V_ild6 a_X11_number_112 ?_
          refine V_i2l a_X11_number_114 (by omega) ?_
          refine V_lldn1 a_X11_number_115 ?_
          refine V_lldn3 a_X11_number_116 ?_
          refine V_s3R a_X11_number_117 c_X11_61 r2 ?_
          refine V_if_ne_t a_X11_number_120 (by omega) (by omega) ?_
          refine V_aldn0 a_X11_number_129 ?_
          refine V_v0V a_X11_number_130 c_X11_136 (R_pass0 h (by omega)) ?_
          refine V_ild6 a_X11_number_133 ?_
          exact V_iret a_X11_number_135 (⟨rfl, rfl⟩)
        · rw [if_neg q3, if_neg (by omega)]
          refine V_ild7 a_X11_number_66 ?_
          refine V_aldn0 a_X11_number_68 ?_
          refine V_getIE a_X11_number_69 f_X11_101 rfl pz_10 ?_
          refine V_icmp_ge_t a_X11_number_72 (by omega) (by omega) ?_
          refine V_aldn0 a_X11_number_105 ?_
          refine V_getIE a_X11_number_106 f_X11_118 rfl pz_12 ?_
          refine V_if_ne_f a_X11_number_109 (by omega) (by omega) ?_
          refine V_ild6 a_X11_number_112 ?_
          refine V_i2l a_X11_number_114 (by omega) ?_
          refine V_lldn1 a_X11_number_115 ?_
          refine V_lldn3 a_X11_number_116 ?_
          refine V_s3R a_X11_number_117 c_X11_61 r2 ?_
          refine V_if_ne_f a_X11_number_120 (by omega) (by omega) ?_
          refine V_aldn0 a_X11_number_123 ?_
          refine V_ild5 a_X11_number_124 ?_
          refine V_v1V a_X11_number_126 c_X11_133 R_wrong0 ?_
          refine V_aldn0 a_X11_number_129 ?_
          refine V_v0V a_X11_number_130 c_X11_136 (R_pass1 hc) ?_
          refine V_ild6 a_X11_number_133 ?_
          exact V_iret a_X11_number_135 (⟨rfl, rfl⟩)
      · intro k k0 k1 ih
        have hk := hall k k0 k1
        rw [show k + 1 - f = (k - f) + 1 by omega, nvA_s (by omega), show f + (k - f) = k by omega] at ih
        refine V_ild7 a_X11_number_66 ?_
        refine V_aldn0 a_X11_number_68 ?_
        refine V_getIE a_X11_number_69 f_X11_101 rfl pz_10 ?_
        refine V_icmp_ge_f a_X11_number_72 (by omega) (by omega) ?_
        refine V_aldn0 a_X11_number_75 ?_
        refine V_getIE a_X11_number_76 f_X11_118 rfl pz_12 ?_
        refine V_if_ne_f a_X11_number_79 (by omega) (by omega) ?_
        refine V_bipush a_X11_number_82 (by decide) ?_
        refine V_ild6 a_X11_number_84 ?_
        refine V_imul a_X11_number_86 ?_
        refine V_aldn0 a_X11_number_87 ?_
        refine V_ild7 a_X11_number_88 ?_
        refine V_v1R a_X11_number_90 c_X11_107 (R_byteAt h.pz (by omega)) ?_
        refine V_iadd a_X11_number_93 ?_
        refine V_bipush a_X11_number_94 (by decide) ?_
        refine V_isub a_X11_number_96 ?_
        refine V_ist6 a_X11_number_97 ?_
        refine V_inc7 a_X11_number_99 ?_
        refine V_goto a_X11_number_102 ?_
        exact ih
  · have q1' : ¬ (48 ≤ bAt T e f ∧ bAt T e f ≤ 57) := fun z => q1 (decide_eq_true z)
    have es : nuS T e f t = 1 := by
      unfold nuS
      rw [if_neg q1]
    have ec : nuC T e f t lo hi c = 1 := by
      unfold nuC
      rw [if_neg (by omega), es]
    have ew : nuW T e f t = 0 := by
      unfold nuW
      rw [if_neg (by omega)]
    rw [ec, ew, if_neg (by decide)]
    refine V_aldn0 a_X11_number_0 ?_
    refine V_getIE a_X11_number_1 f_X11_118 rfl pz_12 ?_
    refine V_if_le_t a_X11_number_4 (by omega) (by omega) ?_
    refine V_iconst a_X11_number_9 ?_
    refine V_ist6 a_X11_number_10 ?_
    refine V_aldn0 a_X11_number_12 ?_
    refine V_aldn0 a_X11_number_13 ?_
    refine V_getIE a_X11_number_14 f_X11_104 rfl pz_9 ?_
    refine V_v1R a_X11_number_17 c_X11_107 (R_byteAt h.pz (by omega)) ?_
    refine V_i2l a_X11_number_20 (by omega) ?_
    refine V_ldc2 a_X11_number_21 q_X11_114 ?_
    refine V_ldc2 a_X11_number_24 q_X11_116 ?_
    refine V_s3R a_X11_number_27 c_X11_61 r1 ?_
    refine V_if_ne_f a_X11_number_30 (by omega) (by omega) ?_
    refine V_aldn0 a_X11_number_33 ?_
    refine V_iconst a_X11_number_34 ?_
    refine V_v1V a_X11_number_35 c_X11_133 R_wrong0 ?_
    refine V_goto a_X11_number_38 ?_
    exact stuck 1 (by omega)
theorem R_begin {n : Int} (hW : WF σ) (hT : ∀ k, σ.I 55 0 k % 256 = T k) (hn : σ.I 11 0 8 = n) (h0 : 0 ≤ n ∧ n ≤ 600) : Rt m_X11_begin 2 0 0 [vR (some (11, 0))] σ none (((σ.setI 11 0 11 n).setI 11 0 8 0).pz (tF T n 0) (tE T n 0) 0 (σ.I 11 0 13)) := by
  have hx : Tx ((σ.setI 11 0 11 n).setI 11 0 8 0) T n := by
    refine Tx.set ⟨hW, fun j => ?_, setI_I, h0⟩ (by decide)
    rw [← hT j, setI_t (by decide)]
  have hy : Tx ((((σ.setI 11 0 11 n).setI 11 0 8 0).setI 11 0 10 0).setI 11 0 12 0) T n := (hx.set (by decide)).set (by decide)
  have r := R_next hy (p := 0) ((setI_ne (by decide)).trans setI_I) ⟨Int.le_refl 0, h0.1⟩
  have e : ((((σ.setI 11 0 11 n).setI 11 0 8 0).setI 11 0 10 0).setI 11 0 12 0).ft (tF T n 0) (tE T n 0) = ((σ.setI 11 0 11 n).setI 11 0 8 0).pz (tF T n 0) (tE T n 0) 0 (σ.I 11 0 13) := by
    have e13 : σ.I 11 0 13 = ((((σ.setI 11 0 11 n).setI 11 0 8 0).setI 11 0 10 0).setI 11 0 12 0).I 11 0 13 := by
      rw [setI_ne (by decide), setI_ne (by decide), setI_ne (by decide), setI_ne (by decide)]
    have key : ∀ (τ : Hp) (f t : Int), ((τ.setI 11 0 10 0).setI 11 0 12 0).ft f t = τ.pz f t 0 (((τ.setI 11 0 10 0).setI 11 0 12 0).I 11 0 13) := fun τ f t => by
      have e1 : ∀ ρ : Hp, ρ.setI 11 0 13 (ρ.I 11 0 13) = ρ := fun ρ => by
        rw [setI_row]
        have e : upI (ρ.I 11 0) 13 (ρ.I 11 0 13) = ρ.I 11 0 := by
          funext j
          unfold upI
          by_cases q : j = 13
          · rw [if_pos q, q]
          · rw [if_neg q]
        rw [e, rI_self]
      have e2 : ((τ.setI 11 0 10 0).setI 11 0 12 0).I 11 0 13 = (((τ.setI 11 0 9 f).setI 11 0 10 t).setI 11 0 12 0).I 11 0 13 := by
        rw [setI_ne (by decide), setI_ne (by decide), setI_ne (by decide), setI_ne (by decide), setI_ne (by decide)]
      show _ = (((τ.setI 11 0 9 f).setI 11 0 10 t).setI 11 0 12 0).setI 11 0 13 _
      rw [e2, e1]
      show (((τ.setI 11 0 10 0).setI 11 0 12 0).setI 11 0 9 f).setI 11 0 10 t = _
      rw [setI_comm (k := 12) (k' := 9) (by decide), setI_comm (k := 10) (k' := 9) (by decide), setI_comm (k := 12) (k' := 10) (by decide), setI_setI]
    rw [e13]
    exact key _ _ _
  rw [e] at r
  show V _ 2 0 0 0 [some (vR (some (11, 0)))] [] σ _
  refine V_aldn0 a_X11_begin_0 ?_
  refine V_aldn0 a_X11_begin_1 ?_
  refine V_getIE a_X11_begin_2 f_X11_91 rfl hn ?_
  refine V_putI a_X11_begin_5 f_X11_98 rfl ?_
  refine V_aldn0 a_X11_begin_8 ?_
  refine V_iconst a_X11_begin_9 ?_
  refine V_putI a_X11_begin_10 f_X11_91 rfl ?_
  refine V_aldn0 a_X11_begin_13 ?_
  refine V_iconst a_X11_begin_14 ?_
  refine V_putI a_X11_begin_15 f_X11_101 rfl ?_
  refine V_aldn0 a_X11_begin_18 ?_
  refine V_iconst a_X11_begin_19 ?_
  refine V_putI a_X11_begin_20 f_X11_118 rfl ?_
  refine V_aldn0 a_X11_begin_23 ?_
  refine V_v0V a_X11_begin_24 c_X11_130 r ?_
  exact V_ret a_X11_begin_27 (⟨rfl, rfl⟩)
end Nu

