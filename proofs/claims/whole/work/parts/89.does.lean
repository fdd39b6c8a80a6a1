/-- the numbers that an order has -/
def nmA (w : Int) : Int := if w = 0 then 4 else if w = 2 then 3 else if w = 3 then 1 else 2
/-- why an order cannot be carried out -/
noncomputable def doC (A : St) (w : Int) (v : Int → Int) : Int := if w = 0 then brC A (v 0) (v 1) (v 2) (v 3) else if w = 1 then retC A (v 0) (v 1) else if w = 2 then rclC A (v 0) (v 1) (v 2) else if w = 3 then (if 1 ≤ v 0 ∧ v 0 ≤ 400 then 0 else 1) else if w = 4 then (if (0 ≤ v 0 ∧ v 0 < A 0) ∧ 1 ≤ v 1 ∧ v 1 ≤ 9999 then 0 else 1) else dvdC A (v 0) (v 1)
def doA (A : St) (w : Int) (v : Int → Int) : St := if w = 0 then lendA A (v 0) (v 1) (v 2) (v 3) else if w = 1 then retA A (v 0) (v 1) else if w = 2 then rcaA A (v 0) (v 1) (v 2) else if w = 3 then dysX A (v 0) else if w = 4 then upI A (15 + v 0) (v 1) else (divX A (v 0) (v 1) (A 7)).1
theorem br_0 {A : St} {b s q r : Int} (h : brC A b s q r = 0) : ((0 ≤ b ∧ b < A 2) ∧ 0 ≤ s ∧ s < A 0) ∧ ((1 ≤ q ∧ q ≤ 99999) ∧ 0 ≤ r ∧ r ≤ 9999) ∧ canA A b s q := by
  unfold brC at h
  by_cases h1 : (0 ≤ b ∧ b < A 2) ∧ 0 ≤ s ∧ s < A 0
  · rw [if_neg (fun z => z h1)] at h
    by_cases h2 : (1 ≤ q ∧ q ≤ 99999) ∧ 0 ≤ r ∧ r ≤ 9999
    · rw [if_neg (fun z => z h2)] at h
      by_cases h3 : canA A b s q
      · exact ⟨h1, h2, h3⟩
      · rw [if_pos h3] at h
        omega
    · rw [if_pos h2] at h
      omega
  · rw [if_pos h1] at h
    omega
theorem br_1 {A : St} {b s q r : Int} (h : brC A b s q r ≠ 0) : ¬ (((0 ≤ b ∧ b < A 2) ∧ 0 ≤ s ∧ s < A 0) ∧ ((1 ≤ q ∧ q ≤ 99999) ∧ 0 ≤ r ∧ r ≤ 9999) ∧ canA A b s q) := fun z => h (by
  unfold brC
  rw [if_neg (fun y => y z.1), if_neg (fun y => y z.2.1), if_neg (fun y => y z.2.2)])
section Do
variable {D : Int} {σ : Hp} {A : St} {a b c d : Int}
theorem R_numbersOf {w : Int} (hw : -1 ≤ w ∧ w ≤ 5) : Rt m_X11_numbersOf 0 0 0 [vI w] σ (some (vI (nmA w))) σ := by
  show V _ 0 0 0 0 [some (vI w)] [] σ _
  unfold nmA
  refine V_ildn0 a_X11_numbersOf_0 ?_
  refine V_if_ne a_X11_numbersOf_1 (by omega) (fun hc1 => ?_) (fun hc1 => ?_)
  · refine V_ildn0 a_X11_numbersOf_8 ?_
    refine V_iconst a_X11_numbersOf_9 ?_
    refine V_icmp_ne a_X11_numbersOf_10 (by omega) (fun hc10 => ?_) (fun hc10 => ?_)
    · refine V_ildn0 a_X11_numbersOf_17 ?_
      refine V_iconst a_X11_numbersOf_18 ?_
      refine V_icmp_ne a_X11_numbersOf_19 (by omega) (fun hc19 => ?_) (fun hc19 => ?_)
      · refine V_iconst a_X11_numbersOf_26 ?_
        exact V_iret a_X11_numbersOf_27 (⟨by first | rw [if_pos (by omega)] | rw [if_neg (by omega), if_pos (by omega)] | rw [if_neg (by omega), if_neg (by omega), if_pos (by omega)] | rw [if_neg (by omega), if_neg (by omega), if_neg (by omega)], rfl⟩)
      · refine V_iconst a_X11_numbersOf_22 ?_
        refine V_goto a_X11_numbersOf_23 ?_
        exact V_iret a_X11_numbersOf_27 (⟨by first | rw [if_pos (by omega)] | rw [if_neg (by omega), if_pos (by omega)] | rw [if_neg (by omega), if_neg (by omega), if_pos (by omega)] | rw [if_neg (by omega), if_neg (by omega), if_neg (by omega)], rfl⟩)
    · refine V_iconst a_X11_numbersOf_13 ?_
      refine V_goto a_X11_numbersOf_14 ?_
      exact V_iret a_X11_numbersOf_27 (⟨by first | rw [if_pos (by omega)] | rw [if_neg (by omega), if_pos (by omega)] | rw [if_neg (by omega), if_neg (by omega), if_pos (by omega)] | rw [if_neg (by omega), if_neg (by omega), if_neg (by omega)], rfl⟩)
  · refine V_iconst a_X11_numbersOf_4 ?_
    refine V_goto a_X11_numbersOf_5 ?_
    exact V_iret a_X11_numbersOf_27 (⟨by first | rw [if_pos (by omega)] | rw [if_neg (by omega), if_pos (by omega)] | rw [if_neg (by omega), if_neg (by omega), if_pos (by omega)] | rw [if_neg (by omega), if_neg (by omega), if_neg (by omega)], rfl⟩)
theorem R_does0 (h : Md D σ A) (t0 : σ.I 60 0 0 = a) (t1 : σ.I 60 0 1 = b) (t2 : σ.I 60 0 2 = c) (t3 : σ.I 60 0 3 = d) (ra : iR a) (rb : iR b) (rc : iR c) (rd : iR d) (hD4 : D + 1 ≤ 20000000) :
    (brC A a b c d = 0 → ∃ σ', FK [50, 56, 57, 58, 59] [17, 19] σ σ' ∧ Md (D + 1) σ' (lendA A a b c d) ∧ Rt m_X11_does 9 0 0 [vR (some (11, 0)), vI 0] σ (some (vI 1)) σ') ∧ (brC A a b c d ≠ 0 → Rt m_X11_does 9 0 0 [vR (some (11, 0)), vI 0] σ (some (vI 0)) σ) := by
  have hW := h.2.1
  have hn := h.2.2.2.n
  obtain ⟨b1, hb1, r1⟩ := B_isBorrower (l := a) h ra
  obtain ⟨b2, hb2, r2⟩ := B_isSecurity (s := b) h rb
  obtain ⟨b3, hb3, r3⟩ := B_isTerms (σ := σ) rc rd
  refine ⟨fun e => ?_, fun e => ?_⟩
  · obtain ⟨h1, h2, h3⟩ := br_0 e
    obtain ⟨b4, hb4, r4⟩ := B_canLend (b := a) (s := b) (q := c) h h1.1 h1.2 h2.1
    have hb5 : b4 = 1 := by
      rcases hb4 with z | z
      · exact z.1
      · exact absurd h3 z.2
    obtain ⟨σ2, f2, e2, r6⟩ := R_lend h h1.1 h1.2 h2.1 h2.2 h3
    refine ⟨σ2, (f2.sub (by decide) : Fm [50, 56, 57, 58, 59] σ σ2).fk (by decide), ⟨hD4, f2.wf hW, e2, lend_inv h.2.2.2 h1.1 h1.2 h2.1 h2.2 h3⟩, ?_⟩
    show V _ 9 0 0 0 [some (vR (some (11, 0))), some (vI 0), none, none, none, none] [] σ _
    refine V_aldn0 a_X11_does_0 ?_
    refine V_fin a_X11_does_1 f_X11_46 rfl hW ?_
    refine V_iconst a_X11_does_4 ?_
    refine V_ialdE a_X11_does_5 rfl (by omega) t0 ?_
    refine V_istn2 a_X11_does_6 ?_
    refine V_aldn0 a_X11_does_7 ?_
    refine V_fin a_X11_does_8 f_X11_46 rfl hW ?_
    refine V_iconst a_X11_does_11 ?_
    refine V_ialdE a_X11_does_12 rfl (by omega) t1 ?_
    refine V_istn3 a_X11_does_13 ?_
    refine V_aldn0 a_X11_does_14 ?_
    refine V_fin a_X11_does_15 f_X11_46 rfl hW ?_
    refine V_iconst a_X11_does_18 ?_
    refine V_ialdE a_X11_does_19 rfl (by omega) t2 ?_
    refine V_ist4 a_X11_does_20 ?_
    refine V_ildn1 a_X11_does_22 ?_
    refine V_table_in a_X11_does_23 (off := 33) rfl rfl (by omega) (by omega) ?_
    refine V_aldn0 a_X11_does_56 ?_
    refine V_ildn2 a_X11_does_57 ?_
    refine V_v1R a_X11_does_58 c_X11_262 r1 ?_
    refine V_if_eq_f a_X11_does_61 (by omega) (by omega) ?_
    refine V_aldn0 a_X11_does_64 ?_
    refine V_ildn3 a_X11_does_65 ?_
    refine V_v1R a_X11_does_66 c_X11_69 r2 ?_
    refine V_if_eq_f a_X11_does_69 (by omega) (by omega) ?_
    refine V_ild4 a_X11_does_72 ?_
    refine V_aldn0 a_X11_does_74 ?_
    refine V_fin a_X11_does_75 f_X11_46 rfl hW ?_
    refine V_iconst a_X11_does_78 ?_
    refine V_ialdE a_X11_does_79 rfl (by omega) t3 ?_
    refine V_s2R a_X11_does_80 c_X11_265 r3 ?_
    refine V_if_eq_f a_X11_does_83 (by omega) (by omega) ?_
    refine V_aldn0 a_X11_does_86 ?_
    refine V_ildn2 a_X11_does_87 ?_
    refine V_ildn3 a_X11_does_88 ?_
    refine V_ild4 a_X11_does_89 ?_
    refine V_v3R a_X11_does_91 c_X11_269 r4 ?_
    refine V_if_eq_f a_X11_does_94 (by omega) (by omega) ?_
    refine V_iconst a_X11_does_97 ?_
    refine V_goto a_X11_does_98 ?_
    refine V_ist5 a_X11_does_102 ?_
    refine V_ild5 a_X11_does_104 ?_
    refine V_if_eq_f a_X11_does_106 (by omega) (by omega) ?_
    refine V_aldn0 a_X11_does_109 ?_
    refine V_ildn2 a_X11_does_110 ?_
    refine V_ildn3 a_X11_does_111 ?_
    refine V_ild4 a_X11_does_112 ?_
    refine V_aldn0 a_X11_does_114 ?_
    refine V_fin a_X11_does_115 f_X11_46 rfl hW ?_
    refine V_iconst a_X11_does_118 ?_
    refine V_ialdE a_X11_does_119 rfl (by omega) t3 ?_
    refine V_v4R a_X11_does_120 c_X11_275 r6 ?_
    refine V_if_lt_f a_X11_does_123 (by omega) (by omega) ?_
    refine V_iconst a_X11_does_126 ?_
    refine V_goto a_X11_does_127 ?_
    exact V_zret a_X11_does_131 (by omega) (⟨rfl, rfl⟩)
  · have e := br_1 e
    show V _ 9 0 0 0 [some (vR (some (11, 0))), some (vI 0), none, none, none, none] [] σ _
    refine V_aldn0 a_X11_does_0 ?_
    refine V_fin a_X11_does_1 f_X11_46 rfl hW ?_
    refine V_iconst a_X11_does_4 ?_
    refine V_ialdE a_X11_does_5 rfl (by omega) t0 ?_
    refine V_istn2 a_X11_does_6 ?_
    refine V_aldn0 a_X11_does_7 ?_
    refine V_fin a_X11_does_8 f_X11_46 rfl hW ?_
    refine V_iconst a_X11_does_11 ?_
    refine V_ialdE a_X11_does_12 rfl (by omega) t1 ?_
    refine V_istn3 a_X11_does_13 ?_
    refine V_aldn0 a_X11_does_14 ?_
    refine V_fin a_X11_does_15 f_X11_46 rfl hW ?_
    refine V_iconst a_X11_does_18 ?_
    refine V_ialdE a_X11_does_19 rfl (by omega) t2 ?_
    refine V_ist4 a_X11_does_20 ?_
    refine V_ildn1 a_X11_does_22 ?_
    refine V_table_in a_X11_does_23 (off := 33) rfl rfl (by omega) (by omega) ?_
    have fin : V m_X11_does 9 0 0 101 [some (vR (some (11, 0))), some (vI 0), some (vI a), some (vI b), some (vI c), none] [] σ (fun r τ => r = .inl (some (vI 0)) ∧ τ = σ) := by
      refine V_iconst a_X11_does_101 ?_
      refine V_ist5 a_X11_does_102 ?_
      refine V_ild5 a_X11_does_104 ?_
      refine V_if_eq_t a_X11_does_106 (by omega) (by omega) ?_
      refine V_iconst a_X11_does_130 ?_
      exact V_zret a_X11_does_131 (by omega) (⟨rfl, rfl⟩)
    by_cases h1 : (0 ≤ a ∧ a < A 2) ∧ 0 ≤ b ∧ b < A 0
    · by_cases h2 : (1 ≤ c ∧ c ≤ 99999) ∧ 0 ≤ d ∧ d ≤ 9999
      · obtain ⟨b4, hb4, r4⟩ := B_canLend (b := a) (s := b) (q := c) h h1.1 h1.2 h2.1
        have hb5 : b4 = 0 := by
          rcases hb4 with z | z
          · exact absurd ⟨h1, h2, z.2⟩ e
          · exact z.1
        refine V_aldn0 a_X11_does_56 ?_
        refine V_ildn2 a_X11_does_57 ?_
        refine V_v1R a_X11_does_58 c_X11_262 r1 ?_
        refine V_if_eq_f a_X11_does_61 (by omega) (by omega) ?_
        refine V_aldn0 a_X11_does_64 ?_
        refine V_ildn3 a_X11_does_65 ?_
        refine V_v1R a_X11_does_66 c_X11_69 r2 ?_
        refine V_if_eq_f a_X11_does_69 (by omega) (by omega) ?_
        refine V_ild4 a_X11_does_72 ?_
        refine V_aldn0 a_X11_does_74 ?_
        refine V_fin a_X11_does_75 f_X11_46 rfl hW ?_
        refine V_iconst a_X11_does_78 ?_
        refine V_ialdE a_X11_does_79 rfl (by omega) t3 ?_
        refine V_s2R a_X11_does_80 c_X11_265 r3 ?_
        refine V_if_eq_f a_X11_does_83 (by omega) (by omega) ?_
        refine V_aldn0 a_X11_does_86 ?_
        refine V_ildn2 a_X11_does_87 ?_
        refine V_ildn3 a_X11_does_88 ?_
        refine V_ild4 a_X11_does_89 ?_
        refine V_v3R a_X11_does_91 c_X11_269 r4 ?_
        refine V_if_eq_t a_X11_does_94 (by omega) (by omega) ?_
        exact fin
      · refine V_aldn0 a_X11_does_56 ?_
        refine V_ildn2 a_X11_does_57 ?_
        refine V_v1R a_X11_does_58 c_X11_262 r1 ?_
        refine V_if_eq_f a_X11_does_61 (by omega) (by omega) ?_
        refine V_aldn0 a_X11_does_64 ?_
        refine V_ildn3 a_X11_does_65 ?_
        refine V_v1R a_X11_does_66 c_X11_69 r2 ?_
        refine V_if_eq_f a_X11_does_69 (by omega) (by omega) ?_
        refine V_ild4 a_X11_does_72 ?_
        refine V_aldn0 a_X11_does_74 ?_
        refine V_fin a_X11_does_75 f_X11_46 rfl hW ?_
        refine V_iconst a_X11_does_78 ?_
        refine V_ialdE a_X11_does_79 rfl (by omega) t3 ?_
        refine V_s2R a_X11_does_80 c_X11_265 r3 ?_
        refine V_if_eq_t a_X11_does_83 (by omega) (by omega) ?_
        exact fin
    · by_cases h3 : 0 ≤ a ∧ a < A 2
      · refine V_aldn0 a_X11_does_56 ?_
        refine V_ildn2 a_X11_does_57 ?_
        refine V_v1R a_X11_does_58 c_X11_262 r1 ?_
        refine V_if_eq_f a_X11_does_61 (by omega) (by omega) ?_
        refine V_aldn0 a_X11_does_64 ?_
        refine V_ildn3 a_X11_does_65 ?_
        refine V_v1R a_X11_does_66 c_X11_69 r2 ?_
        refine V_if_eq_t a_X11_does_69 (by omega) (by omega) ?_
        exact fin
      · refine V_aldn0 a_X11_does_56 ?_
        refine V_ildn2 a_X11_does_57 ?_
        refine V_v1R a_X11_does_58 c_X11_262 r1 ?_
        refine V_if_eq_t a_X11_does_61 (by omega) (by omega) ?_
        exact fin
theorem R_does1 (h : Md D σ A) (t0 : σ.I 60 0 0 = a) (t1 : σ.I 60 0 1 = b) (t2 : σ.I 60 0 2 = c) (ra : iR a) (rb : iR b) :
    (retC A a b = 0 → ∃ σ', FK [50, 56, 57, 58, 59] [17, 19] σ σ' ∧ Md D σ' (retA A a b) ∧ Rt m_X11_does 9 0 0 [vR (some (11, 0)), vI 1] σ (some (vI 1)) σ') ∧ (retC A a b ≠ 0 → Rt m_X11_does 9 0 0 [vR (some (11, 0)), vI 1] σ (some (vI 0)) σ) := by
  have hD := h.1
  have hW := h.2.1
  have hI := h.2.2.2
  have hn' := hI.n
  have hpb := place_bd (A := A) (n := a)
  have r1 := R_placeOf h ra
  by_cases h1 : placeA A a = -1
  · have e : retC A a b = 1 := by
      unfold retC
      rw [if_pos h1]
    rw [e]
    rw [if_pos h1] at r1
    refine ⟨fun z => absurd z (by decide), fun _ => ?_⟩
    show V _ 9 0 0 0 [some (vR (some (11, 0))), some (vI 1), none, none, none, none] [] σ _
    refine V_aldn0 a_X11_does_0 ?_
    refine V_fin a_X11_does_1 f_X11_46 rfl hW ?_
    refine V_iconst a_X11_does_4 ?_
    refine V_ialdE a_X11_does_5 rfl (by omega) t0 ?_
    refine V_istn2 a_X11_does_6 ?_
    refine V_aldn0 a_X11_does_7 ?_
    refine V_fin a_X11_does_8 f_X11_46 rfl hW ?_
    refine V_iconst a_X11_does_11 ?_
    refine V_ialdE a_X11_does_12 rfl (by omega) t1 ?_
    refine V_istn3 a_X11_does_13 ?_
    refine V_aldn0 a_X11_does_14 ?_
    refine V_fin a_X11_does_15 f_X11_46 rfl hW ?_
    refine V_iconst a_X11_does_18 ?_
    refine V_ialdE a_X11_does_19 rfl (by omega) t2 ?_
    refine V_ist4 a_X11_does_20 ?_
    refine V_ildn1 a_X11_does_22 ?_
    refine V_table_in a_X11_does_23 (off := 109) rfl rfl (by omega) (by omega) ?_
    refine V_aldn0 a_X11_does_132 ?_
    refine V_ildn2 a_X11_does_133 ?_
    refine V_v1R a_X11_does_134 c_X11_295 r1 ?_
    refine V_ist5 a_X11_does_137 ?_
    refine V_ild5 a_X11_does_139 ?_
    refine V_iconst a_X11_does_141 ?_
    refine V_icmp_eq_t a_X11_does_142 (by omega) (by omega) ?_
    refine V_iconst a_X11_does_160 ?_
    exact V_zret a_X11_does_161 (by omega) (⟨rfl, rfl⟩)
  · rw [if_neg h1] at r1
    have hp := (place_ok h1).1
    have hqb := quan_bd hI hp.1 hp.2
    obtain ⟨b3, hb3, r3⟩ := B_in (σ := σ) (v := b) (x := 1) (y := quanA A (placeA A a)) (by omega) (by omega) (by omega)
    by_cases h2 : 1 ≤ b ∧ b ≤ quanA A (placeA A a)
    · have e : retC A a b = 0 := by
        unfold retC
        rw [if_neg h1, if_neg (fun z => z h2)]
      refine ⟨fun _ => ?_, fun z => absurd e z⟩
      have hG := G1_init (r := σ.I 58 0) hD hI hp.1 hp.2 (q := b) (by omega)
      have r6 := R_giveBack h.2.1 h.2.2.1 hG
      have ho := back_ok hG
      have hv := back_inv hD hI hp.1 hp.2 ho.1.1
      have hri := ret_inv hD hI e
      generalize hX : backX (placeA A a) A b (σ.I 58 0) = X at r6 ho hv
      have eX : X.A = (backA (placeA A a) A b).A := by
        rw [← hX]
        exact back_row.1
      have hv1 := hv.1
      have r7 := R_close (σ := σ.bk X) (A := X.A) h.2.1 bk_A (by omega) (by omega) (fun k k0 k1 => (hv.loan k0 k1).Sl hD (by omega) (by omega) (by omega))
      have f2 : FK [50, 56, 57, 58, 59] [17, 19] σ ((σ.bk X).rJ 50 0 (closeA X.A)) := FK.trans (FK.bk.sub (by decide) (by decide)) ((Fm.rJ (by decide) : Fm [50, 56, 57, 58, 59] (σ.bk X) _).fk (by decide))
      refine ⟨(σ.bk X).rJ 50 0 (closeA X.A), f2, ⟨hD, f2.1.wf hW, by unfold retA; rw [← eX]; exact rJ_J, hri⟩, ?_⟩
      show V _ 9 0 0 0 [some (vR (some (11, 0))), some (vI 1), none, none, none, none] [] σ _
      refine V_aldn0 a_X11_does_0 ?_
      refine V_fin a_X11_does_1 f_X11_46 rfl hW ?_
      refine V_iconst a_X11_does_4 ?_
      refine V_ialdE a_X11_does_5 rfl (by omega) t0 ?_
      refine V_istn2 a_X11_does_6 ?_
      refine V_aldn0 a_X11_does_7 ?_
      refine V_fin a_X11_does_8 f_X11_46 rfl hW ?_
      refine V_iconst a_X11_does_11 ?_
      refine V_ialdE a_X11_does_12 rfl (by omega) t1 ?_
      refine V_istn3 a_X11_does_13 ?_
      refine V_aldn0 a_X11_does_14 ?_
      refine V_fin a_X11_does_15 f_X11_46 rfl hW ?_
      refine V_iconst a_X11_does_18 ?_
      refine V_ialdE a_X11_does_19 rfl (by omega) t2 ?_
      refine V_ist4 a_X11_does_20 ?_
      refine V_ildn1 a_X11_does_22 ?_
      refine V_table_in a_X11_does_23 (off := 109) rfl rfl (by omega) (by omega) ?_
      refine V_aldn0 a_X11_does_132 ?_
      refine V_ildn2 a_X11_does_133 ?_
      refine V_v1R a_X11_does_134 c_X11_295 r1 ?_
      refine V_ist5 a_X11_does_137 ?_
      refine V_ild5 a_X11_does_139 ?_
      refine V_iconst a_X11_does_141 ?_
      refine V_icmp_eq_f a_X11_does_142 (by omega) (by omega) ?_
      refine V_ildn3 a_X11_does_145 ?_
      refine V_i2l a_X11_does_146 (by omega) ?_
      refine V_lconst1 a_X11_does_147 ?_
      refine V_aldn0 a_X11_does_148 ?_
      refine V_ild5 a_X11_does_149 ?_
      refine V_v1R a_X11_does_151 c_X11_216 (R_quantityAt h (by omega)) ?_
      refine V_s3R a_X11_does_154 c_X11_61 r3 ?_
      refine V_if_ne_t a_X11_does_157 (by omega) (by omega) ?_
      refine V_aldn0 a_X11_does_162 ?_
      refine V_ild5 a_X11_does_163 ?_
      refine V_ildn3 a_X11_does_165 ?_
      refine V_i2l a_X11_does_166 (by omega) ?_
      refine V_v2V a_X11_does_167 c_X11_298 r6 ?_
      refine V_aldn0 a_X11_does_170 ?_
      refine V_v0V a_X11_does_171 c_X11_302 r7 ?_
      refine V_iconst a_X11_does_174 ?_
      exact V_zret a_X11_does_175 (by omega) (⟨rfl, rfl⟩)
    · have e : retC A a b = 2 := by
        unfold retC
        rw [if_neg h1, if_pos h2]
      rw [e]
      refine ⟨fun z => absurd z (by decide), fun _ => ?_⟩
      show V _ 9 0 0 0 [some (vR (some (11, 0))), some (vI 1), none, none, none, none] [] σ _
      refine V_aldn0 a_X11_does_0 ?_
      refine V_fin a_X11_does_1 f_X11_46 rfl hW ?_
      refine V_iconst a_X11_does_4 ?_
      refine V_ialdE a_X11_does_5 rfl (by omega) t0 ?_
      refine V_istn2 a_X11_does_6 ?_
      refine V_aldn0 a_X11_does_7 ?_
      refine V_fin a_X11_does_8 f_X11_46 rfl hW ?_
      refine V_iconst a_X11_does_11 ?_
      refine V_ialdE a_X11_does_12 rfl (by omega) t1 ?_
      refine V_istn3 a_X11_does_13 ?_
      refine V_aldn0 a_X11_does_14 ?_
      refine V_fin a_X11_does_15 f_X11_46 rfl hW ?_
      refine V_iconst a_X11_does_18 ?_
      refine V_ialdE a_X11_does_19 rfl (by omega) t2 ?_
      refine V_ist4 a_X11_does_20 ?_
      refine V_ildn1 a_X11_does_22 ?_
      refine V_table_in a_X11_does_23 (off := 109) rfl rfl (by omega) (by omega) ?_
      refine V_aldn0 a_X11_does_132 ?_
      refine V_ildn2 a_X11_does_133 ?_
      refine V_v1R a_X11_does_134 c_X11_295 r1 ?_
      refine V_ist5 a_X11_does_137 ?_
      refine V_ild5 a_X11_does_139 ?_
      refine V_iconst a_X11_does_141 ?_
      refine V_icmp_eq_f a_X11_does_142 (by omega) (by omega) ?_
      refine V_ildn3 a_X11_does_145 ?_
      refine V_i2l a_X11_does_146 (by omega) ?_
      refine V_lconst1 a_X11_does_147 ?_
      refine V_aldn0 a_X11_does_148 ?_
      refine V_ild5 a_X11_does_149 ?_
      refine V_v1R a_X11_does_151 c_X11_216 (R_quantityAt h (by omega)) ?_
      refine V_s3R a_X11_does_154 c_X11_61 r3 ?_
      refine V_if_ne_f a_X11_does_157 (by omega) (by omega) ?_
      refine V_iconst a_X11_does_160 ?_
      exact V_zret a_X11_does_161 (by omega) (⟨rfl, rfl⟩)
theorem R_does2 (h : Md D σ A) (t0 : σ.I 60 0 0 = a) (t1 : σ.I 60 0 1 = b) (t2 : σ.I 60 0 2 = c) (ra : iR a) (rb : iR b) (rc : iR c) :
    (rclC A a b c = 0 → Cv m_X11_does 9 0 0 [vR (some (11, 0)), vI 2] σ (some (vI 1)) (fun τ => FK [50, 56, 57, 58, 59] [17, 19] σ τ ∧ Md D τ (rcaA A a b c))) ∧ (rclC A a b c ≠ 0 → Rt m_X11_does 9 0 0 [vR (some (11, 0)), vI 2] σ (some (vI 0)) σ) := by
  have hW := h.2.1
  have hI := h.2.2.2
  have hn := hI.n
  obtain ⟨b1, hb1, r1⟩ := B_isLender (l := a) h ra
  obtain ⟨b2, hb2, r2⟩ := B_isSecurity (s := b) h rb
  obtain ⟨b3, hb3, r3⟩ := B_isQuantity (σ := σ) rc
  refine ⟨fun e => ?_, fun e => ?_⟩
  · obtain ⟨h1, h2, h3⟩ := rcl_0 e
    have hr := recb_bd hI (l := a) (s := b) (by omega) (by omega) (by omega) (by omega)
    have hx := (rac_ok (r := σ.I 59 0) hI h1.1 (by omega : 0 ≤ b ∧ b < 4) (by omega : 0 ≤ c)).1.2.2.2
    have hxr := (rac_ok (r := σ.I 59 0) hI h1.1 (by omega : 0 ≤ b ∧ b < 4) (by omega : 0 ≤ c)).1.2.2.2
    show V _ 9 0 0 0 [some (vR (some (11, 0))), some (vI 2), none, none, none, none] [] σ _
    refine V_aldn0 a_X11_does_0 ?_
    refine V_fin a_X11_does_1 f_X11_46 rfl hW ?_
    refine V_iconst a_X11_does_4 ?_
    refine V_ialdE a_X11_does_5 rfl (by omega) t0 ?_
    refine V_istn2 a_X11_does_6 ?_
    refine V_aldn0 a_X11_does_7 ?_
    refine V_fin a_X11_does_8 f_X11_46 rfl hW ?_
    refine V_iconst a_X11_does_11 ?_
    refine V_ialdE a_X11_does_12 rfl (by omega) t1 ?_
    refine V_istn3 a_X11_does_13 ?_
    refine V_aldn0 a_X11_does_14 ?_
    refine V_fin a_X11_does_15 f_X11_46 rfl hW ?_
    refine V_iconst a_X11_does_18 ?_
    refine V_ialdE a_X11_does_19 rfl (by omega) t2 ?_
    refine V_ist4 a_X11_does_20 ?_
    refine V_ildn1 a_X11_does_22 ?_
    refine V_table_in a_X11_does_23 (off := 153) rfl rfl (by omega) (by omega) ?_
    refine V_aldn0 a_X11_does_176 ?_
    refine V_ildn2 a_X11_does_177 ?_
    refine V_v1R a_X11_does_178 c_X11_65 r1 ?_
    refine V_if_eq_f a_X11_does_181 (by omega) (by omega) ?_
    refine V_aldn0 a_X11_does_184 ?_
    refine V_ildn3 a_X11_does_185 ?_
    refine V_v1R a_X11_does_186 c_X11_69 r2 ?_
    refine V_if_eq_f a_X11_does_189 (by omega) (by omega) ?_
    refine V_ild4 a_X11_does_192 ?_
    refine V_s1R a_X11_does_194 c_X11_259 r3 ?_
    refine V_if_eq_f a_X11_does_197 (by omega) (by omega) ?_
    refine V_aldn0 a_X11_does_200 ?_
    refine V_ildn2 a_X11_does_201 ?_
    refine V_ildn3 a_X11_does_202 ?_
    refine V_v2R a_X11_does_203 c_X11_323 (R_recallableOf h (by omega) (by omega)) ?_
    refine V_ild4 a_X11_does_206 ?_
    refine V_i2l a_X11_does_208 (by omega) ?_
    refine V_lc_lt_f a_X11_does_209 a_X11_does_210 (by omega) (by omega) ?_
    refine V_aldn0 a_X11_does_213 ?_
    refine V_ildn2 a_X11_does_214 ?_
    refine V_ildn3 a_X11_does_215 ?_
    refine V_ild4 a_X11_does_216 ?_
    refine V_i2l a_X11_does_218 (by omega) ?_
    refine V_v3PR a_X11_does_219 c_X11_329 (R_recallAll h h1.1 (by omega) (by omega)) (fun τ hτ => ?_)
    refine V_lconst0 a_X11_does_222 ?_
    refine V_lc_lt_f a_X11_does_223 a_X11_does_224 (by omega) (by omega) ?_
    refine V_iconst a_X11_does_227 ?_
    refine V_goto a_X11_does_228 ?_
    exact V_zret a_X11_does_232 (by omega) (⟨rfl, hτ.1.sub (by decide) (by decide), by unfold rcaA; rw [racA_row (r' := σ.I 59 0)]; exact hτ.2⟩)
  · have e2 : ¬ (((0 ≤ a ∧ a < A 1) ∧ 0 ≤ b ∧ b < A 0) ∧ (1 ≤ c ∧ c ≤ 99999) ∧ c ≤ recbA A a b) := fun z => e (by
      unfold rclC
      rw [if_neg (fun y => y z.1), if_neg (fun y => y z.2.1), if_neg (by omega)])
    show V _ 9 0 0 0 [some (vR (some (11, 0))), some (vI 2), none, none, none, none] [] σ _
    refine V_aldn0 a_X11_does_0 ?_
    refine V_fin a_X11_does_1 f_X11_46 rfl hW ?_
    refine V_iconst a_X11_does_4 ?_
    refine V_ialdE a_X11_does_5 rfl (by omega) t0 ?_
    refine V_istn2 a_X11_does_6 ?_
    refine V_aldn0 a_X11_does_7 ?_
    refine V_fin a_X11_does_8 f_X11_46 rfl hW ?_
    refine V_iconst a_X11_does_11 ?_
    refine V_ialdE a_X11_does_12 rfl (by omega) t1 ?_
    refine V_istn3 a_X11_does_13 ?_
    refine V_aldn0 a_X11_does_14 ?_
    refine V_fin a_X11_does_15 f_X11_46 rfl hW ?_
    refine V_iconst a_X11_does_18 ?_
    refine V_ialdE a_X11_does_19 rfl (by omega) t2 ?_
    refine V_ist4 a_X11_does_20 ?_
    refine V_ildn1 a_X11_does_22 ?_
    refine V_table_in a_X11_does_23 (off := 153) rfl rfl (by omega) (by omega) ?_
    have fin : V m_X11_does 9 0 0 231 [some (vR (some (11, 0))), some (vI 2), some (vI a), some (vI b), some (vI c), none] [] σ (fun r τ => r = .inl (some (vI 0)) ∧ τ = σ) := by
      refine V_iconst a_X11_does_231 ?_
      exact V_zret a_X11_does_232 (by omega) (⟨rfl, rfl⟩)
    by_cases h1 : 0 ≤ a ∧ a < A 1
    · by_cases h2 : 0 ≤ b ∧ b < A 0
      · by_cases h3 : 1 ≤ c ∧ c ≤ 99999
        · have hr := recb_bd hI (l := a) (s := b) (by omega) (by omega) (by omega) (by omega)
          refine V_aldn0 a_X11_does_176 ?_
          refine V_ildn2 a_X11_does_177 ?_
          refine V_v1R a_X11_does_178 c_X11_65 r1 ?_
          refine V_if_eq_f a_X11_does_181 (by omega) (by omega) ?_
          refine V_aldn0 a_X11_does_184 ?_
          refine V_ildn3 a_X11_does_185 ?_
          refine V_v1R a_X11_does_186 c_X11_69 r2 ?_
          refine V_if_eq_f a_X11_does_189 (by omega) (by omega) ?_
          refine V_ild4 a_X11_does_192 ?_
          refine V_s1R a_X11_does_194 c_X11_259 r3 ?_
          refine V_if_eq_f a_X11_does_197 (by omega) (by omega) ?_
          refine V_aldn0 a_X11_does_200 ?_
          refine V_ildn2 a_X11_does_201 ?_
          refine V_ildn3 a_X11_does_202 ?_
          refine V_v2R a_X11_does_203 c_X11_323 (R_recallableOf h (by omega) (by omega)) ?_
          refine V_ild4 a_X11_does_206 ?_
          refine V_i2l a_X11_does_208 (by omega) ?_
          refine V_lc_lt_t a_X11_does_209 a_X11_does_210 (by omega) (by omega) ?_
          exact fin
        · refine V_aldn0 a_X11_does_176 ?_
          refine V_ildn2 a_X11_does_177 ?_
          refine V_v1R a_X11_does_178 c_X11_65 r1 ?_
          refine V_if_eq_f a_X11_does_181 (by omega) (by omega) ?_
          refine V_aldn0 a_X11_does_184 ?_
          refine V_ildn3 a_X11_does_185 ?_
          refine V_v1R a_X11_does_186 c_X11_69 r2 ?_
          refine V_if_eq_f a_X11_does_189 (by omega) (by omega) ?_
          refine V_ild4 a_X11_does_192 ?_
          refine V_s1R a_X11_does_194 c_X11_259 r3 ?_
          refine V_if_eq_t a_X11_does_197 (by omega) (by omega) ?_
          exact fin
      · refine V_aldn0 a_X11_does_176 ?_
        refine V_ildn2 a_X11_does_177 ?_
        refine V_v1R a_X11_does_178 c_X11_65 r1 ?_
        refine V_if_eq_f a_X11_does_181 (by omega) (by omega) ?_
        refine V_aldn0 a_X11_does_184 ?_
        refine V_ildn3 a_X11_does_185 ?_
        refine V_v1R a_X11_does_186 c_X11_69 r2 ?_
        refine V_if_eq_t a_X11_does_189 (by omega) (by omega) ?_
        exact fin
    · refine V_aldn0 a_X11_does_176 ?_
      refine V_ildn2 a_X11_does_177 ?_
      refine V_v1R a_X11_does_178 c_X11_65 r1 ?_
      refine V_if_eq_t a_X11_does_181 (by omega) (by omega) ?_
      exact fin
theorem R_does3 (h : Md D σ A) (t0 : σ.I 60 0 0 = a) (t1 : σ.I 60 0 1 = b) (t2 : σ.I 60 0 2 = c) (ra : iR a) (hD4 : D + 401 ≤ 20000000) :
    ((1 ≤ a ∧ a ≤ 400) → ∃ σ', FK [50, 56, 57, 58, 59] [17, 19] σ σ' ∧ Md (D + a) σ' (dysX A a) ∧ Rt m_X11_does 9 0 0 [vR (some (11, 0)), vI 3] σ (some (vI 1)) σ') ∧ (¬ (1 ≤ a ∧ a ≤ 400) → Rt m_X11_does 9 0 0 [vR (some (11, 0)), vI 3] σ (some (vI 0)) σ) := by
  have hW := h.2.1
  have hI := h.2.2.2
  obtain ⟨b1, hb1, r1⟩ := B_in (σ := σ) (v := a) (x := 1) (y := 400) (by omega) (by omega) (by omega)
  refine ⟨fun e => ?_, fun e => ?_⟩
  · have r2 := R_goDays (d := a) h (by omega) hD4
    have h10 := dys10 (n := a) (by omega) hI (by omega)
    refine ⟨σ.rJ 50 0 (dysX A a), (Fm.rJ (by decide)).fk (by decide), ⟨by omega, hW, rJ_J, dys_inv (by omega) hI (by omega)⟩, ?_⟩
    show V _ 9 0 0 0 [some (vR (some (11, 0))), some (vI 3), none, none, none, none] [] σ _
    refine V_aldn0 a_X11_does_0 ?_
    refine V_fin a_X11_does_1 f_X11_46 rfl hW ?_
    refine V_iconst a_X11_does_4 ?_
    refine V_ialdE a_X11_does_5 rfl (by omega) t0 ?_
    refine V_istn2 a_X11_does_6 ?_
    refine V_aldn0 a_X11_does_7 ?_
    refine V_fin a_X11_does_8 f_X11_46 rfl hW ?_
    refine V_iconst a_X11_does_11 ?_
    refine V_ialdE a_X11_does_12 rfl (by omega) t1 ?_
    refine V_istn3 a_X11_does_13 ?_
    refine V_aldn0 a_X11_does_14 ?_
    refine V_fin a_X11_does_15 f_X11_46 rfl hW ?_
    refine V_iconst a_X11_does_18 ?_
    refine V_ialdE a_X11_does_19 rfl (by omega) t2 ?_
    refine V_ist4 a_X11_does_20 ?_
    refine V_ildn1 a_X11_does_22 ?_
    refine V_table_in a_X11_does_23 (off := 210) rfl rfl (by omega) (by omega) ?_
    refine V_ildn2 a_X11_does_233 ?_
    refine V_i2l a_X11_does_234 (by omega) ?_
    refine V_lconst1 a_X11_does_235 ?_
    refine V_ldc2 a_X11_does_236 q_X11_344 ?_
    refine V_s3R a_X11_does_239 c_X11_61 r1 ?_
    refine V_if_eq_f a_X11_does_242 (by omega) (by omega) ?_
    refine V_aldn0 a_X11_does_245 ?_
    refine V_ildn2 a_X11_does_246 ?_
    refine V_v1R a_X11_does_247 c_X11_346 r2 ?_
    refine V_lconst0 a_X11_does_250 ?_
    refine V_lc_lt_f a_X11_does_251 a_X11_does_252 (by omega) (by omega) ?_
    refine V_iconst a_X11_does_255 ?_
    refine V_goto a_X11_does_256 ?_
    exact V_zret a_X11_does_260 (by omega) (⟨rfl, rfl⟩)
  · show V _ 9 0 0 0 [some (vR (some (11, 0))), some (vI 3), none, none, none, none] [] σ _
    refine V_aldn0 a_X11_does_0 ?_
    refine V_fin a_X11_does_1 f_X11_46 rfl hW ?_
    refine V_iconst a_X11_does_4 ?_
    refine V_ialdE a_X11_does_5 rfl (by omega) t0 ?_
    refine V_istn2 a_X11_does_6 ?_
    refine V_aldn0 a_X11_does_7 ?_
    refine V_fin a_X11_does_8 f_X11_46 rfl hW ?_
    refine V_iconst a_X11_does_11 ?_
    refine V_ialdE a_X11_does_12 rfl (by omega) t1 ?_
    refine V_istn3 a_X11_does_13 ?_
    refine V_aldn0 a_X11_does_14 ?_
    refine V_fin a_X11_does_15 f_X11_46 rfl hW ?_
    refine V_iconst a_X11_does_18 ?_
    refine V_ialdE a_X11_does_19 rfl (by omega) t2 ?_
    refine V_ist4 a_X11_does_20 ?_
    refine V_ildn1 a_X11_does_22 ?_
    refine V_table_in a_X11_does_23 (off := 210) rfl rfl (by omega) (by omega) ?_
    refine V_ildn2 a_X11_does_233 ?_
    refine V_i2l a_X11_does_234 (by omega) ?_
    refine V_lconst1 a_X11_does_235 ?_
    refine V_ldc2 a_X11_does_236 q_X11_344 ?_
    refine V_s3R a_X11_does_239 c_X11_61 r1 ?_
    refine V_if_eq_t a_X11_does_242 (by omega) (by omega) ?_
    refine V_iconst a_X11_does_259 ?_
    exact V_zret a_X11_does_260 (by omega) (⟨rfl, rfl⟩)
theorem R_does4 (h : Md D σ A) (t0 : σ.I 60 0 0 = a) (t1 : σ.I 60 0 1 = b) (t2 : σ.I 60 0 2 = c) (ra : iR a) (rb : iR b) :
    (((0 ≤ a ∧ a < A 0) ∧ 1 ≤ b ∧ b ≤ 9999) → ∃ σ', FK [50, 56, 57, 58, 59] [17, 19] σ σ' ∧ Md D σ' (upI A (15 + a) b) ∧ Rt m_X11_does 9 0 0 [vR (some (11, 0)), vI 4] σ (some (vI 1)) σ') ∧ (¬ ((0 ≤ a ∧ a < A 0) ∧ 1 ≤ b ∧ b ≤ 9999) → Rt m_X11_does 9 0 0 [vR (some (11, 0)), vI 4] σ (some (vI 0)) σ) := by
  have hW := h.2.1
  have hA := h.2.2.1
  have hI := h.2.2.2
  have hn := hI.n
  obtain ⟨b1, hb1, r1⟩ := B_isSecurity (s := a) h ra
  obtain ⟨b2, hb2, r2⟩ := B_in (σ := σ) (v := b) (x := 1) (y := 9999) (by omega) (by omega) (by omega)
  refine ⟨fun e => ?_, fun e => ?_⟩
  · have hs := setJ_row (σ := σ) (t := 50) (i := 0) (k := 15 + a) (v := b)
    rw [hA] at hs
    refine ⟨σ.rJ 50 0 (upI A (15 + a) b), (Fm.rJ (by decide)).fk (by decide), ⟨h.1, hW, rJ_J, inv_set hI (Or.inl ⟨a, rfl, by omega, by omega⟩)⟩, ?_⟩
    show V _ 9 0 0 0 [some (vR (some (11, 0))), some (vI 4), none, none, none, none] [] σ _
    refine V_aldn0 a_X11_does_0 ?_
    refine V_fin a_X11_does_1 f_X11_46 rfl hW ?_
    refine V_iconst a_X11_does_4 ?_
    refine V_ialdE a_X11_does_5 rfl (by omega) t0 ?_
    refine V_istn2 a_X11_does_6 ?_
    refine V_aldn0 a_X11_does_7 ?_
    refine V_fin a_X11_does_8 f_X11_46 rfl hW ?_
    refine V_iconst a_X11_does_11 ?_
    refine V_ialdE a_X11_does_12 rfl (by omega) t1 ?_
    refine V_istn3 a_X11_does_13 ?_
    refine V_aldn0 a_X11_does_14 ?_
    refine V_fin a_X11_does_15 f_X11_46 rfl hW ?_
    refine V_iconst a_X11_does_18 ?_
    refine V_ialdE a_X11_does_19 rfl (by omega) t2 ?_
    refine V_ist4 a_X11_does_20 ?_
    refine V_ildn1 a_X11_does_22 ?_
    refine V_table_in a_X11_does_23 (off := 238) rfl rfl (by omega) (by omega) ?_
    refine V_aldn0 a_X11_does_261 ?_
    refine V_ildn2 a_X11_does_262 ?_
    refine V_v1R a_X11_does_263 c_X11_69 r1 ?_
    refine V_if_eq_f a_X11_does_266 (by omega) (by omega) ?_
    refine V_ildn3 a_X11_does_269 ?_
    refine V_i2l a_X11_does_270 (by omega) ?_
    refine V_lconst1 a_X11_does_271 ?_
    refine V_ldc2 a_X11_does_272 q_X11_143 ?_
    refine V_s3R a_X11_does_275 c_X11_61 r2 ?_
    refine V_if_ne_t a_X11_does_278 (by omega) (by omega) ?_
    refine V_aldn0 a_X11_does_283 ?_
    refine V_fin a_X11_does_284 f_X11_7 rfl hW ?_
    refine V_bipush a_X11_does_287 (by decide) ?_
    refine V_ildn2 a_X11_does_289 ?_
    refine V_iadd a_X11_does_290 ?_
    refine V_ildn3 a_X11_does_291 ?_
    refine V_i2l a_X11_does_292 (by omega) ?_
    refine V_last a_X11_does_293 rfl (by omega) ?_
    rw [hs]
    refine V_iconst a_X11_does_294 ?_
    exact V_zret a_X11_does_295 (by omega) (⟨rfl, rfl⟩)
  · show V _ 9 0 0 0 [some (vR (some (11, 0))), some (vI 4), none, none, none, none] [] σ _
    refine V_aldn0 a_X11_does_0 ?_
    refine V_fin a_X11_does_1 f_X11_46 rfl hW ?_
    refine V_iconst a_X11_does_4 ?_
    refine V_ialdE a_X11_does_5 rfl (by omega) t0 ?_
    refine V_istn2 a_X11_does_6 ?_
    refine V_aldn0 a_X11_does_7 ?_
    refine V_fin a_X11_does_8 f_X11_46 rfl hW ?_
    refine V_iconst a_X11_does_11 ?_
    refine V_ialdE a_X11_does_12 rfl (by omega) t1 ?_
    refine V_istn3 a_X11_does_13 ?_
    refine V_aldn0 a_X11_does_14 ?_
    refine V_fin a_X11_does_15 f_X11_46 rfl hW ?_
    refine V_iconst a_X11_does_18 ?_
    refine V_ialdE a_X11_does_19 rfl (by omega) t2 ?_
    refine V_ist4 a_X11_does_20 ?_
    refine V_ildn1 a_X11_does_22 ?_
    refine V_table_in a_X11_does_23 (off := 238) rfl rfl (by omega) (by omega) ?_
    by_cases h1 : 0 ≤ a ∧ a < A 0
    · refine V_aldn0 a_X11_does_261 ?_
      refine V_ildn2 a_X11_does_262 ?_
      refine V_v1R a_X11_does_263 c_X11_69 r1 ?_
      refine V_if_eq_f a_X11_does_266 (by omega) (by omega) ?_
      refine V_ildn3 a_X11_does_269 ?_
      refine V_i2l a_X11_does_270 (by omega) ?_
      refine V_lconst1 a_X11_does_271 ?_
      refine V_ldc2 a_X11_does_272 q_X11_143 ?_
      refine V_s3R a_X11_does_275 c_X11_61 r2 ?_
      refine V_if_ne_f a_X11_does_278 (by omega) (by omega) ?_
      refine V_iconst a_X11_does_281 ?_
      exact V_zret a_X11_does_282 (by omega) (⟨rfl, rfl⟩)
    · refine V_aldn0 a_X11_does_261 ?_
      refine V_ildn2 a_X11_does_262 ?_
      refine V_v1R a_X11_does_263 c_X11_69 r1 ?_
      refine V_if_eq_t a_X11_does_266 (by omega) (by omega) ?_
      refine V_iconst a_X11_does_281 ?_
      exact V_zret a_X11_does_282 (by omega) (⟨rfl, rfl⟩)
theorem R_does5 (h : Md D σ A) (t0 : σ.I 60 0 0 = a) (t1 : σ.I 60 0 1 = b) (t2 : σ.I 60 0 2 = c) (ra : iR a) (rb : iR b) :
    (dvdC A a b = 0 → ∃ σ', FK [50, 56, 57, 58, 59] [17, 19] σ σ' ∧ Md D σ' (divX A a b (A 7)).1 ∧ Rt m_X11_does 9 0 0 [vR (some (11, 0)), vI 5] σ (some (vI 1)) σ') ∧ (dvdC A a b ≠ 0 → Rt m_X11_does 9 0 0 [vR (some (11, 0)), vI 5] σ (some (vI 0)) σ) := by
  have hW := h.2.1
  have hI := h.2.2.2
  have hn := hI.n
  obtain ⟨b1, hb1, r1⟩ := B_isSecurity (s := a) h ra
  obtain ⟨b2, hb2, r2⟩ := B_in (σ := σ) (v := b) (x := 1) (y := 9999) (by omega) (by omega) (by omega)
  have e2 : dvdC A a b = 0 ↔ (0 ≤ a ∧ a < A 0) ∧ 1 ≤ b ∧ b ≤ 9999 := by
    unfold dvdC
    by_cases h1 : 0 ≤ a ∧ a < A 0
    · rw [if_neg (fun z => z h1)]
      by_cases h2 : 1 ≤ b ∧ b ≤ 9999
      · rw [if_neg (fun z => z h2)]
        exact ⟨fun _ => ⟨h1, h2⟩, fun _ => rfl⟩
      · rw [if_pos h2]
        exact ⟨fun z => absurd z (by decide), fun z => absurd z.2 h2⟩
    · rw [if_pos h1]
      exact ⟨fun z => absurd z (by decide), fun z => absurd z.1 h1⟩
  refine ⟨fun e => ?_, fun e => ?_⟩
  · have e := e2.mp e
    have r3 := R_divide (s := a) (a := b) h (by omega) e.2
    have h2 := div2 (s := a) (a := b) (n := A 7) hI e.2 (by omega) (Int.le_refl _)
    refine ⟨σ.rJ 50 0 (divX A a b (A 7)).1, (Fm.rJ (by decide)).fk (by decide), ⟨h.1, hW, rJ_J, div_inv hI⟩, ?_⟩
    show V _ 9 0 0 0 [some (vR (some (11, 0))), some (vI 5), none, none, none, none] [] σ _
    refine V_aldn0 a_X11_does_0 ?_
    refine V_fin a_X11_does_1 f_X11_46 rfl hW ?_
    refine V_iconst a_X11_does_4 ?_
    refine V_ialdE a_X11_does_5 rfl (by omega) t0 ?_
    refine V_istn2 a_X11_does_6 ?_
    refine V_aldn0 a_X11_does_7 ?_
    refine V_fin a_X11_does_8 f_X11_46 rfl hW ?_
    refine V_iconst a_X11_does_11 ?_
    refine V_ialdE a_X11_does_12 rfl (by omega) t1 ?_
    refine V_istn3 a_X11_does_13 ?_
    refine V_aldn0 a_X11_does_14 ?_
    refine V_fin a_X11_does_15 f_X11_46 rfl hW ?_
    refine V_iconst a_X11_does_18 ?_
    refine V_ialdE a_X11_does_19 rfl (by omega) t2 ?_
    refine V_ist4 a_X11_does_20 ?_
    refine V_ildn1 a_X11_does_22 ?_
    refine V_table_out a_X11_does_23 (tgt := 296) rfl (by omega) (by omega) ?_
    refine V_aldn0 a_X11_does_296 ?_
    refine V_ildn2 a_X11_does_297 ?_
    refine V_v1R a_X11_does_298 c_X11_69 r1 ?_
    refine V_if_eq_f a_X11_does_301 (by omega) (by omega) ?_
    refine V_ildn3 a_X11_does_304 ?_
    refine V_i2l a_X11_does_305 (by omega) ?_
    refine V_lconst1 a_X11_does_306 ?_
    refine V_ldc2 a_X11_does_307 q_X11_143 ?_
    refine V_s3R a_X11_does_310 c_X11_61 r2 ?_
    refine V_if_eq_f a_X11_does_313 (by omega) (by omega) ?_
    refine V_aldn0 a_X11_does_316 ?_
    refine V_ildn2 a_X11_does_317 ?_
    refine V_ildn3 a_X11_does_318 ?_
    refine V_v2R a_X11_does_319 c_X11_352 r3 ?_
    refine V_lconst0 a_X11_does_322 ?_
    refine V_lc_lt_f a_X11_does_323 a_X11_does_324 (by omega) (by omega) ?_
    refine V_iconst a_X11_does_327 ?_
    refine V_goto a_X11_does_328 ?_
    exact V_zret a_X11_does_332 (by omega) (⟨rfl, rfl⟩)
  · have e : ¬ ((0 ≤ a ∧ a < A 0) ∧ 1 ≤ b ∧ b ≤ 9999) := fun z => e (e2.mpr z)
    show V _ 9 0 0 0 [some (vR (some (11, 0))), some (vI 5), none, none, none, none] [] σ _
    refine V_aldn0 a_X11_does_0 ?_
    refine V_fin a_X11_does_1 f_X11_46 rfl hW ?_
    refine V_iconst a_X11_does_4 ?_
    refine V_ialdE a_X11_does_5 rfl (by omega) t0 ?_
    refine V_istn2 a_X11_does_6 ?_
    refine V_aldn0 a_X11_does_7 ?_
    refine V_fin a_X11_does_8 f_X11_46 rfl hW ?_
    refine V_iconst a_X11_does_11 ?_
    refine V_ialdE a_X11_does_12 rfl (by omega) t1 ?_
    refine V_istn3 a_X11_does_13 ?_
    refine V_aldn0 a_X11_does_14 ?_
    refine V_fin a_X11_does_15 f_X11_46 rfl hW ?_
    refine V_iconst a_X11_does_18 ?_
    refine V_ialdE a_X11_does_19 rfl (by omega) t2 ?_
    refine V_ist4 a_X11_does_20 ?_
    refine V_ildn1 a_X11_does_22 ?_
    refine V_table_out a_X11_does_23 (tgt := 296) rfl (by omega) (by omega) ?_
    by_cases h1 : 0 ≤ a ∧ a < A 0
    · refine V_aldn0 a_X11_does_296 ?_
      refine V_ildn2 a_X11_does_297 ?_
      refine V_v1R a_X11_does_298 c_X11_69 r1 ?_
      refine V_if_eq_f a_X11_does_301 (by omega) (by omega) ?_
      refine V_ildn3 a_X11_does_304 ?_
      refine V_i2l a_X11_does_305 (by omega) ?_
      refine V_lconst1 a_X11_does_306 ?_
      refine V_ldc2 a_X11_does_307 q_X11_143 ?_
      refine V_s3R a_X11_does_310 c_X11_61 r2 ?_
      refine V_if_eq_t a_X11_does_313 (by omega) (by omega) ?_
      refine V_iconst a_X11_does_331 ?_
      exact V_zret a_X11_does_332 (by omega) (⟨rfl, rfl⟩)
    · refine V_aldn0 a_X11_does_296 ?_
      refine V_ildn2 a_X11_does_297 ?_
      refine V_v1R a_X11_does_298 c_X11_69 r1 ?_
      refine V_if_eq_t a_X11_does_301 (by omega) (by omega) ?_
      refine V_iconst a_X11_does_331 ?_
      exact V_zret a_X11_does_332 (by omega) (⟨rfl, rfl⟩)
theorem R_does {w : Int} {v : Int → Int} (h : Md D σ A) (hw : 0 ≤ w ∧ w ≤ 5) (hv : ∀ k, 0 ≤ k → k < 4 → σ.I 60 0 k = v k ∧ iR (v k)) (hD4 : D + 401 ≤ 20000000) :
    (doC A w v = 0 → Cv m_X11_does 9 0 0 [vR (some (11, 0)), vI w] σ (some (vI 1)) (fun τ => FK [50, 56, 57, 58, 59] [17, 19] σ τ ∧ Md (D + 401) τ (doA A w v))) ∧ (doC A w v ≠ 0 → Rt m_X11_does 9 0 0 [vR (some (11, 0)), vI w] σ (some (vI 0)) σ) := by
  obtain ⟨t0, v0⟩ := hv 0 (by decide) (by decide)
  obtain ⟨t1, v1⟩ := hv 1 (by decide) (by decide)
  obtain ⟨t2, v2⟩ := hv 2 (by decide) (by decide)
  obtain ⟨t3, v3⟩ := hv 3 (by decide) (by decide)
  have up : ∀ {D' : Int} {τ : Hp} {B : St}, D' ≤ D + 401 → Md D' τ B → Md (D + 401) τ B := fun hd m => ⟨hD4, m.2.1, m.2.2.1, m.2.2.2.up hd⟩
  have cases : w = 0 ∨ w = 1 ∨ w = 2 ∨ w = 3 ∨ w = 4 ∨ w = 5 := by omega
  rcases cases with rfl | rfl | rfl | rfl | rfl | rfl
  · obtain ⟨g1, g2⟩ := R_does0 h t0 t1 t2 t3 v0 v1 v2 v3 (by omega)
    refine ⟨fun e => ?_, g2⟩
    obtain ⟨σ', f, m, r⟩ := g1 e
    exact r.cv ⟨f, up (by omega) m⟩
  · obtain ⟨g1, g2⟩ := R_does1 h t0 t1 t2 v0 v1
    refine ⟨fun e => ?_, g2⟩
    obtain ⟨σ', f, m, r⟩ := g1 e
    exact r.cv ⟨f, up (by omega) m⟩
  · obtain ⟨g1, g2⟩ := R_does2 h t0 t1 t2 v0 v1 v2
    exact ⟨fun e => (g1 e).mono (fun τ q => ⟨q.1, up (by omega) q.2⟩), g2⟩
  · obtain ⟨g1, g2⟩ := R_does3 h t0 t1 t2 v0 hD4
    by_cases q : 1 ≤ v 0 ∧ v 0 ≤ 400
    · have e0 : doC A 3 v = 0 := by
        show (if 1 ≤ v 0 ∧ v 0 ≤ 400 then (0 : Int) else 1) = 0
        rw [if_pos q]
      refine ⟨fun _ => ?_, fun z => absurd e0 z⟩
      obtain ⟨σ', f, m, r⟩ := g1 q
      exact r.cv ⟨f, up (by omega) m⟩
    · have e0 : doC A 3 v = 1 := by
        show (if 1 ≤ v 0 ∧ v 0 ≤ 400 then (0 : Int) else 1) = 1
        rw [if_neg q]
      exact ⟨fun z => absurd (e0.symm.trans z) (by decide), fun _ => g2 q⟩
  · obtain ⟨g1, g2⟩ := R_does4 h t0 t1 t2 v0 v1
    by_cases q : (0 ≤ v 0 ∧ v 0 < A 0) ∧ 1 ≤ v 1 ∧ v 1 ≤ 9999
    · have e0 : doC A 4 v = 0 := by
        show (if (0 ≤ v 0 ∧ v 0 < A 0) ∧ 1 ≤ v 1 ∧ v 1 ≤ 9999 then (0 : Int) else 1) = 0
        rw [if_pos q]
      refine ⟨fun _ => ?_, fun z => absurd e0 z⟩
      obtain ⟨σ', f, m, r⟩ := g1 q
      exact r.cv ⟨f, up (by omega) m⟩
    · have e0 : doC A 4 v = 1 := by
        show (if (0 ≤ v 0 ∧ v 0 < A 0) ∧ 1 ≤ v 1 ∧ v 1 ≤ 9999 then (0 : Int) else 1) = 1
        rw [if_neg q]
      exact ⟨fun z => absurd (e0.symm.trans z) (by decide), fun _ => g2 q⟩
  · obtain ⟨g1, g2⟩ := R_does5 h t0 t1 t2 v0 v1
    refine ⟨fun e => ?_, g2⟩
    obtain ⟨σ', f, m, r⟩ := g1 e
    exact r.cv ⟨f, up (by omega) m⟩
end Do

