def cntI (w : Int) : Int := if w = 3 then 7 else if w = 4 then 8 else if w = 5 then 6 else if w = 6 then 5 else if w = 7 then 3 else if w = 8 then 4 else w
def rcqA (A : St) (k : Int) : Int := sm (fun l => A (83 + 23 * k + 11 + l)) (A 1)
def slnA (A : St) (k : Int) : Int := sm (fun l => bI (0 < A (83 + 23 * k + 5 + l))) (A 1)
def dueA (A : St) (k : Int) : Int := if nduA A k = -1 then -1 else A (83 + 23 * k + 17 + nduA A k)
def loV (A : St) (k w : Int) : Int := if w = 0 then A (83 + 23 * k + 1) else if w = 1 then A (83 + 23 * k + 2) else if w = 2 then quanA A k else if w = 3 then A (83 + 23 * k + 3) else if w = 4 then A (83 + 23 * k + 4) else if w = 5 then rcqA A k else if w = 6 then dueA A k else slnA A k
def isAc (A : St) (k n : Int) : Prop := (k = 0 ∧ 0 ≤ n ∧ n < A 1) ∨ (k = 1 ∧ 0 ≤ n ∧ n < A 2) ∨ ((2 ≤ k ∧ k ≤ 4) ∧ n = 0)
def balA (A : St) (k n : Int) : Int := if k = 0 then A (73 + n) else if k = 1 then A (79 + n) else A (12 + k - 2)
section Qb
variable {D : Int} {σ : Hp} {A : St}
theorem R_count {w : Int} (h : Md D σ A) (hw : iR w) : ((0 ≤ w ∧ w ≤ 8) → Rt m_X11_count 1 0 0 [vR (some (11, 0)), vI w] σ (some (vI (A (cntI w)))) (σ.th 0)) ∧ (¬ (0 ≤ w ∧ w ≤ 8) → Rt m_X11_count 1 0 0 [vR (some (11, 0)), vI w] σ (some (vI 0)) (σ.th 1)) := by
  obtain ⟨b1, hb1, r1⟩ := B_in (σ := σ) (v := w) (x := 0) (y := 8) (by omega) (by omega) (by omega)
  have hm : Md D (σ.th 0) A := h
  obtain ⟨-, hW, hA, -⟩ := id hm
  refine ⟨fun e => ?_, fun e => ?_⟩
  · show V _ 1 0 0 0 [some (vR (some (11, 0))), some (vI w)] [] σ _
    refine V_aldn0 a_X11_count_0 ?_
    refine V_ildn1 a_X11_count_1 ?_
    refine V_i2l a_X11_count_2 (by omega) ?_
    refine V_lconst0 a_X11_count_3 ?_
    refine V_ldc2 a_X11_count_4 q_X11_387 ?_
    refine V_s3R a_X11_count_7 c_X11_61 r1 ?_
    refine V_if_ne_t a_X11_count_10 (by omega) (by omega) ?_
    refine V_iconst a_X11_count_17 ?_
    refine V_iconst a_X11_count_18 ?_
    refine V_v2R a_X11_count_19 c_X11_72 R_fails0 ?_
    refine V_if_eq_t a_X11_count_22 (by omega) (by omega) ?_
    skip
    have cases : w = 0 ∨ w = 1 ∨ w = 2 ∨ w = 3 ∨ w = 4 ∨ w = 5 ∨ w = 6 ∨ w = 7 ∨ w = 8 := by omega
    rcases cases with rfl | rfl | rfl | rfl | rfl | rfl | rfl | rfl | rfl
    · refine V_ildn1 a_X11_count_27 ?_
      refine V_table_in a_X11_count_28 (off := 48) rfl rfl (by omega) (by omega) ?_
      refine V_aldn0 a_X11_count_76 ?_
      refine V_fin a_X11_count_77 f_X11_7 rfl hW ?_
      refine V_iconst a_X11_count_80 ?_
      refine V_w a_X11_count_81 (by omega) hA ?_
      refine V_l2i a_X11_count_82 ?_
      exact V_iret a_X11_count_83 (⟨rfl, rfl⟩)
    · refine V_ildn1 a_X11_count_27 ?_
      refine V_table_in a_X11_count_28 (off := 56) rfl rfl (by omega) (by omega) ?_
      refine V_aldn0 a_X11_count_84 ?_
      refine V_fin a_X11_count_85 f_X11_7 rfl hW ?_
      refine V_iconst a_X11_count_88 ?_
      refine V_w a_X11_count_89 (by omega) hA ?_
      refine V_l2i a_X11_count_90 ?_
      exact V_iret a_X11_count_91 (⟨rfl, rfl⟩)
    · refine V_ildn1 a_X11_count_27 ?_
      refine V_table_in a_X11_count_28 (off := 64) rfl rfl (by omega) (by omega) ?_
      refine V_aldn0 a_X11_count_92 ?_
      refine V_fin a_X11_count_93 f_X11_7 rfl hW ?_
      refine V_iconst a_X11_count_96 ?_
      refine V_w a_X11_count_97 (by omega) hA ?_
      refine V_l2i a_X11_count_98 ?_
      exact V_iret a_X11_count_99 (⟨rfl, rfl⟩)
    · refine V_ildn1 a_X11_count_27 ?_
      refine V_table_in a_X11_count_28 (off := 72) rfl rfl (by omega) (by omega) ?_
      refine V_aldn0 a_X11_count_100 ?_
      refine V_fin a_X11_count_101 f_X11_7 rfl hW ?_
      refine V_bipush a_X11_count_104 (by decide) ?_
      refine V_w a_X11_count_106 (by omega) hA ?_
      refine V_l2i a_X11_count_107 ?_
      exact V_iret a_X11_count_108 (⟨rfl, rfl⟩)
    · refine V_ildn1 a_X11_count_27 ?_
      refine V_table_in a_X11_count_28 (off := 81) rfl rfl (by omega) (by omega) ?_
      refine V_aldn0 a_X11_count_109 ?_
      refine V_fin a_X11_count_110 f_X11_7 rfl hW ?_
      refine V_bipush a_X11_count_113 (by decide) ?_
      refine V_w a_X11_count_115 (by omega) hA ?_
      refine V_l2i a_X11_count_116 ?_
      exact V_iret a_X11_count_117 (⟨rfl, rfl⟩)
    · refine V_ildn1 a_X11_count_27 ?_
      refine V_table_in a_X11_count_28 (off := 90) rfl rfl (by omega) (by omega) ?_
      refine V_aldn0 a_X11_count_118 ?_
      refine V_fin a_X11_count_119 f_X11_7 rfl hW ?_
      refine V_bipush a_X11_count_122 (by decide) ?_
      refine V_w a_X11_count_124 (by omega) hA ?_
      refine V_l2i a_X11_count_125 ?_
      exact V_iret a_X11_count_126 (⟨rfl, rfl⟩)
    · refine V_ildn1 a_X11_count_27 ?_
      refine V_table_in a_X11_count_28 (off := 99) rfl rfl (by omega) (by omega) ?_
      refine V_aldn0 a_X11_count_127 ?_
      refine V_fin a_X11_count_128 f_X11_7 rfl hW ?_
      refine V_iconst a_X11_count_131 ?_
      refine V_w a_X11_count_132 (by omega) hA ?_
      refine V_l2i a_X11_count_133 ?_
      exact V_iret a_X11_count_134 (⟨rfl, rfl⟩)
    · refine V_ildn1 a_X11_count_27 ?_
      refine V_table_in a_X11_count_28 (off := 107) rfl rfl (by omega) (by omega) ?_
      refine V_aldn0 a_X11_count_135 ?_
      refine V_fin a_X11_count_136 f_X11_7 rfl hW ?_
      refine V_iconst a_X11_count_139 ?_
      refine V_w a_X11_count_140 (by omega) hA ?_
      refine V_l2i a_X11_count_141 ?_
      exact V_iret a_X11_count_142 (⟨rfl, rfl⟩)
    · refine V_ildn1 a_X11_count_27 ?_
      refine V_table_out a_X11_count_28 (tgt := 143) rfl (by omega) (by omega) ?_
      refine V_aldn0 a_X11_count_143 ?_
      refine V_fin a_X11_count_144 f_X11_7 rfl hW ?_
      refine V_iconst a_X11_count_147 ?_
      refine V_w a_X11_count_148 (by omega) hA ?_
      refine V_l2i a_X11_count_149 ?_
      exact V_iret a_X11_count_150 (⟨rfl, rfl⟩)
  · show V _ 1 0 0 0 [some (vR (some (11, 0))), some (vI w)] [] σ _
    refine V_aldn0 a_X11_count_0 ?_
    refine V_ildn1 a_X11_count_1 ?_
    refine V_i2l a_X11_count_2 (by omega) ?_
    refine V_lconst0 a_X11_count_3 ?_
    refine V_ldc2 a_X11_count_4 q_X11_387 ?_
    refine V_s3R a_X11_count_7 c_X11_61 r1 ?_
    refine V_if_ne_f a_X11_count_10 (by omega) (by omega) ?_
    refine V_iconst a_X11_count_13 ?_
    refine V_goto a_X11_count_14 ?_
    refine V_iconst a_X11_count_18 ?_
    refine V_v2R a_X11_count_19 c_X11_72 R_fails1 ?_
    refine V_if_eq_f a_X11_count_22 (by omega) (by omega) ?_
    refine V_iconst a_X11_count_25 ?_
    exact V_iret a_X11_count_26 (⟨rfl, rfl⟩)
theorem R_security {s w : Int} (h : Md D σ A) (hs : iR s) (hw : iR w) : (((0 ≤ s ∧ s < A 0) ∧ 0 ≤ w ∧ w ≤ 1) → Rt m_X11_security 3 0 0 [vR (some (11, 0)), vI s, vI w] σ (some (vI (if w = 0 then A (15 + s) else A (19 + s)))) (σ.th 0)) ∧ (¬ (0 ≤ s ∧ s < A 0) → Rt m_X11_security 3 0 0 [vR (some (11, 0)), vI s, vI w] σ (some (vI 0)) (σ.th 1)) ∧ ((0 ≤ s ∧ s < A 0) → ¬ (0 ≤ w ∧ w ≤ 1) → Rt m_X11_security 3 0 0 [vR (some (11, 0)), vI s, vI w] σ (some (vI 0)) (σ.th 2)) := by
  have hn := h.2.2.2.n
  obtain ⟨b1, hb1, r1⟩ := B_isNoSecurity (s := s) h hs
  obtain ⟨b2, hb2, r2⟩ := B_in (σ := σ.th 0) (v := w) (x := 0) (y := 1) (by omega) (by omega) (by omega)
  have hm : Md D ((σ.th 0).th 0) A := h
  obtain ⟨-, hW, hA, -⟩ := id hm
  refine ⟨fun e => ?_, fun e => ?_, fun e e2 => ?_⟩
  · have hb : b1 = 0 := by omega
    subst hb
    show V _ 3 0 0 0 [some (vR (some (11, 0))), some (vI s), some (vI w)] [] σ _
    refine V_aldn0 a_X11_security_0 ?_
    refine V_ildn1 a_X11_security_1 ?_
    refine V_v1R a_X11_security_2 c_X11_349 r1 ?_
    refine V_if_ne_f a_X11_security_5 (by omega) (by omega) ?_
    refine V_aldn0 a_X11_security_8 ?_
    refine V_ildn2 a_X11_security_9 ?_
    refine V_i2l a_X11_security_10 (by omega) ?_
    refine V_lconst0 a_X11_security_11 ?_
    refine V_lconst1 a_X11_security_12 ?_
    refine V_s3R a_X11_security_13 c_X11_61 r2 ?_
    refine V_if_ne_t a_X11_security_16 (by omega) (by omega) ?_
    refine V_iconst a_X11_security_23 ?_
    refine V_iconst a_X11_security_24 ?_
    refine V_v2R a_X11_security_25 c_X11_72 R_fails0 ?_
    refine V_if_eq_t a_X11_security_28 (by omega) (by omega) ?_
    refine V_aldn0 a_X11_security_35 ?_
    refine V_fin a_X11_security_36 f_X11_7 rfl hW ?_
    refine V_ildn2 a_X11_security_39 ?_
    refine V_if_ne a_X11_security_40 (by omega) (fun hc40 => ?_) (fun hc40 => ?_)
    · refine V_bipush a_X11_security_48 (by decide) ?_
      refine V_ildn1 a_X11_security_50 ?_
      refine V_iadd a_X11_security_51 ?_
      refine V_w a_X11_security_52 (by omega) hA ?_
      refine V_l2i a_X11_security_53 ?_
      exact V_iret a_X11_security_54 (⟨by first | rw [if_pos (by omega)] | rw [if_neg (by omega)], by rw [th_th]⟩)
    · refine V_bipush a_X11_security_43 (by decide) ?_
      refine V_goto a_X11_security_45 ?_
      refine V_ildn1 a_X11_security_50 ?_
      refine V_iadd a_X11_security_51 ?_
      refine V_w a_X11_security_52 (by omega) hA ?_
      refine V_l2i a_X11_security_53 ?_
      exact V_iret a_X11_security_54 (⟨by first | rw [if_pos (by omega)] | rw [if_neg (by omega)], by rw [th_th]⟩)
  · have hb : b1 = 1 := by omega
    subst hb
    show V _ 3 0 0 0 [some (vR (some (11, 0))), some (vI s), some (vI w)] [] σ _
    refine V_aldn0 a_X11_security_0 ?_
    refine V_ildn1 a_X11_security_1 ?_
    refine V_v1R a_X11_security_2 c_X11_349 r1 ?_
    refine V_if_ne_t a_X11_security_5 (by omega) (by omega) ?_
    refine V_iconst a_X11_security_31 ?_
    refine V_goto a_X11_security_32 ?_
    exact V_iret a_X11_security_54 (⟨rfl, rfl⟩)
  · have hb : b1 = 0 := by omega
    subst hb
    show V _ 3 0 0 0 [some (vR (some (11, 0))), some (vI s), some (vI w)] [] σ _
    refine V_aldn0 a_X11_security_0 ?_
    refine V_ildn1 a_X11_security_1 ?_
    refine V_v1R a_X11_security_2 c_X11_349 r1 ?_
    refine V_if_ne_f a_X11_security_5 (by omega) (by omega) ?_
    refine V_aldn0 a_X11_security_8 ?_
    refine V_ildn2 a_X11_security_9 ?_
    refine V_i2l a_X11_security_10 (by omega) ?_
    refine V_lconst0 a_X11_security_11 ?_
    refine V_lconst1 a_X11_security_12 ?_
    refine V_s3R a_X11_security_13 c_X11_61 r2 ?_
    refine V_if_ne_f a_X11_security_16 (by omega) (by omega) ?_
    refine V_iconst a_X11_security_19 ?_
    refine V_goto a_X11_security_20 ?_
    refine V_iconst a_X11_security_24 ?_
    refine V_v2R a_X11_security_25 c_X11_72 R_fails1 ?_
    refine V_if_eq_f a_X11_security_28 (by omega) (by omega) ?_
    refine V_iconst a_X11_security_31 ?_
    refine V_goto a_X11_security_32 ?_
    exact V_iret a_X11_security_54 (⟨rfl, by rw [th_th]⟩)
theorem R_lender {l w : Int} (h : Md D σ A) (hl : iR l) (hw : iR w) : (((0 ≤ l ∧ l < A 1) ∧ 0 ≤ w ∧ w ≤ 2) → Rt m_X11_lender 3 0 0 [vR (some (11, 0)), vI l, vI w] σ (some (vI (A (27 + 6 * w + l)))) (σ.th 0)) ∧ (¬ (0 ≤ l ∧ l < A 1) → Rt m_X11_lender 3 0 0 [vR (some (11, 0)), vI l, vI w] σ (some (vI 0)) (σ.th 1)) ∧ ((0 ≤ l ∧ l < A 1) → ¬ (0 ≤ w ∧ w ≤ 2) → Rt m_X11_lender 3 0 0 [vR (some (11, 0)), vI l, vI w] σ (some (vI 0)) (σ.th 2)) := by
  have hn := h.2.2.2.n
  obtain ⟨b1, hb1, r1⟩ := B_isLender (l := l) h hl
  obtain ⟨b2, hb2, r2⟩ := B_in (σ := σ.th 0) (v := w) (x := 0) (y := 2) (by omega) (by omega) (by omega)
  have hm : Md D ((σ.th 0).th 0) A := h
  obtain ⟨-, hW, hA, -⟩ := id hm
  refine ⟨fun e => ?_, fun e => ?_, fun e e2 => ?_⟩
  · show V _ 3 0 0 0 [some (vR (some (11, 0))), some (vI l), some (vI w)] [] σ _
    refine V_aldn0 a_X11_lender_0 ?_
    refine V_aldn0 a_X11_lender_1 ?_
    refine V_ildn1 a_X11_lender_2 ?_
    refine V_v1R a_X11_lender_3 c_X11_65 r1 ?_
    refine V_if_ne_t a_X11_lender_6 (by omega) (by omega) ?_
    refine V_iconst a_X11_lender_13 ?_
    refine V_iconst a_X11_lender_14 ?_
    refine V_v2R a_X11_lender_15 c_X11_72 R_fails0 ?_
    refine V_if_ne_f a_X11_lender_18 (by omega) (by omega) ?_
    refine V_aldn0 a_X11_lender_21 ?_
    refine V_ildn2 a_X11_lender_22 ?_
    refine V_i2l a_X11_lender_23 (by omega) ?_
    refine V_lconst0 a_X11_lender_24 ?_
    refine V_ldc2 a_X11_lender_25 q_X11_362 ?_
    refine V_s3R a_X11_lender_28 c_X11_61 r2 ?_
    refine V_if_ne_t a_X11_lender_31 (by omega) (by omega) ?_
    refine V_iconst a_X11_lender_38 ?_
    refine V_iconst a_X11_lender_39 ?_
    refine V_v2R a_X11_lender_40 c_X11_72 R_fails0 ?_
    refine V_if_eq_t a_X11_lender_43 (by omega) (by omega) ?_
    refine V_aldn0 a_X11_lender_50 ?_
    refine V_fin a_X11_lender_51 f_X11_7 rfl hW ?_
    refine V_bipush a_X11_lender_54 (by decide) ?_
    refine V_bipush a_X11_lender_56 (by decide) ?_
    refine V_ildn2 a_X11_lender_58 ?_
    refine V_imul a_X11_lender_59 ?_
    refine V_iadd a_X11_lender_60 ?_
    refine V_ildn1 a_X11_lender_61 ?_
    refine V_iadd a_X11_lender_62 ?_
    refine V_w a_X11_lender_63 (by omega) hA ?_
    refine V_l2i a_X11_lender_64 ?_
    exact V_iret a_X11_lender_65 (⟨rfl, by rw [th_th]⟩)
  · show V _ 3 0 0 0 [some (vR (some (11, 0))), some (vI l), some (vI w)] [] σ _
    refine V_aldn0 a_X11_lender_0 ?_
    refine V_aldn0 a_X11_lender_1 ?_
    refine V_ildn1 a_X11_lender_2 ?_
    refine V_v1R a_X11_lender_3 c_X11_65 r1 ?_
    refine V_if_ne_f a_X11_lender_6 (by omega) (by omega) ?_
    refine V_iconst a_X11_lender_9 ?_
    refine V_goto a_X11_lender_10 ?_
    refine V_iconst a_X11_lender_14 ?_
    refine V_v2R a_X11_lender_15 c_X11_72 R_fails1 ?_
    refine V_if_ne_t a_X11_lender_18 (by omega) (by omega) ?_
    refine V_iconst a_X11_lender_46 ?_
    refine V_goto a_X11_lender_47 ?_
    exact V_iret a_X11_lender_65 (⟨rfl, rfl⟩)
  · show V _ 3 0 0 0 [some (vR (some (11, 0))), some (vI l), some (vI w)] [] σ _
    refine V_aldn0 a_X11_lender_0 ?_
    refine V_aldn0 a_X11_lender_1 ?_
    refine V_ildn1 a_X11_lender_2 ?_
    refine V_v1R a_X11_lender_3 c_X11_65 r1 ?_
    refine V_if_ne_t a_X11_lender_6 (by omega) (by omega) ?_
    refine V_iconst a_X11_lender_13 ?_
    refine V_iconst a_X11_lender_14 ?_
    refine V_v2R a_X11_lender_15 c_X11_72 R_fails0 ?_
    refine V_if_ne_f a_X11_lender_18 (by omega) (by omega) ?_
    refine V_aldn0 a_X11_lender_21 ?_
    refine V_ildn2 a_X11_lender_22 ?_
    refine V_i2l a_X11_lender_23 (by omega) ?_
    refine V_lconst0 a_X11_lender_24 ?_
    refine V_ldc2 a_X11_lender_25 q_X11_362 ?_
    refine V_s3R a_X11_lender_28 c_X11_61 r2 ?_
    refine V_if_ne_f a_X11_lender_31 (by omega) (by omega) ?_
    refine V_iconst a_X11_lender_34 ?_
    refine V_goto a_X11_lender_35 ?_
    refine V_iconst a_X11_lender_39 ?_
    refine V_v2R a_X11_lender_40 c_X11_72 R_fails1 ?_
    refine V_if_eq_f a_X11_lender_43 (by omega) (by omega) ?_
    refine V_iconst a_X11_lender_46 ?_
    refine V_goto a_X11_lender_47 ?_
    exact V_iret a_X11_lender_65 (⟨rfl, by rw [th_th]⟩)
theorem R_openLoan {k : Int} (h : Md D σ A) (hk : iR k) : ((0 ≤ k ∧ k < A 7) → Rt m_X11_openLoan 1 0 0 [vR (some (11, 0)), vI k] σ (some (vI (A (83 + 23 * k + 0)))) (σ.th 0)) ∧ (¬ (0 ≤ k ∧ k < A 7) → Rt m_X11_openLoan 1 0 0 [vR (some (11, 0)), vI k] σ (some (vI 0)) (σ.th 1)) := by
  have hn := h.2.2.2.n
  have hm : Md D (σ.th 0) A := h
  obtain ⟨-, hW, hA, -⟩ := id h
  obtain ⟨b2, hb2, r2⟩ := B_in (σ := σ) (v := k) (x := 0) (y := A 7 - 1) (by omega) (by omega) (by omega)
  refine ⟨fun e => ?_, fun e => ?_⟩
  · show V _ 1 0 0 0 [some (vR (some (11, 0))), some (vI k)] [] σ _
    refine V_aldn0 a_X11_openLoan_0 ?_
    refine V_ildn1 a_X11_openLoan_1 ?_
    refine V_i2l a_X11_openLoan_2 (by omega) ?_
    refine V_lconst0 a_X11_openLoan_3 ?_
    refine V_aldn0 a_X11_openLoan_4 ?_
    refine V_fin a_X11_openLoan_5 f_X11_7 rfl hW ?_
    refine V_bipush a_X11_openLoan_8 (by decide) ?_
    refine V_w a_X11_openLoan_10 (by omega) hA ?_
    refine V_lconst1 a_X11_openLoan_11 ?_
    refine V_lsub a_X11_openLoan_12 ?_
    refine V_s3R a_X11_openLoan_13 c_X11_61 r2 ?_
    refine V_if_ne_t a_X11_openLoan_16 (by omega) (by omega) ?_
    refine V_iconst a_X11_openLoan_23 ?_
    refine V_iconst a_X11_openLoan_24 ?_
    refine V_v2R a_X11_openLoan_25 c_X11_72 R_fails0 ?_
    refine V_if_eq_t a_X11_openLoan_28 (by omega) (by omega) ?_
    refine V_aldn0 a_X11_openLoan_35 ?_
    refine V_fin a_X11_openLoan_36 f_X11_7 rfl hW ?_
    refine V_ildn1 a_X11_openLoan_39 ?_
    refine V_s1R a_X11_openLoan_40 c_X11_197 R_loanAt ?_
    refine V_iconst a_X11_openLoan_43 ?_
    refine V_iadd a_X11_openLoan_44 ?_
    refine V_w a_X11_openLoan_45 (by omega) hA ?_
    refine V_l2i a_X11_openLoan_46 ?_
    exact V_iret a_X11_openLoan_47 (⟨rfl, rfl⟩)
  · show V _ 1 0 0 0 [some (vR (some (11, 0))), some (vI k)] [] σ _
    refine V_aldn0 a_X11_openLoan_0 ?_
    refine V_ildn1 a_X11_openLoan_1 ?_
    refine V_i2l a_X11_openLoan_2 (by omega) ?_
    refine V_lconst0 a_X11_openLoan_3 ?_
    refine V_aldn0 a_X11_openLoan_4 ?_
    refine V_fin a_X11_openLoan_5 f_X11_7 rfl hW ?_
    refine V_bipush a_X11_openLoan_8 (by decide) ?_
    refine V_w a_X11_openLoan_10 (by omega) hA ?_
    refine V_lconst1 a_X11_openLoan_11 ?_
    refine V_lsub a_X11_openLoan_12 ?_
    refine V_s3R a_X11_openLoan_13 c_X11_61 r2 ?_
    refine V_if_ne_f a_X11_openLoan_16 (by omega) (by omega) ?_
    refine V_iconst a_X11_openLoan_19 ?_
    refine V_goto a_X11_openLoan_20 ?_
    refine V_iconst a_X11_openLoan_24 ?_
    refine V_v2R a_X11_openLoan_25 c_X11_72 R_fails1 ?_
    refine V_if_eq_f a_X11_openLoan_28 (by omega) (by omega) ?_
    refine V_iconst a_X11_openLoan_31 ?_
    refine V_goto a_X11_openLoan_32 ?_
    exact V_iret a_X11_openLoan_47 (⟨rfl, rfl⟩)
theorem B_isAccount {k n : Int} (h : Md D σ A) (hk : iR k) (hn : iR n) : ∃ b : Int, ((b = 1 ∧ isAc A k n) ∨ (b = 0 ∧ ¬ isAc A k n)) ∧ Rt m_X11_isAccount 2 0 0 [vR (some (11, 0)), vI k, vI n] σ (some (vI b)) σ := by
  obtain ⟨b1, hb1, r1⟩ := B_isLender (l := n) h hn
  obtain ⟨b2, hb2, r2⟩ := B_isBorrower (l := n) h hn
  obtain ⟨b3, hb3, r3⟩ := B_in (σ := σ) (v := k) (x := 2) (y := 4) (by omega) (by omega) (by omega)
  unfold isAc
  by_cases k0 : k = 0
  · refine ⟨b1, by omega, ?_⟩
    show V _ 2 0 0 0 [some (vR (some (11, 0))), some (vI k), some (vI n)] [] σ _
    refine V_ildn1 a_X11_isAccount_0 ?_
    refine V_if_ne_f a_X11_isAccount_1 (by omega) (by omega) ?_
    refine V_aldn0 a_X11_isAccount_4 ?_
    refine V_ildn2 a_X11_isAccount_5 ?_
    refine V_v1R a_X11_isAccount_6 c_X11_65 r1 ?_
    refine V_goto a_X11_isAccount_9 ?_
    exact V_zret a_X11_isAccount_48 (by omega) (⟨rfl, rfl⟩)
  · by_cases k1 : k = 1
    · refine ⟨b2, by omega, ?_⟩
      show V _ 2 0 0 0 [some (vR (some (11, 0))), some (vI k), some (vI n)] [] σ _
      refine V_ildn1 a_X11_isAccount_0 ?_
      refine V_if_ne_t a_X11_isAccount_1 (by omega) (by omega) ?_
      refine V_ildn1 a_X11_isAccount_12 ?_
      refine V_iconst a_X11_isAccount_13 ?_
      refine V_icmp_ne_f a_X11_isAccount_14 (by omega) (by omega) ?_
      refine V_aldn0 a_X11_isAccount_17 ?_
      refine V_ildn2 a_X11_isAccount_18 ?_
      refine V_v1R a_X11_isAccount_19 c_X11_262 r2 ?_
      refine V_goto a_X11_isAccount_22 ?_
      exact V_zret a_X11_isAccount_48 (by omega) (⟨rfl, rfl⟩)
    · by_cases q : (2 ≤ k ∧ k ≤ 4) ∧ n = 0
      · refine ⟨1, by omega, ?_⟩
        show V _ 2 0 0 0 [some (vR (some (11, 0))), some (vI k), some (vI n)] [] σ _
        refine V_ildn1 a_X11_isAccount_0 ?_
        refine V_if_ne_t a_X11_isAccount_1 (by omega) (by omega) ?_
        refine V_ildn1 a_X11_isAccount_12 ?_
        refine V_iconst a_X11_isAccount_13 ?_
        refine V_icmp_ne_t a_X11_isAccount_14 (by omega) (by omega) ?_
        refine V_ildn1 a_X11_isAccount_25 ?_
        refine V_i2l a_X11_isAccount_26 (by omega) ?_
        refine V_ldc2 a_X11_isAccount_27 q_X11_362 ?_
        refine V_ldc2 a_X11_isAccount_30 q_X11_389 ?_
        refine V_s3R a_X11_isAccount_33 c_X11_61 r3 ?_
        refine V_if_eq_f a_X11_isAccount_36 (by omega) (by omega) ?_
        refine V_ildn2 a_X11_isAccount_39 ?_
        refine V_if_ne_f a_X11_isAccount_40 (by omega) (by omega) ?_
        refine V_iconst a_X11_isAccount_43 ?_
        refine V_goto a_X11_isAccount_44 ?_
        exact V_zret a_X11_isAccount_48 (by omega) (⟨rfl, rfl⟩)
      · refine ⟨0, by omega, ?_⟩
        show V _ 2 0 0 0 [some (vR (some (11, 0))), some (vI k), some (vI n)] [] σ _
        refine V_ildn1 a_X11_isAccount_0 ?_
        refine V_if_ne_t a_X11_isAccount_1 (by omega) (by omega) ?_
        refine V_ildn1 a_X11_isAccount_12 ?_
        refine V_iconst a_X11_isAccount_13 ?_
        refine V_icmp_ne_t a_X11_isAccount_14 (by omega) (by omega) ?_
        refine V_ildn1 a_X11_isAccount_25 ?_
        refine V_i2l a_X11_isAccount_26 (by omega) ?_
        refine V_ldc2 a_X11_isAccount_27 q_X11_362 ?_
        refine V_ldc2 a_X11_isAccount_30 q_X11_389 ?_
        refine V_s3R a_X11_isAccount_33 c_X11_61 r3 ?_
        refine V_if_eq a_X11_isAccount_36 (by omega) (fun hc36 => ?_) (fun hc36 => ?_)
        · refine V_iconst a_X11_isAccount_47 ?_
          exact V_zret a_X11_isAccount_48 (by omega) (⟨rfl, rfl⟩)
        · refine V_ildn2 a_X11_isAccount_39 ?_
          refine V_if_ne_t a_X11_isAccount_40 (by omega) (by omega) ?_
          refine V_iconst a_X11_isAccount_47 ?_
          exact V_zret a_X11_isAccount_48 (by omega) (⟨rfl, rfl⟩)
theorem R_bal {k n : Int} (hW : WF σ) (hA : σ.J 50 0 = A) (hk : (k = 0 ∧ 0 ≤ n ∧ n < 6) ∨ (k = 1 ∧ 0 ≤ n ∧ n < 4) ∨ ((2 ≤ k ∧ k ≤ 4) ∧ n = 0)) : Rt m_X11_balance 0 0 0 [vR (some (11, 0)), vI k, vI n] σ (some (vL (balA A k n))) σ := by
  show V _ 0 0 0 0 [some (vR (some (11, 0))), some (vI k), some (vI n)] [] σ _
  unfold balA
  refine V_ildn1 a_X11_balance_0 ?_
  refine V_if_ne a_X11_balance_1 (by omega) (fun hc1 => ?_) (fun hc1 => ?_)
  · refine V_ildn1 a_X11_balance_16 ?_
    refine V_iconst a_X11_balance_17 ?_
    refine V_icmp_ne a_X11_balance_18 (by omega) (fun hc18 => ?_) (fun hc18 => ?_)
    · refine V_aldn0 a_X11_balance_33 ?_
      refine V_fin a_X11_balance_34 f_X11_7 rfl hW ?_
      refine V_bipush a_X11_balance_37 (by decide) ?_
      refine V_ildn1 a_X11_balance_39 ?_
      refine V_iadd a_X11_balance_40 ?_
      refine V_iconst a_X11_balance_41 ?_
      refine V_isub a_X11_balance_42 ?_
      refine V_w a_X11_balance_43 (by omega) hA ?_
      exact V_lret a_X11_balance_44 (⟨by first | rw [if_pos (by omega)] | rw [if_neg (by omega), if_pos (by omega)] | rw [if_neg (by omega), if_neg (by omega)], rfl⟩)
    · refine V_aldn0 a_X11_balance_21 ?_
      refine V_fin a_X11_balance_22 f_X11_7 rfl hW ?_
      refine V_bipush a_X11_balance_25 (by decide) ?_
      refine V_ildn2 a_X11_balance_27 ?_
      refine V_iadd a_X11_balance_28 ?_
      refine V_w a_X11_balance_29 (by omega) hA ?_
      refine V_goto a_X11_balance_30 ?_
      exact V_lret a_X11_balance_44 (⟨by first | rw [if_pos (by omega)] | rw [if_neg (by omega), if_pos (by omega)] | rw [if_neg (by omega), if_neg (by omega)], rfl⟩)
  · refine V_aldn0 a_X11_balance_4 ?_
    refine V_fin a_X11_balance_5 f_X11_7 rfl hW ?_
    refine V_bipush a_X11_balance_8 (by decide) ?_
    refine V_ildn2 a_X11_balance_10 ?_
    refine V_iadd a_X11_balance_11 ?_
    refine V_w a_X11_balance_12 (by omega) hA ?_
    refine V_goto a_X11_balance_13 ?_
    exact V_lret a_X11_balance_44 (⟨by first | rw [if_pos (by omega)] | rw [if_neg (by omega), if_pos (by omega)] | rw [if_neg (by omega), if_neg (by omega)], rfl⟩)
theorem R_account {k n : Int} (h : Md D σ A) (hk : iR k) (hn : iR n) : (isAc A k n → Rt m_X11_account 3 0 0 [vR (some (11, 0)), vI k, vI n] σ (some (vL (balA A k n))) (σ.th 0)) ∧ (¬ isAc A k n → Rt m_X11_account 3 0 0 [vR (some (11, 0)), vI k, vI n] σ (some (vL 0)) (σ.th 1)) := by
  have hnn := h.2.2.2.n
  obtain ⟨b, hb, r⟩ := B_isAccount h hk hn
  refine ⟨fun e => ?_, fun e => ?_⟩
  · have hb1 : b = 1 := by
      rcases hb with z | z
      · exact z.1
      · exact absurd e z.2
    have e2 : (k = 0 ∧ 0 ≤ n ∧ n < 6) ∨ (k = 1 ∧ 0 ≤ n ∧ n < 4) ∨ ((2 ≤ k ∧ k ≤ 4) ∧ n = 0) := by
      unfold isAc at e
      omega
    have r2 := R_bal (σ := σ.th 0) (A := A) h.2.1 h.2.2.1 e2
    show V _ 3 0 0 0 [some (vR (some (11, 0))), some (vI k), some (vI n)] [] σ _
    refine V_aldn0 a_X11_account_0 ?_
    refine V_aldn0 a_X11_account_1 ?_
    refine V_ildn1 a_X11_account_2 ?_
    refine V_ildn2 a_X11_account_3 ?_
    refine V_v2R a_X11_account_4 c_X11_391 r ?_
    refine V_if_ne_t a_X11_account_7 (by omega) (by omega) ?_
    refine V_iconst a_X11_account_14 ?_
    refine V_iconst a_X11_account_15 ?_
    refine V_v2R a_X11_account_16 c_X11_72 R_fails0 ?_
    refine V_if_eq_t a_X11_account_19 (by omega) (by omega) ?_
    refine V_aldn0 a_X11_account_26 ?_
    refine V_ildn1 a_X11_account_27 ?_
    refine V_ildn2 a_X11_account_28 ?_
    refine V_v2R a_X11_account_29 c_X11_394 r2 ?_
    exact V_lret a_X11_account_32 (⟨rfl, rfl⟩)
  · have hb1 : b = 0 := by
      rcases hb with z | z
      · exact absurd z.2 e
      · exact z.1
    show V _ 3 0 0 0 [some (vR (some (11, 0))), some (vI k), some (vI n)] [] σ _
    refine V_aldn0 a_X11_account_0 ?_
    refine V_aldn0 a_X11_account_1 ?_
    refine V_ildn1 a_X11_account_2 ?_
    refine V_ildn2 a_X11_account_3 ?_
    refine V_v2R a_X11_account_4 c_X11_391 r ?_
    refine V_if_ne_f a_X11_account_7 (by omega) (by omega) ?_
    refine V_iconst a_X11_account_10 ?_
    refine V_goto a_X11_account_11 ?_
    refine V_iconst a_X11_account_15 ?_
    refine V_v2R a_X11_account_16 c_X11_72 R_fails1 ?_
    refine V_if_eq_f a_X11_account_19 (by omega) (by omega) ?_
    refine V_lconst0 a_X11_account_22 ?_
    refine V_goto a_X11_account_23 ?_
    exact V_lret a_X11_account_32 (⟨rfl, rfl⟩)
theorem R_recalledAt {k : Int} (h : Md D σ A) (hk : 0 ≤ k ∧ k < 12) : Rt m_X11_recalledAt 0 0 0 [vR (some (11, 0)), vI (83 + 23 * k)] σ (some (vL (rcqA A k))) σ := by
  obtain ⟨hD, hW, hA, hI⟩ := h
  show V _ 0 0 0 0 [some (vR (some (11, 0))), some (vI (83 + 23 * k)), none, none, none] [] σ _
  have hn := hI.n
  refine V_lconst0 a_X11_recalledAt_0 ?_
  refine V_lstn2 a_X11_recalledAt_1 ?_
  refine V_iconst a_X11_recalledAt_2 ?_
  refine V_ist4 a_X11_recalledAt_3 ?_
  refine loopI (P := fun l => V _ 0 0 0 5 [some (vR (some (11, 0))), some (vI (83 + 23 * k)), some (vL (sm (fun l => A (83 + 23 * k + 11 + l)) l)), none, some (vI l)] [] σ _) (N := A 1) (by omega) ?_ ?_
  · refine V_ild4 a_X11_recalledAt_5 ?_
    refine V_i2l a_X11_recalledAt_7 (by omega) ?_
    refine V_aldn0 a_X11_recalledAt_8 ?_
    refine V_fin a_X11_recalledAt_9 f_X11_7 rfl hW ?_
    refine V_iconst a_X11_recalledAt_12 ?_
    refine V_w a_X11_recalledAt_13 (by omega) hA ?_
    refine V_lc_ge_t a_X11_recalledAt_14 a_X11_recalledAt_15 (by omega) (by omega) ?_
    refine V_lldn2 a_X11_recalledAt_39 ?_
    exact V_lret a_X11_recalledAt_40 (⟨rfl, rfl⟩)
  · intro l h0 h1 ih
    rw [sm_s _ h0] at ih
    refine V_ild4 a_X11_recalledAt_5 ?_
    refine V_i2l a_X11_recalledAt_7 (by omega) ?_
    refine V_aldn0 a_X11_recalledAt_8 ?_
    refine V_fin a_X11_recalledAt_9 f_X11_7 rfl hW ?_
    refine V_iconst a_X11_recalledAt_12 ?_
    refine V_w a_X11_recalledAt_13 (by omega) hA ?_
    refine V_lc_ge_f a_X11_recalledAt_14 a_X11_recalledAt_15 (by omega) (by omega) ?_
    refine V_lldn2 a_X11_recalledAt_18 ?_
    refine V_aldn0 a_X11_recalledAt_19 ?_
    refine V_fin a_X11_recalledAt_20 f_X11_7 rfl hW ?_
    refine V_ildn1 a_X11_recalledAt_23 ?_
    refine V_bipush a_X11_recalledAt_24 (by decide) ?_
    refine V_iadd a_X11_recalledAt_26 ?_
    refine V_ild4 a_X11_recalledAt_27 ?_
    refine V_iadd a_X11_recalledAt_29 ?_
    refine V_w a_X11_recalledAt_30 (by omega) hA ?_
    refine V_ladd a_X11_recalledAt_31 ?_
    refine V_lstn2 a_X11_recalledAt_32 ?_
    refine V_inc4 a_X11_recalledAt_33 ?_
    refine V_goto a_X11_recalledAt_36 ?_
    exact ih
theorem R_slicesAt {k : Int} (h : Md D σ A) (hk : 0 ≤ k ∧ k < A 7) : Rt m_X11_slicesAt 0 0 0 [vR (some (11, 0)), vI (83 + 23 * k)] σ (some (vI (slnA A k))) σ := by
  obtain ⟨hD, hW, hA, hI⟩ := h
  show V _ 0 0 0 0 [some (vR (some (11, 0))), some (vI (83 + 23 * k)), none, none] [] σ _
  have hn := hI.n
  refine V_iconst a_X11_slicesAt_0 ?_
  refine V_istn2 a_X11_slicesAt_1 ?_
  refine V_iconst a_X11_slicesAt_2 ?_
  refine V_istn3 a_X11_slicesAt_3 ?_
  refine loopI (P := fun l => V _ 0 0 0 4 [some (vR (some (11, 0))), some (vI (83 + 23 * k)), some (vI (sm (fun l => bI (0 < A (83 + 23 * k + 5 + l))) l)), some (vI l)] [] σ _) (N := A 1) (by omega) ?_ ?_
  · refine V_ildn3 a_X11_slicesAt_4 ?_
    refine V_i2l a_X11_slicesAt_5 (by omega) ?_
    refine V_aldn0 a_X11_slicesAt_6 ?_
    refine V_fin a_X11_slicesAt_7 f_X11_7 rfl hW ?_
    refine V_iconst a_X11_slicesAt_10 ?_
    refine V_w a_X11_slicesAt_11 (by omega) hA ?_
    refine V_lc_ge_t a_X11_slicesAt_12 a_X11_slicesAt_13 (by omega) (by omega) ?_
    refine V_ildn2 a_X11_slicesAt_45 ?_
    exact V_iret a_X11_slicesAt_46 (⟨rfl, rfl⟩)
  · intro l h0 h1 ih
    rw [sm_s _ h0] at ih
    have hs := ((hI.loan hk.1 hk.2).sl h0 (by omega)).1
    by_cases q : 0 < A (83 + 23 * k + 5 + l)
    · rw [bI_t q] at ih
      refine V_ildn3 a_X11_slicesAt_4 ?_
      refine V_i2l a_X11_slicesAt_5 (by omega) ?_
      refine V_aldn0 a_X11_slicesAt_6 ?_
      refine V_fin a_X11_slicesAt_7 f_X11_7 rfl hW ?_
      refine V_iconst a_X11_slicesAt_10 ?_
      refine V_w a_X11_slicesAt_11 (by omega) hA ?_
      refine V_lc_ge_f a_X11_slicesAt_12 a_X11_slicesAt_13 (by omega) (by omega) ?_
      refine V_ildn2 a_X11_slicesAt_16 ?_
      refine V_aldn0 a_X11_slicesAt_17 ?_
      refine V_fin a_X11_slicesAt_18 f_X11_7 rfl hW ?_
      refine V_ildn1 a_X11_slicesAt_21 ?_
      refine V_iconst a_X11_slicesAt_22 ?_
      refine V_iadd a_X11_slicesAt_23 ?_
      refine V_ildn3 a_X11_slicesAt_24 ?_
      refine V_iadd a_X11_slicesAt_25 ?_
      refine V_w a_X11_slicesAt_26 (by omega) hA ?_
      refine V_lconst0 a_X11_slicesAt_27 ?_
      refine V_lc_le_f a_X11_slicesAt_28 a_X11_slicesAt_29 (by omega) (by omega) ?_
      refine V_iconst a_X11_slicesAt_32 ?_
      refine V_goto a_X11_slicesAt_33 ?_
      refine V_iadd a_X11_slicesAt_37 ?_
      refine V_istn2 a_X11_slicesAt_38 ?_
      refine V_inc3 a_X11_slicesAt_39 ?_
      refine V_goto a_X11_slicesAt_42 ?_
      exact ih
    · rw [bI_f q] at ih
      refine V_ildn3 a_X11_slicesAt_4 ?_
      refine V_i2l a_X11_slicesAt_5 (by omega) ?_
      refine V_aldn0 a_X11_slicesAt_6 ?_
      refine V_fin a_X11_slicesAt_7 f_X11_7 rfl hW ?_
      refine V_iconst a_X11_slicesAt_10 ?_
      refine V_w a_X11_slicesAt_11 (by omega) hA ?_
      refine V_lc_ge_f a_X11_slicesAt_12 a_X11_slicesAt_13 (by omega) (by omega) ?_
      refine V_ildn2 a_X11_slicesAt_16 ?_
      refine V_aldn0 a_X11_slicesAt_17 ?_
      refine V_fin a_X11_slicesAt_18 f_X11_7 rfl hW ?_
      refine V_ildn1 a_X11_slicesAt_21 ?_
      refine V_iconst a_X11_slicesAt_22 ?_
      refine V_iadd a_X11_slicesAt_23 ?_
      refine V_ildn3 a_X11_slicesAt_24 ?_
      refine V_iadd a_X11_slicesAt_25 ?_
      refine V_w a_X11_slicesAt_26 (by omega) hA ?_
      refine V_lconst0 a_X11_slicesAt_27 ?_
      refine V_lc_le_t a_X11_slicesAt_28 a_X11_slicesAt_29 (by omega) (by omega) ?_
      refine V_iconst a_X11_slicesAt_36 ?_
      refine V_iadd a_X11_slicesAt_37 ?_
      refine V_istn2 a_X11_slicesAt_38 ?_
      refine V_inc3 a_X11_slicesAt_39 ?_
      refine V_goto a_X11_slicesAt_42 ?_
      exact ih
theorem R_loan {n w : Int} (h : Md D σ A) (hn : iR n) (hw : iR w) : ((placeA A n ≠ -1 ∧ 0 ≤ w ∧ w ≤ 7) → Rt m_X11_loan 2 0 0 [vR (some (11, 0)), vI n, vI w] σ (some (vI (loV A (placeA A n) w))) (σ.th 0)) ∧ (placeA A n = -1 → Rt m_X11_loan 2 0 0 [vR (some (11, 0)), vI n, vI w] σ (some (vI 0)) (σ.th 1)) ∧ (placeA A n ≠ -1 → ¬ (0 ≤ w ∧ w ≤ 7) → Rt m_X11_loan 2 0 0 [vR (some (11, 0)), vI n, vI w] σ (some (vI 0)) (σ.th 2)) := by
  have hI := h.2.2.2
  have hn' := hI.n
  have r1 := R_placeOf h hn
  obtain ⟨b2, hb2, r2⟩ := B_in (σ := σ.th 0) (v := w) (x := 0) (y := 7) (by omega) (by omega) (by omega)
  have hm : Md D ((σ.th 0).th 0) A := h
  obtain ⟨-, hW, hA, -⟩ := id hm
  refine ⟨fun e => ?_, fun e => ?_, fun e e2 => ?_⟩
  · rw [if_neg e.1] at r1
    have hp := (place_ok e.1).1
    have hSl := (hI.loan hp.1 hp.2).Sl h.1 (by omega) (by omega) (by omega)
    have hnd := ndX_ok (rc := fun l => A (83 + 23 * placeA A n + 11 + l)) (du := fun l => A (83 + 23 * placeA A n + 17 + l)) (n := A 1) (by omega)
    change (nduA A (placeA A n) = -1 ∧ _) ∨ ((0 ≤ nduA A (placeA A n) ∧ nduA A (placeA A n) < A 1) ∧ _) at hnd
    have r6 := R_nextDue (σ := (σ.th 0).th 0) hW hA hSl
    show V _ 2 0 0 0 [some (vR (some (11, 0))), some (vI n), some (vI w), none] [] σ _
    refine V_aldn0 a_X11_loan_0 ?_
    refine V_ildn1 a_X11_loan_1 ?_
    refine V_v1R a_X11_loan_2 c_X11_295 r1 ?_
    refine V_istn3 a_X11_loan_5 ?_
    refine V_aldn0 a_X11_loan_6 ?_
    refine V_ildn3 a_X11_loan_7 ?_
    refine V_iconst a_X11_loan_8 ?_
    refine V_icmp_ne_t a_X11_loan_9 (by omega) (by omega) ?_
    refine V_iconst a_X11_loan_16 ?_
    refine V_iconst a_X11_loan_17 ?_
    refine V_v2R a_X11_loan_18 c_X11_72 R_fails0 ?_
    refine V_if_ne_f a_X11_loan_21 (by omega) (by omega) ?_
    refine V_aldn0 a_X11_loan_24 ?_
    refine V_ildn2 a_X11_loan_25 ?_
    refine V_i2l a_X11_loan_26 (by omega) ?_
    refine V_lconst0 a_X11_loan_27 ?_
    refine V_ldc2 a_X11_loan_28 q_X11_397 ?_
    refine V_s3R a_X11_loan_31 c_X11_61 r2 ?_
    refine V_if_ne_t a_X11_loan_34 (by omega) (by omega) ?_
    refine V_iconst a_X11_loan_41 ?_
    refine V_iconst a_X11_loan_42 ?_
    refine V_v2R a_X11_loan_43 c_X11_72 R_fails0 ?_
    refine V_if_eq_t a_X11_loan_46 (by omega) (by omega) ?_
    skip
    have cases : w = 0 ∨ w = 1 ∨ w = 2 ∨ w = 3 ∨ w = 4 ∨ w = 5 ∨ w = 6 ∨ w = 7 := by omega
    rcases cases with rfl | rfl | rfl | rfl | rfl | rfl | rfl | rfl
    · refine V_ildn2 a_X11_loan_51 ?_
      refine V_table_in a_X11_loan_52 (off := 44) rfl rfl (by omega) (by omega) ?_
      refine V_aldn0 a_X11_loan_96 ?_
      refine V_fin a_X11_loan_97 f_X11_7 rfl hW ?_
      refine V_ildn3 a_X11_loan_100 ?_
      refine V_iconst a_X11_loan_101 ?_
      refine V_iadd a_X11_loan_102 ?_
      refine V_w a_X11_loan_103 (by omega) hA ?_
      refine V_l2i a_X11_loan_104 ?_
      exact V_iret a_X11_loan_105 (⟨rfl, by rw [th_th]⟩)
    · refine V_ildn2 a_X11_loan_51 ?_
      refine V_table_in a_X11_loan_52 (off := 54) rfl rfl (by omega) (by omega) ?_
      refine V_aldn0 a_X11_loan_106 ?_
      refine V_fin a_X11_loan_107 f_X11_7 rfl hW ?_
      refine V_ildn3 a_X11_loan_110 ?_
      refine V_iconst a_X11_loan_111 ?_
      refine V_iadd a_X11_loan_112 ?_
      refine V_w a_X11_loan_113 (by omega) hA ?_
      refine V_l2i a_X11_loan_114 ?_
      exact V_iret a_X11_loan_115 (⟨rfl, by rw [th_th]⟩)
    · refine V_ildn2 a_X11_loan_51 ?_
      refine V_table_in a_X11_loan_52 (off := 64) rfl rfl (by omega) (by omega) ?_
      refine V_aldn0 a_X11_loan_116 ?_
      refine V_ildn3 a_X11_loan_117 ?_
      refine V_v1R a_X11_loan_118 c_X11_216 (R_quantityAt hm (by omega)) ?_
      refine V_l2i a_X11_loan_121 ?_
      exact V_iret a_X11_loan_122 (⟨rfl, by rw [th_th]⟩)
    · refine V_ildn2 a_X11_loan_51 ?_
      refine V_table_in a_X11_loan_52 (off := 71) rfl rfl (by omega) (by omega) ?_
      refine V_aldn0 a_X11_loan_123 ?_
      refine V_fin a_X11_loan_124 f_X11_7 rfl hW ?_
      refine V_ildn3 a_X11_loan_127 ?_
      refine V_iconst a_X11_loan_128 ?_
      refine V_iadd a_X11_loan_129 ?_
      refine V_w a_X11_loan_130 (by omega) hA ?_
      refine V_l2i a_X11_loan_131 ?_
      exact V_iret a_X11_loan_132 (⟨rfl, by rw [th_th]⟩)
    · refine V_ildn2 a_X11_loan_51 ?_
      refine V_table_in a_X11_loan_52 (off := 81) rfl rfl (by omega) (by omega) ?_
      refine V_aldn0 a_X11_loan_133 ?_
      refine V_fin a_X11_loan_134 f_X11_7 rfl hW ?_
      refine V_ildn3 a_X11_loan_137 ?_
      refine V_iconst a_X11_loan_138 ?_
      refine V_iadd a_X11_loan_139 ?_
      refine V_w a_X11_loan_140 (by omega) hA ?_
      refine V_l2i a_X11_loan_141 ?_
      exact V_iret a_X11_loan_142 (⟨rfl, by rw [th_th]⟩)
    · refine V_ildn2 a_X11_loan_51 ?_
      refine V_table_in a_X11_loan_52 (off := 91) rfl rfl (by omega) (by omega) ?_
      refine V_aldn0 a_X11_loan_143 ?_
      refine V_ildn3 a_X11_loan_144 ?_
      refine V_v1R a_X11_loan_145 c_X11_399 (R_recalledAt hm (by omega)) ?_
      refine V_l2i a_X11_loan_148 ?_
      exact V_iret a_X11_loan_149 (⟨rfl, by rw [th_th]⟩)
    · refine V_ildn2 a_X11_loan_51 ?_
      refine V_table_in a_X11_loan_52 (off := 98) rfl rfl (by omega) (by omega) ?_
      have ed : loV A (placeA A n) 6 = dueA A (placeA A n) := rfl
      rw [ed]
      unfold dueA
      by_cases q : nduA A (placeA A n) = -1
      · rw [if_pos q]
        refine V_aldn0 a_X11_loan_150 ?_
        refine V_ildn3 a_X11_loan_151 ?_
        refine V_v1R a_X11_loan_152 c_X11_282 r6 ?_
        refine V_iconst a_X11_loan_155 ?_
        refine V_icmp_ne_f a_X11_loan_156 (by omega) (by omega) ?_
        refine V_iconst a_X11_loan_159 ?_
        refine V_goto a_X11_loan_160 ?_
        exact V_iret a_X11_loan_179 (⟨rfl, by rw [th_th]⟩)
      · rw [if_neg q]
        refine V_aldn0 a_X11_loan_150 ?_
        refine V_ildn3 a_X11_loan_151 ?_
        refine V_v1R a_X11_loan_152 c_X11_282 r6 ?_
        refine V_iconst a_X11_loan_155 ?_
        refine V_icmp_ne_t a_X11_loan_156 (by omega) (by omega) ?_
        refine V_aldn0 a_X11_loan_163 ?_
        refine V_fin a_X11_loan_164 f_X11_7 rfl hW ?_
        refine V_ildn3 a_X11_loan_167 ?_
        refine V_bipush a_X11_loan_168 (by decide) ?_
        refine V_iadd a_X11_loan_170 ?_
        refine V_aldn0 a_X11_loan_171 ?_
        refine V_ildn3 a_X11_loan_172 ?_
        refine V_v1R a_X11_loan_173 c_X11_282 r6 ?_
        refine V_iadd a_X11_loan_176 ?_
        refine V_w a_X11_loan_177 (by omega) hA ?_
        refine V_l2i a_X11_loan_178 ?_
        exact V_iret a_X11_loan_179 (⟨rfl, by rw [th_th]⟩)
    · refine V_ildn2 a_X11_loan_51 ?_
      refine V_table_out a_X11_loan_52 (tgt := 180) rfl (by omega) (by omega) ?_
      refine V_aldn0 a_X11_loan_180 ?_
      refine V_ildn3 a_X11_loan_181 ?_
      refine V_v1R a_X11_loan_182 c_X11_402 (R_slicesAt hm hp) ?_
      exact V_iret a_X11_loan_185 (⟨rfl, by rw [th_th]⟩)
  · rw [if_pos e] at r1
    show V _ 2 0 0 0 [some (vR (some (11, 0))), some (vI n), some (vI w), none] [] σ _
    refine V_aldn0 a_X11_loan_0 ?_
    refine V_ildn1 a_X11_loan_1 ?_
    refine V_v1R a_X11_loan_2 c_X11_295 r1 ?_
    refine V_istn3 a_X11_loan_5 ?_
    refine V_aldn0 a_X11_loan_6 ?_
    refine V_ildn3 a_X11_loan_7 ?_
    refine V_iconst a_X11_loan_8 ?_
    refine V_icmp_ne_f a_X11_loan_9 (by omega) (by omega) ?_
    refine V_iconst a_X11_loan_12 ?_
    refine V_goto a_X11_loan_13 ?_
    refine V_iconst a_X11_loan_17 ?_
    refine V_v2R a_X11_loan_18 c_X11_72 R_fails1 ?_
    refine V_if_ne_t a_X11_loan_21 (by omega) (by omega) ?_
    refine V_iconst a_X11_loan_49 ?_
    exact V_iret a_X11_loan_50 (⟨rfl, rfl⟩)
  · rw [if_neg e] at r1
    have hp := (place_ok e).1
    show V _ 2 0 0 0 [some (vR (some (11, 0))), some (vI n), some (vI w), none] [] σ _
    refine V_aldn0 a_X11_loan_0 ?_
    refine V_ildn1 a_X11_loan_1 ?_
    refine V_v1R a_X11_loan_2 c_X11_295 r1 ?_
    refine V_istn3 a_X11_loan_5 ?_
    refine V_aldn0 a_X11_loan_6 ?_
    refine V_ildn3 a_X11_loan_7 ?_
    refine V_iconst a_X11_loan_8 ?_
    refine V_icmp_ne_t a_X11_loan_9 (by omega) (by omega) ?_
    refine V_iconst a_X11_loan_16 ?_
    refine V_iconst a_X11_loan_17 ?_
    refine V_v2R a_X11_loan_18 c_X11_72 R_fails0 ?_
    refine V_if_ne_f a_X11_loan_21 (by omega) (by omega) ?_
    refine V_aldn0 a_X11_loan_24 ?_
    refine V_ildn2 a_X11_loan_25 ?_
    refine V_i2l a_X11_loan_26 (by omega) ?_
    refine V_lconst0 a_X11_loan_27 ?_
    refine V_ldc2 a_X11_loan_28 q_X11_397 ?_
    refine V_s3R a_X11_loan_31 c_X11_61 r2 ?_
    refine V_if_ne_f a_X11_loan_34 (by omega) (by omega) ?_
    refine V_iconst a_X11_loan_37 ?_
    refine V_goto a_X11_loan_38 ?_
    refine V_iconst a_X11_loan_42 ?_
    refine V_v2R a_X11_loan_43 c_X11_72 R_fails1 ?_
    refine V_if_eq_f a_X11_loan_46 (by omega) (by omega) ?_
    refine V_iconst a_X11_loan_49 ?_
    exact V_iret a_X11_loan_50 (⟨rfl, by rw [th_th]⟩)
theorem R_slice {n l w : Int} (h : Md D σ A) (hn : iR n) (hl : iR l) (hw : iR w) : (((placeA A n ≠ -1 ∧ 0 ≤ l ∧ l < A 1) ∧ 0 ≤ w ∧ w ≤ 2) → Rt m_X11_slice 2 0 0 [vR (some (11, 0)), vI n, vI l, vI w] σ (some (vI (A (83 + 23 * placeA A n + 5 + 6 * w + l)))) (σ.th 0)) ∧ (¬ (placeA A n ≠ -1 ∧ 0 ≤ l ∧ l < A 1) → Rt m_X11_slice 2 0 0 [vR (some (11, 0)), vI n, vI l, vI w] σ (some (vI 0)) (σ.th 1)) ∧ ((placeA A n ≠ -1 ∧ 0 ≤ l ∧ l < A 1) → ¬ (0 ≤ w ∧ w ≤ 2) → Rt m_X11_slice 2 0 0 [vR (some (11, 0)), vI n, vI l, vI w] σ (some (vI 0)) (σ.th 2)) := by
  have hI := h.2.2.2
  have hn' := hI.n
  have r1 := R_placeOf h hn
  have hpb := place_bd (A := A) (n := n)
  obtain ⟨b1, hb1, rl⟩ := B_isLender (l := l) h hl
  obtain ⟨b2, hb2, r2⟩ := B_in (σ := σ.th 0) (v := w) (x := 0) (y := 2) (by omega) (by omega) (by omega)
  have hm : Md D ((σ.th 0).th 0) A := h
  obtain ⟨-, hW, hA, -⟩ := id hm
  refine ⟨fun e => ?_, fun e => ?_, fun e e2 => ?_⟩
  · rw [if_neg e.1.1] at r1
    have hp := (place_ok e.1.1).1
    show V _ 2 0 0 0 [some (vR (some (11, 0))), some (vI n), some (vI l), some (vI w), none] [] σ _
    refine V_aldn0 a_X11_slice_0 ?_
    refine V_ildn1 a_X11_slice_1 ?_
    refine V_v1R a_X11_slice_2 c_X11_295 r1 ?_
    refine V_ist4 a_X11_slice_5 ?_
    refine V_aldn0 a_X11_slice_7 ?_
    refine V_ild4 a_X11_slice_8 ?_
    refine V_iconst a_X11_slice_10 ?_
    refine V_icmp_eq_f a_X11_slice_11 (by omega) (by omega) ?_
    refine V_aldn0 a_X11_slice_14 ?_
    refine V_ildn2 a_X11_slice_15 ?_
    refine V_v1R a_X11_slice_16 c_X11_65 rl ?_
    refine V_if_ne_t a_X11_slice_19 (by omega) (by omega) ?_
    refine V_iconst a_X11_slice_26 ?_
    refine V_iconst a_X11_slice_27 ?_
    refine V_v2R a_X11_slice_28 c_X11_72 R_fails0 ?_
    refine V_if_ne_f a_X11_slice_31 (by omega) (by omega) ?_
    refine V_aldn0 a_X11_slice_34 ?_
    refine V_ildn3 a_X11_slice_35 ?_
    refine V_i2l a_X11_slice_36 (by omega) ?_
    refine V_lconst0 a_X11_slice_37 ?_
    refine V_ldc2 a_X11_slice_38 q_X11_362 ?_
    refine V_s3R a_X11_slice_41 c_X11_61 r2 ?_
    refine V_if_ne_t a_X11_slice_44 (by omega) (by omega) ?_
    refine V_iconst a_X11_slice_51 ?_
    refine V_iconst a_X11_slice_52 ?_
    refine V_v2R a_X11_slice_53 c_X11_72 R_fails0 ?_
    refine V_if_eq_t a_X11_slice_56 (by omega) (by omega) ?_
    refine V_aldn0 a_X11_slice_63 ?_
    refine V_fin a_X11_slice_64 f_X11_7 rfl hW ?_
    refine V_ild4 a_X11_slice_67 ?_
    refine V_iconst a_X11_slice_69 ?_
    refine V_iadd a_X11_slice_70 ?_
    refine V_bipush a_X11_slice_71 (by decide) ?_
    refine V_ildn3 a_X11_slice_73 ?_
    refine V_imul a_X11_slice_74 ?_
    refine V_iadd a_X11_slice_75 ?_
    refine V_ildn2 a_X11_slice_76 ?_
    refine V_iadd a_X11_slice_77 ?_
    refine V_w a_X11_slice_78 (by omega) hA ?_
    refine V_l2i a_X11_slice_79 ?_
    exact V_iret a_X11_slice_80 (⟨rfl, by rw [th_th]⟩)
  · by_cases q : placeA A n = -1
    · rw [if_pos q] at r1
      show V _ 2 0 0 0 [some (vR (some (11, 0))), some (vI n), some (vI l), some (vI w), none] [] σ _
      refine V_aldn0 a_X11_slice_0 ?_
      refine V_ildn1 a_X11_slice_1 ?_
      refine V_v1R a_X11_slice_2 c_X11_295 r1 ?_
      refine V_ist4 a_X11_slice_5 ?_
      refine V_aldn0 a_X11_slice_7 ?_
      refine V_ild4 a_X11_slice_8 ?_
      refine V_iconst a_X11_slice_10 ?_
      refine V_icmp_eq_t a_X11_slice_11 (by omega) (by omega) ?_
      refine V_iconst a_X11_slice_22 ?_
      refine V_goto a_X11_slice_23 ?_
      refine V_iconst a_X11_slice_27 ?_
      refine V_v2R a_X11_slice_28 c_X11_72 R_fails1 ?_
      refine V_if_ne_t a_X11_slice_31 (by omega) (by omega) ?_
      refine V_iconst a_X11_slice_59 ?_
      refine V_goto a_X11_slice_60 ?_
      exact V_iret a_X11_slice_80 (⟨rfl, rfl⟩)
    · rw [if_neg q] at r1
      have hp := (place_ok q).1
      show V _ 2 0 0 0 [some (vR (some (11, 0))), some (vI n), some (vI l), some (vI w), none] [] σ _
      refine V_aldn0 a_X11_slice_0 ?_
      refine V_ildn1 a_X11_slice_1 ?_
      refine V_v1R a_X11_slice_2 c_X11_295 r1 ?_
      refine V_ist4 a_X11_slice_5 ?_
      refine V_aldn0 a_X11_slice_7 ?_
      refine V_ild4 a_X11_slice_8 ?_
      refine V_iconst a_X11_slice_10 ?_
      refine V_icmp_eq_f a_X11_slice_11 (by omega) (by omega) ?_
      refine V_aldn0 a_X11_slice_14 ?_
      refine V_ildn2 a_X11_slice_15 ?_
      refine V_v1R a_X11_slice_16 c_X11_65 rl ?_
      refine V_if_ne_f a_X11_slice_19 (by omega) (by omega) ?_
      refine V_iconst a_X11_slice_22 ?_
      refine V_goto a_X11_slice_23 ?_
      refine V_iconst a_X11_slice_27 ?_
      refine V_v2R a_X11_slice_28 c_X11_72 R_fails1 ?_
      refine V_if_ne_t a_X11_slice_31 (by omega) (by omega) ?_
      refine V_iconst a_X11_slice_59 ?_
      refine V_goto a_X11_slice_60 ?_
      exact V_iret a_X11_slice_80 (⟨rfl, rfl⟩)
  · rw [if_neg e.1] at r1
    have hp := (place_ok e.1).1
    show V _ 2 0 0 0 [some (vR (some (11, 0))), some (vI n), some (vI l), some (vI w), none] [] σ _
    refine V_aldn0 a_X11_slice_0 ?_
    refine V_ildn1 a_X11_slice_1 ?_
    refine V_v1R a_X11_slice_2 c_X11_295 r1 ?_
    refine V_ist4 a_X11_slice_5 ?_
    refine V_aldn0 a_X11_slice_7 ?_
    refine V_ild4 a_X11_slice_8 ?_
    refine V_iconst a_X11_slice_10 ?_
    refine V_icmp_eq_f a_X11_slice_11 (by omega) (by omega) ?_
    refine V_aldn0 a_X11_slice_14 ?_
    refine V_ildn2 a_X11_slice_15 ?_
    refine V_v1R a_X11_slice_16 c_X11_65 rl ?_
    refine V_if_ne_t a_X11_slice_19 (by omega) (by omega) ?_
    refine V_iconst a_X11_slice_26 ?_
    refine V_iconst a_X11_slice_27 ?_
    refine V_v2R a_X11_slice_28 c_X11_72 R_fails0 ?_
    refine V_if_ne_f a_X11_slice_31 (by omega) (by omega) ?_
    refine V_aldn0 a_X11_slice_34 ?_
    refine V_ildn3 a_X11_slice_35 ?_
    refine V_i2l a_X11_slice_36 (by omega) ?_
    refine V_lconst0 a_X11_slice_37 ?_
    refine V_ldc2 a_X11_slice_38 q_X11_362 ?_
    refine V_s3R a_X11_slice_41 c_X11_61 r2 ?_
    refine V_if_ne_f a_X11_slice_44 (by omega) (by omega) ?_
    refine V_iconst a_X11_slice_47 ?_
    refine V_goto a_X11_slice_48 ?_
    refine V_iconst a_X11_slice_52 ?_
    refine V_v2R a_X11_slice_53 c_X11_72 R_fails1 ?_
    refine V_if_eq_f a_X11_slice_56 (by omega) (by omega) ?_
    refine V_iconst a_X11_slice_59 ?_
    refine V_goto a_X11_slice_60 ?_
    exact V_iret a_X11_slice_80 (⟨rfl, by rw [th_th]⟩)
theorem R_dailyFee {n : Int} (h : Md D σ A) (hn : iR n) : (placeA A n ≠ -1 → Rt m_X11_dailyFee 2 0 0 [vR (some (11, 0)), vI n] σ (some (vL (sm (fun l => feeA A (placeA A n) l) (A 1)))) (σ.th 0)) ∧ (placeA A n = -1 → Rt m_X11_dailyFee 2 0 0 [vR (some (11, 0)), vI n] σ (some (vL 0)) (σ.th 1)) := by
  have hI := h.2.2.2
  have hn' := hI.n
  have r1 := R_placeOf h hn
  obtain ⟨-, hW, hA, -⟩ := id h
  refine ⟨fun e => ?_, fun e => ?_⟩
  · rw [if_neg e] at r1
    have hp := (place_ok e).1
    show V _ 2 0 0 0 [some (vR (some (11, 0))), some (vI n), none, none, none, none] [] σ _
    refine V_aldn0 a_X11_dailyFee_0 ?_
    refine V_ildn1 a_X11_dailyFee_1 ?_
    refine V_v1R a_X11_dailyFee_2 c_X11_295 r1 ?_
    refine V_istn2 a_X11_dailyFee_5 ?_
    refine V_lconst0 a_X11_dailyFee_6 ?_
    refine V_lstn3 a_X11_dailyFee_7 ?_
    refine V_iconst a_X11_dailyFee_8 ?_
    refine V_ist5 a_X11_dailyFee_9 ?_
    refine loopI (P := fun l => V _ 2 0 0 11 [some (vR (some (11, 0))), some (vI n), some (vI (83 + 23 * placeA A n)), some (vL (sm (fun l => feeA A (placeA A n) l) l)), none, some (vI l)] [] σ _) (N := A 1) (by omega) ?_ ?_
    · refine V_ild5 a_X11_dailyFee_11 ?_
      refine V_i2l a_X11_dailyFee_13 (by omega) ?_
      refine V_aldn0 a_X11_dailyFee_14 ?_
      refine V_fin a_X11_dailyFee_15 f_X11_7 rfl hW ?_
      refine V_iconst a_X11_dailyFee_18 ?_
      refine V_w a_X11_dailyFee_19 (by omega) hA ?_
      refine V_lc_ge_t a_X11_dailyFee_20 a_X11_dailyFee_21 (by omega) (by omega) ?_
      refine V_aldn0 a_X11_dailyFee_45 ?_
      refine V_ildn2 a_X11_dailyFee_46 ?_
      refine V_iconst a_X11_dailyFee_47 ?_
      refine V_icmp_ne_t a_X11_dailyFee_48 (by omega) (by omega) ?_
      refine V_iconst a_X11_dailyFee_55 ?_
      refine V_iconst a_X11_dailyFee_56 ?_
      refine V_v2R a_X11_dailyFee_57 c_X11_72 R_fails0 ?_
      refine V_if_eq_t a_X11_dailyFee_60 (by omega) (by omega) ?_
      refine V_lldn3 a_X11_dailyFee_67 ?_
      exact V_lret a_X11_dailyFee_68 (⟨rfl, rfl⟩)
    · intro l h0 h1 ih
      rw [sm_s _ h0] at ih
      refine V_ild5 a_X11_dailyFee_11 ?_
      refine V_i2l a_X11_dailyFee_13 (by omega) ?_
      refine V_aldn0 a_X11_dailyFee_14 ?_
      refine V_fin a_X11_dailyFee_15 f_X11_7 rfl hW ?_
      refine V_iconst a_X11_dailyFee_18 ?_
      refine V_w a_X11_dailyFee_19 (by omega) hA ?_
      refine V_lc_ge_f a_X11_dailyFee_20 a_X11_dailyFee_21 (by omega) (by omega) ?_
      refine V_ildn2 a_X11_dailyFee_24 ?_
      refine V_iconst a_X11_dailyFee_25 ?_
      refine V_icmp_eq_f a_X11_dailyFee_26 (by omega) (by omega) ?_
      refine V_lldn3 a_X11_dailyFee_29 ?_
      refine V_aldn0 a_X11_dailyFee_30 ?_
      refine V_ildn2 a_X11_dailyFee_31 ?_
      refine V_ild5 a_X11_dailyFee_32 ?_
      refine V_v2R a_X11_dailyFee_34 c_X11_335 (R_feeAt h hp (by omega)) ?_
      refine V_ladd a_X11_dailyFee_37 ?_
      refine V_lstn3 a_X11_dailyFee_38 ?_
      refine V_inc5 a_X11_dailyFee_39 ?_
      refine V_goto a_X11_dailyFee_42 ?_
      exact ih
  · rw [if_pos e] at r1
    show V _ 2 0 0 0 [some (vR (some (11, 0))), some (vI n), none, none, none, none] [] σ _
    refine V_aldn0 a_X11_dailyFee_0 ?_
    refine V_ildn1 a_X11_dailyFee_1 ?_
    refine V_v1R a_X11_dailyFee_2 c_X11_295 r1 ?_
    refine V_istn2 a_X11_dailyFee_5 ?_
    refine V_lconst0 a_X11_dailyFee_6 ?_
    refine V_lstn3 a_X11_dailyFee_7 ?_
    refine V_iconst a_X11_dailyFee_8 ?_
    refine V_ist5 a_X11_dailyFee_9 ?_
    refine V_ild5 a_X11_dailyFee_11 ?_
    refine V_i2l a_X11_dailyFee_13 (by omega) ?_
    refine V_aldn0 a_X11_dailyFee_14 ?_
    refine V_fin a_X11_dailyFee_15 f_X11_7 rfl hW ?_
    refine V_iconst a_X11_dailyFee_18 ?_
    refine V_w a_X11_dailyFee_19 (by omega) hA ?_
    refine V_lc_ge a_X11_dailyFee_20 a_X11_dailyFee_21 (by omega) (fun hc20 => ?_) (fun hc20 => ?_)
    · refine V_aldn0 a_X11_dailyFee_45 ?_
      refine V_ildn2 a_X11_dailyFee_46 ?_
      refine V_iconst a_X11_dailyFee_47 ?_
      refine V_icmp_ne_f a_X11_dailyFee_48 (by omega) (by omega) ?_
      refine V_iconst a_X11_dailyFee_51 ?_
      refine V_goto a_X11_dailyFee_52 ?_
      refine V_iconst a_X11_dailyFee_56 ?_
      refine V_v2R a_X11_dailyFee_57 c_X11_72 R_fails1 ?_
      refine V_if_eq_f a_X11_dailyFee_60 (by omega) (by omega) ?_
      refine V_lconst0 a_X11_dailyFee_63 ?_
      refine V_goto a_X11_dailyFee_64 ?_
      exact V_lret a_X11_dailyFee_68 (⟨rfl, rfl⟩)
    · refine V_ildn2 a_X11_dailyFee_24 ?_
      refine V_iconst a_X11_dailyFee_25 ?_
      refine V_icmp_eq_t a_X11_dailyFee_26 (by omega) (by omega) ?_
      refine V_aldn0 a_X11_dailyFee_45 ?_
      refine V_ildn2 a_X11_dailyFee_46 ?_
      refine V_iconst a_X11_dailyFee_47 ?_
      refine V_icmp_ne_f a_X11_dailyFee_48 (by omega) (by omega) ?_
      refine V_iconst a_X11_dailyFee_51 ?_
      refine V_goto a_X11_dailyFee_52 ?_
      refine V_iconst a_X11_dailyFee_56 ?_
      refine V_v2R a_X11_dailyFee_57 c_X11_72 R_fails1 ?_
      refine V_if_eq_f a_X11_dailyFee_60 (by omega) (by omega) ?_
      refine V_lconst0 a_X11_dailyFee_63 ?_
      refine V_goto a_X11_dailyFee_64 ?_
      exact V_lret a_X11_dailyFee_68 (⟨rfl, rfl⟩)
end Qb

