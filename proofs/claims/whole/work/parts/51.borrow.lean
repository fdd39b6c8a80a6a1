/-- the row with a new loan -/
def lendB (A B : St) (b s r : Int) (g : Int → Int) : St := upI (upI (mixO (83 + 23 * A 7 + 5) g (upI (upI (upI (upI (upI (mixO (83 + 23 * A 7) (fun k => if 17 ≤ k then -1 else 0) B 23) (83 + 23 * A 7 + 0) (A 8)) (83 + 23 * A 7 + 1) b) (83 + 23 * A 7 + 2) s) (83 + 23 * A 7 + 3) r) (83 + 23 * A 7 + 4) (A 6)) (A 1)) 7 (A 7 + 1)) 8 (A 8 + 1)
def lendA (A : St) (b s q r : Int) : St := lendB A (allocA A s q (-1)) b s r (giveA A s q (-1))
theorem alloc_8 {A : St} {s q but j : Int} (hs : 0 ≤ s ∧ s < 4) (hj : ¬ (23 ≤ j ∧ j < 27)) : allocA A s q but j = A j := by
  unfold allocA
  split
  · rfl
  · split
    · rfl
    · exact upI_ne (by omega)
section Mo7
variable {D : Int} {σ : Hp} {A : St}
theorem R_lend {b s q r : Int} (h : Md D σ A) (hb : 0 ≤ b ∧ b < A 2) (hs : 0 ≤ s ∧ s < A 0) (hq : 1 ≤ q ∧ q ≤ 99999) (hr : 0 ≤ r ∧ r ≤ 9999) (hc : canA A b s q) : ∃ σ', Fm [50, 56, 57] σ σ' ∧ σ'.J 50 0 = lendA A b s q r ∧ Rt m_X11_lend 7 0 0 [vR (some (11, 0)), vI b, vI s, vI q, vI r] σ (some (vI (A 8))) σ' := by
  obtain ⟨σ1, f1, m1, g1, r1⟩ := R_allocate (s := s) (q := q) (but := -1) h ⟨hs.1, by have := h.2.2.2.n; omega⟩ ⟨by omega, hc.2.1⟩ (by omega)
  obtain ⟨hD, -, -, hI⟩ := h
  obtain ⟨-, hW, hA, -⟩ := id m1
  have hn := hI.n
  have hc7 := hc.1
  have e : ∀ j, ¬ (23 ≤ j ∧ j < 27) → allocA A s q (-1) j = A j := fun j hj => alloc_8 (by omega) hj
  have e7 := e 7 (by omega)
  have e8 := e 8 (by omega)
  have e6 := e 6 (by omega)
  have e1 := e 1 (by omega)
  refine ⟨σ1.rJ 50 0 (lendA A b s q r), f1.trans (Fm.rJ (by decide)), rJ_J, ?_⟩
  have hg : lendA A b s q r = lendB A (allocA A s q (-1)) b s r (σ1.J 56 0) := by
    unfold lendA lendB
    have : ∀ Y : Int → Int, mixO (83 + 23 * A 7 + 5) (giveA A s q (-1)) Y (A 1) = mixO (83 + 23 * A 7 + 5) (σ1.J 56 0) Y (A 1) := fun Y => by
      funext j
      unfold mixO
      by_cases z : 83 + 23 * A 7 + 5 ≤ j ∧ j < 83 + 23 * A 7 + 5 + A 1
      · rw [if_pos z, if_pos z, g1 _ (by omega) (by omega)]
      · rw [if_neg z, if_neg z]
    rw [this]
  rw [hg]
  generalize hB : allocA A s q (-1) = B at *
  unfold lendB
  show V _ 7 0 0 0 [some (vR (some (11, 0))), some (vI b), some (vI s), some (vI q), some (vI r), none, none] [] σ _
  have start : σ1.rJ 50 0 (mixO (83 + 23 * A 7) (fun k => if 17 ≤ k then -1 else 0) B 0) = σ1 := by rw [mixO_0, ← hA, rJ_self]
  refine V_aldn0 a_X11_lend_0 ?_
  refine V_ildn2 a_X11_lend_1 ?_
  refine V_ildn3 a_X11_lend_2 ?_
  refine V_i2l a_X11_lend_3 (by omega) ?_
  refine V_iconst a_X11_lend_4 ?_
  refine V_v3V a_X11_lend_5 c_X11_256 r1 ?_
  refine V_aldn0 a_X11_lend_8 ?_
  refine V_fin a_X11_lend_9 f_X11_7 rfl hW ?_
  refine V_bipush a_X11_lend_12 (by decide) ?_
  refine V_w a_X11_lend_14 (by omega) hA ?_
  rw [e7]
  refine V_l2i a_X11_lend_15 ?_
  refine V_s1R a_X11_lend_16 c_X11_197 R_loanAt ?_
  refine V_ist5 a_X11_lend_19 ?_
  refine V_iconst a_X11_lend_21 ?_
  refine V_ist6 a_X11_lend_22 ?_
  refine (fun z => by rw [start] at z; exact z : V _ 7 0 0 24 [some (vR (some (11, 0))), some (vI b), some (vI s), some (vI q), some (vI r), some (vI (83 + 23 * A 7)), some (vI 0)] [] (σ1.rJ 50 0 (mixO (83 + 23 * A 7) (fun k => if 17 ≤ k then -1 else 0) B 0)) _ → _) ?_
  refine loopI (P := fun k => V _ 7 0 0 24 [some (vR (some (11, 0))), some (vI b), some (vI s), some (vI q), some (vI r), some (vI (83 + 23 * A 7)), some (vI k)] [] (σ1.rJ 50 0 (mixO (83 + 23 * A 7) (fun k => if 17 ≤ k then -1 else 0) B k)) _) (N := 23) (by omega) ?_ ?_
  · generalize hX : mixO (83 + 23 * A 7) (fun k => if 17 ≤ k then (-1 : Int) else 0) B 23 = X
    have x : ∀ j, j < 23 → X j = A j := fun j hj => by
      rw [← hX, mixO_out (by omega), e j (by omega)]
    refine V_ild6 a_X11_lend_24 ?_
    refine V_bipush a_X11_lend_26 (by decide) ?_
    refine V_icmp_ge_t a_X11_lend_28 (by omega) (by omega) ?_
    refine V_aldn0 a_X11_lend_61 ?_
    refine V_fin a_X11_lend_62 f_X11_7 rfl hW ?_
    refine V_ild5 a_X11_lend_65 ?_
    refine V_iconst a_X11_lend_67 ?_
    refine V_iadd a_X11_lend_68 ?_
    refine V_aldn0 a_X11_lend_69 ?_
    refine V_fin a_X11_lend_70 f_X11_7 rfl hW ?_
    refine V_bipush a_X11_lend_73 (by decide) ?_
    refine V_laldE a_X11_lend_75 rfl (by omega) (v := A 8) (by rw [rJ_J, x _ (by omega)]) ?_
    refine V_last a_X11_lend_76 rfl (by omega) ?_
    rw [rJ_set]
    refine V_aldn0 a_X11_lend_77 ?_
    refine V_fin a_X11_lend_78 f_X11_7 rfl hW ?_
    refine V_ild5 a_X11_lend_81 ?_
    refine V_iconst a_X11_lend_83 ?_
    refine V_iadd a_X11_lend_84 ?_
    refine V_ildn1 a_X11_lend_85 ?_
    refine V_i2l a_X11_lend_86 (by omega) ?_
    refine V_last a_X11_lend_87 rfl (by omega) ?_
    rw [rJ_set]
    refine V_aldn0 a_X11_lend_88 ?_
    refine V_fin a_X11_lend_89 f_X11_7 rfl hW ?_
    refine V_ild5 a_X11_lend_92 ?_
    refine V_iconst a_X11_lend_94 ?_
    refine V_iadd a_X11_lend_95 ?_
    refine V_ildn2 a_X11_lend_96 ?_
    refine V_i2l a_X11_lend_97 (by omega) ?_
    refine V_last a_X11_lend_98 rfl (by omega) ?_
    rw [rJ_set]
    refine V_aldn0 a_X11_lend_99 ?_
    refine V_fin a_X11_lend_100 f_X11_7 rfl hW ?_
    refine V_ild5 a_X11_lend_103 ?_
    refine V_iconst a_X11_lend_105 ?_
    refine V_iadd a_X11_lend_106 ?_
    refine V_ild4 a_X11_lend_107 ?_
    refine V_i2l a_X11_lend_109 (by omega) ?_
    refine V_last a_X11_lend_110 rfl (by omega) ?_
    rw [rJ_set]
    refine V_aldn0 a_X11_lend_111 ?_
    refine V_fin a_X11_lend_112 f_X11_7 rfl hW ?_
    refine V_ild5 a_X11_lend_115 ?_
    refine V_iconst a_X11_lend_117 ?_
    refine V_iadd a_X11_lend_118 ?_
    refine V_aldn0 a_X11_lend_119 ?_
    refine V_fin a_X11_lend_120 f_X11_7 rfl hW ?_
    refine V_bipush a_X11_lend_123 (by decide) ?_
    refine V_laldE a_X11_lend_125 rfl (by omega) (v := A 6) (by rw [rJ_J, upI_ne (by omega), upI_ne (by omega), upI_ne (by omega), upI_ne (by omega), x _ (by omega)]) ?_
    refine V_last a_X11_lend_126 rfl (by omega) ?_
    rw [rJ_set]
    refine V_iconst a_X11_lend_127 ?_
    refine V_ist6 a_X11_lend_128 ?_
    generalize hY : upI (upI (upI (upI (upI X (83 + 23 * A 7 + 0) (A 8)) (83 + 23 * A 7 + 1) b) (83 + 23 * A 7 + 2) s) (83 + 23 * A 7 + 3) r) (83 + 23 * A 7 + 4) (A 6) = Y
    have y : ∀ j, j < 23 → Y j = A j := fun j hj => by
      rw [← hY, upI_ne (by omega), upI_ne (by omega), upI_ne (by omega), upI_ne (by omega), upI_ne (by omega), x j hj]
    have start2 : mixO (83 + 23 * A 7 + 5) (σ1.J 56 0) Y 0 = Y := mixO_0
    refine (fun z => by rw [start2] at z; exact z : V _ 7 0 0 130 [some (vR (some (11, 0))), some (vI b), some (vI s), some (vI q), some (vI r), some (vI (83 + 23 * A 7)), some (vI 0)] [] (σ1.rJ 50 0 (mixO (83 + 23 * A 7 + 5) (σ1.J 56 0) Y 0)) _ → _) ?_
    refine loopI (P := fun k => V _ 7 0 0 130 [some (vR (some (11, 0))), some (vI b), some (vI s), some (vI q), some (vI r), some (vI (83 + 23 * A 7)), some (vI k)] [] (σ1.rJ 50 0 (mixO (83 + 23 * A 7 + 5) (σ1.J 56 0) Y k)) _) (N := A 1) (by omega) ?_ ?_
    · have z : ∀ j, j < 23 → mixO (83 + 23 * A 7 + 5) (σ1.J 56 0) Y (A 1) j = A j := fun j hj => by
        rw [mixO_out (by omega), y j hj]
      generalize mixO (83 + 23 * A 7 + 5) (σ1.J 56 0) Y (A 1) = Z at z ⊢
      refine V_ild6 a_X11_lend_130 ?_
      refine V_i2l a_X11_lend_132 (by omega) ?_
      refine V_aldn0 a_X11_lend_133 ?_
      refine V_fin a_X11_lend_134 f_X11_7 rfl hW ?_
      refine V_iconst a_X11_lend_137 ?_
      refine V_laldE a_X11_lend_138 rfl (by omega) (v := A 1) (by rw [rJ_J, z _ (by omega)]) ?_
      refine V_lc_ge_t a_X11_lend_139 a_X11_lend_140 (by omega) (by omega) ?_
      refine V_aldn0 a_X11_lend_168 ?_
      refine V_fin a_X11_lend_169 f_X11_7 rfl hW ?_
      refine V_bipush a_X11_lend_172 (by decide) ?_
      first | refine V_dup2IR a_X11_lend_174 ?_ | refine V_dup2L a_X11_lend_174 ?_
      refine V_laldE a_X11_lend_175 rfl (by omega) (v := A 7) (by rw [rJ_J, z _ (by omega)]) ?_
      refine V_lconst1 a_X11_lend_176 ?_
      refine V_ladd a_X11_lend_177 ?_
      refine V_last a_X11_lend_178 rfl (by omega) ?_
      rw [rJ_set]
      refine V_aldn0 a_X11_lend_179 ?_
      refine V_fin a_X11_lend_180 f_X11_7 rfl hW ?_
      refine V_bipush a_X11_lend_183 (by decide) ?_
      first | refine V_dup2IR a_X11_lend_185 ?_ | refine V_dup2L a_X11_lend_185 ?_
      refine V_laldE a_X11_lend_186 rfl (by omega) (v := A 8) (by rw [rJ_J, upI_ne (by omega), z _ (by omega)]) ?_
      refine V_lconst1 a_X11_lend_187 ?_
      refine V_ladd a_X11_lend_188 ?_
      refine V_last a_X11_lend_189 rfl (by omega) ?_
      rw [rJ_set]
      refine V_aldn0 a_X11_lend_190 ?_
      refine V_fin a_X11_lend_191 f_X11_7 rfl hW ?_
      refine V_bipush a_X11_lend_194 (by decide) ?_
      refine V_laldE a_X11_lend_196 rfl (by omega) (v := A 8 + 1) (by rw [rJ_J, upI_eq]) ?_
      refine V_l2i a_X11_lend_197 ?_
      refine V_iconst a_X11_lend_198 ?_
      refine V_isub a_X11_lend_199 ?_
      exact V_iret a_X11_lend_200 (⟨by congr 3; omega, rfl⟩)
    · intro k k0 k1 ih
      rw [← mixO_s k0, ← rJ_set] at ih
      refine V_ild6 a_X11_lend_130 ?_
      refine V_i2l a_X11_lend_132 (by omega) ?_
      refine V_aldn0 a_X11_lend_133 ?_
      refine V_fin a_X11_lend_134 f_X11_7 rfl hW ?_
      refine V_iconst a_X11_lend_137 ?_
      refine V_laldE a_X11_lend_138 rfl (by omega) (v := A 1) (by rw [rJ_J, mixO_out (by omega), y _ (by omega)]) ?_
      refine V_lc_ge_f a_X11_lend_139 a_X11_lend_140 (by omega) (by omega) ?_
      refine V_aldn0 a_X11_lend_143 ?_
      refine V_fin a_X11_lend_144 f_X11_7 rfl hW ?_
      refine V_ild5 a_X11_lend_147 ?_
      refine V_iconst a_X11_lend_149 ?_
      refine V_iadd a_X11_lend_150 ?_
      refine V_ild6 a_X11_lend_151 ?_
      refine V_iadd a_X11_lend_153 ?_
      refine V_aldn0 a_X11_lend_154 ?_
      refine V_fin a_X11_lend_155 f_X11_33 rfl hW ?_
      refine V_ild6 a_X11_lend_158 ?_
      refine V_laldE a_X11_lend_160 rfl (by omega) (v := σ1.J 56 0 k) (by rw [rJ_ne (by decide)]) ?_
      refine V_last a_X11_lend_161 rfl (by omega) ?_
      refine V_inc6 a_X11_lend_162 ?_
      refine V_goto a_X11_lend_165 ?_
      exact ih
  · intro k k0 k1 ih
    rw [← mixO_s k0, ← rJ_set] at ih
    refine V_ild6 a_X11_lend_24 ?_
    refine V_bipush a_X11_lend_26 (by decide) ?_
    refine V_icmp_ge_f a_X11_lend_28 (by omega) (by omega) ?_
    refine V_aldn0 a_X11_lend_31 ?_
    refine V_fin a_X11_lend_32 f_X11_7 rfl hW ?_
    refine V_ild5 a_X11_lend_35 ?_
    refine V_ild6 a_X11_lend_37 ?_
    refine V_iadd a_X11_lend_39 ?_
    refine V_ild6 a_X11_lend_40 ?_
    refine V_bipush a_X11_lend_42 (by decide) ?_
    refine V_icmp_lt a_X11_lend_44 (by omega) (fun hc44 => ?_) (fun hc44 => ?_)
    · refine V_lconst0 a_X11_lend_53 ?_
      refine V_last a_X11_lend_54 rfl (by omega) ?_
      refine V_inc6 a_X11_lend_55 ?_
      refine V_goto a_X11_lend_58 ?_
      first | (rw [if_pos (by omega)] at ih; exact ih) | (rw [if_neg (by omega)] at ih; exact ih)
    · refine V_ldc2 a_X11_lend_47 q_X11_56 ?_
      refine V_goto a_X11_lend_50 ?_
      refine V_last a_X11_lend_54 rfl (by omega) ?_
      refine V_inc6 a_X11_lend_55 ?_
      refine V_goto a_X11_lend_58 ?_
      first | (rw [if_pos (by omega)] at ih; exact ih) | (rw [if_neg (by omega)] at ih; exact ih)
theorem B_isTerms {q r : Int} (hq : -2147483648 ≤ q ∧ q < 2147483648) (hr : -2147483648 ≤ r ∧ r < 2147483648) : ∃ b : Int, ((b = 1 ∧ (1 ≤ q ∧ q ≤ 99999) ∧ 0 ≤ r ∧ r ≤ 9999) ∨ (b = 0 ∧ ¬ ((1 ≤ q ∧ q ≤ 99999) ∧ 0 ≤ r ∧ r ≤ 9999))) ∧ Rt m_X11_isTerms 2 0 0 [vI q, vI r] σ (some (vI b)) σ := by
  obtain ⟨b1, hb1, r1⟩ := B_isQuantity (σ := σ) hq
  obtain ⟨b2, hb2, r2⟩ := B_in (σ := σ) (v := r) (x := 0) (y := 9999) (by omega) (by omega) (by omega)
  by_cases hp : (1 ≤ q ∧ q ≤ 99999) ∧ 0 ≤ r ∧ r ≤ 9999
  · refine ⟨1, Or.inl ⟨rfl, hp⟩, ?_⟩
    show V _ 2 0 0 0 [some (vI q), some (vI r)] [] σ _
    refine V_ildn0 a_X11_isTerms_0 ?_
    refine V_s1R a_X11_isTerms_1 c_X11_259 r1 ?_
    refine V_if_eq_f a_X11_isTerms_4 (by omega) (by omega) ?_
    refine V_ildn1 a_X11_isTerms_7 ?_
    refine V_i2l a_X11_isTerms_8 (by omega) ?_
    refine V_lconst0 a_X11_isTerms_9 ?_
    refine V_ldc2 a_X11_isTerms_10 q_X11_143 ?_
    refine V_s3R a_X11_isTerms_13 c_X11_61 r2 ?_
    refine V_if_eq_f a_X11_isTerms_16 (by omega) (by omega) ?_
    refine V_iconst a_X11_isTerms_19 ?_
    refine V_goto a_X11_isTerms_20 ?_
    exact V_zret a_X11_isTerms_24 (by omega) (⟨rfl, rfl⟩)
  · refine ⟨0, Or.inr ⟨rfl, hp⟩, ?_⟩
    show V _ 2 0 0 0 [some (vI q), some (vI r)] [] σ _
    refine V_ildn0 a_X11_isTerms_0 ?_
    refine V_s1R a_X11_isTerms_1 c_X11_259 r1 ?_
    refine V_if_eq a_X11_isTerms_4 (by omega) (fun hc4 => ?_) (fun hc4 => ?_)
    · refine V_iconst a_X11_isTerms_23 ?_
      exact V_zret a_X11_isTerms_24 (by omega) (⟨by first | rfl | omega, rfl⟩)
    · refine V_ildn1 a_X11_isTerms_7 ?_
      refine V_i2l a_X11_isTerms_8 (by omega) ?_
      refine V_lconst0 a_X11_isTerms_9 ?_
      refine V_ldc2 a_X11_isTerms_10 q_X11_143 ?_
      refine V_s3R a_X11_isTerms_13 c_X11_61 r2 ?_
      refine V_if_eq a_X11_isTerms_16 (by omega) (fun hc16 => ?_) (fun hc16 => ?_)
      · refine V_iconst a_X11_isTerms_23 ?_
        exact V_zret a_X11_isTerms_24 (by omega) (⟨by first | rfl | omega, rfl⟩)
      · refine V_iconst a_X11_isTerms_19 ?_
        refine V_goto a_X11_isTerms_20 ?_
        exact V_zret a_X11_isTerms_24 (by omega) (⟨by first | rfl | omega, rfl⟩)
/-- why a loan is not made -/
noncomputable def brC (A : St) (b s q r : Int) : Int := if ¬ ((0 ≤ b ∧ b < A 2) ∧ 0 ≤ s ∧ s < A 0) then 1 else if ¬ ((1 ≤ q ∧ q ≤ 99999) ∧ 0 ≤ r ∧ r ≤ 9999) then 2 else @ite Int (¬ canA A b s q) (Classical.propDecidable _) 3 0
abbrev iR (x : Int) : Prop := -2147483648 ≤ x ∧ x < 2147483648
theorem R_borrow {b s q r c : Int} {H : Int → St} (h : Md D σ A) (hP : PastOk σ c H) (hb : iR b) (hs : iR s) (hq : iR q) (hr : iR r) : (brC A b s q r = 0 → ∃ σ', FK [50, 51, 54, 56, 57] [5, 6] σ σ' ∧ σ'.I 11 0 6 = 0 ∧ σ'.J 50 0 = lendA A b s q r ∧ PastOk σ' (pushC c) (pushH c H A) ∧ Rt m_X11_borrow 8 0 0 [vR (some (11, 0)), vI b, vI s, vI q, vI r] σ (some (vI (A 8))) σ') ∧ (brC A b s q r ≠ 0 → Rt m_X11_borrow 8 0 0 [vR (some (11, 0)), vI b, vI s, vI q, vI r] σ (some (vI 0)) (σ.th (brC A b s q r))) := by
  obtain ⟨b1, hb1, r1⟩ := B_isBorrower (l := b) h hb
  obtain ⟨b2, hb2, r2⟩ := B_isSecurity (s := s) h hs
  unfold brC
  by_cases h1 : (0 ≤ b ∧ b < A 2) ∧ 0 ≤ s ∧ s < A 0
  · rw [if_neg (fun z => z h1)]
    obtain ⟨b3, hb3, r3⟩ := B_isTerms (σ := σ.th 0) hq hr
    by_cases h2 : (1 ≤ q ∧ q ≤ 99999) ∧ 0 ≤ r ∧ r ≤ 9999
    · rw [if_neg (fun z => z h2)]
      obtain ⟨b4, hb4, r4⟩ := B_canLend (b := b) (s := s) (q := q) ((h.setI (t := 11) (i := 0) (k := 6) (v := 0)).setI (t := 11) (i := 0) (k := 6) (v := 0)) h1.1 h1.2 h2.1
      by_cases h3 : canA A b s q
      · rw [if_neg (fun z => z h3)]
        have hb5 : b4 = 1 := by
          rcases hb4 with z | z
          · exact z.1
          · exact absurd h3 z.2
        have hm : Md D (((σ.th 0).th 0).th 0) A := h
        obtain ⟨σ1, f1, m1, p1, r5⟩ := R_remember (c := c) (H := H) hm hP
        obtain ⟨σ2, f2, e2, r6⟩ := R_lend m1 h1.1 h1.2 h2.1 h2.2 h3
        refine ⟨fun _ => ⟨σ2, ?_, ?_, e2, ?_, ?_⟩, fun z => absurd rfl z⟩
        · exact FK.trans (FK.trans (FK.trans (FK.trans (FK.th (by decide)) (FK.th (by decide))) (FK.th (by decide))) (f1.sub (by decide) (by decide))) ((f2.sub (by decide) : Fm [50, 51, 54, 56, 57] σ1 σ2).fk (by decide))
        · rw [f2.I (by decide), f1.2 6 (by decide)]
          exact setI_I
        · exact ⟨by rw [f2.I (by decide)]; exact p1.1, p1.2.1, by rw [f2.J (by decide)]; exact p1.2.2⟩
        · show V _ 8 0 0 0 [some (vR (some (11, 0))), some (vI b), some (vI s), some (vI q), some (vI r)] [] σ _
          refine V_aldn0 a_X11_borrow_0 ?_
          refine V_aldn0 a_X11_borrow_1 ?_
          refine V_ildn1 a_X11_borrow_2 ?_
          refine V_v1R a_X11_borrow_3 c_X11_262 r1 ?_
          refine V_if_eq_f a_X11_borrow_6 (by omega) (by omega) ?_
          refine V_aldn0 a_X11_borrow_9 ?_
          refine V_ildn2 a_X11_borrow_10 ?_
          refine V_v1R a_X11_borrow_11 c_X11_69 r2 ?_
          refine V_if_ne_t a_X11_borrow_14 (by omega) (by omega) ?_
          refine V_iconst a_X11_borrow_21 ?_
          refine V_iconst a_X11_borrow_22 ?_
          refine V_v2R a_X11_borrow_23 c_X11_72 R_fails0 ?_
          refine V_if_ne_f a_X11_borrow_26 (by omega) (by omega) ?_
          refine V_aldn0 a_X11_borrow_29 ?_
          refine V_ildn3 a_X11_borrow_30 ?_
          refine V_ild4 a_X11_borrow_31 ?_
          refine V_s2R a_X11_borrow_33 c_X11_265 r3 ?_
          refine V_if_ne_t a_X11_borrow_36 (by omega) (by omega) ?_
          refine V_iconst a_X11_borrow_43 ?_
          refine V_iconst a_X11_borrow_44 ?_
          refine V_v2R a_X11_borrow_45 c_X11_72 R_fails0 ?_
          refine V_if_ne_f a_X11_borrow_48 (by omega) (by omega) ?_
          refine V_aldn0 a_X11_borrow_51 ?_
          refine V_aldn0 a_X11_borrow_52 ?_
          refine V_ildn1 a_X11_borrow_53 ?_
          refine V_ildn2 a_X11_borrow_54 ?_
          refine V_ildn3 a_X11_borrow_55 ?_
          refine V_v3R a_X11_borrow_56 c_X11_269 r4 ?_
          refine V_if_ne_t a_X11_borrow_59 (by omega) (by omega) ?_
          refine V_iconst a_X11_borrow_66 ?_
          refine V_iconst a_X11_borrow_67 ?_
          refine V_v2R a_X11_borrow_68 c_X11_72 R_fails0 ?_
          refine V_if_eq_t a_X11_borrow_71 (by omega) (by omega) ?_
          refine V_aldn0 a_X11_borrow_76 ?_
          refine V_v0V a_X11_borrow_77 c_X11_272 r5 ?_
          refine V_aldn0 a_X11_borrow_80 ?_
          refine V_ildn1 a_X11_borrow_81 ?_
          refine V_ildn2 a_X11_borrow_82 ?_
          refine V_ildn3 a_X11_borrow_83 ?_
          refine V_ild4 a_X11_borrow_84 ?_
          refine V_v4R a_X11_borrow_86 c_X11_275 r6 ?_
          exact V_iret a_X11_borrow_89 (⟨rfl, rfl⟩)
      · rw [if_pos h3]
        have hb5 : b4 = 0 := by
          rcases hb4 with z | z
          · exact absurd z.2 h3
          · exact z.1
        refine ⟨fun z => absurd z (by decide), fun _ => ?_⟩
        show V _ 8 0 0 0 [some (vR (some (11, 0))), some (vI b), some (vI s), some (vI q), some (vI r)] [] σ _
        refine V_aldn0 a_X11_borrow_0 ?_
        refine V_aldn0 a_X11_borrow_1 ?_
        refine V_ildn1 a_X11_borrow_2 ?_
        refine V_v1R a_X11_borrow_3 c_X11_262 r1 ?_
        refine V_if_eq_f a_X11_borrow_6 (by omega) (by omega) ?_
        refine V_aldn0 a_X11_borrow_9 ?_
        refine V_ildn2 a_X11_borrow_10 ?_
        refine V_v1R a_X11_borrow_11 c_X11_69 r2 ?_
        refine V_if_ne_t a_X11_borrow_14 (by omega) (by omega) ?_
        refine V_iconst a_X11_borrow_21 ?_
        refine V_iconst a_X11_borrow_22 ?_
        refine V_v2R a_X11_borrow_23 c_X11_72 R_fails0 ?_
        refine V_if_ne_f a_X11_borrow_26 (by omega) (by omega) ?_
        refine V_aldn0 a_X11_borrow_29 ?_
        refine V_ildn3 a_X11_borrow_30 ?_
        refine V_ild4 a_X11_borrow_31 ?_
        refine V_s2R a_X11_borrow_33 c_X11_265 r3 ?_
        refine V_if_ne_t a_X11_borrow_36 (by omega) (by omega) ?_
        refine V_iconst a_X11_borrow_43 ?_
        refine V_iconst a_X11_borrow_44 ?_
        refine V_v2R a_X11_borrow_45 c_X11_72 R_fails0 ?_
        refine V_if_ne_f a_X11_borrow_48 (by omega) (by omega) ?_
        refine V_aldn0 a_X11_borrow_51 ?_
        refine V_aldn0 a_X11_borrow_52 ?_
        refine V_ildn1 a_X11_borrow_53 ?_
        refine V_ildn2 a_X11_borrow_54 ?_
        refine V_ildn3 a_X11_borrow_55 ?_
        refine V_v3R a_X11_borrow_56 c_X11_269 r4 ?_
        refine V_if_ne_f a_X11_borrow_59 (by omega) (by omega) ?_
        refine V_iconst a_X11_borrow_62 ?_
        refine V_goto a_X11_borrow_63 ?_
        refine V_iconst a_X11_borrow_67 ?_
        refine V_v2R a_X11_borrow_68 c_X11_72 R_fails1 ?_
        refine V_if_eq_f a_X11_borrow_71 (by omega) (by omega) ?_
        refine V_iconst a_X11_borrow_74 ?_
        exact V_iret a_X11_borrow_75 (⟨rfl, by rw [th_th, th_th]⟩)
    · rw [if_pos h2]
      refine ⟨fun z => absurd z (by decide), fun _ => ?_⟩
      show V _ 8 0 0 0 [some (vR (some (11, 0))), some (vI b), some (vI s), some (vI q), some (vI r)] [] σ _
      refine V_aldn0 a_X11_borrow_0 ?_
      refine V_aldn0 a_X11_borrow_1 ?_
      refine V_ildn1 a_X11_borrow_2 ?_
      refine V_v1R a_X11_borrow_3 c_X11_262 r1 ?_
      refine V_if_eq_f a_X11_borrow_6 (by omega) (by omega) ?_
      refine V_aldn0 a_X11_borrow_9 ?_
      refine V_ildn2 a_X11_borrow_10 ?_
      refine V_v1R a_X11_borrow_11 c_X11_69 r2 ?_
      refine V_if_ne_t a_X11_borrow_14 (by omega) (by omega) ?_
      refine V_iconst a_X11_borrow_21 ?_
      refine V_iconst a_X11_borrow_22 ?_
      refine V_v2R a_X11_borrow_23 c_X11_72 R_fails0 ?_
      refine V_if_ne_f a_X11_borrow_26 (by omega) (by omega) ?_
      refine V_aldn0 a_X11_borrow_29 ?_
      refine V_ildn3 a_X11_borrow_30 ?_
      refine V_ild4 a_X11_borrow_31 ?_
      refine V_s2R a_X11_borrow_33 c_X11_265 r3 ?_
      refine V_if_ne_f a_X11_borrow_36 (by omega) (by omega) ?_
      refine V_iconst a_X11_borrow_39 ?_
      refine V_goto a_X11_borrow_40 ?_
      refine V_iconst a_X11_borrow_44 ?_
      refine V_v2R a_X11_borrow_45 c_X11_72 R_fails1 ?_
      refine V_if_ne_t a_X11_borrow_48 (by omega) (by omega) ?_
      refine V_iconst a_X11_borrow_74 ?_
      exact V_iret a_X11_borrow_75 (⟨rfl, by rw [th_th]⟩)
  · rw [if_pos h1]
    refine ⟨fun z => absurd z (by decide), fun _ => ?_⟩
    show V _ 8 0 0 0 [some (vR (some (11, 0))), some (vI b), some (vI s), some (vI q), some (vI r)] [] σ _
    refine V_aldn0 a_X11_borrow_0 ?_
    refine V_aldn0 a_X11_borrow_1 ?_
    refine V_ildn1 a_X11_borrow_2 ?_
    refine V_v1R a_X11_borrow_3 c_X11_262 r1 ?_
    refine V_if_eq a_X11_borrow_6 (by omega) (fun hc6 => ?_) (fun hc6 => ?_)
    · refine V_iconst a_X11_borrow_17 ?_
      refine V_goto a_X11_borrow_18 ?_
      refine V_iconst a_X11_borrow_22 ?_
      refine V_v2R a_X11_borrow_23 c_X11_72 R_fails1 ?_
      refine V_if_ne_t a_X11_borrow_26 (by omega) (by omega) ?_
      refine V_iconst a_X11_borrow_74 ?_
      exact V_iret a_X11_borrow_75 (⟨rfl, rfl⟩)
    · refine V_aldn0 a_X11_borrow_9 ?_
      refine V_ildn2 a_X11_borrow_10 ?_
      refine V_v1R a_X11_borrow_11 c_X11_69 r2 ?_
      refine V_if_ne_f a_X11_borrow_14 (by omega) (by omega) ?_
      refine V_iconst a_X11_borrow_17 ?_
      refine V_goto a_X11_borrow_18 ?_
      refine V_iconst a_X11_borrow_22 ?_
      refine V_v2R a_X11_borrow_23 c_X11_72 R_fails1 ?_
      refine V_if_ne_t a_X11_borrow_26 (by omega) (by omega) ?_
      refine V_iconst a_X11_borrow_74 ?_
      exact V_iret a_X11_borrow_75 (⟨rfl, rfl⟩)
end Mo7

