set_option linter.unusedVariables false
theorem R_lmax {σ : Hp} {x y : Int} (hx : -9223372036854775808 ≤ x ∧ x < 9223372036854775808) (hy : -9223372036854775808 ≤ y ∧ y < 9223372036854775808) : Rt m_J9_max_f86c9 0 0 0 [vL x, vL y] σ (some (vL (max x y))) σ := by
  show V _ 0 0 0 0 [some (vL x), none, some (vL y), none] [] σ _
  refine V_lldn0 a_J9_max_f86c9_0 ?_
  refine V_lldn2 a_J9_max_f86c9_1 ?_
  refine V_lc_lt a_J9_max_f86c9_2 a_J9_max_f86c9_3 (by omega) (fun hc2 => ?_) (fun hc2 => ?_)
  · refine V_lldn2 a_J9_max_f86c9_10 ?_
    exact V_lret a_J9_max_f86c9_11 (⟨by congr 3; omega, rfl⟩)
  · refine V_lldn0 a_J9_max_f86c9_6 ?_
    refine V_goto a_J9_max_f86c9_7 ?_
    exact V_lret a_J9_max_f86c9_11 (⟨by congr 3; omega, rfl⟩)
theorem R_lmin {σ : Hp} {x y : Int} (hx : -9223372036854775808 ≤ x ∧ x < 9223372036854775808) (hy : -9223372036854775808 ≤ y ∧ y < 9223372036854775808) : Rt m_J9_min_f86c9 0 0 0 [vL x, vL y] σ (some (vL (min x y))) σ := by
  show V _ 0 0 0 0 [some (vL x), none, some (vL y), none] [] σ _
  refine V_lldn0 a_J9_min_f86c9_0 ?_
  refine V_lldn2 a_J9_min_f86c9_1 ?_
  refine V_lc_gt a_J9_min_f86c9_2 a_J9_min_f86c9_3 (by omega) (fun hc2 => ?_) (fun hc2 => ?_)
  · refine V_lldn2 a_J9_min_f86c9_10 ?_
    exact V_lret a_J9_min_f86c9_11 (⟨by congr 3; omega, rfl⟩)
  · refine V_lldn0 a_J9_min_f86c9_6 ?_
    refine V_goto a_J9_min_f86c9_7 ?_
    exact V_lret a_J9_min_f86c9_11 (⟨by congr 3; omega, rfl⟩)
theorem R_imax {σ : Hp} {x y : Int} (hx : -2147483648 ≤ x ∧ x < 2147483648) (hy : -2147483648 ≤ y ∧ y < 2147483648) : Rt m_J9_max_7cf53 0 0 0 [vI x, vI y] σ (some (vI (max x y))) σ := by
  show V _ 0 0 0 0 [some (vI x), some (vI y)] [] σ _
  refine V_ildn0 a_J9_max_7cf53_0 ?_
  refine V_ildn1 a_J9_max_7cf53_1 ?_
  refine V_icmp_lt a_J9_max_7cf53_2 (by omega) (fun hc2 => ?_) (fun hc2 => ?_)
  · refine V_ildn1 a_J9_max_7cf53_9 ?_
    exact V_iret a_J9_max_7cf53_10 (⟨by congr 3; omega, rfl⟩)
  · refine V_ildn0 a_J9_max_7cf53_5 ?_
    refine V_goto a_J9_max_7cf53_6 ?_
    exact V_iret a_J9_max_7cf53_10 (⟨by congr 3; omega, rfl⟩)
theorem R_imin {σ : Hp} {x y : Int} (hx : -2147483648 ≤ x ∧ x < 2147483648) (hy : -2147483648 ≤ y ∧ y < 2147483648) : Rt m_J9_min_7cf53 0 0 0 [vI x, vI y] σ (some (vI (min x y))) σ := by
  show V _ 0 0 0 0 [some (vI x), some (vI y)] [] σ _
  refine V_ildn0 a_J9_min_7cf53_0 ?_
  refine V_ildn1 a_J9_min_7cf53_1 ?_
  refine V_icmp_gt a_J9_min_7cf53_2 (by omega) (fun hc2 => ?_) (fun hc2 => ?_)
  · refine V_ildn1 a_J9_min_7cf53_9 ?_
    exact V_iret a_J9_min_7cf53_10 (⟨by congr 3; omega, rfl⟩)
  · refine V_ildn0 a_J9_min_7cf53_5 ?_
    refine V_goto a_J9_min_7cf53_6 ?_
    exact V_iret a_J9_min_7cf53_10 (⟨by congr 3; omega, rfl⟩)
theorem R_loanAt {σ : Hp} {k : Int} : Rt m_X11_loanAt 0 0 0 [vI k] σ (some (vI (83 + 23 * k))) σ := by
  show V _ 0 0 0 0 [some (vI k)] [] σ _
  refine V_bipush a_X11_loanAt_0 (by decide) ?_
  refine V_bipush a_X11_loanAt_2 (by decide) ?_
  refine V_ildn0 a_X11_loanAt_4 ?_
  refine V_imul a_X11_loanAt_5 ?_
  refine V_iadd a_X11_loanAt_6 ?_
  exact V_iret a_X11_loanAt_7 (⟨rfl, rfl⟩)
def bI (p : Prop) [Decidable p] : Int := if p then 1 else 0
theorem B_in {σ : Hp} {v x y : Int} (hv : -9223372036854775808 ≤ v ∧ v < 9223372036854775808) (hx : -9223372036854775808 ≤ x ∧ x < 9223372036854775808) (hy : -9223372036854775808 ≤ y ∧ y < 9223372036854775808) : ∃ b : Int, ((b = 1 ∧ x ≤ v ∧ v ≤ y) ∨ (b = 0 ∧ ¬ (x ≤ v ∧ v ≤ y))) ∧ Rt m_X11_in 0 0 0 [vL v, vL x, vL y] σ (some (vI b)) σ := by
  by_cases hp : x ≤ v ∧ v ≤ y
  · refine ⟨1, Or.inl ⟨rfl, hp⟩, ?_⟩
    show V _ 0 0 0 0 [some (vL v), none, some (vL x), none, some (vL y), none] [] σ _
    refine V_lldn0 a_X11_in_0 ?_
    refine V_lldn2 a_X11_in_1 ?_
    refine V_lc_lt_f a_X11_in_2 a_X11_in_3 (by omega) (by omega) ?_
    refine V_lldn0 a_X11_in_6 ?_
    refine V_lld4 a_X11_in_7 ?_
    refine V_lc_gt_f a_X11_in_9 a_X11_in_10 (by omega) (by omega) ?_
    refine V_iconst a_X11_in_13 ?_
    refine V_goto a_X11_in_14 ?_
    exact V_zret a_X11_in_18 (by omega) (⟨rfl, rfl⟩)
  · refine ⟨0, Or.inr ⟨rfl, hp⟩, ?_⟩
    show V _ 0 0 0 0 [some (vL v), none, some (vL x), none, some (vL y), none] [] σ _
    refine V_lldn0 a_X11_in_0 ?_
    refine V_lldn2 a_X11_in_1 ?_
    refine V_lc_lt a_X11_in_2 a_X11_in_3 (by omega) (fun hc2 => ?_) (fun hc2 => ?_)
    · refine V_iconst a_X11_in_17 ?_
      exact V_zret a_X11_in_18 (by omega) (⟨by first | rfl | omega, rfl⟩)
    · refine V_lldn0 a_X11_in_6 ?_
      refine V_lld4 a_X11_in_7 ?_
      refine V_lc_gt a_X11_in_9 a_X11_in_10 (by omega) (fun hc9 => ?_) (fun hc9 => ?_)
      · refine V_iconst a_X11_in_17 ?_
        exact V_zret a_X11_in_18 (by omega) (⟨by first | rfl | omega, rfl⟩)
      · refine V_iconst a_X11_in_13 ?_
        refine V_goto a_X11_in_14 ?_
        exact V_zret a_X11_in_18 (by omega) (⟨by first | rfl | omega, rfl⟩)

