section Q9
variable {D : Int} {σ : Hp} {s : Lsv}
theorem R_refuse4 : Tr m_X10_refuse 6 1 6 [vI 4] σ xNSE σ := by
  show V _ 6 1 6 0 [some (vI 4)] [] σ _
  refine V_ildn0 a_X10_refuse_0 ?_
  refine V_table_in a_X10_refuse_1 (off := 64) rfl rfl (by omega) (by omega) ?_
  exact V_throwN rfl a_X10_refuse_65 a_X10_refuse_68 a_X10_refuse_69 a_X10_refuse_72 a_X10_refuse_75 kl_X10_354 sr_X10_420 nx_a nx_g (by omega) (by exact Nat.le_of_ble_eq_true rfl) (⟨rfl, rfl⟩)
theorem R_needCho2 {l c q : Int} (h : CIv D σ s) (h1 : (0 ≤ l ∧ l < s.1 1) ∧ 0 ≤ c ∧ c < s.1 0) (h2 : 1 ≤ q ∧ q ≤ 99999) (h3 : recbA s.1 l c < q) : Tr m_X10_needChoice 9 1 6 [vR (some (10, 0)), vI l, vI c, vI q] σ xNSE σ := by
  have hc := h.1
  have hW := hc.2.1
  have hI := hc.2.2.2.2
  have hn := hI.n
  have rf := R_quantityFault (l := l) (s := c) (q := q) hc (by unfold iR; omega) (by unfold iR; omega) (by unfold iR; omega)
  rw [qf_00 h1 h2] at rf
  have r2 := R_unrecalledOf (l := l) (s := c) hc (by omega) (by unfold iR; omega)
  have rb := recb_bd hI h1.1.1 (show l < 6 by omega) h1.2.1 (show c < 4 by omega)
  show V _ 9 1 6 0 [some (vR (some (10, 0))), some (vI l), some (vI c), some (vI q)] [] σ _
  refine V_aldn0 a_X10_needChoice_0 ?_
  refine V_fin a_X10_needChoice_1 f_X10_33 rfl hW ?_
  refine V_aldn0 a_X10_needChoice_4 ?_
  refine V_fin a_X10_needChoice_5 f_X10_61 rfl hW ?_
  refine V_ildn1 a_X10_needChoice_8 ?_
  refine V_ildn2 a_X10_needChoice_9 ?_
  refine V_ildn3 a_X10_needChoice_10 ?_
  refine V_v4R a_X10_needChoice_11 c_X10_155 rf ?_
  refine V_s1V a_X10_needChoice_14 c_X10_117 R_refuse0 ?_
  refine V_aldn0 a_X10_needChoice_17 ?_
  refine V_fin a_X10_needChoice_18 f_X10_61 rfl hW ?_
  refine V_ildn1 a_X10_needChoice_21 ?_
  refine V_ildn2 a_X10_needChoice_22 ?_
  refine V_v2R a_X10_needChoice_23 c_X10_295 r2 ?_
  refine V_ildn3 a_X10_needChoice_26 ?_
  refine V_icmp_ge_f a_X10_needChoice_27 (by omega) (by omega) ?_
  refine V_iconst a_X10_needChoice_30 ?_
  refine V_goto a_X10_needChoice_31 ?_
  exact V_s1Q a_X10_needChoice_35 c_X10_117 (R_refuse4) (fun v τ hq => by cases hq.1) (fun E τ hq => by obtain ⟨h1, hq⟩ := hq; cases h1; exact ⟨rfl, hq⟩)
theorem X_fewestLoans2 {l c q : Int} (h : CIv D σ s) (h1 : (0 ≤ l ∧ l < s.1 1) ∧ 0 ≤ c ∧ c < s.1 0) (h2 : 1 ≤ q ∧ q ≤ 99999) (h3 : recbA s.1 l c < q) : Tr m_X10_fewestLoans 10 1 6 [vR (some (10, 0)), vI l, vI c, vI q] σ xNSE σ := by
  have r1 := R_needCho2 h h1 h2 h3
  show V _ 10 1 6 0 [some (vR (some (10, 0))), some (vI l), some (vI c), some (vI q)] [] σ _
  refine V_aldn0 a_X10_fewestLoans_0 ?_
  refine V_ildn1 a_X10_fewestLoans_1 ?_
  refine V_ildn2 a_X10_fewestLoans_2 ?_
  refine V_ildn3 a_X10_fewestLoans_3 ?_
  exact V_v3Q a_X10_fewestLoans_4 c_X10_336 (r1) (fun v τ hq => by cases hq.1) (fun E τ hq => by obtain ⟨h1, hq⟩ := hq; cases h1; exact ⟨rfl, hq⟩)
theorem X_tightestSum2 {l c q : Int} (h : CIv D σ s) (h1 : (0 ≤ l ∧ l < s.1 1) ∧ 0 ≤ c ∧ c < s.1 0) (h2 : 1 ≤ q ∧ q ≤ 99999) (h3 : recbA s.1 l c < q) : Tr m_X10_tightestSum 10 1 6 [vR (some (10, 0)), vI l, vI c, vI q] σ xNSE σ := by
  have r1 := R_needCho2 h h1 h2 h3
  show V _ 10 1 6 0 [some (vR (some (10, 0))), some (vI l), some (vI c), some (vI q)] [] σ _
  refine V_aldn0 a_X10_tightestSum_0 ?_
  refine V_ildn1 a_X10_tightestSum_1 ?_
  refine V_ildn2 a_X10_tightestSum_2 ?_
  refine V_ildn3 a_X10_tightestSum_3 ?_
  exact V_v3Q a_X10_tightestSum_4 c_X10_336 (r1) (fun v τ hq => by cases hq.1) (fun E τ hq => by obtain ⟨h1, hq⟩ := hq; cases h1; exact ⟨rfl, hq⟩)
theorem X_tightestLoans2 {l c q : Int} (h : CIv D σ s) (h1 : (0 ≤ l ∧ l < s.1 1) ∧ 0 ≤ c ∧ c < s.1 0) (h2 : 1 ≤ q ∧ q ≤ 99999) (h3 : recbA s.1 l c < q) : Tr m_X10_tightestLoans 10 1 6 [vR (some (10, 0)), vI l, vI c, vI q] σ xNSE σ := by
  have r1 := R_needCho2 h h1 h2 h3
  show V _ 10 1 6 0 [some (vR (some (10, 0))), some (vI l), some (vI c), some (vI q)] [] σ _
  refine V_aldn0 a_X10_tightestLoans_0 ?_
  refine V_ildn1 a_X10_tightestLoans_1 ?_
  refine V_ildn2 a_X10_tightestLoans_2 ?_
  refine V_ildn3 a_X10_tightestLoans_3 ?_
  exact V_v3Q a_X10_tightestLoans_4 c_X10_336 (r1) (fun v τ hq => by cases hq.1) (fun E τ hq => by obtain ⟨h1, hq⟩ := hq; cases h1; exact ⟨rfl, hq⟩)
theorem X_firstBuyIn1 (h : CIv D σ s) (hf : fbX s.1 (s.1 7) = -1) : Tr m_X10_firstBuyIn 10 1 6 [vR (some (10, 0))] σ xNSE σ := by
  show V _ 10 1 6 0 [some (vR (some (10, 0))), none, none] [] σ _
  refine X_first_to h ?_
  rw [hf]
  refine V_ildn1 a_X10_firstBuyIn_40 ?_
  refine V_iconst a_X10_firstBuyIn_41 ?_
  refine V_icmp_ne_f a_X10_firstBuyIn_42 (by omega) (by omega) ?_
  exact V_throwN rfl a_X10_firstBuyIn_45 a_X10_firstBuyIn_48 a_X10_firstBuyIn_49 a_X10_firstBuyIn_52 a_X10_firstBuyIn_55 kl_X10_354 sr_X10_356 nx_a nx_g (by omega) (by exact Nat.le_of_ble_eq_true rfl) (⟨rfl, rfl⟩)
theorem X_breakingPrice2 {b c : Int} (h : CIv D σ s) (hk : (0 ≤ b ∧ b < s.1 2) ∧ 0 ≤ c ∧ c < s.1 0) (hp : bpA s.1 b c = -1) : Tr m_X10_breakingPrice 10 1 6 [vR (some (10, 0)), vI b, vI c] σ xNSE σ := by
  have hI := h.1.2.2.2.2
  have hn := hI.n
  have cr := hI.cred hk.1.1 hk.1.2
  have b1 := bw_nn hI (b := b) (c := c)
  have b2 := ow_nn hI (b := b) (c := c)
  have e := bp_eq hI (b := b) (c := c) (by omega)
  show V _ 10 1 6 0 [some (vR (some (10, 0))), some (vI b), some (vI c), none, none, none] [] σ _
  refine X_break_to h hk ?_
  rw [e] at hp
  have rb : -72000000000 ≤ s.1 (45 + b) - owX s.1 b c ∧ s.1 (45 + b) - owX s.1 b c ≤ 9999999 := by omega
  generalize s.1 (45 + b) - owX s.1 b c = r at rb hp ⊢
  generalize bwX s.1 b c = w at b1 hp ⊢
  by_cases z : r < 0
  · rw [if_pos z] at hp
    omega
  · rw [if_neg z] at hp
    by_cases y : w ≤ 0
    · refine V_lld4 a_X10_breakingPrice_42 ?_
      refine V_lconst0 a_X10_breakingPrice_44 ?_
      refine V_lc_ge_t a_X10_breakingPrice_45 a_X10_breakingPrice_46 (by omega) (by omega) ?_
      refine V_ildn3 a_X10_breakingPrice_51 ?_
      refine V_if_le_t a_X10_breakingPrice_52 (by omega) (by omega) ?_
      exact V_throwN rfl a_X10_breakingPrice_67 a_X10_breakingPrice_70 a_X10_breakingPrice_71 a_X10_breakingPrice_74 a_X10_breakingPrice_77 kl_X10_354 sr_X10_364 nx_a nx_g (by omega) (by exact Nat.le_of_ble_eq_true rfl) (⟨rfl, rfl⟩)
    · have d0 : 0 ≤ r.tdiv w ∧ r.tdiv w ≤ r := by
        rw [Int.tdiv_eq_ediv_of_nonneg (by omega)]
        exact ⟨Int.ediv_nonneg (by omega) (by omega), Int.ediv_le_self _ (by omega)⟩
      have x : 9999 ≤ r.tdiv w := by
        apply Classical.byContradiction
        intro x
        rw [if_neg (by omega)] at hp
        omega
      refine V_lld4 a_X10_breakingPrice_42 ?_
      refine V_lconst0 a_X10_breakingPrice_44 ?_
      refine V_lc_ge_t a_X10_breakingPrice_45 a_X10_breakingPrice_46 (by omega) (by omega) ?_
      refine V_ildn3 a_X10_breakingPrice_51 ?_
      refine V_if_le_f a_X10_breakingPrice_52 (by omega) (by omega) ?_
      refine V_lld4 a_X10_breakingPrice_55 ?_
      refine V_ildn3 a_X10_breakingPrice_57 ?_
      refine V_i2l a_X10_breakingPrice_58 (by omega) ?_
      refine V_ldiv a_X10_breakingPrice_59 (by omega) ?_
      refine V_ldc2 a_X10_breakingPrice_60 q_X10_362 ?_
      refine V_lc_lt_f a_X10_breakingPrice_63 a_X10_breakingPrice_64 (by omega) (by omega) ?_
      exact V_throwN rfl a_X10_breakingPrice_67 a_X10_breakingPrice_70 a_X10_breakingPrice_71 a_X10_breakingPrice_74 a_X10_breakingPrice_77 kl_X10_354 sr_X10_364 nx_a nx_g (by omega) (by exact Nat.le_of_ble_eq_true rfl) (⟨rfl, rfl⟩)
theorem X_richestLender1 (h : CIv D σ s) (h1 : s.1 1 = 0) : Tr m_X10_richestLender 10 1 6 [vR (some (10, 0))] σ xNSE σ := by
  have hc := h.1
  have hW := hc.2.1
  have n1 := hc.2.2.1.1.2.1
  rw [h1] at n1
  show V _ 10 1 6 0 [some (vR (some (10, 0))), none, none] [] σ _
  refine V_aldn0 a_X10_richestLender_0 ?_
  refine V_fin a_X10_richestLender_1 f_X10_61 rfl hW ?_
  refine V_fin a_X10_richestLender_4 f_X10_196 rfl hW ?_
  refine V_iconst a_X10_richestLender_7 ?_
  refine V_ialdE a_X10_richestLender_8 rfl (by omega) n1 ?_
  refine V_if_ne_f a_X10_richestLender_9 (by omega) (by omega) ?_
  exact V_throwN rfl a_X10_richestLender_12 a_X10_richestLender_15 a_X10_richestLender_16 a_X10_richestLender_19 a_X10_richestLender_22 kl_X10_354 sr_X10_380 nx_a nx_g (by omega) (by exact Nat.le_of_ble_eq_true rfl) (⟨rfl, rfl⟩)
end Q9

