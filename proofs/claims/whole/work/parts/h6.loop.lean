theorem law_end {σ : Hp} {i : Int} {b bs : Nat} (hi : 0 ≤ i ∧ i ≤ σ.sl) (hs : σ.sl ≤ 3072) (hx : (σ.sl : Int) - 6 < i) : V m_L_law 17 b bs 28 [some (vR (some (96, 0))), some (vR (some (10, 0))), some (vR (some (11, 0))), some (vR (some (70, 0))), some (vR (some (71, 0))), some (vI i), none, none, none] [] σ (fun r _ => r = .inl (some (vI 1))) := by
  refine V_ild5 a_L_law_28 ?_
  refine V_aldn0 a_L_law_30 ?_
  refine V_slen a_L_law_31 ?_
  refine V_bipush a_L_law_32 (by decide) ?_
  refine V_isub a_L_law_34 ?_
  refine V_icmp_gt_t a_L_law_35 (by omega) (by omega) ?_
  refine V_iconst a_L_law_3591 ?_
  exact V_zret a_L_law_3592 (by omega) (rfl)
theorem law_tab {σ : Hp} {i x D : Int} {s : Lsv} {b bs : Nat} {Q : Res → Hp → Prop} (hC : CIv D σ s) (hM : MIv D σ s) (hi : 0 ≤ i ∧ i + 5 < (σ.sl : Int)) (hs : σ.sl ≤ 3072) (hr : ∀ k, iR (σ.I 96 0 k)) (hD : D + 41000 ≤ 20000000) (kk : Kq D σ s i b bs Q) (hx : 0 ≤ x ∧ x < 64) : V m_L_law 17 (b + 61) (bs + 419) 45 [some (vR (some (96, 0))), some (vR (some (10, 0))), some (vR (some (11, 0))), some (vR (some (70, 0))), some (vR (some (71, 0))), some (vI i), none, none, none] [vI x] σ Q := by
  have r1 := hr (i + 1)
  have r2 := hr (i + 2)
  have r3 := hr (i + 3)
  have r4 := hr (i + 4)
  have r5 := hr (i + 5)
  have c : x = 0 ∨ x = 1 ∨ x = 2 ∨ x = 3 ∨ x = 4 ∨ x = 5 ∨ x = 6 ∨ x = 7 ∨ x = 8 ∨ x = 9 ∨ x = 10 ∨ x = 11 ∨ x = 12 ∨ x = 13 ∨ x = 14 ∨ x = 15 ∨ x = 16 ∨ x = 17 ∨ x = 18 ∨ x = 19 ∨ x = 20 ∨ x = 21 ∨ x = 22 ∨ x = 23 ∨ x = 24 ∨ x = 25 ∨ x = 26 ∨ x = 27 ∨ x = 28 ∨ x = 29 ∨ x = 30 ∨ x = 31 ∨ x = 32 ∨ x = 33 ∨ x = 34 ∨ x = 35 ∨ x = 36 ∨ x = 37 ∨ x = 38 ∨ x = 39 ∨ x = 40 ∨ x = 41 ∨ x = 42 ∨ x = 43 ∨ x = 44 ∨ x = 45 ∨ x = 46 ∨ x = 47 ∨ x = 48 ∨ x = 49 ∨ x = 50 ∨ x = 51 ∨ x = 52 ∨ x = 53 ∨ 54 ≤ x := by omega
  rcases c with rfl | rfl | rfl | rfl | rfl | rfl | rfl | rfl | rfl | rfl | rfl | rfl | rfl | rfl | rfl | rfl | rfl | rfl | rfl | rfl | rfl | rfl | rfl | rfl | rfl | rfl | rfl | rfl | rfl | rfl | rfl | rfl | rfl | rfl | rfl | rfl | rfl | rfl | rfl | rfl | rfl | rfl | rfl | rfl | rfl | rfl | rfl | rfl | rfl | rfl | rfl | rfl | rfl | rfl | c
  · exact V_table_in a_L_law_45 (off := 231) rfl (by decide) (by decide) (by decide) (LC_appendText hi hs hM (S_appendText hC r1 r2 r3 r4 r5) kk)
  · exact V_table_in a_L_law_45 (off := 335) rfl (by decide) (by decide) (by decide) (LC_truncateText hi hs hM (S_truncateText hC r1) kk)
  · exact V_table_in a_L_law_45 (off := 391) rfl (by decide) (by decide) (by decide) (LC_parsePool hi hs hM (S_parsePool hC) kk)
  · exact V_table_in a_L_law_45 (off := 404) rfl (by decide) (by decide) (by decide) (LC_errorCode hi hs hM (S_errorCode hC) kk)
  · exact V_table_in a_L_law_45 (off := 417) rfl (by decide) (by decide) (by decide) (LC_errorPosition hi hs hM (S_errorPosition hC) kk)
  · exact V_table_in a_L_law_45 (off := 430) rfl (by decide) (by decide) (by decide) (LC_borrow hi hs hM (S_borrow hC r1 r2 r3 r4 (by omega)) kk)
  · exact V_table_in a_L_law_45 (off := 522) rfl (by decide) (by decide) (by decide) (LC_returnShares hi hs hM (S_returnShares hC r1 r2) kk)
  · exact V_table_in a_L_law_45 (off := 590) rfl (by decide) (by decide) (by decide) (LC_recall hi hs hM (S_recall hC r1 r2 r3) kk)
  · exact V_table_in a_L_law_45 (off := 670) rfl (by decide) (by decide) (by decide) (LC_passDays hi hs hM (S_passDays hC r1 (by omega)) kk)
  · exact V_table_in a_L_law_45 (off := 726) rfl (by decide) (by decide) (by decide) (LC_payDividend hi hs hM (S_payDividend hC r1 r2) kk)
  · exact V_table_in a_L_law_45 (off := 793) rfl (by decide) (by decide) (by decide) (LC_buyShares hi hs hM (S_buyShares hC r1 r2 r3) kk)
  · exact V_table_in a_L_law_45 (off := 873) rfl (by decide) (by decide) (by decide) (LC_sellShares hi hs hM (S_sellShares hC r1 r2 r3) kk)
  · exact V_table_in a_L_law_45 (off := 953) rfl (by decide) (by decide) (by decide) (LC_setPrice hi hs hM (S_setPrice hC r1 r2) kk)
  · exact V_table_in a_L_law_45 (off := 1021) rfl (by decide) (by decide) (by decide) (LC_setRate hi hs hM (S_setRate hC r1 r2) kk)
  · exact V_table_in a_L_law_45 (off := 1089) rfl (by decide) (by decide) (by decide) (LC_setLimit hi hs hM (S_setLimit hC r1 r2) kk)
  · exact V_table_in a_L_law_45 (off := 1157) rfl (by decide) (by decide) (by decide) (LC_setPolicy hi hs hM (S_setPolicy hC r1) kk)
  · exact V_table_in a_L_law_45 (off := 1213) rfl (by decide) (by decide) (by decide) (LC_runOrders hi hs hM (S_runOrders hC (by omega)) kk)
  · exact V_table_in a_L_law_45 (off := 1226) rfl (by decide) (by decide) (by decide) (LC_count hi hs hM (S_count hC r1) kk)
  · exact V_table_in a_L_law_45 (off := 1282) rfl (by decide) (by decide) (by decide) (LC_security hi hs hM (S_security hC r1 r2) kk)
  · exact V_table_in a_L_law_45 (off := 1350) rfl (by decide) (by decide) (by decide) (LC_lender hi hs hM (S_lender hC r1 r2) kk)
  · exact V_table_in a_L_law_45 (off := 1418) rfl (by decide) (by decide) (by decide) (LC_credit hi hs hM (S_credit hC r1) kk)
  · exact V_table_in a_L_law_45 (off := 1474) rfl (by decide) (by decide) (by decide) (LC_holding hi hs hM (S_holding hC r1 r2) kk)
  · exact V_table_in a_L_law_45 (off := 1542) rfl (by decide) (by decide) (by decide) (LC_onLoan hi hs hM (S_onLoan hC r1 r2) kk)
  · exact V_table_in a_L_law_45 (off := 1610) rfl (by decide) (by decide) (by decide) (LC_available hi hs hM (S_available hC r1 r2) kk)
  · exact V_table_in a_L_law_45 (off := 1678) rfl (by decide) (by decide) (by decide) (LC_pooled hi hs hM (S_pooled hC r1) kk)
  · exact V_table_in a_L_law_45 (off := 1734) rfl (by decide) (by decide) (by decide) (LC_utilization hi hs hM (S_utilization hC r1) kk)
  · exact V_table_in a_L_law_45 (off := 1811) rfl (by decide) (by decide) (by decide) (LC_exposure hi hs hM (S_exposure hC r1) kk)
  · exact V_table_in a_L_law_45 (off := 1866) rfl (by decide) (by decide) (by decide) (LC_account hi hs hM (S_account hC r1 r2) kk)
  · exact V_table_in a_L_law_45 (off := 1933) rfl (by decide) (by decide) (by decide) (LC_openLoan hi hs hM (S_openLoan hC r1) kk)
  · exact V_table_in a_L_law_45 (off := 1989) rfl (by decide) (by decide) (by decide) (LC_loan hi hs hM (S_loan hC r1 r2) kk)
  · exact V_table_in a_L_law_45 (off := 2057) rfl (by decide) (by decide) (by decide) (LC_slice hi hs hM (S_slice hC r1 r2 r3) kk)
  · exact V_table_in a_L_law_45 (off := 2137) rfl (by decide) (by decide) (by decide) (LC_dailyFee hi hs hM (S_dailyFee hC r1) kk)
  · exact V_table_in a_L_law_45 (off := 2192) rfl (by decide) (by decide) (by decide) (LC_recallable hi hs hM (S_recallable hC r1 r2) kk)
  · exact V_table_in a_L_law_45 (off := 2260) rfl (by decide) (by decide) (by decide) (LC_recallOrder hi hs hM (S_recallOrder hC r1 r2 r3) kk)
  · exact V_table_in a_L_law_45 (off := 2340) rfl (by decide) (by decide) (by decide) (LC_returnOrder hi hs hM (S_returnOrder hC r1 r2) kk)
  · exact V_table_in a_L_law_45 (off := 2408) rfl (by decide) (by decide) (by decide) (LC_quote hi hs hM (S_quote hC r1 r2 r3) kk)
  · exact V_table_in a_L_law_45 (off := 2488) rfl (by decide) (by decide) (by decide) (LC_borrowable hi hs hM (S_borrowable hC r1 r2) kk)
  · exact V_table_in a_L_law_45 (off := 2556) rfl (by decide) (by decide) (by decide) (LC_wouldReplace hi hs hM (S_wouldReplace hC r1 r2 r3) kk)
  · exact V_table_in a_L_law_45 (off := 2636) rfl (by decide) (by decide) (by decide) (LC_fewestLoans hi hs hM (S_fewestLoans hC r1 r2 r3) kk)
  · exact V_table_in a_L_law_45 (off := 2716) rfl (by decide) (by decide) (by decide) (LC_tightestSum hi hs hM (S_tightestSum hC r1 r2 r3) kk)
  · exact V_table_in a_L_law_45 (off := 2796) rfl (by decide) (by decide) (by decide) (LC_tightestLoans hi hs hM (S_tightestLoans hC r1 r2 r3) kk)
  · exact V_table_in a_L_law_45 (off := 2876) rfl (by decide) (by decide) (by decide) (LC_accountAfter hi hs hM (S_accountAfter hC r1 r2 r3 (by omega)) kk)
  · exact V_table_in a_L_law_45 (off := 2955) rfl (by decide) (by decide) (by decide) (LC_boughtInAfter hi hs hM (S_boughtInAfter hC r1 (by omega)) kk)
  · exact V_table_in a_L_law_45 (off := 3011) rfl (by decide) (by decide) (by decide) (LC_firstBuyIn hi hs hM (S_firstBuyIn hC) kk)
  · exact V_table_in a_L_law_45 (off := 3055) rfl (by decide) (by decide) (by decide) (LC_breakingPrice hi hs hM (S_breakingPrice hC r1 r2) kk)
  · exact V_table_in a_L_law_45 (off := 3123) rfl (by decide) (by decide) (by decide) (LC_bestPolicy hi hs hM (S_bestPolicy hC r1 r2) kk)
  · exact V_table_in a_L_law_45 (off := 3191) rfl (by decide) (by decide) (by decide) (LC_rankedLender hi hs hM (S_rankedLender hC r1 r2) kk)
  · exact V_table_in a_L_law_45 (off := 3259) rfl (by decide) (by decide) (by decide) (LC_richestLender hi hs hM (S_richestLender hC) kk)
  · exact V_table_in a_L_law_45 (off := 3303) rfl (by decide) (by decide) (by decide) (LC_lastServed hi hs hM (S_lastServed hC r1) kk)
  · exact V_table_in a_L_law_45 (off := 3359) rfl (by decide) (by decide) (by decide) (LC_total hi hs hM (S_total hC r1) kk)
  · exact V_table_in a_L_law_45 (off := 3414) rfl (by decide) (by decide) (by decide) (LC_writeReport hi hs hM (S_writeReport hC) kk)
  · exact V_table_in a_L_law_45 (off := 3427) rfl (by decide) (by decide) (by decide) (LC_reportByte hi hs hM (S_reportByte hC r1) kk)
  · exact V_table_in a_L_law_45 (off := 3483) rfl (by decide) (by decide) (by decide) (LC_undo hi hs hM (S_undo hC) kk)
  · exact V_table_in a_L_law_45 (off := 3527) rfl (by decide) (by decide) (by decide) (LC_undoDepth hi hs hM (S_undoDepth hC) kk)
  · exact V_table_out a_L_law_45 (tgt := 3585) (by decide) (by omega) (Or.inr (by omega)) (V_low (kk σ D s hC hM (by omega) rfl rfl) (by omega) (by omega))
theorem law_loop : ∀ (n : Nat) (σ : Hp) (D i : Int) (s : Lsv), CIv D σ s → MIv D σ s → (0 ≤ i ∧ i ≤ σ.sl ∧ (σ.sl : Int) - i < 6 * n + 6) → σ.sl ≤ 3072 → (∀ k, iR (σ.I 96 0 k)) → D + 67 * s.2.2.1 + 1400 * n ≤ 1000000 → V m_L_law 17 (61 * n) (419 * n) 28 [some (vR (some (96, 0))), some (vR (some (10, 0))), some (vR (some (11, 0))), some (vR (some (70, 0))), some (vR (some (71, 0))), some (vI i), none, none, none] [] σ (fun r _ => r = .inl (some (vI 1))) := by
  intro n
  induction n with
  | zero =>
    intro σ D i s hC hM hi hs hr hD
    exact law_end ⟨hi.1, hi.2.1⟩ hs (by omega)
  | succ n ih =>
    intro σ D i s hC hM hi hs hr hD
    by_cases hx : (σ.sl : Int) - 6 < i
    · exact law_end ⟨hi.1, hi.2.1⟩ hs hx
    · have hl := hC.len
      have kk : Kq D σ s i (61 * n) (419 * n) (fun r _ => r = .inl (some (vI 1))) := fun τ D' s' c m p e1 e2 => by
        refine V_inc5 a_L_law_3585 ?_
        refine V_goto a_L_law_3588 ?_
        exact ih τ D' (i + 6) s' c m (by rw [e1]; omega) (by rw [e1]; exact hs) (fun k => by rw [e2]; exact hr k) (by omega)
      show V m_L_law 17 (61 * n + 61) (419 * n + 419) 28 [some (vR (some (96, 0))), some (vR (some (10, 0))), some (vR (some (11, 0))), some (vR (some (70, 0))), some (vR (some (71, 0))), some (vI i), none, none, none] [] σ _
      refine V_ild5 a_L_law_28 ?_
      refine V_aldn0 a_L_law_30 ?_
      refine V_slen a_L_law_31 ?_
      refine V_bipush a_L_law_32 (by decide) ?_
      refine V_isub a_L_law_34 ?_
      refine V_icmp_gt_f a_L_law_35 (by omega) (by omega) ?_
      refine V_aldn0 a_L_law_38 ?_
      refine V_ild5 a_L_law_39 ?_
      refine V_sld a_L_law_41 (by omega) (by omega) ?_
      refine V_bipush a_L_law_42 (by decide) ?_
      first | refine V_iand255 a_L_law_44 ?_ | refine V_iand63 a_L_law_44 ?_ | refine V_iand1 a_L_law_44 ?_
      exact law_tab hC hM ⟨hi.1, by omega⟩ hs hr (by omega) kk (by omega)

