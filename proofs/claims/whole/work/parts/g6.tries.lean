section Ww
variable {σ : Hp}
theorem W_openLoan {p1 : Int} {κ D' : Int} {v : Int} {s' : Lsv} (h : Cq m_X10_openLoan [vI p1] σ [xIOB] κ (vI v) D' s') : Cv m_L_openLoan 16 61 419 [vR (some (10, 0)), vI p1, vR (some (70, 0))] σ (some (vI κ)) (Wq σ κ (v.bmod (2 ^ 32)) D' s') := by
  show V _ 16 61 419 0 [some (vR (some (10, 0))), some (vI p1), some (vR (some (70, 0))), none] [] σ _
  refine V_aldn2 a_L_openLoan_0 ?_
  refine V_iconst a_L_openLoan_1 ?_
  refine V_aldn0 a_L_openLoan_2 ?_
  refine V_ildn1 a_L_openLoan_3 ?_
  skip
  refine V_try (b := 0) (bs := 0) (as := [vI p1]) (rest := [vI 0, vR (some (70, 0))]) a_L_openLoan_4 c_L_97 h rfl (by decide) rfl (by exact Nat.le_of_ble_eq_true rfl) (by exact Nat.le_of_ble_eq_true rfl) rfl (fun e0 τ hc => ?_) (fun j E hj => ?_)
  · subst e0
    refine V_i2lM a_L_openLoan_7 ?_
    refine V_last a_L_openLoan_8 rfl (by omega) ?_
    refine V_goto a_L_openLoan_9 ?_
    refine V_iconst a_L_openLoan_15 ?_
    exact V_iret a_L_openLoan_16 (⟨rfl, wq0 hc⟩)
  · match j, hj with
    | 0, hj =>
      cases hj
      refine ⟨by decide +kernel, 12, by decide +kernel, fun hk τ q hc => ?_⟩
      have hk : κ = 1 := hk.trans (by decide)
      subst hk
      refine V_astn3 a_L_openLoan_12 ?_
      refine V_iconst a_L_openLoan_13 ?_
      exact V_iret a_L_openLoan_14 (⟨rfl, wq1 hc (by decide)⟩)
    | j + 1, hj => cases hj
theorem W_loan {p1 p2 : Int} {κ D' : Int} {v : Int} {s' : Lsv} (h : Cq m_X10_loan [vI p1, vI p2] σ [xIOB, xIAE] κ (vI v) D' s') : Cv m_L_loan 16 61 419 [vR (some (10, 0)), vI p1, vI p2, vR (some (70, 0))] σ (some (vI κ)) (Wq σ κ (v.bmod (2 ^ 32)) D' s') := by
  show V _ 16 61 419 0 [some (vR (some (10, 0))), some (vI p1), some (vI p2), some (vR (some (70, 0))), none] [] σ _
  refine V_aldn3 a_L_loan_0 ?_
  refine V_iconst a_L_loan_1 ?_
  refine V_aldn0 a_L_loan_2 ?_
  refine V_ildn1 a_L_loan_3 ?_
  refine V_ildn2 a_L_loan_4 ?_
  skip
  refine V_try (b := 0) (bs := 0) (as := [vI p1, vI p2]) (rest := [vI 0, vR (some (70, 0))]) a_L_loan_5 c_L_100 h rfl (by decide) rfl (by exact Nat.le_of_ble_eq_true rfl) (by exact Nat.le_of_ble_eq_true rfl) rfl (fun e0 τ hc => ?_) (fun j E hj => ?_)
  · subst e0
    refine V_i2lM a_L_loan_8 ?_
    refine V_last a_L_loan_9 rfl (by omega) ?_
    refine V_goto a_L_loan_10 ?_
    refine V_iconst a_L_loan_21 ?_
    exact V_iret a_L_loan_22 (⟨rfl, wq0 hc⟩)
  · match j, hj with
    | 0, hj =>
      cases hj
      refine ⟨by decide +kernel, 13, by decide +kernel, fun hk τ q hc => ?_⟩
      have hk : κ = 1 := hk.trans (by decide)
      subst hk
      refine V_ast4 a_L_loan_13 ?_
      refine V_iconst a_L_loan_15 ?_
      exact V_iret a_L_loan_16 (⟨rfl, wq1 hc (by decide)⟩)
    | 1, hj =>
      cases hj
      refine ⟨by decide +kernel, 17, by decide +kernel, fun hk τ q hc => ?_⟩
      have hk : κ = 2 := hk.trans (by decide)
      subst hk
      refine V_ast4 a_L_loan_17 ?_
      refine V_iconst a_L_loan_19 ?_
      exact V_iret a_L_loan_20 (⟨rfl, wq1 hc (by decide)⟩)
    | j + 2, hj => cases hj
theorem W_slice {p1 p2 p3 : Int} {κ D' : Int} {v : Int} {s' : Lsv} (h : Cq m_X10_slice [vI p1, vI p2, vI p3] σ [xIOB, xIAE] κ (vI v) D' s') : Cv m_L_slice 16 61 419 [vR (some (10, 0)), vI p1, vI p2, vI p3, vR (some (70, 0))] σ (some (vI κ)) (Wq σ κ (v.bmod (2 ^ 32)) D' s') := by
  show V _ 16 61 419 0 [some (vR (some (10, 0))), some (vI p1), some (vI p2), some (vI p3), some (vR (some (70, 0))), none] [] σ _
  refine V_ald4 a_L_slice_0 ?_
  refine V_iconst a_L_slice_2 ?_
  refine V_aldn0 a_L_slice_3 ?_
  refine V_ildn1 a_L_slice_4 ?_
  refine V_ildn2 a_L_slice_5 ?_
  refine V_ildn3 a_L_slice_6 ?_
  skip
  refine V_try (b := 0) (bs := 0) (as := [vI p1, vI p2, vI p3]) (rest := [vI 0, vR (some (70, 0))]) a_L_slice_7 c_L_103 h rfl (by decide) rfl (by exact Nat.le_of_ble_eq_true rfl) (by exact Nat.le_of_ble_eq_true rfl) rfl (fun e0 τ hc => ?_) (fun j E hj => ?_)
  · subst e0
    refine V_i2lM a_L_slice_10 ?_
    refine V_last a_L_slice_11 rfl (by omega) ?_
    refine V_goto a_L_slice_12 ?_
    refine V_iconst a_L_slice_23 ?_
    exact V_iret a_L_slice_24 (⟨rfl, wq0 hc⟩)
  · match j, hj with
    | 0, hj =>
      cases hj
      refine ⟨by decide +kernel, 15, by decide +kernel, fun hk τ q hc => ?_⟩
      have hk : κ = 1 := hk.trans (by decide)
      subst hk
      refine V_ast5 a_L_slice_15 ?_
      refine V_iconst a_L_slice_17 ?_
      exact V_iret a_L_slice_18 (⟨rfl, wq1 hc (by decide)⟩)
    | 1, hj =>
      cases hj
      refine ⟨by decide +kernel, 19, by decide +kernel, fun hk τ q hc => ?_⟩
      have hk : κ = 2 := hk.trans (by decide)
      subst hk
      refine V_ast5 a_L_slice_19 ?_
      refine V_iconst a_L_slice_21 ?_
      exact V_iret a_L_slice_22 (⟨rfl, wq1 hc (by decide)⟩)
    | j + 2, hj => cases hj
theorem W_dailyFee {p1 : Int} {κ D' : Int} {v : Int} {s' : Lsv} (h : Cq m_X10_dailyFee [vI p1] σ [xIOB] κ (vL v) D' s') : Cv m_L_dailyFee 16 61 419 [vR (some (10, 0)), vI p1, vR (some (70, 0))] σ (some (vI κ)) (Wq σ κ v D' s') := by
  show V _ 16 61 419 0 [some (vR (some (10, 0))), some (vI p1), some (vR (some (70, 0))), none] [] σ _
  refine V_aldn2 a_L_dailyFee_0 ?_
  refine V_iconst a_L_dailyFee_1 ?_
  refine V_aldn0 a_L_dailyFee_2 ?_
  refine V_ildn1 a_L_dailyFee_3 ?_
  skip
  refine V_try (b := 0) (bs := 0) (as := [vI p1]) (rest := [vI 0, vR (some (70, 0))]) a_L_dailyFee_4 c_L_106 h rfl (by decide) rfl (by exact Nat.le_of_ble_eq_true rfl) (by exact Nat.le_of_ble_eq_true rfl) rfl (fun e0 τ hc => ?_) (fun j E hj => ?_)
  · subst e0
    refine V_last a_L_dailyFee_7 rfl (by omega) ?_
    refine V_goto a_L_dailyFee_8 ?_
    refine V_iconst a_L_dailyFee_14 ?_
    exact V_iret a_L_dailyFee_15 (⟨rfl, wq0 hc⟩)
  · match j, hj with
    | 0, hj =>
      cases hj
      refine ⟨by decide +kernel, 11, by decide +kernel, fun hk τ q hc => ?_⟩
      have hk : κ = 1 := hk.trans (by decide)
      subst hk
      refine V_astn3 a_L_dailyFee_11 ?_
      refine V_iconst a_L_dailyFee_12 ?_
      exact V_iret a_L_dailyFee_13 (⟨rfl, wq1 hc (by decide)⟩)
    | j + 1, hj => cases hj
theorem W_recallable {p1 p2 : Int} {κ D' : Int} {v : Int} {s' : Lsv} (h : Cq m_X10_recallable [vI p1, vI p2] σ [xIOB] κ (vI v) D' s') : Cv m_L_recallable 16 61 419 [vR (some (10, 0)), vI p1, vI p2, vR (some (70, 0))] σ (some (vI κ)) (Wq σ κ (v.bmod (2 ^ 32)) D' s') := by
  show V _ 16 61 419 0 [some (vR (some (10, 0))), some (vI p1), some (vI p2), some (vR (some (70, 0))), none] [] σ _
  refine V_aldn3 a_L_recallable_0 ?_
  refine V_iconst a_L_recallable_1 ?_
  refine V_aldn0 a_L_recallable_2 ?_
  refine V_ildn1 a_L_recallable_3 ?_
  refine V_ildn2 a_L_recallable_4 ?_
  skip
  refine V_try (b := 0) (bs := 0) (as := [vI p1, vI p2]) (rest := [vI 0, vR (some (70, 0))]) a_L_recallable_5 c_L_109 h rfl (by decide) rfl (by exact Nat.le_of_ble_eq_true rfl) (by exact Nat.le_of_ble_eq_true rfl) rfl (fun e0 τ hc => ?_) (fun j E hj => ?_)
  · subst e0
    refine V_i2lM a_L_recallable_8 ?_
    refine V_last a_L_recallable_9 rfl (by omega) ?_
    refine V_goto a_L_recallable_10 ?_
    refine V_iconst a_L_recallable_17 ?_
    exact V_iret a_L_recallable_18 (⟨rfl, wq0 hc⟩)
  · match j, hj with
    | 0, hj =>
      cases hj
      refine ⟨by decide +kernel, 13, by decide +kernel, fun hk τ q hc => ?_⟩
      have hk : κ = 1 := hk.trans (by decide)
      subst hk
      refine V_ast4 a_L_recallable_13 ?_
      refine V_iconst a_L_recallable_15 ?_
      exact V_iret a_L_recallable_16 (⟨rfl, wq1 hc (by decide)⟩)
    | j + 1, hj => cases hj
theorem W_recallOrder {p1 p2 p3 : Int} {κ D' : Int} {v : Int} {s' : Lsv} (h : Cq m_X10_recallOrder [vI p1, vI p2, vI p3] σ [xIOB] κ (vI v) D' s') : Cv m_L_recallOrder 16 61 419 [vR (some (10, 0)), vI p1, vI p2, vI p3, vR (some (70, 0))] σ (some (vI κ)) (Wq σ κ (v.bmod (2 ^ 32)) D' s') := by
  show V _ 16 61 419 0 [some (vR (some (10, 0))), some (vI p1), some (vI p2), some (vI p3), some (vR (some (70, 0))), none] [] σ _
  refine V_ald4 a_L_recallOrder_0 ?_
  refine V_iconst a_L_recallOrder_2 ?_
  refine V_aldn0 a_L_recallOrder_3 ?_
  refine V_ildn1 a_L_recallOrder_4 ?_
  refine V_ildn2 a_L_recallOrder_5 ?_
  refine V_ildn3 a_L_recallOrder_6 ?_
  skip
  refine V_try (b := 0) (bs := 0) (as := [vI p1, vI p2, vI p3]) (rest := [vI 0, vR (some (70, 0))]) a_L_recallOrder_7 c_L_112 h rfl (by decide) rfl (by exact Nat.le_of_ble_eq_true rfl) (by exact Nat.le_of_ble_eq_true rfl) rfl (fun e0 τ hc => ?_) (fun j E hj => ?_)
  · subst e0
    refine V_i2lM a_L_recallOrder_10 ?_
    refine V_last a_L_recallOrder_11 rfl (by omega) ?_
    refine V_goto a_L_recallOrder_12 ?_
    refine V_iconst a_L_recallOrder_19 ?_
    exact V_iret a_L_recallOrder_20 (⟨rfl, wq0 hc⟩)
  · match j, hj with
    | 0, hj =>
      cases hj
      refine ⟨by decide +kernel, 15, by decide +kernel, fun hk τ q hc => ?_⟩
      have hk : κ = 1 := hk.trans (by decide)
      subst hk
      refine V_ast5 a_L_recallOrder_15 ?_
      refine V_iconst a_L_recallOrder_17 ?_
      exact V_iret a_L_recallOrder_18 (⟨rfl, wq1 hc (by decide)⟩)
    | j + 1, hj => cases hj
theorem W_returnOrder {p1 p2 : Int} {κ D' : Int} {v : Int} {s' : Lsv} (h : Cq m_X10_returnOrder [vI p1, vI p2] σ [xIOB] κ (vI v) D' s') : Cv m_L_returnOrder 16 61 419 [vR (some (10, 0)), vI p1, vI p2, vR (some (70, 0))] σ (some (vI κ)) (Wq σ κ (v.bmod (2 ^ 32)) D' s') := by
  show V _ 16 61 419 0 [some (vR (some (10, 0))), some (vI p1), some (vI p2), some (vR (some (70, 0))), none] [] σ _
  refine V_aldn3 a_L_returnOrder_0 ?_
  refine V_iconst a_L_returnOrder_1 ?_
  refine V_aldn0 a_L_returnOrder_2 ?_
  refine V_ildn1 a_L_returnOrder_3 ?_
  refine V_ildn2 a_L_returnOrder_4 ?_
  skip
  refine V_try (b := 0) (bs := 0) (as := [vI p1, vI p2]) (rest := [vI 0, vR (some (70, 0))]) a_L_returnOrder_5 c_L_115 h rfl (by decide) rfl (by exact Nat.le_of_ble_eq_true rfl) (by exact Nat.le_of_ble_eq_true rfl) rfl (fun e0 τ hc => ?_) (fun j E hj => ?_)
  · subst e0
    refine V_i2lM a_L_returnOrder_8 ?_
    refine V_last a_L_returnOrder_9 rfl (by omega) ?_
    refine V_goto a_L_returnOrder_10 ?_
    refine V_iconst a_L_returnOrder_17 ?_
    exact V_iret a_L_returnOrder_18 (⟨rfl, wq0 hc⟩)
  · match j, hj with
    | 0, hj =>
      cases hj
      refine ⟨by decide +kernel, 13, by decide +kernel, fun hk τ q hc => ?_⟩
      have hk : κ = 1 := hk.trans (by decide)
      subst hk
      refine V_ast4 a_L_returnOrder_13 ?_
      refine V_iconst a_L_returnOrder_15 ?_
      exact V_iret a_L_returnOrder_16 (⟨rfl, wq1 hc (by decide)⟩)
    | j + 1, hj => cases hj
theorem W_quote {p1 p2 p3 : Int} {κ D' : Int} {v : Int} {s' : Lsv} (h : Cq m_X10_quote [vI p1, vI p2, vI p3] σ [xIOB, xIAE, xISE] κ (vI v) D' s') : Cv m_L_quote 16 61 419 [vR (some (10, 0)), vI p1, vI p2, vI p3, vR (some (70, 0))] σ (some (vI κ)) (Wq σ κ (v.bmod (2 ^ 32)) D' s') := by
  show V _ 16 61 419 0 [some (vR (some (10, 0))), some (vI p1), some (vI p2), some (vI p3), some (vR (some (70, 0))), none] [] σ _
  refine V_ald4 a_L_quote_0 ?_
  refine V_iconst a_L_quote_2 ?_
  refine V_aldn0 a_L_quote_3 ?_
  refine V_ildn1 a_L_quote_4 ?_
  refine V_ildn2 a_L_quote_5 ?_
  refine V_ildn3 a_L_quote_6 ?_
  skip
  refine V_try (b := 0) (bs := 0) (as := [vI p1, vI p2, vI p3]) (rest := [vI 0, vR (some (70, 0))]) a_L_quote_7 c_L_118 h rfl (by decide) rfl (by exact Nat.le_of_ble_eq_true rfl) (by exact Nat.le_of_ble_eq_true rfl) rfl (fun e0 τ hc => ?_) (fun j E hj => ?_)
  · subst e0
    refine V_i2lM a_L_quote_10 ?_
    refine V_last a_L_quote_11 rfl (by omega) ?_
    refine V_goto a_L_quote_12 ?_
    refine V_iconst a_L_quote_27 ?_
    exact V_iret a_L_quote_28 (⟨rfl, wq0 hc⟩)
  · match j, hj with
    | 0, hj =>
      cases hj
      refine ⟨by decide +kernel, 15, by decide +kernel, fun hk τ q hc => ?_⟩
      have hk : κ = 1 := hk.trans (by decide)
      subst hk
      refine V_ast5 a_L_quote_15 ?_
      refine V_iconst a_L_quote_17 ?_
      exact V_iret a_L_quote_18 (⟨rfl, wq1 hc (by decide)⟩)
    | 1, hj =>
      cases hj
      refine ⟨by decide +kernel, 19, by decide +kernel, fun hk τ q hc => ?_⟩
      have hk : κ = 2 := hk.trans (by decide)
      subst hk
      refine V_ast5 a_L_quote_19 ?_
      refine V_iconst a_L_quote_21 ?_
      exact V_iret a_L_quote_22 (⟨rfl, wq1 hc (by decide)⟩)
    | 2, hj =>
      cases hj
      refine ⟨by decide +kernel, 23, by decide +kernel, fun hk τ q hc => ?_⟩
      have hk : κ = 3 := hk.trans (by decide)
      subst hk
      refine V_ast5 a_L_quote_23 ?_
      refine V_iconst a_L_quote_25 ?_
      exact V_iret a_L_quote_26 (⟨rfl, wq1 hc (by decide)⟩)
    | j + 3, hj => cases hj
theorem W_borrowable {p1 p2 : Int} {κ D' : Int} {v : Int} {s' : Lsv} (h : Cq m_X10_borrowable [vI p1, vI p2] σ [xIOB] κ (vI v) D' s') : Cv m_L_borrowable 16 61 419 [vR (some (10, 0)), vI p1, vI p2, vR (some (70, 0))] σ (some (vI κ)) (Wq σ κ (v.bmod (2 ^ 32)) D' s') := by
  show V _ 16 61 419 0 [some (vR (some (10, 0))), some (vI p1), some (vI p2), some (vR (some (70, 0))), none] [] σ _
  refine V_aldn3 a_L_borrowable_0 ?_
  refine V_iconst a_L_borrowable_1 ?_
  refine V_aldn0 a_L_borrowable_2 ?_
  refine V_ildn1 a_L_borrowable_3 ?_
  refine V_ildn2 a_L_borrowable_4 ?_
  skip
  refine V_try (b := 0) (bs := 0) (as := [vI p1, vI p2]) (rest := [vI 0, vR (some (70, 0))]) a_L_borrowable_5 c_L_121 h rfl (by decide) rfl (by exact Nat.le_of_ble_eq_true rfl) (by exact Nat.le_of_ble_eq_true rfl) rfl (fun e0 τ hc => ?_) (fun j E hj => ?_)
  · subst e0
    refine V_i2lM a_L_borrowable_8 ?_
    refine V_last a_L_borrowable_9 rfl (by omega) ?_
    refine V_goto a_L_borrowable_10 ?_
    refine V_iconst a_L_borrowable_17 ?_
    exact V_iret a_L_borrowable_18 (⟨rfl, wq0 hc⟩)
  · match j, hj with
    | 0, hj =>
      cases hj
      refine ⟨by decide +kernel, 13, by decide +kernel, fun hk τ q hc => ?_⟩
      have hk : κ = 1 := hk.trans (by decide)
      subst hk
      refine V_ast4 a_L_borrowable_13 ?_
      refine V_iconst a_L_borrowable_15 ?_
      exact V_iret a_L_borrowable_16 (⟨rfl, wq1 hc (by decide)⟩)
    | j + 1, hj => cases hj
theorem W_wouldReplace {p1 p2 p3 : Int} {κ D' : Int} {v : Int} {s' : Lsv} (h : Cq m_X10_wouldReplace [vI p1, vI p2, vI p3] σ [xIOB, xIAE, xISE] κ (vI v) D' s') : Cv m_L_wouldReplace 16 61 419 [vR (some (10, 0)), vI p1, vI p2, vI p3, vR (some (70, 0))] σ (some (vI κ)) (Wq σ κ (v.bmod (2 ^ 32)) D' s') := by
  show V _ 16 61 419 0 [some (vR (some (10, 0))), some (vI p1), some (vI p2), some (vI p3), some (vR (some (70, 0))), none] [] σ _
  refine V_ald4 a_L_wouldReplace_0 ?_
  refine V_iconst a_L_wouldReplace_2 ?_
  refine V_aldn0 a_L_wouldReplace_3 ?_
  refine V_ildn1 a_L_wouldReplace_4 ?_
  refine V_ildn2 a_L_wouldReplace_5 ?_
  refine V_ildn3 a_L_wouldReplace_6 ?_
  skip
  refine V_try (b := 0) (bs := 0) (as := [vI p1, vI p2, vI p3]) (rest := [vI 0, vR (some (70, 0))]) a_L_wouldReplace_7 c_L_124 h rfl (by decide) rfl (by exact Nat.le_of_ble_eq_true rfl) (by exact Nat.le_of_ble_eq_true rfl) rfl (fun e0 τ hc => ?_) (fun j E hj => ?_)
  · subst e0
    refine V_i2lM a_L_wouldReplace_10 ?_
    refine V_last a_L_wouldReplace_11 rfl (by omega) ?_
    refine V_goto a_L_wouldReplace_12 ?_
    refine V_iconst a_L_wouldReplace_27 ?_
    exact V_iret a_L_wouldReplace_28 (⟨rfl, wq0 hc⟩)
  · match j, hj with
    | 0, hj =>
      cases hj
      refine ⟨by decide +kernel, 15, by decide +kernel, fun hk τ q hc => ?_⟩
      have hk : κ = 1 := hk.trans (by decide)
      subst hk
      refine V_ast5 a_L_wouldReplace_15 ?_
      refine V_iconst a_L_wouldReplace_17 ?_
      exact V_iret a_L_wouldReplace_18 (⟨rfl, wq1 hc (by decide)⟩)
    | 1, hj =>
      cases hj
      refine ⟨by decide +kernel, 19, by decide +kernel, fun hk τ q hc => ?_⟩
      have hk : κ = 2 := hk.trans (by decide)
      subst hk
      refine V_ast5 a_L_wouldReplace_19 ?_
      refine V_iconst a_L_wouldReplace_21 ?_
      exact V_iret a_L_wouldReplace_22 (⟨rfl, wq1 hc (by decide)⟩)
    | 2, hj =>
      cases hj
      refine ⟨by decide +kernel, 23, by decide +kernel, fun hk τ q hc => ?_⟩
      have hk : κ = 3 := hk.trans (by decide)
      subst hk
      refine V_ast5 a_L_wouldReplace_23 ?_
      refine V_iconst a_L_wouldReplace_25 ?_
      exact V_iret a_L_wouldReplace_26 (⟨rfl, wq1 hc (by decide)⟩)
    | j + 3, hj => cases hj
theorem W_fewestLoans {p1 p2 p3 : Int} {κ D' : Int} {v : Int} {s' : Lsv} (h : Cq m_X10_fewestLoans [vI p1, vI p2, vI p3] σ [xIOB, xIAE, xNSE] κ (vI v) D' s') : Cv m_L_fewestLoans 16 61 419 [vR (some (10, 0)), vI p1, vI p2, vI p3, vR (some (70, 0))] σ (some (vI κ)) (Wq σ κ (v.bmod (2 ^ 32)) D' s') := by
  show V _ 16 61 419 0 [some (vR (some (10, 0))), some (vI p1), some (vI p2), some (vI p3), some (vR (some (70, 0))), none] [] σ _
  refine V_ald4 a_L_fewestLoans_0 ?_
  refine V_iconst a_L_fewestLoans_2 ?_
  refine V_aldn0 a_L_fewestLoans_3 ?_
  refine V_ildn1 a_L_fewestLoans_4 ?_
  refine V_ildn2 a_L_fewestLoans_5 ?_
  refine V_ildn3 a_L_fewestLoans_6 ?_
  skip
  refine V_try (b := 0) (bs := 0) (as := [vI p1, vI p2, vI p3]) (rest := [vI 0, vR (some (70, 0))]) a_L_fewestLoans_7 c_L_127 h rfl (by decide) rfl (by exact Nat.le_of_ble_eq_true rfl) (by exact Nat.le_of_ble_eq_true rfl) rfl (fun e0 τ hc => ?_) (fun j E hj => ?_)
  · subst e0
    refine V_i2lM a_L_fewestLoans_10 ?_
    refine V_last a_L_fewestLoans_11 rfl (by omega) ?_
    refine V_goto a_L_fewestLoans_12 ?_
    refine V_iconst a_L_fewestLoans_27 ?_
    exact V_iret a_L_fewestLoans_28 (⟨rfl, wq0 hc⟩)
  · match j, hj with
    | 0, hj =>
      cases hj
      refine ⟨by decide +kernel, 15, by decide +kernel, fun hk τ q hc => ?_⟩
      have hk : κ = 1 := hk.trans (by decide)
      subst hk
      refine V_ast5 a_L_fewestLoans_15 ?_
      refine V_iconst a_L_fewestLoans_17 ?_
      exact V_iret a_L_fewestLoans_18 (⟨rfl, wq1 hc (by decide)⟩)
    | 1, hj =>
      cases hj
      refine ⟨by decide +kernel, 19, by decide +kernel, fun hk τ q hc => ?_⟩
      have hk : κ = 2 := hk.trans (by decide)
      subst hk
      refine V_ast5 a_L_fewestLoans_19 ?_
      refine V_iconst a_L_fewestLoans_21 ?_
      exact V_iret a_L_fewestLoans_22 (⟨rfl, wq1 hc (by decide)⟩)
    | 2, hj =>
      cases hj
      refine ⟨by decide +kernel, 23, by decide +kernel, fun hk τ q hc => ?_⟩
      have hk : κ = 3 := hk.trans (by decide)
      subst hk
      refine V_ast5 a_L_fewestLoans_23 ?_
      refine V_iconst a_L_fewestLoans_25 ?_
      exact V_iret a_L_fewestLoans_26 (⟨rfl, wq1 hc (by decide)⟩)
    | j + 3, hj => cases hj
theorem W_tightestSum {p1 p2 p3 : Int} {κ D' : Int} {v : Int} {s' : Lsv} (h : Cq m_X10_tightestSum [vI p1, vI p2, vI p3] σ [xIOB, xIAE, xNSE] κ (vI v) D' s') : Cv m_L_tightestSum 16 61 419 [vR (some (10, 0)), vI p1, vI p2, vI p3, vR (some (70, 0))] σ (some (vI κ)) (Wq σ κ (v.bmod (2 ^ 32)) D' s') := by
  show V _ 16 61 419 0 [some (vR (some (10, 0))), some (vI p1), some (vI p2), some (vI p3), some (vR (some (70, 0))), none] [] σ _
  refine V_ald4 a_L_tightestSum_0 ?_
  refine V_iconst a_L_tightestSum_2 ?_
  refine V_aldn0 a_L_tightestSum_3 ?_
  refine V_ildn1 a_L_tightestSum_4 ?_
  refine V_ildn2 a_L_tightestSum_5 ?_
  refine V_ildn3 a_L_tightestSum_6 ?_
  skip
  refine V_try (b := 0) (bs := 0) (as := [vI p1, vI p2, vI p3]) (rest := [vI 0, vR (some (70, 0))]) a_L_tightestSum_7 c_L_132 h rfl (by decide) rfl (by exact Nat.le_of_ble_eq_true rfl) (by exact Nat.le_of_ble_eq_true rfl) rfl (fun e0 τ hc => ?_) (fun j E hj => ?_)
  · subst e0
    refine V_i2lM a_L_tightestSum_10 ?_
    refine V_last a_L_tightestSum_11 rfl (by omega) ?_
    refine V_goto a_L_tightestSum_12 ?_
    refine V_iconst a_L_tightestSum_27 ?_
    exact V_iret a_L_tightestSum_28 (⟨rfl, wq0 hc⟩)
  · match j, hj with
    | 0, hj =>
      cases hj
      refine ⟨by decide +kernel, 15, by decide +kernel, fun hk τ q hc => ?_⟩
      have hk : κ = 1 := hk.trans (by decide)
      subst hk
      refine V_ast5 a_L_tightestSum_15 ?_
      refine V_iconst a_L_tightestSum_17 ?_
      exact V_iret a_L_tightestSum_18 (⟨rfl, wq1 hc (by decide)⟩)
    | 1, hj =>
      cases hj
      refine ⟨by decide +kernel, 19, by decide +kernel, fun hk τ q hc => ?_⟩
      have hk : κ = 2 := hk.trans (by decide)
      subst hk
      refine V_ast5 a_L_tightestSum_19 ?_
      refine V_iconst a_L_tightestSum_21 ?_
      exact V_iret a_L_tightestSum_22 (⟨rfl, wq1 hc (by decide)⟩)
    | 2, hj =>
      cases hj
      refine ⟨by decide +kernel, 23, by decide +kernel, fun hk τ q hc => ?_⟩
      have hk : κ = 3 := hk.trans (by decide)
      subst hk
      refine V_ast5 a_L_tightestSum_23 ?_
      refine V_iconst a_L_tightestSum_25 ?_
      exact V_iret a_L_tightestSum_26 (⟨rfl, wq1 hc (by decide)⟩)
    | j + 3, hj => cases hj
theorem W_tightestLoans {p1 p2 p3 : Int} {κ D' : Int} {v : Int} {s' : Lsv} (h : Cq m_X10_tightestLoans [vI p1, vI p2, vI p3] σ [xIOB, xIAE, xNSE] κ (vI v) D' s') : Cv m_L_tightestLoans 16 61 419 [vR (some (10, 0)), vI p1, vI p2, vI p3, vR (some (70, 0))] σ (some (vI κ)) (Wq σ κ (v.bmod (2 ^ 32)) D' s') := by
  show V _ 16 61 419 0 [some (vR (some (10, 0))), some (vI p1), some (vI p2), some (vI p3), some (vR (some (70, 0))), none] [] σ _
  refine V_ald4 a_L_tightestLoans_0 ?_
  refine V_iconst a_L_tightestLoans_2 ?_
  refine V_aldn0 a_L_tightestLoans_3 ?_
  refine V_ildn1 a_L_tightestLoans_4 ?_
  refine V_ildn2 a_L_tightestLoans_5 ?_
  refine V_ildn3 a_L_tightestLoans_6 ?_
  skip
  refine V_try (b := 0) (bs := 0) (as := [vI p1, vI p2, vI p3]) (rest := [vI 0, vR (some (70, 0))]) a_L_tightestLoans_7 c_L_135 h rfl (by decide) rfl (by exact Nat.le_of_ble_eq_true rfl) (by exact Nat.le_of_ble_eq_true rfl) rfl (fun e0 τ hc => ?_) (fun j E hj => ?_)
  · subst e0
    refine V_i2lM a_L_tightestLoans_10 ?_
    refine V_last a_L_tightestLoans_11 rfl (by omega) ?_
    refine V_goto a_L_tightestLoans_12 ?_
    refine V_iconst a_L_tightestLoans_27 ?_
    exact V_iret a_L_tightestLoans_28 (⟨rfl, wq0 hc⟩)
  · match j, hj with
    | 0, hj =>
      cases hj
      refine ⟨by decide +kernel, 15, by decide +kernel, fun hk τ q hc => ?_⟩
      have hk : κ = 1 := hk.trans (by decide)
      subst hk
      refine V_ast5 a_L_tightestLoans_15 ?_
      refine V_iconst a_L_tightestLoans_17 ?_
      exact V_iret a_L_tightestLoans_18 (⟨rfl, wq1 hc (by decide)⟩)
    | 1, hj =>
      cases hj
      refine ⟨by decide +kernel, 19, by decide +kernel, fun hk τ q hc => ?_⟩
      have hk : κ = 2 := hk.trans (by decide)
      subst hk
      refine V_ast5 a_L_tightestLoans_19 ?_
      refine V_iconst a_L_tightestLoans_21 ?_
      exact V_iret a_L_tightestLoans_22 (⟨rfl, wq1 hc (by decide)⟩)
    | 2, hj =>
      cases hj
      refine ⟨by decide +kernel, 23, by decide +kernel, fun hk τ q hc => ?_⟩
      have hk : κ = 3 := hk.trans (by decide)
      subst hk
      refine V_ast5 a_L_tightestLoans_23 ?_
      refine V_iconst a_L_tightestLoans_25 ?_
      exact V_iret a_L_tightestLoans_26 (⟨rfl, wq1 hc (by decide)⟩)
    | j + 3, hj => cases hj
theorem W_accountAfter {p1 p2 p3 : Int} {κ D' : Int} {v : Int} {s' : Lsv} (h : Cq m_X10_accountAfter [vI p1, vI p2, vI p3] σ [xIAE] κ (vL v) D' s') : Cv m_L_accountAfter 16 61 419 [vR (some (10, 0)), vI p1, vI p2, vI p3, vR (some (70, 0))] σ (some (vI κ)) (Wq σ κ v D' s') := by
  show V _ 16 61 419 0 [some (vR (some (10, 0))), some (vI p1), some (vI p2), some (vI p3), some (vR (some (70, 0))), none] [] σ _
  refine V_ald4 a_L_accountAfter_0 ?_
  refine V_iconst a_L_accountAfter_2 ?_
  refine V_aldn0 a_L_accountAfter_3 ?_
  refine V_ildn1 a_L_accountAfter_4 ?_
  refine V_ildn2 a_L_accountAfter_5 ?_
  refine V_ildn3 a_L_accountAfter_6 ?_
  skip
  refine V_try (b := 0) (bs := 0) (as := [vI p1, vI p2, vI p3]) (rest := [vI 0, vR (some (70, 0))]) a_L_accountAfter_7 c_L_138 h rfl (by decide) rfl (by exact Nat.le_of_ble_eq_true rfl) (by exact Nat.le_of_ble_eq_true rfl) rfl (fun e0 τ hc => ?_) (fun j E hj => ?_)
  · subst e0
    refine V_last a_L_accountAfter_10 rfl (by omega) ?_
    refine V_goto a_L_accountAfter_11 ?_
    refine V_iconst a_L_accountAfter_18 ?_
    exact V_iret a_L_accountAfter_19 (⟨rfl, wq0 hc⟩)
  · match j, hj with
    | 0, hj =>
      cases hj
      refine ⟨by decide +kernel, 14, by decide +kernel, fun hk τ q hc => ?_⟩
      have hk : κ = 1 := hk.trans (by decide)
      subst hk
      refine V_ast5 a_L_accountAfter_14 ?_
      refine V_iconst a_L_accountAfter_16 ?_
      exact V_iret a_L_accountAfter_17 (⟨rfl, wq1 hc (by decide)⟩)
    | j + 1, hj => cases hj
theorem W_boughtInAfter {p1 : Int} {κ D' : Int} {v : Int} {s' : Lsv} (h : Cq m_X10_boughtInAfter [vI p1] σ [xIAE] κ (vI v) D' s') : Cv m_L_boughtInAfter 16 61 419 [vR (some (10, 0)), vI p1, vR (some (70, 0))] σ (some (vI κ)) (Wq σ κ (v.bmod (2 ^ 32)) D' s') := by
  show V _ 16 61 419 0 [some (vR (some (10, 0))), some (vI p1), some (vR (some (70, 0))), none] [] σ _
  refine V_aldn2 a_L_boughtInAfter_0 ?_
  refine V_iconst a_L_boughtInAfter_1 ?_
  refine V_aldn0 a_L_boughtInAfter_2 ?_
  refine V_ildn1 a_L_boughtInAfter_3 ?_
  skip
  refine V_try (b := 0) (bs := 0) (as := [vI p1]) (rest := [vI 0, vR (some (70, 0))]) a_L_boughtInAfter_4 c_L_142 h rfl (by decide) rfl (by exact Nat.le_of_ble_eq_true rfl) (by exact Nat.le_of_ble_eq_true rfl) rfl (fun e0 τ hc => ?_) (fun j E hj => ?_)
  · subst e0
    refine V_i2lM a_L_boughtInAfter_7 ?_
    refine V_last a_L_boughtInAfter_8 rfl (by omega) ?_
    refine V_goto a_L_boughtInAfter_9 ?_
    refine V_iconst a_L_boughtInAfter_15 ?_
    exact V_iret a_L_boughtInAfter_16 (⟨rfl, wq0 hc⟩)
  · match j, hj with
    | 0, hj =>
      cases hj
      refine ⟨by decide +kernel, 12, by decide +kernel, fun hk τ q hc => ?_⟩
      have hk : κ = 1 := hk.trans (by decide)
      subst hk
      refine V_astn3 a_L_boughtInAfter_12 ?_
      refine V_iconst a_L_boughtInAfter_13 ?_
      exact V_iret a_L_boughtInAfter_14 (⟨rfl, wq1 hc (by decide)⟩)
    | j + 1, hj => cases hj
theorem W_firstBuyIn {κ D' : Int} {v : Int} {s' : Lsv} (h : Cq m_X10_firstBuyIn [] σ [xNSE] κ (vI v) D' s') : Cv m_L_firstBuyIn 16 61 419 [vR (some (10, 0)), vR (some (70, 0))] σ (some (vI κ)) (Wq σ κ (v.bmod (2 ^ 32)) D' s') := by
  show V _ 16 61 419 0 [some (vR (some (10, 0))), some (vR (some (70, 0))), none] [] σ _
  refine V_aldn1 a_L_firstBuyIn_0 ?_
  refine V_iconst a_L_firstBuyIn_1 ?_
  refine V_aldn0 a_L_firstBuyIn_2 ?_
  skip
  refine V_try (b := 0) (bs := 0) (as := []) (rest := [vI 0, vR (some (70, 0))]) a_L_firstBuyIn_3 c_L_145 h rfl (by decide) rfl (by exact Nat.le_of_ble_eq_true rfl) (by exact Nat.le_of_ble_eq_true rfl) rfl (fun e0 τ hc => ?_) (fun j E hj => ?_)
  · subst e0
    refine V_i2lM a_L_firstBuyIn_6 ?_
    refine V_last a_L_firstBuyIn_7 rfl (by omega) ?_
    refine V_goto a_L_firstBuyIn_8 ?_
    refine V_iconst a_L_firstBuyIn_14 ?_
    exact V_iret a_L_firstBuyIn_15 (⟨rfl, wq0 hc⟩)
  · match j, hj with
    | 0, hj =>
      cases hj
      refine ⟨by decide +kernel, 11, by decide +kernel, fun hk τ q hc => ?_⟩
      have hk : κ = 1 := hk.trans (by decide)
      subst hk
      refine V_astn2 a_L_firstBuyIn_11 ?_
      refine V_iconst a_L_firstBuyIn_12 ?_
      exact V_iret a_L_firstBuyIn_13 (⟨rfl, wq1 hc (by decide)⟩)
    | j + 1, hj => cases hj
theorem W_breakingPrice {p1 p2 : Int} {κ D' : Int} {v : Int} {s' : Lsv} (h : Cq m_X10_breakingPrice [vI p1, vI p2] σ [xIOB, xNSE] κ (vI v) D' s') : Cv m_L_breakingPrice 16 61 419 [vR (some (10, 0)), vI p1, vI p2, vR (some (70, 0))] σ (some (vI κ)) (Wq σ κ (v.bmod (2 ^ 32)) D' s') := by
  show V _ 16 61 419 0 [some (vR (some (10, 0))), some (vI p1), some (vI p2), some (vR (some (70, 0))), none] [] σ _
  refine V_aldn3 a_L_breakingPrice_0 ?_
  refine V_iconst a_L_breakingPrice_1 ?_
  refine V_aldn0 a_L_breakingPrice_2 ?_
  refine V_ildn1 a_L_breakingPrice_3 ?_
  refine V_ildn2 a_L_breakingPrice_4 ?_
  skip
  refine V_try (b := 0) (bs := 0) (as := [vI p1, vI p2]) (rest := [vI 0, vR (some (70, 0))]) a_L_breakingPrice_5 c_L_149 h rfl (by decide) rfl (by exact Nat.le_of_ble_eq_true rfl) (by exact Nat.le_of_ble_eq_true rfl) rfl (fun e0 τ hc => ?_) (fun j E hj => ?_)
  · subst e0
    refine V_i2lM a_L_breakingPrice_8 ?_
    refine V_last a_L_breakingPrice_9 rfl (by omega) ?_
    refine V_goto a_L_breakingPrice_10 ?_
    refine V_iconst a_L_breakingPrice_21 ?_
    exact V_iret a_L_breakingPrice_22 (⟨rfl, wq0 hc⟩)
  · match j, hj with
    | 0, hj =>
      cases hj
      refine ⟨by decide +kernel, 13, by decide +kernel, fun hk τ q hc => ?_⟩
      have hk : κ = 1 := hk.trans (by decide)
      subst hk
      refine V_ast4 a_L_breakingPrice_13 ?_
      refine V_iconst a_L_breakingPrice_15 ?_
      exact V_iret a_L_breakingPrice_16 (⟨rfl, wq1 hc (by decide)⟩)
    | 1, hj =>
      cases hj
      refine ⟨by decide +kernel, 17, by decide +kernel, fun hk τ q hc => ?_⟩
      have hk : κ = 2 := hk.trans (by decide)
      subst hk
      refine V_ast4 a_L_breakingPrice_17 ?_
      refine V_iconst a_L_breakingPrice_19 ?_
      exact V_iret a_L_breakingPrice_20 (⟨rfl, wq1 hc (by decide)⟩)
    | j + 2, hj => cases hj
theorem W_bestPolicy {p1 p2 : Int} {κ D' : Int} {v : Int} {s' : Lsv} (h : Cq m_X10_bestPolicy [vI p1, vI p2] σ [xIOB, xIAE, xISE] κ (vI v) D' s') : Cv m_L_bestPolicy 16 61 419 [vR (some (10, 0)), vI p1, vI p2, vR (some (70, 0))] σ (some (vI κ)) (Wq σ κ (v.bmod (2 ^ 32)) D' s') := by
  show V _ 16 61 419 0 [some (vR (some (10, 0))), some (vI p1), some (vI p2), some (vR (some (70, 0))), none] [] σ _
  refine V_aldn3 a_L_bestPolicy_0 ?_
  refine V_iconst a_L_bestPolicy_1 ?_
  refine V_aldn0 a_L_bestPolicy_2 ?_
  refine V_ildn1 a_L_bestPolicy_3 ?_
  refine V_ildn2 a_L_bestPolicy_4 ?_
  skip
  refine V_try (b := 0) (bs := 0) (as := [vI p1, vI p2]) (rest := [vI 0, vR (some (70, 0))]) a_L_bestPolicy_5 c_L_152 h rfl (by decide) rfl (by exact Nat.le_of_ble_eq_true rfl) (by exact Nat.le_of_ble_eq_true rfl) rfl (fun e0 τ hc => ?_) (fun j E hj => ?_)
  · subst e0
    refine V_i2lM a_L_bestPolicy_8 ?_
    refine V_last a_L_bestPolicy_9 rfl (by omega) ?_
    refine V_goto a_L_bestPolicy_10 ?_
    refine V_iconst a_L_bestPolicy_25 ?_
    exact V_iret a_L_bestPolicy_26 (⟨rfl, wq0 hc⟩)
  · match j, hj with
    | 0, hj =>
      cases hj
      refine ⟨by decide +kernel, 13, by decide +kernel, fun hk τ q hc => ?_⟩
      have hk : κ = 1 := hk.trans (by decide)
      subst hk
      refine V_ast4 a_L_bestPolicy_13 ?_
      refine V_iconst a_L_bestPolicy_15 ?_
      exact V_iret a_L_bestPolicy_16 (⟨rfl, wq1 hc (by decide)⟩)
    | 1, hj =>
      cases hj
      refine ⟨by decide +kernel, 17, by decide +kernel, fun hk τ q hc => ?_⟩
      have hk : κ = 2 := hk.trans (by decide)
      subst hk
      refine V_ast4 a_L_bestPolicy_17 ?_
      refine V_iconst a_L_bestPolicy_19 ?_
      exact V_iret a_L_bestPolicy_20 (⟨rfl, wq1 hc (by decide)⟩)
    | 2, hj =>
      cases hj
      refine ⟨by decide +kernel, 21, by decide +kernel, fun hk τ q hc => ?_⟩
      have hk : κ = 3 := hk.trans (by decide)
      subst hk
      refine V_ast4 a_L_bestPolicy_21 ?_
      refine V_iconst a_L_bestPolicy_23 ?_
      exact V_iret a_L_bestPolicy_24 (⟨rfl, wq1 hc (by decide)⟩)
    | j + 3, hj => cases hj
theorem W_rankedLender {p1 p2 : Int} {κ D' : Int} {v : Int} {s' : Lsv} (h : Cq m_X10_rankedLender [vI p1, vI p2] σ [xIOB] κ (vI v) D' s') : Cv m_L_rankedLender 16 61 419 [vR (some (10, 0)), vI p1, vI p2, vR (some (70, 0))] σ (some (vI κ)) (Wq σ κ (v.bmod (2 ^ 32)) D' s') := by
  show V _ 16 61 419 0 [some (vR (some (10, 0))), some (vI p1), some (vI p2), some (vR (some (70, 0))), none] [] σ _
  refine V_aldn3 a_L_rankedLender_0 ?_
  refine V_iconst a_L_rankedLender_1 ?_
  refine V_aldn0 a_L_rankedLender_2 ?_
  refine V_ildn1 a_L_rankedLender_3 ?_
  refine V_ildn2 a_L_rankedLender_4 ?_
  skip
  refine V_try (b := 0) (bs := 0) (as := [vI p1, vI p2]) (rest := [vI 0, vR (some (70, 0))]) a_L_rankedLender_5 c_L_155 h rfl (by decide) rfl (by exact Nat.le_of_ble_eq_true rfl) (by exact Nat.le_of_ble_eq_true rfl) rfl (fun e0 τ hc => ?_) (fun j E hj => ?_)
  · subst e0
    refine V_i2lM a_L_rankedLender_8 ?_
    refine V_last a_L_rankedLender_9 rfl (by omega) ?_
    refine V_goto a_L_rankedLender_10 ?_
    refine V_iconst a_L_rankedLender_17 ?_
    exact V_iret a_L_rankedLender_18 (⟨rfl, wq0 hc⟩)
  · match j, hj with
    | 0, hj =>
      cases hj
      refine ⟨by decide +kernel, 13, by decide +kernel, fun hk τ q hc => ?_⟩
      have hk : κ = 1 := hk.trans (by decide)
      subst hk
      refine V_ast4 a_L_rankedLender_13 ?_
      refine V_iconst a_L_rankedLender_15 ?_
      exact V_iret a_L_rankedLender_16 (⟨rfl, wq1 hc (by decide)⟩)
    | j + 1, hj => cases hj
theorem W_richestLender {κ D' : Int} {v : Int} {s' : Lsv} (h : Cq m_X10_richestLender [] σ [xNSE] κ (vI v) D' s') : Cv m_L_richestLender 16 61 419 [vR (some (10, 0)), vR (some (70, 0))] σ (some (vI κ)) (Wq σ κ (v.bmod (2 ^ 32)) D' s') := by
  show V _ 16 61 419 0 [some (vR (some (10, 0))), some (vR (some (70, 0))), none] [] σ _
  refine V_aldn1 a_L_richestLender_0 ?_
  refine V_iconst a_L_richestLender_1 ?_
  refine V_aldn0 a_L_richestLender_2 ?_
  skip
  refine V_try (b := 0) (bs := 0) (as := []) (rest := [vI 0, vR (some (70, 0))]) a_L_richestLender_3 c_L_158 h rfl (by decide) rfl (by exact Nat.le_of_ble_eq_true rfl) (by exact Nat.le_of_ble_eq_true rfl) rfl (fun e0 τ hc => ?_) (fun j E hj => ?_)
  · subst e0
    refine V_i2lM a_L_richestLender_6 ?_
    refine V_last a_L_richestLender_7 rfl (by omega) ?_
    refine V_goto a_L_richestLender_8 ?_
    refine V_iconst a_L_richestLender_14 ?_
    exact V_iret a_L_richestLender_15 (⟨rfl, wq0 hc⟩)
  · match j, hj with
    | 0, hj =>
      cases hj
      refine ⟨by decide +kernel, 11, by decide +kernel, fun hk τ q hc => ?_⟩
      have hk : κ = 1 := hk.trans (by decide)
      subst hk
      refine V_astn2 a_L_richestLender_11 ?_
      refine V_iconst a_L_richestLender_12 ?_
      exact V_iret a_L_richestLender_13 (⟨rfl, wq1 hc (by decide)⟩)
    | j + 1, hj => cases hj
theorem W_lastServed {p1 : Int} {κ D' : Int} {v : Int} {s' : Lsv} (h : Cq m_X10_lastServed [vI p1] σ [xIOB] κ (vI v) D' s') : Cv m_L_lastServed 16 61 419 [vR (some (10, 0)), vI p1, vR (some (70, 0))] σ (some (vI κ)) (Wq σ κ (v.bmod (2 ^ 32)) D' s') := by
  show V _ 16 61 419 0 [some (vR (some (10, 0))), some (vI p1), some (vR (some (70, 0))), none] [] σ _
  refine V_aldn2 a_L_lastServed_0 ?_
  refine V_iconst a_L_lastServed_1 ?_
  refine V_aldn0 a_L_lastServed_2 ?_
  refine V_ildn1 a_L_lastServed_3 ?_
  skip
  refine V_try (b := 0) (bs := 0) (as := [vI p1]) (rest := [vI 0, vR (some (70, 0))]) a_L_lastServed_4 c_L_161 h rfl (by decide) rfl (by exact Nat.le_of_ble_eq_true rfl) (by exact Nat.le_of_ble_eq_true rfl) rfl (fun e0 τ hc => ?_) (fun j E hj => ?_)
  · subst e0
    refine V_i2lM a_L_lastServed_7 ?_
    refine V_last a_L_lastServed_8 rfl (by omega) ?_
    refine V_goto a_L_lastServed_9 ?_
    refine V_iconst a_L_lastServed_15 ?_
    exact V_iret a_L_lastServed_16 (⟨rfl, wq0 hc⟩)
  · match j, hj with
    | 0, hj =>
      cases hj
      refine ⟨by decide +kernel, 12, by decide +kernel, fun hk τ q hc => ?_⟩
      have hk : κ = 1 := hk.trans (by decide)
      subst hk
      refine V_astn3 a_L_lastServed_12 ?_
      refine V_iconst a_L_lastServed_13 ?_
      exact V_iret a_L_lastServed_14 (⟨rfl, wq1 hc (by decide)⟩)
    | j + 1, hj => cases hj
theorem W_total {p1 : Int} {κ D' : Int} {v : Int} {s' : Lsv} (h : Cq m_X10_total [vI p1] σ [xIAE] κ (vL v) D' s') : Cv m_L_total 16 61 419 [vR (some (10, 0)), vI p1, vR (some (70, 0))] σ (some (vI κ)) (Wq σ κ v D' s') := by
  show V _ 16 61 419 0 [some (vR (some (10, 0))), some (vI p1), some (vR (some (70, 0))), none] [] σ _
  refine V_aldn2 a_L_total_0 ?_
  refine V_iconst a_L_total_1 ?_
  refine V_aldn0 a_L_total_2 ?_
  refine V_ildn1 a_L_total_3 ?_
  skip
  refine V_try (b := 0) (bs := 0) (as := [vI p1]) (rest := [vI 0, vR (some (70, 0))]) a_L_total_4 c_L_164 h rfl (by decide) rfl (by exact Nat.le_of_ble_eq_true rfl) (by exact Nat.le_of_ble_eq_true rfl) rfl (fun e0 τ hc => ?_) (fun j E hj => ?_)
  · subst e0
    refine V_last a_L_total_7 rfl (by omega) ?_
    refine V_goto a_L_total_8 ?_
    refine V_iconst a_L_total_14 ?_
    exact V_iret a_L_total_15 (⟨rfl, wq0 hc⟩)
  · match j, hj with
    | 0, hj =>
      cases hj
      refine ⟨by decide +kernel, 11, by decide +kernel, fun hk τ q hc => ?_⟩
      have hk : κ = 1 := hk.trans (by decide)
      subst hk
      refine V_astn3 a_L_total_11 ?_
      refine V_iconst a_L_total_12 ?_
      exact V_iret a_L_total_13 (⟨rfl, wq1 hc (by decide)⟩)
    | j + 1, hj => cases hj
theorem W_reportByte {p1 : Int} {κ D' : Int} {v : Int} {s' : Lsv} (h : Cq m_X10_reportByte [vI p1] σ [xIOB] κ (vI v) D' s') : Cv m_L_reportByte 16 61 419 [vR (some (10, 0)), vI p1, vR (some (70, 0))] σ (some (vI κ)) (Wq σ κ (v.bmod (2 ^ 32)) D' s') := by
  show V _ 16 61 419 0 [some (vR (some (10, 0))), some (vI p1), some (vR (some (70, 0))), none] [] σ _
  refine V_aldn2 a_L_reportByte_0 ?_
  refine V_iconst a_L_reportByte_1 ?_
  refine V_aldn0 a_L_reportByte_2 ?_
  refine V_ildn1 a_L_reportByte_3 ?_
  skip
  refine V_try (b := 0) (bs := 0) (as := [vI p1]) (rest := [vI 0, vR (some (70, 0))]) a_L_reportByte_4 c_L_167 h rfl (by decide) rfl (by exact Nat.le_of_ble_eq_true rfl) (by exact Nat.le_of_ble_eq_true rfl) rfl (fun e0 τ hc => ?_) (fun j E hj => ?_)
  · subst e0
    refine V_i2lM a_L_reportByte_7 ?_
    refine V_last a_L_reportByte_8 rfl (by omega) ?_
    refine V_goto a_L_reportByte_9 ?_
    refine V_iconst a_L_reportByte_15 ?_
    exact V_iret a_L_reportByte_16 (⟨rfl, wq0 hc⟩)
  · match j, hj with
    | 0, hj =>
      cases hj
      refine ⟨by decide +kernel, 12, by decide +kernel, fun hk τ q hc => ?_⟩
      have hk : κ = 1 := hk.trans (by decide)
      subst hk
      refine V_astn3 a_L_reportByte_12 ?_
      refine V_iconst a_L_reportByte_13 ?_
      exact V_iret a_L_reportByte_14 (⟨rfl, wq1 hc (by decide)⟩)
    | j + 1, hj => cases hj
theorem W_undo {κ D' : Int} {v : Int} {s' : Lsv} (h : Cq m_X10_undo [] σ [xISE] κ (vI v) D' s') : Cv m_L_undo 16 61 419 [vR (some (10, 0)), vR (some (70, 0))] σ (some (vI κ)) (Wq σ κ (v.bmod (2 ^ 32)) D' s') := by
  show V _ 16 61 419 0 [some (vR (some (10, 0))), some (vR (some (70, 0))), none] [] σ _
  refine V_aldn1 a_L_undo_0 ?_
  refine V_iconst a_L_undo_1 ?_
  refine V_aldn0 a_L_undo_2 ?_
  skip
  refine V_try (b := 0) (bs := 0) (as := []) (rest := [vI 0, vR (some (70, 0))]) a_L_undo_3 c_L_170 h rfl (by decide) rfl (by exact Nat.le_of_ble_eq_true rfl) (by exact Nat.le_of_ble_eq_true rfl) rfl (fun e0 τ hc => ?_) (fun j E hj => ?_)
  · subst e0
    refine V_i2lM a_L_undo_6 ?_
    refine V_last a_L_undo_7 rfl (by omega) ?_
    refine V_goto a_L_undo_8 ?_
    refine V_iconst a_L_undo_14 ?_
    exact V_iret a_L_undo_15 (⟨rfl, wq0 hc⟩)
  · match j, hj with
    | 0, hj =>
      cases hj
      refine ⟨by decide +kernel, 11, by decide +kernel, fun hk τ q hc => ?_⟩
      have hk : κ = 1 := hk.trans (by decide)
      subst hk
      refine V_astn2 a_L_undo_11 ?_
      refine V_iconst a_L_undo_12 ?_
      exact V_iret a_L_undo_13 (⟨rfl, wq1 hc (by decide)⟩)
    | j + 1, hj => cases hj
end Ww

