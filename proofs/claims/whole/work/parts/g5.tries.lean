section Ww
variable {σ : Hp}
theorem W_truncateText {p1 : Int} {κ D' : Int} {v : Int} {s' : Lsv} (h : Cq m_X10_truncateText [vI p1] σ [xIAE] κ (vI v) D' s') : Cv m_L_truncateText 16 61 419 [vR (some (10, 0)), vI p1, vR (some (70, 0))] σ (some (vI κ)) (Wq σ κ (v.bmod (2 ^ 32)) D' s') := by
  show V _ 16 61 419 0 [some (vR (some (10, 0))), some (vI p1), some (vR (some (70, 0))), none] [] σ _
  refine V_aldn2 a_L_truncateText_0 ?_
  refine V_iconst a_L_truncateText_1 ?_
  refine V_aldn0 a_L_truncateText_2 ?_
  refine V_ildn1 a_L_truncateText_3 ?_
  skip
  refine V_try (b := 0) (bs := 0) (as := [vI p1]) (rest := [vI 0, vR (some (70, 0))]) a_L_truncateText_4 c_L_15 h rfl (by decide) rfl (by exact Nat.le_of_ble_eq_true rfl) (by exact Nat.le_of_ble_eq_true rfl) rfl (fun e0 τ hc => ?_) (fun j E hj => ?_)
  · subst e0
    refine V_i2lM a_L_truncateText_7 ?_
    refine V_last a_L_truncateText_8 rfl (by omega) ?_
    refine V_goto a_L_truncateText_9 ?_
    refine V_iconst a_L_truncateText_15 ?_
    exact V_iret a_L_truncateText_16 (⟨rfl, wq0 hc⟩)
  · match j, hj with
    | 0, hj =>
      cases hj
      refine ⟨by decide +kernel, 12, by decide +kernel, fun hk τ q hc => ?_⟩
      have hk : κ = 1 := hk.trans (by decide)
      subst hk
      refine V_astn3 a_L_truncateText_12 ?_
      refine V_iconst a_L_truncateText_13 ?_
      exact V_iret a_L_truncateText_14 (⟨rfl, wq1 hc (by decide)⟩)
    | j + 1, hj => cases hj
theorem W_borrow {p1 p2 p3 p4 : Int} {κ D' : Int} {v : Int} {s' : Lsv} (h : Cq m_X10_borrow [vI p1, vI p2, vI p3, vI p4] σ [xIOB, xIAE, xISE] κ (vI v) D' s') : Cv m_L_borrow 16 61 419 [vR (some (10, 0)), vI p1, vI p2, vI p3, vI p4, vR (some (70, 0))] σ (some (vI κ)) (Wq σ κ (v.bmod (2 ^ 32)) D' s') := by
  show V _ 16 61 419 0 [some (vR (some (10, 0))), some (vI p1), some (vI p2), some (vI p3), some (vI p4), some (vR (some (70, 0))), none] [] σ _
  refine V_ald5 a_L_borrow_0 ?_
  refine V_iconst a_L_borrow_2 ?_
  refine V_aldn0 a_L_borrow_3 ?_
  refine V_ildn1 a_L_borrow_4 ?_
  refine V_ildn2 a_L_borrow_5 ?_
  refine V_ildn3 a_L_borrow_6 ?_
  refine V_ild4 a_L_borrow_7 ?_
  skip
  refine V_try (b := 0) (bs := 0) (as := [vI p1, vI p2, vI p3, vI p4]) (rest := [vI 0, vR (some (70, 0))]) a_L_borrow_9 c_L_21 h rfl (by decide) rfl (by exact Nat.le_of_ble_eq_true rfl) (by exact Nat.le_of_ble_eq_true rfl) rfl (fun e0 τ hc => ?_) (fun j E hj => ?_)
  · subst e0
    refine V_i2lM a_L_borrow_12 ?_
    refine V_last a_L_borrow_13 rfl (by omega) ?_
    refine V_goto a_L_borrow_14 ?_
    refine V_iconst a_L_borrow_29 ?_
    exact V_iret a_L_borrow_30 (⟨rfl, wq0 hc⟩)
  · match j, hj with
    | 0, hj =>
      cases hj
      refine ⟨by decide +kernel, 17, by decide +kernel, fun hk τ q hc => ?_⟩
      have hk : κ = 1 := hk.trans (by decide)
      subst hk
      refine V_ast6 a_L_borrow_17 ?_
      refine V_iconst a_L_borrow_19 ?_
      exact V_iret a_L_borrow_20 (⟨rfl, wq1 hc (by decide)⟩)
    | 1, hj =>
      cases hj
      refine ⟨by decide +kernel, 21, by decide +kernel, fun hk τ q hc => ?_⟩
      have hk : κ = 2 := hk.trans (by decide)
      subst hk
      refine V_ast6 a_L_borrow_21 ?_
      refine V_iconst a_L_borrow_23 ?_
      exact V_iret a_L_borrow_24 (⟨rfl, wq1 hc (by decide)⟩)
    | 2, hj =>
      cases hj
      refine ⟨by decide +kernel, 25, by decide +kernel, fun hk τ q hc => ?_⟩
      have hk : κ = 3 := hk.trans (by decide)
      subst hk
      refine V_ast6 a_L_borrow_25 ?_
      refine V_iconst a_L_borrow_27 ?_
      exact V_iret a_L_borrow_28 (⟨rfl, wq1 hc (by decide)⟩)
    | j + 3, hj => cases hj
theorem W_returnShares {p1 p2 : Int} {κ D' : Int} {v : Int} {s' : Lsv} (h : Cq m_X10_returnShares [vI p1, vI p2] σ [xIOB, xIAE] κ (vI v) D' s') : Cv m_L_returnShares 16 61 419 [vR (some (10, 0)), vI p1, vI p2, vR (some (70, 0))] σ (some (vI κ)) (Wq σ κ (v.bmod (2 ^ 32)) D' s') := by
  show V _ 16 61 419 0 [some (vR (some (10, 0))), some (vI p1), some (vI p2), some (vR (some (70, 0))), none] [] σ _
  refine V_aldn3 a_L_returnShares_0 ?_
  refine V_iconst a_L_returnShares_1 ?_
  refine V_aldn0 a_L_returnShares_2 ?_
  refine V_ildn1 a_L_returnShares_3 ?_
  refine V_ildn2 a_L_returnShares_4 ?_
  skip
  refine V_try (b := 0) (bs := 0) (as := [vI p1, vI p2]) (rest := [vI 0, vR (some (70, 0))]) a_L_returnShares_5 c_L_27 h rfl (by decide) rfl (by exact Nat.le_of_ble_eq_true rfl) (by exact Nat.le_of_ble_eq_true rfl) rfl (fun e0 τ hc => ?_) (fun j E hj => ?_)
  · subst e0
    refine V_i2lM a_L_returnShares_8 ?_
    refine V_last a_L_returnShares_9 rfl (by omega) ?_
    refine V_goto a_L_returnShares_10 ?_
    refine V_iconst a_L_returnShares_21 ?_
    exact V_iret a_L_returnShares_22 (⟨rfl, wq0 hc⟩)
  · match j, hj with
    | 0, hj =>
      cases hj
      refine ⟨by decide +kernel, 13, by decide +kernel, fun hk τ q hc => ?_⟩
      have hk : κ = 1 := hk.trans (by decide)
      subst hk
      refine V_ast4 a_L_returnShares_13 ?_
      refine V_iconst a_L_returnShares_15 ?_
      exact V_iret a_L_returnShares_16 (⟨rfl, wq1 hc (by decide)⟩)
    | 1, hj =>
      cases hj
      refine ⟨by decide +kernel, 17, by decide +kernel, fun hk τ q hc => ?_⟩
      have hk : κ = 2 := hk.trans (by decide)
      subst hk
      refine V_ast4 a_L_returnShares_17 ?_
      refine V_iconst a_L_returnShares_19 ?_
      exact V_iret a_L_returnShares_20 (⟨rfl, wq1 hc (by decide)⟩)
    | j + 2, hj => cases hj
theorem W_recall {p1 p2 p3 : Int} {κ D' : Int} {v : Int} {s' : Lsv} (h : Cq m_X10_recall [vI p1, vI p2, vI p3] σ [xIOB, xIAE, xISE] κ (vI v) D' s') : Cv m_L_recall 16 61 419 [vR (some (10, 0)), vI p1, vI p2, vI p3, vR (some (70, 0))] σ (some (vI κ)) (Wq σ κ (v.bmod (2 ^ 32)) D' s') := by
  show V _ 16 61 419 0 [some (vR (some (10, 0))), some (vI p1), some (vI p2), some (vI p3), some (vR (some (70, 0))), none] [] σ _
  refine V_ald4 a_L_recall_0 ?_
  refine V_iconst a_L_recall_2 ?_
  refine V_aldn0 a_L_recall_3 ?_
  refine V_ildn1 a_L_recall_4 ?_
  refine V_ildn2 a_L_recall_5 ?_
  refine V_ildn3 a_L_recall_6 ?_
  skip
  refine V_try (b := 0) (bs := 0) (as := [vI p1, vI p2, vI p3]) (rest := [vI 0, vR (some (70, 0))]) a_L_recall_7 c_L_31 h rfl (by decide) rfl (by exact Nat.le_of_ble_eq_true rfl) (by exact Nat.le_of_ble_eq_true rfl) rfl (fun e0 τ hc => ?_) (fun j E hj => ?_)
  · subst e0
    refine V_i2lM a_L_recall_10 ?_
    refine V_last a_L_recall_11 rfl (by omega) ?_
    refine V_goto a_L_recall_12 ?_
    refine V_iconst a_L_recall_27 ?_
    exact V_iret a_L_recall_28 (⟨rfl, wq0 hc⟩)
  · match j, hj with
    | 0, hj =>
      cases hj
      refine ⟨by decide +kernel, 15, by decide +kernel, fun hk τ q hc => ?_⟩
      have hk : κ = 1 := hk.trans (by decide)
      subst hk
      refine V_ast5 a_L_recall_15 ?_
      refine V_iconst a_L_recall_17 ?_
      exact V_iret a_L_recall_18 (⟨rfl, wq1 hc (by decide)⟩)
    | 1, hj =>
      cases hj
      refine ⟨by decide +kernel, 19, by decide +kernel, fun hk τ q hc => ?_⟩
      have hk : κ = 2 := hk.trans (by decide)
      subst hk
      refine V_ast5 a_L_recall_19 ?_
      refine V_iconst a_L_recall_21 ?_
      exact V_iret a_L_recall_22 (⟨rfl, wq1 hc (by decide)⟩)
    | 2, hj =>
      cases hj
      refine ⟨by decide +kernel, 23, by decide +kernel, fun hk τ q hc => ?_⟩
      have hk : κ = 3 := hk.trans (by decide)
      subst hk
      refine V_ast5 a_L_recall_23 ?_
      refine V_iconst a_L_recall_25 ?_
      exact V_iret a_L_recall_26 (⟨rfl, wq1 hc (by decide)⟩)
    | j + 3, hj => cases hj
theorem W_passDays {p1 : Int} {κ D' : Int} {v : Int} {s' : Lsv} (h : Cq m_X10_passDays [vI p1] σ [xIAE] κ (vI v) D' s') : Cv m_L_passDays 16 61 419 [vR (some (10, 0)), vI p1, vR (some (70, 0))] σ (some (vI κ)) (Wq σ κ (v.bmod (2 ^ 32)) D' s') := by
  show V _ 16 61 419 0 [some (vR (some (10, 0))), some (vI p1), some (vR (some (70, 0))), none] [] σ _
  refine V_aldn2 a_L_passDays_0 ?_
  refine V_iconst a_L_passDays_1 ?_
  refine V_aldn0 a_L_passDays_2 ?_
  refine V_ildn1 a_L_passDays_3 ?_
  skip
  refine V_try (b := 0) (bs := 0) (as := [vI p1]) (rest := [vI 0, vR (some (70, 0))]) a_L_passDays_4 c_L_35 h rfl (by decide) rfl (by exact Nat.le_of_ble_eq_true rfl) (by exact Nat.le_of_ble_eq_true rfl) rfl (fun e0 τ hc => ?_) (fun j E hj => ?_)
  · subst e0
    refine V_i2lM a_L_passDays_7 ?_
    refine V_last a_L_passDays_8 rfl (by omega) ?_
    refine V_goto a_L_passDays_9 ?_
    refine V_iconst a_L_passDays_15 ?_
    exact V_iret a_L_passDays_16 (⟨rfl, wq0 hc⟩)
  · match j, hj with
    | 0, hj =>
      cases hj
      refine ⟨by decide +kernel, 12, by decide +kernel, fun hk τ q hc => ?_⟩
      have hk : κ = 1 := hk.trans (by decide)
      subst hk
      refine V_astn3 a_L_passDays_12 ?_
      refine V_iconst a_L_passDays_13 ?_
      exact V_iret a_L_passDays_14 (⟨rfl, wq1 hc (by decide)⟩)
    | j + 1, hj => cases hj
theorem W_payDividend {p1 p2 : Int} {κ D' : Int} {v : Int} {s' : Lsv} (h : Cq m_X10_payDividend [vI p1, vI p2] σ [xIOB, xIAE] κ (vL v) D' s') : Cv m_L_payDividend 16 61 419 [vR (some (10, 0)), vI p1, vI p2, vR (some (70, 0))] σ (some (vI κ)) (Wq σ κ v D' s') := by
  show V _ 16 61 419 0 [some (vR (some (10, 0))), some (vI p1), some (vI p2), some (vR (some (70, 0))), none] [] σ _
  refine V_aldn3 a_L_payDividend_0 ?_
  refine V_iconst a_L_payDividend_1 ?_
  refine V_aldn0 a_L_payDividend_2 ?_
  refine V_ildn1 a_L_payDividend_3 ?_
  refine V_ildn2 a_L_payDividend_4 ?_
  skip
  refine V_try (b := 0) (bs := 0) (as := [vI p1, vI p2]) (rest := [vI 0, vR (some (70, 0))]) a_L_payDividend_5 c_L_38 h rfl (by decide) rfl (by exact Nat.le_of_ble_eq_true rfl) (by exact Nat.le_of_ble_eq_true rfl) rfl (fun e0 τ hc => ?_) (fun j E hj => ?_)
  · subst e0
    refine V_last a_L_payDividend_8 rfl (by omega) ?_
    refine V_goto a_L_payDividend_9 ?_
    refine V_iconst a_L_payDividend_20 ?_
    exact V_iret a_L_payDividend_21 (⟨rfl, wq0 hc⟩)
  · match j, hj with
    | 0, hj =>
      cases hj
      refine ⟨by decide +kernel, 12, by decide +kernel, fun hk τ q hc => ?_⟩
      have hk : κ = 1 := hk.trans (by decide)
      subst hk
      refine V_ast4 a_L_payDividend_12 ?_
      refine V_iconst a_L_payDividend_14 ?_
      exact V_iret a_L_payDividend_15 (⟨rfl, wq1 hc (by decide)⟩)
    | 1, hj =>
      cases hj
      refine ⟨by decide +kernel, 16, by decide +kernel, fun hk τ q hc => ?_⟩
      have hk : κ = 2 := hk.trans (by decide)
      subst hk
      refine V_ast4 a_L_payDividend_16 ?_
      refine V_iconst a_L_payDividend_18 ?_
      exact V_iret a_L_payDividend_19 (⟨rfl, wq1 hc (by decide)⟩)
    | j + 2, hj => cases hj
theorem W_buyShares {p1 p2 p3 : Int} {κ D' : Int} {v : Int} {s' : Lsv} (h : Cq m_X10_buyShares [vI p1, vI p2, vI p3] σ [xIOB, xIAE, xISE] κ (vI v) D' s') : Cv m_L_buyShares 16 61 419 [vR (some (10, 0)), vI p1, vI p2, vI p3, vR (some (70, 0))] σ (some (vI κ)) (Wq σ κ (v.bmod (2 ^ 32)) D' s') := by
  show V _ 16 61 419 0 [some (vR (some (10, 0))), some (vI p1), some (vI p2), some (vI p3), some (vR (some (70, 0))), none] [] σ _
  refine V_ald4 a_L_buyShares_0 ?_
  refine V_iconst a_L_buyShares_2 ?_
  refine V_aldn0 a_L_buyShares_3 ?_
  refine V_ildn1 a_L_buyShares_4 ?_
  refine V_ildn2 a_L_buyShares_5 ?_
  refine V_ildn3 a_L_buyShares_6 ?_
  skip
  refine V_try (b := 0) (bs := 0) (as := [vI p1, vI p2, vI p3]) (rest := [vI 0, vR (some (70, 0))]) a_L_buyShares_7 c_L_42 h rfl (by decide) rfl (by exact Nat.le_of_ble_eq_true rfl) (by exact Nat.le_of_ble_eq_true rfl) rfl (fun e0 τ hc => ?_) (fun j E hj => ?_)
  · subst e0
    refine V_i2lM a_L_buyShares_10 ?_
    refine V_last a_L_buyShares_11 rfl (by omega) ?_
    refine V_goto a_L_buyShares_12 ?_
    refine V_iconst a_L_buyShares_27 ?_
    exact V_iret a_L_buyShares_28 (⟨rfl, wq0 hc⟩)
  · match j, hj with
    | 0, hj =>
      cases hj
      refine ⟨by decide +kernel, 15, by decide +kernel, fun hk τ q hc => ?_⟩
      have hk : κ = 1 := hk.trans (by decide)
      subst hk
      refine V_ast5 a_L_buyShares_15 ?_
      refine V_iconst a_L_buyShares_17 ?_
      exact V_iret a_L_buyShares_18 (⟨rfl, wq1 hc (by decide)⟩)
    | 1, hj =>
      cases hj
      refine ⟨by decide +kernel, 19, by decide +kernel, fun hk τ q hc => ?_⟩
      have hk : κ = 2 := hk.trans (by decide)
      subst hk
      refine V_ast5 a_L_buyShares_19 ?_
      refine V_iconst a_L_buyShares_21 ?_
      exact V_iret a_L_buyShares_22 (⟨rfl, wq1 hc (by decide)⟩)
    | 2, hj =>
      cases hj
      refine ⟨by decide +kernel, 23, by decide +kernel, fun hk τ q hc => ?_⟩
      have hk : κ = 3 := hk.trans (by decide)
      subst hk
      refine V_ast5 a_L_buyShares_23 ?_
      refine V_iconst a_L_buyShares_25 ?_
      exact V_iret a_L_buyShares_26 (⟨rfl, wq1 hc (by decide)⟩)
    | j + 3, hj => cases hj
theorem W_sellShares {p1 p2 p3 : Int} {κ D' : Int} {v : Int} {s' : Lsv} (h : Cq m_X10_sellShares [vI p1, vI p2, vI p3] σ [xIOB, xIAE, xISE] κ (vI v) D' s') : Cv m_L_sellShares 16 61 419 [vR (some (10, 0)), vI p1, vI p2, vI p3, vR (some (70, 0))] σ (some (vI κ)) (Wq σ κ (v.bmod (2 ^ 32)) D' s') := by
  show V _ 16 61 419 0 [some (vR (some (10, 0))), some (vI p1), some (vI p2), some (vI p3), some (vR (some (70, 0))), none] [] σ _
  refine V_ald4 a_L_sellShares_0 ?_
  refine V_iconst a_L_sellShares_2 ?_
  refine V_aldn0 a_L_sellShares_3 ?_
  refine V_ildn1 a_L_sellShares_4 ?_
  refine V_ildn2 a_L_sellShares_5 ?_
  refine V_ildn3 a_L_sellShares_6 ?_
  skip
  refine V_try (b := 0) (bs := 0) (as := [vI p1, vI p2, vI p3]) (rest := [vI 0, vR (some (70, 0))]) a_L_sellShares_7 c_L_45 h rfl (by decide) rfl (by exact Nat.le_of_ble_eq_true rfl) (by exact Nat.le_of_ble_eq_true rfl) rfl (fun e0 τ hc => ?_) (fun j E hj => ?_)
  · subst e0
    refine V_i2lM a_L_sellShares_10 ?_
    refine V_last a_L_sellShares_11 rfl (by omega) ?_
    refine V_goto a_L_sellShares_12 ?_
    refine V_iconst a_L_sellShares_27 ?_
    exact V_iret a_L_sellShares_28 (⟨rfl, wq0 hc⟩)
  · match j, hj with
    | 0, hj =>
      cases hj
      refine ⟨by decide +kernel, 15, by decide +kernel, fun hk τ q hc => ?_⟩
      have hk : κ = 1 := hk.trans (by decide)
      subst hk
      refine V_ast5 a_L_sellShares_15 ?_
      refine V_iconst a_L_sellShares_17 ?_
      exact V_iret a_L_sellShares_18 (⟨rfl, wq1 hc (by decide)⟩)
    | 1, hj =>
      cases hj
      refine ⟨by decide +kernel, 19, by decide +kernel, fun hk τ q hc => ?_⟩
      have hk : κ = 2 := hk.trans (by decide)
      subst hk
      refine V_ast5 a_L_sellShares_19 ?_
      refine V_iconst a_L_sellShares_21 ?_
      exact V_iret a_L_sellShares_22 (⟨rfl, wq1 hc (by decide)⟩)
    | 2, hj =>
      cases hj
      refine ⟨by decide +kernel, 23, by decide +kernel, fun hk τ q hc => ?_⟩
      have hk : κ = 3 := hk.trans (by decide)
      subst hk
      refine V_ast5 a_L_sellShares_23 ?_
      refine V_iconst a_L_sellShares_25 ?_
      exact V_iret a_L_sellShares_26 (⟨rfl, wq1 hc (by decide)⟩)
    | j + 3, hj => cases hj
theorem W_setPrice {p1 p2 : Int} {κ D' : Int} {v : Int} {s' : Lsv} (h : Cq m_X10_setPrice [vI p1, vI p2] σ [xIOB, xIAE] κ (vI v) D' s') : Cv m_L_setPrice 16 61 419 [vR (some (10, 0)), vI p1, vI p2, vR (some (70, 0))] σ (some (vI κ)) (Wq σ κ (v.bmod (2 ^ 32)) D' s') := by
  show V _ 16 61 419 0 [some (vR (some (10, 0))), some (vI p1), some (vI p2), some (vR (some (70, 0))), none] [] σ _
  refine V_aldn3 a_L_setPrice_0 ?_
  refine V_iconst a_L_setPrice_1 ?_
  refine V_aldn0 a_L_setPrice_2 ?_
  refine V_ildn1 a_L_setPrice_3 ?_
  refine V_ildn2 a_L_setPrice_4 ?_
  skip
  refine V_try (b := 0) (bs := 0) (as := [vI p1, vI p2]) (rest := [vI 0, vR (some (70, 0))]) a_L_setPrice_5 c_L_48 h rfl (by decide) rfl (by exact Nat.le_of_ble_eq_true rfl) (by exact Nat.le_of_ble_eq_true rfl) rfl (fun e0 τ hc => ?_) (fun j E hj => ?_)
  · subst e0
    refine V_i2lM a_L_setPrice_8 ?_
    refine V_last a_L_setPrice_9 rfl (by omega) ?_
    refine V_goto a_L_setPrice_10 ?_
    refine V_iconst a_L_setPrice_21 ?_
    exact V_iret a_L_setPrice_22 (⟨rfl, wq0 hc⟩)
  · match j, hj with
    | 0, hj =>
      cases hj
      refine ⟨by decide +kernel, 13, by decide +kernel, fun hk τ q hc => ?_⟩
      have hk : κ = 1 := hk.trans (by decide)
      subst hk
      refine V_ast4 a_L_setPrice_13 ?_
      refine V_iconst a_L_setPrice_15 ?_
      exact V_iret a_L_setPrice_16 (⟨rfl, wq1 hc (by decide)⟩)
    | 1, hj =>
      cases hj
      refine ⟨by decide +kernel, 17, by decide +kernel, fun hk τ q hc => ?_⟩
      have hk : κ = 2 := hk.trans (by decide)
      subst hk
      refine V_ast4 a_L_setPrice_17 ?_
      refine V_iconst a_L_setPrice_19 ?_
      exact V_iret a_L_setPrice_20 (⟨rfl, wq1 hc (by decide)⟩)
    | j + 2, hj => cases hj
theorem W_setRate {p1 p2 : Int} {κ D' : Int} {v : Int} {s' : Lsv} (h : Cq m_X10_setRate [vI p1, vI p2] σ [xIOB, xIAE] κ (vI v) D' s') : Cv m_L_setRate 16 61 419 [vR (some (10, 0)), vI p1, vI p2, vR (some (70, 0))] σ (some (vI κ)) (Wq σ κ (v.bmod (2 ^ 32)) D' s') := by
  show V _ 16 61 419 0 [some (vR (some (10, 0))), some (vI p1), some (vI p2), some (vR (some (70, 0))), none] [] σ _
  refine V_aldn3 a_L_setRate_0 ?_
  refine V_iconst a_L_setRate_1 ?_
  refine V_aldn0 a_L_setRate_2 ?_
  refine V_ildn1 a_L_setRate_3 ?_
  refine V_ildn2 a_L_setRate_4 ?_
  skip
  refine V_try (b := 0) (bs := 0) (as := [vI p1, vI p2]) (rest := [vI 0, vR (some (70, 0))]) a_L_setRate_5 c_L_51 h rfl (by decide) rfl (by exact Nat.le_of_ble_eq_true rfl) (by exact Nat.le_of_ble_eq_true rfl) rfl (fun e0 τ hc => ?_) (fun j E hj => ?_)
  · subst e0
    refine V_i2lM a_L_setRate_8 ?_
    refine V_last a_L_setRate_9 rfl (by omega) ?_
    refine V_goto a_L_setRate_10 ?_
    refine V_iconst a_L_setRate_21 ?_
    exact V_iret a_L_setRate_22 (⟨rfl, wq0 hc⟩)
  · match j, hj with
    | 0, hj =>
      cases hj
      refine ⟨by decide +kernel, 13, by decide +kernel, fun hk τ q hc => ?_⟩
      have hk : κ = 1 := hk.trans (by decide)
      subst hk
      refine V_ast4 a_L_setRate_13 ?_
      refine V_iconst a_L_setRate_15 ?_
      exact V_iret a_L_setRate_16 (⟨rfl, wq1 hc (by decide)⟩)
    | 1, hj =>
      cases hj
      refine ⟨by decide +kernel, 17, by decide +kernel, fun hk τ q hc => ?_⟩
      have hk : κ = 2 := hk.trans (by decide)
      subst hk
      refine V_ast4 a_L_setRate_17 ?_
      refine V_iconst a_L_setRate_19 ?_
      exact V_iret a_L_setRate_20 (⟨rfl, wq1 hc (by decide)⟩)
    | j + 2, hj => cases hj
theorem W_setLimit {p1 p2 : Int} {κ D' : Int} {v : Int} {s' : Lsv} (h : Cq m_X10_setLimit [vI p1, vI p2] σ [xIOB, xIAE] κ (vI v) D' s') : Cv m_L_setLimit 16 61 419 [vR (some (10, 0)), vI p1, vI p2, vR (some (70, 0))] σ (some (vI κ)) (Wq σ κ (v.bmod (2 ^ 32)) D' s') := by
  show V _ 16 61 419 0 [some (vR (some (10, 0))), some (vI p1), some (vI p2), some (vR (some (70, 0))), none] [] σ _
  refine V_aldn3 a_L_setLimit_0 ?_
  refine V_iconst a_L_setLimit_1 ?_
  refine V_aldn0 a_L_setLimit_2 ?_
  refine V_ildn1 a_L_setLimit_3 ?_
  refine V_ildn2 a_L_setLimit_4 ?_
  skip
  refine V_try (b := 0) (bs := 0) (as := [vI p1, vI p2]) (rest := [vI 0, vR (some (70, 0))]) a_L_setLimit_5 c_L_54 h rfl (by decide) rfl (by exact Nat.le_of_ble_eq_true rfl) (by exact Nat.le_of_ble_eq_true rfl) rfl (fun e0 τ hc => ?_) (fun j E hj => ?_)
  · subst e0
    refine V_i2lM a_L_setLimit_8 ?_
    refine V_last a_L_setLimit_9 rfl (by omega) ?_
    refine V_goto a_L_setLimit_10 ?_
    refine V_iconst a_L_setLimit_21 ?_
    exact V_iret a_L_setLimit_22 (⟨rfl, wq0 hc⟩)
  · match j, hj with
    | 0, hj =>
      cases hj
      refine ⟨by decide +kernel, 13, by decide +kernel, fun hk τ q hc => ?_⟩
      have hk : κ = 1 := hk.trans (by decide)
      subst hk
      refine V_ast4 a_L_setLimit_13 ?_
      refine V_iconst a_L_setLimit_15 ?_
      exact V_iret a_L_setLimit_16 (⟨rfl, wq1 hc (by decide)⟩)
    | 1, hj =>
      cases hj
      refine ⟨by decide +kernel, 17, by decide +kernel, fun hk τ q hc => ?_⟩
      have hk : κ = 2 := hk.trans (by decide)
      subst hk
      refine V_ast4 a_L_setLimit_17 ?_
      refine V_iconst a_L_setLimit_19 ?_
      exact V_iret a_L_setLimit_20 (⟨rfl, wq1 hc (by decide)⟩)
    | j + 2, hj => cases hj
theorem W_setPolicy {p1 : Int} {κ D' : Int} {v : Int} {s' : Lsv} (h : Cq m_X10_setPolicy [vI p1] σ [xIAE] κ (vI v) D' s') : Cv m_L_setPolicy 16 61 419 [vR (some (10, 0)), vI p1, vR (some (70, 0))] σ (some (vI κ)) (Wq σ κ (v.bmod (2 ^ 32)) D' s') := by
  show V _ 16 61 419 0 [some (vR (some (10, 0))), some (vI p1), some (vR (some (70, 0))), none] [] σ _
  refine V_aldn2 a_L_setPolicy_0 ?_
  refine V_iconst a_L_setPolicy_1 ?_
  refine V_aldn0 a_L_setPolicy_2 ?_
  refine V_ildn1 a_L_setPolicy_3 ?_
  skip
  refine V_try (b := 0) (bs := 0) (as := [vI p1]) (rest := [vI 0, vR (some (70, 0))]) a_L_setPolicy_4 c_L_57 h rfl (by decide) rfl (by exact Nat.le_of_ble_eq_true rfl) (by exact Nat.le_of_ble_eq_true rfl) rfl (fun e0 τ hc => ?_) (fun j E hj => ?_)
  · subst e0
    refine V_i2lM a_L_setPolicy_7 ?_
    refine V_last a_L_setPolicy_8 rfl (by omega) ?_
    refine V_goto a_L_setPolicy_9 ?_
    refine V_iconst a_L_setPolicy_15 ?_
    exact V_iret a_L_setPolicy_16 (⟨rfl, wq0 hc⟩)
  · match j, hj with
    | 0, hj =>
      cases hj
      refine ⟨by decide +kernel, 12, by decide +kernel, fun hk τ q hc => ?_⟩
      have hk : κ = 1 := hk.trans (by decide)
      subst hk
      refine V_astn3 a_L_setPolicy_12 ?_
      refine V_iconst a_L_setPolicy_13 ?_
      exact V_iret a_L_setPolicy_14 (⟨rfl, wq1 hc (by decide)⟩)
    | j + 1, hj => cases hj
theorem W_count {p1 : Int} {κ D' : Int} {v : Int} {s' : Lsv} (h : Cq m_X10_count [vI p1] σ [xIAE] κ (vI v) D' s') : Cv m_L_count 16 61 419 [vR (some (10, 0)), vI p1, vR (some (70, 0))] σ (some (vI κ)) (Wq σ κ (v.bmod (2 ^ 32)) D' s') := by
  show V _ 16 61 419 0 [some (vR (some (10, 0))), some (vI p1), some (vR (some (70, 0))), none] [] σ _
  refine V_aldn2 a_L_count_0 ?_
  refine V_iconst a_L_count_1 ?_
  refine V_aldn0 a_L_count_2 ?_
  refine V_ildn1 a_L_count_3 ?_
  skip
  refine V_try (b := 0) (bs := 0) (as := [vI p1]) (rest := [vI 0, vR (some (70, 0))]) a_L_count_4 c_L_60 h rfl (by decide) rfl (by exact Nat.le_of_ble_eq_true rfl) (by exact Nat.le_of_ble_eq_true rfl) rfl (fun e0 τ hc => ?_) (fun j E hj => ?_)
  · subst e0
    refine V_i2lM a_L_count_7 ?_
    refine V_last a_L_count_8 rfl (by omega) ?_
    refine V_goto a_L_count_9 ?_
    refine V_iconst a_L_count_15 ?_
    exact V_iret a_L_count_16 (⟨rfl, wq0 hc⟩)
  · match j, hj with
    | 0, hj =>
      cases hj
      refine ⟨by decide +kernel, 12, by decide +kernel, fun hk τ q hc => ?_⟩
      have hk : κ = 1 := hk.trans (by decide)
      subst hk
      refine V_astn3 a_L_count_12 ?_
      refine V_iconst a_L_count_13 ?_
      exact V_iret a_L_count_14 (⟨rfl, wq1 hc (by decide)⟩)
    | j + 1, hj => cases hj
theorem W_security {p1 p2 : Int} {κ D' : Int} {v : Int} {s' : Lsv} (h : Cq m_X10_security [vI p1, vI p2] σ [xIOB, xIAE] κ (vI v) D' s') : Cv m_L_security 16 61 419 [vR (some (10, 0)), vI p1, vI p2, vR (some (70, 0))] σ (some (vI κ)) (Wq σ κ (v.bmod (2 ^ 32)) D' s') := by
  show V _ 16 61 419 0 [some (vR (some (10, 0))), some (vI p1), some (vI p2), some (vR (some (70, 0))), none] [] σ _
  refine V_aldn3 a_L_security_0 ?_
  refine V_iconst a_L_security_1 ?_
  refine V_aldn0 a_L_security_2 ?_
  refine V_ildn1 a_L_security_3 ?_
  refine V_ildn2 a_L_security_4 ?_
  skip
  refine V_try (b := 0) (bs := 0) (as := [vI p1, vI p2]) (rest := [vI 0, vR (some (70, 0))]) a_L_security_5 c_L_63 h rfl (by decide) rfl (by exact Nat.le_of_ble_eq_true rfl) (by exact Nat.le_of_ble_eq_true rfl) rfl (fun e0 τ hc => ?_) (fun j E hj => ?_)
  · subst e0
    refine V_i2lM a_L_security_8 ?_
    refine V_last a_L_security_9 rfl (by omega) ?_
    refine V_goto a_L_security_10 ?_
    refine V_iconst a_L_security_21 ?_
    exact V_iret a_L_security_22 (⟨rfl, wq0 hc⟩)
  · match j, hj with
    | 0, hj =>
      cases hj
      refine ⟨by decide +kernel, 13, by decide +kernel, fun hk τ q hc => ?_⟩
      have hk : κ = 1 := hk.trans (by decide)
      subst hk
      refine V_ast4 a_L_security_13 ?_
      refine V_iconst a_L_security_15 ?_
      exact V_iret a_L_security_16 (⟨rfl, wq1 hc (by decide)⟩)
    | 1, hj =>
      cases hj
      refine ⟨by decide +kernel, 17, by decide +kernel, fun hk τ q hc => ?_⟩
      have hk : κ = 2 := hk.trans (by decide)
      subst hk
      refine V_ast4 a_L_security_17 ?_
      refine V_iconst a_L_security_19 ?_
      exact V_iret a_L_security_20 (⟨rfl, wq1 hc (by decide)⟩)
    | j + 2, hj => cases hj
theorem W_lender {p1 p2 : Int} {κ D' : Int} {v : Int} {s' : Lsv} (h : Cq m_X10_lender [vI p1, vI p2] σ [xIOB, xIAE] κ (vI v) D' s') : Cv m_L_lender 16 61 419 [vR (some (10, 0)), vI p1, vI p2, vR (some (70, 0))] σ (some (vI κ)) (Wq σ κ (v.bmod (2 ^ 32)) D' s') := by
  show V _ 16 61 419 0 [some (vR (some (10, 0))), some (vI p1), some (vI p2), some (vR (some (70, 0))), none] [] σ _
  refine V_aldn3 a_L_lender_0 ?_
  refine V_iconst a_L_lender_1 ?_
  refine V_aldn0 a_L_lender_2 ?_
  refine V_ildn1 a_L_lender_3 ?_
  refine V_ildn2 a_L_lender_4 ?_
  skip
  refine V_try (b := 0) (bs := 0) (as := [vI p1, vI p2]) (rest := [vI 0, vR (some (70, 0))]) a_L_lender_5 c_L_66 h rfl (by decide) rfl (by exact Nat.le_of_ble_eq_true rfl) (by exact Nat.le_of_ble_eq_true rfl) rfl (fun e0 τ hc => ?_) (fun j E hj => ?_)
  · subst e0
    refine V_i2lM a_L_lender_8 ?_
    refine V_last a_L_lender_9 rfl (by omega) ?_
    refine V_goto a_L_lender_10 ?_
    refine V_iconst a_L_lender_21 ?_
    exact V_iret a_L_lender_22 (⟨rfl, wq0 hc⟩)
  · match j, hj with
    | 0, hj =>
      cases hj
      refine ⟨by decide +kernel, 13, by decide +kernel, fun hk τ q hc => ?_⟩
      have hk : κ = 1 := hk.trans (by decide)
      subst hk
      refine V_ast4 a_L_lender_13 ?_
      refine V_iconst a_L_lender_15 ?_
      exact V_iret a_L_lender_16 (⟨rfl, wq1 hc (by decide)⟩)
    | 1, hj =>
      cases hj
      refine ⟨by decide +kernel, 17, by decide +kernel, fun hk τ q hc => ?_⟩
      have hk : κ = 2 := hk.trans (by decide)
      subst hk
      refine V_ast4 a_L_lender_17 ?_
      refine V_iconst a_L_lender_19 ?_
      exact V_iret a_L_lender_20 (⟨rfl, wq1 hc (by decide)⟩)
    | j + 2, hj => cases hj
theorem W_credit {p1 : Int} {κ D' : Int} {v : Int} {s' : Lsv} (h : Cq m_X10_credit [vI p1] σ [xIOB] κ (vI v) D' s') : Cv m_L_credit 16 61 419 [vR (some (10, 0)), vI p1, vR (some (70, 0))] σ (some (vI κ)) (Wq σ κ (v.bmod (2 ^ 32)) D' s') := by
  show V _ 16 61 419 0 [some (vR (some (10, 0))), some (vI p1), some (vR (some (70, 0))), none] [] σ _
  refine V_aldn2 a_L_credit_0 ?_
  refine V_iconst a_L_credit_1 ?_
  refine V_aldn0 a_L_credit_2 ?_
  refine V_ildn1 a_L_credit_3 ?_
  skip
  refine V_try (b := 0) (bs := 0) (as := [vI p1]) (rest := [vI 0, vR (some (70, 0))]) a_L_credit_4 c_L_69 h rfl (by decide) rfl (by exact Nat.le_of_ble_eq_true rfl) (by exact Nat.le_of_ble_eq_true rfl) rfl (fun e0 τ hc => ?_) (fun j E hj => ?_)
  · subst e0
    refine V_i2lM a_L_credit_7 ?_
    refine V_last a_L_credit_8 rfl (by omega) ?_
    refine V_goto a_L_credit_9 ?_
    refine V_iconst a_L_credit_15 ?_
    exact V_iret a_L_credit_16 (⟨rfl, wq0 hc⟩)
  · match j, hj with
    | 0, hj =>
      cases hj
      refine ⟨by decide +kernel, 12, by decide +kernel, fun hk τ q hc => ?_⟩
      have hk : κ = 1 := hk.trans (by decide)
      subst hk
      refine V_astn3 a_L_credit_12 ?_
      refine V_iconst a_L_credit_13 ?_
      exact V_iret a_L_credit_14 (⟨rfl, wq1 hc (by decide)⟩)
    | j + 1, hj => cases hj
theorem W_holding {p1 p2 : Int} {κ D' : Int} {v : Int} {s' : Lsv} (h : Cq m_X10_holding [vI p1, vI p2] σ [xIOB] κ (vI v) D' s') : Cv m_L_holding 16 61 419 [vR (some (10, 0)), vI p1, vI p2, vR (some (70, 0))] σ (some (vI κ)) (Wq σ κ (v.bmod (2 ^ 32)) D' s') := by
  show V _ 16 61 419 0 [some (vR (some (10, 0))), some (vI p1), some (vI p2), some (vR (some (70, 0))), none] [] σ _
  refine V_aldn3 a_L_holding_0 ?_
  refine V_iconst a_L_holding_1 ?_
  refine V_aldn0 a_L_holding_2 ?_
  refine V_ildn1 a_L_holding_3 ?_
  refine V_ildn2 a_L_holding_4 ?_
  skip
  refine V_try (b := 0) (bs := 0) (as := [vI p1, vI p2]) (rest := [vI 0, vR (some (70, 0))]) a_L_holding_5 c_L_72 h rfl (by decide) rfl (by exact Nat.le_of_ble_eq_true rfl) (by exact Nat.le_of_ble_eq_true rfl) rfl (fun e0 τ hc => ?_) (fun j E hj => ?_)
  · subst e0
    refine V_i2lM a_L_holding_8 ?_
    refine V_last a_L_holding_9 rfl (by omega) ?_
    refine V_goto a_L_holding_10 ?_
    refine V_iconst a_L_holding_17 ?_
    exact V_iret a_L_holding_18 (⟨rfl, wq0 hc⟩)
  · match j, hj with
    | 0, hj =>
      cases hj
      refine ⟨by decide +kernel, 13, by decide +kernel, fun hk τ q hc => ?_⟩
      have hk : κ = 1 := hk.trans (by decide)
      subst hk
      refine V_ast4 a_L_holding_13 ?_
      refine V_iconst a_L_holding_15 ?_
      exact V_iret a_L_holding_16 (⟨rfl, wq1 hc (by decide)⟩)
    | j + 1, hj => cases hj
theorem W_onLoan {p1 p2 : Int} {κ D' : Int} {v : Int} {s' : Lsv} (h : Cq m_X10_onLoan [vI p1, vI p2] σ [xIOB] κ (vI v) D' s') : Cv m_L_onLoan 16 61 419 [vR (some (10, 0)), vI p1, vI p2, vR (some (70, 0))] σ (some (vI κ)) (Wq σ κ (v.bmod (2 ^ 32)) D' s') := by
  show V _ 16 61 419 0 [some (vR (some (10, 0))), some (vI p1), some (vI p2), some (vR (some (70, 0))), none] [] σ _
  refine V_aldn3 a_L_onLoan_0 ?_
  refine V_iconst a_L_onLoan_1 ?_
  refine V_aldn0 a_L_onLoan_2 ?_
  refine V_ildn1 a_L_onLoan_3 ?_
  refine V_ildn2 a_L_onLoan_4 ?_
  skip
  refine V_try (b := 0) (bs := 0) (as := [vI p1, vI p2]) (rest := [vI 0, vR (some (70, 0))]) a_L_onLoan_5 c_L_75 h rfl (by decide) rfl (by exact Nat.le_of_ble_eq_true rfl) (by exact Nat.le_of_ble_eq_true rfl) rfl (fun e0 τ hc => ?_) (fun j E hj => ?_)
  · subst e0
    refine V_i2lM a_L_onLoan_8 ?_
    refine V_last a_L_onLoan_9 rfl (by omega) ?_
    refine V_goto a_L_onLoan_10 ?_
    refine V_iconst a_L_onLoan_17 ?_
    exact V_iret a_L_onLoan_18 (⟨rfl, wq0 hc⟩)
  · match j, hj with
    | 0, hj =>
      cases hj
      refine ⟨by decide +kernel, 13, by decide +kernel, fun hk τ q hc => ?_⟩
      have hk : κ = 1 := hk.trans (by decide)
      subst hk
      refine V_ast4 a_L_onLoan_13 ?_
      refine V_iconst a_L_onLoan_15 ?_
      exact V_iret a_L_onLoan_16 (⟨rfl, wq1 hc (by decide)⟩)
    | j + 1, hj => cases hj
theorem W_available {p1 p2 : Int} {κ D' : Int} {v : Int} {s' : Lsv} (h : Cq m_X10_available [vI p1, vI p2] σ [xIOB] κ (vI v) D' s') : Cv m_L_available 16 61 419 [vR (some (10, 0)), vI p1, vI p2, vR (some (70, 0))] σ (some (vI κ)) (Wq σ κ (v.bmod (2 ^ 32)) D' s') := by
  show V _ 16 61 419 0 [some (vR (some (10, 0))), some (vI p1), some (vI p2), some (vR (some (70, 0))), none] [] σ _
  refine V_aldn3 a_L_available_0 ?_
  refine V_iconst a_L_available_1 ?_
  refine V_aldn0 a_L_available_2 ?_
  refine V_ildn1 a_L_available_3 ?_
  refine V_ildn2 a_L_available_4 ?_
  skip
  refine V_try (b := 0) (bs := 0) (as := [vI p1, vI p2]) (rest := [vI 0, vR (some (70, 0))]) a_L_available_5 c_L_78 h rfl (by decide) rfl (by exact Nat.le_of_ble_eq_true rfl) (by exact Nat.le_of_ble_eq_true rfl) rfl (fun e0 τ hc => ?_) (fun j E hj => ?_)
  · subst e0
    refine V_i2lM a_L_available_8 ?_
    refine V_last a_L_available_9 rfl (by omega) ?_
    refine V_goto a_L_available_10 ?_
    refine V_iconst a_L_available_17 ?_
    exact V_iret a_L_available_18 (⟨rfl, wq0 hc⟩)
  · match j, hj with
    | 0, hj =>
      cases hj
      refine ⟨by decide +kernel, 13, by decide +kernel, fun hk τ q hc => ?_⟩
      have hk : κ = 1 := hk.trans (by decide)
      subst hk
      refine V_ast4 a_L_available_13 ?_
      refine V_iconst a_L_available_15 ?_
      exact V_iret a_L_available_16 (⟨rfl, wq1 hc (by decide)⟩)
    | j + 1, hj => cases hj
theorem W_pooled {p1 : Int} {κ D' : Int} {v : Int} {s' : Lsv} (h : Cq m_X10_pooled [vI p1] σ [xIOB] κ (vI v) D' s') : Cv m_L_pooled 16 61 419 [vR (some (10, 0)), vI p1, vR (some (70, 0))] σ (some (vI κ)) (Wq σ κ (v.bmod (2 ^ 32)) D' s') := by
  show V _ 16 61 419 0 [some (vR (some (10, 0))), some (vI p1), some (vR (some (70, 0))), none] [] σ _
  refine V_aldn2 a_L_pooled_0 ?_
  refine V_iconst a_L_pooled_1 ?_
  refine V_aldn0 a_L_pooled_2 ?_
  refine V_ildn1 a_L_pooled_3 ?_
  skip
  refine V_try (b := 0) (bs := 0) (as := [vI p1]) (rest := [vI 0, vR (some (70, 0))]) a_L_pooled_4 c_L_81 h rfl (by decide) rfl (by exact Nat.le_of_ble_eq_true rfl) (by exact Nat.le_of_ble_eq_true rfl) rfl (fun e0 τ hc => ?_) (fun j E hj => ?_)
  · subst e0
    refine V_i2lM a_L_pooled_7 ?_
    refine V_last a_L_pooled_8 rfl (by omega) ?_
    refine V_goto a_L_pooled_9 ?_
    refine V_iconst a_L_pooled_15 ?_
    exact V_iret a_L_pooled_16 (⟨rfl, wq0 hc⟩)
  · match j, hj with
    | 0, hj =>
      cases hj
      refine ⟨by decide +kernel, 12, by decide +kernel, fun hk τ q hc => ?_⟩
      have hk : κ = 1 := hk.trans (by decide)
      subst hk
      refine V_astn3 a_L_pooled_12 ?_
      refine V_iconst a_L_pooled_13 ?_
      exact V_iret a_L_pooled_14 (⟨rfl, wq1 hc (by decide)⟩)
    | j + 1, hj => cases hj
theorem W_utilization {p1 : Int} {κ D' : Int} {v : UInt64} {s' : Lsv} (h : Cq m_X10_utilization [vI p1] σ [xIOB, xARI] κ (vD v) D' s') : Cv m_L_utilization 16 61 419 [vR (some (10, 0)), vI p1, vR (some (71, 0))] σ (some (vI κ)) (WqD σ κ v D' s') := by
  show V _ 16 61 419 0 [some (vR (some (10, 0))), some (vI p1), some (vR (some (71, 0))), none] [] σ _
  refine V_aldn2 a_L_utilization_0 ?_
  refine V_iconst a_L_utilization_1 ?_
  refine V_aldn0 a_L_utilization_2 ?_
  refine V_ildn1 a_L_utilization_3 ?_
  skip
  refine V_try (b := 0) (bs := 0) (as := [vI p1]) (rest := [vI 0, vR (some (71, 0))]) a_L_utilization_4 c_L_84 h rfl (by decide) rfl (by exact Nat.le_of_ble_eq_true rfl) (by exact Nat.le_of_ble_eq_true rfl) rfl (fun e0 τ hc => ?_) (fun j E hj => ?_)
  · subst e0
    refine V_dast a_L_utilization_7 rfl (by omega) ?_
    refine V_goto a_L_utilization_8 ?_
    refine V_iconst a_L_utilization_17 ?_
    exact V_iret a_L_utilization_18 (⟨rfl, wq0D hc⟩)
  · match j, hj with
    | 0, hj =>
      cases hj
      refine ⟨by decide +kernel, 11, by decide +kernel, fun hk τ q hc => ?_⟩
      have hk : κ = 1 := hk.trans (by decide)
      subst hk
      refine V_astn3 a_L_utilization_11 ?_
      refine V_iconst a_L_utilization_12 ?_
      exact V_iret a_L_utilization_13 (⟨rfl, wq1D hc (by decide)⟩)
    | 1, hj =>
      cases hj
      refine ⟨by decide +kernel, 14, by decide +kernel, fun hk τ q hc => ?_⟩
      have hk : κ = 2 := hk.trans (by decide)
      subst hk
      refine V_astn3 a_L_utilization_14 ?_
      refine V_iconst a_L_utilization_15 ?_
      exact V_iret a_L_utilization_16 (⟨rfl, wq1D hc (by decide)⟩)
    | j + 2, hj => cases hj
theorem W_exposure {p1 : Int} {κ D' : Int} {v : Int} {s' : Lsv} (h : Cq m_X10_exposure [vI p1] σ [xIOB] κ (vL v) D' s') : Cv m_L_exposure 16 61 419 [vR (some (10, 0)), vI p1, vR (some (70, 0))] σ (some (vI κ)) (Wq σ κ v D' s') := by
  show V _ 16 61 419 0 [some (vR (some (10, 0))), some (vI p1), some (vR (some (70, 0))), none] [] σ _
  refine V_aldn2 a_L_exposure_0 ?_
  refine V_iconst a_L_exposure_1 ?_
  refine V_aldn0 a_L_exposure_2 ?_
  refine V_ildn1 a_L_exposure_3 ?_
  skip
  refine V_try (b := 0) (bs := 0) (as := [vI p1]) (rest := [vI 0, vR (some (70, 0))]) a_L_exposure_4 c_L_90 h rfl (by decide) rfl (by exact Nat.le_of_ble_eq_true rfl) (by exact Nat.le_of_ble_eq_true rfl) rfl (fun e0 τ hc => ?_) (fun j E hj => ?_)
  · subst e0
    refine V_last a_L_exposure_7 rfl (by omega) ?_
    refine V_goto a_L_exposure_8 ?_
    refine V_iconst a_L_exposure_14 ?_
    exact V_iret a_L_exposure_15 (⟨rfl, wq0 hc⟩)
  · match j, hj with
    | 0, hj =>
      cases hj
      refine ⟨by decide +kernel, 11, by decide +kernel, fun hk τ q hc => ?_⟩
      have hk : κ = 1 := hk.trans (by decide)
      subst hk
      refine V_astn3 a_L_exposure_11 ?_
      refine V_iconst a_L_exposure_12 ?_
      exact V_iret a_L_exposure_13 (⟨rfl, wq1 hc (by decide)⟩)
    | j + 1, hj => cases hj
theorem W_account {p1 p2 : Int} {κ D' : Int} {v : Int} {s' : Lsv} (h : Cq m_X10_account [vI p1, vI p2] σ [xIAE] κ (vL v) D' s') : Cv m_L_account 16 61 419 [vR (some (10, 0)), vI p1, vI p2, vR (some (70, 0))] σ (some (vI κ)) (Wq σ κ v D' s') := by
  show V _ 16 61 419 0 [some (vR (some (10, 0))), some (vI p1), some (vI p2), some (vR (some (70, 0))), none] [] σ _
  refine V_aldn3 a_L_account_0 ?_
  refine V_iconst a_L_account_1 ?_
  refine V_aldn0 a_L_account_2 ?_
  refine V_ildn1 a_L_account_3 ?_
  refine V_ildn2 a_L_account_4 ?_
  skip
  refine V_try (b := 0) (bs := 0) (as := [vI p1, vI p2]) (rest := [vI 0, vR (some (70, 0))]) a_L_account_5 c_L_94 h rfl (by decide) rfl (by exact Nat.le_of_ble_eq_true rfl) (by exact Nat.le_of_ble_eq_true rfl) rfl (fun e0 τ hc => ?_) (fun j E hj => ?_)
  · subst e0
    refine V_last a_L_account_8 rfl (by omega) ?_
    refine V_goto a_L_account_9 ?_
    refine V_iconst a_L_account_16 ?_
    exact V_iret a_L_account_17 (⟨rfl, wq0 hc⟩)
  · match j, hj with
    | 0, hj =>
      cases hj
      refine ⟨by decide +kernel, 12, by decide +kernel, fun hk τ q hc => ?_⟩
      have hk : κ = 1 := hk.trans (by decide)
      subst hk
      refine V_ast4 a_L_account_12 ?_
      refine V_iconst a_L_account_14 ?_
      exact V_iret a_L_account_15 (⟨rfl, wq1 hc (by decide)⟩)
    | j + 1, hj => cases hj
end Ww

