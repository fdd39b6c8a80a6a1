section Q1
variable {D : Int} {σ : Hp} {s : Lsv}
theorem X_holding0 {l c : Int} (h : CIv D σ s) (hk : (0 ≤ l ∧ l < s.1 1) ∧ 0 ≤ c ∧ c < s.1 0) : Rt m_X10_holding 10 0 0 [vR (some (10, 0)), vI l, vI c] σ (some (vI (s.1 (49 + 4 * l + c)))) σ := by
  have hc := h.1
  have hW := hc.2.1
  have hI := hc.2.2.2.2
  have hn := hI.n
  have r1 := R_needLS0 hc hk.1 hk.2
  have r2 := R_heldBy (i := 0) (l := l) (s := c) hW (by omega) (by omega) (hc.2.2.1.held hk.1.1 (by omega) hk.2.1 (by omega))
  show V _ 10 0 0 0 [some (vR (some (10, 0))), some (vI l), some (vI c)] [] σ _
  refine V_aldn0 a_X10_holding_0 ?_
  refine V_ildn1 a_X10_holding_1 ?_
  refine V_ildn2 a_X10_holding_2 ?_
  refine V_v2V a_X10_holding_3 c_X10_215 r1 ?_
  refine V_aldn0 a_X10_holding_6 ?_
  refine V_fin a_X10_holding_7 f_X10_61 rfl hW ?_
  refine V_ildn1 a_X10_holding_10 ?_
  refine V_ildn2 a_X10_holding_11 ?_
  refine V_v2R a_X10_holding_12 c_X10_158 r2 ?_
  exact V_iret a_X10_holding_15 (⟨rfl, rfl⟩)
theorem X_holding1 {l c : Int} (h : CIv D σ s) (il : iR l) (ic : iR c) (hk : ¬ ((0 ≤ l ∧ l < s.1 1) ∧ 0 ≤ c ∧ c < s.1 0)) : Tr m_X10_holding 10 1 6 [vR (some (10, 0)), vI l, vI c] σ xIOB σ := by
  have r1 := R_needLS1 h.1 hk il ic
  show V _ 10 1 6 0 [some (vR (some (10, 0))), some (vI l), some (vI c)] [] σ _
  refine V_aldn0 a_X10_holding_0 ?_
  refine V_ildn1 a_X10_holding_1 ?_
  refine V_ildn2 a_X10_holding_2 ?_
  exact V_v2Q a_X10_holding_3 c_X10_215 (r1) (fun v τ hq => by cases hq.1) (fun E τ hq => by obtain ⟨h1, hq⟩ := hq; cases h1; exact ⟨rfl, hq⟩)
theorem X_onLoan0 {l c : Int} (h : CIv D σ s) (hk : (0 ≤ l ∧ l < s.1 1) ∧ 0 ≤ c ∧ c < s.1 0) : Rt m_X10_onLoan 10 0 0 [vR (some (10, 0)), vI l, vI c] σ (some (vI (lentA s.1 l c))) σ := by
  have hc := h.1
  have hW := hc.2.1
  have hI := hc.2.2.2.2
  have hn := hI.n
  have r1 := R_needLS0 hc hk.1 hk.2
  have r2 := R_ClentBy (l := l) (s := c) hc (by omega) (by unfold iR; omega)
  show V _ 10 0 0 0 [some (vR (some (10, 0))), some (vI l), some (vI c)] [] σ _
  refine V_aldn0 a_X10_onLoan_0 ?_
  refine V_ildn1 a_X10_onLoan_1 ?_
  refine V_ildn2 a_X10_onLoan_2 ?_
  refine V_v2V a_X10_onLoan_3 c_X10_215 r1 ?_
  refine V_aldn0 a_X10_onLoan_6 ?_
  refine V_fin a_X10_onLoan_7 f_X10_61 rfl hW ?_
  refine V_ildn1 a_X10_onLoan_10 ?_
  refine V_ildn2 a_X10_onLoan_11 ?_
  refine V_v2R a_X10_onLoan_12 c_X10_168 r2 ?_
  exact V_iret a_X10_onLoan_15 (⟨rfl, rfl⟩)
theorem X_onLoan1 {l c : Int} (h : CIv D σ s) (il : iR l) (ic : iR c) (hk : ¬ ((0 ≤ l ∧ l < s.1 1) ∧ 0 ≤ c ∧ c < s.1 0)) : Tr m_X10_onLoan 10 1 6 [vR (some (10, 0)), vI l, vI c] σ xIOB σ := by
  have r1 := R_needLS1 h.1 hk il ic
  show V _ 10 1 6 0 [some (vR (some (10, 0))), some (vI l), some (vI c)] [] σ _
  refine V_aldn0 a_X10_onLoan_0 ?_
  refine V_ildn1 a_X10_onLoan_1 ?_
  refine V_ildn2 a_X10_onLoan_2 ?_
  exact V_v2Q a_X10_onLoan_3 c_X10_215 (r1) (fun v τ hq => by cases hq.1) (fun E τ hq => by obtain ⟨h1, hq⟩ := hq; cases h1; exact ⟨rfl, hq⟩)
theorem X_available0 {l c : Int} (h : CIv D σ s) (hk : (0 ≤ l ∧ l < s.1 1) ∧ 0 ≤ c ∧ c < s.1 0) : Rt m_X10_available 10 0 0 [vR (some (10, 0)), vI l, vI c] σ (some (vI (freeA s.1 l c))) σ := by
  have hc := h.1
  have hW := hc.2.1
  have hI := hc.2.2.2.2
  have hn := hI.n
  have r1 := R_needLS0 hc hk.1 hk.2
  have r2 := R_CfreeOf (l := l) (s := c) hc hk.1 (by omega)
  show V _ 10 0 0 0 [some (vR (some (10, 0))), some (vI l), some (vI c)] [] σ _
  refine V_aldn0 a_X10_available_0 ?_
  refine V_ildn1 a_X10_available_1 ?_
  refine V_ildn2 a_X10_available_2 ?_
  refine V_v2V a_X10_available_3 c_X10_215 r1 ?_
  refine V_aldn0 a_X10_available_6 ?_
  refine V_fin a_X10_available_7 f_X10_61 rfl hW ?_
  refine V_ildn1 a_X10_available_10 ?_
  refine V_ildn2 a_X10_available_11 ?_
  refine V_v2R a_X10_available_12 c_X10_219 r2 ?_
  exact V_iret a_X10_available_15 (⟨rfl, rfl⟩)
theorem X_available1 {l c : Int} (h : CIv D σ s) (il : iR l) (ic : iR c) (hk : ¬ ((0 ≤ l ∧ l < s.1 1) ∧ 0 ≤ c ∧ c < s.1 0)) : Tr m_X10_available 10 1 6 [vR (some (10, 0)), vI l, vI c] σ xIOB σ := by
  have r1 := R_needLS1 h.1 hk il ic
  show V _ 10 1 6 0 [some (vR (some (10, 0))), some (vI l), some (vI c)] [] σ _
  refine V_aldn0 a_X10_available_0 ?_
  refine V_ildn1 a_X10_available_1 ?_
  refine V_ildn2 a_X10_available_2 ?_
  exact V_v2Q a_X10_available_3 c_X10_215 (r1) (fun v τ hq => by cases hq.1) (fun E τ hq => by obtain ⟨h1, hq⟩ := hq; cases h1; exact ⟨rfl, hq⟩)
theorem X_recallable0 {l c : Int} (h : CIv D σ s) (hk : (0 ≤ l ∧ l < s.1 1) ∧ 0 ≤ c ∧ c < s.1 0) : Rt m_X10_recallable 10 0 0 [vR (some (10, 0)), vI l, vI c] σ (some (vI (recbA s.1 l c))) σ := by
  have hc := h.1
  have hW := hc.2.1
  have hI := hc.2.2.2.2
  have hn := hI.n
  have r1 := R_needLS0 hc hk.1 hk.2
  have r2 := R_unrecalledOf (l := l) (s := c) hc (by omega) (by unfold iR; omega)
  show V _ 10 0 0 0 [some (vR (some (10, 0))), some (vI l), some (vI c)] [] σ _
  refine V_aldn0 a_X10_recallable_0 ?_
  refine V_ildn1 a_X10_recallable_1 ?_
  refine V_ildn2 a_X10_recallable_2 ?_
  refine V_v2V a_X10_recallable_3 c_X10_215 r1 ?_
  refine V_aldn0 a_X10_recallable_6 ?_
  refine V_fin a_X10_recallable_7 f_X10_61 rfl hW ?_
  refine V_ildn1 a_X10_recallable_10 ?_
  refine V_ildn2 a_X10_recallable_11 ?_
  refine V_v2R a_X10_recallable_12 c_X10_295 r2 ?_
  exact V_iret a_X10_recallable_15 (⟨rfl, rfl⟩)
theorem X_recallable1 {l c : Int} (h : CIv D σ s) (il : iR l) (ic : iR c) (hk : ¬ ((0 ≤ l ∧ l < s.1 1) ∧ 0 ≤ c ∧ c < s.1 0)) : Tr m_X10_recallable 10 1 6 [vR (some (10, 0)), vI l, vI c] σ xIOB σ := by
  have r1 := R_needLS1 h.1 hk il ic
  show V _ 10 1 6 0 [some (vR (some (10, 0))), some (vI l), some (vI c)] [] σ _
  refine V_aldn0 a_X10_recallable_0 ?_
  refine V_ildn1 a_X10_recallable_1 ?_
  refine V_ildn2 a_X10_recallable_2 ?_
  exact V_v2Q a_X10_recallable_3 c_X10_215 (r1) (fun v τ hq => by cases hq.1) (fun E τ hq => by obtain ⟨h1, hq⟩ := hq; cases h1; exact ⟨rfl, hq⟩)
theorem X_credit0 {c : Int} (h : CIv D σ s) (hk : 0 ≤ c ∧ c < s.1 2) : Rt m_X10_credit 10 0 0 [vR (some (10, 0)), vI c] σ (some (vI (s.1 (45 + c)))) σ := by
  have hc := h.1
  have hW := hc.2.1
  have hI := hc.2.2.2.2
  have hn := hI.n
  have r1 := R_needBor0 hc hk
  have g := hc.2.2.1.2.2.2.2.1 c hk.1 hk.2
  show V _ 10 0 0 0 [some (vR (some (10, 0))), some (vI c)] [] σ _
  refine V_aldn0 a_X10_credit_0 ?_
  refine V_ildn1 a_X10_credit_1 ?_
  refine V_v1V a_X10_credit_2 c_X10_209 r1 ?_
  refine V_aldn0 a_X10_credit_5 ?_
  refine V_fin a_X10_credit_6 f_X10_61 rfl hW ?_
  refine V_fin a_X10_credit_9 f_X10_212 rfl hW ?_
  refine V_ildn1 a_X10_credit_12 ?_
  refine V_ialdE a_X10_credit_13 rfl (by omega) g ?_
  exact V_iret a_X10_credit_14 (⟨rfl, rfl⟩)
theorem X_credit1 {c : Int} (h : CIv D σ s) (ic : iR c) (hk : ¬ (0 ≤ c ∧ c < s.1 2)) : Tr m_X10_credit 10 1 6 [vR (some (10, 0)), vI c] σ xIOB σ := by
  have r1 := R_needBor1 h.1 hk ic
  show V _ 10 1 6 0 [some (vR (some (10, 0))), some (vI c)] [] σ _
  refine V_aldn0 a_X10_credit_0 ?_
  refine V_ildn1 a_X10_credit_1 ?_
  exact V_v1Q a_X10_credit_2 c_X10_209 (r1) (fun v τ hq => by cases hq.1) (fun E τ hq => by obtain ⟨h1, hq⟩ := hq; cases h1; exact ⟨rfl, hq⟩)
theorem X_pooled0 {c : Int} (h : CIv D σ s) (hk : 0 ≤ c ∧ c < s.1 0) : Rt m_X10_pooled 10 0 0 [vR (some (10, 0)), vI c] σ (some (vI (freeB s.1 (-1) c))) σ := by
  have hc := h.1
  have hW := hc.2.1
  have hI := hc.2.2.2.2
  have hn := hI.n
  have r1 := R_needSec0 hc hk
  have r2 := R_freeOfAll (s := c) hc (by omega)
  show V _ 10 0 0 0 [some (vR (some (10, 0))), some (vI c)] [] σ _
  refine V_aldn0 a_X10_pooled_0 ?_
  refine V_ildn1 a_X10_pooled_1 ?_
  refine V_v1V a_X10_pooled_2 c_X10_180 r1 ?_
  refine V_aldn0 a_X10_pooled_5 ?_
  refine V_fin a_X10_pooled_6 f_X10_61 rfl hW ?_
  refine V_ildn1 a_X10_pooled_9 ?_
  refine V_v1R a_X10_pooled_10 c_X10_222 r2 ?_
  exact V_iret a_X10_pooled_13 (⟨rfl, rfl⟩)
theorem X_pooled1 {c : Int} (h : CIv D σ s) (ic : iR c) (hk : ¬ (0 ≤ c ∧ c < s.1 0)) : Tr m_X10_pooled 10 1 6 [vR (some (10, 0)), vI c] σ xIOB σ := by
  have r1 := R_needSec1 h.1 hk ic
  show V _ 10 1 6 0 [some (vR (some (10, 0))), some (vI c)] [] σ _
  refine V_aldn0 a_X10_pooled_0 ?_
  refine V_ildn1 a_X10_pooled_1 ?_
  exact V_v1Q a_X10_pooled_2 c_X10_180 (r1) (fun v τ hq => by cases hq.1) (fun E τ hq => by obtain ⟨h1, hq⟩ := hq; cases h1; exact ⟨rfl, hq⟩)
theorem X_lastServed0 {c : Int} (h : CIv D σ s) (hk : 0 ≤ c ∧ c < s.1 0) : Rt m_X10_lastServed 10 0 0 [vR (some (10, 0)), vI c] σ (some (vI (s.1 (23 + c)))) σ := by
  have hc := h.1
  have hW := hc.2.1
  have hI := hc.2.2.2.2
  have hn := hI.n
  have r1 := R_needSec0 hc hk
  have g := hc.2.2.1.2.2.1 c hk.1 hk.2
  show V _ 10 0 0 0 [some (vR (some (10, 0))), some (vI c)] [] σ _
  refine V_aldn0 a_X10_lastServed_0 ?_
  refine V_ildn1 a_X10_lastServed_1 ?_
  refine V_v1V a_X10_lastServed_2 c_X10_180 r1 ?_
  refine V_aldn0 a_X10_lastServed_5 ?_
  refine V_fin a_X10_lastServed_6 f_X10_61 rfl hW ?_
  refine V_fin a_X10_lastServed_9 f_X10_382 rfl hW ?_
  refine V_ildn1 a_X10_lastServed_12 ?_
  refine V_ialdE a_X10_lastServed_13 rfl (by omega) g ?_
  exact V_iret a_X10_lastServed_14 (⟨rfl, rfl⟩)
theorem X_lastServed1 {c : Int} (h : CIv D σ s) (ic : iR c) (hk : ¬ (0 ≤ c ∧ c < s.1 0)) : Tr m_X10_lastServed 10 1 6 [vR (some (10, 0)), vI c] σ xIOB σ := by
  have r1 := R_needSec1 h.1 hk ic
  show V _ 10 1 6 0 [some (vR (some (10, 0))), some (vI c)] [] σ _
  refine V_aldn0 a_X10_lastServed_0 ?_
  refine V_ildn1 a_X10_lastServed_1 ?_
  exact V_v1Q a_X10_lastServed_2 c_X10_180 (r1) (fun v τ hq => by cases hq.1) (fun E τ hq => by obtain ⟨h1, hq⟩ := hq; cases h1; exact ⟨rfl, hq⟩)
theorem X_exposure0 {c : Int} (h : CIv D σ s) (hk : 0 ≤ c ∧ c < s.1 2) : Rt m_X10_exposure 10 0 0 [vR (some (10, 0)), vI c] σ (some (vL (expoA s.1 c))) σ := by
  have hc := h.1
  have hW := hc.2.1
  have hI := hc.2.2.2.2
  have hn := hI.n
  have r1 := R_needBor0 hc hk
  have r2 := R_owedBy (b := c) (x := -1) hc (by unfold iR; omega) (by unfold iR; omega)
  rw [ow_expo hI] at r2
  show V _ 10 0 0 0 [some (vR (some (10, 0))), some (vI c)] [] σ _
  refine V_aldn0 a_X10_exposure_0 ?_
  refine V_ildn1 a_X10_exposure_1 ?_
  refine V_v1V a_X10_exposure_2 c_X10_209 r1 ?_
  refine V_aldn0 a_X10_exposure_5 ?_
  refine V_fin a_X10_exposure_6 f_X10_61 rfl hW ?_
  refine V_ildn1 a_X10_exposure_9 ?_
  refine V_iconst a_X10_exposure_10 ?_
  refine V_v2R a_X10_exposure_11 c_X10_230 r2 ?_
  exact V_lret a_X10_exposure_14 (⟨rfl, rfl⟩)
theorem X_exposure1 {c : Int} (h : CIv D σ s) (ic : iR c) (hk : ¬ (0 ≤ c ∧ c < s.1 2)) : Tr m_X10_exposure 10 1 6 [vR (some (10, 0)), vI c] σ xIOB σ := by
  have r1 := R_needBor1 h.1 hk ic
  show V _ 10 1 6 0 [some (vR (some (10, 0))), some (vI c)] [] σ _
  refine V_aldn0 a_X10_exposure_0 ?_
  refine V_ildn1 a_X10_exposure_1 ?_
  exact V_v1Q a_X10_exposure_2 c_X10_209 (r1) (fun v τ hq => by cases hq.1) (fun E τ hq => by obtain ⟨h1, hq⟩ := hq; cases h1; exact ⟨rfl, hq⟩)
theorem X_count0 {w : Int} (h : CIv D σ s) (hk : 0 ≤ w ∧ w ≤ 8) : Rt m_X10_count 10 0 0 [vR (some (10, 0)), vI w] σ (some (vI (s.1 (cntI w)))) σ := by
  have hc := h.1
  have hW := hc.2.1
  have r1 := R_needRange0 (σ := σ) (x := w) (lo := 0) (hi := 8) hk (by decide) (by decide)
  have g : σ.I 36 0 w = s.1 (cntI w) := by
    obtain ⟨n0, n1, n2, n3, n4, n5, n6, n7, n8⟩ := hc.2.2.1.1
    have c : w = 0 ∨ w = 1 ∨ w = 2 ∨ w = 3 ∨ w = 4 ∨ w = 5 ∨ w = 6 ∨ w = 7 ∨ w = 8 := by omega
    rcases c with rfl | rfl | rfl | rfl | rfl | rfl | rfl | rfl | rfl
    · exact n0
    · exact n1
    · exact n2
    · exact n3
    · exact n4
    · exact n5
    · exact n6
    · exact n7
    · exact n8
  show V _ 10 0 0 0 [some (vR (some (10, 0))), some (vI w)] [] σ _
  refine V_ildn1 a_X10_count_0 ?_
  refine V_iconst a_X10_count_1 ?_
  refine V_bipush a_X10_count_2 (by decide) ?_
  refine V_s3V a_X10_count_4 c_X10_183 r1 ?_
  refine V_aldn0 a_X10_count_7 ?_
  refine V_fin a_X10_count_8 f_X10_61 rfl hW ?_
  refine V_fin a_X10_count_11 f_X10_196 rfl hW ?_
  refine V_ildn1 a_X10_count_14 ?_
  refine V_ialdE a_X10_count_15 rfl (by omega) g ?_
  exact V_iret a_X10_count_16 (⟨rfl, rfl⟩)
theorem X_count1 {w : Int} (iw : iR w) (hk : ¬ (0 ≤ w ∧ w ≤ 8)) : Tr m_X10_count 10 1 6 [vR (some (10, 0)), vI w] σ xIAE σ := by
  have r1 := R_needRange1 (σ := σ) (x := w) (lo := 0) (hi := 8) hk iw (by decide) (by decide)
  show V _ 10 1 6 0 [some (vR (some (10, 0))), some (vI w)] [] σ _
  refine V_ildn1 a_X10_count_0 ?_
  refine V_iconst a_X10_count_1 ?_
  refine V_bipush a_X10_count_2 (by decide) ?_
  exact V_s3Q a_X10_count_4 c_X10_183 (r1) (fun v τ hq => by cases hq.1) (fun E τ hq => by obtain ⟨h1, hq⟩ := hq; cases h1; exact ⟨rfl, hq⟩)
theorem X_security0 {c w : Int} (h : CIv D σ s) (hk : (0 ≤ c ∧ c < s.1 0) ∧ 0 ≤ w ∧ w ≤ 1) : Rt m_X10_security 10 0 0 [vR (some (10, 0)), vI c, vI w] σ (some (vI (if w = 0 then s.1 (15 + c) else s.1 (19 + c)))) σ := by
  have hc := h.1
  have hW := hc.2.1
  have hn := hc.2.2.2.2.n
  have r1 := R_needSec0 hc hk.1
  have r2 := R_needRange0 (σ := σ) (x := w) (lo := 0) (hi := 1) hk.2 (by decide) (by decide)
  have g := hc.2.2.1.sec hk.1.1 hk.1.2
  show V _ 10 0 0 0 [some (vR (some (10, 0))), some (vI c), some (vI w)] [] σ _
  by_cases z : w = 0
  · rw [if_pos z]
    refine V_aldn0 a_X10_security_0 ?_
    refine V_ildn1 a_X10_security_1 ?_
    refine V_v1V a_X10_security_2 c_X10_180 r1 ?_
    refine V_ildn2 a_X10_security_5 ?_
    refine V_iconst a_X10_security_6 ?_
    refine V_iconst a_X10_security_7 ?_
    refine V_s3V a_X10_security_8 c_X10_183 r2 ?_
    refine V_ildn2 a_X10_security_11 ?_
    refine V_if_ne_f a_X10_security_12 (by omega) (by omega) ?_
    refine V_aldn0 a_X10_security_15 ?_
    refine V_fin a_X10_security_16 f_X10_61 rfl hW ?_
    refine V_fin a_X10_security_19 f_X10_176 rfl hW ?_
    refine V_ildn1 a_X10_security_22 ?_
    refine V_ialdE a_X10_security_23 rfl (by omega) g.1 ?_
    refine V_goto a_X10_security_24 ?_
    exact V_iret a_X10_security_36 (⟨rfl, rfl⟩)
  · rw [if_neg z]
    refine V_aldn0 a_X10_security_0 ?_
    refine V_ildn1 a_X10_security_1 ?_
    refine V_v1V a_X10_security_2 c_X10_180 r1 ?_
    refine V_ildn2 a_X10_security_5 ?_
    refine V_iconst a_X10_security_6 ?_
    refine V_iconst a_X10_security_7 ?_
    refine V_s3V a_X10_security_8 c_X10_183 r2 ?_
    refine V_ildn2 a_X10_security_11 ?_
    refine V_if_ne_t a_X10_security_12 (by omega) (by omega) ?_
    refine V_aldn0 a_X10_security_27 ?_
    refine V_fin a_X10_security_28 f_X10_61 rfl hW ?_
    refine V_fin a_X10_security_31 f_X10_187 rfl hW ?_
    refine V_ildn1 a_X10_security_34 ?_
    refine V_ialdE a_X10_security_35 rfl (by omega) g.2 ?_
    exact V_iret a_X10_security_36 (⟨rfl, rfl⟩)
theorem X_security1 {c w : Int} (h : CIv D σ s) (ic : iR c) (hk : ¬ (0 ≤ c ∧ c < s.1 0)) : Tr m_X10_security 10 1 6 [vR (some (10, 0)), vI c, vI w] σ xIOB σ := by
  have r1 := R_needSec1 h.1 hk ic
  show V _ 10 1 6 0 [some (vR (some (10, 0))), some (vI c), some (vI w)] [] σ _
  refine V_aldn0 a_X10_security_0 ?_
  refine V_ildn1 a_X10_security_1 ?_
  exact V_v1Q a_X10_security_2 c_X10_180 (r1) (fun v τ hq => by cases hq.1) (fun E τ hq => by obtain ⟨h1, hq⟩ := hq; cases h1; exact ⟨rfl, hq⟩)
theorem X_security2 {c w : Int} (h : CIv D σ s) (iw : iR w) (hk : 0 ≤ c ∧ c < s.1 0) (hw : ¬ (0 ≤ w ∧ w ≤ 1)) : Tr m_X10_security 10 1 6 [vR (some (10, 0)), vI c, vI w] σ xIAE σ := by
  have r1 := R_needSec0 h.1 hk
  have r2 := R_needRange1 (σ := σ) (x := w) (lo := 0) (hi := 1) hw iw (by decide) (by decide)
  show V _ 10 1 6 0 [some (vR (some (10, 0))), some (vI c), some (vI w)] [] σ _
  refine V_aldn0 a_X10_security_0 ?_
  refine V_ildn1 a_X10_security_1 ?_
  refine V_v1V a_X10_security_2 c_X10_180 r1 ?_
  refine V_ildn2 a_X10_security_5 ?_
  refine V_iconst a_X10_security_6 ?_
  refine V_iconst a_X10_security_7 ?_
  exact V_s3Q a_X10_security_8 c_X10_183 (r2) (fun v τ hq => by cases hq.1) (fun E τ hq => by obtain ⟨h1, hq⟩ := hq; cases h1; exact ⟨rfl, hq⟩)
theorem X_lender0 {c w : Int} (h : CIv D σ s) (hk : (0 ≤ c ∧ c < s.1 1) ∧ 0 ≤ w ∧ w ≤ 2) : Rt m_X10_lender 10 0 0 [vR (some (10, 0)), vI c, vI w] σ (some (vI (s.1 (27 + 6 * w + c)))) σ := by
  have hc := h.1
  have hW := hc.2.1
  have hn := hc.2.2.2.2.n
  have r1 := R_needLen0 hc hk.1
  have r2 := R_needRange0 (σ := σ) (x := w) (lo := 0) (hi := 2) hk.2 (by decide) (by decide)
  have g := hc.2.2.1.lend hk.1.1 hk.1.2
  show V _ 10 0 0 0 [some (vR (some (10, 0))), some (vI c), some (vI w)] [] σ _
  by_cases z : w = 0
  · rw [show 27 + 6 * w + c = 27 + c by omega]
    refine V_aldn0 a_X10_lender_0 ?_
    refine V_ildn1 a_X10_lender_1 ?_
    refine V_v1V a_X10_lender_2 c_X10_190 r1 ?_
    refine V_ildn2 a_X10_lender_5 ?_
    refine V_iconst a_X10_lender_6 ?_
    refine V_iconst a_X10_lender_7 ?_
    refine V_s3V a_X10_lender_8 c_X10_183 r2 ?_
    refine V_ildn2 a_X10_lender_11 ?_
    refine V_if_ne_f a_X10_lender_12 (by omega) (by omega) ?_
    refine V_aldn0 a_X10_lender_15 ?_
    refine V_fin a_X10_lender_16 f_X10_61 rfl hW ?_
    refine V_fin a_X10_lender_19 f_X10_203 rfl hW ?_
    refine V_ildn1 a_X10_lender_22 ?_
    refine V_ialdE a_X10_lender_23 rfl (by omega) g.1 ?_
    exact V_iret a_X10_lender_24 (⟨rfl, rfl⟩)
  · by_cases y : w = 1
    · rw [show 27 + 6 * w + c = 33 + c by omega]
      refine V_aldn0 a_X10_lender_0 ?_
      refine V_ildn1 a_X10_lender_1 ?_
      refine V_v1V a_X10_lender_2 c_X10_190 r1 ?_
      refine V_ildn2 a_X10_lender_5 ?_
      refine V_iconst a_X10_lender_6 ?_
      refine V_iconst a_X10_lender_7 ?_
      refine V_s3V a_X10_lender_8 c_X10_183 r2 ?_
      refine V_ildn2 a_X10_lender_11 ?_
      refine V_if_ne_t a_X10_lender_12 (by omega) (by omega) ?_
      refine V_ildn2 a_X10_lender_25 ?_
      refine V_iconst a_X10_lender_26 ?_
      refine V_icmp_ne_f a_X10_lender_27 (by omega) (by omega) ?_
      refine V_aldn0 a_X10_lender_30 ?_
      refine V_fin a_X10_lender_31 f_X10_61 rfl hW ?_
      refine V_fin a_X10_lender_34 f_X10_193 rfl hW ?_
      refine V_ildn1 a_X10_lender_37 ?_
      refine V_ialdE a_X10_lender_38 rfl (by omega) g.2.1 ?_
      refine V_goto a_X10_lender_39 ?_
      exact V_iret a_X10_lender_51 (⟨rfl, rfl⟩)
    · rw [show 27 + 6 * w + c = 39 + c by omega]
      refine V_aldn0 a_X10_lender_0 ?_
      refine V_ildn1 a_X10_lender_1 ?_
      refine V_v1V a_X10_lender_2 c_X10_190 r1 ?_
      refine V_ildn2 a_X10_lender_5 ?_
      refine V_iconst a_X10_lender_6 ?_
      refine V_iconst a_X10_lender_7 ?_
      refine V_s3V a_X10_lender_8 c_X10_183 r2 ?_
      refine V_ildn2 a_X10_lender_11 ?_
      refine V_if_ne_t a_X10_lender_12 (by omega) (by omega) ?_
      refine V_ildn2 a_X10_lender_25 ?_
      refine V_iconst a_X10_lender_26 ?_
      refine V_icmp_ne_t a_X10_lender_27 (by omega) (by omega) ?_
      refine V_aldn0 a_X10_lender_42 ?_
      refine V_fin a_X10_lender_43 f_X10_61 rfl hW ?_
      refine V_fin a_X10_lender_46 f_X10_206 rfl hW ?_
      refine V_ildn1 a_X10_lender_49 ?_
      refine V_ialdE a_X10_lender_50 rfl (by omega) g.2.2 ?_
      exact V_iret a_X10_lender_51 (⟨rfl, rfl⟩)
theorem X_lender1 {c w : Int} (h : CIv D σ s) (ic : iR c) (hk : ¬ (0 ≤ c ∧ c < s.1 1)) : Tr m_X10_lender 10 1 6 [vR (some (10, 0)), vI c, vI w] σ xIOB σ := by
  have r1 := R_needLen1 h.1 hk ic
  show V _ 10 1 6 0 [some (vR (some (10, 0))), some (vI c), some (vI w)] [] σ _
  refine V_aldn0 a_X10_lender_0 ?_
  refine V_ildn1 a_X10_lender_1 ?_
  exact V_v1Q a_X10_lender_2 c_X10_190 (r1) (fun v τ hq => by cases hq.1) (fun E τ hq => by obtain ⟨h1, hq⟩ := hq; cases h1; exact ⟨rfl, hq⟩)
theorem X_lender2 {c w : Int} (h : CIv D σ s) (iw : iR w) (hk : 0 ≤ c ∧ c < s.1 1) (hw : ¬ (0 ≤ w ∧ w ≤ 2)) : Tr m_X10_lender 10 1 6 [vR (some (10, 0)), vI c, vI w] σ xIAE σ := by
  have r1 := R_needLen0 h.1 hk
  have r2 := R_needRange1 (σ := σ) (x := w) (lo := 0) (hi := 2) hw iw (by decide) (by decide)
  show V _ 10 1 6 0 [some (vR (some (10, 0))), some (vI c), some (vI w)] [] σ _
  refine V_aldn0 a_X10_lender_0 ?_
  refine V_ildn1 a_X10_lender_1 ?_
  refine V_v1V a_X10_lender_2 c_X10_190 r1 ?_
  refine V_ildn2 a_X10_lender_5 ?_
  refine V_iconst a_X10_lender_6 ?_
  refine V_iconst a_X10_lender_7 ?_
  exact V_s3Q a_X10_lender_8 c_X10_183 (r2) (fun v τ hq => by cases hq.1) (fun E τ hq => by obtain ⟨h1, hq⟩ := hq; cases h1; exact ⟨rfl, hq⟩)
theorem X_openLoan0 {k : Int} (h : CIv D σ s) (hk : 0 ≤ k ∧ k < s.1 7) : Rt m_X10_openLoan 10 0 0 [vR (some (10, 0)), vI k] σ (some (vI (s.1 (83 + 23 * k + 0)))) σ := by
  have hc := h.1
  have hW := hc.2.1
  have hn := hc.2.2.2.2.n
  have n3 := hc.2.2.1.1.2.2.2.1
  have r1 := R_needIndex0 (σ := σ) hk (by omega)
  have hL := hc.2.2.2.1.L
  have g0 := (hc.2.2.1.lns k hk.1 hk.2).1
  show V _ 10 0 0 0 [some (vR (some (10, 0))), some (vI k)] [] σ _
  refine V_ildn1 a_X10_openLoan_0 ?_
  refine V_aldn0 a_X10_openLoan_1 ?_
  refine V_fin a_X10_openLoan_2 f_X10_61 rfl hW ?_
  refine V_fin a_X10_openLoan_5 f_X10_196 rfl hW ?_
  refine V_iconst a_X10_openLoan_8 ?_
  refine V_ialdE a_X10_openLoan_9 rfl (by omega) n3 ?_
  refine V_s2V a_X10_openLoan_10 c_X10_241 r1 ?_
  refine V_aldn0 a_X10_openLoan_13 ?_
  refine V_fin a_X10_openLoan_14 f_X10_61 rfl hW ?_
  refine V_fin a_X10_openLoan_17 f_X10_244 rfl hW ?_
  refine V_ildn1 a_X10_openLoan_20 ?_
  refine V_aald a_X10_openLoan_21 rfl (by omega) (hL _ (by omega) (by omega)) ?_
  refine V_getIE a_X10_openLoan_22 f_X10_248 rfl g0 ?_
  exact V_iret a_X10_openLoan_25 (⟨rfl, rfl⟩)
theorem X_openLoan1 {k : Int} (h : CIv D σ s) (ik : iR k) (hk : ¬ (0 ≤ k ∧ k < s.1 7)) : Tr m_X10_openLoan 10 1 6 [vR (some (10, 0)), vI k] σ xIOB σ := by
  have hc := h.1
  have hW := hc.2.1
  have hn := hc.2.2.2.2.n
  have n3 := hc.2.2.1.1.2.2.2.1
  have r1 := R_needIndex1 (σ := σ) hk ik (by omega)
  show V _ 10 1 6 0 [some (vR (some (10, 0))), some (vI k)] [] σ _
  refine V_ildn1 a_X10_openLoan_0 ?_
  refine V_aldn0 a_X10_openLoan_1 ?_
  refine V_fin a_X10_openLoan_2 f_X10_61 rfl hW ?_
  refine V_fin a_X10_openLoan_5 f_X10_196 rfl hW ?_
  refine V_iconst a_X10_openLoan_8 ?_
  refine V_ialdE a_X10_openLoan_9 rfl (by omega) n3 ?_
  exact V_s2Q a_X10_openLoan_10 c_X10_241 (r1) (fun v τ hq => by cases hq.1) (fun E τ hq => by obtain ⟨h1, hq⟩ := hq; cases h1; exact ⟨rfl, hq⟩)
theorem X_errorCode (h : CIv D σ s) : Rt m_X10_errorCode 0 0 0 [vR (some (10, 0))] σ (some (vI s.2.2.2.2.2.1)) σ := by
  have hW := h.1.2.1
  have g := h.2.2.2.2.1.1
  show V _ 0 0 0 0 [some (vR (some (10, 0)))] [] σ _
  refine V_aldn0 a_X10_errorCode_0 ?_
  refine V_fin a_X10_errorCode_1 f_X10_19 rfl hW ?_
  refine V_getIE a_X10_errorCode_4 f_X10_107 rfl g ?_
  exact V_iret a_X10_errorCode_7 (⟨rfl, rfl⟩)
theorem X_errorPosition (h : CIv D σ s) : Rt m_X10_errorPosition 0 0 0 [vR (some (10, 0))] σ (some (vI s.2.2.2.2.2.2.1)) σ := by
  have hW := h.1.2.1
  have g := h.2.2.2.2.1.2
  show V _ 0 0 0 0 [some (vR (some (10, 0)))] [] σ _
  refine V_aldn0 a_X10_errorPosition_0 ?_
  refine V_fin a_X10_errorPosition_1 f_X10_19 rfl hW ?_
  refine V_getIE a_X10_errorPosition_4 f_X10_110 rfl g ?_
  exact V_iret a_X10_errorPosition_7 (⟨rfl, rfl⟩)
theorem X_undoDepth (h : CIv D σ s) : Rt m_X10_undoDepth 0 0 0 [vR (some (10, 0))] σ (some (vI s.2.2.2.1)) σ := by
  have hW := h.1.2.1
  obtain ⟨nx, ⟨g, -⟩, -⟩ := h.2.2.2.1
  show V _ 0 0 0 0 [some (vR (some (10, 0)))] [] σ _
  refine V_aldn0 a_X10_undoDepth_0 ?_
  refine V_fin a_X10_undoDepth_1 f_X10_47 rfl hW ?_
  refine V_getIE a_X10_undoDepth_4 f_X10_406 rfl g ?_
  exact V_iret a_X10_undoDepth_7 (⟨rfl, rfl⟩)
theorem X_reportByte0 {k : Int} (h : CIv D σ s) (hk : 0 ≤ k ∧ k < (s.2.2.2.2.2.2.2.length : Int)) : Rt m_X10_reportByte 10 0 0 [vR (some (10, 0)), vI k] σ (some (vI (s.2.2.2.2.2.2.2.getD k.toNat 0))) σ := by
  have hW := h.1.2.1
  obtain ⟨g0, g1, g2⟩ := h.2.2.2.2.2
  have r1 := R_needIndex0 (σ := σ) hk (by omega)
  have g := g2 k hk.1 hk.2
  show V _ 10 0 0 0 [some (vR (some (10, 0))), some (vI k)] [] σ _
  refine V_ildn1 a_X10_reportByte_0 ?_
  refine V_aldn0 a_X10_reportByte_1 ?_
  refine V_fin a_X10_reportByte_2 f_X10_54 rfl hW ?_
  refine V_getIE a_X10_reportByte_5 f_X10_401 rfl g0 ?_
  refine V_s2V a_X10_reportByte_8 c_X10_241 r1 ?_
  refine V_aldn0 a_X10_reportByte_11 ?_
  refine V_fin a_X10_reportByte_12 f_X10_54 rfl hW ?_
  refine V_fin a_X10_reportByte_15 f_X10_402 rfl hW ?_
  refine V_ildn1 a_X10_reportByte_18 ?_
  refine V_baldE a_X10_reportByte_19 rfl (by omega) g ?_
  exact V_iret a_X10_reportByte_20 (⟨rfl, rfl⟩)
theorem X_reportByte1 {k : Int} (h : CIv D σ s) (ik : iR k) (hk : ¬ (0 ≤ k ∧ k < (s.2.2.2.2.2.2.2.length : Int))) : Tr m_X10_reportByte 10 1 6 [vR (some (10, 0)), vI k] σ xIOB σ := by
  have hW := h.1.2.1
  obtain ⟨g0, g1, g2⟩ := h.2.2.2.2.2
  have r1 := R_needIndex1 (σ := σ) hk ik (by omega)
  show V _ 10 1 6 0 [some (vR (some (10, 0))), some (vI k)] [] σ _
  refine V_ildn1 a_X10_reportByte_0 ?_
  refine V_aldn0 a_X10_reportByte_1 ?_
  refine V_fin a_X10_reportByte_2 f_X10_54 rfl hW ?_
  refine V_getIE a_X10_reportByte_5 f_X10_401 rfl g0 ?_
  exact V_s2Q a_X10_reportByte_8 c_X10_241 (r1) (fun v τ hq => by cases hq.1) (fun E τ hq => by obtain ⟨h1, hq⟩ := hq; cases h1; exact ⟨rfl, hq⟩)
/-- the report anew -/
abbrev rps (s : Lsv) : Lsv := (s.1, s.2.1, s.2.2.1, s.2.2.2.1, s.2.2.2.2.1, s.2.2.2.2.2.1, s.2.2.2.2.2.2.1, rpL s.1)
/-- only the text changes -/
abbrev tps (s : Lsv) (T : Int → Int) (e : Int) : Lsv := (s.1, T, e, s.2.2.2.1, s.2.2.2.2.1, s.2.2.2.2.2.1, s.2.2.2.2.2.2.1, s.2.2.2.2.2.2.2)
theorem CIv.tx {τ : Hp} {T : Int → Int} {e : Int} (h : CIv D σ s) (f : Fm [9, 20] σ τ) (ht : TC τ T e) : QCv D (tps s T e) σ τ := by
  obtain ⟨c1, c2, c3, c4, c5, c6⟩ := h
  have hW := f.wf c1.2.1
  refine ⟨f.nw.sub (fun t n z => ?_), c1.fm f (by decide), c2.fm f, ht, c4.nw f.nw hW (by decide) (by decide) (fun t n x hx z y => ?_), by rw [f.I (by decide)]; exact c5, c6.fm f (by decide) (by decide)⟩
  · have : t = 9 ∨ t = 20 := by
      rcases List.mem_cons.mp z with y | y
      · exact Or.inl y
      · exact Or.inr (List.mem_singleton.mp y)
    unfold ocS
    omega
  · have : t = 9 ∨ t = 20 := by
      rcases List.mem_cons.mp y with w | w
      · exact Or.inl w
      · exact Or.inr (List.mem_singleton.mp w)
    unfold nwS pS at z
    omega
theorem X_writeReport (h : CIv D σ s) : Cv m_X10_writeReport 8 0 0 [vR (some (10, 0))] σ (some (vI (rpL s.1).length)) (QCv D (rps s) σ) := by
  obtain ⟨c1, c2, c3, c4, c5, c6⟩ := h
  have hW := c1.2.1
  have rw1 := R_write c1
  show V _ 8 0 0 0 [some (vR (some (10, 0)))] [] σ _
  refine V_aldn0 a_X10_writeReport_0 ?_
  refine V_fin a_X10_writeReport_1 f_X10_54 rfl hW ?_
  refine V_aldn0 a_X10_writeReport_4 ?_
  refine V_fin a_X10_writeReport_5 f_X10_61 rfl hW ?_
  refine V_v1PV a_X10_writeReport_8 c_X10_398 rw1 (fun τ hτ => ?_)
  skip
  obtain ⟨f, hp⟩ := hτ
  have hW := f.wf hW
  have g0 := hp.1
  have m : ∀ t, t ∈ ([8, 35] : List Nat) → t = 8 ∨ t = 35 := fun t z => by
    rcases List.mem_cons.mp z with y | y
    · exact Or.inl y
    · exact Or.inr (List.mem_singleton.mp y)
  have fin : QCv D (rps s) σ τ := by
    refine ⟨f.nw.sub (fun t n z => ?_), c1.fm f (by decide), c2.fm f, c3.fm f (by decide) (by rw [f.I (by decide)]; exact c3.2.2.1), c4.nw f.nw hW (by decide) (by decide) (fun t n x hx z y => ?_), by rw [f.I (by decide)]; exact c5, hp⟩
    · have := m t z
      unfold ocS
      omega
    · have := m t y
      unfold nwS pS at z
      omega
  refine V_aldn0 a_X10_writeReport_11 ?_
  refine V_fin a_X10_writeReport_12 f_X10_54 rfl hW ?_
  refine V_getIE a_X10_writeReport_15 f_X10_401 rfl g0 ?_
  exact V_iret a_X10_writeReport_18 (⟨rfl, fin⟩)
theorem X_truncateText0 {m : Int} (h : CIv D σ s) (hk : 0 ≤ m ∧ m ≤ s.2.2.1) : Cv m_X10_truncateText 8 0 0 [vR (some (10, 0)), vI m] σ (some (vI m)) (QCv D (tps s s.2.1 m) σ) := by
  have hW := h.1.2.1
  have ht := h.2.2.1
  have g0 := ht.2.2.1
  have he := ht.2.2.2
  have ro := R_outside (σ := σ) (v := m) (lo := 0) (hi := s.2.2.1) (by unfold iR; omega) (by unfold iR; omega) (by unfold iR; omega)
  rw [bI_f (fun z => z hk)] at ro
  have f : Fm [9, 20] σ (σ.setI 9 0 0 m) := Fm.setI (by decide)
  have fin := h.tx f (T := s.2.1) (e := m) ⟨f.wf hW, fun k k0 k1 => by rw [setI_t (by decide)]; exact ht.2.1 k k0 (by omega), setI_I, by omega, by omega⟩
  show V _ 8 0 0 0 [some (vR (some (10, 0))), some (vI m)] [] σ _
  refine V_ildn1 a_X10_truncateText_0 ?_
  refine V_iconst a_X10_truncateText_1 ?_
  refine V_aldn0 a_X10_truncateText_2 ?_
  refine V_fin a_X10_truncateText_3 f_X10_12 rfl hW ?_
  refine V_getIE a_X10_truncateText_6 f_X10_83 rfl g0 ?_
  refine V_s3R a_X10_truncateText_9 c_X10_87 ro ?_
  refine V_if_eq_t a_X10_truncateText_12 (by omega) (by omega) ?_
  refine V_aldn0 a_X10_truncateText_25 ?_
  refine V_fin a_X10_truncateText_26 f_X10_12 rfl hW ?_
  refine V_ildn1 a_X10_truncateText_29 ?_
  refine V_putI a_X10_truncateText_30 f_X10_83 rfl ?_
  refine V_ildn1 a_X10_truncateText_33 ?_
  exact V_iret a_X10_truncateText_34 (⟨rfl, fin⟩)
theorem X_truncateText1 {m : Int} (h : CIv D σ s) (im : iR m) (hk : ¬ (0 ≤ m ∧ m ≤ s.2.2.1)) : Tr m_X10_truncateText 8 1 6 [vR (some (10, 0)), vI m] σ xIAE σ := by
  have hW := h.1.2.1
  have ht := h.2.2.1
  have g0 := ht.2.2.1
  have he := ht.2.2.2
  have ro := R_outside (σ := σ) (v := m) (lo := 0) (hi := s.2.2.1) im (by unfold iR; omega) (by unfold iR; omega)
  rw [bI_t hk] at ro
  show V _ 8 1 6 0 [some (vR (some (10, 0))), some (vI m)] [] σ _
  refine V_ildn1 a_X10_truncateText_0 ?_
  refine V_iconst a_X10_truncateText_1 ?_
  refine V_aldn0 a_X10_truncateText_2 ?_
  refine V_fin a_X10_truncateText_3 f_X10_12 rfl hW ?_
  refine V_getIE a_X10_truncateText_6 f_X10_83 rfl g0 ?_
  refine V_s3R a_X10_truncateText_9 c_X10_87 ro ?_
  refine V_if_eq_f a_X10_truncateText_12 (by omega) (by omega) ?_
  exact V_throw (cls := xIAE) (wide := false) rfl a_X10_truncateText_15 a_X10_truncateText_18 a_X10_truncateText_19 a_X10_truncateText_21 a_X10_truncateText_24 xf_IAE kl_X10_91 xi_IAE sr_X10_93 xa_IAE xg_IAE (by omega) (by exact Nat.le_of_ble_eq_true rfl) (⟨rfl, rfl⟩)
end Q1

