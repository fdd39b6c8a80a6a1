abbrev xISE : String := "java/lang/IllegalStateException"
abbrev xIAE : String := "java/lang/IllegalArgumentException"
abbrev xIOB : String := "java/lang/IndexOutOfBoundsException"
abbrev xNSE : String := "java/util/NoSuchElementException"
abbrev xARI : String := "java/lang/ArithmeticException"
theorem xf_ISE : Bundle.fit xISE = true := by decide +kernel
theorem xf_IAE : Bundle.fit xIAE = true := by decide +kernel
theorem xf_IOB : Bundle.fit xIOB = true := by decide +kernel
theorem xf_NSE : Bundle.fit xNSE = true := by decide +kernel
theorem xf_ARI : Bundle.fit xARI = true := by decide +kernel
theorem xi_ISE : Cond.initialized xISE ∈ lw_tbl := by decide +kernel
theorem xi_IAE : Cond.initialized xIAE ∈ lw_tbl := by decide +kernel
theorem xi_IOB : Cond.initialized xIOB ∈ lw_tbl := by decide +kernel
theorem xi_NSE : Cond.initialized xNSE ∈ lw_tbl := by decide +kernel
theorem xi_ARI : Cond.initialized xARI ∈ lw_tbl := by decide +kernel
theorem xa_ISE : ∀ w ∈ vx_atS RX10 76 xISE ["java/lang/RuntimeException", "java/lang/Exception"], w ∈ lw_tbl ∧ (goodWord w || nestW w) = true := by decide +kernel
theorem xa_IAE : ∀ w ∈ vx_atS RX10 95 xIAE ["java/lang/RuntimeException", "java/lang/Exception"], w ∈ lw_tbl ∧ (goodWord w || nestW w) = true := by decide +kernel
theorem xa_IOB : ∀ w ∈ vx_atS RX10 312 xIOB ["java/lang/RuntimeException", "java/lang/Exception"], w ∈ lw_tbl ∧ (goodWord w || nestW w) = true := by decide +kernel
theorem xa_ARI : ∀ w ∈ vx_atS RX10 229 xARI ["java/lang/RuntimeException", "java/lang/Exception"], w ∈ lw_tbl ∧ (goodWord w || nestW w) = true := by decide +kernel
theorem xg_ISE : ∀ w ∈ vx_atS RX10 76 xISE ["java/lang/RuntimeException", "java/lang/Exception"], vx_ot w = true := by decide +kernel
theorem xg_IAE : ∀ w ∈ vx_atS RX10 95 xIAE ["java/lang/RuntimeException", "java/lang/Exception"], vx_ot w = true := by decide +kernel
theorem xg_IOB : ∀ w ∈ vx_atS RX10 312 xIOB ["java/lang/RuntimeException", "java/lang/Exception"], vx_ot w = true := by decide +kernel
theorem xg_ARI : ∀ w ∈ vx_atS RX10 229 xARI ["java/lang/RuntimeException", "java/lang/Exception"], vx_ot w = true := by decide +kernel
/-- a method that throws E -/
def Tr (M : MI) (n b bs : Nat) (as : List AV) (σ : Hp) (E : String) (σ' : Hp) : Prop := Ct M n b bs as σ (fun r τ => r = .inr E ∧ τ = σ')
/-- the class that the desk's code stands for -/
def xE (k : Int) : String := if k = 1 then xIOB else if k = 2 then xIAE else if k = 3 then xISE else xNSE
section Nd
variable {D : Int} {σ : Hp} {A : St}
theorem R_refuse0 : Rt m_X10_refuse 6 0 0 [vI 0] σ none σ := by
  show V _ 6 0 0 0 [some (vI 0)] [] σ _
  refine V_ildn0 a_X10_refuse_0 ?_
  refine V_table_out a_X10_refuse_1 (tgt := 76) rfl (by omega) (by omega) ?_
  exact V_ret a_X10_refuse_76 (⟨rfl, rfl⟩)
theorem R_refuse1 : Tr m_X10_refuse 6 1 6 [vI 1] σ xIOB σ := by
  show V _ 6 1 6 0 [some (vI 1)] [] σ _
  refine V_ildn0 a_X10_refuse_0 ?_
  refine V_table_in a_X10_refuse_1 (off := 31) rfl rfl (by omega) (by omega) ?_
  exact V_throw (cls := xIOB) (wide := true) rfl a_X10_refuse_32 a_X10_refuse_35 a_X10_refuse_36 a_X10_refuse_39 a_X10_refuse_42 xf_IOB kl_X10_308 xi_IOB sr_X10_414 xa_IOB xg_IOB (by omega) (by exact Nat.le_of_ble_eq_true rfl) (⟨rfl, rfl⟩)
theorem R_refuse2 : Tr m_X10_refuse 6 1 6 [vI 2] σ xIAE σ := by
  show V _ 6 1 6 0 [some (vI 2)] [] σ _
  refine V_ildn0 a_X10_refuse_0 ?_
  refine V_table_in a_X10_refuse_1 (off := 42) rfl rfl (by omega) (by omega) ?_
  exact V_throw (cls := xIAE) (wide := true) rfl a_X10_refuse_43 a_X10_refuse_46 a_X10_refuse_47 a_X10_refuse_50 a_X10_refuse_53 xf_IAE kl_X10_91 xi_IAE sr_X10_416 xa_IAE xg_IAE (by omega) (by exact Nat.le_of_ble_eq_true rfl) (⟨rfl, rfl⟩)
theorem R_refuse3 : Tr m_X10_refuse 6 1 6 [vI 3] σ xISE σ := by
  show V _ 6 1 6 0 [some (vI 3)] [] σ _
  refine V_ildn0 a_X10_refuse_0 ?_
  refine V_table_in a_X10_refuse_1 (off := 53) rfl rfl (by omega) (by omega) ?_
  exact V_throw (cls := xISE) (wide := true) rfl a_X10_refuse_54 a_X10_refuse_57 a_X10_refuse_58 a_X10_refuse_61 a_X10_refuse_64 xf_ISE kl_X10_72 xi_ISE sr_X10_418 xa_ISE xg_ISE (by omega) (by exact Nat.le_of_ble_eq_true rfl) (⟨rfl, rfl⟩)
theorem R_refuse {k : Int} (h : 1 ≤ k ∧ k ≤ 3) : Tr m_X10_refuse 6 1 6 [vI k] σ (xE k) σ := by
  have c : k = 1 ∨ k = 2 ∨ k = 3 := by omega
  rcases c with rfl | rfl | rfl
  · exact R_refuse1
  · exact R_refuse2
  · exact R_refuse3
theorem R_needIndex0 {x n : Int} (hx : 0 ≤ x ∧ x < n) (hn : n ≤ 100000) : Rt m_X10_needIndex 7 0 0 [vI x, vI n] σ none σ := by
  have ro := R_outside (σ := σ) (v := x) (lo := 0) (hi := n - 1) (by unfold iR; omega) (by unfold iR; omega) (by unfold iR; omega)
  rw [bI_f (fun z => by omega)] at ro
  show V _ 7 0 0 0 [some (vI x), some (vI n)] [] σ _
  refine V_ildn0 a_X10_needIndex_0 ?_
  refine V_iconst a_X10_needIndex_1 ?_
  refine V_ildn1 a_X10_needIndex_2 ?_
  refine V_iconst a_X10_needIndex_3 ?_
  refine V_isub a_X10_needIndex_4 ?_
  refine V_s3R a_X10_needIndex_5 c_X10_87 ro ?_
  refine V_if_eq_t a_X10_needIndex_8 (by omega) (by omega) ?_
  refine V_iconst a_X10_needIndex_15 ?_
  refine V_s1V a_X10_needIndex_16 c_X10_117 R_refuse0 ?_
  exact V_ret a_X10_needIndex_19 (⟨rfl, rfl⟩)
theorem R_needIndex1 {x n : Int} (hx : ¬ (0 ≤ x ∧ x < n)) (hi : iR x) (hn : -1000 ≤ n ∧ n ≤ 100000) : Tr m_X10_needIndex 7 1 6 [vI x, vI n] σ xIOB σ := by
  have ro := R_outside (σ := σ) (v := x) (lo := 0) (hi := n - 1) hi (by unfold iR; omega) (by unfold iR; omega)
  rw [bI_t (show ¬ (0 ≤ x ∧ x ≤ n - 1) by omega)] at ro
  show V _ 7 1 6 0 [some (vI x), some (vI n)] [] σ _
  refine V_ildn0 a_X10_needIndex_0 ?_
  refine V_iconst a_X10_needIndex_1 ?_
  refine V_ildn1 a_X10_needIndex_2 ?_
  refine V_iconst a_X10_needIndex_3 ?_
  refine V_isub a_X10_needIndex_4 ?_
  refine V_s3R a_X10_needIndex_5 c_X10_87 ro ?_
  refine V_if_eq_f a_X10_needIndex_8 (by omega) (by omega) ?_
  refine V_iconst a_X10_needIndex_11 ?_
  refine V_goto a_X10_needIndex_12 ?_
  exact V_s1Q a_X10_needIndex_16 c_X10_117 (R_refuse1) (fun v τ hq => by cases hq.1) (fun E τ hq => by obtain ⟨h1, hq⟩ := hq; cases h1; exact ⟨rfl, hq⟩)
theorem R_needRange0 {x lo hi : Int} (hx : lo ≤ x ∧ x ≤ hi) (hl : -1000 ≤ lo) (hh : hi ≤ 100000) : Rt m_X10_needRange 7 0 0 [vI x, vI lo, vI hi] σ none σ := by
  have ro := R_outside (σ := σ) (v := x) (lo := lo) (hi := hi) (by unfold iR; omega) (by unfold iR; omega) (by unfold iR; omega)
  rw [bI_f (fun z => by omega)] at ro
  show V _ 7 0 0 0 [some (vI x), some (vI lo), some (vI hi)] [] σ _
  refine V_ildn0 a_X10_needRange_0 ?_
  refine V_ildn1 a_X10_needRange_1 ?_
  refine V_ildn2 a_X10_needRange_2 ?_
  refine V_s3R a_X10_needRange_3 c_X10_87 ro ?_
  refine V_if_eq_t a_X10_needRange_6 (by omega) (by omega) ?_
  refine V_iconst a_X10_needRange_13 ?_
  refine V_s1V a_X10_needRange_14 c_X10_117 R_refuse0 ?_
  exact V_ret a_X10_needRange_17 (⟨rfl, rfl⟩)
theorem R_needRange1 {x lo hi : Int} (hx : ¬ (lo ≤ x ∧ x ≤ hi)) (hi' : iR x) (hl : -1000 ≤ lo ∧ lo ≤ 100000) (hh : -1000 ≤ hi ∧ hi ≤ 100000) : Tr m_X10_needRange 7 1 6 [vI x, vI lo, vI hi] σ xIAE σ := by
  have ro := R_outside (σ := σ) (v := x) (lo := lo) (hi := hi) hi' (by unfold iR; omega) (by unfold iR; omega)
  rw [bI_t hx] at ro
  show V _ 7 1 6 0 [some (vI x), some (vI lo), some (vI hi)] [] σ _
  refine V_ildn0 a_X10_needRange_0 ?_
  refine V_ildn1 a_X10_needRange_1 ?_
  refine V_ildn2 a_X10_needRange_2 ?_
  refine V_s3R a_X10_needRange_3 c_X10_87 ro ?_
  refine V_if_eq_f a_X10_needRange_6 (by omega) (by omega) ?_
  refine V_iconst a_X10_needRange_9 ?_
  refine V_goto a_X10_needRange_10 ?_
  exact V_s1Q a_X10_needRange_14 c_X10_117 (R_refuse2) (fun v τ hq => by cases hq.1) (fun E τ hq => by obtain ⟨h1, hq⟩ := hq; cases h1; exact ⟨rfl, hq⟩)
theorem R_needSec0 {s : Int} (h : Cl D σ 0 A) (hs : 0 ≤ s ∧ s < A 0) : Rt m_X10_needSecurity 8 0 0 [vR (some (10, 0)), vI s] σ none σ := by
  have hW := h.2.1
  have hn := h.2.2.2.2.n
  have n0 := h.2.2.1.1.1
  have r := R_needIndex0 (σ := σ) hs (by omega)
  show V _ 8 0 0 0 [some (vR (some (10, 0))), some (vI s)] [] σ _
  refine V_ildn1 a_X10_needSecurity_0 ?_
  refine V_aldn0 a_X10_needSecurity_1 ?_
  refine V_fin a_X10_needSecurity_2 f_X10_61 rfl hW ?_
  refine V_fin a_X10_needSecurity_5 f_X10_196 rfl hW ?_
  refine V_iconst a_X10_needSecurity_8 ?_
  refine V_ialdE a_X10_needSecurity_9 rfl (by omega) n0 ?_
  refine V_s2V a_X10_needSecurity_10 c_X10_241 r ?_
  exact V_ret a_X10_needSecurity_13 (⟨rfl, rfl⟩)
theorem R_needSec1 {s : Int} (h : Cl D σ 0 A) (hs : ¬ (0 ≤ s ∧ s < A 0)) (hi : iR s) : Tr m_X10_needSecurity 8 1 6 [vR (some (10, 0)), vI s] σ xIOB σ := by
  have hW := h.2.1
  have hn := h.2.2.2.2.n
  have n0 := h.2.2.1.1.1
  have r := R_needIndex1 (σ := σ) hs hi (by omega)
  show V _ 8 1 6 0 [some (vR (some (10, 0))), some (vI s)] [] σ _
  refine V_ildn1 a_X10_needSecurity_0 ?_
  refine V_aldn0 a_X10_needSecurity_1 ?_
  refine V_fin a_X10_needSecurity_2 f_X10_61 rfl hW ?_
  refine V_fin a_X10_needSecurity_5 f_X10_196 rfl hW ?_
  refine V_iconst a_X10_needSecurity_8 ?_
  refine V_ialdE a_X10_needSecurity_9 rfl (by omega) n0 ?_
  exact V_s2Q a_X10_needSecurity_10 c_X10_241 (r) (fun v τ hq => by cases hq.1) (fun E τ hq => by obtain ⟨h1, hq⟩ := hq; cases h1; exact ⟨rfl, hq⟩)
theorem R_needLen0 {s : Int} (h : Cl D σ 0 A) (hs : 0 ≤ s ∧ s < A 1) : Rt m_X10_needLender 8 0 0 [vR (some (10, 0)), vI s] σ none σ := by
  have hW := h.2.1
  have hn := h.2.2.2.2.n
  have n1 := h.2.2.1.1.2.1
  have r := R_needIndex0 (σ := σ) hs (by omega)
  show V _ 8 0 0 0 [some (vR (some (10, 0))), some (vI s)] [] σ _
  refine V_ildn1 a_X10_needLender_0 ?_
  refine V_aldn0 a_X10_needLender_1 ?_
  refine V_fin a_X10_needLender_2 f_X10_61 rfl hW ?_
  refine V_fin a_X10_needLender_5 f_X10_196 rfl hW ?_
  refine V_iconst a_X10_needLender_8 ?_
  refine V_ialdE a_X10_needLender_9 rfl (by omega) n1 ?_
  refine V_s2V a_X10_needLender_10 c_X10_241 r ?_
  exact V_ret a_X10_needLender_13 (⟨rfl, rfl⟩)
theorem R_needLen1 {s : Int} (h : Cl D σ 0 A) (hs : ¬ (0 ≤ s ∧ s < A 1)) (hi : iR s) : Tr m_X10_needLender 8 1 6 [vR (some (10, 0)), vI s] σ xIOB σ := by
  have hW := h.2.1
  have hn := h.2.2.2.2.n
  have n1 := h.2.2.1.1.2.1
  have r := R_needIndex1 (σ := σ) hs hi (by omega)
  show V _ 8 1 6 0 [some (vR (some (10, 0))), some (vI s)] [] σ _
  refine V_ildn1 a_X10_needLender_0 ?_
  refine V_aldn0 a_X10_needLender_1 ?_
  refine V_fin a_X10_needLender_2 f_X10_61 rfl hW ?_
  refine V_fin a_X10_needLender_5 f_X10_196 rfl hW ?_
  refine V_iconst a_X10_needLender_8 ?_
  refine V_ialdE a_X10_needLender_9 rfl (by omega) n1 ?_
  exact V_s2Q a_X10_needLender_10 c_X10_241 (r) (fun v τ hq => by cases hq.1) (fun E τ hq => by obtain ⟨h1, hq⟩ := hq; cases h1; exact ⟨rfl, hq⟩)
theorem R_needBor0 {s : Int} (h : Cl D σ 0 A) (hs : 0 ≤ s ∧ s < A 2) : Rt m_X10_needBorrower 8 0 0 [vR (some (10, 0)), vI s] σ none σ := by
  have hW := h.2.1
  have hn := h.2.2.2.2.n
  have n2 := h.2.2.1.1.2.2.1
  have r := R_needIndex0 (σ := σ) hs (by omega)
  show V _ 8 0 0 0 [some (vR (some (10, 0))), some (vI s)] [] σ _
  refine V_ildn1 a_X10_needBorrower_0 ?_
  refine V_aldn0 a_X10_needBorrower_1 ?_
  refine V_fin a_X10_needBorrower_2 f_X10_61 rfl hW ?_
  refine V_fin a_X10_needBorrower_5 f_X10_196 rfl hW ?_
  refine V_iconst a_X10_needBorrower_8 ?_
  refine V_ialdE a_X10_needBorrower_9 rfl (by omega) n2 ?_
  refine V_s2V a_X10_needBorrower_10 c_X10_241 r ?_
  exact V_ret a_X10_needBorrower_13 (⟨rfl, rfl⟩)
theorem R_needBor1 {s : Int} (h : Cl D σ 0 A) (hs : ¬ (0 ≤ s ∧ s < A 2)) (hi : iR s) : Tr m_X10_needBorrower 8 1 6 [vR (some (10, 0)), vI s] σ xIOB σ := by
  have hW := h.2.1
  have hn := h.2.2.2.2.n
  have n2 := h.2.2.1.1.2.2.1
  have r := R_needIndex1 (σ := σ) hs hi (by omega)
  show V _ 8 1 6 0 [some (vR (some (10, 0))), some (vI s)] [] σ _
  refine V_ildn1 a_X10_needBorrower_0 ?_
  refine V_aldn0 a_X10_needBorrower_1 ?_
  refine V_fin a_X10_needBorrower_2 f_X10_61 rfl hW ?_
  refine V_fin a_X10_needBorrower_5 f_X10_196 rfl hW ?_
  refine V_iconst a_X10_needBorrower_8 ?_
  refine V_ialdE a_X10_needBorrower_9 rfl (by omega) n2 ?_
  exact V_s2Q a_X10_needBorrower_10 c_X10_241 (r) (fun v τ hq => by cases hq.1) (fun E τ hq => by obtain ⟨h1, hq⟩ := hq; cases h1; exact ⟨rfl, hq⟩)
theorem R_needLS0 {l s : Int} (h : Cl D σ 0 A) (hl : 0 ≤ l ∧ l < A 1) (hs : 0 ≤ s ∧ s < A 0) : Rt m_X10_needLenderAndSecurity 9 0 0 [vR (some (10, 0)), vI l, vI s] σ none σ := by
  have r1 := R_needLen0 h hl
  have r2 := R_needSec0 h hs
  show V _ 9 0 0 0 [some (vR (some (10, 0))), some (vI l), some (vI s)] [] σ _
  refine V_aldn0 a_X10_needLenderAndSecurity_0 ?_
  refine V_ildn1 a_X10_needLenderAndSecurity_1 ?_
  refine V_v1V a_X10_needLenderAndSecurity_2 c_X10_190 r1 ?_
  refine V_aldn0 a_X10_needLenderAndSecurity_5 ?_
  refine V_ildn2 a_X10_needLenderAndSecurity_6 ?_
  refine V_v1V a_X10_needLenderAndSecurity_7 c_X10_180 r2 ?_
  exact V_ret a_X10_needLenderAndSecurity_10 (⟨rfl, rfl⟩)
theorem R_needLS1 {l s : Int} (h : Cl D σ 0 A) (hn : ¬ ((0 ≤ l ∧ l < A 1) ∧ 0 ≤ s ∧ s < A 0)) (il : iR l) (is : iR s) : Tr m_X10_needLenderAndSecurity 9 1 6 [vR (some (10, 0)), vI l, vI s] σ xIOB σ := by
  show V _ 9 1 6 0 [some (vR (some (10, 0))), some (vI l), some (vI s)] [] σ _
  by_cases z : 0 ≤ l ∧ l < A 1
  · have r1 := R_needLen0 h z
    have r2 := R_needSec1 h (fun y => hn ⟨z, y⟩) is
    refine V_aldn0 a_X10_needLenderAndSecurity_0 ?_
    refine V_ildn1 a_X10_needLenderAndSecurity_1 ?_
    refine V_v1V a_X10_needLenderAndSecurity_2 c_X10_190 r1 ?_
    refine V_aldn0 a_X10_needLenderAndSecurity_5 ?_
    refine V_ildn2 a_X10_needLenderAndSecurity_6 ?_
    exact V_v1Q a_X10_needLenderAndSecurity_7 c_X10_180 (r2) (fun v τ hq => by cases hq.1) (fun E τ hq => by obtain ⟨h1, hq⟩ := hq; cases h1; exact ⟨rfl, hq⟩)
  · have r1 := R_needLen1 h z il
    refine V_aldn0 a_X10_needLenderAndSecurity_0 ?_
    refine V_ildn1 a_X10_needLenderAndSecurity_1 ?_
    exact V_v1Q a_X10_needLenderAndSecurity_2 c_X10_190 (r1) (fun v τ hq => by cases hq.1) (fun E τ hq => by obtain ⟨h1, hq⟩ := hq; cases h1; exact ⟨rfl, hq⟩)
end Nd

