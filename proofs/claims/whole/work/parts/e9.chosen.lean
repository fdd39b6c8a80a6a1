section Q7
variable {D : Int} {σ : Hp} {s : Lsv}
theorem qf_00 {A : St} {l c q : Int} (h1 : (0 ≤ l ∧ l < A 1) ∧ 0 ≤ c ∧ c < A 0) (h2 : 1 ≤ q ∧ q ≤ 99999) : qfC A l c q = 0 := by
  unfold qfC
  rw [if_neg (fun z => z h1), if_neg (fun z => z h2)]
theorem R_needCho0 {l c q : Int} (h : CIv D σ s) (hk : rclC s.1 l c q = 0) : Cv m_X10_needChoice 9 0 0 [vR (some (10, 0)), vI l, vI c, vI q] σ none (fun τ => Fm [4, 33] σ τ ∧ Lk τ (s.1 7) (unr s.1 l c)) := by
  have hc := h.1
  have hW := hc.2.1
  have hI := hc.2.2.2.2
  have hn := hI.n
  obtain ⟨h1, h2, h3⟩ := rcl_0 hk
  have rf := R_quantityFault (l := l) (s := c) (q := q) hc (by unfold iR; omega) (by unfold iR; omega) (by unfold iR; omega)
  rw [qf_00 h1 h2] at rf
  have r2 := R_unrecalledOf (l := l) (s := c) hc (by omega) (by unfold iR; omega)
  have rb := recb_bd hI h1.1.1 (show l < 6 by omega) h1.2.1 (show c < 4 by omega)
  have r3 := R_look (l := l) (s := c) hc (by omega) (by unfold iR; omega)
  show V _ 9 0 0 0 [some (vR (some (10, 0))), some (vI l), some (vI c), some (vI q)] [] σ _
  refine V_aldn0 a_X10_needChoice_0 ?_
  refine V_fin a_X10_needChoice_1 f_X10_33 rfl hW ?_
  refine V_aldn0 a_X10_needChoice_4 ?_
  refine V_fin a_X10_needChoice_5 f_X10_61 rfl hW ?_
  refine V_ildn1 a_X10_needChoice_8 ?_
  refine V_ildn2 a_X10_needChoice_9 ?_
  refine V_ildn3 a_X10_needChoice_10 ?_
  refine V_v4R a_X10_needChoice_11 c_X10_155 rf ?_
  refine V_s1V a_X10_needChoice_14 c_X10_117 R_refuse0 ?_
  refine V_aldn0 a_X10_needChoice_17 ?_
  refine V_fin a_X10_needChoice_18 f_X10_61 rfl hW ?_
  refine V_ildn1 a_X10_needChoice_21 ?_
  refine V_ildn2 a_X10_needChoice_22 ?_
  refine V_v2R a_X10_needChoice_23 c_X10_295 r2 ?_
  refine V_ildn3 a_X10_needChoice_26 ?_
  refine V_icmp_ge_t a_X10_needChoice_27 (by omega) (by omega) ?_
  refine V_iconst a_X10_needChoice_34 ?_
  refine V_s1V a_X10_needChoice_35 c_X10_117 R_refuse0 ?_
  refine V_aldn0 a_X10_needChoice_38 ?_
  refine V_fin a_X10_needChoice_39 f_X10_40 rfl hW ?_
  refine V_aldn0 a_X10_needChoice_42 ?_
  refine V_fin a_X10_needChoice_43 f_X10_61 rfl hW ?_
  refine V_ildn1 a_X10_needChoice_46 ?_
  refine V_ildn2 a_X10_needChoice_47 ?_
  refine V_v3PV a_X10_needChoice_48 c_X10_425 r3 (fun τ hτ => ?_)
  exact V_ret a_X10_needChoice_51 (⟨rfl, hτ⟩)
theorem R_needCho1 {l c q : Int} (h : CIv D σ s) (il : iR l) (ic : iR c) (iq : iR q) (hk : qfC s.1 l c q ≠ 0) : Tr m_X10_needChoice 9 1 6 [vR (some (10, 0)), vI l, vI c, vI q] σ (xE (qfC s.1 l c q)) σ := by
  have hc := h.1
  have hW := hc.2.1
  have rf := R_quantityFault hc il ic iq
  have hb : 0 ≤ qfC s.1 l c q ∧ qfC s.1 l c q ≤ 2 := by
    unfold qfC
    split
    · omega
    · split <;> omega
  have rx := R_refuse (σ := σ) (k := qfC s.1 l c q) (by omega)
  show V _ 9 1 6 0 [some (vR (some (10, 0))), some (vI l), some (vI c), some (vI q)] [] σ _
  refine V_aldn0 a_X10_needChoice_0 ?_
  refine V_fin a_X10_needChoice_1 f_X10_33 rfl hW ?_
  refine V_aldn0 a_X10_needChoice_4 ?_
  refine V_fin a_X10_needChoice_5 f_X10_61 rfl hW ?_
  refine V_ildn1 a_X10_needChoice_8 ?_
  refine V_ildn2 a_X10_needChoice_9 ?_
  refine V_ildn3 a_X10_needChoice_10 ?_
  refine V_v4R a_X10_needChoice_11 c_X10_155 rf ?_
  exact V_s1Q a_X10_needChoice_14 c_X10_117 (rx) (fun v τ hq => by cases hq.1) (fun E τ hq => by obtain ⟨h1, hq⟩ := hq; cases h1; exact ⟨rfl, hq⟩)
theorem X_fewestLoans0 {l c q : Int} (h : CIv D σ s) (hk : rclC s.1 l c q = 0) : Cv m_X10_fewestLoans 10 0 0 [vR (some (10, 0)), vI l, vI c, vI q] σ (some (vI (fwA (unr s.1 l c) (s.1 7) q))) (QCv D s σ) := by
  have hI := h.1.2.2.2.2
  have hn := hI.n
  obtain ⟨h1, h2, h3⟩ := rcl_0 hk
  have r1 := R_needCho0 h hk
  show V _ 10 0 0 0 [some (vR (some (10, 0))), some (vI l), some (vI c), some (vI q)] [] σ _
  refine V_aldn0 a_X10_fewestLoans_0 ?_
  refine V_ildn1 a_X10_fewestLoans_1 ?_
  refine V_ildn2 a_X10_fewestLoans_2 ?_
  refine V_ildn3 a_X10_fewestLoans_3 ?_
  refine V_v3PV a_X10_fewestLoans_4 c_X10_336 r1 (fun τ hτ => ?_)
  skip
  have q1 := h.sc hτ.1 (by decide)
  have hW := q1.2.1.2.1
  have r2 := R_fewest hW hτ.2 (by omega) (fun k k0 k1 => unr_bd hI h1.1.1 (by omega) k0 k1) h2 h3
  refine V_aldn0 a_X10_fewestLoans_7 ?_
  refine V_fin a_X10_fewestLoans_8 f_X10_40 rfl hW ?_
  refine V_ildn3 a_X10_fewestLoans_11 ?_
  refine V_v1PR a_X10_fewestLoans_12 c_X10_339 r2 (fun ρ hρ => ?_)
  exact V_iret a_X10_fewestLoans_15 (⟨rfl, q1.trans (q1.2.sc hρ (by decide))⟩)
theorem X_fewestLoans1 {l c q : Int} (h : CIv D σ s) (il : iR l) (ic : iR c) (iq : iR q) (hk : qfC s.1 l c q ≠ 0) : Tr m_X10_fewestLoans 10 1 6 [vR (some (10, 0)), vI l, vI c, vI q] σ (xE (qfC s.1 l c q)) σ := by
  have r1 := R_needCho1 h il ic iq hk
  show V _ 10 1 6 0 [some (vR (some (10, 0))), some (vI l), some (vI c), some (vI q)] [] σ _
  refine V_aldn0 a_X10_fewestLoans_0 ?_
  refine V_ildn1 a_X10_fewestLoans_1 ?_
  refine V_ildn2 a_X10_fewestLoans_2 ?_
  refine V_ildn3 a_X10_fewestLoans_3 ?_
  exact V_v3Q a_X10_fewestLoans_4 c_X10_336 (r1) (fun v τ hq => by cases hq.1) (fun E τ hq => by obtain ⟨h1, hq⟩ := hq; cases h1; exact ⟨rfl, hq⟩)
theorem X_tightestSum0 {l c q : Int} (h : CIv D σ s) (hk : rclC s.1 l c q = 0) : Cv m_X10_tightestSum 15 0 0 [vR (some (10, 0)), vI l, vI c, vI q] σ (some (vI (smI (unr s.1 l c) (s.1 7) (tgA (unr s.1 l c) (s.1 7) q)))) (QCv D s σ) := by
  have hI := h.1.2.2.2.2
  have hn := hI.n
  obtain ⟨h1, h2, h3⟩ := rcl_0 hk
  have r1 := R_needCho0 h hk
  show V _ 15 0 0 0 [some (vR (some (10, 0))), some (vI l), some (vI c), some (vI q)] [] σ _
  refine V_aldn0 a_X10_tightestSum_0 ?_
  refine V_ildn1 a_X10_tightestSum_1 ?_
  refine V_ildn2 a_X10_tightestSum_2 ?_
  refine V_ildn3 a_X10_tightestSum_3 ?_
  refine V_v3PV a_X10_tightestSum_4 c_X10_336 r1 (fun τ hτ => ?_)
  skip
  have q1 := h.sc hτ.1 (by decide)
  have hW := q1.2.1.2.1
  have rb := (recb_bd hI h1.1.1 (show l < 6 by omega) h1.2.1 (show c < 4 by omega)).2
  have r2 := R_findTightest hW hτ.2 (by omega) (fun k k0 k1 => unr_bd hI h1.1.1 (by omega) k0 k1) h2 h3 rb
  refine V_aldn0 a_X10_tightestSum_7 ?_
  refine V_fin a_X10_tightestSum_8 f_X10_40 rfl hW ?_
  refine V_ildn3 a_X10_tightestSum_11 ?_
  refine V_v1PV a_X10_tightestSum_12 c_X10_342 r2 (fun ρ hρ => ?_)
  skip
  have q2 := q1.2.sc hρ.1 (by decide)
  have hW := q2.2.1.2.1
  have e := hρ.2.1
  refine V_aldn0 a_X10_tightestSum_15 ?_
  refine V_fin a_X10_tightestSum_16 f_X10_40 rfl hW ?_
  refine V_getIE a_X10_tightestSum_19 f_X10_345 rfl e ?_
  exact V_iret a_X10_tightestSum_22 (⟨rfl, q1.trans q2⟩)
theorem X_tightestSum1 {l c q : Int} (h : CIv D σ s) (il : iR l) (ic : iR c) (iq : iR q) (hk : qfC s.1 l c q ≠ 0) : Tr m_X10_tightestSum 10 1 6 [vR (some (10, 0)), vI l, vI c, vI q] σ (xE (qfC s.1 l c q)) σ := by
  have r1 := R_needCho1 h il ic iq hk
  show V _ 10 1 6 0 [some (vR (some (10, 0))), some (vI l), some (vI c), some (vI q)] [] σ _
  refine V_aldn0 a_X10_tightestSum_0 ?_
  refine V_ildn1 a_X10_tightestSum_1 ?_
  refine V_ildn2 a_X10_tightestSum_2 ?_
  refine V_ildn3 a_X10_tightestSum_3 ?_
  exact V_v3Q a_X10_tightestSum_4 c_X10_336 (r1) (fun v τ hq => by cases hq.1) (fun E τ hq => by obtain ⟨h1, hq⟩ := hq; cases h1; exact ⟨rfl, hq⟩)
theorem X_tightestLoans0 {l c q : Int} (h : CIv D σ s) (hk : rclC s.1 l c q = 0) : Cv m_X10_tightestLoans 15 0 0 [vR (some (10, 0)), vI l, vI c, vI q] σ (some (vI (tgA (unr s.1 l c) (s.1 7) q))) (QCv D s σ) := by
  have hI := h.1.2.2.2.2
  have hn := hI.n
  obtain ⟨h1, h2, h3⟩ := rcl_0 hk
  have r1 := R_needCho0 h hk
  show V _ 15 0 0 0 [some (vR (some (10, 0))), some (vI l), some (vI c), some (vI q)] [] σ _
  refine V_aldn0 a_X10_tightestLoans_0 ?_
  refine V_ildn1 a_X10_tightestLoans_1 ?_
  refine V_ildn2 a_X10_tightestLoans_2 ?_
  refine V_ildn3 a_X10_tightestLoans_3 ?_
  refine V_v3PV a_X10_tightestLoans_4 c_X10_336 r1 (fun τ hτ => ?_)
  skip
  have q1 := h.sc hτ.1 (by decide)
  have hW := q1.2.1.2.1
  have rb := (recb_bd hI h1.1.1 (show l < 6 by omega) h1.2.1 (show c < 4 by omega)).2
  have r2 := R_findTightest hW hτ.2 (by omega) (fun k k0 k1 => unr_bd hI h1.1.1 (by omega) k0 k1) h2 h3 rb
  refine V_aldn0 a_X10_tightestLoans_7 ?_
  refine V_fin a_X10_tightestLoans_8 f_X10_40 rfl hW ?_
  refine V_ildn3 a_X10_tightestLoans_11 ?_
  refine V_v1PV a_X10_tightestLoans_12 c_X10_342 r2 (fun ρ hρ => ?_)
  skip
  have q2 := q1.2.sc hρ.1 (by decide)
  have hW := q2.2.1.2.1
  have e := hρ.2.2
  refine V_aldn0 a_X10_tightestLoans_15 ?_
  refine V_fin a_X10_tightestLoans_16 f_X10_40 rfl hW ?_
  refine V_getIE a_X10_tightestLoans_19 f_X10_348 rfl e ?_
  exact V_iret a_X10_tightestLoans_22 (⟨rfl, q1.trans q2⟩)
theorem X_tightestLoans1 {l c q : Int} (h : CIv D σ s) (il : iR l) (ic : iR c) (iq : iR q) (hk : qfC s.1 l c q ≠ 0) : Tr m_X10_tightestLoans 10 1 6 [vR (some (10, 0)), vI l, vI c, vI q] σ (xE (qfC s.1 l c q)) σ := by
  have r1 := R_needCho1 h il ic iq hk
  show V _ 10 1 6 0 [some (vR (some (10, 0))), some (vI l), some (vI c), some (vI q)] [] σ _
  refine V_aldn0 a_X10_tightestLoans_0 ?_
  refine V_ildn1 a_X10_tightestLoans_1 ?_
  refine V_ildn2 a_X10_tightestLoans_2 ?_
  refine V_ildn3 a_X10_tightestLoans_3 ?_
  exact V_v3Q a_X10_tightestLoans_4 c_X10_336 (r1) (fun v τ hq => by cases hq.1) (fun E τ hq => by obtain ⟨h1, hq⟩ := hq; cases h1; exact ⟨rfl, hq⟩)
end Q7

