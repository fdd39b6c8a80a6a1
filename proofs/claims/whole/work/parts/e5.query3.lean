section Q3
variable {D : Int} {σ : Hp} {s : Lsv}
theorem CIv.jx {τ : Hp} (h : CIv D σ s) (f : FX (jS 999) σ τ) : QCv D s σ τ := by
  have sub : ∀ t n, jS 999 t n → scS t n := fun t n z => by
    unfold jS at z
    unfold scS
    omega
  exact ⟨f.nw.sub (fun t n z => scS_oc (sub t n z)), h.nw f.nw (f.wf h.1.2.1) (h.2.1.cg (by rw [f.2.1])) sub⟩
theorem nd6 {A : St} (hI : Inv D A) {k : Int} (k0 : 0 ≤ k) (k1 : k < A 7) : ndX (fun l => A (83 + 23 * k + 11 + l)) (fun l => A (83 + 23 * k + 17 + l)) 6 = nduA A k := by
  have hn := hI.n
  exact nd_ext (by omega) (by omega) (fun j j0 j1 => by
    have z := (hI.loan k0 k1).sl (by omega) j1
    have y := z.2.2.2 j0
    show A (83 + 23 * k + 11 + j) ≤ 0
    omega)
theorem R_due6 {A : St} {i : Nat} {k : Int} (h : Cl D σ i A) (hk : 0 ≤ k ∧ k < A 7) : Rt m_X3_leastDue 1 0 0 [vR (some (3, lid σ i k))] σ (some (vI (dueA A k))) σ := by
  have hI := h.2.2.2.2
  have hD := h.1
  have hn := hI.n
  have r := R_LleastDue h.2.1 (h.2.2.1.loan hk.1 hk.2).2.2.2.2.2 (fun l l0 l1 => by
    have z := (hI.loan hk.1 hk.2).sl l0 l1
    show iR (A (83 + 23 * k + 11 + l)) ∧ iR (A (83 + 23 * k + 17 + l))
    unfold iR
    rcases (by omega : A (83 + 23 * k + 11 + l) = 0 ∨ 0 < A (83 + 23 * k + 11 + l)) with y | y
    · have w := z.2.1 y
      omega
    · have w := z.2.2.1 y
      omega)
  rw [nd6 hI hk.1 hk.2] at r
  exact r
theorem due_bd {A : St} (hI : Inv D A) {k : Int} (k0 : 0 ≤ k) (k1 : k < A 7) : dueA A k = -1 ∨ (A 6 ≤ dueA A k ∧ dueA A k ≤ A 6 + 30) := by
  have hn := hI.n
  unfold dueA
  by_cases z : nduA A k = -1
  · rw [if_pos z]
    exact Or.inl rfl
  · rw [if_neg z]
    rcases ndX_ok (rc := fun l => A (83 + 23 * k + 11 + l)) (du := fun l => A (83 + 23 * k + 17 + l)) (n := A 1) (by omega) with y | y
    · exact absurd y.1 z
    · obtain ⟨y1, y2, -⟩ := y
      have e : ndX (fun l => A (83 + 23 * k + 11 + l)) (fun l => A (83 + 23 * k + 17 + l)) (A 1) = nduA A k := rfl
      rw [e] at y1 y2
      exact Or.inr (((hI.loan k0 k1).sl y1.1 (by omega)).2.2.1 y2)
theorem X_loan0 {n w : Int} (h : CIv D σ s) (im : iR n) (hk : placeA s.1 n ≠ -1 ∧ 0 ≤ w ∧ w ≤ 7) : Rt m_X10_loan 10 0 0 [vR (some (10, 0)), vI n, vI w] σ (some (vI (loV s.1 (placeA s.1 n) w))) σ := by
  have hc := h.1
  have hW := hc.2.1
  have hI := hc.2.2.2.2
  have hn := hI.n
  have hp := (place_ok hk.1).1
  have r1 := R_neededLoan0 h im hk.1
  have r3 := R_needRange0 (σ := σ) (x := w) (lo := 0) (hi := 7) hk.2 (by decide) (by decide)
  obtain ⟨g0, g1, g2, g3, g4, gs⟩ := hc.2.2.1.loan hp.1 hp.2
  show V _ 10 0 0 0 [some (vR (some (10, 0))), some (vI n), some (vI w), none] [] σ _
  have c : w = 0 ∨ w = 1 ∨ w = 2 ∨ w = 3 ∨ w = 4 ∨ w = 5 ∨ w = 6 ∨ w = 7 := by omega
  rcases c with rfl | rfl | rfl | rfl | rfl | rfl | rfl | rfl
  · refine V_aldn0 a_X10_loan_0 ?_
    refine V_ildn1 a_X10_loan_1 ?_
    refine V_v1R a_X10_loan_2 c_X10_253 r1 ?_
    refine V_astn3 a_X10_loan_5 ?_
    refine V_ildn2 a_X10_loan_6 ?_
    refine V_iconst a_X10_loan_7 ?_
    refine V_bipush a_X10_loan_8 (by decide) ?_
    refine V_s3V a_X10_loan_10 c_X10_183 r3 ?_
    refine V_ildn2 a_X10_loan_13 ?_
    refine V_table_in a_X10_loan_14 (off := 42) rfl rfl (by omega) (by omega) ?_
    refine V_aldn3 a_X10_loan_56 ?_
    refine V_getIE a_X10_loan_57 f_X10_257 rfl g1 ?_
    exact V_iret a_X10_loan_60 (⟨rfl, rfl⟩)
  · refine V_aldn0 a_X10_loan_0 ?_
    refine V_ildn1 a_X10_loan_1 ?_
    refine V_v1R a_X10_loan_2 c_X10_253 r1 ?_
    refine V_astn3 a_X10_loan_5 ?_
    refine V_ildn2 a_X10_loan_6 ?_
    refine V_iconst a_X10_loan_7 ?_
    refine V_bipush a_X10_loan_8 (by decide) ?_
    refine V_s3V a_X10_loan_10 c_X10_183 r3 ?_
    refine V_ildn2 a_X10_loan_13 ?_
    refine V_table_in a_X10_loan_14 (off := 47) rfl rfl (by omega) (by omega) ?_
    refine V_aldn3 a_X10_loan_61 ?_
    refine V_getIE a_X10_loan_62 f_X10_260 rfl g2 ?_
    exact V_iret a_X10_loan_65 (⟨rfl, rfl⟩)
  · refine V_aldn0 a_X10_loan_0 ?_
    refine V_ildn1 a_X10_loan_1 ?_
    refine V_v1R a_X10_loan_2 c_X10_253 r1 ?_
    refine V_astn3 a_X10_loan_5 ?_
    refine V_ildn2 a_X10_loan_6 ?_
    refine V_iconst a_X10_loan_7 ?_
    refine V_bipush a_X10_loan_8 (by decide) ?_
    refine V_s3V a_X10_loan_10 c_X10_183 r3 ?_
    refine V_ildn2 a_X10_loan_13 ?_
    refine V_table_in a_X10_loan_14 (off := 52) rfl rfl (by omega) (by omega) ?_
    have rq := R_qty6 hc hp
    refine V_aldn3 a_X10_loan_66 ?_
    refine V_v0R a_X10_loan_67 c_X10_263 rq ?_
    exact V_iret a_X10_loan_70 (⟨rfl, rfl⟩)
  · refine V_aldn0 a_X10_loan_0 ?_
    refine V_ildn1 a_X10_loan_1 ?_
    refine V_v1R a_X10_loan_2 c_X10_253 r1 ?_
    refine V_astn3 a_X10_loan_5 ?_
    refine V_ildn2 a_X10_loan_6 ?_
    refine V_iconst a_X10_loan_7 ?_
    refine V_bipush a_X10_loan_8 (by decide) ?_
    refine V_s3V a_X10_loan_10 c_X10_183 r3 ?_
    refine V_ildn2 a_X10_loan_13 ?_
    refine V_table_in a_X10_loan_14 (off := 57) rfl rfl (by omega) (by omega) ?_
    refine V_aldn3 a_X10_loan_71 ?_
    refine V_getIE a_X10_loan_72 f_X10_267 rfl g3 ?_
    exact V_iret a_X10_loan_75 (⟨rfl, rfl⟩)
  · refine V_aldn0 a_X10_loan_0 ?_
    refine V_ildn1 a_X10_loan_1 ?_
    refine V_v1R a_X10_loan_2 c_X10_253 r1 ?_
    refine V_astn3 a_X10_loan_5 ?_
    refine V_ildn2 a_X10_loan_6 ?_
    refine V_iconst a_X10_loan_7 ?_
    refine V_bipush a_X10_loan_8 (by decide) ?_
    refine V_s3V a_X10_loan_10 c_X10_183 r3 ?_
    refine V_ildn2 a_X10_loan_13 ?_
    refine V_table_in a_X10_loan_14 (off := 62) rfl rfl (by omega) (by omega) ?_
    refine V_aldn3 a_X10_loan_76 ?_
    refine V_getIE a_X10_loan_77 f_X10_270 rfl g4 ?_
    exact V_iret a_X10_loan_80 (⟨rfl, rfl⟩)
  · refine V_aldn0 a_X10_loan_0 ?_
    refine V_ildn1 a_X10_loan_1 ?_
    refine V_v1R a_X10_loan_2 c_X10_253 r1 ?_
    refine V_astn3 a_X10_loan_5 ?_
    refine V_ildn2 a_X10_loan_6 ?_
    refine V_iconst a_X10_loan_7 ?_
    refine V_bipush a_X10_loan_8 (by decide) ?_
    refine V_s3V a_X10_loan_10 c_X10_183 r3 ?_
    refine V_ildn2 a_X10_loan_13 ?_
    refine V_table_in a_X10_loan_14 (off := 67) rfl rfl (by omega) (by omega) ?_
    have rq := R_Lrecalled hW gs
    rw [rcq6 hI hp.1 hp.2] at rq
    refine V_aldn3 a_X10_loan_81 ?_
    refine V_v0R a_X10_loan_82 c_X10_273 rq ?_
    exact V_iret a_X10_loan_85 (⟨rfl, rfl⟩)
  · refine V_aldn0 a_X10_loan_0 ?_
    refine V_ildn1 a_X10_loan_1 ?_
    refine V_v1R a_X10_loan_2 c_X10_253 r1 ?_
    refine V_astn3 a_X10_loan_5 ?_
    refine V_ildn2 a_X10_loan_6 ?_
    refine V_iconst a_X10_loan_7 ?_
    refine V_bipush a_X10_loan_8 (by decide) ?_
    refine V_s3V a_X10_loan_10 c_X10_183 r3 ?_
    refine V_ildn2 a_X10_loan_13 ?_
    refine V_table_in a_X10_loan_14 (off := 72) rfl rfl (by omega) (by omega) ?_
    have rq := R_due6 hc hp
    refine V_aldn3 a_X10_loan_86 ?_
    refine V_v0R a_X10_loan_87 c_X10_276 rq ?_
    exact V_iret a_X10_loan_90 (⟨rfl, rfl⟩)
  · refine V_aldn0 a_X10_loan_0 ?_
    refine V_ildn1 a_X10_loan_1 ?_
    refine V_v1R a_X10_loan_2 c_X10_253 r1 ?_
    refine V_astn3 a_X10_loan_5 ?_
    refine V_ildn2 a_X10_loan_6 ?_
    refine V_iconst a_X10_loan_7 ?_
    refine V_bipush a_X10_loan_8 (by decide) ?_
    refine V_s3V a_X10_loan_10 c_X10_183 r3 ?_
    refine V_ildn2 a_X10_loan_13 ?_
    refine V_table_out a_X10_loan_14 rfl (by omega) (by omega) ?_
    have rq := R_LsliceCount hW gs (fun l l0 l1 => by
      have z := (hI.loan hp.1 hp.2).sl l0 l1
      show iR (s.1 (83 + 23 * placeA s.1 n + 5 + l))
      unfold iR
      omega)
    have e6 : sm (fun l => bI (0 < s.1 (83 + 23 * placeA s.1 n + 5 + l))) 6 = slnA s.1 (placeA s.1 n) := sm_ext (by omega) (by omega) (fun j j0 j1 => by
      have z := ((hI.loan hp.1 hp.2).sl (by omega) j1).2.2.2 j0
      show bI (0 < s.1 (83 + 23 * placeA s.1 n + 5 + j)) = 0
      unfold bI
      exact if_neg (by omega))
    rw [e6] at rq
    refine V_aldn3 a_X10_loan_91 ?_
    refine V_v0R a_X10_loan_92 c_X10_279 rq ?_
    exact V_iret a_X10_loan_95 (⟨rfl, rfl⟩)
theorem X_loan1 {n w : Int} (h : CIv D σ s) (im : iR n) (hk : placeA s.1 n = -1) : Tr m_X10_loan 10 1 6 [vR (some (10, 0)), vI n, vI w] σ xIOB σ := by
  have r1 := R_neededLoan1 h im hk
  show V _ 10 1 6 0 [some (vR (some (10, 0))), some (vI n), some (vI w), none] [] σ _
  refine V_aldn0 a_X10_loan_0 ?_
  refine V_ildn1 a_X10_loan_1 ?_
  exact V_v1Q a_X10_loan_2 c_X10_253 (r1) (fun v τ hq => by cases hq.1) (fun E τ hq => by obtain ⟨h1, hq⟩ := hq; cases h1; exact ⟨rfl, hq⟩)
theorem X_loan2 {n w : Int} (h : CIv D σ s) (im : iR n) (iw : iR w) (hk : placeA s.1 n ≠ -1) (hw : ¬ (0 ≤ w ∧ w ≤ 7)) : Tr m_X10_loan 10 1 6 [vR (some (10, 0)), vI n, vI w] σ xIAE σ := by
  have r1 := R_neededLoan0 h im hk
  have r3 := R_needRange1 (σ := σ) (x := w) (lo := 0) (hi := 7) hw iw (by decide) (by decide)
  show V _ 10 1 6 0 [some (vR (some (10, 0))), some (vI n), some (vI w), none] [] σ _
  refine V_aldn0 a_X10_loan_0 ?_
  refine V_ildn1 a_X10_loan_1 ?_
  refine V_v1R a_X10_loan_2 c_X10_253 r1 ?_
  refine V_astn3 a_X10_loan_5 ?_
  refine V_ildn2 a_X10_loan_6 ?_
  refine V_iconst a_X10_loan_7 ?_
  refine V_bipush a_X10_loan_8 (by decide) ?_
  exact V_s3Q a_X10_loan_10 c_X10_183 (r3) (fun v τ hq => by cases hq.1) (fun E τ hq => by obtain ⟨h1, hq⟩ := hq; cases h1; exact ⟨rfl, hq⟩)
theorem X_recallOrder0 {l c j : Int} (h : CIv D σ s) (hk : (0 ≤ l ∧ l < s.1 1) ∧ 0 ≤ c ∧ c < s.1 0) (hj : 0 ≤ j ∧ j < (loX s.1 l c (fun _ => 0) (s.1 7)).2) : Cv m_X10_recallOrder 10 0 0 [vR (some (10, 0)), vI l, vI c, vI j] σ (some (vI (s.1 (83 + 23 * (loX s.1 l c (fun _ => 0) (s.1 7)).1 j + 0)))) (QCv D s σ) := by
  have hc := h.1
  have hW := hc.2.1
  have hI := hc.2.2.2.2
  have hn := hI.n
  have r1 := R_needLS0 hc hk.1 hk.2
  have r2 := R_putInCallOrder (l := l) (s := c) hc (by omega) (by unfold iR; omega)
  obtain ⟨e1, e2, e3⟩ := lo_row (A := s.1) (l := l) (s := c) (k := s.1 7) (r := fun _ => 0) (r' := σ.I 23 0)
  have ok := lo_ok (A := s.1) (l := l) (s := c) (k := s.1 7) (r := fun _ => 0) (by omega)
  rw [← e1] at r2
  have hj1 := (ok.2 j hj.1 hj.2).1
  have ej := e3 j hj.1 hj.2
  have ok1 := ok.1
  have f : Fm [23] σ (σ.rI 23 0 (loX s.1 l c (σ.I 23 0) (s.1 7)).1) := Fm.rI (by decide)
  have hq := h.sc f (by decide)
  have hc2 : Cl D (σ.rI 23 0 (loX s.1 l c (σ.I 23 0) (s.1 7)).1) 0 s.1 := hq.2.1
  have ei : (σ.rI 23 0 (loX s.1 l c (σ.I 23 0) (s.1 7)).1).I 23 0 j = (loX s.1 l c (fun _ => 0) (s.1 7)).1 j := by
    rw [ej]
    show rowR σ.I 23 0 (loX s.1 l c (σ.I 23 0) (s.1 7)).1 23 0 j = _
    rw [row_eq]
  generalize (loX s.1 l c (fun _ => 0) (s.1 7)).1 j = k at hj1 ei ⊢
  generalize (loX s.1 l c (fun _ => 0) (s.1 7)).2 = z at hj r2 ok1
  generalize σ.rI 23 0 (loX s.1 l c (σ.I 23 0) (s.1 7)).1 = τ at hc2 ei r2 hq
  have r3 := R_needIndex0 (σ := τ) hj (by omega)
  show V _ 10 0 0 0 [some (vR (some (10, 0))), some (vI l), some (vI c), some (vI j)] [] σ _
  refine V_aldn0 a_X10_recallOrder_0 ?_
  refine V_ildn1 a_X10_recallOrder_1 ?_
  refine V_ildn2 a_X10_recallOrder_2 ?_
  refine V_v2V a_X10_recallOrder_3 c_X10_215 r1 ?_
  refine V_ildn3 a_X10_recallOrder_6 ?_
  refine V_aldn0 a_X10_recallOrder_7 ?_
  refine V_fin a_X10_recallOrder_8 f_X10_33 rfl hW ?_
  refine V_aldn0 a_X10_recallOrder_11 ?_
  refine V_fin a_X10_recallOrder_12 f_X10_61 rfl hW ?_
  refine V_ildn1 a_X10_recallOrder_15 ?_
  refine V_ildn2 a_X10_recallOrder_16 ?_
  refine V_v3R a_X10_recallOrder_17 c_X10_298 r2 ?_
  refine V_s2V a_X10_recallOrder_20 c_X10_241 r3 ?_
  skip
  have hW := hc2.2.1
  obtain ⟨g0, -⟩ := hc2.2.2.1.loan hj1.1 hj1.2
  have hL := hc2.2.2.2.1.L
  refine V_aldn0 a_X10_recallOrder_23 ?_
  refine V_fin a_X10_recallOrder_24 f_X10_61 rfl hW ?_
  refine V_fin a_X10_recallOrder_27 f_X10_244 rfl hW ?_
  refine V_aldn0 a_X10_recallOrder_30 ?_
  refine V_fin a_X10_recallOrder_31 f_X10_33 rfl hW ?_
  refine V_fin a_X10_recallOrder_34 f_X10_301 rfl hW ?_
  refine V_ildn3 a_X10_recallOrder_37 ?_
  refine V_ialdE a_X10_recallOrder_38 rfl (by omega) ei ?_
  refine V_aald a_X10_recallOrder_39 rfl (by omega) (hL _ (by omega) (by omega)) ?_
  refine V_getIE a_X10_recallOrder_40 f_X10_248 rfl g0 ?_
  exact V_iret a_X10_recallOrder_43 (⟨rfl, hq⟩)
theorem X_recallOrder1 {l c j : Int} (h : CIv D σ s) (il : iR l) (ic : iR c) (hk : ¬ ((0 ≤ l ∧ l < s.1 1) ∧ 0 ≤ c ∧ c < s.1 0)) : Tr m_X10_recallOrder 10 1 6 [vR (some (10, 0)), vI l, vI c, vI j] σ xIOB σ := by
  have hW := h.1.2.1
  have r1 := R_needLS1 h.1 hk il ic
  show V _ 10 1 6 0 [some (vR (some (10, 0))), some (vI l), some (vI c), some (vI j)] [] σ _
  refine V_aldn0 a_X10_recallOrder_0 ?_
  refine V_ildn1 a_X10_recallOrder_1 ?_
  refine V_ildn2 a_X10_recallOrder_2 ?_
  exact V_v2Q a_X10_recallOrder_3 c_X10_215 (r1) (fun v τ hq => by cases hq.1) (fun E τ hq => by obtain ⟨h1, hq⟩ := hq; cases h1; exact ⟨rfl, hq⟩)
theorem X_recallOrder2 {l c j : Int} (h : CIv D σ s) (ij : iR j) (hk : (0 ≤ l ∧ l < s.1 1) ∧ 0 ≤ c ∧ c < s.1 0) (hj : ¬ (0 ≤ j ∧ j < (loX s.1 l c (fun _ => 0) (s.1 7)).2)) : Txw m_X10_recallOrder 10 1 6 [vR (some (10, 0)), vI l, vI c, vI j] σ xIOB (QCv D s σ) := by
  have hc := h.1
  have hW := hc.2.1
  have hI := hc.2.2.2.2
  have hn := hI.n
  have r1 := R_needLS0 hc hk.1 hk.2
  have r2 := R_putInCallOrder (l := l) (s := c) hc (by omega) (by unfold iR; omega)
  obtain ⟨e1, e2, e3⟩ := lo_row (A := s.1) (l := l) (s := c) (k := s.1 7) (r := fun _ => 0) (r' := σ.I 23 0)
  have ok1 := (lo_ok (A := s.1) (l := l) (s := c) (k := s.1 7) (r := fun _ => 0) (by omega)).1
  rw [← e1] at r2
  have f : Fm [23] σ (σ.rI 23 0 (loX s.1 l c (σ.I 23 0) (s.1 7)).1) := Fm.rI (by decide)
  have hQ := h.sc f (by decide)
  generalize (loX s.1 l c (fun _ => 0) (s.1 7)).2 = z at hj r2 ok1
  generalize σ.rI 23 0 (loX s.1 l c (σ.I 23 0) (s.1 7)).1 = τ at r2 hQ
  have r3 := R_needIndex1 (σ := τ) hj ij (by omega)
  show V _ 10 1 6 0 [some (vR (some (10, 0))), some (vI l), some (vI c), some (vI j)] [] σ _
  refine V_aldn0 a_X10_recallOrder_0 ?_
  refine V_ildn1 a_X10_recallOrder_1 ?_
  refine V_ildn2 a_X10_recallOrder_2 ?_
  refine V_v2V a_X10_recallOrder_3 c_X10_215 r1 ?_
  refine V_ildn3 a_X10_recallOrder_6 ?_
  refine V_aldn0 a_X10_recallOrder_7 ?_
  refine V_fin a_X10_recallOrder_8 f_X10_33 rfl hW ?_
  refine V_aldn0 a_X10_recallOrder_11 ?_
  refine V_fin a_X10_recallOrder_12 f_X10_61 rfl hW ?_
  refine V_ildn1 a_X10_recallOrder_15 ?_
  refine V_ildn2 a_X10_recallOrder_16 ?_
  refine V_v3R a_X10_recallOrder_17 c_X10_298 r2 ?_
  exact V_s2Q a_X10_recallOrder_20 c_X10_241 (r3) (fun v τ hq => by cases hq.1) (fun E τ hq => by obtain ⟨h1, hq⟩ := hq; cases h1; exact ⟨rfl, by rw [hq]; exact hQ⟩)
theorem X_returnOrder0 {n j : Int} (h : CIv D σ s) (im : iR n) (hk : placeA s.1 n ≠ -1) (hj : 0 ≤ j ∧ j < 12) (hr : rtV s.1 (placeA s.1 n) j ≠ -1) (hi : iR (rtV s.1 (placeA s.1 n) j)) : Cv m_X10_returnOrder 10 0 0 [vR (some (10, 0)), vI n, vI j] σ (some (vI (rtV s.1 (placeA s.1 n) j))) (QCv D s σ) := by
  have hc := h.1
  have hW := hc.2.1
  have hn := hc.2.2.2.2.n
  have hp := (place_ok hk).1
  have r1 := R_neededLoan0 h im hk
  have r2 := R_needIndex0 (σ := σ) hj (by omega)
  have r3 := R_returner hc (by decide) hp hj
  generalize rtV s.1 (placeA s.1 n) j = v at r3 hr hi ⊢
  unfold iR at hi
  show V _ 10 0 0 0 [some (vR (some (10, 0))), some (vI n), some (vI j), none, none] [] σ _
  refine V_aldn0 a_X10_returnOrder_0 ?_
  refine V_ildn1 a_X10_returnOrder_1 ?_
  refine V_v1R a_X10_returnOrder_2 c_X10_253 r1 ?_
  refine V_astn3 a_X10_returnOrder_5 ?_
  refine V_ildn2 a_X10_returnOrder_6 ?_
  refine V_bipush a_X10_returnOrder_7 (by decide) ?_
  refine V_s2V a_X10_returnOrder_9 c_X10_241 r2 ?_
  refine V_aldn0 a_X10_returnOrder_12 ?_
  refine V_fin a_X10_returnOrder_13 f_X10_33 rfl hW ?_
  refine V_aldn3 a_X10_returnOrder_16 ?_
  refine V_ildn2 a_X10_returnOrder_17 ?_
  refine V_v2PR a_X10_returnOrder_18 c_X10_304 r3 (fun τ hτ => ?_)
  refine V_ist4 a_X10_returnOrder_21 ?_
  refine V_ild4 a_X10_returnOrder_23 ?_
  refine V_iconst a_X10_returnOrder_25 ?_
  refine V_icmp_ne_t a_X10_returnOrder_26 (by omega) (by omega) ?_
  refine V_ild4 a_X10_returnOrder_40 ?_
  exact V_iret a_X10_returnOrder_42 (⟨rfl, h.jx hτ⟩)
theorem X_returnOrder1 {n j : Int} (h : CIv D σ s) (im : iR n) (ij : iR j) (hk : ¬ (placeA s.1 n ≠ -1 ∧ 0 ≤ j ∧ j < 12)) : Tr m_X10_returnOrder 10 1 6 [vR (some (10, 0)), vI n, vI j] σ xIOB σ := by
  show V _ 10 1 6 0 [some (vR (some (10, 0))), some (vI n), some (vI j), none, none] [] σ _
  by_cases z : placeA s.1 n = -1
  · have r1 := R_neededLoan1 h im z
    refine V_aldn0 a_X10_returnOrder_0 ?_
    refine V_ildn1 a_X10_returnOrder_1 ?_
    exact V_v1Q a_X10_returnOrder_2 c_X10_253 (r1) (fun v τ hq => by cases hq.1) (fun E τ hq => by obtain ⟨h1, hq⟩ := hq; cases h1; exact ⟨rfl, hq⟩)
  · have r1 := R_neededLoan0 h im z
    have r2 := R_needIndex1 (σ := σ) (x := j) (n := 12) (fun y => hk ⟨z, y⟩) ij (by decide)
    refine V_aldn0 a_X10_returnOrder_0 ?_
    refine V_ildn1 a_X10_returnOrder_1 ?_
    refine V_v1R a_X10_returnOrder_2 c_X10_253 r1 ?_
    refine V_astn3 a_X10_returnOrder_5 ?_
    refine V_ildn2 a_X10_returnOrder_6 ?_
    refine V_bipush a_X10_returnOrder_7 (by decide) ?_
    exact V_s2Q a_X10_returnOrder_9 c_X10_241 (r2) (fun v τ hq => by cases hq.1) (fun E τ hq => by obtain ⟨h1, hq⟩ := hq; cases h1; exact ⟨rfl, hq⟩)
theorem X_returnOrder2 {n j : Int} (h : CIv D σ s) (im : iR n) (hk : placeA s.1 n ≠ -1) (hj : 0 ≤ j ∧ j < 12) (hr : rtV s.1 (placeA s.1 n) j = -1) : Txw m_X10_returnOrder 10 1 6 [vR (some (10, 0)), vI n, vI j] σ xIOB (QCv D s σ) := by
  have hc := h.1
  have hW := hc.2.1
  have hn := hc.2.2.2.2.n
  have hp := (place_ok hk).1
  have r1 := R_neededLoan0 h im hk
  have r2 := R_needIndex0 (σ := σ) hj (by omega)
  have r3 := R_returner hc (by decide) hp hj
  rw [hr] at r3
  show V _ 10 1 6 0 [some (vR (some (10, 0))), some (vI n), some (vI j), none, none] [] σ _
  refine V_aldn0 a_X10_returnOrder_0 ?_
  refine V_ildn1 a_X10_returnOrder_1 ?_
  refine V_v1R a_X10_returnOrder_2 c_X10_253 r1 ?_
  refine V_astn3 a_X10_returnOrder_5 ?_
  refine V_ildn2 a_X10_returnOrder_6 ?_
  refine V_bipush a_X10_returnOrder_7 (by decide) ?_
  refine V_s2V a_X10_returnOrder_9 c_X10_241 r2 ?_
  refine V_aldn0 a_X10_returnOrder_12 ?_
  refine V_fin a_X10_returnOrder_13 f_X10_33 rfl hW ?_
  refine V_aldn3 a_X10_returnOrder_16 ?_
  refine V_ildn2 a_X10_returnOrder_17 ?_
  refine V_v2PR a_X10_returnOrder_18 c_X10_304 r3 (fun τ hτ => ?_)
  refine V_ist4 a_X10_returnOrder_21 ?_
  refine V_ild4 a_X10_returnOrder_23 ?_
  refine V_iconst a_X10_returnOrder_25 ?_
  refine V_icmp_ne_f a_X10_returnOrder_26 (by omega) (by omega) ?_
  exact V_throw (cls := xIOB) (wide := true) rfl a_X10_returnOrder_29 a_X10_returnOrder_32 a_X10_returnOrder_33 a_X10_returnOrder_36 a_X10_returnOrder_39 xf_IOB kl_X10_308 xi_IOB sr_X10_310 xa_IOB xg_IOB (by omega) (by exact Nat.le_of_ble_eq_true rfl) (⟨rfl, h.jx hτ⟩)
theorem R_needAll0 {c q : Int} (h : CIv D σ s) (hs : 0 ≤ c ∧ c < s.1 0) (hq : 1 ≤ q ∧ q ≤ 99999) (hf : q ≤ freeB s.1 (-1) c) : Cv m_X10_needAllocation 9 0 0 [vR (some (10, 0)), vI c, vI q] σ none (fun τ => Fm [0, 26, 27, 28] σ τ ∧ Ms τ s.1 c (-1)) := by
  have hc := h.1
  have hW := hc.2.1
  have hI := hc.2.2.2.2
  have hn := hI.n
  have hb := freeB_bd hI (but := -1) hs.1 (show c < 4 by omega)
  have r1 := R_needRange0 (σ := σ) (x := q) (lo := 1) (hi := 99999) hq (by decide) (by decide)
  have r2 := R_measure (s := c) (ex := -1) hc (by omega) hs.2 (by unfold iR; omega)
  show V _ 9 0 0 0 [some (vR (some (10, 0))), some (vI c), some (vI q)] [] σ _
  refine V_ildn2 a_X10_needAllocation_0 ?_
  refine V_iconst a_X10_needAllocation_1 ?_
  refine V_ldc a_X10_needAllocation_2 q_X10_162 ?_
  refine V_s3V a_X10_needAllocation_4 c_X10_183 r1 ?_
  refine V_aldn0 a_X10_needAllocation_7 ?_
  refine V_fin a_X10_needAllocation_8 f_X10_33 rfl hW ?_
  refine V_fin a_X10_needAllocation_11 f_X10_316 rfl hW ?_
  refine V_aldn0 a_X10_needAllocation_14 ?_
  refine V_fin a_X10_needAllocation_15 f_X10_61 rfl hW ?_
  refine V_ildn1 a_X10_needAllocation_18 ?_
  refine V_iconst a_X10_needAllocation_19 ?_
  refine V_v3PV a_X10_needAllocation_20 c_X10_370 r2 (fun τ hτ => ?_)
  skip
  have hW := hτ.1.wf hW
  have e := hτ.2.2.2.1
  refine V_aldn0 a_X10_needAllocation_23 ?_
  refine V_fin a_X10_needAllocation_24 f_X10_33 rfl hW ?_
  refine V_fin a_X10_needAllocation_27 f_X10_316 rfl hW ?_
  refine V_getIE a_X10_needAllocation_30 f_X10_422 rfl e ?_
  refine V_ildn2 a_X10_needAllocation_33 ?_
  refine V_icmp_ge_t a_X10_needAllocation_34 (by omega) (by omega) ?_
  refine V_iconst a_X10_needAllocation_41 ?_
  refine V_s1V a_X10_needAllocation_42 c_X10_117 R_refuse0 ?_
  exact V_ret a_X10_needAllocation_45 (⟨rfl, hτ⟩)
theorem R_needAll1 {c q : Int} (h : CIv D σ s) (iq : iR q) (hq : ¬ (1 ≤ q ∧ q ≤ 99999)) : Tr m_X10_needAllocation 9 1 6 [vR (some (10, 0)), vI c, vI q] σ xIAE σ := by
  have hW := h.1.2.1
  have r1 := R_needRange1 (σ := σ) (x := q) (lo := 1) (hi := 99999) hq iq (by decide) (by decide)
  show V _ 9 1 6 0 [some (vR (some (10, 0))), some (vI c), some (vI q)] [] σ _
  refine V_ildn2 a_X10_needAllocation_0 ?_
  refine V_iconst a_X10_needAllocation_1 ?_
  refine V_ldc a_X10_needAllocation_2 q_X10_162 ?_
  exact V_s3Q a_X10_needAllocation_4 c_X10_183 (r1) (fun v τ hq => by cases hq.1) (fun E τ hq => by obtain ⟨h1, hq⟩ := hq; cases h1; exact ⟨rfl, hq⟩)
theorem R_needAll2 {c q : Int} (h : CIv D σ s) (hs : 0 ≤ c ∧ c < s.1 0) (hq : 1 ≤ q ∧ q ≤ 99999) (hf : ¬ q ≤ freeB s.1 (-1) c) : Txw m_X10_needAllocation 9 1 6 [vR (some (10, 0)), vI c, vI q] σ xISE (QCv D s σ) := by
  have hc := h.1
  have hW := hc.2.1
  have hI := hc.2.2.2.2
  have hn := hI.n
  have hb := freeB_bd hI (but := -1) hs.1 (show c < 4 by omega)
  have r1 := R_needRange0 (σ := σ) (x := q) (lo := 1) (hi := 99999) hq (by decide) (by decide)
  have r2 := R_measure (s := c) (ex := -1) hc (by omega) hs.2 (by unfold iR; omega)
  show V _ 9 1 6 0 [some (vR (some (10, 0))), some (vI c), some (vI q)] [] σ _
  refine V_ildn2 a_X10_needAllocation_0 ?_
  refine V_iconst a_X10_needAllocation_1 ?_
  refine V_ldc a_X10_needAllocation_2 q_X10_162 ?_
  refine V_s3V a_X10_needAllocation_4 c_X10_183 r1 ?_
  refine V_aldn0 a_X10_needAllocation_7 ?_
  refine V_fin a_X10_needAllocation_8 f_X10_33 rfl hW ?_
  refine V_fin a_X10_needAllocation_11 f_X10_316 rfl hW ?_
  refine V_aldn0 a_X10_needAllocation_14 ?_
  refine V_fin a_X10_needAllocation_15 f_X10_61 rfl hW ?_
  refine V_ildn1 a_X10_needAllocation_18 ?_
  refine V_iconst a_X10_needAllocation_19 ?_
  refine V_v3PV a_X10_needAllocation_20 c_X10_370 r2 (fun τ hτ => ?_)
  skip
  have hW := hτ.1.wf hW
  have e := hτ.2.2.2.1
  have hQ := h.sc hτ.1 (by decide)
  refine V_aldn0 a_X10_needAllocation_23 ?_
  refine V_fin a_X10_needAllocation_24 f_X10_33 rfl hW ?_
  refine V_fin a_X10_needAllocation_27 f_X10_316 rfl hW ?_
  refine V_getIE a_X10_needAllocation_30 f_X10_422 rfl e ?_
  refine V_ildn2 a_X10_needAllocation_33 ?_
  refine V_icmp_ge_f a_X10_needAllocation_34 (by omega) (by omega) ?_
  refine V_iconst a_X10_needAllocation_37 ?_
  refine V_goto a_X10_needAllocation_38 ?_
  exact V_s1Q a_X10_needAllocation_42 c_X10_117 (R_refuse3) (fun v τ hq => by cases hq.1) (fun E τ hq => by obtain ⟨h1, hq⟩ := hq; cases h1; exact ⟨rfl, by rw [hq]; exact hQ⟩)
end Q3

