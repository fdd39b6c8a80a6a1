theorem ac_p {A : St} {k n : Int} (h : isAc A k n) (hn : A 1 ≤ 6 ∧ A 2 ≤ 4) : acP A k n = (if k = 0 then n else if k = 1 then 6 + n else 8 + k) ∧ 0 ≤ acP A k n ∧ acP A k n ≤ 12 := by
  unfold acP
  rcases h with z | z | z
  · rw [if_pos z.1, if_pos z.1, if_pos z.2]
    omega
  · rw [if_neg (by omega), if_pos z.1, if_pos z.2, if_neg (by omega), if_pos z.1]
    omega
  · rw [if_neg (by omega), if_neg (by omega), if_pos z.1, if_pos z.2, if_neg (by omega), if_neg (by omega)]
    omega
theorem ac_no {A : St} {k n : Int} (h : ¬ isAc A k n) : acP A k n = -1 := by
  unfold acP
  by_cases a : k = 0
  · rw [if_pos a]
    exact if_neg (fun z => h (Or.inl ⟨a, z⟩))
  · rw [if_neg a]
    by_cases b : k = 1
    · rw [if_pos b]
      exact if_neg (fun z => h (Or.inr (Or.inl ⟨b, z⟩)))
    · rw [if_neg b]
      by_cases c : 2 ≤ k ∧ k ≤ 4
      · rw [if_pos c]
        exact if_neg (fun z => h (Or.inr (Or.inr ⟨c, z⟩)))
      · exact if_neg c
theorem bal_at {σ : Hp} {i : Nat} {A B : St} {k n : Int} (hJ : RelJ σ i B) (h : isAc A k n) (hn : A 1 ≤ 6 ∧ A 2 ≤ 4) : σ.J 45 i (acP A k n) = balA B k n := by
  rw [(ac_p h hn).1]
  unfold balA
  rcases h with z | z | z
  · rw [if_pos z.1, if_pos z.1]
    exact hJ.1.1 n z.2.1 (by omega)
  · rw [if_neg (by omega), if_pos z.1, if_neg (by omega), if_pos z.1]
    exact hJ.1.2.1 n z.2.1 (by omega)
  · rw [if_neg (by omega), if_neg (by omega), if_neg (by omega), if_neg (by omega)]
    have c : k = 2 ∨ k = 3 ∨ k = 4 := by omega
    rcases c with rfl | rfl | rfl
    · exact hJ.1.2.2.1
    · exact hJ.1.2.2.2.1
    · exact hJ.1.2.2.2.2
section Q2
variable {D : Int} {σ : Hp} {s : Lsv}
/-- a try on the draft -/
theorem CIv.dr {D' : Int} {τ ρ : Hp} {B : St} (h : CIv D σ s) (f1 : FX (cpS 1) σ τ) (f2 : Fp 1 τ ρ) (hc : Cl D' ρ 1 B) : QCv D s σ ρ := by
  have nn : Nw (fun t n => cpS 1 t n ∨ plS 1 t n ∨ (t = 47 ∧ n = 1)) σ ρ := (f1.nw.sub (fun t n z => Or.inl z)).trans (f2.nw.sub (fun t n z => Or.inr z))
  have sub : ∀ t n, (cpS 1 t n ∨ plS 1 t n ∨ (t = 47 ∧ n = 1)) → scS t n := fun t n z => by
    unfold cpS plS at z
    unfold scS nwS pS
    omega
  exact ⟨nn.sub (fun t n z => scS_oc (sub t n z)), h.nw nn hc.2.1 hc.2.2.2.1 sub⟩
theorem CIv.sc {τ : Hp} {L : List Nat} (h : CIv D σ s) (f : Fm L σ τ) (hL : ∀ t ∈ L, t = 0 ∨ t = 4 ∨ t = 5 ∨ (21 ≤ t ∧ t ≤ 29) ∨ t = 33) : QCv D s σ τ := by
  have sub : ∀ t n, t ∈ L → scS t n := fun t n z => by
    have := hL t z
    unfold scS
    omega
  exact ⟨f.nw.sub (fun t n z => scS_oc (sub t n z)), h.nw f.nw (f.wf h.1.2.1) (h.2.1.fm f) sub⟩
theorem R_neededLoan0 {n : Int} (h : CIv D σ s) (im : iR n) (hk : placeA s.1 n ≠ -1) : Rt m_X10_neededLoan 9 0 0 [vR (some (10, 0)), vI n] σ (some (vR (some (3, lid σ 0 (placeA s.1 n))))) σ := by
  have hc := h.1
  have hW := hc.2.1
  have hn := hc.2.2.2.2.n
  have n3 := hc.2.2.1.1.2.2.2.1
  have hp := (place_ok hk).1
  have r1 := R_CplaceOf hc im
  have r2 := R_needIndex0 (σ := σ) hp (by omega)
  have hL := hc.2.2.2.1.L
  show V _ 9 0 0 0 [some (vR (some (10, 0))), some (vI n), none] [] σ _
  refine V_aldn0 a_X10_neededLoan_0 ?_
  refine V_fin a_X10_neededLoan_1 f_X10_61 rfl hW ?_
  refine V_ildn1 a_X10_neededLoan_4 ?_
  refine V_v1R a_X10_neededLoan_5 c_X10_428 r1 ?_
  refine V_istn2 a_X10_neededLoan_8 ?_
  refine V_ildn2 a_X10_neededLoan_9 ?_
  refine V_aldn0 a_X10_neededLoan_10 ?_
  refine V_fin a_X10_neededLoan_11 f_X10_61 rfl hW ?_
  refine V_fin a_X10_neededLoan_14 f_X10_196 rfl hW ?_
  refine V_iconst a_X10_neededLoan_17 ?_
  refine V_ialdE a_X10_neededLoan_18 rfl (by omega) n3 ?_
  refine V_s2V a_X10_neededLoan_19 c_X10_241 r2 ?_
  refine V_aldn0 a_X10_neededLoan_22 ?_
  refine V_fin a_X10_neededLoan_23 f_X10_61 rfl hW ?_
  refine V_fin a_X10_neededLoan_26 f_X10_244 rfl hW ?_
  refine V_ildn2 a_X10_neededLoan_29 ?_
  refine V_aald a_X10_neededLoan_30 rfl (by omega) (hL _ (by omega) (by omega)) ?_
  exact V_aret a_X10_neededLoan_31 (⟨rfl, rfl⟩) rfl
theorem R_neededLoan1 {n : Int} (h : CIv D σ s) (im : iR n) (hk : placeA s.1 n = -1) : Tr m_X10_neededLoan 9 1 6 [vR (some (10, 0)), vI n] σ xIOB σ := by
  have hc := h.1
  have hW := hc.2.1
  have hn := hc.2.2.2.2.n
  have n3 := hc.2.2.1.1.2.2.2.1
  have r1 := R_CplaceOf hc im
  rw [hk] at r1
  have r2 := R_needIndex1 (σ := σ) (x := -1) (n := s.1 7) (by omega) (by unfold iR; omega) (by omega)
  show V _ 9 1 6 0 [some (vR (some (10, 0))), some (vI n), none] [] σ _
  refine V_aldn0 a_X10_neededLoan_0 ?_
  refine V_fin a_X10_neededLoan_1 f_X10_61 rfl hW ?_
  refine V_ildn1 a_X10_neededLoan_4 ?_
  refine V_v1R a_X10_neededLoan_5 c_X10_428 r1 ?_
  refine V_istn2 a_X10_neededLoan_8 ?_
  refine V_ildn2 a_X10_neededLoan_9 ?_
  refine V_aldn0 a_X10_neededLoan_10 ?_
  refine V_fin a_X10_neededLoan_11 f_X10_61 rfl hW ?_
  refine V_fin a_X10_neededLoan_14 f_X10_196 rfl hW ?_
  refine V_iconst a_X10_neededLoan_17 ?_
  refine V_ialdE a_X10_neededLoan_18 rfl (by omega) n3 ?_
  exact V_s2Q a_X10_neededLoan_19 c_X10_241 (r2) (fun v τ hq => by cases hq.1) (fun E τ hq => by obtain ⟨h1, hq⟩ := hq; cases h1; exact ⟨rfl, hq⟩)
theorem R_neededAcc0 {k n : Int} (h : CIv D σ s) (ik : iR k) (im : iR n) (hk : isAc s.1 k n) : Rt m_X10_neededAccount 9 0 0 [vR (some (10, 0)), vI k, vI n] σ (some (vI (acP s.1 k n))) σ := by
  have hc := h.1
  have hW := hc.2.1
  have hn := hc.2.2.2.2.n
  have r1 := R_accountPlace hc ik im
  have ha := (ac_p hk (by omega)).2
  have r2 := R_needRange0 (σ := σ) (x := acP s.1 k n) (lo := 0) (hi := 12) ha (by decide) (by decide)
  show V _ 9 0 0 0 [some (vR (some (10, 0))), some (vI k), some (vI n), none] [] σ _
  refine V_aldn0 a_X10_neededAccount_0 ?_
  refine V_fin a_X10_neededAccount_1 f_X10_61 rfl hW ?_
  refine V_ildn1 a_X10_neededAccount_4 ?_
  refine V_ildn2 a_X10_neededAccount_5 ?_
  refine V_v2R a_X10_neededAccount_6 c_X10_431 r1 ?_
  refine V_istn3 a_X10_neededAccount_9 ?_
  refine V_ildn3 a_X10_neededAccount_10 ?_
  refine V_iconst a_X10_neededAccount_11 ?_
  refine V_bipush a_X10_neededAccount_12 (by decide) ?_
  refine V_s3V a_X10_neededAccount_14 c_X10_183 r2 ?_
  refine V_ildn3 a_X10_neededAccount_17 ?_
  exact V_iret a_X10_neededAccount_18 (⟨rfl, rfl⟩)
theorem R_neededAcc1 {k n : Int} (h : CIv D σ s) (ik : iR k) (im : iR n) (hk : ¬ isAc s.1 k n) : Tr m_X10_neededAccount 9 1 6 [vR (some (10, 0)), vI k, vI n] σ xIAE σ := by
  have hc := h.1
  have hW := hc.2.1
  have r1 := R_accountPlace hc ik im
  rw [ac_no hk] at r1
  have r2 := R_needRange1 (σ := σ) (x := -1) (lo := 0) (hi := 12) (by omega) (by unfold iR; omega) (by decide) (by decide)
  show V _ 9 1 6 0 [some (vR (some (10, 0))), some (vI k), some (vI n), none] [] σ _
  refine V_aldn0 a_X10_neededAccount_0 ?_
  refine V_fin a_X10_neededAccount_1 f_X10_61 rfl hW ?_
  refine V_ildn1 a_X10_neededAccount_4 ?_
  refine V_ildn2 a_X10_neededAccount_5 ?_
  refine V_v2R a_X10_neededAccount_6 c_X10_431 r1 ?_
  refine V_istn3 a_X10_neededAccount_9 ?_
  refine V_ildn3 a_X10_neededAccount_10 ?_
  refine V_iconst a_X10_neededAccount_11 ?_
  refine V_bipush a_X10_neededAccount_12 (by decide) ?_
  exact V_s3Q a_X10_neededAccount_14 c_X10_183 (r2) (fun v τ hq => by cases hq.1) (fun E τ hq => by obtain ⟨h1, hq⟩ := hq; cases h1; exact ⟨rfl, hq⟩)
theorem X_account0 {k n : Int} (h : CIv D σ s) (ik : iR k) (im : iR n) (hk : isAc s.1 k n) : Rt m_X10_account 10 0 0 [vR (some (10, 0)), vI k, vI n] σ (some (vL (balA s.1 k n))) σ := by
  have hc := h.1
  have hW := hc.2.1
  have hn := hc.2.2.2.2.n
  have r1 := R_neededAcc0 h ik im hk
  have ha := (ac_p hk (by omega)).2
  have g := bal_at hc.2.2.1.acc hk (by omega)
  show V _ 10 0 0 0 [some (vR (some (10, 0))), some (vI k), some (vI n)] [] σ _
  refine V_aldn0 a_X10_account_0 ?_
  refine V_fin a_X10_account_1 f_X10_61 rfl hW ?_
  refine V_fin a_X10_account_4 f_X10_234 rfl hW ?_
  refine V_aldn0 a_X10_account_7 ?_
  refine V_ildn1 a_X10_account_8 ?_
  refine V_ildn2 a_X10_account_9 ?_
  refine V_v2R a_X10_account_10 c_X10_238 r1 ?_
  refine V_laldE a_X10_account_13 rfl (by omega) g ?_
  exact V_lret a_X10_account_14 (⟨rfl, rfl⟩)
theorem X_account1 {k n : Int} (h : CIv D σ s) (ik : iR k) (im : iR n) (hk : ¬ isAc s.1 k n) : Tr m_X10_account 10 1 6 [vR (some (10, 0)), vI k, vI n] σ xIAE σ := by
  have hW := h.1.2.1
  have r1 := R_neededAcc1 h ik im hk
  show V _ 10 1 6 0 [some (vR (some (10, 0))), some (vI k), some (vI n)] [] σ _
  refine V_aldn0 a_X10_account_0 ?_
  refine V_fin a_X10_account_1 f_X10_61 rfl hW ?_
  refine V_fin a_X10_account_4 f_X10_234 rfl hW ?_
  refine V_aldn0 a_X10_account_7 ?_
  refine V_ildn1 a_X10_account_8 ?_
  refine V_ildn2 a_X10_account_9 ?_
  exact V_v2Q a_X10_account_10 c_X10_238 (r1) (fun v τ hq => by cases hq.1) (fun E τ hq => by obtain ⟨h1, hq⟩ := hq; cases h1; exact ⟨rfl, hq⟩)
theorem X_accountAfter0 {d k n : Int} (h : CIv D σ s) (ik : iR k) (im : iR n) (hk : (0 ≤ d ∧ d ≤ 400) ∧ isAc s.1 k n) (hD : D + 401 ≤ 20000000) : Cv m_X10_accountAfter 10 0 0 [vR (some (10, 0)), vI d, vI k, vI n] σ (some (vL (balA (dysX s.1 d) k n))) (QCv D s σ) := by
  have hc := h.1
  have hW := hc.2.1
  have hn := hc.2.2.2.2.n
  have r0 := R_needRange0 (σ := σ) (x := d) (lo := 0) (hi := 400) hk.1 (by decide) (by decide)
  have r1 := R_neededAcc0 h ik im hk.2
  have ha := (ac_p hk.2 (by omega)).2
  have rc := R_Pcopy (i := 1) hc h.2.1 (by decide)
  show V _ 10 0 0 0 [some (vR (some (10, 0))), some (vI d), some (vI k), some (vI n), none] [] σ _
  refine V_ildn1 a_X10_accountAfter_0 ?_
  refine V_iconst a_X10_accountAfter_1 ?_
  refine V_sipush a_X10_accountAfter_2 (by decide) ?_
  refine V_s3V a_X10_accountAfter_5 c_X10_183 r0 ?_
  refine V_aldn0 a_X10_accountAfter_8 ?_
  refine V_ildn2 a_X10_accountAfter_9 ?_
  refine V_ildn3 a_X10_accountAfter_10 ?_
  refine V_v2R a_X10_accountAfter_11 c_X10_238 r1 ?_
  refine V_ist4 a_X10_accountAfter_14 ?_
  refine V_aldn0 a_X10_accountAfter_16 ?_
  refine V_fin a_X10_accountAfter_17 f_X10_65 rfl hW ?_
  refine V_aldn0 a_X10_accountAfter_20 ?_
  refine V_fin a_X10_accountAfter_21 f_X10_61 rfl hW ?_
  refine V_v1PV a_X10_accountAfter_24 c_X10_100 rc (fun τ hτ => ?_)
  skip
  obtain ⟨f1, cl1⟩ := hτ
  have rg := R_goOn (n := d) (by omega) cl1 (by omega)
  have hW := cl1.2.1
  refine V_aldn0 a_X10_accountAfter_27 ?_
  refine V_fin a_X10_accountAfter_28 f_X10_33 rfl hW ?_
  refine V_aldn0 a_X10_accountAfter_31 ?_
  refine V_fin a_X10_accountAfter_32 f_X10_65 rfl hW ?_
  refine V_ildn1 a_X10_accountAfter_35 ?_
  refine V_v2PR a_X10_accountAfter_36 c_X10_144 rg (fun τ2 hτ2 => ?_)
  skip
  obtain ⟨f2, cl2⟩ := hτ2
  have g := bal_at cl2.2.2.1.acc hk.2 (by omega)
  have hW := cl2.2.1
  first | refine V_popI a_X10_accountAfter_39 ?_ | refine V_popR a_X10_accountAfter_39 ?_
  refine V_aldn0 a_X10_accountAfter_40 ?_
  refine V_fin a_X10_accountAfter_41 f_X10_65 rfl hW ?_
  refine V_fin a_X10_accountAfter_44 f_X10_234 rfl hW ?_
  refine V_ild4 a_X10_accountAfter_47 ?_
  refine V_laldE a_X10_accountAfter_49 rfl (by omega) g ?_
  exact V_lret a_X10_accountAfter_50 (⟨rfl, h.dr f1 f2 cl2⟩)
theorem X_accountAfter1 {d k n : Int} (h : CIv D σ s) (id : iR d) (ik : iR k) (im : iR n) (hk : ¬ ((0 ≤ d ∧ d ≤ 400) ∧ isAc s.1 k n)) : Tr m_X10_accountAfter 10 1 6 [vR (some (10, 0)), vI d, vI k, vI n] σ xIAE σ := by
  show V _ 10 1 6 0 [some (vR (some (10, 0))), some (vI d), some (vI k), some (vI n), none] [] σ _
  by_cases z : 0 ≤ d ∧ d ≤ 400
  · have r0 := R_needRange0 (σ := σ) (x := d) (lo := 0) (hi := 400) z (by decide) (by decide)
    have r1 := R_neededAcc1 h ik im (fun y => hk ⟨z, y⟩)
    refine V_ildn1 a_X10_accountAfter_0 ?_
    refine V_iconst a_X10_accountAfter_1 ?_
    refine V_sipush a_X10_accountAfter_2 (by decide) ?_
    refine V_s3V a_X10_accountAfter_5 c_X10_183 r0 ?_
    refine V_aldn0 a_X10_accountAfter_8 ?_
    refine V_ildn2 a_X10_accountAfter_9 ?_
    refine V_ildn3 a_X10_accountAfter_10 ?_
    exact V_v2Q a_X10_accountAfter_11 c_X10_238 (r1) (fun v τ hq => by cases hq.1) (fun E τ hq => by obtain ⟨h1, hq⟩ := hq; cases h1; exact ⟨rfl, hq⟩)
  · have r0 := R_needRange1 (σ := σ) (x := d) (lo := 0) (hi := 400) z id (by decide) (by decide)
    refine V_ildn1 a_X10_accountAfter_0 ?_
    refine V_iconst a_X10_accountAfter_1 ?_
    refine V_sipush a_X10_accountAfter_2 (by decide) ?_
    exact V_s3Q a_X10_accountAfter_5 c_X10_183 (r0) (fun v τ hq => by cases hq.1) (fun E τ hq => by obtain ⟨h1, hq⟩ := hq; cases h1; exact ⟨rfl, hq⟩)
theorem X_boughtInAfter0 {d : Int} (h : CIv D σ s) (hk : 1 ≤ d ∧ d ≤ 400) (hD : D + 401 ≤ 20000000) : Cv m_X10_boughtInAfter 10 0 0 [vR (some (10, 0)), vI d] σ (some (vI (dysX s.1 d 10 - s.1 10))) (QCv D s σ) := by
  have hc := h.1
  have hW := hc.2.1
  have r0 := R_needRange0 (σ := σ) (x := d) (lo := 1) (hi := 400) hk (by decide) (by decide)
  have rc := R_Pcopy (i := 1) hc h.2.1 (by decide)
  show V _ 10 0 0 0 [some (vR (some (10, 0))), some (vI d)] [] σ _
  refine V_ildn1 a_X10_boughtInAfter_0 ?_
  refine V_iconst a_X10_boughtInAfter_1 ?_
  refine V_sipush a_X10_boughtInAfter_2 (by decide) ?_
  refine V_s3V a_X10_boughtInAfter_5 c_X10_183 r0 ?_
  refine V_aldn0 a_X10_boughtInAfter_8 ?_
  refine V_fin a_X10_boughtInAfter_9 f_X10_65 rfl hW ?_
  refine V_aldn0 a_X10_boughtInAfter_12 ?_
  refine V_fin a_X10_boughtInAfter_13 f_X10_61 rfl hW ?_
  refine V_v1PV a_X10_boughtInAfter_16 c_X10_100 rc (fun τ hτ => ?_)
  skip
  obtain ⟨f1, cl1⟩ := hτ
  have rg := R_goOn (n := d) (by omega) cl1 (by omega)
  have hW := cl1.2.1
  refine V_aldn0 a_X10_boughtInAfter_19 ?_
  refine V_fin a_X10_boughtInAfter_20 f_X10_33 rfl hW ?_
  refine V_aldn0 a_X10_boughtInAfter_23 ?_
  refine V_fin a_X10_boughtInAfter_24 f_X10_65 rfl hW ?_
  refine V_ildn1 a_X10_boughtInAfter_27 ?_
  refine V_v2PR a_X10_boughtInAfter_28 c_X10_144 rg (fun τ2 hτ2 => ?_)
  exact V_iret a_X10_boughtInAfter_31 (⟨rfl, h.dr f1 hτ2.1 hτ2.2⟩)
theorem X_boughtInAfter1 {d : Int} (id : iR d) (hk : ¬ (1 ≤ d ∧ d ≤ 400)) : Tr m_X10_boughtInAfter 10 1 6 [vR (some (10, 0)), vI d] σ xIAE σ := by
  have r0 := R_needRange1 (σ := σ) (x := d) (lo := 1) (hi := 400) hk id (by decide) (by decide)
  show V _ 10 1 6 0 [some (vR (some (10, 0))), some (vI d)] [] σ _
  refine V_ildn1 a_X10_boughtInAfter_0 ?_
  refine V_iconst a_X10_boughtInAfter_1 ?_
  refine V_sipush a_X10_boughtInAfter_2 (by decide) ?_
  exact V_s3Q a_X10_boughtInAfter_5 c_X10_183 (r0) (fun v τ hq => by cases hq.1) (fun E τ hq => by obtain ⟨h1, hq⟩ := hq; cases h1; exact ⟨rfl, hq⟩)
theorem X_wouldReplace0 {l c q : Int} (h : CIv D σ s) (il : iR l) (ic : iR c) (iq : iR q) (hk : rclC s.1 l c q = 0) : Cv m_X10_wouldReplace 10 0 0 [vR (some (10, 0)), vI l, vI c, vI q] σ (some (vI (rcaN s.1 l c q))) (QCv D s σ) := by
  have hc := h.1
  have hW := hc.2.1
  have hn := hc.2.2.2.2.n
  have rf := R_callInFault hc il ic iq
  rw [hk] at rf
  obtain ⟨h1, h2, h3⟩ := rcl_0 hk
  have rc := R_Pcopy (i := 1) hc h.2.1 (by decide)
  show V _ 10 0 0 0 [some (vR (some (10, 0))), some (vI l), some (vI c), some (vI q)] [] σ _
  refine V_aldn0 a_X10_wouldReplace_0 ?_
  refine V_fin a_X10_wouldReplace_1 f_X10_33 rfl hW ?_
  refine V_aldn0 a_X10_wouldReplace_4 ?_
  refine V_fin a_X10_wouldReplace_5 f_X10_61 rfl hW ?_
  refine V_ildn1 a_X10_wouldReplace_8 ?_
  refine V_ildn2 a_X10_wouldReplace_9 ?_
  refine V_ildn3 a_X10_wouldReplace_10 ?_
  refine V_v4R a_X10_wouldReplace_11 c_X10_133 rf ?_
  refine V_s1V a_X10_wouldReplace_14 c_X10_117 R_refuse0 ?_
  refine V_aldn0 a_X10_wouldReplace_17 ?_
  refine V_fin a_X10_wouldReplace_18 f_X10_65 rfl hW ?_
  refine V_aldn0 a_X10_wouldReplace_21 ?_
  refine V_fin a_X10_wouldReplace_22 f_X10_61 rfl hW ?_
  refine V_v1PV a_X10_wouldReplace_25 c_X10_100 rc (fun τ hτ => ?_)
  skip
  obtain ⟨f1, cl1⟩ := hτ
  have rg := R_callIn cl1 h1.1 (show 0 ≤ c ∧ c < 4 by omega) (show 0 ≤ q ∧ q ≤ 99999 by omega)
  have hW := cl1.2.1
  refine V_aldn0 a_X10_wouldReplace_28 ?_
  refine V_fin a_X10_wouldReplace_29 f_X10_33 rfl hW ?_
  refine V_aldn0 a_X10_wouldReplace_32 ?_
  refine V_fin a_X10_wouldReplace_33 f_X10_65 rfl hW ?_
  refine V_ildn1 a_X10_wouldReplace_36 ?_
  refine V_ildn2 a_X10_wouldReplace_37 ?_
  refine V_ildn3 a_X10_wouldReplace_38 ?_
  refine V_v4PR a_X10_wouldReplace_39 c_X10_137 rg (fun τ2 hτ2 => ?_)
  exact V_iret a_X10_wouldReplace_42 (⟨rfl, h.dr f1 hτ2.1 hτ2.2⟩)
theorem X_wouldReplace1 {l c q : Int} (h : CIv D σ s) (il : iR l) (ic : iR c) (iq : iR q) (hk : rclC s.1 l c q ≠ 0) : Tr m_X10_wouldReplace 10 1 6 [vR (some (10, 0)), vI l, vI c, vI q] σ (xE (rclC s.1 l c q)) σ := by
  have hc := h.1
  have hW := hc.2.1
  have rf := R_callInFault hc il ic iq
  have rb := rclC_bd (A := s.1) (b := l) (s := c) (q := q)
  have rx := R_refuse (σ := σ) (k := rclC s.1 l c q) (by omega)
  show V _ 10 1 6 0 [some (vR (some (10, 0))), some (vI l), some (vI c), some (vI q)] [] σ _
  refine V_aldn0 a_X10_wouldReplace_0 ?_
  refine V_fin a_X10_wouldReplace_1 f_X10_33 rfl hW ?_
  refine V_aldn0 a_X10_wouldReplace_4 ?_
  refine V_fin a_X10_wouldReplace_5 f_X10_61 rfl hW ?_
  refine V_ildn1 a_X10_wouldReplace_8 ?_
  refine V_ildn2 a_X10_wouldReplace_9 ?_
  refine V_ildn3 a_X10_wouldReplace_10 ?_
  refine V_v4R a_X10_wouldReplace_11 c_X10_133 rf ?_
  exact V_s1Q a_X10_wouldReplace_14 c_X10_117 (rx) (fun v τ hq => by cases hq.1) (fun E τ hq => by obtain ⟨h1, hq⟩ := hq; cases h1; exact ⟨rfl, hq⟩)
theorem X_slice0 {n l w : Int} (h : CIv D σ s) (im : iR n) (hk : (placeA s.1 n ≠ -1 ∧ 0 ≤ l ∧ l < s.1 1) ∧ 0 ≤ w ∧ w ≤ 2) : Rt m_X10_slice 10 0 0 [vR (some (10, 0)), vI n, vI l, vI w] σ (some (vI (s.1 (83 + 23 * placeA s.1 n + 5 + 6 * w + l)))) σ := by
  have hc := h.1
  have hW := hc.2.1
  have hn := hc.2.2.2.2.n
  have hp := (place_ok hk.1.1).1
  have r1 := R_neededLoan0 h im hk.1.1
  have r2 := R_needLen0 hc hk.1.2
  have r3 := R_needRange0 (σ := σ) (x := w) (lo := 0) (hi := 2) hk.2 (by decide) (by decide)
  have g := (hc.2.2.1.lns _ hp.1 hp.2).2.2.2.2.2 l hk.1.2.1 (by omega)
  show V _ 10 0 0 0 [some (vR (some (10, 0))), some (vI n), some (vI l), some (vI w), none] [] σ _
  by_cases z : w = 0
  · rw [show 83 + 23 * placeA s.1 n + 5 + 6 * w + l = 83 + 23 * placeA s.1 n + 5 + l by omega]
    refine V_aldn0 a_X10_slice_0 ?_
    refine V_ildn1 a_X10_slice_1 ?_
    refine V_v1R a_X10_slice_2 c_X10_253 r1 ?_
    refine V_ast4 a_X10_slice_5 ?_
    refine V_aldn0 a_X10_slice_7 ?_
    refine V_ildn2 a_X10_slice_8 ?_
    refine V_v1V a_X10_slice_9 c_X10_190 r2 ?_
    refine V_ildn3 a_X10_slice_12 ?_
    refine V_iconst a_X10_slice_13 ?_
    refine V_iconst a_X10_slice_14 ?_
    refine V_s3V a_X10_slice_15 c_X10_183 r3 ?_
    refine V_ildn3 a_X10_slice_18 ?_
    refine V_if_ne_f a_X10_slice_19 (by omega) (by omega) ?_
    refine V_ald4 a_X10_slice_22 ?_
    refine V_fin a_X10_slice_24 f_X10_282 rfl hW ?_
    refine V_ildn2 a_X10_slice_27 ?_
    refine V_ialdE a_X10_slice_28 rfl (by omega) g.1 ?_
    exact V_iret a_X10_slice_29 (⟨rfl, rfl⟩)
  · by_cases y : w = 1
    · rw [show 83 + 23 * placeA s.1 n + 5 + 6 * w + l = 83 + 23 * placeA s.1 n + 11 + l by omega]
      refine V_aldn0 a_X10_slice_0 ?_
      refine V_ildn1 a_X10_slice_1 ?_
      refine V_v1R a_X10_slice_2 c_X10_253 r1 ?_
      refine V_ast4 a_X10_slice_5 ?_
      refine V_aldn0 a_X10_slice_7 ?_
      refine V_ildn2 a_X10_slice_8 ?_
      refine V_v1V a_X10_slice_9 c_X10_190 r2 ?_
      refine V_ildn3 a_X10_slice_12 ?_
      refine V_iconst a_X10_slice_13 ?_
      refine V_iconst a_X10_slice_14 ?_
      refine V_s3V a_X10_slice_15 c_X10_183 r3 ?_
      refine V_ildn3 a_X10_slice_18 ?_
      refine V_if_ne_t a_X10_slice_19 (by omega) (by omega) ?_
      refine V_ildn3 a_X10_slice_30 ?_
      refine V_iconst a_X10_slice_31 ?_
      refine V_icmp_ne_f a_X10_slice_32 (by omega) (by omega) ?_
      refine V_ald4 a_X10_slice_35 ?_
      refine V_fin a_X10_slice_37 f_X10_285 rfl hW ?_
      refine V_ildn2 a_X10_slice_40 ?_
      refine V_ialdE a_X10_slice_41 rfl (by omega) g.2.1 ?_
      refine V_goto a_X10_slice_42 ?_
      exact V_iret a_X10_slice_52 (⟨rfl, rfl⟩)
    · rw [show 83 + 23 * placeA s.1 n + 5 + 6 * w + l = 83 + 23 * placeA s.1 n + 17 + l by omega]
      refine V_aldn0 a_X10_slice_0 ?_
      refine V_ildn1 a_X10_slice_1 ?_
      refine V_v1R a_X10_slice_2 c_X10_253 r1 ?_
      refine V_ast4 a_X10_slice_5 ?_
      refine V_aldn0 a_X10_slice_7 ?_
      refine V_ildn2 a_X10_slice_8 ?_
      refine V_v1V a_X10_slice_9 c_X10_190 r2 ?_
      refine V_ildn3 a_X10_slice_12 ?_
      refine V_iconst a_X10_slice_13 ?_
      refine V_iconst a_X10_slice_14 ?_
      refine V_s3V a_X10_slice_15 c_X10_183 r3 ?_
      refine V_ildn3 a_X10_slice_18 ?_
      refine V_if_ne_t a_X10_slice_19 (by omega) (by omega) ?_
      refine V_ildn3 a_X10_slice_30 ?_
      refine V_iconst a_X10_slice_31 ?_
      refine V_icmp_ne_t a_X10_slice_32 (by omega) (by omega) ?_
      refine V_ald4 a_X10_slice_45 ?_
      refine V_fin a_X10_slice_47 f_X10_288 rfl hW ?_
      refine V_ildn2 a_X10_slice_50 ?_
      refine V_ialdE a_X10_slice_51 rfl (by omega) g.2.2 ?_
      exact V_iret a_X10_slice_52 (⟨rfl, rfl⟩)
theorem X_slice1 {n l w : Int} (h : CIv D σ s) (im : iR n) (il : iR l) (hk : ¬ (placeA s.1 n ≠ -1 ∧ 0 ≤ l ∧ l < s.1 1)) : Tr m_X10_slice 10 1 6 [vR (some (10, 0)), vI n, vI l, vI w] σ xIOB σ := by
  show V _ 10 1 6 0 [some (vR (some (10, 0))), some (vI n), some (vI l), some (vI w), none] [] σ _
  by_cases z : placeA s.1 n = -1
  · have r1 := R_neededLoan1 h im z
    refine V_aldn0 a_X10_slice_0 ?_
    refine V_ildn1 a_X10_slice_1 ?_
    exact V_v1Q a_X10_slice_2 c_X10_253 (r1) (fun v τ hq => by cases hq.1) (fun E τ hq => by obtain ⟨h1, hq⟩ := hq; cases h1; exact ⟨rfl, hq⟩)
  · have r1 := R_neededLoan0 h im z
    have r2 := R_needLen1 h.1 (fun y => hk ⟨z, y⟩) il
    refine V_aldn0 a_X10_slice_0 ?_
    refine V_ildn1 a_X10_slice_1 ?_
    refine V_v1R a_X10_slice_2 c_X10_253 r1 ?_
    refine V_ast4 a_X10_slice_5 ?_
    refine V_aldn0 a_X10_slice_7 ?_
    refine V_ildn2 a_X10_slice_8 ?_
    exact V_v1Q a_X10_slice_9 c_X10_190 (r2) (fun v τ hq => by cases hq.1) (fun E τ hq => by obtain ⟨h1, hq⟩ := hq; cases h1; exact ⟨rfl, hq⟩)
theorem X_slice2 {n l w : Int} (h : CIv D σ s) (im : iR n) (iw : iR w) (hk : placeA s.1 n ≠ -1 ∧ 0 ≤ l ∧ l < s.1 1) (hw : ¬ (0 ≤ w ∧ w ≤ 2)) : Tr m_X10_slice 10 1 6 [vR (some (10, 0)), vI n, vI l, vI w] σ xIAE σ := by
  have r1 := R_neededLoan0 h im hk.1
  have r2 := R_needLen0 h.1 hk.2
  have r3 := R_needRange1 (σ := σ) (x := w) (lo := 0) (hi := 2) hw iw (by decide) (by decide)
  show V _ 10 1 6 0 [some (vR (some (10, 0))), some (vI n), some (vI l), some (vI w), none] [] σ _
  refine V_aldn0 a_X10_slice_0 ?_
  refine V_ildn1 a_X10_slice_1 ?_
  refine V_v1R a_X10_slice_2 c_X10_253 r1 ?_
  refine V_ast4 a_X10_slice_5 ?_
  refine V_aldn0 a_X10_slice_7 ?_
  refine V_ildn2 a_X10_slice_8 ?_
  refine V_v1V a_X10_slice_9 c_X10_190 r2 ?_
  refine V_ildn3 a_X10_slice_12 ?_
  refine V_iconst a_X10_slice_13 ?_
  refine V_iconst a_X10_slice_14 ?_
  exact V_s3Q a_X10_slice_15 c_X10_183 (r3) (fun v τ hq => by cases hq.1) (fun E τ hq => by obtain ⟨h1, hq⟩ := hq; cases h1; exact ⟨rfl, hq⟩)
theorem X_dailyFee0 {n : Int} (h : CIv D σ s) (im : iR n) (hk : placeA s.1 n ≠ -1) : Rt m_X10_dailyFee 10 0 0 [vR (some (10, 0)), vI n] σ (some (vL (sm (fun l => feeA s.1 (placeA s.1 n) l) (s.1 1)))) σ := by
  have hc := h.1
  have hW := hc.2.1
  have hI := hc.2.2.2.2
  have hn := hI.n
  have hp := (place_ok hk).1
  have r1 := R_neededLoan0 h im hk
  have e6 : sm (fun l => feeA s.1 (placeA s.1 n) l) (s.1 1) = sm (fun l => feeA s.1 (placeA s.1 n) l) 6 := (sm_ext (by omega) (by omega) (fun j j0 j1 => by
    show feeA s.1 (placeA s.1 n) j = 0
    have z := ((hI.loan hp.1 hp.2).sl (by omega) j1).2.2.2 j0
    unfold feeA
    rw [z, Int.zero_mul, Int.zero_mul]
    rfl)).symm
  rw [e6]
  show V _ 10 0 0 0 [some (vR (some (10, 0))), some (vI n), none, none, none, none] [] σ _
  refine V_aldn0 a_X10_dailyFee_0 ?_
  refine V_ildn1 a_X10_dailyFee_1 ?_
  refine V_v1R a_X10_dailyFee_2 c_X10_253 r1 ?_
  refine V_astn2 a_X10_dailyFee_5 ?_
  refine V_lconst0 a_X10_dailyFee_6 ?_
  refine V_lstn3 a_X10_dailyFee_7 ?_
  refine V_iconst a_X10_dailyFee_8 ?_
  refine V_ist5 a_X10_dailyFee_9 ?_
  refine loopI (P := fun l => V _ 10 0 0 11 [some (vR (some (10, 0))), some (vI n), some (vR (some (3, lid σ 0 (placeA s.1 n)))), some (vL (sm (fun l => feeA s.1 (placeA s.1 n) l) l)), none, some (vI l)] [] σ _) (N := 6) (by decide) ?_ ?_
  · refine V_ild5 a_X10_dailyFee_11 ?_
    refine V_bipush a_X10_dailyFee_13 (by decide) ?_
    refine V_icmp_ge_t a_X10_dailyFee_15 (by omega) (by omega) ?_
    refine V_lldn3 a_X10_dailyFee_37 ?_
    exact V_lret a_X10_dailyFee_38 (⟨rfl, rfl⟩)
  · intro l l0 l1 ih
    rw [sm_s _ l0] at ih
    have r2 := R_feeOf (l := l) hc hp ⟨l0, l1⟩
    refine V_ild5 a_X10_dailyFee_11 ?_
    refine V_bipush a_X10_dailyFee_13 (by decide) ?_
    refine V_icmp_ge_f a_X10_dailyFee_15 (by omega) (by omega) ?_
    refine V_lldn3 a_X10_dailyFee_18 ?_
    refine V_aldn0 a_X10_dailyFee_19 ?_
    refine V_fin a_X10_dailyFee_20 f_X10_61 rfl hW ?_
    refine V_aldn2 a_X10_dailyFee_23 ?_
    refine V_ild5 a_X10_dailyFee_24 ?_
    refine V_v2R a_X10_dailyFee_26 c_X10_291 r2 ?_
    refine V_ladd a_X10_dailyFee_29 ?_
    refine V_lstn3 a_X10_dailyFee_30 ?_
    refine V_inc5 a_X10_dailyFee_31 ?_
    refine V_goto a_X10_dailyFee_34 ?_
    exact ih
theorem X_dailyFee1 {n : Int} (h : CIv D σ s) (im : iR n) (hk : placeA s.1 n = -1) : Tr m_X10_dailyFee 10 1 6 [vR (some (10, 0)), vI n] σ xIOB σ := by
  have r1 := R_neededLoan1 h im hk
  show V _ 10 1 6 0 [some (vR (some (10, 0))), some (vI n), none, none, none, none] [] σ _
  refine V_aldn0 a_X10_dailyFee_0 ?_
  refine V_ildn1 a_X10_dailyFee_1 ?_
  exact V_v1Q a_X10_dailyFee_2 c_X10_253 (r1) (fun v τ hq => by cases hq.1) (fun E τ hq => by obtain ⟨h1, hq⟩ := hq; cases h1; exact ⟨rfl, hq⟩)
theorem X_total0 {w : Int} (h : CIv D σ s) (hk : 0 ≤ w ∧ w ≤ 5) : Rt m_X10_total 10 0 0 [vR (some (10, 0)), vI w] σ (some (vL (totV s.1 w))) σ := by
  have hc := h.1
  have hW := hc.2.1
  have r1 := R_needRange0 (σ := σ) (x := w) (lo := 0) (hi := 5) hk (by decide) (by decide)
  show V _ 10 0 0 0 [some (vR (some (10, 0))), some (vI w)] [] σ _
  unfold totV
  by_cases a : w < 3
  · rw [if_pos a]
    have g : σ.J 46 0 w = s.1 (9 + w) := by
      obtain ⟨g0, g1, g2⟩ := hc.2.2.1.acc.2
      have c : w = 0 ∨ w = 1 ∨ w = 2 := by omega
      rcases c with rfl | rfl | rfl
      · exact g0
      · exact g1
      · exact g2
    refine V_ildn1 a_X10_total_0 ?_
    refine V_iconst a_X10_total_1 ?_
    refine V_iconst a_X10_total_2 ?_
    refine V_s3V a_X10_total_3 c_X10_183 r1 ?_
    refine V_ildn1 a_X10_total_6 ?_
    refine V_iconst a_X10_total_7 ?_
    refine V_icmp_ge_f a_X10_total_8 (by omega) (by omega) ?_
    refine V_aldn0 a_X10_total_11 ?_
    refine V_fin a_X10_total_12 f_X10_61 rfl hW ?_
    refine V_fin a_X10_total_15 f_X10_385 rfl hW ?_
    refine V_ildn1 a_X10_total_18 ?_
    refine V_laldE a_X10_total_19 rfl (by omega) g ?_
    exact V_lret a_X10_total_20 (⟨rfl, rfl⟩)
  · rw [if_neg a]
    by_cases b : w = 3
    · rw [if_pos b]
      refine V_ildn1 a_X10_total_0 ?_
      refine V_iconst a_X10_total_1 ?_
      refine V_iconst a_X10_total_2 ?_
      refine V_s3V a_X10_total_3 c_X10_183 r1 ?_
      refine V_ildn1 a_X10_total_6 ?_
      refine V_iconst a_X10_total_7 ?_
      refine V_icmp_ge_t a_X10_total_8 (by omega) (by omega) ?_
      refine V_ildn1 a_X10_total_21 ?_
      refine V_iconst a_X10_total_22 ?_
      refine V_icmp_ne_f a_X10_total_23 (by omega) (by omega) ?_
      refine V_aldn0 a_X10_total_26 ?_
      refine V_fin a_X10_total_27 f_X10_61 rfl hW ?_
      refine V_v0R a_X10_total_30 c_X10_388 (R_recalledNow hc) ?_
      exact V_lret a_X10_total_33 (⟨rfl, rfl⟩)
    · rw [if_neg b]
      by_cases c : w = 4
      · rw [if_pos c]
        refine V_ildn1 a_X10_total_0 ?_
        refine V_iconst a_X10_total_1 ?_
        refine V_iconst a_X10_total_2 ?_
        refine V_s3V a_X10_total_3 c_X10_183 r1 ?_
        refine V_ildn1 a_X10_total_6 ?_
        refine V_iconst a_X10_total_7 ?_
        refine V_icmp_ge_t a_X10_total_8 (by omega) (by omega) ?_
        refine V_ildn1 a_X10_total_21 ?_
        refine V_iconst a_X10_total_22 ?_
        refine V_icmp_ne_t a_X10_total_23 (by omega) (by omega) ?_
        refine V_ildn1 a_X10_total_34 ?_
        refine V_iconst a_X10_total_35 ?_
        refine V_icmp_ne_f a_X10_total_36 (by omega) (by omega) ?_
        refine V_aldn0 a_X10_total_39 ?_
        refine V_fin a_X10_total_40 f_X10_61 rfl hW ?_
        refine V_v0R a_X10_total_43 c_X10_392 (R_valueOfLoans hc) ?_
        refine V_goto a_X10_total_46 ?_
        exact V_lret a_X10_total_56 (⟨rfl, rfl⟩)
      · rw [if_neg c]
        refine V_ildn1 a_X10_total_0 ?_
        refine V_iconst a_X10_total_1 ?_
        refine V_iconst a_X10_total_2 ?_
        refine V_s3V a_X10_total_3 c_X10_183 r1 ?_
        refine V_ildn1 a_X10_total_6 ?_
        refine V_iconst a_X10_total_7 ?_
        refine V_icmp_ge_t a_X10_total_8 (by omega) (by omega) ?_
        refine V_ildn1 a_X10_total_21 ?_
        refine V_iconst a_X10_total_22 ?_
        refine V_icmp_ne_t a_X10_total_23 (by omega) (by omega) ?_
        refine V_ildn1 a_X10_total_34 ?_
        refine V_iconst a_X10_total_35 ?_
        refine V_icmp_ne_t a_X10_total_36 (by omega) (by omega) ?_
        refine V_aldn0 a_X10_total_49 ?_
        refine V_fin a_X10_total_50 f_X10_61 rfl hW ?_
        refine V_v0R a_X10_total_53 c_X10_395 (R_lenderBalances hc) ?_
        exact V_lret a_X10_total_56 (⟨rfl, rfl⟩)
theorem X_total1 {w : Int} (iw : iR w) (hk : ¬ (0 ≤ w ∧ w ≤ 5)) : Tr m_X10_total 10 1 6 [vR (some (10, 0)), vI w] σ xIAE σ := by
  have r1 := R_needRange1 (σ := σ) (x := w) (lo := 0) (hi := 5) hk iw (by decide) (by decide)
  show V _ 10 1 6 0 [some (vR (some (10, 0))), some (vI w)] [] σ _
  refine V_ildn1 a_X10_total_0 ?_
  refine V_iconst a_X10_total_1 ?_
  refine V_iconst a_X10_total_2 ?_
  exact V_s3Q a_X10_total_3 c_X10_183 (r1) (fun v τ hq => by cases hq.1) (fun E τ hq => by obtain ⟨h1, hq⟩ := hq; cases h1; exact ⟨rfl, hq⟩)
end Q2

