/-- a pool's state, the text, the history, the latest fault, the report -/
abbrev Lsv : Type := St × (Int → Int) × Int × Int × (Int → St) × Int × Int × List Int
def CIv (D : Int) (σ : Hp) (s : Lsv) : Prop := Cl D σ 0 s.1 ∧ Shp σ 1 ∧ TC σ s.2.1 s.2.2.1 ∧ HsC D σ s.2.2.2.1 s.2.2.2.2.1 ∧ (σ.I 7 0 0 = s.2.2.2.2.2.1 ∧ σ.I 7 0 1 = s.2.2.2.2.2.2.1) ∧ Pg σ s.2.2.2.2.2.2.2
/-- the class's own part of the heap -/
def ocS (t _n : Nat) : Prop := t ≤ 10 ∨ (20 ≤ t ∧ t ≤ 47)
def QCv (D : Int) (s : Lsv) (σ τ : Hp) : Prop := Nw ocS σ τ ∧ CIv D τ s
/-- throws E -/
def Txw (M : MI) (n b bs : Nat) (as : List AV) (σ : Hp) (E : String) (Φ : Hp → Prop) : Prop := Ct M n b bs as σ (fun r τ => r = .inr E ∧ Φ τ)
/-- what an answer may change -/
def scS (t n : Nat) : Prop := t = 0 ∨ t = 4 ∨ t = 5 ∨ (21 ≤ t ∧ t ≤ 29) ∨ t = 33 ∨ ((t = 3 ∨ t = 30 ∨ t = 31 ∨ t = 32) ∧ n = 999) ∨ nwS 1 t n
section Ci
variable {D D' : Int} {σ τ ρ : Hp} {s : Lsv} {S : Nat → Nat → Prop}
theorem CIv.nw (h : CIv D σ s) (f : Nw S σ τ) (hW : WF τ) (h1 : Shp τ 1) (hS : ∀ t n, S t n → scS t n) : CIv D τ s := by
  obtain ⟨c1, c2, c3, c4, c5, c6⟩ := h
  have no : ∀ t n, ¬ scS t n → ¬ S t n := fun t n z y => z (hS t n y)
  have e9 : τ.I 9 0 = σ.I 9 0 := f.I (no 9 0 (by unfold scS nwS pS; omega))
  have e20 : τ.I 20 0 = σ.I 20 0 := f.I (no 20 0 (by unfold scS nwS pS; omega))
  have e7 : τ.I 7 0 = σ.I 7 0 := f.I (no 7 0 (by unfold scS nwS pS; omega))
  have e8 : τ.I 8 0 = σ.I 8 0 := f.I (no 8 0 (by unfold scS nwS pS; omega))
  have e35 : τ.I 35 0 = σ.I 35 0 := f.I (no 35 0 (by unfold scS nwS pS; omega))
  refine ⟨c1.nw f hW (fun t n z => no t n (by unfold nwS pS at z; unfold scS nwS pS; omega)), h1, ⟨hW, fun k k0 k1 => by rw [e20]; exact c3.2.1 k k0 k1, by rw [e9]; exact c3.2.2.1, c3.2.2.2⟩, c4.nw f hW (no 2 0 (by unfold scS nwS pS; omega)) (no 34 0 (by unfold scS nwS pS; omega)) (fun t n x hx z => no t n (by unfold nwS pS at z; unfold scS nwS pS; omega)), by rw [e7]; exact c5, ?_⟩
  unfold Pg
  rw [e8, e35]
  exact c6
theorem scS_oc {t n : Nat} (h : scS t n) : ocS t n := by
  unfold scS nwS pS at h
  unfold ocS
  omega
theorem Fp.nw {i : Nat} (h : Fp i σ τ) : Nw (fun t n => plS i t n ∨ (t = 47 ∧ n = i)) σ τ := ⟨h.2.2.2.1, fun t n hn => ⟨by rw [h.2.2.1], (h.2.2.2.2.2 t n (fun z => hn (Or.inl z))).1, (h.2.2.2.2.2 t n (fun z => hn (Or.inl z))).2, by rw [h.1], h.2.2.2.2.1 t n (fun z => hn (Or.inr z)), by rw [h.2.1]⟩⟩
theorem Fm.nw {L : List Nat} (h : Fm L σ τ) : Nw (fun t _ => t ∈ L) σ τ := (h.fx (S := fun t _ => t ∈ L) (fun _ _ z => z)).nw
/-- a change was kept and made -/
theorem CIv.cmd {A' : St} (h : CIv D σ s) (f1 : Nw kpS σ τ) (hH : HsC D τ (pushC s.2.2.2.1) (pushH s.2.2.2.1 s.2.2.2.2.1 s.1)) (f2 : Fp 0 τ ρ) (hc : Cl D' ρ 0 A') (hd : D ≤ D') (h2 : D' ≤ 20000000) : QCv D' (A', s.2.1, s.2.2.1, pushC s.2.2.2.1, pushH s.2.2.2.1 s.2.2.2.2.1 s.1, s.2.2.2.2.2.1, s.2.2.2.2.2.2.1, s.2.2.2.2.2.2.2) σ ρ := by
  obtain ⟨c1, c2, c3, c4, c5, c6⟩ := h
  have hW := hc.2.1
  have n2 := f2.nw
  have nn : Nw (fun t n => kpS t n ∨ plS 0 t n ∨ (t = 47 ∧ n = 0)) σ ρ := (f1.sub (fun t n z => Or.inl z)).trans (n2.sub (fun t n z => Or.inr z))
  have kp : ∀ t n, kpS t n → t = 2 ∨ t = 34 ∨ (((t = 6 ∨ (36 ≤ t ∧ t ≤ 47)) ∧ 2 ≤ n) ∨ ((t = 3 ∨ t = 30 ∨ t = 31 ∨ t = 32) ∧ 24 ≤ n)) := fun t n z => by
    unfold kpS at z
    rcases z with z | z | ⟨x, _, z⟩
    · exact Or.inl z
    · exact Or.inr (Or.inl z)
    · unfold nwS pS at z
      omega
  have no : ∀ t n, (t = 7 ∨ t = 8 ∨ t = 9 ∨ t = 20 ∨ t = 35) → ¬ (kpS t n ∨ plS 0 t n ∨ (t = 47 ∧ n = 0)) := fun t n ht z => by
    rcases z with z | z
    · have := kp t n z
      omega
    · unfold plS at z
      omega
  have e9 : ρ.I 9 0 = σ.I 9 0 := nn.I (no 9 0 (by omega))
  have e20 : ρ.I 20 0 = σ.I 20 0 := nn.I (no 20 0 (by omega))
  have e7 : ρ.I 7 0 = σ.I 7 0 := nn.I (no 7 0 (by omega))
  have e8 : ρ.I 8 0 = σ.I 8 0 := nn.I (no 8 0 (by omega))
  have e35 : ρ.I 35 0 = σ.I 35 0 := nn.I (no 35 0 (by omega))
  refine ⟨nn.sub (fun t n z => ?_), hc, c2.cg (nn.P (fun z => ?_)), ⟨hW, fun k k0 k1 => by rw [e20]; exact c3.2.1 k k0 k1, by rw [e9]; exact c3.2.2.1, c3.2.2.2⟩, (hH.nw n2 hW (fun z => ?_) (fun z => ?_) (fun t n x hx z y => ?_)).up hd h2, by rw [e7]; exact c5, ?_⟩
  · rcases z with z | z
    · have := kp t n z
      unfold ocS
      omega
    · unfold plS at z
      unfold ocS
      omega
  · rcases z with z | z
    · have := kp 47 1 z
      omega
    · unfold plS at z
      omega
  · unfold plS at z
    omega
  · unfold plS at z
    omega
  · unfold nwS pS at z
    unfold plS at y
    omega
  · unfold Pg
    rw [e8, e35]
    exact c6
theorem CIv.rfl (h : CIv D σ s) : QCv D s σ σ := ⟨Nw.refl _ _, h⟩
theorem Rt.qc {M : MI} {n b bs : Nat} {as : List AV} {v : Option AV} (h : Rt M n b bs as σ v σ) (hc : CIv D σ s) : Cv M n b bs as σ v (QCv D s σ) := h.cv hc.rfl
theorem Tr.qc {M : MI} {n b bs : Nat} {as : List AV} {E : String} (h : Tr M n b bs as σ E σ) (hc : CIv D σ s) : Txw M n b bs as σ E (QCv D s σ) := V_mono (fun r τ hq => ⟨hq.1, by rw [hq.2]; exact hc.rfl⟩) h
/-- after a change -/
abbrev psh (s : Lsv) (A' : St) : Lsv := (A', s.2.1, s.2.2.1, pushC s.2.2.2.1, pushH s.2.2.2.1 s.2.2.2.2.1 s.1, s.2.2.2.2.2.1, s.2.2.2.2.2.2.1, s.2.2.2.2.2.2.2)
theorem X_borrow0 {b c q r : Int} (h : CIv D σ s) (ib : iR b) (ic : iR c) (iq : iR q) (ir : iR r) (hk : brC s.1 b c q r = 0) (hD : D + 1 ≤ 20000000) : Cv m_X10_borrow 9 61 419 [vR (some (10, 0)), vI b, vI c, vI q, vI r] σ (some (vI (s.1 8))) (QCv (D + 1) (psh s (lendA s.1 b c q r)) σ) := by
  have hc := h.1
  have hW := hc.2.1
  have rf := R_lendFault hc ib ic iq ir
  rw [hk] at rf
  have rk := R_keep hc h.2.2.2.1
  obtain ⟨h1, h2, h3⟩ := br_0 hk
  show V _ 9 61 419 0 [some (vR (some (10, 0))), some (vI b), some (vI c), some (vI q), some (vI r)] [] σ _
  refine V_aldn0 a_X10_borrow_0 ?_
  refine V_fin a_X10_borrow_1 f_X10_33 rfl hW ?_
  refine V_aldn0 a_X10_borrow_4 ?_
  refine V_fin a_X10_borrow_5 f_X10_61 rfl hW ?_
  refine V_ildn1 a_X10_borrow_8 ?_
  refine V_ildn2 a_X10_borrow_9 ?_
  refine V_ildn3 a_X10_borrow_10 ?_
  refine V_ild4 a_X10_borrow_11 ?_
  refine V_v5R a_X10_borrow_13 c_X10_113 rf ?_
  refine V_s1V a_X10_borrow_16 c_X10_117 R_refuse0 ?_
  refine V_aldn0 a_X10_borrow_19 ?_
  refine V_fin a_X10_borrow_20 f_X10_47 rfl hW ?_
  refine V_aldn0 a_X10_borrow_23 ?_
  refine V_fin a_X10_borrow_24 f_X10_61 rfl hW ?_
  refine V_v1PV a_X10_borrow_27 c_X10_120 rk (fun τ hτ => ?_)
  skip
  obtain ⟨f1, cl1, hs1⟩ := hτ
  have hW := cl1.2.1
  have ro := R_Clend cl1 h1.1 h1.2 h2.1 h2.2 h3 hD
  refine V_aldn0 a_X10_borrow_30 ?_
  refine V_fin a_X10_borrow_31 f_X10_33 rfl hW ?_
  refine V_aldn0 a_X10_borrow_34 ?_
  refine V_fin a_X10_borrow_35 f_X10_61 rfl hW ?_
  refine V_ildn1 a_X10_borrow_38 ?_
  refine V_ildn2 a_X10_borrow_39 ?_
  refine V_ildn3 a_X10_borrow_40 ?_
  refine V_ild4 a_X10_borrow_41 ?_
  refine V_v5PR a_X10_borrow_43 c_X10_123 ro (fun τ2 hτ2 => ?_)
  exact V_iret a_X10_borrow_46 (⟨rfl, h.cmd f1 hs1 hτ2.1 hτ2.2 (by omega) hD⟩)
theorem X_borrow1 {b c q r : Int} (h : CIv D σ s) (ib : iR b) (ic : iR c) (iq : iR q) (ir : iR r) (hk : brC s.1 b c q r ≠ 0) : Tr m_X10_borrow 9 1 6 [vR (some (10, 0)), vI b, vI c, vI q, vI r] σ (xE (brC s.1 b c q r)) σ := by
  have hc := h.1
  have hW := hc.2.1
  have rf := R_lendFault hc ib ic iq ir
  have rb := brC_bd (A := s.1) (b := b) (s := c) (q := q) (r := r)
  have rx := R_refuse (σ := σ) (k := brC s.1 b c q r) (by omega)
  show V _ 9 1 6 0 [some (vR (some (10, 0))), some (vI b), some (vI c), some (vI q), some (vI r)] [] σ _
  refine V_aldn0 a_X10_borrow_0 ?_
  refine V_fin a_X10_borrow_1 f_X10_33 rfl hW ?_
  refine V_aldn0 a_X10_borrow_4 ?_
  refine V_fin a_X10_borrow_5 f_X10_61 rfl hW ?_
  refine V_ildn1 a_X10_borrow_8 ?_
  refine V_ildn2 a_X10_borrow_9 ?_
  refine V_ildn3 a_X10_borrow_10 ?_
  refine V_ild4 a_X10_borrow_11 ?_
  refine V_v5R a_X10_borrow_13 c_X10_113 rf ?_
  exact V_s1Q a_X10_borrow_16 c_X10_117 (rx) (fun v τ hq => by cases hq.1) (fun E τ hq => by obtain ⟨h1, hq⟩ := hq; cases h1; exact ⟨rfl, hq⟩)
theorem X_returnShares0 {m q : Int} (h : CIv D σ s) (im : iR m) (iq : iR q) (hk : retC s.1 m q = 0) : Cv m_X10_returnShares 9 61 419 [vR (some (10, 0)), vI m, vI q] σ (some (vI (quanA s.1 (placeA s.1 m) - q))) (QCv D (psh s (retA s.1 m q)) σ) := by
  have hc := h.1
  have hW := hc.2.1
  have rf := R_giveBackFault hc im iq
  rw [hk] at rf
  have rk := R_keep hc h.2.2.2.1
  show V _ 9 61 419 0 [some (vR (some (10, 0))), some (vI m), some (vI q)] [] σ _
  refine V_aldn0 a_X10_returnShares_0 ?_
  refine V_fin a_X10_returnShares_1 f_X10_33 rfl hW ?_
  refine V_aldn0 a_X10_returnShares_4 ?_
  refine V_fin a_X10_returnShares_5 f_X10_61 rfl hW ?_
  refine V_ildn1 a_X10_returnShares_8 ?_
  refine V_ildn2 a_X10_returnShares_9 ?_
  refine V_v3R a_X10_returnShares_10 c_X10_126 rf ?_
  refine V_s1V a_X10_returnShares_13 c_X10_117 R_refuse0 ?_
  refine V_aldn0 a_X10_returnShares_16 ?_
  refine V_fin a_X10_returnShares_17 f_X10_47 rfl hW ?_
  refine V_aldn0 a_X10_returnShares_20 ?_
  refine V_fin a_X10_returnShares_21 f_X10_61 rfl hW ?_
  refine V_v1PV a_X10_returnShares_24 c_X10_120 rk (fun τ hτ => ?_)
  skip
  obtain ⟨f1, cl1, hs1⟩ := hτ
  have hW := cl1.2.1
  have ro := R_CgiveBack cl1 im hk
  refine V_aldn0 a_X10_returnShares_27 ?_
  refine V_fin a_X10_returnShares_28 f_X10_33 rfl hW ?_
  refine V_aldn0 a_X10_returnShares_31 ?_
  refine V_fin a_X10_returnShares_32 f_X10_61 rfl hW ?_
  refine V_ildn1 a_X10_returnShares_35 ?_
  refine V_ildn2 a_X10_returnShares_36 ?_
  refine V_v3PR a_X10_returnShares_37 c_X10_130 ro (fun τ2 hτ2 => ?_)
  exact V_iret a_X10_returnShares_40 (⟨rfl, h.cmd f1 hs1 hτ2.1 hτ2.2 (Int.le_refl _) hc.1⟩)
theorem X_returnShares1 {m q : Int} (h : CIv D σ s) (im : iR m) (iq : iR q) (hk : retC s.1 m q ≠ 0) : Tr m_X10_returnShares 9 1 6 [vR (some (10, 0)), vI m, vI q] σ (xE (retC s.1 m q)) σ := by
  have hc := h.1
  have hW := hc.2.1
  have rf := R_giveBackFault hc im iq
  have rb := retC_bd (A := s.1) (b := m) (q := q)
  have rx := R_refuse (σ := σ) (k := retC s.1 m q) (by omega)
  show V _ 9 1 6 0 [some (vR (some (10, 0))), some (vI m), some (vI q)] [] σ _
  refine V_aldn0 a_X10_returnShares_0 ?_
  refine V_fin a_X10_returnShares_1 f_X10_33 rfl hW ?_
  refine V_aldn0 a_X10_returnShares_4 ?_
  refine V_fin a_X10_returnShares_5 f_X10_61 rfl hW ?_
  refine V_ildn1 a_X10_returnShares_8 ?_
  refine V_ildn2 a_X10_returnShares_9 ?_
  refine V_v3R a_X10_returnShares_10 c_X10_126 rf ?_
  exact V_s1Q a_X10_returnShares_13 c_X10_117 (rx) (fun v τ hq => by cases hq.1) (fun E τ hq => by obtain ⟨h1, hq⟩ := hq; cases h1; exact ⟨rfl, hq⟩)
theorem X_recall0 {l c q : Int} (h : CIv D σ s) (il : iR l) (ic : iR c) (iq : iR q) (hk : rclC s.1 l c q = 0) : Cv m_X10_recall 9 61 419 [vR (some (10, 0)), vI l, vI c, vI q] σ (some (vI (rcaN s.1 l c q))) (QCv D (psh s (rcaA s.1 l c q)) σ) := by
  have hc := h.1
  have hW := hc.2.1
  have hn := hc.2.2.2.2.n
  have rf := R_callInFault hc il ic iq
  rw [hk] at rf
  have rk := R_keep hc h.2.2.2.1
  obtain ⟨h1, h2, h3⟩ := rcl_0 hk
  show V _ 9 61 419 0 [some (vR (some (10, 0))), some (vI l), some (vI c), some (vI q)] [] σ _
  refine V_aldn0 a_X10_recall_0 ?_
  refine V_fin a_X10_recall_1 f_X10_33 rfl hW ?_
  refine V_aldn0 a_X10_recall_4 ?_
  refine V_fin a_X10_recall_5 f_X10_61 rfl hW ?_
  refine V_ildn1 a_X10_recall_8 ?_
  refine V_ildn2 a_X10_recall_9 ?_
  refine V_ildn3 a_X10_recall_10 ?_
  refine V_v4R a_X10_recall_11 c_X10_133 rf ?_
  refine V_s1V a_X10_recall_14 c_X10_117 R_refuse0 ?_
  refine V_aldn0 a_X10_recall_17 ?_
  refine V_fin a_X10_recall_18 f_X10_47 rfl hW ?_
  refine V_aldn0 a_X10_recall_21 ?_
  refine V_fin a_X10_recall_22 f_X10_61 rfl hW ?_
  refine V_v1PV a_X10_recall_25 c_X10_120 rk (fun τ hτ => ?_)
  skip
  obtain ⟨f1, cl1, hs1⟩ := hτ
  have hW := cl1.2.1
  have ro := R_callIn cl1 h1.1 (show 0 ≤ c ∧ c < 4 by omega) (show 0 ≤ q ∧ q ≤ 99999 by omega)
  refine V_aldn0 a_X10_recall_28 ?_
  refine V_fin a_X10_recall_29 f_X10_33 rfl hW ?_
  refine V_aldn0 a_X10_recall_32 ?_
  refine V_fin a_X10_recall_33 f_X10_61 rfl hW ?_
  refine V_ildn1 a_X10_recall_36 ?_
  refine V_ildn2 a_X10_recall_37 ?_
  refine V_ildn3 a_X10_recall_38 ?_
  refine V_v4PR a_X10_recall_39 c_X10_137 ro (fun τ2 hτ2 => ?_)
  exact V_iret a_X10_recall_42 (⟨rfl, h.cmd f1 hs1 hτ2.1 hτ2.2 (Int.le_refl _) hc.1⟩)
theorem X_recall1 {l c q : Int} (h : CIv D σ s) (il : iR l) (ic : iR c) (iq : iR q) (hk : rclC s.1 l c q ≠ 0) : Tr m_X10_recall 9 1 6 [vR (some (10, 0)), vI l, vI c, vI q] σ (xE (rclC s.1 l c q)) σ := by
  have hc := h.1
  have hW := hc.2.1
  have rf := R_callInFault hc il ic iq
  have rb := rclC_bd (A := s.1) (b := l) (s := c) (q := q)
  have rx := R_refuse (σ := σ) (k := rclC s.1 l c q) (by omega)
  show V _ 9 1 6 0 [some (vR (some (10, 0))), some (vI l), some (vI c), some (vI q)] [] σ _
  refine V_aldn0 a_X10_recall_0 ?_
  refine V_fin a_X10_recall_1 f_X10_33 rfl hW ?_
  refine V_aldn0 a_X10_recall_4 ?_
  refine V_fin a_X10_recall_5 f_X10_61 rfl hW ?_
  refine V_ildn1 a_X10_recall_8 ?_
  refine V_ildn2 a_X10_recall_9 ?_
  refine V_ildn3 a_X10_recall_10 ?_
  refine V_v4R a_X10_recall_11 c_X10_133 rf ?_
  exact V_s1Q a_X10_recall_14 c_X10_117 (rx) (fun v τ hq => by cases hq.1) (fun E τ hq => by obtain ⟨h1, hq⟩ := hq; cases h1; exact ⟨rfl, hq⟩)
theorem X_passDays0 {d : Int} (h : CIv D σ s) (hk : 1 ≤ d ∧ d ≤ 400) (hD : D + 401 ≤ 20000000) : Cv m_X10_passDays 9 61 419 [vR (some (10, 0)), vI d] σ (some (vI (dysX s.1 d 10 - s.1 10))) (QCv (D + d) (psh s (dysX s.1 d)) σ) := by
  have hc := h.1
  have hW := hc.2.1
  have rf := R_goOnFault (σ := σ) (d := d) (by unfold iR; omega)
  rw [if_pos hk] at rf
  have rk := R_keep hc h.2.2.2.1
  show V _ 9 61 419 0 [some (vR (some (10, 0))), some (vI d)] [] σ _
  refine V_aldn0 a_X10_passDays_0 ?_
  refine V_fin a_X10_passDays_1 f_X10_33 rfl hW ?_
  refine V_ildn1 a_X10_passDays_4 ?_
  refine V_v1R a_X10_passDays_5 c_X10_140 rf ?_
  refine V_s1V a_X10_passDays_8 c_X10_117 R_refuse0 ?_
  refine V_aldn0 a_X10_passDays_11 ?_
  refine V_fin a_X10_passDays_12 f_X10_47 rfl hW ?_
  refine V_aldn0 a_X10_passDays_15 ?_
  refine V_fin a_X10_passDays_16 f_X10_61 rfl hW ?_
  refine V_v1PV a_X10_passDays_19 c_X10_120 rk (fun τ hτ => ?_)
  skip
  obtain ⟨f1, cl1, hs1⟩ := hτ
  have hW := cl1.2.1
  have ro := R_goOn (n := d) (by omega) cl1 (by omega)
  refine V_aldn0 a_X10_passDays_22 ?_
  refine V_fin a_X10_passDays_23 f_X10_33 rfl hW ?_
  refine V_aldn0 a_X10_passDays_26 ?_
  refine V_fin a_X10_passDays_27 f_X10_61 rfl hW ?_
  refine V_ildn1 a_X10_passDays_30 ?_
  refine V_v2PR a_X10_passDays_31 c_X10_144 ro (fun τ2 hτ2 => ?_)
  exact V_iret a_X10_passDays_34 (⟨rfl, h.cmd f1 hs1 hτ2.1 hτ2.2 (by omega) (by omega)⟩)
theorem X_passDays1 {d : Int} (h : CIv D σ s) (id : iR d) (hk : ¬ (1 ≤ d ∧ d ≤ 400)) : Tr m_X10_passDays 9 1 6 [vR (some (10, 0)), vI d] σ xIAE σ := by
  have hc := h.1
  have hW := hc.2.1
  have rf := R_goOnFault (σ := σ) (d := d) id
  rw [if_neg hk] at rf
  show V _ 9 1 6 0 [some (vR (some (10, 0))), some (vI d)] [] σ _
  refine V_aldn0 a_X10_passDays_0 ?_
  refine V_fin a_X10_passDays_1 f_X10_33 rfl hW ?_
  refine V_ildn1 a_X10_passDays_4 ?_
  refine V_v1R a_X10_passDays_5 c_X10_140 rf ?_
  exact V_s1Q a_X10_passDays_8 c_X10_117 (R_refuse2) (fun v τ hq => by cases hq.1) (fun E τ hq => by obtain ⟨h1, hq⟩ := hq; cases h1; exact ⟨rfl, hq⟩)
theorem X_payDividend0 {c a : Int} (h : CIv D σ s) (ic : iR c) (ia : iR a) (hk : dvdC s.1 c a = 0) : Cv m_X10_payDividend 9 61 419 [vR (some (10, 0)), vI c, vI a] σ (some (vL (divX s.1 c a (s.1 7)).2)) (QCv D (psh s (divX s.1 c a (s.1 7)).1) σ) := by
  have hc := h.1
  have hW := hc.2.1
  have hn := hc.2.2.2.2.n
  have rf := R_dividendFault hc ic ia
  rw [hk] at rf
  have rk := R_keep hc h.2.2.2.1
  have hd := dvdC_0.mp hk
  show V _ 9 61 419 0 [some (vR (some (10, 0))), some (vI c), some (vI a)] [] σ _
  refine V_aldn0 a_X10_payDividend_0 ?_
  refine V_fin a_X10_payDividend_1 f_X10_33 rfl hW ?_
  refine V_aldn0 a_X10_payDividend_4 ?_
  refine V_fin a_X10_payDividend_5 f_X10_61 rfl hW ?_
  refine V_ildn1 a_X10_payDividend_8 ?_
  refine V_ildn2 a_X10_payDividend_9 ?_
  refine V_v3R a_X10_payDividend_10 c_X10_148 rf ?_
  refine V_s1V a_X10_payDividend_13 c_X10_117 R_refuse0 ?_
  refine V_aldn0 a_X10_payDividend_16 ?_
  refine V_fin a_X10_payDividend_17 f_X10_47 rfl hW ?_
  refine V_aldn0 a_X10_payDividend_20 ?_
  refine V_fin a_X10_payDividend_21 f_X10_61 rfl hW ?_
  refine V_v1PV a_X10_payDividend_24 c_X10_120 rk (fun τ hτ => ?_)
  skip
  obtain ⟨f1, cl1, hs1⟩ := hτ
  have hW := cl1.2.1
  have ro := R_dividend cl1 (show 0 ≤ c ∧ c < 4 by omega) (show 1 ≤ a ∧ a ≤ 9999 by omega)
  refine V_aldn0 a_X10_payDividend_27 ?_
  refine V_fin a_X10_payDividend_28 f_X10_33 rfl hW ?_
  refine V_aldn0 a_X10_payDividend_31 ?_
  refine V_fin a_X10_payDividend_32 f_X10_61 rfl hW ?_
  refine V_ildn1 a_X10_payDividend_35 ?_
  refine V_ildn2 a_X10_payDividend_36 ?_
  refine V_v3PR a_X10_payDividend_37 c_X10_151 ro (fun τ2 hτ2 => ?_)
  exact V_lret a_X10_payDividend_40 (⟨rfl, h.cmd f1 hs1 hτ2.1.fp hτ2.2 (Int.le_refl _) hc.1⟩)
theorem X_payDividend1 {c a : Int} (h : CIv D σ s) (ic : iR c) (ia : iR a) (hk : dvdC s.1 c a ≠ 0) : Tr m_X10_payDividend 9 1 6 [vR (some (10, 0)), vI c, vI a] σ (xE (dvdC s.1 c a)) σ := by
  have hc := h.1
  have hW := hc.2.1
  have rf := R_dividendFault hc ic ia
  have rb := dvdC_bd (A := s.1) (b := c) (q := a)
  have rx := R_refuse (σ := σ) (k := dvdC s.1 c a) (by omega)
  show V _ 9 1 6 0 [some (vR (some (10, 0))), some (vI c), some (vI a)] [] σ _
  refine V_aldn0 a_X10_payDividend_0 ?_
  refine V_fin a_X10_payDividend_1 f_X10_33 rfl hW ?_
  refine V_aldn0 a_X10_payDividend_4 ?_
  refine V_fin a_X10_payDividend_5 f_X10_61 rfl hW ?_
  refine V_ildn1 a_X10_payDividend_8 ?_
  refine V_ildn2 a_X10_payDividend_9 ?_
  refine V_v3R a_X10_payDividend_10 c_X10_148 rf ?_
  exact V_s1Q a_X10_payDividend_13 c_X10_117 (rx) (fun v τ hq => by cases hq.1) (fun E τ hq => by obtain ⟨h1, hq⟩ := hq; cases h1; exact ⟨rfl, hq⟩)
end Ci

