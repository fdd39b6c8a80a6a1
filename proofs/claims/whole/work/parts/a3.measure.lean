/-- the tags that a pool of the class is made of -/
def clT : List Nat := [3, 30, 31, 32, 36, 37, 38, 39, 40, 41, 42, 43, 44, 45, 46]
theorem Rel.fm {σ τ : Hp} {i : Nat} {A : St} {L : List Nat} (h : Rel σ i A) (hf : Fm L σ τ) (hd : ∀ t ∈ clT, t ∉ L) : Rel τ i A := by
  unfold Rel lid at h ⊢
  rw [hf.2.1, hf.I (hd 3 (by decide)), hf.I (hd 30 (by decide)), hf.I (hd 31 (by decide)), hf.I (hd 32 (by decide)), hf.I (hd 36 (by decide)), hf.I (hd 37 (by decide)), hf.I (hd 38 (by decide)), hf.I (hd 39 (by decide)), hf.I (hd 40 (by decide)), hf.I (hd 41 (by decide)), hf.I (hd 42 (by decide)), hf.I (hd 43 (by decide)), hf.I (hd 44 (by decide)), hf.J (hd 45 (by decide)), hf.J (hd 46 (by decide))]
  exact h
theorem Shp.fm {σ τ : Hp} {i : Nat} {L : List Nat} (h : Shp σ i) (hf : Fm L σ τ) : Shp τ i := by
  unfold Shp lid at h ⊢
  rw [hf.2.1]
  exact h
theorem lid_fm {σ τ : Hp} {i : Nat} {L : List Nat} (hf : Fm L σ τ) {k : Int} : lid τ i k = lid σ i k := by
  unfold lid
  rw [hf.2.1]
theorem Cl.fm {D : Int} {σ τ : Hp} {i : Nat} {A : St} {L : List Nat} (h : Cl D σ i A) (hf : Fm L σ τ) (hd : ∀ t ∈ clT, t ∉ L) : Cl D τ i A := ⟨h.1, hf.wf h.2.1, h.2.2.1.fm hf hd, h.2.2.2.1.fm hf, h.2.2.2.2⟩
/-- what the allocation has measured -/
def Ms (τ : Hp) (A : St) (s ex : Int) : Prop := τ.I 0 0 7 = A 1 ∧ τ.I 0 0 8 = A (23 + s) ∧ τ.I 0 0 2 = freeB A ex s ∧ ∀ l, 0 ≤ l → l < A 1 → τ.I 28 0 l = max 1 (A (49 + 4 * l + s)) ∧ τ.I 27 0 l = lentA A l s ∧ τ.I 26 0 l = (if l = ex then 0 else freeA A l s)
def MsK (σ : Hp) (A : St) (s ex k : Int) (τ : Hp) : Prop := Fm [0, 26, 27, 28] σ τ ∧ (τ.I 0 0 7 = A 1 ∧ τ.I 0 0 8 = A (23 + s) ∧ τ.I 0 0 2 = sm (fun l => if l = ex then 0 else freeA A l s) k) ∧ ∀ l, 0 ≤ l → l < k → τ.I 28 0 l = max 1 (A (49 + 4 * l + s)) ∧ τ.I 27 0 l = lentA A l s ∧ τ.I 26 0 l = (if l = ex then 0 else freeA A l s)
section Al
variable {D : Int} {σ : Hp} {A : St} {i : Nat}
theorem R_measure {s ex : Int} (h : Cl D σ i A) (hs : 0 ≤ s ∧ s < 4) (hs0 : s < A 0) (hx : iR ex) : Cv m_X0_measure 1 0 0 [vR (some (0, 0)), vR (some (6, i)), vI s, vI ex] σ none (fun τ => Fm [0, 26, 27, 28] σ τ ∧ Ms τ A s ex) := by
  have h' := h
  obtain ⟨hD, hW, hR, hS, hI⟩ := h
  have hn := hI.n
  have n1a := hR.1.2.1
  have h39 := hR.2.2.1 s hs.1 hs0
  have hla := hI.last hs.1 hs.2
  have n1 : σ.I 36 i 1 = A 1 := n1a
  have e39 : (σ.setI 0 0 7 (A 1)).I 39 i s = A (23 + s) := by
    rw [setI_t (by decide)]
    exact h39
  show V _ 1 0 0 0 [some (vR (some (0, 0))), some (vR (some (6, i))), some (vI s), some (vI ex), none, none] [] σ _
  refine V_aldn0 a_X0_measure_0 ?_
  refine V_aldn1 a_X0_measure_1 ?_
  refine V_fin a_X0_measure_2 f_X0_31 rfl hW ?_
  refine V_iconst a_X0_measure_5 ?_
  refine V_ialdE a_X0_measure_6 rfl (by omega) n1 ?_
  refine V_putI a_X0_measure_7 f_X0_36 rfl ?_
  refine V_aldn0 a_X0_measure_10 ?_
  refine V_aldn1 a_X0_measure_11 ?_
  refine V_fin a_X0_measure_12 f_X0_40 rfl hW ?_
  refine V_ildn2 a_X0_measure_15 ?_
  refine V_ialdE a_X0_measure_16 rfl (by omega) e39 ?_
  refine V_putI a_X0_measure_17 f_X0_43 rfl ?_
  refine V_aldn0 a_X0_measure_20 ?_
  refine V_iconst a_X0_measure_21 ?_
  refine V_putI a_X0_measure_22 f_X0_46 rfl ?_
  refine V_iconst a_X0_measure_25 ?_
  refine V_ist4 a_X0_measure_26 ?_
  skip
  have start : MsK σ A s ex 0 (((σ.setI 0 0 7 (A 1)).setI 0 0 8 (A (23 + s))).setI 0 0 2 0) := by
    refine ⟨((Fm.setI (by decide)).trans (Fm.setI (by decide))).trans (Fm.setI (by decide)), ⟨?_, ?_, ?_⟩, fun l l0 l1 => by omega⟩
    · rw [setI_ne (by decide), setI_ne (by decide)]
      exact setI_I
    · rw [setI_ne (by decide)]
      exact setI_I
    · rw [sm_0]
      exact setI_I
  generalize ((σ.setI 0 0 7 (A 1)).setI 0 0 8 (A (23 + s))).setI 0 0 2 0 = τ0 at start
  refine loopI (P := fun k => ∀ (x5 : Option AV) τ, MsK σ A s ex k τ → V m_X0_measure 1 0 0 28 [some (vR (some (0, 0))), some (vR (some (6, i))), some (vI s), some (vI ex), some (vI k), x5] [] τ (fun r τ => r = .inl none ∧ Fm [0, 26, 27, 28] σ τ ∧ Ms τ A s ex)) (N := A 1) (by omega) ?_ ?_ none τ0 start
  · intro x5 τ hτ
    obtain ⟨f, ⟨m7, m8, m2⟩, ml⟩ := hτ
    have hW := f.wf hW
    refine V_ild4 a_X0_measure_28 ?_
    refine V_aldn0 a_X0_measure_30 ?_
    refine V_getIE a_X0_measure_31 f_X0_36 rfl m7 ?_
    refine V_icmp_ge_t a_X0_measure_34 (by omega) (by omega) ?_
    exact V_ret a_X0_measure_137 (⟨rfl, f, m7, m8, m2, ml⟩)
  · intro k k0 k1 ih x5 τ hτ
    obtain ⟨f, ⟨m7, m8, m2⟩, ml⟩ := hτ
    have hc := h'.fm f (by decide)
    have hWτ := hc.2.1
    obtain ⟨f1, f2, f3⟩ := free_bd hI k0 k1 hs.1 hs.2
    have f4 := lent_bd hI k0 (by omega) hs.1 hs.2
    have hhe := hI.held k0 (by omega : k < 6) hs.1 hs.2
    have hle := (hc.2.2.1.lend k0 k1).2.1
    have r1 := R_heldBy (i := i) (l := k) (s := s) hWτ (by omega) hs (hc.2.2.1.held k0 (by omega) hs.1 hs.2)
    have fm1 : Fm [0, 26, 27, 28] τ (τ.setI 28 0 k (max 1 (A (49 + 4 * k + s)))) := Fm.setI (by decide)
    have hc1 := hc.fm fm1 (by decide)
    have r2 := R_ClentBy (l := k) (s := s) hc1 (by omega) (by omega)
    have fm2 : Fm [0, 26, 27, 28] τ ((τ.setI 28 0 k (max 1 (A (49 + 4 * k + s)))).setI 27 0 k (lentA A k s)) := fm1.trans (Fm.setI (by decide))
    have i41 : ((τ.setI 28 0 k (max 1 (A (49 + 4 * k + s)))).setI 27 0 k (lentA A k s)).I 41 i k = A (33 + k) := by
      rw [fm2.I (by decide)]
      exact hle
    have i27 : ((τ.setI 28 0 k (max 1 (A (49 + 4 * k + s)))).setI 27 0 k (lentA A k s)).I 27 0 k = lentA A k s := setI_I
    have nxt : ∀ v, v = (if k = ex then 0 else freeA A k s) → MsK σ A s ex (k + 1) ((((τ.setI 28 0 k (max 1 (A (49 + 4 * k + s)))).setI 27 0 k (lentA A k s)).setI 26 0 k v).setI 0 0 2 (sm (fun l => if l = ex then 0 else freeA A l s) k + v)) := fun v hv => by
      refine ⟨f.trans ((fm2.trans (Fm.setI (by decide))).trans (Fm.setI (by decide))), ⟨?_, ?_, ?_⟩, fun l l0 l1 => ?_⟩
      · rw [setI_ne (by decide), setI_t (by decide), setI_t (by decide), setI_t (by decide)]
        exact m7
      · rw [setI_ne (by decide), setI_t (by decide), setI_t (by decide), setI_t (by decide)]
        exact m8
      · rw [setI_I, sm_s _ k0, hv]
      · rw [setI_t (t' := 28) (by decide), setI_t (t' := 28) (by decide), setI_t (t' := 28) (by decide), setI_t (t' := 27) (by decide), setI_t (t' := 27) (by decide), setI_t (t' := 26) (by decide)]
        by_cases q : l = k
        · subst q
          rw [setI_I, setI_I, setI_I]
          exact ⟨rfl, rfl, hv⟩
        · rw [setI_ne q, setI_ne q, setI_ne q, setI_t (by decide), setI_t (by decide), setI_t (by decide)]
          exact ml l l0 (by omega)
    have g26 : ∀ v, (((τ.setI 28 0 k (max 1 (A (49 + 4 * k + s)))).setI 27 0 k (lentA A k s)).setI 26 0 k v).I 26 0 k = v := fun v => setI_I
    have g2 : ∀ v, (((τ.setI 28 0 k (max 1 (A (49 + 4 * k + s)))).setI 27 0 k (lentA A k s)).setI 26 0 k v).I 0 0 2 = sm (fun l => if l = ex then 0 else freeA A l s) k := fun v => by
      rw [setI_t (by decide), setI_t (by decide), setI_t (by decide)]
      exact m2
    have hW := hWτ
    by_cases q : k = ex
    · have ih2 := ih (some (vI (A (49 + 4 * k + s)))) _ (nxt 0 (by rw [if_pos q]))
      refine V_ild4 a_X0_measure_28 ?_
      refine V_aldn0 a_X0_measure_30 ?_
      refine V_getIE a_X0_measure_31 f_X0_36 rfl m7 ?_
      refine V_icmp_ge_f a_X0_measure_34 (by omega) (by omega) ?_
      refine V_aldn1 a_X0_measure_37 ?_
      refine V_ild4 a_X0_measure_38 ?_
      refine V_ildn2 a_X0_measure_40 ?_
      refine V_v2R a_X0_measure_41 c_X0_49 r1 ?_
      refine V_ist5 a_X0_measure_44 ?_
      refine V_aldn0 a_X0_measure_46 ?_
      refine V_fin a_X0_measure_47 f_X0_24 rfl hW ?_
      refine V_ild4 a_X0_measure_50 ?_
      refine V_iconst a_X0_measure_52 ?_
      refine V_ild5 a_X0_measure_53 ?_
      refine V_s2R a_X0_measure_55 c_X0_53 (R_imax (by omega) (by omega)) ?_
      refine V_iast a_X0_measure_58 rfl (by omega) ?_
      refine V_aldn0 a_X0_measure_59 ?_
      refine V_fin a_X0_measure_60 f_X0_21 rfl hW ?_
      refine V_ild4 a_X0_measure_63 ?_
      refine V_aldn1 a_X0_measure_65 ?_
      refine V_ild4 a_X0_measure_66 ?_
      refine V_ildn2 a_X0_measure_68 ?_
      refine V_v2R a_X0_measure_69 c_X0_58 r2 ?_
      refine V_iast a_X0_measure_72 rfl (by omega) ?_
      refine V_aldn0 a_X0_measure_73 ?_
      refine V_fin a_X0_measure_74 f_X0_18 rfl hW ?_
      refine V_ild4 a_X0_measure_77 ?_
      refine V_ild4 a_X0_measure_79 ?_
      refine V_ildn3 a_X0_measure_81 ?_
      refine V_icmp_ne_f a_X0_measure_82 (by omega) (by omega) ?_
      refine V_iconst a_X0_measure_85 ?_
      refine V_goto a_X0_measure_86 ?_
      refine V_iast a_X0_measure_114 rfl (by omega) ?_
      refine V_aldn0 a_X0_measure_115 ?_
      first | refine V_dupR a_X0_measure_116 ?_ | refine V_dupI a_X0_measure_116 ?_
      refine V_getIE a_X0_measure_117 f_X0_46 rfl (g2 _) ?_
      refine V_aldn0 a_X0_measure_120 ?_
      refine V_fin a_X0_measure_121 f_X0_18 rfl hW ?_
      refine V_ild4 a_X0_measure_124 ?_
      refine V_ialdE a_X0_measure_126 rfl (by omega) (g26 _) ?_
      refine V_iadd a_X0_measure_127 ?_
      refine V_putI a_X0_measure_128 f_X0_46 rfl ?_
      refine V_inc4 a_X0_measure_131 ?_
      refine V_goto a_X0_measure_134 ?_
      exact ih2
    · have ih2 := ih (some (vI (A (49 + 4 * k + s)))) _ (nxt (freeA A k s) (by rw [if_neg q]))
      refine V_ild4 a_X0_measure_28 ?_
      refine V_aldn0 a_X0_measure_30 ?_
      refine V_getIE a_X0_measure_31 f_X0_36 rfl m7 ?_
      refine V_icmp_ge_f a_X0_measure_34 (by omega) (by omega) ?_
      refine V_aldn1 a_X0_measure_37 ?_
      refine V_ild4 a_X0_measure_38 ?_
      refine V_ildn2 a_X0_measure_40 ?_
      refine V_v2R a_X0_measure_41 c_X0_49 r1 ?_
      refine V_ist5 a_X0_measure_44 ?_
      refine V_aldn0 a_X0_measure_46 ?_
      refine V_fin a_X0_measure_47 f_X0_24 rfl hW ?_
      refine V_ild4 a_X0_measure_50 ?_
      refine V_iconst a_X0_measure_52 ?_
      refine V_ild5 a_X0_measure_53 ?_
      refine V_s2R a_X0_measure_55 c_X0_53 (R_imax (by omega) (by omega)) ?_
      refine V_iast a_X0_measure_58 rfl (by omega) ?_
      refine V_aldn0 a_X0_measure_59 ?_
      refine V_fin a_X0_measure_60 f_X0_21 rfl hW ?_
      refine V_ild4 a_X0_measure_63 ?_
      refine V_aldn1 a_X0_measure_65 ?_
      refine V_ild4 a_X0_measure_66 ?_
      refine V_ildn2 a_X0_measure_68 ?_
      refine V_v2R a_X0_measure_69 c_X0_58 r2 ?_
      refine V_iast a_X0_measure_72 rfl (by omega) ?_
      refine V_aldn0 a_X0_measure_73 ?_
      refine V_fin a_X0_measure_74 f_X0_18 rfl hW ?_
      refine V_ild4 a_X0_measure_77 ?_
      refine V_ild4 a_X0_measure_79 ?_
      refine V_ildn3 a_X0_measure_81 ?_
      refine V_icmp_ne_t a_X0_measure_82 (by omega) (by omega) ?_
      refine V_iconst a_X0_measure_89 ?_
      refine V_ild5 a_X0_measure_90 ?_
      refine V_aldn1 a_X0_measure_92 ?_
      refine V_fin a_X0_measure_93 f_X0_61 rfl hW ?_
      refine V_ild4 a_X0_measure_96 ?_
      refine V_ialdE a_X0_measure_98 rfl (by omega) i41 ?_
      refine V_imul a_X0_measure_99 ?_
      refine V_bipush a_X0_measure_100 (by decide) ?_
      refine V_idiv a_X0_measure_102 (by omega) ?_
      refine V_aldn0 a_X0_measure_103 ?_
      refine V_fin a_X0_measure_104 f_X0_21 rfl hW ?_
      refine V_ild4 a_X0_measure_107 ?_
      refine V_ialdE a_X0_measure_109 rfl (by omega) i27 ?_
      refine V_isub a_X0_measure_110 ?_
      refine V_s2R a_X0_measure_111 c_X0_53 (R_imax (by omega) (by omega)) ?_
      refine V_iast a_X0_measure_114 rfl (by omega) ?_
      refine V_aldn0 a_X0_measure_115 ?_
      first | refine V_dupR a_X0_measure_116 ?_ | refine V_dupI a_X0_measure_116 ?_
      refine V_getIE a_X0_measure_117 f_X0_46 rfl (g2 _) ?_
      refine V_aldn0 a_X0_measure_120 ?_
      refine V_fin a_X0_measure_121 f_X0_18 rfl hW ?_
      refine V_ild4 a_X0_measure_124 ?_
      refine V_ialdE a_X0_measure_126 rfl (by omega) (g26 _) ?_
      refine V_iadd a_X0_measure_127 ?_
      refine V_putI a_X0_measure_128 f_X0_46 rfl ?_
      refine V_inc4 a_X0_measure_131 ?_
      refine V_goto a_X0_measure_134 ?_
      exact ih2
theorem R_orderByTurn {n last : Int} (hW : WF σ) (h7 : σ.I 0 0 7 = n) (hn : 0 ≤ n ∧ n ≤ 6) (hl : -1 ≤ last ∧ last < n ∨ last = -1) : Cv m_X0_orderByTurn 0 0 0 [vR (some (0, 0)), vI last] σ none (fun τ => Fm [25] σ τ ∧ ∀ p, 0 ≤ p → p < n → τ.I 25 0 p = (last + 1 + p).tmod n) := by
  show V _ 0 0 0 0 [some (vR (some (0, 0))), some (vI last), none, none] [] σ _
  refine V_ildn1 a_X0_orderByTurn_0 ?_
  refine V_iconst a_X0_orderByTurn_1 ?_
  refine V_iadd a_X0_orderByTurn_2 ?_
  refine V_istn2 a_X0_orderByTurn_3 ?_
  refine V_iconst a_X0_orderByTurn_4 ?_
  refine V_istn3 a_X0_orderByTurn_5 ?_
  skip
  have key := loopI (P := fun k => ∀ (x : Int) τ, (0 ≤ x ∧ x ≤ n) → (0 < n → x = n ∨ x = (last + 1 + k).tmod n) → (x = n → 0 < n → (last + 1 + k).tmod n = 0) → Fm [25] σ τ → (∀ p, 0 ≤ p → p < k → τ.I 25 0 p = (last + 1 + p).tmod n) → V m_X0_orderByTurn 0 0 0 6 [some (vR (some (0, 0))), some (vI last), some (vI x), some (vI k)] [] τ (fun r τ => r = .inl none ∧ Fm [25] σ τ ∧ ∀ p, 0 ≤ p → p < n → τ.I 25 0 p = (last + 1 + p).tmod n)) (N := n) hn.1 ?_ ?_
  · refine key (last + 1) σ (by omega) (fun h0 => ?_) (fun e h0 => ?_) (Fm.refl _ _) (fun p p0 p1 => by omega)
    · by_cases q : last + 1 = n
      · exact Or.inl q
      · refine Or.inr ?_
        rw [Int.tmod_eq_emod_of_nonneg (by omega), Int.emod_eq_of_lt (by omega) (by omega)]
        omega
    · rw [Int.tmod_eq_emod_of_nonneg (by omega), show last + 1 + 0 = n by omega, Int.emod_self]
  · intro x τ hx hx1 hx2 f hp
    have hW := f.wf hW
    have g7 : τ.I 0 0 7 = n := by
      rw [f.I (by decide)]
      exact h7
    refine V_ildn3 a_X0_orderByTurn_6 ?_
    refine V_aldn0 a_X0_orderByTurn_7 ?_
    refine V_getIE a_X0_orderByTurn_8 f_X0_36 rfl g7 ?_
    refine V_icmp_ge_t a_X0_orderByTurn_11 (by omega) (by omega) ?_
    exact V_ret a_X0_orderByTurn_40 (⟨rfl, f, hp⟩)
  · intro k k0 k1 ih x τ hx hx1 hx2 f hp
    have hW := f.wf hW
    have g7 : τ.I 0 0 7 = n := by
      rw [f.I (by decide)]
      exact h7
    have step : ∀ y, 0 ≤ y ∧ y < n → y = (last + 1 + k).tmod n → V m_X0_orderByTurn 0 0 0 24 [some (vR (some (0, 0))), some (vI last), some (vI y), some (vI k)] [] τ (fun r τ => r = .inl none ∧ Fm [25] σ τ ∧ ∀ p, 0 ≤ p → p < n → τ.I 25 0 p = (last + 1 + p).tmod n) := fun y hy ey => by
      have e1 : (last + 1 + k).tmod n = (last + 1 + k) % n := Int.tmod_eq_emod_of_nonneg (by omega)
      have e2 : (last + 1 + (k + 1)).tmod n = (last + 1 + (k + 1)) % n := Int.tmod_eq_emod_of_nonneg (by omega)
      have e3 : (last + 1 + (k + 1)) % n = ((last + 1 + k) % n + 1) % n := by
        rw [show last + 1 + (k + 1) = (last + 1 + k) + 1 by omega, Int.emod_add_emod]
      have k2 := ih (y + 1) (τ.setI 25 0 k y) (by omega) (fun _ => by
        by_cases q : y + 1 = n
        · exact Or.inl q
        · refine Or.inr ?_
          rw [e2, e3, ← e1, ← ey, Int.emod_eq_of_lt (by omega) (by omega)]) (fun q _ => by
        rw [e2, e3, ← e1, ← ey, q, Int.emod_self]) (f.trans (Fm.setI (by decide))) (fun p p0 p1 => by
        by_cases q : p = k
        · rw [q, setI_I]
          exact ey
        · rw [setI_ne q]
          exact hp p p0 (by omega))
      refine V_aldn0 a_X0_orderByTurn_24 ?_
      refine V_fin a_X0_orderByTurn_25 f_X0_15 rfl hW ?_
      refine V_ildn3 a_X0_orderByTurn_28 ?_
      refine V_ildn2 a_X0_orderByTurn_29 ?_
      refine V_iast a_X0_orderByTurn_30 rfl (by omega) ?_
      refine V_inc2 a_X0_orderByTurn_31 ?_
      refine V_inc3 a_X0_orderByTurn_34 ?_
      refine V_goto a_X0_orderByTurn_37 ?_
      exact k2
    by_cases q : x = n
    · have s0 := step 0 (by omega) (hx2 q (by omega)).symm
      refine V_ildn3 a_X0_orderByTurn_6 ?_
      refine V_aldn0 a_X0_orderByTurn_7 ?_
      refine V_getIE a_X0_orderByTurn_8 f_X0_36 rfl g7 ?_
      refine V_icmp_ge_f a_X0_orderByTurn_11 (by omega) (by omega) ?_
      refine V_ildn2 a_X0_orderByTurn_14 ?_
      refine V_aldn0 a_X0_orderByTurn_15 ?_
      refine V_getIE a_X0_orderByTurn_16 f_X0_36 rfl g7 ?_
      refine V_icmp_lt_f a_X0_orderByTurn_19 (by omega) (by omega) ?_
      refine V_iconst a_X0_orderByTurn_22 ?_
      refine V_istn2 a_X0_orderByTurn_23 ?_
      exact s0
    · have s1 := step x (by omega) ((hx1 (by omega)).resolve_left q)
      refine V_ildn3 a_X0_orderByTurn_6 ?_
      refine V_aldn0 a_X0_orderByTurn_7 ?_
      refine V_getIE a_X0_orderByTurn_8 f_X0_36 rfl g7 ?_
      refine V_icmp_ge_f a_X0_orderByTurn_11 (by omega) (by omega) ?_
      refine V_ildn2 a_X0_orderByTurn_14 ?_
      refine V_aldn0 a_X0_orderByTurn_15 ?_
      refine V_getIE a_X0_orderByTurn_16 f_X0_36 rfl g7 ?_
      refine V_icmp_lt_t a_X0_orderByTurn_19 (by omega) (by omega) ?_
      exact s1
end Al

