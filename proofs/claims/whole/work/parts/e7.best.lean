section Q5
variable {D : Int} {σ : Hp} {s : Lsv}
theorem pol_lent {A : St} {p l c : Int} : lentA (upI A 5 p) l c = lentA A l c ∨ ¬ (0 ≤ l ∧ 0 ≤ A 7) := by
  by_cases z : 0 ≤ l ∧ 0 ≤ A 7
  · refine Or.inl ?_
    unfold lentA
    rw [upI_ne (by decide)]
    exact sm_congr (fun k k0 k1 => by rw [upI_ne (by omega), upI_ne (by omega)])
  · exact Or.inr z
theorem pol_ms {A : St} {p c : Int} (hI : Inv D A) (hc : 0 ≤ c) : Ms σ (upI A 5 p) c (-1) ↔ Ms σ A c (-1) := by
  have hn := hI.n
  have e : ∀ j, j ≠ 5 → upI A 5 p j = A j := fun j hj => upI_ne hj
  unfold Ms
  rw [pol_free hI hc, e 1 (by decide), e (23 + c) (by omega)]
  have key : ∀ l, 0 ≤ l → (lentA (upI A 5 p) l c = lentA A l c ∧ freeA (upI A 5 p) l c = freeA A l c ∧ upI A 5 p (49 + 4 * l + c) = A (49 + 4 * l + c)) := fun l l0 => by
    have el : lentA (upI A 5 p) l c = lentA A l c := by
      rcases pol_lent (A := A) (p := p) (l := l) (c := c) with z | z
      · exact z
      · exact absurd ⟨l0, by omega⟩ z
    refine ⟨el, ?_, e _ (by omega)⟩
    unfold freeA
    rw [el, e (33 + l) (by omega), e (49 + 4 * l + c) (by omega)]
  constructor
  · intro h
    refine ⟨h.1, h.2.1, h.2.2.1, fun l l0 l1 => ?_⟩
    have x := h.2.2.2 l l0 l1
    rw [(key l l0).1, (key l l0).2.1, (key l l0).2.2] at x
    exact x
  · intro h
    refine ⟨h.1, h.2.1, h.2.2.1, fun l l0 l1 => ?_⟩
    rw [(key l l0).1, (key l l0).2.1, (key l l0).2.2]
    exact h.2.2.2 l l0 l1
theorem best_step {c q p b m : Int} {τ : Hp} {o : Option AV} {Q : Res → Hp → Prop} (h : CIv D τ s) (hs : 0 ≤ c ∧ c < s.1 0) (hq : 1 ≤ q ∧ q ≤ 99999) (hf : q ≤ freeB s.1 (-1) c) (hM : Ms τ s.1 c (-1)) (hp : 0 ≤ p ∧ p ≤ 2) (hm : 0 ≤ m ∧ m ≤ 2147483647)
    (k1 : sprA s.1 c q p < m → ∀ ρ, QCv D s τ ρ → Ms ρ s.1 c (-1) → V m_X10_bestPolicy 10 0 0 21 [some (vR (some (10, 0))), some (vI c), some (vI q), some (vI p), some (vI (sprA s.1 c q p)), some (vI (p + 1)), some (vI (sprA s.1 c q p))] [] ρ Q)
    (k2 : ¬ sprA s.1 c q p < m → ∀ ρ, QCv D s τ ρ → Ms ρ s.1 c (-1) → V m_X10_bestPolicy 10 0 0 21 [some (vR (some (10, 0))), some (vI c), some (vI q), some (vI b), some (vI m), some (vI (p + 1)), some (vI (sprA s.1 c q p))] [] ρ Q) : V m_X10_bestPolicy 10 0 0 21 [some (vR (some (10, 0))), some (vI c), some (vI q), some (vI b), some (vI m), some (vI p), o] [] τ Q := by
  have hI := h.1.2.2.2.2
  have hn := hI.n
  have hW := h.1.2.1
  have h1 : 0 < s.1 1 := by
    apply Classical.byContradiction
    intro z
    have e : freeB s.1 (-1) c = 0 := by
      unfold freeB
      exact sm_neg _ (by omega)
    omega
  have r1 := R_share (q := q) (pol_inv hI hp) hW (show 0 ≤ c ∧ c < 4 by omega) ⟨by omega, by rw [pol_free hI hs.1]; exact hf⟩ ((pol_ms (p := p) hI hs.1).mpr hM)
  rw [upI_eq] at r1
  have hgb : ∀ l, 0 ≤ l → l < s.1 1 → 0 ≤ giveA (upI s.1 5 p) c q (-1) l ∧ giveA (upI s.1 5 p) c q (-1) l ≤ 99999 := fun l l0 l1 => giv_bd hI hp (by omega) (by omega) l0 l1
  have hlb : ∀ l, 0 ≤ l → l < s.1 1 → 0 ≤ lentA s.1 l c ∧ lentA s.1 l c ≤ 99999 := fun l l0 l1 => lent_bd hI l0 (by omega) hs.1 (by omega)
  have hsb := mx_bd (f := fun l => giveA (upI s.1 5 p) c q (-1) l + lentA s.1 l c) (l := s.1 1 - 1) (M := 199998) (by omega) (fun j j0 j1 => by
    have := hgb j j0 (by omega)
    have := hlb j j0 (by omega)
    show 0 ≤ giveA (upI s.1 5 p) c q (-1) j + lentA s.1 j c ∧ giveA (upI s.1 5 p) c q (-1) j + lentA s.1 j c ≤ 199998
    omega)
  have es : sprA s.1 c q p = mxL (fun l => giveA (upI s.1 5 p) c q (-1) l + lentA s.1 l c) (s.1 1 - 1) - mnL (fun l => giveA (upI s.1 5 p) c q (-1) l + lentA s.1 l c) (s.1 1 - 1) := rfl
  have efun : (fun l => lentA s.1 l c + giveA (upI s.1 5 p) c q (-1) l) = fun l => giveA (upI s.1 5 p) c q (-1) l + lentA s.1 l c := funext (fun l => Int.add_comm _ _)
  refine V_ild5 a_X10_bestPolicy_21 ?_
  refine V_iconst a_X10_bestPolicy_23 ?_
  refine V_icmp_gt_f a_X10_bestPolicy_24 (by omega) (by omega) ?_
  refine V_aldn0 a_X10_bestPolicy_27 ?_
  refine V_fin a_X10_bestPolicy_28 f_X10_33 rfl hW ?_
  refine V_fin a_X10_bestPolicy_31 f_X10_316 rfl hW ?_
  refine V_ild5 a_X10_bestPolicy_34 ?_
  refine V_ildn2 a_X10_bestPolicy_36 ?_
  refine V_v2PV a_X10_bestPolicy_37 c_X10_320 r1 (fun ρ hρ => ?_)
  skip
  obtain ⟨f1, m1, g1, -⟩ := hρ
  have m1 := (pol_ms (p := p) hI hs.1).mp m1
  have hQ := h.sc f1 (by decide)
  have hW := hQ.2.1.2.1
  have r2 := R_Cspread (u := fun l => lentA s.1 l c) (g := giveA (upI s.1 5 p) c q (-1)) hW m1.1 (by omega) (fun l l0 l1 => ⟨(m1.2.2.2 l l0 l1).2.1, g1 l l0 (by rw [upI_ne (by decide)]; exact l1)⟩) (fun l l0 l1 => by
    have := hgb l l0 l1
    have := hlb l l0 l1
    show 0 ≤ lentA s.1 l c + giveA (upI s.1 5 p) c q (-1) l ∧ lentA s.1 l c + giveA (upI s.1 5 p) c q (-1) l ≤ 199998
    omega)
  change Rt m_X0_spread 1 0 0 [vR (some (0, 0))] ρ (some (vI (mxL (fun l => lentA s.1 l c + giveA (upI s.1 5 p) c q (-1) l) (s.1 1 - 1) - mnL (fun l => lentA s.1 l c + giveA (upI s.1 5 p) c q (-1) l) (s.1 1 - 1)))) ρ at r2
  rw [efun, ← es] at r2
  have hb : 0 ≤ sprA s.1 c q p ∧ sprA s.1 c q p ≤ 199998 := by omega
  clear es hsb
  generalize sprA s.1 c q p = v at r2 hb k1 k2
  by_cases z : v < m
  · refine V_aldn0 a_X10_bestPolicy_40 ?_
    refine V_fin a_X10_bestPolicy_41 f_X10_33 rfl hW ?_
    refine V_fin a_X10_bestPolicy_44 f_X10_316 rfl hW ?_
    refine V_v0R a_X10_bestPolicy_47 c_X10_367 r2 ?_
    refine V_ist6 a_X10_bestPolicy_50 ?_
    refine V_ild6 a_X10_bestPolicy_52 ?_
    refine V_ild4 a_X10_bestPolicy_54 ?_
    refine V_icmp_ge_f a_X10_bestPolicy_56 (by omega) (by omega) ?_
    refine V_ild6 a_X10_bestPolicy_59 ?_
    refine V_ist4 a_X10_bestPolicy_61 ?_
    refine V_ild5 a_X10_bestPolicy_63 ?_
    refine V_istn3 a_X10_bestPolicy_65 ?_
    refine V_inc5 a_X10_bestPolicy_66 ?_
    refine V_goto a_X10_bestPolicy_69 ?_
    exact k1 z ρ hQ m1
  · refine V_aldn0 a_X10_bestPolicy_40 ?_
    refine V_fin a_X10_bestPolicy_41 f_X10_33 rfl hW ?_
    refine V_fin a_X10_bestPolicy_44 f_X10_316 rfl hW ?_
    refine V_v0R a_X10_bestPolicy_47 c_X10_367 r2 ?_
    refine V_ist6 a_X10_bestPolicy_50 ?_
    refine V_ild6 a_X10_bestPolicy_52 ?_
    refine V_ild4 a_X10_bestPolicy_54 ?_
    refine V_icmp_ge_t a_X10_bestPolicy_56 (by omega) (by omega) ?_
    refine V_inc5 a_X10_bestPolicy_66 ?_
    refine V_goto a_X10_bestPolicy_69 ?_
    exact k2 z ρ hQ m1
theorem X_bestPolicy0 {c q : Int} (h : CIv D σ s) (hs : 0 ≤ c ∧ c < s.1 0) (hq : 1 ≤ q ∧ q ≤ 99999) (hf : q ≤ freeB s.1 (-1) c) : Cv m_X10_bestPolicy 10 0 0 [vR (some (10, 0)), vI c, vI q] σ (some (vI (bsV s.1 c q))) (QCv D s σ) := by
  have hc := h.1
  have r1 := R_needSec0 hc hs
  have r2 := R_needAll0 h hs hq hf
  have sb : ∀ p, 0 ≤ p → p ≤ 2 → 0 ≤ sprA s.1 c q p ∧ sprA s.1 c q p ≤ 199998 := fun p p0 p1 => spr_bd hc.2.2.2.2 (by have := hc.2.2.2.2.n; omega) (by omega) hf ⟨p0, p1⟩
  have b0 := sb 0 (by decide) (by decide)
  have b1 := sb 1 (by decide) (by decide)
  have b2 := sb 2 (by decide) (by decide)
  have fin : ∀ (τ : Hp) (v m : Int) (o : Option AV), QCv D s σ τ → V m_X10_bestPolicy 10 0 0 21 [some (vR (some (10, 0))), some (vI c), some (vI q), some (vI v), some (vI m), some (vI 3), o] [] τ (fun r τ => r = .inl (some (vI v)) ∧ QCv D s σ τ) := fun τ v m o hτ => by
    refine V_ild5 a_X10_bestPolicy_21 ?_
    refine V_iconst a_X10_bestPolicy_23 ?_
    refine V_icmp_gt_t a_X10_bestPolicy_24 (by omega) (by omega) ?_
    refine V_ildn3 a_X10_bestPolicy_72 ?_
    exact V_iret a_X10_bestPolicy_73 (⟨rfl, hτ⟩)
  have st2 : ∀ (τ : Hp) (v : Int) (o : Option AV), QCv D s σ τ → Ms τ s.1 c (-1) → (v = 0 ∨ v = 1) → V m_X10_bestPolicy 10 0 0 21 [some (vR (some (10, 0))), some (vI c), some (vI q), some (vI v), some (vI (sprA s.1 c q v)), some (vI 2), o] [] τ (fun r τ => r = .inl (some (vI (bsS s.1 c q 2 v))) ∧ QCv D s σ τ) := fun τ v o hτ hM hv => by
    have bv : 0 ≤ sprA s.1 c q v ∧ sprA s.1 c q v ≤ 199998 := sb v (by omega) (by omega)
    refine best_step hτ.2 hs hq hf hM (by decide) (by omega) (fun z ρ hρ mρ => ?_) (fun z ρ hρ mρ => ?_)
    · have e : bsS s.1 c q 2 v = 2 := if_pos z
      rw [e]
      exact fin ρ _ _ _ (hτ.trans hρ)
    · have e : bsS s.1 c q 2 v = v := if_neg z
      rw [e]
      exact fin ρ _ _ _ (hτ.trans hρ)
  show V _ 10 0 0 0 [some (vR (some (10, 0))), some (vI c), some (vI q), none, none, none, none] [] σ _
  refine V_aldn0 a_X10_bestPolicy_0 ?_
  refine V_ildn1 a_X10_bestPolicy_1 ?_
  refine V_v1V a_X10_bestPolicy_2 c_X10_180 r1 ?_
  refine V_aldn0 a_X10_bestPolicy_5 ?_
  refine V_ildn1 a_X10_bestPolicy_6 ?_
  refine V_ildn2 a_X10_bestPolicy_7 ?_
  refine V_v2PV a_X10_bestPolicy_8 c_X10_313 r2 (fun τ hτ => ?_)
  refine V_iconst a_X10_bestPolicy_11 ?_
  refine V_istn3 a_X10_bestPolicy_12 ?_
  refine V_ldc_w a_X10_bestPolicy_13 q_X10_366 ?_
  refine V_ist4 a_X10_bestPolicy_16 ?_
  refine V_iconst a_X10_bestPolicy_18 ?_
  refine V_ist5 a_X10_bestPolicy_19 ?_
  skip
  have q1 := h.sc hτ.1 (by decide)
  refine best_step q1.2 hs hq hf hτ.2 (by decide) (by omega) (fun z ρ hρ mρ => ?_) (fun z ρ hρ mρ => absurd (by omega) z)
  have q2 := q1.trans hρ
  refine best_step q2.2 hs hq hf mρ (by decide) (by omega) (fun z κ hκ mκ => ?_) (fun z κ hκ mκ => ?_)
  · have e : bsV s.1 c q = bsS s.1 c q 2 1 := by
      unfold bsV
      rw [show bsS s.1 c q 1 0 = 1 from if_pos z]
    rw [e]
    exact st2 κ 1 _ (q2.trans hκ) mκ (Or.inr rfl)
  · have e : bsV s.1 c q = bsS s.1 c q 2 0 := by
      unfold bsV
      rw [show bsS s.1 c q 1 0 = 0 from if_neg z]
    rw [e]
    exact st2 κ 0 _ (q2.trans hκ) mκ (Or.inl rfl)
theorem X_bestPolicy1 {c q : Int} (h : CIv D σ s) (ic : iR c) (hk : ¬ (0 ≤ c ∧ c < s.1 0)) : Tr m_X10_bestPolicy 10 1 6 [vR (some (10, 0)), vI c, vI q] σ xIOB σ := by
  have r1 := R_needSec1 h.1 hk ic
  show V _ 10 1 6 0 [some (vR (some (10, 0))), some (vI c), some (vI q), none, none, none, none] [] σ _
  refine V_aldn0 a_X10_bestPolicy_0 ?_
  refine V_ildn1 a_X10_bestPolicy_1 ?_
  exact V_v1Q a_X10_bestPolicy_2 c_X10_180 (r1) (fun v τ hq => by cases hq.1) (fun E τ hq => by obtain ⟨h1, hq⟩ := hq; cases h1; exact ⟨rfl, hq⟩)
theorem X_bestPolicy2 {c q : Int} (h : CIv D σ s) (iq : iR q) (hk : 0 ≤ c ∧ c < s.1 0) (hq : ¬ (1 ≤ q ∧ q ≤ 99999)) : Tr m_X10_bestPolicy 10 1 6 [vR (some (10, 0)), vI c, vI q] σ xIAE σ := by
  have r1 := R_needSec0 h.1 hk
  have r2 := R_needAll1 (c := c) h iq hq
  show V _ 10 1 6 0 [some (vR (some (10, 0))), some (vI c), some (vI q), none, none, none, none] [] σ _
  refine V_aldn0 a_X10_bestPolicy_0 ?_
  refine V_ildn1 a_X10_bestPolicy_1 ?_
  refine V_v1V a_X10_bestPolicy_2 c_X10_180 r1 ?_
  refine V_aldn0 a_X10_bestPolicy_5 ?_
  refine V_ildn1 a_X10_bestPolicy_6 ?_
  refine V_ildn2 a_X10_bestPolicy_7 ?_
  exact V_v2Q a_X10_bestPolicy_8 c_X10_313 (r2) (fun v τ hq => by cases hq.1) (fun E τ hq => by obtain ⟨h1, hq⟩ := hq; cases h1; exact ⟨rfl, hq⟩)
theorem X_bestPolicy3 {c q : Int} (h : CIv D σ s) (hk : 0 ≤ c ∧ c < s.1 0) (hq : 1 ≤ q ∧ q ≤ 99999) (hf : ¬ q ≤ freeB s.1 (-1) c) : Txw m_X10_bestPolicy 10 1 6 [vR (some (10, 0)), vI c, vI q] σ xISE (QCv D s σ) := by
  have r1 := R_needSec0 h.1 hk
  have r2 := R_needAll2 h hk hq hf
  show V _ 10 1 6 0 [some (vR (some (10, 0))), some (vI c), some (vI q), none, none, none, none] [] σ _
  refine V_aldn0 a_X10_bestPolicy_0 ?_
  refine V_ildn1 a_X10_bestPolicy_1 ?_
  refine V_v1V a_X10_bestPolicy_2 c_X10_180 r1 ?_
  refine V_aldn0 a_X10_bestPolicy_5 ?_
  refine V_ildn1 a_X10_bestPolicy_6 ?_
  refine V_ildn2 a_X10_bestPolicy_7 ?_
  exact V_v2Q a_X10_bestPolicy_8 c_X10_313 (r2) (fun v τ hq => by cases hq.1) (fun E τ hq => by obtain ⟨h1, hq⟩ := hq; cases h1; exact ⟨rfl, hq⟩)
end Q5

