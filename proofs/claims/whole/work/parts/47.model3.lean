section Mo3
variable {D : Int} {σ : Hp} {A : St}
theorem R_byUse {s q but : Int} (h : Md D σ A) (hs : 0 ≤ s ∧ s < 4) (hq : 0 ≤ q ∧ q ≤ 1000000) (hb : -2147483648 ≤ but ∧ but < 2147483648) : Rt m_X11_byUse 5 0 0 [vR (some (11, 0)), vI s, vL q, vI but] σ none (σ.rJ 56 0 (ordX A s but (rankA A s) (A 1) (σ.J 56 0) q).1) := by
  have h' := h
  obtain ⟨hD, hW, hA, hI⟩ := h
  have hn := hI.n
  show V _ 5 0 0 0 [some (vR (some (11, 0))), some (vI s), some (vL q), none, some (vI but), none, none, none] [] σ _
  refine V_lldn2 a_X11_byUse_0 ?_
  refine V_lst5 a_X11_byUse_1 ?_
  refine V_iconst a_X11_byUse_3 ?_
  refine V_ist7 a_X11_byUse_4 ?_
  refine V_rJ (t := 56) (i := 0) (loopI (P := fun k => V _ 5 0 0 6 [some (vR (some (11, 0))), some (vI s), some (vL q), none, some (vI but), some (vL (ordX A s but (rankA A s) k (σ.J 56 0) q).2), none, some (vI k)] [] (σ.rJ 56 0 (ordX A s but (rankA A s) k (σ.J 56 0) q).1) _) (N := A 1) (by omega) ?_ ?_)
  · refine V_ild7 a_X11_byUse_6 ?_
    refine V_i2l a_X11_byUse_8 (by omega) ?_
    refine V_aldn0 a_X11_byUse_9 ?_
    refine V_fin a_X11_byUse_10 f_X11_7 rfl hW ?_
    refine V_iconst a_X11_byUse_13 ?_
    refine V_w a_X11_byUse_14 (by omega) hA ?_
    refine V_lc_ge_t a_X11_byUse_15 a_X11_byUse_16 (by omega) (by omega) ?_
    exact V_ret a_X11_byUse_43 (⟨rfl, rfl⟩)
  · intro k k0 k1 ih
    have hm := h'.rJ (t := 56) (i := 0) (g := (ordX A s but (rankA A s) k (σ.J 56 0) q).1) (by decide)
    obtain ⟨-, hW, hA, -⟩ := id hm
    have hx := ordX_bd hI (but := but) (g := σ.J 56 0) hs (o := rankA A s) (fun j j0 j1 => (rank_ok (by omega) j0 j1).1) hq.1 k0 (by omega)
    have hr := (rank_ok (A := A) (s := s) (by omega) k0 k1).1
    rw [ordX_s k0] at ih
    refine V_ild7 a_X11_byUse_6 ?_
    refine V_i2l a_X11_byUse_8 (by omega) ?_
    refine V_aldn0 a_X11_byUse_9 ?_
    refine V_fin a_X11_byUse_10 f_X11_7 rfl hW ?_
    refine V_iconst a_X11_byUse_13 ?_
    refine V_w a_X11_byUse_14 (by omega) hA ?_
    refine V_lc_ge_f a_X11_byUse_15 a_X11_byUse_16 (by omega) (by omega) ?_
    refine V_aldn0 a_X11_byUse_19 ?_
    refine V_aldn0 a_X11_byUse_20 ?_
    refine V_ildn1 a_X11_byUse_21 ?_
    refine V_ild7 a_X11_byUse_22 ?_
    refine V_v2R a_X11_byUse_24 c_X11_230 (R_rankedAt hm hs (by omega)) ?_
    refine V_ildn1 a_X11_byUse_27 ?_
    refine V_ild4 a_X11_byUse_28 ?_
    refine V_lld5 a_X11_byUse_30 ?_
    refine V_v4R a_X11_byUse_32 c_X11_234 (R_gives hm hr hs hb (by omega)) ?_
    rw [rJ_set]
    refine V_lst5 a_X11_byUse_35 ?_
    refine V_inc7 a_X11_byUse_37 ?_
    refine V_goto a_X11_byUse_40 ?_
    exact ih
/-- policy 2: the lender at a place, and the last one that gave -/
def turnO (A : St) (s k : Int) : Int := (A (23 + s) + 1 + k).tmod (A 1)
def lastS (A : St) (s but q : Int) (g : Int → Int) (k : Int) (x : Int) : Int := if gvA A s but (turnO A s k) (ordX A s but (turnO A s) k g q).2 > 0 then turnO A s k else x
def lastX (A : St) (s but q : Int) (g : Int → Int) (k : Int) : Int := itr (lastS A s but q g) k (A (23 + s))
theorem lastX_s {s but q k : Int} {g : Int → Int} (h : 0 ≤ k) : lastX A s but q g (k + 1) = if gvA A s but (turnO A s k) (ordX A s but (turnO A s) k g q).2 > 0 then turnO A s k else lastX A s but q g k := itr_s _ h _
theorem turn_ok (hI : Inv D A) {s k : Int} (hs : 0 ≤ s ∧ s < 4) (k0 : 0 ≤ k) (k1 : k < A 1) : 0 ≤ turnO A s k ∧ turnO A s k < A 1 := by
  have h1 := hI.last hs.1 hs.2
  unfold turnO
  rw [Int.tmod_eq_emod_of_nonneg (by omega)]
  exact ⟨Int.emod_nonneg _ (by omega), Int.emod_lt_of_pos _ (by omega)⟩
theorem lastX_bd (hI : Inv D A) {s but q k : Int} {g : Int → Int} (hs : 0 ≤ s ∧ s < 4) (k0 : 0 ≤ k) (k1 : k ≤ A 1) : -1 ≤ lastX A s but q g k ∧ (lastX A s but q g k = -1 ∨ lastX A s but q g k < A 1) := by
  refine itr_ind (fun _ x => -1 ≤ x ∧ (x = -1 ∨ x < A 1)) (hI.last hs.1 hs.2) k0 (fun j x j0 j1 hx => ?_)
  have := turn_ok hI hs j0 (by omega : j < A 1)
  show -1 ≤ (if _ then _ else _) ∧ ((if _ then _ else _) = -1 ∨ (if _ then _ else _) < A 1)
  split
  · omega
  · exact hx
theorem inv_last (hI : Inv D A) {s v : Int} (hs : 0 ≤ s ∧ s < 4) (hv : -1 ≤ v ∧ (v = -1 ∨ v < A 1)) : Inv D (upI A (23 + s) v) := by
  refine hI.agree (Ag.up (by omega)) (fun z z0 z1 => ?_)
  by_cases e : z = s
  · rw [e, upI_eq]
    exact hv
  · rw [upI_ne (by omega)]
    exact hI.last z0 z1
theorem gv_up {s v but l left : Int} (hl : 0 ≤ l ∧ l < 6) (hs : 0 ≤ s ∧ s < 4) : gvA (upI A (23 + s) v) s but l left = gvA A s but l left := by
  unfold gvA
  rw [(Ag.up (A := A) (j := 23 + s) (v := v) (by omega)).free hl hs]
theorem R_byTurns {s q but : Int} (h : Md D σ A) (hs : 0 ≤ s ∧ s < 4) (hq : 0 ≤ q ∧ q ≤ 1000000) (hb : -2147483648 ≤ but ∧ but < 2147483648) : Rt m_X11_byTurns 4 0 0 [vR (some (11, 0)), vI s, vL q, vI but] σ none ((σ.rJ 56 0 (ordX A s but (turnO A s) (A 1) (σ.J 56 0) q).1).rJ 50 0 (upI A (23 + s) (lastX A s but q (σ.J 56 0) (A 1)))) := by
  have h' := h
  obtain ⟨hD, hW, hA, hI⟩ := h
  have hn := hI.n
  have hl := hI.last hs.1 hs.2
  have start : ((σ.rJ 56 0 (σ.J 56 0)).rJ 50 0 (upI A (23 + s) (A (23 + s)))) = σ := by
    rw [rJ_self, upI_self, ← hA, rJ_self]
  show V _ 4 0 0 0 [some (vR (some (11, 0))), some (vI s), some (vL q), none, some (vI but), none, none, none, none, none] [] σ _
  refine V_lldn2 a_X11_byTurns_0 ?_
  refine V_lst5 a_X11_byTurns_1 ?_
  refine V_aldn0 a_X11_byTurns_3 ?_
  refine V_fin a_X11_byTurns_4 f_X11_7 rfl hW ?_
  refine V_bipush a_X11_byTurns_7 (by decide) ?_
  refine V_ildn1 a_X11_byTurns_9 ?_
  refine V_iadd a_X11_byTurns_10 ?_
  refine V_w a_X11_byTurns_11 (by omega) hA ?_
  refine V_l2i a_X11_byTurns_12 ?_
  refine V_iconst a_X11_byTurns_13 ?_
  refine V_iadd a_X11_byTurns_14 ?_
  refine V_ist7 a_X11_byTurns_15 ?_
  refine V_iconst a_X11_byTurns_17 ?_
  refine V_ist8 a_X11_byTurns_18 ?_
  refine (fun z => by rw [start] at z; exact z : V _ 4 0 0 20 [some (vR (some (11, 0))), some (vI s), some (vL q), none, some (vI but), some (vL q), none, some (vI (A (23 + s) + 1)), some (vI 0), none] [] ((σ.rJ 56 0 (σ.J 56 0)).rJ 50 0 (upI A (23 + s) (A (23 + s)))) _ → _) ?_
  refine loopI (P := fun k => ∀ x9 : Option AV, V _ 4 0 0 20 [some (vR (some (11, 0))), some (vI s), some (vL q), none, some (vI but), some (vL (ordX A s but (turnO A s) k (σ.J 56 0) q).2), none, some (vI (A (23 + s) + 1)), some (vI k), x9] [] ((σ.rJ 56 0 (ordX A s but (turnO A s) k (σ.J 56 0) q).1).rJ 50 0 (upI A (23 + s) (lastX A s but q (σ.J 56 0) k))) _) (N := A 1) (by omega) ?_ ?_ none
  · intro x9
    have hm := (h'.rJ (t := 56) (i := 0) (g := (ordX A s but (turnO A s) (A 1) (σ.J 56 0) q).1) (by decide)).w hD (inv_last hI hs (lastX_bd hI (but := but) (q := q) (g := σ.J 56 0) hs (by omega) (Int.le_refl _)))
    obtain ⟨-, hW, hA, -⟩ := id hm
    have e1 : upI A (23 + s) (lastX A s but q (σ.J 56 0) (A 1)) 1 = A 1 := upI_ne (by omega)
    refine V_ild8 a_X11_byTurns_20 ?_
    refine V_i2l a_X11_byTurns_22 (by omega) ?_
    refine V_aldn0 a_X11_byTurns_23 ?_
    refine V_fin a_X11_byTurns_24 f_X11_7 rfl hW ?_
    refine V_iconst a_X11_byTurns_27 ?_
    refine V_w a_X11_byTurns_28 (by omega) hA ?_
    refine V_lc_ge_t a_X11_byTurns_29 a_X11_byTurns_30 (by omega) (by omega) ?_
    exact V_ret a_X11_byTurns_91 (⟨rfl, rfl⟩)
  · intro k k0 k1 ih x9
    have hlb := lastX_bd hI (but := but) (q := q) (g := σ.J 56 0) hs k0 (by omega)
    have hm := (h'.rJ (t := 56) (i := 0) (g := (ordX A s but (turnO A s) k (σ.J 56 0) q).1) (by decide)).w hD (inv_last hI hs hlb)
    obtain ⟨-, hW, hA, -⟩ := id hm
    have hx := ordX_bd hI (but := but) (g := σ.J 56 0) hs (o := turnO A s) (fun j j0 j1 => turn_ok hI hs j0 j1) hq.1 k0 (by omega)
    have hr := turn_ok hI hs k0 k1
    have e1 : upI A (23 + s) (lastX A s but q (σ.J 56 0) k) 1 = A 1 := upI_ne (by omega)
    have hg := gv_bd hI (but := but) hr hs hx.1
    have ih := ih (some (vI (turnO A s k)))
    rw [ordX_s k0, lastX_s k0] at ih
    have hf := (free_bd hI hr.1 hr.2 hs.1 hs.2).1
    have hg2 := R_gives (l := turnO A s k) (s := s) (but := but) (left := (ordX A s but (turnO A s) k (σ.J 56 0) q).2) hm (by rw [e1]; exact hr) hs hb (by omega)
    rw [gv_up (by omega) hs, rJ_set2 (by decide)] at hg2
    have hm2 := (h'.rJ (t := 56) (i := 0) (g := (upI (ordX A s but (turnO A s) k (σ.J 56 0) q).1 (turnO A s k) (gvA A s but (turnO A s k) (ordX A s but (turnO A s) k (σ.J 56 0) q).2))) (by decide)).w hD (inv_last hI hs hlb)
    refine V_ild8 a_X11_byTurns_20 ?_
    refine V_i2l a_X11_byTurns_22 (by omega) ?_
    refine V_aldn0 a_X11_byTurns_23 ?_
    refine V_fin a_X11_byTurns_24 f_X11_7 rfl hW ?_
    refine V_iconst a_X11_byTurns_27 ?_
    refine V_w a_X11_byTurns_28 (by omega) hA ?_
    refine V_lc_ge_f a_X11_byTurns_29 a_X11_byTurns_30 (by omega) (by omega) ?_
    refine V_ild7 a_X11_byTurns_33 ?_
    refine V_ild8 a_X11_byTurns_35 ?_
    refine V_iadd a_X11_byTurns_37 ?_
    refine V_aldn0 a_X11_byTurns_38 ?_
    refine V_fin a_X11_byTurns_39 f_X11_7 rfl hW ?_
    refine V_iconst a_X11_byTurns_42 ?_
    refine V_w a_X11_byTurns_43 (by omega) hA ?_
    refine V_l2i a_X11_byTurns_44 ?_
    refine V_irem a_X11_byTurns_45 (by omega) ?_
    show V _ _ _ _ _ _ (vI ((A (23 + s) + 1 + k).tmod (upI A (23 + s) (lastX A s but q (σ.J 56 0) k) 1)) :: _) _ _
    rw [e1]
    change V _ _ _ _ _ _ (vI (turnO A s k) :: _) _ _
    refine V_ist9 a_X11_byTurns_46 ?_
    refine V_aldn0 a_X11_byTurns_48 ?_
    refine V_ild9 a_X11_byTurns_49 ?_
    refine V_ildn1 a_X11_byTurns_51 ?_
    refine V_ild4 a_X11_byTurns_52 ?_
    refine V_lld5 a_X11_byTurns_54 ?_
    refine V_v4R a_X11_byTurns_56 c_X11_234 hg2 ?_
    refine V_lst5 a_X11_byTurns_59 ?_
    clear hA
    obtain ⟨-, hW, hA, -⟩ := id hm2
    refine V_aldn0 a_X11_byTurns_61 ?_
    refine V_fin a_X11_byTurns_62 f_X11_33 rfl hW ?_
    refine V_ild9 a_X11_byTurns_65 ?_
    refine V_laldE a_X11_byTurns_67 rfl (by omega) (v := gvA A s but (turnO A s k) (ordX A s but (turnO A s) k (σ.J 56 0) q).2) (by rw [rJ_ne (by decide), rJ_J, upI_eq]) ?_
    refine V_lconst0 a_X11_byTurns_68 ?_
    refine V_lc_le a_X11_byTurns_69 a_X11_byTurns_70 (by omega) (fun hc69 => ?_) (fun hc69 => ?_)
    · try rw [rJ_set, upI_upI]
      refine V_inc8 a_X11_byTurns_85 ?_
      refine V_goto a_X11_byTurns_88 ?_
      first | (rw [if_pos (by omega)] at ih; exact ih) | (rw [if_neg (by omega)] at ih; exact ih)
    · refine V_aldn0 a_X11_byTurns_73 ?_
      refine V_fin a_X11_byTurns_74 f_X11_7 rfl hW ?_
      refine V_bipush a_X11_byTurns_77 (by decide) ?_
      refine V_ildn1 a_X11_byTurns_79 ?_
      refine V_iadd a_X11_byTurns_80 ?_
      refine V_ild9 a_X11_byTurns_81 ?_
      refine V_i2l a_X11_byTurns_83 (by omega) ?_
      refine V_last a_X11_byTurns_84 rfl (by omega) ?_
      try rw [rJ_set, upI_upI]
      refine V_inc8 a_X11_byTurns_85 ?_
      refine V_goto a_X11_byTurns_88 ?_
      first | (rw [if_pos (by omega)] at ih; exact ih) | (rw [if_neg (by omega)] at ih; exact ih)
end Mo3

