section Q4
variable {D : Int} {σ : Hp} {s : Lsv}
theorem QCv.trans {τ ρ : Hp} (h : QCv D s σ τ) (h2 : QCv D s τ ρ) : QCv D s σ ρ := ⟨h.1.trans h2.1, h2.2⟩
theorem X_quote0 {c q l : Int} (h : CIv D σ s) (hk : (0 ≤ l ∧ l < s.1 1) ∧ 0 ≤ c ∧ c < s.1 0) (hq : 1 ≤ q ∧ q ≤ 99999) (hf : q ≤ freeB s.1 (-1) c) : Cv m_X10_quote 10 0 0 [vR (some (10, 0)), vI c, vI q, vI l] σ (some (vI (giveA s.1 c q (-1) l))) (QCv D s σ) := by
  have hc := h.1
  have hI := hc.2.2.2.2
  have hn := hI.n
  have r1 := R_needLS0 hc hk.1 hk.2
  have r2 := R_needAll0 h hk.2 hq hf
  show V _ 10 0 0 0 [some (vR (some (10, 0))), some (vI c), some (vI q), some (vI l)] [] σ _
  refine V_aldn0 a_X10_quote_0 ?_
  refine V_ildn3 a_X10_quote_1 ?_
  refine V_ildn1 a_X10_quote_2 ?_
  refine V_v2V a_X10_quote_3 c_X10_215 r1 ?_
  refine V_aldn0 a_X10_quote_6 ?_
  refine V_ildn1 a_X10_quote_7 ?_
  refine V_ildn2 a_X10_quote_8 ?_
  refine V_v2PV a_X10_quote_9 c_X10_313 r2 (fun τ hτ => ?_)
  skip
  have q1 := h.sc hτ.1 (by decide)
  have hW := q1.2.1.2.1
  have n6 := q1.2.1.2.2.1.1.2.2.2.2.2.2.1
  have r3 := R_share (q := q) hI hW (show 0 ≤ c ∧ c < 4 by omega) ⟨by omega, hf⟩ hτ.2
  refine V_aldn0 a_X10_quote_12 ?_
  refine V_fin a_X10_quote_13 f_X10_33 rfl hW ?_
  refine V_fin a_X10_quote_16 f_X10_316 rfl hW ?_
  refine V_aldn0 a_X10_quote_19 ?_
  refine V_fin a_X10_quote_20 f_X10_61 rfl hW ?_
  refine V_fin a_X10_quote_23 f_X10_196 rfl hW ?_
  refine V_bipush a_X10_quote_26 (by decide) ?_
  refine V_ialdE a_X10_quote_28 rfl (by omega) n6 ?_
  refine V_ildn2 a_X10_quote_29 ?_
  refine V_v2PV a_X10_quote_30 c_X10_320 r3 (fun ρ hρ => ?_)
  skip
  have q2 := q1.2.sc hρ.1 (by decide)
  have hW := q2.2.1.2.1
  have e := hρ.2.2.1 l hk.1.1 hk.1.2
  refine V_aldn0 a_X10_quote_33 ?_
  refine V_fin a_X10_quote_34 f_X10_33 rfl hW ?_
  refine V_fin a_X10_quote_37 f_X10_316 rfl hW ?_
  refine V_fin a_X10_quote_40 f_X10_325 rfl hW ?_
  refine V_ildn3 a_X10_quote_43 ?_
  refine V_ialdE a_X10_quote_44 rfl (by omega) e ?_
  exact V_iret a_X10_quote_45 (⟨rfl, q1.trans q2⟩)
theorem X_quote1 {c q l : Int} (h : CIv D σ s) (il : iR l) (ic : iR c) (hk : ¬ ((0 ≤ l ∧ l < s.1 1) ∧ 0 ≤ c ∧ c < s.1 0)) : Tr m_X10_quote 10 1 6 [vR (some (10, 0)), vI c, vI q, vI l] σ xIOB σ := by
  have r1 := R_needLS1 h.1 hk il ic
  show V _ 10 1 6 0 [some (vR (some (10, 0))), some (vI c), some (vI q), some (vI l)] [] σ _
  refine V_aldn0 a_X10_quote_0 ?_
  refine V_ildn3 a_X10_quote_1 ?_
  refine V_ildn1 a_X10_quote_2 ?_
  exact V_v2Q a_X10_quote_3 c_X10_215 (r1) (fun v τ hq => by cases hq.1) (fun E τ hq => by obtain ⟨h1, hq⟩ := hq; cases h1; exact ⟨rfl, hq⟩)
theorem X_quote2 {c q l : Int} (h : CIv D σ s) (iq : iR q) (hk : (0 ≤ l ∧ l < s.1 1) ∧ 0 ≤ c ∧ c < s.1 0) (hq : ¬ (1 ≤ q ∧ q ≤ 99999)) : Tr m_X10_quote 10 1 6 [vR (some (10, 0)), vI c, vI q, vI l] σ xIAE σ := by
  have r1 := R_needLS0 h.1 hk.1 hk.2
  have r2 := R_needAll1 (c := c) h iq hq
  show V _ 10 1 6 0 [some (vR (some (10, 0))), some (vI c), some (vI q), some (vI l)] [] σ _
  refine V_aldn0 a_X10_quote_0 ?_
  refine V_ildn3 a_X10_quote_1 ?_
  refine V_ildn1 a_X10_quote_2 ?_
  refine V_v2V a_X10_quote_3 c_X10_215 r1 ?_
  refine V_aldn0 a_X10_quote_6 ?_
  refine V_ildn1 a_X10_quote_7 ?_
  refine V_ildn2 a_X10_quote_8 ?_
  exact V_v2Q a_X10_quote_9 c_X10_313 (r2) (fun v τ hq => by cases hq.1) (fun E τ hq => by obtain ⟨h1, hq⟩ := hq; cases h1; exact ⟨rfl, hq⟩)
theorem X_quote3 {c q l : Int} (h : CIv D σ s) (hk : (0 ≤ l ∧ l < s.1 1) ∧ 0 ≤ c ∧ c < s.1 0) (hq : 1 ≤ q ∧ q ≤ 99999) (hf : ¬ q ≤ freeB s.1 (-1) c) : Txw m_X10_quote 10 1 6 [vR (some (10, 0)), vI c, vI q, vI l] σ xISE (QCv D s σ) := by
  have r1 := R_needLS0 h.1 hk.1 hk.2
  have r2 := R_needAll2 h hk.2 hq hf
  show V _ 10 1 6 0 [some (vR (some (10, 0))), some (vI c), some (vI q), some (vI l)] [] σ _
  refine V_aldn0 a_X10_quote_0 ?_
  refine V_ildn3 a_X10_quote_1 ?_
  refine V_ildn1 a_X10_quote_2 ?_
  refine V_v2V a_X10_quote_3 c_X10_215 r1 ?_
  refine V_aldn0 a_X10_quote_6 ?_
  refine V_ildn1 a_X10_quote_7 ?_
  refine V_ildn2 a_X10_quote_8 ?_
  exact V_v2Q a_X10_quote_9 c_X10_313 (r2) (fun v τ hq => by cases hq.1) (fun E τ hq => by obtain ⟨h1, hq⟩ := hq; cases h1; exact ⟨rfl, hq⟩)
theorem X_rankedLender0 {c p : Int} (h : CIv D σ s) (hk : (0 ≤ c ∧ c < s.1 0) ∧ 0 ≤ p ∧ p < s.1 1) : Cv m_X10_rankedLender 10 0 0 [vR (some (10, 0)), vI c, vI p] σ (some (vI (rankA s.1 c p))) (QCv D s σ) := by
  have hc := h.1
  have hW := hc.2.1
  have hI := hc.2.2.2.2
  have hn := hI.n
  have n1 := hc.2.2.1.1.2.1
  have r1 := R_needSec0 hc hk.1
  have r2 := R_needIndex0 (σ := σ) hk.2 (by omega)
  have r3 := R_measure (s := c) (ex := -1) hc (by omega) hk.1.2 (by unfold iR; omega)
  show V _ 10 0 0 0 [some (vR (some (10, 0))), some (vI c), some (vI p)] [] σ _
  refine V_aldn0 a_X10_rankedLender_0 ?_
  refine V_ildn1 a_X10_rankedLender_1 ?_
  refine V_v1V a_X10_rankedLender_2 c_X10_180 r1 ?_
  refine V_ildn2 a_X10_rankedLender_5 ?_
  refine V_aldn0 a_X10_rankedLender_6 ?_
  refine V_fin a_X10_rankedLender_7 f_X10_61 rfl hW ?_
  refine V_fin a_X10_rankedLender_10 f_X10_196 rfl hW ?_
  refine V_iconst a_X10_rankedLender_13 ?_
  refine V_ialdE a_X10_rankedLender_14 rfl (by omega) n1 ?_
  refine V_s2V a_X10_rankedLender_15 c_X10_241 r2 ?_
  refine V_aldn0 a_X10_rankedLender_18 ?_
  refine V_fin a_X10_rankedLender_19 f_X10_33 rfl hW ?_
  refine V_fin a_X10_rankedLender_22 f_X10_316 rfl hW ?_
  refine V_aldn0 a_X10_rankedLender_25 ?_
  refine V_fin a_X10_rankedLender_26 f_X10_61 rfl hW ?_
  refine V_ildn1 a_X10_rankedLender_29 ?_
  refine V_iconst a_X10_rankedLender_30 ?_
  refine V_v3PV a_X10_rankedLender_31 c_X10_370 r3 (fun τ hτ => ?_)
  skip
  have q1 := h.sc hτ.1 (by decide)
  have hW := q1.2.1.2.1
  have r4 := R_orderByUse hI hW (show 0 ≤ c ∧ c < 4 by omega) hτ.2
  refine V_aldn0 a_X10_rankedLender_34 ?_
  refine V_fin a_X10_rankedLender_35 f_X10_33 rfl hW ?_
  refine V_fin a_X10_rankedLender_38 f_X10_316 rfl hW ?_
  refine V_v0PV a_X10_rankedLender_41 c_X10_374 r4 (fun ρ hρ => ?_)
  skip
  have q2 := q1.2.sc hρ.1 (by decide)
  have hW := q2.2.1.2.1
  have e := hρ.2 p hk.2.1 hk.2.2
  refine V_aldn0 a_X10_rankedLender_44 ?_
  refine V_fin a_X10_rankedLender_45 f_X10_33 rfl hW ?_
  refine V_fin a_X10_rankedLender_48 f_X10_316 rfl hW ?_
  refine V_fin a_X10_rankedLender_51 f_X10_377 rfl hW ?_
  refine V_ildn2 a_X10_rankedLender_54 ?_
  refine V_ialdE a_X10_rankedLender_55 rfl (by omega) e ?_
  exact V_iret a_X10_rankedLender_56 (⟨rfl, q1.trans q2⟩)
theorem X_rankedLender1 {c p : Int} (h : CIv D σ s) (ic : iR c) (ip : iR p) (hk : ¬ ((0 ≤ c ∧ c < s.1 0) ∧ 0 ≤ p ∧ p < s.1 1)) : Tr m_X10_rankedLender 10 1 6 [vR (some (10, 0)), vI c, vI p] σ xIOB σ := by
  have hc := h.1
  have hW := hc.2.1
  have hn := hc.2.2.2.2.n
  have n1 := hc.2.2.1.1.2.1
  show V _ 10 1 6 0 [some (vR (some (10, 0))), some (vI c), some (vI p)] [] σ _
  by_cases z : 0 ≤ c ∧ c < s.1 0
  · have r1 := R_needSec0 hc z
    have r2 := R_needIndex1 (σ := σ) (fun y => hk ⟨z, y⟩) ip (by omega)
    refine V_aldn0 a_X10_rankedLender_0 ?_
    refine V_ildn1 a_X10_rankedLender_1 ?_
    refine V_v1V a_X10_rankedLender_2 c_X10_180 r1 ?_
    refine V_ildn2 a_X10_rankedLender_5 ?_
    refine V_aldn0 a_X10_rankedLender_6 ?_
    refine V_fin a_X10_rankedLender_7 f_X10_61 rfl hW ?_
    refine V_fin a_X10_rankedLender_10 f_X10_196 rfl hW ?_
    refine V_iconst a_X10_rankedLender_13 ?_
    refine V_ialdE a_X10_rankedLender_14 rfl (by omega) n1 ?_
    exact V_s2Q a_X10_rankedLender_15 c_X10_241 (r2) (fun v τ hq => by cases hq.1) (fun E τ hq => by obtain ⟨h1, hq⟩ := hq; cases h1; exact ⟨rfl, hq⟩)
  · have r1 := R_needSec1 hc z ic
    refine V_aldn0 a_X10_rankedLender_0 ?_
    refine V_ildn1 a_X10_rankedLender_1 ?_
    exact V_v1Q a_X10_rankedLender_2 c_X10_180 (r1) (fun v τ hq => by cases hq.1) (fun E τ hq => by obtain ⟨h1, hq⟩ := hq; cases h1; exact ⟨rfl, hq⟩)
theorem X_borrowable0 {b c : Int} (h : CIv D σ s) (hk : (0 ≤ b ∧ b < s.1 2) ∧ 0 ≤ c ∧ c < s.1 0) : Rt m_X10_borrowable 10 0 0 [vR (some (10, 0)), vI b, vI c] σ (some (vI (boV s.1 b c))) σ := by
  have hc := h.1
  have hW := hc.2.1
  have hI := hc.2.2.2.2
  have hn := hI.n
  have n3 := hc.2.2.1.1.2.2.2.1
  have r1 := R_needBor0 hc hk.1
  have r2 := R_needSec0 hc hk.2
  have cr := hI.cred hk.1.1 hk.1.2
  have ec := hc.2.2.1.2.2.2.2.1 b hk.1.1 hk.1.2
  have r3 := R_owedBy (b := b) (x := -1) hc (by unfold iR; omega) (by unfold iR; omega)
  rw [ow_expo hI] at r3
  have eb := expo_bd hI b
  have ep := (hc.2.2.1.sec hk.2.1 hk.2.2).1
  have pr := (hI.price hk.2.1 hk.2.2).1
  have fb := freeB_bd hI (but := -1) hk.2.1 (show c < 4 by omega)
  have r4 := R_freeOfAll (s := c) hc (by omega)
  have body : ∀ (Q : Res → Hp → Prop), V m_X10_borrowable 10 0 0 42 [some (vR (some (10, 0))), some (vI b), some (vI c), some (vL (s.1 (45 + b) - expoA s.1 b)), none, some (vI (s.1 (15 + c))), none] [] σ Q → V m_X10_borrowable 10 0 0 0 [some (vR (some (10, 0))), some (vI b), some (vI c), none, none, none, none] [] σ Q := fun Q k => by
    refine V_aldn0 a_X10_borrowable_0 ?_
    refine V_ildn1 a_X10_borrowable_1 ?_
    refine V_v1V a_X10_borrowable_2 c_X10_209 r1 ?_
    refine V_aldn0 a_X10_borrowable_5 ?_
    refine V_ildn2 a_X10_borrowable_6 ?_
    refine V_v1V a_X10_borrowable_7 c_X10_180 r2 ?_
    refine V_aldn0 a_X10_borrowable_10 ?_
    refine V_fin a_X10_borrowable_11 f_X10_61 rfl hW ?_
    refine V_fin a_X10_borrowable_14 f_X10_212 rfl hW ?_
    refine V_ildn1 a_X10_borrowable_17 ?_
    refine V_ialdE a_X10_borrowable_18 rfl (by omega) ec ?_
    refine V_i2l a_X10_borrowable_19 (by omega) ?_
    refine V_aldn0 a_X10_borrowable_20 ?_
    refine V_fin a_X10_borrowable_21 f_X10_61 rfl hW ?_
    refine V_ildn1 a_X10_borrowable_24 ?_
    refine V_iconst a_X10_borrowable_25 ?_
    refine V_v2R a_X10_borrowable_26 c_X10_230 r3 ?_
    refine V_lsub a_X10_borrowable_29 ?_
    refine V_lstn3 a_X10_borrowable_30 ?_
    refine V_aldn0 a_X10_borrowable_31 ?_
    refine V_fin a_X10_borrowable_32 f_X10_61 rfl hW ?_
    refine V_fin a_X10_borrowable_35 f_X10_176 rfl hW ?_
    refine V_ildn2 a_X10_borrowable_38 ?_
    refine V_ialdE a_X10_borrowable_39 rfl (by omega) ep ?_
    refine V_ist5 a_X10_borrowable_40 ?_
    exact k
  show V _ 10 0 0 0 [some (vR (some (10, 0))), some (vI b), some (vI c), none, none, none, none] [] σ _
  refine body _ ?_
  unfold boV
  have rb : -72000000000 ≤ s.1 (45 + b) - expoA s.1 b ∧ s.1 (45 + b) - expoA s.1 b ≤ 9999999 := by omega
  generalize s.1 (45 + b) - expoA s.1 b = room at rb ⊢
  by_cases z : s.1 7 = 12
  · rw [if_pos (Or.inl z)]
    refine V_aldn0 a_X10_borrowable_42 ?_
    refine V_fin a_X10_borrowable_43 f_X10_61 rfl hW ?_
    refine V_fin a_X10_borrowable_46 f_X10_196 rfl hW ?_
    refine V_iconst a_X10_borrowable_49 ?_
    refine V_ialdE a_X10_borrowable_50 rfl (by omega) n3 ?_
    refine V_bipush a_X10_borrowable_51 (by decide) ?_
    refine V_icmp_ge_t a_X10_borrowable_53 (by omega) (by omega) ?_
    refine V_iconst a_X10_borrowable_67 ?_
    exact V_iret a_X10_borrowable_68 (⟨rfl, rfl⟩)
  · by_cases y : room ≤ 0
    · have e0 : (if s.1 7 = 12 ∨ room < 0 then 0 else min 99999 (min (freeB s.1 (-1) c) (room.tdiv (s.1 (15 + c))))) = 0 := by
        by_cases x : room < 0
        · exact if_pos (Or.inr x)
        · rw [if_neg (by omega), show room = 0 by omega, Int.zero_tdiv]
          omega
      rw [e0]
      refine V_aldn0 a_X10_borrowable_42 ?_
      refine V_fin a_X10_borrowable_43 f_X10_61 rfl hW ?_
      refine V_fin a_X10_borrowable_46 f_X10_196 rfl hW ?_
      refine V_iconst a_X10_borrowable_49 ?_
      refine V_ialdE a_X10_borrowable_50 rfl (by omega) n3 ?_
      refine V_bipush a_X10_borrowable_51 (by decide) ?_
      refine V_icmp_ge_f a_X10_borrowable_53 (by omega) (by omega) ?_
      refine V_lldn3 a_X10_borrowable_56 ?_
      refine V_lconst0 a_X10_borrowable_57 ?_
      refine V_lc_le_t a_X10_borrowable_58 a_X10_borrowable_59 (by omega) (by omega) ?_
      refine V_iconst a_X10_borrowable_67 ?_
      exact V_iret a_X10_borrowable_68 (⟨rfl, rfl⟩)
    · rw [if_neg (by omega)]
      have hd : 0 ≤ room.tdiv (s.1 (15 + c)) ∧ room.tdiv (s.1 (15 + c)) ≤ room := by
        rw [Int.tdiv_eq_ediv_of_nonneg (by omega)]
        exact ⟨Int.ediv_nonneg (by omega) (by omega), Int.ediv_le_self _ (by omega)⟩
      have rm := R_imin (σ := σ) (x := 99999) (y := freeB s.1 (-1) c) (by omega) (by omega)
      have rl := R_lmin (σ := σ) (x := min 99999 (freeB s.1 (-1) c)) (y := room.tdiv (s.1 (15 + c))) (by omega) (by omega)
      have ee : min 99999 (min (freeB s.1 (-1) c) (room.tdiv (s.1 (15 + c)))) = min (min 99999 (freeB s.1 (-1) c)) (room.tdiv (s.1 (15 + c))) := by omega
      rw [ee]
      refine V_aldn0 a_X10_borrowable_42 ?_
      refine V_fin a_X10_borrowable_43 f_X10_61 rfl hW ?_
      refine V_fin a_X10_borrowable_46 f_X10_196 rfl hW ?_
      refine V_iconst a_X10_borrowable_49 ?_
      refine V_ialdE a_X10_borrowable_50 rfl (by omega) n3 ?_
      refine V_bipush a_X10_borrowable_51 (by decide) ?_
      refine V_icmp_ge_f a_X10_borrowable_53 (by omega) (by omega) ?_
      refine V_lldn3 a_X10_borrowable_56 ?_
      refine V_lconst0 a_X10_borrowable_57 ?_
      refine V_lc_le_f a_X10_borrowable_58 a_X10_borrowable_59 (by omega) (by omega) ?_
      refine V_ild5 a_X10_borrowable_62 ?_
      refine V_if_gt_t a_X10_borrowable_64 (by omega) (by omega) ?_
      refine V_ldc a_X10_borrowable_69 q_X10_162 ?_
      refine V_aldn0 a_X10_borrowable_71 ?_
      refine V_fin a_X10_borrowable_72 f_X10_61 rfl hW ?_
      refine V_ildn2 a_X10_borrowable_75 ?_
      refine V_v1R a_X10_borrowable_76 c_X10_222 r4 ?_
      refine V_s2R a_X10_borrowable_79 c_X10_328 rm ?_
      refine V_ist6 a_X10_borrowable_82 ?_
      refine V_ild6 a_X10_borrowable_84 ?_
      refine V_i2l a_X10_borrowable_86 (by omega) ?_
      refine V_lldn3 a_X10_borrowable_87 ?_
      refine V_ild5 a_X10_borrowable_88 ?_
      refine V_i2l a_X10_borrowable_90 (by omega) ?_
      refine V_ldiv a_X10_borrowable_91 (by omega) ?_
      refine V_s2R a_X10_borrowable_92 c_X10_333 rl ?_
      refine V_l2i a_X10_borrowable_95 ?_
      exact V_iret a_X10_borrowable_96 (⟨rfl, rfl⟩)
theorem X_borrowable1 {b c : Int} (h : CIv D σ s) (ib : iR b) (ic : iR c) (hk : ¬ ((0 ≤ b ∧ b < s.1 2) ∧ 0 ≤ c ∧ c < s.1 0)) : Tr m_X10_borrowable 10 1 6 [vR (some (10, 0)), vI b, vI c] σ xIOB σ := by
  have hc := h.1
  show V _ 10 1 6 0 [some (vR (some (10, 0))), some (vI b), some (vI c), none, none, none, none] [] σ _
  by_cases z : 0 ≤ b ∧ b < s.1 2
  · have r1 := R_needBor0 hc z
    have r2 := R_needSec1 hc (fun y => hk ⟨z, y⟩) ic
    refine V_aldn0 a_X10_borrowable_0 ?_
    refine V_ildn1 a_X10_borrowable_1 ?_
    refine V_v1V a_X10_borrowable_2 c_X10_209 r1 ?_
    refine V_aldn0 a_X10_borrowable_5 ?_
    refine V_ildn2 a_X10_borrowable_6 ?_
    exact V_v1Q a_X10_borrowable_7 c_X10_180 (r2) (fun v τ hq => by cases hq.1) (fun E τ hq => by obtain ⟨h1, hq⟩ := hq; cases h1; exact ⟨rfl, hq⟩)
  · have r1 := R_needBor1 hc z ib
    refine V_aldn0 a_X10_borrowable_0 ?_
    refine V_ildn1 a_X10_borrowable_1 ?_
    exact V_v1Q a_X10_borrowable_2 c_X10_209 (r1) (fun v τ hq => by cases hq.1) (fun E τ hq => by obtain ⟨h1, hq⟩ := hq; cases h1; exact ⟨rfl, hq⟩)
end Q4

