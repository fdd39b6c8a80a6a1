section Orf
variable {σ : Hp} {T : Int → Int} {e p : Int} {A : St} {i : Nat} {D : Int}
theorem brC_bd {b s q r : Int} : 0 ≤ brC A b s q r ∧ brC A b s q r ≤ 3 := by
  unfold brC
  split
  · omega
  · split
    · omega
    · split <;> omega
theorem retC_bd {b q : Int} : 0 ≤ retC A b q ∧ retC A b q ≤ 3 := by
  unfold retC
  split
  · omega
  · split <;> omega
theorem rclC_bd {b s q : Int} : 0 ≤ rclC A b s q ∧ rclC A b s q ≤ 3 := by
  unfold rclC
  split
  · omega
  · split
    · omega
    · split <;> omega
theorem dvdC_bd {b q : Int} : 0 ≤ dvdC A b q ∧ dvdC A b q ≤ 3 := by
  unfold dvdC
  split
  · omega
  · split <;> omega
theorem dvdC_0 {b q : Int} : dvdC A b q = 0 ↔ (0 ≤ b ∧ b < A 0) ∧ 1 ≤ q ∧ q ≤ 9999 := by
  unfold dvdC
  by_cases a : 0 ≤ b ∧ b < A 0
  · rw [if_neg (fun z => z a)]
    by_cases c : 1 ≤ q ∧ q ≤ 9999
    · rw [if_neg (fun z => z c)]
      exact ⟨fun _ => ⟨a, c⟩, fun _ => rfl⟩
    · rw [if_pos c]
      exact ⟨fun z => absurd z (by decide), fun z => absurd z.2 c⟩
  · rw [if_pos a]
    exact ⟨fun z => absurd z (by decide), fun z => absurd z.1 a⟩
theorem R_faultOf {w : Int} {v : Int → Int} (h : Cl D σ i A) (hw : 0 ≤ w ∧ w ≤ 5) (hv : ∀ k, 0 ≤ k → k < nmA w → σ.I 22 0 k = v k) (hb : ∀ k, iR (v k)) : ∃ z : Int, (0 ≤ z ∧ z ≤ 3) ∧ (z = 0 ↔ doC A w v = 0) ∧ Rt m_X5_faultOf 4 0 0 [vR (some (5, 0)), vR (some (1, 0)), vR (some (6, i)), vI w] σ (some (vI z)) σ := by
  have hW := h.2.1
  have c : w = 0 ∨ w = 1 ∨ w = 2 ∨ w = 3 ∨ w = 4 ∨ w = 5 := by omega
  rcases c with rfl | rfl | rfl | rfl | rfl | rfl
  · have v0 := hv 0 (by decide) (by decide)
    have v1 := hv 1 (by decide) (by decide)
    have v2 := hv 2 (by decide) (by decide)
    have v3 := hv 3 (by decide) (by decide)
    have r := R_lendFault (b := v 0) (s := v 1) (q := v 2) (r := v 3) h (hb 0) (hb 1) (hb 2) (hb 3)
    refine ⟨brC A (v 0) (v 1) (v 2) (v 3), brC_bd, Iff.rfl, ?_⟩
    show V _ 4 0 0 0 [some (vR (some (5, 0))), some (vR (some (1, 0))), some (vR (some (6, i))), some (vI 0)] [] σ _
    refine V_ildn3 a_X5_faultOf_0 ?_
    refine V_table_in a_X5_faultOf_1 (off := 35) rfl rfl (by omega) (by omega) ?_
    refine V_aldn1 a_X5_faultOf_36 ?_
    refine V_aldn2 a_X5_faultOf_37 ?_
    refine V_aldn0 a_X5_faultOf_38 ?_
    refine V_fin a_X5_faultOf_39 f_X5_9 rfl hW ?_
    refine V_iconst a_X5_faultOf_42 ?_
    refine V_ialdE a_X5_faultOf_43 rfl (by omega) v0 ?_
    refine V_aldn0 a_X5_faultOf_44 ?_
    refine V_fin a_X5_faultOf_45 f_X5_9 rfl hW ?_
    refine V_iconst a_X5_faultOf_48 ?_
    refine V_ialdE a_X5_faultOf_49 rfl (by omega) v1 ?_
    refine V_aldn0 a_X5_faultOf_50 ?_
    refine V_fin a_X5_faultOf_51 f_X5_9 rfl hW ?_
    refine V_iconst a_X5_faultOf_54 ?_
    refine V_ialdE a_X5_faultOf_55 rfl (by omega) v2 ?_
    refine V_aldn0 a_X5_faultOf_56 ?_
    refine V_fin a_X5_faultOf_57 f_X5_9 rfl hW ?_
    refine V_iconst a_X5_faultOf_60 ?_
    refine V_ialdE a_X5_faultOf_61 rfl (by omega) v3 ?_
    refine V_v5R a_X5_faultOf_62 c_X5_98 r ?_
    exact V_iret a_X5_faultOf_65 (⟨rfl, rfl⟩)
  · have v0 := hv 0 (by decide) (by decide)
    have v1 := hv 1 (by decide) (by decide)
    have r := R_giveBackFault (m := v 0) (q := v 1) h (hb 0) (hb 1)
    refine ⟨retC A (v 0) (v 1), retC_bd, Iff.rfl, ?_⟩
    show V _ 4 0 0 0 [some (vR (some (5, 0))), some (vR (some (1, 0))), some (vR (some (6, i))), some (vI 1)] [] σ _
    refine V_ildn3 a_X5_faultOf_0 ?_
    refine V_table_in a_X5_faultOf_1 (off := 65) rfl rfl (by omega) (by omega) ?_
    refine V_aldn1 a_X5_faultOf_66 ?_
    refine V_aldn2 a_X5_faultOf_67 ?_
    refine V_aldn0 a_X5_faultOf_68 ?_
    refine V_fin a_X5_faultOf_69 f_X5_9 rfl hW ?_
    refine V_iconst a_X5_faultOf_72 ?_
    refine V_ialdE a_X5_faultOf_73 rfl (by omega) v0 ?_
    refine V_aldn0 a_X5_faultOf_74 ?_
    refine V_fin a_X5_faultOf_75 f_X5_9 rfl hW ?_
    refine V_iconst a_X5_faultOf_78 ?_
    refine V_ialdE a_X5_faultOf_79 rfl (by omega) v1 ?_
    refine V_v3R a_X5_faultOf_80 c_X5_101 r ?_
    exact V_iret a_X5_faultOf_83 (⟨rfl, rfl⟩)
  · have v0 := hv 0 (by decide) (by decide)
    have v1 := hv 1 (by decide) (by decide)
    have v2 := hv 2 (by decide) (by decide)
    have r := R_callInFault (l := v 0) (s := v 1) (q := v 2) h (hb 0) (hb 1) (hb 2)
    refine ⟨rclC A (v 0) (v 1) (v 2), rclC_bd, Iff.rfl, ?_⟩
    show V _ 4 0 0 0 [some (vR (some (5, 0))), some (vR (some (1, 0))), some (vR (some (6, i))), some (vI 2)] [] σ _
    refine V_ildn3 a_X5_faultOf_0 ?_
    refine V_table_in a_X5_faultOf_1 (off := 83) rfl rfl (by omega) (by omega) ?_
    refine V_aldn1 a_X5_faultOf_84 ?_
    refine V_aldn2 a_X5_faultOf_85 ?_
    refine V_aldn0 a_X5_faultOf_86 ?_
    refine V_fin a_X5_faultOf_87 f_X5_9 rfl hW ?_
    refine V_iconst a_X5_faultOf_90 ?_
    refine V_ialdE a_X5_faultOf_91 rfl (by omega) v0 ?_
    refine V_aldn0 a_X5_faultOf_92 ?_
    refine V_fin a_X5_faultOf_93 f_X5_9 rfl hW ?_
    refine V_iconst a_X5_faultOf_96 ?_
    refine V_ialdE a_X5_faultOf_97 rfl (by omega) v1 ?_
    refine V_aldn0 a_X5_faultOf_98 ?_
    refine V_fin a_X5_faultOf_99 f_X5_9 rfl hW ?_
    refine V_iconst a_X5_faultOf_102 ?_
    refine V_ialdE a_X5_faultOf_103 rfl (by omega) v2 ?_
    refine V_v4R a_X5_faultOf_104 c_X5_104 r ?_
    exact V_iret a_X5_faultOf_107 (⟨rfl, rfl⟩)
  · have v0 := hv 0 (by decide) (by decide)
    have r := R_goOnFault (σ := σ) (d := v 0) (hb 0)
    refine ⟨if 1 ≤ v 0 ∧ v 0 ≤ 400 then 0 else 2, by split <;> omega, ?_, ?_⟩
    · show _ ↔ (if 1 ≤ v 0 ∧ v 0 ≤ 400 then (0 : Int) else 1) = 0
      by_cases z : 1 ≤ v 0 ∧ v 0 ≤ 400
      · rw [if_pos z, if_pos z]
      · rw [if_neg z, if_neg z]
        decide
    show V _ 4 0 0 0 [some (vR (some (5, 0))), some (vR (some (1, 0))), some (vR (some (6, i))), some (vI 3)] [] σ _
    refine V_ildn3 a_X5_faultOf_0 ?_
    refine V_table_in a_X5_faultOf_1 (off := 107) rfl rfl (by omega) (by omega) ?_
    refine V_aldn1 a_X5_faultOf_108 ?_
    refine V_aldn0 a_X5_faultOf_109 ?_
    refine V_fin a_X5_faultOf_110 f_X5_9 rfl hW ?_
    refine V_iconst a_X5_faultOf_113 ?_
    refine V_ialdE a_X5_faultOf_114 rfl (by omega) v0 ?_
    refine V_v1R a_X5_faultOf_115 c_X5_107 r ?_
    exact V_iret a_X5_faultOf_118 (⟨rfl, rfl⟩)
  · have v0 := hv 0 (by decide) (by decide)
    have v1 := hv 1 (by decide) (by decide)
    have r := R_priceFault (s := v 0) (a := v 1) h (hb 0) (hb 1)
    refine ⟨dvdC A (v 0) (v 1), dvdC_bd, ?_, ?_⟩
    · show _ ↔ (if (0 ≤ v 0 ∧ v 0 < A 0) ∧ 1 ≤ v 1 ∧ v 1 ≤ 9999 then (0 : Int) else 1) = 0
      rw [dvdC_0]
      by_cases z : (0 ≤ v 0 ∧ v 0 < A 0) ∧ 1 ≤ v 1 ∧ v 1 ≤ 9999
      · rw [if_pos z]
        exact ⟨fun _ => rfl, fun _ => z⟩
      · rw [if_neg z]
        exact ⟨fun y => absurd y z, fun y => absurd y (by decide)⟩
    show V _ 4 0 0 0 [some (vR (some (5, 0))), some (vR (some (1, 0))), some (vR (some (6, i))), some (vI 4)] [] σ _
    refine V_ildn3 a_X5_faultOf_0 ?_
    refine V_table_in a_X5_faultOf_1 (off := 118) rfl rfl (by omega) (by omega) ?_
    refine V_aldn1 a_X5_faultOf_119 ?_
    refine V_aldn2 a_X5_faultOf_120 ?_
    refine V_aldn0 a_X5_faultOf_121 ?_
    refine V_fin a_X5_faultOf_122 f_X5_9 rfl hW ?_
    refine V_iconst a_X5_faultOf_125 ?_
    refine V_ialdE a_X5_faultOf_126 rfl (by omega) v0 ?_
    refine V_aldn0 a_X5_faultOf_127 ?_
    refine V_fin a_X5_faultOf_128 f_X5_9 rfl hW ?_
    refine V_iconst a_X5_faultOf_131 ?_
    refine V_ialdE a_X5_faultOf_132 rfl (by omega) v1 ?_
    refine V_v3R a_X5_faultOf_133 c_X5_110 r ?_
    exact V_iret a_X5_faultOf_136 (⟨rfl, rfl⟩)
  · have v0 := hv 0 (by decide) (by decide)
    have v1 := hv 1 (by decide) (by decide)
    have r := R_dividendFault (s := v 0) (a := v 1) h (hb 0) (hb 1)
    refine ⟨dvdC A (v 0) (v 1), dvdC_bd, Iff.rfl, ?_⟩
    show V _ 4 0 0 0 [some (vR (some (5, 0))), some (vR (some (1, 0))), some (vR (some (6, i))), some (vI 5)] [] σ _
    refine V_ildn3 a_X5_faultOf_0 ?_
    refine V_table_out a_X5_faultOf_1 (tgt := 137) rfl (by omega) (by omega) ?_
    refine V_aldn1 a_X5_faultOf_137 ?_
    refine V_aldn2 a_X5_faultOf_138 ?_
    refine V_aldn0 a_X5_faultOf_139 ?_
    refine V_fin a_X5_faultOf_140 f_X5_9 rfl hW ?_
    refine V_iconst a_X5_faultOf_143 ?_
    refine V_ialdE a_X5_faultOf_144 rfl (by omega) v0 ?_
    refine V_aldn0 a_X5_faultOf_145 ?_
    refine V_fin a_X5_faultOf_146 f_X5_9 rfl hW ?_
    refine V_iconst a_X5_faultOf_149 ?_
    refine V_ialdE a_X5_faultOf_150 rfl (by omega) v1 ?_
    refine V_v3R a_X5_faultOf_151 c_X5_113 r ?_
    exact V_iret a_X5_faultOf_154 (⟨rfl, rfl⟩)
theorem R_carryOut {w : Int} {v : Int → Int} (h : Cl D σ i A) (hw : 0 ≤ w ∧ w ≤ 5) (hv : ∀ k, 0 ≤ k → k < nmA w → σ.I 22 0 k = v k) (hb : ∀ k, iR (v k)) (hc : doC A w v = 0) (hD4 : D + 401 ≤ 20000000) : Cv m_X5_carryOut 5 0 0 [vR (some (5, 0)), vR (some (1, 0)), vR (some (6, i)), vI w] σ none (fun τ => Fp i σ τ ∧ Cl (D + 401) τ i (doA A w v)) := by
  have hW := h.2.1
  have hn := h.2.2.2.2.n
  have hinv := do_inv h.2.2.2.2 hw hc hD4
  have c : w = 0 ∨ w = 1 ∨ w = 2 ∨ w = 3 ∨ w = 4 ∨ w = 5 := by omega
  rcases c with rfl | rfl | rfl | rfl | rfl | rfl
  · have v0 := hv 0 (by decide) (by decide)
    have v1 := hv 1 (by decide) (by decide)
    have v2 := hv 2 (by decide) (by decide)
    have v3 := hv 3 (by decide) (by decide)
    obtain ⟨h1, h2, h3⟩ := br_0 (show brC A (v 0) (v 1) (v 2) (v 3) = 0 from hc)
    have r := R_Clend h h1.1 h1.2 h2.1 h2.2 h3 (by omega)
    show V _ 5 0 0 0 [some (vR (some (5, 0))), some (vR (some (1, 0))), some (vR (some (6, i))), some (vI 0)] [] σ _
    refine V_ildn3 a_X5_carryOut_0 ?_
    refine V_table_in a_X5_carryOut_1 (off := 35) rfl rfl (by omega) (by omega) ?_
    refine V_aldn1 a_X5_carryOut_36 ?_
    refine V_aldn2 a_X5_carryOut_37 ?_
    refine V_aldn0 a_X5_carryOut_38 ?_
    refine V_fin a_X5_carryOut_39 f_X5_9 rfl hW ?_
    refine V_iconst a_X5_carryOut_42 ?_
    refine V_ialdE a_X5_carryOut_43 rfl (by omega) v0 ?_
    refine V_aldn0 a_X5_carryOut_44 ?_
    refine V_fin a_X5_carryOut_45 f_X5_9 rfl hW ?_
    refine V_iconst a_X5_carryOut_48 ?_
    refine V_ialdE a_X5_carryOut_49 rfl (by omega) v1 ?_
    refine V_aldn0 a_X5_carryOut_50 ?_
    refine V_fin a_X5_carryOut_51 f_X5_9 rfl hW ?_
    refine V_iconst a_X5_carryOut_54 ?_
    refine V_ialdE a_X5_carryOut_55 rfl (by omega) v2 ?_
    refine V_aldn0 a_X5_carryOut_56 ?_
    refine V_fin a_X5_carryOut_57 f_X5_9 rfl hW ?_
    refine V_iconst a_X5_carryOut_60 ?_
    refine V_ialdE a_X5_carryOut_61 rfl (by omega) v3 ?_
    refine V_v5PR a_X5_carryOut_62 c_X5_73 r (fun τ hτ => ?_)
    first | refine V_popI a_X5_carryOut_65 ?_ | refine V_popR a_X5_carryOut_65 ?_
    refine V_goto a_X5_carryOut_66 ?_
    exact V_ret a_X5_carryOut_170 (⟨rfl, hτ.1, hτ.2.up (by omega) hD4⟩)
  · have v0 := hv 0 (by decide) (by decide)
    have v1 := hv 1 (by decide) (by decide)
    have r := R_CgiveBack (m := v 0) (q := v 1) h (hb 0) hc
    show V _ 5 0 0 0 [some (vR (some (5, 0))), some (vR (some (1, 0))), some (vR (some (6, i))), some (vI 1)] [] σ _
    refine V_ildn3 a_X5_carryOut_0 ?_
    refine V_table_in a_X5_carryOut_1 (off := 68) rfl rfl (by omega) (by omega) ?_
    refine V_aldn1 a_X5_carryOut_69 ?_
    refine V_aldn2 a_X5_carryOut_70 ?_
    refine V_aldn0 a_X5_carryOut_71 ?_
    refine V_fin a_X5_carryOut_72 f_X5_9 rfl hW ?_
    refine V_iconst a_X5_carryOut_75 ?_
    refine V_ialdE a_X5_carryOut_76 rfl (by omega) v0 ?_
    refine V_aldn0 a_X5_carryOut_77 ?_
    refine V_fin a_X5_carryOut_78 f_X5_9 rfl hW ?_
    refine V_iconst a_X5_carryOut_81 ?_
    refine V_ialdE a_X5_carryOut_82 rfl (by omega) v1 ?_
    refine V_v3PR a_X5_carryOut_83 c_X5_79 r (fun τ hτ => ?_)
    first | refine V_popI a_X5_carryOut_86 ?_ | refine V_popR a_X5_carryOut_86 ?_
    refine V_goto a_X5_carryOut_87 ?_
    exact V_ret a_X5_carryOut_170 (⟨rfl, hτ.1, hτ.2.up (by omega) hD4⟩)
  · have v0 := hv 0 (by decide) (by decide)
    have v1 := hv 1 (by decide) (by decide)
    have v2 := hv 2 (by decide) (by decide)
    obtain ⟨h1, h2, h3⟩ := rcl_0 (show rclC A (v 0) (v 1) (v 2) = 0 from hc)
    have r := R_callIn (l := v 0) (s := v 1) (q := v 2) h h1.1 (by omega) (by omega)
    show V _ 5 0 0 0 [some (vR (some (5, 0))), some (vR (some (1, 0))), some (vR (some (6, i))), some (vI 2)] [] σ _
    refine V_ildn3 a_X5_carryOut_0 ?_
    refine V_table_in a_X5_carryOut_1 (off := 89) rfl rfl (by omega) (by omega) ?_
    refine V_aldn1 a_X5_carryOut_90 ?_
    refine V_aldn2 a_X5_carryOut_91 ?_
    refine V_aldn0 a_X5_carryOut_92 ?_
    refine V_fin a_X5_carryOut_93 f_X5_9 rfl hW ?_
    refine V_iconst a_X5_carryOut_96 ?_
    refine V_ialdE a_X5_carryOut_97 rfl (by omega) v0 ?_
    refine V_aldn0 a_X5_carryOut_98 ?_
    refine V_fin a_X5_carryOut_99 f_X5_9 rfl hW ?_
    refine V_iconst a_X5_carryOut_102 ?_
    refine V_ialdE a_X5_carryOut_103 rfl (by omega) v1 ?_
    refine V_aldn0 a_X5_carryOut_104 ?_
    refine V_fin a_X5_carryOut_105 f_X5_9 rfl hW ?_
    refine V_iconst a_X5_carryOut_108 ?_
    refine V_ialdE a_X5_carryOut_109 rfl (by omega) v2 ?_
    refine V_v4PR a_X5_carryOut_110 c_X5_83 r (fun τ hτ => ?_)
    first | refine V_popI a_X5_carryOut_113 ?_ | refine V_popR a_X5_carryOut_113 ?_
    refine V_goto a_X5_carryOut_114 ?_
    exact V_ret a_X5_carryOut_170 (⟨rfl, hτ.1, hτ.2.up (by omega) hD4⟩)
  · have v0 := hv 0 (by decide) (by decide)
    have hd : 1 ≤ v 0 ∧ v 0 ≤ 400 := by
      have hc : (if 1 ≤ v 0 ∧ v 0 ≤ 400 then (0 : Int) else 1) = 0 := hc
      by_cases z : 1 ≤ v 0 ∧ v 0 ≤ 400
      · exact z
      · rw [if_neg z] at hc
        omega
    have r := R_goOn (n := v 0) (by omega) h (by omega)
    show V _ 5 0 0 0 [some (vR (some (5, 0))), some (vR (some (1, 0))), some (vR (some (6, i))), some (vI 3)] [] σ _
    refine V_ildn3 a_X5_carryOut_0 ?_
    refine V_table_in a_X5_carryOut_1 (off := 116) rfl rfl (by omega) (by omega) ?_
    refine V_aldn1 a_X5_carryOut_117 ?_
    refine V_aldn2 a_X5_carryOut_118 ?_
    refine V_aldn0 a_X5_carryOut_119 ?_
    refine V_fin a_X5_carryOut_120 f_X5_9 rfl hW ?_
    refine V_iconst a_X5_carryOut_123 ?_
    refine V_ialdE a_X5_carryOut_124 rfl (by omega) v0 ?_
    refine V_v2PR a_X5_carryOut_125 c_X5_87 r (fun τ hτ => ?_)
    first | refine V_popI a_X5_carryOut_128 ?_ | refine V_popR a_X5_carryOut_128 ?_
    refine V_goto a_X5_carryOut_129 ?_
    exact V_ret a_X5_carryOut_170 (⟨rfl, hτ.1, hτ.2.up (by omega) hD4⟩)
  · have v0 := hv 0 (by decide) (by decide)
    have v1 := hv 1 (by decide) (by decide)
    have hd : (0 ≤ v 0 ∧ v 0 < A 0) ∧ 1 ≤ v 1 ∧ v 1 ≤ 9999 := by
      have hc : (if (0 ≤ v 0 ∧ v 0 < A 0) ∧ 1 ≤ v 1 ∧ v 1 ≤ 9999 then (0 : Int) else 1) = 0 := hc
      by_cases z : (0 ≤ v 0 ∧ v 0 < A 0) ∧ 1 ≤ v 1 ∧ v 1 ≤ 9999
      · exact z
      · rw [if_neg z] at hc
        omega
    have rp := rel_pt (v := v 1) h.2.2.1 (by omega) (t := 37) (o := 15) (x := v 0) (Or.inl ⟨rfl, rfl, by omega, by omega⟩)
    show V _ 5 0 0 0 [some (vR (some (5, 0))), some (vR (some (1, 0))), some (vR (some (6, i))), some (vI 4)] [] σ _
    refine V_ildn3 a_X5_carryOut_0 ?_
    refine V_table_in a_X5_carryOut_1 (off := 131) rfl rfl (by omega) (by omega) ?_
    refine V_aldn2 a_X5_carryOut_132 ?_
    refine V_fin a_X5_carryOut_133 f_X5_91 rfl hW ?_
    refine V_aldn0 a_X5_carryOut_136 ?_
    refine V_fin a_X5_carryOut_137 f_X5_9 rfl hW ?_
    refine V_iconst a_X5_carryOut_140 ?_
    refine V_ialdE a_X5_carryOut_141 rfl (by omega) v0 ?_
    refine V_aldn0 a_X5_carryOut_142 ?_
    refine V_fin a_X5_carryOut_143 f_X5_9 rfl hW ?_
    refine V_iconst a_X5_carryOut_146 ?_
    refine V_ialdE a_X5_carryOut_147 rfl (by omega) v1 ?_
    refine V_iast a_X5_carryOut_148 rfl (by omega) ?_
    refine V_goto a_X5_carryOut_149 ?_
    exact V_ret a_X5_carryOut_170 (⟨rfl, (FX.setI (S := fun t n => t = 37 ∧ n = i) ⟨rfl, rfl⟩).fp (fun t n z => by unfold plS; omega), hD4, hW, rp, h.2.2.2.1, hinv⟩)
  · have v0 := hv 0 (by decide) (by decide)
    have v1 := hv 1 (by decide) (by decide)
    have hd := dvdC_0.mp (show dvdC A (v 0) (v 1) = 0 from hc)
    have r := R_dividend (s := v 0) (a := v 1) h (by omega) (by omega)
    show V _ 5 0 0 0 [some (vR (some (5, 0))), some (vR (some (1, 0))), some (vR (some (6, i))), some (vI 5)] [] σ _
    refine V_ildn3 a_X5_carryOut_0 ?_
    refine V_table_out a_X5_carryOut_1 (tgt := 152) rfl (by omega) (by omega) ?_
    refine V_aldn1 a_X5_carryOut_152 ?_
    refine V_aldn2 a_X5_carryOut_153 ?_
    refine V_aldn0 a_X5_carryOut_154 ?_
    refine V_fin a_X5_carryOut_155 f_X5_9 rfl hW ?_
    refine V_iconst a_X5_carryOut_158 ?_
    refine V_ialdE a_X5_carryOut_159 rfl (by omega) v0 ?_
    refine V_aldn0 a_X5_carryOut_160 ?_
    refine V_fin a_X5_carryOut_161 f_X5_9 rfl hW ?_
    refine V_iconst a_X5_carryOut_164 ?_
    refine V_ialdE a_X5_carryOut_165 rfl (by omega) v1 ?_
    refine V_v3PR a_X5_carryOut_166 c_X5_95 r (fun τ hτ => ?_)
    refine V_pop2L a_X5_carryOut_169 ?_
    exact V_ret a_X5_carryOut_170 (⟨rfl, hτ.1.fp, hτ.2.up (by omega) hD4⟩)
theorem R_runAll (hc : TC σ T e) (h : Cl D σ i A) (hD4 : D + 41000 ≤ 20000000) : Cv m_X5_runAll 7 0 0 [vR (some (5, 0)), vR (some (9, 0)), vR (some (1, 0)), vR (some (6, i))] σ (some (vI (if (ogX T e A).1 = 0 then (ogX T e A).2.2.1 else -1 - (ogX T e A).2.1))) (fun τ => FP (orS i) i σ τ ∧ TC τ T e ∧ Shp τ i ∧ ((ogX T e A).1 = 0 → Cl (D + 67 * e) τ i (ogX T e A).2.2.2.1)) := by
  have he := hc.2.2.2
  have sub9 : ∀ {τ τ2 : Hp}, Fm [9] τ τ2 → FP (orS i) i τ τ2 := fun f => (f.fx (S := fun t _ => t = 9) (fun t n z => List.mem_singleton.mp z)).fP (fun t n z => Or.inr (Or.inl z))
  have f0 : FP (orS i) i σ (σ.setI 9 0 4 0) := sub9 (Fm.setI (by decide))
  have hc0 : TC (σ.setI 9 0 4 0) T e := hc.fm (L := [9]) (Fm.setI (by decide)) (by decide) ((setI_ne (by decide)).trans hc.2.2.1)
  have h0 : Cl D (σ.setI 9 0 4 0) i A := h.fm (L := [9]) (Fm.setI (by decide)) (by decide)
  show V _ 7 0 0 0 [some (vR (some (5, 0))), some (vR (some (9, 0))), some (vR (some (1, 0))), some (vR (some (6, i))), none, none, none] [] σ _
  refine V_aldn1 a_X5_runAll_0 ?_
  refine V_v0V a_X5_runAll_1 c_X5_15 R_goToStart ?_
  refine V_iconst a_X5_runAll_4 ?_
  refine V_ist4 a_X5_runAll_5 ?_
  skip
  refine ((loopW (I := ogI D e) (g := ogG T e) (f := ogF T e) (m := psM e) (P := fun x => (x.1 = 0 → ∀ τ (o5 o6 : Option AV), FP (orS i) i σ τ → TC τ T e → τ.I 9 0 4 = x.2.2.2.2 → Cl (D + 67 * x.2.2.2.2) τ i x.2.2.2.1 → V m_X5_runAll 7 0 0 7 [some (vR (some (5, 0))), some (vR (some (9, 0))), some (vR (some (1, 0))), some (vR (some (6, i))), some (vI x.2.2.1), o5, o6] [] τ (fun r τ => r = .inl (some (vI (if (ogX T e A).1 = 0 then (ogX T e A).2.2.1 else -1 - (ogX T e A).2.1))) ∧ FP (orS i) i σ τ ∧ TC τ T e ∧ Shp τ i ∧ ((ogX T e A).1 = 0 → Cl (D + 67 * e) τ i (ogX T e A).2.2.2.1))) ∧ (x.1 ≠ 0 → x = ogX T e A)) (og_s (by omega) hD4) (E := ogX T e A) ?_ ?_ (0, -1, 0, A, 0) (og_0 he.1 h.2.2.2.2) rfl).1 rfl (σ.setI 9 0 4 0) none none f0 hc0 setI_I (h0.up (by show D ≤ D + 67 * 0; omega) (by show D + 67 * 0 ≤ 20000000; omega)))
  · intro hx hg
    generalize ogX T e A = x at hx hg ⊢
    obtain ⟨c, a, n, B, p⟩ := x
    refine ⟨fun e0 τ o5 o6 fr tc p4 cl => ?_, fun _ => rfl⟩
    obtain ⟨h1, h3, h4, h5⟩ := hx
    dsimp only at h1 h3 h4 h5 e0 p4 cl ⊢
    have h5 := h5 e0
    have hg : ¬ (c = 0 ∧ tF T e p < e) := fun z => hg (decide_eq_true z)
    have hF : ¬ tF T e p < e := fun z => hg ⟨e0, z⟩
    have rt := R_readToken tc h3 p4
    have hW := tc.1
    rw [if_pos e0]
    refine V_ild4 a_X5_runAll_7 ?_
    refine V_sipush a_X5_runAll_9 (by decide) ?_
    refine V_icmp_gt_f a_X5_runAll_12 (by omega) (by omega) ?_
    refine V_aldn1 a_X5_runAll_15 ?_
    refine V_v0PV a_X5_runAll_16 c_X5_20 rt (fun τ2 hτ2 => ?_)
    skip
    obtain ⟨f2, t0, t1, t2, t4, t3⟩ := hτ2
    rw [tk_0.mpr hF] at t1
    have cl2 := cl.fm f2 (by decide)
    refine V_aldn1 a_X5_runAll_19 ?_
    refine V_getIE a_X5_runAll_20 f_X5_23 rfl t1 ?_
    refine V_if_ne_f a_X5_runAll_23 (by omega) (by omega) ?_
    refine V_ild4 a_X5_runAll_26 ?_
    exact V_iret a_X5_runAll_28 (⟨rfl, fr.trans (sub9 f2), tc.fm f2 (by decide) t0, cl2.2.2.2.1, fun _ => cl2.up (by omega) (by omega)⟩)
  · intro x hx hg ih
    obtain ⟨c, a, n, B, p⟩ := x
    have hg : c = 0 ∧ tF T e p < e := of_decide_eq_true hg
    refine ⟨fun e0 τ o5 o6 fr tc p4 cl => ?_, fun z => absurd hg.1 z⟩
    obtain ⟨h1, h3, h4, h5⟩ := hx
    dsimp only at h1 h3 h4 h5 e0 p4 cl ⊢
    have h5 := h5 e0
    have rt := R_readToken tc h3 p4
    have hW := tc.1
    refine V_ild4 a_X5_runAll_7 ?_
    refine V_sipush a_X5_runAll_9 (by decide) ?_
    refine V_icmp_gt_f a_X5_runAll_12 (by omega) (by omega) ?_
    refine V_aldn1 a_X5_runAll_15 ?_
    refine V_v0PV a_X5_runAll_16 c_X5_20 rt (fun τ2 hτ2 => ?_)
    skip
    obtain ⟨f2, k2⟩ := hτ2
    have k2' := k2
    obtain ⟨t0, t1, t2, t4, t3⟩ := k2
    have tc2 : TC τ2 T e := tc.fm f2 (by decide) t0
    have cl2 := cl.fm f2 (by decide)
    have fr2 : FP (orS i) i σ τ2 := fr.trans (sub9 f2)
    have hkb := tk_bd (T := T) (e := e) (f := tF T e p)
    have hk0 : tkA T e (tF T e p) ≠ 0 := fun w => (tk_0.mp w) hg.2
    have hob := ow_bd (T := T) (e := e) (p := p)
    have hso := go_ok (T := T) h5.2 h3 (by omega)
    have hFb := tE_bd (T := T) h3.2
    have rw0 := R_wordOf tc2 k2' h3
    have hW := tc2.1
    unfold ogF at ih
    dsimp only at ih
    have bad : ∀ (c pos : Int) (τ3 : Hp) (o5 o6 : Option AV), c ≠ 0 → goA T e B p = (c, pos, B) → FP (orS i) i σ τ3 → TC τ3 T e → Shp τ3 i → (fun (r : Res) τ => r = .inl (some (vI (if (ogX T e A).1 = 0 then (ogX T e A).2.2.1 else -1 - (ogX T e A).2.1))) ∧ FP (orS i) i σ τ ∧ TC τ T e ∧ Shp τ i ∧ ((ogX T e A).1 = 0 → Cl (D + 67 * e) τ i (ogX T e A).2.2.2.1)) (.inl (some (vI (-1 - pos)))) τ3 := fun c pos τ3 o5 o6 c0 eg a1 a2 a3 => by
      rw [eg] at ih
      have ih : _ ∧ ((if c = 0 then _ else _ : PS).1 ≠ 0 → _) := ih
      rw [if_neg c0] at ih
      have eE := ih.2 c0
      rw [← eE]
      refine ⟨?_, a1, a2, a3, fun z => absurd z c0⟩
      rw [if_neg (show ¬ ((c, pos, n + 1, B, p) : PS).1 = 0 from c0)]
    by_cases kw : owA T e p = -1
    · rw [kw] at rw0
      have eg : goA T e B p = (1, tF T e p, B) := by
        unfold goA
        rw [if_pos kw]
      have rr := R_readRest0 (σ := τ2)
      refine V_aldn1 a_X5_runAll_19 ?_
      refine V_getIE a_X5_runAll_20 f_X5_23 rfl t1 ?_
      refine V_if_ne_t a_X5_runAll_23 (by omega) (by omega) ?_
      refine V_aldn1 a_X5_runAll_29 ?_
      refine V_getIE a_X5_runAll_30 f_X5_27 rfl t2 ?_
      refine V_ist5 a_X5_runAll_33 ?_
      refine V_aldn1 a_X5_runAll_35 ?_
      refine V_s1R a_X5_runAll_36 c_X5_30 rw0 ?_
      refine V_ist6 a_X5_runAll_39 ?_
      refine V_aldn0 a_X5_runAll_41 ?_
      refine V_aldn1 a_X5_runAll_42 ?_
      refine V_ild6 a_X5_runAll_43 ?_
      refine V_v2R a_X5_runAll_45 c_X5_34 rr ?_
      refine V_if_ne_f a_X5_runAll_48 (by omega) (by omega) ?_
      refine V_iconst a_X5_runAll_51 ?_
      refine V_aldn1 a_X5_runAll_52 ?_
      refine V_getIE a_X5_runAll_53 f_X5_27 rfl t2 ?_
      refine V_isub a_X5_runAll_56 ?_
      exact V_iret a_X5_runAll_57 (bad 1 (tF T e p) τ2 none none (by decide) eg fr2 tc2 cl2.2.2.2.1)
    · have hw : 0 ≤ owA T e p ∧ owA T e p ≤ 5 := by omega
      have rr := R_readRest (w := owA T e p) tc2 k2' h3 hw
      generalize hx : ftN T e (oL (nmA (owA T e p)).toNat) (tE T e p) = x at rr
      have frr : ∀ {τ τ3 : Hp}, Fm [9, 22] τ τ3 → FP (orS i) i τ τ3 := fun f => (f.fx (S := fun t _ => t = 9 ∨ t = 22) (fun t n z => by
        have : t = 9 ∨ t = 22 := by
          rcases List.mem_cons.mp z with y | y
          · exact Or.inl y
          · exact Or.inr (List.mem_singleton.mp y)
        exact this)).fP (fun t n z => Or.inr z)
      by_cases kx : x.1 = 0 ∧ wdB T e x.2 29 = true
      · have rr : Cv m_X5_readRest 4 0 0 [vR (some (5, 0)), vR (some (9, 0)), vI (owA T e p)] τ2 (some (vI 1)) (fun τ => Fm [9, 22] τ2 τ ∧ TC τ T e ∧ τ.I 9 0 4 = tE T e x.2 ∧ ∀ k, 0 ≤ k → k < nmA (owA T e p) → τ.I 22 0 k = nW T e (tEn T e (tE T e p) k)) := Ct.mono rr (fun r τ hq => ⟨(hq.2.2.1 kx).1, hq.1, hq.2.1, (hq.2.2.1 kx).2.1, (hq.2.2.1 kx).2.2⟩)
        refine V_aldn1 a_X5_runAll_19 ?_
        refine V_getIE a_X5_runAll_20 f_X5_23 rfl t1 ?_
        refine V_if_ne_t a_X5_runAll_23 (by omega) (by omega) ?_
        refine V_aldn1 a_X5_runAll_29 ?_
        refine V_getIE a_X5_runAll_30 f_X5_27 rfl t2 ?_
        refine V_ist5 a_X5_runAll_33 ?_
        refine V_aldn1 a_X5_runAll_35 ?_
        refine V_s1R a_X5_runAll_36 c_X5_30 rw0 ?_
        refine V_ist6 a_X5_runAll_39 ?_
        refine V_aldn0 a_X5_runAll_41 ?_
        refine V_aldn1 a_X5_runAll_42 ?_
        refine V_ild6 a_X5_runAll_43 ?_
        refine V_v2PR a_X5_runAll_45 c_X5_34 rr (fun τ3 hτ3 => ?_)
        refine V_if_ne_t a_X5_runAll_48 (by omega) (by omega) ?_
        skip
        obtain ⟨f3, tc3, p3, hvals⟩ := hτ3
        have cl3 := cl2.fm f3 (by decide)
        have fr3 := fr2.trans (frr f3)
        have hvb : ∀ k, iR (ovA T e p (owA T e p) k) := fun k => by
          unfold ovA iR
          split
          · rcases lt_ge k 0 with y | y
            · have : tEn T e (tE T e p) k = tE T e p := by
                unfold tEn itr
                rw [show k.toNat = 0 by omega]
                rfl
              rw [this]
              have := nW_bd (T := T) (e := e) (p := tE T e p) (by omega)
              omega
            · have b := tEn_bd (T := T) (e := e) (p := tE T e p) (n := k) (by omega) y
              have := nW_bd (T := T) (e := e) (p := tEn T e (tE T e p) k) b.2
              omega
          · omega
        have hvl : ∀ k, 0 ≤ k → k < nmA (owA T e p) → τ3.I 22 0 k = ovA T e p (owA T e p) k := fun k k0 k1 => by
          unfold ovA
          rw [if_pos k1]
          exact hvals k k0 k1
        obtain ⟨z, zb, zi, rf⟩ := R_faultOf cl3 hw hvl hvb
        have hW := tc3.1
        by_cases kd : doC B (owA T e p) (ovA T e p (owA T e p)) = 0
        · have eg : goA T e B p = (0, x.2, doA B (owA T e p) (ovA T e p (owA T e p))) := by
            unfold goA
            rw [if_neg kw, hx, if_neg (fun y => y kx.1), if_neg (fun y => y kx.2), if_neg (fun y => y kd)]
          rw [zi.mpr kd] at rf
          have rc := R_carryOut cl3 hw hvl hvb kd (by omega)
          refine V_aldn0 a_X5_runAll_58 ?_
          refine V_aldn2 a_X5_runAll_59 ?_
          refine V_aldn3 a_X5_runAll_60 ?_
          refine V_ild6 a_X5_runAll_61 ?_
          refine V_v3R a_X5_runAll_63 c_X5_38 rf ?_
          refine V_if_eq_t a_X5_runAll_66 (by omega) (by omega) ?_
          refine V_aldn0 a_X5_runAll_74 ?_
          refine V_aldn2 a_X5_runAll_75 ?_
          refine V_aldn3 a_X5_runAll_76 ?_
          refine V_ild6 a_X5_runAll_77 ?_
          refine V_v3PV a_X5_runAll_79 c_X5_42 rc (fun τ4 hτ4 => ?_)
          skip
          obtain ⟨f4, cl4⟩ := hτ4
          rw [eg] at ih hso
          have hs2 := hso.2 rfl
          have hs2 : (0 ≤ x.2 ∧ x.2 ≤ e) ∧ (p + 6 ≤ tE T e x.2 ∧ tE T e x.2 ≤ e) ∧ _ := hs2
          rw [if_pos rfl] at ih
          have n9 : τ4.I 9 0 = τ3.I 9 0 := f4.I (by unfold plS; omega)
          have n20 : τ4.I 20 0 = τ3.I 20 0 := f4.I (by unfold plS; omega)
          have tc4 : TC τ4 T e := ⟨f4.wf tc3.1, fun k k0 k1 => by rw [n20]; exact tc3.2.1 k k0 k1, by rw [n9]; exact tc3.2.2.1, he⟩
          have ih2 := ih.1 rfl τ4 (some (vI (tF T e p))) (some (vI (owA T e p))) (fr3.trans (f4.fP (fun t n y => Or.inl y))) tc4 (by rw [n9]; exact p3) (cl4.up (by show D + 67 * p + 401 ≤ D + 67 * tE T e x.2; omega) (by show D + 67 * tE T e x.2 ≤ 20000000; omega))
          refine V_inc4 a_X5_runAll_82 ?_
          refine V_goto a_X5_runAll_85 ?_
          exact ih2
        · have eg : goA T e B p = (1, tF T e p, B) := by
            unfold goA
            rw [if_neg kw, hx, if_neg (fun y => y kx.1), if_neg (fun y => y kx.2), if_pos kd]
          have z0 : z ≠ 0 := fun y => kd (zi.mp y)
          refine V_aldn0 a_X5_runAll_58 ?_
          refine V_aldn2 a_X5_runAll_59 ?_
          refine V_aldn3 a_X5_runAll_60 ?_
          refine V_ild6 a_X5_runAll_61 ?_
          refine V_v3R a_X5_runAll_63 c_X5_38 rf ?_
          refine V_if_eq_f a_X5_runAll_66 (by omega) (by omega) ?_
          refine V_iconst a_X5_runAll_69 ?_
          refine V_ild5 a_X5_runAll_70 ?_
          refine V_isub a_X5_runAll_72 ?_
          exact V_iret a_X5_runAll_73 (bad 1 (tF T e p) τ3 none none (by decide) eg fr3 tc3 cl3.2.2.2.1)
      · have rr : Cv m_X5_readRest 4 0 0 [vR (some (5, 0)), vR (some (9, 0)), vI (owA T e p)] τ2 (some (vI 0)) (fun τ => Fm [9, 22] τ2 τ ∧ TC τ T e ∧ τ.I 9 0 2 = if x.1 ≠ 0 then x.2 else tF T e x.2) := Ct.mono rr (fun r τ hq => ⟨(hq.2.2.2 kx).1, hq.1, hq.2.1, (hq.2.2.2 kx).2⟩)
        refine V_aldn1 a_X5_runAll_19 ?_
        refine V_getIE a_X5_runAll_20 f_X5_23 rfl t1 ?_
        refine V_if_ne_t a_X5_runAll_23 (by omega) (by omega) ?_
        refine V_aldn1 a_X5_runAll_29 ?_
        refine V_getIE a_X5_runAll_30 f_X5_27 rfl t2 ?_
        refine V_ist5 a_X5_runAll_33 ?_
        refine V_aldn1 a_X5_runAll_35 ?_
        refine V_s1R a_X5_runAll_36 c_X5_30 rw0 ?_
        refine V_ist6 a_X5_runAll_39 ?_
        refine V_aldn0 a_X5_runAll_41 ?_
        refine V_aldn1 a_X5_runAll_42 ?_
        refine V_ild6 a_X5_runAll_43 ?_
        refine V_v2PR a_X5_runAll_45 c_X5_34 rr (fun τ3 hτ3 => ?_)
        refine V_if_ne_f a_X5_runAll_48 (by omega) (by omega) ?_
        skip
        obtain ⟨f3, tc3, p3⟩ := hτ3
        have cl3 := cl2.fm f3 (by decide)
        have fr3 := fr2.trans (frr f3)
        by_cases k1 : x.1 = 0
        · have k7 : ¬ wdB T e x.2 29 = true := fun y => kx ⟨k1, y⟩
          have eg : goA T e B p = (1, tF T e x.2, B) := by
            unfold goA
            rw [if_neg kw, hx, if_neg (fun y => y k1), if_pos k7]
          rw [if_neg (fun y => y k1)] at p3
          refine V_iconst a_X5_runAll_51 ?_
          refine V_aldn1 a_X5_runAll_52 ?_
          refine V_getIE a_X5_runAll_53 f_X5_27 rfl p3 ?_
          refine V_isub a_X5_runAll_56 ?_
          exact V_iret a_X5_runAll_57 (bad 1 (tF T e x.2) τ3 none none (by decide) eg fr3 tc3 cl3.2.2.2.1)
        · have eg : goA T e B p = (x.1, x.2, B) := by
            unfold goA
            rw [if_neg kw, hx, if_pos k1]
          rw [if_pos k1] at p3
          refine V_iconst a_X5_runAll_51 ?_
          refine V_aldn1 a_X5_runAll_52 ?_
          refine V_getIE a_X5_runAll_53 f_X5_27 rfl p3 ?_
          refine V_isub a_X5_runAll_56 ?_
          exact V_iret a_X5_runAll_57 (bad x.1 x.2 τ3 none none k1 eg fr3 tc3 cl3.2.2.2.1)
end Orf

