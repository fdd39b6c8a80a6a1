def vcA (kw : Int) : Int := if kw = 0 ∨ kw = 1 then 2 else if kw = 2 ∨ kw = 4 then 3 else if kw = 3 then 1 else 0
def gmA (kw x : Int) : Int := if kw = 0 then (if x = 0 then 30 else 100) else if kw = 1 then 9999 else if kw = 2 then 100 else if kw = 3 then 9999999 else 99999
def loA (kw x : Int) : Int := if kw = 1 ∧ x = 0 then 1 else 0
/-- the bounds of a statement's number, and its fault -/
def spT (B : St) (kw x : Int) : Int × Int × Int := if kw = 4 ∧ x < 2 then (0, (if x = 0 then B 1 else B 0) - 1, 4) else (loA kw x, gmA kw x, 2)
def spR (B : St) (kw : Int) : Nat → Int → List (Int × Int × Int)
  | 0, _ => []
  | n + 1, m => spT B kw m :: spR B kw n (m + 1)
theorem spR_L {B : St} {kw : Int} (h : 0 ≤ kw ∧ kw ≤ 4) : spL B kw = spR B kw (vcA kw).toNat 0 := by
  have c : kw = 0 ∨ kw = 1 ∨ kw = 2 ∨ kw = 3 ∨ kw = 4 := by omega
  rcases c with rfl | rfl | rfl | rfl | rfl <;> rfl
def kfA (B : St) (first : Bool) (kw : Int) : Int := if kw = -1 then 1 else if first ≠ decide (kw = 0) then 3 else if flA B kw = true then 5 else 0
section Pn
variable {T : Int → Int} {e p lo hi c : Int}
theorem nC_a (h : ¬ tkA T e (tF T e p) = 2) : nC T e p lo hi c = 1 := by
  have s : nuS T e (tF T e p) (tE T e p) = 1 := if_neg (fun z => h (tk_2.mpr z))
  unfold nC nuC
  rw [if_neg (by omega), s]
theorem nC_b (h : tkA T e (tF T e p) = 2) (h7 : 7 < tE T e p - tF T e p) : nC T e p lo hi c = 2 := by
  have s : nuS T e (tF T e p) (tE T e p) = 2 := by
    unfold nuS
    rw [if_pos (tk_2.mp h), if_pos h7]
  unfold nC nuC
  rw [if_neg (by omega), s]
theorem nC_s (h : tkA T e (tF T e p) = 2) (h7 : ¬ 7 < tE T e p - tF T e p) : nuS T e (tF T e p) (tE T e p) = 0 := by
  unfold nuS
  rw [if_pos (tk_2.mp h), if_neg h7]
theorem nC_c (h : tkA T e (tF T e p) = 2) (h7 : ¬ 7 < tE T e p - tF T e p) : nC T e p lo hi c = if lo ≤ nW T e p ∧ nW T e p ≤ hi then 0 else c := by
  unfold nC nuC
  rw [if_pos (nC_s h h7)]
  rfl
theorem nW_c (h : tkA T e (tF T e p) = 2) (h7 : ¬ 7 < tE T e p - tF T e p) : nvA T e (tF T e p) (min 7 (tE T e p - tF T e p)) = nW T e p := by
  unfold nW nuW
  rw [if_pos (nC_s h h7), show min 7 (tE T e p - tF T e p) = tE T e p - tF T e p by omega]
theorem nC_0 (h : nC T e p lo hi c = 0) : tkA T e (tF T e p) = 2 ∧ ¬ 7 < tE T e p - tF T e p := by
  by_cases a : tkA T e (tF T e p) = 2
  · refine ⟨a, fun b => ?_⟩
    rw [nC_b a b] at h
    omega
  · rw [nC_a a] at h
    omega
end Pn
section Pr
variable {σ : Hp} {T : Int → Int} {e p : Int} {B : St} {i : Nat} {D : Int}
theorem R_keywordOf (hc : TC σ T e) (h : Tok σ T e p) (hp : 0 ≤ p ∧ p ≤ e) : Rt m_X7_keywordOf 5 0 0 [vR (some (9, 0))] σ (some (vI (kwA T e p))) σ := by
  have r0 := R_CisWord (j := 0) hc h hp (by decide)
  have r1 := R_CisWord (j := 1) hc h hp (by decide)
  have r2 := R_CisWord (j := 2) hc h hp (by decide)
  have r3 := R_CisWord (j := 3) hc h hp (by decide)
  have r4 := R_CisWord (j := 4) hc h hp (by decide)
  show V _ 5 0 0 0 [some (vR (some (9, 0)))] [] σ _
  unfold kwA
  by_cases w0 : wdB T e p 0 = true
  · rw [if_pos w0]
    rw [bI_t w0] at r0
    refine V_aldn0 a_X7_keywordOf_0 ?_
    refine V_ldcS a_X7_keywordOf_1 sr_X7_68 ?_
    refine V_v1R a_X7_keywordOf_3 c_X7_70 r0 ?_
    refine V_if_eq_f a_X7_keywordOf_6 (by omega) (by omega) ?_
    refine V_iconst a_X7_keywordOf_9 ?_
    exact V_iret a_X7_keywordOf_10 (⟨rfl, rfl⟩)
  · rw [if_neg w0]
    rw [bI_f w0] at r0
    by_cases w1 : wdB T e p 1 = true
    · rw [if_pos w1]
      rw [bI_t w1] at r1
      refine V_aldn0 a_X7_keywordOf_0 ?_
      refine V_ldcS a_X7_keywordOf_1 sr_X7_68 ?_
      refine V_v1R a_X7_keywordOf_3 c_X7_70 r0 ?_
      refine V_if_eq_t a_X7_keywordOf_6 (by omega) (by omega) ?_
      refine V_aldn0 a_X7_keywordOf_11 ?_
      refine V_ldcS a_X7_keywordOf_12 sr_X7_74 ?_
      refine V_v1R a_X7_keywordOf_14 c_X7_70 r1 ?_
      refine V_if_eq_f a_X7_keywordOf_17 (by omega) (by omega) ?_
      refine V_iconst a_X7_keywordOf_20 ?_
      exact V_iret a_X7_keywordOf_21 (⟨rfl, rfl⟩)
    · rw [if_neg w1]
      rw [bI_f w1] at r1
      by_cases w2 : wdB T e p 2 = true
      · rw [if_pos w2]
        rw [bI_t w2] at r2
        refine V_aldn0 a_X7_keywordOf_0 ?_
        refine V_ldcS a_X7_keywordOf_1 sr_X7_68 ?_
        refine V_v1R a_X7_keywordOf_3 c_X7_70 r0 ?_
        refine V_if_eq_t a_X7_keywordOf_6 (by omega) (by omega) ?_
        refine V_aldn0 a_X7_keywordOf_11 ?_
        refine V_ldcS a_X7_keywordOf_12 sr_X7_74 ?_
        refine V_v1R a_X7_keywordOf_14 c_X7_70 r1 ?_
        refine V_if_eq_t a_X7_keywordOf_17 (by omega) (by omega) ?_
        refine V_aldn0 a_X7_keywordOf_22 ?_
        refine V_ldcS a_X7_keywordOf_23 sr_X7_76 ?_
        refine V_v1R a_X7_keywordOf_25 c_X7_70 r2 ?_
        refine V_if_eq_f a_X7_keywordOf_28 (by omega) (by omega) ?_
        refine V_iconst a_X7_keywordOf_31 ?_
        exact V_iret a_X7_keywordOf_32 (⟨rfl, rfl⟩)
      · rw [if_neg w2]
        rw [bI_f w2] at r2
        by_cases w3 : wdB T e p 3 = true
        · rw [if_pos w3]
          rw [bI_t w3] at r3
          refine V_aldn0 a_X7_keywordOf_0 ?_
          refine V_ldcS a_X7_keywordOf_1 sr_X7_68 ?_
          refine V_v1R a_X7_keywordOf_3 c_X7_70 r0 ?_
          refine V_if_eq_t a_X7_keywordOf_6 (by omega) (by omega) ?_
          refine V_aldn0 a_X7_keywordOf_11 ?_
          refine V_ldcS a_X7_keywordOf_12 sr_X7_74 ?_
          refine V_v1R a_X7_keywordOf_14 c_X7_70 r1 ?_
          refine V_if_eq_t a_X7_keywordOf_17 (by omega) (by omega) ?_
          refine V_aldn0 a_X7_keywordOf_22 ?_
          refine V_ldcS a_X7_keywordOf_23 sr_X7_76 ?_
          refine V_v1R a_X7_keywordOf_25 c_X7_70 r2 ?_
          refine V_if_eq_t a_X7_keywordOf_28 (by omega) (by omega) ?_
          refine V_aldn0 a_X7_keywordOf_33 ?_
          refine V_ldcS a_X7_keywordOf_34 sr_X7_78 ?_
          refine V_v1R a_X7_keywordOf_36 c_X7_70 r3 ?_
          refine V_if_eq_f a_X7_keywordOf_39 (by omega) (by omega) ?_
          refine V_iconst a_X7_keywordOf_42 ?_
          exact V_iret a_X7_keywordOf_43 (⟨rfl, rfl⟩)
        · rw [if_neg w3]
          rw [bI_f w3] at r3
          by_cases w4 : wdB T e p 4 = true
          · rw [if_pos w4]
            rw [bI_t w4] at r4
            refine V_aldn0 a_X7_keywordOf_0 ?_
            refine V_ldcS a_X7_keywordOf_1 sr_X7_68 ?_
            refine V_v1R a_X7_keywordOf_3 c_X7_70 r0 ?_
            refine V_if_eq_t a_X7_keywordOf_6 (by omega) (by omega) ?_
            refine V_aldn0 a_X7_keywordOf_11 ?_
            refine V_ldcS a_X7_keywordOf_12 sr_X7_74 ?_
            refine V_v1R a_X7_keywordOf_14 c_X7_70 r1 ?_
            refine V_if_eq_t a_X7_keywordOf_17 (by omega) (by omega) ?_
            refine V_aldn0 a_X7_keywordOf_22 ?_
            refine V_ldcS a_X7_keywordOf_23 sr_X7_76 ?_
            refine V_v1R a_X7_keywordOf_25 c_X7_70 r2 ?_
            refine V_if_eq_t a_X7_keywordOf_28 (by omega) (by omega) ?_
            refine V_aldn0 a_X7_keywordOf_33 ?_
            refine V_ldcS a_X7_keywordOf_34 sr_X7_78 ?_
            refine V_v1R a_X7_keywordOf_36 c_X7_70 r3 ?_
            refine V_if_eq_t a_X7_keywordOf_39 (by omega) (by omega) ?_
            refine V_aldn0 a_X7_keywordOf_44 ?_
            refine V_ldcS a_X7_keywordOf_45 sr_X7_80 ?_
            refine V_v1R a_X7_keywordOf_47 c_X7_70 r4 ?_
            refine V_if_eq_f a_X7_keywordOf_50 (by omega) (by omega) ?_
            refine V_iconst a_X7_keywordOf_53 ?_
            refine V_goto a_X7_keywordOf_54 ?_
            exact V_iret a_X7_keywordOf_58 (⟨rfl, rfl⟩)
          · rw [if_neg w4]
            rw [bI_f w4] at r4
            refine V_aldn0 a_X7_keywordOf_0 ?_
            refine V_ldcS a_X7_keywordOf_1 sr_X7_68 ?_
            refine V_v1R a_X7_keywordOf_3 c_X7_70 r0 ?_
            refine V_if_eq_t a_X7_keywordOf_6 (by omega) (by omega) ?_
            refine V_aldn0 a_X7_keywordOf_11 ?_
            refine V_ldcS a_X7_keywordOf_12 sr_X7_74 ?_
            refine V_v1R a_X7_keywordOf_14 c_X7_70 r1 ?_
            refine V_if_eq_t a_X7_keywordOf_17 (by omega) (by omega) ?_
            refine V_aldn0 a_X7_keywordOf_22 ?_
            refine V_ldcS a_X7_keywordOf_23 sr_X7_76 ?_
            refine V_v1R a_X7_keywordOf_25 c_X7_70 r2 ?_
            refine V_if_eq_t a_X7_keywordOf_28 (by omega) (by omega) ?_
            refine V_aldn0 a_X7_keywordOf_33 ?_
            refine V_ldcS a_X7_keywordOf_34 sr_X7_78 ?_
            refine V_v1R a_X7_keywordOf_36 c_X7_70 r3 ?_
            refine V_if_eq_t a_X7_keywordOf_39 (by omega) (by omega) ?_
            refine V_aldn0 a_X7_keywordOf_44 ?_
            refine V_ldcS a_X7_keywordOf_45 sr_X7_80 ?_
            refine V_v1R a_X7_keywordOf_47 c_X7_70 r4 ?_
            refine V_if_eq_t a_X7_keywordOf_50 (by omega) (by omega) ?_
            refine V_iconst a_X7_keywordOf_57 ?_
            exact V_iret a_X7_keywordOf_58 (⟨rfl, rfl⟩)
theorem R_valueCount {kw : Int} (hk : -1 ≤ kw ∧ kw ≤ 4) : Rt m_X7_valueCount 0 0 0 [vI kw] σ (some (vI (vcA kw))) σ := by
  have c : kw = -1 ∨ kw = 0 ∨ kw = 1 ∨ kw = 2 ∨ kw = 3 ∨ kw = 4 := by omega
  rcases c with rfl | rfl | rfl | rfl | rfl | rfl
  · show V _ 0 0 0 0 [some (vI (-1))] [] σ _
    refine V_ildn0 a_X7_valueCount_0 ?_
    refine V_table_out a_X7_valueCount_1 (tgt := 42) rfl (by omega) (by omega) ?_
    refine V_iconst a_X7_valueCount_42 ?_
    exact V_iret a_X7_valueCount_43 (⟨rfl, rfl⟩)
  · show V _ 0 0 0 0 [some (vI 0)] [] σ _
    refine V_ildn0 a_X7_valueCount_0 ?_
    refine V_table_in a_X7_valueCount_1 (off := 35) rfl rfl (by omega) (by omega) ?_
    refine V_iconst a_X7_valueCount_36 ?_
    exact V_iret a_X7_valueCount_37 (⟨rfl, rfl⟩)
  · show V _ 0 0 0 0 [some (vI 1)] [] σ _
    refine V_ildn0 a_X7_valueCount_0 ?_
    refine V_table_in a_X7_valueCount_1 (off := 35) rfl rfl (by omega) (by omega) ?_
    refine V_iconst a_X7_valueCount_36 ?_
    exact V_iret a_X7_valueCount_37 (⟨rfl, rfl⟩)
  · show V _ 0 0 0 0 [some (vI 2)] [] σ _
    refine V_ildn0 a_X7_valueCount_0 ?_
    refine V_table_in a_X7_valueCount_1 (off := 37) rfl rfl (by omega) (by omega) ?_
    refine V_iconst a_X7_valueCount_38 ?_
    exact V_iret a_X7_valueCount_39 (⟨rfl, rfl⟩)
  · show V _ 0 0 0 0 [some (vI 3)] [] σ _
    refine V_ildn0 a_X7_valueCount_0 ?_
    refine V_table_in a_X7_valueCount_1 (off := 39) rfl rfl (by omega) (by omega) ?_
    refine V_iconst a_X7_valueCount_40 ?_
    exact V_iret a_X7_valueCount_41 (⟨rfl, rfl⟩)
  · show V _ 0 0 0 0 [some (vI 4)] [] σ _
    refine V_ildn0 a_X7_valueCount_0 ?_
    refine V_table_in a_X7_valueCount_1 (off := 37) rfl rfl (by omega) (by omega) ?_
    refine V_iconst a_X7_valueCount_38 ?_
    exact V_iret a_X7_valueCount_39 (⟨rfl, rfl⟩)
theorem R_isFull {kw : Int} (h : Cl D σ i B) (hk : 0 ≤ kw ∧ kw ≤ 4) : Rt m_X7_isFull 0 0 0 [vR (some (6, i)), vI kw] σ (some (vI (bI (flA B kw = true)))) σ := by
  obtain ⟨hD, hW, hR, hS, hI⟩ := h
  have hn := hI.n
  obtain ⟨n0, n1, n2, n3, n4, n5, n6, n7, n8⟩ := hR.1
  have c : kw = 0 ∨ kw = 1 ∨ kw = 2 ∨ kw = 3 ∨ kw = 4 := by omega
  rcases c with rfl | rfl | rfl | rfl | rfl
  · rw [bI_f (fun z => by have := of_decide_eq_true z; omega)]
    show V _ 0 0 0 0 [some (vR (some (6, i))), some (vI 0)] [] σ _
    refine V_ildn1 a_X7_isFull_0 ?_
    refine V_table_out a_X7_isFull_1 (tgt := 77) rfl (by omega) (by omega) ?_
    refine V_iconst a_X7_isFull_77 ?_
    exact V_zret a_X7_isFull_78 (by omega) (⟨rfl, rfl⟩)
  · show V _ 0 0 0 0 [some (vR (some (6, i))), some (vI 1)] [] σ _
    by_cases z : B 0 = 4
    · rw [bI_t (show flA B 1 = true from decide_eq_true (by omega))]
      refine V_ildn1 a_X7_isFull_0 ?_
      refine V_table_in a_X7_isFull_1 (off := 27) rfl rfl (by omega) (by omega) ?_
      refine V_aldn0 a_X7_isFull_28 ?_
      refine V_fin a_X7_isFull_29 f_X7_86 rfl hW ?_
      refine V_iconst a_X7_isFull_32 ?_
      refine V_ialdE a_X7_isFull_33 rfl (by omega) n0 ?_
      refine V_iconst a_X7_isFull_34 ?_
      refine V_icmp_lt_f a_X7_isFull_35 (by omega) (by omega) ?_
      refine V_iconst a_X7_isFull_38 ?_
      refine V_goto a_X7_isFull_39 ?_
      exact V_zret a_X7_isFull_43 (by omega) (⟨rfl, rfl⟩)
    · rw [bI_f (fun z => by have := of_decide_eq_true z; omega)]
      refine V_ildn1 a_X7_isFull_0 ?_
      refine V_table_in a_X7_isFull_1 (off := 27) rfl rfl (by omega) (by omega) ?_
      refine V_aldn0 a_X7_isFull_28 ?_
      refine V_fin a_X7_isFull_29 f_X7_86 rfl hW ?_
      refine V_iconst a_X7_isFull_32 ?_
      refine V_ialdE a_X7_isFull_33 rfl (by omega) n0 ?_
      refine V_iconst a_X7_isFull_34 ?_
      refine V_icmp_lt_t a_X7_isFull_35 (by omega) (by omega) ?_
      refine V_iconst a_X7_isFull_42 ?_
      exact V_zret a_X7_isFull_43 (by omega) (⟨rfl, rfl⟩)
  · show V _ 0 0 0 0 [some (vR (some (6, i))), some (vI 2)] [] σ _
    by_cases z : B 1 = 6
    · rw [bI_t (show flA B 2 = true from decide_eq_true (by omega))]
      refine V_ildn1 a_X7_isFull_0 ?_
      refine V_table_in a_X7_isFull_1 (off := 43) rfl rfl (by omega) (by omega) ?_
      refine V_aldn0 a_X7_isFull_44 ?_
      refine V_fin a_X7_isFull_45 f_X7_86 rfl hW ?_
      refine V_iconst a_X7_isFull_48 ?_
      refine V_ialdE a_X7_isFull_49 rfl (by omega) n1 ?_
      refine V_bipush a_X7_isFull_50 (by decide) ?_
      refine V_icmp_lt_f a_X7_isFull_52 (by omega) (by omega) ?_
      refine V_iconst a_X7_isFull_55 ?_
      refine V_goto a_X7_isFull_56 ?_
      exact V_zret a_X7_isFull_60 (by omega) (⟨rfl, rfl⟩)
    · rw [bI_f (fun z => by have := of_decide_eq_true z; omega)]
      refine V_ildn1 a_X7_isFull_0 ?_
      refine V_table_in a_X7_isFull_1 (off := 43) rfl rfl (by omega) (by omega) ?_
      refine V_aldn0 a_X7_isFull_44 ?_
      refine V_fin a_X7_isFull_45 f_X7_86 rfl hW ?_
      refine V_iconst a_X7_isFull_48 ?_
      refine V_ialdE a_X7_isFull_49 rfl (by omega) n1 ?_
      refine V_bipush a_X7_isFull_50 (by decide) ?_
      refine V_icmp_lt_t a_X7_isFull_52 (by omega) (by omega) ?_
      refine V_iconst a_X7_isFull_59 ?_
      exact V_zret a_X7_isFull_60 (by omega) (⟨rfl, rfl⟩)
  · show V _ 0 0 0 0 [some (vR (some (6, i))), some (vI 3)] [] σ _
    by_cases z : B 2 = 4
    · rw [bI_t (show flA B 3 = true from decide_eq_true (by omega))]
      refine V_ildn1 a_X7_isFull_0 ?_
      refine V_table_in a_X7_isFull_1 (off := 60) rfl rfl (by omega) (by omega) ?_
      refine V_aldn0 a_X7_isFull_61 ?_
      refine V_fin a_X7_isFull_62 f_X7_86 rfl hW ?_
      refine V_iconst a_X7_isFull_65 ?_
      refine V_ialdE a_X7_isFull_66 rfl (by omega) n2 ?_
      refine V_iconst a_X7_isFull_67 ?_
      refine V_icmp_lt_f a_X7_isFull_68 (by omega) (by omega) ?_
      refine V_iconst a_X7_isFull_71 ?_
      refine V_goto a_X7_isFull_72 ?_
      exact V_zret a_X7_isFull_76 (by omega) (⟨rfl, rfl⟩)
    · rw [bI_f (fun z => by have := of_decide_eq_true z; omega)]
      refine V_ildn1 a_X7_isFull_0 ?_
      refine V_table_in a_X7_isFull_1 (off := 60) rfl rfl (by omega) (by omega) ?_
      refine V_aldn0 a_X7_isFull_61 ?_
      refine V_fin a_X7_isFull_62 f_X7_86 rfl hW ?_
      refine V_iconst a_X7_isFull_65 ?_
      refine V_ialdE a_X7_isFull_66 rfl (by omega) n2 ?_
      refine V_iconst a_X7_isFull_67 ?_
      refine V_icmp_lt_t a_X7_isFull_68 (by omega) (by omega) ?_
      refine V_iconst a_X7_isFull_75 ?_
      exact V_zret a_X7_isFull_76 (by omega) (⟨rfl, rfl⟩)
  · rw [bI_f (fun z => by have := of_decide_eq_true z; omega)]
    show V _ 0 0 0 0 [some (vR (some (6, i))), some (vI 4)] [] σ _
    refine V_ildn1 a_X7_isFull_0 ?_
    refine V_table_out a_X7_isFull_1 (tgt := 77) rfl (by omega) (by omega) ?_
    refine V_iconst a_X7_isFull_77 ?_
    exact V_zret a_X7_isFull_78 (by omega) (⟨rfl, rfl⟩)
theorem R_keywordFault {first : Bool} {kw : Int} (h : Cl D σ i B) (hk : -1 ≤ kw ∧ kw ≤ 4) : Rt m_X7_keywordFault 1 0 0 [vR (some (6, i)), vI kw, vI (bI (first = true))] σ (some (vI (kfA B first kw))) σ := by
  show V _ 1 0 0 0 [some (vR (some (6, i))), some (vI kw), some (vI (bI (first = true)))] [] σ _
  unfold kfA
  by_cases k1 : kw = -1
  · rw [if_pos k1]
    have := bI_01 (first = true)
    refine V_ildn1 a_X7_keywordFault_0 ?_
    refine V_iconst a_X7_keywordFault_1 ?_
    refine V_icmp_ne_f a_X7_keywordFault_2 (by omega) (by omega) ?_
    refine V_iconst a_X7_keywordFault_5 ?_
    exact V_iret a_X7_keywordFault_6 (⟨rfl, rfl⟩)
  · rw [if_neg k1]
    have rf := R_isFull (kw := kw) h (by omega)
    by_cases k0 : kw = 0
    · have d : decide (kw = 0) = true := decide_eq_true k0
      rw [d]
      cases first with
      | false =>
        rw [if_pos (by decide), bI_f (by decide)]
        refine V_ildn1 a_X7_keywordFault_0 ?_
        refine V_iconst a_X7_keywordFault_1 ?_
        refine V_icmp_ne_t a_X7_keywordFault_2 (by omega) (by omega) ?_
        refine V_ildn2 a_X7_keywordFault_7 ?_
        refine V_ildn1 a_X7_keywordFault_8 ?_
        refine V_if_ne_f a_X7_keywordFault_9 (by omega) (by omega) ?_
        refine V_iconst a_X7_keywordFault_12 ?_
        refine V_goto a_X7_keywordFault_13 ?_
        refine V_icmp_eq_f a_X7_keywordFault_17 (by omega) (by omega) ?_
        refine V_iconst a_X7_keywordFault_20 ?_
        exact V_iret a_X7_keywordFault_21 (⟨rfl, rfl⟩)
      | true =>
        rw [if_neg (by decide), bI_t rfl]
        by_cases kf : flA B kw = true
        · rw [if_pos kf]
          rw [bI_t kf] at rf
          refine V_ildn1 a_X7_keywordFault_0 ?_
          refine V_iconst a_X7_keywordFault_1 ?_
          refine V_icmp_ne_t a_X7_keywordFault_2 (by omega) (by omega) ?_
          refine V_ildn2 a_X7_keywordFault_7 ?_
          refine V_ildn1 a_X7_keywordFault_8 ?_
          refine V_if_ne_f a_X7_keywordFault_9 (by omega) (by omega) ?_
          refine V_iconst a_X7_keywordFault_12 ?_
          refine V_goto a_X7_keywordFault_13 ?_
          refine V_icmp_eq_t a_X7_keywordFault_17 (by omega) (by omega) ?_
          refine V_aldn0 a_X7_keywordFault_22 ?_
          refine V_ildn1 a_X7_keywordFault_23 ?_
          refine V_s2R a_X7_keywordFault_24 c_X7_82 rf ?_
          refine V_if_eq_f a_X7_keywordFault_27 (by omega) (by omega) ?_
          refine V_iconst a_X7_keywordFault_30 ?_
          refine V_goto a_X7_keywordFault_31 ?_
          exact V_iret a_X7_keywordFault_35 (⟨rfl, rfl⟩)
        · rw [if_neg kf]
          rw [bI_f kf] at rf
          refine V_ildn1 a_X7_keywordFault_0 ?_
          refine V_iconst a_X7_keywordFault_1 ?_
          refine V_icmp_ne_t a_X7_keywordFault_2 (by omega) (by omega) ?_
          refine V_ildn2 a_X7_keywordFault_7 ?_
          refine V_ildn1 a_X7_keywordFault_8 ?_
          refine V_if_ne_f a_X7_keywordFault_9 (by omega) (by omega) ?_
          refine V_iconst a_X7_keywordFault_12 ?_
          refine V_goto a_X7_keywordFault_13 ?_
          refine V_icmp_eq_t a_X7_keywordFault_17 (by omega) (by omega) ?_
          refine V_aldn0 a_X7_keywordFault_22 ?_
          refine V_ildn1 a_X7_keywordFault_23 ?_
          refine V_s2R a_X7_keywordFault_24 c_X7_82 rf ?_
          refine V_if_eq_t a_X7_keywordFault_27 (by omega) (by omega) ?_
          refine V_iconst a_X7_keywordFault_34 ?_
          exact V_iret a_X7_keywordFault_35 (⟨rfl, rfl⟩)
    · have d : decide (kw = 0) = false := decide_eq_false k0
      rw [d]
      cases first with
      | false =>
        rw [if_neg (by decide), bI_f (by decide)]
        by_cases kf : flA B kw = true
        · rw [if_pos kf]
          rw [bI_t kf] at rf
          refine V_ildn1 a_X7_keywordFault_0 ?_
          refine V_iconst a_X7_keywordFault_1 ?_
          refine V_icmp_ne_t a_X7_keywordFault_2 (by omega) (by omega) ?_
          refine V_ildn2 a_X7_keywordFault_7 ?_
          refine V_ildn1 a_X7_keywordFault_8 ?_
          refine V_if_ne_t a_X7_keywordFault_9 (by omega) (by omega) ?_
          refine V_iconst a_X7_keywordFault_16 ?_
          refine V_icmp_eq_t a_X7_keywordFault_17 (by omega) (by omega) ?_
          refine V_aldn0 a_X7_keywordFault_22 ?_
          refine V_ildn1 a_X7_keywordFault_23 ?_
          refine V_s2R a_X7_keywordFault_24 c_X7_82 rf ?_
          refine V_if_eq_f a_X7_keywordFault_27 (by omega) (by omega) ?_
          refine V_iconst a_X7_keywordFault_30 ?_
          refine V_goto a_X7_keywordFault_31 ?_
          exact V_iret a_X7_keywordFault_35 (⟨rfl, rfl⟩)
        · rw [if_neg kf]
          rw [bI_f kf] at rf
          refine V_ildn1 a_X7_keywordFault_0 ?_
          refine V_iconst a_X7_keywordFault_1 ?_
          refine V_icmp_ne_t a_X7_keywordFault_2 (by omega) (by omega) ?_
          refine V_ildn2 a_X7_keywordFault_7 ?_
          refine V_ildn1 a_X7_keywordFault_8 ?_
          refine V_if_ne_t a_X7_keywordFault_9 (by omega) (by omega) ?_
          refine V_iconst a_X7_keywordFault_16 ?_
          refine V_icmp_eq_t a_X7_keywordFault_17 (by omega) (by omega) ?_
          refine V_aldn0 a_X7_keywordFault_22 ?_
          refine V_ildn1 a_X7_keywordFault_23 ?_
          refine V_s2R a_X7_keywordFault_24 c_X7_82 rf ?_
          refine V_if_eq_t a_X7_keywordFault_27 (by omega) (by omega) ?_
          refine V_iconst a_X7_keywordFault_34 ?_
          exact V_iret a_X7_keywordFault_35 (⟨rfl, rfl⟩)
      | true =>
        rw [if_pos (by decide), bI_t rfl]
        refine V_ildn1 a_X7_keywordFault_0 ?_
        refine V_iconst a_X7_keywordFault_1 ?_
        refine V_icmp_ne_t a_X7_keywordFault_2 (by omega) (by omega) ?_
        refine V_ildn2 a_X7_keywordFault_7 ?_
        refine V_ildn1 a_X7_keywordFault_8 ?_
        refine V_if_ne_t a_X7_keywordFault_9 (by omega) (by omega) ?_
        refine V_iconst a_X7_keywordFault_16 ?_
        refine V_icmp_eq_f a_X7_keywordFault_17 (by omega) (by omega) ?_
        refine V_iconst a_X7_keywordFault_20 ?_
        exact V_iret a_X7_keywordFault_21 (⟨rfl, rfl⟩)
theorem R_greatestValue {kw x : Int} (hk : 0 ≤ kw ∧ kw ≤ 4) (hx : 0 ≤ x ∧ x < 3) : Rt m_X7_greatestValue 0 0 0 [vI kw, vI x] σ (some (vI (gmA kw x))) σ := by
  have c : kw = 0 ∨ kw = 1 ∨ kw = 2 ∨ kw = 3 ∨ kw = 4 := by omega
  rcases c with rfl | rfl | rfl | rfl | rfl
  · show V _ 0 0 0 0 [some (vI 0), some (vI x)] [] σ _
    by_cases z : x = 0
    · have e : gmA 0 x = 30 := by
        unfold gmA
        rw [if_pos rfl, if_pos z]
      rw [e]
      refine V_ildn0 a_X7_greatestValue_0 ?_
      refine V_table_in a_X7_greatestValue_1 (off := 31) rfl rfl (by omega) (by omega) ?_
      refine V_ildn1 a_X7_greatestValue_32 ?_
      refine V_if_ne_f a_X7_greatestValue_33 (by omega) (by omega) ?_
      refine V_bipush a_X7_greatestValue_36 (by decide) ?_
      refine V_goto a_X7_greatestValue_38 ?_
      exact V_iret a_X7_greatestValue_43 (⟨rfl, rfl⟩)
    · have e : gmA 0 x = 100 := by
        unfold gmA
        rw [if_pos rfl, if_neg z]
      rw [e]
      refine V_ildn0 a_X7_greatestValue_0 ?_
      refine V_table_in a_X7_greatestValue_1 (off := 31) rfl rfl (by omega) (by omega) ?_
      refine V_ildn1 a_X7_greatestValue_32 ?_
      refine V_if_ne_t a_X7_greatestValue_33 (by omega) (by omega) ?_
      refine V_bipush a_X7_greatestValue_41 (by decide) ?_
      exact V_iret a_X7_greatestValue_43 (⟨rfl, rfl⟩)
  · show V _ 0 0 0 0 [some (vI 1), some (vI x)] [] σ _
    by_cases z : x = 0
    · refine V_ildn0 a_X7_greatestValue_0 ?_
      refine V_table_in a_X7_greatestValue_1 (off := 43) rfl rfl (by omega) (by omega) ?_
      refine V_ildn1 a_X7_greatestValue_44 ?_
      refine V_if_ne_f a_X7_greatestValue_45 (by omega) (by omega) ?_
      refine V_sipush a_X7_greatestValue_48 (by decide) ?_
      refine V_goto a_X7_greatestValue_51 ?_
      exact V_iret a_X7_greatestValue_57 (⟨rfl, rfl⟩)
    · refine V_ildn0 a_X7_greatestValue_0 ?_
      refine V_table_in a_X7_greatestValue_1 (off := 43) rfl rfl (by omega) (by omega) ?_
      refine V_ildn1 a_X7_greatestValue_44 ?_
      refine V_if_ne_t a_X7_greatestValue_45 (by omega) (by omega) ?_
      refine V_sipush a_X7_greatestValue_54 (by decide) ?_
      exact V_iret a_X7_greatestValue_57 (⟨rfl, rfl⟩)
  · show V _ 0 0 0 0 [some (vI 2), some (vI x)] [] σ _
    refine V_ildn0 a_X7_greatestValue_0 ?_
    refine V_table_in a_X7_greatestValue_1 (off := 57) rfl rfl (by omega) (by omega) ?_
    refine V_bipush a_X7_greatestValue_58 (by decide) ?_
    exact V_iret a_X7_greatestValue_60 (⟨rfl, rfl⟩)
  · show V _ 0 0 0 0 [some (vI 3), some (vI x)] [] σ _
    refine V_ildn0 a_X7_greatestValue_0 ?_
    refine V_table_in a_X7_greatestValue_1 (off := 60) rfl rfl (by omega) (by omega) ?_
    refine V_ldc a_X7_greatestValue_61 q_X7_108 ?_
    exact V_iret a_X7_greatestValue_63 (⟨rfl, rfl⟩)
  · show V _ 0 0 0 0 [some (vI 4), some (vI x)] [] σ _
    refine V_ildn0 a_X7_greatestValue_0 ?_
    refine V_table_out a_X7_greatestValue_1 (tgt := 64) rfl (by omega) (by omega) ?_
    refine V_ldc a_X7_greatestValue_64 q_X7_109 ?_
    exact V_iret a_X7_greatestValue_66 (⟨rfl, rfl⟩)
theorem gm_bd {kw x : Int} : 30 ≤ gmA kw x ∧ gmA kw x ≤ 9999999 := by
  unfold gmA
  split
  · split <;> omega
  · split
    · omega
    · split
      · omega
      · split <;> omega
theorem R_valueFault {kw x : Int} (h : Cl D σ i B) (hc : TC σ T e) (ht : Tok σ T e p) (hp : 0 ≤ p ∧ p ≤ e) (hk : 0 ≤ kw ∧ kw ≤ 4) (hx : 0 ≤ x ∧ x < 3) : Rt m_X7_valueFault 2 0 0 [vR (some (9, 0)), vR (some (6, i)), vI kw, vI x] σ (some (vI (nC T e p (spT B kw x).1 (spT B kw x).2.1 (spT B kw x).2.2))) σ := by
  have ht' := ht
  obtain ⟨g0, g1, g2, g4, g3⟩ := ht
  have he := hc.2.2.2
  have hn := h.2.2.2.2.n
  have hk4 := tk_bd (T := T) (e := e) (f := tF T e p)
  have rl := R_isLongNumber ht' hp (by omega)
  show V _ 2 0 0 0 [some (vR (some (9, 0))), some (vR (some (6, i))), some (vI kw), some (vI x), none] [] σ _
  by_cases a : tkA T e (tF T e p) = 2
  · have g3 := g3 a
    by_cases b : 7 < tE T e p - tF T e p
    · rw [nC_b a b]
      rw [bI_t ⟨a, b⟩] at rl
      refine V_aldn0 a_X7_valueFault_0 ?_
      refine V_getIE a_X7_valueFault_1 f_X7_35 rfl g1 ?_
      refine V_iconst a_X7_valueFault_4 ?_
      refine V_icmp_eq_t a_X7_valueFault_5 (by omega) (by omega) ?_
      refine V_aldn0 a_X7_valueFault_10 ?_
      refine V_v0R a_X7_valueFault_11 c_X7_89 rl ?_
      refine V_if_eq_f a_X7_valueFault_14 (by omega) (by omega) ?_
      refine V_iconst a_X7_valueFault_17 ?_
      exact V_iret a_X7_valueFault_18 (⟨rfl, rfl⟩)
    · rw [nC_c a b]
      rw [bI_f (fun z => b z.2)] at rl
      rw [nW_c a b] at g3
      have hw := nW_bd (T := T) (e := e) (p := p) hp.2
      by_cases k4 : kw = 4
      · by_cases x2 : x < 2
        · by_cases x0 : x = 0
          · have es : spT B kw x = (0, B 1 - 1, 4) := by
              unfold spT
              rw [if_pos ⟨k4, x2⟩, if_pos x0]
            rw [es]
            show V _ _ _ _ _ _ _ _ (fun r τ => r = .inl (some (vI (if (0 : Int) ≤ nW T e p ∧ nW T e p ≤ B 1 - 1 then 0 else 4))) ∧ τ = σ)
            have rh := R_hasLender (s := nW T e p) h (by unfold iR; omega)
            by_cases z : 0 ≤ nW T e p ∧ nW T e p < B 1
            · rw [bI_t z] at rh
              rw [if_pos (show (0 : Int) ≤ nW T e p ∧ nW T e p ≤ B 1 - 1 by omega)]
              refine V_aldn0 a_X7_valueFault_0 ?_
              refine V_getIE a_X7_valueFault_1 f_X7_35 rfl g1 ?_
              refine V_iconst a_X7_valueFault_4 ?_
              refine V_icmp_eq_t a_X7_valueFault_5 (by omega) (by omega) ?_
              refine V_aldn0 a_X7_valueFault_10 ?_
              refine V_v0R a_X7_valueFault_11 c_X7_89 rl ?_
              refine V_if_eq_t a_X7_valueFault_14 (by omega) (by omega) ?_
              refine V_ildn2 a_X7_valueFault_19 ?_
              refine V_iconst a_X7_valueFault_20 ?_
              refine V_icmp_ne_f a_X7_valueFault_21 (by omega) (by omega) ?_
              refine V_ildn3 a_X7_valueFault_24 ?_
              refine V_iconst a_X7_valueFault_25 ?_
              refine V_icmp_ge_f a_X7_valueFault_26 (by omega) (by omega) ?_
              refine V_ildn3 a_X7_valueFault_29 ?_
              refine V_if_ne_f a_X7_valueFault_30 (by omega) (by omega) ?_
              refine V_aldn1 a_X7_valueFault_33 ?_
              refine V_aldn0 a_X7_valueFault_34 ?_
              refine V_getIE a_X7_valueFault_35 f_X7_61 rfl g3 ?_
              refine V_v1R a_X7_valueFault_38 c_X7_93 rh ?_
              refine V_goto a_X7_valueFault_41 ?_
              refine V_ist4 a_X7_valueFault_52 ?_
              refine V_ild4 a_X7_valueFault_54 ?_
              refine V_if_eq_f a_X7_valueFault_56 (by omega) (by omega) ?_
              refine V_iconst a_X7_valueFault_59 ?_
              refine V_goto a_X7_valueFault_60 ?_
              exact V_iret a_X7_valueFault_64 (⟨rfl, rfl⟩)
            · rw [bI_f z] at rh
              rw [if_neg (show ¬ ((0 : Int) ≤ nW T e p ∧ nW T e p ≤ B 1 - 1) by omega)]
              refine V_aldn0 a_X7_valueFault_0 ?_
              refine V_getIE a_X7_valueFault_1 f_X7_35 rfl g1 ?_
              refine V_iconst a_X7_valueFault_4 ?_
              refine V_icmp_eq_t a_X7_valueFault_5 (by omega) (by omega) ?_
              refine V_aldn0 a_X7_valueFault_10 ?_
              refine V_v0R a_X7_valueFault_11 c_X7_89 rl ?_
              refine V_if_eq_t a_X7_valueFault_14 (by omega) (by omega) ?_
              refine V_ildn2 a_X7_valueFault_19 ?_
              refine V_iconst a_X7_valueFault_20 ?_
              refine V_icmp_ne_f a_X7_valueFault_21 (by omega) (by omega) ?_
              refine V_ildn3 a_X7_valueFault_24 ?_
              refine V_iconst a_X7_valueFault_25 ?_
              refine V_icmp_ge_f a_X7_valueFault_26 (by omega) (by omega) ?_
              refine V_ildn3 a_X7_valueFault_29 ?_
              refine V_if_ne_f a_X7_valueFault_30 (by omega) (by omega) ?_
              refine V_aldn1 a_X7_valueFault_33 ?_
              refine V_aldn0 a_X7_valueFault_34 ?_
              refine V_getIE a_X7_valueFault_35 f_X7_61 rfl g3 ?_
              refine V_v1R a_X7_valueFault_38 c_X7_93 rh ?_
              refine V_goto a_X7_valueFault_41 ?_
              refine V_ist4 a_X7_valueFault_52 ?_
              refine V_ild4 a_X7_valueFault_54 ?_
              refine V_if_eq_t a_X7_valueFault_56 (by omega) (by omega) ?_
              refine V_iconst a_X7_valueFault_63 ?_
              exact V_iret a_X7_valueFault_64 (⟨rfl, rfl⟩)
          · have es : spT B kw x = (0, B 0 - 1, 4) := by
              unfold spT
              rw [if_pos ⟨k4, x2⟩, if_neg x0]
            rw [es]
            show V _ _ _ _ _ _ _ _ (fun r τ => r = .inl (some (vI (if (0 : Int) ≤ nW T e p ∧ nW T e p ≤ B 0 - 1 then 0 else 4))) ∧ τ = σ)
            have rh := R_hasSecurity (s := nW T e p) h (by unfold iR; omega)
            by_cases z : 0 ≤ nW T e p ∧ nW T e p < B 0
            · rw [bI_t z] at rh
              rw [if_pos (show (0 : Int) ≤ nW T e p ∧ nW T e p ≤ B 0 - 1 by omega)]
              refine V_aldn0 a_X7_valueFault_0 ?_
              refine V_getIE a_X7_valueFault_1 f_X7_35 rfl g1 ?_
              refine V_iconst a_X7_valueFault_4 ?_
              refine V_icmp_eq_t a_X7_valueFault_5 (by omega) (by omega) ?_
              refine V_aldn0 a_X7_valueFault_10 ?_
              refine V_v0R a_X7_valueFault_11 c_X7_89 rl ?_
              refine V_if_eq_t a_X7_valueFault_14 (by omega) (by omega) ?_
              refine V_ildn2 a_X7_valueFault_19 ?_
              refine V_iconst a_X7_valueFault_20 ?_
              refine V_icmp_ne_f a_X7_valueFault_21 (by omega) (by omega) ?_
              refine V_ildn3 a_X7_valueFault_24 ?_
              refine V_iconst a_X7_valueFault_25 ?_
              refine V_icmp_ge_f a_X7_valueFault_26 (by omega) (by omega) ?_
              refine V_ildn3 a_X7_valueFault_29 ?_
              refine V_if_ne_t a_X7_valueFault_30 (by omega) (by omega) ?_
              refine V_aldn1 a_X7_valueFault_44 ?_
              refine V_aldn0 a_X7_valueFault_45 ?_
              refine V_getIE a_X7_valueFault_46 f_X7_61 rfl g3 ?_
              refine V_v1R a_X7_valueFault_49 c_X7_97 rh ?_
              refine V_ist4 a_X7_valueFault_52 ?_
              refine V_ild4 a_X7_valueFault_54 ?_
              refine V_if_eq_f a_X7_valueFault_56 (by omega) (by omega) ?_
              refine V_iconst a_X7_valueFault_59 ?_
              refine V_goto a_X7_valueFault_60 ?_
              exact V_iret a_X7_valueFault_64 (⟨rfl, rfl⟩)
            · rw [bI_f z] at rh
              rw [if_neg (show ¬ ((0 : Int) ≤ nW T e p ∧ nW T e p ≤ B 0 - 1) by omega)]
              refine V_aldn0 a_X7_valueFault_0 ?_
              refine V_getIE a_X7_valueFault_1 f_X7_35 rfl g1 ?_
              refine V_iconst a_X7_valueFault_4 ?_
              refine V_icmp_eq_t a_X7_valueFault_5 (by omega) (by omega) ?_
              refine V_aldn0 a_X7_valueFault_10 ?_
              refine V_v0R a_X7_valueFault_11 c_X7_89 rl ?_
              refine V_if_eq_t a_X7_valueFault_14 (by omega) (by omega) ?_
              refine V_ildn2 a_X7_valueFault_19 ?_
              refine V_iconst a_X7_valueFault_20 ?_
              refine V_icmp_ne_f a_X7_valueFault_21 (by omega) (by omega) ?_
              refine V_ildn3 a_X7_valueFault_24 ?_
              refine V_iconst a_X7_valueFault_25 ?_
              refine V_icmp_ge_f a_X7_valueFault_26 (by omega) (by omega) ?_
              refine V_ildn3 a_X7_valueFault_29 ?_
              refine V_if_ne_t a_X7_valueFault_30 (by omega) (by omega) ?_
              refine V_aldn1 a_X7_valueFault_44 ?_
              refine V_aldn0 a_X7_valueFault_45 ?_
              refine V_getIE a_X7_valueFault_46 f_X7_61 rfl g3 ?_
              refine V_v1R a_X7_valueFault_49 c_X7_97 rh ?_
              refine V_ist4 a_X7_valueFault_52 ?_
              refine V_ild4 a_X7_valueFault_54 ?_
              refine V_if_eq_t a_X7_valueFault_56 (by omega) (by omega) ?_
              refine V_iconst a_X7_valueFault_63 ?_
              exact V_iret a_X7_valueFault_64 (⟨rfl, rfl⟩)
        · have es : spT B kw x = (loA kw x, gmA kw x, 2) := if_neg (fun z => x2 z.2)
          rw [es]
          have el : loA kw x = 0 := if_neg (fun z => by omega)
          have gb := gm_bd (kw := kw) (x := x)
          have rg := R_greatestValue (σ := σ) hk hx
          have ro := R_outside (σ := σ) (v := nW T e p) (lo := loA kw x) (hi := gmA kw x) (by unfold iR; omega) (by unfold iR; omega) (by unfold iR; omega)
          show V _ _ _ _ _ _ _ _ (fun r τ => r = .inl (some (vI (if loA kw x ≤ nW T e p ∧ nW T e p ≤ gmA kw x then 0 else 2))) ∧ τ = σ)
          rw [el] at ro ⊢
          by_cases z : 0 ≤ nW T e p ∧ nW T e p ≤ gmA kw x
          · rw [bI_f (fun w => w z)] at ro
            rw [if_pos z]
            refine V_aldn0 a_X7_valueFault_0 ?_
            refine V_getIE a_X7_valueFault_1 f_X7_35 rfl g1 ?_
            refine V_iconst a_X7_valueFault_4 ?_
            refine V_icmp_eq_t a_X7_valueFault_5 (by omega) (by omega) ?_
            refine V_aldn0 a_X7_valueFault_10 ?_
            refine V_v0R a_X7_valueFault_11 c_X7_89 rl ?_
            refine V_if_eq_t a_X7_valueFault_14 (by omega) (by omega) ?_
            refine V_ildn2 a_X7_valueFault_19 ?_
            refine V_iconst a_X7_valueFault_20 ?_
            refine V_icmp_ne_f a_X7_valueFault_21 (by omega) (by omega) ?_
            refine V_ildn3 a_X7_valueFault_24 ?_
            refine V_iconst a_X7_valueFault_25 ?_
            refine V_icmp_ge_t a_X7_valueFault_26 (by omega) (by omega) ?_
            refine V_ildn2 a_X7_valueFault_65 ?_
            refine V_iconst a_X7_valueFault_66 ?_
            refine V_icmp_ne_t a_X7_valueFault_67 (by omega) (by omega) ?_
            refine V_iconst a_X7_valueFault_78 ?_
            refine V_ist4 a_X7_valueFault_79 ?_
            refine V_aldn0 a_X7_valueFault_81 ?_
            refine V_getIE a_X7_valueFault_82 f_X7_61 rfl g3 ?_
            refine V_ild4 a_X7_valueFault_85 ?_
            refine V_ildn2 a_X7_valueFault_87 ?_
            refine V_ildn3 a_X7_valueFault_88 ?_
            refine V_s2R a_X7_valueFault_89 c_X7_100 rg ?_
            refine V_n3R a_X7_valueFault_92 c_X7_104 ro ?_
            refine V_if_eq_t a_X7_valueFault_95 (by omega) (by omega) ?_
            refine V_iconst a_X7_valueFault_102 ?_
            exact V_iret a_X7_valueFault_103 (⟨rfl, rfl⟩)
          · rw [bI_t z] at ro
            rw [if_neg z]
            refine V_aldn0 a_X7_valueFault_0 ?_
            refine V_getIE a_X7_valueFault_1 f_X7_35 rfl g1 ?_
            refine V_iconst a_X7_valueFault_4 ?_
            refine V_icmp_eq_t a_X7_valueFault_5 (by omega) (by omega) ?_
            refine V_aldn0 a_X7_valueFault_10 ?_
            refine V_v0R a_X7_valueFault_11 c_X7_89 rl ?_
            refine V_if_eq_t a_X7_valueFault_14 (by omega) (by omega) ?_
            refine V_ildn2 a_X7_valueFault_19 ?_
            refine V_iconst a_X7_valueFault_20 ?_
            refine V_icmp_ne_f a_X7_valueFault_21 (by omega) (by omega) ?_
            refine V_ildn3 a_X7_valueFault_24 ?_
            refine V_iconst a_X7_valueFault_25 ?_
            refine V_icmp_ge_t a_X7_valueFault_26 (by omega) (by omega) ?_
            refine V_ildn2 a_X7_valueFault_65 ?_
            refine V_iconst a_X7_valueFault_66 ?_
            refine V_icmp_ne_t a_X7_valueFault_67 (by omega) (by omega) ?_
            refine V_iconst a_X7_valueFault_78 ?_
            refine V_ist4 a_X7_valueFault_79 ?_
            refine V_aldn0 a_X7_valueFault_81 ?_
            refine V_getIE a_X7_valueFault_82 f_X7_61 rfl g3 ?_
            refine V_ild4 a_X7_valueFault_85 ?_
            refine V_ildn2 a_X7_valueFault_87 ?_
            refine V_ildn3 a_X7_valueFault_88 ?_
            refine V_s2R a_X7_valueFault_89 c_X7_100 rg ?_
            refine V_n3R a_X7_valueFault_92 c_X7_104 ro ?_
            refine V_if_eq_f a_X7_valueFault_95 (by omega) (by omega) ?_
            refine V_iconst a_X7_valueFault_98 ?_
            refine V_goto a_X7_valueFault_99 ?_
            exact V_iret a_X7_valueFault_103 (⟨rfl, rfl⟩)
      · have es : spT B kw x = (loA kw x, gmA kw x, 2) := if_neg (fun z => k4 z.1)
        rw [es]
        have gb := gm_bd (kw := kw) (x := x)
        have rg := R_greatestValue (σ := σ) hk hx
        have hlo : 0 ≤ loA kw x ∧ loA kw x ≤ 1 := by
          unfold loA
          split <;> omega
        have ro := R_outside (σ := σ) (v := nW T e p) (lo := loA kw x) (hi := gmA kw x) (by unfold iR; omega) (by unfold iR; omega) (by unfold iR; omega)
        show V _ _ _ _ _ _ _ _ (fun r τ => r = .inl (some (vI (if loA kw x ≤ nW T e p ∧ nW T e p ≤ gmA kw x then 0 else 2))) ∧ τ = σ)
        have p81 : V m_X7_valueFault 2 0 0 81 [some (vR (some (9, 0))), some (vR (some (6, i))), some (vI kw), some (vI x), some (vI (loA kw x))] [] σ (fun r τ => r = .inl (some (vI (if loA kw x ≤ nW T e p ∧ nW T e p ≤ gmA kw x then 0 else 2))) ∧ τ = σ) := by
          by_cases z : loA kw x ≤ nW T e p ∧ nW T e p ≤ gmA kw x
          · rw [bI_f (fun w => w z)] at ro
            rw [if_pos z]
            refine V_aldn0 a_X7_valueFault_81 ?_
            refine V_getIE a_X7_valueFault_82 f_X7_61 rfl g3 ?_
            refine V_ild4 a_X7_valueFault_85 ?_
            refine V_ildn2 a_X7_valueFault_87 ?_
            refine V_ildn3 a_X7_valueFault_88 ?_
            refine V_s2R a_X7_valueFault_89 c_X7_100 rg ?_
            refine V_n3R a_X7_valueFault_92 c_X7_104 ro ?_
            refine V_if_eq_t a_X7_valueFault_95 (by omega) (by omega) ?_
            refine V_iconst a_X7_valueFault_102 ?_
            exact V_iret a_X7_valueFault_103 (⟨rfl, rfl⟩)
          · rw [bI_t z] at ro
            rw [if_neg z]
            refine V_aldn0 a_X7_valueFault_81 ?_
            refine V_getIE a_X7_valueFault_82 f_X7_61 rfl g3 ?_
            refine V_ild4 a_X7_valueFault_85 ?_
            refine V_ildn2 a_X7_valueFault_87 ?_
            refine V_ildn3 a_X7_valueFault_88 ?_
            refine V_s2R a_X7_valueFault_89 c_X7_100 rg ?_
            refine V_n3R a_X7_valueFault_92 c_X7_104 ro ?_
            refine V_if_eq_f a_X7_valueFault_95 (by omega) (by omega) ?_
            refine V_iconst a_X7_valueFault_98 ?_
            refine V_goto a_X7_valueFault_99 ?_
            exact V_iret a_X7_valueFault_103 (⟨rfl, rfl⟩)
        by_cases k1 : kw = 1
        · by_cases x0 : x = 0
          · have el : loA kw x = 1 := if_pos ⟨k1, x0⟩
            rw [el] at p81
            rw [el]
            refine V_aldn0 a_X7_valueFault_0 ?_
            refine V_getIE a_X7_valueFault_1 f_X7_35 rfl g1 ?_
            refine V_iconst a_X7_valueFault_4 ?_
            refine V_icmp_eq_t a_X7_valueFault_5 (by omega) (by omega) ?_
            refine V_aldn0 a_X7_valueFault_10 ?_
            refine V_v0R a_X7_valueFault_11 c_X7_89 rl ?_
            refine V_if_eq_t a_X7_valueFault_14 (by omega) (by omega) ?_
            refine V_ildn2 a_X7_valueFault_19 ?_
            refine V_iconst a_X7_valueFault_20 ?_
            refine V_icmp_ne_t a_X7_valueFault_21 (by omega) (by omega) ?_
            refine V_ildn2 a_X7_valueFault_65 ?_
            refine V_iconst a_X7_valueFault_66 ?_
            refine V_icmp_ne_f a_X7_valueFault_67 (by omega) (by omega) ?_
            refine V_ildn3 a_X7_valueFault_70 ?_
            refine V_if_ne_f a_X7_valueFault_71 (by omega) (by omega) ?_
            refine V_iconst a_X7_valueFault_74 ?_
            refine V_goto a_X7_valueFault_75 ?_
            refine V_ist4 a_X7_valueFault_79 ?_
            exact p81
          · have el : loA kw x = 0 := if_neg (fun z => x0 z.2)
            rw [el] at p81
            rw [el]
            refine V_aldn0 a_X7_valueFault_0 ?_
            refine V_getIE a_X7_valueFault_1 f_X7_35 rfl g1 ?_
            refine V_iconst a_X7_valueFault_4 ?_
            refine V_icmp_eq_t a_X7_valueFault_5 (by omega) (by omega) ?_
            refine V_aldn0 a_X7_valueFault_10 ?_
            refine V_v0R a_X7_valueFault_11 c_X7_89 rl ?_
            refine V_if_eq_t a_X7_valueFault_14 (by omega) (by omega) ?_
            refine V_ildn2 a_X7_valueFault_19 ?_
            refine V_iconst a_X7_valueFault_20 ?_
            refine V_icmp_ne_t a_X7_valueFault_21 (by omega) (by omega) ?_
            refine V_ildn2 a_X7_valueFault_65 ?_
            refine V_iconst a_X7_valueFault_66 ?_
            refine V_icmp_ne_f a_X7_valueFault_67 (by omega) (by omega) ?_
            refine V_ildn3 a_X7_valueFault_70 ?_
            refine V_if_ne_t a_X7_valueFault_71 (by omega) (by omega) ?_
            refine V_iconst a_X7_valueFault_78 ?_
            refine V_ist4 a_X7_valueFault_79 ?_
            exact p81
        · have el : loA kw x = 0 := if_neg (fun z => k1 z.1)
          rw [el] at p81
          rw [el]
          refine V_aldn0 a_X7_valueFault_0 ?_
          refine V_getIE a_X7_valueFault_1 f_X7_35 rfl g1 ?_
          refine V_iconst a_X7_valueFault_4 ?_
          refine V_icmp_eq_t a_X7_valueFault_5 (by omega) (by omega) ?_
          refine V_aldn0 a_X7_valueFault_10 ?_
          refine V_v0R a_X7_valueFault_11 c_X7_89 rl ?_
          refine V_if_eq_t a_X7_valueFault_14 (by omega) (by omega) ?_
          refine V_ildn2 a_X7_valueFault_19 ?_
          refine V_iconst a_X7_valueFault_20 ?_
          refine V_icmp_ne_t a_X7_valueFault_21 (by omega) (by omega) ?_
          refine V_ildn2 a_X7_valueFault_65 ?_
          refine V_iconst a_X7_valueFault_66 ?_
          refine V_icmp_ne_t a_X7_valueFault_67 (by omega) (by omega) ?_
          refine V_iconst a_X7_valueFault_78 ?_
          refine V_ist4 a_X7_valueFault_79 ?_
          exact p81
  · rw [nC_a a]
    refine V_aldn0 a_X7_valueFault_0 ?_
    refine V_getIE a_X7_valueFault_1 f_X7_35 rfl g1 ?_
    refine V_iconst a_X7_valueFault_4 ?_
    refine V_icmp_eq_f a_X7_valueFault_5 (by omega) (by omega) ?_
    refine V_iconst a_X7_valueFault_8 ?_
    exact V_iret a_X7_valueFault_9 (⟨rfl, rfl⟩)
end Pr

