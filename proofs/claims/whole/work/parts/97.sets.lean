/-- sets of loans, by bits -/
def bit (set k : Int) : Int := (set / p2 k) % 2
theorem bit_01 (set k : Int) : bit set k = 0 ∨ bit set k = 1 := by unfold bit; omega
/-- what a lender has in a loan that is not recalled -/
def unr (A : St) (l s k : Int) : Int := if A (83 + 23 * k + 2) = s then A (83 + 23 * k + 5 + l) - A (83 + 23 * k + 11 + l) else 0
def smI (f : Int → Int) (n set : Int) : Int := sm (fun k => if bit set k = 1 then f k else 0) n
def szI (set : Int) : Int := sm (fun k => bit set k) 12
def fwS (f : Int → Int) (n q j m : Int) : Int := if szI (j + 1) < m ∧ q ≤ smI f n (j + 1) then szI (j + 1) else m
def fwA (f : Int → Int) (n q : Int) : Int := itr (fwS f n q) (p2 n - 1) 12
def tgS (f : Int → Int) (n q j b : Int) : Int := if smI f n (j + 1) < q then b else if b = 0 ∨ smI f n (j + 1) < smI f n b ∨ (smI f n (j + 1) = smI f n b ∧ szI (j + 1) < szI b) then j + 1 else b
def tgA (f : Int → Int) (n q : Int) : Int := itr (tgS f n q) (p2 n - 1) 0
theorem p2_12 {n : Int} (h0 : 0 ≤ n) (h1 : n ≤ 12) : 1 ≤ p2 n ∧ p2 n ≤ 4096 := by
  have key : ∀ m : Nat, m ≤ 12 → (1 : Int) ≤ 2 ^ m ∧ (2 : Int) ^ m ≤ 4096 := by decide
  exact key n.toNat (by omega)
theorem sz_bd (set : Int) : 0 ≤ szI set ∧ szI set ≤ 12 := by
  have h := sm_bd (f := fun k => bit set k) (k := 12) (lo := 0) (hi := 1) (by decide) (fun j _ _ => by
    show 0 ≤ bit set j ∧ bit set j ≤ 1
    have := bit_01 set j
    omega)
  show 0 ≤ sm _ _ ∧ sm _ _ ≤ 12
  omega
section Se
variable {D : Int} {σ : Hp} {A : St}
theorem unr_bd (hI : Inv D A) {l s k : Int} (l0 : 0 ≤ l) (l1 : l < 6) (k0 : 0 ≤ k) (k1 : k < A 7) : 0 ≤ unr A l s k ∧ unr A l s k ≤ 99999 := by
  have := ((hI.loan k0 k1).sl l0 l1).1
  unfold unr
  split <;> omega
theorem smI_bd (hI : Inv D A) {l s set : Int} (l0 : 0 ≤ l) (l1 : l < 6) : 0 ≤ smI (unr A l s) (A 7) set ∧ smI (unr A l s) (A 7) set ≤ 1199988 := by
  have hn := hI.n
  have h := sm_bd (f := fun k => if bit set k = 1 then unr A l s k else 0) (k := A 7) (lo := 0) (hi := 99999) (by omega) (fun j j0 j1 => by
    have := unr_bd hI (s := s) l0 l1 j0 j1
    show 0 ≤ (if bit set j = 1 then unr A l s j else 0) ∧ (if bit set j = 1 then unr A l s j else 0) ≤ 99999
    split <;> omega)
  show 0 ≤ sm _ _ ∧ sm _ _ ≤ 1199988
  omega
theorem B_isNoSet {l s q : Int} (h : Md D σ A) (hl : iR l) (hs : iR s) (hq : iR q) : ∃ z : Int, (z = if rclC A l s q = 0 then 0 else 1) ∧ Rt m_X11_isNoSet 3 0 0 [vR (some (11, 0)), vI l, vI s, vI q] σ (some (vI z)) (σ.th (rclC A l s q)) := by
  have hn := h.2.2.2.n
  obtain ⟨b1, hb1, r1⟩ := B_isNoHolding (l := l) (s := s) h hl hs
  by_cases h1 : (0 ≤ l ∧ l < A 1) ∧ 0 ≤ s ∧ s < A 0
  · have hb : b1 = 0 := by omega
    subst hb
    obtain ⟨b2, hb2, r2⟩ := B_isQuantity (σ := σ.th 0) hq
    by_cases h2 : 1 ≤ q ∧ q ≤ 99999
    · have hm : Md D ((σ.th 0).th 0) A := h
      have hr := recb_bd h.2.2.2 (l := l) (s := s) (by omega) (by omega) (by omega) (by omega)
      by_cases h3 : recbA A l s < q
      · have e : rclC A l s q = 3 := by
          unfold rclC
          rw [if_neg (fun z => z h1), if_neg (fun z => z h2), if_pos h3]
        rw [e]
        refine ⟨1, rfl, ?_⟩
        show V _ 3 0 0 0 [some (vR (some (11, 0))), some (vI l), some (vI s), some (vI q)] [] σ _
        refine V_aldn0 a_X11_isNoSet_0 ?_
        refine V_ildn1 a_X11_isNoSet_1 ?_
        refine V_ildn2 a_X11_isNoSet_2 ?_
        refine V_v2R a_X11_isNoSet_3 c_X11_320 r1 ?_
        refine V_if_ne_f a_X11_isNoSet_6 (by omega) (by omega) ?_
        refine V_aldn0 a_X11_isNoSet_9 ?_
        refine V_ildn3 a_X11_isNoSet_10 ?_
        refine V_s1R a_X11_isNoSet_11 c_X11_259 r2 ?_
        refine V_if_ne_t a_X11_isNoSet_14 (by omega) (by omega) ?_
        refine V_iconst a_X11_isNoSet_21 ?_
        refine V_iconst a_X11_isNoSet_22 ?_
        refine V_v2R a_X11_isNoSet_23 c_X11_72 R_fails0 ?_
        refine V_if_ne_f a_X11_isNoSet_26 (by omega) (by omega) ?_
        refine V_aldn0 a_X11_isNoSet_29 ?_
        refine V_aldn0 a_X11_isNoSet_30 ?_
        refine V_ildn1 a_X11_isNoSet_31 ?_
        refine V_ildn2 a_X11_isNoSet_32 ?_
        refine V_v2R a_X11_isNoSet_33 c_X11_323 (R_recallableOf hm (by omega) (by omega)) ?_
        refine V_ildn3 a_X11_isNoSet_36 ?_
        refine V_i2l a_X11_isNoSet_37 (by omega) ?_
        refine V_lc_ge_f a_X11_isNoSet_38 a_X11_isNoSet_39 (by omega) (by omega) ?_
        refine V_iconst a_X11_isNoSet_42 ?_
        refine V_goto a_X11_isNoSet_43 ?_
        refine V_iconst a_X11_isNoSet_47 ?_
        refine V_v2R a_X11_isNoSet_48 c_X11_72 R_fails1 ?_
        refine V_if_eq_f a_X11_isNoSet_51 (by omega) (by omega) ?_
        refine V_iconst a_X11_isNoSet_54 ?_
        refine V_goto a_X11_isNoSet_55 ?_
        exact V_zret a_X11_isNoSet_59 (by omega) (⟨rfl, by rw [th_th, th_th]⟩)
      · have e : rclC A l s q = 0 := by
          unfold rclC
          rw [if_neg (fun z => z h1), if_neg (fun z => z h2), if_neg h3]
        rw [e]
        refine ⟨0, rfl, ?_⟩
        show V _ 3 0 0 0 [some (vR (some (11, 0))), some (vI l), some (vI s), some (vI q)] [] σ _
        refine V_aldn0 a_X11_isNoSet_0 ?_
        refine V_ildn1 a_X11_isNoSet_1 ?_
        refine V_ildn2 a_X11_isNoSet_2 ?_
        refine V_v2R a_X11_isNoSet_3 c_X11_320 r1 ?_
        refine V_if_ne_f a_X11_isNoSet_6 (by omega) (by omega) ?_
        refine V_aldn0 a_X11_isNoSet_9 ?_
        refine V_ildn3 a_X11_isNoSet_10 ?_
        refine V_s1R a_X11_isNoSet_11 c_X11_259 r2 ?_
        refine V_if_ne_t a_X11_isNoSet_14 (by omega) (by omega) ?_
        refine V_iconst a_X11_isNoSet_21 ?_
        refine V_iconst a_X11_isNoSet_22 ?_
        refine V_v2R a_X11_isNoSet_23 c_X11_72 R_fails0 ?_
        refine V_if_ne_f a_X11_isNoSet_26 (by omega) (by omega) ?_
        refine V_aldn0 a_X11_isNoSet_29 ?_
        refine V_aldn0 a_X11_isNoSet_30 ?_
        refine V_ildn1 a_X11_isNoSet_31 ?_
        refine V_ildn2 a_X11_isNoSet_32 ?_
        refine V_v2R a_X11_isNoSet_33 c_X11_323 (R_recallableOf hm (by omega) (by omega)) ?_
        refine V_ildn3 a_X11_isNoSet_36 ?_
        refine V_i2l a_X11_isNoSet_37 (by omega) ?_
        refine V_lc_ge_t a_X11_isNoSet_38 a_X11_isNoSet_39 (by omega) (by omega) ?_
        refine V_iconst a_X11_isNoSet_46 ?_
        refine V_iconst a_X11_isNoSet_47 ?_
        refine V_v2R a_X11_isNoSet_48 c_X11_72 R_fails0 ?_
        refine V_if_eq_t a_X11_isNoSet_51 (by omega) (by omega) ?_
        refine V_iconst a_X11_isNoSet_58 ?_
        exact V_zret a_X11_isNoSet_59 (by omega) (⟨rfl, by rw [th_th, th_th]⟩)
    · have e : rclC A l s q = 2 := by
        unfold rclC
        rw [if_neg (fun z => z h1), if_pos h2]
      rw [e]
      refine ⟨1, rfl, ?_⟩
      show V _ 3 0 0 0 [some (vR (some (11, 0))), some (vI l), some (vI s), some (vI q)] [] σ _
      refine V_aldn0 a_X11_isNoSet_0 ?_
      refine V_ildn1 a_X11_isNoSet_1 ?_
      refine V_ildn2 a_X11_isNoSet_2 ?_
      refine V_v2R a_X11_isNoSet_3 c_X11_320 r1 ?_
      refine V_if_ne_f a_X11_isNoSet_6 (by omega) (by omega) ?_
      refine V_aldn0 a_X11_isNoSet_9 ?_
      refine V_ildn3 a_X11_isNoSet_10 ?_
      refine V_s1R a_X11_isNoSet_11 c_X11_259 r2 ?_
      refine V_if_ne_f a_X11_isNoSet_14 (by omega) (by omega) ?_
      refine V_iconst a_X11_isNoSet_17 ?_
      refine V_goto a_X11_isNoSet_18 ?_
      refine V_iconst a_X11_isNoSet_22 ?_
      refine V_v2R a_X11_isNoSet_23 c_X11_72 R_fails1 ?_
      refine V_if_ne_t a_X11_isNoSet_26 (by omega) (by omega) ?_
      refine V_iconst a_X11_isNoSet_54 ?_
      refine V_goto a_X11_isNoSet_55 ?_
      exact V_zret a_X11_isNoSet_59 (by omega) (⟨rfl, by rw [th_th]⟩)
  · have hb : b1 = 1 := by omega
    subst hb
    have e : rclC A l s q = 1 := by
      unfold rclC
      rw [if_pos h1]
    rw [e]
    refine ⟨1, rfl, ?_⟩
    show V _ 3 0 0 0 [some (vR (some (11, 0))), some (vI l), some (vI s), some (vI q)] [] σ _
    refine V_aldn0 a_X11_isNoSet_0 ?_
    refine V_ildn1 a_X11_isNoSet_1 ?_
    refine V_ildn2 a_X11_isNoSet_2 ?_
    refine V_v2R a_X11_isNoSet_3 c_X11_320 r1 ?_
    refine V_if_ne_t a_X11_isNoSet_6 (by omega) (by omega) ?_
    refine V_iconst a_X11_isNoSet_54 ?_
    refine V_goto a_X11_isNoSet_55 ?_
    exact V_zret a_X11_isNoSet_59 (by omega) (⟨rfl, rfl⟩)
theorem R_sizeOf {set : Int} (hs : 0 ≤ set ∧ set < 2147483648) : Rt m_X11_sizeOf 0 0 0 [vI set] σ (some (vI (szI set))) σ := by
  show V _ 0 0 0 0 [some (vI set), none, none] [] σ _
  refine V_iconst a_X11_sizeOf_0 ?_
  refine V_istn1 a_X11_sizeOf_1 ?_
  refine V_iconst a_X11_sizeOf_2 ?_
  refine V_istn2 a_X11_sizeOf_3 ?_
  refine loopI (P := fun k => V _ 0 0 0 4 [some (vI set), some (vI (sm (fun k => bit set k) k)), some (vI k)] [] σ _) (N := 12) (by omega) ?_ ?_
  · refine V_ildn2 a_X11_sizeOf_4 ?_
    refine V_bipush a_X11_sizeOf_5 (by decide) ?_
    refine V_icmp_ge_t a_X11_sizeOf_7 (by omega) (by omega) ?_
    refine V_ildn1 a_X11_sizeOf_24 ?_
    exact V_iret a_X11_sizeOf_25 (⟨rfl, rfl⟩)
  · intro k k0 k1 ih
    rw [sm_s _ k0] at ih
    refine V_ildn2 a_X11_sizeOf_4 ?_
    refine V_bipush a_X11_sizeOf_5 (by decide) ?_
    refine V_icmp_ge_f a_X11_sizeOf_7 (by omega) (by omega) ?_
    refine V_ildn1 a_X11_sizeOf_10 ?_
    refine V_ildn0 a_X11_sizeOf_11 ?_
    refine V_ildn2 a_X11_sizeOf_12 ?_
    refine V_ishr a_X11_sizeOf_13 (by omega) ?_
    refine V_iconst a_X11_sizeOf_14 ?_
    first | refine V_iand255 a_X11_sizeOf_15 ?_ | refine V_iand63 a_X11_sizeOf_15 ?_ | refine V_iand1 a_X11_sizeOf_15 ?_
    refine V_iadd a_X11_sizeOf_16 ?_
    refine V_istn1 a_X11_sizeOf_17 ?_
    refine V_inc2 a_X11_sizeOf_18 ?_
    refine V_goto a_X11_sizeOf_21 ?_
    exact ih
theorem R_sumIn {set l s : Int} (h : Md D σ A) (hset : 0 ≤ set ∧ set < 2147483648) (hl : 0 ≤ l ∧ l < 6) (hs : 0 ≤ s ∧ s < 4) : Rt m_X11_sumIn 1 0 0 [vR (some (11, 0)), vI set, vI l, vI s] σ (some (vL (smI (unr A l s) (A 7) set))) σ := by
  obtain ⟨hD, hW, hA, hI⟩ := h
  have hn := hI.n
  show V _ 1 0 0 0 [some (vR (some (11, 0))), some (vI set), some (vI l), some (vI s), none, none, none] [] σ _
  unfold smI
  refine V_lconst0 a_X11_sumIn_0 ?_
  refine V_lst4 a_X11_sumIn_1 ?_
  refine V_iconst a_X11_sumIn_3 ?_
  refine V_ist6 a_X11_sumIn_4 ?_
  refine loopI (P := fun k => V _ 1 0 0 6 [some (vR (some (11, 0))), some (vI set), some (vI l), some (vI s), some (vL (sm (fun k => if bit set k = 1 then unr A l s k else 0) k)), none, some (vI k)] [] σ _) (N := A 7) (by omega) ?_ ?_
  · refine V_ild6 a_X11_sumIn_6 ?_
    refine V_i2l a_X11_sumIn_8 (by omega) ?_
    refine V_aldn0 a_X11_sumIn_9 ?_
    refine V_fin a_X11_sumIn_10 f_X11_7 rfl hW ?_
    refine V_bipush a_X11_sumIn_13 (by decide) ?_
    refine V_w a_X11_sumIn_15 (by omega) hA ?_
    refine V_lc_ge_t a_X11_sumIn_16 a_X11_sumIn_17 (by omega) (by omega) ?_
    refine V_lld4 a_X11_sumIn_69 ?_
    exact V_lret a_X11_sumIn_71 (⟨rfl, rfl⟩)
  · intro k k0 k1 ih
    obtain ⟨-, -, q2, -⟩ := hI.loan k0 k1
    have hb01 := bit_01 set k
    rw [sm_s _ k0] at ih
    by_cases q : bit set k = 1
    · have q' : set / p2 k % 2 = 1 := q
      rw [if_pos q] at ih
      unfold unr at ih
      by_cases q3 : A (83 + 23 * k + 2) = s
      · rw [if_pos q3] at ih
        refine V_ild6 a_X11_sumIn_6 ?_
        refine V_i2l a_X11_sumIn_8 (by omega) ?_
        refine V_aldn0 a_X11_sumIn_9 ?_
        refine V_fin a_X11_sumIn_10 f_X11_7 rfl hW ?_
        refine V_bipush a_X11_sumIn_13 (by decide) ?_
        refine V_w a_X11_sumIn_15 (by omega) hA ?_
        refine V_lc_ge_f a_X11_sumIn_16 a_X11_sumIn_17 (by omega) (by omega) ?_
        refine V_ildn1 a_X11_sumIn_20 ?_
        refine V_ild6 a_X11_sumIn_21 ?_
        refine V_ishr a_X11_sumIn_23 (by omega) ?_
        refine V_iconst a_X11_sumIn_24 ?_
        first | refine V_iand255 a_X11_sumIn_25 ?_ | refine V_iand63 a_X11_sumIn_25 ?_ | refine V_iand1 a_X11_sumIn_25 ?_
        refine V_iconst a_X11_sumIn_26 ?_
        refine V_icmp_ne_f a_X11_sumIn_27 (by omega) (by omega) ?_
        refine V_aldn0 a_X11_sumIn_30 ?_
        refine V_fin a_X11_sumIn_31 f_X11_7 rfl hW ?_
        refine V_ild6 a_X11_sumIn_34 ?_
        refine V_s1R a_X11_sumIn_36 c_X11_197 R_loanAt ?_
        refine V_iconst a_X11_sumIn_39 ?_
        refine V_iadd a_X11_sumIn_40 ?_
        refine V_w a_X11_sumIn_41 (by omega) hA ?_
        refine V_ildn3 a_X11_sumIn_42 ?_
        refine V_i2l a_X11_sumIn_43 (by omega) ?_
        refine V_lc_ne_f a_X11_sumIn_44 a_X11_sumIn_45 (by omega) (by omega) ?_
        refine V_lld4 a_X11_sumIn_48 ?_
        refine V_aldn0 a_X11_sumIn_50 ?_
        refine V_ild6 a_X11_sumIn_51 ?_
        refine V_s1R a_X11_sumIn_53 c_X11_197 R_loanAt ?_
        refine V_ildn2 a_X11_sumIn_56 ?_
        refine V_v2R a_X11_sumIn_57 c_X11_305 (R_unrecalled hW hA (by omega) hl) ?_
        refine V_ladd a_X11_sumIn_60 ?_
        refine V_lst4 a_X11_sumIn_61 ?_
        refine V_inc6 a_X11_sumIn_63 ?_
        refine V_goto a_X11_sumIn_66 ?_
        exact ih
      · rw [if_neg q3, Int.add_zero] at ih
        refine V_ild6 a_X11_sumIn_6 ?_
        refine V_i2l a_X11_sumIn_8 (by omega) ?_
        refine V_aldn0 a_X11_sumIn_9 ?_
        refine V_fin a_X11_sumIn_10 f_X11_7 rfl hW ?_
        refine V_bipush a_X11_sumIn_13 (by decide) ?_
        refine V_w a_X11_sumIn_15 (by omega) hA ?_
        refine V_lc_ge_f a_X11_sumIn_16 a_X11_sumIn_17 (by omega) (by omega) ?_
        refine V_ildn1 a_X11_sumIn_20 ?_
        refine V_ild6 a_X11_sumIn_21 ?_
        refine V_ishr a_X11_sumIn_23 (by omega) ?_
        refine V_iconst a_X11_sumIn_24 ?_
        first | refine V_iand255 a_X11_sumIn_25 ?_ | refine V_iand63 a_X11_sumIn_25 ?_ | refine V_iand1 a_X11_sumIn_25 ?_
        refine V_iconst a_X11_sumIn_26 ?_
        refine V_icmp_ne_f a_X11_sumIn_27 (by omega) (by omega) ?_
        refine V_aldn0 a_X11_sumIn_30 ?_
        refine V_fin a_X11_sumIn_31 f_X11_7 rfl hW ?_
        refine V_ild6 a_X11_sumIn_34 ?_
        refine V_s1R a_X11_sumIn_36 c_X11_197 R_loanAt ?_
        refine V_iconst a_X11_sumIn_39 ?_
        refine V_iadd a_X11_sumIn_40 ?_
        refine V_w a_X11_sumIn_41 (by omega) hA ?_
        refine V_ildn3 a_X11_sumIn_42 ?_
        refine V_i2l a_X11_sumIn_43 (by omega) ?_
        refine V_lc_ne_t a_X11_sumIn_44 a_X11_sumIn_45 (by omega) (by omega) ?_
        refine V_inc6 a_X11_sumIn_63 ?_
        refine V_goto a_X11_sumIn_66 ?_
        exact ih
    · have q' : set / p2 k % 2 = 0 := by
        rcases hb01 with z | z
        · exact z
        · exact absurd z q
      rw [if_neg q, Int.add_zero] at ih
      refine V_ild6 a_X11_sumIn_6 ?_
      refine V_i2l a_X11_sumIn_8 (by omega) ?_
      refine V_aldn0 a_X11_sumIn_9 ?_
      refine V_fin a_X11_sumIn_10 f_X11_7 rfl hW ?_
      refine V_bipush a_X11_sumIn_13 (by decide) ?_
      refine V_w a_X11_sumIn_15 (by omega) hA ?_
      refine V_lc_ge_f a_X11_sumIn_16 a_X11_sumIn_17 (by omega) (by omega) ?_
      refine V_ildn1 a_X11_sumIn_20 ?_
      refine V_ild6 a_X11_sumIn_21 ?_
      refine V_ishr a_X11_sumIn_23 (by omega) ?_
      refine V_iconst a_X11_sumIn_24 ?_
      first | refine V_iand255 a_X11_sumIn_25 ?_ | refine V_iand63 a_X11_sumIn_25 ?_ | refine V_iand1 a_X11_sumIn_25 ?_
      refine V_iconst a_X11_sumIn_26 ?_
      refine V_icmp_ne_t a_X11_sumIn_27 (by omega) (by omega) ?_
      refine V_inc6 a_X11_sumIn_63 ?_
      refine V_goto a_X11_sumIn_66 ?_
      exact ih
theorem R_fewestLoans {l s q : Int} (h : Md D σ A) (hl : iR l) (hs : iR s) (hq : iR q) : (rclC A l s q = 0 → Rt m_X11_fewestLoans 4 0 0 [vR (some (11, 0)), vI l, vI s, vI q] σ (some (vI (fwA (unr A l s) (A 7) q))) (σ.th 0)) ∧ (rclC A l s q ≠ 0 → Rt m_X11_fewestLoans 4 0 0 [vR (some (11, 0)), vI l, vI s, vI q] σ (some (vI 0)) (σ.th (rclC A l s q))) := by
  have hI := h.2.2.2
  have hn := hI.n
  obtain ⟨z, hz, r1⟩ := B_isNoSet h hl hs hq
  refine ⟨fun e => ?_, fun e => ?_⟩
  · rw [if_pos e] at hz
    subst hz
    rw [e] at r1
    obtain ⟨h1, h2, h3⟩ := rcl_0 e
    have hm : Md D (σ.th 0) A := h
    obtain ⟨-, hW, hA, -⟩ := id hm
    have hp2 := p2_12 (n := A 7) (by omega) (by omega)
    show V _ 4 0 0 0 [some (vR (some (11, 0))), some (vI l), some (vI s), some (vI q), none, none] [] σ _
    unfold fwA
    refine V_aldn0 a_X11_fewestLoans_0 ?_
    refine V_ildn1 a_X11_fewestLoans_1 ?_
    refine V_ildn2 a_X11_fewestLoans_2 ?_
    refine V_ildn3 a_X11_fewestLoans_3 ?_
    refine V_v3R a_X11_fewestLoans_4 c_X11_411 r1 ?_
    refine V_if_eq_t a_X11_fewestLoans_7 (by omega) (by omega) ?_
    refine V_bipush a_X11_fewestLoans_12 (by decide) ?_
    refine V_ist4 a_X11_fewestLoans_14 ?_
    refine V_iconst a_X11_fewestLoans_16 ?_
    refine V_ist5 a_X11_fewestLoans_17 ?_
    refine loopF (P := fun set => V _ 4 0 0 19 [some (vR (some (11, 0))), some (vI l), some (vI s), some (vI q), some (vI (itr (fwS (unr A l s) (A 7) q) (set - 1) 12)), some (vI set)] [] (σ.th 0) _) (a := 1) (N := p2 (A 7)) (by omega) ?_ ?_
    · refine V_ild5 a_X11_fewestLoans_19 ?_
      refine V_iconst a_X11_fewestLoans_21 ?_
      refine V_aldn0 a_X11_fewestLoans_22 ?_
      refine V_fin a_X11_fewestLoans_23 f_X11_7 rfl hW ?_
      refine V_bipush a_X11_fewestLoans_26 (by decide) ?_
      refine V_w a_X11_fewestLoans_28 (by omega) hA ?_
      refine V_l2i a_X11_fewestLoans_29 ?_
      refine V_ishl a_X11_fewestLoans_30 (by omega) ?_
      refine V_icmp_ge_t a_X11_fewestLoans_31 (by omega) (by omega) ?_
      refine V_ild4 a_X11_fewestLoans_71 ?_
      exact V_iret a_X11_fewestLoans_73 (⟨rfl, rfl⟩)
    · intro set s0 s1 ih
      rw [show set + 1 - 1 = (set - 1) + 1 by omega, itr_s _ (by omega)] at ih
      have hmb : 0 ≤ itr (fwS (unr A l s) (A 7) q) (set - 1) 12 ∧ itr (fwS (unr A l s) (A 7) q) (set - 1) 12 ≤ 12 := by
        refine itr_ind (f := fwS (unr A l s) (A 7) q) (a := (12 : Int)) (fun _ x => 0 ≤ x ∧ x ≤ 12) (by decide) (by omega) (fun k x k0 k1 hx => ?_)
        unfold fwS
        have := sz_bd (k + 1)
        split <;> omega
      generalize itr (fwS (unr A l s) (A 7) q) (set - 1) 12 = m at hmb ih ⊢
      unfold fwS at ih
      rw [show set - 1 + 1 = set by omega] at ih
      have hsz := sz_bd set
      have hsm := smI_bd hI (l := l) (s := s) (set := set) (by omega) (by omega)
      by_cases q1 : szI set < m
      · by_cases q2 : q ≤ smI (unr A l s) (A 7) set
        · rw [if_pos ⟨q1, q2⟩] at ih
          refine V_ild5 a_X11_fewestLoans_19 ?_
          refine V_iconst a_X11_fewestLoans_21 ?_
          refine V_aldn0 a_X11_fewestLoans_22 ?_
          refine V_fin a_X11_fewestLoans_23 f_X11_7 rfl hW ?_
          refine V_bipush a_X11_fewestLoans_26 (by decide) ?_
          refine V_w a_X11_fewestLoans_28 (by omega) hA ?_
          refine V_l2i a_X11_fewestLoans_29 ?_
          refine V_ishl a_X11_fewestLoans_30 (by omega) ?_
          refine V_icmp_ge_f a_X11_fewestLoans_31 (by omega) (by omega) ?_
          refine V_ild5 a_X11_fewestLoans_34 ?_
          refine V_s1R a_X11_fewestLoans_36 c_X11_414 (R_sizeOf (by omega)) ?_
          refine V_ild4 a_X11_fewestLoans_39 ?_
          refine V_icmp_ge_f a_X11_fewestLoans_41 (by omega) (by omega) ?_
          refine V_aldn0 a_X11_fewestLoans_44 ?_
          refine V_ild5 a_X11_fewestLoans_45 ?_
          refine V_ildn1 a_X11_fewestLoans_47 ?_
          refine V_ildn2 a_X11_fewestLoans_48 ?_
          refine V_v3R a_X11_fewestLoans_49 c_X11_417 (R_sumIn hm (by omega) (by omega) (by omega)) ?_
          refine V_ildn3 a_X11_fewestLoans_52 ?_
          refine V_i2l a_X11_fewestLoans_53 (by omega) ?_
          refine V_lc_lt_f a_X11_fewestLoans_54 a_X11_fewestLoans_55 (by omega) (by omega) ?_
          refine V_ild5 a_X11_fewestLoans_58 ?_
          refine V_s1R a_X11_fewestLoans_60 c_X11_414 (R_sizeOf (by omega)) ?_
          refine V_ist4 a_X11_fewestLoans_63 ?_
          refine V_inc5 a_X11_fewestLoans_65 ?_
          refine V_goto a_X11_fewestLoans_68 ?_
          exact ih
        · rw [if_neg (fun z => q2 z.2)] at ih
          refine V_ild5 a_X11_fewestLoans_19 ?_
          refine V_iconst a_X11_fewestLoans_21 ?_
          refine V_aldn0 a_X11_fewestLoans_22 ?_
          refine V_fin a_X11_fewestLoans_23 f_X11_7 rfl hW ?_
          refine V_bipush a_X11_fewestLoans_26 (by decide) ?_
          refine V_w a_X11_fewestLoans_28 (by omega) hA ?_
          refine V_l2i a_X11_fewestLoans_29 ?_
          refine V_ishl a_X11_fewestLoans_30 (by omega) ?_
          refine V_icmp_ge_f a_X11_fewestLoans_31 (by omega) (by omega) ?_
          refine V_ild5 a_X11_fewestLoans_34 ?_
          refine V_s1R a_X11_fewestLoans_36 c_X11_414 (R_sizeOf (by omega)) ?_
          refine V_ild4 a_X11_fewestLoans_39 ?_
          refine V_icmp_ge_f a_X11_fewestLoans_41 (by omega) (by omega) ?_
          refine V_aldn0 a_X11_fewestLoans_44 ?_
          refine V_ild5 a_X11_fewestLoans_45 ?_
          refine V_ildn1 a_X11_fewestLoans_47 ?_
          refine V_ildn2 a_X11_fewestLoans_48 ?_
          refine V_v3R a_X11_fewestLoans_49 c_X11_417 (R_sumIn hm (by omega) (by omega) (by omega)) ?_
          refine V_ildn3 a_X11_fewestLoans_52 ?_
          refine V_i2l a_X11_fewestLoans_53 (by omega) ?_
          refine V_lc_lt_t a_X11_fewestLoans_54 a_X11_fewestLoans_55 (by omega) (by omega) ?_
          refine V_inc5 a_X11_fewestLoans_65 ?_
          refine V_goto a_X11_fewestLoans_68 ?_
          exact ih
      · rw [if_neg (fun z => q1 z.1)] at ih
        refine V_ild5 a_X11_fewestLoans_19 ?_
        refine V_iconst a_X11_fewestLoans_21 ?_
        refine V_aldn0 a_X11_fewestLoans_22 ?_
        refine V_fin a_X11_fewestLoans_23 f_X11_7 rfl hW ?_
        refine V_bipush a_X11_fewestLoans_26 (by decide) ?_
        refine V_w a_X11_fewestLoans_28 (by omega) hA ?_
        refine V_l2i a_X11_fewestLoans_29 ?_
        refine V_ishl a_X11_fewestLoans_30 (by omega) ?_
        refine V_icmp_ge_f a_X11_fewestLoans_31 (by omega) (by omega) ?_
        refine V_ild5 a_X11_fewestLoans_34 ?_
        refine V_s1R a_X11_fewestLoans_36 c_X11_414 (R_sizeOf (by omega)) ?_
        refine V_ild4 a_X11_fewestLoans_39 ?_
        refine V_icmp_ge_t a_X11_fewestLoans_41 (by omega) (by omega) ?_
        refine V_inc5 a_X11_fewestLoans_65 ?_
        refine V_goto a_X11_fewestLoans_68 ?_
        exact ih
  · rw [if_neg e] at hz
    subst hz
    show V _ 4 0 0 0 [some (vR (some (11, 0))), some (vI l), some (vI s), some (vI q), none, none] [] σ _
    refine V_aldn0 a_X11_fewestLoans_0 ?_
    refine V_ildn1 a_X11_fewestLoans_1 ?_
    refine V_ildn2 a_X11_fewestLoans_2 ?_
    refine V_ildn3 a_X11_fewestLoans_3 ?_
    refine V_v3R a_X11_fewestLoans_4 c_X11_411 r1 ?_
    refine V_if_eq_f a_X11_fewestLoans_7 (by omega) (by omega) ?_
    refine V_iconst a_X11_fewestLoans_10 ?_
    exact V_iret a_X11_fewestLoans_11 (⟨rfl, rfl⟩)
theorem tg_bd {f : Int → Int} {n q k : Int} (k0 : 0 ≤ k) : 0 ≤ itr (tgS f n q) k 0 ∧ itr (tgS f n q) k 0 ≤ k := by
  refine itr_ind (f := tgS f n q) (a := (0 : Int)) (fun k x => 0 ≤ x ∧ x ≤ k) ⟨Int.le_refl 0, Int.le_refl 0⟩ k0 (fun k x k0 k1 hx => ?_)
  unfold tgS
  split
  · omega
  · split <;> omega
theorem R_tightest {l s q : Int} (h : Md D σ A) (hl : 0 ≤ l ∧ l < 6) (hs : 0 ≤ s ∧ s < 4) (hq : 1 ≤ q ∧ q ≤ 99999) : Rt m_X11_tightest 2 0 0 [vR (some (11, 0)), vI l, vI s, vI q] σ (some (vI (tgA (unr A l s) (A 7) q))) σ := by
  have hI := h.2.2.2
  have hn := hI.n
  obtain ⟨-, hW, hA, -⟩ := id h
  have hp2 := p2_12 (n := A 7) (by omega) (by omega)
  show V _ 2 0 0 0 [some (vR (some (11, 0))), some (vI l), some (vI s), some (vI q), none, none, none, none, none, none] [] σ _
  unfold tgA
  refine V_iconst a_X11_tightest_0 ?_
  refine V_ist4 a_X11_tightest_1 ?_
  refine V_iconst a_X11_tightest_3 ?_
  refine V_ist5 a_X11_tightest_4 ?_
  refine loopF (P := fun set => ∀ x6 x8 : Option AV, V _ 2 0 0 6 [some (vR (some (11, 0))), some (vI l), some (vI s), some (vI q), some (vI (itr (tgS (unr A l s) (A 7) q) (set - 1) 0)), some (vI set), x6, none, x8, none] [] σ _) (a := 1) (N := p2 (A 7)) (by omega) ?_ ?_ none none
  · intro x6 x8
    refine V_ild5 a_X11_tightest_6 ?_
    refine V_iconst a_X11_tightest_8 ?_
    refine V_aldn0 a_X11_tightest_9 ?_
    refine V_fin a_X11_tightest_10 f_X11_7 rfl hW ?_
    refine V_bipush a_X11_tightest_13 (by decide) ?_
    refine V_w a_X11_tightest_15 (by omega) hA ?_
    refine V_l2i a_X11_tightest_16 ?_
    refine V_ishl a_X11_tightest_17 (by omega) ?_
    refine V_icmp_ge_t a_X11_tightest_18 (by omega) (by omega) ?_
    refine V_ild4 a_X11_tightest_96 ?_
    exact V_iret a_X11_tightest_98 (⟨rfl, rfl⟩)
  · intro set s0 s1 ih x6 x8
    rw [show set + 1 - 1 = (set - 1) + 1 by omega, itr_s _ (by omega)] at ih
    have hbb := tg_bd (f := unr A l s) (n := A 7) (q := q) (k := set - 1) (by omega)
    generalize itr (tgS (unr A l s) (A 7) q) (set - 1) 0 = b at hbb ih ⊢
    unfold tgS at ih
    rw [show set - 1 + 1 = set by omega] at ih
    have hsz := sz_bd set
    have hsm := smI_bd hI (l := l) (s := s) (set := set) (by omega) (by omega)
    have hszb := sz_bd b
    have hsmb := smI_bd hI (l := l) (s := s) (set := b) (by omega) (by omega)
    have rs := R_sumIn (set := set) h (by omega) hl hs
    have rb := R_sumIn (set := b) h (by omega) hl hs
    have z1 := R_sizeOf (σ := σ) (set := set) (by omega)
    have z2 := R_sizeOf (σ := σ) (set := b) (by omega)
    by_cases q1 : smI (unr A l s) (A 7) set < q
    · rw [if_pos q1] at ih
      refine V_ild5 a_X11_tightest_6 ?_
      refine V_iconst a_X11_tightest_8 ?_
      refine V_aldn0 a_X11_tightest_9 ?_
      refine V_fin a_X11_tightest_10 f_X11_7 rfl hW ?_
      refine V_bipush a_X11_tightest_13 (by decide) ?_
      refine V_w a_X11_tightest_15 (by omega) hA ?_
      refine V_l2i a_X11_tightest_16 ?_
      refine V_ishl a_X11_tightest_17 (by omega) ?_
      refine V_icmp_ge_f a_X11_tightest_18 (by omega) (by omega) ?_
      refine V_aldn0 a_X11_tightest_21 ?_
      refine V_ild5 a_X11_tightest_22 ?_
      refine V_ildn1 a_X11_tightest_24 ?_
      refine V_ildn2 a_X11_tightest_25 ?_
      refine V_v3R a_X11_tightest_26 c_X11_417 rs ?_
      refine V_lst6 a_X11_tightest_29 ?_
      refine V_lld6 a_X11_tightest_31 ?_
      refine V_ildn3 a_X11_tightest_33 ?_
      refine V_i2l a_X11_tightest_34 (by omega) ?_
      refine V_lc_ge_f a_X11_tightest_35 a_X11_tightest_36 (by omega) (by omega) ?_
      refine V_goto a_X11_tightest_39 ?_
      refine V_inc5 a_X11_tightest_90 ?_
      refine V_goto a_X11_tightest_93 ?_
      exact ih _ _
    · rw [if_neg q1] at ih
      by_cases q2 : b = 0
      · rw [if_pos (Or.inl q2)] at ih
        refine V_ild5 a_X11_tightest_6 ?_
        refine V_iconst a_X11_tightest_8 ?_
        refine V_aldn0 a_X11_tightest_9 ?_
        refine V_fin a_X11_tightest_10 f_X11_7 rfl hW ?_
        refine V_bipush a_X11_tightest_13 (by decide) ?_
        refine V_w a_X11_tightest_15 (by omega) hA ?_
        refine V_l2i a_X11_tightest_16 ?_
        refine V_ishl a_X11_tightest_17 (by omega) ?_
        refine V_icmp_ge_f a_X11_tightest_18 (by omega) (by omega) ?_
        refine V_aldn0 a_X11_tightest_21 ?_
        refine V_ild5 a_X11_tightest_22 ?_
        refine V_ildn1 a_X11_tightest_24 ?_
        refine V_ildn2 a_X11_tightest_25 ?_
        refine V_v3R a_X11_tightest_26 c_X11_417 rs ?_
        refine V_lst6 a_X11_tightest_29 ?_
        refine V_lld6 a_X11_tightest_31 ?_
        refine V_ildn3 a_X11_tightest_33 ?_
        refine V_i2l a_X11_tightest_34 (by omega) ?_
        refine V_lc_ge_t a_X11_tightest_35 a_X11_tightest_36 (by omega) (by omega) ?_
        refine V_aldn0 a_X11_tightest_42 ?_
        refine V_ild4 a_X11_tightest_43 ?_
        refine V_ildn1 a_X11_tightest_45 ?_
        refine V_ildn2 a_X11_tightest_46 ?_
        refine V_v3R a_X11_tightest_47 c_X11_417 rb ?_
        refine V_lst8 a_X11_tightest_50 ?_
        refine V_ild4 a_X11_tightest_52 ?_
        refine V_if_eq_t a_X11_tightest_54 (by omega) (by omega) ?_
        refine V_ild5 a_X11_tightest_86 ?_
        refine V_ist4 a_X11_tightest_88 ?_
        refine V_inc5 a_X11_tightest_90 ?_
        refine V_goto a_X11_tightest_93 ?_
        exact ih _ _
      · by_cases q3 : smI (unr A l s) (A 7) set < smI (unr A l s) (A 7) b
        · rw [if_pos (Or.inr (Or.inl q3))] at ih
          refine V_ild5 a_X11_tightest_6 ?_
          refine V_iconst a_X11_tightest_8 ?_
          refine V_aldn0 a_X11_tightest_9 ?_
          refine V_fin a_X11_tightest_10 f_X11_7 rfl hW ?_
          refine V_bipush a_X11_tightest_13 (by decide) ?_
          refine V_w a_X11_tightest_15 (by omega) hA ?_
          refine V_l2i a_X11_tightest_16 ?_
          refine V_ishl a_X11_tightest_17 (by omega) ?_
          refine V_icmp_ge_f a_X11_tightest_18 (by omega) (by omega) ?_
          refine V_aldn0 a_X11_tightest_21 ?_
          refine V_ild5 a_X11_tightest_22 ?_
          refine V_ildn1 a_X11_tightest_24 ?_
          refine V_ildn2 a_X11_tightest_25 ?_
          refine V_v3R a_X11_tightest_26 c_X11_417 rs ?_
          refine V_lst6 a_X11_tightest_29 ?_
          refine V_lld6 a_X11_tightest_31 ?_
          refine V_ildn3 a_X11_tightest_33 ?_
          refine V_i2l a_X11_tightest_34 (by omega) ?_
          refine V_lc_ge_t a_X11_tightest_35 a_X11_tightest_36 (by omega) (by omega) ?_
          refine V_aldn0 a_X11_tightest_42 ?_
          refine V_ild4 a_X11_tightest_43 ?_
          refine V_ildn1 a_X11_tightest_45 ?_
          refine V_ildn2 a_X11_tightest_46 ?_
          refine V_v3R a_X11_tightest_47 c_X11_417 rb ?_
          refine V_lst8 a_X11_tightest_50 ?_
          refine V_ild4 a_X11_tightest_52 ?_
          refine V_if_eq_f a_X11_tightest_54 (by omega) (by omega) ?_
          refine V_lld6 a_X11_tightest_57 ?_
          refine V_lld8 a_X11_tightest_59 ?_
          refine V_lc_lt_t a_X11_tightest_61 a_X11_tightest_62 (by omega) (by omega) ?_
          refine V_ild5 a_X11_tightest_86 ?_
          refine V_ist4 a_X11_tightest_88 ?_
          refine V_inc5 a_X11_tightest_90 ?_
          refine V_goto a_X11_tightest_93 ?_
          exact ih _ _
        · by_cases q4 : smI (unr A l s) (A 7) set = smI (unr A l s) (A 7) b
          · by_cases q5 : szI set < szI b
            · rw [if_pos (Or.inr (Or.inr ⟨q4, q5⟩))] at ih
              refine V_ild5 a_X11_tightest_6 ?_
              refine V_iconst a_X11_tightest_8 ?_
              refine V_aldn0 a_X11_tightest_9 ?_
              refine V_fin a_X11_tightest_10 f_X11_7 rfl hW ?_
              refine V_bipush a_X11_tightest_13 (by decide) ?_
              refine V_w a_X11_tightest_15 (by omega) hA ?_
              refine V_l2i a_X11_tightest_16 ?_
              refine V_ishl a_X11_tightest_17 (by omega) ?_
              refine V_icmp_ge_f a_X11_tightest_18 (by omega) (by omega) ?_
              refine V_aldn0 a_X11_tightest_21 ?_
              refine V_ild5 a_X11_tightest_22 ?_
              refine V_ildn1 a_X11_tightest_24 ?_
              refine V_ildn2 a_X11_tightest_25 ?_
              refine V_v3R a_X11_tightest_26 c_X11_417 rs ?_
              refine V_lst6 a_X11_tightest_29 ?_
              refine V_lld6 a_X11_tightest_31 ?_
              refine V_ildn3 a_X11_tightest_33 ?_
              refine V_i2l a_X11_tightest_34 (by omega) ?_
              refine V_lc_ge_t a_X11_tightest_35 a_X11_tightest_36 (by omega) (by omega) ?_
              refine V_aldn0 a_X11_tightest_42 ?_
              refine V_ild4 a_X11_tightest_43 ?_
              refine V_ildn1 a_X11_tightest_45 ?_
              refine V_ildn2 a_X11_tightest_46 ?_
              refine V_v3R a_X11_tightest_47 c_X11_417 rb ?_
              refine V_lst8 a_X11_tightest_50 ?_
              refine V_ild4 a_X11_tightest_52 ?_
              refine V_if_eq_f a_X11_tightest_54 (by omega) (by omega) ?_
              refine V_lld6 a_X11_tightest_57 ?_
              refine V_lld8 a_X11_tightest_59 ?_
              refine V_lc_lt_f a_X11_tightest_61 a_X11_tightest_62 (by omega) (by omega) ?_
              refine V_lld6 a_X11_tightest_65 ?_
              refine V_lld8 a_X11_tightest_67 ?_
              refine V_lc_ne_f a_X11_tightest_69 a_X11_tightest_70 (by omega) (by omega) ?_
              refine V_ild5 a_X11_tightest_73 ?_
              refine V_s1R a_X11_tightest_75 c_X11_414 z1 ?_
              refine V_ild4 a_X11_tightest_78 ?_
              refine V_s1R a_X11_tightest_80 c_X11_414 z2 ?_
              refine V_icmp_ge_f a_X11_tightest_83 (by omega) (by omega) ?_
              refine V_ild5 a_X11_tightest_86 ?_
              refine V_ist4 a_X11_tightest_88 ?_
              refine V_inc5 a_X11_tightest_90 ?_
              refine V_goto a_X11_tightest_93 ?_
              exact ih _ _
            · rw [if_neg (fun z => by rcases z with y | y | y; exact q2 y; exact q3 y; exact q5 y.2)] at ih
              refine V_ild5 a_X11_tightest_6 ?_
              refine V_iconst a_X11_tightest_8 ?_
              refine V_aldn0 a_X11_tightest_9 ?_
              refine V_fin a_X11_tightest_10 f_X11_7 rfl hW ?_
              refine V_bipush a_X11_tightest_13 (by decide) ?_
              refine V_w a_X11_tightest_15 (by omega) hA ?_
              refine V_l2i a_X11_tightest_16 ?_
              refine V_ishl a_X11_tightest_17 (by omega) ?_
              refine V_icmp_ge_f a_X11_tightest_18 (by omega) (by omega) ?_
              refine V_aldn0 a_X11_tightest_21 ?_
              refine V_ild5 a_X11_tightest_22 ?_
              refine V_ildn1 a_X11_tightest_24 ?_
              refine V_ildn2 a_X11_tightest_25 ?_
              refine V_v3R a_X11_tightest_26 c_X11_417 rs ?_
              refine V_lst6 a_X11_tightest_29 ?_
              refine V_lld6 a_X11_tightest_31 ?_
              refine V_ildn3 a_X11_tightest_33 ?_
              refine V_i2l a_X11_tightest_34 (by omega) ?_
              refine V_lc_ge_t a_X11_tightest_35 a_X11_tightest_36 (by omega) (by omega) ?_
              refine V_aldn0 a_X11_tightest_42 ?_
              refine V_ild4 a_X11_tightest_43 ?_
              refine V_ildn1 a_X11_tightest_45 ?_
              refine V_ildn2 a_X11_tightest_46 ?_
              refine V_v3R a_X11_tightest_47 c_X11_417 rb ?_
              refine V_lst8 a_X11_tightest_50 ?_
              refine V_ild4 a_X11_tightest_52 ?_
              refine V_if_eq_f a_X11_tightest_54 (by omega) (by omega) ?_
              refine V_lld6 a_X11_tightest_57 ?_
              refine V_lld8 a_X11_tightest_59 ?_
              refine V_lc_lt_f a_X11_tightest_61 a_X11_tightest_62 (by omega) (by omega) ?_
              refine V_lld6 a_X11_tightest_65 ?_
              refine V_lld8 a_X11_tightest_67 ?_
              refine V_lc_ne_f a_X11_tightest_69 a_X11_tightest_70 (by omega) (by omega) ?_
              refine V_ild5 a_X11_tightest_73 ?_
              refine V_s1R a_X11_tightest_75 c_X11_414 z1 ?_
              refine V_ild4 a_X11_tightest_78 ?_
              refine V_s1R a_X11_tightest_80 c_X11_414 z2 ?_
              refine V_icmp_ge_t a_X11_tightest_83 (by omega) (by omega) ?_
              refine V_inc5 a_X11_tightest_90 ?_
              refine V_goto a_X11_tightest_93 ?_
              exact ih _ _
          · rw [if_neg (fun z => by rcases z with y | y | y; exact q2 y; exact q3 y; exact q4 y.1)] at ih
            refine V_ild5 a_X11_tightest_6 ?_
            refine V_iconst a_X11_tightest_8 ?_
            refine V_aldn0 a_X11_tightest_9 ?_
            refine V_fin a_X11_tightest_10 f_X11_7 rfl hW ?_
            refine V_bipush a_X11_tightest_13 (by decide) ?_
            refine V_w a_X11_tightest_15 (by omega) hA ?_
            refine V_l2i a_X11_tightest_16 ?_
            refine V_ishl a_X11_tightest_17 (by omega) ?_
            refine V_icmp_ge_f a_X11_tightest_18 (by omega) (by omega) ?_
            refine V_aldn0 a_X11_tightest_21 ?_
            refine V_ild5 a_X11_tightest_22 ?_
            refine V_ildn1 a_X11_tightest_24 ?_
            refine V_ildn2 a_X11_tightest_25 ?_
            refine V_v3R a_X11_tightest_26 c_X11_417 rs ?_
            refine V_lst6 a_X11_tightest_29 ?_
            refine V_lld6 a_X11_tightest_31 ?_
            refine V_ildn3 a_X11_tightest_33 ?_
            refine V_i2l a_X11_tightest_34 (by omega) ?_
            refine V_lc_ge_t a_X11_tightest_35 a_X11_tightest_36 (by omega) (by omega) ?_
            refine V_aldn0 a_X11_tightest_42 ?_
            refine V_ild4 a_X11_tightest_43 ?_
            refine V_ildn1 a_X11_tightest_45 ?_
            refine V_ildn2 a_X11_tightest_46 ?_
            refine V_v3R a_X11_tightest_47 c_X11_417 rb ?_
            refine V_lst8 a_X11_tightest_50 ?_
            refine V_ild4 a_X11_tightest_52 ?_
            refine V_if_eq_f a_X11_tightest_54 (by omega) (by omega) ?_
            refine V_lld6 a_X11_tightest_57 ?_
            refine V_lld8 a_X11_tightest_59 ?_
            refine V_lc_lt_f a_X11_tightest_61 a_X11_tightest_62 (by omega) (by omega) ?_
            refine V_lld6 a_X11_tightest_65 ?_
            refine V_lld8 a_X11_tightest_67 ?_
            refine V_lc_ne_t a_X11_tightest_69 a_X11_tightest_70 (by omega) (by omega) ?_
            refine V_inc5 a_X11_tightest_90 ?_
            refine V_goto a_X11_tightest_93 ?_
            exact ih _ _
theorem R_tightestSum {l s q : Int} (h : Md D σ A) (hl : iR l) (hs : iR s) (hq : iR q) : (rclC A l s q = 0 → Rt m_X11_tightestSum 4 0 0 [vR (some (11, 0)), vI l, vI s, vI q] σ (some (vI (smI (unr A l s) (A 7) (tgA (unr A l s) (A 7) q)))) (σ.th 0)) ∧ (rclC A l s q ≠ 0 → Rt m_X11_tightestSum 4 0 0 [vR (some (11, 0)), vI l, vI s, vI q] σ (some (vI 0)) (σ.th (rclC A l s q))) := by
  have hn := h.2.2.2.n
  obtain ⟨z, hz, r1⟩ := B_isNoSet h hl hs hq
  refine ⟨fun e => ?_, fun e => ?_⟩
  · rw [if_pos e] at hz
    subst hz
    rw [e] at r1
    obtain ⟨h1, h2, h3⟩ := rcl_0 e
    have hm : Md D (σ.th 0) A := h
    have hp2 := p2_12 (n := A 7) (by omega) (by omega)
    have hb : 0 ≤ tgA (unr A l s) (A 7) q ∧ tgA (unr A l s) (A 7) q ≤ p2 (A 7) - 1 := tg_bd (by omega)
    show V _ 4 0 0 0 [some (vR (some (11, 0))), some (vI l), some (vI s), some (vI q)] [] σ _
    refine V_aldn0 a_X11_tightestSum_0 ?_
    refine V_ildn1 a_X11_tightestSum_1 ?_
    refine V_ildn2 a_X11_tightestSum_2 ?_
    refine V_ildn3 a_X11_tightestSum_3 ?_
    refine V_v3R a_X11_tightestSum_4 c_X11_411 r1 ?_
    refine V_if_eq_t a_X11_tightestSum_7 (by omega) (by omega) ?_
    refine V_aldn0 a_X11_tightestSum_14 ?_
    refine V_aldn0 a_X11_tightestSum_15 ?_
    refine V_ildn1 a_X11_tightestSum_16 ?_
    refine V_ildn2 a_X11_tightestSum_17 ?_
    refine V_ildn3 a_X11_tightestSum_18 ?_
    refine V_v3R a_X11_tightestSum_19 c_X11_421 (R_tightest hm (by omega) (by omega) (by omega)) ?_
    refine V_ildn1 a_X11_tightestSum_22 ?_
    refine V_ildn2 a_X11_tightestSum_23 ?_
    refine V_v3R a_X11_tightestSum_24 c_X11_417 (R_sumIn hm (by omega) (by omega) (by omega)) ?_
    refine V_l2i a_X11_tightestSum_27 ?_
    exact V_iret a_X11_tightestSum_28 (⟨rfl, rfl⟩)
  · rw [if_neg e] at hz
    subst hz
    show V _ 4 0 0 0 [some (vR (some (11, 0))), some (vI l), some (vI s), some (vI q)] [] σ _
    refine V_aldn0 a_X11_tightestSum_0 ?_
    refine V_ildn1 a_X11_tightestSum_1 ?_
    refine V_ildn2 a_X11_tightestSum_2 ?_
    refine V_ildn3 a_X11_tightestSum_3 ?_
    refine V_v3R a_X11_tightestSum_4 c_X11_411 r1 ?_
    refine V_if_eq_f a_X11_tightestSum_7 (by omega) (by omega) ?_
    refine V_iconst a_X11_tightestSum_10 ?_
    refine V_goto a_X11_tightestSum_11 ?_
    exact V_iret a_X11_tightestSum_28 (⟨rfl, rfl⟩)
theorem R_tightestLoans {l s q : Int} (h : Md D σ A) (hl : iR l) (hs : iR s) (hq : iR q) : (rclC A l s q = 0 → Rt m_X11_tightestLoans 4 0 0 [vR (some (11, 0)), vI l, vI s, vI q] σ (some (vI (tgA (unr A l s) (A 7) q))) (σ.th 0)) ∧ (rclC A l s q ≠ 0 → Rt m_X11_tightestLoans 4 0 0 [vR (some (11, 0)), vI l, vI s, vI q] σ (some (vI 0)) (σ.th (rclC A l s q))) := by
  have hn := h.2.2.2.n
  obtain ⟨z, hz, r1⟩ := B_isNoSet h hl hs hq
  refine ⟨fun e => ?_, fun e => ?_⟩
  · rw [if_pos e] at hz
    subst hz
    rw [e] at r1
    obtain ⟨h1, h2, h3⟩ := rcl_0 e
    have hm : Md D (σ.th 0) A := h
    show V _ 4 0 0 0 [some (vR (some (11, 0))), some (vI l), some (vI s), some (vI q)] [] σ _
    refine V_aldn0 a_X11_tightestLoans_0 ?_
    refine V_ildn1 a_X11_tightestLoans_1 ?_
    refine V_ildn2 a_X11_tightestLoans_2 ?_
    refine V_ildn3 a_X11_tightestLoans_3 ?_
    refine V_v3R a_X11_tightestLoans_4 c_X11_411 r1 ?_
    refine V_if_eq_t a_X11_tightestLoans_7 (by omega) (by omega) ?_
    refine V_aldn0 a_X11_tightestLoans_14 ?_
    refine V_ildn1 a_X11_tightestLoans_15 ?_
    refine V_ildn2 a_X11_tightestLoans_16 ?_
    refine V_ildn3 a_X11_tightestLoans_17 ?_
    refine V_v3R a_X11_tightestLoans_18 c_X11_421 (R_tightest hm (by omega) (by omega) (by omega)) ?_
    exact V_iret a_X11_tightestLoans_21 (⟨rfl, rfl⟩)
  · rw [if_neg e] at hz
    subst hz
    show V _ 4 0 0 0 [some (vR (some (11, 0))), some (vI l), some (vI s), some (vI q)] [] σ _
    refine V_aldn0 a_X11_tightestLoans_0 ?_
    refine V_ildn1 a_X11_tightestLoans_1 ?_
    refine V_ildn2 a_X11_tightestLoans_2 ?_
    refine V_ildn3 a_X11_tightestLoans_3 ?_
    refine V_v3R a_X11_tightestLoans_4 c_X11_411 r1 ?_
    refine V_if_eq_f a_X11_tightestLoans_7 (by omega) (by omega) ?_
    refine V_iconst a_X11_tightestLoans_10 ?_
    refine V_goto a_X11_tightestLoans_11 ?_
    exact V_iret a_X11_tightestLoans_21 (⟨rfl, rfl⟩)
end Se

