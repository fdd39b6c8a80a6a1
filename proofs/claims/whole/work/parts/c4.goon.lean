section Go
variable {D : Int} {σ : Hp} {A B : St} {i : Nat} {k l n v : Int}
theorem pD_up (hb : 0 ≤ A (83 + 23 * k + 1) ∧ A (83 + 23 * k + 1) < 4) (hl : 0 ≤ l ∧ l < 6) : upI (upI (upI (upI B (79 + A (83 + 23 * k + 1)) (B (79 + A (83 + 23 * k + 1)) - feeV A k v * n)) (73 + l) (B (73 + l) + kepV A k l v * n)) 12 (B 12 + (feeV A k v - kepV A k l v) * n)) 9 (B 9 + feeV A k v * n) = adD B (pD A k l v n) := by
  funext j
  unfold adD pD
  by_cases c1 : j = 79 + A (83 + 23 * k + 1)
  · rw [if_pos c1, c1, upI_ne (by omega), upI_ne (by omega), upI_ne (by omega), upI_eq]
    omega
  · rw [if_neg c1]
    by_cases c2 : j = 73 + l
    · rw [if_pos c2, c2, upI_ne (by omega), upI_ne (by omega), upI_eq]
    · rw [if_neg c2]
      by_cases c3 : j = 12
      · rw [if_pos c3, c3, upI_ne (by omega), upI_eq]
      · rw [if_neg c3]
        by_cases c4 : j = 9
        · rw [if_pos c4, c4, upI_eq]
        · rw [if_neg c4, upI_ne c4, upI_ne c3, upI_ne c2, upI_ne c1, Int.add_zero]
theorem feeV_bd (hI : Inv D A) (hk : 0 ≤ k ∧ k < A 7) (hv : 0 ≤ v ∧ v ≤ 99999) : (0 ≤ v * A (15 + A (83 + 23 * k + 2)) ∧ v * A (15 + A (83 + 23 * k + 2)) ≤ 99999 * 9999) ∧ (-(99999 * 9999 * 9999) ≤ v * A (15 + A (83 + 23 * k + 2)) * (A (19 + A (83 + 23 * k + 2)) - A (83 + 23 * k + 3)) ∧ v * A (15 + A (83 + 23 * k + 2)) * (A (19 + A (83 + 23 * k + 2)) - A (83 + 23 * k + 3)) ≤ 99999 * 9999 * 9999) ∧ (-(99999 * 9999 * 9999) ≤ feeV A k v ∧ feeV A k v ≤ 99999 * 9999 * 9999) := by
  obtain ⟨-, -, q2, q3, -, q5⟩ := hI.loan hk.1 hk.2
  have hp := hI.price q2.1 q2.2
  have h1 := mul_bd (a := v) (b := A (15 + A (83 + 23 * k + 2))) (M := 99999) (N := 9999) (by omega) hv.2 (by omega) hp.1.2
  have h2 := mul_abs (N := 9999) h1.1 h1.2 (b := A (19 + A (83 + 23 * k + 2)) - A (83 + 23 * k + 3)) (by omega)
  exact ⟨h1, h2, tdiv_abs h2 (by decide)⟩
/-- what the cells of a pool say, as far as days do not change them -/
theorem stRel (hI : Inv D A) (hR : Rel σ i B) (st : Sta A B) (hk : 0 ≤ k ∧ k < A 7) (hl : 0 ≤ l ∧ l < A 1) : (σ.I 3 (lid σ i k) 1 = A (83 + 23 * k + 1) ∧ σ.I 3 (lid σ i k) 2 = A (83 + 23 * k + 2) ∧ σ.I 3 (lid σ i k) 3 = A (83 + 23 * k + 3)) ∧ (σ.I 37 i (A (83 + 23 * k + 2)) = A (15 + A (83 + 23 * k + 2)) ∧ σ.I 38 i (A (83 + 23 * k + 2)) = A (19 + A (83 + 23 * k + 2))) ∧ σ.I 40 i l = A (27 + l) ∧ σ.I 36 i 8 = A 4 ∧ (B 0 = A 0 ∧ B 1 = A 1 ∧ B 2 = A 2 ∧ B 7 = A 7) := by
  have hn := hI.n
  have e0 := st.1 0 (by decide) (by decide) (by decide) (by decide)
  have e1 := st.1 1 (by decide) (by decide) (by decide) (by decide)
  have e2 := st.1 2 (by decide) (by decide) (by decide) (by decide)
  have e4 := st.1 4 (by decide) (by decide) (by decide) (by decide)
  have e7 := st.1 7 (by decide) (by decide) (by decide) (by decide)
  have q2 := (hI.loan hk.1 hk.2).2.2.1
  have lns := hR.lns k hk.1 (by omega)
  have s := hR.sec (s := A (83 + 23 * k + 2)) q2.1 (by omega)
  have d := (hR.lend hl.1 (by omega)).1
  rw [st.1 _ (by omega) (by omega) (by omega) (by omega), st.1 _ (by omega) (by omega) (by omega) (by omega)] at s
  rw [st.1 _ (by omega) (by omega) (by omega) (by omega)] at d
  exact ⟨⟨lns.2.1.trans (st.2 k 1 hk.1 (by decide) (by decide)), lns.2.2.1.trans (st.2 k 2 hk.1 (by decide) (by decide)), lns.2.2.2.1.trans (st.2 k 3 hk.1 (by decide) (by decide))⟩, s, d, hR.1.2.2.2.2.2.2.2.2.trans e4, e0, e1, e2, e7⟩
theorem R_feeV (hI : Inv D A) (hW : WF σ) (hR : Rel σ i B) (st : Sta A B) (hk : 0 ≤ k ∧ k < A 7) (hl : 0 ≤ l ∧ l < A 1) (hv : B (83 + 23 * k + 5 + l) = v) (v01 : 0 ≤ v ∧ v ≤ 99999) : Rt m_X6_feeOf 0 0 0 [vR (some (6, i)), vR (some (3, lid σ i k)), vI l] σ (some (vL (feeV A k v))) σ := by
  have hn := hI.n
  obtain ⟨⟨g1, g2, g3⟩, ⟨e37, e38⟩, -, -, z0, z1, z2, z7⟩ := stRel hI hR st hk hl
  have g30 := ((hR.lns k hk.1 (by omega)).2.2.2.2.2 l hl.1 (by omega)).1
  rw [hv] at g30
  obtain ⟨-, -, q2, q3, -, q5⟩ := hI.loan hk.1 hk.2
  have hp := hI.price q2.1 q2.2
  have hf := feeV_bd hI hk v01
  show V _ 0 0 0 0 [some (vR (some (6, i))), some (vR (some (3, lid σ i k))), some (vI l), none] [] σ _
  refine V_aldn1 a_X6_feeOf_0 ?_
  refine V_getIE a_X6_feeOf_1 f_X6_76 rfl g2 ?_
  refine V_istn3 a_X6_feeOf_4 ?_
  refine V_aldn1 a_X6_feeOf_5 ?_
  refine V_fin a_X6_feeOf_6 f_X6_80 rfl hW ?_
  refine V_ildn2 a_X6_feeOf_9 ?_
  refine V_ialdE a_X6_feeOf_10 rfl (by omega) g30 ?_
  refine V_i2l a_X6_feeOf_11 (by omega) ?_
  refine V_aldn0 a_X6_feeOf_12 ?_
  refine V_fin a_X6_feeOf_13 f_X6_15 rfl hW ?_
  refine V_ildn3 a_X6_feeOf_16 ?_
  refine V_ialdE a_X6_feeOf_17 rfl (by omega) e37 ?_
  refine V_i2l a_X6_feeOf_18 (by omega) ?_
  refine V_lmul a_X6_feeOf_19 ?_
  refine V_aldn0 a_X6_feeOf_20 ?_
  refine V_fin a_X6_feeOf_21 f_X6_18 rfl hW ?_
  refine V_ildn3 a_X6_feeOf_24 ?_
  refine V_ialdE a_X6_feeOf_25 rfl (by omega) e38 ?_
  refine V_aldn1 a_X6_feeOf_26 ?_
  refine V_getIE a_X6_feeOf_27 f_X6_119 rfl g3 ?_
  refine V_isub a_X6_feeOf_30 ?_
  refine V_i2l a_X6_feeOf_31 (by omega) ?_
  refine V_lmul a_X6_feeOf_32 ?_
  refine V_ldc2 a_X6_feeOf_33 q_X6_122 ?_
  refine V_ldiv a_X6_feeOf_36 (by omega) ?_
  exact V_lret a_X6_feeOf_37 (⟨rfl, rfl⟩)
theorem R_chargeFees (hI : Inv D A) (hW : WF σ) (hR : Rel σ i B) (st : Sta A B) (hk : 0 ≤ k ∧ k < A 7) (hl : 0 ≤ l ∧ l < A 1) (hv : B (83 + 23 * k + 5 + l) = v) (v01 : 0 ≤ v ∧ v ≤ 99999) (hd : -100 ≤ n ∧ n ≤ 500) : Cv m_X1_chargeFees 1 0 0 [vR (some (1, 0)), vR (some (6, i)), vR (some (3, lid σ i k)), vI l, vI n] σ none (fun τ => FJ i σ τ ∧ Rel τ i (adD B (pD A k l v n))) := by
  have hn := hI.n
  have rf := R_feeV hI hW hR st hk hl hv v01
  obtain ⟨⟨g1, g2, g3⟩, -, g40, -, z0, z1, z2, z7⟩ := stRel hI hR st hk hl
  obtain ⟨-, q1, q2, q3, -, q5⟩ := hI.loan hk.1 hk.2
  have hf := (feeV_bd hI hk v01).2.2
  have hsp := (hI.lend hl.1 hl.2).1
  have ho := mul_abs (N := 99999 * 9999 * 9999) hsp.1 hsp.2 hf
  rw [Int.mul_comm (A (27 + l))] at ho
  have j1 := relJ_bal (p := 6 + A (83 + 23 * k + 1)) (v := B (79 + A (83 + 23 * k + 1)) - feeV A k v * n) hR.acc (by omega)
  rw [acI_b (by omega)] at j1
  have j2 := relJ_bal (p := l) (v := B (73 + l) + kepV A k l v * n) j1 (by omega)
  rw [acI_l (by omega)] at j2
  have j3 := relJ_bal (p := 10) (v := B 12 + (feeV A k v - kepV A k l v) * n) j2 (by omega)
  rw [show acI 10 = 12 from rfl] at j3
  have j4 := relJ_sum (c := 0) (v := B 9 + feeV A k v * n) j3 (by omega)
  rw [show (9 : Int) + 0 = 9 from rfl, pD_up (by omega) (by omega)] at j4
  have gb : σ.J 45 i (6 + A (83 + 23 * k + 1)) = B (79 + A (83 + 23 * k + 1)) := hR.acc.1.2.1 _ (by omega) (by omega)
  have gl := j1.1.1 l hl.1 (by omega)
  rw [upI_ne (by omega)] at gl
  have gt := j2.1.2.2.1
  rw [upI_ne (by omega), upI_ne (by omega)] at gt
  have g9 := j3.2.1
  rw [upI_ne (by omega), upI_ne (by omega), upI_ne (by omega)] at g9
  have fj : FJ i σ ((((σ.setJ 45 i (6 + A (83 + 23 * k + 1)) (B (79 + A (83 + 23 * k + 1)) - feeV A k v * n)).setJ 45 i l (B (73 + l) + kepV A k l v * n)).setJ 45 i 10 (B 12 + (feeV A k v - kepV A k l v) * n)).setJ 46 i 0 (B 9 + feeV A k v * n)) := ((FJ.bal.trans FJ.bal).trans FJ.bal).trans FJ.sum
  have rl := rel_J (B := adD B (pD A k l v n)) hR (by rw [z0, z1, z2]; omega) fj.1 fj.2.2.1 (fun j c1 c2 => by
    unfold adD
    rw [pD_0 (by omega) (by omega) (by omega) (by omega), Int.add_zero]) j4
  unfold kepV at *
  show V _ 1 0 0 0 [some (vR (some (1, 0))), some (vR (some (6, i))), some (vR (some (3, lid σ i k))), some (vI l), some (vI n), none, none, none, none] [] σ _
  refine V_aldn1 a_X1_chargeFees_0 ?_
  refine V_aldn2 a_X1_chargeFees_1 ?_
  refine V_ildn3 a_X1_chargeFees_2 ?_
  refine V_v2R a_X1_chargeFees_3 c_X1_164 rf ?_
  refine V_lst5 a_X1_chargeFees_6 ?_
  refine V_lld5 a_X1_chargeFees_8 ?_
  refine V_aldn1 a_X1_chargeFees_10 ?_
  refine V_fin a_X1_chargeFees_11 f_X1_168 rfl hW ?_
  refine V_ildn3 a_X1_chargeFees_14 ?_
  refine V_ialdE a_X1_chargeFees_15 rfl (by omega) g40 ?_
  refine V_i2l a_X1_chargeFees_16 (by omega) ?_
  refine V_lmul a_X1_chargeFees_17 ?_
  refine V_ldc2 a_X1_chargeFees_18 q_X1_171 ?_
  refine V_ldiv a_X1_chargeFees_21 (by omega) ?_
  refine V_lst7 a_X1_chargeFees_22 ?_
  refine V_aldn1 a_X1_chargeFees_24 ?_
  refine V_fin a_X1_chargeFees_25 f_X1_173 rfl hW ?_
  refine V_bipush a_X1_chargeFees_28 (by decide) ?_
  refine V_aldn2 a_X1_chargeFees_30 ?_
  refine V_getIE a_X1_chargeFees_31 f_X1_176 rfl g1 ?_
  refine V_iadd a_X1_chargeFees_34 ?_
  first | refine V_dup2IR a_X1_chargeFees_35 ?_ | refine V_dup2L a_X1_chargeFees_35 ?_
  refine V_laldE a_X1_chargeFees_36 rfl (by omega) gb ?_
  refine V_lld5 a_X1_chargeFees_37 ?_
  refine V_ild4 a_X1_chargeFees_39 ?_
  refine V_i2l a_X1_chargeFees_41 (by omega) ?_
  refine V_lmul a_X1_chargeFees_42 ?_
  refine V_lsub a_X1_chargeFees_43 ?_
  refine V_last a_X1_chargeFees_44 rfl (by omega) ?_
  refine V_aldn1 a_X1_chargeFees_45 ?_
  refine V_fin a_X1_chargeFees_46 f_X1_173 rfl hW ?_
  refine V_ildn3 a_X1_chargeFees_49 ?_
  first | refine V_dup2IR a_X1_chargeFees_50 ?_ | refine V_dup2L a_X1_chargeFees_50 ?_
  refine V_laldE a_X1_chargeFees_51 rfl (by omega) gl ?_
  refine V_lld7 a_X1_chargeFees_52 ?_
  refine V_ild4 a_X1_chargeFees_54 ?_
  refine V_i2l a_X1_chargeFees_56 (by omega) ?_
  refine V_lmul a_X1_chargeFees_57 ?_
  refine V_ladd a_X1_chargeFees_58 ?_
  refine V_last a_X1_chargeFees_59 rfl (by omega) ?_
  refine V_aldn1 a_X1_chargeFees_60 ?_
  refine V_fin a_X1_chargeFees_61 f_X1_173 rfl hW ?_
  refine V_bipush a_X1_chargeFees_64 (by decide) ?_
  first | refine V_dup2IR a_X1_chargeFees_66 ?_ | refine V_dup2L a_X1_chargeFees_66 ?_
  refine V_laldE a_X1_chargeFees_67 rfl (by omega) gt ?_
  refine V_lld5 a_X1_chargeFees_68 ?_
  refine V_lld7 a_X1_chargeFees_70 ?_
  refine V_lsub a_X1_chargeFees_72 ?_
  refine V_ild4 a_X1_chargeFees_73 ?_
  refine V_i2l a_X1_chargeFees_75 (by omega) ?_
  refine V_lmul a_X1_chargeFees_76 ?_
  refine V_ladd a_X1_chargeFees_77 ?_
  refine V_last a_X1_chargeFees_78 rfl (by omega) ?_
  refine V_aldn1 a_X1_chargeFees_79 ?_
  refine V_fin a_X1_chargeFees_80 f_X1_137 rfl hW ?_
  refine V_iconst a_X1_chargeFees_83 ?_
  first | refine V_dup2IR a_X1_chargeFees_84 ?_ | refine V_dup2L a_X1_chargeFees_84 ?_
  refine V_laldE a_X1_chargeFees_85 rfl (by omega) g9 ?_
  refine V_lld5 a_X1_chargeFees_86 ?_
  refine V_ild4 a_X1_chargeFees_88 ?_
  refine V_i2l a_X1_chargeFees_90 (by omega) ?_
  refine V_lmul a_X1_chargeFees_91 ?_
  refine V_ladd a_X1_chargeFees_92 ?_
  refine V_last a_X1_chargeFees_93 rfl (by omega) ?_
  exact V_ret a_X1_chargeFees_94 (⟨rfl, fj, rl⟩)
/-- a buy-in, but for the sum of what is bought in -/
def bN (A : St) (k l j : Int) : Int := if j = 10 then 0 else bD A k l j
theorem bN_up (hk : 0 ≤ k) (hb : 0 ≤ A (83 + 23 * k + 1) ∧ A (83 + 23 * k + 1) < 4) (hl : 0 ≤ l ∧ l < 6) (b1 : B (83 + 23 * k + 5 + l) = A (83 + 23 * k + 5 + l)) (b2 : B (83 + 23 * k + 11 + l) = A (83 + 23 * k + 11 + l)) (b3 : B (83 + 23 * k + 17 + l) = A (83 + 23 * k + 17 + l)) : cbA (upI (upI B (79 + A (83 + 23 * k + 1)) (B (79 + A (83 + 23 * k + 1)) - costA A k l)) 14 (B 14 + costA A k l)) k l (A (83 + 23 * k + 11 + l)) = adD B (bN A k l) := by
  have u : ∀ j, 83 ≤ j → upI (upI B (79 + A (83 + 23 * k + 1)) (B (79 + A (83 + 23 * k + 1)) - costA A k l)) 14 (B 14 + costA A k l) j = B j := fun j hj => by rw [upI_ne (by omega), upI_ne (by omega)]
  have e2 : cbA (upI (upI B (79 + A (83 + 23 * k + 1)) (B (79 + A (83 + 23 * k + 1)) - costA A k l)) 14 (B 14 + costA A k l)) k l (A (83 + 23 * k + 11 + l)) = upI (upI (upI (upI (upI B (79 + A (83 + 23 * k + 1)) (B (79 + A (83 + 23 * k + 1)) - costA A k l)) 14 (B 14 + costA A k l)) (83 + 23 * k + 5 + l) (B (83 + 23 * k + 5 + l) - A (83 + 23 * k + 11 + l))) (83 + 23 * k + 11 + l) (B (83 + 23 * k + 11 + l) - A (83 + 23 * k + 11 + l))) (83 + 23 * k + 17 + l) (-1) := by
    unfold cbA
    rw [u (83 + 23 * k + 11 + l) (by omega), u (83 + 23 * k + 5 + l) (by omega), if_pos (by rw [b2]; exact Int.sub_self _)]
  rw [e2]
  funext j
  unfold adD bN bD
  by_cases c6 : j = 83 + 23 * k + 17 + l
  · rw [c6, upI_eq, if_neg (by omega), if_neg (by omega), if_neg (by omega), if_neg (by omega), if_neg (by omega), if_neg (by omega), if_pos rfl, b3]
    omega
  · rw [upI_ne c6]
    by_cases c5 : j = 83 + 23 * k + 11 + l
    · rw [c5, upI_eq, if_neg (by omega), if_neg (by omega), if_neg (by omega), if_neg (by omega), if_neg (by omega), if_pos rfl]
      omega
    · rw [upI_ne c5]
      by_cases c4 : j = 83 + 23 * k + 5 + l
      · rw [c4, upI_eq, if_neg (by omega), if_neg (by omega), if_neg (by omega), if_neg (by omega), if_pos rfl]
        omega
      · rw [upI_ne c4]
        by_cases c2 : j = 14
        · rw [c2, upI_eq, if_neg (by omega), if_neg (by omega), if_pos rfl]
        · rw [upI_ne c2]
          by_cases c1 : j = 79 + A (83 + 23 * k + 1)
          · rw [c1, upI_eq, if_neg (by omega), if_pos rfl]
            omega
          · rw [upI_ne c1, if_neg c1, if_neg c2, if_neg c4, if_neg c5, if_neg c6]
            by_cases c3 : j = 10
            · rw [if_pos c3]
              omega
            · rw [if_neg c3, if_neg c3]
              omega
/-- what a slice's buy-in leaves of the heap -/
theorem slS_fp {τ : Hp} (hS : Shp σ i) (hk : 0 ≤ k ∧ k < 12) (f : FX (slS (lid σ i k)) σ τ) : Fp i σ τ := f.fp (fun t n z => by
  have := hS.1 k hk.1 hk.2
  unfold slS at z
  unfold plS
  omega)
theorem R_CbuyIn (hI : Inv D A) (hW : WF σ) (hR : Rel σ i B) (hS : Shp σ i) (st : Sta A B) (hk : 0 ≤ k ∧ k < A 7) (hl : 0 ≤ l ∧ l < A 1) (b1 : B (83 + 23 * k + 5 + l) = A (83 + 23 * k + 5 + l)) (b2 : B (83 + 23 * k + 11 + l) = A (83 + 23 * k + 11 + l)) (b3 : B (83 + 23 * k + 17 + l) = A (83 + 23 * k + 17 + l)) : Cv m_X1_buyIn 2 0 0 [vR (some (1, 0)), vR (some (6, i)), vR (some (3, lid σ i k)), vI l] σ none (fun τ => Fp i σ τ ∧ τ.P = σ.P ∧ Rel τ i (adD B (bN A k l))) := by
  have hn := hI.n
  obtain ⟨⟨g1, g2, g3⟩, ⟨e37, e38⟩, -, n8, z0, z1, z2, z7⟩ := stRel hI hR st hk hl
  obtain ⟨-, q1, q2, q3, -, q5⟩ := hI.loan hk.1 hk.2
  have hsl := (q5 l hl.1 (by omega)).1
  have hp := (hI.price q2.1 q2.2).1
  have lns := (hR.lns k hk.1 (by omega)).2.2.2.2.2
  have g31 := (lns l hl.1 (by omega)).2.1
  rw [b2] at g31
  have m1 := mul_bd (a := A (83 + 23 * k + 11 + l)) (b := A (15 + A (83 + 23 * k + 2))) (M := 99999) (N := 9999) (by omega) (by omega) (by omega) (by omega)
  have m2 := mul_bd (a := A (83 + 23 * k + 11 + l) * A (15 + A (83 + 23 * k + 2))) (b := 100 + A 4) (M := 99999 * 9999) (N := 200) (by omega) (by omega) (by omega) (by omega)
  have j1 := relJ_bal (p := 6 + A (83 + 23 * k + 1)) (v := B (79 + A (83 + 23 * k + 1)) - costA A k l) hR.acc (by omega)
  rw [acI_b (by omega)] at j1
  have j2 := relJ_bal (p := 12) (v := B 14 + costA A k l) j1 (by omega)
  rw [show acI 12 = 14 from rfl] at j2
  have gb : σ.J 45 i (6 + A (83 + 23 * k + 1)) = B (79 + A (83 + 23 * k + 1)) := hR.acc.1.2.1 _ (by omega) (by omega)
  have gt := j1.1.2.2.2.2
  rw [upI_ne (by omega)] at gt
  have fj : FJ i σ ((σ.setJ 45 i (6 + A (83 + 23 * k + 1)) (B (79 + A (83 + 23 * k + 1)) - costA A k l)).setJ 45 i 12 (B 14 + costA A k l)) := FJ.bal.trans FJ.bal
  have uu : ∀ j, ¬ (9 ≤ j ∧ j < 15) → ¬ (73 ≤ j ∧ j < 83) → upI (upI B (79 + A (83 + 23 * k + 1)) (B (79 + A (83 + 23 * k + 1)) - costA A k l)) 14 (B 14 + costA A k l) j = B j := fun j c1 c2 => by rw [upI_ne (by omega), upI_ne (by omega)]
  have rl := rel_J (B := upI (upI B (79 + A (83 + 23 * k + 1)) (B (79 + A (83 + 23 * k + 1)) - costA A k l)) 14 (B 14 + costA A k l)) hR (by rw [z0, z1, z2]; omega) fj.1 fj.2.2.1 uu j2
  have up := bN_up (B := B) hk.1 (by omega) (show 0 ≤ l ∧ l < 6 by omega) b1 b2 b3
  generalize upI (upI B (79 + A (83 + 23 * k + 1)) (B (79 + A (83 + 23 * k + 1)) - costA A k l)) 14 (B 14 + costA A k l) = C at uu rl up
  have c2 : C (83 + 23 * k + 11 + l) = A (83 + 23 * k + 11 + l) := (uu _ (by omega) (by omega)).trans b2
  have hSt : Shp ((σ.setJ 45 i (6 + A (83 + 23 * k + 1)) (B (79 + A (83 + 23 * k + 1)) - costA A k l)).setJ 45 i 12 (B 14 + costA A k l)) i := hS
  have hWt : WF ((σ.setJ 45 i (6 + A (83 + 23 * k + 1)) (B (79 + A (83 + 23 * k + 1)) - costA A k l)).setJ 45 i 12 (B 14 + costA A k l)) := fj.2.wf hW
  unfold costA at *
  generalize hτ : (σ.setJ 45 i (6 + A (83 + 23 * k + 1)) (B (79 + A (83 + 23 * k + 1)) - (A (83 + 23 * k + 11 + l) * A (15 + A (83 + 23 * k + 2)) * (100 + A 4)).tdiv 100)).setJ 45 i 12 (B 14 + (A (83 + 23 * k + 11 + l) * A (15 + A (83 + 23 * k + 2)) * (100 + A 4)).tdiv 100) = τ at fj rl hSt hWt
  have el : lid τ i k = lid σ i k := by
    unfold lid
    rw [fj.2.2.1]
  have lnt := (rl.lns k hk.1 (by rw [uu 7 (by omega) (by omega)]; omega)).2.2.2.2.2
  rw [el] at lnt
  have rh := R_handBack (σ := τ) (j := lid σ i k) (sh := fun l => C (83 + 23 * k + 5 + l)) (rc := fun l => C (83 + 23 * k + 11 + l)) (du := fun l => C (83 + 23 * k + 17 + l)) (l := l) (p := A (83 + 23 * k + 11 + l)) hWt lnt (by omega) (by show 0 ≤ C (83 + 23 * k + 11 + l) ∧ _; rw [c2]; omega) (by omega)
  show V _ 2 0 0 0 [some (vR (some (1, 0))), some (vR (some (6, i))), some (vR (some (3, lid σ i k))), some (vI l), none, none, none, none, none] [] σ _
  refine V_aldn2 a_X1_buyIn_0 ?_
  refine V_fin a_X1_buyIn_1 f_X1_130 rfl hW ?_
  refine V_ildn3 a_X1_buyIn_4 ?_
  refine V_ialdE a_X1_buyIn_5 rfl (by omega) g31 ?_
  refine V_ist4 a_X1_buyIn_6 ?_
  refine V_ild4 a_X1_buyIn_8 ?_
  refine V_i2l a_X1_buyIn_10 (by omega) ?_
  refine V_aldn1 a_X1_buyIn_11 ?_
  refine V_fin a_X1_buyIn_12 f_X1_54 rfl hW ?_
  refine V_aldn2 a_X1_buyIn_15 ?_
  refine V_getIE a_X1_buyIn_16 f_X1_141 rfl g2 ?_
  refine V_ialdE a_X1_buyIn_19 rfl (by omega) e37 ?_
  refine V_i2l a_X1_buyIn_20 (by omega) ?_
  refine V_lmul a_X1_buyIn_21 ?_
  refine V_lst5 a_X1_buyIn_22 ?_
  refine V_lld5 a_X1_buyIn_24 ?_
  refine V_bipush a_X1_buyIn_26 (by decide) ?_
  refine V_aldn1 a_X1_buyIn_28 ?_
  refine V_fin a_X1_buyIn_29 f_X1_43 rfl hW ?_
  refine V_bipush a_X1_buyIn_32 (by decide) ?_
  refine V_ialdE a_X1_buyIn_34 rfl (by omega) n8 ?_
  refine V_iadd a_X1_buyIn_35 ?_
  refine V_i2l a_X1_buyIn_36 (by omega) ?_
  refine V_lmul a_X1_buyIn_37 ?_
  refine V_ldc2 a_X1_buyIn_38 q_X1_171 ?_
  refine V_ldiv a_X1_buyIn_41 (by omega) ?_
  refine V_lst7 a_X1_buyIn_42 ?_
  refine V_aldn1 a_X1_buyIn_44 ?_
  refine V_fin a_X1_buyIn_45 f_X1_173 rfl hW ?_
  refine V_bipush a_X1_buyIn_48 (by decide) ?_
  refine V_aldn2 a_X1_buyIn_50 ?_
  refine V_getIE a_X1_buyIn_51 f_X1_176 rfl g1 ?_
  refine V_iadd a_X1_buyIn_54 ?_
  first | refine V_dup2IR a_X1_buyIn_55 ?_ | refine V_dup2L a_X1_buyIn_55 ?_
  refine V_laldE a_X1_buyIn_56 rfl (by omega) gb ?_
  refine V_lld7 a_X1_buyIn_57 ?_
  refine V_lsub a_X1_buyIn_59 ?_
  refine V_last a_X1_buyIn_60 rfl (by omega) ?_
  refine V_aldn1 a_X1_buyIn_61 ?_
  refine V_fin a_X1_buyIn_62 f_X1_173 rfl hW ?_
  refine V_bipush a_X1_buyIn_65 (by decide) ?_
  first | refine V_dup2IR a_X1_buyIn_67 ?_ | refine V_dup2L a_X1_buyIn_67 ?_
  refine V_laldE a_X1_buyIn_68 rfl (by omega) gt ?_
  refine V_lld7 a_X1_buyIn_69 ?_
  refine V_ladd a_X1_buyIn_71 ?_
  refine V_last a_X1_buyIn_72 rfl (by omega) ?_
  refine V_aldn2 a_X1_buyIn_73 ?_
  refine V_ildn3 a_X1_buyIn_74 ?_
  refine V_ild4 a_X1_buyIn_75 ?_
  rw [hτ]
  refine V_v2PV a_X1_buyIn_77 c_X1_103 rh (fun τ2 hτ2 => ?_)
  skip
  have hb := hb_1 (k := k) (A := C) (by omega) (by rw [c2]; exact Int.le_refl _) hτ2.2
  rw [up] at hb
  have rs := rel_sl (k := k) rl hSt (by rw [uu 0 (by omega) (by omega), uu 1 (by omega) (by omega), uu 2 (by omega) (by omega), uu 7 (by omega) (by omega)]; omega) (by rw [uu 7 (by omega) (by omega)]; omega) (by rw [el]; exact hτ2.1) (by rw [el]; exact hb) (fun j hj => by
    rw [← up]
    unfold cbA
    split
    · rw [upI_ne (by omega), upI_ne (by omega), upI_ne (by omega)]
    · rw [upI_ne (by omega), upI_ne (by omega)])
  have f2 : Fp i τ τ2 := slS_fp hSt (k := k) (by omega) (by rw [el]; exact hτ2.1)
  exact V_ret a_X1_buyIn_80 (⟨rfl, fj.fp.trans f2, hτ2.1.2.1.trans fj.2.2.1, rs.1⟩)
end Go

