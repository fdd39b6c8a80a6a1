/-- two states that differ in accounts and totals alone -/
def Ac (A B : St) : Prop := ∀ j, ¬ (9 ≤ j ∧ j < 15) → ¬ (73 ≤ j ∧ j < 83) → B j = A j
theorem Ac.refl (A : St) : Ac A A := fun _ _ _ => rfl
theorem Ac.trans {A B C : St} (h : Ac A B) (h2 : Ac B C) : Ac A C := fun j h3 h4 => (h2 j h3 h4).trans (h j h3 h4)
theorem Ac.up {A : St} {j v : Int} (hj : (9 ≤ j ∧ j < 15) ∨ (73 ≤ j ∧ j < 83)) : Ac A (upI A j v) := fun k h1 h2 => upI_ne (by omega)
theorem Ac.ag {A B : St} (h : Ac A B) : Ag A B := fun j hj => h j (by omega) (by omega)
theorem Inv.ac {D : Int} {A B : St} (hI : Inv D A) (h : Ac A B) : Inv D B := hI.agree h.ag (fun s s0 s1 => by
  rw [h _ (by omega) (by omega)]
  exact hI.last s0 s1)
def feeA (A : St) (k l : Int) : Int := (A (83 + 23 * k + 5 + l) * A (15 + A (83 + 23 * k + 2)) * (A (19 + A (83 + 23 * k + 2)) - A (83 + 23 * k + 3))).tdiv 3600000
theorem tdiv_abs {a c M : Int} (h : -M ≤ a ∧ a ≤ M) (hc : 0 < c) : -M ≤ a.tdiv c ∧ a.tdiv c ≤ M := by
  rcases lt_ge a 0 with z | z
  · have h1 := td_bd (a := -a) (c := c) (by omega) hc
    rw [Int.neg_tdiv] at h1
    omega
  · have h1 := td_bd (a := a) (c := c) z hc
    omega
theorem mul_abs {a b M N : Int} (h0 : 0 ≤ a) (h1 : a ≤ M) (h2 : -N ≤ b ∧ b ≤ N) : -(M * N) ≤ a * b ∧ a * b ≤ M * N := by
  rcases lt_ge b 0 with z | z
  · have h3 := mul_bd (a := a) (b := -b) h0 h1 (by omega) (by omega : -b ≤ N)
    rw [Int.mul_neg] at h3
    omega
  · have h3 := mul_bd (a := a) (b := b) h0 h1 z h2.2
    omega
theorem fee_bd {D : Int} {A : St} (hI : Inv D A) {k l : Int} (hk : 0 ≤ k ∧ k < A 7) (hl : 0 ≤ l ∧ l < 6) : (0 ≤ A (83 + 23 * k + 5 + l) * A (15 + A (83 + 23 * k + 2)) ∧ A (83 + 23 * k + 5 + l) * A (15 + A (83 + 23 * k + 2)) ≤ 99999 * 9999) ∧ (-(99999 * 9999 * 9999) ≤ A (83 + 23 * k + 5 + l) * A (15 + A (83 + 23 * k + 2)) * (A (19 + A (83 + 23 * k + 2)) - A (83 + 23 * k + 3)) ∧ A (83 + 23 * k + 5 + l) * A (15 + A (83 + 23 * k + 2)) * (A (19 + A (83 + 23 * k + 2)) - A (83 + 23 * k + 3)) ≤ 99999 * 9999 * 9999) ∧ (-(99999 * 9999 * 9999) ≤ feeA A k l ∧ feeA A k l ≤ 99999 * 9999 * 9999) := by
  obtain ⟨-, -, q2, q3, -, q5⟩ := hI.loan hk.1 hk.2
  have hp := hI.price q2.1 q2.2
  have hs := (q5 l hl.1 hl.2).1
  have h1 := mul_bd (a := A (83 + 23 * k + 5 + l)) (b := A (15 + A (83 + 23 * k + 2))) (M := 99999) (N := 9999) (by omega) hs.2.2 (by omega) hp.1.2
  have h2 := mul_abs (N := 9999) h1.1 h1.2 (b := A (19 + A (83 + 23 * k + 2)) - A (83 + 23 * k + 3)) (by omega)
  exact ⟨h1, h2, tdiv_abs h2 (by decide)⟩
def payB (k l : Int) (B : St) : St :=
  upI (upI (upI (upI B (79 + B (83 + 23 * k + 1)) (B (79 + B (83 + 23 * k + 1)) - feeA B k l)) (73 + l) (upI B (79 + B (83 + 23 * k + 1)) (B (79 + B (83 + 23 * k + 1)) - feeA B k l) (73 + l) + (feeA B k l * B (27 + l)).tdiv 100)) 12 (upI (upI B (79 + B (83 + 23 * k + 1)) (B (79 + B (83 + 23 * k + 1)) - feeA B k l)) (73 + l) (upI B (79 + B (83 + 23 * k + 1)) (B (79 + B (83 + 23 * k + 1)) - feeA B k l) (73 + l) + (feeA B k l * B (27 + l)).tdiv 100) 12 + (feeA B k l - (feeA B k l * B (27 + l)).tdiv 100))) 9
    (upI (upI (upI B (79 + B (83 + 23 * k + 1)) (B (79 + B (83 + 23 * k + 1)) - feeA B k l)) (73 + l) (upI B (79 + B (83 + 23 * k + 1)) (B (79 + B (83 + 23 * k + 1)) - feeA B k l) (73 + l) + (feeA B k l * B (27 + l)).tdiv 100)) 12 (upI (upI B (79 + B (83 + 23 * k + 1)) (B (79 + B (83 + 23 * k + 1)) - feeA B k l)) (73 + l) (upI B (79 + B (83 + 23 * k + 1)) (B (79 + B (83 + 23 * k + 1)) - feeA B k l) (73 + l) + (feeA B k l * B (27 + l)).tdiv 100) 12 + (feeA B k l - (feeA B k l * B (27 + l)).tdiv 100)) 9 + feeA B k l)
def payX (k : Int) (A : St) (n : Int) : St := itr (payB k) n A
def payA (k : Int) (A : St) : St := payX k A (A 1)
theorem payX_s {k n : Int} {A : St} (h : 0 ≤ n) : payX k A (n + 1) = payB k n (payX k A n) := itr_s _ h _
theorem payB_ac {k l : Int} {B : St} (hb : 0 ≤ B (83 + 23 * k + 1) ∧ B (83 + 23 * k + 1) < 4) (hl : 0 ≤ l ∧ l < 6) : Ac B (payB k l B) := by
  unfold payB
  exact (((Ac.up (by omega)).trans (Ac.up (by omega))).trans (Ac.up (by omega))).trans (Ac.up (by omega))
theorem payX_ac {D k n : Int} {A : St} (hI : Inv D A) (hk : 0 ≤ k ∧ k < A 7) (n0 : 0 ≤ n) (n1 : n ≤ A 1) : Ac A (payX k A n) := by
  have hn := hI.n
  have q1 := (hI.loan hk.1 hk.2).2.1
  refine itr_ind (f := payB k) (a := A) (fun _ B => Ac A B) (Ac.refl A) n0 (fun j B j0 j1 hB => hB.trans (payB_ac ?_ (by omega)))
  rw [hB _ (by omega) (by omega)]
  omega
section Mo16
variable {D : Int} {σ : Hp} {A : St}
theorem R_feeAt {k l : Int} (h : Md D σ A) (hk : 0 ≤ k ∧ k < A 7) (hl : 0 ≤ l ∧ l < 6) : Rt m_X11_feeAt 0 0 0 [vR (some (11, 0)), vI (83 + 23 * k), vI l] σ (some (vL (feeA A k l))) σ := by
  obtain ⟨hD, hW, hA, hI⟩ := h
  have hn := hI.n
  have q2 := (hI.loan hk.1 hk.2).2.2.1
  have hf := fee_bd hI hk hl
  show V _ 0 0 0 0 [some (vR (some (11, 0))), some (vI (83 + 23 * k)), some (vI l), none] [] σ _
  refine V_aldn0 a_X11_feeAt_0 ?_
  refine V_fin a_X11_feeAt_1 f_X11_7 rfl hW ?_
  refine V_ildn1 a_X11_feeAt_4 ?_
  refine V_iconst a_X11_feeAt_5 ?_
  refine V_iadd a_X11_feeAt_6 ?_
  refine V_w a_X11_feeAt_7 (by omega) hA ?_
  refine V_l2i a_X11_feeAt_8 ?_
  refine V_istn3 a_X11_feeAt_9 ?_
  refine V_aldn0 a_X11_feeAt_10 ?_
  refine V_fin a_X11_feeAt_11 f_X11_7 rfl hW ?_
  refine V_ildn1 a_X11_feeAt_14 ?_
  refine V_iconst a_X11_feeAt_15 ?_
  refine V_iadd a_X11_feeAt_16 ?_
  refine V_ildn2 a_X11_feeAt_17 ?_
  refine V_iadd a_X11_feeAt_18 ?_
  refine V_w a_X11_feeAt_19 (by omega) hA ?_
  refine V_aldn0 a_X11_feeAt_20 ?_
  refine V_fin a_X11_feeAt_21 f_X11_7 rfl hW ?_
  refine V_bipush a_X11_feeAt_24 (by decide) ?_
  refine V_ildn3 a_X11_feeAt_26 ?_
  refine V_iadd a_X11_feeAt_27 ?_
  refine V_w a_X11_feeAt_28 (by omega) hA ?_
  refine V_lmul a_X11_feeAt_29 ?_
  refine V_aldn0 a_X11_feeAt_30 ?_
  refine V_fin a_X11_feeAt_31 f_X11_7 rfl hW ?_
  refine V_bipush a_X11_feeAt_34 (by decide) ?_
  refine V_ildn3 a_X11_feeAt_36 ?_
  refine V_iadd a_X11_feeAt_37 ?_
  refine V_w a_X11_feeAt_38 (by omega) hA ?_
  refine V_aldn0 a_X11_feeAt_39 ?_
  refine V_fin a_X11_feeAt_40 f_X11_7 rfl hW ?_
  refine V_ildn1 a_X11_feeAt_43 ?_
  refine V_iconst a_X11_feeAt_44 ?_
  refine V_iadd a_X11_feeAt_45 ?_
  refine V_w a_X11_feeAt_46 (by omega) hA ?_
  refine V_lsub a_X11_feeAt_47 ?_
  refine V_lmul a_X11_feeAt_48 ?_
  refine V_ldc2 a_X11_feeAt_49 q_X11_333 ?_
  refine V_ldiv a_X11_feeAt_52 (by omega) ?_
  exact V_lret a_X11_feeAt_53 (⟨rfl, rfl⟩)
theorem R_pay {k : Int} (h : Md D σ A) (hk : 0 ≤ k ∧ k < A 7) : Rt m_X11_pay 1 0 0 [vR (some (11, 0)), vI (83 + 23 * k)] σ none (σ.rJ 50 0 (payA k A)) := by
  have hD := h.1
  have hI := h.2.2.2
  have hn := hI.n
  have hW := h.2.1
  have start : σ.rJ 50 0 (payX k A 0) = σ := by
    show σ.rJ 50 0 A = σ
    rw [← h.2.2.1, rJ_self]
  show V _ 1 0 0 0 [some (vR (some (11, 0))), some (vI (83 + 23 * k)), none, none, none, none, none] [] σ _
  refine V_iconst a_X11_pay_0 ?_
  refine V_istn2 a_X11_pay_1 ?_
  refine (fun z => by rw [start] at z; exact z : V _ 1 0 0 2 [some (vR (some (11, 0))), some (vI (83 + 23 * k)), some (vI 0), none, none, none, none] [] (σ.rJ 50 0 (payX k A 0)) _ → _) ?_
  refine loopI (P := fun l => ∀ x3 x4 x5 x6 : Option AV, V _ 1 0 0 2 [some (vR (some (11, 0))), some (vI (83 + 23 * k)), some (vI l), x3, x4, x5, x6] [] (σ.rJ 50 0 (payX k A l)) _) (N := A 1) (by omega) ?_ ?_ none none none none
  · intro x3 x4 x5 x6
    have e1 := payX_ac hI hk (n := A 1) (by omega) (Int.le_refl _) 1 (by omega) (by omega)
    refine V_ildn2 a_X11_pay_2 ?_
    refine V_i2l a_X11_pay_3 (by omega) ?_
    refine V_aldn0 a_X11_pay_4 ?_
    refine V_fin a_X11_pay_5 f_X11_7 rfl hW ?_
    refine V_iconst a_X11_pay_8 ?_
    refine V_laldE a_X11_pay_9 rfl (by omega) (v := A 1) (by rw [rJ_J, e1]) ?_
    refine V_lc_ge_t a_X11_pay_10 a_X11_pay_11 (by omega) (by omega) ?_
    exact V_ret a_X11_pay_104 (⟨rfl, rfl⟩)
  · intro l l0 l1 ih x3 x4 x5 x6
    have hac := payX_ac hI hk (n := l) l0 (by omega)
    rw [payX_s l0] at ih
    generalize payX k A l = B at hac ih ⊢
    have iB := hI.ac hac
    have hm : Md D (σ.rJ 50 0 B) B := h.w hD iB
    have e1 : B 1 = A 1 := hac 1 (by omega) (by omega)
    have e7 : B 7 = A 7 := hac 7 (by omega) (by omega)
    have q1 := (iB.loan hk.1 (by omega)).2.1
    have q2 := iB.n
    have q3 := (iB.lend l0 (by omega)).1
    have hf := (fee_bd iB (k := k) (l := l) (by omega) (by omega)).2.2
    have hA : (σ.rJ 50 0 B).J 50 0 = B := rJ_J
    have ho := mul_abs (N := 99999 * 9999 * 9999) q3.1 q3.2 hf
    rw [Int.mul_comm (B (27 + l))] at ho
    unfold payB at ih
    refine V_ildn2 a_X11_pay_2 ?_
    refine V_i2l a_X11_pay_3 (by omega) ?_
    refine V_aldn0 a_X11_pay_4 ?_
    refine V_fin a_X11_pay_5 f_X11_7 rfl hW ?_
    refine V_iconst a_X11_pay_8 ?_
    refine V_w a_X11_pay_9 (by omega) hA ?_
    refine V_lc_ge_f a_X11_pay_10 a_X11_pay_11 (by omega) (by omega) ?_
    refine V_aldn0 a_X11_pay_14 ?_
    refine V_ildn1 a_X11_pay_15 ?_
    refine V_ildn2 a_X11_pay_16 ?_
    refine V_v2R a_X11_pay_17 c_X11_335 (R_feeAt hm (by omega) (by omega)) ?_
    refine V_lstn3 a_X11_pay_20 ?_
    refine V_lldn3 a_X11_pay_21 ?_
    refine V_aldn0 a_X11_pay_22 ?_
    refine V_fin a_X11_pay_23 f_X11_7 rfl hW ?_
    refine V_bipush a_X11_pay_26 (by decide) ?_
    refine V_ildn2 a_X11_pay_28 ?_
    refine V_iadd a_X11_pay_29 ?_
    refine V_w a_X11_pay_30 (by omega) hA ?_
    refine V_lmul a_X11_pay_31 ?_
    refine V_ldc2 a_X11_pay_32 q_X11_149 ?_
    refine V_ldiv a_X11_pay_35 (by omega) ?_
    refine V_lst5 a_X11_pay_36 ?_
    refine V_aldn0 a_X11_pay_38 ?_
    refine V_fin a_X11_pay_39 f_X11_7 rfl hW ?_
    refine V_bipush a_X11_pay_42 (by decide) ?_
    refine V_aldn0 a_X11_pay_44 ?_
    refine V_fin a_X11_pay_45 f_X11_7 rfl hW ?_
    refine V_ildn1 a_X11_pay_48 ?_
    refine V_iconst a_X11_pay_49 ?_
    refine V_iadd a_X11_pay_50 ?_
    refine V_w a_X11_pay_51 (by omega) hA ?_
    refine V_l2i a_X11_pay_52 ?_
    refine V_iadd a_X11_pay_53 ?_
    first | refine V_dup2IR a_X11_pay_54 ?_ | refine V_dup2L a_X11_pay_54 ?_
    refine V_w a_X11_pay_55 (by omega) hA ?_
    refine V_lldn3 a_X11_pay_56 ?_
    refine V_lsub a_X11_pay_57 ?_
    refine V_last a_X11_pay_58 rfl (by omega) ?_
    rw [rJ_set]
    clear hA
    refine V_aldn0 a_X11_pay_59 ?_
    refine V_fin a_X11_pay_60 f_X11_7 rfl hW ?_
    refine V_bipush a_X11_pay_63 (by decide) ?_
    refine V_ildn2 a_X11_pay_65 ?_
    refine V_iadd a_X11_pay_66 ?_
    first | refine V_dup2IR a_X11_pay_67 ?_ | refine V_dup2L a_X11_pay_67 ?_
    refine V_laldE a_X11_pay_68 rfl (by omega) (by rw [rJ_J]) ?_
    refine V_lld5 a_X11_pay_69 ?_
    refine V_ladd a_X11_pay_71 ?_
    refine V_last a_X11_pay_72 rfl (by omega) ?_
    rw [rJ_set]
    refine V_aldn0 a_X11_pay_73 ?_
    refine V_fin a_X11_pay_74 f_X11_7 rfl hW ?_
    refine V_bipush a_X11_pay_77 (by decide) ?_
    first | refine V_dup2IR a_X11_pay_79 ?_ | refine V_dup2L a_X11_pay_79 ?_
    refine V_laldE a_X11_pay_80 rfl (by omega) (by rw [rJ_J]) ?_
    refine V_lldn3 a_X11_pay_81 ?_
    refine V_lld5 a_X11_pay_82 ?_
    refine V_lsub a_X11_pay_84 ?_
    refine V_ladd a_X11_pay_85 ?_
    refine V_last a_X11_pay_86 rfl (by omega) ?_
    rw [rJ_set]
    refine V_aldn0 a_X11_pay_87 ?_
    refine V_fin a_X11_pay_88 f_X11_7 rfl hW ?_
    refine V_bipush a_X11_pay_91 (by decide) ?_
    first | refine V_dup2IR a_X11_pay_93 ?_ | refine V_dup2L a_X11_pay_93 ?_
    refine V_laldE a_X11_pay_94 rfl (by omega) (by rw [rJ_J]) ?_
    refine V_lldn3 a_X11_pay_95 ?_
    refine V_ladd a_X11_pay_96 ?_
    refine V_last a_X11_pay_97 rfl (by omega) ?_
    rw [rJ_set]
    refine V_inc2 a_X11_pay_98 ?_
    refine V_goto a_X11_pay_101 ?_
    exact ih _ _ _ _
end Mo16

