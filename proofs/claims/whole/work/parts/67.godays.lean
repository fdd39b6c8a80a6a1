def dysX (A : St) (n : Int) : St := itr (fun _ => dayA) n A
theorem dysX_s {A : St} {n : Int} (h : 0 ≤ n) : dysX A (n + 1) = dayA (dysX A n) := itr_s _ h _
theorem dys_inv {D n : Int} {A : St} (hD : D + n ≤ 20000000) (hI : Inv D A) (n0 : 0 ≤ n) : Inv (D + n) (dysX A n) := by
  refine itr_ind (f := fun _ => dayA) (a := A) (fun k B => Inv (D + k) B) (by rw [Int.add_zero]; exact hI) n0 (fun k B k0 k1 hB => ?_)
  rw [← Int.add_assoc]
  exact day_inv (by omega) hB
section Mo18
variable {D : Int} {σ : Hp} {A : St}
theorem R_goDays {d : Int} (h : Md D σ A) (hd : 0 ≤ d ∧ d ≤ 400) (hD4 : D + 401 ≤ 20000000) : Rt m_X11_goDays 2 0 0 [vR (some (11, 0)), vI d] σ (some (vL (dysX A d 10 - A 10))) (σ.rJ 50 0 (dysX A d)) := by
  obtain ⟨hD, hW, hA, hI⟩ := h
  have hW1 : ∀ B, WF (σ.rJ 50 0 B) := fun _ => hW
  have start : σ.rJ 50 0 (dysX A 0) = σ := by
    show σ.rJ 50 0 A = σ
    rw [← hA, rJ_self]
  show V _ 2 0 0 0 [some (vR (some (11, 0))), some (vI d), none, none, none, none] [] σ _
  refine V_aldn0 a_X11_goDays_0 ?_
  refine V_fin a_X11_goDays_1 f_X11_7 rfl hW ?_
  refine V_bipush a_X11_goDays_4 (by decide) ?_
  refine V_w a_X11_goDays_6 (by omega) hA ?_
  refine V_lstn2 a_X11_goDays_7 ?_
  refine V_iconst a_X11_goDays_8 ?_
  refine V_ist4 a_X11_goDays_9 ?_
  refine (fun z => by rw [start] at z; exact z : V _ 2 0 0 11 [some (vR (some (11, 0))), some (vI d), some (vL (A 10)), none, some (vI 0), none] [] (σ.rJ 50 0 (dysX A 0)) _ → _) ?_
  refine loopI (P := fun m => ∀ x5 : Option AV, V _ 2 0 0 11 [some (vR (some (11, 0))), some (vI d), some (vL (A 10)), none, some (vI m), x5] [] (σ.rJ 50 0 (dysX A m)) _) (N := d) hd.1 ?_ ?_ none
  · intro x5
    refine V_ild4 a_X11_goDays_11 ?_
    refine V_ildn1 a_X11_goDays_13 ?_
    refine V_icmp_ge_t a_X11_goDays_14 (by omega) (by omega) ?_
    refine V_aldn0 a_X11_goDays_102 ?_
    refine V_fin a_X11_goDays_103 f_X11_7 rfl hW ?_
    refine V_bipush a_X11_goDays_106 (by decide) ?_
    refine V_laldE a_X11_goDays_108 rfl (by omega) (by rw [rJ_J]) ?_
    refine V_lldn2 a_X11_goDays_109 ?_
    refine V_lsub a_X11_goDays_110 ?_
    exact V_lret a_X11_goDays_111 (⟨rfl, rfl⟩)
  · intro m m0 m1 ih x5
    have iB := dys_inv (n := m) (by omega) hI m0
    rw [dysX_s m0] at ih
    generalize dysX A m = B at iB ih ⊢
    have hn := iB.n
    have iP := iB.ac (pd_ac iB (n := B 7) (by omega) (Int.le_refl _))
    have e7 : pdX B (B 7) 7 = B 7 := pd_ac iB (n := B 7) (by omega) (Int.le_refl _) 7 (by omega) (by omega)
    have startP : pdX B 0 = B := rfl
    unfold dayA at ih
    refine V_ild4 a_X11_goDays_11 ?_
    refine V_ildn1 a_X11_goDays_13 ?_
    refine V_icmp_ge_f a_X11_goDays_14 (by omega) (by omega) ?_
    refine V_iconst a_X11_goDays_17 ?_
    refine V_ist5 a_X11_goDays_18 ?_
    refine (fun z => by rw [startP] at z; exact z : V _ 2 0 0 20 [some (vR (some (11, 0))), some (vI d), some (vL (A 10)), none, some (vI m), some (vI 0)] [] (σ.rJ 50 0 (pdX B 0)) _ → _) ?_
    refine loopI (P := fun k => V _ 2 0 0 20 [some (vR (some (11, 0))), some (vI d), some (vL (A 10)), none, some (vI m), some (vI k)] [] (σ.rJ 50 0 (pdX B k)) _) (N := B 7) (by omega) ?_ ?_
    · generalize pdX B (B 7) = P at iP e7 ih ⊢
      have startB : bdX (upI P 6 (P 6 + 1)) 0 = upI P 6 (P 6 + 1) := rfl
      have y7 : upI P 6 (P 6 + 1) 7 = P 7 := upI_ne (by omega)
      refine V_ild5 a_X11_goDays_20 ?_
      refine V_i2l a_X11_goDays_22 (by omega) ?_
      refine V_aldn0 a_X11_goDays_23 ?_
      refine V_fin a_X11_goDays_24 f_X11_7 rfl hW ?_
      refine V_bipush a_X11_goDays_27 (by decide) ?_
      refine V_laldE a_X11_goDays_29 rfl (by omega) (v := B 7) (by rw [rJ_J, e7]) ?_
      refine V_lc_ge_t a_X11_goDays_30 a_X11_goDays_31 (by omega) (by omega) ?_
      refine V_aldn0 a_X11_goDays_49 ?_
      refine V_fin a_X11_goDays_50 f_X11_7 rfl hW ?_
      refine V_bipush a_X11_goDays_53 (by decide) ?_
      first | refine V_dup2IR a_X11_goDays_55 ?_ | refine V_dup2L a_X11_goDays_55 ?_
      refine V_laldE a_X11_goDays_56 rfl (by omega) (v := P 6) (by rw [rJ_J]) ?_
      refine V_lconst1 a_X11_goDays_57 ?_
      refine V_ladd a_X11_goDays_58 ?_
      refine V_last a_X11_goDays_59 rfl (by omega) ?_
      rw [rJ_set]
      refine V_iconst a_X11_goDays_60 ?_
      refine V_ist5 a_X11_goDays_61 ?_
      refine (fun z => by rw [startB] at z; exact z : V _ 2 0 0 63 [some (vR (some (11, 0))), some (vI d), some (vL (A 10)), none, some (vI m), some (vI 0)] [] (σ.rJ 50 0 (bdX (upI P 6 (P 6 + 1)) 0)) _ → _) ?_
      refine loopI (P := fun k => V _ 2 0 0 63 [some (vR (some (11, 0))), some (vI d), some (vL (A 10)), none, some (vI m), some (vI k)] [] (σ.rJ 50 0 (bdX (upI P 6 (P 6 + 1)) k)) _) (N := B 7) (by omega) ?_ ?_
      · have hb := bd_ok (n := B 7) (by omega) iP (by omega) (by omega)
        have i0 := bd_inv iP (by rw [← e7] at hb; exact hb)
        rw [e7] at i0
        have e7b : bdX (upI P 6 (P 6 + 1)) (B 7) 7 = B 7 := by
          rw [hb.1 7 (by omega) (by omega) (by omega), y7, e7]
        have hn0 := i0.1
        have r1 := R_close (σ := σ.rJ 50 0 (bdX (upI P 6 (P 6 + 1)) (B 7))) (hW1 _) rJ_J (by omega) (by omega) (fun k k0 k1 => (i0.loan k0 k1).Sl (by omega) (by omega) (by omega) (by omega))
        rw [rJ_rJ] at r1
        refine V_ild5 a_X11_goDays_63 ?_
        refine V_i2l a_X11_goDays_65 (by omega) ?_
        refine V_aldn0 a_X11_goDays_66 ?_
        refine V_fin a_X11_goDays_67 f_X11_7 rfl hW ?_
        refine V_bipush a_X11_goDays_70 (by decide) ?_
        refine V_laldE a_X11_goDays_72 rfl (by omega) (v := B 7) (by rw [rJ_J, e7b]) ?_
        refine V_lc_ge_t a_X11_goDays_73 a_X11_goDays_74 (by omega) (by omega) ?_
        refine V_aldn0 a_X11_goDays_92 ?_
        refine V_v0V a_X11_goDays_93 c_X11_302 r1 ?_
        refine V_inc4 a_X11_goDays_96 ?_
        refine V_goto a_X11_goDays_99 ?_
        exact ih _
      · intro k k0 k1 ih2
        have hb := bd_ok (n := k) (by omega) iP k0 (by omega)
        have e7b : bdX (upI P 6 (P 6 + 1)) k 7 = B 7 := by
          rw [hb.1 7 (by omega) (by omega) (by omega), y7, e7]
        have r1 := R_buyIn (σ := σ.rJ 50 0 (bdX (upI P 6 (P 6 + 1)) k)) (hW1 _) rJ_J (BD_Bn (by omega) iP ⟨k0, by omega⟩ hb)
        rw [rJ_rJ] at r1
        rw [bdX_s k0] at ih2
        refine V_ild5 a_X11_goDays_63 ?_
        refine V_i2l a_X11_goDays_65 (by omega) ?_
        refine V_aldn0 a_X11_goDays_66 ?_
        refine V_fin a_X11_goDays_67 f_X11_7 rfl hW ?_
        refine V_bipush a_X11_goDays_70 (by decide) ?_
        refine V_laldE a_X11_goDays_72 rfl (by omega) (v := B 7) (by rw [rJ_J, e7b]) ?_
        refine V_lc_ge_f a_X11_goDays_73 a_X11_goDays_74 (by omega) (by omega) ?_
        refine V_aldn0 a_X11_goDays_77 ?_
        refine V_ild5 a_X11_goDays_78 ?_
        refine V_s1R a_X11_goDays_80 c_X11_197 R_loanAt ?_
        refine V_v1V a_X11_goDays_83 c_X11_341 r1 ?_
        refine V_inc5 a_X11_goDays_86 ?_
        refine V_goto a_X11_goDays_89 ?_
        exact ih2
    · intro k k0 k1 ih2
      have hac := pd_ac iB (n := k) k0 (by omega)
      have e7b : pdX B k 7 = B 7 := hac 7 (by omega) (by omega)
      have r1 := R_pay (σ := σ.rJ 50 0 (pdX B k)) (D := D + m) (k := k) ⟨by omega, hW1 _, rJ_J, iB.ac hac⟩ ⟨k0, by omega⟩
      rw [rJ_rJ] at r1
      rw [pdX_s k0] at ih2
      refine V_ild5 a_X11_goDays_20 ?_
      refine V_i2l a_X11_goDays_22 (by omega) ?_
      refine V_aldn0 a_X11_goDays_23 ?_
      refine V_fin a_X11_goDays_24 f_X11_7 rfl hW ?_
      refine V_bipush a_X11_goDays_27 (by decide) ?_
      refine V_laldE a_X11_goDays_29 rfl (by omega) (v := B 7) (by rw [rJ_J, e7b]) ?_
      refine V_lc_ge_f a_X11_goDays_30 a_X11_goDays_31 (by omega) (by omega) ?_
      refine V_aldn0 a_X11_goDays_34 ?_
      refine V_ild5 a_X11_goDays_35 ?_
      refine V_s1R a_X11_goDays_37 c_X11_197 R_loanAt ?_
      refine V_v1V a_X11_goDays_40 c_X11_338 r1 ?_
      refine V_inc5 a_X11_goDays_43 ?_
      refine V_goto a_X11_goDays_46 ?_
      exact ih2
end Mo18

