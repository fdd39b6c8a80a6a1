section Rq
variable {D : Int} {σ : Hp} {A : St}
theorem pgJ {n : Int} {L : List Int} (hA : σ.J 50 0 = A) : (σ.pg n L).J 50 0 = A := hA
theorem R_writeReport (h : Md D σ A) : Rt m_X11_writeReport 12 0 0 [vR (some (11, 0))] σ (some (vI (rpL A).length)) (((σ.th 0).setI 11 0 22 0).pg 0 (rpL A)) := by
  have hI := h.2.2.2
  have hD := h.1
  have hn := hI.n
  have w11 : (wL 11).length = 4 := by decide
  have w12 : (wL 12).length = 7 := by decide
  have w13 : (wL 13).length = 5 := by decide
  have w14 : (wL 14).length = 4 := by decide
  have s11 : slen 11 = 4 := by decide
  have s12 : slen 12 = 7 := by decide
  have s13 : slen 13 = 5 := by decide
  have s14 : slen 14 = 4 := by decide
  have d6 := dg_8 (v := A 6) (by omega) (by omega)
  have d7 := dg_2 (v := A 7) (by omega) (by omega)
  have hm : Md D ((σ.th 0).setI 11 0 22 0) A := h
  have h22 : ((σ.th 0).setI 11 0 22 0).I 11 0 22 = 0 := setI_I
  show V _ 12 0 0 0 [some (vR (some (11, 0))), none, none, none] [] σ _
  refine V_aldn0 a_X11_writeReport_0 ?_
  refine V_iconst a_X11_writeReport_1 ?_
  refine V_putI a_X11_writeReport_2 f_X11_58 rfl ?_
  refine V_aldn0 a_X11_writeReport_5 ?_
  refine V_iconst a_X11_writeReport_6 ?_
  refine V_putI a_X11_writeReport_7 f_X11_430 rfl ?_
  skip
  change V _ 12 0 0 10 [some (vR (some (11, 0))), none, none, none] [] ((σ.th 0).setI 11 0 22 0) _
  generalize (σ.th 0).setI 11 0 22 0 = ρ at hm h22 ⊢
  have hW := hm.2.1
  have hA := hm.2.2.1
  have r1 := R_printWord (j := 11) hW (by decide) h22 (by omega)
  have r2 := R_pnum (σ := ρ.pg 0 (wL 11)) (v := A 6) hW pg_22 (by omega) (by omega)
  rw [pg_app] at r2
  have r3 := R_printWord (σ := ρ.pg 0 (wL 11 ++ dg (A 6))) (j := 12) hW (by decide) pg_22 (by rw [List.length_append]; omega)
  rw [pg_app] at r3
  have r4 := R_pnum (σ := ρ.pg 0 (wL 11 ++ dg (A 6) ++ wL 12)) (v := A 7) hW pg_22 (by simp only [List.length_append]; omega) (by omega)
  rw [pg_app] at r4
  have r5 := R_print (σ := ρ.pg 0 (wL 11 ++ dg (A 6) ++ wL 12 ++ dg (A 7))) (c := 10) hW pg_22 (by simp only [List.length_append]; omega) (by omega)
  rw [pg_app] at r5
  refine V_aldn0 a_X11_writeReport_10 ?_
  refine V_ldcSw a_X11_writeReport_11 sr_X11_445 ?_
  refine V_v1V a_X11_writeReport_14 c_X11_447 r1 ?_
  refine V_aldn0 a_X11_writeReport_17 ?_
  refine V_aldn0 a_X11_writeReport_18 ?_
  refine V_fin a_X11_writeReport_19 f_X11_7 rfl hW ?_
  refine V_bipush a_X11_writeReport_22 (by decide) ?_
  refine V_w a_X11_writeReport_24 (by omega) (pgJ hA) ?_
  refine V_v1V a_X11_writeReport_25 c_X11_441 r2 ?_
  refine V_aldn0 a_X11_writeReport_28 ?_
  refine V_ldcSw a_X11_writeReport_29 sr_X11_451 ?_
  refine V_v1V a_X11_writeReport_32 c_X11_447 r3 ?_
  refine V_aldn0 a_X11_writeReport_35 ?_
  refine V_aldn0 a_X11_writeReport_36 ?_
  refine V_fin a_X11_writeReport_37 f_X11_7 rfl hW ?_
  refine V_bipush a_X11_writeReport_40 (by decide) ?_
  refine V_w a_X11_writeReport_42 (by omega) (pgJ hA) ?_
  refine V_v1V a_X11_writeReport_43 c_X11_441 r4 ?_
  refine V_aldn0 a_X11_writeReport_46 ?_
  refine V_bipush a_X11_writeReport_47 (by decide) ?_
  refine V_v1V a_X11_writeReport_49 c_X11_433 r5 ?_
  refine V_iconst a_X11_writeReport_52 ?_
  refine V_istn1 a_X11_writeReport_53 ?_
  skip
  unfold rpL
  generalize hP : wL 11 ++ dg (A 6) ++ wL 12 ++ dg (A 7) ++ [10] = P
  have hPl : P.length ≤ 22 := by
    rw [← hP]
    simp only [List.length_append, List.length_cons, List.length_nil]
    omega
  have start : ρ.pg 0 (P ++ cat (lnL A) 0) = ρ.pg 0 P := by
    show ρ.pg 0 (P ++ []) = _
    rw [List.append_nil]
  refine (fun z => by rw [start] at z; exact z : V _ 12 0 0 54 [some (vR (some (11, 0))), some (vI 0), none, none] [] (ρ.pg 0 (P ++ cat (lnL A) 0)) _ → _) ?_
  refine loopI (P := fun k => ∀ x2 x3 : Option AV, V m_X11_writeReport 12 0 0 54 [some (vR (some (11, 0))), some (vI k), x2, x3] [] (ρ.pg 0 (P ++ cat (lnL A) k)) (fun r τ => r = .inl (some (vI (P ++ cat (lnL A) (A 7)).length)) ∧ τ = ρ.pg 0 (P ++ cat (lnL A) (A 7)))) (N := A 7) (by omega) ?_ ?_ none none
  · intro x2 x3
    have g22 : (ρ.pg 0 (P ++ cat (lnL A) (A 7))).I 11 0 22 = (P ++ cat (lnL A) (A 7)).length := by
      rw [pg_22]
      omega
    refine V_ildn1 a_X11_writeReport_54 ?_
    refine V_i2l a_X11_writeReport_55 (by omega) ?_
    refine V_aldn0 a_X11_writeReport_56 ?_
    refine V_fin a_X11_writeReport_57 f_X11_7 rfl hW ?_
    refine V_bipush a_X11_writeReport_60 (by decide) ?_
    refine V_w a_X11_writeReport_62 (by omega) (pgJ hA) ?_
    refine V_lc_ge_t a_X11_writeReport_63 a_X11_writeReport_64 (by omega) (by omega) ?_
    refine V_aldn0 a_X11_writeReport_145 ?_
    refine V_getIE a_X11_writeReport_146 f_X11_430 rfl g22 ?_
    exact V_iret a_X11_writeReport_149 (⟨rfl, rfl⟩)
  · intro k k0 k1 ih x2 x3
    have ih := ih (some (vI (83 + 23 * k))) (some (vI (A 1)))
    have hcl := cat_len (f := lnL A) (n := k) (m := 108) k0 (fun j j0 j1 => lnL_len hD hI j0 (by omega))
    rw [cat_s k0, ← List.append_assoc] at ih
    generalize hC : P ++ cat (lnL A) k = C at ih ⊢
    have hCl : (C.length : Int) ≤ 22 + k * 108 := by
      rw [← hC, List.length_append]
      omega
    have hq := quan_bd hI k0 k1
    have hL := (hI.loan k0 k1).1
    have e1 := dg_8 (v := A (83 + 23 * k + 0)) (by omega) (by omega)
    have e2 := dg_6 (v := quanA A k) (by omega) (by omega)
    have u1 := R_printWord (σ := ρ.pg 0 C) (j := 13) hW (by decide) pg_22 (by omega)
    rw [pg_app] at u1
    have u2 := R_pnum (σ := ρ.pg 0 (C ++ wL 13)) (v := A (83 + 23 * k + 0)) hW pg_22 (by simp only [List.length_append]; omega) (by omega)
    rw [pg_app] at u2
    have u3 := R_printWord (σ := ρ.pg 0 (C ++ wL 13 ++ dg (A (83 + 23 * k + 0)))) (j := 14) hW (by decide) pg_22 (by simp only [List.length_append]; omega)
    rw [pg_app] at u3
    have u4 := R_quantityAt (σ := ρ.pg 0 (C ++ wL 13 ++ dg (A (83 + 23 * k + 0)) ++ wL 14)) (k := k) (A := A) (D := D) hm (by omega)
    have u5 := R_pnum (σ := ρ.pg 0 (C ++ wL 13 ++ dg (A (83 + 23 * k + 0)) ++ wL 14)) (v := quanA A k) hW pg_22 (by simp only [List.length_append]; omega) (by omega)
    rw [pg_app] at u5
    have hE : C ++ lnL A k = C ++ wL 13 ++ dg (A (83 + 23 * k + 0)) ++ wL 14 ++ dg (quanA A k) ++ cat (slL A k) (A 1) ++ [10] := by
      unfold lnL
      simp only [List.append_assoc]
    rw [hE] at ih
    refine V_ildn1 a_X11_writeReport_54 ?_
    refine V_i2l a_X11_writeReport_55 (by omega) ?_
    refine V_aldn0 a_X11_writeReport_56 ?_
    refine V_fin a_X11_writeReport_57 f_X11_7 rfl hW ?_
    refine V_bipush a_X11_writeReport_60 (by decide) ?_
    refine V_w a_X11_writeReport_62 (by omega) (pgJ hA) ?_
    refine V_lc_ge_f a_X11_writeReport_63 a_X11_writeReport_64 (by omega) (by omega) ?_
    refine V_ildn1 a_X11_writeReport_67 ?_
    refine V_s1R a_X11_writeReport_68 c_X11_197 R_loanAt ?_
    refine V_istn2 a_X11_writeReport_71 ?_
    refine V_aldn0 a_X11_writeReport_72 ?_
    refine V_ldcSw a_X11_writeReport_73 sr_X11_453 ?_
    refine V_v1V a_X11_writeReport_76 c_X11_447 u1 ?_
    refine V_aldn0 a_X11_writeReport_79 ?_
    refine V_aldn0 a_X11_writeReport_80 ?_
    refine V_fin a_X11_writeReport_81 f_X11_7 rfl hW ?_
    refine V_ildn2 a_X11_writeReport_84 ?_
    refine V_iconst a_X11_writeReport_85 ?_
    refine V_iadd a_X11_writeReport_86 ?_
    refine V_w a_X11_writeReport_87 (by omega) (pgJ hA) ?_
    refine V_v1V a_X11_writeReport_88 c_X11_441 u2 ?_
    refine V_aldn0 a_X11_writeReport_91 ?_
    refine V_ldcSw a_X11_writeReport_92 sr_X11_455 ?_
    refine V_v1V a_X11_writeReport_95 c_X11_447 u3 ?_
    refine V_aldn0 a_X11_writeReport_98 ?_
    refine V_aldn0 a_X11_writeReport_99 ?_
    refine V_ildn2 a_X11_writeReport_100 ?_
    refine V_v1R a_X11_writeReport_101 c_X11_216 u4 ?_
    refine V_v1V a_X11_writeReport_104 c_X11_441 u5 ?_
    refine V_iconst a_X11_writeReport_107 ?_
    refine V_istn3 a_X11_writeReport_108 ?_
    skip
    generalize hG : C ++ wL 13 ++ dg (A (83 + 23 * k + 0)) ++ wL 14 ++ dg (quanA A k) = G at ih ⊢
    have hGl : (G.length : Int) ≤ 22 + k * 108 + 23 := by
      rw [← hG]
      simp only [List.length_append]
      omega
    have start2 : ρ.pg 0 (G ++ cat (slL A k) 0) = ρ.pg 0 G := by
      show ρ.pg 0 (G ++ []) = _
      rw [List.append_nil]
    refine (fun z => by rw [start2] at z; exact z : V _ 12 0 0 109 [some (vR (some (11, 0))), some (vI k), some (vI (83 + 23 * k)), some (vI 0)] [] (ρ.pg 0 (G ++ cat (slL A k) 0)) _ → _) ?_
    refine loopI (P := fun l => V _ 12 0 0 109 [some (vR (some (11, 0))), some (vI k), some (vI (83 + 23 * k)), some (vI l)] [] (ρ.pg 0 (G ++ cat (slL A k) l)) _) (N := A 1) (by omega) ?_ ?_
    · have hsl := cat_len (f := slL A k) (n := A 1) (m := 14) (by omega) (fun j j0 j1 => slL_len hI k0 k1 j0 (by omega))
      have v1 := R_print (σ := ρ.pg 0 (G ++ cat (slL A k) (A 1))) (c := 10) hW pg_22 (by rw [List.length_append]; omega) (by omega)
      rw [pg_app] at v1
      refine V_ildn3 a_X11_writeReport_109 ?_
      refine V_i2l a_X11_writeReport_110 (by omega) ?_
      refine V_aldn0 a_X11_writeReport_111 ?_
      refine V_fin a_X11_writeReport_112 f_X11_7 rfl hW ?_
      refine V_iconst a_X11_writeReport_115 ?_
      refine V_w a_X11_writeReport_116 (by omega) (pgJ hA) ?_
      refine V_lc_ge_t a_X11_writeReport_117 a_X11_writeReport_118 (by omega) (by omega) ?_
      refine V_aldn0 a_X11_writeReport_133 ?_
      refine V_bipush a_X11_writeReport_134 (by decide) ?_
      refine V_v1V a_X11_writeReport_136 c_X11_433 v1 ?_
      refine V_inc1 a_X11_writeReport_139 ?_
      refine V_goto a_X11_writeReport_142 ?_
      exact ih
    · intro l l0 l1 ih2
      have hsl := cat_len (f := slL A k) (n := l) (m := 14) l0 (fun j j0 j1 => slL_len hI k0 k1 j0 (by omega))
      rw [cat_s l0, ← List.append_assoc] at ih2
      have v1 := R_printSlice (σ := ρ.pg 0 (G ++ cat (slL A k) l)) (A := A) (D := D) (k := k) (l := l) hm ⟨k0, k1⟩ (by omega) pg_22 (by rw [List.length_append]; omega)
      rw [pg_app] at v1
      refine V_ildn3 a_X11_writeReport_109 ?_
      refine V_i2l a_X11_writeReport_110 (by omega) ?_
      refine V_aldn0 a_X11_writeReport_111 ?_
      refine V_fin a_X11_writeReport_112 f_X11_7 rfl hW ?_
      refine V_iconst a_X11_writeReport_115 ?_
      refine V_w a_X11_writeReport_116 (by omega) (pgJ hA) ?_
      refine V_lc_ge_f a_X11_writeReport_117 a_X11_writeReport_118 (by omega) (by omega) ?_
      refine V_aldn0 a_X11_writeReport_121 ?_
      refine V_ildn2 a_X11_writeReport_122 ?_
      refine V_ildn3 a_X11_writeReport_123 ?_
      refine V_v2V a_X11_writeReport_124 c_X11_457 v1 ?_
      refine V_inc3 a_X11_writeReport_127 ?_
      refine V_goto a_X11_writeReport_130 ?_
      exact ih2
/-- the page holds a text -/
def PgOk (σ : Hp) (L : List Int) : Prop := σ.I 11 0 22 = L.length ∧ (L.length : Int) ≤ 2200 ∧ ∀ i, 0 ≤ i → i < (L.length : Int) → σ.I 61 0 i = L.getD i.toNat 0
theorem R_reportByte {i : Int} {L : List Int} (hW : WF σ) (hP : PgOk σ L) (hi : iR i) : ((0 ≤ i ∧ i < (L.length : Int)) → Rt m_X11_reportByte 1 0 0 [vR (some (11, 0)), vI i] σ (some (vI (L.getD i.toNat 0))) (σ.th 0)) ∧ (¬ (0 ≤ i ∧ i < (L.length : Int)) → Rt m_X11_reportByte 1 0 0 [vR (some (11, 0)), vI i] σ (some (vI 0)) (σ.th 1)) := by
  obtain ⟨h1, h2, h3⟩ := hP
  obtain ⟨b, hb, r⟩ := B_in (σ := σ) (v := i) (x := 0) (y := (L.length : Int) - 1) (by omega) (by omega) (by omega)
  refine ⟨fun e => ?_, fun e => ?_⟩
  · have g : (σ.th 0).I 61 0 i = L.getD i.toNat 0 := by
      rw [setI_t (by decide)]
      exact h3 i e.1 e.2
    show V _ 1 0 0 0 [some (vR (some (11, 0))), some (vI i)] [] σ _
    refine V_aldn0 a_X11_reportByte_0 ?_
    refine V_ildn1 a_X11_reportByte_1 ?_
    refine V_i2l a_X11_reportByte_2 (by omega) ?_
    refine V_lconst0 a_X11_reportByte_3 ?_
    refine V_aldn0 a_X11_reportByte_4 ?_
    refine V_getIE a_X11_reportByte_5 f_X11_430 rfl h1 ?_
    refine V_iconst a_X11_reportByte_8 ?_
    refine V_isub a_X11_reportByte_9 ?_
    refine V_i2l a_X11_reportByte_10 (by omega) ?_
    refine V_s3R a_X11_reportByte_11 c_X11_61 r ?_
    refine V_if_ne_t a_X11_reportByte_14 (by omega) (by omega) ?_
    refine V_iconst a_X11_reportByte_21 ?_
    refine V_iconst a_X11_reportByte_22 ?_
    refine V_v2R a_X11_reportByte_23 c_X11_72 R_fails0 ?_
    refine V_if_eq_t a_X11_reportByte_26 (by omega) (by omega) ?_
    refine V_aldn0 a_X11_reportByte_33 ?_
    refine V_fin a_X11_reportByte_34 f_X11_49 rfl hW ?_
    refine V_ildn1 a_X11_reportByte_37 ?_
    refine V_baldE a_X11_reportByte_38 rfl (by omega) g ?_
    exact V_iret a_X11_reportByte_39 (⟨rfl, rfl⟩)
  · show V _ 1 0 0 0 [some (vR (some (11, 0))), some (vI i)] [] σ _
    refine V_aldn0 a_X11_reportByte_0 ?_
    refine V_ildn1 a_X11_reportByte_1 ?_
    refine V_i2l a_X11_reportByte_2 (by omega) ?_
    refine V_lconst0 a_X11_reportByte_3 ?_
    refine V_aldn0 a_X11_reportByte_4 ?_
    refine V_getIE a_X11_reportByte_5 f_X11_430 rfl h1 ?_
    refine V_iconst a_X11_reportByte_8 ?_
    refine V_isub a_X11_reportByte_9 ?_
    refine V_i2l a_X11_reportByte_10 (by omega) ?_
    refine V_s3R a_X11_reportByte_11 c_X11_61 r ?_
    refine V_if_ne_f a_X11_reportByte_14 (by omega) (by omega) ?_
    refine V_iconst a_X11_reportByte_17 ?_
    refine V_goto a_X11_reportByte_18 ?_
    refine V_iconst a_X11_reportByte_22 ?_
    refine V_v2R a_X11_reportByte_23 c_X11_72 R_fails1 ?_
    refine V_if_eq_f a_X11_reportByte_26 (by omega) (by omega) ?_
    refine V_iconst a_X11_reportByte_29 ?_
    refine V_goto a_X11_reportByte_30 ?_
    exact V_iret a_X11_reportByte_39 (⟨rfl, rfl⟩)
end Rq

