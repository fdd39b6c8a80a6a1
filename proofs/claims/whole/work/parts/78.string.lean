theorem slen_bd : ∀ j, j < 30 → slen j ≤ 40 := by decide
theorem schr_bd {j : Nat} (hj : j < 30) {k : Int} (h0 : 0 ≤ k) (h1 : k < (slen j : Int)) : 0 ≤ schr j k ∧ schr j k < 128 := by
  have key : ∀ j, j < 30 → ∀ k, k < slen j → 0 ≤ schr j (k : Int) ∧ schr j (k : Int) < 128 := by decide
  have := key j hj k.toNat (by omega)
  rw [Int.toNat_of_nonneg h0] at this
  exact this
section Str
variable {σ : Hp} {j : Nat}
theorem R_coder (hj : j < 30) : Rt m_J0_coder_7d493 0 0 0 [vR (some (98, j))] σ (some (vI 0)) σ := by
  show V _ 0 0 0 0 [some (vR (some (98, j)))] [] σ _
  refine V_cstr a_J0_coder_7d493_0 f_J0_38 ?_
  refine V_if_eq_f a_J0_coder_7d493_3 (by omega) (by omega) ?_
  refine V_aldn0 a_J0_coder_7d493_6 ?_
  refine V_strc a_J0_coder_7d493_7 hj f_J0_15 ?_
  refine V_goto a_J0_coder_7d493_10 ?_
  exact V_bret a_J0_coder_7d493_14 (by omega) (⟨rfl, rfl⟩)
theorem R_slen (hj : j < 30) : Rt m_J0_length_8abf5 1 0 0 [vR (some (98, j))] σ (some (vI (slen j))) σ := by
  have hb := slen_bd j hj
  show V _ 1 0 0 0 [some (vR (some (98, j)))] [] σ _
  refine V_aldn0 a_J0_length_8abf5_0 ?_
  refine V_strv a_J0_length_8abf5_1 hj f_J0_9 ?_
  refine V_strl a_J0_length_8abf5_4 hj ?_
  refine V_aldn0 a_J0_length_8abf5_5 ?_
  refine V_t0R a_J0_length_8abf5_6 c_J0_335 (R_coder hj) ?_ (hj := hj)
  refine V_ishr a_J0_length_8abf5_9 (by omega) ?_
  exact V_iret a_J0_length_8abf5_10 (⟨by rw [show p2 0 = 1 from rfl, Int.ediv_one], rfl⟩)
theorem R_isLatin1 (hj : j < 30) : Rt m_J0_isLatin1_aae02 0 0 0 [vR (some (98, j))] σ (some (vI 1)) σ := by
  show V _ 0 0 0 0 [some (vR (some (98, j)))] [] σ _
  refine V_cstr a_J0_isLatin1_aae02_0 f_J0_38 ?_
  refine V_if_eq_f a_J0_isLatin1_aae02_3 (by omega) (by omega) ?_
  refine V_aldn0 a_J0_isLatin1_aae02_6 ?_
  refine V_strc a_J0_isLatin1_aae02_7 hj f_J0_15 ?_
  refine V_if_ne_f a_J0_isLatin1_aae02_10 (by omega) (by omega) ?_
  refine V_iconst a_J0_isLatin1_aae02_13 ?_
  refine V_goto a_J0_isLatin1_aae02_14 ?_
  exact V_zret a_J0_isLatin1_aae02_18 (by omega) (⟨rfl, rfl⟩)
theorem R_checkIndex3 {k N : Int} {r : Option (Nat × Nat)} (h : 0 ≤ k ∧ k < N) (hN : N < 2147483648) : Rt m_J3_checkIndex_8e157 0 0 0 [vI k, vI N, vR r] σ (some (vI k)) σ := by
  show V _ 0 0 0 0 [some (vI k), some (vI N), some (vR r)] [] σ _
  refine V_ildn0 a_J3_checkIndex_8e157_0 ?_
  refine V_if_lt_f a_J3_checkIndex_8e157_1 (by omega) (by omega) ?_
  refine V_ildn0 a_J3_checkIndex_8e157_4 ?_
  refine V_ildn1 a_J3_checkIndex_8e157_5 ?_
  refine V_icmp_lt_t a_J3_checkIndex_8e157_6 (by omega) (by omega) ?_
  refine V_ildn0 a_J3_checkIndex_8e157_16 ?_
  exact V_iret a_J3_checkIndex_8e157_17 (⟨rfl, rfl⟩)
theorem R_checkIndex {k N : Int} (h : 0 ≤ k ∧ k < N) (hN : N < 2147483648) : Rt m_J0_checkIndex_df160 1 0 0 [vI k, vI N] σ none σ := by
  show V _ 1 0 0 0 [some (vI k), some (vI N)] [] σ _
  refine V_ildn0 a_J0_checkIndex_df160_0 ?_
  refine V_ildn1 a_J0_checkIndex_df160_1 ?_
  refine V_fmt a_J0_checkIndex_df160_2 f_J0_1053 (fun rf => ?_)
  refine V_s3R a_J0_checkIndex_df160_5 c_J0_1059 (R_checkIndex3 h hN) ?_
  first | refine V_popI a_J0_checkIndex_df160_8 ?_ | refine V_popR a_J0_checkIndex_df160_8 ?_
  exact V_ret a_J0_checkIndex_df160_9 (⟨rfl, rfl⟩)
theorem R_latCharAt {k : Int} (hj : j < 30) (h : 0 ≤ k ∧ k < (slen j : Int)) : Rt m_J1_charAt_3b067 2 0 0 [vR (some (97, j)), vI k] σ (some (vI (schr j k))) σ := by
  have hb := slen_bd j hj
  have hc := schr_bd hj h.1 h.2
  show V _ 2 0 0 0 [some (vR (some (97, j))), some (vI k)] [] σ _
  refine V_ildn1 a_J1_charAt_3b067_0 ?_
  refine V_aldn0 a_J1_charAt_3b067_1 ?_
  refine V_strl a_J1_charAt_3b067_2 hj ?_
  refine V_s2V a_J1_charAt_3b067_3 c_J1_9 (R_checkIndex h (by omega)) ?_
  refine V_aldn0 a_J1_charAt_3b067_6 ?_
  refine V_ildn1 a_J1_charAt_3b067_7 ?_
  refine V_strb a_J1_charAt_3b067_8 hj h ?_
  refine V_sipush a_J1_charAt_3b067_9 (by decide) ?_
  first | refine V_iand255 a_J1_charAt_3b067_12 ?_ | refine V_iand63 a_J1_charAt_3b067_12 ?_ | refine V_iand1 a_J1_charAt_3b067_12 ?_
  refine V_i2c a_J1_charAt_3b067_13 (by omega) ?_
  exact V_cret a_J1_charAt_3b067_14 (by omega) (⟨by rw [Int.emod_eq_of_lt hc.1 (by omega)], rfl⟩)
theorem R_charAt {k : Int} (hj : j < 30) (h : 0 ≤ k ∧ k < (slen j : Int)) : Rt m_J0_charAt_5068e 3 0 0 [vR (some (98, j)), vI k] σ (some (vI (schr j k))) σ := by
  have hc := schr_bd hj h.1 h.2
  show V _ 3 0 0 0 [some (vR (some (98, j))), some (vI k)] [] σ _
  refine V_aldn0 a_J0_charAt_5068e_0 ?_
  refine V_t0R a_J0_charAt_5068e_1 c_J0_492 (R_isLatin1 hj) ?_ (hj := hj)
  refine V_if_eq_f a_J0_charAt_5068e_4 (by omega) (by omega) ?_
  refine V_aldn0 a_J0_charAt_5068e_7 ?_
  refine V_strv a_J0_charAt_5068e_8 hj f_J0_9 ?_
  refine V_ildn1 a_J0_charAt_5068e_11 ?_
  refine V_s2R a_J0_charAt_5068e_12 c_J0_495 (R_latCharAt hj h) ?_
  exact V_cret a_J0_charAt_5068e_15 (by omega) (⟨rfl, rfl⟩)
end Str
-- rows filled with one value
section Fill
variable {σ : Hp} {t i : Nat}
theorem R_fillI {N e : Nat} {v : Int} (ht : tgD t = (0, N, e)) (hN : N < 10000) (h20 : 20 ≤ t) : Rt m_J7_fill_53178 0 0 0 [vR (some (t, i)), vI v] σ none (σ.rI t i (mix (fun _ => v) (σ.I t i) N)) := by
  show V _ 0 0 0 0 [some (vR (some (t, i))), some (vI v), none, none] [] σ _
  have start : σ.rI t i (mix (fun _ => v) (σ.I t i) 0) = σ := by rw [mix_0, rI_self]
  refine V_iconst a_J7_fill_53178_0 ?_
  refine V_istn2 a_J7_fill_53178_1 ?_
  refine V_aldn0 a_J7_fill_53178_2 ?_
  refine V_alen a_J7_fill_53178_3 ht (by decide) ?_ h20
  refine V_istn3 a_J7_fill_53178_4 ?_
  refine (fun z => by rw [start] at z; exact z : V _ 0 0 0 5 [some (vR (some (t, i))), some (vI v), some (vI 0), some (vI N)] [] (σ.rI t i (mix (fun _ => v) (σ.I t i) 0)) _ → _) ?_
  refine loopI (P := fun k => V _ 0 0 0 5 [some (vR (some (t, i))), some (vI v), some (vI k), some (vI N)] [] (σ.rI t i (mix (fun _ => v) (σ.I t i) k)) _) (N := N) (by omega) ?_ ?_
  · refine V_ildn2 a_J7_fill_53178_5 ?_
    refine V_ildn3 a_J7_fill_53178_6 ?_
    refine V_icmp_ge_t a_J7_fill_53178_7 (by omega) (by omega) ?_
    exact V_ret a_J7_fill_53178_20 (⟨rfl, rfl⟩)
  · intro k k0 k1 ih
    rw [← mix_s k0, ← rI_set] at ih
    refine V_ildn2 a_J7_fill_53178_5 ?_
    refine V_ildn3 a_J7_fill_53178_6 ?_
    refine V_icmp_ge_f a_J7_fill_53178_7 (by omega) (by omega) ?_
    refine V_aldn0 a_J7_fill_53178_10 ?_
    refine V_ildn2 a_J7_fill_53178_11 ?_
    refine V_ildn1 a_J7_fill_53178_12 ?_
    refine V_iast a_J7_fill_53178_13 ht (by omega) ?_ h20
    refine V_inc2 a_J7_fill_53178_14 ?_
    refine V_goto a_J7_fill_53178_17 ?_
    exact ih
theorem R_fillJ {N e : Nat} {v : Int} (ht : tgD t = (1, N, e)) (hN : N < 10000) (h20 : 20 ≤ t) : Rt m_J7_fill_d0a16 0 0 0 [vR (some (t, i)), vL v] σ none (σ.rJ t i (mix (fun _ => v) (σ.J t i) N)) := by
  show V _ 0 0 0 0 [some (vR (some (t, i))), some (vL v), none, none, none] [] σ _
  have start : σ.rJ t i (mix (fun _ => v) (σ.J t i) 0) = σ := by rw [mix_0, rJ_self]
  refine V_iconst a_J7_fill_d0a16_0 ?_
  refine V_istn3 a_J7_fill_d0a16_1 ?_
  refine V_aldn0 a_J7_fill_d0a16_2 ?_
  refine V_alen a_J7_fill_d0a16_3 ht (by decide) ?_ h20
  refine V_ist4 a_J7_fill_d0a16_4 ?_
  refine (fun z => by rw [start] at z; exact z : V _ 0 0 0 6 [some (vR (some (t, i))), some (vL v), none, some (vI 0), some (vI N)] [] (σ.rJ t i (mix (fun _ => v) (σ.J t i) 0)) _ → _) ?_
  refine loopI (P := fun k => V _ 0 0 0 6 [some (vR (some (t, i))), some (vL v), none, some (vI k), some (vI N)] [] (σ.rJ t i (mix (fun _ => v) (σ.J t i) k)) _) (N := N) (by omega) ?_ ?_
  · refine V_ildn3 a_J7_fill_d0a16_6 ?_
    refine V_ild4 a_J7_fill_d0a16_7 ?_
    refine V_icmp_ge_t a_J7_fill_d0a16_9 (by omega) (by omega) ?_
    exact V_ret a_J7_fill_d0a16_22 (⟨rfl, rfl⟩)
  · intro k k0 k1 ih
    rw [← mix_s k0, ← rJ_set] at ih
    refine V_ildn3 a_J7_fill_d0a16_6 ?_
    refine V_ild4 a_J7_fill_d0a16_7 ?_
    refine V_icmp_ge_f a_J7_fill_d0a16_9 (by omega) (by omega) ?_
    refine V_aldn0 a_J7_fill_d0a16_12 ?_
    refine V_ildn3 a_J7_fill_d0a16_13 ?_
    refine V_lldn1 a_J7_fill_d0a16_14 ?_
    refine V_last a_J7_fill_d0a16_15 ht (by omega) ?_ h20
    refine V_inc3 a_J7_fill_d0a16_16 ?_
    refine V_goto a_J7_fill_d0a16_19 ?_
    exact ih
end Fill

