def StR (σ : Hp) (T : Int → Int) (e a : Int) (x : Int × Int × St) (τ : Hp) : Prop := (x.1 = 0 → τ = (σ.rJ 53 0 x.2.2).pz (tF T e x.2.1) (tE T e x.2.1) 0 a) ∧ (x.1 ≠ 0 → FS σ e x.1 x.2.1 τ)
section Pa
variable {σ : Hp} {T : Int → Int} {e p a : Int} {B : St}
theorem tailF {c a' : Int} {x1 : Option AV} (h : Tx σ T e) (hc : 0 < c ∧ c < 100) {τ : Hp} (hF : FS σ e c a' τ) : V m_X11_readStatement 6 0 0 103 [some (vR (some (11, 0))), x1] [] τ (fun r τ' => r = .inl none ∧ FS σ e c a' τ') := by
  obtain ⟨f, t, B', hft, rfl⟩ := hF
  obtain ⟨b, hb, r⟩ := B_isWord (σ := σ.rJ 53 0 B') (T := T) (e := e) (c := c) (a := a') (f := f) (t := t) (j := 29) h (by decide) hft
  refine V_aldn0 a_X11_readStatement_103 ?_
  refine V_ldcS a_X11_readStatement_104 sr_X11_188 ?_
  refine V_v1R a_X11_readStatement_106 c_X11_157 r ?_
  refine V_if_ne a_X11_readStatement_109 (by omega) (fun hc109 => ?_) (fun hc109 => ?_)
  · refine V_aldn0 a_X11_readStatement_117 ?_
    refine V_v0V a_X11_readStatement_118 c_X11_136 (R_pass1 hc) ?_
    exact V_ret a_X11_readStatement_121 (⟨rfl, f, t, B', hft, rfl⟩)
  · refine V_aldn0 a_X11_readStatement_112 ?_
    refine V_iconst a_X11_readStatement_113 ?_
    refine V_v1V a_X11_readStatement_114 c_X11_133 (R_wrong1 hc) ?_
    refine V_aldn0 a_X11_readStatement_117 ?_
    refine V_v0V a_X11_readStatement_118 c_X11_136 (R_pass1 hc) ?_
    exact V_ret a_X11_readStatement_121 (⟨rfl, f, t, B', hft, rfl⟩)
theorem tailK {q : Int} {B' : St} {x1 : Option AV} (h : Tx σ T e) (hq : 0 ≤ q ∧ q ≤ e) : V m_X11_readStatement 6 0 0 103 [some (vR (some (11, 0))), x1] [] ((σ.rJ 53 0 B').pz (tF T e q) (tE T e q) 0 a) (fun r τ' => r = .inl none ∧ StR σ T e a (if ¬ wdB T e q 29 = true then (1, tF T e q, B) else (0, tE T e q, B')) τ') := by
  obtain ⟨h0, h1, h2, -⟩ := tE_bd (T := T) hq.2
  by_cases w : wdB T e q 29 = true
  · rw [if_neg (fun z => z w)]
    refine V_aldn0 a_X11_readStatement_103 ?_
    refine V_ldcS a_X11_readStatement_104 sr_X11_188 ?_
    refine V_v1R a_X11_readStatement_106 c_X11_157 (R_wordT h.rJ (by decide) hq w) ?_
    refine V_if_ne_t a_X11_readStatement_109 (by omega) (by omega) ?_
    refine V_aldn0 a_X11_readStatement_117 ?_
    refine V_v0V a_X11_readStatement_118 c_X11_136 (R_pass0 h.rJ (by omega)) ?_
    exact V_ret a_X11_readStatement_121 (⟨rfl, fun _ => rfl, fun z => absurd rfl z⟩)
  · rw [if_pos w]
    refine V_aldn0 a_X11_readStatement_103 ?_
    refine V_ldcS a_X11_readStatement_104 sr_X11_188 ?_
    refine V_v1R a_X11_readStatement_106 c_X11_157 (R_wordF h.rJ (by decide) hq w) ?_
    refine V_if_ne_f a_X11_readStatement_109 (by omega) (by omega) ?_
    refine V_aldn0 a_X11_readStatement_112 ?_
    refine V_iconst a_X11_readStatement_113 ?_
    refine V_v1V a_X11_readStatement_114 c_X11_133 R_wrong0 ?_
    refine V_aldn0 a_X11_readStatement_117 ?_
    refine V_v0V a_X11_readStatement_118 c_X11_136 (R_pass1 (by decide)) ?_
    exact V_ret a_X11_readStatement_121 (⟨rfl, fun z => absurd z (show (1 : Int) ≠ 0 by decide), fun _ => ⟨_, _, _, by omega, rfl⟩⟩)
/-- behind the reader of one statement's numbers -/
theorem tailO {x : Int × Int} {B' : St} {x1 : Option AV} (h : Tx σ T e) (hx : (0 ≤ x.1 ∧ x.1 < 100) ∧ 0 ≤ x.2 ∧ x.2 ≤ e) {τ : Hp} (hO : StO σ T e a B' x τ) : V m_X11_readStatement 6 0 0 103 [some (vR (some (11, 0))), x1] [] τ (fun r τ' => r = .inl none ∧ StR σ T e a (if x.1 ≠ 0 then (x.1, x.2, B) else if ¬ wdB T e x.2 29 = true then (1, tF T e x.2, B) else (0, tE T e x.2, B')) τ') := by
  by_cases q : x.1 = 0
  · rw [if_neg (fun z => z q), hO.1 q]
    exact tailK h hx.2
  · rw [if_pos q]
    exact V_mono (fun r τ hq => ⟨hq.1, fun z => absurd z q, fun _ => hq.2⟩) (tailF h (by omega) (hO.2 q))
theorem spL_c {B : St} {kw : Int} : ∀ x ∈ spL B kw, 0 < x.2.2 ∧ x.2.2 < 100 := by
  unfold spL
  split
  · simp
  · split
    · simp
    · split
      · simp
      · split <;> simp
theorem R_readStatement {first : Bool} (h : Tx σ T e) (hB : FrI B) (hp : 0 ≤ p ∧ p ≤ e) : Cv m_X11_readStatement 6 0 0 [vR (some (11, 0)), vI (bI (first = true))] ((σ.rJ 53 0 B).pz (tF T e p) (tE T e p) 0 a) none (StR σ T e a (stA T e first B p)) := by
  obtain ⟨h0, h1, h2, -⟩ := tE_bd (T := T) hp.2
  have hp1 : 0 ≤ tE T e p ∧ tE T e p ≤ e := by omega
  have hfb := bI_01 (first = true)
  have rk := R_isKeyword (a := a) (h.rJ (t := 53) (i := 0) (g := B)) hp
  show V _ 6 0 0 0 [some (vR (some (11, 0))), some (vI (bI (first = true)))] [] ((σ.rJ 53 0 B).pz (tF T e p) (tE T e p) 0 a) _
  unfold stA
  by_cases k1 : kwA T e p = -1
  · rw [if_pos k1]
    rw [bI_f (fun z => z k1)] at rk
    have rw0 : ¬ wdB T e p 0 = true := fun z => by
      unfold kwA at k1
      rw [if_pos z] at k1
      omega
    refine V_aldn0 a_X11_readStatement_0 ?_
    refine V_v0R a_X11_readStatement_1 c_X11_169 rk ?_
    refine V_if_ne_f a_X11_readStatement_4 (by omega) (by omega) ?_
    refine V_aldn0 a_X11_readStatement_7 ?_
    refine V_iconst a_X11_readStatement_8 ?_
    refine V_v1V a_X11_readStatement_9 c_X11_133 R_wrong0 ?_
    refine V_aldn0 a_X11_readStatement_12 ?_
    refine V_ldcS a_X11_readStatement_13 sr_X11_155 ?_
    refine V_v1R a_X11_readStatement_15 c_X11_157 (R_wordF h.rJ (by decide) hp rw0) ?_
    refine V_ildn1 a_X11_readStatement_18 ?_
    refine V_icmp_eq a_X11_readStatement_19 (by omega) (fun hc19 => ?_) (fun hc19 => ?_)
    · refine V_aldn0 a_X11_readStatement_27 ?_
      refine V_getIE a_X11_readStatement_28 f_X11_118 rfl pz_12 ?_
      refine V_if_le_f a_X11_readStatement_31 (by omega) (by omega) ?_
      exact V_ret a_X11_readStatement_34 (⟨rfl, fun z => absurd z (show (1 : Int) ≠ 0 by decide), fun _ => ⟨_, _, _, by omega, rfl⟩⟩)
    · refine V_aldn0 a_X11_readStatement_22 ?_
      refine V_iconst a_X11_readStatement_23 ?_
      refine V_v1V a_X11_readStatement_24 c_X11_133 (R_wrong1 (by decide)) ?_
      refine V_aldn0 a_X11_readStatement_27 ?_
      refine V_getIE a_X11_readStatement_28 f_X11_118 rfl pz_12 ?_
      refine V_if_le_f a_X11_readStatement_31 (by omega) (by omega) ?_
      exact V_ret a_X11_readStatement_34 (⟨rfl, fun z => absurd z (show (1 : Int) ≠ 0 by decide), fun _ => ⟨_, _, _, by omega, rfl⟩⟩)
  · rw [if_neg k1]
    rw [bI_t k1] at rk
    have r15 := R_word (c := 0) (a := a) (j := 0) (h.rJ (t := 53) (i := 0) (g := B)) (by decide) hp
    have k0 : wdB T e p 0 = true ↔ kwA T e p = 0 := by
      unfold kwA
      refine ⟨fun z => if_pos z, fun z => ?_⟩
      apply Classical.byContradiction
      intro q
      rw [if_neg q] at z
      split at z
      · omega
      · split at z
        · omega
        · split at z
          · omega
          · split at z <;> omega
    have hwb := bI_01 (wdB T e p 0 = true)
    by_cases k3 : first ≠ decide (kwA T e p = 0)
    · rw [if_pos k3]
      have ne : bI (wdB T e p 0 = true) ≠ bI (first = true) := fun z => k3 (by
        by_cases q : kwA T e p = 0
        · rw [bI_t (k0.mpr q)] at z
          rw [decide_eq_true q]
          cases first
          · rw [bI_f (by decide)] at z
            omega
          · rfl
        · rw [bI_f (fun y => q (k0.mp y))] at z
          rw [decide_eq_false q]
          cases first
          · rfl
          · rw [bI_t rfl] at z
            omega)
      refine V_aldn0 a_X11_readStatement_0 ?_
      refine V_v0R a_X11_readStatement_1 c_X11_169 rk ?_
      refine V_if_ne_t a_X11_readStatement_4 (by omega) (by omega) ?_
      refine V_aldn0 a_X11_readStatement_12 ?_
      refine V_ldcS a_X11_readStatement_13 sr_X11_155 ?_
      refine V_v1R a_X11_readStatement_15 c_X11_157 r15 ?_
      refine V_ildn1 a_X11_readStatement_18 ?_
      refine V_icmp_eq_f a_X11_readStatement_19 (by omega) (by omega) ?_
      refine V_aldn0 a_X11_readStatement_22 ?_
      refine V_iconst a_X11_readStatement_23 ?_
      refine V_v1V a_X11_readStatement_24 c_X11_133 R_wrong0 ?_
      refine V_aldn0 a_X11_readStatement_27 ?_
      refine V_getIE a_X11_readStatement_28 f_X11_118 rfl pz_12 ?_
      refine V_if_le_f a_X11_readStatement_31 (by omega) (by omega) ?_
      exact V_ret a_X11_readStatement_34 (⟨rfl, fun z => absurd z (show (3 : Int) ≠ 0 by decide), fun _ => ⟨_, _, _, by omega, rfl⟩⟩)
    · rw [if_neg k3]
      have eq : bI (wdB T e p 0 = true) = bI (first = true) := by
        have k3 : first = decide (kwA T e p = 0) := Classical.byContradiction k3
        refine bI_iff ⟨fun z => ?_, fun z => ?_⟩
        · rw [k3]
          exact decide_eq_true (k0.mp z)
        · rw [k3] at z
          exact k0.mpr (of_decide_eq_true z)
      refine V_aldn0 a_X11_readStatement_0 ?_
      refine V_v0R a_X11_readStatement_1 c_X11_169 rk ?_
      refine V_if_ne_t a_X11_readStatement_4 (by omega) (by omega) ?_
      refine V_aldn0 a_X11_readStatement_12 ?_
      refine V_ldcS a_X11_readStatement_13 sr_X11_155 ?_
      refine V_v1R a_X11_readStatement_15 c_X11_157 r15 ?_
      refine V_ildn1 a_X11_readStatement_18 ?_
      refine V_icmp_eq_t a_X11_readStatement_19 (by omega) (by omega) ?_
      refine V_aldn0 a_X11_readStatement_27 ?_
      refine V_getIE a_X11_readStatement_28 f_X11_118 rfl pz_12 ?_
      refine V_if_le_t a_X11_readStatement_31 (by omega) (by omega) ?_
      skip
      clear rk r15 eq k3 hfb hwb
      have fb := fun kw => ftN_bd (T := T) (e := e) (spL B kw) (tE T e p) hp1 spL_c
      by_cases w0 : wdB T e p 0 = true
      · have hk : kwA T e p = 0 := by
          unfold kwA
          rw [if_pos w0]
        rw [hk]
        rw [if_neg (show ¬ flA B 0 = true from fun z => by have := of_decide_eq_true z; omega)]
        refine V_aldn0 a_X11_readStatement_35 ?_
        refine V_ldcS a_X11_readStatement_36 sr_X11_155 ?_
        refine V_v1R a_X11_readStatement_38 c_X11_157 (R_wordT h.rJ (by decide) hp w0) ?_
        refine V_if_eq_f a_X11_readStatement_41 (by omega) (by omega) ?_
        refine V_aldn0 a_X11_readStatement_44 ?_
        refine V_v0PV a_X11_readStatement_45 c_X11_173 (D_readPool h hB hp) (fun τ hτ => ?_)
        refine V_goto a_X11_readStatement_48 ?_
        exact tailO h (by have := fb 0; omega) hτ
      · skip
        by_cases w1 : wdB T e p 1 = true
        · have hk : kwA T e p = 1 := by
            unfold kwA
            rw [if_neg w0, if_pos w1]
          rw [hk]
          by_cases hf : B 0 = 4
          · rw [if_pos (show flA B 1 = true from decide_eq_true (by omega))]
            refine V_aldn0 a_X11_readStatement_35 ?_
            refine V_ldcS a_X11_readStatement_36 sr_X11_155 ?_
            refine V_v1R a_X11_readStatement_38 c_X11_157 (R_wordF h.rJ (by decide) hp w0) ?_
            refine V_if_eq_t a_X11_readStatement_41 (by omega) (by omega) ?_
            refine V_aldn0 a_X11_readStatement_51 ?_
            refine V_ldcS a_X11_readStatement_52 sr_X11_161 ?_
            refine V_v1R a_X11_readStatement_54 c_X11_157 (R_wordT h.rJ (by decide) hp w1) ?_
            refine V_if_eq_f a_X11_readStatement_57 (by omega) (by omega) ?_
            refine V_aldn0 a_X11_readStatement_60 ?_
            refine V_v0PV a_X11_readStatement_61 c_X11_176 (F_readSecurity5 h hB hp hf) (fun τ hτ => ?_)
            refine V_goto a_X11_readStatement_64 ?_
            exact V_mono (fun r τ hq => ⟨hq.1, fun z => absurd z (show (5 : Int) ≠ 0 by decide), fun _ => hq.2⟩) (tailF h (by decide) hτ)
          · rw [if_neg (show ¬ flA B 1 = true from fun z => by have := of_decide_eq_true z; omega)]
            refine V_aldn0 a_X11_readStatement_35 ?_
            refine V_ldcS a_X11_readStatement_36 sr_X11_155 ?_
            refine V_v1R a_X11_readStatement_38 c_X11_157 (R_wordF h.rJ (by decide) hp w0) ?_
            refine V_if_eq_t a_X11_readStatement_41 (by omega) (by omega) ?_
            refine V_aldn0 a_X11_readStatement_51 ?_
            refine V_ldcS a_X11_readStatement_52 sr_X11_161 ?_
            refine V_v1R a_X11_readStatement_54 c_X11_157 (R_wordT h.rJ (by decide) hp w1) ?_
            refine V_if_eq_f a_X11_readStatement_57 (by omega) (by omega) ?_
            refine V_aldn0 a_X11_readStatement_60 ?_
            refine V_v0PV a_X11_readStatement_61 c_X11_176 (D_readSecurity h hB hp hf) (fun τ hτ => ?_)
            refine V_goto a_X11_readStatement_64 ?_
            exact tailO h (by have := fb 1; omega) hτ
        · skip
          by_cases w2 : wdB T e p 2 = true
          · have hk : kwA T e p = 2 := by
              unfold kwA
              rw [if_neg w0, if_neg w1, if_pos w2]
            rw [hk]
            by_cases hf : B 1 = 6
            · rw [if_pos (show flA B 2 = true from decide_eq_true (by omega))]
              refine V_aldn0 a_X11_readStatement_35 ?_
              refine V_ldcS a_X11_readStatement_36 sr_X11_155 ?_
              refine V_v1R a_X11_readStatement_38 c_X11_157 (R_wordF h.rJ (by decide) hp w0) ?_
              refine V_if_eq_t a_X11_readStatement_41 (by omega) (by omega) ?_
              refine V_aldn0 a_X11_readStatement_51 ?_
              refine V_ldcS a_X11_readStatement_52 sr_X11_161 ?_
              refine V_v1R a_X11_readStatement_54 c_X11_157 (R_wordF h.rJ (by decide) hp w1) ?_
              refine V_if_eq_t a_X11_readStatement_57 (by omega) (by omega) ?_
              refine V_aldn0 a_X11_readStatement_67 ?_
              refine V_ldcS a_X11_readStatement_68 sr_X11_163 ?_
              refine V_v1R a_X11_readStatement_70 c_X11_157 (R_wordT h.rJ (by decide) hp w2) ?_
              refine V_if_eq_f a_X11_readStatement_73 (by omega) (by omega) ?_
              refine V_aldn0 a_X11_readStatement_76 ?_
              refine V_v0PV a_X11_readStatement_77 c_X11_179 (F_readLender5 h hB hp hf) (fun τ hτ => ?_)
              refine V_goto a_X11_readStatement_80 ?_
              exact V_mono (fun r τ hq => ⟨hq.1, fun z => absurd z (show (5 : Int) ≠ 0 by decide), fun _ => hq.2⟩) (tailF h (by decide) hτ)
            · rw [if_neg (show ¬ flA B 2 = true from fun z => by have := of_decide_eq_true z; omega)]
              refine V_aldn0 a_X11_readStatement_35 ?_
              refine V_ldcS a_X11_readStatement_36 sr_X11_155 ?_
              refine V_v1R a_X11_readStatement_38 c_X11_157 (R_wordF h.rJ (by decide) hp w0) ?_
              refine V_if_eq_t a_X11_readStatement_41 (by omega) (by omega) ?_
              refine V_aldn0 a_X11_readStatement_51 ?_
              refine V_ldcS a_X11_readStatement_52 sr_X11_161 ?_
              refine V_v1R a_X11_readStatement_54 c_X11_157 (R_wordF h.rJ (by decide) hp w1) ?_
              refine V_if_eq_t a_X11_readStatement_57 (by omega) (by omega) ?_
              refine V_aldn0 a_X11_readStatement_67 ?_
              refine V_ldcS a_X11_readStatement_68 sr_X11_163 ?_
              refine V_v1R a_X11_readStatement_70 c_X11_157 (R_wordT h.rJ (by decide) hp w2) ?_
              refine V_if_eq_f a_X11_readStatement_73 (by omega) (by omega) ?_
              refine V_aldn0 a_X11_readStatement_76 ?_
              refine V_v0PV a_X11_readStatement_77 c_X11_179 (D_readLender h hB hp hf) (fun τ hτ => ?_)
              refine V_goto a_X11_readStatement_80 ?_
              exact tailO h (by have := fb 2; omega) hτ
          · skip
            by_cases w3 : wdB T e p 3 = true
            · have hk : kwA T e p = 3 := by
                unfold kwA
                rw [if_neg w0, if_neg w1, if_neg w2, if_pos w3]
              rw [hk]
              by_cases hf : B 2 = 4
              · rw [if_pos (show flA B 3 = true from decide_eq_true (by omega))]
                refine V_aldn0 a_X11_readStatement_35 ?_
                refine V_ldcS a_X11_readStatement_36 sr_X11_155 ?_
                refine V_v1R a_X11_readStatement_38 c_X11_157 (R_wordF h.rJ (by decide) hp w0) ?_
                refine V_if_eq_t a_X11_readStatement_41 (by omega) (by omega) ?_
                refine V_aldn0 a_X11_readStatement_51 ?_
                refine V_ldcS a_X11_readStatement_52 sr_X11_161 ?_
                refine V_v1R a_X11_readStatement_54 c_X11_157 (R_wordF h.rJ (by decide) hp w1) ?_
                refine V_if_eq_t a_X11_readStatement_57 (by omega) (by omega) ?_
                refine V_aldn0 a_X11_readStatement_67 ?_
                refine V_ldcS a_X11_readStatement_68 sr_X11_163 ?_
                refine V_v1R a_X11_readStatement_70 c_X11_157 (R_wordF h.rJ (by decide) hp w2) ?_
                refine V_if_eq_t a_X11_readStatement_73 (by omega) (by omega) ?_
                refine V_aldn0 a_X11_readStatement_83 ?_
                refine V_ldcS a_X11_readStatement_84 sr_X11_165 ?_
                refine V_v1R a_X11_readStatement_86 c_X11_157 (R_wordT h.rJ (by decide) hp w3) ?_
                refine V_if_eq_f a_X11_readStatement_89 (by omega) (by omega) ?_
                refine V_aldn0 a_X11_readStatement_92 ?_
                refine V_v0PV a_X11_readStatement_93 c_X11_182 (F_readBorrower5 h hB hp hf) (fun τ hτ => ?_)
                refine V_goto a_X11_readStatement_96 ?_
                exact V_mono (fun r τ hq => ⟨hq.1, fun z => absurd z (show (5 : Int) ≠ 0 by decide), fun _ => hq.2⟩) (tailF h (by decide) hτ)
              · rw [if_neg (show ¬ flA B 3 = true from fun z => by have := of_decide_eq_true z; omega)]
                refine V_aldn0 a_X11_readStatement_35 ?_
                refine V_ldcS a_X11_readStatement_36 sr_X11_155 ?_
                refine V_v1R a_X11_readStatement_38 c_X11_157 (R_wordF h.rJ (by decide) hp w0) ?_
                refine V_if_eq_t a_X11_readStatement_41 (by omega) (by omega) ?_
                refine V_aldn0 a_X11_readStatement_51 ?_
                refine V_ldcS a_X11_readStatement_52 sr_X11_161 ?_
                refine V_v1R a_X11_readStatement_54 c_X11_157 (R_wordF h.rJ (by decide) hp w1) ?_
                refine V_if_eq_t a_X11_readStatement_57 (by omega) (by omega) ?_
                refine V_aldn0 a_X11_readStatement_67 ?_
                refine V_ldcS a_X11_readStatement_68 sr_X11_163 ?_
                refine V_v1R a_X11_readStatement_70 c_X11_157 (R_wordF h.rJ (by decide) hp w2) ?_
                refine V_if_eq_t a_X11_readStatement_73 (by omega) (by omega) ?_
                refine V_aldn0 a_X11_readStatement_83 ?_
                refine V_ldcS a_X11_readStatement_84 sr_X11_165 ?_
                refine V_v1R a_X11_readStatement_86 c_X11_157 (R_wordT h.rJ (by decide) hp w3) ?_
                refine V_if_eq_f a_X11_readStatement_89 (by omega) (by omega) ?_
                refine V_aldn0 a_X11_readStatement_92 ?_
                refine V_v0PV a_X11_readStatement_93 c_X11_182 (D_readBorrower h hB hp hf) (fun τ hτ => ?_)
                refine V_goto a_X11_readStatement_96 ?_
                exact tailO h (by have := fb 3; omega) hτ
            · skip
              have hk : kwA T e p = 4 := by
                unfold kwA
                unfold kwA at k1
                rw [if_neg w0, if_neg w1, if_neg w2, if_neg w3] at k1 ⊢
                by_cases w4 : wdB T e p 4 = true
                · rw [if_pos w4]
                · rw [if_neg w4] at k1
                  exact absurd rfl k1
              rw [hk]
              rw [if_neg (show ¬ flA B 4 = true from fun z => by have := of_decide_eq_true z; omega)]
              refine V_aldn0 a_X11_readStatement_35 ?_
              refine V_ldcS a_X11_readStatement_36 sr_X11_155 ?_
              refine V_v1R a_X11_readStatement_38 c_X11_157 (R_wordF h.rJ (by decide) hp w0) ?_
              refine V_if_eq_t a_X11_readStatement_41 (by omega) (by omega) ?_
              refine V_aldn0 a_X11_readStatement_51 ?_
              refine V_ldcS a_X11_readStatement_52 sr_X11_161 ?_
              refine V_v1R a_X11_readStatement_54 c_X11_157 (R_wordF h.rJ (by decide) hp w1) ?_
              refine V_if_eq_t a_X11_readStatement_57 (by omega) (by omega) ?_
              refine V_aldn0 a_X11_readStatement_67 ?_
              refine V_ldcS a_X11_readStatement_68 sr_X11_163 ?_
              refine V_v1R a_X11_readStatement_70 c_X11_157 (R_wordF h.rJ (by decide) hp w2) ?_
              refine V_if_eq_t a_X11_readStatement_73 (by omega) (by omega) ?_
              refine V_aldn0 a_X11_readStatement_83 ?_
              refine V_ldcS a_X11_readStatement_84 sr_X11_165 ?_
              refine V_v1R a_X11_readStatement_86 c_X11_157 (R_wordF h.rJ (by decide) hp w3) ?_
              refine V_if_eq_t a_X11_readStatement_89 (by omega) (by omega) ?_
              refine V_aldn0 a_X11_readStatement_99 ?_
              refine V_v0PV a_X11_readStatement_100 c_X11_185 (D_readHolding h hB hp) (fun τ hτ => ?_)
              exact tailO h (by have := fb 4; omega) hτ
end Pa

