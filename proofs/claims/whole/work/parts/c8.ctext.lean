/-- the class's text of e bytes -/
def TC (σ : Hp) (T : Int → Int) (e : Int) : Prop := WF σ ∧ (∀ k, 0 ≤ k → k < e → σ.I 20 0 k = T k ∧ 0 ≤ T k ∧ T k < 256) ∧ σ.I 9 0 0 = e ∧ 0 ≤ e ∧ e ≤ 600
theorem TC.fm {σ τ : Hp} {T : Int → Int} {e : Int} {L : List Nat} (h : TC σ T e) (f : Fm L σ τ) (hL : 20 ∉ L) (h0 : τ.I 9 0 0 = e) : TC τ T e := ⟨f.wf h.1, fun k k0 k1 => by rw [f.I hL]; exact h.2.1 k k0 k1, h0, h.2.2.2⟩
/-- the kind of the token that begins at f -/
def tkA (T : Int → Int) (e f : Int) : Int := if f < e then (if isLt (bAt T e f) = true then 1 else if isDg (bAt T e f) = true then 2 else if bAt T e f = 59 then 3 else 4) else 0
/-- the token behind p -/
def Tok (τ : Hp) (T : Int → Int) (e p : Int) : Prop := τ.I 9 0 0 = e ∧ τ.I 9 0 1 = tkA T e (tF T e p) ∧ τ.I 9 0 2 = tF T e p ∧ τ.I 9 0 4 = tE T e p ∧ (tkA T e (tF T e p) = 2 → τ.I 9 0 3 = nvA T e (tF T e p) (min 7 (tE T e p - tF T e p)))
theorem lt_dg {c : Int} (h : isLt c = true) : ¬ isDg c = true := fun z => by
  have := of_decide_eq_true h
  have := of_decide_eq_true z
  omega
theorem wd_lt : ∀ j, j < 11 → 0 < slen j ∧ isLt (schr j 0) = true := by decide
section Ct1
variable {σ : Hp} {T : Int → Int} {e p c : Int}
theorem R_isSpace (hc : 0 ≤ c ∧ c < 65536) : Rt m_X9_isSpace 0 0 0 [vI c] σ (some (vI (bI (isSp c = true)))) σ := by
  show V _ 0 0 0 0 [some (vI c)] [] σ _
  by_cases a : c = 32
  · rw [bI_t (show isSp c = true from decide_eq_true (Or.inl a))]
    refine V_ildn0 a_X9_isSpace_0 ?_
    refine V_bipush a_X9_isSpace_1 (by decide) ?_
    refine V_icmp_eq_t a_X9_isSpace_3 (by omega) (by omega) ?_
    refine V_iconst a_X9_isSpace_12 ?_
    refine V_goto a_X9_isSpace_13 ?_
    exact V_zret a_X9_isSpace_17 (by omega) (⟨rfl, rfl⟩)
  · by_cases b : c = 10
    · rw [bI_t (show isSp c = true from decide_eq_true (Or.inr b))]
      refine V_ildn0 a_X9_isSpace_0 ?_
      refine V_bipush a_X9_isSpace_1 (by decide) ?_
      refine V_icmp_eq_f a_X9_isSpace_3 (by omega) (by omega) ?_
      refine V_ildn0 a_X9_isSpace_6 ?_
      refine V_bipush a_X9_isSpace_7 (by decide) ?_
      refine V_icmp_ne_f a_X9_isSpace_9 (by omega) (by omega) ?_
      refine V_iconst a_X9_isSpace_12 ?_
      refine V_goto a_X9_isSpace_13 ?_
      exact V_zret a_X9_isSpace_17 (by omega) (⟨rfl, rfl⟩)
    · rw [bI_f (fun z => by have := of_decide_eq_true z; omega)]
      refine V_ildn0 a_X9_isSpace_0 ?_
      refine V_bipush a_X9_isSpace_1 (by decide) ?_
      refine V_icmp_eq_f a_X9_isSpace_3 (by omega) (by omega) ?_
      refine V_ildn0 a_X9_isSpace_6 ?_
      refine V_bipush a_X9_isSpace_7 (by decide) ?_
      refine V_icmp_ne_t a_X9_isSpace_9 (by omega) (by omega) ?_
      refine V_iconst a_X9_isSpace_16 ?_
      exact V_zret a_X9_isSpace_17 (by omega) (⟨rfl, rfl⟩)
theorem R_isLetter (hc : 0 ≤ c ∧ c < 65536) : Rt m_X9_isLetter 0 0 0 [vI c] σ (some (vI (bI (isLt c = true)))) σ := by
  show V _ 0 0 0 0 [some (vI c)] [] σ _
  by_cases a : c < 97
  · rw [bI_f (fun z => by have := of_decide_eq_true z; omega)]
    refine V_ildn0 a_X9_isLetter_0 ?_
    refine V_bipush a_X9_isLetter_1 (by decide) ?_
    refine V_icmp_lt_t a_X9_isLetter_3 (by omega) (by omega) ?_
    refine V_iconst a_X9_isLetter_16 ?_
    exact V_zret a_X9_isLetter_17 (by omega) (⟨rfl, rfl⟩)
  · by_cases b : c > 122
    · rw [bI_f (fun z => by have := of_decide_eq_true z; omega)]
      refine V_ildn0 a_X9_isLetter_0 ?_
      refine V_bipush a_X9_isLetter_1 (by decide) ?_
      refine V_icmp_lt_f a_X9_isLetter_3 (by omega) (by omega) ?_
      refine V_ildn0 a_X9_isLetter_6 ?_
      refine V_bipush a_X9_isLetter_7 (by decide) ?_
      refine V_icmp_gt_t a_X9_isLetter_9 (by omega) (by omega) ?_
      refine V_iconst a_X9_isLetter_16 ?_
      exact V_zret a_X9_isLetter_17 (by omega) (⟨rfl, rfl⟩)
    · rw [bI_t (show isLt c = true from decide_eq_true (by omega))]
      refine V_ildn0 a_X9_isLetter_0 ?_
      refine V_bipush a_X9_isLetter_1 (by decide) ?_
      refine V_icmp_lt_f a_X9_isLetter_3 (by omega) (by omega) ?_
      refine V_ildn0 a_X9_isLetter_6 ?_
      refine V_bipush a_X9_isLetter_7 (by decide) ?_
      refine V_icmp_gt_f a_X9_isLetter_9 (by omega) (by omega) ?_
      refine V_iconst a_X9_isLetter_12 ?_
      refine V_goto a_X9_isLetter_13 ?_
      exact V_zret a_X9_isLetter_17 (by omega) (⟨rfl, rfl⟩)
theorem R_isDigit (hc : 0 ≤ c ∧ c < 65536) : Rt m_X9_isDigit 0 0 0 [vI c] σ (some (vI (bI (isDg c = true)))) σ := by
  show V _ 0 0 0 0 [some (vI c)] [] σ _
  by_cases a : c < 48
  · rw [bI_f (fun z => by have := of_decide_eq_true z; omega)]
    refine V_ildn0 a_X9_isDigit_0 ?_
    refine V_bipush a_X9_isDigit_1 (by decide) ?_
    refine V_icmp_lt_t a_X9_isDigit_3 (by omega) (by omega) ?_
    refine V_iconst a_X9_isDigit_16 ?_
    exact V_zret a_X9_isDigit_17 (by omega) (⟨rfl, rfl⟩)
  · by_cases b : c > 57
    · rw [bI_f (fun z => by have := of_decide_eq_true z; omega)]
      refine V_ildn0 a_X9_isDigit_0 ?_
      refine V_bipush a_X9_isDigit_1 (by decide) ?_
      refine V_icmp_lt_f a_X9_isDigit_3 (by omega) (by omega) ?_
      refine V_ildn0 a_X9_isDigit_6 ?_
      refine V_bipush a_X9_isDigit_7 (by decide) ?_
      refine V_icmp_gt_t a_X9_isDigit_9 (by omega) (by omega) ?_
      refine V_iconst a_X9_isDigit_16 ?_
      exact V_zret a_X9_isDigit_17 (by omega) (⟨rfl, rfl⟩)
    · rw [bI_t (show isDg c = true from decide_eq_true (by omega))]
      refine V_ildn0 a_X9_isDigit_0 ?_
      refine V_bipush a_X9_isDigit_1 (by decide) ?_
      refine V_icmp_lt_f a_X9_isDigit_3 (by omega) (by omega) ?_
      refine V_ildn0 a_X9_isDigit_6 ?_
      refine V_bipush a_X9_isDigit_7 (by decide) ?_
      refine V_icmp_gt_f a_X9_isDigit_9 (by omega) (by omega) ?_
      refine V_iconst a_X9_isDigit_12 ?_
      refine V_goto a_X9_isDigit_13 ?_
      exact V_zret a_X9_isDigit_17 (by omega) (⟨rfl, rfl⟩)
theorem bAt_in {k : Int} (h : k < e) : bAt T e k = T k := if_pos h
theorem TC.b {k : Int} (h : TC σ T e) (k0 : 0 ≤ k) (k1 : k < e) : 0 ≤ bAt T e k ∧ bAt T e k < 65536 := by
  have := h.2.1 k k0 k1
  rw [bAt_in k1]
  omega
theorem TC.cc {k : Int} (h : TC σ T e) (k0 : 0 ≤ k) (k1 : k < e) : σ.I 20 0 k = bAt T e k := by
  rw [bAt_in k1]
  exact (h.2.1 k k0 k1).1
theorem R_readWord {F : Int} (h : TC σ T e) (hF : 0 ≤ F ∧ F ≤ e) (h4 : σ.I 9 0 4 = F) : Cv m_X9_readWord 1 0 0 [vR (some (9, 0))] σ none (fun τ => Fm [9] σ τ ∧ τ.I 9 0 0 = e ∧ τ.I 9 0 1 = 1 ∧ τ.I 9 0 2 = σ.I 9 0 2 ∧ τ.I 9 0 4 = skp isLt T e F) := by
  have h6 := h.2.2.2
  show V _ 1 0 0 0 [some (vR (some (9, 0)))] [] σ _
  refine V_aldn0 a_X9_readWord_0 ?_
  refine V_iconst a_X9_readWord_1 ?_
  refine V_putI a_X9_readWord_2 f_X9_29 rfl ?_
  refine loopW (I := fun x => F ≤ x ∧ x ≤ e ∧ ∀ j, F ≤ j → j < x → isLt (bAt T e j) = true) (g := fun k => isLt (bAt T e k)) (f := fun k => k + 1) (m := fun k => (e - k).toNat) (P := fun k => ∀ τ, Fm [9] σ τ → τ.I 9 0 0 = e → τ.I 9 0 1 = 1 → τ.I 9 0 2 = σ.I 9 0 2 → τ.I 9 0 4 = k → V _ 1 0 0 5 [some (vR (some (9, 0)))] [] τ _) (sk_s rfl) (E := skp isLt T e F) ?_ ?_ F ⟨Int.le_refl F, hF.2, fun j j0 j1 => by omega⟩ rfl _ (Fm.setI (by decide)) ((setI_ne (by decide)).trans h.2.2.1) setI_I (setI_ne (by decide)) ((setI_ne (by decide)).trans h4)
  · intro hx hg τ f g0 g1 g2 g4
    have ht : TC τ T e := h.fm f (by decide) g0
    have hW := ht.1
    by_cases z : skp isLt T e F < e
    · have rl := R_isLetter (σ := τ) (ht.b (by omega) z)
      rw [bI_f hg] at rl
      have hc := ht.cc (k := skp isLt T e F) (by omega) z
      refine V_aldn0 a_X9_readWord_5 ?_
      refine V_getIE a_X9_readWord_6 f_X9_19 rfl g4 ?_
      refine V_aldn0 a_X9_readWord_9 ?_
      refine V_getIE a_X9_readWord_10 f_X9_15 rfl g0 ?_
      refine V_icmp_ge_f a_X9_readWord_13 (by omega) (by omega) ?_
      refine V_aldn0 a_X9_readWord_16 ?_
      refine V_fin a_X9_readWord_17 f_X9_9 rfl hW ?_
      refine V_aldn0 a_X9_readWord_20 ?_
      refine V_getIE a_X9_readWord_21 f_X9_19 rfl g4 ?_
      refine V_caldE a_X9_readWord_24 rfl (by omega) hc ?_
      refine V_s1R a_X9_readWord_25 c_X9_32 rl ?_
      refine V_if_eq_t a_X9_readWord_28 (by omega) (by omega) ?_
      exact V_ret a_X9_readWord_44 (⟨rfl, f, g0, g1, g2, g4⟩)
    · refine V_aldn0 a_X9_readWord_5 ?_
      refine V_getIE a_X9_readWord_6 f_X9_19 rfl g4 ?_
      refine V_aldn0 a_X9_readWord_9 ?_
      refine V_getIE a_X9_readWord_10 f_X9_15 rfl g0 ?_
      refine V_icmp_ge_t a_X9_readWord_13 (by omega) (by omega) ?_
      exact V_ret a_X9_readWord_44 (⟨rfl, f, g0, g1, g2, g4⟩)
  · intro k hx hg ih τ f g0 g1 g2 g4
    have ht : TC τ T e := h.fm f (by decide) g0
    have hW := ht.1
    have z := bAt_lt rfl hg
    have rl := R_isLetter (σ := τ) (ht.b (k := k) (by omega) z)
    have hg : isLt (bAt T e k) = true := hg
    rw [bI_t hg] at rl
    have hc := ht.cc (k := k) (by omega) z
    have ih2 := ih (τ.setI 9 0 4 (k + 1)) (f.trans (Fm.setI (by decide))) ((setI_ne (by decide)).trans g0) ((setI_ne (by decide)).trans g1) ((setI_ne (by decide)).trans g2) setI_I
    refine V_aldn0 a_X9_readWord_5 ?_
    refine V_getIE a_X9_readWord_6 f_X9_19 rfl g4 ?_
    refine V_aldn0 a_X9_readWord_9 ?_
    refine V_getIE a_X9_readWord_10 f_X9_15 rfl g0 ?_
    refine V_icmp_ge_f a_X9_readWord_13 (by omega) (by omega) ?_
    refine V_aldn0 a_X9_readWord_16 ?_
    refine V_fin a_X9_readWord_17 f_X9_9 rfl hW ?_
    refine V_aldn0 a_X9_readWord_20 ?_
    refine V_getIE a_X9_readWord_21 f_X9_19 rfl g4 ?_
    refine V_caldE a_X9_readWord_24 rfl (by omega) hc ?_
    refine V_s1R a_X9_readWord_25 c_X9_32 rl ?_
    refine V_if_eq_f a_X9_readWord_28 (by omega) (by omega) ?_
    refine V_aldn0 a_X9_readWord_31 ?_
    first | refine V_dupR a_X9_readWord_32 ?_ | refine V_dupI a_X9_readWord_32 ?_
    refine V_getIE a_X9_readWord_33 f_X9_19 rfl g4 ?_
    refine V_iconst a_X9_readWord_36 ?_
    refine V_iadd a_X9_readWord_37 ?_
    refine V_putI a_X9_readWord_38 f_X9_19 rfl ?_
    refine V_goto a_X9_readWord_41 ?_
    exact ih2
theorem R_readNumber {F : Int} (h : TC σ T e) (hF : 0 ≤ F ∧ F ≤ e) (h4 : σ.I 9 0 4 = F) (h2 : σ.I 9 0 2 = F) : Cv m_X9_readNumber 1 0 0 [vR (some (9, 0))] σ none (fun τ => Fm [9] σ τ ∧ τ.I 9 0 0 = e ∧ τ.I 9 0 1 = 2 ∧ τ.I 9 0 2 = F ∧ τ.I 9 0 4 = skp isDg T e F ∧ τ.I 9 0 3 = nvA T e F (min 7 (skp isDg T e F - F))) := by
  have h6 := h.2.2.2
  have e0 : nvA T e F (min 7 (F - F)) = 0 := by
    rw [show min 7 (F - F) = 0 by omega]
    rfl
  show V _ 1 0 0 0 [some (vR (some (9, 0)))] [] σ _
  refine V_aldn0 a_X9_readNumber_0 ?_
  refine V_iconst a_X9_readNumber_1 ?_
  refine V_putI a_X9_readNumber_2 f_X9_29 rfl ?_
  refine V_aldn0 a_X9_readNumber_5 ?_
  refine V_iconst a_X9_readNumber_6 ?_
  refine V_putI a_X9_readNumber_7 f_X9_44 rfl ?_
  refine loopW (I := fun x => F ≤ x ∧ x ≤ e ∧ ∀ j, F ≤ j → j < x → isDg (bAt T e j) = true) (g := fun k => isDg (bAt T e k)) (f := fun k => k + 1) (m := fun k => (e - k).toNat) (P := fun k => ∀ τ, Fm [9] σ τ → τ.I 9 0 0 = e → τ.I 9 0 1 = 2 → τ.I 9 0 2 = F → τ.I 9 0 4 = k → τ.I 9 0 3 = nvA T e F (min 7 (k - F)) → V _ 1 0 0 10 [some (vR (some (9, 0)))] [] τ _) (sk_s rfl) (E := skp isDg T e F) ?_ ?_ F ⟨Int.le_refl F, hF.2, fun j j0 j1 => by omega⟩ rfl _ ((Fm.setI (by decide)).trans (Fm.setI (by decide))) ((setI_ne (by decide)).trans ((setI_ne (by decide)).trans h.2.2.1)) ((setI_ne (by decide)).trans setI_I) ((setI_ne (by decide)).trans ((setI_ne (by decide)).trans h2)) ((setI_ne (by decide)).trans ((setI_ne (by decide)).trans h4)) (setI_I.trans e0.symm)
  · intro hx hg τ f g0 g1 g2 g4 g3
    have ht : TC τ T e := h.fm f (by decide) g0
    have hW := ht.1
    by_cases z : skp isDg T e F < e
    · have rl := R_isDigit (σ := τ) (ht.b (by omega) z)
      rw [bI_f hg] at rl
      have hc := ht.cc (k := skp isDg T e F) (by omega) z
      refine V_aldn0 a_X9_readNumber_10 ?_
      refine V_getIE a_X9_readNumber_11 f_X9_19 rfl g4 ?_
      refine V_aldn0 a_X9_readNumber_14 ?_
      refine V_getIE a_X9_readNumber_15 f_X9_15 rfl g0 ?_
      refine V_icmp_ge_f a_X9_readNumber_18 (by omega) (by omega) ?_
      refine V_aldn0 a_X9_readNumber_21 ?_
      refine V_fin a_X9_readNumber_22 f_X9_9 rfl hW ?_
      refine V_aldn0 a_X9_readNumber_25 ?_
      refine V_getIE a_X9_readNumber_26 f_X9_19 rfl g4 ?_
      refine V_caldE a_X9_readNumber_29 rfl (by omega) hc ?_
      refine V_s1R a_X9_readNumber_30 c_X9_38 rl ?_
      refine V_if_eq_t a_X9_readNumber_33 (by omega) (by omega) ?_
      exact V_ret a_X9_readNumber_87 (⟨rfl, f, g0, g1, g2, g4, g3⟩)
    · refine V_aldn0 a_X9_readNumber_10 ?_
      refine V_getIE a_X9_readNumber_11 f_X9_19 rfl g4 ?_
      refine V_aldn0 a_X9_readNumber_14 ?_
      refine V_getIE a_X9_readNumber_15 f_X9_15 rfl g0 ?_
      refine V_icmp_ge_t a_X9_readNumber_18 (by omega) (by omega) ?_
      exact V_ret a_X9_readNumber_87 (⟨rfl, f, g0, g1, g2, g4, g3⟩)
  · intro k hx hg ih τ f g0 g1 g2 g4 g3
    have ht : TC τ T e := h.fm f (by decide) g0
    have hW := ht.1
    have z := bAt_lt rfl hg
    have rl := R_isDigit (σ := τ) (ht.b (k := k) (by omega) z)
    have hg : isDg (bAt T e k) = true := hg
    rw [bI_t hg] at rl
    have hc := ht.cc (k := k) (by omega) z
    by_cases y : k - F < 7
    · have ih2 := ih ((τ.setI 9 0 3 (nvA T e F (min 7 (k - F)) * 10 + bAt T e k - 48)).setI 9 0 4 (k + 1)) (f.trans ((Fm.setI (by decide)).trans (Fm.setI (by decide)))) ((setI_ne (by decide)).trans ((setI_ne (by decide)).trans g0)) ((setI_ne (by decide)).trans ((setI_ne (by decide)).trans g1)) ((setI_ne (by decide)).trans ((setI_ne (by decide)).trans g2)) setI_I (by
        rw [setI_ne (by decide), setI_I, show min 7 (k - F) = k - F by omega, show min 7 (k + 1 - F) = (k - F) + 1 by omega, nvA_s (by omega), show F + (k - F) = k by omega]
        omega)
      refine V_aldn0 a_X9_readNumber_10 ?_
      refine V_getIE a_X9_readNumber_11 f_X9_19 rfl g4 ?_
      refine V_aldn0 a_X9_readNumber_14 ?_
      refine V_getIE a_X9_readNumber_15 f_X9_15 rfl g0 ?_
      refine V_icmp_ge_f a_X9_readNumber_18 (by omega) (by omega) ?_
      refine V_aldn0 a_X9_readNumber_21 ?_
      refine V_fin a_X9_readNumber_22 f_X9_9 rfl hW ?_
      refine V_aldn0 a_X9_readNumber_25 ?_
      refine V_getIE a_X9_readNumber_26 f_X9_19 rfl g4 ?_
      refine V_caldE a_X9_readNumber_29 rfl (by omega) hc ?_
      refine V_s1R a_X9_readNumber_30 c_X9_38 rl ?_
      refine V_if_eq_f a_X9_readNumber_33 (by omega) (by omega) ?_
      refine V_aldn0 a_X9_readNumber_36 ?_
      refine V_getIE a_X9_readNumber_37 f_X9_19 rfl g4 ?_
      refine V_aldn0 a_X9_readNumber_40 ?_
      refine V_getIE a_X9_readNumber_41 f_X9_22 rfl g2 ?_
      refine V_isub a_X9_readNumber_44 ?_
      refine V_bipush a_X9_readNumber_45 (by decide) ?_
      refine V_icmp_ge_f a_X9_readNumber_47 (by omega) (by omega) ?_
      refine V_aldn0 a_X9_readNumber_50 ?_
      refine V_aldn0 a_X9_readNumber_51 ?_
      refine V_getIE a_X9_readNumber_52 f_X9_44 rfl g3 ?_
      refine V_bipush a_X9_readNumber_55 (by decide) ?_
      refine V_imul a_X9_readNumber_57 ?_
      refine V_aldn0 a_X9_readNumber_58 ?_
      refine V_fin a_X9_readNumber_59 f_X9_9 rfl hW ?_
      refine V_aldn0 a_X9_readNumber_62 ?_
      refine V_getIE a_X9_readNumber_63 f_X9_19 rfl g4 ?_
      refine V_caldE a_X9_readNumber_66 rfl (by omega) hc ?_
      refine V_iadd a_X9_readNumber_67 ?_
      refine V_bipush a_X9_readNumber_68 (by decide) ?_
      refine V_isub a_X9_readNumber_70 ?_
      refine V_putI a_X9_readNumber_71 f_X9_44 rfl ?_
      refine V_aldn0 a_X9_readNumber_74 ?_
      first | refine V_dupR a_X9_readNumber_75 ?_ | refine V_dupI a_X9_readNumber_75 ?_
      refine V_getIE a_X9_readNumber_76 f_X9_19 rfl ((setI_ne (by decide)).trans g4) ?_
      refine V_iconst a_X9_readNumber_79 ?_
      refine V_iadd a_X9_readNumber_80 ?_
      refine V_putI a_X9_readNumber_81 f_X9_19 rfl ?_
      refine V_goto a_X9_readNumber_84 ?_
      exact ih2
    · have ih2 := ih (τ.setI 9 0 4 (k + 1)) (f.trans (Fm.setI (by decide))) ((setI_ne (by decide)).trans g0) ((setI_ne (by decide)).trans g1) ((setI_ne (by decide)).trans g2) setI_I (by
        rw [setI_ne (by decide), g3, show min 7 (k - F) = 7 by omega, show min 7 (k + 1 - F) = 7 by omega])
      refine V_aldn0 a_X9_readNumber_10 ?_
      refine V_getIE a_X9_readNumber_11 f_X9_19 rfl g4 ?_
      refine V_aldn0 a_X9_readNumber_14 ?_
      refine V_getIE a_X9_readNumber_15 f_X9_15 rfl g0 ?_
      refine V_icmp_ge_f a_X9_readNumber_18 (by omega) (by omega) ?_
      refine V_aldn0 a_X9_readNumber_21 ?_
      refine V_fin a_X9_readNumber_22 f_X9_9 rfl hW ?_
      refine V_aldn0 a_X9_readNumber_25 ?_
      refine V_getIE a_X9_readNumber_26 f_X9_19 rfl g4 ?_
      refine V_caldE a_X9_readNumber_29 rfl (by omega) hc ?_
      refine V_s1R a_X9_readNumber_30 c_X9_38 rl ?_
      refine V_if_eq_f a_X9_readNumber_33 (by omega) (by omega) ?_
      refine V_aldn0 a_X9_readNumber_36 ?_
      refine V_getIE a_X9_readNumber_37 f_X9_19 rfl g4 ?_
      refine V_aldn0 a_X9_readNumber_40 ?_
      refine V_getIE a_X9_readNumber_41 f_X9_22 rfl g2 ?_
      refine V_isub a_X9_readNumber_44 ?_
      refine V_bipush a_X9_readNumber_45 (by decide) ?_
      refine V_icmp_ge_t a_X9_readNumber_47 (by omega) (by omega) ?_
      refine V_aldn0 a_X9_readNumber_74 ?_
      first | refine V_dupR a_X9_readNumber_75 ?_ | refine V_dupI a_X9_readNumber_75 ?_
      refine V_getIE a_X9_readNumber_76 f_X9_19 rfl g4 ?_
      refine V_iconst a_X9_readNumber_79 ?_
      refine V_iadd a_X9_readNumber_80 ?_
      refine V_putI a_X9_readNumber_81 f_X9_19 rfl ?_
      refine V_goto a_X9_readNumber_84 ?_
      exact ih2
theorem R_readToken (h : TC σ T e) (hp : 0 ≤ p ∧ p ≤ e) (h4 : σ.I 9 0 4 = p) : Cv m_X9_readToken 2 0 0 [vR (some (9, 0))] σ none (fun τ => Fm [9] σ τ ∧ Tok τ T e p) := by
  have h6 := h.2.2.2
  have hFb := tF_bd (T := T) hp.2
  have p47 : ∀ τ, Fm [9] σ τ → τ.I 9 0 0 = e → τ.I 9 0 2 = tF T e p → V m_X9_readToken 2 0 0 47 [some (vR (some (9, 0)))] [] τ (fun r τ => r = .inl none ∧ Fm [9] σ τ ∧ Tok τ T e p) := by
    intro τ f g0 g2
    refine V_aldn0 a_X9_readToken_47 ?_
    refine V_aldn0 a_X9_readToken_48 ?_
    refine V_getIE a_X9_readToken_49 f_X9_22 rfl g2 ?_
    refine V_putI a_X9_readToken_52 f_X9_19 rfl ?_
    skip
    have f2 : Fm [9] σ (τ.setI 9 0 4 (tF T e p)) := f.trans (Fm.setI (by decide))
    have k0 : (τ.setI 9 0 4 (tF T e p)).I 9 0 0 = e := (setI_ne (by decide)).trans g0
    have k2 : (τ.setI 9 0 4 (tF T e p)).I 9 0 2 = tF T e p := (setI_ne (by decide)).trans g2
    have k4 : (τ.setI 9 0 4 (tF T e p)).I 9 0 4 = tF T e p := setI_I
    generalize τ.setI 9 0 4 (tF T e p) = ρ at f2 k0 k2 k4
    have ht : TC ρ T e := h.fm f2 (by decide) k0
    have hW := ht.1
    unfold Tok tE
    generalize tF T e p = F at hFb k2 k4 ⊢
    unfold tkA
    by_cases z : F < e
    · have hc := ht.cc (k := F) (by omega) z
      have hbb := ht.b (k := F) (by omega) z
      have rl := R_isLetter (σ := ρ) hbb
      have rd := R_isDigit (σ := ρ) hbb
      rw [if_pos z]
      by_cases a : isLt (bAt T e F) = true
      · rw [bI_t a] at rl
        rw [if_pos a]
        have rw1 := R_readWord ht ⟨by omega, by omega⟩ k4
        have eZ : tZ T e F = skp isLt T e F := if_pos a
        rw [eZ]
        refine V_aldn0 a_X9_readToken_55 ?_
        refine V_getIE a_X9_readToken_56 f_X9_22 rfl k2 ?_
        refine V_aldn0 a_X9_readToken_59 ?_
        refine V_getIE a_X9_readToken_60 f_X9_15 rfl k0 ?_
        refine V_icmp_lt_t a_X9_readToken_63 (by omega) (by omega) ?_
        refine V_aldn0 a_X9_readToken_74 ?_
        refine V_fin a_X9_readToken_75 f_X9_9 rfl hW ?_
        refine V_aldn0 a_X9_readToken_78 ?_
        refine V_getIE a_X9_readToken_79 f_X9_22 rfl k2 ?_
        refine V_caldE a_X9_readToken_82 rfl (by omega) hc ?_
        refine V_s1R a_X9_readToken_83 c_X9_32 rl ?_
        refine V_if_eq_f a_X9_readToken_86 (by omega) (by omega) ?_
        refine V_aldn0 a_X9_readToken_89 ?_
        refine V_v0PV a_X9_readToken_90 c_X9_35 rw1 (fun τ2 hτ2 => ?_)
        refine V_goto a_X9_readToken_93 ?_
        exact V_ret a_X9_readToken_151 (⟨rfl, f2.trans hτ2.1, hτ2.2.1, hτ2.2.2.1, hτ2.2.2.2.1.trans k2, hτ2.2.2.2.2, fun w => absurd w (by decide)⟩)
      · rw [bI_f a] at rl
        rw [if_neg a]
        by_cases b : isDg (bAt T e F) = true
        · rw [bI_t b] at rd
          rw [if_pos b]
          have rw1 := R_readNumber ht ⟨by omega, by omega⟩ k4 k2
          have eZ : tZ T e F = skp isDg T e F := by
            unfold tZ
            rw [if_neg a, if_pos b]
          rw [eZ]
          refine V_aldn0 a_X9_readToken_55 ?_
          refine V_getIE a_X9_readToken_56 f_X9_22 rfl k2 ?_
          refine V_aldn0 a_X9_readToken_59 ?_
          refine V_getIE a_X9_readToken_60 f_X9_15 rfl k0 ?_
          refine V_icmp_lt_t a_X9_readToken_63 (by omega) (by omega) ?_
          refine V_aldn0 a_X9_readToken_74 ?_
          refine V_fin a_X9_readToken_75 f_X9_9 rfl hW ?_
          refine V_aldn0 a_X9_readToken_78 ?_
          refine V_getIE a_X9_readToken_79 f_X9_22 rfl k2 ?_
          refine V_caldE a_X9_readToken_82 rfl (by omega) hc ?_
          refine V_s1R a_X9_readToken_83 c_X9_32 rl ?_
          refine V_if_eq_t a_X9_readToken_86 (by omega) (by omega) ?_
          refine V_aldn0 a_X9_readToken_96 ?_
          refine V_fin a_X9_readToken_97 f_X9_9 rfl hW ?_
          refine V_aldn0 a_X9_readToken_100 ?_
          refine V_getIE a_X9_readToken_101 f_X9_22 rfl k2 ?_
          refine V_caldE a_X9_readToken_104 rfl (by omega) hc ?_
          refine V_s1R a_X9_readToken_105 c_X9_38 rd ?_
          refine V_if_eq_f a_X9_readToken_108 (by omega) (by omega) ?_
          refine V_aldn0 a_X9_readToken_111 ?_
          refine V_v0PV a_X9_readToken_112 c_X9_41 rw1 (fun τ2 hτ2 => ?_)
          refine V_goto a_X9_readToken_115 ?_
          exact V_ret a_X9_readToken_151 (⟨rfl, f2.trans hτ2.1, hτ2.2.1, hτ2.2.2.1, hτ2.2.2.2.1, hτ2.2.2.2.2.1, fun _ => hτ2.2.2.2.2.2⟩)
        · rw [bI_f b] at rd
          rw [if_neg b]
          have eZ : tZ T e F = F + 1 := by
            unfold tZ
            rw [if_neg a, if_neg b, if_pos z]
          rw [eZ]
          by_cases d : bAt T e F = 59
          · rw [if_pos d]
            refine V_aldn0 a_X9_readToken_55 ?_
            refine V_getIE a_X9_readToken_56 f_X9_22 rfl k2 ?_
            refine V_aldn0 a_X9_readToken_59 ?_
            refine V_getIE a_X9_readToken_60 f_X9_15 rfl k0 ?_
            refine V_icmp_lt_t a_X9_readToken_63 (by omega) (by omega) ?_
            refine V_aldn0 a_X9_readToken_74 ?_
            refine V_fin a_X9_readToken_75 f_X9_9 rfl hW ?_
            refine V_aldn0 a_X9_readToken_78 ?_
            refine V_getIE a_X9_readToken_79 f_X9_22 rfl k2 ?_
            refine V_caldE a_X9_readToken_82 rfl (by omega) hc ?_
            refine V_s1R a_X9_readToken_83 c_X9_32 rl ?_
            refine V_if_eq_t a_X9_readToken_86 (by omega) (by omega) ?_
            refine V_aldn0 a_X9_readToken_96 ?_
            refine V_fin a_X9_readToken_97 f_X9_9 rfl hW ?_
            refine V_aldn0 a_X9_readToken_100 ?_
            refine V_getIE a_X9_readToken_101 f_X9_22 rfl k2 ?_
            refine V_caldE a_X9_readToken_104 rfl (by omega) hc ?_
            refine V_s1R a_X9_readToken_105 c_X9_38 rd ?_
            refine V_if_eq_t a_X9_readToken_108 (by omega) (by omega) ?_
            refine V_aldn0 a_X9_readToken_118 ?_
            refine V_aldn0 a_X9_readToken_119 ?_
            refine V_fin a_X9_readToken_120 f_X9_9 rfl hW ?_
            refine V_aldn0 a_X9_readToken_123 ?_
            refine V_getIE a_X9_readToken_124 f_X9_22 rfl k2 ?_
            refine V_caldE a_X9_readToken_127 rfl (by omega) hc ?_
            refine V_bipush a_X9_readToken_128 (by decide) ?_
            refine V_icmp_ne_f a_X9_readToken_130 (by omega) (by omega) ?_
            refine V_iconst a_X9_readToken_133 ?_
            refine V_goto a_X9_readToken_134 ?_
            refine V_putI a_X9_readToken_138 f_X9_29 rfl ?_
            refine V_aldn0 a_X9_readToken_141 ?_
            refine V_aldn0 a_X9_readToken_142 ?_
            refine V_getIE a_X9_readToken_143 f_X9_22 rfl ((setI_ne (by decide)).trans k2) ?_
            refine V_iconst a_X9_readToken_146 ?_
            refine V_iadd a_X9_readToken_147 ?_
            refine V_putI a_X9_readToken_148 f_X9_19 rfl ?_
            exact V_ret a_X9_readToken_151 (⟨rfl, f2.trans ((Fm.setI (by decide)).trans (Fm.setI (by decide))), (setI_ne (by decide)).trans ((setI_ne (by decide)).trans k0), (setI_ne (by decide)).trans setI_I, (setI_ne (by decide)).trans ((setI_ne (by decide)).trans k2), setI_I, fun w => absurd w (by decide)⟩)
          · rw [if_neg d]
            refine V_aldn0 a_X9_readToken_55 ?_
            refine V_getIE a_X9_readToken_56 f_X9_22 rfl k2 ?_
            refine V_aldn0 a_X9_readToken_59 ?_
            refine V_getIE a_X9_readToken_60 f_X9_15 rfl k0 ?_
            refine V_icmp_lt_t a_X9_readToken_63 (by omega) (by omega) ?_
            refine V_aldn0 a_X9_readToken_74 ?_
            refine V_fin a_X9_readToken_75 f_X9_9 rfl hW ?_
            refine V_aldn0 a_X9_readToken_78 ?_
            refine V_getIE a_X9_readToken_79 f_X9_22 rfl k2 ?_
            refine V_caldE a_X9_readToken_82 rfl (by omega) hc ?_
            refine V_s1R a_X9_readToken_83 c_X9_32 rl ?_
            refine V_if_eq_t a_X9_readToken_86 (by omega) (by omega) ?_
            refine V_aldn0 a_X9_readToken_96 ?_
            refine V_fin a_X9_readToken_97 f_X9_9 rfl hW ?_
            refine V_aldn0 a_X9_readToken_100 ?_
            refine V_getIE a_X9_readToken_101 f_X9_22 rfl k2 ?_
            refine V_caldE a_X9_readToken_104 rfl (by omega) hc ?_
            refine V_s1R a_X9_readToken_105 c_X9_38 rd ?_
            refine V_if_eq_t a_X9_readToken_108 (by omega) (by omega) ?_
            refine V_aldn0 a_X9_readToken_118 ?_
            refine V_aldn0 a_X9_readToken_119 ?_
            refine V_fin a_X9_readToken_120 f_X9_9 rfl hW ?_
            refine V_aldn0 a_X9_readToken_123 ?_
            refine V_getIE a_X9_readToken_124 f_X9_22 rfl k2 ?_
            refine V_caldE a_X9_readToken_127 rfl (by omega) hc ?_
            refine V_bipush a_X9_readToken_128 (by decide) ?_
            refine V_icmp_ne_t a_X9_readToken_130 (by omega) (by omega) ?_
            refine V_iconst a_X9_readToken_137 ?_
            refine V_putI a_X9_readToken_138 f_X9_29 rfl ?_
            refine V_aldn0 a_X9_readToken_141 ?_
            refine V_aldn0 a_X9_readToken_142 ?_
            refine V_getIE a_X9_readToken_143 f_X9_22 rfl ((setI_ne (by decide)).trans k2) ?_
            refine V_iconst a_X9_readToken_146 ?_
            refine V_iadd a_X9_readToken_147 ?_
            refine V_putI a_X9_readToken_148 f_X9_19 rfl ?_
            exact V_ret a_X9_readToken_151 (⟨rfl, f2.trans ((Fm.setI (by decide)).trans (Fm.setI (by decide))), (setI_ne (by decide)).trans ((setI_ne (by decide)).trans k0), (setI_ne (by decide)).trans setI_I, (setI_ne (by decide)).trans ((setI_ne (by decide)).trans k2), setI_I, fun w => absurd w (by decide)⟩)
    · rw [if_neg z]
      have eF : bAt T e F = -1 := if_neg z
      have eZ : tZ T e F = F := by
        unfold tZ
        rw [eF, if_neg (by decide), if_neg (by decide), if_neg z]
      rw [eZ]
      refine V_aldn0 a_X9_readToken_55 ?_
      refine V_getIE a_X9_readToken_56 f_X9_22 rfl k2 ?_
      refine V_aldn0 a_X9_readToken_59 ?_
      refine V_getIE a_X9_readToken_60 f_X9_15 rfl k0 ?_
      refine V_icmp_lt_f a_X9_readToken_63 (by omega) (by omega) ?_
      refine V_aldn0 a_X9_readToken_66 ?_
      refine V_iconst a_X9_readToken_67 ?_
      refine V_putI a_X9_readToken_68 f_X9_29 rfl ?_
      refine V_goto a_X9_readToken_71 ?_
      exact V_ret a_X9_readToken_151 (⟨rfl, f2.trans (Fm.setI (by decide)), (setI_ne (by decide)).trans k0, setI_I, (setI_ne (by decide)).trans k2, (setI_ne (by decide)).trans k4, fun w => absurd w (by decide)⟩)
  show V _ 2 0 0 0 [some (vR (some (9, 0)))] [] σ _
  refine V_aldn0 a_X9_readToken_0 ?_
  refine V_aldn0 a_X9_readToken_1 ?_
  refine V_getIE a_X9_readToken_2 f_X9_19 rfl h4 ?_
  refine V_putI a_X9_readToken_5 f_X9_22 rfl ?_
  refine loopW (I := fun x => p ≤ x ∧ x ≤ e ∧ ∀ j, p ≤ j → j < x → isSp (bAt T e j) = true) (g := fun k => isSp (bAt T e k)) (f := fun k => k + 1) (m := fun k => (e - k).toNat) (P := fun k => ∀ τ, Fm [9] σ τ → τ.I 9 0 0 = e → τ.I 9 0 2 = k → V _ 2 0 0 8 [some (vR (some (9, 0)))] [] τ _) (sk_s rfl) (E := tF T e p) ?_ ?_ p ⟨Int.le_refl p, hp.2, fun j j0 j1 => by omega⟩ rfl _ (Fm.setI (by decide)) ((setI_ne (by decide)).trans h.2.2.1) setI_I
  · intro hx hg τ f g0 g2
    have ht : TC τ T e := h.fm f (by decide) g0
    have hW := ht.1
    have k2 := p47 τ f g0 g2
    by_cases z : tF T e p < e
    · have rl := R_isSpace (σ := τ) (ht.b (by omega) z)
      rw [bI_f hg] at rl
      have hc := ht.cc (k := tF T e p) (by omega) z
      refine V_aldn0 a_X9_readToken_8 ?_
      refine V_getIE a_X9_readToken_9 f_X9_22 rfl g2 ?_
      refine V_aldn0 a_X9_readToken_12 ?_
      refine V_getIE a_X9_readToken_13 f_X9_15 rfl g0 ?_
      refine V_icmp_ge_f a_X9_readToken_16 (by omega) (by omega) ?_
      refine V_aldn0 a_X9_readToken_19 ?_
      refine V_fin a_X9_readToken_20 f_X9_9 rfl hW ?_
      refine V_aldn0 a_X9_readToken_23 ?_
      refine V_getIE a_X9_readToken_24 f_X9_22 rfl g2 ?_
      refine V_caldE a_X9_readToken_27 rfl (by omega) hc ?_
      refine V_s1R a_X9_readToken_28 c_X9_25 rl ?_
      refine V_if_eq_t a_X9_readToken_31 (by omega) (by omega) ?_
      exact k2
    · refine V_aldn0 a_X9_readToken_8 ?_
      refine V_getIE a_X9_readToken_9 f_X9_22 rfl g2 ?_
      refine V_aldn0 a_X9_readToken_12 ?_
      refine V_getIE a_X9_readToken_13 f_X9_15 rfl g0 ?_
      refine V_icmp_ge_t a_X9_readToken_16 (by omega) (by omega) ?_
      exact k2
  · intro k hx hg ih τ f g0 g2
    have ht : TC τ T e := h.fm f (by decide) g0
    have hW := ht.1
    have z := bAt_lt rfl hg
    have rl := R_isSpace (σ := τ) (ht.b (k := k) (by omega) z)
    have hg : isSp (bAt T e k) = true := hg
    rw [bI_t hg] at rl
    have hc := ht.cc (k := k) (by omega) z
    have ih2 := ih (τ.setI 9 0 2 (k + 1)) (f.trans (Fm.setI (by decide))) ((setI_ne (by decide)).trans g0) setI_I
    refine V_aldn0 a_X9_readToken_8 ?_
    refine V_getIE a_X9_readToken_9 f_X9_22 rfl g2 ?_
    refine V_aldn0 a_X9_readToken_12 ?_
    refine V_getIE a_X9_readToken_13 f_X9_15 rfl g0 ?_
    refine V_icmp_ge_f a_X9_readToken_16 (by omega) (by omega) ?_
    refine V_aldn0 a_X9_readToken_19 ?_
    refine V_fin a_X9_readToken_20 f_X9_9 rfl hW ?_
    refine V_aldn0 a_X9_readToken_23 ?_
    refine V_getIE a_X9_readToken_24 f_X9_22 rfl g2 ?_
    refine V_caldE a_X9_readToken_27 rfl (by omega) hc ?_
    refine V_s1R a_X9_readToken_28 c_X9_25 rl ?_
    refine V_if_eq_f a_X9_readToken_31 (by omega) (by omega) ?_
    refine V_aldn0 a_X9_readToken_34 ?_
    first | refine V_dupR a_X9_readToken_35 ?_ | refine V_dupI a_X9_readToken_35 ?_
    refine V_getIE a_X9_readToken_36 f_X9_22 rfl g2 ?_
    refine V_iconst a_X9_readToken_39 ?_
    refine V_iadd a_X9_readToken_40 ?_
    refine V_putI a_X9_readToken_41 f_X9_22 rfl ?_
    refine V_goto a_X9_readToken_44 ?_
    exact ih2
theorem tk_bd {f : Int} : 0 ≤ tkA T e f ∧ tkA T e f ≤ 4 := by
  unfold tkA
  split
  · split
    · omega
    · split
      · omega
      · split <;> omega
  · omega
theorem tk_1 {f : Int} : tkA T e f = 1 ↔ isLt (bAt T e f) = true := by
  unfold tkA
  by_cases z : f < e
  · rw [if_pos z]
    by_cases a : isLt (bAt T e f) = true
    · rw [if_pos a]
      exact ⟨fun _ => a, fun _ => rfl⟩
    · rw [if_neg a]
      refine ⟨fun w => ?_, fun w => absurd w a⟩
      exfalso
      revert w
      split
      · decide
      · split <;> decide
  · rw [if_neg z]
    refine ⟨fun w => absurd w (by decide), fun w => absurd (bAt_lt rfl w) z⟩
theorem tk_2 {f : Int} : tkA T e f = 2 ↔ isDg (bAt T e f) = true := by
  unfold tkA
  by_cases z : f < e
  · rw [if_pos z]
    by_cases a : isLt (bAt T e f) = true
    · rw [if_pos a]
      exact ⟨fun w => absurd w (by decide), fun w => absurd w (lt_dg a)⟩
    · rw [if_neg a]
      by_cases b : isDg (bAt T e f) = true
      · rw [if_pos b]
        exact ⟨fun _ => b, fun _ => rfl⟩
      · rw [if_neg b]
        refine ⟨fun w => ?_, fun w => absurd w b⟩
        exfalso
        revert w
        split <;> decide
  · rw [if_neg z]
    refine ⟨fun w => absurd w (by decide), fun w => absurd (bAt_lt rfl w) z⟩
/-- the semicolon -/
theorem tk_3 (hp : p ≤ e) : tkA T e (tF T e p) = 3 ↔ wdB T e p 29 = true := by
  have hF := tF_bd (T := T) hp
  rw [wdB_t]
  unfold wdA tE
  have s1 : (slen 29 : Int) = 1 := by decide
  have c1 : schr 29 0 = 59 := by decide
  rw [s1]
  generalize tF T e p = F at hF ⊢
  refine ⟨fun w => ?_, fun w => ?_⟩
  · unfold tkA at w
    by_cases z : F < e
    · rw [if_pos z] at w
      by_cases a : isLt (bAt T e F) = true
      · rw [if_pos a] at w
        exact absurd w (by decide)
      · rw [if_neg a] at w
        by_cases b : isDg (bAt T e F) = true
        · rw [if_pos b] at w
          exact absurd w (by decide)
        · rw [if_neg b] at w
          by_cases d : bAt T e F = 59
          · have eZ : tZ T e F = F + 1 := by
              unfold tZ
              rw [if_neg a, if_neg b, if_pos z]
            refine ⟨by rw [eZ]; omega, fun k k0 k1 => ?_⟩
            rw [show k = 0 by omega, c1, Int.add_zero]
            exact d
          · rw [if_neg d] at w
            exact absurd w (by decide)
    · rw [if_neg z] at w
      exact absurd w (by decide)
  · have d := w.2 0 (Int.le_refl _) (by decide)
    rw [c1, Int.add_zero] at d
    have z : F < e := by
      apply Classical.byContradiction
      intro y
      have : bAt T e F = -1 := if_neg y
      omega
    unfold tkA
    rw [if_pos z, d]
    rfl
theorem R_isLongNumber (h : Tok σ T e p) (hp : 0 ≤ p ∧ p ≤ e) (he : e ≤ 600) : Rt m_X9_isLongNumber 0 0 0 [vR (some (9, 0))] σ (some (vI (bI (tkA T e (tF T e p) = 2 ∧ 7 < tE T e p - tF T e p)))) σ := by
  obtain ⟨g0, g1, g2, g4, g3⟩ := h
  have hb := tE_bd (T := T) hp.2
  have hk := tk_bd (T := T) (e := e) (f := tF T e p)
  show V _ 0 0 0 0 [some (vR (some (9, 0)))] [] σ _
  by_cases a : tkA T e (tF T e p) = 2
  · by_cases b : 7 < tE T e p - tF T e p
    · rw [bI_t ⟨a, b⟩]
      refine V_aldn0 a_X9_isLongNumber_0 ?_
      refine V_getIE a_X9_isLongNumber_1 f_X9_29 rfl g1 ?_
      refine V_iconst a_X9_isLongNumber_4 ?_
      refine V_icmp_ne_f a_X9_isLongNumber_5 (by omega) (by omega) ?_
      refine V_aldn0 a_X9_isLongNumber_8 ?_
      refine V_getIE a_X9_isLongNumber_9 f_X9_19 rfl g4 ?_
      refine V_aldn0 a_X9_isLongNumber_12 ?_
      refine V_getIE a_X9_isLongNumber_13 f_X9_22 rfl g2 ?_
      refine V_isub a_X9_isLongNumber_16 ?_
      refine V_bipush a_X9_isLongNumber_17 (by decide) ?_
      refine V_icmp_le_f a_X9_isLongNumber_19 (by omega) (by omega) ?_
      refine V_iconst a_X9_isLongNumber_22 ?_
      refine V_goto a_X9_isLongNumber_23 ?_
      exact V_zret a_X9_isLongNumber_27 (by omega) (⟨rfl, rfl⟩)
    · rw [bI_f (fun z => b z.2)]
      refine V_aldn0 a_X9_isLongNumber_0 ?_
      refine V_getIE a_X9_isLongNumber_1 f_X9_29 rfl g1 ?_
      refine V_iconst a_X9_isLongNumber_4 ?_
      refine V_icmp_ne_f a_X9_isLongNumber_5 (by omega) (by omega) ?_
      refine V_aldn0 a_X9_isLongNumber_8 ?_
      refine V_getIE a_X9_isLongNumber_9 f_X9_19 rfl g4 ?_
      refine V_aldn0 a_X9_isLongNumber_12 ?_
      refine V_getIE a_X9_isLongNumber_13 f_X9_22 rfl g2 ?_
      refine V_isub a_X9_isLongNumber_16 ?_
      refine V_bipush a_X9_isLongNumber_17 (by decide) ?_
      refine V_icmp_le_t a_X9_isLongNumber_19 (by omega) (by omega) ?_
      refine V_iconst a_X9_isLongNumber_26 ?_
      exact V_zret a_X9_isLongNumber_27 (by omega) (⟨rfl, rfl⟩)
  · rw [bI_f (fun z => a z.1)]
    refine V_aldn0 a_X9_isLongNumber_0 ?_
    refine V_getIE a_X9_isLongNumber_1 f_X9_29 rfl g1 ?_
    refine V_iconst a_X9_isLongNumber_4 ?_
    refine V_icmp_ne_t a_X9_isLongNumber_5 (by omega) (by omega) ?_
    refine V_iconst a_X9_isLongNumber_26 ?_
    exact V_zret a_X9_isLongNumber_27 (by omega) (⟨rfl, rfl⟩)
theorem R_CisWord {j : Nat} (hc : TC σ T e) (h : Tok σ T e p) (hp : 0 ≤ p ∧ p ≤ e) (hj1 : j < 11) : Rt m_X9_isWord 4 0 0 [vR (some (9, 0)), vR (some (98, j))] σ (some (vI (bI (wdB T e p j = true)))) σ := by
  obtain ⟨g0, g1, g2, g4, g3⟩ := h
  have hW := hc.1
  have h6 := hc.2.2.2
  have hb := tE_bd (T := T) hp.2
  have hk := tk_bd (T := T) (e := e) (f := tF T e p)
  have hs := slen_bd j (by omega)
  have hl := wd_lt j hj1
  have hj : j < 30 := by omega
  have rl := R_slen (σ := σ) (j := j) (by omega)
  show V _ 4 0 0 0 [some (vR (some (9, 0))), some (vR (some (98, j))), none] [] σ _
  by_cases a : tkA T e (tF T e p) = 1
  · by_cases b : tE T e p - tF T e p = (slen j : Int)
    · refine V_aldn0 a_X9_isWord_0 ?_
      refine V_getIE a_X9_isWord_1 f_X9_29 rfl g1 ?_
      refine V_iconst a_X9_isWord_4 ?_
      refine V_icmp_ne_f a_X9_isWord_5 (by omega) (by omega) ?_
      refine V_aldn0 a_X9_isWord_8 ?_
      refine V_getIE a_X9_isWord_9 f_X9_19 rfl g4 ?_
      refine V_aldn0 a_X9_isWord_12 ?_
      refine V_getIE a_X9_isWord_13 f_X9_22 rfl g2 ?_
      refine V_isub a_X9_isWord_16 ?_
      refine V_aldn1 a_X9_isWord_17 ?_
      refine V_t0R a_X9_isWord_18 c_X9_47 rl ?_ (hj := hj)
      refine V_icmp_eq_t a_X9_isWord_21 (by omega) (by omega) ?_
      refine V_iconst a_X9_isWord_26 ?_
      refine V_istn2 a_X9_isWord_27 ?_
      refine loopI (P := fun k => (∀ i, 0 ≤ i → i < k → bAt T e (tF T e p + i) = schr j i) → V _ 4 0 0 28 [some (vR (some (9, 0))), some (vR (some (98, j))), some (vI k)] [] σ _) (N := (slen j : Int)) (by omega) ?_ ?_ (fun i _ _ => by omega)
      · intro hall
        rw [bI_t (wdB_t.mpr ⟨b, hall⟩)]
        refine V_ildn2 a_X9_isWord_28 ?_
        refine V_aldn1 a_X9_isWord_29 ?_
        refine V_t0R a_X9_isWord_30 c_X9_47 rl ?_ (hj := hj)
        refine V_icmp_ge_t a_X9_isWord_33 (by omega) (by omega) ?_
        refine V_iconst a_X9_isWord_63 ?_
        exact V_zret a_X9_isWord_64 (by omega) (⟨rfl, rfl⟩)
      · intro k k0 k1 ih hall
        have hcc := hc.cc (k := tF T e p + k) (by omega) (by omega)
        have hcb := hc.b (k := tF T e p + k) (by omega) (by omega)
        have hsb := schr_bd (j := j) (by omega) k0 k1
        have rc := R_charAt (σ := σ) (j := j) (k := k) (by omega) ⟨k0, k1⟩
        by_cases q : bAt T e (tF T e p + k) = schr j k
        · have ih2 := ih (fun i i0 i1 => by
            by_cases z : i = k
            · rw [z]
              exact q
            · exact hall i i0 (by omega))
          refine V_ildn2 a_X9_isWord_28 ?_
          refine V_aldn1 a_X9_isWord_29 ?_
          refine V_t0R a_X9_isWord_30 c_X9_47 rl ?_ (hj := hj)
          refine V_icmp_ge_f a_X9_isWord_33 (by omega) (by omega) ?_
          refine V_aldn0 a_X9_isWord_36 ?_
          refine V_fin a_X9_isWord_37 f_X9_9 rfl hW ?_
          refine V_aldn0 a_X9_isWord_40 ?_
          refine V_getIE a_X9_isWord_41 f_X9_22 rfl g2 ?_
          refine V_ildn2 a_X9_isWord_44 ?_
          refine V_iadd a_X9_isWord_45 ?_
          refine V_caldE a_X9_isWord_46 rfl (by omega) hcc ?_
          refine V_aldn1 a_X9_isWord_47 ?_
          refine V_ildn2 a_X9_isWord_48 ?_
          refine V_t1R a_X9_isWord_49 c_X9_52 rc ?_ (hj := hj)
          refine V_icmp_eq_t a_X9_isWord_52 (by omega) (by omega) ?_
          refine V_inc2 a_X9_isWord_57 ?_
          refine V_goto a_X9_isWord_60 ?_
          exact ih2
        · rw [bI_f (fun z => q ((wdB_t.mp z).2 k k0 k1))]
          refine V_ildn2 a_X9_isWord_28 ?_
          refine V_aldn1 a_X9_isWord_29 ?_
          refine V_t0R a_X9_isWord_30 c_X9_47 rl ?_ (hj := hj)
          refine V_icmp_ge_f a_X9_isWord_33 (by omega) (by omega) ?_
          refine V_aldn0 a_X9_isWord_36 ?_
          refine V_fin a_X9_isWord_37 f_X9_9 rfl hW ?_
          refine V_aldn0 a_X9_isWord_40 ?_
          refine V_getIE a_X9_isWord_41 f_X9_22 rfl g2 ?_
          refine V_ildn2 a_X9_isWord_44 ?_
          refine V_iadd a_X9_isWord_45 ?_
          refine V_caldE a_X9_isWord_46 rfl (by omega) hcc ?_
          refine V_aldn1 a_X9_isWord_47 ?_
          refine V_ildn2 a_X9_isWord_48 ?_
          refine V_t1R a_X9_isWord_49 c_X9_52 rc ?_ (hj := hj)
          refine V_icmp_eq_f a_X9_isWord_52 (by omega) (by omega) ?_
          refine V_iconst a_X9_isWord_55 ?_
          exact V_zret a_X9_isWord_56 (by omega) (⟨rfl, rfl⟩)
    · rw [bI_f (fun z => b (wdB_t.mp z).1)]
      refine V_aldn0 a_X9_isWord_0 ?_
      refine V_getIE a_X9_isWord_1 f_X9_29 rfl g1 ?_
      refine V_iconst a_X9_isWord_4 ?_
      refine V_icmp_ne_f a_X9_isWord_5 (by omega) (by omega) ?_
      refine V_aldn0 a_X9_isWord_8 ?_
      refine V_getIE a_X9_isWord_9 f_X9_19 rfl g4 ?_
      refine V_aldn0 a_X9_isWord_12 ?_
      refine V_getIE a_X9_isWord_13 f_X9_22 rfl g2 ?_
      refine V_isub a_X9_isWord_16 ?_
      refine V_aldn1 a_X9_isWord_17 ?_
      refine V_t0R a_X9_isWord_18 c_X9_47 rl ?_ (hj := hj)
      refine V_icmp_eq_f a_X9_isWord_21 (by omega) (by omega) ?_
      refine V_iconst a_X9_isWord_24 ?_
      exact V_zret a_X9_isWord_25 (by omega) (⟨rfl, rfl⟩)
  · rw [bI_f (fun z => a (tk_1.mpr (by
      have y := (wdB_t.mp z).2 0 (Int.le_refl _) (by omega)
      rw [Int.add_zero] at y
      rw [y]
      exact hl.2)))]
    refine V_aldn0 a_X9_isWord_0 ?_
    refine V_getIE a_X9_isWord_1 f_X9_29 rfl g1 ?_
    refine V_iconst a_X9_isWord_4 ?_
    refine V_icmp_ne_t a_X9_isWord_5 (by omega) (by omega) ?_
    refine V_iconst a_X9_isWord_24 ?_
    exact V_zret a_X9_isWord_25 (by omega) (⟨rfl, rfl⟩)
end Ct1

