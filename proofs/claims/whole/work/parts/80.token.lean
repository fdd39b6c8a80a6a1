/-- where the reader stands: the token's start and end, the fault and its place -/
abbrev Hp.pz (σ : Hp) (f t c a : Int) : Hp := (((σ.setI 11 0 9 f).setI 11 0 10 t).setI 11 0 12 c).setI 11 0 13 a
theorem setI_comm {σ : Hp} {t i : Nat} {k v k' v' : Int} (h : k ≠ k') : (σ.setI t i k v).setI t i k' v' = (σ.setI t i k' v').setI t i k v := by
  show Hp.wI (Hp.wI σ _) (u3 (u3 σ.I t i k v) t i k' v') = Hp.wI (Hp.wI σ _) (u3 (u3 σ.I t i k' v') t i k v)
  have e : u3 (u3 σ.I t i k v) t i k' v' = u3 (u3 σ.I t i k' v') t i k v := by
    funext t2 i2 k2
    unfold u3
    by_cases h1 : t2 = t ∧ i2 = i ∧ k2 = k'
    · rw [if_pos h1]
      by_cases h2 : t2 = t ∧ i2 = i ∧ k2 = k
      · exact absurd (h2.2.2.symm.trans h1.2.2) h
      · rw [if_neg h2, if_pos h1]
    · rw [if_neg h1]
      by_cases h2 : t2 = t ∧ i2 = i ∧ k2 = k
      · rw [if_pos h2, if_pos h2]
      · rw [if_neg h2, if_neg h2, if_neg h1]
  rw [e]
  rfl
section Tk
variable {σ : Hp} {T : Int → Int} {e : Int}
theorem pz_9 {f t c a : Int} : (σ.pz f t c a).I 11 0 9 = f := (setI_ne (by decide)).trans ((setI_ne (by decide)).trans ((setI_ne (by decide)).trans setI_I))
theorem pz_10 {f t c a : Int} : (σ.pz f t c a).I 11 0 10 = t := (setI_ne (by decide)).trans ((setI_ne (by decide)).trans setI_I)
theorem pz_12 {f t c a : Int} : (σ.pz f t c a).I 11 0 12 = c := (setI_ne (by decide)).trans setI_I
theorem pz_13 {f t c a : Int} : (σ.pz f t c a).I 11 0 13 = a := setI_I
theorem pz_k {f t c a k : Int} (h : k ≠ 9 ∧ k ≠ 10 ∧ k ≠ 12 ∧ k ≠ 13) : (σ.pz f t c a).I 11 0 k = σ.I 11 0 k := (setI_ne h.2.2.2).trans ((setI_ne h.2.2.1).trans ((setI_ne h.2.1).trans (setI_ne h.1)))
theorem pz_I {f t c a : Int} {t' : Nat} (h : t' ≠ 11) : (σ.pz f t c a).I t' = σ.I t' := (setI_t h).trans ((setI_t h).trans ((setI_t h).trans (setI_t h)))
theorem Tx.pz {f t c a : Int} (h : Tx σ T e) : Tx (σ.pz f t c a) T e := (((h.set (by decide)).set (by decide)).set (by decide)).set (by decide)
theorem pz_ft {f t c a f' t' : Int} : (σ.pz f t c a).ft f' t' = σ.pz f' t' c a := by
  show ((((((σ.setI 11 0 9 f).setI 11 0 10 t).setI 11 0 12 c).setI 11 0 13 a).setI 11 0 9 f').setI 11 0 10 t') = _
  rw [setI_comm (k := 13) (k' := 9) (by decide), setI_comm (k := 12) (k' := 9) (by decide), setI_comm (k := 10) (k' := 9) (by decide), setI_setI, setI_comm (k := 13) (k' := 10) (by decide), setI_comm (k := 12) (k' := 10) (by decide), setI_setI]
theorem pz_w {f t c a c' a' : Int} : ((σ.pz f t c a).setI 11 0 12 c').setI 11 0 13 a' = σ.pz f t c' a' := by
  show (((((σ.setI 11 0 9 f).setI 11 0 10 t).setI 11 0 12 c).setI 11 0 13 a).setI 11 0 12 c').setI 11 0 13 a' = _
  rw [setI_comm (k := 13) (k' := 12) (by decide), setI_setI, setI_setI]
theorem pz_pz {f t c a f' t' c' a' : Int} : (σ.pz f t c a).pz f' t' c' a' = σ.pz f' t' c' a' := by
  show (((σ.pz f t c a).ft f' t').setI 11 0 12 c').setI 11 0 13 a' = _
  rw [pz_ft, pz_w]
theorem pz_self : σ.pz (σ.I 11 0 9) (σ.I 11 0 10) (σ.I 11 0 12) (σ.I 11 0 13) = σ := by
  have key : ∀ k, σ.setI 11 0 k (σ.I 11 0 k) = σ := fun k => by
    rw [setI_row]
    have e : upI (σ.I 11 0) k (σ.I 11 0 k) = σ.I 11 0 := by
      funext j
      unfold upI
      by_cases q : j = k
      · rw [if_pos q, q]
      · rw [if_neg q]
    rw [e, rI_self]
  show (((σ.setI 11 0 9 (σ.I 11 0 9)).setI 11 0 10 (σ.I 11 0 10)).setI 11 0 12 (σ.I 11 0 12)).setI 11 0 13 (σ.I 11 0 13) = σ
  rw [key, key, key, key]
theorem FK.pz {f t c a : Int} : FK [] [9, 10, 12, 13] σ (σ.pz f t c a) := ⟨(((Fm.setI (by decide)).trans (Fm.setI (by decide))).trans (Fm.setI (by decide))).trans (Fm.setI (by decide)), fun k hk => pz_k ⟨fun z => hk (by rw [z]; decide), fun z => hk (by rw [z]; decide), fun z => hk (by rw [z]; decide), fun z => hk (by rw [z]; decide)⟩⟩
theorem R_wrong0 {f t a c : Int} : Rt m_X11_wrong 0 0 0 [vR (some (11, 0)), vI c] (σ.pz f t 0 a) none (σ.pz f t c f) := by
  show V _ 0 0 0 0 [some (vR (some (11, 0))), some (vI c)] [] (σ.pz f t 0 a) _
  refine V_aldn0 a_X11_wrong_0 ?_
  refine V_getIE a_X11_wrong_1 f_X11_118 rfl pz_12 ?_
  refine V_if_le_t a_X11_wrong_4 (by omega) (by omega) ?_
  refine V_aldn0 a_X11_wrong_8 ?_
  refine V_ildn1 a_X11_wrong_9 ?_
  refine V_putI a_X11_wrong_10 f_X11_118 rfl ?_
  refine V_aldn0 a_X11_wrong_13 ?_
  refine V_aldn0 a_X11_wrong_14 ?_
  refine V_getIE a_X11_wrong_15 f_X11_104 rfl ((setI_ne (by decide)).trans pz_9) ?_
  refine V_putI a_X11_wrong_18 f_X11_29 rfl ?_
  exact V_ret a_X11_wrong_21 (⟨rfl, by rw [pz_w]⟩)
theorem R_wrong1 {f t a c d : Int} (hd : 0 < d ∧ d < 100) : Rt m_X11_wrong 0 0 0 [vR (some (11, 0)), vI c] (σ.pz f t d a) none (σ.pz f t d a) := by
  show V _ 0 0 0 0 [some (vR (some (11, 0))), some (vI c)] [] (σ.pz f t d a) _
  refine V_aldn0 a_X11_wrong_0 ?_
  refine V_getIE a_X11_wrong_1 f_X11_118 rfl pz_12 ?_
  refine V_if_le_f a_X11_wrong_4 (by omega) (by omega) ?_
  exact V_ret a_X11_wrong_7 (⟨rfl, rfl⟩)
theorem R_pass0 {f t a : Int} (h : Tx σ T e) (ht : 0 ≤ t ∧ t ≤ e) : Rt m_X11_pass 2 0 0 [vR (some (11, 0))] (σ.pz f t 0 a) none (σ.pz (tF T e t) (tE T e t) 0 a) := by
  have r := R_next (h.pz (f := f) (t := t) (c := 0) (a := a)) pz_10 ht
  rw [pz_ft] at r
  show V _ 2 0 0 0 [some (vR (some (11, 0)))] [] (σ.pz f t 0 a) _
  refine V_aldn0 a_X11_pass_0 ?_
  refine V_getIE a_X11_pass_1 f_X11_118 rfl pz_12 ?_
  refine V_if_ne_f a_X11_pass_4 (by omega) (by omega) ?_
  refine V_aldn0 a_X11_pass_7 ?_
  refine V_v0V a_X11_pass_8 c_X11_130 r ?_
  exact V_ret a_X11_pass_11 (⟨rfl, rfl⟩)
theorem R_pass1 {f t a d : Int} (hd : 0 < d ∧ d < 100) : Rt m_X11_pass 2 0 0 [vR (some (11, 0))] (σ.pz f t d a) none (σ.pz f t d a) := by
  show V _ 2 0 0 0 [some (vR (some (11, 0)))] [] (σ.pz f t d a) _
  refine V_aldn0 a_X11_pass_0 ?_
  refine V_getIE a_X11_pass_1 f_X11_118 rfl pz_12 ?_
  refine V_if_ne_t a_X11_pass_4 (by omega) (by omega) ?_
  exact V_ret a_X11_pass_11 (⟨rfl, rfl⟩)
/-- whether a token is a word -/
def wdA (T : Int → Int) (e f t : Int) (j : Nat) : Prop := t - f = (slen j : Int) ∧ ∀ k, 0 ≤ k → k < (slen j : Int) → bAt T e (f + k) = schr j k
theorem B_isWord {f t c a : Int} {j : Nat} (h : Tx σ T e) (hj : j < 30) (hf : 0 ≤ f ∧ f ≤ t ∧ t ≤ e) : ∃ b : Int, ((b = 1 ∧ wdA T e f t j) ∨ (b = 0 ∧ ¬ wdA T e f t j)) ∧ Rt m_X11_isWord 4 0 0 [vR (some (11, 0)), vR (some (98, j))] (σ.pz f t c a) (some (vI b)) (σ.pz f t c a) := by
  have hb := slen_bd j hj
  have hbt := h.bt
  have h6 := h.2.2.2
  have hx : Tx (σ.pz f t c a) T e := h.pz
  by_cases q0 : t - f = (slen j : Int)
  · have key : ∀ k, 0 ≤ k → k ≤ (slen j : Int) → (∀ i, 0 ≤ i → i < k → bAt T e (f + i) = schr j i) → ∃ b : Int, ((b = 1 ∧ wdA T e f t j) ∨ (b = 0 ∧ ¬ wdA T e f t j)) ∧ V m_X11_isWord 4 0 0 24 [some (vR (some (11, 0))), some (vR (some (98, j))), some (vI 1), some (vI k)] [] (σ.pz f t c a) (fun r τ => r = .inl (some (vI b)) ∧ τ = σ.pz f t c a) := by
      intro k k0 k1
      refine loopF (P := fun k => (∀ i, 0 ≤ i → i < k → bAt T e (f + i) = schr j i) → ∃ b : Int, ((b = 1 ∧ wdA T e f t j) ∨ (b = 0 ∧ ¬ wdA T e f t j)) ∧ V m_X11_isWord 4 0 0 24 [some (vR (some (11, 0))), some (vR (some (98, j))), some (vI 1), some (vI k)] [] (σ.pz f t c a) (fun r τ => r = .inl (some (vI b)) ∧ τ = σ.pz f t c a)) (a := k) (N := (slen j : Int)) k1 ?_ ?_
      · intro hall
        refine ⟨1, Or.inl ⟨rfl, q0, hall⟩, ?_⟩
        refine V_ildn3 a_X11_isWord_24 ?_
        refine V_aldn1 a_X11_isWord_25 ?_
        refine V_t0R a_X11_isWord_26 c_X11_121 (R_slen hj) ?_ (hj := hj)
        refine V_icmp_ge_t a_X11_isWord_29 (by omega) (by omega) ?_
        refine V_ildn2 a_X11_isWord_66 ?_
        exact V_zret a_X11_isWord_67 (by omega) (⟨rfl, rfl⟩)
      · intro i i0 i1 ih hall
        have hbi := bAt_bd (e := e) (k := f + i) hbt
        have hci := schr_bd hj (k := i) (by omega) i1
        by_cases q : bAt T e (f + i) = schr j i
        · obtain ⟨b, hb1, v⟩ := ih (fun i2 j0 j1 => by
            by_cases z : i2 = i
            · rw [z]
              exact q
            · exact hall i2 j0 (by omega))
          refine ⟨b, hb1, ?_⟩
          refine V_ildn3 a_X11_isWord_24 ?_
          refine V_aldn1 a_X11_isWord_25 ?_
          refine V_t0R a_X11_isWord_26 c_X11_121 (R_slen hj) ?_ (hj := hj)
          refine V_icmp_ge_f a_X11_isWord_29 (by omega) (by omega) ?_
          refine V_ildn2 a_X11_isWord_32 ?_
          refine V_if_eq_f a_X11_isWord_33 (by omega) (by omega) ?_
          refine V_aldn0 a_X11_isWord_36 ?_
          refine V_aldn0 a_X11_isWord_37 ?_
          refine V_getIE a_X11_isWord_38 f_X11_104 rfl pz_9 ?_
          refine V_ildn3 a_X11_isWord_41 ?_
          refine V_iadd a_X11_isWord_42 ?_
          refine V_v1R a_X11_isWord_43 c_X11_107 (R_byteAt hx (by omega)) ?_
          refine V_aldn1 a_X11_isWord_46 ?_
          refine V_ildn3 a_X11_isWord_47 ?_
          refine V_t1R a_X11_isWord_48 c_X11_126 (R_charAt hj (by omega)) ?_ (hj := hj)
          refine V_icmp_ne_f a_X11_isWord_51 (by omega) (by omega) ?_
          refine V_iconst a_X11_isWord_54 ?_
          refine V_goto a_X11_isWord_55 ?_
          refine V_istn2 a_X11_isWord_59 ?_
          refine V_inc3 a_X11_isWord_60 ?_
          refine V_goto a_X11_isWord_63 ?_
          exact v
        · refine ⟨0, Or.inr ⟨rfl, fun z => q (z.2 i (by omega) i1)⟩, ?_⟩
          refine V_ildn3 a_X11_isWord_24 ?_
          refine V_aldn1 a_X11_isWord_25 ?_
          refine V_t0R a_X11_isWord_26 c_X11_121 (R_slen hj) ?_ (hj := hj)
          refine V_icmp_ge_f a_X11_isWord_29 (by omega) (by omega) ?_
          refine V_ildn2 a_X11_isWord_32 ?_
          refine V_if_eq_f a_X11_isWord_33 (by omega) (by omega) ?_
          refine V_aldn0 a_X11_isWord_36 ?_
          refine V_aldn0 a_X11_isWord_37 ?_
          refine V_getIE a_X11_isWord_38 f_X11_104 rfl pz_9 ?_
          refine V_ildn3 a_X11_isWord_41 ?_
          refine V_iadd a_X11_isWord_42 ?_
          refine V_v1R a_X11_isWord_43 c_X11_107 (R_byteAt hx (by omega)) ?_
          refine V_aldn1 a_X11_isWord_46 ?_
          refine V_ildn3 a_X11_isWord_47 ?_
          refine V_t1R a_X11_isWord_48 c_X11_126 (R_charAt hj (by omega)) ?_ (hj := hj)
          refine V_icmp_ne_t a_X11_isWord_51 (by omega) (by omega) ?_
          refine V_iconst a_X11_isWord_58 ?_
          refine V_istn2 a_X11_isWord_59 ?_
          refine V_inc3 a_X11_isWord_60 ?_
          refine V_goto a_X11_isWord_63 ?_
          skip
          by_cases q3 : i + 1 < (slen j : Int)
          · refine V_ildn3 a_X11_isWord_24 ?_
            refine V_aldn1 a_X11_isWord_25 ?_
            refine V_t0R a_X11_isWord_26 c_X11_121 (R_slen hj) ?_ (hj := hj)
            refine V_icmp_ge_f a_X11_isWord_29 (by omega) (by omega) ?_
            refine V_ildn2 a_X11_isWord_32 ?_
            refine V_if_eq_t a_X11_isWord_33 (by omega) (by omega) ?_
            refine V_ildn2 a_X11_isWord_66 ?_
            exact V_zret a_X11_isWord_67 (by omega) (⟨rfl, rfl⟩)
          · refine V_ildn3 a_X11_isWord_24 ?_
            refine V_aldn1 a_X11_isWord_25 ?_
            refine V_t0R a_X11_isWord_26 c_X11_121 (R_slen hj) ?_ (hj := hj)
            refine V_icmp_ge_t a_X11_isWord_29 (by omega) (by omega) ?_
            refine V_ildn2 a_X11_isWord_66 ?_
            exact V_zret a_X11_isWord_67 (by omega) (⟨rfl, rfl⟩)
    obtain ⟨b, hb1, v⟩ := key 0 (Int.le_refl 0) (by omega) (fun i i0 i1 => by omega)
    refine ⟨b, hb1, ?_⟩
    show V _ 4 0 0 0 [some (vR (some (11, 0))), some (vR (some (98, j))), none, none] [] (σ.pz f t c a) _
    refine V_aldn0 a_X11_isWord_0 ?_
    refine V_getIE a_X11_isWord_1 f_X11_101 rfl pz_10 ?_
    refine V_aldn0 a_X11_isWord_4 ?_
    refine V_getIE a_X11_isWord_5 f_X11_104 rfl pz_9 ?_
    refine V_isub a_X11_isWord_8 ?_
    refine V_aldn1 a_X11_isWord_9 ?_
    refine V_t0R a_X11_isWord_10 c_X11_121 (R_slen hj) ?_ (hj := hj)
    refine V_icmp_ne_f a_X11_isWord_13 (by omega) (by omega) ?_
    refine V_iconst a_X11_isWord_16 ?_
    refine V_goto a_X11_isWord_17 ?_
    refine V_istn2 a_X11_isWord_21 ?_
    refine V_iconst a_X11_isWord_22 ?_
    refine V_istn3 a_X11_isWord_23 ?_
    exact v
  · refine ⟨0, Or.inr ⟨rfl, fun z => q0 z.1⟩, ?_⟩
    show V _ 4 0 0 0 [some (vR (some (11, 0))), some (vR (some (98, j))), none, none] [] (σ.pz f t c a) _
    refine V_aldn0 a_X11_isWord_0 ?_
    refine V_getIE a_X11_isWord_1 f_X11_101 rfl pz_10 ?_
    refine V_aldn0 a_X11_isWord_4 ?_
    refine V_getIE a_X11_isWord_5 f_X11_104 rfl pz_9 ?_
    refine V_isub a_X11_isWord_8 ?_
    refine V_aldn1 a_X11_isWord_9 ?_
    refine V_t0R a_X11_isWord_10 c_X11_121 (R_slen hj) ?_ (hj := hj)
    refine V_icmp_ne_t a_X11_isWord_13 (by omega) (by omega) ?_
    refine V_iconst a_X11_isWord_20 ?_
    refine V_istn2 a_X11_isWord_21 ?_
    refine V_iconst a_X11_isWord_22 ?_
    refine V_istn3 a_X11_isWord_23 ?_
    skip
    by_cases q3 : 0 < (slen j : Int)
    · refine V_ildn3 a_X11_isWord_24 ?_
      refine V_aldn1 a_X11_isWord_25 ?_
      refine V_t0R a_X11_isWord_26 c_X11_121 (R_slen hj) ?_ (hj := hj)
      refine V_icmp_ge_f a_X11_isWord_29 (by omega) (by omega) ?_
      refine V_ildn2 a_X11_isWord_32 ?_
      refine V_if_eq_t a_X11_isWord_33 (by omega) (by omega) ?_
      refine V_ildn2 a_X11_isWord_66 ?_
      exact V_zret a_X11_isWord_67 (by omega) (⟨rfl, rfl⟩)
    · refine V_ildn3 a_X11_isWord_24 ?_
      refine V_aldn1 a_X11_isWord_25 ?_
      refine V_t0R a_X11_isWord_26 c_X11_121 (R_slen hj) ?_ (hj := hj)
      refine V_icmp_ge_t a_X11_isWord_29 (by omega) (by omega) ?_
      refine V_ildn2 a_X11_isWord_66 ?_
      exact V_zret a_X11_isWord_67 (by omega) (⟨rfl, rfl⟩)
end Tk

