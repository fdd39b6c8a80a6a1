/-- the order's word, or -1 -/
noncomputable def owA (T : Int → Int) (e p : Int) : Int := if wdB T e p 5 = true then 0 else if wdB T e p 6 = true then 1 else if wdB T e p 7 = true then 2 else if wdB T e p 8 = true then 3 else if wdB T e p 9 = true then 4 else if wdB T e p 10 = true then 5 else -1
theorem ow_bd {T : Int → Int} {e p : Int} : -1 ≤ owA T e p ∧ owA T e p ≤ 5 := by
  unfold owA
  split
  · omega
  · split
    · omega
    · split
      · omega
      · split
        · omega
        · split
          · omega
          · split <;> omega
/-- a word has four letters or more -/
theorem ow_len {T : Int → Int} {e p : Int} (h : owA T e p ≠ -1) : tF T e p + 4 ≤ tE T e p := by
  have key : ∀ j, wdB T e p j = true → 4 ≤ slen j → tF T e p + 4 ≤ tE T e p := fun j hj hl => by
    have := (wdB_t.mp hj).1
    omega
  unfold owA at h
  by_cases w0 : wdB T e p 5 = true
  · exact key 5 w0 (by decide)
  · rw [if_neg w0] at h
    by_cases w1 : wdB T e p 6 = true
    · exact key 6 w1 (by decide)
    · rw [if_neg w1] at h
      by_cases w2 : wdB T e p 7 = true
      · exact key 7 w2 (by decide)
      · rw [if_neg w2] at h
        by_cases w3 : wdB T e p 8 = true
        · exact key 8 w3 (by decide)
        · rw [if_neg w3] at h
          by_cases w4 : wdB T e p 9 = true
          · exact key 9 w4 (by decide)
          · rw [if_neg w4] at h
            by_cases w5 : wdB T e p 10 = true
            · exact key 10 w5 (by decide)
            · rw [if_neg w5] at h
              exact absurd rfl h
def oL (m : Nat) : List (Int × Int × Int) := List.replicate m (0, 9999999, 1)
def tEn (T : Int → Int) (e p n : Int) : Int := itr (fun _ x => tE T e x) n p
theorem tEn_s {T : Int → Int} {e p n : Int} (h : 0 ≤ n) : tEn T e p (n + 1) = tE T e (tEn T e p n) := itr_s _ h _
theorem tEn_bd {T : Int → Int} {e p n : Int} (hp : p ≤ e) (h : 0 ≤ n) : p ≤ tEn T e p n ∧ tEn T e p n ≤ e := by
  refine itr_ind (f := fun _ x => tE T e x) (a := p) (fun _ x => p ≤ x ∧ x ≤ e) ⟨Int.le_refl p, hp⟩ h (fun k x k0 k1 hx => ?_)
  have := tE_bd (T := T) hx.2
  show p ≤ tE T e x ∧ tE T e x ≤ e
  omega
/-- an order's numbers -/
noncomputable def ovA (T : Int → Int) (e p w k : Int) : Int := if k < nmA w then nW T e (tEn T e (tE T e p) k) else 0
/-- an order: its fault, where that is or where its semicolon stands, the state -/
noncomputable def goA (T : Int → Int) (e : Int) (A : St) (p : Int) : Int × Int × St :=
  if owA T e p = -1 then (1, tF T e p, A) else if (ftN T e (oL (nmA (owA T e p)).toNat) (tE T e p)).1 ≠ 0 then ((ftN T e (oL (nmA (owA T e p)).toNat) (tE T e p)).1, (ftN T e (oL (nmA (owA T e p)).toNat) (tE T e p)).2, A)
  else if ¬ wdB T e (ftN T e (oL (nmA (owA T e p)).toNat) (tE T e p)).2 29 = true then (1, tF T e (ftN T e (oL (nmA (owA T e p)).toNat) (tE T e p)).2, A)
  else if doC A (owA T e p) (ovA T e p (owA T e p)) ≠ 0 then (1, tF T e p, A) else (0, (ftN T e (oL (nmA (owA T e p)).toNat) (tE T e p)).2, doA A (owA T e p) (ovA T e p (owA T e p)))
theorem nm_bd {w : Int} : 1 ≤ nmA w ∧ nmA w ≤ 4 := by
  unfold nmA
  split
  · omega
  · split
    · omega
    · split <;> omega
theorem oL_c {m : Nat} : ∀ x ∈ oL m, 0 < x.2.2 ∧ x.2.2 < 100 := fun x hx => by
  rw [List.eq_of_mem_replicate hx]
  decide
theorem setI_cT {σ : Hp} {t i t' i' : Nat} {k v k' v' : Int} (h : t ≠ t') : (σ.setI t i k v).setI t' i' k' v' = (σ.setI t' i' k' v').setI t i k v := by
  show Hp.wI (Hp.wI σ _) (u3 (u3 σ.I t i k v) t' i' k' v') = Hp.wI (Hp.wI σ _) (u3 (u3 σ.I t' i' k' v') t i k v)
  have e : u3 (u3 σ.I t i k v) t' i' k' v' = u3 (u3 σ.I t' i' k' v') t i k v := by
    funext t2 i2 k2
    unfold u3
    by_cases h1 : t2 = t' ∧ i2 = i' ∧ k2 = k'
    · rw [if_pos h1]
      by_cases h2 : t2 = t ∧ i2 = i ∧ k2 = k
      · exact absurd (h2.1.symm.trans h1.1) h
      · rw [if_neg h2, if_pos h1]
    · rw [if_neg h1]
      by_cases h2 : t2 = t ∧ i2 = i ∧ k2 = k
      · rw [if_pos h2, if_pos h2]
      · rw [if_neg h2, if_neg h2, if_neg h1]
  rw [e]
  rfl
section Or
variable {D : Int} {σ : Hp} {T : Int → Int} {e p a : Int} {A : St}
theorem pz_60 {f t c a k v : Int} {g : Int → Int} : ((σ.rI 60 0 g).pz f t c a).setI 60 0 k v = (σ.rI 60 0 (upI g k v)).pz f t c a := by
  show (((((σ.rI 60 0 g).setI 11 0 9 f).setI 11 0 10 t).setI 11 0 12 c).setI 11 0 13 a).setI 60 0 k v = _
  rw [setI_cT (t := 11) (t' := 60) (by decide), setI_cT (t := 11) (t' := 60) (by decide), setI_cT (t := 11) (t' := 60) (by decide), setI_cT (t := 11) (t' := 60) (by decide), rI_set]
theorem Tx.r60 {g : Int → Int} (h : Tx σ T e) : Tx (σ.rI 60 0 g) T e := ⟨h.1, fun k => by
  rw [rI_ne (by decide)]
  exact h.2.1 k, by rw [rI_ne (by decide)]; exact h.2.2.1, h.2.2.2⟩
theorem R_orderHere (h : Tx σ T e) (hp : 0 ≤ p ∧ p ≤ e) : Rt m_X11_orderHere 5 0 0 [vR (some (11, 0))] (σ.pz (tF T e p) (tE T e p) 0 a) (some (vI (owA T e p))) (σ.pz (tF T e p) (tE T e p) 0 a) := by
  show V _ 5 0 0 0 [some (vR (some (11, 0)))] [] (σ.pz (tF T e p) (tE T e p) 0 a) _
  unfold owA
  by_cases w0 : wdB T e p 5 = true
  · rw [if_pos w0]
    refine V_aldn0 a_X11_orderHere_0 ?_
    refine V_ldcSw a_X11_orderHere_1 sr_X11_364 ?_
    refine V_v1R a_X11_orderHere_4 c_X11_157 (R_wordT h (by decide) hp w0) ?_
    refine V_if_eq_f a_X11_orderHere_7 (by omega) (by omega) ?_
    refine V_iconst a_X11_orderHere_10 ?_
    exact V_iret a_X11_orderHere_11 (⟨rfl, rfl⟩)
  · rw [if_neg w0]
    by_cases w1 : wdB T e p 6 = true
    · rw [if_pos w1]
      refine V_aldn0 a_X11_orderHere_0 ?_
      refine V_ldcSw a_X11_orderHere_1 sr_X11_364 ?_
      refine V_v1R a_X11_orderHere_4 c_X11_157 (R_wordF h (by decide) hp w0) ?_
      refine V_if_eq_t a_X11_orderHere_7 (by omega) (by omega) ?_
      refine V_aldn0 a_X11_orderHere_12 ?_
      refine V_ldcSw a_X11_orderHere_13 sr_X11_366 ?_
      refine V_v1R a_X11_orderHere_16 c_X11_157 (R_wordT h (by decide) hp w1) ?_
      refine V_if_eq_f a_X11_orderHere_19 (by omega) (by omega) ?_
      refine V_iconst a_X11_orderHere_22 ?_
      exact V_iret a_X11_orderHere_23 (⟨rfl, rfl⟩)
    · rw [if_neg w1]
      by_cases w2 : wdB T e p 7 = true
      · rw [if_pos w2]
        refine V_aldn0 a_X11_orderHere_0 ?_
        refine V_ldcSw a_X11_orderHere_1 sr_X11_364 ?_
        refine V_v1R a_X11_orderHere_4 c_X11_157 (R_wordF h (by decide) hp w0) ?_
        refine V_if_eq_t a_X11_orderHere_7 (by omega) (by omega) ?_
        refine V_aldn0 a_X11_orderHere_12 ?_
        refine V_ldcSw a_X11_orderHere_13 sr_X11_366 ?_
        refine V_v1R a_X11_orderHere_16 c_X11_157 (R_wordF h (by decide) hp w1) ?_
        refine V_if_eq_t a_X11_orderHere_19 (by omega) (by omega) ?_
        refine V_aldn0 a_X11_orderHere_24 ?_
        refine V_ldcSw a_X11_orderHere_25 sr_X11_368 ?_
        refine V_v1R a_X11_orderHere_28 c_X11_157 (R_wordT h (by decide) hp w2) ?_
        refine V_if_eq_f a_X11_orderHere_31 (by omega) (by omega) ?_
        refine V_iconst a_X11_orderHere_34 ?_
        exact V_iret a_X11_orderHere_35 (⟨rfl, rfl⟩)
      · rw [if_neg w2]
        by_cases w3 : wdB T e p 8 = true
        · rw [if_pos w3]
          refine V_aldn0 a_X11_orderHere_0 ?_
          refine V_ldcSw a_X11_orderHere_1 sr_X11_364 ?_
          refine V_v1R a_X11_orderHere_4 c_X11_157 (R_wordF h (by decide) hp w0) ?_
          refine V_if_eq_t a_X11_orderHere_7 (by omega) (by omega) ?_
          refine V_aldn0 a_X11_orderHere_12 ?_
          refine V_ldcSw a_X11_orderHere_13 sr_X11_366 ?_
          refine V_v1R a_X11_orderHere_16 c_X11_157 (R_wordF h (by decide) hp w1) ?_
          refine V_if_eq_t a_X11_orderHere_19 (by omega) (by omega) ?_
          refine V_aldn0 a_X11_orderHere_24 ?_
          refine V_ldcSw a_X11_orderHere_25 sr_X11_368 ?_
          refine V_v1R a_X11_orderHere_28 c_X11_157 (R_wordF h (by decide) hp w2) ?_
          refine V_if_eq_t a_X11_orderHere_31 (by omega) (by omega) ?_
          refine V_aldn0 a_X11_orderHere_36 ?_
          refine V_ldcSw a_X11_orderHere_37 sr_X11_370 ?_
          refine V_v1R a_X11_orderHere_40 c_X11_157 (R_wordT h (by decide) hp w3) ?_
          refine V_if_eq_f a_X11_orderHere_43 (by omega) (by omega) ?_
          refine V_iconst a_X11_orderHere_46 ?_
          exact V_iret a_X11_orderHere_47 (⟨rfl, rfl⟩)
        · rw [if_neg w3]
          refine V_aldn0 a_X11_orderHere_0 ?_
          refine V_ldcSw a_X11_orderHere_1 sr_X11_364 ?_
          refine V_v1R a_X11_orderHere_4 c_X11_157 (R_wordF h (by decide) hp w0) ?_
          refine V_if_eq_t a_X11_orderHere_7 (by omega) (by omega) ?_
          refine V_aldn0 a_X11_orderHere_12 ?_
          refine V_ldcSw a_X11_orderHere_13 sr_X11_366 ?_
          refine V_v1R a_X11_orderHere_16 c_X11_157 (R_wordF h (by decide) hp w1) ?_
          refine V_if_eq_t a_X11_orderHere_19 (by omega) (by omega) ?_
          refine V_aldn0 a_X11_orderHere_24 ?_
          refine V_ldcSw a_X11_orderHere_25 sr_X11_368 ?_
          refine V_v1R a_X11_orderHere_28 c_X11_157 (R_wordF h (by decide) hp w2) ?_
          refine V_if_eq_t a_X11_orderHere_31 (by omega) (by omega) ?_
          refine V_aldn0 a_X11_orderHere_36 ?_
          refine V_ldcSw a_X11_orderHere_37 sr_X11_370 ?_
          refine V_v1R a_X11_orderHere_40 c_X11_157 (R_wordF h (by decide) hp w3) ?_
          refine V_if_eq_t a_X11_orderHere_43 (by omega) (by omega) ?_
          skip
          by_cases w4 : wdB T e p 9 = true
          · rw [if_pos w4]
            refine V_aldn0 a_X11_orderHere_48 ?_
            refine V_ldcSw a_X11_orderHere_49 sr_X11_371 ?_
            refine V_v1R a_X11_orderHere_52 c_X11_157 (R_wordT h (by decide) hp w4) ?_
            refine V_if_eq_f a_X11_orderHere_55 (by omega) (by omega) ?_
            refine V_iconst a_X11_orderHere_58 ?_
            refine V_goto a_X11_orderHere_59 ?_
            exact V_iret a_X11_orderHere_77 (⟨rfl, rfl⟩)
          · rw [if_neg w4]
            by_cases w5 : wdB T e p 10 = true
            · rw [if_pos w5]
              refine V_aldn0 a_X11_orderHere_48 ?_
              refine V_ldcSw a_X11_orderHere_49 sr_X11_371 ?_
              refine V_v1R a_X11_orderHere_52 c_X11_157 (R_wordF h (by decide) hp w4) ?_
              refine V_if_eq_t a_X11_orderHere_55 (by omega) (by omega) ?_
              refine V_aldn0 a_X11_orderHere_62 ?_
              refine V_ldcSw a_X11_orderHere_63 sr_X11_373 ?_
              refine V_v1R a_X11_orderHere_66 c_X11_157 (R_wordT h (by decide) hp w5) ?_
              refine V_if_eq_f a_X11_orderHere_69 (by omega) (by omega) ?_
              refine V_iconst a_X11_orderHere_72 ?_
              refine V_goto a_X11_orderHere_73 ?_
              exact V_iret a_X11_orderHere_77 (⟨rfl, rfl⟩)
            · rw [if_neg w5]
              refine V_aldn0 a_X11_orderHere_48 ?_
              refine V_ldcSw a_X11_orderHere_49 sr_X11_371 ?_
              refine V_v1R a_X11_orderHere_52 c_X11_157 (R_wordF h (by decide) hp w4) ?_
              refine V_if_eq_t a_X11_orderHere_55 (by omega) (by omega) ?_
              refine V_aldn0 a_X11_orderHere_62 ?_
              refine V_ldcSw a_X11_orderHere_63 sr_X11_373 ?_
              refine V_v1R a_X11_orderHere_66 c_X11_157 (R_wordF h (by decide) hp w5) ?_
              refine V_if_eq_t a_X11_orderHere_69 (by omega) (by omega) ?_
              refine V_iconst a_X11_orderHere_76 ?_
              exact V_iret a_X11_orderHere_77 (⟨rfl, rfl⟩)
/-- what an order leaves -/
def OrO (σ : Hp) (T : Int → Int) (e a D : Int) (x : Int × Int × St) (τ : Hp) : Prop :=
  FK [50, 56, 57, 58, 59, 60] [9, 10, 12, 13, 17, 19] σ τ ∧ τ.I 11 0 12 = x.1 ∧ (x.1 ≠ 0 → τ.I 11 0 13 = x.2.1) ∧ (x.1 = 0 → τ.I 11 0 13 = a ∧ τ.I 11 0 9 = tF T e x.2.1 ∧ τ.I 11 0 10 = tE T e x.2.1 ∧ Md (D + 401) τ x.2.2)
theorem or_f {f t c a2 : Int} {g : Int → Int} {x2 : St} (hc : c ≠ 0) : OrO σ T e a D (c, a2, x2) ((σ.rI 60 0 g).pz f t c a2) := ⟨FK.trans ((Fm.rI (by decide)).fk (by decide)) (FK.pz.sub (by decide) (by decide)), pz_12, fun _ => pz_13, fun z => absurd z hc⟩
theorem or_f0 {f t c a2 : Int} {x2 : St} (hc : c ≠ 0) : OrO σ T e a D (c, a2, x2) (σ.pz f t c a2) := ⟨FK.pz.sub (by decide) (by decide), pz_12, fun _ => pz_13, fun z => absurd z hc⟩
theorem R_goesThrough (h : Tx σ T e) (hm : Md D σ A) (hp : 0 ≤ p ∧ p ≤ e) (hD4 : D + 401 ≤ 20000000) : Cv m_X11_goesThrough 10 0 0 [vR (some (11, 0))] (σ.pz (tF T e p) (tE T e p) 0 a) none (OrO σ T e a D (goA T e A p)) := by
  obtain ⟨h0, h1, h2, -⟩ := tE_bd (T := T) hp.2
  have hp1 : 0 ≤ tE T e p ∧ tE T e p ≤ e := by omega
  have hob := ow_bd (T := T) (e := e) (p := p)
  have hnm := nm_bd (w := owA T e p)
  have ro := R_orderHere (a := a) h hp
  have hW := h.1
  show V _ 10 0 0 0 [some (vR (some (11, 0))), none, none, none] [] (σ.pz (tF T e p) (tE T e p) 0 a) _
  unfold goA
  by_cases k1 : owA T e p = -1
  · rw [if_pos k1]
    rw [k1] at ro
    refine V_aldn0 a_X11_goesThrough_0 ?_
    refine V_getIE a_X11_goesThrough_1 f_X11_104 rfl pz_9 ?_
    refine V_istn1 a_X11_goesThrough_4 ?_
    refine V_aldn0 a_X11_goesThrough_5 ?_
    refine V_v0R a_X11_goesThrough_6 c_X11_375 ro ?_
    refine V_istn2 a_X11_goesThrough_9 ?_
    refine V_ildn2 a_X11_goesThrough_10 ?_
    refine V_iconst a_X11_goesThrough_11 ?_
    refine V_icmp_ne_f a_X11_goesThrough_12 (by omega) (by omega) ?_
    refine V_aldn0 a_X11_goesThrough_15 ?_
    refine V_iconst a_X11_goesThrough_16 ?_
    refine V_v1V a_X11_goesThrough_17 c_X11_133 R_wrong0 ?_
    refine V_aldn0 a_X11_goesThrough_20 ?_
    refine V_v0V a_X11_goesThrough_21 c_X11_136 (R_pass1 (by decide)) ?_
    refine V_iconst a_X11_goesThrough_24 ?_
    refine V_istn3 a_X11_goesThrough_25 ?_
    refine V_ildn3 a_X11_goesThrough_26 ?_
    refine V_iconst a_X11_goesThrough_27 ?_
    refine V_icmp_ge_f a_X11_goesThrough_28 (by omega) (by omega) ?_
    refine V_aldn0 a_X11_goesThrough_31 ?_
    refine V_getIE a_X11_goesThrough_32 f_X11_118 rfl pz_12 ?_
    refine V_if_ne_t a_X11_goesThrough_35 (by omega) (by omega) ?_
    refine V_aldn0 a_X11_goesThrough_71 ?_
    refine V_getIE a_X11_goesThrough_72 f_X11_118 rfl pz_12 ?_
    refine V_if_ne_t a_X11_goesThrough_75 (by omega) (by omega) ?_
    refine V_aldn0 a_X11_goesThrough_92 ?_
    refine V_getIE a_X11_goesThrough_93 f_X11_118 rfl pz_12 ?_
    refine V_if_gt_t a_X11_goesThrough_96 (by omega) (by omega) ?_
    exact V_ret a_X11_goesThrough_107 (⟨rfl, or_f0 (by decide)⟩)
  · rw [if_neg k1]
    generalize hw : owA T e p = w at k1 hob hnm ro ⊢
    have fail : ∀ (c2 f t a2 : Int) (g : Int → Int) (x2 : St) (x3 : Option AV), 0 < c2 ∧ c2 < 100 → V m_X11_goesThrough 10 0 0 71 [some (vR (some (11, 0))), some (vI (tF T e p)), some (vI w), x3] [] ((σ.rI 60 0 g).pz f t c2 a2) (fun r τ => r = .inl none ∧ OrO σ T e a D (c2, a2, x2) τ) := fun c2 f t a2 g x2 x3 hc2 => by
      refine V_aldn0 a_X11_goesThrough_71 ?_
      refine V_getIE a_X11_goesThrough_72 f_X11_118 rfl pz_12 ?_
      refine V_if_ne_t a_X11_goesThrough_75 (by omega) (by omega) ?_
      refine V_aldn0 a_X11_goesThrough_92 ?_
      refine V_getIE a_X11_goesThrough_93 f_X11_118 rfl pz_12 ?_
      refine V_if_gt_t a_X11_goesThrough_96 (by omega) (by omega) ?_
      exact V_ret a_X11_goesThrough_107 (⟨rfl, or_f (by omega)⟩)
    have start : σ.rI 60 0 (mix (ovA T e p w) (σ.I 60 0) 0) = σ := by rw [mix_0, rI_self]
    refine V_aldn0 a_X11_goesThrough_0 ?_
    refine V_getIE a_X11_goesThrough_1 f_X11_104 rfl pz_9 ?_
    refine V_istn1 a_X11_goesThrough_4 ?_
    refine V_aldn0 a_X11_goesThrough_5 ?_
    refine V_v0R a_X11_goesThrough_6 c_X11_375 ro ?_
    refine V_istn2 a_X11_goesThrough_9 ?_
    refine V_ildn2 a_X11_goesThrough_10 ?_
    refine V_iconst a_X11_goesThrough_11 ?_
    refine V_icmp_ne_t a_X11_goesThrough_12 (by omega) (by omega) ?_
    refine V_aldn0 a_X11_goesThrough_20 ?_
    refine V_v0V a_X11_goesThrough_21 c_X11_136 (R_pass0 h hp1) ?_
    refine V_iconst a_X11_goesThrough_24 ?_
    refine V_istn3 a_X11_goesThrough_25 ?_
    skip
    generalize hx : ftN T e (oL (nmA w).toNat) (tE T e p) = x
    have loop := loopF (P := fun k => ftN T e (oL (nmA w - k).toNat) (tEn T e (tE T e p) (min k (nmA w))) = x → V m_X11_goesThrough 10 0 0 26 [some (vR (some (11, 0))), some (vI (tF T e p)), some (vI w), some (vI k)] [] ((σ.rI 60 0 (mix (ovA T e p w) (σ.I 60 0) k)).pz (tF T e (tEn T e (tE T e p) (min k (nmA w)))) (tE T e (tEn T e (tE T e p) (min k (nmA w)))) 0 a) (fun r τ => r = .inl none ∧ OrO σ T e a D (if x.1 ≠ 0 then (x.1, x.2, A) else if ¬ wdB T e x.2 29 = true then (1, tF T e x.2, A) else if doC A w (ovA T e p w) ≠ 0 then (1, tF T e p, A) else (0, x.2, doA A w (ovA T e p w))) τ)) (a := 0) (N := 4) (by decide) ?_ ?_
    · have z := loop (by rw [Int.sub_zero, show min 0 (nmA w) = 0 by omega]; exact hx)
      rw [start, show min 0 (nmA w) = 0 by omega] at z
      exact z
    · intro hx4
      rw [show (nmA w - 4).toNat = 0 by omega, show min 4 (nmA w) = nmA w by omega] at hx4
      rw [show min 4 (nmA w) = nmA w by omega]
      have hqb := tEn_bd (T := T) (n := nmA w) hp1.2 (by omega)
      have hx4 : x = (0, tEn T e (tE T e p) (nmA w)) := hx4.symm
      subst hx4
      generalize tEn T e (tE T e p) (nmA w) = q at hqb
      rw [if_neg (fun z => z rfl)]
      have hvb : ∀ k, 0 ≤ k → k < 4 → iR (ovA T e p w k) := fun k k0 k1 => by
        have := nW_bd (T := T) (e := e) (p := tEn T e (tE T e p) k) (tEn_bd hp1.2 k0).2
        unfold ovA
        split <;> omega
      by_cases w5 : wdB T e q 29 = true
      · rw [if_neg (fun z => z w5)]
        have hm2 : Md D ((σ.rI 60 0 (mix (ovA T e p w) (σ.I 60 0) 4)).pz (tF T e q) (tE T e q) 0 a) A := hm
        have rd := R_does (w := w) (v := ovA T e p w) hm2 (by omega) (fun k k0 k1 => ⟨by rw [pz_I (by decide), rI_I]; exact mix_in k0 k1, hvb k k0 k1⟩) hD4
        have fk0 : FK [50, 56, 57, 58, 59, 60] [9, 10, 12, 13, 17, 19] σ ((σ.rI 60 0 (mix (ovA T e p w) (σ.I 60 0) 4)).pz (tF T e q) (tE T e q) 0 a) := FK.trans ((Fm.rI (by decide)).fk (by decide)) (FK.pz.sub (by decide) (by decide))
        by_cases k8 : doC A w (ovA T e p w) ≠ 0
        · rw [if_pos k8]
          have rd := rd.2 k8
          refine V_ildn3 a_X11_goesThrough_26 ?_
          refine V_iconst a_X11_goesThrough_27 ?_
          refine V_icmp_ge_t a_X11_goesThrough_28 (by omega) (by omega) ?_
          refine V_aldn0 a_X11_goesThrough_71 ?_
          refine V_getIE a_X11_goesThrough_72 f_X11_118 rfl pz_12 ?_
          refine V_if_ne_f a_X11_goesThrough_75 (by omega) (by omega) ?_
          refine V_aldn0 a_X11_goesThrough_78 ?_
          refine V_ldcS a_X11_goesThrough_79 sr_X11_188 ?_
          refine V_v1R a_X11_goesThrough_81 c_X11_157 (R_wordT h.r60 (by decide) (by omega) w5) ?_
          refine V_if_ne_t a_X11_goesThrough_84 (by omega) (by omega) ?_
          refine V_aldn0 a_X11_goesThrough_92 ?_
          refine V_getIE a_X11_goesThrough_93 f_X11_118 rfl pz_12 ?_
          refine V_if_gt_f a_X11_goesThrough_96 (by omega) (by omega) ?_
          refine V_aldn0 a_X11_goesThrough_99 ?_
          refine V_ildn2 a_X11_goesThrough_100 ?_
          refine V_v1R a_X11_goesThrough_101 c_X11_381 rd ?_
          refine V_if_eq_t a_X11_goesThrough_104 (by omega) (by omega) ?_
          refine V_aldn0 a_X11_goesThrough_108 ?_
          refine V_iconst a_X11_goesThrough_109 ?_
          refine V_putI a_X11_goesThrough_110 f_X11_118 rfl ?_
          refine V_aldn0 a_X11_goesThrough_113 ?_
          refine V_ildn1 a_X11_goesThrough_114 ?_
          refine V_putI a_X11_goesThrough_115 f_X11_29 rfl ?_
          exact V_ret a_X11_goesThrough_118 (⟨rfl, by rw [pz_w]; exact or_f (by decide)⟩)
        · rw [if_neg k8]
          have rd := rd.1 (Classical.byContradiction k8)
          refine V_ildn3 a_X11_goesThrough_26 ?_
          refine V_iconst a_X11_goesThrough_27 ?_
          refine V_icmp_ge_t a_X11_goesThrough_28 (by omega) (by omega) ?_
          refine V_aldn0 a_X11_goesThrough_71 ?_
          refine V_getIE a_X11_goesThrough_72 f_X11_118 rfl pz_12 ?_
          refine V_if_ne_f a_X11_goesThrough_75 (by omega) (by omega) ?_
          refine V_aldn0 a_X11_goesThrough_78 ?_
          refine V_ldcS a_X11_goesThrough_79 sr_X11_188 ?_
          refine V_v1R a_X11_goesThrough_81 c_X11_157 (R_wordT h.r60 (by decide) (by omega) w5) ?_
          refine V_if_ne_t a_X11_goesThrough_84 (by omega) (by omega) ?_
          refine V_aldn0 a_X11_goesThrough_92 ?_
          refine V_getIE a_X11_goesThrough_93 f_X11_118 rfl pz_12 ?_
          refine V_if_gt_f a_X11_goesThrough_96 (by omega) (by omega) ?_
          refine V_aldn0 a_X11_goesThrough_99 ?_
          refine V_ildn2 a_X11_goesThrough_100 ?_
          refine V_v1PR a_X11_goesThrough_101 c_X11_381 rd (fun τ hτ => ?_)
          refine V_if_eq_f a_X11_goesThrough_104 (by omega) (by omega) ?_
          exact V_ret a_X11_goesThrough_107 (⟨rfl, fk0.trans (hτ.1.sub (by decide) (by decide)), by rw [hτ.1.2 12 (by decide)]; exact pz_12, fun z => absurd rfl z, fun _ => ⟨by rw [hτ.1.2 13 (by decide)]; exact pz_13, by rw [hτ.1.2 9 (by decide)]; exact pz_9, by rw [hτ.1.2 10 (by decide)]; exact pz_10, hτ.2⟩⟩)
      · rw [if_pos w5]
        refine V_ildn3 a_X11_goesThrough_26 ?_
        refine V_iconst a_X11_goesThrough_27 ?_
        refine V_icmp_ge_t a_X11_goesThrough_28 (by omega) (by omega) ?_
        refine V_aldn0 a_X11_goesThrough_71 ?_
        refine V_getIE a_X11_goesThrough_72 f_X11_118 rfl pz_12 ?_
        refine V_if_ne_f a_X11_goesThrough_75 (by omega) (by omega) ?_
        refine V_aldn0 a_X11_goesThrough_78 ?_
        refine V_ldcS a_X11_goesThrough_79 sr_X11_188 ?_
        refine V_v1R a_X11_goesThrough_81 c_X11_157 (R_wordF h.r60 (by decide) (by omega) w5) ?_
        refine V_if_ne_f a_X11_goesThrough_84 (by omega) (by omega) ?_
        refine V_aldn0 a_X11_goesThrough_87 ?_
        refine V_iconst a_X11_goesThrough_88 ?_
        refine V_v1V a_X11_goesThrough_89 c_X11_133 R_wrong0 ?_
        refine V_aldn0 a_X11_goesThrough_92 ?_
        refine V_getIE a_X11_goesThrough_93 f_X11_118 rfl pz_12 ?_
        refine V_if_gt_t a_X11_goesThrough_96 (by omega) (by omega) ?_
        exact V_ret a_X11_goesThrough_107 (⟨rfl, or_f (by decide)⟩)
    · intro k k0 k1 ih hxk
      by_cases q1 : k < nmA w
      · rw [show min k (nmA w) = k by omega, show (nmA w - k).toNat = (nmA w - (k + 1)).toNat + 1 by omega] at hxk
        rw [show min k (nmA w) = k by omega]
        rw [show min (k + 1) (nmA w) = k + 1 by omega, tEn_s k0] at ih
        have hsb := tEn_bd (T := T) (n := k) hp1.2 k0
        have ev : ovA T e p w k = nW T e (tEn T e (tE T e p) k) := if_pos q1
        rw [← mix_s k0, ev] at ih
        generalize tEn T e (tE T e p) k = s at hsb ev hxk ih ⊢
        have hwb := nW_bd (T := T) (e := e) (p := s) (by omega)
        by_cases q2 : nC T e s 0 9999999 1 = 0
        · have hxk : ftN T e ((0, 9999999, 1) :: oL (nmA w - (k + 1)).toNat) s = x := hxk
          rw [ftN_0 q2] at hxk
          have ih := ih hxk
          refine V_ildn3 a_X11_goesThrough_26 ?_
          refine V_iconst a_X11_goesThrough_27 ?_
          refine V_icmp_ge_f a_X11_goesThrough_28 (by omega) (by omega) ?_
          refine V_aldn0 a_X11_goesThrough_31 ?_
          refine V_getIE a_X11_goesThrough_32 f_X11_118 rfl pz_12 ?_
          refine V_if_ne_f a_X11_goesThrough_35 (by omega) (by omega) ?_
          refine V_aldn0 a_X11_goesThrough_38 ?_
          refine V_fin a_X11_goesThrough_39 f_X11_46 rfl hW ?_
          refine V_ildn3 a_X11_goesThrough_42 ?_
          refine V_ildn3 a_X11_goesThrough_43 ?_
          refine V_ildn2 a_X11_goesThrough_44 ?_
          refine V_s1R a_X11_goesThrough_45 c_X11_378 (R_numbersOf (by omega)) ?_
          refine V_icmp_ge_f a_X11_goesThrough_48 (by omega) (by omega) ?_
          refine V_aldn0 a_X11_goesThrough_51 ?_
          refine V_lconst0 a_X11_goesThrough_52 ?_
          refine V_ldc2 a_X11_goesThrough_53 q_X11_151 ?_
          refine V_iconst a_X11_goesThrough_56 ?_
          refine V_v3R a_X11_goesThrough_57 c_X11_145 (R_num0 h.r60 (by omega) (by omega) (by omega) (by omega) q2) ?_
          refine V_goto a_X11_goesThrough_60 ?_
          refine V_iast a_X11_goesThrough_64 rfl (by omega) ?_
          rw [pz_60]
          refine V_inc3 a_X11_goesThrough_65 ?_
          refine V_goto a_X11_goesThrough_68 ?_
          exact ih
        · have hxk : ftN T e ((0, 9999999, 1) :: oL (nmA w - (k + 1)).toNat) s = x := hxk
          rw [ftN_1 q2] at hxk
          subst hxk
          have hcb := nC_bd (T := T) (e := e) (p := s) (lo := 0) (hi := 9999999) (c := 1) (by decide)
          rw [if_pos q2]
          by_cases q4 : k + 1 < 4
          · refine V_ildn3 a_X11_goesThrough_26 ?_
            refine V_iconst a_X11_goesThrough_27 ?_
            refine V_icmp_ge_f a_X11_goesThrough_28 (by omega) (by omega) ?_
            refine V_aldn0 a_X11_goesThrough_31 ?_
            refine V_getIE a_X11_goesThrough_32 f_X11_118 rfl pz_12 ?_
            refine V_if_ne_f a_X11_goesThrough_35 (by omega) (by omega) ?_
            refine V_aldn0 a_X11_goesThrough_38 ?_
            refine V_fin a_X11_goesThrough_39 f_X11_46 rfl hW ?_
            refine V_ildn3 a_X11_goesThrough_42 ?_
            refine V_ildn3 a_X11_goesThrough_43 ?_
            refine V_ildn2 a_X11_goesThrough_44 ?_
            refine V_s1R a_X11_goesThrough_45 c_X11_378 (R_numbersOf (by omega)) ?_
            refine V_icmp_ge_f a_X11_goesThrough_48 (by omega) (by omega) ?_
            refine V_aldn0 a_X11_goesThrough_51 ?_
            refine V_lconst0 a_X11_goesThrough_52 ?_
            refine V_ldc2 a_X11_goesThrough_53 q_X11_151 ?_
            refine V_iconst a_X11_goesThrough_56 ?_
            refine V_v3R a_X11_goesThrough_57 c_X11_145 (R_num1 h.r60 (by omega) (by omega) (by omega) (by omega) q2) ?_
            refine V_goto a_X11_goesThrough_60 ?_
            refine V_iast a_X11_goesThrough_64 rfl (by omega) ?_
            rw [pz_60]
            refine V_inc3 a_X11_goesThrough_65 ?_
            refine V_goto a_X11_goesThrough_68 ?_
            skip
            refine V_ildn3 a_X11_goesThrough_26 ?_
            refine V_iconst a_X11_goesThrough_27 ?_
            refine V_icmp_ge_f a_X11_goesThrough_28 (by omega) (by omega) ?_
            refine V_aldn0 a_X11_goesThrough_31 ?_
            refine V_getIE a_X11_goesThrough_32 f_X11_118 rfl pz_12 ?_
            refine V_if_ne_t a_X11_goesThrough_35 (by omega) (by omega) ?_
            exact fail _ _ _ _ _ _ _ (by omega)
          · refine V_ildn3 a_X11_goesThrough_26 ?_
            refine V_iconst a_X11_goesThrough_27 ?_
            refine V_icmp_ge_f a_X11_goesThrough_28 (by omega) (by omega) ?_
            refine V_aldn0 a_X11_goesThrough_31 ?_
            refine V_getIE a_X11_goesThrough_32 f_X11_118 rfl pz_12 ?_
            refine V_if_ne_f a_X11_goesThrough_35 (by omega) (by omega) ?_
            refine V_aldn0 a_X11_goesThrough_38 ?_
            refine V_fin a_X11_goesThrough_39 f_X11_46 rfl hW ?_
            refine V_ildn3 a_X11_goesThrough_42 ?_
            refine V_ildn3 a_X11_goesThrough_43 ?_
            refine V_ildn2 a_X11_goesThrough_44 ?_
            refine V_s1R a_X11_goesThrough_45 c_X11_378 (R_numbersOf (by omega)) ?_
            refine V_icmp_ge_f a_X11_goesThrough_48 (by omega) (by omega) ?_
            refine V_aldn0 a_X11_goesThrough_51 ?_
            refine V_lconst0 a_X11_goesThrough_52 ?_
            refine V_ldc2 a_X11_goesThrough_53 q_X11_151 ?_
            refine V_iconst a_X11_goesThrough_56 ?_
            refine V_v3R a_X11_goesThrough_57 c_X11_145 (R_num1 h.r60 (by omega) (by omega) (by omega) (by omega) q2) ?_
            refine V_goto a_X11_goesThrough_60 ?_
            refine V_iast a_X11_goesThrough_64 rfl (by omega) ?_
            rw [pz_60]
            refine V_inc3 a_X11_goesThrough_65 ?_
            refine V_goto a_X11_goesThrough_68 ?_
            skip
            refine V_ildn3 a_X11_goesThrough_26 ?_
            refine V_iconst a_X11_goesThrough_27 ?_
            refine V_icmp_ge_t a_X11_goesThrough_28 (by omega) (by omega) ?_
            exact fail _ _ _ _ _ _ _ (by omega)
      · rw [show min k (nmA w) = nmA w by omega, show (nmA w - k).toNat = 0 by omega] at hxk
        rw [show min k (nmA w) = nmA w by omega]
        rw [show min (k + 1) (nmA w) = nmA w by omega, show (nmA w - (k + 1)).toNat = 0 by omega] at ih
        have ev : ovA T e p w k = 0 := if_neg q1
        rw [← mix_s k0, ev] at ih
        have ih := ih hxk
        refine V_ildn3 a_X11_goesThrough_26 ?_
        refine V_iconst a_X11_goesThrough_27 ?_
        refine V_icmp_ge_f a_X11_goesThrough_28 (by omega) (by omega) ?_
        refine V_aldn0 a_X11_goesThrough_31 ?_
        refine V_getIE a_X11_goesThrough_32 f_X11_118 rfl pz_12 ?_
        refine V_if_ne_f a_X11_goesThrough_35 (by omega) (by omega) ?_
        refine V_aldn0 a_X11_goesThrough_38 ?_
        refine V_fin a_X11_goesThrough_39 f_X11_46 rfl hW ?_
        refine V_ildn3 a_X11_goesThrough_42 ?_
        refine V_ildn3 a_X11_goesThrough_43 ?_
        refine V_ildn2 a_X11_goesThrough_44 ?_
        refine V_s1R a_X11_goesThrough_45 c_X11_378 (R_numbersOf (by omega)) ?_
        refine V_icmp_ge_t a_X11_goesThrough_48 (by omega) (by omega) ?_
        refine V_iconst a_X11_goesThrough_63 ?_
        refine V_iast a_X11_goesThrough_64 rfl (by omega) ?_
        rw [pz_60]
        refine V_inc3 a_X11_goesThrough_65 ?_
        refine V_goto a_X11_goesThrough_68 ?_
        exact ih
end Or

