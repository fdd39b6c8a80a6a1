theorem cpI {σ : Hp} {t i t' i' : Nat} {x : Int} : σ.wI (cpy σ.I t i t' i' x) = σ.rI t' i' (mix (σ.I t i) (σ.I t' i') x) := by
  have e : cpy σ.I t i t' i' x = rowR σ.I t' i' (mix (σ.I t i) (σ.I t' i') x) := by
    funext a b k
    by_cases z : a = t' ∧ b = i'
    · obtain ⟨z1, z2⟩ := z
      rw [z1, z2, cpy_eq, row_eq]
      rfl
    · rw [cpy_ne z, row_ne z]
  rw [e]
theorem cpJ {σ : Hp} {t i t' i' : Nat} {x : Int} : σ.wJ (cpy σ.J t i t' i' x) = σ.rJ t' i' (mix (σ.J t i) (σ.J t' i') x) := by
  have e : cpy σ.J t i t' i' x = rowR σ.J t' i' (mix (σ.J t i) (σ.J t' i') x) := by
    funext a b k
    by_cases z : a = t' ∧ b = i'
    · obtain ⟨z1, z2⟩ := z
      rw [z1, z2, cpy_eq, row_eq]
      rfl
    · rw [cpy_ne z, row_ne z]
  rw [e]
/-- a loan's slices -/
def Slc (τ : Hp) (j : Nat) (sh rc du : Int → Int) : Prop := ∀ l, 0 ≤ l → l < 6 → τ.I 30 j l = sh l ∧ τ.I 31 j l = rc l ∧ τ.I 32 j l = du l
def hbR (rc : Int → Int) (l p : Int) : Int → Int := upI rc l (rc l - min p (rc l))
def hbD (rc du : Int → Int) (l p : Int) : Int → Int := if rc l - min p (rc l) = 0 then upI du l (-1) else du
/-- one loan's slices alone -/
def slS (j : Nat) (t n : Nat) : Prop := (t = 30 ∨ t = 31 ∨ t = 32) ∧ n = j
section Ha
variable {D : Int} {σ : Hp} {A : St} {i j : Nat} {sh rc du : Int → Int}
theorem R_handBack {l p : Int} (hW : WF σ) (gs : Slc σ j sh rc du) (hl : 0 ≤ l ∧ l < 6) (hr : 0 ≤ rc l ∧ rc l ≤ 1000000) (hp : 0 ≤ p ∧ p ≤ 1000000) : Cv m_X3_handBack 1 0 0 [vR (some (3, j)), vI l, vI p] σ none (fun τ => FX (slS j) σ τ ∧ Slc τ j (upI sh l (sh l - p)) (hbR rc l p) (hbD rc du l p)) := by
  have g30 : σ.I 30 j l = sh l := (gs l hl.1 hl.2).1
  have g31 : (σ.setI 30 j l (sh l - p)).I 31 j l = rc l := by
    rw [setI_t (by decide)]
    exact (gs l hl.1 hl.2).2.1
  have g31b : ((σ.setI 30 j l (sh l - p)).setI 31 j l (rc l - min p (rc l))).I 31 j l = rc l - min p (rc l) := setI_I
  have f : FX (slS j) σ ((σ.setI 30 j l (sh l - p)).setI 31 j l (rc l - min p (rc l))) := (FX.setI ⟨Or.inl rfl, rfl⟩).trans (FX.setI ⟨Or.inr (Or.inl rfl), rfl⟩)
  have v : ∀ m, 0 ≤ m → m < 6 → ((σ.setI 30 j l (sh l - p)).setI 31 j l (rc l - min p (rc l))).I 30 j m = upI sh l (sh l - p) m ∧ ((σ.setI 30 j l (sh l - p)).setI 31 j l (rc l - min p (rc l))).I 31 j m = hbR rc l p m ∧ ((σ.setI 30 j l (sh l - p)).setI 31 j l (rc l - min p (rc l))).I 32 j m = du m := fun m m0 m1 => by
    have z := gs m m0 m1
    unfold hbR
    rw [setI_t (t' := 30) (by decide), setI_t (t' := 32) (by decide), setI_t (t' := 32) (by decide)]
    by_cases e : m = l
    · rw [e, setI_I, setI_I, upI_eq, upI_eq]
      exact ⟨rfl, rfl, (gs l hl.1 hl.2).2.2⟩
    · rw [setI_ne e, setI_ne e, setI_t (t' := 31) (by decide), upI_ne e, upI_ne e]
      exact z
  have rm := R_imin (σ := σ.setI 30 j l (sh l - p)) (x := p) (y := rc l) (by omega) (by omega)
  show V _ 1 0 0 0 [some (vR (some (3, j))), some (vI l), some (vI p)] [] σ _
  by_cases c : rc l - min p (rc l) = 0
  · have e : hbD rc du l p = upI du l (-1) := if_pos c
    rw [e]
    have v2 : Slc (((σ.setI 30 j l (sh l - p)).setI 31 j l (rc l - min p (rc l))).setI 32 j l (-1)) j (upI sh l (sh l - p)) (hbR rc l p) (upI du l (-1)) := fun m m0 m1 => by
      have z := v m m0 m1
      rw [setI_t (t' := 30) (by decide), setI_t (t := 32) (t' := 31) (by decide)]
      refine ⟨z.1, z.2.1, ?_⟩
      by_cases e : m = l
      · rw [e, setI_I, upI_eq]
      · rw [setI_ne e, upI_ne e]
        exact z.2.2
    refine V_aldn0 a_X3_handBack_0 ?_
    refine V_fin a_X3_handBack_1 f_X3_9 rfl hW ?_
    refine V_ildn1 a_X3_handBack_4 ?_
    first | refine V_dup2IR a_X3_handBack_5 ?_ | refine V_dup2L a_X3_handBack_5 ?_
    refine V_ialdE a_X3_handBack_6 rfl (by omega) g30 ?_
    refine V_ildn2 a_X3_handBack_7 ?_
    refine V_isub a_X3_handBack_8 ?_
    refine V_iast a_X3_handBack_9 rfl (by omega) ?_
    refine V_aldn0 a_X3_handBack_10 ?_
    refine V_fin a_X3_handBack_11 f_X3_15 rfl hW ?_
    refine V_ildn1 a_X3_handBack_14 ?_
    first | refine V_dup2IR a_X3_handBack_15 ?_ | refine V_dup2L a_X3_handBack_15 ?_
    refine V_ialdE a_X3_handBack_16 rfl (by omega) g31 ?_
    refine V_ildn2 a_X3_handBack_17 ?_
    refine V_aldn0 a_X3_handBack_18 ?_
    refine V_fin a_X3_handBack_19 f_X3_15 rfl hW ?_
    refine V_ildn1 a_X3_handBack_22 ?_
    refine V_ialdE a_X3_handBack_23 rfl (by omega) g31 ?_
    refine V_s2R a_X3_handBack_24 c_X3_56 rm ?_
    refine V_isub a_X3_handBack_27 ?_
    refine V_iast a_X3_handBack_28 rfl (by omega) ?_
    refine V_aldn0 a_X3_handBack_29 ?_
    refine V_fin a_X3_handBack_30 f_X3_15 rfl hW ?_
    refine V_ildn1 a_X3_handBack_33 ?_
    refine V_ialdE a_X3_handBack_34 rfl (by omega) g31b ?_
    refine V_if_ne_f a_X3_handBack_35 (by omega) (by omega) ?_
    refine V_aldn0 a_X3_handBack_38 ?_
    refine V_fin a_X3_handBack_39 f_X3_18 rfl hW ?_
    refine V_ildn1 a_X3_handBack_42 ?_
    refine V_iconst a_X3_handBack_43 ?_
    refine V_iast a_X3_handBack_44 rfl (by omega) ?_
    exact V_ret a_X3_handBack_45 (⟨rfl, f.trans (FX.setI ⟨Or.inr (Or.inr rfl), rfl⟩), v2⟩)
  · have e : hbD rc du l p = du := if_neg c
    rw [e]
    refine V_aldn0 a_X3_handBack_0 ?_
    refine V_fin a_X3_handBack_1 f_X3_9 rfl hW ?_
    refine V_ildn1 a_X3_handBack_4 ?_
    first | refine V_dup2IR a_X3_handBack_5 ?_ | refine V_dup2L a_X3_handBack_5 ?_
    refine V_ialdE a_X3_handBack_6 rfl (by omega) g30 ?_
    refine V_ildn2 a_X3_handBack_7 ?_
    refine V_isub a_X3_handBack_8 ?_
    refine V_iast a_X3_handBack_9 rfl (by omega) ?_
    refine V_aldn0 a_X3_handBack_10 ?_
    refine V_fin a_X3_handBack_11 f_X3_15 rfl hW ?_
    refine V_ildn1 a_X3_handBack_14 ?_
    first | refine V_dup2IR a_X3_handBack_15 ?_ | refine V_dup2L a_X3_handBack_15 ?_
    refine V_ialdE a_X3_handBack_16 rfl (by omega) g31 ?_
    refine V_ildn2 a_X3_handBack_17 ?_
    refine V_aldn0 a_X3_handBack_18 ?_
    refine V_fin a_X3_handBack_19 f_X3_15 rfl hW ?_
    refine V_ildn1 a_X3_handBack_22 ?_
    refine V_ialdE a_X3_handBack_23 rfl (by omega) g31 ?_
    refine V_s2R a_X3_handBack_24 c_X3_56 rm ?_
    refine V_isub a_X3_handBack_27 ?_
    refine V_iast a_X3_handBack_28 rfl (by omega) ?_
    refine V_aldn0 a_X3_handBack_29 ?_
    refine V_fin a_X3_handBack_30 f_X3_15 rfl hW ?_
    refine V_ildn1 a_X3_handBack_33 ?_
    refine V_ialdE a_X3_handBack_34 rfl (by omega) g31b ?_
    refine V_if_ne_t a_X3_handBack_35 (by omega) (by omega) ?_
    exact V_ret a_X3_handBack_45 (⟨rfl, f, v⟩)
theorem R_Lcopy {j' : Nat} (hW : WF σ) (hne : j' ≠ j) : Cv m_X3_copyFrom 1 0 0 [vR (some (3, j)), vR (some (3, j'))] σ none (fun τ => FX (jS j) σ τ ∧ LnV τ j (σ.I 3 j') (σ.I 30 j') (σ.I 31 j') (σ.I 32 j')) := by
  have f1 : FX (jS j) σ (((((σ.setI 3 j 0 (σ.I 3 j' 0)).setI 3 j 1 (σ.I 3 j' 1)).setI 3 j 2 (σ.I 3 j' 2)).setI 3 j 3 (σ.I 3 j' 3)).setI 3 j 4 (σ.I 3 j' 4)) := ((((FX.setI ⟨Or.inl rfl, rfl⟩).trans (FX.setI ⟨Or.inl rfl, rfl⟩)).trans (FX.setI ⟨Or.inl rfl, rfl⟩)).trans (FX.setI ⟨Or.inl rfl, rfl⟩)).trans (FX.setI ⟨Or.inl rfl, rfl⟩)
  have v1 : ∀ k, 0 ≤ k → k < 5 → (((((σ.setI 3 j 0 (σ.I 3 j' 0)).setI 3 j 1 (σ.I 3 j' 1)).setI 3 j 2 (σ.I 3 j' 2)).setI 3 j 3 (σ.I 3 j' 3)).setI 3 j 4 (σ.I 3 j' 4)).I 3 j k = σ.I 3 j' k := fun k k0 k1 => by
    rcases five k0 k1 with z | z | z | z | z <;> subst z
    · rw [setI_ne (by decide), setI_ne (by decide), setI_ne (by decide), setI_ne (by decide), setI_I]
    · rw [setI_ne (by decide), setI_ne (by decide), setI_ne (by decide), setI_I]
    · rw [setI_ne (by decide), setI_ne (by decide), setI_I]
    · rw [setI_ne (by decide), setI_I]
    · rw [setI_I]
  have n1 : ∀ k v, (σ.setI 3 j k v).I 3 j' = σ.I 3 j' := fun k v => setI_nn (by omega)
  have n2 : ∀ (τ : Hp) k v, (τ.setI 3 j k v).I 3 j' = τ.I 3 j' := fun τ k v => setI_nn (by omega)
  show V _ 1 0 0 0 [some (vR (some (3, j))), some (vR (some (3, j')))] [] σ _
  refine V_aldn0 a_X3_copyFrom_0 ?_
  refine V_aldn1 a_X3_copyFrom_1 ?_
  refine V_getIE a_X3_copyFrom_2 f_X3_21 rfl (show _ = σ.I 3 j' 0 from rfl) ?_
  refine V_putI a_X3_copyFrom_5 f_X3_21 rfl ?_
  refine V_aldn0 a_X3_copyFrom_8 ?_
  refine V_aldn1 a_X3_copyFrom_9 ?_
  refine V_getIE a_X3_copyFrom_10 f_X3_25 rfl (show _ = σ.I 3 j' 1 from by rw [n2]) ?_
  refine V_putI a_X3_copyFrom_13 f_X3_25 rfl ?_
  refine V_aldn0 a_X3_copyFrom_16 ?_
  refine V_aldn1 a_X3_copyFrom_17 ?_
  refine V_getIE a_X3_copyFrom_18 f_X3_28 rfl (show _ = σ.I 3 j' 2 from by rw [n2, n2]) ?_
  refine V_putI a_X3_copyFrom_21 f_X3_28 rfl ?_
  refine V_aldn0 a_X3_copyFrom_24 ?_
  refine V_aldn1 a_X3_copyFrom_25 ?_
  refine V_getIE a_X3_copyFrom_26 f_X3_31 rfl (show _ = σ.I 3 j' 3 from by rw [n2, n2, n2]) ?_
  refine V_putI a_X3_copyFrom_29 f_X3_31 rfl ?_
  refine V_aldn0 a_X3_copyFrom_32 ?_
  refine V_aldn1 a_X3_copyFrom_33 ?_
  refine V_getIE a_X3_copyFrom_34 f_X3_34 rfl (show _ = σ.I 3 j' 4 from by rw [n2, n2, n2, n2]) ?_
  refine V_putI a_X3_copyFrom_37 f_X3_34 rfl ?_
  skip
  generalize hτ : ((((σ.setI 3 j 0 (σ.I 3 j' 0)).setI 3 j 1 (σ.I 3 j' 1)).setI 3 j 2 (σ.I 3 j' 2)).setI 3 j 3 (σ.I 3 j' 3)).setI 3 j 4 (σ.I 3 j' 4) = τ at f1 v1
  have e30 : τ.I 30 j' = σ.I 30 j' := f1.I (by intro z; unfold jS at z; omega)
  have e31 : τ.I 31 j' = σ.I 31 j' := f1.I (by intro z; unfold jS at z; omega)
  have e32 : τ.I 32 j' = σ.I 32 j' := f1.I (by intro z; unfold jS at z; omega)
  have hW := f1.wf hW
  refine V_aldn1 a_X3_copyFrom_40 ?_
  refine V_fin a_X3_copyFrom_41 f_X3_9 rfl hW ?_
  refine V_iconst a_X3_copyFrom_44 ?_
  refine V_aldn0 a_X3_copyFrom_45 ?_
  refine V_fin a_X3_copyFrom_46 f_X3_9 rfl hW ?_
  refine V_iconst a_X3_copyFrom_49 ?_
  refine V_bipush a_X3_copyFrom_50 (by decide) ?_
  refine V_cpyI a_X3_copyFrom_52 rfl rfl (by omega) ac_X3_43 ac_n ac_s ac_i (by omega) (by exact Nat.le_of_ble_eq_true rfl) ?_
  rw [cpI]
  refine V_aldn1 a_X3_copyFrom_55 ?_
  refine V_fin a_X3_copyFrom_56 f_X3_15 rfl hW ?_
  refine V_iconst a_X3_copyFrom_59 ?_
  refine V_aldn0 a_X3_copyFrom_60 ?_
  refine V_fin a_X3_copyFrom_61 f_X3_15 rfl hW ?_
  refine V_iconst a_X3_copyFrom_64 ?_
  refine V_bipush a_X3_copyFrom_65 (by decide) ?_
  refine V_cpyI a_X3_copyFrom_67 rfl rfl (by omega) ac_X3_43 ac_n ac_s ac_i (by omega) (by exact Nat.le_of_ble_eq_true rfl) ?_
  rw [cpI]
  refine V_aldn1 a_X3_copyFrom_70 ?_
  refine V_fin a_X3_copyFrom_71 f_X3_18 rfl hW ?_
  refine V_iconst a_X3_copyFrom_74 ?_
  refine V_aldn0 a_X3_copyFrom_75 ?_
  refine V_fin a_X3_copyFrom_76 f_X3_18 rfl hW ?_
  refine V_iconst a_X3_copyFrom_79 ?_
  refine V_bipush a_X3_copyFrom_80 (by decide) ?_
  refine V_cpyI a_X3_copyFrom_82 rfl rfl (by omega) ac_X3_43 ac_n ac_s ac_i (by omega) (by exact Nat.le_of_ble_eq_true rfl) ?_
  rw [cpI]
  exact V_ret a_X3_copyFrom_85 (⟨rfl, f1.trans (((FX.rI ⟨Or.inr (Or.inl rfl), rfl⟩).trans (FX.rI ⟨Or.inr (Or.inr (Or.inl rfl)), rfl⟩)).trans (FX.rI ⟨Or.inr (Or.inr (Or.inr rfl)), rfl⟩)), fun k k0 k1 => by rw [rI_ne (by omega), rI_ne (by omega), rI_ne (by omega)]; exact v1 k k0 k1, fun l l0 l1 => ⟨by rw [rI_ne (t' := 30) (by omega), rI_ne (t' := 30) (by omega), rI_I, mix_in l0 l1, e30], by rw [rI_ne (t := 32) (t' := 31) (by omega), rI_I, mix_in l0 l1, rI_ne (t' := 31) (by omega), e31], by rw [rI_I, mix_in l0 l1, rI_ne (t' := 32) (by omega), rI_ne (t' := 32) (by omega), e32]⟩⟩)
end Ha

