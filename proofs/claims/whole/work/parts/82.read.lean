/-- a number at the token behind p: its fault, its value -/
def nC (T : Int → Int) (e p lo hi c : Int) : Int := nuC T e (tF T e p) (tE T e p) lo hi c
def nW (T : Int → Int) (e p : Int) : Int := nuW T e (tF T e p) (tE T e p)
theorem nW_bd {T : Int → Int} {e p : Int} (h : p ≤ e) : 0 ≤ nW T e p ∧ nW T e p < 10000000 := nuW_bd (tF_bd h).2 rfl
theorem nC_bd {T : Int → Int} {e p lo hi c : Int} (hc : 0 < c ∧ c < 100) : 0 ≤ nC T e p lo hi c ∧ nC T e p lo hi c < 100 := by
  unfold nC nuC nuS
  split
  · split <;> omega
  · split
    · split <;> omega
    · omega
theorem nC_in {T : Int → Int} {e p lo hi c : Int} (h : nC T e p lo hi c = 0) (hc : 0 < c ∧ c < 100 := by decide) : lo ≤ nW T e p ∧ nW T e p ≤ hi := by
  unfold nC nuC at h
  unfold nW
  by_cases q : nuS T e (tF T e p) (tE T e p) = 0
  · rw [if_pos q] at h
    by_cases q2 : lo ≤ nuW T e (tF T e p) (tE T e p) ∧ nuW T e (tF T e p) (tE T e p) ≤ hi
    · exact q2
    · rw [if_neg q2] at h
      omega
  · rw [if_neg q] at h
    exact absurd h q
/-- the state that a text lays, as far as it is read -/
def FrI (B : St) : Prop := Inv 0 B ∧ B 7 = 0
/-- what a statement adds -/
def adB (T : Int → Int) (e : Int) (B : St) (kw p : Int) : St :=
  if kw = 0 then upI (upI B 3 (nW T e p)) 4 (nW T e (tE T e p))
  else if kw = 1 then upI (upI (upI B (15 + B 0) (nW T e p)) (19 + B 0) (nW T e (tE T e p))) 0 (B 0 + 1)
  else if kw = 2 then upI (upI (upI (upI B (27 + B 1) (nW T e p)) (33 + B 1) (nW T e (tE T e p))) (39 + B 1) (nW T e (tE T e (tE T e p)))) 1 (B 1 + 1)
  else if kw = 3 then upI (upI B (45 + B 2) (nW T e p)) 2 (B 2 + 1)
  else upI B (49 + 4 * nW T e p + nW T e (tE T e p)) (nW T e (tE T e (tE T e p)))
section AdB
variable {T : Int → Int} {e p : Int} {B : St}
theorem adB_0 : adB T e B 0 p = upI (upI B 3 (nW T e p)) 4 (nW T e (tE T e p)) := rfl
theorem adB_1 : adB T e B 1 p = upI (upI (upI B (15 + B 0) (nW T e p)) (19 + B 0) (nW T e (tE T e p))) 0 (B 0 + 1) := rfl
theorem adB_2 : adB T e B 2 p = upI (upI (upI (upI B (27 + B 1) (nW T e p)) (33 + B 1) (nW T e (tE T e p))) (39 + B 1) (nW T e (tE T e (tE T e p)))) 1 (B 1 + 1) := rfl
theorem adB_3 : adB T e B 3 p = upI (upI B (45 + B 2) (nW T e p)) 2 (B 2 + 1) := rfl
theorem adB_4 : adB T e B 4 p = upI B (49 + 4 * nW T e p + nW T e (tE T e p)) (nW T e (tE T e (tE T e p))) := rfl
end AdB
theorem V_fr {M : MI} {n b bs pc nx : Nat} {ls : List (Option AV)} {st : List AV} {σ : Hp} {Q : Res → Hp → Prop} {B : St} {x : Int} (h : Ix M pc .laload 1 nx) (hx : 0 ≤ x ∧ x < 359) (hB : σ.J 53 0 = B) (kk : V M n b bs nx ls (vL (B x) :: st) σ Q) : V M n b bs pc ls (vI x :: vR (some (53, 0)) :: st) σ Q := by
  subst hB
  exact V_lald h rfl (by omega) kk
section Rd
variable {σ : Hp} {T : Int → Int} {e p a : Int} {B : St}
theorem pzJ {f t c a : Int} : ((σ.rJ 53 0 B).pz f t c a).J 53 0 = B := by
  show rowR σ.J 53 0 B 53 0 = B
  exact row_eq
theorem pzJs {f t c a k v : Int} : ((σ.rJ 53 0 B).pz f t c a).setJ 53 0 k v = (σ.rJ 53 0 (upI B k v)).pz f t c a := by
  show Hp.wJ ((σ.rJ 53 0 B).pz f t c a) (u3 (rowR σ.J 53 0 B) 53 0 k v) = _
  rw [row_u3]
  rfl
theorem Tx.rJ {t i : Nat} {g : Int → Int} (h : Tx σ T e) : Tx (σ.rJ t i g) T e := h
/-- the reader found a fault -/
def FS (σ : Hp) (e c a : Int) (τ : Hp) : Prop := ∃ (f t : Int) (B : St), (0 ≤ f ∧ f ≤ t ∧ t ≤ e) ∧ τ = (σ.rJ 53 0 B).pz f t c a
theorem R_num0 {lo hi c : Int} (h : Tx σ T e) (hp : 0 ≤ p ∧ p ≤ e) (hlo : 0 ≤ lo ∧ lo ≤ 100000000) (hhi : -100 ≤ hi ∧ hi ≤ 100000000) (hc : 0 < c ∧ c < 100) (q : nC T e p lo hi c = 0) : Rt m_X11_number 3 0 0 [vR (some (11, 0)), vL lo, vL hi, vI c] (σ.pz (tF T e p) (tE T e p) 0 a) (some (vI (nW T e p))) (σ.pz (tF T e (tE T e p)) (tE T e (tE T e p)) 0 a) := by
  have h1 := tF_bd (T := T) hp.2
  have r := R_number0 (a := a) h (f := tF T e p) (t := tE T e p) (by omega) rfl hlo hhi hc
  have q : nuC T e (tF T e p) (tE T e p) lo hi c = 0 := q
  rw [if_pos q] at r
  exact r
theorem R_num1 {lo hi c : Int} (h : Tx σ T e) (hp : 0 ≤ p ∧ p ≤ e) (hlo : 0 ≤ lo ∧ lo ≤ 100000000) (hhi : -100 ≤ hi ∧ hi ≤ 100000000) (hc : 0 < c ∧ c < 100) (q : nC T e p lo hi c ≠ 0) : Rt m_X11_number 3 0 0 [vR (some (11, 0)), vL lo, vL hi, vI c] (σ.pz (tF T e p) (tE T e p) 0 a) (some (vI (nW T e p))) (σ.pz (tF T e p) (tE T e p) (nC T e p lo hi c) (tF T e p)) := by
  have h1 := tF_bd (T := T) hp.2
  have r := R_number0 (a := a) h (f := tF T e p) (t := tE T e p) (by omega) rfl hlo hhi hc
  have q : nuC T e (tF T e p) (tE T e p) lo hi c ≠ 0 := q
  rw [if_neg q] at r
  exact r
theorem R_newOne1 {f t k m : Int} (hW : WF σ) (hB : B k = m) (hk : 0 ≤ k ∧ k < 359) (hm : 0 ≤ m ∧ m ≤ 100) : Rt m_X11_newOne 3 0 0 [vR (some (11, 0)), vI k, vI m] ((σ.rJ 53 0 B).pz f t 0 a) none ((σ.rJ 53 0 B).pz f t 5 f) := by
  show V _ 3 0 0 0 [some (vR (some (11, 0))), some (vI k), some (vI m)] [] ((σ.rJ 53 0 B).pz f t 0 a) _
  refine V_aldn0 a_X11_newOne_0 ?_
  refine V_fin a_X11_newOne_1 f_X11_19 rfl hW ?_
  refine V_ildn1 a_X11_newOne_4 ?_
  refine V_fr a_X11_newOne_5 (by omega) pzJ ?_
  refine V_ildn2 a_X11_newOne_6 ?_
  refine V_i2l a_X11_newOne_7 (by omega) ?_
  refine V_lc_ne_f a_X11_newOne_8 a_X11_newOne_9 (by omega) (by omega) ?_
  refine V_aldn0 a_X11_newOne_12 ?_
  refine V_iconst a_X11_newOne_13 ?_
  refine V_v1V a_X11_newOne_14 c_X11_133 R_wrong0 ?_
  refine V_aldn0 a_X11_newOne_17 ?_
  refine V_v0V a_X11_newOne_18 c_X11_136 (R_pass1 (by omega)) ?_
  exact V_ret a_X11_newOne_21 (⟨rfl, rfl⟩)
theorem R_newOne0 {f t k m : Int} (h : Tx (σ.rJ 53 0 B) T e) (hB : B k ≠ m ∧ 0 ≤ B k ∧ B k ≤ 100) (hk : 0 ≤ k ∧ k < 359) (hm : 0 ≤ m ∧ m ≤ 100) (ht : 0 ≤ t ∧ t ≤ e) : Rt m_X11_newOne 3 0 0 [vR (some (11, 0)), vI k, vI m] ((σ.rJ 53 0 B).pz f t 0 a) none ((σ.rJ 53 0 B).pz (tF T e t) (tE T e t) 0 a) := by
  have hW := h.1
  show V _ 3 0 0 0 [some (vR (some (11, 0))), some (vI k), some (vI m)] [] ((σ.rJ 53 0 B).pz f t 0 a) _
  refine V_aldn0 a_X11_newOne_0 ?_
  refine V_fin a_X11_newOne_1 f_X11_19 rfl hW ?_
  refine V_ildn1 a_X11_newOne_4 ?_
  refine V_fr a_X11_newOne_5 (by omega) pzJ ?_
  refine V_ildn2 a_X11_newOne_6 ?_
  refine V_i2l a_X11_newOne_7 (by omega) ?_
  refine V_lc_ne_t a_X11_newOne_8 a_X11_newOne_9 (by omega) (by omega) ?_
  refine V_aldn0 a_X11_newOne_17 ?_
  refine V_v0V a_X11_newOne_18 c_X11_136 (R_pass0 h ht) ?_
  exact V_ret a_X11_newOne_21 (⟨rfl, rfl⟩)
theorem F_readPool0 (h : Tx σ T e) (hB : FrI B) (hp : 0 ≤ p ∧ p ≤ e)  (c0 : nC T e (tE T e p) 0 (30) 2 ≠ 0) : Cv m_X11_readPool 4 0 0 [vR (some (11, 0))] ((σ.rJ 53 0 B).pz (tF T e p) (tE T e p) 0 a) none (FS σ e (nC T e (tE T e p) 0 (30) 2) (tF T e (tE T e p))) := by
  obtain ⟨p00, p01, p02, -⟩ := tE_bd (T := T) hp.2
  have q0 : 0 ≤ tE T e p ∧ tE T e p ≤ e := by omega
  have hn := hB.1.n
  obtain ⟨s00, s01, s02, -⟩ := tE_bd (T := T) (e := e) (p := tE T e p) (by omega)
  have w0 := nW_bd (T := T) (e := e) (p := tE T e p) (by omega)
  have hW := h.1
  have hd := nC_bd (T := T) (e := e) (p := tE T e p) (lo := 0) (hi := 30) (c := 2) (by omega)
  show V _ 4 0 0 0 [some (vR (some (11, 0)))] [] ((σ.rJ 53 0 B).pz (tF T e p) (tE T e p) 0 a) _
  refine V_aldn0 a_X11_readPool_0 ?_
  refine V_v0V a_X11_readPool_1 c_X11_136 (R_pass0 h.rJ q0) ?_
  refine V_aldn0 a_X11_readPool_4 ?_
  refine V_fin a_X11_readPool_5 f_X11_19 rfl hW ?_
  refine V_iconst a_X11_readPool_8 ?_
  refine V_aldn0 a_X11_readPool_9 ?_
  refine V_lconst0 a_X11_readPool_10 ?_
  refine V_ldc2 a_X11_readPool_11 q_X11_153 ?_
  refine V_iconst a_X11_readPool_14 ?_
  refine V_v3R a_X11_readPool_15 c_X11_145 (R_num1 (h.rJ) (by omega) (by omega) (by omega) (by omega) c0) ?_
  refine V_i2l a_X11_readPool_18 (by omega) ?_
  refine V_last a_X11_readPool_19 rfl (by omega) ?_
  rw [pzJs]
  refine V_aldn0 a_X11_readPool_20 ?_
  refine V_fin a_X11_readPool_21 f_X11_19 rfl hW ?_
  refine V_iconst a_X11_readPool_24 ?_
  refine V_aldn0 a_X11_readPool_25 ?_
  refine V_lconst0 a_X11_readPool_26 ?_
  refine V_ldc2 a_X11_readPool_27 q_X11_149 ?_
  refine V_iconst a_X11_readPool_30 ?_
  refine V_v3R a_X11_readPool_31 c_X11_145 (R_number1 (by omega)) ?_
  refine V_i2l a_X11_readPool_34 (by omega) ?_
  refine V_last a_X11_readPool_35 rfl (by omega) ?_
  rw [pzJs]
  exact V_ret a_X11_readPool_36 (⟨rfl, _, _, _, by omega, rfl⟩)
theorem F_readPool1 (h : Tx σ T e) (hB : FrI B) (hp : 0 ≤ p ∧ p ≤ e) (c0 : nC T e (tE T e p) 0 (30) 2 = 0) (c1 : nC T e (tE T e (tE T e p)) 0 (100) 2 ≠ 0) : Cv m_X11_readPool 4 0 0 [vR (some (11, 0))] ((σ.rJ 53 0 B).pz (tF T e p) (tE T e p) 0 a) none (FS σ e (nC T e (tE T e (tE T e p)) 0 (100) 2) (tF T e (tE T e (tE T e p)))) := by
  obtain ⟨p00, p01, p02, -⟩ := tE_bd (T := T) hp.2
  have q0 : 0 ≤ tE T e p ∧ tE T e p ≤ e := by omega
  have hn := hB.1.n
  obtain ⟨s00, s01, s02, -⟩ := tE_bd (T := T) (e := e) (p := tE T e p) (by omega)
  have w0 := nW_bd (T := T) (e := e) (p := tE T e p) (by omega)
  obtain ⟨s10, s11, s12, -⟩ := tE_bd (T := T) (e := e) (p := tE T e (tE T e p)) (by omega)
  have w1 := nW_bd (T := T) (e := e) (p := tE T e (tE T e p)) (by omega)
  have hW := h.1
  have hd := nC_bd (T := T) (e := e) (p := tE T e (tE T e p)) (lo := 0) (hi := 100) (c := 2) (by omega)
  show V _ 4 0 0 0 [some (vR (some (11, 0)))] [] ((σ.rJ 53 0 B).pz (tF T e p) (tE T e p) 0 a) _
  refine V_aldn0 a_X11_readPool_0 ?_
  refine V_v0V a_X11_readPool_1 c_X11_136 (R_pass0 h.rJ q0) ?_
  refine V_aldn0 a_X11_readPool_4 ?_
  refine V_fin a_X11_readPool_5 f_X11_19 rfl hW ?_
  refine V_iconst a_X11_readPool_8 ?_
  refine V_aldn0 a_X11_readPool_9 ?_
  refine V_lconst0 a_X11_readPool_10 ?_
  refine V_ldc2 a_X11_readPool_11 q_X11_153 ?_
  refine V_iconst a_X11_readPool_14 ?_
  refine V_v3R a_X11_readPool_15 c_X11_145 (R_num0 (h.rJ) (by omega) (by omega) (by omega) (by omega) c0) ?_
  refine V_i2l a_X11_readPool_18 (by omega) ?_
  refine V_last a_X11_readPool_19 rfl (by omega) ?_
  rw [pzJs]
  refine V_aldn0 a_X11_readPool_20 ?_
  refine V_fin a_X11_readPool_21 f_X11_19 rfl hW ?_
  refine V_iconst a_X11_readPool_24 ?_
  refine V_aldn0 a_X11_readPool_25 ?_
  refine V_lconst0 a_X11_readPool_26 ?_
  refine V_ldc2 a_X11_readPool_27 q_X11_149 ?_
  refine V_iconst a_X11_readPool_30 ?_
  refine V_v3R a_X11_readPool_31 c_X11_145 (R_num1 (h.rJ) (by omega) (by omega) (by omega) (by omega) c1) ?_
  refine V_i2l a_X11_readPool_34 (by omega) ?_
  refine V_last a_X11_readPool_35 rfl (by omega) ?_
  rw [pzJs]
  exact V_ret a_X11_readPool_36 (⟨rfl, _, _, _, by omega, rfl⟩)
theorem K_readPool (h : Tx σ T e) (hB : FrI B) (hp : 0 ≤ p ∧ p ≤ e) (c0 : nC T e (tE T e p) 0 (30) 2 = 0) (c1 : nC T e (tE T e (tE T e p)) 0 (100) 2 = 0) : Rt m_X11_readPool 4 0 0 [vR (some (11, 0))] ((σ.rJ 53 0 B).pz (tF T e p) (tE T e p) 0 a) none ((σ.rJ 53 0 (adB T e B 0 (tE T e p))).pz (tF T e (tE T e (tE T e (tE T e p)))) (tE T e (tE T e (tE T e (tE T e p)))) 0 a) := by
  obtain ⟨p00, p01, p02, -⟩ := tE_bd (T := T) hp.2
  have q0 : 0 ≤ tE T e p ∧ tE T e p ≤ e := by omega
  have hn := hB.1.n
  obtain ⟨s00, s01, s02, -⟩ := tE_bd (T := T) (e := e) (p := tE T e p) (by omega)
  have w0 := nW_bd (T := T) (e := e) (p := tE T e p) (by omega)
  obtain ⟨s10, s11, s12, -⟩ := tE_bd (T := T) (e := e) (p := tE T e (tE T e p)) (by omega)
  have w1 := nW_bd (T := T) (e := e) (p := tE T e (tE T e p)) (by omega)
  have hW := h.1
  show V _ 4 0 0 0 [some (vR (some (11, 0)))] [] ((σ.rJ 53 0 B).pz (tF T e p) (tE T e p) 0 a) _
  refine V_aldn0 a_X11_readPool_0 ?_
  refine V_v0V a_X11_readPool_1 c_X11_136 (R_pass0 h.rJ q0) ?_
  refine V_aldn0 a_X11_readPool_4 ?_
  refine V_fin a_X11_readPool_5 f_X11_19 rfl hW ?_
  refine V_iconst a_X11_readPool_8 ?_
  refine V_aldn0 a_X11_readPool_9 ?_
  refine V_lconst0 a_X11_readPool_10 ?_
  refine V_ldc2 a_X11_readPool_11 q_X11_153 ?_
  refine V_iconst a_X11_readPool_14 ?_
  refine V_v3R a_X11_readPool_15 c_X11_145 (R_num0 (h.rJ) (by omega) (by omega) (by omega) (by omega) c0) ?_
  refine V_i2l a_X11_readPool_18 (by omega) ?_
  refine V_last a_X11_readPool_19 rfl (by omega) ?_
  rw [pzJs]
  refine V_aldn0 a_X11_readPool_20 ?_
  refine V_fin a_X11_readPool_21 f_X11_19 rfl hW ?_
  refine V_iconst a_X11_readPool_24 ?_
  refine V_aldn0 a_X11_readPool_25 ?_
  refine V_lconst0 a_X11_readPool_26 ?_
  refine V_ldc2 a_X11_readPool_27 q_X11_149 ?_
  refine V_iconst a_X11_readPool_30 ?_
  refine V_v3R a_X11_readPool_31 c_X11_145 (R_num0 (h.rJ) (by omega) (by omega) (by omega) (by omega) c1) ?_
  refine V_i2l a_X11_readPool_34 (by omega) ?_
  refine V_last a_X11_readPool_35 rfl (by omega) ?_
  rw [pzJs]
  exact V_ret a_X11_readPool_36 (⟨rfl, by rw [adB_0]⟩)
theorem F_readSecurity5 (h : Tx σ T e) (hB : FrI B) (hp : 0 ≤ p ∧ p ≤ e) (hf : B 0 = 4) : Cv m_X11_readSecurity 4 0 0 [vR (some (11, 0))] ((σ.rJ 53 0 B).pz (tF T e p) (tE T e p) 0 a) none (FS σ e 5 (tF T e p)) := by
  have hn := hB.1.n
  obtain ⟨p00, p01, p02, -⟩ := tE_bd (T := T) hp.2
  have hW := h.1
  show V _ 4 0 0 0 [some (vR (some (11, 0))), none, none, none] [] ((σ.rJ 53 0 B).pz (tF T e p) (tE T e p) 0 a) _
  refine V_aldn0 a_X11_readSecurity_0 ?_
  refine V_iconst a_X11_readSecurity_1 ?_
  refine V_iconst a_X11_readSecurity_2 ?_
  refine V_v2V a_X11_readSecurity_3 c_X11_139 (R_newOne1 h.1 hf (by omega) (by omega)) ?_
  refine V_aldn0 a_X11_readSecurity_6 ?_
  refine V_fin a_X11_readSecurity_7 f_X11_19 rfl hW ?_
  refine V_iconst a_X11_readSecurity_10 ?_
  refine V_fr a_X11_readSecurity_11 (by omega) pzJ ?_
  refine V_l2i a_X11_readSecurity_12 ?_
  refine V_istn1 a_X11_readSecurity_13 ?_
  refine V_aldn0 a_X11_readSecurity_14 ?_
  refine V_lconst1 a_X11_readSecurity_15 ?_
  refine V_ldc2 a_X11_readSecurity_16 q_X11_143 ?_
  refine V_iconst a_X11_readSecurity_19 ?_
  refine V_v3R a_X11_readSecurity_20 c_X11_145 (R_number1 (by omega)) ?_
  refine V_istn2 a_X11_readSecurity_23 ?_
  refine V_aldn0 a_X11_readSecurity_24 ?_
  refine V_lconst0 a_X11_readSecurity_25 ?_
  refine V_ldc2 a_X11_readSecurity_26 q_X11_143 ?_
  refine V_iconst a_X11_readSecurity_29 ?_
  refine V_v3R a_X11_readSecurity_30 c_X11_145 (R_number1 (by omega)) ?_
  refine V_istn3 a_X11_readSecurity_33 ?_
  refine V_aldn0 a_X11_readSecurity_34 ?_
  refine V_getIE a_X11_readSecurity_35 f_X11_118 rfl pz_12 ?_
  refine V_if_le_f a_X11_readSecurity_38 (by omega) (by omega) ?_
  exact V_ret a_X11_readSecurity_41 (⟨rfl, _, _, _, by omega, rfl⟩)
theorem F_readSecurity0 (h : Tx σ T e) (hB : FrI B) (hp : 0 ≤ p ∧ p ≤ e) (hf : ¬ B 0 = 4)  (c0 : nC T e (tE T e p) 1 (9999) 2 ≠ 0) : Cv m_X11_readSecurity 4 0 0 [vR (some (11, 0))] ((σ.rJ 53 0 B).pz (tF T e p) (tE T e p) 0 a) none (FS σ e (nC T e (tE T e p) 1 (9999) 2) (tF T e (tE T e p))) := by
  obtain ⟨p00, p01, p02, -⟩ := tE_bd (T := T) hp.2
  have q0 : 0 ≤ tE T e p ∧ tE T e p ≤ e := by omega
  have hn := hB.1.n
  obtain ⟨s00, s01, s02, -⟩ := tE_bd (T := T) (e := e) (p := tE T e p) (by omega)
  have w0 := nW_bd (T := T) (e := e) (p := tE T e p) (by omega)
  have hW := h.1
  have hd := nC_bd (T := T) (e := e) (p := tE T e p) (lo := 1) (hi := 9999) (c := 2) (by omega)
  show V _ 4 0 0 0 [some (vR (some (11, 0))), none, none, none] [] ((σ.rJ 53 0 B).pz (tF T e p) (tE T e p) 0 a) _
  refine V_aldn0 a_X11_readSecurity_0 ?_
  refine V_iconst a_X11_readSecurity_1 ?_
  refine V_iconst a_X11_readSecurity_2 ?_
  refine V_v2V a_X11_readSecurity_3 c_X11_139 (R_newOne0 h.rJ (by omega) (by omega) (by omega) q0) ?_
  refine V_aldn0 a_X11_readSecurity_6 ?_
  refine V_fin a_X11_readSecurity_7 f_X11_19 rfl hW ?_
  refine V_iconst a_X11_readSecurity_10 ?_
  refine V_fr a_X11_readSecurity_11 (by omega) pzJ ?_
  refine V_l2i a_X11_readSecurity_12 ?_
  refine V_istn1 a_X11_readSecurity_13 ?_
  refine V_aldn0 a_X11_readSecurity_14 ?_
  refine V_lconst1 a_X11_readSecurity_15 ?_
  refine V_ldc2 a_X11_readSecurity_16 q_X11_143 ?_
  refine V_iconst a_X11_readSecurity_19 ?_
  refine V_v3R a_X11_readSecurity_20 c_X11_145 (R_num1 (h.rJ) (by omega) (by omega) (by omega) (by omega) c0) ?_
  refine V_istn2 a_X11_readSecurity_23 ?_
  refine V_aldn0 a_X11_readSecurity_24 ?_
  refine V_lconst0 a_X11_readSecurity_25 ?_
  refine V_ldc2 a_X11_readSecurity_26 q_X11_143 ?_
  refine V_iconst a_X11_readSecurity_29 ?_
  refine V_v3R a_X11_readSecurity_30 c_X11_145 (R_number1 (by omega)) ?_
  refine V_istn3 a_X11_readSecurity_33 ?_
  refine V_aldn0 a_X11_readSecurity_34 ?_
  refine V_getIE a_X11_readSecurity_35 f_X11_118 rfl pz_12 ?_
  refine V_if_le_f a_X11_readSecurity_38 (by omega) (by omega) ?_
  exact V_ret a_X11_readSecurity_41 (⟨rfl, _, _, _, by omega, rfl⟩)
theorem F_readSecurity1 (h : Tx σ T e) (hB : FrI B) (hp : 0 ≤ p ∧ p ≤ e) (hf : ¬ B 0 = 4) (c0 : nC T e (tE T e p) 1 (9999) 2 = 0) (c1 : nC T e (tE T e (tE T e p)) 0 (9999) 2 ≠ 0) : Cv m_X11_readSecurity 4 0 0 [vR (some (11, 0))] ((σ.rJ 53 0 B).pz (tF T e p) (tE T e p) 0 a) none (FS σ e (nC T e (tE T e (tE T e p)) 0 (9999) 2) (tF T e (tE T e (tE T e p)))) := by
  obtain ⟨p00, p01, p02, -⟩ := tE_bd (T := T) hp.2
  have q0 : 0 ≤ tE T e p ∧ tE T e p ≤ e := by omega
  have hn := hB.1.n
  obtain ⟨s00, s01, s02, -⟩ := tE_bd (T := T) (e := e) (p := tE T e p) (by omega)
  have w0 := nW_bd (T := T) (e := e) (p := tE T e p) (by omega)
  obtain ⟨s10, s11, s12, -⟩ := tE_bd (T := T) (e := e) (p := tE T e (tE T e p)) (by omega)
  have w1 := nW_bd (T := T) (e := e) (p := tE T e (tE T e p)) (by omega)
  have hW := h.1
  have hd := nC_bd (T := T) (e := e) (p := tE T e (tE T e p)) (lo := 0) (hi := 9999) (c := 2) (by omega)
  show V _ 4 0 0 0 [some (vR (some (11, 0))), none, none, none] [] ((σ.rJ 53 0 B).pz (tF T e p) (tE T e p) 0 a) _
  refine V_aldn0 a_X11_readSecurity_0 ?_
  refine V_iconst a_X11_readSecurity_1 ?_
  refine V_iconst a_X11_readSecurity_2 ?_
  refine V_v2V a_X11_readSecurity_3 c_X11_139 (R_newOne0 h.rJ (by omega) (by omega) (by omega) q0) ?_
  refine V_aldn0 a_X11_readSecurity_6 ?_
  refine V_fin a_X11_readSecurity_7 f_X11_19 rfl hW ?_
  refine V_iconst a_X11_readSecurity_10 ?_
  refine V_fr a_X11_readSecurity_11 (by omega) pzJ ?_
  refine V_l2i a_X11_readSecurity_12 ?_
  refine V_istn1 a_X11_readSecurity_13 ?_
  refine V_aldn0 a_X11_readSecurity_14 ?_
  refine V_lconst1 a_X11_readSecurity_15 ?_
  refine V_ldc2 a_X11_readSecurity_16 q_X11_143 ?_
  refine V_iconst a_X11_readSecurity_19 ?_
  refine V_v3R a_X11_readSecurity_20 c_X11_145 (R_num0 (h.rJ) (by omega) (by omega) (by omega) (by omega) c0) ?_
  refine V_istn2 a_X11_readSecurity_23 ?_
  refine V_aldn0 a_X11_readSecurity_24 ?_
  refine V_lconst0 a_X11_readSecurity_25 ?_
  refine V_ldc2 a_X11_readSecurity_26 q_X11_143 ?_
  refine V_iconst a_X11_readSecurity_29 ?_
  refine V_v3R a_X11_readSecurity_30 c_X11_145 (R_num1 (h.rJ) (by omega) (by omega) (by omega) (by omega) c1) ?_
  refine V_istn3 a_X11_readSecurity_33 ?_
  refine V_aldn0 a_X11_readSecurity_34 ?_
  refine V_getIE a_X11_readSecurity_35 f_X11_118 rfl pz_12 ?_
  refine V_if_le_f a_X11_readSecurity_38 (by omega) (by omega) ?_
  exact V_ret a_X11_readSecurity_41 (⟨rfl, _, _, _, by omega, rfl⟩)
theorem K_readSecurity (h : Tx σ T e) (hB : FrI B) (hp : 0 ≤ p ∧ p ≤ e) (hf : ¬ B 0 = 4) (c0 : nC T e (tE T e p) 1 (9999) 2 = 0) (c1 : nC T e (tE T e (tE T e p)) 0 (9999) 2 = 0) : Rt m_X11_readSecurity 4 0 0 [vR (some (11, 0))] ((σ.rJ 53 0 B).pz (tF T e p) (tE T e p) 0 a) none ((σ.rJ 53 0 (adB T e B 1 (tE T e p))).pz (tF T e (tE T e (tE T e (tE T e p)))) (tE T e (tE T e (tE T e (tE T e p)))) 0 a) := by
  obtain ⟨p00, p01, p02, -⟩ := tE_bd (T := T) hp.2
  have q0 : 0 ≤ tE T e p ∧ tE T e p ≤ e := by omega
  have hn := hB.1.n
  obtain ⟨s00, s01, s02, -⟩ := tE_bd (T := T) (e := e) (p := tE T e p) (by omega)
  have w0 := nW_bd (T := T) (e := e) (p := tE T e p) (by omega)
  obtain ⟨s10, s11, s12, -⟩ := tE_bd (T := T) (e := e) (p := tE T e (tE T e p)) (by omega)
  have w1 := nW_bd (T := T) (e := e) (p := tE T e (tE T e p)) (by omega)
  have hW := h.1
  show V _ 4 0 0 0 [some (vR (some (11, 0))), none, none, none] [] ((σ.rJ 53 0 B).pz (tF T e p) (tE T e p) 0 a) _
  refine V_aldn0 a_X11_readSecurity_0 ?_
  refine V_iconst a_X11_readSecurity_1 ?_
  refine V_iconst a_X11_readSecurity_2 ?_
  refine V_v2V a_X11_readSecurity_3 c_X11_139 (R_newOne0 h.rJ (by omega) (by omega) (by omega) q0) ?_
  refine V_aldn0 a_X11_readSecurity_6 ?_
  refine V_fin a_X11_readSecurity_7 f_X11_19 rfl hW ?_
  refine V_iconst a_X11_readSecurity_10 ?_
  refine V_fr a_X11_readSecurity_11 (by omega) pzJ ?_
  refine V_l2i a_X11_readSecurity_12 ?_
  refine V_istn1 a_X11_readSecurity_13 ?_
  refine V_aldn0 a_X11_readSecurity_14 ?_
  refine V_lconst1 a_X11_readSecurity_15 ?_
  refine V_ldc2 a_X11_readSecurity_16 q_X11_143 ?_
  refine V_iconst a_X11_readSecurity_19 ?_
  refine V_v3R a_X11_readSecurity_20 c_X11_145 (R_num0 (h.rJ) (by omega) (by omega) (by omega) (by omega) c0) ?_
  refine V_istn2 a_X11_readSecurity_23 ?_
  refine V_aldn0 a_X11_readSecurity_24 ?_
  refine V_lconst0 a_X11_readSecurity_25 ?_
  refine V_ldc2 a_X11_readSecurity_26 q_X11_143 ?_
  refine V_iconst a_X11_readSecurity_29 ?_
  refine V_v3R a_X11_readSecurity_30 c_X11_145 (R_num0 (h.rJ) (by omega) (by omega) (by omega) (by omega) c1) ?_
  refine V_istn3 a_X11_readSecurity_33 ?_
  refine V_aldn0 a_X11_readSecurity_34 ?_
  refine V_getIE a_X11_readSecurity_35 f_X11_118 rfl pz_12 ?_
  refine V_if_le_t a_X11_readSecurity_38 (by omega) (by omega) ?_
  refine V_aldn0 a_X11_readSecurity_42 ?_
  refine V_fin a_X11_readSecurity_43 f_X11_19 rfl hW ?_
  refine V_bipush a_X11_readSecurity_46 (by decide) ?_
  refine V_ildn1 a_X11_readSecurity_48 ?_
  refine V_iadd a_X11_readSecurity_49 ?_
  refine V_ildn2 a_X11_readSecurity_50 ?_
  refine V_i2l a_X11_readSecurity_51 (by omega) ?_
  refine V_last a_X11_readSecurity_52 rfl (by omega) ?_
  rw [pzJs]
  refine V_aldn0 a_X11_readSecurity_53 ?_
  refine V_fin a_X11_readSecurity_54 f_X11_19 rfl hW ?_
  refine V_bipush a_X11_readSecurity_57 (by decide) ?_
  refine V_ildn1 a_X11_readSecurity_59 ?_
  refine V_iadd a_X11_readSecurity_60 ?_
  refine V_ildn3 a_X11_readSecurity_61 ?_
  refine V_i2l a_X11_readSecurity_62 (by omega) ?_
  refine V_last a_X11_readSecurity_63 rfl (by omega) ?_
  rw [pzJs]
  refine V_aldn0 a_X11_readSecurity_64 ?_
  refine V_fin a_X11_readSecurity_65 f_X11_19 rfl hW ?_
  refine V_iconst a_X11_readSecurity_68 ?_
  first | refine V_dup2IR a_X11_readSecurity_69 ?_ | refine V_dup2L a_X11_readSecurity_69 ?_
  refine V_fr a_X11_readSecurity_70 (by omega) pzJ ?_
  refine V_lconst1 a_X11_readSecurity_71 ?_
  refine V_ladd a_X11_readSecurity_72 ?_
  refine V_last a_X11_readSecurity_73 rfl (by omega) ?_
  rw [pzJs]
  exact V_ret a_X11_readSecurity_74 (⟨rfl, by rw [adB_1, upI_ne (k := 19 + B 0) (by omega), upI_ne (k := 15 + B 0) (by omega)]⟩)
theorem F_readLender5 (h : Tx σ T e) (hB : FrI B) (hp : 0 ≤ p ∧ p ≤ e) (hf : B 1 = 6) : Cv m_X11_readLender 4 0 0 [vR (some (11, 0))] ((σ.rJ 53 0 B).pz (tF T e p) (tE T e p) 0 a) none (FS σ e 5 (tF T e p)) := by
  have hn := hB.1.n
  obtain ⟨p00, p01, p02, -⟩ := tE_bd (T := T) hp.2
  have hW := h.1
  show V _ 4 0 0 0 [some (vR (some (11, 0))), none, none, none, none] [] ((σ.rJ 53 0 B).pz (tF T e p) (tE T e p) 0 a) _
  refine V_aldn0 a_X11_readLender_0 ?_
  refine V_iconst a_X11_readLender_1 ?_
  refine V_bipush a_X11_readLender_2 (by decide) ?_
  refine V_v2V a_X11_readLender_4 c_X11_139 (R_newOne1 h.1 hf (by omega) (by omega)) ?_
  refine V_aldn0 a_X11_readLender_7 ?_
  refine V_fin a_X11_readLender_8 f_X11_19 rfl hW ?_
  refine V_iconst a_X11_readLender_11 ?_
  refine V_fr a_X11_readLender_12 (by omega) pzJ ?_
  refine V_l2i a_X11_readLender_13 ?_
  refine V_istn1 a_X11_readLender_14 ?_
  refine V_aldn0 a_X11_readLender_15 ?_
  refine V_lconst0 a_X11_readLender_16 ?_
  refine V_ldc2 a_X11_readLender_17 q_X11_149 ?_
  refine V_iconst a_X11_readLender_20 ?_
  refine V_v3R a_X11_readLender_21 c_X11_145 (R_number1 (by omega)) ?_
  refine V_istn2 a_X11_readLender_24 ?_
  refine V_aldn0 a_X11_readLender_25 ?_
  refine V_lconst0 a_X11_readLender_26 ?_
  refine V_ldc2 a_X11_readLender_27 q_X11_149 ?_
  refine V_iconst a_X11_readLender_30 ?_
  refine V_v3R a_X11_readLender_31 c_X11_145 (R_number1 (by omega)) ?_
  refine V_istn3 a_X11_readLender_34 ?_
  refine V_aldn0 a_X11_readLender_35 ?_
  refine V_lconst0 a_X11_readLender_36 ?_
  refine V_ldc2 a_X11_readLender_37 q_X11_149 ?_
  refine V_iconst a_X11_readLender_40 ?_
  refine V_v3R a_X11_readLender_41 c_X11_145 (R_number1 (by omega)) ?_
  refine V_ist4 a_X11_readLender_44 ?_
  refine V_aldn0 a_X11_readLender_46 ?_
  refine V_getIE a_X11_readLender_47 f_X11_118 rfl pz_12 ?_
  refine V_if_le_f a_X11_readLender_50 (by omega) (by omega) ?_
  exact V_ret a_X11_readLender_53 (⟨rfl, _, _, _, by omega, rfl⟩)
theorem F_readLender0 (h : Tx σ T e) (hB : FrI B) (hp : 0 ≤ p ∧ p ≤ e) (hf : ¬ B 1 = 6)  (c0 : nC T e (tE T e p) 0 (100) 2 ≠ 0) : Cv m_X11_readLender 4 0 0 [vR (some (11, 0))] ((σ.rJ 53 0 B).pz (tF T e p) (tE T e p) 0 a) none (FS σ e (nC T e (tE T e p) 0 (100) 2) (tF T e (tE T e p))) := by
  obtain ⟨p00, p01, p02, -⟩ := tE_bd (T := T) hp.2
  have q0 : 0 ≤ tE T e p ∧ tE T e p ≤ e := by omega
  have hn := hB.1.n
  obtain ⟨s00, s01, s02, -⟩ := tE_bd (T := T) (e := e) (p := tE T e p) (by omega)
  have w0 := nW_bd (T := T) (e := e) (p := tE T e p) (by omega)
  have hW := h.1
  have hd := nC_bd (T := T) (e := e) (p := tE T e p) (lo := 0) (hi := 100) (c := 2) (by omega)
  show V _ 4 0 0 0 [some (vR (some (11, 0))), none, none, none, none] [] ((σ.rJ 53 0 B).pz (tF T e p) (tE T e p) 0 a) _
  refine V_aldn0 a_X11_readLender_0 ?_
  refine V_iconst a_X11_readLender_1 ?_
  refine V_bipush a_X11_readLender_2 (by decide) ?_
  refine V_v2V a_X11_readLender_4 c_X11_139 (R_newOne0 h.rJ (by omega) (by omega) (by omega) q0) ?_
  refine V_aldn0 a_X11_readLender_7 ?_
  refine V_fin a_X11_readLender_8 f_X11_19 rfl hW ?_
  refine V_iconst a_X11_readLender_11 ?_
  refine V_fr a_X11_readLender_12 (by omega) pzJ ?_
  refine V_l2i a_X11_readLender_13 ?_
  refine V_istn1 a_X11_readLender_14 ?_
  refine V_aldn0 a_X11_readLender_15 ?_
  refine V_lconst0 a_X11_readLender_16 ?_
  refine V_ldc2 a_X11_readLender_17 q_X11_149 ?_
  refine V_iconst a_X11_readLender_20 ?_
  refine V_v3R a_X11_readLender_21 c_X11_145 (R_num1 (h.rJ) (by omega) (by omega) (by omega) (by omega) c0) ?_
  refine V_istn2 a_X11_readLender_24 ?_
  refine V_aldn0 a_X11_readLender_25 ?_
  refine V_lconst0 a_X11_readLender_26 ?_
  refine V_ldc2 a_X11_readLender_27 q_X11_149 ?_
  refine V_iconst a_X11_readLender_30 ?_
  refine V_v3R a_X11_readLender_31 c_X11_145 (R_number1 (by omega)) ?_
  refine V_istn3 a_X11_readLender_34 ?_
  refine V_aldn0 a_X11_readLender_35 ?_
  refine V_lconst0 a_X11_readLender_36 ?_
  refine V_ldc2 a_X11_readLender_37 q_X11_149 ?_
  refine V_iconst a_X11_readLender_40 ?_
  refine V_v3R a_X11_readLender_41 c_X11_145 (R_number1 (by omega)) ?_
  refine V_ist4 a_X11_readLender_44 ?_
  refine V_aldn0 a_X11_readLender_46 ?_
  refine V_getIE a_X11_readLender_47 f_X11_118 rfl pz_12 ?_
  refine V_if_le_f a_X11_readLender_50 (by omega) (by omega) ?_
  exact V_ret a_X11_readLender_53 (⟨rfl, _, _, _, by omega, rfl⟩)
theorem F_readLender1 (h : Tx σ T e) (hB : FrI B) (hp : 0 ≤ p ∧ p ≤ e) (hf : ¬ B 1 = 6) (c0 : nC T e (tE T e p) 0 (100) 2 = 0) (c1 : nC T e (tE T e (tE T e p)) 0 (100) 2 ≠ 0) : Cv m_X11_readLender 4 0 0 [vR (some (11, 0))] ((σ.rJ 53 0 B).pz (tF T e p) (tE T e p) 0 a) none (FS σ e (nC T e (tE T e (tE T e p)) 0 (100) 2) (tF T e (tE T e (tE T e p)))) := by
  obtain ⟨p00, p01, p02, -⟩ := tE_bd (T := T) hp.2
  have q0 : 0 ≤ tE T e p ∧ tE T e p ≤ e := by omega
  have hn := hB.1.n
  obtain ⟨s00, s01, s02, -⟩ := tE_bd (T := T) (e := e) (p := tE T e p) (by omega)
  have w0 := nW_bd (T := T) (e := e) (p := tE T e p) (by omega)
  obtain ⟨s10, s11, s12, -⟩ := tE_bd (T := T) (e := e) (p := tE T e (tE T e p)) (by omega)
  have w1 := nW_bd (T := T) (e := e) (p := tE T e (tE T e p)) (by omega)
  have hW := h.1
  have hd := nC_bd (T := T) (e := e) (p := tE T e (tE T e p)) (lo := 0) (hi := 100) (c := 2) (by omega)
  show V _ 4 0 0 0 [some (vR (some (11, 0))), none, none, none, none] [] ((σ.rJ 53 0 B).pz (tF T e p) (tE T e p) 0 a) _
  refine V_aldn0 a_X11_readLender_0 ?_
  refine V_iconst a_X11_readLender_1 ?_
  refine V_bipush a_X11_readLender_2 (by decide) ?_
  refine V_v2V a_X11_readLender_4 c_X11_139 (R_newOne0 h.rJ (by omega) (by omega) (by omega) q0) ?_
  refine V_aldn0 a_X11_readLender_7 ?_
  refine V_fin a_X11_readLender_8 f_X11_19 rfl hW ?_
  refine V_iconst a_X11_readLender_11 ?_
  refine V_fr a_X11_readLender_12 (by omega) pzJ ?_
  refine V_l2i a_X11_readLender_13 ?_
  refine V_istn1 a_X11_readLender_14 ?_
  refine V_aldn0 a_X11_readLender_15 ?_
  refine V_lconst0 a_X11_readLender_16 ?_
  refine V_ldc2 a_X11_readLender_17 q_X11_149 ?_
  refine V_iconst a_X11_readLender_20 ?_
  refine V_v3R a_X11_readLender_21 c_X11_145 (R_num0 (h.rJ) (by omega) (by omega) (by omega) (by omega) c0) ?_
  refine V_istn2 a_X11_readLender_24 ?_
  refine V_aldn0 a_X11_readLender_25 ?_
  refine V_lconst0 a_X11_readLender_26 ?_
  refine V_ldc2 a_X11_readLender_27 q_X11_149 ?_
  refine V_iconst a_X11_readLender_30 ?_
  refine V_v3R a_X11_readLender_31 c_X11_145 (R_num1 (h.rJ) (by omega) (by omega) (by omega) (by omega) c1) ?_
  refine V_istn3 a_X11_readLender_34 ?_
  refine V_aldn0 a_X11_readLender_35 ?_
  refine V_lconst0 a_X11_readLender_36 ?_
  refine V_ldc2 a_X11_readLender_37 q_X11_149 ?_
  refine V_iconst a_X11_readLender_40 ?_
  refine V_v3R a_X11_readLender_41 c_X11_145 (R_number1 (by omega)) ?_
  refine V_ist4 a_X11_readLender_44 ?_
  refine V_aldn0 a_X11_readLender_46 ?_
  refine V_getIE a_X11_readLender_47 f_X11_118 rfl pz_12 ?_
  refine V_if_le_f a_X11_readLender_50 (by omega) (by omega) ?_
  exact V_ret a_X11_readLender_53 (⟨rfl, _, _, _, by omega, rfl⟩)
theorem F_readLender2 (h : Tx σ T e) (hB : FrI B) (hp : 0 ≤ p ∧ p ≤ e) (hf : ¬ B 1 = 6) (c0 : nC T e (tE T e p) 0 (100) 2 = 0) (c1 : nC T e (tE T e (tE T e p)) 0 (100) 2 = 0) (c2 : nC T e (tE T e (tE T e (tE T e p))) 0 (100) 2 ≠ 0) : Cv m_X11_readLender 4 0 0 [vR (some (11, 0))] ((σ.rJ 53 0 B).pz (tF T e p) (tE T e p) 0 a) none (FS σ e (nC T e (tE T e (tE T e (tE T e p))) 0 (100) 2) (tF T e (tE T e (tE T e (tE T e p))))) := by
  obtain ⟨p00, p01, p02, -⟩ := tE_bd (T := T) hp.2
  have q0 : 0 ≤ tE T e p ∧ tE T e p ≤ e := by omega
  have hn := hB.1.n
  obtain ⟨s00, s01, s02, -⟩ := tE_bd (T := T) (e := e) (p := tE T e p) (by omega)
  have w0 := nW_bd (T := T) (e := e) (p := tE T e p) (by omega)
  obtain ⟨s10, s11, s12, -⟩ := tE_bd (T := T) (e := e) (p := tE T e (tE T e p)) (by omega)
  have w1 := nW_bd (T := T) (e := e) (p := tE T e (tE T e p)) (by omega)
  obtain ⟨s20, s21, s22, -⟩ := tE_bd (T := T) (e := e) (p := tE T e (tE T e (tE T e p))) (by omega)
  have w2 := nW_bd (T := T) (e := e) (p := tE T e (tE T e (tE T e p))) (by omega)
  have hW := h.1
  have hd := nC_bd (T := T) (e := e) (p := tE T e (tE T e (tE T e p))) (lo := 0) (hi := 100) (c := 2) (by omega)
  show V _ 4 0 0 0 [some (vR (some (11, 0))), none, none, none, none] [] ((σ.rJ 53 0 B).pz (tF T e p) (tE T e p) 0 a) _
  refine V_aldn0 a_X11_readLender_0 ?_
  refine V_iconst a_X11_readLender_1 ?_
  refine V_bipush a_X11_readLender_2 (by decide) ?_
  refine V_v2V a_X11_readLender_4 c_X11_139 (R_newOne0 h.rJ (by omega) (by omega) (by omega) q0) ?_
  refine V_aldn0 a_X11_readLender_7 ?_
  refine V_fin a_X11_readLender_8 f_X11_19 rfl hW ?_
  refine V_iconst a_X11_readLender_11 ?_
  refine V_fr a_X11_readLender_12 (by omega) pzJ ?_
  refine V_l2i a_X11_readLender_13 ?_
  refine V_istn1 a_X11_readLender_14 ?_
  refine V_aldn0 a_X11_readLender_15 ?_
  refine V_lconst0 a_X11_readLender_16 ?_
  refine V_ldc2 a_X11_readLender_17 q_X11_149 ?_
  refine V_iconst a_X11_readLender_20 ?_
  refine V_v3R a_X11_readLender_21 c_X11_145 (R_num0 (h.rJ) (by omega) (by omega) (by omega) (by omega) c0) ?_
  refine V_istn2 a_X11_readLender_24 ?_
  refine V_aldn0 a_X11_readLender_25 ?_
  refine V_lconst0 a_X11_readLender_26 ?_
  refine V_ldc2 a_X11_readLender_27 q_X11_149 ?_
  refine V_iconst a_X11_readLender_30 ?_
  refine V_v3R a_X11_readLender_31 c_X11_145 (R_num0 (h.rJ) (by omega) (by omega) (by omega) (by omega) c1) ?_
  refine V_istn3 a_X11_readLender_34 ?_
  refine V_aldn0 a_X11_readLender_35 ?_
  refine V_lconst0 a_X11_readLender_36 ?_
  refine V_ldc2 a_X11_readLender_37 q_X11_149 ?_
  refine V_iconst a_X11_readLender_40 ?_
  refine V_v3R a_X11_readLender_41 c_X11_145 (R_num1 (h.rJ) (by omega) (by omega) (by omega) (by omega) c2) ?_
  refine V_ist4 a_X11_readLender_44 ?_
  refine V_aldn0 a_X11_readLender_46 ?_
  refine V_getIE a_X11_readLender_47 f_X11_118 rfl pz_12 ?_
  refine V_if_le_f a_X11_readLender_50 (by omega) (by omega) ?_
  exact V_ret a_X11_readLender_53 (⟨rfl, _, _, _, by omega, rfl⟩)
theorem K_readLender (h : Tx σ T e) (hB : FrI B) (hp : 0 ≤ p ∧ p ≤ e) (hf : ¬ B 1 = 6) (c0 : nC T e (tE T e p) 0 (100) 2 = 0) (c1 : nC T e (tE T e (tE T e p)) 0 (100) 2 = 0) (c2 : nC T e (tE T e (tE T e (tE T e p))) 0 (100) 2 = 0) : Rt m_X11_readLender 4 0 0 [vR (some (11, 0))] ((σ.rJ 53 0 B).pz (tF T e p) (tE T e p) 0 a) none ((σ.rJ 53 0 (adB T e B 2 (tE T e p))).pz (tF T e (tE T e (tE T e (tE T e (tE T e p))))) (tE T e (tE T e (tE T e (tE T e (tE T e p))))) 0 a) := by
  obtain ⟨p00, p01, p02, -⟩ := tE_bd (T := T) hp.2
  have q0 : 0 ≤ tE T e p ∧ tE T e p ≤ e := by omega
  have hn := hB.1.n
  obtain ⟨s00, s01, s02, -⟩ := tE_bd (T := T) (e := e) (p := tE T e p) (by omega)
  have w0 := nW_bd (T := T) (e := e) (p := tE T e p) (by omega)
  obtain ⟨s10, s11, s12, -⟩ := tE_bd (T := T) (e := e) (p := tE T e (tE T e p)) (by omega)
  have w1 := nW_bd (T := T) (e := e) (p := tE T e (tE T e p)) (by omega)
  obtain ⟨s20, s21, s22, -⟩ := tE_bd (T := T) (e := e) (p := tE T e (tE T e (tE T e p))) (by omega)
  have w2 := nW_bd (T := T) (e := e) (p := tE T e (tE T e (tE T e p))) (by omega)
  have hW := h.1
  show V _ 4 0 0 0 [some (vR (some (11, 0))), none, none, none, none] [] ((σ.rJ 53 0 B).pz (tF T e p) (tE T e p) 0 a) _
  refine V_aldn0 a_X11_readLender_0 ?_
  refine V_iconst a_X11_readLender_1 ?_
  refine V_bipush a_X11_readLender_2 (by decide) ?_
  refine V_v2V a_X11_readLender_4 c_X11_139 (R_newOne0 h.rJ (by omega) (by omega) (by omega) q0) ?_
  refine V_aldn0 a_X11_readLender_7 ?_
  refine V_fin a_X11_readLender_8 f_X11_19 rfl hW ?_
  refine V_iconst a_X11_readLender_11 ?_
  refine V_fr a_X11_readLender_12 (by omega) pzJ ?_
  refine V_l2i a_X11_readLender_13 ?_
  refine V_istn1 a_X11_readLender_14 ?_
  refine V_aldn0 a_X11_readLender_15 ?_
  refine V_lconst0 a_X11_readLender_16 ?_
  refine V_ldc2 a_X11_readLender_17 q_X11_149 ?_
  refine V_iconst a_X11_readLender_20 ?_
  refine V_v3R a_X11_readLender_21 c_X11_145 (R_num0 (h.rJ) (by omega) (by omega) (by omega) (by omega) c0) ?_
  refine V_istn2 a_X11_readLender_24 ?_
  refine V_aldn0 a_X11_readLender_25 ?_
  refine V_lconst0 a_X11_readLender_26 ?_
  refine V_ldc2 a_X11_readLender_27 q_X11_149 ?_
  refine V_iconst a_X11_readLender_30 ?_
  refine V_v3R a_X11_readLender_31 c_X11_145 (R_num0 (h.rJ) (by omega) (by omega) (by omega) (by omega) c1) ?_
  refine V_istn3 a_X11_readLender_34 ?_
  refine V_aldn0 a_X11_readLender_35 ?_
  refine V_lconst0 a_X11_readLender_36 ?_
  refine V_ldc2 a_X11_readLender_37 q_X11_149 ?_
  refine V_iconst a_X11_readLender_40 ?_
  refine V_v3R a_X11_readLender_41 c_X11_145 (R_num0 (h.rJ) (by omega) (by omega) (by omega) (by omega) c2) ?_
  refine V_ist4 a_X11_readLender_44 ?_
  refine V_aldn0 a_X11_readLender_46 ?_
  refine V_getIE a_X11_readLender_47 f_X11_118 rfl pz_12 ?_
  refine V_if_le_t a_X11_readLender_50 (by omega) (by omega) ?_
  refine V_aldn0 a_X11_readLender_54 ?_
  refine V_fin a_X11_readLender_55 f_X11_19 rfl hW ?_
  refine V_bipush a_X11_readLender_58 (by decide) ?_
  refine V_ildn1 a_X11_readLender_60 ?_
  refine V_iadd a_X11_readLender_61 ?_
  refine V_ildn2 a_X11_readLender_62 ?_
  refine V_i2l a_X11_readLender_63 (by omega) ?_
  refine V_last a_X11_readLender_64 rfl (by omega) ?_
  rw [pzJs]
  refine V_aldn0 a_X11_readLender_65 ?_
  refine V_fin a_X11_readLender_66 f_X11_19 rfl hW ?_
  refine V_bipush a_X11_readLender_69 (by decide) ?_
  refine V_ildn1 a_X11_readLender_71 ?_
  refine V_iadd a_X11_readLender_72 ?_
  refine V_ildn3 a_X11_readLender_73 ?_
  refine V_i2l a_X11_readLender_74 (by omega) ?_
  refine V_last a_X11_readLender_75 rfl (by omega) ?_
  rw [pzJs]
  refine V_aldn0 a_X11_readLender_76 ?_
  refine V_fin a_X11_readLender_77 f_X11_19 rfl hW ?_
  refine V_bipush a_X11_readLender_80 (by decide) ?_
  refine V_ildn1 a_X11_readLender_82 ?_
  refine V_iadd a_X11_readLender_83 ?_
  refine V_ild4 a_X11_readLender_84 ?_
  refine V_i2l a_X11_readLender_86 (by omega) ?_
  refine V_last a_X11_readLender_87 rfl (by omega) ?_
  rw [pzJs]
  refine V_aldn0 a_X11_readLender_88 ?_
  refine V_fin a_X11_readLender_89 f_X11_19 rfl hW ?_
  refine V_iconst a_X11_readLender_92 ?_
  first | refine V_dup2IR a_X11_readLender_93 ?_ | refine V_dup2L a_X11_readLender_93 ?_
  refine V_fr a_X11_readLender_94 (by omega) pzJ ?_
  refine V_lconst1 a_X11_readLender_95 ?_
  refine V_ladd a_X11_readLender_96 ?_
  refine V_last a_X11_readLender_97 rfl (by omega) ?_
  rw [pzJs]
  exact V_ret a_X11_readLender_98 (⟨rfl, by rw [adB_2, upI_ne (k := 39 + B 1) (by omega), upI_ne (k := 33 + B 1) (by omega), upI_ne (k := 27 + B 1) (by omega)]⟩)
theorem F_readBorrower5 (h : Tx σ T e) (hB : FrI B) (hp : 0 ≤ p ∧ p ≤ e) (hf : B 2 = 4) : Cv m_X11_readBorrower 4 0 0 [vR (some (11, 0))] ((σ.rJ 53 0 B).pz (tF T e p) (tE T e p) 0 a) none (FS σ e 5 (tF T e p)) := by
  have hn := hB.1.n
  obtain ⟨p00, p01, p02, -⟩ := tE_bd (T := T) hp.2
  have hW := h.1
  show V _ 4 0 0 0 [some (vR (some (11, 0))), none] [] ((σ.rJ 53 0 B).pz (tF T e p) (tE T e p) 0 a) _
  refine V_aldn0 a_X11_readBorrower_0 ?_
  refine V_iconst a_X11_readBorrower_1 ?_
  refine V_iconst a_X11_readBorrower_2 ?_
  refine V_v2V a_X11_readBorrower_3 c_X11_139 (R_newOne1 h.1 hf (by omega) (by omega)) ?_
  refine V_aldn0 a_X11_readBorrower_6 ?_
  refine V_lconst0 a_X11_readBorrower_7 ?_
  refine V_ldc2 a_X11_readBorrower_8 q_X11_151 ?_
  refine V_iconst a_X11_readBorrower_11 ?_
  refine V_v3R a_X11_readBorrower_12 c_X11_145 (R_number1 (by omega)) ?_
  refine V_istn1 a_X11_readBorrower_15 ?_
  refine V_aldn0 a_X11_readBorrower_16 ?_
  refine V_getIE a_X11_readBorrower_17 f_X11_118 rfl pz_12 ?_
  refine V_if_le_f a_X11_readBorrower_20 (by omega) (by omega) ?_
  exact V_ret a_X11_readBorrower_23 (⟨rfl, _, _, _, by omega, rfl⟩)
theorem F_readBorrower0 (h : Tx σ T e) (hB : FrI B) (hp : 0 ≤ p ∧ p ≤ e) (hf : ¬ B 2 = 4)  (c0 : nC T e (tE T e p) 0 (9999999) 2 ≠ 0) : Cv m_X11_readBorrower 4 0 0 [vR (some (11, 0))] ((σ.rJ 53 0 B).pz (tF T e p) (tE T e p) 0 a) none (FS σ e (nC T e (tE T e p) 0 (9999999) 2) (tF T e (tE T e p))) := by
  obtain ⟨p00, p01, p02, -⟩ := tE_bd (T := T) hp.2
  have q0 : 0 ≤ tE T e p ∧ tE T e p ≤ e := by omega
  have hn := hB.1.n
  obtain ⟨s00, s01, s02, -⟩ := tE_bd (T := T) (e := e) (p := tE T e p) (by omega)
  have w0 := nW_bd (T := T) (e := e) (p := tE T e p) (by omega)
  have hW := h.1
  have hd := nC_bd (T := T) (e := e) (p := tE T e p) (lo := 0) (hi := 9999999) (c := 2) (by omega)
  show V _ 4 0 0 0 [some (vR (some (11, 0))), none] [] ((σ.rJ 53 0 B).pz (tF T e p) (tE T e p) 0 a) _
  refine V_aldn0 a_X11_readBorrower_0 ?_
  refine V_iconst a_X11_readBorrower_1 ?_
  refine V_iconst a_X11_readBorrower_2 ?_
  refine V_v2V a_X11_readBorrower_3 c_X11_139 (R_newOne0 h.rJ (by omega) (by omega) (by omega) q0) ?_
  refine V_aldn0 a_X11_readBorrower_6 ?_
  refine V_lconst0 a_X11_readBorrower_7 ?_
  refine V_ldc2 a_X11_readBorrower_8 q_X11_151 ?_
  refine V_iconst a_X11_readBorrower_11 ?_
  refine V_v3R a_X11_readBorrower_12 c_X11_145 (R_num1 (h.rJ) (by omega) (by omega) (by omega) (by omega) c0) ?_
  refine V_istn1 a_X11_readBorrower_15 ?_
  refine V_aldn0 a_X11_readBorrower_16 ?_
  refine V_getIE a_X11_readBorrower_17 f_X11_118 rfl pz_12 ?_
  refine V_if_le_f a_X11_readBorrower_20 (by omega) (by omega) ?_
  exact V_ret a_X11_readBorrower_23 (⟨rfl, _, _, _, by omega, rfl⟩)
theorem K_readBorrower (h : Tx σ T e) (hB : FrI B) (hp : 0 ≤ p ∧ p ≤ e) (hf : ¬ B 2 = 4) (c0 : nC T e (tE T e p) 0 (9999999) 2 = 0) : Rt m_X11_readBorrower 4 0 0 [vR (some (11, 0))] ((σ.rJ 53 0 B).pz (tF T e p) (tE T e p) 0 a) none ((σ.rJ 53 0 (adB T e B 3 (tE T e p))).pz (tF T e (tE T e (tE T e p))) (tE T e (tE T e (tE T e p))) 0 a) := by
  obtain ⟨p00, p01, p02, -⟩ := tE_bd (T := T) hp.2
  have q0 : 0 ≤ tE T e p ∧ tE T e p ≤ e := by omega
  have hn := hB.1.n
  obtain ⟨s00, s01, s02, -⟩ := tE_bd (T := T) (e := e) (p := tE T e p) (by omega)
  have w0 := nW_bd (T := T) (e := e) (p := tE T e p) (by omega)
  have hW := h.1
  show V _ 4 0 0 0 [some (vR (some (11, 0))), none] [] ((σ.rJ 53 0 B).pz (tF T e p) (tE T e p) 0 a) _
  refine V_aldn0 a_X11_readBorrower_0 ?_
  refine V_iconst a_X11_readBorrower_1 ?_
  refine V_iconst a_X11_readBorrower_2 ?_
  refine V_v2V a_X11_readBorrower_3 c_X11_139 (R_newOne0 h.rJ (by omega) (by omega) (by omega) q0) ?_
  refine V_aldn0 a_X11_readBorrower_6 ?_
  refine V_lconst0 a_X11_readBorrower_7 ?_
  refine V_ldc2 a_X11_readBorrower_8 q_X11_151 ?_
  refine V_iconst a_X11_readBorrower_11 ?_
  refine V_v3R a_X11_readBorrower_12 c_X11_145 (R_num0 (h.rJ) (by omega) (by omega) (by omega) (by omega) c0) ?_
  refine V_istn1 a_X11_readBorrower_15 ?_
  refine V_aldn0 a_X11_readBorrower_16 ?_
  refine V_getIE a_X11_readBorrower_17 f_X11_118 rfl pz_12 ?_
  refine V_if_le_t a_X11_readBorrower_20 (by omega) (by omega) ?_
  refine V_aldn0 a_X11_readBorrower_24 ?_
  refine V_fin a_X11_readBorrower_25 f_X11_19 rfl hW ?_
  refine V_bipush a_X11_readBorrower_28 (by decide) ?_
  refine V_aldn0 a_X11_readBorrower_30 ?_
  refine V_fin a_X11_readBorrower_31 f_X11_19 rfl hW ?_
  refine V_iconst a_X11_readBorrower_34 ?_
  refine V_fr a_X11_readBorrower_35 (by omega) pzJ ?_
  refine V_l2i a_X11_readBorrower_36 ?_
  refine V_iadd a_X11_readBorrower_37 ?_
  refine V_ildn1 a_X11_readBorrower_38 ?_
  refine V_i2l a_X11_readBorrower_39 (by omega) ?_
  refine V_last a_X11_readBorrower_40 rfl (by omega) ?_
  rw [pzJs]
  refine V_aldn0 a_X11_readBorrower_41 ?_
  refine V_fin a_X11_readBorrower_42 f_X11_19 rfl hW ?_
  refine V_iconst a_X11_readBorrower_45 ?_
  first | refine V_dup2IR a_X11_readBorrower_46 ?_ | refine V_dup2L a_X11_readBorrower_46 ?_
  refine V_fr a_X11_readBorrower_47 (by omega) pzJ ?_
  refine V_lconst1 a_X11_readBorrower_48 ?_
  refine V_ladd a_X11_readBorrower_49 ?_
  refine V_last a_X11_readBorrower_50 rfl (by omega) ?_
  rw [pzJs]
  exact V_ret a_X11_readBorrower_51 (⟨rfl, by rw [adB_3, upI_ne (k := 45 + B 2) (by omega)]⟩)
theorem F_readHolding0 (h : Tx σ T e) (hB : FrI B) (hp : 0 ≤ p ∧ p ≤ e)  (c0 : nC T e (tE T e p) 0 (B 1 - 1) 4 ≠ 0) : Cv m_X11_readHolding 4 0 0 [vR (some (11, 0))] ((σ.rJ 53 0 B).pz (tF T e p) (tE T e p) 0 a) none (FS σ e (nC T e (tE T e p) 0 (B 1 - 1) 4) (tF T e (tE T e p))) := by
  obtain ⟨p00, p01, p02, -⟩ := tE_bd (T := T) hp.2
  have q0 : 0 ≤ tE T e p ∧ tE T e p ≤ e := by omega
  have hn := hB.1.n
  obtain ⟨s00, s01, s02, -⟩ := tE_bd (T := T) (e := e) (p := tE T e p) (by omega)
  have w0 := nW_bd (T := T) (e := e) (p := tE T e p) (by omega)
  have hW := h.1
  have hd := nC_bd (T := T) (e := e) (p := tE T e p) (lo := 0) (hi := B 1 - 1) (c := 4) (by omega)
  show V _ 4 0 0 0 [some (vR (some (11, 0))), none, none, none] [] ((σ.rJ 53 0 B).pz (tF T e p) (tE T e p) 0 a) _
  refine V_aldn0 a_X11_readHolding_0 ?_
  refine V_v0V a_X11_readHolding_1 c_X11_136 (R_pass0 h.rJ q0) ?_
  refine V_aldn0 a_X11_readHolding_4 ?_
  refine V_lconst0 a_X11_readHolding_5 ?_
  refine V_aldn0 a_X11_readHolding_6 ?_
  refine V_fin a_X11_readHolding_7 f_X11_19 rfl hW ?_
  refine V_iconst a_X11_readHolding_10 ?_
  refine V_fr a_X11_readHolding_11 (by omega) pzJ ?_
  refine V_lconst1 a_X11_readHolding_12 ?_
  refine V_lsub a_X11_readHolding_13 ?_
  refine V_iconst a_X11_readHolding_14 ?_
  refine V_v3R a_X11_readHolding_15 c_X11_145 (R_num1 (h.rJ) (by omega) (by omega) (by omega) (by omega) c0) ?_
  refine V_istn1 a_X11_readHolding_18 ?_
  refine V_aldn0 a_X11_readHolding_19 ?_
  refine V_lconst0 a_X11_readHolding_20 ?_
  refine V_aldn0 a_X11_readHolding_21 ?_
  refine V_fin a_X11_readHolding_22 f_X11_19 rfl hW ?_
  refine V_iconst a_X11_readHolding_25 ?_
  refine V_fr a_X11_readHolding_26 (by omega) pzJ ?_
  refine V_lconst1 a_X11_readHolding_27 ?_
  refine V_lsub a_X11_readHolding_28 ?_
  refine V_iconst a_X11_readHolding_29 ?_
  refine V_v3R a_X11_readHolding_30 c_X11_145 (R_number1 (by omega)) ?_
  refine V_istn2 a_X11_readHolding_33 ?_
  refine V_aldn0 a_X11_readHolding_34 ?_
  refine V_lconst0 a_X11_readHolding_35 ?_
  refine V_ldc2 a_X11_readHolding_36 q_X11_76 ?_
  refine V_iconst a_X11_readHolding_39 ?_
  refine V_v3R a_X11_readHolding_40 c_X11_145 (R_number1 (by omega)) ?_
  refine V_istn3 a_X11_readHolding_43 ?_
  refine V_aldn0 a_X11_readHolding_44 ?_
  refine V_getIE a_X11_readHolding_45 f_X11_118 rfl pz_12 ?_
  refine V_if_ne_t a_X11_readHolding_48 (by omega) (by omega) ?_
  exact V_ret a_X11_readHolding_66 (⟨rfl, _, _, _, by omega, rfl⟩)
theorem F_readHolding1 (h : Tx σ T e) (hB : FrI B) (hp : 0 ≤ p ∧ p ≤ e) (c0 : nC T e (tE T e p) 0 (B 1 - 1) 4 = 0) (c1 : nC T e (tE T e (tE T e p)) 0 (B 0 - 1) 4 ≠ 0) : Cv m_X11_readHolding 4 0 0 [vR (some (11, 0))] ((σ.rJ 53 0 B).pz (tF T e p) (tE T e p) 0 a) none (FS σ e (nC T e (tE T e (tE T e p)) 0 (B 0 - 1) 4) (tF T e (tE T e (tE T e p)))) := by
  obtain ⟨p00, p01, p02, -⟩ := tE_bd (T := T) hp.2
  have q0 : 0 ≤ tE T e p ∧ tE T e p ≤ e := by omega
  have hn := hB.1.n
  obtain ⟨s00, s01, s02, -⟩ := tE_bd (T := T) (e := e) (p := tE T e p) (by omega)
  have w0 := nW_bd (T := T) (e := e) (p := tE T e p) (by omega)
  obtain ⟨s10, s11, s12, -⟩ := tE_bd (T := T) (e := e) (p := tE T e (tE T e p)) (by omega)
  have w1 := nW_bd (T := T) (e := e) (p := tE T e (tE T e p)) (by omega)
  have hW := h.1
  have hd := nC_bd (T := T) (e := e) (p := tE T e (tE T e p)) (lo := 0) (hi := B 0 - 1) (c := 4) (by omega)
  show V _ 4 0 0 0 [some (vR (some (11, 0))), none, none, none] [] ((σ.rJ 53 0 B).pz (tF T e p) (tE T e p) 0 a) _
  refine V_aldn0 a_X11_readHolding_0 ?_
  refine V_v0V a_X11_readHolding_1 c_X11_136 (R_pass0 h.rJ q0) ?_
  refine V_aldn0 a_X11_readHolding_4 ?_
  refine V_lconst0 a_X11_readHolding_5 ?_
  refine V_aldn0 a_X11_readHolding_6 ?_
  refine V_fin a_X11_readHolding_7 f_X11_19 rfl hW ?_
  refine V_iconst a_X11_readHolding_10 ?_
  refine V_fr a_X11_readHolding_11 (by omega) pzJ ?_
  refine V_lconst1 a_X11_readHolding_12 ?_
  refine V_lsub a_X11_readHolding_13 ?_
  refine V_iconst a_X11_readHolding_14 ?_
  refine V_v3R a_X11_readHolding_15 c_X11_145 (R_num0 (h.rJ) (by omega) (by omega) (by omega) (by omega) c0) ?_
  refine V_istn1 a_X11_readHolding_18 ?_
  refine V_aldn0 a_X11_readHolding_19 ?_
  refine V_lconst0 a_X11_readHolding_20 ?_
  refine V_aldn0 a_X11_readHolding_21 ?_
  refine V_fin a_X11_readHolding_22 f_X11_19 rfl hW ?_
  refine V_iconst a_X11_readHolding_25 ?_
  refine V_fr a_X11_readHolding_26 (by omega) pzJ ?_
  refine V_lconst1 a_X11_readHolding_27 ?_
  refine V_lsub a_X11_readHolding_28 ?_
  refine V_iconst a_X11_readHolding_29 ?_
  refine V_v3R a_X11_readHolding_30 c_X11_145 (R_num1 (h.rJ) (by omega) (by omega) (by omega) (by omega) c1) ?_
  refine V_istn2 a_X11_readHolding_33 ?_
  refine V_aldn0 a_X11_readHolding_34 ?_
  refine V_lconst0 a_X11_readHolding_35 ?_
  refine V_ldc2 a_X11_readHolding_36 q_X11_76 ?_
  refine V_iconst a_X11_readHolding_39 ?_
  refine V_v3R a_X11_readHolding_40 c_X11_145 (R_number1 (by omega)) ?_
  refine V_istn3 a_X11_readHolding_43 ?_
  refine V_aldn0 a_X11_readHolding_44 ?_
  refine V_getIE a_X11_readHolding_45 f_X11_118 rfl pz_12 ?_
  refine V_if_ne_t a_X11_readHolding_48 (by omega) (by omega) ?_
  exact V_ret a_X11_readHolding_66 (⟨rfl, _, _, _, by omega, rfl⟩)
theorem F_readHolding2 (h : Tx σ T e) (hB : FrI B) (hp : 0 ≤ p ∧ p ≤ e) (c0 : nC T e (tE T e p) 0 (B 1 - 1) 4 = 0) (c1 : nC T e (tE T e (tE T e p)) 0 (B 0 - 1) 4 = 0) (c2 : nC T e (tE T e (tE T e (tE T e p))) 0 (99999) 2 ≠ 0) : Cv m_X11_readHolding 4 0 0 [vR (some (11, 0))] ((σ.rJ 53 0 B).pz (tF T e p) (tE T e p) 0 a) none (FS σ e (nC T e (tE T e (tE T e (tE T e p))) 0 (99999) 2) (tF T e (tE T e (tE T e (tE T e p))))) := by
  obtain ⟨p00, p01, p02, -⟩ := tE_bd (T := T) hp.2
  have q0 : 0 ≤ tE T e p ∧ tE T e p ≤ e := by omega
  have hn := hB.1.n
  obtain ⟨s00, s01, s02, -⟩ := tE_bd (T := T) (e := e) (p := tE T e p) (by omega)
  have w0 := nW_bd (T := T) (e := e) (p := tE T e p) (by omega)
  obtain ⟨s10, s11, s12, -⟩ := tE_bd (T := T) (e := e) (p := tE T e (tE T e p)) (by omega)
  have w1 := nW_bd (T := T) (e := e) (p := tE T e (tE T e p)) (by omega)
  obtain ⟨s20, s21, s22, -⟩ := tE_bd (T := T) (e := e) (p := tE T e (tE T e (tE T e p))) (by omega)
  have w2 := nW_bd (T := T) (e := e) (p := tE T e (tE T e (tE T e p))) (by omega)
  have hW := h.1
  have hd := nC_bd (T := T) (e := e) (p := tE T e (tE T e (tE T e p))) (lo := 0) (hi := 99999) (c := 2) (by omega)
  show V _ 4 0 0 0 [some (vR (some (11, 0))), none, none, none] [] ((σ.rJ 53 0 B).pz (tF T e p) (tE T e p) 0 a) _
  refine V_aldn0 a_X11_readHolding_0 ?_
  refine V_v0V a_X11_readHolding_1 c_X11_136 (R_pass0 h.rJ q0) ?_
  refine V_aldn0 a_X11_readHolding_4 ?_
  refine V_lconst0 a_X11_readHolding_5 ?_
  refine V_aldn0 a_X11_readHolding_6 ?_
  refine V_fin a_X11_readHolding_7 f_X11_19 rfl hW ?_
  refine V_iconst a_X11_readHolding_10 ?_
  refine V_fr a_X11_readHolding_11 (by omega) pzJ ?_
  refine V_lconst1 a_X11_readHolding_12 ?_
  refine V_lsub a_X11_readHolding_13 ?_
  refine V_iconst a_X11_readHolding_14 ?_
  refine V_v3R a_X11_readHolding_15 c_X11_145 (R_num0 (h.rJ) (by omega) (by omega) (by omega) (by omega) c0) ?_
  refine V_istn1 a_X11_readHolding_18 ?_
  refine V_aldn0 a_X11_readHolding_19 ?_
  refine V_lconst0 a_X11_readHolding_20 ?_
  refine V_aldn0 a_X11_readHolding_21 ?_
  refine V_fin a_X11_readHolding_22 f_X11_19 rfl hW ?_
  refine V_iconst a_X11_readHolding_25 ?_
  refine V_fr a_X11_readHolding_26 (by omega) pzJ ?_
  refine V_lconst1 a_X11_readHolding_27 ?_
  refine V_lsub a_X11_readHolding_28 ?_
  refine V_iconst a_X11_readHolding_29 ?_
  refine V_v3R a_X11_readHolding_30 c_X11_145 (R_num0 (h.rJ) (by omega) (by omega) (by omega) (by omega) c1) ?_
  refine V_istn2 a_X11_readHolding_33 ?_
  refine V_aldn0 a_X11_readHolding_34 ?_
  refine V_lconst0 a_X11_readHolding_35 ?_
  refine V_ldc2 a_X11_readHolding_36 q_X11_76 ?_
  refine V_iconst a_X11_readHolding_39 ?_
  refine V_v3R a_X11_readHolding_40 c_X11_145 (R_num1 (h.rJ) (by omega) (by omega) (by omega) (by omega) c2) ?_
  refine V_istn3 a_X11_readHolding_43 ?_
  refine V_aldn0 a_X11_readHolding_44 ?_
  refine V_getIE a_X11_readHolding_45 f_X11_118 rfl pz_12 ?_
  refine V_if_ne_t a_X11_readHolding_48 (by omega) (by omega) ?_
  exact V_ret a_X11_readHolding_66 (⟨rfl, _, _, _, by omega, rfl⟩)
theorem K_readHolding (h : Tx σ T e) (hB : FrI B) (hp : 0 ≤ p ∧ p ≤ e) (c0 : nC T e (tE T e p) 0 (B 1 - 1) 4 = 0) (c1 : nC T e (tE T e (tE T e p)) 0 (B 0 - 1) 4 = 0) (c2 : nC T e (tE T e (tE T e (tE T e p))) 0 (99999) 2 = 0) : Rt m_X11_readHolding 4 0 0 [vR (some (11, 0))] ((σ.rJ 53 0 B).pz (tF T e p) (tE T e p) 0 a) none ((σ.rJ 53 0 (adB T e B 4 (tE T e p))).pz (tF T e (tE T e (tE T e (tE T e (tE T e p))))) (tE T e (tE T e (tE T e (tE T e (tE T e p))))) 0 a) := by
  obtain ⟨p00, p01, p02, -⟩ := tE_bd (T := T) hp.2
  have q0 : 0 ≤ tE T e p ∧ tE T e p ≤ e := by omega
  have hn := hB.1.n
  obtain ⟨s00, s01, s02, -⟩ := tE_bd (T := T) (e := e) (p := tE T e p) (by omega)
  have w0 := nW_bd (T := T) (e := e) (p := tE T e p) (by omega)
  obtain ⟨s10, s11, s12, -⟩ := tE_bd (T := T) (e := e) (p := tE T e (tE T e p)) (by omega)
  have w1 := nW_bd (T := T) (e := e) (p := tE T e (tE T e p)) (by omega)
  obtain ⟨s20, s21, s22, -⟩ := tE_bd (T := T) (e := e) (p := tE T e (tE T e (tE T e p))) (by omega)
  have w2 := nW_bd (T := T) (e := e) (p := tE T e (tE T e (tE T e p))) (by omega)
  have hW := h.1
  have v0 := nC_in c0
  have v1 := nC_in c1
  have v2 := nC_in c2
  show V _ 4 0 0 0 [some (vR (some (11, 0))), none, none, none] [] ((σ.rJ 53 0 B).pz (tF T e p) (tE T e p) 0 a) _
  refine V_aldn0 a_X11_readHolding_0 ?_
  refine V_v0V a_X11_readHolding_1 c_X11_136 (R_pass0 h.rJ q0) ?_
  refine V_aldn0 a_X11_readHolding_4 ?_
  refine V_lconst0 a_X11_readHolding_5 ?_
  refine V_aldn0 a_X11_readHolding_6 ?_
  refine V_fin a_X11_readHolding_7 f_X11_19 rfl hW ?_
  refine V_iconst a_X11_readHolding_10 ?_
  refine V_fr a_X11_readHolding_11 (by omega) pzJ ?_
  refine V_lconst1 a_X11_readHolding_12 ?_
  refine V_lsub a_X11_readHolding_13 ?_
  refine V_iconst a_X11_readHolding_14 ?_
  refine V_v3R a_X11_readHolding_15 c_X11_145 (R_num0 (h.rJ) (by omega) (by omega) (by omega) (by omega) c0) ?_
  refine V_istn1 a_X11_readHolding_18 ?_
  refine V_aldn0 a_X11_readHolding_19 ?_
  refine V_lconst0 a_X11_readHolding_20 ?_
  refine V_aldn0 a_X11_readHolding_21 ?_
  refine V_fin a_X11_readHolding_22 f_X11_19 rfl hW ?_
  refine V_iconst a_X11_readHolding_25 ?_
  refine V_fr a_X11_readHolding_26 (by omega) pzJ ?_
  refine V_lconst1 a_X11_readHolding_27 ?_
  refine V_lsub a_X11_readHolding_28 ?_
  refine V_iconst a_X11_readHolding_29 ?_
  refine V_v3R a_X11_readHolding_30 c_X11_145 (R_num0 (h.rJ) (by omega) (by omega) (by omega) (by omega) c1) ?_
  refine V_istn2 a_X11_readHolding_33 ?_
  refine V_aldn0 a_X11_readHolding_34 ?_
  refine V_lconst0 a_X11_readHolding_35 ?_
  refine V_ldc2 a_X11_readHolding_36 q_X11_76 ?_
  refine V_iconst a_X11_readHolding_39 ?_
  refine V_v3R a_X11_readHolding_40 c_X11_145 (R_num0 (h.rJ) (by omega) (by omega) (by omega) (by omega) c2) ?_
  refine V_istn3 a_X11_readHolding_43 ?_
  refine V_aldn0 a_X11_readHolding_44 ?_
  refine V_getIE a_X11_readHolding_45 f_X11_118 rfl pz_12 ?_
  refine V_if_ne_f a_X11_readHolding_48 (by omega) (by omega) ?_
  refine V_aldn0 a_X11_readHolding_51 ?_
  refine V_fin a_X11_readHolding_52 f_X11_19 rfl hW ?_
  refine V_bipush a_X11_readHolding_55 (by decide) ?_
  refine V_iconst a_X11_readHolding_57 ?_
  refine V_ildn1 a_X11_readHolding_58 ?_
  refine V_imul a_X11_readHolding_59 ?_
  refine V_iadd a_X11_readHolding_60 ?_
  refine V_ildn2 a_X11_readHolding_61 ?_
  refine V_iadd a_X11_readHolding_62 ?_
  refine V_ildn3 a_X11_readHolding_63 ?_
  refine V_i2l a_X11_readHolding_64 (by omega) ?_
  refine V_last a_X11_readHolding_65 rfl (by omega) ?_
  rw [pzJs]
  exact V_ret a_X11_readHolding_66 (⟨rfl, by rw [adB_4]⟩)
end Rd

