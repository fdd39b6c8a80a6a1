theorem setI_ne {σ : Hp} {t i : Nat} {k v k' : Int} (h : k' ≠ k) : (σ.setI t i k v).I t i k' = σ.I t i k' := by
  show u3 σ.I t i k v t i k' = _
  unfold u3
  exact if_neg (fun e => h e.2.2)
/-- k places of a row from place o on, from another one -/
def mixO (o : Int) (f g : Int → Int) (k : Int) : Int → Int := fun j => if o ≤ j ∧ j < o + k then f (j - o) else g j
theorem mixO_0 {o : Int} {f g : Int → Int} : mixO o f g 0 = g := by
  funext j
  exact if_neg (by omega)
theorem mixO_s {o : Int} {f g : Int → Int} {k : Int} (h : 0 ≤ k) : upI (mixO o f g k) (o + k) (f k) = mixO o f g (k + 1) := by
  funext j
  unfold upI mixO
  by_cases e : j = o + k
  · rw [if_pos e, if_pos (by omega), show j - o = k by omega]
  · rw [if_neg e]
    by_cases q : o ≤ j ∧ j < o + k
    · rw [if_pos q, if_pos (by omega)]
    · rw [if_neg q, if_neg (by omega)]
theorem mixO_in {o : Int} {f g : Int → Int} {k j : Int} (h0 : 0 ≤ j) (h1 : j < k) : mixO o f g k (o + j) = f j := by
  unfold mixO
  rw [if_pos (by omega), show o + j - o = j by omega]
theorem mixO_out {o : Int} {f g : Int → Int} {k j : Int} (h : ¬ (o ≤ j ∧ j < o + k)) : mixO o f g k j = g j := if_neg h
/-- two states that agree in their 359 places -/
def Eq9 (A B : St) : Prop := ∀ j, 0 ≤ j → j < 359 → B j = A j
theorem Eq9.refl (A : St) : Eq9 A A := fun _ _ _ => rfl
theorem Eq9.symm {A B : St} (h : Eq9 A B) : Eq9 B A := fun j h0 h1 => (h j h0 h1).symm
theorem Eq9.trans {A B C : St} (h : Eq9 A B) (h2 : Eq9 B C) : Eq9 A C := fun j h0 h1 => (h2 j h0 h1).trans (h j h0 h1)
theorem Eq9.mix {A B : St} : Eq9 A (mix A B 359) := fun _ h0 h1 => mix_in h0 h1
theorem Eq9.lent {A B : St} (h : Eq9 A B) {l s : Int} (hl : 0 ≤ l ∧ l < 6) (h7 : A 7 ≤ 12) : lentA B l s = lentA A l s := by
  unfold lentA
  rw [h 7 (by omega) (by omega)]
  exact sm_congr (fun k k0 k1 => by rw [h _ (by omega) (by omega), h _ (by omega) (by omega)])
theorem Eq9.quan {A B : St} (h : Eq9 A B) {k : Int} (hk : 0 ≤ k ∧ k < 12) (h1 : A 1 ≤ 6) : quanA B k = quanA A k := by
  unfold quanA
  rw [h 1 (by omega) (by omega)]
  exact sm_congr (fun l l0 l1 => by rw [h _ (by omega) (by omega)])
theorem Eq9.loan {A B : St} (h : Eq9 A B) {D k : Int} (hk : 0 ≤ k ∧ k < 12) (hL : LoanIn D A k) : LoanIn D B k := by
  obtain ⟨h0, h1, h2, h3, h4, h5⟩ := hL
  refine ⟨by rw [h _ (by omega) (by omega), h 8 (by omega) (by omega)]; exact h0, by rw [h _ (by omega) (by omega), h 2 (by omega) (by omega)]; exact h1, by rw [h _ (by omega) (by omega), h 0 (by omega) (by omega)]; exact h2, by rw [h _ (by omega) (by omega)]; exact h3, by rw [h _ (by omega) (by omega), h 6 (by omega) (by omega)]; exact h4, fun l l0 l1 => ?_⟩
  rw [h (83 + 23 * k + 11 + l) (by omega) (by omega), h (83 + 23 * k + 5 + l) (by omega) (by omega), h (83 + 23 * k + 17 + l) (by omega) (by omega), h 6 (by omega) (by omega), h 1 (by omega) (by omega)]
  exact h5 l l0 l1
theorem Inv.eq9 {D : Int} {A B : St} (hI : Inv D A) (h : Eq9 A B) : Inv D B := by
  have hn := hI.n
  have e0 := h 0 (by omega) (by omega)
  have e1 := h 1 (by omega) (by omega)
  have e2 := h 2 (by omega) (by omega)
  have e7 := h 7 (by omega) (by omega)
  refine ⟨?_, fun s s0 s1 => ?_, fun s s0 s1 => ?_, fun l l0 l1 => ?_, fun b b0 b1 => ?_, fun l s l0 l1 s0 s1 => ?_, fun k k0 k1 => ?_, fun j k j0 jk k1 => ?_, fun l s l0 l1 s0 s1 => ?_⟩
  · rw [e0, e1, e2, h 3 (by omega) (by omega), h 4 (by omega) (by omega), h 5 (by omega) (by omega), h 6 (by omega) (by omega), e7, h 8 (by omega) (by omega)]
    exact hn
  · rw [e0] at s1
    rw [h _ (by omega) (by omega), h _ (by omega) (by omega)]
    exact hI.price s0 s1
  · rw [e1, h _ (by omega) (by omega)]
    exact hI.last s0 s1
  · rw [e1] at l1
    rw [h _ (by omega) (by omega), h _ (by omega) (by omega), h _ (by omega) (by omega)]
    exact hI.lend l0 l1
  · rw [e2] at b1
    rw [h _ (by omega) (by omega)]
    exact hI.cred b0 b1
  · rw [h _ (by omega) (by omega)]
    exact hI.held l0 l1 s0 s1
  · rw [e7] at k1
    exact ⟨h.loan (by omega) (hI.loan k0 k1), by rw [h.quan (by omega) (by omega)]; exact hI.quan k0 k1⟩
  · rw [e7] at k1
    rw [h _ (by omega) (by omega), h _ (by omega) (by omega)]
    exact hI.incr j0 jk k1
  · rw [h.lent ⟨l0, l1⟩ (by omega), h _ (by omega) (by omega)]
    exact hI.lent l0 l1 s0 s1
theorem Inv.up {D D' : Int} {A : St} (hI : Inv D A) (h : D ≤ D') : Inv D' A := by
  have hn := hI.n
  exact ⟨by omega, hI.2⟩
/-- what a method of the model leaves: all but some tags and some of its own ints -/
def FK (L : List Nat) (ks : List Int) (σ σ' : Hp) : Prop := Fm (11 :: L) σ σ' ∧ ∀ k, k ∉ ks → σ'.I 11 0 k = σ.I 11 0 k
theorem FK.refl (L : List Nat) (ks : List Int) (σ : Hp) : FK L ks σ σ := ⟨Fm.refl _ _, fun _ _ => rfl⟩
theorem FK.trans {L : List Nat} {ks : List Int} {σ σ' σ'' : Hp} (h : FK L ks σ σ') (h2 : FK L ks σ' σ'') : FK L ks σ σ'' := ⟨h.1.trans h2.1, fun k hk => (h2.2 k hk).trans (h.2 k hk)⟩
theorem FK.sub {L L' : List Nat} {ks ks' : List Int} {σ σ' : Hp} (h : FK L ks σ σ') (hs : ∀ t ∈ L, t ∈ L') (hk : ∀ t ∈ ks, t ∈ ks') : FK L' ks' σ σ' := ⟨h.1.sub (fun t ht => by
  rcases List.mem_cons.mp ht with e | e
  · rw [e]
    exact List.mem_cons_self
  · exact List.mem_cons_of_mem _ (hs t e)), fun k q => h.2 k (fun z => q (hk k z))⟩
theorem Fm.fk {L : List Nat} {ks : List Int} {σ σ' : Hp} (h : Fm L σ σ') (h11 : 11 ∉ L) : FK L ks σ σ' := ⟨h.sub (fun _ ht => List.mem_cons_of_mem _ ht), fun k _ => by rw [h.I h11]⟩
theorem FK.th {L : List Nat} {ks : List Int} {σ : Hp} {c : Int} (h : (6 : Int) ∈ ks) : FK L ks σ (σ.th c) := ⟨Fm.setI List.mem_cons_self, fun k hk => setI_ne (fun e => hk (e ▸ h))⟩
/-- the model's past -/
def PastOk (σ : Hp) (c : Int) (H : Int → St) : Prop := σ.I 11 0 5 = c ∧ (0 ≤ c ∧ c ≤ 10) ∧ ∀ i k, 0 ≤ i → i < c → 0 ≤ k → k < 359 → σ.J 54 0 (359 * i + k) = H i k
def pushC (c : Int) : Int := if c = 10 then 10 else c + 1
def pushH (c : Int) (H : Int → St) (A : St) (i : Int) : St := if c = 10 then (if i = 9 then A else H (i + 1)) else if i = c then A else H i
section Mo6
variable {D : Int} {σ : Hp} {A : St}
theorem R_keepAside (hW : WF σ) (hA : σ.J 50 0 = A) : Rt m_X11_keepAside 0 0 0 [vR (some (11, 0))] σ none (σ.rJ 51 0 (mix A (σ.J 51 0) 359)) := by
  show V _ 0 0 0 0 [some (vR (some (11, 0))), none] [] σ _
  have start : σ.rJ 51 0 (mix A (σ.J 51 0) 0) = σ := by rw [mix_0, rJ_self]
  refine V_iconst a_X11_keepAside_0 ?_
  refine V_istn1 a_X11_keepAside_1 ?_
  refine (fun z => by rw [start] at z; exact z : V _ 0 0 0 2 [some (vR (some (11, 0))), some (vI 0)] [] (σ.rJ 51 0 (mix A (σ.J 51 0) 0)) _ → _) ?_
  refine loopI (P := fun k => V _ 0 0 0 2 [some (vR (some (11, 0))), some (vI k)] [] (σ.rJ 51 0 (mix A (σ.J 51 0) k)) _) (N := 359) (by omega) ?_ ?_
  · refine V_ildn1 a_X11_keepAside_2 ?_
    refine V_sipush a_X11_keepAside_3 (by decide) ?_
    refine V_icmp_ge_t a_X11_keepAside_6 (by omega) (by omega) ?_
    exact V_ret a_X11_keepAside_27 (⟨rfl, rfl⟩)
  · intro k k0 k1 ih
    rw [← mix_s k0, ← rJ_set] at ih
    have hA : (σ.rJ 51 0 (mix A (σ.J 51 0) k)).J 50 0 = A := by rw [rJ_ne (by decide)]; exact hA
    refine V_ildn1 a_X11_keepAside_2 ?_
    refine V_sipush a_X11_keepAside_3 (by decide) ?_
    refine V_icmp_ge_f a_X11_keepAside_6 (by omega) (by omega) ?_
    refine V_aldn0 a_X11_keepAside_9 ?_
    refine V_fin a_X11_keepAside_10 f_X11_13 rfl hW ?_
    refine V_ildn1 a_X11_keepAside_13 ?_
    refine V_aldn0 a_X11_keepAside_14 ?_
    refine V_fin a_X11_keepAside_15 f_X11_7 rfl hW ?_
    refine V_ildn1 a_X11_keepAside_18 ?_
    refine V_w a_X11_keepAside_19 (by omega) hA ?_
    refine V_last a_X11_keepAside_20 rfl (by omega) ?_
    refine V_inc1 a_X11_keepAside_21 ?_
    refine V_goto a_X11_keepAside_24 ?_
    exact ih
theorem R_think (hW : WF σ) (hA : σ.J 50 0 = A) : Rt m_X11_think 0 0 0 [vR (some (11, 0))] σ none (σ.rJ 52 0 (mix A (σ.J 52 0) 359)) := by
  show V _ 0 0 0 0 [some (vR (some (11, 0))), none] [] σ _
  have start : σ.rJ 52 0 (mix A (σ.J 52 0) 0) = σ := by rw [mix_0, rJ_self]
  refine V_iconst a_X11_think_0 ?_
  refine V_istn1 a_X11_think_1 ?_
  refine (fun z => by rw [start] at z; exact z : V _ 0 0 0 2 [some (vR (some (11, 0))), some (vI 0)] [] (σ.rJ 52 0 (mix A (σ.J 52 0) 0)) _ → _) ?_
  refine loopI (P := fun k => V _ 0 0 0 2 [some (vR (some (11, 0))), some (vI k)] [] (σ.rJ 52 0 (mix A (σ.J 52 0) k)) _) (N := 359) (by omega) ?_ ?_
  · refine V_ildn1 a_X11_think_2 ?_
    refine V_sipush a_X11_think_3 (by decide) ?_
    refine V_icmp_ge_t a_X11_think_6 (by omega) (by omega) ?_
    exact V_ret a_X11_think_27 (⟨rfl, rfl⟩)
  · intro k k0 k1 ih
    rw [← mix_s k0, ← rJ_set] at ih
    have hA : (σ.rJ 52 0 (mix A (σ.J 52 0) k)).J 50 0 = A := by rw [rJ_ne (by decide)]; exact hA
    refine V_ildn1 a_X11_think_2 ?_
    refine V_sipush a_X11_think_3 (by decide) ?_
    refine V_icmp_ge_f a_X11_think_6 (by omega) (by omega) ?_
    refine V_aldn0 a_X11_think_9 ?_
    refine V_fin a_X11_think_10 f_X11_16 rfl hW ?_
    refine V_ildn1 a_X11_think_13 ?_
    refine V_aldn0 a_X11_think_14 ?_
    refine V_fin a_X11_think_15 f_X11_7 rfl hW ?_
    refine V_ildn1 a_X11_think_18 ?_
    refine V_w a_X11_think_19 (by omega) hA ?_
    refine V_last a_X11_think_20 rfl (by omega) ?_
    refine V_inc1 a_X11_think_21 ?_
    refine V_goto a_X11_think_24 ?_
    exact ih
theorem R_wake (hW : WF σ) : Rt m_X11_wake 0 0 0 [vR (some (11, 0))] σ none (σ.rJ 50 0 (mix (σ.J 52 0) (σ.J 50 0) 359)) := by
  show V _ 0 0 0 0 [some (vR (some (11, 0))), none] [] σ _
  have start : σ.rJ 50 0 (mix (σ.J 52 0) (σ.J 50 0) 0) = σ := by rw [mix_0, rJ_self]
  refine V_iconst a_X11_wake_0 ?_
  refine V_istn1 a_X11_wake_1 ?_
  refine (fun z => by rw [start] at z; exact z : V _ 0 0 0 2 [some (vR (some (11, 0))), some (vI 0)] [] (σ.rJ 50 0 (mix (σ.J 52 0) (σ.J 50 0) 0)) _ → _) ?_
  refine loopI (P := fun k => V _ 0 0 0 2 [some (vR (some (11, 0))), some (vI k)] [] (σ.rJ 50 0 (mix (σ.J 52 0) (σ.J 50 0) k)) _) (N := 359) (by omega) ?_ ?_
  · refine V_ildn1 a_X11_wake_2 ?_
    refine V_sipush a_X11_wake_3 (by decide) ?_
    refine V_icmp_ge_t a_X11_wake_6 (by omega) (by omega) ?_
    exact V_ret a_X11_wake_27 (⟨rfl, rfl⟩)
  · intro k k0 k1 ih
    rw [← mix_s k0, ← rJ_set] at ih
    refine V_ildn1 a_X11_wake_2 ?_
    refine V_sipush a_X11_wake_3 (by decide) ?_
    refine V_icmp_ge_f a_X11_wake_6 (by omega) (by omega) ?_
    refine V_aldn0 a_X11_wake_9 ?_
    refine V_fin a_X11_wake_10 f_X11_7 rfl hW ?_
    refine V_ildn1 a_X11_wake_13 ?_
    refine V_aldn0 a_X11_wake_14 ?_
    refine V_fin a_X11_wake_15 f_X11_16 rfl hW ?_
    refine V_ildn1 a_X11_wake_18 ?_
    refine V_laldE a_X11_wake_19 rfl (by omega) (v := σ.J 52 0 k) (by rw [rJ_ne (by decide)]) ?_
    refine V_last a_X11_wake_20 rfl (by omega) ?_
    refine V_inc1 a_X11_wake_21 ?_
    refine V_goto a_X11_wake_24 ?_
    exact ih
/-- a thought: the row is put back, what else was scratch stays changed -/
theorem Md.back {D D' : Int} {σ σ' : Hp} {A A' : St} (h : Md D σ A) (hW : WF σ') (h2 : σ'.J 52 0 = mix A (σ.J 52 0) 359) (h5 : σ'.J 50 0 = A') : Md D (σ'.rJ 50 0 (mix (σ'.J 52 0) (σ'.J 50 0) 359)) (mix A A' 359) := by
  have e : mix (σ'.J 52 0) (σ'.J 50 0) 359 = mix A A' 359 := by
    funext j
    rw [h2, h5]
    unfold mix
    by_cases q : 0 ≤ j ∧ j < 359
    · rw [if_pos q, if_pos q, if_pos q]
    · rw [if_neg q, if_neg q]
  rw [e]
  exact ⟨h.1, hW, rJ_J, h.2.2.2.eq9 Eq9.mix⟩
theorem R_push {c : Int} {H : Int → St} {B : St} (hW : WF σ) (hP : PastOk σ c H) (hB : Eq9 B (σ.J 51 0)) : ∃ σ', FK [54] [5] σ σ' ∧ PastOk σ' (pushC c) (pushH c H B) ∧ Rt m_X11_push 0 0 0 [vR (some (11, 0))] σ none σ' := by
  obtain ⟨hc, hc1, hv⟩ := hP
  have key : ∀ (τ : Hp) (d : Int) (K : Int → St), WF τ → τ.I 11 0 5 = d → 0 ≤ d ∧ d ≤ 9 → τ.J 51 0 = σ.J 51 0 → (∀ i k, 0 ≤ i → i < d → 0 ≤ k → k < 359 → τ.J 54 0 (359 * i + k) = K i k) → ∀ x1 : Option AV, V m_X11_push 0 0 0 52 [some (vR (some (11, 0))), x1] [] τ (fun r τ' => r = .inl none ∧ τ' = (τ.rJ 54 0 (mixO (359 * d) (τ.J 51 0) (τ.J 54 0) 359)).setI 11 0 5 (d + 1)) := by
    intro τ d K hW hd hd1 h51 hK x1
    have start : τ.rJ 54 0 (mixO (359 * d) (τ.J 51 0) (τ.J 54 0) 0) = τ := by rw [mixO_0, rJ_self]
    refine V_iconst a_X11_push_52 ?_
    refine V_istn1 a_X11_push_53 ?_
    refine (fun z => by rw [start] at z; exact z : V _ 0 0 0 54 [some (vR (some (11, 0))), some (vI 0)] [] (τ.rJ 54 0 (mixO (359 * d) (τ.J 51 0) (τ.J 54 0) 0)) _ → _) ?_
    refine loopI (P := fun k => V _ 0 0 0 54 [some (vR (some (11, 0))), some (vI k)] [] (τ.rJ 54 0 (mixO (359 * d) (τ.J 51 0) (τ.J 54 0) k)) _) (N := 359) (by omega) ?_ ?_
    · refine V_ildn1 a_X11_push_54 ?_
      refine V_sipush a_X11_push_55 (by decide) ?_
      refine V_icmp_ge_t a_X11_push_58 (by omega) (by omega) ?_
      refine V_aldn0 a_X11_push_88 ?_
      first | refine V_dupR a_X11_push_89 ?_ | refine V_dupI a_X11_push_89 ?_
      refine V_getIE a_X11_push_90 f_X11_78 rfl hd ?_
      refine V_iconst a_X11_push_93 ?_
      refine V_iadd a_X11_push_94 ?_
      refine V_putI a_X11_push_95 f_X11_78 rfl ?_
      exact V_ret a_X11_push_98 (⟨rfl, rfl⟩)
    · intro k k0 k1 ih
      rw [← mixO_s k0, ← rJ_set] at ih
      refine V_ildn1 a_X11_push_54 ?_
      refine V_sipush a_X11_push_55 (by decide) ?_
      refine V_icmp_ge_f a_X11_push_58 (by omega) (by omega) ?_
      refine V_aldn0 a_X11_push_61 ?_
      refine V_fin a_X11_push_62 f_X11_22 rfl hW ?_
      refine V_sipush a_X11_push_65 (by decide) ?_
      refine V_aldn0 a_X11_push_68 ?_
      refine V_getIE a_X11_push_69 f_X11_78 rfl hd ?_
      refine V_imul a_X11_push_72 ?_
      refine V_ildn1 a_X11_push_73 ?_
      refine V_iadd a_X11_push_74 ?_
      refine V_aldn0 a_X11_push_75 ?_
      refine V_fin a_X11_push_76 f_X11_13 rfl hW ?_
      refine V_ildn1 a_X11_push_79 ?_
      refine V_laldE a_X11_push_80 rfl (by omega) (v := τ.J 51 0 k) (by rw [rJ_ne (by decide)]) ?_
      refine V_last a_X11_push_81 rfl (by omega) ?_
      refine V_inc1 a_X11_push_82 ?_
      refine V_goto a_X11_push_85 ?_
      exact ih
  by_cases h10 : c = 10
  · have hv' : ∀ i k, 0 ≤ i → i < 9 → 0 ≤ k → k < 359 → ((σ.rJ 54 0 (mix (fun j => σ.J 54 0 (j + 359)) (σ.J 54 0) 3231)).setI 11 0 5 9).J 54 0 (359 * i + k) = H (i + 1) k := fun i k i0 i1 k0 k1 => by
      show (σ.rJ 54 0 _).J 54 0 _ = _
      rw [rJ_J, mix_in (by omega) (by omega), show 359 * i + k + 359 = 359 * (i + 1) + k by omega]
      exact hv (i + 1) k (by omega) (by omega) k0 k1
    have h51 : ((σ.rJ 54 0 (mix (fun j => σ.J 54 0 (j + 359)) (σ.J 54 0) 3231)).setI 11 0 5 9).J 51 0 = σ.J 51 0 := rJ_ne (by decide)
    have key2 := key ((σ.rJ 54 0 (mix (fun j => σ.J 54 0 (j + 359)) (σ.J 54 0) 3231)).setI 11 0 5 9) 9 (fun i => H (i + 1)) hW setI_I (by omega) h51 hv'
    generalize hτ : (σ.rJ 54 0 (mix (fun j => σ.J 54 0 (j + 359)) (σ.J 54 0) 3231)).setI 11 0 5 9 = τ at hv' h51 key2
    have hf : FK [54] [5] σ τ := by
      rw [← hτ]
      exact ⟨(Fm.rJ (by decide)).trans (Fm.setI (by decide)), fun k hk => setI_ne (fun e => hk (by rw [e]; decide))⟩
    refine ⟨(τ.rJ 54 0 (mixO (359 * 9) (τ.J 51 0) (τ.J 54 0) 359)).setI 11 0 5 (9 + 1), hf.trans ⟨(Fm.rJ (by decide)).trans (Fm.setI (by decide)), fun k hk => setI_ne (fun e => hk (by rw [e]; decide))⟩, ⟨?_, ?_, fun i k i0 i1 k0 k1 => ?_⟩, ?_⟩
    · rw [setI_I, h10]
      rfl
    · rw [h10]
      decide
    · rw [h10] at i1 ⊢
      have i1 : i < 10 := i1
      show (τ.rJ 54 0 _).J 54 0 _ = _
      rw [rJ_J]
      unfold pushH
      rw [if_pos rfl]
      by_cases e : i = 9
      · rw [e, if_pos rfl, mixO_in k0 k1, h51]
        exact hB k k0 k1
      · rw [if_neg e, mixO_out (by omega)]
        exact hv' i k i0 (by omega) k0 k1
    · show V _ 0 0 0 0 [some (vR (some (11, 0))), none] [] σ _
      have start : σ.rJ 54 0 (mix (fun j => σ.J 54 0 (j + 359)) (σ.J 54 0) 0) = σ := by rw [mix_0, rJ_self]
      refine V_aldn0 a_X11_push_0 ?_
      refine V_getIE a_X11_push_1 f_X11_78 rfl (hc.trans h10) ?_
      refine V_bipush a_X11_push_4 (by decide) ?_
      refine V_icmp_ne_f a_X11_push_6 (by omega) (by omega) ?_
      refine V_sipush a_X11_push_9 (by decide) ?_
      refine V_istn1 a_X11_push_12 ?_
      refine (fun z => by rw [start] at z; exact z : V _ 0 0 0 13 [some (vR (some (11, 0))), some (vI (359 + 0))] [] (σ.rJ 54 0 (mix (fun j => σ.J 54 0 (j + 359)) (σ.J 54 0) 0)) _ → _) ?_
      refine loopI (P := fun k => V _ 0 0 0 13 [some (vR (some (11, 0))), some (vI (359 + k))] [] (σ.rJ 54 0 (mix (fun j => σ.J 54 0 (j + 359)) (σ.J 54 0) k)) _) (N := 3231) (by omega) ?_ ?_
      · refine V_ildn1 a_X11_push_13 ?_
        refine V_sipush a_X11_push_14 (by decide) ?_
        refine V_icmp_ge_t a_X11_push_17 (by omega) (by omega) ?_
        refine V_aldn0 a_X11_push_42 ?_
        first | refine V_dupR a_X11_push_43 ?_ | refine V_dupI a_X11_push_43 ?_
        refine V_getIE a_X11_push_44 f_X11_78 rfl (hc.trans h10) ?_
        refine V_iconst a_X11_push_47 ?_
        refine V_isub a_X11_push_48 ?_
        refine V_putI a_X11_push_49 f_X11_78 rfl ?_
        rw [show (10 : Int) - 1 = 9 from rfl, hτ]
        exact key2 _
      · intro k k0 k1 ih
        rw [← mix_s k0, ← rJ_set] at ih
        refine V_ildn1 a_X11_push_13 ?_
        refine V_sipush a_X11_push_14 (by decide) ?_
        refine V_icmp_ge_f a_X11_push_17 (by omega) (by omega) ?_
        refine V_aldn0 a_X11_push_20 ?_
        refine V_fin a_X11_push_21 f_X11_22 rfl hW ?_
        refine V_ildn1 a_X11_push_24 ?_
        refine V_sipush a_X11_push_25 (by decide) ?_
        refine V_isub a_X11_push_28 ?_
        refine V_aldn0 a_X11_push_29 ?_
        refine V_fin a_X11_push_30 f_X11_22 rfl hW ?_
        refine V_ildn1 a_X11_push_33 ?_
        refine V_laldE a_X11_push_34 rfl (by omega) (v := σ.J 54 0 (k + 359)) (by rw [rJ_J, mix_out (by omega), Int.add_comm]) ?_
        refine V_last a_X11_push_35 rfl (by omega) ?_
        rw [show 359 + k - 359 = k by omega]
        refine V_inc1 a_X11_push_36 ?_
        refine V_goto a_X11_push_39 ?_
        rw [show 359 + k + 1 = 359 + (k + 1) by omega]
        exact ih
  · have key2 := key σ c H hW hc (by omega) rfl hv
    refine ⟨(σ.rJ 54 0 (mixO (359 * c) (σ.J 51 0) (σ.J 54 0) 359)).setI 11 0 5 (c + 1), ⟨(Fm.rJ (by decide)).trans (Fm.setI (by decide)), fun k hk => setI_ne (fun e => hk (by rw [e]; decide))⟩, ⟨?_, ?_, fun i k i0 i1 k0 k1 => ?_⟩, ?_⟩
    · rw [setI_I]
      exact (if_neg h10).symm
    · unfold pushC
      rw [if_neg h10]
      omega
    · unfold pushC at i1
      rw [if_neg h10] at i1
      show (σ.rJ 54 0 _).J 54 0 _ = _
      rw [rJ_J]
      unfold pushH
      rw [if_neg h10]
      by_cases e : i = c
      · rw [e, if_pos rfl, mixO_in k0 k1]
        exact hB k k0 k1
      · rw [if_neg e, mixO_out (by omega)]
        exact hv i k i0 (by omega) k0 k1
    · show V _ 0 0 0 0 [some (vR (some (11, 0))), none] [] σ _
      refine V_aldn0 a_X11_push_0 ?_
      refine V_getIE a_X11_push_1 f_X11_78 rfl hc ?_
      refine V_bipush a_X11_push_4 (by decide) ?_
      refine V_icmp_ne_t a_X11_push_6 (by omega) (by omega) ?_
      exact key2 _
theorem R_remember {c : Int} {H : Int → St} (h : Md D σ A) (hP : PastOk σ c H) : ∃ σ', FK [51, 54] [5] σ σ' ∧ Md D σ' A ∧ PastOk σ' (pushC c) (pushH c H A) ∧ Rt m_X11_remember 1 0 0 [vR (some (11, 0))] σ none σ' := by
  obtain ⟨σ', f, p, r⟩ := R_push (σ := σ.rJ 51 0 (mix A (σ.J 51 0) 359)) (c := c) (H := H) (B := A) h.2.1 ⟨hP.1, hP.2.1, fun i k i0 i1 k0 k1 => by
    rw [rJ_ne (by decide)]
    exact hP.2.2 i k i0 i1 k0 k1⟩ (by rw [rJ_J]; exact Eq9.mix)
  have f2 : FK [51, 54] [5] σ σ' := FK.trans ((Fm.rJ (L := [51, 54]) (t := 51) (i := 0) (g := mix A (σ.J 51 0) 359) (by decide)).fk (by decide)) (f.sub (by decide) (fun _ q => q))
  refine ⟨σ', f2, ⟨h.1, f2.1.wf h.2.1, by rw [f2.1.J (by decide)]; exact h.2.2.1, h.2.2.2⟩, p, ?_⟩
  show V _ 1 0 0 0 [some (vR (some (11, 0)))] [] σ _
  refine V_aldn0 a_X11_remember_0 ?_
  refine V_v0V a_X11_remember_1 c_X11_81 (R_keepAside h.2.1 h.2.2.1) ?_
  refine V_aldn0 a_X11_remember_4 ?_
  refine V_v0V a_X11_remember_5 c_X11_84 r ?_
  exact V_ret a_X11_remember_8 (⟨rfl, rfl⟩)
end Mo6

