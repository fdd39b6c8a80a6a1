/-- smaller sum, then fewer loans, then the smaller set -/
def lx (a b c a' b' c' : Int) : Prop := a < a' ∨ (a = a' ∧ (b < b' ∨ (b = b' ∧ c ≤ c')))
theorem lx_refl (a b c : Int) : lx a b c a b c := by unfold lx; omega
theorem lx_trans {a b c a' b' c' a2 b2 c2 : Int} (h : lx a b c a' b' c') (h2 : lx a' b' c' a2 b2 c2) : lx a b c a2 b2 c2 := by
  unfold lx at *
  omega
section Lx
variable {f : Int → Int} {n q x nx S : Int}
abbrev lK (f : Int → Int) (n S T : Int) : Prop := lx (smI f n S) (szI S) S (smI f n T) (szI T) T
theorem dec_ok {m : Int} (h0 : 0 ≤ S) (m0 : 0 ≤ m) : S = p2 m * (S / p2 m) + enc (fun k => bit S k) m := by
  have key : ∀ d : Nat, S = p2 d * (S / p2 d) + enc (fun k => bit S k) d := by
    intro d
    induction d with
    | zero =>
      show S = p2 0 * (S / p2 0) + 0
      rw [show p2 0 = 1 from rfl, Int.ediv_one]
      omega
    | succ d ih =>
      have es : enc (fun k => bit S k) ((d + 1 : Nat) : Int) = enc (fun k => bit S k) d + bit S d * p2 d := by
        unfold enc
        rw [show ((d + 1 : Nat) : Int) = (d : Int) + 1 by omega, sm_s _ (by omega)]
      have ps : p2 ((d + 1 : Nat) : Int) = p2 d * 2 := by
        rw [show ((d + 1 : Nat) : Int) = (d : Int) + 1 by omega, p2_s (by omega), Int.mul_comm]
      have pd := p2_pos (d : Int)
      have e1 : S / p2 d = 2 * (S / p2 d / 2) + bit S d := by
        unfold bit
        omega
      have e3 : S / (p2 d * 2) = S / p2 d / 2 := by rw [Int.ediv_ediv, if_neg (fun z => by omega), Int.sub_zero]
      rw [es, ps, e3]
      have e2 : p2 d * (S / p2 d) = p2 d * 2 * (S / p2 d / 2) + bit S d * p2 d := by
        rw [Int.mul_assoc, Int.mul_comm (bit S d), ← Int.mul_add, ← e1]
      omega
  have z := key m.toNat
  rw [Int.toNat_of_nonneg m0] at z
  exact z
theorem enc_x (x0 : 0 ≤ x) (x1 : x < p2 nx) (n0 : 0 ≤ nx) : enc (fun k => bit x k) nx = x := by
  have z := dec_ok (m := nx) x0 n0
  rw [Int.ediv_eq_zero_of_lt x0 x1, Int.mul_zero] at z
  omega
/-- a set that has enough is not extended -/
theorem lK_ext (hn : 0 ≤ n ∧ n ≤ 12) (hf : ∀ k, 0 ≤ k → k < n → 0 ≤ f k ∧ f k ≤ 99999) (n0 : 0 ≤ nx) (n1 : nx ≤ n) (x0 : 0 ≤ x) (x1 : x < p2 nx) (s0 : 0 ≤ S) (s1 : S < p2 n) (hb : ∀ k, 0 ≤ k → k < nx → bit S k = bit x k) : lK f n x S := by
  have xb : ∀ k, nx ≤ k → bit x k = 0 := fun k hk => bit_0 x0 (by have := p2_le n0 hk; omega)
  have a : smI f n x ≤ smI f n S := sm_le (fun k k0 k1 => by
    have := hf k k0 k1
    show (if bit x k = 1 then f k else 0) ≤ if bit S k = 1 then f k else 0
    rcases lt_ge k nx with z | z
    · rw [hb k k0 z]
      exact Int.le_refl _
    · rw [xb k z, if_neg (by decide)]
      split <;> omega)
  have xn : x < p2 n := by
    have := p2_le n0 n1
    omega
  have b : szI x ≤ szI S := by
    rw [sz_n hn.1 hn.2 x0 xn, sz_n hn.1 hn.2 s0 s1]
    exact sm_le (fun k k0 k1 => by
      show bit x k ≤ bit S k
      rcases lt_ge k nx with z | z
      · rw [hb k k0 z]
        exact Int.le_refl _
      · rw [xb k z]
        have := bit_01 S k
        omega)
  have c : x ≤ S := by
    have z := dec_ok (m := nx) s0 n0
    have e : enc (fun k => bit S k) nx = x := by
      rw [← enc_x x0 x1 n0]
      exact sm_congr (fun k k0 k1 => by
        show bit S k * p2 k = bit x k * p2 k
        rw [hb k k0 k1])
    have y := Int.mul_nonneg (a := p2 nx) (b := S / p2 nx) (by have := p2_pos nx; omega) (Int.ediv_nonneg s0 (by have := p2_pos nx; omega))
    omega
  unfold lK lx
  omega
theorem sm_addb (h0 : 0 ≤ nx) (h1 : nx < n) (x0 : 0 ≤ x) (x1 : x < p2 nx) : smI f n (x + p2 nx) = smI f n x + f nx := by
  have e : smI f n (x + p2 nx) = sm (fun k => if k = nx then f nx else (fun k => if bit x k = 1 then f k else 0) k) n := sm_congr (fun k k0 k1 => by
    show (if bit (x + p2 nx) k = 1 then f k else 0) = if k = nx then f nx else if bit x k = 1 then f k else 0
    rw [bit_add h0 k0 ⟨x0, x1⟩]
    by_cases z : k = nx
    · rw [if_pos z, if_pos z, if_pos rfl, z]
    · rw [if_neg z, if_neg z])
  rw [e, sm_if h0 h1]
  show _ + f nx - (if bit x nx = 1 then f nx else 0) = _
  rw [bit_0 x0 x1, if_neg (by decide)]
  unfold smI
  omega
theorem sz_addb (h0 : 0 ≤ nx) (h1 : nx < 12) (x0 : 0 ≤ x) (x1 : x < p2 nx) : szI (x + p2 nx) = szI x + 1 := by
  have e : szI (x + p2 nx) = sm (fun k => if k = nx then 1 else (fun k => bit x k) k) 12 := sm_congr (fun k k0 k1 => bit_add h0 k0 ⟨x0, x1⟩)
  rw [e, sm_if h0 h1]
  show _ + 1 - bit x nx = _
  rw [bit_0 x0 x1]
  unfold szI
  omega
/-- a loan of no use left out -/
theorem lK_out (hn : 0 ≤ n ∧ n ≤ 12) (n0 : 0 ≤ nx) (n1 : nx < n) (hz : f nx = 0) (s0 : 0 ≤ S) (s1 : S < p2 n) (hb : bit S nx = 1) : ∃ T, (0 ≤ T ∧ T < p2 n) ∧ (∀ k, 0 ≤ k → k < n → bit T k = if k = nx then 0 else bit S k) ∧ smI f n T = smI f n S ∧ lK f n T S := by
  obtain ⟨e1, e2⟩ := enc_ok (g := upI (fun k => bit S k) nx 0) hn.1 (fun k k0 k1 => by
    by_cases z : k = nx
    · rw [z, upI_eq]
      exact Or.inl rfl
    · rw [upI_ne z]
      exact bit_01 S k)
  have e3 : ∀ k, 0 ≤ k → k < n → bit (enc (upI (fun k => bit S k) nx 0) n) k = if k = nx then 0 else bit S k := fun k k0 k1 => by
    rw [e2 k k0 k1]
    rfl
  have a : smI f n (enc (upI (fun k => bit S k) nx 0) n) = smI f n S := sm_congr (fun k k0 k1 => by
    rw [e3 k k0 k1]
    by_cases z : k = nx
    · rw [if_pos z, z, hb, if_pos rfl, if_neg (by decide), hz]
    · rw [if_neg z])
  have b : szI (enc (upI (fun k => bit S k) nx 0) n) = szI S - 1 := by
    rw [sz_n hn.1 hn.2 e1.1 e1.2, sz_n hn.1 hn.2 s0 s1, sm_congr (g := upI (fun k => bit S k) nx 0) (fun k k0 k1 => e2 k k0 k1), sm_up n0 n1]
    show _ + 0 - bit S nx = _
    omega
  refine ⟨_, e1, e3, a, ?_⟩
  unfold lK lx
  omega
theorem tg_min (hn : 0 ≤ n ∧ n ≤ 12) : (tgA f n q = 0 ∧ ∀ S, 1 ≤ S → S < p2 n → smI f n S < q) ∨ ((1 ≤ tgA f n q ∧ tgA f n q < p2 n) ∧ q ≤ smI f n (tgA f n q) ∧ ∀ S, 1 ≤ S → S < p2 n → q ≤ smI f n S → lK f n (tgA f n q) S) := by
  have hp := p2_pos n
  have key := itr_ind (f := tgS f n q) (a := (0 : Int)) (fun m b => (b = 0 ∧ ∀ S, 1 ≤ S → S ≤ m → smI f n S < q) ∨ ((1 ≤ b ∧ b ≤ m) ∧ q ≤ smI f n b ∧ ∀ S, 1 ≤ S → S ≤ m → q ≤ smI f n S → lK f n b S)) (Or.inl ⟨rfl, fun S a b => by omega⟩) (n := p2 n - 1) (by omega) (fun m b m0 m1 hb => by
    unfold tgS
    by_cases z : smI f n (m + 1) < q
    · rw [if_pos z]
      rcases hb with y | y
      · refine Or.inl ⟨y.1, fun S a c => ?_⟩
        by_cases e : S = m + 1
        · rw [e]
          exact z
        · exact y.2 S a (by omega)
      · refine Or.inr ⟨by omega, y.2.1, fun S a c d => ?_⟩
        by_cases e : S = m + 1
        · rw [e] at d
          omega
        · exact y.2.2 S a (by omega) d
    · rw [if_neg z]
      rcases hb with y | y
      · rw [if_pos (Or.inl y.1)]
        refine Or.inr ⟨by omega, by omega, fun S a c d => ?_⟩
        by_cases e : S = m + 1
        · rw [e]
          exact lx_refl _ _ _
        · have := y.2 S a (by omega)
          omega
      · by_cases w : b = 0 ∨ smI f n (m + 1) < smI f n b ∨ (smI f n (m + 1) = smI f n b ∧ szI (m + 1) < szI b)
        · rw [if_pos w]
          have l1 : lK f n (m + 1) b := by
            unfold lK lx
            omega
          refine Or.inr ⟨by omega, by omega, fun S a c d => ?_⟩
          by_cases e : S = m + 1
          · rw [e]
            exact lx_refl _ _ _
          · exact lx_trans l1 (y.2.2 S a (by omega) d)
        · rw [if_neg w]
          refine Or.inr ⟨by omega, y.2.1, fun S a c d => ?_⟩
          by_cases e : S = m + 1
          · rw [e]
            unfold lK lx
            omega
          · exact y.2.2 S a (by omega) d)
  rcases key with z | z
  · exact Or.inl ⟨z.1, fun S a b => z.2 S a (by omega)⟩
  · obtain ⟨z1, z2, z3⟩ := z
    have z1 : 1 ≤ tgA f n q ∧ tgA f n q ≤ p2 n - 1 := z1
    exact Or.inr ⟨by omega, z2, fun S a b c => z3 S a (by omega) c⟩
end Lx
section Tg
variable {σ : Hp} {f : Int → Int} {n q : Int}
/-- the best set so far -/
def Bst (σ : Hp) (a b c : Int) : Prop := σ.I 4 0 0 = a ∧ σ.I 4 0 2 = b ∧ σ.I 4 0 1 = c
theorem R_judge {a b c x z s : Int} (h : Bst σ a b c) (ha : iR a) (hb : iR b) (hc : iR c) (hx : iR x) (hz : iR z) (hs : iR s) : Cv m_X4_judge 0 0 0 [vR (some (4, 0)), vI x, vI z, vI s] σ none (fun τ => Fm [4] σ τ ∧ τ.I 4 0 3 = σ.I 4 0 3 ∧ τ.I 4 0 4 = σ.I 4 0 4 ∧ ((Bst τ a b c ∧ lx a b c s z x) ∨ (Bst τ s z x ∧ lx s z x a b c))) := by
  obtain ⟨h0, h2, h1⟩ := h
  unfold iR at ha hb hc hx hz hs
  have f1 : Fm [4] σ (((σ.setI 4 0 0 s).setI 4 0 2 z).setI 4 0 1 x) := ((Fm.setI (by decide)).trans (Fm.setI (by decide))).trans (Fm.setI (by decide))
  have k3 : (((σ.setI 4 0 0 s).setI 4 0 2 z).setI 4 0 1 x).I 4 0 3 = σ.I 4 0 3 := by rw [setI_ne (by decide), setI_ne (by decide), setI_ne (by decide)]
  have k4 : (((σ.setI 4 0 0 s).setI 4 0 2 z).setI 4 0 1 x).I 4 0 4 = σ.I 4 0 4 := by rw [setI_ne (by decide), setI_ne (by decide), setI_ne (by decide)]
  have kb : Bst (((σ.setI 4 0 0 s).setI 4 0 2 z).setI 4 0 1 x) s z x := ⟨by rw [setI_ne (by decide), setI_ne (by decide), setI_I], by rw [setI_ne (by decide), setI_I], setI_I⟩
  show V _ 0 0 0 0 [some (vR (some (4, 0))), some (vI x), some (vI z), some (vI s), none] [] σ _
  by_cases c1 : s < a
  · have l1 : lx s z x a b c := by unfold lx; omega
    refine V_ildn3 a_X4_judge_0 ?_
    refine V_aldn0 a_X4_judge_1 ?_
    refine V_getIE a_X4_judge_2 f_X4_36 rfl h0 ?_
    refine V_icmp_ge_f a_X4_judge_5 (by omega) (by omega) ?_
    refine V_iconst a_X4_judge_8 ?_
    refine V_goto a_X4_judge_9 ?_
    refine V_ist4 a_X4_judge_13 ?_
    refine V_ildn3 a_X4_judge_15 ?_
    refine V_aldn0 a_X4_judge_16 ?_
    refine V_getIE a_X4_judge_17 f_X4_36 rfl h0 ?_
    refine V_icmp_ne_t a_X4_judge_20 (by omega) (by omega) ?_
    refine V_ild4 a_X4_judge_54 ?_
    refine V_if_eq_f a_X4_judge_56 (by omega) (by omega) ?_
    refine V_aldn0 a_X4_judge_59 ?_
    refine V_ildn3 a_X4_judge_60 ?_
    refine V_putI a_X4_judge_61 f_X4_36 rfl ?_
    refine V_aldn0 a_X4_judge_64 ?_
    refine V_ildn2 a_X4_judge_65 ?_
    refine V_putI a_X4_judge_66 f_X4_39 rfl ?_
    refine V_aldn0 a_X4_judge_69 ?_
    refine V_ildn1 a_X4_judge_70 ?_
    refine V_putI a_X4_judge_71 f_X4_42 rfl ?_
    exact V_ret a_X4_judge_74 (⟨rfl, f1, k3, k4, Or.inr ⟨kb, l1⟩⟩)
  · by_cases c2 : s = a
    · by_cases c3 : z < b
      · have l1 : lx s z x a b c := by unfold lx; omega
        refine V_ildn3 a_X4_judge_0 ?_
        refine V_aldn0 a_X4_judge_1 ?_
        refine V_getIE a_X4_judge_2 f_X4_36 rfl h0 ?_
        refine V_icmp_ge_t a_X4_judge_5 (by omega) (by omega) ?_
        refine V_iconst a_X4_judge_12 ?_
        refine V_ist4 a_X4_judge_13 ?_
        refine V_ildn3 a_X4_judge_15 ?_
        refine V_aldn0 a_X4_judge_16 ?_
        refine V_getIE a_X4_judge_17 f_X4_36 rfl h0 ?_
        refine V_icmp_ne_f a_X4_judge_20 (by omega) (by omega) ?_
        refine V_ildn2 a_X4_judge_23 ?_
        refine V_aldn0 a_X4_judge_24 ?_
        refine V_getIE a_X4_judge_25 f_X4_39 rfl h2 ?_
        refine V_icmp_lt_t a_X4_judge_28 (by omega) (by omega) ?_
        refine V_iconst a_X4_judge_47 ?_
        refine V_goto a_X4_judge_48 ?_
        refine V_ist4 a_X4_judge_52 ?_
        refine V_ild4 a_X4_judge_54 ?_
        refine V_if_eq_f a_X4_judge_56 (by omega) (by omega) ?_
        refine V_aldn0 a_X4_judge_59 ?_
        refine V_ildn3 a_X4_judge_60 ?_
        refine V_putI a_X4_judge_61 f_X4_36 rfl ?_
        refine V_aldn0 a_X4_judge_64 ?_
        refine V_ildn2 a_X4_judge_65 ?_
        refine V_putI a_X4_judge_66 f_X4_39 rfl ?_
        refine V_aldn0 a_X4_judge_69 ?_
        refine V_ildn1 a_X4_judge_70 ?_
        refine V_putI a_X4_judge_71 f_X4_42 rfl ?_
        exact V_ret a_X4_judge_74 (⟨rfl, f1, k3, k4, Or.inr ⟨kb, l1⟩⟩)
      · by_cases c4 : z = b
        · by_cases c5 : x < c
          · have l1 : lx s z x a b c := by unfold lx; omega
            refine V_ildn3 a_X4_judge_0 ?_
            refine V_aldn0 a_X4_judge_1 ?_
            refine V_getIE a_X4_judge_2 f_X4_36 rfl h0 ?_
            refine V_icmp_ge_t a_X4_judge_5 (by omega) (by omega) ?_
            refine V_iconst a_X4_judge_12 ?_
            refine V_ist4 a_X4_judge_13 ?_
            refine V_ildn3 a_X4_judge_15 ?_
            refine V_aldn0 a_X4_judge_16 ?_
            refine V_getIE a_X4_judge_17 f_X4_36 rfl h0 ?_
            refine V_icmp_ne_f a_X4_judge_20 (by omega) (by omega) ?_
            refine V_ildn2 a_X4_judge_23 ?_
            refine V_aldn0 a_X4_judge_24 ?_
            refine V_getIE a_X4_judge_25 f_X4_39 rfl h2 ?_
            refine V_icmp_lt_f a_X4_judge_28 (by omega) (by omega) ?_
            refine V_ildn2 a_X4_judge_31 ?_
            refine V_aldn0 a_X4_judge_32 ?_
            refine V_getIE a_X4_judge_33 f_X4_39 rfl h2 ?_
            refine V_icmp_ne_f a_X4_judge_36 (by omega) (by omega) ?_
            refine V_ildn1 a_X4_judge_39 ?_
            refine V_aldn0 a_X4_judge_40 ?_
            refine V_getIE a_X4_judge_41 f_X4_42 rfl h1 ?_
            refine V_icmp_ge_f a_X4_judge_44 (by omega) (by omega) ?_
            refine V_iconst a_X4_judge_47 ?_
            refine V_goto a_X4_judge_48 ?_
            refine V_ist4 a_X4_judge_52 ?_
            refine V_ild4 a_X4_judge_54 ?_
            refine V_if_eq_f a_X4_judge_56 (by omega) (by omega) ?_
            refine V_aldn0 a_X4_judge_59 ?_
            refine V_ildn3 a_X4_judge_60 ?_
            refine V_putI a_X4_judge_61 f_X4_36 rfl ?_
            refine V_aldn0 a_X4_judge_64 ?_
            refine V_ildn2 a_X4_judge_65 ?_
            refine V_putI a_X4_judge_66 f_X4_39 rfl ?_
            refine V_aldn0 a_X4_judge_69 ?_
            refine V_ildn1 a_X4_judge_70 ?_
            refine V_putI a_X4_judge_71 f_X4_42 rfl ?_
            exact V_ret a_X4_judge_74 (⟨rfl, f1, k3, k4, Or.inr ⟨kb, l1⟩⟩)
          · have l1 : lx a b c s z x := by unfold lx; omega
            refine V_ildn3 a_X4_judge_0 ?_
            refine V_aldn0 a_X4_judge_1 ?_
            refine V_getIE a_X4_judge_2 f_X4_36 rfl h0 ?_
            refine V_icmp_ge_t a_X4_judge_5 (by omega) (by omega) ?_
            refine V_iconst a_X4_judge_12 ?_
            refine V_ist4 a_X4_judge_13 ?_
            refine V_ildn3 a_X4_judge_15 ?_
            refine V_aldn0 a_X4_judge_16 ?_
            refine V_getIE a_X4_judge_17 f_X4_36 rfl h0 ?_
            refine V_icmp_ne_f a_X4_judge_20 (by omega) (by omega) ?_
            refine V_ildn2 a_X4_judge_23 ?_
            refine V_aldn0 a_X4_judge_24 ?_
            refine V_getIE a_X4_judge_25 f_X4_39 rfl h2 ?_
            refine V_icmp_lt_f a_X4_judge_28 (by omega) (by omega) ?_
            refine V_ildn2 a_X4_judge_31 ?_
            refine V_aldn0 a_X4_judge_32 ?_
            refine V_getIE a_X4_judge_33 f_X4_39 rfl h2 ?_
            refine V_icmp_ne_f a_X4_judge_36 (by omega) (by omega) ?_
            refine V_ildn1 a_X4_judge_39 ?_
            refine V_aldn0 a_X4_judge_40 ?_
            refine V_getIE a_X4_judge_41 f_X4_42 rfl h1 ?_
            refine V_icmp_ge_t a_X4_judge_44 (by omega) (by omega) ?_
            refine V_iconst a_X4_judge_51 ?_
            refine V_ist4 a_X4_judge_52 ?_
            refine V_ild4 a_X4_judge_54 ?_
            refine V_if_eq_t a_X4_judge_56 (by omega) (by omega) ?_
            exact V_ret a_X4_judge_74 (⟨rfl, Fm.refl _ _, rfl, rfl, Or.inl ⟨⟨h0, h2, h1⟩, l1⟩⟩)
        · have l1 : lx a b c s z x := by unfold lx; omega
          refine V_ildn3 a_X4_judge_0 ?_
          refine V_aldn0 a_X4_judge_1 ?_
          refine V_getIE a_X4_judge_2 f_X4_36 rfl h0 ?_
          refine V_icmp_ge_t a_X4_judge_5 (by omega) (by omega) ?_
          refine V_iconst a_X4_judge_12 ?_
          refine V_ist4 a_X4_judge_13 ?_
          refine V_ildn3 a_X4_judge_15 ?_
          refine V_aldn0 a_X4_judge_16 ?_
          refine V_getIE a_X4_judge_17 f_X4_36 rfl h0 ?_
          refine V_icmp_ne_f a_X4_judge_20 (by omega) (by omega) ?_
          refine V_ildn2 a_X4_judge_23 ?_
          refine V_aldn0 a_X4_judge_24 ?_
          refine V_getIE a_X4_judge_25 f_X4_39 rfl h2 ?_
          refine V_icmp_lt_f a_X4_judge_28 (by omega) (by omega) ?_
          refine V_ildn2 a_X4_judge_31 ?_
          refine V_aldn0 a_X4_judge_32 ?_
          refine V_getIE a_X4_judge_33 f_X4_39 rfl h2 ?_
          refine V_icmp_ne_t a_X4_judge_36 (by omega) (by omega) ?_
          refine V_iconst a_X4_judge_51 ?_
          refine V_ist4 a_X4_judge_52 ?_
          refine V_ild4 a_X4_judge_54 ?_
          refine V_if_eq_t a_X4_judge_56 (by omega) (by omega) ?_
          exact V_ret a_X4_judge_74 (⟨rfl, Fm.refl _ _, rfl, rfl, Or.inl ⟨⟨h0, h2, h1⟩, l1⟩⟩)
    · have l1 : lx a b c s z x := by unfold lx; omega
      refine V_ildn3 a_X4_judge_0 ?_
      refine V_aldn0 a_X4_judge_1 ?_
      refine V_getIE a_X4_judge_2 f_X4_36 rfl h0 ?_
      refine V_icmp_ge_t a_X4_judge_5 (by omega) (by omega) ?_
      refine V_iconst a_X4_judge_12 ?_
      refine V_ist4 a_X4_judge_13 ?_
      refine V_ildn3 a_X4_judge_15 ?_
      refine V_aldn0 a_X4_judge_16 ?_
      refine V_getIE a_X4_judge_17 f_X4_36 rfl h0 ?_
      refine V_icmp_ne_t a_X4_judge_20 (by omega) (by omega) ?_
      refine V_ild4 a_X4_judge_54 ?_
      refine V_if_eq_t a_X4_judge_56 (by omega) (by omega) ?_
      exact V_ret a_X4_judge_74 (⟨rfl, Fm.refl _ _, rfl, rfl, Or.inl ⟨⟨h0, h2, h1⟩, l1⟩⟩)
/-- what a search leaves: the best of what it went through -/
def ExQ (f : Int → Int) (n q nx x : Int) (σ : Hp) (a b c : Int) (τ : Hp) : Prop := Fm [4] σ τ ∧ τ.I 4 0 3 = q ∧ τ.I 4 0 4 = n ∧ ∃ a' b' c', Bst τ a' b' c' ∧ (iR a' ∧ iR b' ∧ iR c') ∧ ((a' = a ∧ b' = b ∧ c' = c) ∨ ∃ S, (0 ≤ S ∧ S < p2 n) ∧ q ≤ smI f n S ∧ a' = smI f n S ∧ b' = szI S ∧ c' = S) ∧ lx a' b' c' a b c ∧ ∀ S, 0 ≤ S → S < p2 n → (∀ k, 0 ≤ k → k < nx → bit S k = bit x k) → q ≤ smI f n S → lx a' b' c' (smI f n S) (szI S) S
theorem smI_f (hn : 0 ≤ n ∧ n ≤ 12) (hf : ∀ k, 0 ≤ k → k < n → 0 ≤ f k ∧ f k ≤ 99999) (x : Int) : 0 ≤ smI f n x ∧ smI f n x ≤ 1199988 := by
  have h := sm_bd (f := fun k => if bit x k = 1 then f k else 0) (k := n) (lo := 0) (hi := 99999) hn.1 (fun k k0 k1 => by
    have := hf k k0 k1
    show 0 ≤ (if bit x k = 1 then f k else 0) ∧ (if bit x k = 1 then f k else 0) ≤ 99999
    split <;> omega)
  have h : n * 0 ≤ smI f n x ∧ smI f n x ≤ n * 99999 := h
  omega
theorem R_extend (hn : 0 ≤ n ∧ n ≤ 12) (hf : ∀ k, 0 ≤ k → k < n → 0 ≤ f k ∧ f k ≤ 99999) (hq : iR q) : ∀ (d : Nat) (nx x a b c : Int) (σ : Hp), WF σ → (∀ k, 0 ≤ k → k < n → σ.I 33 0 k = f k) → σ.I 4 0 3 = q → σ.I 4 0 4 = n → Bst σ a b c → iR a → iR b → iR c → 0 ≤ nx → nx ≤ n → n - nx ≤ d → 0 ≤ x → x < p2 nx → Cv m_X4_extend (d + 1) 0 0 [vR (some (4, 0)), vI nx, vI x, vI (szI x), vI (smI f n x)] σ none (ExQ f n q nx x σ a b c) := by
  intro d
  induction d with
  | zero =>
    intro nx x a b c σ hW h33 h3 h4 hB ha hb hc n0 n1 nd x0 x1
    have hsm := smI_f hn hf x
    have hsz := sz_bd x
    have hpx := p2_12 n0 (by omega)
    have e : nx = n := by omega
    have rj := R_judge (x := x) (z := szI x) (s := smI f n x) hB ha hb hc (by unfold iR; omega) (by unfold iR; omega) (by unfold iR; omega)
    have ha' := ha
    unfold iR at hq
    show V _ 1 0 0 0 [some (vR (some (4, 0))), some (vI nx), some (vI x), some (vI (szI x)), some (vI (smI f n x))] [] σ _
    by_cases z : q ≤ smI f n x
    · refine V_ild4 a_X4_extend_0 ?_
      refine V_aldn0 a_X4_extend_2 ?_
      refine V_getIE a_X4_extend_3 f_X4_32 rfl h3 ?_
      refine V_icmp_lt_f a_X4_extend_6 (by omega) (by omega) ?_
      refine V_aldn0 a_X4_extend_9 ?_
      refine V_ildn2 a_X4_extend_10 ?_
      refine V_ildn3 a_X4_extend_11 ?_
      refine V_ild4 a_X4_extend_12 ?_
      refine V_v3PV a_X4_extend_14 c_X4_49 rj (fun τ hτ => ?_)
      skip
      obtain ⟨g1, g2, g3, g4⟩ := hτ
      have fin : ExQ f n q nx x σ a b c τ := by
        have lS : ∀ S, 0 ≤ S → S < p2 n → (∀ k, 0 ≤ k → k < nx → bit S k = bit x k) → q ≤ smI f n S → lK f n x S := fun S s0 s1 s2 s3 => lK_ext hn hf n0 n1 x0 x1 s0 s1 s2
        rcases g4 with y | y
        · exact ⟨g1, g2.trans h3, g3.trans h4, a, b, c, y.1, ⟨ha, hb, hc⟩, Or.inl ⟨rfl, rfl, rfl⟩, lx_refl _ _ _, fun S s0 s1 s2 s3 => lx_trans y.2 (lS S s0 s1 s2 s3)⟩
        · exact ⟨g1, g2.trans h3, g3.trans h4, _, _, _, y.1, ⟨by unfold iR; omega, by unfold iR; omega, by unfold iR; omega⟩, Or.inr ⟨x, ⟨x0, by rw [← e]; exact x1⟩, z, rfl, rfl, rfl⟩, y.2, lS⟩
      exact V_ret a_X4_extend_17 (⟨rfl, fin⟩)
    · have fin : ExQ f n q nx x σ a b c σ := ⟨Fm.refl _ _, h3, h4, a, b, c, hB, ⟨ha, hb, hc⟩, Or.inl ⟨rfl, rfl, rfl⟩, lx_refl _ _ _, fun S s0 s1 s2 s3 => by
        have : smI f n S = smI f n x := sm_congr (fun k k0 k1 => by rw [s2 k k0 (by omega)])
        omega⟩
      refine V_ild4 a_X4_extend_0 ?_
      refine V_aldn0 a_X4_extend_2 ?_
      refine V_getIE a_X4_extend_3 f_X4_32 rfl h3 ?_
      refine V_icmp_lt_t a_X4_extend_6 (by omega) (by omega) ?_
      refine V_ildn1 a_X4_extend_18 ?_
      refine V_aldn0 a_X4_extend_19 ?_
      refine V_getIE a_X4_extend_20 f_X4_20 rfl h4 ?_
      refine V_icmp_lt_f a_X4_extend_23 (by omega) (by omega) ?_
      exact V_ret a_X4_extend_26 (⟨rfl, fin⟩)
  | succ d ih =>
    intro nx x a b c σ hW h33 h3 h4 hB ha hb hc n0 n1 nd x0 x1
    have hsm := smI_f hn hf x
    have hsz := sz_bd x
    have hpx := p2_12 n0 (by omega)
    have hpn := p2_le n0 n1
    have rj := R_judge (x := x) (z := szI x) (s := smI f n x) hB ha hb hc (by unfold iR; omega) (by unfold iR; omega) (by unfold iR; omega)
    have hq' := hq
    unfold iR at hq'
    show V _ (d + 1 + 1) 0 0 0 [some (vR (some (4, 0))), some (vI nx), some (vI x), some (vI (szI x)), some (vI (smI f n x))] [] σ _
    by_cases z : q ≤ smI f n x
    · refine V_ild4 a_X4_extend_0 ?_
      refine V_aldn0 a_X4_extend_2 ?_
      refine V_getIE a_X4_extend_3 f_X4_32 rfl h3 ?_
      refine V_icmp_lt_f a_X4_extend_6 (by omega) (by omega) ?_
      refine V_aldn0 a_X4_extend_9 ?_
      refine V_ildn2 a_X4_extend_10 ?_
      refine V_ildn3 a_X4_extend_11 ?_
      refine V_ild4 a_X4_extend_12 ?_
      refine V_v3PV a_X4_extend_14 c_X4_49 rj (fun τ hτ => ?_)
      skip
      obtain ⟨g1, g2, g3, g4⟩ := hτ
      have fin : ExQ f n q nx x σ a b c τ := by
        have lS : ∀ S, 0 ≤ S → S < p2 n → (∀ k, 0 ≤ k → k < nx → bit S k = bit x k) → q ≤ smI f n S → lK f n x S := fun S s0 s1 s2 s3 => lK_ext hn hf n0 n1 x0 x1 s0 s1 s2
        rcases g4 with y | y
        · exact ⟨g1, g2.trans h3, g3.trans h4, a, b, c, y.1, ⟨ha, hb, hc⟩, Or.inl ⟨rfl, rfl, rfl⟩, lx_refl _ _ _, fun S s0 s1 s2 s3 => lx_trans y.2 (lS S s0 s1 s2 s3)⟩
        · exact ⟨g1, g2.trans h3, g3.trans h4, _, _, _, y.1, ⟨by unfold iR; omega, by unfold iR; omega, by unfold iR; omega⟩, Or.inr ⟨x, ⟨x0, by omega⟩, z, rfl, rfl, rfl⟩, y.2, lS⟩
      exact V_ret a_X4_extend_17 (⟨rfl, fin⟩)
    · by_cases y : n ≤ nx
      · have fin : ExQ f n q nx x σ a b c σ := ⟨Fm.refl _ _, h3, h4, a, b, c, hB, ⟨ha, hb, hc⟩, Or.inl ⟨rfl, rfl, rfl⟩, lx_refl _ _ _, fun S s0 s1 s2 s3 => by
          have : smI f n S = smI f n x := sm_congr (fun k k0 k1 => by rw [s2 k k0 (by omega)])
          omega⟩
        refine V_ild4 a_X4_extend_0 ?_
        refine V_aldn0 a_X4_extend_2 ?_
        refine V_getIE a_X4_extend_3 f_X4_32 rfl h3 ?_
        refine V_icmp_lt_t a_X4_extend_6 (by omega) (by omega) ?_
        refine V_ildn1 a_X4_extend_18 ?_
        refine V_aldn0 a_X4_extend_19 ?_
        refine V_getIE a_X4_extend_20 f_X4_20 rfl h4 ?_
        refine V_icmp_lt_f a_X4_extend_23 (by omega) (by omega) ?_
        exact V_ret a_X4_extend_26 (⟨rfl, fin⟩)
      · have hfn := hf nx n0 (by omega)
        have ps := p2_s n0
        have g33 := h33 nx n0 (by omega)
        by_cases w : 0 < f nx
        · have r1 := ih (nx + 1) (x + p2 nx) a b c σ hW h33 h3 h4 hB ha hb hc (by omega) (by omega) (by omega) (by omega) (by omega)
          rw [sz_addb n0 (by omega) x0 x1, sm_addb n0 (by omega) x0 x1] at r1
          refine V_ild4 a_X4_extend_0 ?_
          refine V_aldn0 a_X4_extend_2 ?_
          refine V_getIE a_X4_extend_3 f_X4_32 rfl h3 ?_
          refine V_icmp_lt_t a_X4_extend_6 (by omega) (by omega) ?_
          refine V_ildn1 a_X4_extend_18 ?_
          refine V_aldn0 a_X4_extend_19 ?_
          refine V_getIE a_X4_extend_20 f_X4_20 rfl h4 ?_
          refine V_icmp_lt_t a_X4_extend_23 (by omega) (by omega) ?_
          refine V_aldn0 a_X4_extend_27 ?_
          refine V_fin a_X4_extend_28 f_X4_9 rfl hW ?_
          refine V_ildn1 a_X4_extend_31 ?_
          refine V_ialdE a_X4_extend_32 rfl (by omega) g33 ?_
          refine V_if_le_f a_X4_extend_33 (by omega) (by omega) ?_
          refine V_aldn0 a_X4_extend_36 ?_
          refine V_ildn1 a_X4_extend_37 ?_
          refine V_iconst a_X4_extend_38 ?_
          refine V_iadd a_X4_extend_39 ?_
          refine V_ildn2 a_X4_extend_40 ?_
          refine V_iconst a_X4_extend_41 ?_
          refine V_ildn1 a_X4_extend_42 ?_
          refine V_ishl a_X4_extend_43 (by omega) ?_
          refine V_ior a_X4_extend_44 (by omega) ?_
          refine V_ildn3 a_X4_extend_45 ?_
          refine V_iconst a_X4_extend_46 ?_
          refine V_iadd a_X4_extend_47 ?_
          refine V_ild4 a_X4_extend_48 ?_
          refine V_aldn0 a_X4_extend_50 ?_
          refine V_fin a_X4_extend_51 f_X4_9 rfl hW ?_
          refine V_ildn1 a_X4_extend_54 ?_
          refine V_ialdE a_X4_extend_55 rfl (by omega) g33 ?_
          refine V_iadd a_X4_extend_56 ?_
          refine V_v4PV a_X4_extend_57 c_X4_45 r1 (fun τ hτ => ?_)
          skip
          obtain ⟨g1, g2, g3, a1, b1, c1, g4, g5, g6, g7, g8⟩ := hτ
          have r2 := ih (nx + 1) x a1 b1 c1 τ (g1.wf hW) (fun k k0 k1 => by rw [g1.I (by decide)]; exact h33 k k0 k1) g2 g3 g4 g5.1 g5.2.1 g5.2.2 (by omega) (by omega) (by omega) x0 (by omega)
          refine V_aldn0 a_X4_extend_60 ?_
          refine V_ildn1 a_X4_extend_61 ?_
          refine V_iconst a_X4_extend_62 ?_
          refine V_iadd a_X4_extend_63 ?_
          refine V_ildn2 a_X4_extend_64 ?_
          refine V_ildn3 a_X4_extend_65 ?_
          refine V_ild4 a_X4_extend_66 ?_
          refine V_v4PV a_X4_extend_68 c_X4_45 r2 (fun τ2 hτ2 => ?_)
          skip
          obtain ⟨k1, k2, k3, a2, b2, c2, k4, k5, k6, k7, k8⟩ := hτ2
          have fin : ExQ f n q nx x σ a b c τ2 := ⟨g1.trans k1, k2, k3, a2, b2, c2, k4, k5, by
            rcases k6 with e | e
            · rw [e.1, e.2.1, e.2.2]
              exact g6
            · exact Or.inr e, lx_trans k7 g7, fun S s0 s1 s2 s3 => by
            rcases bit_01 S nx with e | e
            · refine k8 S s0 s1 (fun k j0 j1 => ?_) s3
              by_cases v : k = nx
              · rw [v, e, bit_0 x0 x1]
              · exact s2 k j0 (by omega)
            · refine lx_trans k7 (g8 S s0 s1 (fun k j0 j1 => ?_) s3)
              rw [bit_add n0 j0 ⟨x0, x1⟩]
              by_cases v : k = nx
              · rw [if_pos v, v, e]
              · rw [if_neg v]
                exact s2 k j0 (by omega)⟩
          exact V_ret a_X4_extend_71 (⟨rfl, fin⟩)
        · have hz : f nx = 0 := by omega
          have r2 := ih (nx + 1) x a b c σ hW h33 h3 h4 hB ha hb hc (by omega) (by omega) (by omega) x0 (by omega)
          refine V_ild4 a_X4_extend_0 ?_
          refine V_aldn0 a_X4_extend_2 ?_
          refine V_getIE a_X4_extend_3 f_X4_32 rfl h3 ?_
          refine V_icmp_lt_t a_X4_extend_6 (by omega) (by omega) ?_
          refine V_ildn1 a_X4_extend_18 ?_
          refine V_aldn0 a_X4_extend_19 ?_
          refine V_getIE a_X4_extend_20 f_X4_20 rfl h4 ?_
          refine V_icmp_lt_t a_X4_extend_23 (by omega) (by omega) ?_
          refine V_aldn0 a_X4_extend_27 ?_
          refine V_fin a_X4_extend_28 f_X4_9 rfl hW ?_
          refine V_ildn1 a_X4_extend_31 ?_
          refine V_ialdE a_X4_extend_32 rfl (by omega) g33 ?_
          refine V_if_le_t a_X4_extend_33 (by omega) (by omega) ?_
          refine V_aldn0 a_X4_extend_60 ?_
          refine V_ildn1 a_X4_extend_61 ?_
          refine V_iconst a_X4_extend_62 ?_
          refine V_iadd a_X4_extend_63 ?_
          refine V_ildn2 a_X4_extend_64 ?_
          refine V_ildn3 a_X4_extend_65 ?_
          refine V_ild4 a_X4_extend_66 ?_
          refine V_v4PV a_X4_extend_68 c_X4_45 r2 (fun τ2 hτ2 => ?_)
          skip
          obtain ⟨k1, k2, k3, a2, b2, c2, k4, k5, k6, k7, k8⟩ := hτ2
          have fin : ExQ f n q nx x σ a b c τ2 := ⟨k1, k2, k3, a2, b2, c2, k4, k5, k6, k7, fun S s0 s1 s2 s3 => by
            rcases bit_01 S nx with e | e
            · refine k8 S s0 s1 (fun k j0 j1 => ?_) s3
              by_cases v : k = nx
              · rw [v, e, bit_0 x0 x1]
              · exact s2 k j0 (by omega)
            · obtain ⟨T, t1, t2, t3, t4⟩ := lK_out (f := f) hn n0 (by omega) hz s0 s1 e
              refine lx_trans (k8 T t1.1 t1.2 (fun k j0 j1 => ?_) (by omega)) t4
              rw [t2 k j0 (by omega)]
              by_cases v : k = nx
              · rw [if_pos v, v, bit_0 x0 x1]
              · rw [if_neg v]
                exact s2 k j0 (by omega)⟩
          exact V_ret a_X4_extend_71 (⟨rfl, fin⟩)
theorem R_findTightest (hW : WF σ) (h : Lk σ n f) (hn : 0 ≤ n ∧ n ≤ 12) (hf : ∀ k, 0 ≤ k → k < n → 0 ≤ f k ∧ f k ≤ 99999) (hq : 1 ≤ q ∧ q ≤ 99999) (hT : q ≤ sm f n) (hX : sm f n ≤ 99999) : Cv m_X4_findTightest 14 0 0 [vR (some (4, 0)), vI q] σ none (fun τ => Fm [4] σ τ ∧ τ.I 4 0 0 = smI f n (tgA f n q) ∧ τ.I 4 0 1 = tgA f n q) := by
  obtain ⟨h4, h33⟩ := h
  have f1 : Fm [4] σ ((((σ.setI 4 0 3 q).setI 4 0 0 1000000).setI 4 0 2 1000000).setI 4 0 1 0) := (((Fm.setI (by decide)).trans (Fm.setI (by decide))).trans (Fm.setI (by decide))).trans (Fm.setI (by decide))
  have re := R_extend (q := q) hn hf (by unfold iR; omega) 12 0 0 1000000 1000000 0 ((((σ.setI 4 0 3 q).setI 4 0 0 1000000).setI 4 0 2 1000000).setI 4 0 1 0) (f1.wf hW) (fun k k0 k1 => by rw [f1.I (by decide)]; exact h33 k k0 k1) (by rw [setI_ne (by decide), setI_ne (by decide), setI_ne (by decide), setI_I]) (by rw [setI_ne (by decide), setI_ne (by decide), setI_ne (by decide), setI_ne (by decide)]; exact h4) ⟨by rw [setI_ne (by decide), setI_ne (by decide), setI_I], by rw [setI_ne (by decide), setI_I], setI_I⟩ (by unfold iR; omega) (by unfold iR; omega) (by unfold iR; omega) (Int.le_refl _) hn.1 (by omega) (Int.le_refl _) (p2_pos 0)
  have z0 : szI 0 = 0 := sm_zero (fun k k0 k1 => bit_0 (Int.le_refl _) (p2_pos k))
  have z1 : smI f n 0 = 0 := sm_zero (fun k k0 k1 => by rw [if_neg (by rw [bit_0 (Int.le_refl _) (p2_pos k)]; decide)])
  rw [z0, z1] at re
  show V _ 14 0 0 0 [some (vR (some (4, 0))), some (vI q)] [] σ _
  refine V_aldn0 a_X4_findTightest_0 ?_
  refine V_ildn1 a_X4_findTightest_1 ?_
  refine V_putI a_X4_findTightest_2 f_X4_32 rfl ?_
  refine V_aldn0 a_X4_findTightest_5 ?_
  refine V_ldc a_X4_findTightest_6 q_X4_35 ?_
  refine V_putI a_X4_findTightest_8 f_X4_36 rfl ?_
  refine V_aldn0 a_X4_findTightest_11 ?_
  refine V_ldc a_X4_findTightest_12 q_X4_35 ?_
  refine V_putI a_X4_findTightest_14 f_X4_39 rfl ?_
  refine V_aldn0 a_X4_findTightest_17 ?_
  refine V_iconst a_X4_findTightest_18 ?_
  refine V_putI a_X4_findTightest_19 f_X4_42 rfl ?_
  refine V_aldn0 a_X4_findTightest_22 ?_
  refine V_iconst a_X4_findTightest_23 ?_
  refine V_iconst a_X4_findTightest_24 ?_
  refine V_iconst a_X4_findTightest_25 ?_
  refine V_iconst a_X4_findTightest_26 ?_
  refine V_v4PV a_X4_findTightest_27 c_X4_45 re (fun τ hτ => ?_)
  skip
  obtain ⟨g1, g2, g3, a, b, c, g4, g5, g6, g7, g8⟩ := hτ
  obtain ⟨e1, e2⟩ := enc_ok (g := fun _ => 1) (n := n) hn.1 (fun k k0 k1 => Or.inr rfl)
  have es : smI f n (enc (fun _ => 1) n) = sm f n := sm_congr (fun k k0 k1 => by rw [e2 k k0 k1, if_pos rfl])
  have l1 := g8 _ e1.1 e1.2 (fun k k0 k1 => by omega) (by rw [es]; exact hT)
  have hb1 := smI_f hn hf (enc (fun _ => 1) n)
  rcases g6 with y | y
  · exfalso
    unfold lx at l1
    omega
  · obtain ⟨S, s0, s1, s2, s3, s4⟩ := y
    have sne : S ≠ 0 := fun w => by
      rw [w] at s1
      omega
    rcases tg_min (f := f) (q := q) hn with w | w
    · exfalso
      have := w.2 S (by omega) s0.2
      omega
    · have l2 := w.2.2 S (by omega) s0.2 s1
      have l3 := g8 (tgA f n q) (by omega) w.1.2 (fun k k0 k1 => by omega) w.2.1
      have ec : c = tgA f n q := by
        rw [s2, s3, s4] at l3
        unfold lK lx at l2
        unfold lx at l3
        omega
      have ea : a = smI f n (tgA f n q) := by
        rw [s2, ← ec, s4]
      exact V_ret a_X4_findTightest_30 (⟨rfl, f1.trans g1, g4.1.trans ea, g4.2.2.trans ec⟩)
end Tg

