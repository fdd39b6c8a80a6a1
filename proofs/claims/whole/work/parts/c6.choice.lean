section Sp
variable {σ : Hp} {u g : Int → Int} {n : Int}
theorem R_Cspread (hW : WF σ) (h7 : σ.I 0 0 7 = n) (hn : 1 ≤ n ∧ n ≤ 6) (hg : ∀ l, 0 ≤ l → l < n → σ.I 27 0 l = u l ∧ σ.I 24 0 l = g l) (hb : ∀ l, 0 ≤ l → l < n → 0 ≤ u l + g l ∧ u l + g l ≤ 199998) : Rt m_X0_spread 1 0 0 [vR (some (0, 0))] σ (some (vI (mxL (fun l => u l + g l) (n - 1) - mnL (fun l => u l + g l) (n - 1)))) σ := by
  show V _ 1 0 0 0 [some (vR (some (0, 0))), none, none, none] [] σ _
  refine V_aldn0 a_X0_spread_0 ?_
  refine V_fin a_X0_spread_1 f_X0_21 rfl hW ?_
  refine V_iconst a_X0_spread_4 ?_
  refine V_ialdE a_X0_spread_5 rfl (by omega) (hg _ (by omega) (by omega)).1 ?_
  refine V_aldn0 a_X0_spread_6 ?_
  refine V_fin a_X0_spread_7 f_X0_9 rfl hW ?_
  refine V_iconst a_X0_spread_10 ?_
  refine V_ialdE a_X0_spread_11 rfl (by omega) (hg _ (by omega) (by omega)).2 ?_
  refine V_iadd a_X0_spread_12 ?_
  refine V_istn1 a_X0_spread_13 ?_
  refine V_ildn1 a_X0_spread_14 ?_
  refine V_istn2 a_X0_spread_15 ?_
  refine V_iconst a_X0_spread_16 ?_
  refine V_istn3 a_X0_spread_17 ?_
  refine loopF (P := fun l => V _ 1 0 0 18 [some (vR (some (0, 0))), some (vI (mnL (fun l => u l + g l) (l - 1))), some (vI (mxL (fun l => u l + g l) (l - 1))), some (vI l)] [] σ _) (a := 1) (N := n) (by omega) ?_ ?_
  · refine V_ildn3 a_X0_spread_18 ?_
    refine V_aldn0 a_X0_spread_19 ?_
    refine V_getIE a_X0_spread_20 f_X0_36 rfl h7 ?_
    refine V_icmp_ge_t a_X0_spread_23 (by omega) (by omega) ?_
    refine V_ildn2 a_X0_spread_68 ?_
    refine V_ildn1 a_X0_spread_69 ?_
    refine V_isub a_X0_spread_70 ?_
    exact V_iret a_X0_spread_71 (⟨rfl, rfl⟩)
  · intro l l0 l1 ih
    have hbl := hb l (by omega) l1
    have hmb := mx_bd (f := fun l => u l + g l) (l := l - 1) (M := 199998) (by omega) (fun j j0 j1 => hb j j0 (by omega))
    rw [show l + 1 - 1 = (l - 1) + 1 by omega, mxL_s (by omega), mnL_s (by omega), show l - 1 + 1 = l by omega] at ih
    have r1 := R_imin (σ := σ) (x := mnL (fun l => u l + g l) (l - 1)) (y := u l + g l) (by omega) (by omega)
    have r2 := R_imax (σ := σ) (x := mxL (fun l => u l + g l) (l - 1)) (y := u l + g l) (by omega) (by omega)
    refine V_ildn3 a_X0_spread_18 ?_
    refine V_aldn0 a_X0_spread_19 ?_
    refine V_getIE a_X0_spread_20 f_X0_36 rfl h7 ?_
    refine V_icmp_ge_f a_X0_spread_23 (by omega) (by omega) ?_
    refine V_ildn1 a_X0_spread_26 ?_
    refine V_aldn0 a_X0_spread_27 ?_
    refine V_fin a_X0_spread_28 f_X0_21 rfl hW ?_
    refine V_ildn3 a_X0_spread_31 ?_
    refine V_ialdE a_X0_spread_32 rfl (by omega) (hg _ (by omega) (by omega)).1 ?_
    refine V_aldn0 a_X0_spread_33 ?_
    refine V_fin a_X0_spread_34 f_X0_9 rfl hW ?_
    refine V_ildn3 a_X0_spread_37 ?_
    refine V_ialdE a_X0_spread_38 rfl (by omega) (hg _ (by omega) (by omega)).2 ?_
    refine V_iadd a_X0_spread_39 ?_
    refine V_s2R a_X0_spread_40 c_X0_90 r1 ?_
    refine V_istn1 a_X0_spread_43 ?_
    refine V_ildn2 a_X0_spread_44 ?_
    refine V_aldn0 a_X0_spread_45 ?_
    refine V_fin a_X0_spread_46 f_X0_21 rfl hW ?_
    refine V_ildn3 a_X0_spread_49 ?_
    refine V_ialdE a_X0_spread_50 rfl (by omega) (hg _ (by omega) (by omega)).1 ?_
    refine V_aldn0 a_X0_spread_51 ?_
    refine V_fin a_X0_spread_52 f_X0_9 rfl hW ?_
    refine V_ildn3 a_X0_spread_55 ?_
    refine V_ialdE a_X0_spread_56 rfl (by omega) (hg _ (by omega) (by omega)).2 ?_
    refine V_iadd a_X0_spread_57 ?_
    refine V_s2R a_X0_spread_58 c_X0_53 r2 ?_
    refine V_istn2 a_X0_spread_61 ?_
    refine V_inc3 a_X0_spread_62 ?_
    refine V_goto a_X0_spread_65 ?_
    exact ih
end Sp
section Bt
variable {x n k m : Int}
theorem p2_add (h0 : 0 ≤ k) (h1 : 0 ≤ m) : p2 (k + m) = p2 k * p2 m := by
  unfold p2
  rw [show (k + m).toNat = k.toNat + m.toNat by omega, Int.pow_add]
theorem p2_le (h0 : 0 ≤ k) (h1 : k ≤ m) : p2 k ≤ p2 m := by
  have e : p2 m = p2 k * p2 (m - k) := by rw [← p2_add h0 (by omega), show k + (m - k) = m by omega]
  have a := p2_pos k
  have b := p2_pos (m - k)
  have c := Int.mul_le_mul_of_nonneg_left (a := 1) (b := p2 (m - k)) (c := p2 k) (by omega) (by omega)
  omega
theorem bit_0 (h0 : 0 ≤ x) (h1 : x < p2 k) : bit x k = 0 := by
  unfold bit
  rw [Int.ediv_eq_zero_of_lt h0 h1]
  rfl
theorem bit_add (n0 : 0 ≤ n) (k0 : 0 ≤ k) (hx : 0 ≤ x ∧ x < p2 n) : bit (x + p2 n) k = if k = n then 1 else bit x k := by
  have pk := p2_pos k
  by_cases e : k = n
  · rw [if_pos e, e]
    unfold bit
    have z := Int.add_mul_ediv_left x (b := p2 n) 1 (by have := p2_pos n; omega)
    rw [Int.mul_one, Int.ediv_eq_zero_of_lt hx.1 hx.2] at z
    rw [z]
    rfl
  · rw [if_neg e]
    rcases lt_ge k n with y | y
    · have e2 : p2 n = p2 k * (2 * p2 (n - k - 1)) := by
        rw [← p2_s (by omega), ← p2_add k0 (by omega), show k + (n - k - 1 + 1) = n by omega]
      unfold bit
      rw [e2, Int.add_mul_ediv_left x _ (by omega)]
      omega
    · have s := p2_s n0
      have l := p2_le (k := n + 1) (m := k) (by omega) (by omega)
      have l2 := p2_le (k := n) (m := k) (by omega) (by omega)
      rw [bit_0 (by have := p2_pos n; omega) (by omega), bit_0 hx.1 (by omega)]
/-- a set's number out of its signs -/
def enc (g : Int → Int) (n : Int) : Int := sm (fun k => g k * p2 k) n
theorem enc_ok {g : Int → Int} (n0 : 0 ≤ n) (hg : ∀ k, 0 ≤ k → k < n → g k = 0 ∨ g k = 1) : (0 ≤ enc g n ∧ enc g n < p2 n) ∧ ∀ k, 0 ≤ k → k < n → bit (enc g n) k = g k := by
  have key : ∀ d : Nat, (d : Int) ≤ n → (0 ≤ enc g d ∧ enc g d < p2 d) ∧ ∀ k, 0 ≤ k → k < (d : Int) → bit (enc g d) k = g k := by
    intro d
    induction d with
    | zero => intro _; exact ⟨⟨Int.le_refl _, p2_pos _⟩, fun k a b => by omega⟩
    | succ d ih =>
      intro hd
      obtain ⟨i1, i2⟩ := ih (by omega)
      have es : enc g ((d + 1 : Nat) : Int) = enc g d + g d * p2 d := by
        unfold enc
        rw [show ((d + 1 : Nat) : Int) = (d : Int) + 1 by omega, sm_s _ (by omega)]
      have ps : p2 ((d + 1 : Nat) : Int) = 2 * p2 d := by
        rw [show ((d + 1 : Nat) : Int) = (d : Int) + 1 by omega, p2_s (by omega)]
      have pd := p2_pos (d : Int)
      rw [es, ps]
      rcases hg d (by omega) (by omega) with z | z
      · rw [z, Int.zero_mul, Int.add_zero]
        refine ⟨by omega, fun k a b => ?_⟩
        by_cases e : k = d
        · rw [e, z]
          exact bit_0 i1.1 i1.2
        · exact i2 k a (by omega)
      · rw [z, Int.one_mul]
        refine ⟨by omega, fun k a b => ?_⟩
        rw [bit_add (by omega) a i1]
        by_cases e : k = d
        · rw [if_pos e, e, z]
        · rw [if_neg e]
          exact i2 k a (by omega)
  have z := key n.toNat (by omega)
  rw [Int.toNat_of_nonneg n0] at z
  exact z
theorem sm_lim {f : Int → Int} (n0 : 0 ≤ n) (nm : n ≤ m) (h : ∀ j, n ≤ j → j < m → 0 ≤ f j) : sm f n ≤ sm f m := by
  refine loopF (P := fun z => sm f n ≤ sm f (m - (z - n))) (a := n) (N := m) nm ?_ ?_ |> fun z => by rw [Int.sub_self, Int.sub_zero] at z; exact z
  · rw [show m - (m - n) = n by omega]
    exact Int.le_refl _
  · intro z z0 z1 ih
    have := h (m - (z + 1 - n)) (by omega) (by omega)
    rw [show m - (z - n) = (m - (z + 1 - n)) + 1 by omega, sm_s _ (by omega)]
    omega
theorem sz_n {set : Int} (n0 : 0 ≤ n) (n1 : n ≤ 12) (h0 : 0 ≤ set) (h1 : set < p2 n) : szI set = sm (fun k => bit set k) n := by
  unfold szI
  exact sm_ext n0 n1 (fun j j0 j1 => bit_0 h0 (by have := p2_le n0 j0; omega))
end Bt
section Gr
variable {f g sp : Int → Int} {n q t : Int}
def gS (f g : Int → Int) (n : Int) : Int := sm (fun k => if g k = 1 then f k else 0) n
/-- the greatest t of the numbers are taken, and fewer would not do -/
def Gr (f : Int → Int) (n q : Int) (g : Int → Int) (t : Int) : Prop := (∀ k, 0 ≤ k → k < n → g k = 0 ∨ g k = 1) ∧ sm g n = t ∧ (∃ m, 0 ≤ m ∧ ∀ k, 0 ≤ k → k < n → (g k = 1 → m ≤ f k) ∧ (g k = 0 → f k ≤ m)) ∧ ∀ set, szI set < t → smI f n set < q
theorem Gr.opt (h : Gr f n q g t) (n0 : 0 ≤ n) (n1 : n ≤ 12) {set : Int} (hs : szI set ≤ t) : smI f n set ≤ gS f g n := by
  obtain ⟨g01, gt, ⟨m, m0, hm⟩, -⟩ := h
  have a := sm_le (f := fun k => (if bit set k = 1 then f k else 0) + m * g k) (g := fun k => (if g k = 1 then f k else 0) + m * bit set k) (k := n) (fun k k0 k1 => by
    have hk := hm k k0 k1
    show (if bit set k = 1 then f k else 0) + m * g k ≤ (if g k = 1 then f k else 0) + m * bit set k
    rcases g01 k k0 k1 with z | z
    · rcases bit_01 set k with y | y
      · rw [z, y]
        exact Int.le_refl _
      · have := hk.2 z
        rw [z, y, if_pos rfl, if_neg (by decide), Int.mul_zero, Int.mul_one]
        omega
    · rcases bit_01 set k with y | y
      · have := hk.1 z
        rw [z, y, if_pos rfl, if_neg (by decide), Int.mul_zero, Int.mul_one]
        omega
      · rw [z, y]
        exact Int.le_refl _)
  rw [sm_add, sm_add, sm_mul, sm_mul, gt] at a
  have b : sm (bit set) n ≤ sm (bit set) 12 := sm_lim (f := bit set) n0 n1 (fun j _ _ => by
    have := bit_01 set j
    omega)
  have hs2 : sm (bit set) 12 ≤ t := hs
  have c : m * sm (bit set) n ≤ m * t := Int.mul_le_mul_of_nonneg_left (by omega) m0
  have a2 : smI f n set + m * t ≤ gS f g n + m * sm (bit set) n := a
  omega
theorem Gr.start (q1 : 1 ≤ q) (hf : ∀ k, 0 ≤ k → k < n → 0 ≤ f k ∧ f k ≤ 99999) : Gr f n q (fun _ => 0) 0 := ⟨fun _ _ _ => Or.inl rfl, sm_zero (fun _ _ _ => rfl), ⟨99999, by decide, fun k k0 k1 => ⟨fun z => by
  have z : (0 : Int) = 1 := z
  omega, fun _ => (hf k k0 k1).2⟩⟩, fun set hs => by
  have := sz_bd set
  omega⟩
theorem Gr.step (h : Gr f n q g t) (n0 : 0 < n) (n1 : n ≤ 12) (hf : ∀ k, 0 ≤ k → k < n → 0 ≤ f k ∧ f k ≤ 99999) (hsp : ∀ k, 0 ≤ k → k < n → sp k = if g k = 1 then 0 else f k) (hq : gS f g n < q) (hT : q ≤ sm f n) : Gr f n q (upI g (amx sp n) 1) (t + 1) ∧ gS f (upI g (amx sp n) 1) n = gS f g n + sp (amx sp n) ∧ ∀ k, 0 ≤ k → k < n → upI sp (amx sp n) 0 k = if upI g (amx sp n) 1 k = 1 then 0 else f k := by
  have ho : ∀ set, szI set ≤ t → smI f n set ≤ gS f g n := fun set hs => h.opt (by omega) n1 hs
  obtain ⟨g01, gt, ⟨m, m0, hm⟩, hL⟩ := h
  obtain ⟨b1, b2, b3⟩ := amx_ok (r := sp) n0
  generalize amx sp n = b at b1 b2 b3 ⊢
  have hpos : 0 < sp b := by
    apply Classical.byContradiction
    intro z
    have a := sm_le (f := f) (g := fun k => if g k = 1 then f k else 0) (k := n) (fun k k0 k1 => by
      show f k ≤ if g k = 1 then f k else 0
      have := b2 k k0 k1
      have := hsp k k0 k1
      by_cases y : g k = 1
      · rw [if_pos y]
        exact Int.le_refl _
      · rw [if_neg y] at this ⊢
        omega)
    unfold gS at hq
    omega
  have e := hsp b b1.1 b1.2
  have gb : g b ≠ 1 := fun z => by
    rw [if_pos z] at e
    omega
  rw [if_neg gb] at e
  have gb0 : g b = 0 := by
    rcases g01 b b1.1 b1.2 with z | z
    · exact z
    · exact absurd z gb
  refine ⟨⟨fun k k0 k1 => ?_, ?_, ⟨f b, (hf b b1.1 b1.2).1, fun k k0 k1 => ?_⟩, fun set hs => ?_⟩, ?_, fun k k0 k1 => ?_⟩
  · by_cases z : k = b
    · rw [z, upI_eq]
      exact Or.inr rfl
    · rw [upI_ne z]
      exact g01 k k0 k1
  · rw [sm_up b1.1 b1.2, gt, gb0]
    omega
  · by_cases z : k = b
    · rw [z]
      exact ⟨fun _ => Int.le_refl _, fun _ => Int.le_refl _⟩
    · rw [upI_ne z]
      refine ⟨fun y => ?_, fun y => ?_⟩
      · have a1 := (hm k k0 k1).1 y
        have a2 := (hm b b1.1 b1.2).2 gb0
        omega
      · have a1 := hsp k k0 k1
        rw [if_neg (by omega)] at a1
        have a2 := b2 k k0 k1
        omega
  · have := ho set (by omega)
    omega
  · have e2 : gS f (upI g b 1) n = sm (fun k => if k = b then f b else (fun k => if g k = 1 then f k else 0) k) n := sm_congr (fun k k0 k1 => by
      show (if upI g b 1 k = 1 then f k else 0) = if k = b then f b else if g k = 1 then f k else 0
      by_cases z : k = b
      · rw [if_pos z, z, upI_eq, if_pos rfl]
      · rw [if_neg z, upI_ne z])
    rw [e2, sm_if b1.1 b1.2]
    show _ + f b - (if g b = 1 then f b else 0) = _
    rw [if_neg gb, e]
    unfold gS
    omega
  · by_cases z : k = b
    · rw [z, upI_eq, upI_eq, if_pos rfl]
    · rw [upI_ne z, upI_ne z]
      exact hsp k k0 k1
theorem Gr.full (h : Gr f n q g n) (n0 : 0 ≤ n) : gS f g n = sm f n := by
  obtain ⟨g01, gt, -, -⟩ := h
  refine sm_congr (fun k k0 k1 => ?_)
  show (if g k = 1 then f k else 0) = f k
  rcases g01 k k0 k1 with z | z
  · have a := sm_le (f := upI g k 1) (g := fun _ => 1) (k := n) (fun j j0 j1 => by
      show upI g k 1 j ≤ 1
      by_cases y : j = k
      · rw [y, upI_eq]
        exact Int.le_refl _
      · rw [upI_ne y]
        have := g01 j j0 j1
        omega)
    have b := sm_hi (f := fun _ => (1 : Int)) (k := n) (hi := 1) n0 (fun _ _ _ => Int.le_refl _)
    rw [sm_up k0 k1, gt, z] at a
    omega
  · rw [if_pos z]
theorem Gr.fin (h : Gr f n q g t) (n0 : 0 ≤ n) (n1 : n ≤ 12) (q1 : 1 ≤ q) (hq : q ≤ gS f g n) : fwA f n q = t := by
  obtain ⟨g01, gt, -, hL⟩ := h
  obtain ⟨e1, e2⟩ := enc_ok n0 g01
  have zs : szI (enc g n) = t := by
    rw [sz_n n0 n1 e1.1 e1.2, ← gt]
    exact sm_congr (fun k k0 k1 => e2 k k0 k1)
  have ms : smI f n (enc g n) = gS f g n := sm_congr (fun k k0 k1 => by rw [e2 k k0 k1])
  have hp := p2_pos n
  have e0 : enc g n ≠ 0 := fun z => by
    have : smI f n 0 = 0 := sm_zero (fun k k0 k1 => by
      rw [if_neg (by rw [bit_0 (Int.le_refl _) (p2_pos k)]; decide)])
    rw [z] at ms
    omega
  have key := itr_ind (f := fwS f n q) (a := (12 : Int)) (fun m x => x ≤ 12 ∧ (∀ j, 0 ≤ j → j < m → q ≤ smI f n (j + 1) → x ≤ szI (j + 1)) ∧ (x = 12 ∨ ∃ j, x = szI j ∧ q ≤ smI f n j)) ⟨Int.le_refl _, fun j a b => by omega, Or.inl rfl⟩ (n := p2 n - 1) (by omega) (fun m x m0 m1 hx => by
    obtain ⟨x1, x2, x3⟩ := hx
    unfold fwS
    by_cases z : szI (m + 1) < x ∧ q ≤ smI f n (m + 1)
    · rw [if_pos z]
      refine ⟨by omega, fun j j0 j1 hj => ?_, Or.inr ⟨_, rfl, z.2⟩⟩
      by_cases y : j = m
      · rw [y]
        exact Int.le_refl _
      · have := x2 j j0 (by omega) hj
        omega
    · rw [if_neg z]
      refine ⟨x1, fun j j0 j1 hj => ?_, x3⟩
      by_cases y : j = m
      · rw [y] at hj ⊢
        have : ¬ szI (m + 1) < x := fun w => z ⟨w, hj⟩
        omega
      · exact x2 j j0 (by omega) hj)
  obtain ⟨k1, k2, k3⟩ := key
  have u := k2 (enc g n - 1) (by omega) (by omega) (by rw [show enc g n - 1 + 1 = enc g n by omega, ms]; exact hq)
  rw [show enc g n - 1 + 1 = enc g n by omega, zs] at u
  have t12 := sz_bd (enc g n)
  have u : fwA f n q ≤ t := u
  rcases k3 with z | z
  · have z : fwA f n q = 12 := z
    omega
  · obtain ⟨j, z1, z2⟩ := z
    have z1 : fwA f n q = szI j := z1
    have : ¬ szI j < t := fun w => by
      have := hL j w
      omega
    omega
end Gr
section Ch
variable {D : Int} {σ : Hp} {A : St} {i : Nat} {f g sp : Int → Int} {n q t : Int}
/-- the loans that are looked at -/
def Lk (σ : Hp) (n : Int) (sp : Int → Int) : Prop := σ.I 4 0 4 = n ∧ ∀ k, 0 ≤ k → k < n → σ.I 33 0 k = sp k
theorem R_look {l s : Int} (h : Cl D σ i A) (hl : 0 ≤ l ∧ l < 6) (hs : iR s) : Cv m_X4_look 1 0 0 [vR (some (4, 0)), vR (some (6, i)), vI l, vI s] σ none (fun τ => Fm [4, 33] σ τ ∧ Lk τ (A 7) (unr A l s)) := by
  have h' := h
  obtain ⟨hD, hW, hR, hS, hI⟩ := h
  have hn := hI.n
  obtain ⟨n0, n1, n2, n3, n4, n5, n6, n7, n8⟩ := hR.1
  show V _ 1 0 0 0 [some (vR (some (4, 0))), some (vR (some (6, i))), some (vI l), some (vI s), none] [] σ _
  refine V_aldn0 a_X4_look_0 ?_
  refine V_aldn1 a_X4_look_1 ?_
  refine V_fin a_X4_look_2 f_X4_15 rfl hW ?_
  refine V_iconst a_X4_look_5 ?_
  refine V_ialdE a_X4_look_6 rfl (by omega) n3 ?_
  refine V_putI a_X4_look_7 f_X4_20 rfl ?_
  refine V_iconst a_X4_look_10 ?_
  refine V_ist4 a_X4_look_11 ?_
  refine loopI (P := fun k => ∀ τ, Fm [4, 33] σ τ → τ.I 4 0 4 = A 7 → (∀ x, 0 ≤ x → x < k → τ.I 33 0 x = unr A l s x) → V _ 1 0 0 13 [some (vR (some (4, 0))), some (vR (some (6, i))), some (vI l), some (vI s), some (vI k)] [] τ _) (N := A 7) (by omega) ?_ ?_ _ (Fm.setI (by decide)) setI_I (fun x _ _ => by omega)
  · intro τ f h4 hx
    have hW := f.wf hW
    refine V_ild4 a_X4_look_13 ?_
    refine V_aldn0 a_X4_look_15 ?_
    refine V_getIE a_X4_look_16 f_X4_20 rfl h4 ?_
    refine V_icmp_ge_t a_X4_look_19 (by omega) (by omega) ?_
    exact V_ret a_X4_look_43 (⟨rfl, f, h4, hx⟩)
  · intro k k0 k1 ih τ f h4 hx
    have hc : Cl D τ i A := h'.fm f (by decide)
    have hW := f.wf hW
    have ru := R_unrecalledIn (k := k) (l := l) (s := s) hc ⟨k0, k1⟩ hl hs
    have ih2 := ih (τ.setI 33 0 k (unr A l s k)) (f.trans (Fm.setI (by decide))) h4 (fun x x0 x1 => by
      by_cases z : x = k
      · rw [z, setI_I]
      · rw [setI_ne z]
        exact hx x x0 (by omega))
    refine V_ild4 a_X4_look_13 ?_
    refine V_aldn0 a_X4_look_15 ?_
    refine V_getIE a_X4_look_16 f_X4_20 rfl h4 ?_
    refine V_icmp_ge_f a_X4_look_19 (by omega) (by omega) ?_
    refine V_aldn0 a_X4_look_22 ?_
    refine V_fin a_X4_look_23 f_X4_9 rfl hW ?_
    refine V_ild4 a_X4_look_26 ?_
    refine V_aldn1 a_X4_look_28 ?_
    refine V_ild4 a_X4_look_29 ?_
    refine V_ildn2 a_X4_look_31 ?_
    refine V_ildn3 a_X4_look_32 ?_
    refine V_v3R a_X4_look_33 c_X4_24 ru ?_
    refine V_iast a_X4_look_36 rfl (by omega) ?_
    refine V_inc4 a_X4_look_37 ?_
    refine V_goto a_X4_look_40 ?_
    exact ih2
theorem R_takeGreatest (hW : WF σ) (h : Lk σ n sp) (hn : 1 ≤ n ∧ n ≤ 12) (hb : ∀ k, 0 ≤ k → k < n → 0 ≤ sp k ∧ sp k ≤ 99999) : Rt m_X4_takeGreatest 0 0 0 [vR (some (4, 0))] σ (some (vI (sp (amx sp n)))) (σ.setI 33 0 (amx sp n) 0) := by
  obtain ⟨h4, hx⟩ := h
  have ho := amx_ok (r := sp) (n := n) (by omega)
  show V _ 0 0 0 0 [some (vR (some (4, 0))), none, none] [] σ _
  refine V_iconst a_X4_takeGreatest_0 ?_
  refine V_istn1 a_X4_takeGreatest_1 ?_
  refine V_iconst a_X4_takeGreatest_2 ?_
  refine V_istn2 a_X4_takeGreatest_3 ?_
  refine loopF (P := fun k => V _ 0 0 0 4 [some (vR (some (4, 0))), some (vI (amxK sp (k - 1))), some (vI k)] [] σ _) (a := 1) (N := n) (by omega) ?_ ?_
  · show V _ 0 0 0 4 [some (vR (some (4, 0))), some (vI (amx sp n)), some (vI n)] [] σ _
    refine V_ildn2 a_X4_takeGreatest_4 ?_
    refine V_aldn0 a_X4_takeGreatest_5 ?_
    refine V_getIE a_X4_takeGreatest_6 f_X4_20 rfl h4 ?_
    refine V_icmp_ge_t a_X4_takeGreatest_9 (by omega) (by omega) ?_
    refine V_aldn0 a_X4_takeGreatest_35 ?_
    refine V_fin a_X4_takeGreatest_36 f_X4_9 rfl hW ?_
    refine V_ildn1 a_X4_takeGreatest_39 ?_
    refine V_ialdE a_X4_takeGreatest_40 rfl (by omega) (hx _ (by omega) (by omega)) ?_
    refine V_istn2 a_X4_takeGreatest_41 ?_
    refine V_aldn0 a_X4_takeGreatest_42 ?_
    refine V_fin a_X4_takeGreatest_43 f_X4_9 rfl hW ?_
    refine V_ildn1 a_X4_takeGreatest_46 ?_
    refine V_iconst a_X4_takeGreatest_47 ?_
    refine V_iast a_X4_takeGreatest_48 rfl (by omega) ?_
    refine V_ildn2 a_X4_takeGreatest_49 ?_
    exact V_iret a_X4_takeGreatest_50 (⟨rfl, rfl⟩)
  · intro k k0 k1 ih
    have hk := amxK_ok (r := sp) (k := k - 1) (by omega)
    rw [show k + 1 - 1 = (k - 1) + 1 by omega, amxK_s (by omega), show k - 1 + 1 = k by omega] at ih
    generalize amxK sp (k - 1) = b at hk ih ⊢
    have b1 := hb k (by omega) k1
    have b2 := hb b hk.1.1 (by omega)
    by_cases z : sp k > sp b
    · rw [if_pos z] at ih
      refine V_ildn2 a_X4_takeGreatest_4 ?_
      refine V_aldn0 a_X4_takeGreatest_5 ?_
      refine V_getIE a_X4_takeGreatest_6 f_X4_20 rfl h4 ?_
      refine V_icmp_ge_f a_X4_takeGreatest_9 (by omega) (by omega) ?_
      refine V_aldn0 a_X4_takeGreatest_12 ?_
      refine V_fin a_X4_takeGreatest_13 f_X4_9 rfl hW ?_
      refine V_ildn2 a_X4_takeGreatest_16 ?_
      refine V_ialdE a_X4_takeGreatest_17 rfl (by omega) (hx _ (by omega) (by omega)) ?_
      refine V_aldn0 a_X4_takeGreatest_18 ?_
      refine V_fin a_X4_takeGreatest_19 f_X4_9 rfl hW ?_
      refine V_ildn1 a_X4_takeGreatest_22 ?_
      refine V_ialdE a_X4_takeGreatest_23 rfl (by omega) (hx _ (by omega) (by omega)) ?_
      refine V_icmp_le_f a_X4_takeGreatest_24 (by omega) (by omega) ?_
      refine V_ildn2 a_X4_takeGreatest_27 ?_
      refine V_istn1 a_X4_takeGreatest_28 ?_
      refine V_inc2 a_X4_takeGreatest_29 ?_
      refine V_goto a_X4_takeGreatest_32 ?_
      exact ih
    · rw [if_neg z] at ih
      refine V_ildn2 a_X4_takeGreatest_4 ?_
      refine V_aldn0 a_X4_takeGreatest_5 ?_
      refine V_getIE a_X4_takeGreatest_6 f_X4_20 rfl h4 ?_
      refine V_icmp_ge_f a_X4_takeGreatest_9 (by omega) (by omega) ?_
      refine V_aldn0 a_X4_takeGreatest_12 ?_
      refine V_fin a_X4_takeGreatest_13 f_X4_9 rfl hW ?_
      refine V_ildn2 a_X4_takeGreatest_16 ?_
      refine V_ialdE a_X4_takeGreatest_17 rfl (by omega) (hx _ (by omega) (by omega)) ?_
      refine V_aldn0 a_X4_takeGreatest_18 ?_
      refine V_fin a_X4_takeGreatest_19 f_X4_9 rfl hW ?_
      refine V_ildn1 a_X4_takeGreatest_22 ?_
      refine V_ialdE a_X4_takeGreatest_23 rfl (by omega) (hx _ (by omega) (by omega)) ?_
      refine V_icmp_le_t a_X4_takeGreatest_24 (by omega) (by omega) ?_
      refine V_inc2 a_X4_takeGreatest_29 ?_
      refine V_goto a_X4_takeGreatest_32 ?_
      exact ih
theorem R_fewest (hW : WF σ) (h : Lk σ n f) (hn : 0 ≤ n ∧ n ≤ 12) (hb : ∀ k, 0 ≤ k → k < n → 0 ≤ f k ∧ f k ≤ 99999) (hq : 1 ≤ q ∧ q ≤ 99999) (hT : q ≤ sm f n) : Cv m_X4_fewest 1 0 0 [vR (some (4, 0)), vI q] σ (some (vI (fwA f n q))) (fun τ => Fm [33] σ τ) := by
  show V _ 1 0 0 0 [some (vR (some (4, 0))), some (vI q), none, none] [] σ _
  have g0 : gS f (fun _ => 0) n = 0 := sm_zero (fun k _ _ => if_neg (show ¬ (0 : Int) = 1 by decide))
  refine V_iconst a_X4_fewest_0 ?_
  refine V_istn2 a_X4_fewest_1 ?_
  refine V_iconst a_X4_fewest_2 ?_
  refine V_istn3 a_X4_fewest_3 ?_
  skip
  refine (fun z => by
    have z := z σ (fun _ => 0) (Gr.start hq.1 hb) (Fm.refl _ _) h.1 (fun k k0 k1 => (h.2 k k0 k1).trans (if_neg (show ¬ (0 : Int) = 1 by decide)).symm)
    rw [g0] at z
    exact z) (loopI (P := fun t => ∀ τ g, Gr f n q g t → Fm [33] σ τ → τ.I 4 0 4 = n → (∀ k, 0 ≤ k → k < n → τ.I 33 0 k = if g k = 1 then 0 else f k) → V m_X4_fewest 1 0 0 4 [some (vR (some (4, 0))), some (vI q), some (vI t), some (vI (gS f g n))] [] τ (fun r τ => r = .inl (some (vI (fwA f n q))) ∧ Fm [33] σ τ)) (N := n) hn.1 ?_ ?_)
  · intro τ g hg fr h4 hx
    have hW := fr.wf hW
    rw [hg.fin hn.1 hn.2 hq.1 (by rw [hg.full hn.1]; exact hT)]
    refine V_ildn2 a_X4_fewest_4 ?_
    refine V_aldn0 a_X4_fewest_5 ?_
    refine V_getIE a_X4_fewest_6 f_X4_20 rfl h4 ?_
    refine V_icmp_ge_t a_X4_fewest_9 (by omega) (by omega) ?_
    refine V_ildn2 a_X4_fewest_30 ?_
    exact V_iret a_X4_fewest_31 (⟨rfl, fr⟩)
  · intro t t0 t1 ih τ g hg fr h4 hx
    have hW := fr.wf hW
    have hgb := sm_bd (f := fun k => if g k = 1 then f k else 0) (k := n) (lo := 0) (hi := 99999) hn.1 (fun k k0 k1 => by
      have := hb k k0 k1
      show 0 ≤ (if g k = 1 then f k else 0) ∧ (if g k = 1 then f k else 0) ≤ 99999
      split <;> omega)
    have hgb : n * 0 ≤ gS f g n ∧ gS f g n ≤ n * 99999 := hgb
    by_cases z : q ≤ gS f g n
    · rw [hg.fin hn.1 hn.2 hq.1 z]
      refine V_ildn2 a_X4_fewest_4 ?_
      refine V_aldn0 a_X4_fewest_5 ?_
      refine V_getIE a_X4_fewest_6 f_X4_20 rfl h4 ?_
      refine V_icmp_ge_f a_X4_fewest_9 (by omega) (by omega) ?_
      refine V_ildn3 a_X4_fewest_12 ?_
      refine V_ildn1 a_X4_fewest_13 ?_
      refine V_icmp_ge_t a_X4_fewest_14 (by omega) (by omega) ?_
      refine V_ildn2 a_X4_fewest_30 ?_
      exact V_iret a_X4_fewest_31 (⟨rfl, fr⟩)
    · have st := hg.step (sp := fun k => if g k = 1 then 0 else f k) (by omega) hn.2 hb (fun k _ _ => rfl) (by omega) hT
      have rt := R_takeGreatest (σ := τ) (n := n) (sp := fun k => if g k = 1 then 0 else f k) hW ⟨h4, hx⟩ (by omega) (fun k k0 k1 => by
        have := hb k k0 k1
        show 0 ≤ (if g k = 1 then 0 else f k) ∧ (if g k = 1 then 0 else f k) ≤ 99999
        split <;> omega)
      have hbm := (amx_ok (r := fun k => if g k = 1 then 0 else f k) (n := n) (by omega)).1
      generalize hsp : (fun k => if g k = 1 then 0 else f k) = sp at st rt hbm
      have hx : ∀ k, 0 ≤ k → k < n → τ.I 33 0 k = sp k := fun k k0 k1 => by
        rw [← hsp]
        exact hx k k0 k1
      generalize amx sp n = b at st rt hbm
      have ih2 := ih (τ.setI 33 0 b 0) (upI g b 1) st.1 (fr.trans (Fm.setI (by decide))) h4 (fun k k0 k1 => by
        rw [← st.2.2 k k0 k1]
        by_cases y : k = b
        · rw [y, setI_I, upI_eq]
        · rw [setI_ne y, upI_ne y]
          exact hx k k0 k1)
      rw [st.2.1] at ih2
      refine V_ildn2 a_X4_fewest_4 ?_
      refine V_aldn0 a_X4_fewest_5 ?_
      refine V_getIE a_X4_fewest_6 f_X4_20 rfl h4 ?_
      refine V_icmp_ge_f a_X4_fewest_9 (by omega) (by omega) ?_
      refine V_ildn3 a_X4_fewest_12 ?_
      refine V_ildn1 a_X4_fewest_13 ?_
      refine V_icmp_ge_f a_X4_fewest_14 (by omega) (by omega) ?_
      refine V_ildn3 a_X4_fewest_17 ?_
      refine V_aldn0 a_X4_fewest_18 ?_
      refine V_v0R a_X4_fewest_19 c_X4_28 rt ?_
      refine V_iadd a_X4_fewest_22 ?_
      refine V_istn3 a_X4_fewest_23 ?_
      refine V_inc2 a_X4_fewest_24 ?_
      refine V_goto a_X4_fewest_27 ?_
      exact ih2
end Ch

