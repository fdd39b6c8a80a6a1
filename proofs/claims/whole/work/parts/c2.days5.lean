section Mp
variable {B C : St} {x y l v n t j : Int}
theorem pD_map (hs : ∀ j, 0 ≤ j → j < 83 → j ≠ 7 → C j = B j) (hc : ∀ c, 0 ≤ c → c < 23 → C (83 + 23 * x + c) = B (83 + 23 * y + c)) (hy : 0 ≤ B (83 + 23 * y + 2) ∧ B (83 + 23 * y + 2) < 4) (hl : 0 ≤ l ∧ l < 6) : pD C x l v n j = pD B y l v n j := by
  unfold pD kepV feeV
  rw [hc 1 (by decide) (by decide), hc 2 (by decide) (by decide), hc 3 (by decide) (by decide), hs (15 + B (83 + 23 * y + 2)) (by omega) (by omega) (by omega), hs (19 + B (83 + 23 * y + 2)) (by omega) (by omega) (by omega), hs (27 + l) (by omega) (by omega) (by omega)]
theorem bE_lo (hs : ∀ j, 0 ≤ j → j < 83 → j ≠ 7 → C j = B j) (hc : ∀ c, 0 ≤ c → c < 23 → C (83 + 23 * x + c) = B (83 + 23 * y + c)) (hy : 0 ≤ B (83 + 23 * y + 2) ∧ B (83 + 23 * y + 2) < 4) (hl : 0 ≤ l ∧ l < 6) (x0 : 0 ≤ x) (y0 : 0 ≤ y) (hj : j < 83) : bE C x l t j = bE B y l t j := by
  have e11 : C (83 + 23 * x + 11 + l) = B (83 + 23 * y + 11 + l) := by
    rw [Int.add_assoc (83 + 23 * x) 11 l, Int.add_assoc (83 + 23 * y) 11 l]
    exact hc _ (by omega) (by omega)
  have e17 : C (83 + 23 * x + 17 + l) = B (83 + 23 * y + 17 + l) := by
    rw [Int.add_assoc (83 + 23 * x) 17 l, Int.add_assoc (83 + 23 * y) 17 l]
    exact hc _ (by omega) (by omega)
  unfold bE bD costA
  rw [e11, e17, hc 1 (by decide) (by decide), hc 2 (by decide) (by decide), hs (15 + B (83 + 23 * y + 2)) (by omega) (by omega) (by omega), hs 4 (by decide) (by decide) (by decide), if_neg (show ¬ j = 83 + 23 * x + 5 + l by omega), if_neg (show ¬ j = 83 + 23 * x + 11 + l by omega), if_neg (show ¬ j = 83 + 23 * x + 17 + l by omega), if_neg (show ¬ j = 83 + 23 * y + 5 + l by omega), if_neg (show ¬ j = 83 + 23 * y + 11 + l by omega), if_neg (show ¬ j = 83 + 23 * y + 17 + l by omega)]
/-- a buy-in at the loan's own cells -/
def bL (rc du l t c : Int) : Int := if rc = 0 ∨ t ≤ du then 0 else if c = 5 + l then -rc else if c = 11 + l then -rc else if c = 17 + l then -1 - du else 0
theorem bE_hi {c : Int} (hb : 0 ≤ B (83 + 23 * x + 1) ∧ B (83 + 23 * x + 1) < 4) (x0 : 0 ≤ x) (c0 : 0 ≤ c) : bE B x l t (83 + 23 * x + c) = bL (B (83 + 23 * x + 11 + l)) (B (83 + 23 * x + 17 + l)) l t c := by
  unfold bE bL bD
  rw [if_neg (show ¬ 83 + 23 * x + c = 79 + B (83 + 23 * x + 1) by omega), if_neg (show ¬ 83 + 23 * x + c = 14 by omega), if_neg (show ¬ 83 + 23 * x + c = 10 by omega)]
  by_cases z : B (83 + 23 * x + 11 + l) = 0 ∨ t ≤ B (83 + 23 * x + 17 + l)
  · rw [if_pos z, if_pos z]
  · rw [if_neg z, if_neg z]
    by_cases a : c = 5 + l
    · rw [if_pos a, if_pos (by omega)]
    · rw [if_neg a, if_neg (by omega)]
      by_cases b : c = 11 + l
      · rw [if_pos b, if_pos (by omega)]
      · rw [if_neg b, if_neg (by omega)]
        by_cases d : c = 17 + l
        · rw [if_pos d, if_pos (by omega)]
        · rw [if_neg d, if_neg (by omega)]
end Mp
section Dn
variable {B C : St}
theorem dayU_0 (hB : DyI B) {j : Int} (h6 : j ≠ 6) (h1 : ¬ (9 ≤ j ∧ j < 15)) (h2 : ¬ (73 ≤ j ∧ j < 83)) (h3 : j < 83) (h0 : 0 ≤ j) : dayU B j = B j := by
  have hB' := hB
  obtain ⟨a1, a7, al⟩ := hB
  rw [dayU_ad hB', if_neg h6, sm_zero (fun k k0 k1 => sm_zero (fun l l0 l1 => by
    have := (al k k0 k1).1
    rw [pD_0 (by omega) (by omega) (by omega) (by omega), bE_0 (by omega) (by omega) (by omega) (by omega) (by omega) (by omega)]
    rfl))]
  omega
theorem dayU_L (hB : DyI B) {k c : Int} (hk : 0 ≤ k ∧ k < B 7) (hc : 0 ≤ c ∧ c < 23) : dayU B (83 + 23 * k + c) = B (83 + 23 * k + c) + sm (fun l => bL (B (83 + 23 * k + 11 + l)) (B (83 + 23 * k + 17 + l)) l (B 6 + 1) c) (B 1) := by
  have hB' := hB
  obtain ⟨a1, a7, al⟩ := hB
  rw [dayU_ad hB', if_neg (by omega), sm_one (b := k) hk.1 hk.2 (fun k' k0 k1 hne => sm_zero (fun l l0 l1 => by
    have := (al k' k0 k1).1
    rw [pD_0 (by omega) (by omega) (by omega) (by omega), bE_0 (by omega) (by omega) (by omega) (by omega) (by omega) (by omega)]
    rfl)), sm_congr (g := fun l => bL (B (83 + 23 * k + 11 + l)) (B (83 + 23 * k + 17 + l)) l (B 6 + 1) c) (fun l l0 l1 => by
    have := (al k hk.1 hk.2).1
    rw [pD_0 (by omega) (by omega) (by omega) (by omega), bE_hi this hk.1 hc.1, Int.zero_add])]
  omega
/-- recalled shares are shares -/
def SlN (B : St) : Prop := ∀ k l, 0 ≤ k → k < B 7 → 0 ≤ l → l < B 1 → 0 ≤ B (83 + 23 * k + 11 + l) ∧ B (83 + 23 * k + 11 + l) ≤ B (83 + 23 * k + 5 + l)
theorem emp_0 (hS : SlN B) {k l : Int} (hk : 0 ≤ k ∧ k < B 7) (hl : 0 ≤ l ∧ l < B 1) (hq : quanA B k = 0) : B (83 + 23 * k + 5 + l) = 0 ∧ B (83 + 23 * k + 11 + l) = 0 := by
  have a := sm_le1 (f := fun l => B (83 + 23 * k + 5 + l)) (n := B 1) (b := l) hl.1 hl.2 (fun j j0 j1 => by
    have := hS k j hk.1 hk.2 j0 j1
    show 0 ≤ B _
    omega)
  have a : B (83 + 23 * k + 5 + l) ≤ quanA B k := a
  have b := hS k l hk.1 hk.2 hl.1 hl.2
  omega
theorem pD_v0 {k l n j : Int} : pD B k l 0 n j = 0 := by
  have e : feeV B k 0 = 0 := by
    unfold feeV
    rw [Int.zero_mul, Int.zero_mul]
    rfl
  have e2 : kepV B k l 0 = 0 := by
    unfold kepV
    rw [e, Int.zero_mul]
    rfl
  unfold pD
  rw [e, e2, Int.zero_mul, Int.sub_self, Int.zero_mul]
  split
  · rfl
  · split
    · rfl
    · split
      · rfl
      · split <;> rfl
theorem Cls.dy (h : Cls B C) (hB : DyI B) : DyI C := by
  obtain ⟨hj, h7, p, hp, -, -⟩ := h
  obtain ⟨a1, a7, al⟩ := hB
  have e1 := hj 1 (by decide) (by decide) (by decide)
  refine ⟨by omega, by omega, fun k k0 k1 => ?_⟩
  have w := hp k k0 k1
  rw [w.2 1 (by decide) (by decide), w.2 2 (by decide) (by decide)]
  exact al _ w.1.1 w.1.2
/-- a day of the state, and of the state without its empty loans -/
theorem Cls.day (h : Cls B C) (hB : DyI B) (hS : SlN B) : Cls (dayU B) (dayU C) := by
  have hC := h.dy hB
  obtain ⟨hj, h7, p, hp, hmo, hsu⟩ := h
  have hB' := hB
  obtain ⟨a1, a7, al⟩ := hB
  have e1 := hj 1 (by decide) (by decide) (by decide)
  have e6 := hj 6 (by decide) (by decide) (by decide)
  have b7 : dayU B 7 = B 7 := dayU_0 hB' (by decide) (by decide) (by decide) (by decide) (by decide)
  have c7 : dayU C 7 = C 7 := dayU_0 hC (by decide) (by decide) (by decide) (by decide) (by decide)
  have b1 : dayU B 1 = B 1 := dayU_0 hB' (by decide) (by decide) (by decide) (by decide) (by decide)
  have cell : ∀ x c, 0 ≤ x → x < C 7 → 0 ≤ c → c < 23 → C (83 + 23 * x + c) = B (83 + 23 * p x + c) := fun x c x0 x1 c0 c1 => (hp x x0 x1).2 c c0 c1
  refine ⟨fun j j0 j1 j7 => ?_, by rw [c7, b7]; exact h7, p, fun x x0 x1 => ?_, fun x z x0 xz z1 => ?_, fun F hF => ?_⟩
  · rw [dayU_ad hB', dayU_ad hC, hj j j0 j1 j7, e1, e6]
    have t := hsu (fun k => sm (fun l => pD B k l (B (83 + 23 * k + 5 + l)) 1 j + bE B k l (B 6 + 1) j) (B 1)) (fun k k0 k1 hk => sm_zero (fun l l0 l1 => by
      have z := emp_0 hS ⟨k0, k1⟩ ⟨l0, l1⟩ hk
      rw [z.1, pD_v0]
      unfold bE
      rw [if_pos (Or.inl z.2)]
      rfl))
    rw [← t, sm_congr (f := fun k => sm (fun l => pD C k l (C (83 + 23 * k + 5 + l)) 1 j + bE C k l (B 6 + 1) j) (B 1)) (g := fun x => sm (fun l => pD B (p x) l (B (83 + 23 * p x + 5 + l)) 1 j + bE B (p x) l (B 6 + 1) j) (B 1)) (fun x x0 x1 => sm_congr (fun l l0 l1 => by
      have w := hp x x0 x1
      have hb := al _ w.1.1 w.1.2
      have e5 : C (83 + 23 * x + 5 + l) = B (83 + 23 * p x + 5 + l) := by
        rw [Int.add_assoc (83 + 23 * x) 5 l, Int.add_assoc (83 + 23 * p x) 5 l]
        exact w.2 _ (by omega) (by omega)
      rw [e5, pD_map hj w.2 hb.2 (by omega), bE_lo hj w.2 hb.2 (by omega) x0 w.1.1 j1]))]
  · rw [c7] at x1
    have w := hp x x0 x1
    rw [b7]
    refine ⟨w.1, fun c c0 c1 => ?_⟩
    rw [dayU_L hC ⟨x0, x1⟩ ⟨c0, c1⟩, dayU_L hB' w.1 ⟨c0, c1⟩, w.2 c c0 c1, e1, e6, sm_congr (f := fun l => bL (C (83 + 23 * x + 11 + l)) (C (83 + 23 * x + 17 + l)) l (B 6 + 1) c) (g := fun l => bL (B (83 + 23 * p x + 11 + l)) (B (83 + 23 * p x + 17 + l)) l (B 6 + 1) c) (fun l l0 l1 => by
      have e11 : C (83 + 23 * x + 11 + l) = B (83 + 23 * p x + 11 + l) := by
        rw [Int.add_assoc (83 + 23 * x) 11 l, Int.add_assoc (83 + 23 * p x) 11 l]
        exact w.2 _ (by omega) (by omega)
      have e17 : C (83 + 23 * x + 17 + l) = B (83 + 23 * p x + 17 + l) := by
        rw [Int.add_assoc (83 + 23 * x) 17 l, Int.add_assoc (83 + 23 * p x) 17 l]
        exact w.2 _ (by omega) (by omega)
      rw [e11, e17])]
  · rw [c7] at z1
    exact hmo x z x0 xz z1
  · rw [c7, b7]
    refine hsu F (fun k k0 k1 hk => hF k k0 (by rw [b7]; exact k1) ?_)
    unfold quanA
    rw [b1]
    refine sm_zero (fun l l0 l1 => ?_)
    have z := emp_0 hS ⟨k0, k1⟩ ⟨l0, l1⟩ hk
    have d := dayU_L hB' ⟨k0, k1⟩ (c := 5 + l) ⟨by omega, by omega⟩
    rw [← Int.add_assoc, z.1, sm_zero (fun m m0 m1 => by
      unfold bL
      rw [if_pos (Or.inl (emp_0 hS ⟨k0, k1⟩ ⟨m0, m1⟩ hk).2)])] at d
    exact d
end Dn

