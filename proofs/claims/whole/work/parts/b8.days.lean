/-- a state and what is added to its cells -/
def adD (A : St) (d : Int → Int) : St := fun j => A j + d j
def feeV (A : St) (k v : Int) : Int := (v * A (15 + A (83 + 23 * k + 2)) * (A (19 + A (83 + 23 * k + 2)) - A (83 + 23 * k + 3))).tdiv 3600000
def kepV (A : St) (k l v : Int) : Int := (feeV A k v * A (27 + l)).tdiv 100
/-- what n days of fees for v shares add -/
def pD (A : St) (k l v n j : Int) : Int := if j = 79 + A (83 + 23 * k + 1) then -(feeV A k v * n) else if j = 73 + l then kepV A k l v * n else if j = 12 then (feeV A k v - kepV A k l v) * n else if j = 9 then feeV A k v * n else 0
/-- what a buy-in adds -/
def bD (A : St) (k l j : Int) : Int := if j = 79 + A (83 + 23 * k + 1) then -costA A k l else if j = 14 then costA A k l else if j = 10 then A (83 + 23 * k + 11 + l) else if j = 83 + 23 * k + 5 + l then -A (83 + 23 * k + 11 + l) else if j = 83 + 23 * k + 11 + l then -A (83 + 23 * k + 11 + l) else if j = 83 + 23 * k + 17 + l then -1 - A (83 + 23 * k + 17 + l) else 0
/-- a buy-in on day t, if it is due -/
def bE (A : St) (k l t j : Int) : Int := if A (83 + 23 * k + 11 + l) = 0 ∨ t ≤ A (83 + 23 * k + 17 + l) then 0 else bD A k l j
/-- the cells that no day changes -/
def Sta (A B : St) : Prop := (∀ j, 0 ≤ j → j < 73 → j ≠ 6 → ¬ (9 ≤ j ∧ j < 15) → B j = A j) ∧ ∀ k c, 0 ≤ k → 0 ≤ c → c < 5 → B (83 + 23 * k + c) = A (83 + 23 * k + c)
theorem Sta.refl (A : St) : Sta A A := ⟨fun _ _ _ _ _ => rfl, fun _ _ _ _ _ => rfl⟩
theorem Sta.trans {A B C : St} (h : Sta A B) (h2 : Sta B C) : Sta A C := ⟨fun j a b c d => (h2.1 j a b c d).trans (h.1 j a b c d), fun k c a b d => (h2.2 k c a b d).trans (h.2 k c a b d)⟩
section Ad
variable {A B : St} {k l v n t j : Int}
theorem pD_0 (h : j ≠ 79 + A (83 + 23 * k + 1)) (h2 : j ≠ 73 + l) (h3 : j ≠ 12) (h4 : j ≠ 9) : pD A k l v n j = 0 := by
  unfold pD
  rw [if_neg h, if_neg h2, if_neg h3, if_neg h4]
theorem bE_0 (h : j ≠ 79 + A (83 + 23 * k + 1)) (h2 : j ≠ 14) (h3 : j ≠ 10) (h4 : j ≠ 83 + 23 * k + 5 + l) (h5 : j ≠ 83 + 23 * k + 11 + l) (h6 : j ≠ 83 + 23 * k + 17 + l) : bE A k l t j = 0 := by
  unfold bE bD
  rw [if_neg h, if_neg h2, if_neg h3, if_neg h4, if_neg h5, if_neg h6]
  split <;> rfl
theorem fee_con (h : Sta A B) (hk : 0 ≤ k) (hs : 0 ≤ A (83 + 23 * k + 2) ∧ A (83 + 23 * k + 2) < 4) : feeV B k v = feeV A k v := by
  unfold feeV
  rw [h.2 k 2 hk (by decide) (by decide), h.2 k 3 hk (by decide) (by decide), h.1 (15 + A (83 + 23 * k + 2)) (by omega) (by omega) (by omega) (by omega), h.1 (19 + A (83 + 23 * k + 2)) (by omega) (by omega) (by omega) (by omega)]
theorem pD_con (h : Sta A B) (hk : 0 ≤ k) (hs : 0 ≤ A (83 + 23 * k + 2) ∧ A (83 + 23 * k + 2) < 4) (hl : 0 ≤ l ∧ l < 6) : pD B k l v n j = pD A k l v n j := by
  unfold pD kepV
  rw [fee_con h hk hs, h.2 k 1 hk (by decide) (by decide), h.1 (27 + l) (by omega) (by omega) (by omega) (by omega)]
theorem bE_con (h : Sta A B) (hk : 0 ≤ k) (hs : 0 ≤ A (83 + 23 * k + 2) ∧ A (83 + 23 * k + 2) < 4) (h1 : B (83 + 23 * k + 11 + l) = A (83 + 23 * k + 11 + l)) (h2 : B (83 + 23 * k + 17 + l) = A (83 + 23 * k + 17 + l)) : bE B k l t j = bE A k l t j := by
  unfold bE bD costA
  rw [h1, h2, h.2 k 1 hk (by decide) (by decide), h.2 k 2 hk (by decide) (by decide), h.1 (15 + A (83 + 23 * k + 2)) (by omega) (by omega) (by omega) (by omega), h.1 4 (by decide) (by decide) (by decide) (by decide)]
theorem pay_ad (hb : 0 ≤ B (83 + 23 * k + 1) ∧ B (83 + 23 * k + 1) < 4) (hl : 0 ≤ l ∧ l < 6) : payB k l B = adD B (pD B k l (B (83 + 23 * k + 5 + l)) 1) := by
  have e : payB k l B = upI (upI (upI (upI B (79 + B (83 + 23 * k + 1)) (B (79 + B (83 + 23 * k + 1)) - feeA B k l)) (73 + l) (B (73 + l) + (feeA B k l * B (27 + l)).tdiv 100)) 12 (B 12 + (feeA B k l - (feeA B k l * B (27 + l)).tdiv 100))) 9 (B 9 + feeA B k l) := by
    unfold payB
    rw [upI_ne (j := 9) (by omega), upI_ne (j := 9) (by omega), upI_ne (j := 9) (by omega), upI_ne (j := 12) (by omega), upI_ne (j := 12) (by omega), upI_ne (j := 73 + l) (by omega)]
  rw [e]
  have ef : feeA B k l = feeV B k (B (83 + 23 * k + 5 + l)) := rfl
  have ek : (feeA B k l * B (27 + l)).tdiv 100 = kepV B k l (B (83 + 23 * k + 5 + l)) := rfl
  rw [ek, ef]
  funext j
  unfold adD pD
  by_cases c1 : j = 79 + B (83 + 23 * k + 1)
  · rw [if_pos c1, c1, upI_ne (by omega), upI_ne (by omega), upI_ne (by omega), upI_eq, Int.mul_one]
    omega
  · rw [if_neg c1]
    by_cases c2 : j = 73 + l
    · rw [if_pos c2, c2, upI_ne (by omega), upI_ne (by omega), upI_eq, Int.mul_one]
    · rw [if_neg c2]
      by_cases c3 : j = 12
      · rw [if_pos c3, c3, upI_ne (by omega), upI_eq, Int.mul_one]
      · rw [if_neg c3]
        by_cases c4 : j = 9
        · rw [if_pos c4, c4, upI_eq, Int.mul_one]
        · rw [if_neg c4, upI_ne c4, upI_ne c3, upI_ne c2, upI_ne c1, Int.add_zero]
theorem bin_ad (hk : 0 ≤ k) (hb : 0 ≤ B (83 + 23 * k + 1) ∧ B (83 + 23 * k + 1) < 4) (hl : 0 ≤ l ∧ l < 6) : binB k l B = adD B (bE B k l (B 6)) := by
  unfold binB
  by_cases z : B (83 + 23 * k + 11 + l) = 0 ∨ B 6 ≤ B (83 + 23 * k + 17 + l)
  · rw [if_pos z]
    funext j
    unfold adD bE
    rw [if_pos z, Int.add_zero]
  · rw [if_neg z]
    have hac := binC_ac (l := l) hb
    have e : binC k l B = upI (upI (upI B (79 + B (83 + 23 * k + 1)) (B (79 + B (83 + 23 * k + 1)) - costA B k l)) 14 (B 14 + costA B k l)) 10 (B 10 + B (83 + 23 * k + 11 + l)) := by
      unfold binC
      rw [upI_ne (j := 10) (by omega), upI_ne (j := 10) (by omega), upI_ne (j := 14) (by omega)]
    have e11 := hac (83 + 23 * k + 11 + l) (by omega) (by omega)
    have e5 := hac (83 + 23 * k + 5 + l) (by omega) (by omega)
    have e2 : cbA (binC k l B) k l (B (83 + 23 * k + 11 + l)) = upI (upI (upI (binC k l B) (83 + 23 * k + 5 + l) (B (83 + 23 * k + 5 + l) - B (83 + 23 * k + 11 + l))) (83 + 23 * k + 11 + l) (B (83 + 23 * k + 11 + l) - B (83 + 23 * k + 11 + l))) (83 + 23 * k + 17 + l) (-1) := by
      unfold cbA
      rw [e11, e5, if_pos (Int.sub_self _)]
    rw [e2, e]
    funext j
    unfold adD bE
    rw [if_neg z]
    unfold bD
    by_cases c1 : j = 79 + B (83 + 23 * k + 1)
    · rw [if_pos c1, c1, upI_ne (by omega), upI_ne (by omega), upI_ne (by omega), upI_ne (by omega), upI_ne (by omega), upI_eq]
      omega
    · rw [if_neg c1]
      by_cases c2 : j = 14
      · rw [if_pos c2, c2, upI_ne (by omega), upI_ne (by omega), upI_ne (by omega), upI_ne (by omega), upI_eq]
      · rw [if_neg c2]
        by_cases c3 : j = 10
        · rw [if_pos c3, c3, upI_ne (by omega), upI_ne (by omega), upI_ne (by omega), upI_eq]
        · rw [if_neg c3]
          by_cases c4 : j = 83 + 23 * k + 5 + l
          · rw [if_pos c4, c4, upI_ne (by omega), upI_ne (by omega), upI_eq]
            omega
          · rw [if_neg c4]
            by_cases c5 : j = 83 + 23 * k + 11 + l
            · rw [if_pos c5, c5, upI_ne (by omega), upI_eq]
              omega
            · rw [if_neg c5]
              by_cases c6 : j = 83 + 23 * k + 17 + l
              · rw [if_pos c6, c6, upI_eq]
                omega
              · rw [if_neg c6, upI_ne c6, upI_ne c5, upI_ne c4, upI_ne c3, upI_ne c2, upI_ne c1, Int.add_zero]
end Ad
theorem sm_zero {f : Int → Int} {n : Int} (h : ∀ j, 0 ≤ j → j < n → f j = 0) : sm f n = 0 := by
  rcases lt_ge 0 n with z | z
  · have := sm_bd (f := f) (k := n) (lo := 0) (hi := 0) (by omega) (fun j j0 j1 => by rw [h j j0 j1]; omega)
    omega
  · exact sm_neg _ z
/-- a state of loans, empty ones allowed, as far as days look at it -/
def DyI (A : St) : Prop := (0 ≤ A 1 ∧ A 1 ≤ 6) ∧ (0 ≤ A 7 ∧ A 7 ≤ 12) ∧ ∀ k, 0 ≤ k → k < A 7 → (0 ≤ A (83 + 23 * k + 1) ∧ A (83 + 23 * k + 1) < 4) ∧ (0 ≤ A (83 + 23 * k + 2) ∧ A (83 + 23 * k + 2) < 4)
section Pd
variable {A B : St} {k n t : Int}
theorem Sta.dy (h : Sta A B) (hA : DyI A) : DyI B := by
  obtain ⟨h1, h7, hl⟩ := hA
  have e1 := h.1 1 (by decide) (by decide) (by decide) (by decide)
  have e7 := h.1 7 (by decide) (by decide) (by decide) (by decide)
  unfold DyI
  rw [e1, e7]
  refine ⟨h1, h7, fun k k0 k1 => ?_⟩
  rw [h.2 k 1 k0 (by decide) (by decide), h.2 k 2 k0 (by decide) (by decide)]
  exact hl k k0 k1
/-- one loan's fees of a day -/
theorem payX_ad (hA : DyI A) (hk : 0 ≤ k ∧ k < A 7) (n0 : 0 ≤ n) (n1 : n ≤ A 1) : payX k A n = adD A (fun j => sm (fun l => pD A k l (A (83 + 23 * k + 5 + l)) 1 j) n) ∧ Ac A (payX k A n) := by
  obtain ⟨h1, h7, hl⟩ := hA
  have hb := hl k hk.1 hk.2
  refine itr_ind (f := payB k) (a := A) (fun m B => B = adD A (fun j => sm (fun l => pD A k l (A (83 + 23 * k + 5 + l)) 1 j) m) ∧ Ac A B) ⟨?_, Ac.refl A⟩ n0 (fun m B m0 m1 hB => ?_)
  · funext j
    show A j = A j + sm _ 0
    rw [sm_zero (fun j j0 j1 => by omega), Int.add_zero]
  · obtain ⟨eB, ac⟩ := hB
    have st : Sta A B := ⟨fun j a b c d => ac j d (by omega), fun k c a b d => ac _ (by omega) (by omega)⟩
    have e1 := st.2 k 1 hk.1 (by decide) (by decide)
    have e5 := ac (83 + 23 * k + 5 + m) (by omega) (by omega)
    have pa := pay_ad (B := B) (k := k) (l := m) (by rw [e1]; exact hb.1) (by omega)
    refine ⟨?_, ac.trans (payB_ac (by rw [e1]; exact hb.1) (by omega))⟩
    rw [pa]
    funext j
    show B j + pD B k m (B (83 + 23 * k + 5 + m)) 1 j = A j + sm _ (m + 1)
    rw [pD_con st hk.1 hb.2 (by omega), e5, sm_s _ m0, eB]
    show A j + sm _ m + _ = _
    omega
theorem pdX_ad (hA : DyI A) (n0 : 0 ≤ n) (n1 : n ≤ A 7) : pdX A n = adD A (fun j => sm (fun k => sm (fun l => pD A k l (A (83 + 23 * k + 5 + l)) 1 j) (A 1)) n) ∧ Ac A (pdX A n) := by
  have hA' := hA
  obtain ⟨h1, h7, hl⟩ := hA
  refine itr_ind (f := payA) (a := A) (fun m B => B = adD A (fun j => sm (fun k => sm (fun l => pD A k l (A (83 + 23 * k + 5 + l)) 1 j) (A 1)) m) ∧ Ac A B) ⟨?_, Ac.refl A⟩ n0 (fun m B m0 m1 hB => ?_)
  · funext j
    show A j = A j + sm _ 0
    rw [sm_zero (fun j j0 j1 => by omega), Int.add_zero]
  · obtain ⟨eB, ac⟩ := hB
    have st : Sta A B := ⟨fun j a b c d => ac j d (by omega), fun k c a b d => ac _ (by omega) (by omega)⟩
    have e1 := ac 1 (by decide) (by decide)
    have e7 := ac 7 (by decide) (by decide)
    have pa := payX_ad (A := B) (k := m) (n := B 1) (st.dy hA') ⟨m0, by omega⟩ (by omega) (Int.le_refl _)
    refine ⟨?_, ac.trans pa.2⟩
    show payX m B (B 1) = _
    rw [pa.1]
    funext j
    show B j + sm _ (B 1) = A j + sm _ (m + 1)
    rw [sm_s _ m0, e1, sm_congr (g := fun l => pD A m l (A (83 + 23 * m + 5 + l)) 1 j) (fun l l0 l1 => by
      show pD B m l (B (83 + 23 * m + 5 + l)) 1 j = _
      rw [pD_con st m0 (hl m m0 (by omega)).2 (by omega), ac (83 + 23 * m + 5 + l) (by omega) (by omega)]), eB]
    show A j + sm _ m + _ = _
    omega
end Pd

