/-- the state, what is left, how many came back, from whom -/
abbrev Bk : Type := St × Int × Int × (Int → Int)
abbrev Bk.A (x : Bk) : St := x.1
abbrev Bk.q (x : Bk) : Int := x.2.1
abbrev Bk.c (x : Bk) : Int := x.2.2.1
abbrev Bk.r (x : Bk) : Int → Int := x.2.2.2
def bk1 (k : Int) (x : Bk) : Bk := ⟨cbA x.A k (nduA x.A k) (min x.q (x.A (83 + 23 * k + 11 + nduA x.A k))), x.q - min x.q (x.A (83 + 23 * k + 11 + nduA x.A k)), x.c + 1, upI x.r x.c (nduA x.A k)⟩
def gk1 (k : Int) (x : Bk) : Bool := decide (nduA x.A k ≠ -1 ∧ 0 < x.q)
def bk2 (k : Int) (x : Bk) : Bk := ⟨upI x.A (83 + 23 * k + 5 + gslA x.A k) (x.A (83 + 23 * k + 5 + gslA x.A k) - min x.q (x.A (83 + 23 * k + 5 + gslA x.A k))), x.q - min x.q (x.A (83 + 23 * k + 5 + gslA x.A k)), x.c + 1, upI x.r x.c (gslA x.A k)⟩
def gk2 (x : Bk) : Bool := decide (0 < x.q)
def mk (x : Bk) : Nat := x.q.toNat
section Cb
variable {A : St} {k l v l' : Int}
theorem cb_5 (hl : 0 ≤ l ∧ l < 6) (hl' : 0 ≤ l' ∧ l' < 6) : cbA A k l v (83 + 23 * k + 5 + l') = if l' = l then A (83 + 23 * k + 5 + l) - v else A (83 + 23 * k + 5 + l') := by
  unfold cbA
  by_cases e : l' = l
  · rw [if_pos e, e]
    split
    · rw [upI_ne (by omega), upI_ne (by omega), upI_eq]
    · rw [upI_ne (by omega), upI_eq]
  · rw [if_neg e]
    split
    · rw [upI_ne (by omega), upI_ne (by omega), upI_ne (by omega)]
    · rw [upI_ne (by omega), upI_ne (by omega)]
theorem cb_11 (hl : 0 ≤ l ∧ l < 6) (hl' : 0 ≤ l' ∧ l' < 6) : cbA A k l v (83 + 23 * k + 11 + l') = if l' = l then A (83 + 23 * k + 11 + l) - v else A (83 + 23 * k + 11 + l') := by
  unfold cbA
  by_cases e : l' = l
  · rw [if_pos e, e]
    split
    · rw [upI_ne (by omega), upI_eq]
    · rw [upI_eq]
  · rw [if_neg e]
    split
    · rw [upI_ne (by omega), upI_ne (by omega), upI_ne (by omega)]
    · rw [upI_ne (by omega), upI_ne (by omega)]
theorem cb_17 (hl : 0 ≤ l ∧ l < 6) (hl' : 0 ≤ l' ∧ l' < 6) : cbA A k l v (83 + 23 * k + 17 + l') = if l' = l ∧ A (83 + 23 * k + 11 + l) - v = 0 then -1 else A (83 + 23 * k + 17 + l') := by
  unfold cbA
  by_cases z : A (83 + 23 * k + 11 + l) - v = 0
  · rw [if_pos z]
    by_cases e : l' = l
    · rw [if_pos ⟨e, z⟩, e, upI_eq]
    · rw [if_neg (fun w => e w.1), upI_ne (by omega), upI_ne (by omega), upI_ne (by omega)]
  · rw [if_neg z, if_neg (fun w => z w.2), upI_ne (by omega), upI_ne (by omega)]
theorem cb_out {j : Int} (hl : 0 ≤ l ∧ l < 6) (hj : ¬ (83 + 23 * k + 5 ≤ j ∧ j < 83 + 23 * k + 23)) : cbA A k l v j = A j := by
  unfold cbA
  split
  · rw [upI_ne (by omega), upI_ne (by omega), upI_ne (by omega)]
  · rw [upI_ne (by omega), upI_ne (by omega)]
end Cb
theorem sm_if {f : Int → Int} {b v n : Int} (h0 : 0 ≤ b) (h1 : b < n) : sm (fun j => if j = b then v else f j) n = sm f n + v - f b := sm_up (f := f) h0 h1
/-- where a giving back stands -/
def GB (k K : Int) (A0 : St) (x : Bk) : Prop :=
  Sl x.A k ∧ (∀ j, ¬ (83 + 23 * k + 5 ≤ j ∧ j < 83 + 23 * k + 23) → x.A j = A0 j) ∧ (0 ≤ x.q ∧ 0 ≤ x.c ∧ 0 ≤ K) ∧ sm (fun l => x.A (83 + 23 * k + 5 + l)) (A0 1) = x.q + K ∧
  ∀ l, 0 ≤ l → l < 6 → (x.A (83 + 23 * k + 11 + l) = 0 → x.A (83 + 23 * k + 17 + l) = -1) ∧ (0 < x.A (83 + 23 * k + 11 + l) → x.A (83 + 23 * k + 17 + l) = A0 (83 + 23 * k + 17 + l) ∧ 0 < A0 (83 + 23 * k + 11 + l)) ∧ x.A (83 + 23 * k + 5 + l) ≤ A0 (83 + 23 * k + 5 + l) ∧ (A0 1 ≤ l → x.A (83 + 23 * k + 5 + l) = 0)
def G1 (k K : Int) (A0 : St) (x : Bk) : Prop := GB k K A0 x ∧ x.c ≤ 6 ∧ (0 < x.q → x.c + sm (fun l => bI (0 < x.A (83 + 23 * k + 11 + l))) (A0 1) ≤ 6)
def G2 (k K : Int) (A0 : St) (x : Bk) : Prop := GB k K A0 x ∧ x.c ≤ 12 ∧ (0 < x.q → x.c + sm (fun l => bI (0 < x.A (83 + 23 * k + 5 + l))) (A0 1) ≤ 12 ∧ ∀ l, 0 ≤ l → l < 6 → x.A (83 + 23 * k + 11 + l) = 0)
section Gs
variable {k K : Int} {A0 : St} {x : Bk}
theorem sm_bI1 {p : Int → Prop} [∀ l, Decidable (p l)] {n b : Int} (h0 : 0 ≤ b) (h1 : b < n) (hb : p b) : 1 ≤ sm (fun l => bI (p l)) n := by
  have h := sm_lt (f := fun _ => 0) (g := fun l => bI (p l)) (k := n) (fun j _ _ => by
    show 0 ≤ bI _
    rcases bI_01 (p j) with e | e <;> omega) h0 h1 (by
    show 0 < bI _
    rw [bI_t hb]
    omega)
  have h2 := sm_bd (f := fun _ => 0) (k := n) (lo := 0) (hi := 0) (by omega) (fun _ _ _ => ⟨Int.le_refl 0, Int.le_refl 0⟩)
  omega
theorem G1_s (h : G1 k K A0 x) (hg : gk1 k x = true) : G1 k K A0 (bk1 k x) ∧ mk (bk1 k x) < mk x := by
  obtain ⟨⟨hs, ho, hq, hsum, hl⟩, hc, hcnt⟩ := h
  have hg := of_decide_eq_true hg
  have e1 : x.A 1 = A0 1 := ho 1 (by have := hs.2.1; omega)
  obtain ⟨hn, hk, hsl⟩ := hs
  rw [e1] at hn
  have hnd := ndX_ok (rc := fun l => x.A (83 + 23 * k + 11 + l)) (du := fun l => x.A (83 + 23 * k + 17 + l)) (n := A0 1) hn.1
  have e2 : nduA x.A k = ndX (fun l => x.A (83 + 23 * k + 11 + l)) (fun l => x.A (83 + 23 * k + 17 + l)) (A0 1) := by
    unfold nduA
    rw [e1]
  rw [← e2] at hnd
  have hnd : (0 ≤ nduA x.A k ∧ nduA x.A k < A0 1) ∧ 0 < x.A (83 + 23 * k + 11 + nduA x.A k) := by
    rcases hnd with z | z
    · exact absurd z.1 hg.1
    · exact ⟨z.1, z.2.1⟩
  have hcn := hcnt hg.2
  unfold bk1 mk
  generalize nduA x.A k = b at hnd hg ⊢
  have hb := hsl b hnd.1.1 (by omega)
  generalize hv : min x.q (x.A (83 + 23 * k + 11 + b)) = v
  have hv1 : 1 ≤ v ∧ v ≤ x.q ∧ v ≤ x.A (83 + 23 * k + 11 + b) ∧ (x.q - v > 0 → v = x.A (83 + 23 * k + 11 + b)) := by omega
  have hb6 : 0 ≤ b ∧ b < 6 := by omega
  refine ⟨⟨⟨⟨?_, hk, fun l l0 l1 => ?_⟩, fun j hj => ?_, ?_, ?_, fun l l0 l1 => ?_⟩, ?_, fun hp => ?_⟩, ?_⟩
  · show 0 ≤ cbA x.A k b v 1 ∧ cbA x.A k b v 1 ≤ 6
    rw [cb_out hb6 (by omega), e1]
    exact hn
  · show (0 ≤ cbA x.A k b v _ ∧ cbA x.A k b v _ ≤ cbA x.A k b v _ ∧ cbA x.A k b v _ ≤ _) ∧ (_ ≤ cbA x.A k b v _ ∧ cbA x.A k b v _ ≤ _)
    rw [cb_5 hb6 ⟨l0, l1⟩, cb_11 hb6 ⟨l0, l1⟩, cb_17 hb6 ⟨l0, l1⟩]
    have := hsl l l0 l1
    by_cases e : l = b
    · rw [if_pos e, if_pos e, e]
      rw [e] at this
      split <;> omega
    · rw [if_neg e, if_neg e, if_neg (fun w => e w.1)]
      exact this
  · show cbA x.A k b v j = A0 j
    rw [cb_out hb6 hj]
    exact ho j hj
  · show 0 ≤ x.q - v ∧ 0 ≤ x.c + 1 ∧ 0 ≤ K
    omega
  · show sm (fun l => cbA x.A k b v (83 + 23 * k + 5 + l)) (A0 1) = x.q - v + K
    rw [sm_congr (g := fun l => if l = b then x.A (83 + 23 * k + 5 + b) - v else x.A (83 + 23 * k + 5 + l)) (fun l l0 l1 => cb_5 hb6 ⟨l0, by omega⟩), sm_if (f := fun l => x.A (83 + 23 * k + 5 + l)) hnd.1.1 hnd.1.2]
    omega
  · show (cbA x.A k b v _ = 0 → cbA x.A k b v _ = -1) ∧ (0 < cbA x.A k b v _ → cbA x.A k b v _ = _ ∧ _) ∧ cbA x.A k b v _ ≤ _ ∧ (_ → cbA x.A k b v _ = 0)
    rw [cb_5 hb6 ⟨l0, l1⟩, cb_11 hb6 ⟨l0, l1⟩, cb_17 hb6 ⟨l0, l1⟩]
    have := hl l l0 l1
    by_cases e : l = b
    · rw [if_pos e, if_pos e, e]
      rw [e] at this
      by_cases z : x.A (83 + 23 * k + 11 + b) - v = 0
      · rw [if_pos ⟨rfl, z⟩]
        omega
      · rw [if_neg (fun w => z w.2)]
        omega
    · rw [if_neg e, if_neg e, if_neg (fun w => e w.1)]
      exact this
  · show x.c + 1 ≤ 6
    have := sm_bI1 (p := fun l => 0 < x.A (83 + 23 * k + 11 + l)) (n := A0 1) hnd.1.1 hnd.1.2 hnd.2
    omega
  · have hp : 0 < x.q - v := hp
    show x.c + 1 + sm (fun l => bI (0 < cbA x.A k b v (83 + 23 * k + 11 + l))) (A0 1) ≤ 6
    rw [sm_congr (g := fun l => if l = b then 0 else bI (0 < x.A (83 + 23 * k + 11 + l))) (fun l l0 l1 => by
      show bI _ = _
      by_cases e : l = b
      · rw [if_pos e]
        exact bI_f (by rw [cb_11 hb6 ⟨l0, by omega⟩, if_pos e]; omega)
      · rw [if_neg e]
        exact bI_iff (by rw [cb_11 hb6 ⟨l0, by omega⟩, if_neg e])), sm_if (f := fun l => bI (0 < x.A (83 + 23 * k + 11 + l))) hnd.1.1 hnd.1.2, bI_t hnd.2]
    omega
  · show (x.q - v).toNat < x.q.toNat
    omega
theorem G2_s (h : G2 k K A0 x) (hg : gk2 x = true) : G2 k K A0 (bk2 k x) ∧ mk (bk2 k x) < mk x := by
  obtain ⟨⟨hs, ho, hq, hsum, hl⟩, hc, hcnt⟩ := h
  have hg := of_decide_eq_true hg
  have e1 : x.A 1 = A0 1 := ho 1 (by have := hs.2.1; omega)
  obtain ⟨hn, hk, hsl⟩ := hs
  rw [e1] at hn
  have hn1 : 0 < A0 1 := by
    rcases lt_ge 0 (A0 1) with z | z
    · exact z
    · rw [sm_neg _ z] at hsum
      omega
  have hgs := amx_ok (r := fun l => x.A (83 + 23 * k + 5 + l)) hn1
  have e2 : gslA x.A k = amx (fun l => x.A (83 + 23 * k + 5 + l)) (A0 1) := by
    unfold gslA
    rw [e1]
  rw [← e2] at hgs
  have hpos : 0 < x.A (83 + 23 * k + 5 + gslA x.A k) := by
    rcases lt_ge 0 (x.A (83 + 23 * k + 5 + gslA x.A k)) with z | z
    · exact z
    · have h1 := sm_hi (f := fun l => x.A (83 + 23 * k + 5 + l)) (k := A0 1) (hi := 0) (by omega) (fun j j0 j1 => by
        have := hgs.2.1 j j0 j1
        show x.A (83 + 23 * k + 5 + j) ≤ 0
        have this : x.A (83 + 23 * k + 5 + j) ≤ x.A (83 + 23 * k + 5 + gslA x.A k) := this
        omega)
      rw [Int.mul_zero] at h1
      omega
  have hb0 := hgs.1
  have hcn := hcnt hg
  unfold bk2 mk
  generalize gslA x.A k = b at hb0 hpos ⊢
  have hb := hsl b hb0.1 (by omega)
  have hb11 := hcn.2 b hb0.1 (by omega)
  generalize hv : min x.q (x.A (83 + 23 * k + 5 + b)) = v
  have hv1 : 1 ≤ v ∧ v ≤ x.q ∧ v ≤ x.A (83 + 23 * k + 5 + b) ∧ (x.q - v > 0 → v = x.A (83 + 23 * k + 5 + b)) := by omega
  have u5 : ∀ l, upI x.A (83 + 23 * k + 5 + b) (x.A (83 + 23 * k + 5 + b) - v) (83 + 23 * k + 5 + l) = if l = b then x.A (83 + 23 * k + 5 + b) - v else x.A (83 + 23 * k + 5 + l) := fun l => by
    by_cases e : l = b
    · rw [if_pos e, e, upI_eq]
    · rw [if_neg e, upI_ne (by omega)]
  have u11 : ∀ l, 0 ≤ l → upI x.A (83 + 23 * k + 5 + b) (x.A (83 + 23 * k + 5 + b) - v) (83 + 23 * k + 11 + l) = x.A (83 + 23 * k + 11 + l) := fun l l0 => upI_ne (by omega)
  have u17 : ∀ l, 0 ≤ l → upI x.A (83 + 23 * k + 5 + b) (x.A (83 + 23 * k + 5 + b) - v) (83 + 23 * k + 17 + l) = x.A (83 + 23 * k + 17 + l) := fun l l0 => upI_ne (by omega)
  refine ⟨⟨⟨⟨?_, hk, fun l l0 l1 => ?_⟩, fun j hj => ?_, ?_, ?_, fun l l0 l1 => ?_⟩, ?_, fun hp => ⟨?_, fun l l0 l1 => ?_⟩⟩, ?_⟩
  · show 0 ≤ upI x.A _ _ 1 ∧ upI x.A _ _ 1 ≤ 6
    rw [upI_ne (by omega), e1]
    exact hn
  · show (0 ≤ upI x.A _ _ _ ∧ upI x.A _ _ _ ≤ upI x.A _ _ _ ∧ upI x.A _ _ _ ≤ _) ∧ (_ ≤ upI x.A _ _ _ ∧ upI x.A _ _ _ ≤ _)
    rw [u5 l, u11 l l0, u17 l l0]
    have := hsl l l0 l1
    by_cases e : l = b
    · rw [if_pos e, e]
      rw [e] at this
      omega
    · rw [if_neg e]
      exact this
  · show upI x.A _ _ j = A0 j
    rw [upI_ne (by omega)]
    exact ho j hj
  · show 0 ≤ x.q - v ∧ 0 ≤ x.c + 1 ∧ 0 ≤ K
    omega
  · show sm (fun l => upI x.A _ _ (83 + 23 * k + 5 + l)) (A0 1) = x.q - v + K
    rw [sm_congr (g := fun l => if l = b then x.A (83 + 23 * k + 5 + b) - v else x.A (83 + 23 * k + 5 + l)) (fun l l0 l1 => u5 l), sm_if (f := fun l => x.A (83 + 23 * k + 5 + l)) hb0.1 hb0.2]
    omega
  · show (upI x.A _ _ _ = 0 → upI x.A _ _ _ = -1) ∧ (0 < upI x.A _ _ _ → upI x.A _ _ _ = _ ∧ _) ∧ upI x.A _ _ _ ≤ _ ∧ (_ → upI x.A _ _ _ = 0)
    rw [u5 l, u11 l l0, u17 l l0]
    have := hl l l0 l1
    by_cases e : l = b
    · rw [if_pos e, e]
      rw [e] at this
      omega
    · rw [if_neg e]
      exact this
  · show x.c + 1 ≤ 12
    have := sm_bI1 (p := fun l => 0 < x.A (83 + 23 * k + 5 + l)) (n := A0 1) hb0.1 hb0.2 hpos
    omega
  · have hp : 0 < x.q - v := hp
    show x.c + 1 + sm (fun l => bI (0 < upI x.A _ _ (83 + 23 * k + 5 + l))) (A0 1) ≤ 12
    rw [sm_congr (g := fun l => if l = b then 0 else bI (0 < x.A (83 + 23 * k + 5 + l))) (fun l l0 l1 => by
      show bI _ = _
      by_cases e : l = b
      · rw [if_pos e]
        exact bI_f (by rw [u5 l, if_pos e]; omega)
      · rw [if_neg e]
        exact bI_iff (by rw [u5 l, if_neg e])), sm_if (f := fun l => bI (0 < x.A (83 + 23 * k + 5 + l))) hb0.1 hb0.2, bI_t hpos]
    omega
  · show upI x.A _ _ _ = 0
    rw [u11 l l0]
    exact hcn.2 l l0 l1
  · show (x.q - v).toNat < x.q.toNat
    omega
theorem G1_G2 (h : G1 k K A0 x) (hg : ¬ gk1 k x = true) : G2 k K A0 x := by
  obtain ⟨⟨hs, ho, hq, hsum, hl⟩, hc, hcnt⟩ := h
  refine ⟨⟨hs, ho, hq, hsum, hl⟩, by omega, fun hp => ?_⟩
  have hg : ¬ (nduA x.A k ≠ -1 ∧ 0 < x.q) := fun z => hg (decide_eq_true z)
  have e0 : nduA x.A k = -1 := by omega
  have e1 : x.A 1 = A0 1 := ho 1 (by have := hs.2.1; omega)
  obtain ⟨hn, hk, hsl⟩ := hs
  rw [e1] at hn
  have hnd := ndX_ok (rc := fun l => x.A (83 + 23 * k + 11 + l)) (du := fun l => x.A (83 + 23 * k + 17 + l)) (n := A0 1) hn.1
  have e2 : nduA x.A k = ndX (fun l => x.A (83 + 23 * k + 11 + l)) (fun l => x.A (83 + 23 * k + 17 + l)) (A0 1) := by
    unfold nduA
    rw [e1]
  rw [← e2] at hnd
  have hb := sm_hi (f := fun l => bI (0 < x.A (83 + 23 * k + 5 + l))) (k := A0 1) (hi := 1) hn.1 (fun j _ _ => by
    show bI _ ≤ 1
    rcases bI_01 (0 < x.A (83 + 23 * k + 5 + j)) with e | e <;> omega)
  refine ⟨by omega, fun l l0 l1 => ?_⟩
  have h5 := hsl l l0 l1
  have h6 := hl l l0 l1
  rcases hnd with z | z
  · by_cases e : l < A0 1
    · have : x.A (83 + 23 * k + 11 + l) ≤ 0 := z.2 l l0 e
      omega
    · have := h6.2.2.2 (by omega)
      omega
  · omega
end Gs

