def pdX (A : St) (n : Int) : St := itr payA n A
theorem pdX_s {A : St} {n : Int} (h : 0 ≤ n) : pdX A (n + 1) = payA n (pdX A n) := itr_s _ h _
theorem pd_ac {D n : Int} {A : St} (hI : Inv D A) (n0 : 0 ≤ n) (n1 : n ≤ A 7) : Ac A (pdX A n) := by
  refine itr_ind (f := payA) (a := A) (fun _ B => Ac A B) (Ac.refl A) n0 (fun j B j0 j1 hB => hB.trans ?_)
  have iB := hI.ac hB
  have hn := iB.n
  exact payX_ac iB ⟨j0, by rw [hB 7 (by omega) (by omega)]; omega⟩ (by omega) (Int.le_refl _)
/-- between the turn of a day and the end of its buy-ins -/
def BDn (A : St) (k n : Int) (B : St) : Prop :=
  (∀ j, j < 83 → ¬ (9 ≤ j ∧ j < 15) → ¬ (73 ≤ j ∧ j < 83) → B j = A j) ∧ (∀ i c, 0 ≤ i → 0 ≤ c → c < 5 → B (83 + 23 * i + c) = A (83 + 23 * i + c)) ∧
  ∀ i l, 0 ≤ i → i < A 7 → 0 ≤ l → l < 6 → (0 ≤ B (83 + 23 * i + 11 + l) ∧ B (83 + 23 * i + 11 + l) ≤ B (83 + 23 * i + 5 + l) ∧ B (83 + 23 * i + 5 + l) ≤ A (83 + 23 * i + 5 + l)) ∧ (B (83 + 23 * i + 11 + l) = 0 → B (83 + 23 * i + 17 + l) = -1) ∧ (0 < B (83 + 23 * i + 11 + l) → A 6 - 1 ≤ B (83 + 23 * i + 17 + l) ∧ B (83 + 23 * i + 17 + l) ≤ A 6 + 30 ∧ ((i < k ∨ (i = k ∧ l < n)) → A 6 ≤ B (83 + 23 * i + 17 + l))) ∧ (A 1 ≤ l → B (83 + 23 * i + 5 + l) = 0)
section Dy
variable {D : Int} {P : St}
theorem BD_Bn {k n : Int} {B : St} (hD : D < 20000000) (hI : Inv D P) (hk : 0 ≤ k ∧ k < P 7) (h : BDn (upI P 6 (P 6 + 1)) k n B) : Bn k B := by
  have hn := hI.n
  obtain ⟨h1, h2, h3⟩ := h
  have u : ∀ j, j ≠ 6 → upI P 6 (P 6 + 1) j = P j := fun j hj => upI_ne hj
  have u6 : upI P 6 (P 6 + 1) 6 = P 6 + 1 := upI_eq
  have o : ∀ j, j < 83 → ¬ (9 ≤ j ∧ j < 15) → ¬ (73 ≤ j ∧ j < 83) → j ≠ 6 → B j = P j := fun j a b c d => (h1 j a b c).trans (u j d)
  have lo : ∀ c, 0 ≤ c → c < 5 → B (83 + 23 * k + c) = P (83 + 23 * k + c) := fun c a b => (h2 k c hk.1 a b).trans (u _ (by omega))
  obtain ⟨q0, q1, q2, q3, q4, q5⟩ := hI.loan hk.1 hk.2
  have hp := (hI.price q2.1 q2.2).1
  refine ⟨⟨?_, by omega, fun l l0 l1 => ?_⟩, ?_, ?_, ?_, ?_, ?_⟩
  · rw [o 1 (by omega) (by omega) (by omega) (by omega)]
    omega
  · have h4 := h3 k l hk.1 (by rw [u 7 (by omega)]; exact hk.2) l0 l1
    rw [u6, u (83 + 23 * k + 5 + l) (by omega)] at h4
    have h5 := (q5 l l0 l1).1
    refine ⟨by omega, ?_⟩
    rcases lt_ge 0 (B (83 + 23 * k + 11 + l)) with z | z
    · have := h4.2.2.1 z
      omega
    · have := h4.2.1 (by omega)
      omega
  · rw [o 4 (by omega) (by omega) (by omega) (by omega)]
    omega
  · rw [h1 6 (by omega) (by omega) (by omega), u6]
    omega
  · rw [lo 1 (by omega) (by omega)]
    omega
  · rw [lo 2 (by omega) (by omega)]
    omega
  · rw [lo 2 (by omega) (by omega), o _ (by omega) (by omega) (by omega) (by omega)]
    exact hp
theorem BD_s {k n : Int} {B : St} (hD : D < 20000000) (hI : Inv D P) (hk : 0 ≤ k ∧ k < P 7) (hn0 : 0 ≤ n ∧ n < P 1) (h : BDn (upI P 6 (P 6 + 1)) k n B) : BDn (upI P 6 (P 6 + 1)) k (n + 1) (binB k n B) := by
  have hn := hI.n
  have hb := BD_Bn hD hI hk h
  have ho := binB_ok hb (l := n) (by omega)
  obtain ⟨h1, h2, h3⟩ := h
  have e6 : B 6 = upI P 6 (P 6 + 1) 6 := h1 6 (by omega) (by omega) (by omega)
  refine ⟨fun j a b c => ?_, fun i c i0 c0 c1 => ?_, fun i l i0 i1 l0 l1 => ?_⟩
  · rw [ho.1 j b c (by omega)]
    exact h1 j a b c
  · rw [ho.1 _ (by omega) (by omega) (by omega)]
    exact h2 i c i0 c0 c1
  · have h4 := h3 i l i0 i1 l0 l1
    by_cases e : i = k
    · subst e
      have h5 := ho.2 l l0 l1
      rw [h5.1, h5.2.1, h5.2.2]
      by_cases w : l = n ∧ ¬ (B (83 + 23 * i + 11 + n) = 0 ∨ B 6 ≤ B (83 + 23 * i + 17 + n))
      · rw [if_pos w, if_pos w, if_pos w]
        obtain ⟨w1, w2⟩ := w
        subst w1
        omega
      · rw [if_neg w, if_neg w, if_neg w]
        refine ⟨h4.1, h4.2.1, fun z => ?_, h4.2.2.2⟩
        have h6 := h4.2.2.1 z
        refine ⟨h6.1, h6.2.1, fun y => ?_⟩
        by_cases y2 : l = n
        · subst y2
          rcases Classical.em (B 6 ≤ B (83 + 23 * i + 17 + l)) with v | v
          · omega
          · exact absurd ⟨rfl, fun x => by omega⟩ w
        · exact h6.2.2 (by omega)
    · rw [ho.1 (83 + 23 * i + 11 + l) (by omega) (by omega) (by omega), ho.1 (83 + 23 * i + 5 + l) (by omega) (by omega) (by omega), ho.1 (83 + 23 * i + 17 + l) (by omega) (by omega) (by omega)]
      refine ⟨h4.1, h4.2.1, fun z => ?_, h4.2.2.2⟩
      have h6 := h4.2.2.1 z
      exact ⟨h6.1, h6.2.1, fun y => h6.2.2 (by omega)⟩
theorem BD_k {k : Int} {B : St} (hD : D < 20000000) (hI : Inv D P) (hk : 0 ≤ k ∧ k < P 7) (h : BDn (upI P 6 (P 6 + 1)) k 0 B) : BDn (upI P 6 (P 6 + 1)) (k + 1) 0 (binA k B) := by
  have hn := hI.n
  have u : ∀ j, j ≠ 6 → upI P 6 (P 6 + 1) j = P j := fun j hj => upI_ne hj
  have e1 : B 1 = P 1 := (h.1 1 (by omega) (by omega) (by omega)).trans (u 1 (by omega))
  have key := itr_ind (f := binB k) (a := B) (n := P 1) (fun n C => BDn (upI P 6 (P 6 + 1)) k n C) h (by omega) (fun n C n0 n1 hC => BD_s hD hI hk ⟨n0, n1⟩ hC)
  unfold binA binX
  rw [e1]
  refine ⟨key.1, key.2.1, fun i l i0 i1 l0 l1 => ?_⟩
  have h4 := key.2.2 i l i0 i1 l0 l1
  refine ⟨h4.1, h4.2.1, fun z => ?_, h4.2.2.2⟩
  have h6 := h4.2.2.1 z
  refine ⟨h6.1, h6.2.1, fun y => ?_⟩
  rw [u 1 (by omega)] at h4
  rcases lt_ge l (P 1) with v | v
  · exact h6.2.2 (by omega)
  · have := h4.2.2.2 (by omega)
    omega
def bdX (A : St) (n : Int) : St := itr binA n A
theorem bdX_s {A : St} {n : Int} (h : 0 ≤ n) : bdX A (n + 1) = binA n (bdX A n) := itr_s _ h _
theorem bd_ok {n : Int} (hD : D < 20000000) (hI : Inv D P) (n0 : 0 ≤ n) (n1 : n ≤ P 7) : BDn (upI P 6 (P 6 + 1)) n 0 (bdX (upI P 6 (P 6 + 1)) n) := by
  have hn := hI.n
  have u : ∀ j, j ≠ 6 → upI P 6 (P 6 + 1) j = P j := fun j hj => upI_ne hj
  have u6 : upI P 6 (P 6 + 1) 6 = P 6 + 1 := upI_eq
  refine itr_ind (f := binA) (a := upI P 6 (P 6 + 1)) (fun n C => BDn (upI P 6 (P 6 + 1)) n 0 C) ⟨fun _ _ _ _ => rfl, fun _ _ _ _ _ => rfl, fun i l i0 i1 l0 l1 => ?_⟩ n0 (fun k C k0 k1 hC => BD_k hD hI ⟨k0, by omega⟩ hC)
  rw [u 7 (by omega)] at i1
  have h4 := (hI.loan i0 i1).sl l0 l1
  rw [u (83 + 23 * i + 11 + l) (by omega), u (83 + 23 * i + 5 + l) (by omega), u (83 + 23 * i + 17 + l) (by omega), u6, u 1 (by omega)]
  refine ⟨⟨h4.1.1, h4.1.2.1, Int.le_refl _⟩, h4.2.1, fun z => ?_, h4.2.2.2⟩
  have := h4.2.2.1 z
  omega
theorem bd_inv {B : St} (hI : Inv D P) (h : BDn (upI P 6 (P 6 + 1)) (P 7) 0 B) : Inv0 (D + 1) B := by
  have hn := hI.n
  have u : ∀ j, j ≠ 6 → upI P 6 (P 6 + 1) j = P j := fun j hj => upI_ne hj
  have u6 : upI P 6 (P 6 + 1) 6 = P 6 + 1 := upI_eq
  obtain ⟨h1, h2, h3⟩ := h
  have o : ∀ j, j < 83 → ¬ (9 ≤ j ∧ j < 15) → ¬ (73 ≤ j ∧ j < 83) → j ≠ 6 → B j = P j := fun j a b c d => (h1 j a b c).trans (u j d)
  have o6 : B 6 = P 6 + 1 := (h1 6 (by omega) (by omega) (by omega)).trans u6
  have lo : ∀ i c, 0 ≤ i → 0 ≤ c → c < 5 → B (83 + 23 * i + c) = P (83 + 23 * i + c) := fun i c i0 a b => (h2 i c i0 a b).trans (u _ (by omega))
  have e1 := o 1 (by omega) (by omega) (by omega) (by omega)
  have e7 := o 7 (by omega) (by omega) (by omega) (by omega)
  have sl : ∀ i l, 0 ≤ i → i < P 7 → 0 ≤ l → l < 6 → (0 ≤ B (83 + 23 * i + 11 + l) ∧ B (83 + 23 * i + 11 + l) ≤ B (83 + 23 * i + 5 + l) ∧ B (83 + 23 * i + 5 + l) ≤ P (83 + 23 * i + 5 + l)) ∧ (B (83 + 23 * i + 11 + l) = 0 → B (83 + 23 * i + 17 + l) = -1) ∧ (0 < B (83 + 23 * i + 11 + l) → P 6 + 1 ≤ B (83 + 23 * i + 17 + l) ∧ B (83 + 23 * i + 17 + l) ≤ P 6 + 1 + 30) ∧ (P 1 ≤ l → B (83 + 23 * i + 5 + l) = 0) := fun i l i0 i1 l0 l1 => by
    have h4 := h3 i l i0 (by rw [u 7 (by omega)]; exact i1) l0 l1
    rw [u (83 + 23 * i + 5 + l) (by omega), u6, u 1 (by omega)] at h4
    refine ⟨h4.1, h4.2.1, fun z => ?_, h4.2.2.2⟩
    have h6 := h4.2.2.1 z
    exact ⟨h6.2.2 (Or.inl i1), h6.2.1⟩
  refine ⟨?_, fun z z0 z1 => ?_, fun z z0 z1 => ?_, fun l l0 l1 => ?_, fun z z0 z1 => ?_, fun l z l0 l1 z0 z1 => ?_, fun i i0 i1 => ?_, fun i j i0 ij j1 => ?_, fun l z l0 l1 z0 z1 => ?_⟩
  · rw [o 0 (by omega) (by omega) (by omega) (by omega), e1, o 2 (by omega) (by omega) (by omega) (by omega), o 3 (by omega) (by omega) (by omega) (by omega), o 4 (by omega) (by omega) (by omega) (by omega), o 5 (by omega) (by omega) (by omega) (by omega), o6, e7, o 8 (by omega) (by omega) (by omega) (by omega)]
    omega
  · rw [o 0 (by omega) (by omega) (by omega) (by omega)] at z1
    rw [o _ (by omega) (by omega) (by omega) (by omega), o _ (by omega) (by omega) (by omega) (by omega)]
    exact hI.price z0 z1
  · rw [o _ (by omega) (by omega) (by omega) (by omega), e1]
    exact hI.last z0 z1
  · rw [e1] at l1
    rw [o _ (by omega) (by omega) (by omega) (by omega), o _ (by omega) (by omega) (by omega) (by omega), o _ (by omega) (by omega) (by omega) (by omega)]
    exact hI.lend l0 l1
  · rw [o 2 (by omega) (by omega) (by omega) (by omega)] at z1
    rw [o _ (by omega) (by omega) (by omega) (by omega)]
    exact hI.cred z0 z1
  · rw [o _ (by omega) (by omega) (by omega) (by omega)]
    exact hI.held l0 l1 z0 z1
  · rw [e7] at i1
    obtain ⟨q0, q1, q2, q3, q4, q5⟩ := hI.loan i0 i1
    refine ⟨?_, ?_, ?_, ?_, ?_, fun l l0 l1 => ?_⟩
    · rw [lo i 0 i0 (by omega) (by omega), o 8 (by omega) (by omega) (by omega) (by omega)]; exact q0
    · rw [lo i 1 i0 (by omega) (by omega), o 2 (by omega) (by omega) (by omega) (by omega)]; exact q1
    · rw [lo i 2 i0 (by omega) (by omega), o 0 (by omega) (by omega) (by omega) (by omega)]; exact q2
    · rw [lo i 3 i0 (by omega) (by omega)]; exact q3
    · rw [lo i 4 i0 (by omega) (by omega), o6]; omega
    · have h4 := sl i l i0 i1 l0 l1
      have h5 := (q5 l l0 l1).1
      rw [o6, e1]
      exact ⟨by omega, h4.2.1, h4.2.2.1, h4.2.2.2⟩
  · rw [e7] at j1
    rw [lo i 0 i0 (by omega) (by omega), lo j 0 (by omega) (by omega) (by omega)]
    exact hI.incr i0 ij j1
  · rw [o _ (by omega) (by omega) (by omega) (by omega)]
    refine Int.le_trans ?_ (hI.lent l0 l1 z0 z1)
    unfold lentA
    rw [e7]
    refine sm_le (fun i i0 i1 => ?_)
    rw [lo i 2 i0 (by omega) (by omega)]
    by_cases e : P (83 + 23 * i + 2) = z
    · rw [if_pos e, if_pos e]
      exact (sl i l i0 i1 l0 l1).1.2.2
    · rw [if_neg e, if_neg e]
      exact Int.le_refl 0
/-- one day -/
def dayA (A : St) : St := closeA (bdX (upI (pdX A (A 7)) 6 (pdX A (A 7) 6 + 1)) (A 7))
theorem day_inv {A : St} (hD : D < 20000000) (hI : Inv D A) : Inv (D + 1) (dayA A) := by
  have hn := hI.n
  have hp := pd_ac hI (n := A 7) (by omega) (Int.le_refl _)
  have iP := hI.ac hp
  have e7 := hp 7 (by omega) (by omega)
  unfold dayA
  generalize pdX A (A 7) = P at iP e7 ⊢
  rw [← e7]
  exact close_inv (by omega) (bd_inv iP (bd_ok hD iP (by have := iP.n; omega) (Int.le_refl _)))
end Dy

