section Bo
variable {D : Int} {A : St}
theorem pay10 {k l : Int} {B : St} (hb : 0 ≤ B (83 + 23 * k + 1) ∧ B (83 + 23 * k + 1) < 4) (hl : 0 ≤ l ∧ l < 6) : payB k l B 10 = B 10 := by
  unfold payB
  rw [upI_ne (by omega), upI_ne (by omega), upI_ne (by omega), upI_ne (by omega)]
theorem payA10 {k : Int} (hI : Inv D A) (hk : 0 ≤ k ∧ k < A 7) : payA k A 10 = A 10 := by
  have hn := hI.n
  have q := (hI.loan hk.1 hk.2).2.1
  refine (itr_ind (f := payB k) (a := A) (fun _ B => Ac A B ∧ B 10 = A 10) ⟨Ac.refl A, rfl⟩ hn.2.1.1 (fun j B j0 j1 hB => ?_)).2
  have e := hB.1 (83 + 23 * k + 1) (by omega) (by omega)
  exact ⟨hB.1.trans (payB_ac (by omega) (by omega)), by rw [pay10 (by omega) (by omega)]; exact hB.2⟩
theorem pd10 {n : Int} (hI : Inv D A) (n0 : 0 ≤ n) (n1 : n ≤ A 7) : pdX A n 10 = A 10 := by
  have hn := hI.n
  refine (itr_ind (f := payA) (a := A) (fun _ B => Ac A B ∧ B 10 = A 10) ⟨Ac.refl A, rfl⟩ n0 (fun j B j0 j1 hB => ?_)).2
  have iB := hI.ac hB.1
  have e7 := hB.1 7 (by omega) (by omega)
  have hnB := iB.n
  exact ⟨hB.1.trans (payX_ac iB ⟨j0, by omega⟩ (by omega) (Int.le_refl _)), by rw [payA10 iB ⟨j0, by omega⟩]; exact hB.2⟩
theorem binB10 {k l : Int} {B : St} (h : Bn k B) (hl : 0 ≤ l ∧ l < 6) : B 10 ≤ binB k l B 10 ∧ binB k l B 10 ≤ B 10 + 99999 := by
  have hs := (h.1.2.2 l hl.1 hl.2).1
  have hb := h.2.2.2.1
  have hk := h.1.2.1
  unfold binB
  split
  · omega
  · rw [cb_out hl (by omega)]
    unfold binC
    rw [upI_eq, upI_ne (by omega), upI_ne (by omega)]
    omega
theorem bin10 {k : Int} (h : Bn k A) : A 10 ≤ binA k A 10 ∧ binA k A 10 ≤ A 10 + 599994 := by
  have hn := h.1.1
  have key := itr_ind (f := binB k) (a := A) (fun j B => Bn k B ∧ A 10 ≤ B 10 ∧ B 10 ≤ A 10 + j * 99999) ⟨h, by omega⟩ hn.1 (fun j B j0 j1 hB => ⟨binB_Bn hB.1 (by omega), by
    have := binB10 hB.1 (l := j) (by omega)
    rw [Int.add_mul]
    omega⟩)
  have e : binA k A = itr (binB k) (A 1) A := rfl
  rw [e]
  omega
theorem bd10 {P : St} {n : Int} (hD : D < 20000000) (hI : Inv D P) (n0 : 0 ≤ n) (n1 : n ≤ P 7) : P 10 ≤ bdX (upI P 6 (P 6 + 1)) n 10 ∧ bdX (upI P 6 (P 6 + 1)) n 10 ≤ P 10 + n * 599994 := by
  have hn := hI.n
  have key := itr_ind (f := binA) (a := upI P 6 (P 6 + 1)) (fun j B => BDn (upI P 6 (P 6 + 1)) j 0 B ∧ P 10 ≤ B 10 ∧ B 10 ≤ P 10 + j * 599994) ⟨bd_ok hD hI (Int.le_refl 0) (by omega), by rw [upI_ne (by decide)]; omega⟩ n0 (fun j B j0 j1 hB => ⟨BD_k hD hI ⟨j0, by omega⟩ hB.1, by
    have := bin10 (BD_Bn hD hI ⟨j0, by omega⟩ hB.1)
    rw [Int.add_mul]
    omega⟩)
  exact key.2
theorem day10 (hD : D < 20000000) (hI : Inv D A) : A 10 ≤ dayA A 10 ∧ dayA A 10 ≤ A 10 + 7199928 := by
  have hn := hI.n
  have hac := pd_ac (n := A 7) hI (by omega) (Int.le_refl _)
  have iP := hI.ac hac
  have e7 := hac 7 (by omega) (by omega)
  have h1 := pd10 (n := A 7) hI (by omega) (Int.le_refl _)
  have h2 := bd10 (n := A 7) hD iP (by omega) (by omega)
  unfold dayA closeA
  have h3 := cl_out (A := bdX (upI (pdX A (A 7)) 6 (pdX A (A 7) 6 + 1)) (A 7)) (k := bdX (upI (pdX A (A 7)) 6 (pdX A (A 7) 6 + 1)) (A 7) 7)
  have h7 : bdX (upI (pdX A (A 7)) 6 (pdX A (A 7) 6 + 1)) (A 7) 7 = A 7 := by
    have := (bd_ok (n := A 7) hD iP (by omega) (by omega)).1 7 (by omega) (by omega) (by omega)
    rw [this, upI_ne (by decide), e7]
  rw [upI_ne (by decide), (h3 (by omega)).2 10 (Or.inl (by decide))]
  omega
theorem dys10 {n : Int} (hD : D + n ≤ 20000000) (hI : Inv D A) (n0 : 0 ≤ n) : A 10 ≤ dysX A n 10 ∧ dysX A n 10 ≤ A 10 + n * 7199928 := by
  have key := itr_ind (f := fun _ => dayA) (a := A) (fun k B => Inv (D + k) B ∧ A 10 ≤ B 10 ∧ B 10 ≤ A 10 + k * 7199928) ⟨by rw [Int.add_zero]; exact hI, by omega⟩ n0 (fun k B k0 k1 hB => ?_)
  · exact key.2
  · have h1 := day10 (D := D + k) (by omega) hB.1
    refine ⟨by rw [← Int.add_assoc]; exact day_inv (by omega) hB.1, ?_⟩
    rw [Int.add_mul]
    omega
theorem dv2 {k a n : Int} {x : St × Int} (hI : Inv D x.1) (hk : 0 ≤ k ∧ k < x.1 7) (ha : 1 ≤ a ∧ a ≤ 9999) (n0 : 0 ≤ n) (n1 : n ≤ x.1 1) : x.2 ≤ (dvX k a x n).2 ∧ (dvX k a x n).2 ≤ x.2 + n * 999890001 := by
  have hn := hI.n
  have q1 := (hI.loan hk.1 hk.2).2.1
  have key := itr_ind (f := dvB k a) (a := x) (fun j (y : St × Int) => Ac x.1 y.1 ∧ x.2 ≤ y.2 ∧ y.2 ≤ x.2 + j * 999890001) ⟨Ac.refl _, by omega⟩ n0 (fun j y j0 j1 hy => ?_)
  · exact key.2
  · have e := hy.1 (83 + 23 * k + 1) (by omega) (by omega)
    have e5 := hy.1 (83 + 23 * k + 5 + j) (by omega) (by omega)
    have hs := ((hI.loan hk.1 hk.2).sl j0 (by omega)).1
    have hm := mul_bd (a := x.1 (83 + 23 * k + 5 + j)) (b := a) (M := 99999) (N := 9999) (by omega) (by omega) (by omega) (by omega)
    refine ⟨hy.1.trans (((Ac.up (by omega)).trans (Ac.up (by omega))).trans (Ac.up (by omega))), ?_⟩
    show x.2 ≤ y.2 + y.1 (83 + 23 * k + 5 + j) * a ∧ y.2 + y.1 (83 + 23 * k + 5 + j) * a ≤ x.2 + (j + 1) * 999890001
    rw [e5, Int.add_mul]
    omega
theorem div2 {s a n : Int} (hI : Inv D A) (ha : 1 ≤ a ∧ a ≤ 9999) (n0 : 0 ≤ n) (n1 : n ≤ A 7) : 0 ≤ (divX A s a n).2 ∧ (divX A s a n).2 ≤ n * 5999340006 := by
  have hn := hI.n
  have key := itr_ind (f := dvS s a) (a := (A, (0 : Int))) (fun j (y : St × Int) => Ac A y.1 ∧ 0 ≤ y.2 ∧ y.2 ≤ j * 5999340006) ⟨Ac.refl _, by show (0 : Int) ≤ 0 ∧ (0 : Int) ≤ 0 * 5999340006; decide⟩ n0 (fun j y j0 j1 hy => ?_)
  · exact key.2
  · have iB := hI.ac hy.1
    have e7 := hy.1 7 (by omega) (by omega)
    have hnB := iB.n
    have e1 := hy.1 1 (by omega) (by omega)
    unfold dvS
    rw [Int.add_mul]
    split
    · have h2 := dv2 (a := a) (n := y.1 1) iB ⟨j0, by omega⟩ ha (by omega) (Int.le_refl _)
      have h3 : y.1 1 * 999890001 ≤ 6 * 999890001 := Int.mul_le_mul_of_nonneg_right (by omega) (by decide)
      exact ⟨hy.1.trans (dvX_ac iB ⟨j0, by omega⟩ (by omega) (Int.le_refl _)), by omega⟩
    · exact ⟨hy.1, by omega⟩
end Bo

