section Bd
variable {A B : St} {k n t : Int}
/-- the slices' cells are as before from place k on, and in it from slice m on -/
def SlF (A B : St) (k m : Int) : Prop := ∀ k' l, 0 ≤ k' → 0 ≤ l → l < 6 → (k < k' ∨ (k' = k ∧ m ≤ l)) → B (83 + 23 * k' + 5 + l) = A (83 + 23 * k' + 5 + l) ∧ B (83 + 23 * k' + 11 + l) = A (83 + 23 * k' + 11 + l) ∧ B (83 + 23 * k' + 17 + l) = A (83 + 23 * k' + 17 + l)
theorem binB_st {l : Int} (hk : 0 ≤ k) (hb : 0 ≤ B (83 + 23 * k + 1) ∧ B (83 + 23 * k + 1) < 4) (hl : 0 ≤ l ∧ l < 6) : Sta B (binB k l B) ∧ binB k l B 6 = B 6 ∧ SlF B (binB k l B) k (l + 1) := by
  rw [bin_ad hk hb hl]
  refine ⟨⟨fun j a b c d => ?_, fun k' c a b d => ?_⟩, ?_, fun k' l' a b c d => ⟨?_, ?_, ?_⟩⟩
  · show B j + _ = _
    rw [bE_0 (by omega) (by omega) (by omega) (by omega) (by omega) (by omega), Int.add_zero]
  · show B (83 + 23 * k' + c) + _ = _
    rw [bE_0 (by omega) (by omega) (by omega) (by omega) (by omega) (by omega), Int.add_zero]
  · show B 6 + _ = _
    rw [bE_0 (by omega) (by omega) (by omega) (by omega) (by omega) (by omega), Int.add_zero]
  · show B (83 + 23 * k' + 5 + l') + _ = _
    rw [bE_0 (by omega) (by omega) (by omega) (by omega) (by omega) (by omega), Int.add_zero]
  · show B (83 + 23 * k' + 11 + l') + _ = _
    rw [bE_0 (by omega) (by omega) (by omega) (by omega) (by omega) (by omega), Int.add_zero]
  · show B (83 + 23 * k' + 17 + l') + _ = _
    rw [bE_0 (by omega) (by omega) (by omega) (by omega) (by omega) (by omega), Int.add_zero]
theorem binX_ad (hA : DyI A) (hk : 0 ≤ k ∧ k < A 7) (n0 : 0 ≤ n) (n1 : n ≤ A 1) : binX k A n = adD A (fun j => sm (fun l => bE A k l (A 6) j) n) ∧ Sta A (binX k A n) ∧ binX k A n 6 = A 6 ∧ SlF A (binX k A n) k n := by
  obtain ⟨h1, h7, hl⟩ := hA
  have hb := hl k hk.1 hk.2
  refine itr_ind (f := binB k) (a := A) (fun m B => B = adD A (fun j => sm (fun l => bE A k l (A 6) j) m) ∧ Sta A B ∧ B 6 = A 6 ∧ SlF A B k m) ⟨?_, Sta.refl A, rfl, fun _ _ _ _ _ _ => ⟨rfl, rfl, rfl⟩⟩ n0 (fun m B m0 m1 hB => ?_)
  · funext j
    show A j = A j + sm _ 0
    rw [sm_zero (fun j j0 j1 => by omega), Int.add_zero]
  · obtain ⟨eB, st, e6, sf⟩ := hB
    have e1 := st.2 k 1 hk.1 (by decide) (by decide)
    have hb1 : 0 ≤ B (83 + 23 * k + 1) ∧ B (83 + 23 * k + 1) < 4 := by
      rw [e1]
      exact hb.1
    have pa := bin_ad (B := B) (k := k) (l := m) hk.1 hb1 (by omega)
    have ps := binB_st (B := B) (k := k) (l := m) hk.1 hb1 (by omega)
    refine ⟨?_, st.trans ps.1, ps.2.1.trans e6, fun k' l a b c d => ?_⟩
    · rw [pa]
      have sm' := sf k m hk.1 m0 (by omega) (Or.inr ⟨rfl, Int.le_refl _⟩)
      funext j
      show B j + bE B k m (B 6) j = A j + sm _ (m + 1)
      rw [e6, bE_con st hk.1 hb.2 sm'.2.1 sm'.2.2, sm_s _ m0, eB]
      show A j + sm _ m + _ = _
      omega
    · have x := sf k' l a b c (by omega)
      have y := ps.2.2 k' l a b c (by omega)
      exact ⟨y.1.trans x.1, y.2.1.trans x.2.1, y.2.2.trans x.2.2⟩
theorem bdX_ad (hA : DyI A) (n0 : 0 ≤ n) (n1 : n ≤ A 7) : bdX A n = adD A (fun j => sm (fun k => sm (fun l => bE A k l (A 6) j) (A 1)) n) ∧ Sta A (bdX A n) ∧ bdX A n 6 = A 6 ∧ SlF A (bdX A n) n 0 := by
  have hA' := hA
  obtain ⟨h1, h7, hl⟩ := hA
  refine itr_ind (f := binA) (a := A) (fun m B => B = adD A (fun j => sm (fun k => sm (fun l => bE A k l (A 6) j) (A 1)) m) ∧ Sta A B ∧ B 6 = A 6 ∧ SlF A B m 0) ⟨?_, Sta.refl A, rfl, fun _ _ _ _ _ _ => ⟨rfl, rfl, rfl⟩⟩ n0 (fun m B m0 m1 hB => ?_)
  · funext j
    show A j = A j + sm _ 0
    rw [sm_zero (fun j j0 j1 => by omega), Int.add_zero]
  · obtain ⟨eB, st, e6, sf⟩ := hB
    have e1 := st.1 1 (by decide) (by decide) (by decide) (by decide)
    have e7 := st.1 7 (by decide) (by decide) (by decide) (by decide)
    have pa := binX_ad (A := B) (k := m) (n := B 1) (st.dy hA') ⟨m0, by omega⟩ (by omega) (Int.le_refl _)
    refine ⟨?_, st.trans pa.2.1, pa.2.2.1.trans e6, fun k' l a b c d => ?_⟩
    · show binX m B (B 1) = _
      rw [pa.1]
      funext j
      show B j + sm _ (B 1) = A j + sm _ (m + 1)
      rw [sm_s _ m0, e1, sm_congr (g := fun l => bE A m l (A 6) j) (fun l l0 l1 => by
        show bE B m l (B 6) j = _
        have s := sf m l m0 l0 (by omega) (Or.inr ⟨rfl, l0⟩)
        rw [e6, bE_con st m0 (hl m m0 (by omega)).2 s.2.1 s.2.2]), eB]
      show A j + sm _ m + _ = _
      omega
    · have x := sf k' l a b c (by omega)
      have y := pa.2.2.2 k' l a b c (by omega)
      exact ⟨y.1.trans x.1, y.2.1.trans x.2.1, y.2.2.trans x.2.2⟩
/-- a day, before closed loans are left out -/
def dayU (A : St) : St := bdX (upI (pdX A (A 7)) 6 (pdX A (A 7) 6 + 1)) (A 7)
theorem day_U (A : St) : dayA A = closeA (dayU A) := rfl
theorem dayU_ad (hA : DyI A) {j : Int} : dayU A j = A j + sm (fun k => sm (fun l => pD A k l (A (83 + 23 * k + 5 + l)) 1 j + bE A k l (A 6 + 1) j) (A 1)) (A 7) + (if j = 6 then 1 else 0) := by
  have hA' := hA
  obtain ⟨h1, h7, hl⟩ := hA
  have pp := pdX_ad (n := A 7) hA' (by omega) (Int.le_refl _)
  have ac := pp.2
  have e6 := ac 6 (by decide) (by decide)
  have acU : ∀ j, j ≠ 6 → ¬ (9 ≤ j ∧ j < 15) → ¬ (73 ≤ j ∧ j < 83) → upI (pdX A (A 7)) 6 (pdX A (A 7) 6 + 1) j = A j := fun j a b c => by
    rw [upI_ne a]
    exact ac j b c
  have st : Sta A (upI (pdX A (A 7)) 6 (pdX A (A 7) 6 + 1)) := ⟨fun j a b c d => acU j c d (by omega), fun k c a b d => acU _ (by omega) (by omega) (by omega)⟩
  have e7 := acU 7 (by decide) (by decide) (by decide)
  have e1 := acU 1 (by decide) (by decide) (by decide)
  have bb := (bdX_ad (A := upI (pdX A (A 7)) 6 (pdX A (A 7) 6 + 1)) (n := A 7) (st.dy hA') (by omega) (by omega)).1
  unfold dayU
  rw [bb]
  show upI (pdX A (A 7)) 6 (pdX A (A 7) 6 + 1) j + sm _ (A 7) = _
  rw [e1, sm_congr (g := fun k => sm (fun l => bE A k l (A 6 + 1) j) (A 1)) (fun k k0 k1 => by
    refine sm_congr (fun l l0 l1 => ?_)
    rw [bE_con st k0 (hl k k0 k1).2 (acU _ (by omega) (by omega) (by omega)) (acU _ (by omega) (by omega) (by omega)), upI_eq, e6]), sm_congr (f := fun k => sm (fun l => pD A k l (A (83 + 23 * k + 5 + l)) 1 j + bE A k l (A 6 + 1) j) (A 1)) (g := fun k => sm (fun l => pD A k l (A (83 + 23 * k + 5 + l)) 1 j) (A 1) + sm (fun l => bE A k l (A 6 + 1) j) (A 1)) (fun k k0 k1 => sm_add), sm_add]
  have pj : pdX A (A 7) j = A j + sm (fun k => sm (fun l => pD A k l (A (83 + 23 * k + 5 + l)) 1 j) (A 1)) (A 7) := by rw [pp.1]; rfl
  by_cases c : j = 6
  · rw [if_pos c, c, upI_eq, ← c, pj]
    omega
  · rw [if_neg c, upI_ne c, pj]
    omega
end Bd

