theorem Cl.eq9 {D : Int} {σ : Hp} {i : Nat} {A B : St} (h : Cl D σ i A) (he : Eq9 A B) : Cl D σ i B := by
  obtain ⟨hD, hW, hR, hS, hI⟩ := h
  have hn := hI.n
  refine ⟨hD, hW, (hR.top.congr (by omega) (fun _ _ _ => rfl) (fun _ _ _ => rfl) (fun j j0 j1 => he j j0 (by omega))).full (fun k k0 k1 => ?_), hS, hI.eq9 he⟩
  rw [he 7 (by decide) (by decide)] at k1
  exact (hR.lns k k0 k1).congr (fun _ _ => rfl) (fun c c0 c1 => he _ (by omega) (by omega))
/-- the byte of v that stands at j -/
def b4 (v j : Int) : Int := (v / p2 (8 * (3 - j))) % 256
theorem b4_u {v j : Int} (j0 : 0 ≤ j) (j1 : j < 4) : (v % 4294967296 / p2 (24 - 8 * j)) % 256 = b4 v j := by
  unfold b4
  have c : j = 0 ∨ j = 1 ∨ j = 2 ∨ j = 3 := by omega
  rcases c with rfl | rfl | rfl | rfl
  · show v % 4294967296 / 16777216 % 256 = v / 16777216 % 256
    omega
  · show v % 4294967296 / 65536 % 256 = v / 65536 % 256
    omega
  · show v % 4294967296 / 256 % 256 = v / 256 % 256
    omega
  · show v % 4294967296 / 1 % 256 = v / 1 % 256
    omega
section Tx2
variable {D : Int} {σ : Hp} {s : Lsv}
theorem R_addFour {v n : Int} (hW : WF σ) (hn : σ.I 9 0 0 = n) (h0 : 0 ≤ n ∧ n + 4 ≤ 600) : Cv m_X9_addFour 1 0 0 [vR (some (9, 0)), vI v] σ none (fun τ => Fm [9, 20] σ τ ∧ τ.I 9 0 0 = n + 4 ∧ ∀ k, τ.I 20 0 k = mixO n (b4 v) (σ.I 20 0) 4 k) := by
  show V _ 1 0 0 0 [some (vR (some (9, 0))), some (vI v), none] [] σ _
  refine V_bipush a_X9_addFour_0 (by decide) ?_
  refine V_istn2 a_X9_addFour_2 ?_
  refine loopI (P := fun j => ∀ τ, Fm [9, 20] σ τ → τ.I 9 0 0 = n + j → (∀ k, τ.I 20 0 k = mixO n (b4 v) (σ.I 20 0) j k) → V _ 1 0 0 3 [some (vR (some (9, 0))), some (vI v), some (vI (24 - 8 * j))] [] τ _) (N := 4) (by decide) ?_ ?_ σ (Fm.refl _ _) (by rw [Int.add_zero]; exact hn) (fun k => by rw [mixO_0])
  · intro τ f g0 gk
    refine V_ildn2 a_X9_addFour_3 ?_
    refine V_if_lt_t a_X9_addFour_4 (by omega) (by omega) ?_
    exact V_ret a_X9_addFour_50 (⟨rfl, f, g0, gk⟩)
  · intro j j0 j1 ih τ f g0 gk
    have hb : 0 ≤ b4 v j ∧ b4 v j < 256 := by
      unfold b4
      omega
    have eb := b4_u (v := v) j0 j1
    have g1 : (τ.setI 20 0 (n + j) (b4 v j)).I 9 0 0 = n + j := by
      rw [setI_t (by decide)]
      exact g0
    have ih2 := ih ((τ.setI 20 0 (n + j) (b4 v j)).setI 9 0 0 (n + j + 1)) (f.trans ((Fm.setI (by decide)).trans (Fm.setI (by decide)))) (by rw [setI_I]; omega) (fun k => by
      rw [setI_t (by decide), ← mixO_s j0]
      by_cases z : k = n + j
      · rw [z, setI_I, upI_eq]
      · rw [setI_ne z, upI_ne z]
        exact gk k)
    rw [show 24 - 8 * (j + 1) = 24 - 8 * j + -8 by omega] at ih2
    have hW := f.wf hW
    refine V_ildn2 a_X9_addFour_3 ?_
    refine V_if_lt_f a_X9_addFour_4 (by omega) (by omega) ?_
    refine V_aldn0 a_X9_addFour_7 ?_
    refine V_getIE a_X9_addFour_8 f_X9_15 rfl g0 ?_
    refine V_sipush a_X9_addFour_11 (by decide) ?_
    refine V_icmp_ge_f a_X9_addFour_14 (by omega) (by omega) ?_
    refine V_aldn0 a_X9_addFour_17 ?_
    refine V_fin a_X9_addFour_18 f_X9_9 rfl hW ?_
    refine V_aldn0 a_X9_addFour_21 ?_
    refine V_getIE a_X9_addFour_22 f_X9_15 rfl g0 ?_
    refine V_ildn1 a_X9_addFour_25 ?_
    refine V_ildn2 a_X9_addFour_26 ?_
    refine V_iushr a_X9_addFour_27 (by omega) ?_
    refine V_sipush a_X9_addFour_28 (by decide) ?_
    first | refine V_iand255 a_X9_addFour_31 ?_ | refine V_iand63 a_X9_addFour_31 ?_ | refine V_iand1 a_X9_addFour_31 ?_
    rw [eb]
    refine V_i2c a_X9_addFour_32 (by omega) ?_
    refine V_cast a_X9_addFour_33 rfl (by omega) (by omega) ?_
    refine V_aldn0 a_X9_addFour_34 ?_
    first | refine V_dupR a_X9_addFour_35 ?_ | refine V_dupI a_X9_addFour_35 ?_
    refine V_getIE a_X9_addFour_36 f_X9_15 rfl g1 ?_
    refine V_iconst a_X9_addFour_39 ?_
    refine V_iadd a_X9_addFour_40 ?_
    refine V_putI a_X9_addFour_41 f_X9_15 rfl ?_
    refine V_inc2 a_X9_addFour_44 ?_
    refine V_goto a_X9_addFour_47 ?_
    exact ih2
theorem R_hasRoom {n : Int} (hn : σ.I 9 0 0 = n) (h0 : 0 ≤ n ∧ n ≤ 600) : Rt m_X9_hasRoom 0 0 0 [vR (some (9, 0)), vI 20] σ (some (vI (bI (n + 20 ≤ 600)))) σ := by
  show V _ 0 0 0 0 [some (vR (some (9, 0))), some (vI 20)] [] σ _
  by_cases z : n + 20 ≤ 600
  · rw [bI_t z]
    refine V_aldn0 a_X9_hasRoom_0 ?_
    refine V_getIE a_X9_hasRoom_1 f_X9_15 rfl hn ?_
    refine V_ildn1 a_X9_hasRoom_4 ?_
    refine V_iadd a_X9_hasRoom_5 ?_
    refine V_sipush a_X9_hasRoom_6 (by decide) ?_
    refine V_icmp_gt_f a_X9_hasRoom_9 (by omega) (by omega) ?_
    refine V_iconst a_X9_hasRoom_12 ?_
    refine V_goto a_X9_hasRoom_13 ?_
    exact V_zret a_X9_hasRoom_17 (by omega) (⟨rfl, rfl⟩)
  · rw [bI_f z]
    refine V_aldn0 a_X9_hasRoom_0 ?_
    refine V_getIE a_X9_hasRoom_1 f_X9_15 rfl hn ?_
    refine V_ildn1 a_X9_hasRoom_4 ?_
    refine V_iadd a_X9_hasRoom_5 ?_
    refine V_sipush a_X9_hasRoom_6 (by decide) ?_
    refine V_icmp_gt_t a_X9_hasRoom_9 (by omega) (by omega) ?_
    refine V_iconst a_X9_hasRoom_16 ?_
    exact V_zret a_X9_hasRoom_17 (by omega) (⟨rfl, rfl⟩)
theorem X_appendText1 {a b c d e : Int} (h : CIv D σ s) (hk : 580 < s.2.2.1) : Tr m_X10_appendText 8 1 6 [vR (some (10, 0)), vI a, vI b, vI c, vI d, vI e] σ xISE σ := by
  have hW := h.1.2.1
  have ht := h.2.2.1
  have r1 := R_hasRoom ht.2.2.1 ht.2.2.2
  rw [bI_f (by omega)] at r1
  show V _ 8 1 6 0 [some (vR (some (10, 0))), some (vI a), some (vI b), some (vI c), some (vI d), some (vI e)] [] σ _
  refine V_aldn0 a_X10_appendText_0 ?_
  refine V_fin a_X10_appendText_1 f_X10_12 rfl hW ?_
  refine V_bipush a_X10_appendText_4 (by decide) ?_
  refine V_v1R a_X10_appendText_6 c_X10_68 r1 ?_
  refine V_if_ne_f a_X10_appendText_9 (by omega) (by omega) ?_
  exact V_throw (cls := xISE) (wide := false) rfl a_X10_appendText_12 a_X10_appendText_15 a_X10_appendText_16 a_X10_appendText_18 a_X10_appendText_21 xf_ISE kl_X10_72 xi_ISE sr_X10_74 xa_ISE xg_ISE (by omega) (by exact Nat.le_of_ble_eq_true rfl) (⟨rfl, rfl⟩)
theorem X_appendText0 {a b c d e : Int} (h : CIv D σ s) (hk : s.2.2.1 ≤ 580) : Cv m_X10_appendText 8 0 0 [vR (some (10, 0)), vI a, vI b, vI c, vI d, vI e] σ (some (vI (s.2.2.1 + 20))) (QCv D (tps s (mixO s.2.2.1 (byA (va5 a b c d e)) s.2.1 20) (s.2.2.1 + 20)) σ) := by
  have hW := h.1.2.1
  have ht := h.2.2.1
  have r1 := R_hasRoom ht.2.2.1 ht.2.2.2
  rw [bI_t (by omega)] at r1
  have hT := ht.2.1
  have he := ht.2.2.2
  generalize hn : s.2.2.1 = n at *
  have a1 := R_addFour (v := a) hW ht.2.2.1 (show 0 ≤ n ∧ n + 4 ≤ 600 by omega)
  show V _ 8 0 0 0 [some (vR (some (10, 0))), some (vI a), some (vI b), some (vI c), some (vI d), some (vI e)] [] σ _
  refine V_aldn0 a_X10_appendText_0 ?_
  refine V_fin a_X10_appendText_1 f_X10_12 rfl hW ?_
  refine V_bipush a_X10_appendText_4 (by decide) ?_
  refine V_v1R a_X10_appendText_6 c_X10_68 r1 ?_
  refine V_if_ne_t a_X10_appendText_9 (by omega) (by omega) ?_
  refine V_aldn0 a_X10_appendText_22 ?_
  refine V_fin a_X10_appendText_23 f_X10_12 rfl hW ?_
  refine V_ildn1 a_X10_appendText_26 ?_
  refine V_v1PV a_X10_appendText_27 c_X10_79 a1 (fun τ1 h1 => ?_)
  skip
  obtain ⟨f1, l1, k1⟩ := h1
  have hW1 := f1.wf hW
  have a2 := R_addFour (v := b) hW1 l1 (by omega)
  have hW0 := hW
  have hW := hW1
  refine V_aldn0 a_X10_appendText_30 ?_
  refine V_fin a_X10_appendText_31 f_X10_12 rfl hW ?_
  refine V_ildn2 a_X10_appendText_34 ?_
  refine V_v1PV a_X10_appendText_35 c_X10_79 a2 (fun τ2 h2 => ?_)
  skip
  obtain ⟨f2, l2, k2⟩ := h2
  have hW2 := f2.wf hW1
  have a3 := R_addFour (v := c) hW2 l2 (by omega)
  have hW := hW2
  refine V_aldn0 a_X10_appendText_38 ?_
  refine V_fin a_X10_appendText_39 f_X10_12 rfl hW ?_
  refine V_ildn3 a_X10_appendText_42 ?_
  refine V_v1PV a_X10_appendText_43 c_X10_79 a3 (fun τ3 h3 => ?_)
  skip
  obtain ⟨f3, l3, k3⟩ := h3
  have hW3 := f3.wf hW2
  have a4 := R_addFour (v := d) hW3 l3 (by omega)
  have hW := hW3
  refine V_aldn0 a_X10_appendText_46 ?_
  refine V_fin a_X10_appendText_47 f_X10_12 rfl hW ?_
  refine V_ild4 a_X10_appendText_50 ?_
  refine V_v1PV a_X10_appendText_52 c_X10_79 a4 (fun τ4 h4 => ?_)
  skip
  obtain ⟨f4, l4, k4⟩ := h4
  have hW4 := f4.wf hW3
  have a5 := R_addFour (v := e) hW4 l4 (by omega)
  have hW := hW4
  refine V_aldn0 a_X10_appendText_55 ?_
  refine V_fin a_X10_appendText_56 f_X10_12 rfl hW ?_
  refine V_ild5 a_X10_appendText_59 ?_
  refine V_v1PV a_X10_appendText_61 c_X10_79 a5 (fun τ5 h5 => ?_)
  skip
  obtain ⟨f5, l5, k5⟩ := h5
  have hW5 := f5.wf hW4
  have ff := (((f1.trans f2).trans f3).trans f4).trans f5
  have key : ∀ k, 0 ≤ k → k < n + 20 → τ5.I 20 0 k = mixO n (byA (va5 a b c d e)) s.2.1 20 k ∧ 0 ≤ mixO n (byA (va5 a b c d e)) s.2.1 20 k ∧ mixO n (byA (va5 a b c d e)) s.2.1 20 k < 256 := fun k k0 kn => by
    by_cases z : k < n
    · rw [mixO_out (by omega), k5, mixO_out (by omega), k4, mixO_out (by omega), k3, mixO_out (by omega), k2, mixO_out (by omega), k1, mixO_out (by omega)]
      exact hT k k0 z
    · have em : ∀ j, 0 ≤ j → j < 20 → mixO n (byA (va5 a b c d e)) s.2.1 20 (n + j) = byA (va5 a b c d e) j := fun j j0 j1 => mixO_in j0 j1
      have kj : k = n + (k - n) := by omega
      rw [kj, em (k - n) (by omega) (by omega)]
      have hb : ∀ v j, 0 ≤ b4 v j ∧ b4 v j < 256 := fun v j => by
        unfold b4
        omega
      have by5 : ∀ i v, va5 a b c d e i = v → 0 ≤ k - n - 4 * i → k - n - 4 * i < 4 → byA (va5 a b c d e) (k - n) = b4 v (k - n - 4 * i) := fun i v hv q0 q1 => by
        unfold byA b4
        rw [show (k - n) / 4 = i by omega, hv, show (k - n) % 4 = k - n - 4 * i by omega]
      by_cases z5 : n + 16 ≤ k
      · rw [by5 4 e rfl (by omega) (by omega), k5, show n + (k - n) = n + 4 + 4 + 4 + 4 + (k - n - 4 * 4) by omega, mixO_in (by omega) (by omega)]
        exact ⟨rfl, hb _ _⟩
      · rw [k5, mixO_out (by omega)]
        by_cases z4 : n + 12 ≤ k
        · rw [by5 3 d rfl (by omega) (by omega), k4, show n + (k - n) = n + 4 + 4 + 4 + (k - n - 4 * 3) by omega, mixO_in (by omega) (by omega)]
          exact ⟨rfl, hb _ _⟩
        · rw [k4, mixO_out (by omega)]
          by_cases z3 : n + 8 ≤ k
          · rw [by5 2 c rfl (by omega) (by omega), k3, show n + (k - n) = n + 4 + 4 + (k - n - 4 * 2) by omega, mixO_in (by omega) (by omega)]
            exact ⟨rfl, hb _ _⟩
          · rw [k3, mixO_out (by omega)]
            by_cases z2 : n + 4 ≤ k
            · rw [by5 1 b rfl (by omega) (by omega), k2, show n + (k - n) = n + 4 + (k - n - 4 * 1) by omega, mixO_in (by omega) (by omega)]
              exact ⟨rfl, hb _ _⟩
            · rw [k2, mixO_out (by omega), by5 0 a rfl (by omega) (by omega), k1, show n + (k - n) = n + (k - n - 4 * 0) by omega, mixO_in (by omega) (by omega)]
              exact ⟨rfl, hb _ _⟩
  have l6 : τ5.I 9 0 0 = n + 20 := by
    rw [l5]
    omega
  have fin : QCv D (tps s (mixO n (byA (va5 a b c d e)) s.2.1 20) (n + 20)) σ τ5 := h.tx ff (T := mixO n (byA (va5 a b c d e)) s.2.1 20) (e := n + 20) ⟨hW5, key, l6, by omega, by omega⟩
  have hW := hW5
  refine V_aldn0 a_X10_appendText_64 ?_
  refine V_fin a_X10_appendText_65 f_X10_12 rfl hW ?_
  refine V_getIE a_X10_appendText_68 f_X10_83 rfl l6 ?_
  exact V_iret a_X10_appendText_71 (⟨rfl, fin⟩)
theorem X_undo1 (h : CIv D σ s) (hk : s.2.2.2.1 = 0) : Tr m_X10_undo 8 1 6 [vR (some (10, 0))] σ xISE σ := by
  have hW := h.1.2.1
  obtain ⟨nx, ⟨g, -⟩, -⟩ := h.2.2.2.1
  rw [hk] at g
  show V _ 8 1 6 0 [some (vR (some (10, 0)))] [] σ _
  refine V_aldn0 a_X10_undo_0 ?_
  refine V_fin a_X10_undo_1 f_X10_47 rfl hW ?_
  refine V_getIE a_X10_undo_4 f_X10_406 rfl g ?_
  refine V_if_ne_f a_X10_undo_7 (by omega) (by omega) ?_
  exact V_throw (cls := xISE) (wide := true) rfl a_X10_undo_10 a_X10_undo_13 a_X10_undo_14 a_X10_undo_17 a_X10_undo_20 xf_ISE kl_X10_72 xi_ISE sr_X10_409 xa_ISE xg_ISE (by omega) (by exact Nat.le_of_ble_eq_true rfl) (⟨rfl, rfl⟩)
theorem X_undo0 {A' : St} (h : CIv D σ s) (hk : s.2.2.2.1 ≠ 0) (hA : Eq9 (s.2.2.2.2.1 (s.2.2.2.1 - 1)) A') : Cv m_X10_undo 8 0 0 [vR (some (10, 0))] σ (some (vI (s.2.2.2.1 - 1))) (QCv D (A', s.2.1, s.2.2.1, s.2.2.2.1 - 1, s.2.2.2.2.1, s.2.2.2.2.2.1, s.2.2.2.2.2.2.1, s.2.2.2.2.2.2.2) σ) := by
  obtain ⟨c1, c2, c3, c4, c5, c6⟩ := h
  have hW := c1.2.1
  have hcc : 0 ≤ s.2.2.2.1 ∧ s.2.2.2.1 ≤ 10 := by
    obtain ⟨nx, -, -, hc, -⟩ := c4
    exact hc
  have g : σ.I 2 0 0 = s.2.2.2.1 := by
    obtain ⟨nx, ⟨g, -⟩, -⟩ := c4
    exact g
  have rr := R_restore c1 c4 (by omega)
  show V _ 8 0 0 0 [some (vR (some (10, 0)))] [] σ _
  refine V_aldn0 a_X10_undo_0 ?_
  refine V_fin a_X10_undo_1 f_X10_47 rfl hW ?_
  refine V_getIE a_X10_undo_4 f_X10_406 rfl g ?_
  refine V_if_ne_t a_X10_undo_7 (by omega) (by omega) ?_
  refine V_aldn0 a_X10_undo_21 ?_
  refine V_fin a_X10_undo_22 f_X10_47 rfl hW ?_
  refine V_aldn0 a_X10_undo_25 ?_
  refine V_fin a_X10_undo_26 f_X10_61 rfl hW ?_
  refine V_v1PV a_X10_undo_29 c_X10_411 rr (fun τ hτ => ?_)
  skip
  obtain ⟨f, cl, hs⟩ := hτ
  have hW := f.wf hW
  have g2 : τ.I 2 0 0 = s.2.2.2.1 - 1 := by
    obtain ⟨nx, ⟨g, -⟩, -⟩ := hs
    exact g
  have e9 : τ.I 9 0 = σ.I 9 0 := f.I (by unfold cpS; omega)
  have e20 : τ.I 20 0 = σ.I 20 0 := f.I (by unfold cpS; omega)
  have e7 : τ.I 7 0 = σ.I 7 0 := f.I (by unfold cpS; omega)
  have e8 : τ.I 8 0 = σ.I 8 0 := f.I (by unfold cpS; omega)
  have e35 : τ.I 35 0 = σ.I 35 0 := f.I (by unfold cpS; omega)
  have fin : QCv D (A', s.2.1, s.2.2.1, s.2.2.2.1 - 1, s.2.2.2.2.1, s.2.2.2.2.2.1, s.2.2.2.2.2.2.1, s.2.2.2.2.2.2.2) σ τ := by
    refine ⟨f.nw.sub (fun t n z => ?_), cl.eq9 hA, f.shp c2, ⟨hW, fun k k0 k1 => by rw [e20]; exact c3.2.1 k k0 k1, by rw [e9]; exact c3.2.2.1, c3.2.2.2⟩, hs, by rw [e7]; exact c5, ?_⟩
    · unfold cpS at z
      unfold ocS
      omega
    · unfold Pg
      rw [e8, e35]
      exact c6
  refine V_aldn0 a_X10_undo_32 ?_
  refine V_fin a_X10_undo_33 f_X10_47 rfl hW ?_
  refine V_getIE a_X10_undo_36 f_X10_406 rfl g2 ?_
  exact V_iret a_X10_undo_39 (⟨rfl, fin⟩)
end Tx2

