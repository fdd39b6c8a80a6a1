/-- the bytes of five ints -/
def byA (va : Int → Int) (j : Int) : Int := (va (j / 4) / p2 (8 * (3 - j % 4))) % 256
def va5 (a b c d e : Int) (i : Int) : Int := if i = 0 then a else if i = 1 then b else if i = 2 then c else if i = 3 then d else e
theorem mixO_mod {o k j : Int} {f g : Int → Int} : mixO o f g k j % 256 = mixO o (fun i => f i % 256) (fun i => g i % 256) k j := by
  unfold mixO
  split <;> rfl
theorem by_4 {va : Int → Int} {n i j : Int} (h : 0 ≤ j - (n + 4 * i) ∧ j - (n + 4 * i) < 4) : byA va (j - n) = (va i / p2 (8 * (3 - (j - (n + 4 * i))))) % 256 := by
  unfold byA
  rw [show (j - n) / 4 = i by omega, show (j - n) % 4 = j - (n + 4 * i) by omega]
section Ap
variable {σ : Hp} {T : Int → Int}
abbrev Hp.br (σ : Hp) (n v k : Int) : Hp := (σ.rI 55 0 (mixO n (fun j => sb (v / p2 (8 * (3 - j)))) (σ.I 55 0) k)).setI 11 0 8 (n + k)
theorem R_bring {v n : Int} (hW : WF σ) (hv : iR v) (hn : σ.I 11 0 8 = n) (h0 : 0 ≤ n ∧ n + 4 ≤ 600) : Rt m_X11_bring 0 0 0 [vR (some (11, 0)), vI v] σ none (σ.br n v 4) := by
  show V _ 0 0 0 0 [some (vR (some (11, 0))), some (vI v), none] [] σ _
  have start : σ.br n v 0 = σ := by
    show (σ.rI 55 0 (mixO n (fun j => sb (v / p2 (8 * (3 - j)))) (σ.I 55 0) 0)).setI 11 0 8 (n + 0) = σ
    rw [mixO_0, rI_self, Int.add_zero, ← hn, setI_row]
    have e : upI (σ.I 11 0) 8 (σ.I 11 0 8) = σ.I 11 0 := by
      funext j
      unfold upI
      by_cases q : j = 8
      · rw [if_pos q, q]
      · rw [if_neg q]
    rw [e, rI_self]
  refine V_iconst a_X11_bring_0 ?_
  refine V_istn2 a_X11_bring_1 ?_
  refine (fun z => by rw [start] at z; exact z : V _ 0 0 0 2 [some (vR (some (11, 0))), some (vI v), some (vI (3 - 0))] [] (σ.br n v 0) _ → _) ?_
  refine loopI (P := fun j => V _ 0 0 0 2 [some (vR (some (11, 0))), some (vI v), some (vI (3 - j))] [] (σ.br n v j) _) (N := 4) (by omega) ?_ ?_
  · refine V_ildn2 a_X11_bring_2 ?_
    refine V_if_lt_t a_X11_bring_3 (by omega) (by omega) ?_
    exact V_ret a_X11_bring_35 (⟨rfl, rfl⟩)
  · intro j j0 j1 ih
    have st : (((σ.br n v j).setI 11 0 8 (n + j + 1)).setI 55 0 (n + j) (sb (v / p2 (8 * (3 - j))))) = σ.br n v (j + 1) := by
      show (((σ.rI 55 0 (mixO n (fun j => sb (v / p2 (8 * (3 - j)))) (σ.I 55 0) j)).setI 11 0 8 (n + j)).setI 11 0 8 (n + j + 1)).setI 55 0 (n + j) (sb (v / p2 (8 * (3 - j)))) = _
      rw [setI_setI, setI_cT (t := 11) (t' := 55) (by decide), rI_set, mixO_s (f := fun j => sb (v / p2 (8 * (3 - j)))) j0, Int.add_assoc]
    refine V_ildn2 a_X11_bring_2 ?_
    refine V_if_lt_f a_X11_bring_3 (by omega) (by omega) ?_
    refine V_aldn0 a_X11_bring_6 ?_
    refine V_fin a_X11_bring_7 f_X11_25 rfl hW ?_
    refine V_aldn0 a_X11_bring_10 ?_
    first | refine V_dupR a_X11_bring_11 ?_ | refine V_dupI a_X11_bring_11 ?_
    refine V_getIE a_X11_bring_12 f_X11_91 rfl setI_I ?_
    refine V_dup_x1IR a_X11_bring_15 ?_
    refine V_iconst a_X11_bring_16 ?_
    refine V_iadd a_X11_bring_17 ?_
    refine V_putI a_X11_bring_18 f_X11_91 rfl ?_
    refine V_ildn1 a_X11_bring_21 ?_
    refine V_bipush a_X11_bring_22 (by decide) ?_
    refine V_ildn2 a_X11_bring_24 ?_
    refine V_imul a_X11_bring_25 ?_
    refine V_ishr a_X11_bring_26 (by omega) ?_
    refine V_i2b a_X11_bring_27 ?_
    refine V_bast a_X11_bring_28 rfl (by omega) (sb_bd _) ?_
    rw [st]
    refine V_inc2 a_X11_bring_29 ?_
    refine V_goto a_X11_bring_32 ?_
    rw [show 3 - j + -1 = 3 - (j + 1) by omega]
    exact ih
theorem br_8 {n v k : Int} : (σ.br n v k).I 11 0 8 = n + k := setI_I
theorem br_55 {n v k : Int} : (σ.br n v k).I 55 0 = mixO n (fun j => sb (v / p2 (8 * (3 - j)))) (σ.I 55 0) k := by
  show ((σ.rI 55 0 (mixO n (fun j => sb (v / p2 (8 * (3 - j)))) (σ.I 55 0) k)).setI 11 0 8 (n + k)).I 55 0 = _
  rw [setI_t (by decide)]
  exact rI_I
theorem FK.br {n v k : Int} : FK [55] [8] σ (σ.br n v k) := ⟨(Fm.rI (by decide)).trans (Fm.setI (by decide)), fun j hj => by
  rw [show (σ.br n v k).I 11 0 j = (σ.rI 55 0 (mixO n (fun j => sb (v / p2 (8 * (3 - j)))) (σ.I 55 0) k)).I 11 0 j from setI_ne (fun z => hj (by rw [z]; decide)), rI_ne (by decide)]⟩
theorem br_T {n v : Int} (hT : ∀ k, σ.I 55 0 k % 256 = T k) : ∀ k, (σ.br n v 4).I 55 0 k % 256 = mixO n (fun j => (v / p2 (8 * (3 - j))) % 256) T 4 k := fun k => by
  rw [br_55, mixO_mod]
  unfold mixO
  split
  · exact sb_mod _
  · exact hT k
theorem R_appendText0 {a b c d e n : Int} (hn : σ.I 11 0 8 = n) (h0 : 0 ≤ n ∧ n ≤ 600) (h : 580 < n) : Rt m_X11_appendText 1 0 0 [vR (some (11, 0)), vI a, vI b, vI c, vI d, vI e] σ (some (vI 0)) (σ.th 1) := by
  show V _ 1 0 0 0 [some (vR (some (11, 0))), some (vI a), some (vI b), some (vI c), some (vI d), some (vI e)] [] σ _
  refine V_aldn0 a_X11_appendText_0 ?_
  refine V_getIE a_X11_appendText_1 f_X11_91 rfl hn ?_
  refine V_bipush a_X11_appendText_4 (by decide) ?_
  refine V_iadd a_X11_appendText_6 ?_
  refine V_sipush a_X11_appendText_7 (by decide) ?_
  refine V_icmp_le_f a_X11_appendText_10 (by omega) (by omega) ?_
  refine V_aldn0 a_X11_appendText_13 ?_
  refine V_iconst a_X11_appendText_14 ?_
  refine V_v1R a_X11_appendText_15 c_X11_87 R_no ?_
  exact V_iret a_X11_appendText_18 (⟨rfl, rfl⟩)
theorem R_appendText1 {a b c d e n : Int} (hW : WF σ) (ha : iR a) (hb : iR b) (hc : iR c) (hd : iR d) (he : iR e) (hn : σ.I 11 0 8 = n) (h0 : 0 ≤ n ∧ n ≤ 580) (hT : ∀ k, σ.I 55 0 k % 256 = T k) : ∃ σ', FK [55] [6, 8] σ σ' ∧ σ'.I 11 0 6 = 0 ∧ σ'.I 11 0 8 = n + 20 ∧ (∀ k, σ'.I 55 0 k % 256 = mixO n (byA (va5 a b c d e)) T 20 k) ∧ Rt m_X11_appendText 1 0 0 [vR (some (11, 0)), vI a, vI b, vI c, vI d, vI e] σ (some (vI (n + 20))) σ' := by
  have hT0 : ∀ k, (σ.th 0).I 55 0 k % 256 = T k := fun k => by
    rw [setI_t (by decide)]
    exact hT k
  have n0 : (σ.th 0).I 11 0 8 = n := (setI_ne (by decide)).trans hn
  have i0 : (σ.th 0).I 11 0 6 = 0 := setI_I
  have f0 : FK [55] [6, 8] σ (σ.th 0) := FK.th (by decide)
  have hW0 : WF (σ.th 0) := hW
  generalize hτ0 : σ.th 0 = τ0 at hT0 n0 i0 f0 hW0
  have r1 := R_bring (v := a) hW0 ha n0 (by omega)
  have f1 : FK [55] [6, 8] σ (τ0.br n a 4) := f0.trans (FK.br.sub (by decide) (by decide))
  have i1 : (τ0.br n a 4).I 11 0 6 = 0 := (FK.br.2 6 (by decide)).trans i0
  have T1 := br_T (n := n) (v := a) hT0
  have n1 : (τ0.br n a 4).I 11 0 8 = n + 4 := br_8
  have hW1 : WF (τ0.br n a 4) := f1.1.wf hW
  generalize τ0.br n a 4 = τ1 at r1 f1 i1 T1 n1 hW1
  have r2 := R_bring (v := b) hW1 hb n1 (by omega)
  have f2 : FK [55] [6, 8] σ (τ1.br (n + 4) b 4) := f1.trans (FK.br.sub (by decide) (by decide))
  have i2 : (τ1.br (n + 4) b 4).I 11 0 6 = 0 := (FK.br.2 6 (by decide)).trans i1
  have T2 := br_T (n := n + 4) (v := b) T1
  have n2 : (τ1.br (n + 4) b 4).I 11 0 8 = n + 4 + 4 := br_8
  have hW2 : WF (τ1.br (n + 4) b 4) := f2.1.wf hW
  generalize τ1.br (n + 4) b 4 = τ2 at r2 f2 i2 T2 n2 hW2
  have r3 := R_bring (v := c) hW2 hc n2 (by omega)
  have f3 : FK [55] [6, 8] σ (τ2.br (n + 4 + 4) c 4) := f2.trans (FK.br.sub (by decide) (by decide))
  have i3 : (τ2.br (n + 4 + 4) c 4).I 11 0 6 = 0 := (FK.br.2 6 (by decide)).trans i2
  have T3 := br_T (n := n + 4 + 4) (v := c) T2
  have n3 : (τ2.br (n + 4 + 4) c 4).I 11 0 8 = n + 4 + 4 + 4 := br_8
  have hW3 : WF (τ2.br (n + 4 + 4) c 4) := f3.1.wf hW
  generalize τ2.br (n + 4 + 4) c 4 = τ3 at r3 f3 i3 T3 n3 hW3
  have r4 := R_bring (v := d) hW3 hd n3 (by omega)
  have f4 : FK [55] [6, 8] σ (τ3.br (n + 4 + 4 + 4) d 4) := f3.trans (FK.br.sub (by decide) (by decide))
  have i4 : (τ3.br (n + 4 + 4 + 4) d 4).I 11 0 6 = 0 := (FK.br.2 6 (by decide)).trans i3
  have T4 := br_T (n := n + 4 + 4 + 4) (v := d) T3
  have n4 : (τ3.br (n + 4 + 4 + 4) d 4).I 11 0 8 = n + 4 + 4 + 4 + 4 := br_8
  have hW4 : WF (τ3.br (n + 4 + 4 + 4) d 4) := f4.1.wf hW
  generalize τ3.br (n + 4 + 4 + 4) d 4 = τ4 at r4 f4 i4 T4 n4 hW4
  have r5 := R_bring (v := e) hW4 he n4 (by omega)
  have f5 : FK [55] [6, 8] σ (τ4.br (n + 4 + 4 + 4 + 4) e 4) := f4.trans (FK.br.sub (by decide) (by decide))
  have i5 : (τ4.br (n + 4 + 4 + 4 + 4) e 4).I 11 0 6 = 0 := (FK.br.2 6 (by decide)).trans i4
  have T5 := br_T (n := n + 4 + 4 + 4 + 4) (v := e) T4
  have n5 : (τ4.br (n + 4 + 4 + 4 + 4) e 4).I 11 0 8 = n + 20 := by
    rw [br_8]
    omega
  generalize τ4.br (n + 4 + 4 + 4 + 4) e 4 = τ5 at r5 f5 i5 T5 n5
  refine ⟨τ5, f5, i5, n5, fun k => ?_, ?_⟩
  · rw [T5 k]
    by_cases q : n ≤ k ∧ k < n + 20
    · rw [show mixO n (byA (va5 a b c d e)) T 20 k = byA (va5 a b c d e) (k - n) from if_pos q]
      by_cases q5 : n + 16 ≤ k
      · rw [show mixO (n + 4 + 4 + 4 + 4) _ _ 4 k = _ from if_pos (by omega), by_4 (i := 4) (by omega), show k - (n + 4 + 4 + 4 + 4) = k - (n + 4 * 4) by omega]
        rfl
      · rw [mixO_out (by omega)]
        by_cases q4 : n + 12 ≤ k
        · rw [show mixO (n + 4 + 4 + 4) _ _ 4 k = _ from if_pos (by omega), by_4 (i := 3) (by omega), show k - (n + 4 + 4 + 4) = k - (n + 4 * 3) by omega]
          rfl
        · rw [mixO_out (by omega)]
          by_cases q3 : n + 8 ≤ k
          · rw [show mixO (n + 4 + 4) _ _ 4 k = _ from if_pos (by omega), by_4 (i := 2) (by omega), show k - (n + 4 + 4) = k - (n + 4 * 2) by omega]
            rfl
          · rw [mixO_out (by omega)]
            by_cases q2 : n + 4 ≤ k
            · rw [show mixO (n + 4) _ _ 4 k = _ from if_pos (by omega), by_4 (i := 1) (by omega), show k - (n + 4) = k - (n + 4 * 1) by omega]
              rfl
            · rw [mixO_out (by omega), show mixO n _ _ 4 k = _ from if_pos (by omega), by_4 (i := 0) (by omega), show k - n = k - (n + 4 * 0) by omega]
              rfl
    · rw [mixO_out (by omega), mixO_out (by omega), mixO_out (by omega), mixO_out (by omega), mixO_out (by omega), mixO_out (by omega)]
  · show V _ 1 0 0 0 [some (vR (some (11, 0))), some (vI a), some (vI b), some (vI c), some (vI d), some (vI e)] [] σ _
    refine V_aldn0 a_X11_appendText_0 ?_
    refine V_getIE a_X11_appendText_1 f_X11_91 rfl hn ?_
    refine V_bipush a_X11_appendText_4 (by decide) ?_
    refine V_iadd a_X11_appendText_6 ?_
    refine V_sipush a_X11_appendText_7 (by decide) ?_
    refine V_icmp_le_t a_X11_appendText_10 (by omega) (by omega) ?_
    refine V_aldn0 a_X11_appendText_19 ?_
    refine V_iconst a_X11_appendText_20 ?_
    refine V_putI a_X11_appendText_21 f_X11_58 rfl ?_
    rw [show σ.setI 11 0 6 0 = τ0 from hτ0]
    refine V_aldn0 a_X11_appendText_24 ?_
    refine V_ildn1 a_X11_appendText_25 ?_
    refine V_v1V a_X11_appendText_26 c_X11_94 r1 ?_
    refine V_aldn0 a_X11_appendText_29 ?_
    refine V_ildn2 a_X11_appendText_30 ?_
    refine V_v1V a_X11_appendText_31 c_X11_94 r2 ?_
    refine V_aldn0 a_X11_appendText_34 ?_
    refine V_ildn3 a_X11_appendText_35 ?_
    refine V_v1V a_X11_appendText_36 c_X11_94 r3 ?_
    refine V_aldn0 a_X11_appendText_39 ?_
    refine V_ild4 a_X11_appendText_40 ?_
    refine V_v1V a_X11_appendText_42 c_X11_94 r4 ?_
    refine V_aldn0 a_X11_appendText_45 ?_
    refine V_ild5 a_X11_appendText_46 ?_
    refine V_v1V a_X11_appendText_48 c_X11_94 r5 ?_
    refine V_aldn0 a_X11_appendText_51 ?_
    refine V_getIE a_X11_appendText_52 f_X11_91 rfl n5 ?_
    exact V_iret a_X11_appendText_55 (⟨rfl, rfl⟩)
theorem R_truncateText {m n : Int} (hm : iR m) (hn : σ.I 11 0 8 = n) (h0 : 0 ≤ n ∧ n ≤ 600) : ((0 ≤ m ∧ m ≤ n) → Rt m_X11_truncateText 1 0 0 [vR (some (11, 0)), vI m] σ (some (vI m)) ((σ.th 0).setI 11 0 8 m)) ∧ (¬ (0 ≤ m ∧ m ≤ n) → Rt m_X11_truncateText 1 0 0 [vR (some (11, 0)), vI m] σ (some (vI 0)) (σ.th 1)) := by
  obtain ⟨b, hb, r⟩ := B_in (σ := σ) (v := m) (x := 0) (y := n) (by omega) (by omega) (by omega)
  refine ⟨fun q => ?_, fun q => ?_⟩
  · show V _ 1 0 0 0 [some (vR (some (11, 0))), some (vI m)] [] σ _
    refine V_ildn1 a_X11_truncateText_0 ?_
    refine V_i2l a_X11_truncateText_1 (by omega) ?_
    refine V_lconst0 a_X11_truncateText_2 ?_
    refine V_aldn0 a_X11_truncateText_3 ?_
    refine V_getIE a_X11_truncateText_4 f_X11_91 rfl hn ?_
    refine V_i2l a_X11_truncateText_7 (by omega) ?_
    refine V_s3R a_X11_truncateText_8 c_X11_61 r ?_
    refine V_if_ne_t a_X11_truncateText_11 (by omega) (by omega) ?_
    refine V_aldn0 a_X11_truncateText_20 ?_
    refine V_iconst a_X11_truncateText_21 ?_
    refine V_putI a_X11_truncateText_22 f_X11_58 rfl ?_
    refine V_aldn0 a_X11_truncateText_25 ?_
    refine V_ildn1 a_X11_truncateText_26 ?_
    refine V_putI a_X11_truncateText_27 f_X11_91 rfl ?_
    refine V_ildn1 a_X11_truncateText_30 ?_
    exact V_iret a_X11_truncateText_31 (⟨rfl, rfl⟩)
  · show V _ 1 0 0 0 [some (vR (some (11, 0))), some (vI m)] [] σ _
    refine V_ildn1 a_X11_truncateText_0 ?_
    refine V_i2l a_X11_truncateText_1 (by omega) ?_
    refine V_lconst0 a_X11_truncateText_2 ?_
    refine V_aldn0 a_X11_truncateText_3 ?_
    refine V_getIE a_X11_truncateText_4 f_X11_91 rfl hn ?_
    refine V_i2l a_X11_truncateText_7 (by omega) ?_
    refine V_s3R a_X11_truncateText_8 c_X11_61 r ?_
    refine V_if_ne_f a_X11_truncateText_11 (by omega) (by omega) ?_
    refine V_aldn0 a_X11_truncateText_14 ?_
    refine V_iconst a_X11_truncateText_15 ?_
    refine V_v1R a_X11_truncateText_16 c_X11_87 R_no ?_
    exact V_iret a_X11_truncateText_19 (⟨rfl, rfl⟩)
end Ap

