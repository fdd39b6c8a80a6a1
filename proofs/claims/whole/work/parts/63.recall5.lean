theorem recb_bd {D : Int} {A : St} (h : Inv D A) {l s : Int} (h0 : 0 ≤ l) (h1 : l < 6) (h2 : 0 ≤ s) (h3 : s < 4) : 0 ≤ recbA A l s ∧ recbA A l s ≤ 99999 := by
  have q1 := lent_bd h h0 h1 h2 h3
  refine ⟨sm_nn (fun j g1 g2 => ?_), Int.le_trans (sm_le (fun j g1 g2 => ?_)) q1.2⟩
  · have := ((h.loan g1 g2).sl h0 h1).1
    split <;> omega
  · have := ((h.loan g1 g2).sl h0 h1).1
    show (if _ then _ else _) ≤ (if _ then _ else _)
    by_cases z : A (83 + 23 * j + 2) = s
    · rw [if_pos z, if_pos z]
      omega
    · rw [if_neg z, if_neg z]
      exact Int.le_refl 0
def rclC (A : St) (l s q : Int) : Int := if ¬ ((0 ≤ l ∧ l < A 1) ∧ 0 ≤ s ∧ s < A 0) then 1 else if ¬ (1 ≤ q ∧ q ≤ 99999) then 2 else if recbA A l s < q then 3 else 0
theorem rcl_0 {A : St} {l s q : Int} (h : rclC A l s q = 0) : ((0 ≤ l ∧ l < A 1) ∧ 0 ≤ s ∧ s < A 0) ∧ (1 ≤ q ∧ q ≤ 99999) ∧ q ≤ recbA A l s := by
  unfold rclC at h
  split at h
  · omega
  · split at h
    · omega
    · split at h
      · omega
      · omega
section Mo15
variable {D : Int} {σ : Hp} {A : St}
theorem B_isNoRecall {l s q : Int} (h : Md D σ A) (hl : iR l) (hs : iR s) (hq : iR q) : ∃ z : Int, (z = if rclC A l s q = 0 then 0 else 1) ∧ Rt m_X11_isNoRecall 3 0 0 [vR (some (11, 0)), vI l, vI s, vI q] σ (some (vI z)) (σ.th (rclC A l s q)) := by
  have hn := h.2.2.2.n
  obtain ⟨b1, hb1, r1⟩ := B_isNoHolding (l := l) (s := s) h hl hs
  by_cases h1 : (0 ≤ l ∧ l < A 1) ∧ 0 ≤ s ∧ s < A 0
  · skip
    have hb : b1 = 0 := by omega
    subst hb
    obtain ⟨b2, hb2, r2⟩ := B_isQuantity (σ := σ.th 0) hq
    by_cases h2 : 1 ≤ q ∧ q ≤ 99999
    · skip
      have hm : Md D ((σ.th 0).th 0) A := h
      have hr := recb_bd h.2.2.2 (l := l) (s := s) (by omega) (by omega) (by omega) (by omega)
      by_cases h3 : recbA A l s < q
      · have e : rclC A l s q = 3 := by
          unfold rclC
          rw [if_neg (fun z => z h1), if_neg (fun z => z h2), if_pos h3]
        rw [e]
        refine ⟨1, rfl, ?_⟩
        show V _ 3 0 0 0 [some (vR (some (11, 0))), some (vI l), some (vI s), some (vI q)] [] σ _
        refine V_aldn0 a_X11_isNoRecall_0 ?_
        refine V_ildn1 a_X11_isNoRecall_1 ?_
        refine V_ildn2 a_X11_isNoRecall_2 ?_
        refine V_v2R a_X11_isNoRecall_3 c_X11_320 r1 ?_
        refine V_if_ne_f a_X11_isNoRecall_6 (by omega) (by omega) ?_
        refine V_aldn0 a_X11_isNoRecall_9 ?_
        refine V_ildn3 a_X11_isNoRecall_10 ?_
        refine V_s1R a_X11_isNoRecall_11 c_X11_259 r2 ?_
        refine V_if_ne_t a_X11_isNoRecall_14 (by omega) (by omega) ?_
        refine V_iconst a_X11_isNoRecall_21 ?_
        refine V_iconst a_X11_isNoRecall_22 ?_
        refine V_v2R a_X11_isNoRecall_23 c_X11_72 R_fails0 ?_
        refine V_if_ne_f a_X11_isNoRecall_26 (by omega) (by omega) ?_
        refine V_aldn0 a_X11_isNoRecall_29 ?_
        refine V_aldn0 a_X11_isNoRecall_30 ?_
        refine V_ildn1 a_X11_isNoRecall_31 ?_
        refine V_ildn2 a_X11_isNoRecall_32 ?_
        refine V_v2R a_X11_isNoRecall_33 c_X11_323 (R_recallableOf hm (by omega) (by omega)) ?_
        refine V_ildn3 a_X11_isNoRecall_36 ?_
        refine V_i2l a_X11_isNoRecall_37 (by omega) ?_
        refine V_lc_ge_f a_X11_isNoRecall_38 a_X11_isNoRecall_39 (by omega) (by omega) ?_
        refine V_iconst a_X11_isNoRecall_42 ?_
        refine V_goto a_X11_isNoRecall_43 ?_
        refine V_iconst a_X11_isNoRecall_47 ?_
        refine V_v2R a_X11_isNoRecall_48 c_X11_72 R_fails1 ?_
        refine V_if_eq_f a_X11_isNoRecall_51 (by omega) (by omega) ?_
        refine V_iconst a_X11_isNoRecall_54 ?_
        refine V_goto a_X11_isNoRecall_55 ?_
        exact V_zret a_X11_isNoRecall_59 (by omega) (⟨rfl, by rw [th_th, th_th]⟩)
      · have e : rclC A l s q = 0 := by
          unfold rclC
          rw [if_neg (fun z => z h1), if_neg (fun z => z h2), if_neg h3]
        rw [e]
        refine ⟨0, rfl, ?_⟩
        show V _ 3 0 0 0 [some (vR (some (11, 0))), some (vI l), some (vI s), some (vI q)] [] σ _
        refine V_aldn0 a_X11_isNoRecall_0 ?_
        refine V_ildn1 a_X11_isNoRecall_1 ?_
        refine V_ildn2 a_X11_isNoRecall_2 ?_
        refine V_v2R a_X11_isNoRecall_3 c_X11_320 r1 ?_
        refine V_if_ne_f a_X11_isNoRecall_6 (by omega) (by omega) ?_
        refine V_aldn0 a_X11_isNoRecall_9 ?_
        refine V_ildn3 a_X11_isNoRecall_10 ?_
        refine V_s1R a_X11_isNoRecall_11 c_X11_259 r2 ?_
        refine V_if_ne_t a_X11_isNoRecall_14 (by omega) (by omega) ?_
        refine V_iconst a_X11_isNoRecall_21 ?_
        refine V_iconst a_X11_isNoRecall_22 ?_
        refine V_v2R a_X11_isNoRecall_23 c_X11_72 R_fails0 ?_
        refine V_if_ne_f a_X11_isNoRecall_26 (by omega) (by omega) ?_
        refine V_aldn0 a_X11_isNoRecall_29 ?_
        refine V_aldn0 a_X11_isNoRecall_30 ?_
        refine V_ildn1 a_X11_isNoRecall_31 ?_
        refine V_ildn2 a_X11_isNoRecall_32 ?_
        refine V_v2R a_X11_isNoRecall_33 c_X11_323 (R_recallableOf hm (by omega) (by omega)) ?_
        refine V_ildn3 a_X11_isNoRecall_36 ?_
        refine V_i2l a_X11_isNoRecall_37 (by omega) ?_
        refine V_lc_ge_t a_X11_isNoRecall_38 a_X11_isNoRecall_39 (by omega) (by omega) ?_
        refine V_iconst a_X11_isNoRecall_46 ?_
        refine V_iconst a_X11_isNoRecall_47 ?_
        refine V_v2R a_X11_isNoRecall_48 c_X11_72 R_fails0 ?_
        refine V_if_eq_t a_X11_isNoRecall_51 (by omega) (by omega) ?_
        refine V_iconst a_X11_isNoRecall_58 ?_
        exact V_zret a_X11_isNoRecall_59 (by omega) (⟨rfl, by rw [th_th, th_th]⟩)
    · have e : rclC A l s q = 2 := by
        unfold rclC
        rw [if_neg (fun z => z h1), if_pos h2]
      rw [e]
      refine ⟨1, rfl, ?_⟩
      show V _ 3 0 0 0 [some (vR (some (11, 0))), some (vI l), some (vI s), some (vI q)] [] σ _
      refine V_aldn0 a_X11_isNoRecall_0 ?_
      refine V_ildn1 a_X11_isNoRecall_1 ?_
      refine V_ildn2 a_X11_isNoRecall_2 ?_
      refine V_v2R a_X11_isNoRecall_3 c_X11_320 r1 ?_
      refine V_if_ne_f a_X11_isNoRecall_6 (by omega) (by omega) ?_
      refine V_aldn0 a_X11_isNoRecall_9 ?_
      refine V_ildn3 a_X11_isNoRecall_10 ?_
      refine V_s1R a_X11_isNoRecall_11 c_X11_259 r2 ?_
      refine V_if_ne_f a_X11_isNoRecall_14 (by omega) (by omega) ?_
      refine V_iconst a_X11_isNoRecall_17 ?_
      refine V_goto a_X11_isNoRecall_18 ?_
      refine V_iconst a_X11_isNoRecall_22 ?_
      refine V_v2R a_X11_isNoRecall_23 c_X11_72 R_fails1 ?_
      refine V_if_ne_t a_X11_isNoRecall_26 (by omega) (by omega) ?_
      refine V_iconst a_X11_isNoRecall_54 ?_
      refine V_goto a_X11_isNoRecall_55 ?_
      exact V_zret a_X11_isNoRecall_59 (by omega) (⟨rfl, by rw [th_th]⟩)
  · have e : rclC A l s q = 1 := by
      unfold rclC
      rw [if_pos h1]
    rw [e]
    have hb : b1 = 1 := by omega
    subst hb
    refine ⟨1, rfl, ?_⟩
    show V _ 3 0 0 0 [some (vR (some (11, 0))), some (vI l), some (vI s), some (vI q)] [] σ _
    refine V_aldn0 a_X11_isNoRecall_0 ?_
    refine V_ildn1 a_X11_isNoRecall_1 ?_
    refine V_ildn2 a_X11_isNoRecall_2 ?_
    refine V_v2R a_X11_isNoRecall_3 c_X11_320 r1 ?_
    refine V_if_ne_t a_X11_isNoRecall_6 (by omega) (by omega) ?_
    refine V_iconst a_X11_isNoRecall_54 ?_
    refine V_goto a_X11_isNoRecall_55 ?_
    exact V_zret a_X11_isNoRecall_59 (by omega) (⟨rfl, rfl⟩)
theorem PastOk.fk {L : List Nat} {ks : List Int} {τ : Hp} {c : Int} {H : Int → St} (h : PastOk σ c H) (f : FK L ks σ τ) (h5 : (5 : Int) ∉ ks) (h54 : 54 ∉ L) : PastOk τ c H := ⟨by rw [f.2 5 h5]; exact h.1, h.2.1, by
  rw [f.1.J (fun z => by
    rcases List.mem_cons.mp z with e | e
    · exact absurd e (by decide)
    · exact h54 e)]
  exact h.2.2⟩
theorem R_recall {l s q c : Int} {H : Int → St} (h : Md D σ A) (hP : PastOk σ c H) (hl : iR l) (hs : iR s) (hq : iR q) : (rclC A l s q = 0 → Cv m_X11_recall 9 0 0 [vR (some (11, 0)), vI l, vI s, vI q] σ (some (vI (racX A l s q (σ.I 59 0)).2.2)) (fun τ => FK [50, 51, 54, 56, 57, 59] [5, 6, 19] σ τ ∧ τ.I 11 0 6 = 0 ∧ Md D τ (racA A l s q (σ.I 59 0)) ∧ PastOk τ (pushC c) (pushH c H A))) ∧ (rclC A l s q ≠ 0 → Rt m_X11_recall 9 0 0 [vR (some (11, 0)), vI l, vI s, vI q] σ (some (vI 0)) (σ.th (rclC A l s q))) := by
  have hD := h.1
  have hI := h.2.2.2
  have hn := hI.n
  obtain ⟨z, hz, r1⟩ := B_isNoRecall (l := l) (s := s) (q := q) h hl hs hq
  refine ⟨fun e => ?_, fun e => ?_⟩
  · have h0 := rcl_0 e
    rw [e, if_pos rfl] at hz
    subst hz
    rw [e] at r1
    have hm : Md D (σ.th 0) A := h
    obtain ⟨σ1, f1, m1, p1, r2⟩ := R_remember (c := c) (H := H) hm hP
    have e59 : σ1.I 59 0 = σ.I 59 0 := by
      rw [f1.1.I (by decide)]
      exact congrFun (u3_t (f := σ.I) (t := 11) (i := 0) (k := 6) (v := 0) (t' := 59) (by decide)) 0
    have r3 := R_recallAll (l := l) (s := s) (q := q) m1 h0.1.1 (by omega) (by omega)
    have hok := (rac_ok (l := l) (s := s) (q := q) (r := σ.I 59 0) hI h0.1.1 (by omega) (by omega)).1.2.2.2
    rw [e59] at r3
    show V _ 9 0 0 0 [some (vR (some (11, 0))), some (vI l), some (vI s), some (vI q)] [] σ _
    refine V_aldn0 a_X11_recall_0 ?_
    refine V_ildn1 a_X11_recall_1 ?_
    refine V_ildn2 a_X11_recall_2 ?_
    refine V_ildn3 a_X11_recall_3 ?_
    refine V_v3R a_X11_recall_4 c_X11_326 r1 ?_
    refine V_if_eq_t a_X11_recall_7 (by omega) (by omega) ?_
    refine V_aldn0 a_X11_recall_12 ?_
    refine V_v0V a_X11_recall_13 c_X11_272 r2 ?_
    refine V_aldn0 a_X11_recall_16 ?_
    refine V_ildn1 a_X11_recall_17 ?_
    refine V_ildn2 a_X11_recall_18 ?_
    refine V_ildn3 a_X11_recall_19 ?_
    refine V_i2l a_X11_recall_20 (by omega) ?_
    refine V_v3PR a_X11_recall_21 c_X11_329 r3 (fun τ hτ => ?_)
    refine V_l2i a_X11_recall_24 ?_
    exact V_iret a_X11_recall_25 (⟨rfl, FK.trans (FK.trans (FK.th (by decide)) (f1.sub (by decide) (by decide))) (hτ.1.sub (by decide) (by decide)), by rw [hτ.1.2 6 (by decide), f1.2 6 (by decide)]; exact setI_I, hτ.2, p1.fk hτ.1 (by decide) (by decide)⟩)
  · rw [if_neg e] at hz
    subst hz
    show V _ 9 0 0 0 [some (vR (some (11, 0))), some (vI l), some (vI s), some (vI q)] [] σ _
    refine V_aldn0 a_X11_recall_0 ?_
    refine V_ildn1 a_X11_recall_1 ?_
    refine V_ildn2 a_X11_recall_2 ?_
    refine V_ildn3 a_X11_recall_3 ?_
    refine V_v3R a_X11_recall_4 c_X11_326 r1 ?_
    refine V_if_eq_f a_X11_recall_7 (by omega) (by omega) ?_
    refine V_iconst a_X11_recall_10 ?_
    exact V_iret a_X11_recall_11 (⟨rfl, rfl⟩)
end Mo15

