section Sc
variable {D : Int} {σ : Hp} {s : Lsv}
theorem pg_ok {L : List Int} (h : (L.length : Int) ≤ 2200) : PgOk (σ.pg 0 L) L := by
  refine ⟨?_, h, fun i i0 i1 => ?_⟩
  · rw [pg_22]
    omega
  · rw [pg_61]
    have e := mixO_in (o := 0) (f := fun j => L.getD j.toNat 0) (g := σ.I 61 0) (k := (L.length : Int)) (j := i) i0 i1
    rw [Int.zero_add] at e
    exact e
theorem br_v {A : St} {b c q r : Int} (hk : brC A b c q r ≠ 0) : brC A b c q r = 1 ∨ brC A b c q r = 2 ∨ brC A b c q r = 3 := by
  unfold brC at *
  by_cases h1 : (0 ≤ b ∧ b < A 2) ∧ 0 ≤ c ∧ c < A 0
  · rw [if_neg (not_not_intro h1)] at *
    by_cases h2 : (1 ≤ q ∧ q ≤ 99999) ∧ 0 ≤ r ∧ r ≤ 9999
    · rw [if_neg (not_not_intro h2)] at *
      by_cases h3 : canA A b c q
      · rw [if_neg (not_not_intro h3)] at hk
        exact absurd rfl hk
      · rw [if_pos h3]
        exact Or.inr (Or.inr rfl)
    · rw [if_pos h2]
      exact Or.inr (Or.inl rfl)
  · rw [if_pos h1]
    exact Or.inl rfl
theorem ret_v {A : St} {n q : Int} (hk : retC A n q ≠ 0) : retC A n q = 1 ∨ retC A n q = 2 := by
  unfold retC at *
  by_cases h1 : placeA A n = -1
  · exact Or.inl (if_pos h1)
  · rw [if_neg h1] at hk ⊢
    by_cases h2 : 1 ≤ q ∧ q ≤ quanA A (placeA A n)
    · rw [if_neg (not_not_intro h2)] at hk
      exact absurd rfl hk
    · exact Or.inr (if_pos h2)
theorem dvd_v {A : St} {c v : Int} (hk : dvdC A c v ≠ 0) : (dvdC A c v = 1 ∧ ¬ (0 ≤ c ∧ c < A 0)) ∨ (dvdC A c v = 2 ∧ (0 ≤ c ∧ c < A 0) ∧ ¬ (1 ≤ v ∧ v ≤ 9999)) := by
  unfold dvdC at *
  by_cases h1 : 0 ≤ c ∧ c < A 0
  · rw [if_neg (not_not_intro h1)] at *
    by_cases h2 : 1 ≤ v ∧ v ≤ 9999
    · rw [if_neg (not_not_intro h2)] at hk
      exact absurd rfl hk
    · rw [if_pos h2]
      exact Or.inr ⟨rfl, h1, h2⟩
  · rw [if_pos h1]
    exact Or.inl ⟨rfl, h1⟩
theorem dvd_0 {A : St} {c v : Int} (hk : dvdC A c v = 0) : (0 ≤ c ∧ c < A 0) ∧ 1 ≤ v ∧ v ≤ 9999 := by
  unfold dvdC at hk
  by_cases h1 : 0 ≤ c ∧ c < A 0
  · rw [if_neg (not_not_intro h1)] at hk
    by_cases h2 : 1 ≤ v ∧ v ≤ 9999
    · exact ⟨h1, h2⟩
    · rw [if_pos h2] at hk
      exact absurd hk (by decide)
  · rw [if_pos h1] at hk
    exact absurd hk (by decide)
theorem buy_v {A : St} {l c q : Int} (hk : buyC A l c q ≠ 0) : buyC A l c q = 1 ∨ buyC A l c q = 2 ∨ buyC A l c q = 3 := by
  unfold buyC at *
  by_cases h1 : (0 ≤ l ∧ l < A 1) ∧ 0 ≤ c ∧ c < A 0
  · rw [if_neg (not_not_intro h1)] at hk ⊢
    by_cases h2 : 1 ≤ q ∧ q ≤ 99999
    · rw [if_neg (not_not_intro h2)] at hk ⊢
      by_cases h3 : A (49 + 4 * l + c) + q > 99999
      · exact Or.inr (Or.inr (if_pos h3))
      · rw [if_neg h3] at hk
        exact absurd rfl hk
    · exact Or.inr (Or.inl (if_pos h2))
  · exact Or.inl (if_pos h1)
theorem sel_v {A : St} {l c q : Int} (hk : selC A l c q ≠ 0) : selC A l c q = 1 ∨ selC A l c q = 2 ∨ selC A l c q = 3 := by
  unfold selC at *
  by_cases h1 : (0 ≤ l ∧ l < A 1) ∧ 0 ≤ c ∧ c < A 0
  · rw [if_neg (not_not_intro h1)] at hk ⊢
    by_cases h2 : 1 ≤ q ∧ q ≤ 99999
    · rw [if_neg (not_not_intro h2)] at hk ⊢
      by_cases h3 : A (49 + 4 * l + c) - lentA A l c < q
      · exact Or.inr (Or.inr (if_pos h3))
      · rw [if_neg h3] at hk
        exact absurd rfl hk
    · exact Or.inr (Or.inl (if_pos h2))
  · exact Or.inl (if_pos h1)
theorem S_borrow {b c q r : Int} (h : CIv D σ s) (ib : iR b) (ic : iR c) (iq : iR q) (ir : iR r) (hD : D + 41000 ≤ 20000000) : Lstp D σ s m_X10_borrow m_X11_borrow [xIOB, xIAE, xISE] [vI b, vI c, vI q, vI r] okI := by
  by_cases k : brC s.1 b c q r = 0
  · exact Lstp.mk' ⟨_, rfl⟩ (Cq.c (X_borrow0 h ib ic iq ir k (by omega))) (fun τ _ c2 m => Mq.c (L := [50, 51, 54, 56, 57]) (K := [5, 6]) m c2.inv ((R_borrow m.1 m.2.1 ib ic iq ir).1 k)) (by decide) (by show _ + 67 * s.2.2.1 ≤ _; omega)
  · exact Lstp.mk' ⟨_, rfl⟩ (Cq.k3 h (X_borrow1 h ib ic iq ir k) (br_v k)) (fun τ _ _ m => Mq.r m ((R_borrow m.1 m.2.1 ib ic iq ir).2 k)) (by have := br_v k; omega)
theorem S_returnShares {n q : Int} (h : CIv D σ s) (in_ : iR n) (iq : iR q) : Lstp D σ s m_X10_returnShares m_X11_returnShares [xIOB, xIAE] [vI n, vI q] okI := by
  by_cases k : retC s.1 n q = 0
  · exact Lstp.mk' ⟨_, rfl⟩ (Cq.c (X_returnShares0 h in_ iq k)) (fun τ _ c2 m => Mq.c (L := [50, 51, 54, 58]) (K := [5, 6, 17]) m c2.inv ((R_returnShares m.1 m.2.1 in_ iq).1 k)) (by decide) (by show _ + 67 * s.2.2.1 ≤ _; omega)
  · exact Lstp.mk' ⟨_, rfl⟩ (Cq.k2 h (X_returnShares1 h in_ iq k) (ret_v k)) (fun τ _ _ m => Mq.r m ((R_returnShares m.1 m.2.1 in_ iq).2 k)) (by have := ret_v k; omega)
theorem S_payDividend {c a : Int} (h : CIv D σ s) (ic : iR c) (ia : iR a) : Lstp D σ s m_X10_payDividend m_X11_payDividend [xIOB, xIAE] [vI c, vI a] okJ := by
  by_cases k : dvdC s.1 c a = 0
  · exact Lstp.mk' ⟨_, rfl⟩ (Cq.c (X_payDividend0 h ic ia k)) (fun τ _ c2 m => Mq.c (L := [50, 51, 54]) (K := [5, 6]) m c2.inv ((R_payDividend m.1 m.2.1 ic ia).1 k)) (by decide) (by show _ + 67 * s.2.2.1 ≤ _; omega)
  · exact Lstp.mk' ⟨_, rfl⟩ (Cq.k2 h (X_payDividend1 h ic ia k) (by have := dvd_v k; omega)) (fun τ _ _ m => Mq.r m ((R_payDividend m.1 m.2.1 ic ia).2 k)) (by have := dvd_v k; omega)
theorem S_buyShares {l c q : Int} (h : CIv D σ s) (il : iR l) (ic : iR c) (iq : iR q) : Lstp D σ s m_X10_buyShares m_X11_buyShares [xIOB, xIAE, xISE] [vI l, vI c, vI q] okI := by
  by_cases k : buyC s.1 l c q = 0
  · exact Lstp.mk' ⟨_, rfl⟩ (Cq.c (X_buyShares0 h il ic iq k)) (fun τ _ c2 m => Mq.c (L := [50, 51, 54]) (K := [5, 6]) m c2.inv ((R_buyShares m.1 m.2.1 il ic iq).1 k)) (by decide) (by show _ + 67 * s.2.2.1 ≤ _; omega)
  · exact Lstp.mk' ⟨_, rfl⟩ (Cq.k3 h (X_buyShares1 h il ic iq k) (buy_v k)) (fun τ _ _ m => Mq.r m ((R_buyShares m.1 m.2.1 il ic iq).2 k)) (by have := buy_v k; omega)
theorem S_sellShares {l c q : Int} (h : CIv D σ s) (il : iR l) (ic : iR c) (iq : iR q) : Lstp D σ s m_X10_sellShares m_X11_sellShares [xIOB, xIAE, xISE] [vI l, vI c, vI q] okI := by
  by_cases k : selC s.1 l c q = 0
  · exact Lstp.mk' ⟨_, rfl⟩ (Cq.c (X_sellShares0 h il ic iq k)) (fun τ _ c2 m => Mq.c (L := [50, 51, 54]) (K := [5, 6]) m c2.inv ((R_sellShares m.1 m.2.1 il ic iq).1 k)) (by decide) (by show _ + 67 * s.2.2.1 ≤ _; omega)
  · exact Lstp.mk' ⟨_, rfl⟩ (Cq.k3 h (X_sellShares1 h il ic iq k) (sel_v k)) (fun τ _ _ m => Mq.r m ((R_sellShares m.1 m.2.1 il ic iq).2 k)) (by have := sel_v k; omega)
theorem S_recall {l c q : Int} (h : CIv D σ s) (il : iR l) (ic : iR c) (iq : iR q) : Lstp D σ s m_X10_recall m_X11_recall [xIOB, xIAE, xISE] [vI l, vI c, vI q] okI := by
  by_cases k : rclC s.1 l c q = 0
  · exact Lstp.mk' ⟨_, rfl⟩ (Cq.c (X_recall0 h il ic iq k)) (fun τ _ c2 m => by
      have r := (R_recall m.1 m.2.1 il ic iq).1 k
      have e1 : (racX s.1 l c q (τ.I 59 0)).2.2 = rcaN s.1 l c q := by
        unfold rcaN
        rw [rac_row (r' := fun _ => 0)]
      have e2 : racA s.1 l c q (τ.I 59 0) = rcaA s.1 l c q := by
        unfold rcaA
        rw [racA_row (r' := fun _ => 0)]
      rw [e1, e2] at r
      exact V_low (r.mono (fun ρ hq => ⟨hq.1.nw (by decide), ⟨_, Eq9.refl _, m.fk hq.1 (by decide) (by decide) (by decide) hq.2.2.1 hq.2.2.2⟩, hq.2.1⟩)) (Nat.le_refl _) (Nat.le_refl _) (by decide)) (by decide) (by show _ + 67 * s.2.2.1 ≤ _; omega)
  · exact Lstp.mk' ⟨_, rfl⟩ (Cq.k3 h (X_recall1 h il ic iq k) (by have := rcl_v k; omega)) (fun τ _ _ m => Mq.r m ((R_recall m.1 m.2.1 il ic iq).2 k)) (by have := rcl_v k; omega)
theorem S_passDays {d : Int} (h : CIv D σ s) (id : iR d) (hD : D + 41000 ≤ 20000000) : Lstp D σ s m_X10_passDays m_X11_passDays [xIAE] [vI d] okI := by
  by_cases k : 1 ≤ d ∧ d ≤ 400
  · exact Lstp.mk' ⟨_, rfl⟩ (Cq.c (X_passDays0 h k (by omega))) (fun τ _ c2 m => Mq.c (L := [50, 51, 54]) (K := [5, 6]) m c2.inv ((R_passDays m.1 m.2.1 id (by omega)).1 k)) (by decide) (by show _ + 67 * s.2.2.1 ≤ _; omega)
  · exact Lstp.mk' ⟨_, rfl⟩ (Cq.t (κ := 1) 0 h (X_passDays1 h id k) rfl rfl) (fun τ _ _ m => Mq.r m ((R_passDays m.1 m.2.1 id (by omega)).2 k))
theorem S_setPrice {c v : Int} (h : CIv D σ s) (ic : iR c) (iv : iR v) : Lstp D σ s m_X10_setPrice m_X11_setPrice [xIOB, xIAE] [vI c, vI v] okI := by
  by_cases k : dvdC s.1 c v = 0
  · exact Lstp.mk' ⟨_, rfl⟩ (Cq.c (X_setPrice0 h (dvd_0 k))) (fun τ _ c2 m => Mq.c (L := [50, 51, 54]) (K := [5, 6]) m c2.inv ((R_setPrice m.1 m.2.1 ic iv).1 (dvd_0 k))) (by decide) (by show _ + 67 * s.2.2.1 ≤ _; omega)
  · have x := X_setPrice1 (c := c) (v := v) h ic iv k
    rcases dvd_v k with ⟨e, q⟩ | ⟨e, q, p⟩
    · rw [e] at x
      exact Lstp.mk' ⟨_, rfl⟩ (Cq.t (κ := 1) 0 h x rfl rfl) (fun τ _ _ m => Mq.r m ((R_setPrice m.1 m.2.1 ic iv).2.1 q))
    · rw [e] at x
      exact Lstp.mk' ⟨_, rfl⟩ (Cq.t (κ := 2) 1 h x rfl rfl) (fun τ _ _ m => Mq.r m ((R_setPrice m.1 m.2.1 ic iv).2.2 q p))
theorem S_setRate {c v : Int} (h : CIv D σ s) (ic : iR c) (iv : iR v) : Lstp D σ s m_X10_setRate m_X11_setRate [xIOB, xIAE] [vI c, vI v] okI := by
  by_cases q : 0 ≤ c ∧ c < s.1 0
  · by_cases p : 0 ≤ v ∧ v ≤ 9999
    · exact Lstp.mk' ⟨_, rfl⟩ (Cq.c (X_setRate0 h ⟨q, p⟩)) (fun τ _ c2 m => Mq.c (L := [50, 51, 54]) (K := [5, 6]) m c2.inv ((R_setRate m.1 m.2.1 ic iv).1 ⟨q, p⟩)) (by decide) (by show _ + 67 * s.2.2.1 ≤ _; omega)
    · exact Lstp.mk' ⟨_, rfl⟩ (Cq.t (κ := 2) 1 h (X_setRate2 h iv q p) rfl rfl) (fun τ _ _ m => Mq.r m ((R_setRate m.1 m.2.1 ic iv).2.2 q p))
  · exact Lstp.mk' ⟨_, rfl⟩ (Cq.t (κ := 1) 0 h (X_setRate1 h ic q) rfl rfl) (fun τ _ _ m => Mq.r m ((R_setRate m.1 m.2.1 ic iv).2.1 q))
theorem S_setLimit {c v : Int} (h : CIv D σ s) (ic : iR c) (iv : iR v) : Lstp D σ s m_X10_setLimit m_X11_setLimit [xIOB, xIAE] [vI c, vI v] okI := by
  by_cases q : 0 ≤ c ∧ c < s.1 1
  · by_cases p : 0 ≤ v ∧ v ≤ 100
    · exact Lstp.mk' ⟨_, rfl⟩ (Cq.c (X_setLimit0 h ⟨q, p⟩)) (fun τ _ c2 m => Mq.c (L := [50, 51, 54]) (K := [5, 6]) m c2.inv ((R_setLimit m.1 m.2.1 ic iv).1 ⟨q, p⟩)) (by decide) (by show _ + 67 * s.2.2.1 ≤ _; omega)
    · exact Lstp.mk' ⟨_, rfl⟩ (Cq.t (κ := 2) 1 h (X_setLimit2 h iv q p) rfl rfl) (fun τ _ _ m => Mq.r m ((R_setLimit m.1 m.2.1 ic iv).2.2 q p))
  · exact Lstp.mk' ⟨_, rfl⟩ (Cq.t (κ := 1) 0 h (X_setLimit1 h ic q) rfl rfl) (fun τ _ _ m => Mq.r m ((R_setLimit m.1 m.2.1 ic iv).2.1 q))
theorem S_setPolicy {v : Int} (h : CIv D σ s) (iv : iR v) : Lstp D σ s m_X10_setPolicy m_X11_setPolicy [xIAE] [vI v] okI := by
  by_cases q : 0 ≤ v ∧ v ≤ 2
  · exact Lstp.mk' ⟨_, rfl⟩ (Cq.c (X_setPolicy0 h q)) (fun τ _ c2 m => Mq.c (L := [50, 51, 54]) (K := [5, 6]) m c2.inv ((R_setPolicy m.1 m.2.1 iv).1 q)) (by decide) (by show _ + 67 * s.2.2.1 ≤ _; omega)
  · exact Lstp.mk' ⟨_, rfl⟩ (Cq.t (κ := 1) 0 h (X_setPolicy1 iv q) rfl rfl) (fun τ _ _ m => Mq.r m ((R_setPolicy m.1 m.2.1 iv).2 q))
theorem S_appendText {a b c d e : Int} (h : CIv D σ s) (ia : iR a) (ib : iR b) (ic : iR c) (id : iR d) (ie : iR e) : Lstp D σ s m_X10_appendText m_X11_appendText [xISE] [vI a, vI b, vI c, vI d, vI e] okI := by
  have hl := h.len
  by_cases q : 580 < s.2.2.1
  · exact Lstp.mk' ⟨_, rfl⟩ (Cq.t (κ := 1) 0 h (X_appendText1 h q) rfl rfl) (fun τ _ _ m => Mq.r m (R_appendText0 m.2.2.1.2 hl q))
  · exact Lstp.mk' ⟨_, rfl⟩ (Cq.c (X_appendText0 h (by omega))) (fun τ _ c2 m => by
      obtain ⟨ρ, f, e6, e8, eT, r⟩ := R_appendText1 (T := s.2.1) m.1.2.1 ia ib ic id ie m.2.2.1.2 ⟨hl.1, by omega⟩ m.2.2.1.1
      have md : Md D ρ s.1 := m.1.fm f.1 (by decide)
      have hg := m.2.2.2.2
      refine V_low (r.cv ⟨f.nw (by decide), ⟨s.1, Eq9.refl _, md, m.2.1.fk f (by decide) (by decide), ⟨eT, e8⟩, ⟨?_, ?_⟩, ?_⟩, e6⟩) (Nat.le_refl _) (Nat.le_refl _) (by decide)
      · rw [f.2 12 (by decide)]
        exact m.2.2.2.1.1
      · rw [f.2 13 (by decide)]
        exact m.2.2.2.1.2
      · show PgOk ρ s.2.2.2.2.2.2.2
        unfold PgOk at hg ⊢
        rw [f.2 22 (by decide), f.1.I (by decide)]
        exact hg) (by decide) (by show D + 67 * (s.2.2.1 + 20) ≤ _; omega)
theorem S_truncateText {n : Int} (h : CIv D σ s) (in_ : iR n) : Lstp D σ s m_X10_truncateText m_X11_truncateText [xIAE] [vI n] okI := by
  have hl := h.len
  by_cases q : 0 ≤ n ∧ n ≤ s.2.2.1
  · exact Lstp.mk' ⟨_, rfl⟩ (Cq.c (X_truncateText0 h q)) (fun τ _ c2 m => by
      have r := (R_truncateText (m := n) in_ m.2.2.1.2 hl).1 q
      have f : FK [] [6, 8] τ ((τ.th 0).setI 11 0 8 n) := FK.trans (FK.th (by decide)) ⟨Fm.setI (by decide), fun k hk => setI_ne (fun z => hk (by rw [z]; decide))⟩
      have hg := m.2.2.2.2
      refine V_low (r.cv ⟨f.nw (by decide), ⟨s.1, Eq9.refl _, m.1.setI.setI, m.2.1.fk f (by decide) (by decide), ⟨m.2.2.1.1, setI_I⟩, ⟨?_, ?_⟩, ?_⟩, (setI_ne (by decide)).trans setI_I⟩) (Nat.le_refl _) (Nat.le_refl _) (by decide)
      · rw [f.2 12 (by decide)]
        exact m.2.2.2.1.1
      · rw [f.2 13 (by decide)]
        exact m.2.2.2.1.2
      · show PgOk _ s.2.2.2.2.2.2.2
        unfold PgOk at hg ⊢
        rw [f.2 22 (by decide), f.1.I (by decide)]
        exact hg) (by decide) (by show D + 67 * n ≤ _; omega)
  · exact Lstp.mk' ⟨_, rfl⟩ (Cq.t (κ := 1) 0 h (X_truncateText1 h in_ q) rfl rfl) (fun τ _ _ m => Mq.r m ((R_truncateText (m := n) in_ m.2.2.1.2 hl).2 q))
theorem S_undo (h : CIv D σ s) : Lstp D σ s m_X10_undo m_X11_undo [xISE] [] okI := by
  by_cases q : s.2.2.2.1 = 0
  · exact Lstp.mk' ⟨_, rfl⟩ (Cq.t (κ := 1) 0 h (X_undo1 h q) rfl rfl) (fun τ _ _ m => Mq.r m ((R_undo m.1 m.2.1).1 q))
  · exact Lstp.mk' ⟨_, rfl⟩ (Cq.c (X_undo0 h q (Eq9.refl _))) (fun τ _ c2 m => by
      obtain ⟨ρ, f, e6, e9, p, r⟩ := (R_undo m.1 m.2.1).2 q
      have md : Md D ρ (ρ.J 50 0) := ⟨c2.inv.1, f.1.wf m.1.2.1, rfl, c2.inv.2.eq9 e9⟩
      exact V_low (r.cv ⟨f.nw (by decide), ⟨ρ.J 50 0, e9, m.fk f (by decide) (by decide) (by decide) md p⟩, e6⟩) (Nat.le_refl _) (Nat.le_refl _) (by decide)) (by decide) (by show D + 67 * s.2.2.1 ≤ _; omega)
theorem S_writeReport (h : CIv D σ s) : Lstp D σ s m_X10_writeReport m_X11_writeReport [] [] okI := by
  exact Lstp.mk' ⟨_, rfl⟩ (Cq.c (X_writeReport h)) (fun τ _ c2 m => by
      have r := R_writeReport m.1
      have f : FK [61] [6, 22] τ (((τ.th 0).setI 11 0 22 0).pg 0 (rpL s.1)) := FK.trans (FK.trans (FK.th (by decide)) ⟨Fm.setI (by decide), fun k hk => setI_ne (fun z => hk (by rw [z]; decide))⟩) (FK.pg.sub (by decide) (by decide))
      have hg : Pg τ (rpL s.1) := c2.2.2.2.2.2
      refine V_low (r.cv ⟨f.nw (by decide), ⟨s.1, Eq9.refl _, m.1.fm f.1 (by decide), m.2.1.fk f (by decide) (by decide), ⟨fun k => ?_, ?_⟩, ⟨?_, ?_⟩, pg_ok hg.2.1⟩, ?_⟩) (Nat.le_refl _) (Nat.le_refl _) (by decide)
      · rw [f.1.I (by decide)]
        exact m.2.2.1.1 k
      · rw [f.2 8 (by decide)]
        exact m.2.2.1.2
      · rw [f.2 12 (by decide)]
        exact m.2.2.2.1.1
      · rw [f.2 13 (by decide)]
        exact m.2.2.2.1.2
      · rw [FK.pg.2 6 (by decide)]
        exact (setI_ne (by decide)).trans setI_I) (by decide) (by show D + 67 * s.2.2.1 ≤ _; omega)
end Sc

