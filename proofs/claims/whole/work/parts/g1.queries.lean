section Sq
variable {D : Int} {σ : Hp} {s : Lsv}
theorem S_holding {l c : Int} (h : CIv D σ s) (il : iR l) (ic : iR c) : Lstp D σ s m_X10_holding m_X11_holding [xIOB] [vI l, vI c] okI := by
  by_cases q : (0 ≤ l ∧ l < s.1 1) ∧ 0 ≤ c ∧ c < s.1 0
  · exact Lstp.mk' ⟨_, rfl⟩ (Cq.r h (X_holding0 h q)) (fun τ _ _ m => Mq.r m ((R_holding m.1 il ic).1 q))
  · exact Lstp.mk' ⟨_, rfl⟩ (Cq.t (κ := 1) 0 h (X_holding1 h il ic q) rfl rfl) (fun τ _ _ m => Mq.r m ((R_holding m.1 il ic).2 q))
theorem S_onLoan {l c : Int} (h : CIv D σ s) (il : iR l) (ic : iR c) : Lstp D σ s m_X10_onLoan m_X11_onLoan [xIOB] [vI l, vI c] okI := by
  by_cases q : (0 ≤ l ∧ l < s.1 1) ∧ 0 ≤ c ∧ c < s.1 0
  · exact Lstp.mk' ⟨_, rfl⟩ (Cq.r h (X_onLoan0 h q)) (fun τ _ _ m => Mq.r m ((R_onLoan m.1 il ic).1 q))
  · exact Lstp.mk' ⟨_, rfl⟩ (Cq.t (κ := 1) 0 h (X_onLoan1 h il ic q) rfl rfl) (fun τ _ _ m => Mq.r m ((R_onLoan m.1 il ic).2 q))
theorem S_available {l c : Int} (h : CIv D σ s) (il : iR l) (ic : iR c) : Lstp D σ s m_X10_available m_X11_available [xIOB] [vI l, vI c] okI := by
  by_cases q : (0 ≤ l ∧ l < s.1 1) ∧ 0 ≤ c ∧ c < s.1 0
  · exact Lstp.mk' ⟨_, rfl⟩ (Cq.r h (X_available0 h q)) (fun τ _ _ m => Mq.r m ((R_available m.1 il ic).1 q))
  · exact Lstp.mk' ⟨_, rfl⟩ (Cq.t (κ := 1) 0 h (X_available1 h il ic q) rfl rfl) (fun τ _ _ m => Mq.r m ((R_available m.1 il ic).2 q))
theorem S_recallable {l c : Int} (h : CIv D σ s) (il : iR l) (ic : iR c) : Lstp D σ s m_X10_recallable m_X11_recallable [xIOB] [vI l, vI c] okI := by
  by_cases q : (0 ≤ l ∧ l < s.1 1) ∧ 0 ≤ c ∧ c < s.1 0
  · exact Lstp.mk' ⟨_, rfl⟩ (Cq.r h (X_recallable0 h q)) (fun τ _ _ m => Mq.r m ((R_recallable m.1 il ic).1 q))
  · exact Lstp.mk' ⟨_, rfl⟩ (Cq.t (κ := 1) 0 h (X_recallable1 h il ic q) rfl rfl) (fun τ _ _ m => Mq.r m ((R_recallable m.1 il ic).2 q))
theorem S_credit {c : Int} (h : CIv D σ s) (ic : iR c) : Lstp D σ s m_X10_credit m_X11_credit [xIOB] [vI c] okI := by
  by_cases q : 0 ≤ c ∧ c < s.1 2
  · exact Lstp.mk' ⟨_, rfl⟩ (Cq.r h (X_credit0 h q)) (fun τ _ _ m => Mq.r m ((R_credit m.1 ic).1 q))
  · exact Lstp.mk' ⟨_, rfl⟩ (Cq.t (κ := 1) 0 h (X_credit1 h ic q) rfl rfl) (fun τ _ _ m => Mq.r m ((R_credit m.1 ic).2 q))
theorem S_pooled {c : Int} (h : CIv D σ s) (ic : iR c) : Lstp D σ s m_X10_pooled m_X11_pooled [xIOB] [vI c] okI := by
  by_cases q : 0 ≤ c ∧ c < s.1 0
  · exact Lstp.mk' ⟨_, rfl⟩ (Cq.r h (X_pooled0 h q)) (fun τ _ _ m => Mq.r m ((R_pooled m.1 ic).1 q))
  · exact Lstp.mk' ⟨_, rfl⟩ (Cq.t (κ := 1) 0 h (X_pooled1 h ic q) rfl rfl) (fun τ _ _ m => Mq.r m ((R_pooled m.1 ic).2 q))
theorem S_lastServed {c : Int} (h : CIv D σ s) (ic : iR c) : Lstp D σ s m_X10_lastServed m_X11_lastServed [xIOB] [vI c] okI := by
  by_cases q : 0 ≤ c ∧ c < s.1 0
  · exact Lstp.mk' ⟨_, rfl⟩ (Cq.r h (X_lastServed0 h q)) (fun τ _ _ m => Mq.r m ((R_lastServed m.1 ic).1 q))
  · exact Lstp.mk' ⟨_, rfl⟩ (Cq.t (κ := 1) 0 h (X_lastServed1 h ic q) rfl rfl) (fun τ _ _ m => Mq.r m ((R_lastServed m.1 ic).2 q))
theorem S_exposure {c : Int} (h : CIv D σ s) (ic : iR c) : Lstp D σ s m_X10_exposure m_X11_exposure [xIOB] [vI c] okJ := by
  by_cases q : 0 ≤ c ∧ c < s.1 2
  · exact Lstp.mk' ⟨_, rfl⟩ (Cq.r h (X_exposure0 h q)) (fun τ _ _ m => Mq.r m ((R_exposure m.1 ic).1 q))
  · exact Lstp.mk' ⟨_, rfl⟩ (Cq.t (κ := 1) 0 h (X_exposure1 h ic q) rfl rfl) (fun τ _ _ m => Mq.r m ((R_exposure m.1 ic).2 q))
theorem S_count {c : Int} (h : CIv D σ s) (ic : iR c) : Lstp D σ s m_X10_count m_X11_count [xIAE] [vI c] okI := by
  by_cases q : 0 ≤ c ∧ c ≤ 8
  · exact Lstp.mk' ⟨_, rfl⟩ (Cq.r h (X_count0 h q)) (fun τ _ _ m => Mq.r m ((R_count m.1 ic).1 q))
  · exact Lstp.mk' ⟨_, rfl⟩ (Cq.t (κ := 1) 0 h (X_count1 ic q) rfl rfl) (fun τ _ _ m => Mq.r m ((R_count m.1 ic).2 q))
theorem S_total {c : Int} (h : CIv D σ s) (ic : iR c) : Lstp D σ s m_X10_total m_X11_total [xIAE] [vI c] okJ := by
  by_cases q : 0 ≤ c ∧ c ≤ 5
  · exact Lstp.mk' ⟨_, rfl⟩ (Cq.r h (X_total0 h q)) (fun τ _ _ m => Mq.r m ((R_total m.1 ic).1 q))
  · exact Lstp.mk' ⟨_, rfl⟩ (Cq.t (κ := 1) 0 h (X_total1 ic q) rfl rfl) (fun τ _ _ m => Mq.r m ((R_total m.1 ic).2 q))
theorem S_openLoan {c : Int} (h : CIv D σ s) (ic : iR c) : Lstp D σ s m_X10_openLoan m_X11_openLoan [xIOB] [vI c] okI := by
  by_cases q : 0 ≤ c ∧ c < s.1 7
  · exact Lstp.mk' ⟨_, rfl⟩ (Cq.r h (X_openLoan0 h q)) (fun τ _ _ m => Mq.r m ((R_openLoan m.1 ic).1 q))
  · exact Lstp.mk' ⟨_, rfl⟩ (Cq.t (κ := 1) 0 h (X_openLoan1 h ic q) rfl rfl) (fun τ _ _ m => Mq.r m ((R_openLoan m.1 ic).2 q))
theorem S_account {k n : Int} (h : CIv D σ s) (ik : iR k) (in_ : iR n) : Lstp D σ s m_X10_account m_X11_account [xIAE] [vI k, vI n] okJ := by
  by_cases q : isAc s.1 k n
  · exact Lstp.mk' ⟨_, rfl⟩ (Cq.r h (X_account0 h ik in_ q)) (fun τ _ _ m => Mq.r m ((R_account m.1 ik in_).1 q))
  · exact Lstp.mk' ⟨_, rfl⟩ (Cq.t (κ := 1) 0 h (X_account1 h ik in_ q) rfl rfl) (fun τ _ _ m => Mq.r m ((R_account m.1 ik in_).2 q))
theorem S_reportByte {k : Int} (h : CIv D σ s) (ik : iR k) : Lstp D σ s m_X10_reportByte m_X11_reportByte [xIOB] [vI k] okI := by
  by_cases q : 0 ≤ k ∧ k < (s.2.2.2.2.2.2.2.length : Int)
  · exact Lstp.mk' ⟨_, rfl⟩ (Cq.r h (X_reportByte0 h q)) (fun τ _ _ m => Mq.r m ((R_reportByte m.1.2.1 m.2.2.2.2 ik).1 q))
  · exact Lstp.mk' ⟨_, rfl⟩ (Cq.t (κ := 1) 0 h (X_reportByte1 h ik q) rfl rfl) (fun τ _ _ m => Mq.r m ((R_reportByte m.1.2.1 m.2.2.2.2 ik).2 q))
theorem S_dailyFee {k : Int} (h : CIv D σ s) (ik : iR k) : Lstp D σ s m_X10_dailyFee m_X11_dailyFee [xIOB] [vI k] okJ := by
  by_cases q : placeA s.1 k ≠ -1
  · exact Lstp.mk' ⟨_, rfl⟩ (Cq.r h (X_dailyFee0 h ik q)) (fun τ _ _ m => Mq.r m ((R_dailyFee m.1 ik).1 q))
  · exact Lstp.mk' ⟨_, rfl⟩ (Cq.t (κ := 1) 0 h (X_dailyFee1 h ik (Classical.not_not.mp q)) rfl rfl) (fun τ _ _ m => Mq.r m ((R_dailyFee m.1 ik).2 (Classical.not_not.mp q)))
theorem S_firstBuyIn (h : CIv D σ s) : Lstp D σ s m_X10_firstBuyIn m_X11_firstBuyIn [xNSE] [] okI := by
  by_cases q : fbX s.1 (s.1 7) ≠ -1
  · exact Lstp.mk' ⟨_, rfl⟩ (Cq.r h (X_firstBuyIn0 h q)) (fun τ _ _ m => Mq.r m ((R_firstBuyIn m.1).1 q))
  · exact Lstp.mk' ⟨_, rfl⟩ (Cq.t (κ := 1) 0 h (X_firstBuyIn1 h (Classical.not_not.mp q)) rfl rfl) (fun τ _ _ m => Mq.r m ((R_firstBuyIn m.1).2 (Classical.not_not.mp q)))
theorem S_richestLender (h : CIv D σ s) : Lstp D σ s m_X10_richestLender m_X11_richestLender [xNSE] [] okI := by
  by_cases q : s.1 1 ≠ 0
  · exact Lstp.mk' ⟨_, rfl⟩ (Cq.r h (X_richestLender0 h q)) (fun τ _ _ m => Mq.r m ((R_richestLender m.1).1 q))
  · exact Lstp.mk' ⟨_, rfl⟩ (Cq.t (κ := 1) 0 h (X_richestLender1 h (Classical.not_not.mp q)) rfl rfl) (fun τ _ _ m => Mq.r m ((R_richestLender m.1).2 (Classical.not_not.mp q)))
theorem S_security {c k : Int} (h : CIv D σ s) (ic : iR c) (ik : iR k) : Lstp D σ s m_X10_security m_X11_security [xIOB, xIAE] [vI c, vI k] okI := by
  by_cases q1 : 0 ≤ c ∧ c < s.1 0
  · by_cases q2 : 0 ≤ k ∧ k ≤ 1
    · exact Lstp.mk' ⟨_, rfl⟩ (Cq.r h (X_security0 h ⟨q1, q2⟩)) (fun τ _ _ m => Mq.r m ((R_security m.1 ic ik).1 ⟨q1, q2⟩))
    · exact Lstp.mk' ⟨_, rfl⟩ (Cq.t (κ := 2) 1 h (X_security2 h ik q1 q2) rfl rfl) (fun τ _ _ m => Mq.r m ((R_security m.1 ic ik).2.2 q1 q2))
  · exact Lstp.mk' ⟨_, rfl⟩ (Cq.t (κ := 1) 0 h (X_security1 h ic q1) rfl rfl) (fun τ _ _ m => Mq.r m ((R_security m.1 ic ik).2.1 q1))
theorem S_lender {c k : Int} (h : CIv D σ s) (ic : iR c) (ik : iR k) : Lstp D σ s m_X10_lender m_X11_lender [xIOB, xIAE] [vI c, vI k] okI := by
  by_cases q1 : 0 ≤ c ∧ c < s.1 1
  · by_cases q2 : 0 ≤ k ∧ k ≤ 2
    · exact Lstp.mk' ⟨_, rfl⟩ (Cq.r h (X_lender0 h ⟨q1, q2⟩)) (fun τ _ _ m => Mq.r m ((R_lender m.1 ic ik).1 ⟨q1, q2⟩))
    · exact Lstp.mk' ⟨_, rfl⟩ (Cq.t (κ := 2) 1 h (X_lender2 h ik q1 q2) rfl rfl) (fun τ _ _ m => Mq.r m ((R_lender m.1 ic ik).2.2 q1 q2))
  · exact Lstp.mk' ⟨_, rfl⟩ (Cq.t (κ := 1) 0 h (X_lender1 h ic q1) rfl rfl) (fun τ _ _ m => Mq.r m ((R_lender m.1 ic ik).2.1 q1))
theorem S_slice {n l k : Int} (h : CIv D σ s) (in_ : iR n) (il : iR l) (ik : iR k) : Lstp D σ s m_X10_slice m_X11_slice [xIOB, xIAE] [vI n, vI l, vI k] okI := by
  by_cases q1 : placeA s.1 n ≠ -1 ∧ 0 ≤ l ∧ l < s.1 1
  · by_cases q2 : 0 ≤ k ∧ k ≤ 2
    · exact Lstp.mk' ⟨_, rfl⟩ (Cq.r h (X_slice0 h in_ ⟨q1, q2⟩)) (fun τ _ _ m => Mq.r m ((R_slice m.1 in_ il ik).1 ⟨q1, q2⟩))
    · exact Lstp.mk' ⟨_, rfl⟩ (Cq.t (κ := 2) 1 h (X_slice2 h in_ ik q1 q2) rfl rfl) (fun τ _ _ m => Mq.r m ((R_slice m.1 in_ il ik).2.2 q1 q2))
  · exact Lstp.mk' ⟨_, rfl⟩ (Cq.t (κ := 1) 0 h (X_slice1 h in_ il q1) rfl rfl) (fun τ _ _ m => Mq.r m ((R_slice m.1 in_ il ik).2.1 q1))
theorem S_loan {n k : Int} (h : CIv D σ s) (in_ : iR n) (ik : iR k) : Lstp D σ s m_X10_loan m_X11_loan [xIOB, xIAE] [vI n, vI k] okI := by
  by_cases q1 : placeA s.1 n ≠ -1
  · by_cases q2 : 0 ≤ k ∧ k ≤ 7
    · exact Lstp.mk' ⟨_, rfl⟩ (Cq.r h (X_loan0 h in_ ⟨q1, q2⟩)) (fun τ _ _ m => Mq.r m ((R_loan m.1 in_ ik).1 ⟨q1, q2⟩))
    · exact Lstp.mk' ⟨_, rfl⟩ (Cq.t (κ := 2) 1 h (X_loan2 h in_ ik q1 q2) rfl rfl) (fun τ _ _ m => Mq.r m ((R_loan m.1 in_ ik).2.2 q1 q2))
  · exact Lstp.mk' ⟨_, rfl⟩ (Cq.t (κ := 1) 0 h (X_loan1 h in_ (Classical.not_not.mp q1)) rfl rfl) (fun τ _ _ m => Mq.r m ((R_loan m.1 in_ ik).2.1 (Classical.not_not.mp q1)))
theorem S_borrowable {k c : Int} (h : CIv D σ s) (ik : iR k) (ic : iR c) : Lstp D σ s m_X10_borrowable m_X11_borrowable [xIOB] [vI k, vI c] okI := by
  by_cases q : (0 ≤ k ∧ k < s.1 2) ∧ 0 ≤ c ∧ c < s.1 0
  · exact Lstp.mk' ⟨_, rfl⟩ (Cq.r h (X_borrowable0 h q)) (fun τ _ _ m => Mq.r m ((R_borrowable m.1 ik ic).1 (if_pos q)))
  · exact Lstp.mk' ⟨_, rfl⟩ (Cq.t (κ := 1) 0 h (X_borrowable1 h ik ic q) rfl rfl) (fun τ _ _ m => Mq.r m ((R_borrowable m.1 ik ic).2 (by unfold boC; rw [if_neg q]; decide)))
theorem S_breakingPrice {k c : Int} (h : CIv D σ s) (ik : iR k) (ic : iR c) : Lstp D σ s m_X10_breakingPrice m_X11_breakingPrice [xIOB, xNSE] [vI k, vI c] okI := by
  by_cases q : (0 ≤ k ∧ k < s.1 2) ∧ 0 ≤ c ∧ c < s.1 0
  · by_cases p : bpA s.1 k c = -1
    · exact Lstp.mk' ⟨_, rfl⟩ (Cq.t (κ := 2) 1 h (X_breakingPrice2 h q p) rfl rfl) (fun τ _ _ m => Mq.e (L := [50, 52]) (K := [6]) m (((R_breakingPrice m.1 ik ic).2 (if_pos q)).2 p) (fun ρ hq => ⟨hq.1, hq.2.1, s.1, hq.2.2, Eq9.refl _⟩))
    · exact Lstp.mk' ⟨_, rfl⟩ (Cq.r h (X_breakingPrice0 h q p)) (fun τ _ _ m => Mq.e (L := [50, 52]) (K := [6]) m (((R_breakingPrice m.1 ik ic).2 (if_pos q)).1 p) (fun ρ hq => ⟨hq.1, hq.2.1, s.1, hq.2.2, Eq9.refl _⟩))
  · exact Lstp.mk' ⟨_, rfl⟩ (Cq.t (κ := 1) 0 h (X_breakingPrice1 h ik ic q) rfl rfl) (fun τ _ _ m => Mq.r m ((R_breakingPrice m.1 ik ic).1 (by unfold boC; rw [if_neg q]; decide)))
theorem rcl_v {A : St} {l c q : Int} (hk : rclC A l c q ≠ 0) : (rclC A l c q = 1 ∧ qfC A l c q = 1) ∨ (rclC A l c q = 2 ∧ qfC A l c q = 2) ∨ (rclC A l c q = 3 ∧ ((0 ≤ l ∧ l < A 1) ∧ 0 ≤ c ∧ c < A 0) ∧ (1 ≤ q ∧ q ≤ 99999) ∧ recbA A l c < q) := by
  by_cases h1 : (0 ≤ l ∧ l < A 1) ∧ 0 ≤ c ∧ c < A 0
  · by_cases h2 : 1 ≤ q ∧ q ≤ 99999
    · by_cases h3 : recbA A l c < q
      · exact Or.inr (Or.inr ⟨by unfold rclC; rw [if_neg (not_not_intro h1), if_neg (not_not_intro h2), if_pos h3], h1, h2, h3⟩)
      · exact absurd (by unfold rclC; rw [if_neg (not_not_intro h1), if_neg (not_not_intro h2), if_neg h3]) hk
    · exact Or.inr (Or.inl ⟨by unfold rclC; rw [if_neg (not_not_intro h1), if_pos h2], by unfold qfC; rw [if_neg (not_not_intro h1), if_pos h2]⟩)
  · exact Or.inl ⟨by unfold rclC; rw [if_pos h1], by unfold qfC; rw [if_pos h1]⟩
theorem S_fewestLoans {l c q : Int} (h : CIv D σ s) (il : iR l) (ic : iR c) (iq : iR q) : Lstp D σ s m_X10_fewestLoans m_X11_fewestLoans [xIOB, xIAE, xNSE] [vI l, vI c, vI q] okI := by
  by_cases k : rclC s.1 l c q = 0
  · exact Lstp.mk' ⟨_, rfl⟩ (Cq.c (X_fewestLoans0 h k)) (fun τ _ _ m => Mq.r m ((R_fewestLoans m.1 il ic iq).1 k))
  · have mq : ∀ τ, Nw o7S σ τ → CIv D τ s → MIv D τ s → Mq m_X11_fewestLoans [vI l, vI c, vI q] τ (rclC s.1 l c q) (vI 0) D s := fun τ _ _ m => Mq.r m ((R_fewestLoans m.1 il ic iq).2 k)
    rcases rcl_v k with ⟨e1, e2⟩ | ⟨e1, e2⟩ | ⟨e1, h1, h2, h3⟩
    · rw [e1] at mq
      have x := X_fewestLoans1 (l := l) (c := c) (q := q) h il ic iq (by rw [e2]; decide)
      rw [e2] at x
      exact Lstp.mk' ⟨_, rfl⟩ (Cq.k2 h x (Or.inl rfl)) mq
    · rw [e1] at mq
      have x := X_fewestLoans1 (l := l) (c := c) (q := q) h il ic iq (by rw [e2]; decide)
      rw [e2] at x
      exact Lstp.mk' ⟨_, rfl⟩ (Cq.k2 h x (Or.inr rfl)) mq
    · rw [e1] at mq
      exact Lstp.mk' ⟨_, rfl⟩ (Cq.t (κ := 3) 2 h (X_fewestLoans2 h h1 h2 h3) rfl rfl) mq
theorem S_tightestSum {l c q : Int} (h : CIv D σ s) (il : iR l) (ic : iR c) (iq : iR q) : Lstp D σ s m_X10_tightestSum m_X11_tightestSum [xIOB, xIAE, xNSE] [vI l, vI c, vI q] okI := by
  by_cases k : rclC s.1 l c q = 0
  · exact Lstp.mk' ⟨_, rfl⟩ (Cq.c (X_tightestSum0 h k)) (fun τ _ _ m => Mq.r m ((R_tightestSum m.1 il ic iq).1 k))
  · have mq : ∀ τ, Nw o7S σ τ → CIv D τ s → MIv D τ s → Mq m_X11_tightestSum [vI l, vI c, vI q] τ (rclC s.1 l c q) (vI 0) D s := fun τ _ _ m => Mq.r m ((R_tightestSum m.1 il ic iq).2 k)
    rcases rcl_v k with ⟨e1, e2⟩ | ⟨e1, e2⟩ | ⟨e1, h1, h2, h3⟩
    · rw [e1] at mq
      have x := X_tightestSum1 (l := l) (c := c) (q := q) h il ic iq (by rw [e2]; decide)
      rw [e2] at x
      exact Lstp.mk' ⟨_, rfl⟩ (Cq.k2 h x (Or.inl rfl)) mq
    · rw [e1] at mq
      have x := X_tightestSum1 (l := l) (c := c) (q := q) h il ic iq (by rw [e2]; decide)
      rw [e2] at x
      exact Lstp.mk' ⟨_, rfl⟩ (Cq.k2 h x (Or.inr rfl)) mq
    · rw [e1] at mq
      exact Lstp.mk' ⟨_, rfl⟩ (Cq.t (κ := 3) 2 h (X_tightestSum2 h h1 h2 h3) rfl rfl) mq
theorem S_tightestLoans {l c q : Int} (h : CIv D σ s) (il : iR l) (ic : iR c) (iq : iR q) : Lstp D σ s m_X10_tightestLoans m_X11_tightestLoans [xIOB, xIAE, xNSE] [vI l, vI c, vI q] okI := by
  by_cases k : rclC s.1 l c q = 0
  · exact Lstp.mk' ⟨_, rfl⟩ (Cq.c (X_tightestLoans0 h k)) (fun τ _ _ m => Mq.r m ((R_tightestLoans m.1 il ic iq).1 k))
  · have mq : ∀ τ, Nw o7S σ τ → CIv D τ s → MIv D τ s → Mq m_X11_tightestLoans [vI l, vI c, vI q] τ (rclC s.1 l c q) (vI 0) D s := fun τ _ _ m => Mq.r m ((R_tightestLoans m.1 il ic iq).2 k)
    rcases rcl_v k with ⟨e1, e2⟩ | ⟨e1, e2⟩ | ⟨e1, h1, h2, h3⟩
    · rw [e1] at mq
      have x := X_tightestLoans1 (l := l) (c := c) (q := q) h il ic iq (by rw [e2]; decide)
      rw [e2] at x
      exact Lstp.mk' ⟨_, rfl⟩ (Cq.k2 h x (Or.inl rfl)) mq
    · rw [e1] at mq
      have x := X_tightestLoans1 (l := l) (c := c) (q := q) h il ic iq (by rw [e2]; decide)
      rw [e2] at x
      exact Lstp.mk' ⟨_, rfl⟩ (Cq.k2 h x (Or.inr rfl)) mq
    · rw [e1] at mq
      exact Lstp.mk' ⟨_, rfl⟩ (Cq.t (κ := 3) 2 h (X_tightestLoans2 h h1 h2 h3) rfl rfl) mq
theorem S_recallOrder {l c j : Int} (h : CIv D σ s) (il : iR l) (ic : iR c) (ij : iR j) : Lstp D σ s m_X10_recallOrder m_X11_recallOrder [xIOB] [vI l, vI c, vI j] okI := by
  by_cases q : (0 ≤ l ∧ l < s.1 1) ∧ 0 ≤ c ∧ c < s.1 0
  · by_cases p : 0 ≤ j ∧ j < (loX s.1 l c (fun _ => 0) (s.1 7)).2
    · exact Lstp.mk' ⟨_, rfl⟩ (Cq.c (X_recallOrder0 h q p)) (fun τ _ _ m => Mq.e (L := [59]) (K := [6, 19]) m (((R_recallOrder m.1 il ic ij).2 q).1 p) (fun ρ hq => ⟨hq.1, hq.2, s.1, m.1.fm hq.1.1 (by decide), Eq9.refl _⟩))
    · exact Lstp.mk' ⟨_, rfl⟩ (Cq.x (κ := 1) 0 (X_recallOrder2 h ij q p) rfl rfl) (fun τ _ _ m => Mq.e (L := [59]) (K := [6, 19]) m (((R_recallOrder m.1 il ic ij).2 q).2 p) (fun ρ hq => ⟨hq.1, hq.2, s.1, m.1.fm hq.1.1 (by decide), Eq9.refl _⟩))
  · exact Lstp.mk' ⟨_, rfl⟩ (Cq.t (κ := 1) 0 h (X_recallOrder1 h il ic q) rfl rfl) (fun τ _ _ m => Mq.r m ((R_recallOrder m.1 il ic ij).1 q))
theorem S_returnOrder {n j : Int} (h : CIv D σ s) (in_ : iR n) (ij : iR j) : Lstp D σ s m_X10_returnOrder m_X11_returnOrder [xIOB] [vI n, vI j] okI := by
  by_cases q : placeA s.1 n = -1
  · exact Lstp.mk' ⟨_, rfl⟩ (Cq.t (κ := 1) 0 h (X_returnOrder1 h in_ ij (fun z => z.1 q)) rfl rfl) (fun τ _ _ m => Mq.r m ((R_returnOrder m.1 in_ ij).1 q))
  · have pk := (place_ok q).1
    have hI := h.inv
    have hq := hI.2.quan pk.1 pk.2
    have c12 : (backA (placeA s.1 n) s.1 (quanA s.1 (placeA s.1 n))).c ≤ 12 := (back_ok (G1_init (r := fun _ => 0) hI.1 hI.2 pk.1 pk.2 (q := quanA s.1 (placeA s.1 n)) ⟨by omega, Int.le_refl _⟩)).1.2.1
    have mf : ¬ (0 ≤ j ∧ j < (backA (placeA s.1 n) s.1 (quanA s.1 (placeA s.1 n))).c) → ∀ τ, Nw o7S σ τ → CIv D τ s → MIv D τ s → Mq m_X11_returnOrder [vI n, vI j] τ 1 (vI 0) D s := fun p τ _ _ m => Mq.e (L := [50, 52, 58]) (K := [6, 17]) m (((R_returnOrder m.1 in_ ij).2 q).2 p) (fun ρ hq => hq)
    by_cases p : 0 ≤ j ∧ j < 12
    · rcases rt_bd (n := j) hI.1 hI.2 pk with ⟨e, z⟩ | ⟨e, z, r⟩
      · exact Lstp.mk' ⟨_, rfl⟩ (Cq.x (κ := 1) 0 (X_returnOrder2 h in_ q p e) rfl rfl) (mf (fun y => z y.2))
      · have x := X_returnOrder0 (n := n) (j := j) h in_ q p (by omega) (by omega)
        rw [r] at x
        exact Lstp.mk' ⟨_, rfl⟩ (Cq.c x) (fun τ _ _ m => Mq.e (L := [50, 52, 58]) (K := [6, 17]) m (((R_returnOrder m.1 in_ ij).2 q).1 ⟨p.1, z⟩) (fun ρ hq => hq))
    · exact Lstp.mk' ⟨_, rfl⟩ (Cq.t (κ := 1) 0 h (X_returnOrder1 h in_ ij (fun z => p z.2)) rfl rfl) (mf (fun y => p ⟨y.1, by omega⟩))
theorem S_quote {c q l : Int} (h : CIv D σ s) (ic : iR c) (iq : iR q) (il : iR l) : Lstp D σ s m_X10_quote m_X11_quote [xIOB, xIAE, xISE] [vI c, vI q, vI l] okI := by
  by_cases k : (0 ≤ l ∧ l < s.1 1) ∧ 0 ≤ c ∧ c < s.1 0
  · by_cases p : 1 ≤ q ∧ q ≤ 99999
    · by_cases f : q ≤ freeB s.1 (-1) c
      · have e : quC s.1 c q l = 0 := by
          unfold quC
          rw [if_neg (not_not_intro k), if_neg (not_not_intro p), if_neg (by omega)]
        exact Lstp.mk' ⟨_, rfl⟩ (Cq.c (X_quote0 h k p f)) (fun τ _ _ m => Mq.e (L := [50, 52, 56, 57]) (K := [6]) m ((R_quote m.1 ic iq il).1 e) (fun ρ hq => ⟨hq.1, hq.2.1, s.1, hq.2.2, Eq9.refl _⟩))
      · have e : quC s.1 c q l = 3 := by
          unfold quC
          rw [if_neg (not_not_intro k), if_neg (not_not_intro p), if_pos (by omega)]
        exact Lstp.mk' ⟨_, rfl⟩ (Cq.x (κ := 3) 2 (X_quote3 h k p f) rfl rfl) (fun τ _ _ m => Mq.r m (by have r := (R_quote m.1 ic iq il).2 (by rw [e]; decide); rw [e] at r; exact r))
    · have e : quC s.1 c q l = 2 := by
        unfold quC
        rw [if_neg (not_not_intro k), if_pos p]
      exact Lstp.mk' ⟨_, rfl⟩ (Cq.t (κ := 2) 1 h (X_quote2 h iq k p) rfl rfl) (fun τ _ _ m => Mq.r m (by have r := (R_quote m.1 ic iq il).2 (by rw [e]; decide); rw [e] at r; exact r))
  · have e : quC s.1 c q l = 1 := by
      unfold quC
      rw [if_pos k]
    exact Lstp.mk' ⟨_, rfl⟩ (Cq.t (κ := 1) 0 h (X_quote1 h il ic k) rfl rfl) (fun τ _ _ m => Mq.r m (by have r := (R_quote m.1 ic iq il).2 (by rw [e]; decide); rw [e] at r; exact r))
theorem S_bestPolicy {c q : Int} (h : CIv D σ s) (ic : iR c) (iq : iR q) : Lstp D σ s m_X10_bestPolicy m_X11_bestPolicy [xIOB, xIAE, xISE] [vI c, vI q] okI := by
  by_cases k : 0 ≤ c ∧ c < s.1 0
  · by_cases p : 1 ≤ q ∧ q ≤ 99999
    · by_cases f : q ≤ freeB s.1 (-1) c
      · have e : bsC s.1 c q = 0 := by
          unfold bsC
          rw [if_neg (not_not_intro k), if_neg (not_not_intro p), if_neg (by omega)]
        exact Lstp.mk' ⟨_, rfl⟩ (Cq.c (X_bestPolicy0 h k p f)) (fun τ _ _ m => Mq.e (L := [50, 52, 56, 57]) (K := [6]) m ((R_bestPolicy m.1 ic iq).1 e) (fun ρ hq => ⟨hq.1, hq.2.1, s.1, hq.2.2, Eq9.refl _⟩))
      · have e : bsC s.1 c q = 3 := by
          unfold bsC
          rw [if_neg (not_not_intro k), if_neg (not_not_intro p), if_pos (by omega)]
        exact Lstp.mk' ⟨_, rfl⟩ (Cq.x (κ := 3) 2 (X_bestPolicy3 h k p f) rfl rfl) (fun τ _ _ m => Mq.r m (by have r := (R_bestPolicy m.1 ic iq).2 (by rw [e]; decide); rw [e] at r; exact r))
    · have e : bsC s.1 c q = 2 := by
        unfold bsC
        rw [if_neg (not_not_intro k), if_pos p]
      exact Lstp.mk' ⟨_, rfl⟩ (Cq.t (κ := 2) 1 h (X_bestPolicy2 h iq k p) rfl rfl) (fun τ _ _ m => Mq.r m (by have r := (R_bestPolicy m.1 ic iq).2 (by rw [e]; decide); rw [e] at r; exact r))
  · have e : bsC s.1 c q = 1 := by
      unfold bsC
      rw [if_pos k]
    exact Lstp.mk' ⟨_, rfl⟩ (Cq.t (κ := 1) 0 h (X_bestPolicy1 h ic k) rfl rfl) (fun τ _ _ m => Mq.r m (by have r := (R_bestPolicy m.1 ic iq).2 (by rw [e]; decide); rw [e] at r; exact r))
theorem S_rankedLender {c p : Int} (h : CIv D σ s) (ic : iR c) (ip : iR p) : Lstp D σ s m_X10_rankedLender m_X11_rankedLender [xIOB] [vI c, vI p] okI := by
  by_cases q : (0 ≤ c ∧ c < s.1 0) ∧ 0 ≤ p ∧ p < s.1 1
  · exact Lstp.mk' ⟨_, rfl⟩ (Cq.c (X_rankedLender0 h q)) (fun τ _ _ m => Mq.r m ((R_rankedLender m.1 ic ip).1 q))
  · exact Lstp.mk' ⟨_, rfl⟩ (Cq.t (κ := 1) 0 h (X_rankedLender1 h ic ip q) rfl rfl) (fun τ _ _ m => Mq.r m ((R_rankedLender m.1 ic ip).2 q))
theorem S_wouldReplace {l c q : Int} (h : CIv D σ s) (il : iR l) (ic : iR c) (iq : iR q) : Lstp D σ s m_X10_wouldReplace m_X11_wouldReplace [xIOB, xIAE, xISE] [vI l, vI c, vI q] okI := by
  by_cases k : rclC s.1 l c q = 0
  · exact Lstp.mk' ⟨_, rfl⟩ (Cq.c (X_wouldReplace0 h il ic iq k)) (fun τ _ _ m => Mq.e (L := [50, 52, 56, 57, 59]) (K := [6, 19]) m ((R_wouldReplace m.1 il ic iq).1 k) (fun ρ hq => hq))
  · exact Lstp.mk' ⟨_, rfl⟩ (Cq.k3 h (X_wouldReplace1 h il ic iq k) (by have := rcl_v k; omega)) (fun τ _ _ m => Mq.r m ((R_wouldReplace m.1 il ic iq).2 k)) (by have := rcl_v k; omega)
theorem S_accountAfter {d k n : Int} (h : CIv D σ s) (id : iR d) (ik : iR k) (in_ : iR n) (hD : D + 401 ≤ 20000000) : Lstp D σ s m_X10_accountAfter m_X11_accountAfter [xIAE] [vI d, vI k, vI n] okJ := by
  by_cases q : (0 ≤ d ∧ d ≤ 400) ∧ isAc s.1 k n
  · exact Lstp.mk' ⟨_, rfl⟩ (Cq.c (X_accountAfter0 h ik in_ q hD)) (fun τ _ _ m => Mq.e (L := [50, 52]) (K := [6]) m ((R_accountAfter m.1 id ik in_ hD).1 q) (fun ρ hq => hq))
  · exact Lstp.mk' ⟨_, rfl⟩ (Cq.t (κ := 1) 0 h (X_accountAfter1 h id ik in_ q) rfl rfl) (fun τ _ _ m => Mq.r m ((R_accountAfter m.1 id ik in_ hD).2 q))
theorem S_boughtInAfter {d : Int} (h : CIv D σ s) (id : iR d) (hD : D + 401 ≤ 20000000) : Lstp D σ s m_X10_boughtInAfter m_X11_boughtInAfter [xIAE] [vI d] okI := by
  by_cases q : 1 ≤ d ∧ d ≤ 400
  · exact Lstp.mk' ⟨_, rfl⟩ (Cq.c (X_boughtInAfter0 h q hD)) (fun τ _ _ m => Mq.e (L := [50, 52]) (K := [6]) m ((R_boughtInAfter m.1 id hD).1 q) (fun ρ hq => hq))
  · exact Lstp.mk' ⟨_, rfl⟩ (Cq.t (κ := 1) 0 h (X_boughtInAfter1 id q) rfl rfl) (fun τ _ _ m => Mq.r m ((R_boughtInAfter m.1 id hD).2 q))
def okD (w : AV) : Prop := ∃ v : UInt64, w = vD v
theorem S_utilization {c : Int} (h : CIv D σ s) (ic : iR c) : Lstp D σ s m_X10_utilization m_X11_utilization [xIOB, xARI] [vI c] okD := by
  by_cases q : 0 ≤ c ∧ c < s.1 0
  · by_cases u : utH s.1 c = 0
    · exact Lstp.mk' ⟨_, rfl⟩ (Cq.t (κ := 2) 1 h (X_utilization2 h q u) rfl rfl) (fun τ _ _ m => Mq.r m (((R_utilization m.1 ic).2 q).1 u))
    · exact Lstp.mk' ⟨_, rfl⟩ (Cq.r h (X_utilization0 h q u)) (fun τ _ _ m => Mq.r m (((R_utilization m.1 ic).2 q).2 u))
  · exact Lstp.mk' ⟨_, rfl⟩ (Cq.t (κ := 1) 0 h (X_utilization1 h ic q) rfl rfl) (fun τ _ _ m => Mq.r m ((R_utilization m.1 ic).1 q))
theorem S_errorCode (h : CIv D σ s) : Lstp D σ s m_X10_errorCode m_X11_errorCode [] [] okI := by
  exact Lstp.mk' ⟨_, rfl⟩ (Cq.r h (X_errorCode h)) (fun τ _ _ m => Mq.r m (R_errorCode m.2.2.2.1.1))
theorem S_errorPosition (h : CIv D σ s) : Lstp D σ s m_X10_errorPosition m_X11_errorPosition [] [] okI := by
  exact Lstp.mk' ⟨_, rfl⟩ (Cq.r h (X_errorPosition h)) (fun τ _ _ m => Mq.r m (R_errorPosition m.2.2.2.1.2))
theorem S_undoDepth (h : CIv D σ s) : Lstp D σ s m_X10_undoDepth m_X11_undoDepth [] [] okI := by
  exact Lstp.mk' ⟨_, rfl⟩ (Cq.r h (X_undoDepth h)) (fun τ _ _ m => Mq.r m (R_undoDepth m.2.1))
end Sq

