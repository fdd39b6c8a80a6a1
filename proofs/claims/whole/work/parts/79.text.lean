/-- the byte at a place of a text of e bytes, -1 behind its end -/
def bAt (T : Int → Int) (e k : Int) : Int := if k < e then T k else -1
def isSp (c : Int) : Bool := decide (c = 32 ∨ c = 10)
def isLt (c : Int) : Bool := decide (97 ≤ c ∧ c ≤ 122)
def isDg (c : Int) : Bool := decide (48 ≤ c ∧ c ≤ 57)
/-- the first place from k on whose byte is none of these -/
def skp (p : Int → Bool) (T : Int → Int) (e k : Int) : Int := wh (fun k => p (bAt T e k)) (fun k => k + 1) (fun k => (e - k).toNat) k
theorem bAt_lt {p : Int → Bool} {T : Int → Int} {e k : Int} (hp : p (-1) = false) (h : p (bAt T e k) = true) : k < e := by
  apply Classical.byContradiction
  intro hn
  unfold bAt at h
  rw [if_neg hn, hp] at h
  cases h
theorem sk_s {p : Int → Bool} {T : Int → Int} {e a : Int} (hp : p (-1) = false) : ∀ k, (a ≤ k ∧ k ≤ e ∧ ∀ j, a ≤ j → j < k → p (bAt T e j) = true) → p (bAt T e k) = true → (a ≤ k + 1 ∧ k + 1 ≤ e ∧ ∀ j, a ≤ j → j < k + 1 → p (bAt T e j) = true) ∧ (e - (k + 1)).toNat < (e - k).toNat := fun k hk h => by
  have h1 := bAt_lt hp h
  refine ⟨⟨by omega, by omega, fun j j0 j1 => ?_⟩, by omega⟩
  by_cases q : j = k
  · rw [q]
    exact h
  · exact hk.2.2 j j0 (by omega)
theorem skp_ok {p : Int → Bool} {T : Int → Int} {e k : Int} (hp : p (-1) = false) (h : k ≤ e) : k ≤ skp p T e k ∧ skp p T e k ≤ e ∧ (∀ j, k ≤ j → j < skp p T e k → p (bAt T e j) = true) ∧ ¬ p (bAt T e (skp p T e k)) = true := by
  have h1 := wh_inv (I := fun x => k ≤ x ∧ x ≤ e ∧ ∀ j, k ≤ j → j < x → p (bAt T e j) = true) (g := fun k => p (bAt T e k)) (f := fun k => k + 1) (m := fun k => (e - k).toNat) (sk_s hp) (x := k) ⟨Int.le_refl k, h, fun j j0 j1 => by omega⟩
  exact ⟨h1.1.1, h1.1.2.1, h1.1.2.2, h1.2⟩
/-- a token's start and end -/
def tF (T : Int → Int) (e p : Int) : Int := skp isSp T e p
def tZ (T : Int → Int) (e f : Int) : Int := if isLt (bAt T e f) = true then skp isLt T e f else if isDg (bAt T e f) = true then skp isDg T e f else if f < e then f + 1 else f
def tE (T : Int → Int) (e p : Int) : Int := tZ T e (tF T e p)
theorem skp_gt {p : Int → Bool} {T : Int → Int} {e k : Int} (hp : p (-1) = false) (h : k ≤ e) (hk : p (bAt T e k) = true) : k < skp p T e k := by
  have h1 := skp_ok (p := p) (T := T) hp h
  rcases Int.lt_or_eq_of_le h1.1 with q | q
  · exact q
  · rw [← q] at h1
    exact absurd hk h1.2.2.2
theorem tF_bd {T : Int → Int} {e p : Int} (h : p ≤ e) : p ≤ tF T e p ∧ tF T e p ≤ e := by
  have := skp_ok (p := isSp) (T := T) (e := e) (k := p) rfl h
  exact ⟨this.1, this.2.1⟩
theorem tZ_bd {T : Int → Int} {e f : Int} (h : f ≤ e) : f ≤ tZ T e f ∧ tZ T e f ≤ e ∧ (f < e → f < tZ T e f) := by
  unfold tZ
  by_cases h1 : isLt (bAt T e f) = true
  · rw [if_pos h1]
    have := skp_ok (p := isLt) (T := T) rfl h
    exact ⟨this.1, this.2.1, fun _ => skp_gt rfl h h1⟩
  · rw [if_neg h1]
    by_cases h2 : isDg (bAt T e f) = true
    · rw [if_pos h2]
      have := skp_ok (p := isDg) (T := T) rfl h
      exact ⟨this.1, this.2.1, fun _ => skp_gt rfl h h2⟩
    · rw [if_neg h2]
      split <;> omega
theorem tE_bd {T : Int → Int} {e p : Int} (h : p ≤ e) : p ≤ tF T e p ∧ tF T e p ≤ tE T e p ∧ tE T e p ≤ e ∧ (tF T e p < e → tF T e p < tE T e p) := by
  have h1 := tF_bd (T := T) h
  have h2 := tZ_bd (T := T) h1.2
  exact ⟨h1.1, h2.1, h2.2.1, h2.2.2⟩
/-- the model's text and its end -/
def Tx (σ : Hp) (T : Int → Int) (e : Int) : Prop := WF σ ∧ (∀ k, σ.I 55 0 k % 256 = T k) ∧ σ.I 11 0 11 = e ∧ 0 ≤ e ∧ e ≤ 600
theorem setI_t {σ : Hp} {t t' i : Nat} {k v : Int} (h : t' ≠ t) : (σ.setI t i k v).I t' = σ.I t' := by
  show u3 σ.I t i k v t' = _
  exact u3_t h
theorem Tx.set {σ : Hp} {T : Int → Int} {e k v : Int} (h : Tx σ T e) (hk : k ≠ 11) : Tx (σ.setI 11 0 k v) T e := ⟨h.1, fun j => by
  rw [← h.2.1 j, setI_t (by decide)], (setI_ne (Ne.symm hk)).trans h.2.2.1, h.2.2.2⟩
theorem Tx.bt {σ : Hp} {T : Int → Int} {e : Int} (h : Tx σ T e) (k : Int) : 0 ≤ T k ∧ T k < 256 := by
  rw [← h.2.1 k]
  omega
theorem bAt_bd {T : Int → Int} {e k : Int} (h : ∀ k, 0 ≤ T k ∧ T k < 256) : -1 ≤ bAt T e k ∧ bAt T e k < 256 := by
  have := h k
  unfold bAt
  split <;> omega
abbrev Hp.ft (σ : Hp) (f t : Int) : Hp := (σ.setI 11 0 9 f).setI 11 0 10 t
section Tx1
variable {σ : Hp} {T : Int → Int} {e : Int}
theorem ft_9 {f t : Int} : (σ.ft f t).I 11 0 9 = f := (setI_ne (by decide)).trans setI_I
theorem ft_10 {f t : Int} : (σ.ft f t).I 11 0 10 = t := setI_I
theorem ft_11 {f t : Int} : (σ.ft f t).I 11 0 11 = σ.I 11 0 11 := (setI_ne (by decide)).trans (setI_ne (by decide))
theorem ft_t {f t t' : Int} : (σ.ft f t).setI 11 0 10 t' = σ.ft f t' := setI_setI
theorem Tx.ft {f t : Int} (h : Tx σ T e) : Tx (σ.ft f t) T e := (h.set (by decide)).set (by decide)
theorem R_byteAt {k : Int} (h : Tx σ T e) (hk : 0 ≤ k ∧ k < 1000000) : Rt m_X11_byteAt 0 0 0 [vR (some (11, 0)), vI k] σ (some (vI (bAt T e k))) σ := by
  obtain ⟨hW, hT, he, e0, e6⟩ := h
  show V _ 0 0 0 0 [some (vR (some (11, 0))), some (vI k)] [] σ _
  refine V_ildn1 a_X11_byteAt_0 ?_
  refine V_aldn0 a_X11_byteAt_1 ?_
  refine V_getIE a_X11_byteAt_2 f_X11_98 rfl he ?_
  refine V_icmp_ge a_X11_byteAt_5 (by omega) (fun hc5 => ?_) (fun hc5 => ?_)
  · refine V_iconst a_X11_byteAt_21 ?_
    exact V_iret a_X11_byteAt_22 (⟨by unfold bAt; first | rw [if_pos (by omega), hT] | rw [if_neg (by omega)], rfl⟩)
  · refine V_aldn0 a_X11_byteAt_8 ?_
    refine V_fin a_X11_byteAt_9 f_X11_25 rfl hW ?_
    refine V_ildn1 a_X11_byteAt_12 ?_
    refine V_bald a_X11_byteAt_13 rfl (by omega) ?_
    refine V_sipush a_X11_byteAt_14 (by decide) ?_
    first | refine V_iand255 a_X11_byteAt_17 ?_ | refine V_iand63 a_X11_byteAt_17 ?_ | refine V_iand1 a_X11_byteAt_17 ?_
    refine V_goto a_X11_byteAt_18 ?_
    exact V_iret a_X11_byteAt_22 (⟨by unfold bAt; first | rw [if_pos (by omega), hT] | rw [if_neg (by omega)], rfl⟩)
theorem R_next {p : Int} (h : Tx σ T e) (hp : σ.I 11 0 10 = p) (hp0 : 0 ≤ p ∧ p ≤ e) : Rt m_X11_next 1 0 0 [vR (some (11, 0))] σ none (σ.ft (tF T e p) (tE T e p)) := by
  have hb := h.bt
  have he := h.2.2.1
  have h6 := h.2.2.2
  have hFb := tF_bd (T := T) hp0.2
  show V _ 1 0 0 0 [some (vR (some (11, 0)))] [] σ _
  refine V_aldn0 a_X11_next_0 ?_
  refine V_aldn0 a_X11_next_1 ?_
  refine V_getIE a_X11_next_2 f_X11_101 rfl hp ?_
  refine V_putI a_X11_next_5 f_X11_104 rfl ?_
  refine loopW (I := fun x => p ≤ x ∧ x ≤ e ∧ ∀ j, p ≤ j → j < x → isSp (bAt T e j) = true) (g := fun k => isSp (bAt T e k)) (f := fun k => k + 1) (m := fun k => (e - k).toNat) (P := fun k => V _ 1 0 0 8 [some (vR (some (11, 0)))] [] (σ.setI 11 0 9 k) _) (sk_s rfl) (E := tF T e p) ?_ ?_ p ⟨Int.le_refl p, hp0.2, fun j j0 j1 => by omega⟩ rfl
  · intro hx hg
    have hg : ¬ (bAt T e (tF T e p) = 32 ∨ bAt T e (tF T e p) = 10) := fun z => hg (decide_eq_true z)
    have hbF := bAt_bd (e := e) (k := tF T e p) hb
    unfold tE
    generalize tF T e p = F at hFb hx hg hbF ⊢
    have hF6 : 0 ≤ F ∧ F < 1000000 := by omega
    have hF600 : F ≤ 600 := by omega
    refine V_aldn0 a_X11_next_8 ?_
    refine V_aldn0 a_X11_next_9 ?_
    refine V_getIE a_X11_next_10 f_X11_104 rfl setI_I ?_
    refine V_v1R a_X11_next_13 c_X11_107 (R_byteAt (h.set (by decide)) hF6) ?_
    refine V_bipush a_X11_next_16 (by decide) ?_
    refine V_icmp_eq_f a_X11_next_18 (by omega) (by omega) ?_
    refine V_aldn0 a_X11_next_21 ?_
    refine V_aldn0 a_X11_next_22 ?_
    refine V_getIE a_X11_next_23 f_X11_104 rfl setI_I ?_
    refine V_v1R a_X11_next_26 c_X11_107 (R_byteAt (h.set (by decide)) hF6) ?_
    refine V_bipush a_X11_next_29 (by decide) ?_
    refine V_icmp_ne_t a_X11_next_31 (by omega) (by omega) ?_
    refine V_aldn0 a_X11_next_47 ?_
    refine V_aldn0 a_X11_next_48 ?_
    refine V_getIE a_X11_next_49 f_X11_104 rfl setI_I ?_
    refine V_putI a_X11_next_52 f_X11_101 rfl ?_
    skip
    have hm : Tx (σ.ft F F) T e := h.ft
    unfold tZ
    obtain ⟨b1, hb1, r1⟩ := B_in (σ := σ.ft F F) (v := bAt T e F) (x := 97) (y := 122) (by omega) (by omega) (by omega)
    by_cases q1 : isLt (bAt T e F) = true
    · have q1' := of_decide_eq_true q1
      rw [if_pos q1]
      refine V_aldn0 a_X11_next_55 ?_
      refine V_aldn0 a_X11_next_56 ?_
      refine V_getIE a_X11_next_57 f_X11_101 rfl ft_10 ?_
      refine V_v1R a_X11_next_60 c_X11_107 (R_byteAt hm hF6) ?_
      refine V_i2l a_X11_next_63 (by omega) ?_
      refine V_ldc2 a_X11_next_64 q_X11_110 ?_
      refine V_ldc2 a_X11_next_67 q_X11_112 ?_
      refine V_s3R a_X11_next_70 c_X11_61 r1 ?_
      refine V_if_eq_f a_X11_next_73 (by omega) (by omega) ?_
      refine loopW (I := fun x => F ≤ x ∧ x ≤ e ∧ ∀ j, F ≤ j → j < x → isLt (bAt T e j) = true) (g := fun k => isLt (bAt T e k)) (f := fun k => k + 1) (m := fun k => (e - k).toNat) (P := fun k => V _ 1 0 0 76 [some (vR (some (11, 0)))] [] (σ.ft F k) _) (sk_s rfl) (E := skp isLt T e F) ?_ ?_ F ⟨Int.le_refl F, by omega, fun j j0 j1 => by omega⟩ rfl
      · intro hx hg
        generalize skp isLt T e F = k at hx hg ⊢
        have hg : ¬ (97 ≤ bAt T e k ∧ bAt T e k ≤ 122) := fun z => hg (decide_eq_true z)
        have hbk := bAt_bd (e := e) (k := k) hb
        obtain ⟨b2, hb2, r2⟩ := B_in (σ := σ.ft F k) (v := bAt T e k) (x := 97) (y := 122) (by omega) (by omega) (by omega)
        refine V_aldn0 a_X11_next_76 ?_
        refine V_aldn0 a_X11_next_77 ?_
        refine V_getIE a_X11_next_78 f_X11_101 rfl ft_10 ?_
        refine V_v1R a_X11_next_81 c_X11_107 (R_byteAt h.ft (by omega)) ?_
        refine V_i2l a_X11_next_84 (by omega) ?_
        refine V_ldc2 a_X11_next_85 q_X11_110 ?_
        refine V_ldc2 a_X11_next_88 q_X11_112 ?_
        refine V_s3R a_X11_next_91 c_X11_61 r2 ?_
        refine V_if_eq_t a_X11_next_94 (by omega) (by omega) ?_
        exact V_ret a_X11_next_186 (⟨rfl, rfl⟩)
      · intro k hx hg ih
        have hg : 97 ≤ bAt T e k ∧ bAt T e k ≤ 122 := of_decide_eq_true hg
        have hbk := bAt_bd (e := e) (k := k) hb
        obtain ⟨b2, hb2, r2⟩ := B_in (σ := σ.ft F k) (v := bAt T e k) (x := 97) (y := 122) (by omega) (by omega) (by omega)
        refine V_aldn0 a_X11_next_76 ?_
        refine V_aldn0 a_X11_next_77 ?_
        refine V_getIE a_X11_next_78 f_X11_101 rfl ft_10 ?_
        refine V_v1R a_X11_next_81 c_X11_107 (R_byteAt h.ft (by omega)) ?_
        refine V_i2l a_X11_next_84 (by omega) ?_
        refine V_ldc2 a_X11_next_85 q_X11_110 ?_
        refine V_ldc2 a_X11_next_88 q_X11_112 ?_
        refine V_s3R a_X11_next_91 c_X11_61 r2 ?_
        refine V_if_eq_f a_X11_next_94 (by omega) (by omega) ?_
        refine V_aldn0 a_X11_next_97 ?_
        first | refine V_dupR a_X11_next_98 ?_ | refine V_dupI a_X11_next_98 ?_
        refine V_getIE a_X11_next_99 f_X11_101 rfl ft_10 ?_
        refine V_iconst a_X11_next_102 ?_
        refine V_iadd a_X11_next_103 ?_
        refine V_putI a_X11_next_104 f_X11_101 rfl ?_
        rw [ft_t]
        refine V_goto a_X11_next_107 ?_
        exact ih
    · have q1' : ¬ (97 ≤ bAt T e F ∧ bAt T e F ≤ 122) := fun z => q1 (decide_eq_true z)
      rw [if_neg q1]
      obtain ⟨b3, hb3, r3⟩ := B_in (σ := σ.ft F F) (v := bAt T e F) (x := 48) (y := 57) (by omega) (by omega) (by omega)
      by_cases q2 : isDg (bAt T e F) = true
      · have q2' := of_decide_eq_true q2
        rw [if_pos q2]
        refine V_aldn0 a_X11_next_55 ?_
        refine V_aldn0 a_X11_next_56 ?_
        refine V_getIE a_X11_next_57 f_X11_101 rfl ft_10 ?_
        refine V_v1R a_X11_next_60 c_X11_107 (R_byteAt hm hF6) ?_
        refine V_i2l a_X11_next_63 (by omega) ?_
        refine V_ldc2 a_X11_next_64 q_X11_110 ?_
        refine V_ldc2 a_X11_next_67 q_X11_112 ?_
        refine V_s3R a_X11_next_70 c_X11_61 r1 ?_
        refine V_if_eq_t a_X11_next_73 (by omega) (by omega) ?_
        refine V_aldn0 a_X11_next_110 ?_
        refine V_aldn0 a_X11_next_111 ?_
        refine V_getIE a_X11_next_112 f_X11_101 rfl ft_10 ?_
        refine V_v1R a_X11_next_115 c_X11_107 (R_byteAt hm hF6) ?_
        refine V_i2l a_X11_next_118 (by omega) ?_
        refine V_ldc2 a_X11_next_119 q_X11_114 ?_
        refine V_ldc2 a_X11_next_122 q_X11_116 ?_
        refine V_s3R a_X11_next_125 c_X11_61 r3 ?_
        refine V_if_eq_f a_X11_next_128 (by omega) (by omega) ?_
        refine loopW (I := fun x => F ≤ x ∧ x ≤ e ∧ ∀ j, F ≤ j → j < x → isDg (bAt T e j) = true) (g := fun k => isDg (bAt T e k)) (f := fun k => k + 1) (m := fun k => (e - k).toNat) (P := fun k => V _ 1 0 0 131 [some (vR (some (11, 0)))] [] (σ.ft F k) _) (sk_s rfl) (E := skp isDg T e F) ?_ ?_ F ⟨Int.le_refl F, by omega, fun j j0 j1 => by omega⟩ rfl
        · intro hx hg
          generalize skp isDg T e F = k at hx hg ⊢
          have hg : ¬ (48 ≤ bAt T e k ∧ bAt T e k ≤ 57) := fun z => hg (decide_eq_true z)
          have hbk := bAt_bd (e := e) (k := k) hb
          obtain ⟨b2, hb2, r2⟩ := B_in (σ := σ.ft F k) (v := bAt T e k) (x := 48) (y := 57) (by omega) (by omega) (by omega)
          refine V_aldn0 a_X11_next_131 ?_
          refine V_aldn0 a_X11_next_132 ?_
          refine V_getIE a_X11_next_133 f_X11_101 rfl ft_10 ?_
          refine V_v1R a_X11_next_136 c_X11_107 (R_byteAt h.ft (by omega)) ?_
          refine V_i2l a_X11_next_139 (by omega) ?_
          refine V_ldc2 a_X11_next_140 q_X11_114 ?_
          refine V_ldc2 a_X11_next_143 q_X11_116 ?_
          refine V_s3R a_X11_next_146 c_X11_61 r2 ?_
          refine V_if_eq_t a_X11_next_149 (by omega) (by omega) ?_
          exact V_ret a_X11_next_186 (⟨rfl, rfl⟩)
        · intro k hx hg ih
          have hg : 48 ≤ bAt T e k ∧ bAt T e k ≤ 57 := of_decide_eq_true hg
          have hbk := bAt_bd (e := e) (k := k) hb
          obtain ⟨b2, hb2, r2⟩ := B_in (σ := σ.ft F k) (v := bAt T e k) (x := 48) (y := 57) (by omega) (by omega) (by omega)
          refine V_aldn0 a_X11_next_131 ?_
          refine V_aldn0 a_X11_next_132 ?_
          refine V_getIE a_X11_next_133 f_X11_101 rfl ft_10 ?_
          refine V_v1R a_X11_next_136 c_X11_107 (R_byteAt h.ft (by omega)) ?_
          refine V_i2l a_X11_next_139 (by omega) ?_
          refine V_ldc2 a_X11_next_140 q_X11_114 ?_
          refine V_ldc2 a_X11_next_143 q_X11_116 ?_
          refine V_s3R a_X11_next_146 c_X11_61 r2 ?_
          refine V_if_eq_f a_X11_next_149 (by omega) (by omega) ?_
          refine V_aldn0 a_X11_next_152 ?_
          first | refine V_dupR a_X11_next_153 ?_ | refine V_dupI a_X11_next_153 ?_
          refine V_getIE a_X11_next_154 f_X11_101 rfl ft_10 ?_
          refine V_iconst a_X11_next_157 ?_
          refine V_iadd a_X11_next_158 ?_
          refine V_putI a_X11_next_159 f_X11_101 rfl ?_
          rw [ft_t]
          refine V_goto a_X11_next_162 ?_
          exact ih
      · have q2' : ¬ (48 ≤ bAt T e F ∧ bAt T e F ≤ 57) := fun z => q2 (decide_eq_true z)
        rw [if_neg q2]
        refine V_aldn0 a_X11_next_55 ?_
        refine V_aldn0 a_X11_next_56 ?_
        refine V_getIE a_X11_next_57 f_X11_101 rfl ft_10 ?_
        refine V_v1R a_X11_next_60 c_X11_107 (R_byteAt hm hF6) ?_
        refine V_i2l a_X11_next_63 (by omega) ?_
        refine V_ldc2 a_X11_next_64 q_X11_110 ?_
        refine V_ldc2 a_X11_next_67 q_X11_112 ?_
        refine V_s3R a_X11_next_70 c_X11_61 r1 ?_
        refine V_if_eq_t a_X11_next_73 (by omega) (by omega) ?_
        refine V_aldn0 a_X11_next_110 ?_
        refine V_aldn0 a_X11_next_111 ?_
        refine V_getIE a_X11_next_112 f_X11_101 rfl ft_10 ?_
        refine V_v1R a_X11_next_115 c_X11_107 (R_byteAt hm hF6) ?_
        refine V_i2l a_X11_next_118 (by omega) ?_
        refine V_ldc2 a_X11_next_119 q_X11_114 ?_
        refine V_ldc2 a_X11_next_122 q_X11_116 ?_
        refine V_s3R a_X11_next_125 c_X11_61 r3 ?_
        refine V_if_eq_t a_X11_next_128 (by omega) (by omega) ?_
        refine V_aldn0 a_X11_next_165 ?_
        refine V_getIE a_X11_next_166 f_X11_101 rfl ft_10 ?_
        refine V_aldn0 a_X11_next_169 ?_
        refine V_getIE a_X11_next_170 f_X11_98 rfl (ft_11.trans he) ?_
        refine V_icmp_ge a_X11_next_173 (by omega) (fun hc173 => ?_) (fun hc173 => ?_)
        · exact V_ret a_X11_next_186 (⟨rfl, by first | rw [if_pos (by omega), ft_t] | rw [if_neg (by omega)]⟩)
        · refine V_aldn0 a_X11_next_176 ?_
          first | refine V_dupR a_X11_next_177 ?_ | refine V_dupI a_X11_next_177 ?_
          refine V_getIE a_X11_next_178 f_X11_101 rfl ft_10 ?_
          refine V_iconst a_X11_next_181 ?_
          refine V_iadd a_X11_next_182 ?_
          refine V_putI a_X11_next_183 f_X11_101 rfl ?_
          exact V_ret a_X11_next_186 (⟨rfl, by first | rw [if_pos (by omega), ft_t] | rw [if_neg (by omega)]⟩)
  · intro k hx hg ih
    have hg : bAt T e k = 32 ∨ bAt T e k = 10 := of_decide_eq_true hg
    have hbk := bAt_bd (e := e) (k := k) hb
    have hk6 : 0 ≤ k ∧ k < 1000000 := by omega
    refine V_aldn0 a_X11_next_8 ?_
    refine V_aldn0 a_X11_next_9 ?_
    refine V_getIE a_X11_next_10 f_X11_104 rfl setI_I ?_
    refine V_v1R a_X11_next_13 c_X11_107 (R_byteAt (h.set (by decide)) hk6) ?_
    refine V_bipush a_X11_next_16 (by decide) ?_
    refine V_icmp_eq a_X11_next_18 (by omega) (fun hc18 => ?_) (fun hc18 => ?_)
    · refine V_aldn0 a_X11_next_34 ?_
      first | refine V_dupR a_X11_next_35 ?_ | refine V_dupI a_X11_next_35 ?_
      refine V_getIE a_X11_next_36 f_X11_104 rfl setI_I ?_
      refine V_iconst a_X11_next_39 ?_
      refine V_iadd a_X11_next_40 ?_
      refine V_putI a_X11_next_41 f_X11_104 rfl ?_
      rw [setI_setI]
      refine V_goto a_X11_next_44 ?_
      exact ih
    · refine V_aldn0 a_X11_next_21 ?_
      refine V_aldn0 a_X11_next_22 ?_
      refine V_getIE a_X11_next_23 f_X11_104 rfl setI_I ?_
      refine V_v1R a_X11_next_26 c_X11_107 (R_byteAt (h.set (by decide)) hk6) ?_
      refine V_bipush a_X11_next_29 (by decide) ?_
      refine V_icmp_ne_f a_X11_next_31 (by omega) (by omega) ?_
      refine V_aldn0 a_X11_next_34 ?_
      first | refine V_dupR a_X11_next_35 ?_ | refine V_dupI a_X11_next_35 ?_
      refine V_getIE a_X11_next_36 f_X11_104 rfl setI_I ?_
      refine V_iconst a_X11_next_39 ?_
      refine V_iadd a_X11_next_40 ?_
      refine V_putI a_X11_next_41 f_X11_104 rfl ?_
      rw [setI_setI]
      refine V_goto a_X11_next_44 ?_
      exact ih
end Tx1

