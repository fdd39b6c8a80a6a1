/-- the reader of a pool text: fault, its place, statements, the state, where it stands -/
abbrev PS : Type := Int × Int × Int × St × Int
noncomputable def psG (T : Int → Int) (e : Int) (x : PS) : Bool := decide (x.1 = 0 ∧ (x.2.2.1 = 0 ∨ tF T e x.2.2.2.2 < e))
noncomputable def psF (T : Int → Int) (e : Int) (x : PS) : PS := if (stA T e (decide (x.2.2.1 = 0)) x.2.2.2.1 x.2.2.2.2).1 = 0 then (0, x.2.1, x.2.2.1 + 1, (stA T e (decide (x.2.2.1 = 0)) x.2.2.2.1 x.2.2.2.2).2.2, (stA T e (decide (x.2.2.1 = 0)) x.2.2.2.1 x.2.2.2.2).2.1) else ((stA T e (decide (x.2.2.1 = 0)) x.2.2.2.1 x.2.2.2.2).1, (stA T e (decide (x.2.2.1 = 0)) x.2.2.2.1 x.2.2.2.2).2.1, x.2.2.1 + 1, x.2.2.2.1, x.2.2.2.2)
def psM (e : Int) (x : PS) : Nat := if x.1 = 0 then (e - x.2.2.2.2).toNat + 1 else 0
def psI (e : Int) (x : PS) : Prop := (0 ≤ x.1 ∧ x.1 < 100) ∧ FrI x.2.2.2.1 ∧ (0 ≤ x.2.2.2.2 ∧ x.2.2.2.2 ≤ e) ∧ (0 ≤ x.2.2.1 ∧ x.2.2.1 ≤ x.2.2.2.2 + 1) ∧ (x.1 = 0 → x.2.1 = -1 ∧ x.2.2.1 ≤ x.2.2.2.2)
theorem ps_s {T : Int → Int} {e : Int} : ∀ x : PS, psI e x → psG T e x = true → psI e (psF T e x) ∧ psM e (psF T e x) < psM e x := fun x hx hg => by
  obtain ⟨c, a, n, B, p⟩ := x
  obtain ⟨h1, h2, h3, h4, h5⟩ := hx
  have hg : c = 0 ∧ (n = 0 ∨ tF T e p < e) := of_decide_eq_true hg
  have h5 := h5 hg.1
  dsimp only at h1 h2 h3 h4 h5
  have hs := st_ok (T := T) (first := decide (n = 0)) h2 h3
  unfold psF
  dsimp only
  generalize stA T e (decide (n = 0)) B p = y at hs
  by_cases q : y.1 = 0
  · rw [if_pos q]
    have hs2 := hs.2 q
    refine ⟨⟨by show 0 ≤ (0 : Int) ∧ (0 : Int) < 100; decide, hs2.2, by show 0 ≤ y.2.1 ∧ y.2.1 ≤ e; omega, by show 0 ≤ n + 1 ∧ n + 1 ≤ y.2.1 + 1; omega, fun _ => by show a = -1 ∧ n + 1 ≤ y.2.1; omega⟩, ?_⟩
    unfold psM
    dsimp only
    rw [if_pos rfl, if_pos hg.1]
    omega
  · rw [if_neg q]
    refine ⟨⟨hs.1, h2, h3, by show 0 ≤ n + 1 ∧ n + 1 ≤ p + 1; omega, fun z => absurd z q⟩, ?_⟩
    unfold psM
    dsimp only
    rw [if_neg q, if_pos hg.1]
    omega
noncomputable def psX (T : Int → Int) (e : Int) (g : Int → Int) : PS := wh (psG T e) (psF T e) (psM e) (0, -1, 0, layB g, 0)
theorem ps_0 {e : Int} (he : 0 ≤ e) {g : Int → Int} : psI e (0, -1, 0, layB g, 0) := ⟨by show 0 ≤ (0 : Int) ∧ (0 : Int) < 100; decide, lay_fr, by show 0 ≤ (0 : Int) ∧ (0 : Int) ≤ e; omega, by show 0 ≤ (0 : Int) ∧ (0 : Int) ≤ 0 + 1; decide, fun _ => ⟨rfl, by show (0 : Int) ≤ 0; decide⟩⟩
section Pp
variable {σ : Hp} {T : Int → Int} {e : Int} {A : St}
theorem R_lay {t i : Nat} (ht : tgD t = (1, 359, 0)) (h20 : 20 ≤ t) : Rt m_X11_lay 0 0 0 [vR (some (t, i))] σ none (σ.rJ t i (layB (σ.J t i))) := by
  show V _ 0 0 0 0 [some (vR (some (t, i))), none] [] σ _
  have start : σ.rJ t i (mix (fun _ => 0) (σ.J t i) 0) = σ := by rw [mix_0, rJ_self]
  have start2 : σ.rJ t i (mixO 23 (fun _ => -1) (mix (fun _ => 0) (σ.J t i) 359) 0) = σ.rJ t i (mix (fun _ => 0) (σ.J t i) 359) := by rw [mixO_0]
  refine V_iconst a_X11_lay_0 ?_
  refine V_istn1 a_X11_lay_1 ?_
  refine (fun z => by rw [start] at z; exact z : V _ 0 0 0 2 [some (vR (some (t, i))), some (vI 0)] [] (σ.rJ t i (mix (fun _ => 0) (σ.J t i) 0)) _ → _) ?_
  refine loopI (P := fun k => V _ 0 0 0 2 [some (vR (some (t, i))), some (vI k)] [] (σ.rJ t i (mix (fun _ => 0) (σ.J t i) k)) _) (N := 359) (by omega) ?_ ?_
  · refine V_ildn1 a_X11_lay_2 ?_
    refine V_sipush a_X11_lay_3 (by decide) ?_
    refine V_icmp_ge_t a_X11_lay_6 (by omega) (by omega) ?_
    refine V_iconst a_X11_lay_19 ?_
    refine V_istn1 a_X11_lay_20 ?_
    refine (fun z => by rw [start2] at z; exact z : V _ 0 0 0 21 [some (vR (some (t, i))), some (vI 0)] [] (σ.rJ t i (mixO 23 (fun _ => -1) (mix (fun _ => 0) (σ.J t i) 359) 0)) _ → _) ?_
    refine loopI (P := fun k => V _ 0 0 0 21 [some (vR (some (t, i))), some (vI k)] [] (σ.rJ t i (mixO 23 (fun _ => -1) (mix (fun _ => 0) (σ.J t i) 359) k)) _) (N := 4) (by omega) ?_ ?_
    · refine V_ildn1 a_X11_lay_21 ?_
      refine V_iconst a_X11_lay_22 ?_
      refine V_icmp_ge_t a_X11_lay_23 (by omega) (by omega) ?_
      exact V_ret a_X11_lay_41 (⟨rfl, rfl⟩)
    · intro k k0 k1 ih
      rw [← mixO_s k0, ← rJ_set] at ih
      refine V_ildn1 a_X11_lay_21 ?_
      refine V_iconst a_X11_lay_22 ?_
      refine V_icmp_ge_f a_X11_lay_23 (by omega) (by omega) ?_
      refine V_aldn0 a_X11_lay_26 ?_
      refine V_bipush a_X11_lay_27 (by decide) ?_
      refine V_ildn1 a_X11_lay_29 ?_
      refine V_iadd a_X11_lay_30 ?_
      refine V_ldc2 a_X11_lay_31 q_X11_56 ?_
      refine V_last a_X11_lay_34 ht (by omega) ?_ h20
      refine V_inc1 a_X11_lay_35 ?_
      refine V_goto a_X11_lay_38 ?_
      exact ih
  · intro k k0 k1 ih
    rw [← mix_s k0, ← rJ_set] at ih
    refine V_ildn1 a_X11_lay_2 ?_
    refine V_sipush a_X11_lay_3 (by decide) ?_
    refine V_icmp_ge_f a_X11_lay_6 (by omega) (by omega) ?_
    refine V_aldn0 a_X11_lay_9 ?_
    refine V_ildn1 a_X11_lay_10 ?_
    refine V_lconst0 a_X11_lay_11 ?_
    refine V_last a_X11_lay_12 ht (by omega) ?_ h20
    refine V_inc1 a_X11_lay_13 ?_
    refine V_goto a_X11_lay_16 ?_
    exact ih
/-- the heap while a text is read -/
def HS (ρ : Hp) (T : Int → Int) (e : Int) (x : PS) (τ : Hp) : Prop := (x.1 = 0 → τ = (ρ.rJ 53 0 x.2.2.2.1).pz (tF T e x.2.2.2.2) (tE T e x.2.2.2.2) 0 (-1)) ∧ (x.1 ≠ 0 → FS ρ e x.1 x.2.1 τ)
/-- what parsePool leaves -/
def PpQ (σ : Hp) (A : St) (x : PS) (r : Res) (τ : Hp) : Prop :=
  FK [50, 53] [5, 6, 8, 9, 10, 11, 12, 13] σ τ ∧ τ.I 11 0 6 = 0 ∧ τ.I 11 0 8 = 0 ∧ τ.I 11 0 12 = x.1 ∧ τ.I 11 0 13 = x.2.1 ∧
  (x.1 ≠ 0 → r = .inl (some (vI (-1))) ∧ τ.J 50 0 = A ∧ τ.I 11 0 5 = σ.I 11 0 5) ∧ (x.1 = 0 → r = .inl (some (vI x.2.2.1)) ∧ τ.J 50 0 = mix x.2.2.2.1 A 359 ∧ τ.I 11 0 5 = 0)
theorem R_parsePool (hW : WF σ) (hT : ∀ k, σ.I 55 0 k % 256 = T k) (hn : σ.I 11 0 8 = e) (he : 0 ≤ e ∧ e ≤ 600) (hA : σ.J 50 0 = A) : Ct m_X11_parsePool 7 0 0 [vR (some (11, 0))] σ (PpQ σ A (psX T e (σ.J 53 0))) := by
  have hF : FK [50, 53] [5, 6, 8, 9, 10, 11, 12, 13] σ ((((σ.th 0).setI 11 0 13 (-1)).setI 11 0 11 e).setI 11 0 8 0) := ⟨(((Fm.setI (by decide)).trans (Fm.setI (by decide))).trans (Fm.setI (by decide))).trans (Fm.setI (by decide)), fun k hk => by
    rw [setI_ne (fun z => hk (by rw [z]; decide)), setI_ne (fun z => hk (by rw [z]; decide)), setI_ne (fun z => hk (by rw [z]; decide)), setI_ne (fun z => hk (by rw [z]; decide))]⟩
  have rb := R_begin (σ := ((σ.th 0).setI 11 0 13 (-1)).rJ 53 0 (layB (σ.J 53 0))) (T := T) (n := e) hW (fun k => by
    rw [← hT k, show (((σ.th 0).setI 11 0 13 (-1)).rJ 53 0 (layB (σ.J 53 0))).I 55 = ((σ.th 0).setI 11 0 13 (-1)).I 55 from rfl, setI_t (by decide), setI_t (by decide)]) (by
    show ((σ.th 0).setI 11 0 13 (-1)).I 11 0 8 = e
    rw [setI_ne (by decide), setI_ne (by decide)]
    exact hn) he
  have e13 : (((σ.th 0).setI 11 0 13 (-1)).rJ 53 0 (layB (σ.J 53 0))).I 11 0 13 = -1 := by
    show ((σ.th 0).setI 11 0 13 (-1)).I 11 0 13 = -1
    exact setI_I
  rw [e13] at rb
  have i6 : ((((σ.th 0).setI 11 0 13 (-1)).setI 11 0 11 e).setI 11 0 8 0).I 11 0 6 = 0 := by
    rw [setI_ne (by decide), setI_ne (by decide), setI_ne (by decide)]
    exact setI_I
  have i8 : ((((σ.th 0).setI 11 0 13 (-1)).setI 11 0 11 e).setI 11 0 8 0).I 11 0 8 = 0 := setI_I
  have i11 : ((((σ.th 0).setI 11 0 13 (-1)).setI 11 0 11 e).setI 11 0 8 0).I 11 0 11 = e := (setI_ne (by decide)).trans setI_I
  have i5 : ((((σ.th 0).setI 11 0 13 (-1)).setI 11 0 11 e).setI 11 0 8 0).I 11 0 5 = σ.I 11 0 5 := by
    rw [setI_ne (by decide), setI_ne (by decide), setI_ne (by decide), setI_ne (by decide)]
  have hTx : Tx ((((σ.th 0).setI 11 0 13 (-1)).setI 11 0 11 e).setI 11 0 8 0) T e := ⟨hW, fun k => by
    rw [← hT k, setI_t (by decide), setI_t (by decide), setI_t (by decide), setI_t (by decide)], i11, he⟩
  have rb2 : Rt m_X11_begin 2 0 0 [vR (some (11, 0))] (((σ.th 0).setI 11 0 13 (-1)).rJ 53 0 (layB (σ.J 53 0))) none ((((((σ.th 0).setI 11 0 13 (-1)).setI 11 0 11 e).setI 11 0 8 0).rJ 53 0 (layB (σ.J 53 0))).pz (tF T e 0) (tE T e 0) 0 (-1)) := rb
  have hJ : ((((σ.th 0).setI 11 0 13 (-1)).setI 11 0 11 e).setI 11 0 8 0).J 50 0 = A := hA
  clear rb e13
  show V _ 7 0 0 0 [some (vR (some (11, 0))), none, none] [] σ _
  refine V_aldn0 a_X11_parsePool_0 ?_
  refine V_iconst a_X11_parsePool_1 ?_
  refine V_putI a_X11_parsePool_2 f_X11_58 rfl ?_
  refine V_aldn0 a_X11_parsePool_5 ?_
  refine V_iconst a_X11_parsePool_6 ?_
  refine V_putI a_X11_parsePool_7 f_X11_29 rfl ?_
  refine V_aldn0 a_X11_parsePool_10 ?_
  refine V_fin a_X11_parsePool_11 f_X11_19 rfl hW ?_
  refine V_s1V a_X11_parsePool_14 c_X11_52 (R_lay (t := 53) (i := 0) rfl (by decide)) ?_
  refine V_aldn0 a_X11_parsePool_17 ?_
  refine V_v0V a_X11_parsePool_18 c_X11_190 rb2 ?_
  refine V_iconst a_X11_parsePool_21 ?_
  refine V_istn1 a_X11_parsePool_22 ?_
  skip
  generalize (((σ.th 0).setI 11 0 13 (-1)).setI 11 0 11 e).setI 11 0 8 0 = ρ at hF i6 i8 i11 i5 hTx hJ ⊢
  unfold psX
  have key := loopW (I := psI e) (g := psG T e) (f := psF T e) (m := psM e) (E := wh (psG T e) (psF T e) (psM e) (0, -1, 0, layB (σ.J 53 0), 0)) (P := fun x => (psG T e x = true → ∀ x2 : Option AV, V m_X11_parsePool 7 0 0 23 [some (vR (some (11, 0))), some (vI x.2.2.1), x2] [] ((ρ.rJ 53 0 x.2.2.2.1).pz (tF T e x.2.2.2.2) (tE T e x.2.2.2.2) 0 (-1)) (PpQ σ A (wh (psG T e) (psF T e) (psM e) (0, -1, 0, layB (σ.J 53 0), 0)))) ∧ (¬ psG T e x = true → ∀ (x2 : Option AV) τ, HS ρ T e x τ → V m_X11_parsePool 7 0 0 57 [some (vR (some (11, 0))), some (vI x.2.2.1), x2] [] τ (PpQ σ A (wh (psG T e) (psF T e) (psM e) (0, -1, 0, layB (σ.J 53 0), 0))))) ps_s ?_ ?_ (0, -1, 0, layB (σ.J 53 0), 0) (ps_0 he.1) rfl
  · exact key.1 (decide_eq_true ⟨rfl, Or.inl rfl⟩) none
  · intro hI hg
    refine ⟨fun z => absurd z hg, fun _ x2 τ hτ => ?_⟩
    generalize wh (psG T e) (psF T e) (psM e) (0, -1, 0, layB (σ.J 53 0), 0) = x at hI hg hτ ⊢
    obtain ⟨c, a, n, B, p⟩ := x
    obtain ⟨h1, h2, h3, h4, h5⟩ := hI
    dsimp only at h1 h2 h3 h4 h5
    by_cases q : c = 0
    · have hτ := hτ.1 q
      dsimp only at hτ
      subst hτ
      subst q
      have start : ((ρ.rJ 53 0 B).pz (tF T e p) (tE T e p) 0 (-1)).rJ 50 0 (mix B A 0) = (ρ.rJ 53 0 B).pz (tF T e p) (tE T e p) 0 (-1) := by
        rw [mix_0, ← hJ]
        have e1 : ((ρ.rJ 53 0 B).pz (tF T e p) (tE T e p) 0 (-1)).J 50 0 = ρ.J 50 0 := rJ_ne (by decide)
        rw [← e1, rJ_self]
      have hb : ∀ g, (((ρ.rJ 53 0 B).pz (tF T e p) (tE T e p) 0 (-1)).rJ 50 0 g).J 53 0 = B := fun g => by
        rw [rJ_ne (by decide)]
        exact pzJ
      have x6 : ∀ g, (((ρ.rJ 53 0 B).pz (tF T e p) (tE T e p) 0 (-1)).rJ 50 0 g).I 11 0 6 = 0 := fun g => by
        show ((ρ.rJ 53 0 B).pz (tF T e p) (tE T e p) 0 (-1)).I 11 0 6 = 0
        rw [pz_k (by decide)]
        exact i6
      have x8 : ∀ g, (((ρ.rJ 53 0 B).pz (tF T e p) (tE T e p) 0 (-1)).rJ 50 0 g).I 11 0 8 = 0 := fun g => by
        show ((ρ.rJ 53 0 B).pz (tF T e p) (tE T e p) 0 (-1)).I 11 0 8 = 0
        rw [pz_k (by decide)]
        exact i8
      have x12 : ∀ g, (((ρ.rJ 53 0 B).pz (tF T e p) (tE T e p) 0 (-1)).rJ 50 0 g).I 11 0 12 = 0 := fun g => by
        show ((ρ.rJ 53 0 B).pz (tF T e p) (tE T e p) 0 (-1)).I 11 0 12 = 0
        exact pz_12
      have x13 : ∀ g, (((ρ.rJ 53 0 B).pz (tF T e p) (tE T e p) 0 (-1)).rJ 50 0 g).I 11 0 13 = a := fun g => by
        show ((ρ.rJ 53 0 B).pz (tF T e p) (tE T e p) 0 (-1)).I 11 0 13 = a
        rw [pz_13]
        exact (h5 rfl).1.symm
      have xF : ∀ g, FK [50, 53] [5, 6, 8, 9, 10, 11, 12, 13] σ (((ρ.rJ 53 0 B).pz (tF T e p) (tE T e p) 0 (-1)).rJ 50 0 g) := fun g => FK.trans (FK.trans (FK.trans hF ((Fm.rJ (by decide)).fk (by decide))) (FK.pz.sub (by decide) (by decide))) ((Fm.rJ (by decide)).fk (by decide))
      refine V_aldn0 a_X11_parsePool_57 ?_
      refine V_getIE a_X11_parsePool_58 f_X11_118 rfl pz_12 ?_
      refine V_if_le_t a_X11_parsePool_61 (by omega) (by omega) ?_
      refine V_iconst a_X11_parsePool_66 ?_
      refine V_istn2 a_X11_parsePool_67 ?_
      refine (fun z => by rw [start] at z; exact z : V _ 7 0 0 68 [some (vR (some (11, 0))), some (vI n), some (vI 0)] [] (((ρ.rJ 53 0 B).pz (tF T e p) (tE T e p) 0 (-1)).rJ 50 0 (mix B A 0)) _ → _) ?_
      refine loopI (P := fun k => V _ 7 0 0 68 [some (vR (some (11, 0))), some (vI n), some (vI k)] [] (((ρ.rJ 53 0 B).pz (tF T e p) (tE T e p) 0 (-1)).rJ 50 0 (mix B A k)) _) (N := 359) (by omega) ?_ ?_
      · refine V_ildn2 a_X11_parsePool_68 ?_
        refine V_sipush a_X11_parsePool_69 (by decide) ?_
        refine V_icmp_ge_t a_X11_parsePool_72 (by omega) (by omega) ?_
        refine V_aldn0 a_X11_parsePool_93 ?_
        refine V_iconst a_X11_parsePool_94 ?_
        refine V_putI a_X11_parsePool_95 f_X11_78 rfl ?_
        refine V_ildn1 a_X11_parsePool_98 ?_
        exact V_iret a_X11_parsePool_99 (⟨FK.trans (xF _) ⟨Fm.setI (by decide), fun k hk => setI_ne (fun z => hk (by rw [z]; decide))⟩, (setI_ne (by decide)).trans (x6 _), (setI_ne (by decide)).trans (x8 _), (setI_ne (by decide)).trans (x12 _), (setI_ne (by decide)).trans (x13 _), fun z => absurd rfl z, fun _ => ⟨rfl, rJ_J, setI_I⟩⟩)
      · intro k k0 k1 ih
        rw [← mix_s k0, ← rJ_set] at ih
        have hW : WF ρ := hTx.1
        refine V_ildn2 a_X11_parsePool_68 ?_
        refine V_sipush a_X11_parsePool_69 (by decide) ?_
        refine V_icmp_ge_f a_X11_parsePool_72 (by omega) (by omega) ?_
        refine V_aldn0 a_X11_parsePool_75 ?_
        refine V_fin a_X11_parsePool_76 f_X11_7 rfl hW ?_
        refine V_ildn2 a_X11_parsePool_79 ?_
        refine V_aldn0 a_X11_parsePool_80 ?_
        refine V_fin a_X11_parsePool_81 f_X11_19 rfl hW ?_
        refine V_ildn2 a_X11_parsePool_84 ?_
        refine V_fr a_X11_parsePool_85 (by omega) (hb _) ?_
        refine V_last a_X11_parsePool_86 rfl (by omega) ?_
        refine V_inc2 a_X11_parsePool_87 ?_
        refine V_goto a_X11_parsePool_90 ?_
        exact ih
    · obtain ⟨f, t, B', hft, rfl⟩ := hτ.2 q
      dsimp only
      refine V_aldn0 a_X11_parsePool_57 ?_
      refine V_getIE a_X11_parsePool_58 f_X11_118 rfl pz_12 ?_
      refine V_if_le_f a_X11_parsePool_61 (by omega) (by omega) ?_
      refine V_iconst a_X11_parsePool_64 ?_
      exact V_iret a_X11_parsePool_65 (⟨FK.trans (FK.trans hF ((Fm.rJ (by decide)).fk (by decide))) (FK.pz.sub (by decide) (by decide)), by rw [pz_k (by decide)]; exact i6, by rw [pz_k (by decide)]; exact i8, pz_12, pz_13, fun _ => ⟨rfl, by show (ρ.rJ 53 0 B').J 50 0 = A; rw [rJ_ne (by decide)]; exact hJ, by rw [pz_k (by decide)]; exact i5⟩, fun z => absurd z q⟩)
  · intro x hI hg ih
    refine ⟨fun _ x2 => ?_, fun z => absurd hg z⟩
    have hs := ps_s x hI hg
    generalize wh (psG T e) (psF T e) (psM e) (0, -1, 0, layB (σ.J 53 0), 0) = E at ih ⊢
    obtain ⟨c, a, n, B, p⟩ := x
    obtain ⟨h1, h2, h3, h4, h5⟩ := hI
    have hg : c = 0 ∧ (n = 0 ∨ tF T e p < e) := of_decide_eq_true hg
    have h5 := h5 hg.1
    dsimp only at h1 h2 h3 h4 h5 ⊢
    have hstk := st_ok (T := T) (first := decide (n = 0)) h2 h3
    have rs := R_readStatement (a := -1) (first := decide (n = 0)) hTx h2 h3
    unfold psF at ih
    dsimp only at ih
    generalize stA T e (decide (n = 0)) B p = y at hs hstk rs ih
    have hb1 : bI (decide (n = 0) = true) = if n = 0 then 1 else 0 := by
      by_cases q : n = 0
      · rw [if_pos q, bI_t (decide_eq_true q)]
      · rw [if_neg q, bI_f (fun z => q (of_decide_eq_true z))]
    rw [hb1] at rs
    have after : ∀ τ, StR ρ T e (-1) y τ → V m_X11_parsePool 7 0 0 36 [some (vR (some (11, 0))), some (vI n), x2] [] τ (PpQ σ A E) := fun τ hτ => by
      by_cases q : y.1 = 0
      · have hτ := hτ.1 q
        subst hτ
        rw [if_pos q] at ih
        have hy := hstk.2 q
        have hF2 := tF_bd (T := T) hy.1.2
        by_cases q2 : tF T e y.2.1 < e
        · have k := ih.1 (decide_eq_true ⟨rfl, Or.inr q2⟩) x2
          dsimp only at k
          refine V_inc1 a_X11_parsePool_36 ?_
          refine V_aldn0 a_X11_parsePool_39 ?_
          refine V_getIE a_X11_parsePool_40 f_X11_118 rfl pz_12 ?_
          refine V_if_ne_f a_X11_parsePool_43 (by omega) (by omega) ?_
          refine V_aldn0 a_X11_parsePool_46 ?_
          refine V_getIE a_X11_parsePool_47 f_X11_104 rfl pz_9 ?_
          refine V_aldn0 a_X11_parsePool_50 ?_
          refine V_getIE a_X11_parsePool_51 f_X11_98 rfl (show _ = e by rw [pz_k (by decide)]; exact i11) ?_
          refine V_icmp_lt_t a_X11_parsePool_54 (by omega) (by omega) ?_
          exact k
        · have k := ih.2 (fun z => by
            have z := of_decide_eq_true z
            dsimp only at z
            omega) x2 _ ⟨fun _ => rfl, fun z => absurd rfl z⟩
          dsimp only at k
          refine V_inc1 a_X11_parsePool_36 ?_
          refine V_aldn0 a_X11_parsePool_39 ?_
          refine V_getIE a_X11_parsePool_40 f_X11_118 rfl pz_12 ?_
          refine V_if_ne_f a_X11_parsePool_43 (by omega) (by omega) ?_
          refine V_aldn0 a_X11_parsePool_46 ?_
          refine V_getIE a_X11_parsePool_47 f_X11_104 rfl pz_9 ?_
          refine V_aldn0 a_X11_parsePool_50 ?_
          refine V_getIE a_X11_parsePool_51 f_X11_98 rfl (show _ = e by rw [pz_k (by decide)]; exact i11) ?_
          refine V_icmp_lt_f a_X11_parsePool_54 (by omega) (by omega) ?_
          exact k
      · obtain ⟨f, t, B', hft, rfl⟩ := hτ.2 q
        rw [if_neg q] at ih
        have k := ih.2 (fun z => by
          have z := of_decide_eq_true z
          exact q z.1) x2 _ ⟨fun z => absurd z q, fun _ => ⟨f, t, B', hft, rfl⟩⟩
        dsimp only at k
        have hyb := hstk.1
        refine V_inc1 a_X11_parsePool_36 ?_
        refine V_aldn0 a_X11_parsePool_39 ?_
        refine V_getIE a_X11_parsePool_40 f_X11_118 rfl pz_12 ?_
        refine V_if_ne_t a_X11_parsePool_43 (by omega) (by omega) ?_
        exact k
    by_cases q : n = 0
    · rw [if_pos q] at rs
      refine V_aldn0 a_X11_parsePool_23 ?_
      refine V_ildn1 a_X11_parsePool_24 ?_
      refine V_if_ne_f a_X11_parsePool_25 (by omega) (by omega) ?_
      refine V_iconst a_X11_parsePool_28 ?_
      refine V_goto a_X11_parsePool_29 ?_
      refine V_v1PV a_X11_parsePool_33 c_X11_193 rs (fun τ hτ => ?_)
      exact after τ hτ
    · rw [if_neg q] at rs
      refine V_aldn0 a_X11_parsePool_23 ?_
      refine V_ildn1 a_X11_parsePool_24 ?_
      refine V_if_ne_t a_X11_parsePool_25 (by omega) (by omega) ?_
      refine V_iconst a_X11_parsePool_32 ?_
      refine V_v1PV a_X11_parsePool_33 c_X11_193 rs (fun τ hτ => ?_)
      exact after τ hτ
theorem R_errorCode {c : Int} (hc : σ.I 11 0 12 = c) : Rt m_X11_errorCode 0 0 0 [vR (some (11, 0))] σ (some (vI c)) (σ.th 0) := by
  show V _ 0 0 0 0 [some (vR (some (11, 0)))] [] σ _
  refine V_aldn0 a_X11_errorCode_0 ?_
  refine V_iconst a_X11_errorCode_1 ?_
  refine V_putI a_X11_errorCode_2 f_X11_58 rfl ?_
  refine V_aldn0 a_X11_errorCode_5 ?_
  refine V_getIE a_X11_errorCode_6 f_X11_118 rfl ((setI_ne (by decide)).trans hc) ?_
  exact V_iret a_X11_errorCode_9 (⟨rfl, rfl⟩)
theorem R_errorPosition {c : Int} (hc : σ.I 11 0 13 = c) : Rt m_X11_errorPosition 0 0 0 [vR (some (11, 0))] σ (some (vI c)) (σ.th 0) := by
  show V _ 0 0 0 0 [some (vR (some (11, 0)))] [] σ _
  refine V_aldn0 a_X11_errorPosition_0 ?_
  refine V_iconst a_X11_errorPosition_1 ?_
  refine V_putI a_X11_errorPosition_2 f_X11_58 rfl ?_
  refine V_aldn0 a_X11_errorPosition_5 ?_
  refine V_getIE a_X11_errorPosition_6 f_X11_29 rfl ((setI_ne (by decide)).trans hc) ?_
  exact V_iret a_X11_errorPosition_9 (⟨rfl, rfl⟩)
end Pp

