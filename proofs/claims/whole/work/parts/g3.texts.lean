section Sp
variable {D : Int} {σ : Hp} {s : Lsv}
theorem S_parsePool (h : CIv D σ s) : Lstp D σ s m_X10_parsePool m_X11_parsePool [] [] okI := by
  have hl := h.len
  have x := X_parsePool (g := σ.J 53 0) h (Eq9.refl _)
  have mm : ∀ τ, Nw o7S σ τ → MIv D τ s → Ct m_X11_parsePool 7 0 0 [vR (some (11, 0))] τ (PpQ τ s.1 (psX s.2.1 s.2.2.1 (σ.J 53 0))) := fun τ f m => by
    have r := R_parsePool m.1.2.1 m.2.2.1.1 m.2.2.1.2 hl m.1.2.2.1
    rw [f.J (t := 53) (n := 0) (by unfold o7S ocS; omega)] at r
    exact r
  generalize psX s.2.1 s.2.2.1 (σ.J 53 0) = y at x mm
  by_cases q : y.1 = 0
  · rw [if_pos q, if_pos q] at x
    refine Lstp.mk' ⟨_, rfl⟩ (Cq.c x) (fun τ f c2 m => ?_) (by decide) (by show D + 67 * 0 ≤ _; omega)
    refine V_low (V_mono (fun r ρ hq => ?_) (mm τ f m)) (Nat.le_refl _) (Nat.le_refl _) (by decide)
    obtain ⟨fk, e6, e8, e12, e13, -, hs⟩ := hq
    obtain ⟨e1, e50, e5⟩ := hs q
    have hg := m.2.2.2.2
    refine ⟨e1, fk.nw (by decide), ⟨mix y.2.2.2.1 s.1 359, Eq9.mix, ⟨c2.inv.1, fk.1.wf m.1.2.1, e50, c2.inv.2.eq9 Eq9.mix⟩, (show PastOk ρ 0 s.2.2.2.2.1 from ⟨e5, by decide, fun i k i0 i1 => absurd i1 (by omega)⟩), ⟨fun k => ?_, e8⟩, ⟨by rw [e12]; exact q, e13⟩, ?_⟩, e6⟩
    · rw [fk.1.I (by decide)]
      exact m.2.2.1.1 k
    · show PgOk ρ s.2.2.2.2.2.2.2
      unfold PgOk at hg ⊢
      rw [fk.2 22 (by decide), fk.1.I (by decide)]
      exact hg
  · rw [if_neg q, if_neg q] at x
    refine Lstp.mk' ⟨_, rfl⟩ (Cq.c x) (fun τ f c2 m => ?_) (by decide) (by show D + 67 * 0 ≤ _; omega)
    refine V_low (V_mono (fun r ρ hq => ?_) (mm τ f m)) (Nat.le_refl _) (Nat.le_refl _) (by decide)
    obtain ⟨fk, e6, e8, e12, e13, hs, -⟩ := hq
    obtain ⟨e1, e50, e5⟩ := hs q
    have hg := m.2.2.2.2
    have hp := m.2.1
    refine ⟨e1, fk.nw (by decide), ⟨s.1, Eq9.refl _, ⟨c2.inv.1, fk.1.wf m.1.2.1, e50, c2.inv.2⟩, ?_, ⟨fun k => ?_, e8⟩, ⟨e12, e13⟩, ?_⟩, e6⟩
    · show PastOk ρ s.2.2.2.1 s.2.2.2.2.1
      unfold PastOk at hp ⊢
      rw [e5, fk.1.J (by decide)]
      exact hp
    · rw [fk.1.I (by decide)]
      exact m.2.2.1.1 k
    · show PgOk ρ s.2.2.2.2.2.2.2
      unfold PgOk at hg ⊢
      rw [fk.2 22 (by decide), fk.1.I (by decide)]
      exact hg
theorem S_runOrders (h : CIv D σ s) (hD : D + 41000 ≤ 20000000) : Lstp D σ s m_X10_runOrders m_X11_runOrders [] [] okI := by
  have hl := h.len
  have x := X_runOrders h hD
  have mm : ∀ τ, Nw o7S σ τ → MIv D τ s → Ct m_X11_runOrders 11 0 0 [vR (some (11, 0))] τ (RoQ τ D s.2.2.1 s.2.2.2.1 s.2.2.2.2.1 s.1 (ogX s.2.1 s.2.2.1 s.1)) := fun τ f m => R_runOrders m.1 m.2.1 m.2.2.1.1 m.2.2.1.2 hl hD
  generalize ogX s.2.1 s.2.2.1 s.1 = y at x mm
  by_cases q : y.1 = 0
  · rw [if_pos q, if_pos q] at x
    refine Lstp.mk' ⟨_, rfl⟩ (Cq.c x) (fun τ f c2 m => ?_) (by decide) (by show D + 67 * s.2.2.1 + 67 * 0 ≤ _; omega)
    refine V_low (V_mono (fun r ρ hq => ?_) (mm τ f m)) (Nat.le_refl _) (Nat.le_refl _) (by decide)
    obtain ⟨fk, e6, e8, e12, e13, hs, -⟩ := hq
    obtain ⟨e1, md, hp⟩ := hs q
    have hg := m.2.2.2.2
    refine ⟨e1, fk.nw (by decide), ⟨y.2.2.2.1, Eq9.refl _, md, hp, ⟨fun k => ?_, e8⟩, ⟨e12.trans m.2.2.2.1.1, e13.trans m.2.2.2.1.2⟩, ?_⟩, e6⟩
    · rw [fk.1.I (by decide)]
      exact m.2.2.1.1 k
    · show PgOk ρ s.2.2.2.2.2.2.2
      unfold PgOk at hg ⊢
      rw [fk.2 22 (by decide), fk.1.I (by decide)]
      exact hg
  · rw [if_neg q, if_neg q] at x
    refine Lstp.mk' ⟨_, rfl⟩ (Cq.c x) (fun τ f c2 m => ?_) (by decide) (by show D + 67 * s.2.2.1 + 67 * 0 ≤ _; omega)
    refine V_low (V_mono (fun r ρ hq => ?_) (mm τ f m)) (Nat.le_refl _) (Nat.le_refl _) (by decide)
    obtain ⟨fk, e6, e8, e12, e13, -, hs⟩ := hq
    obtain ⟨e1, hp, A', md, e9⟩ := hs q
    have hg := m.2.2.2.2
    refine ⟨e1, fk.nw (by decide), ⟨A', e9, ⟨c2.inv.1, md.2.1, md.2.2.1, md.2.2.2.up (by omega)⟩, hp, ⟨fun k => ?_, e8⟩, ⟨e12.trans m.2.2.2.1.1, e13.trans m.2.2.2.1.2⟩, ?_⟩, e6⟩
    · rw [fk.1.I (by decide)]
      exact m.2.2.1.1 k
    · show PgOk ρ s.2.2.2.2.2.2.2
      unfold PgOk at hg ⊢
      rw [fk.2 22 (by decide), fk.1.I (by decide)]
      exact hg
end Sp

