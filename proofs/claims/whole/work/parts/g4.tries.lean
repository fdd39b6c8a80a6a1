/-! The law's own methods: a call inside a try, its answer into a row. -/
theorem ct_ISE : Cond.castable xISE xISE ∈ lw_tbl := tm4 (List.mem_of_getElem? (i := 136) rfl)
theorem ct_IAE : Cond.castable xIAE xIAE ∈ lw_tbl := tm4 (List.mem_of_getElem? (i := 219) rfl)
theorem ct_IOB : Cond.castable xIOB xIOB ∈ lw_tbl := tm5 (List.mem_of_getElem? (i := 30) rfl)
theorem ct_NSE : Cond.castable xNSE xNSE ∈ lw_tbl := tm5 (List.mem_of_getElem? (i := 45) rfl)
theorem ct_ARI : Cond.castable xARI xARI ∈ lw_tbl := tm6 (List.mem_of_getElem? (i := 5) rfl)
def nmL (k : Nat) : String := if k = 13 then xISE else if k = 19 then xIAE else if k = 25 then xIOB else if k = 130 then xNSE else xARI
def xxL : List String := [xISE, xIAE, xIOB, xNSE, xARI]
theorem ct_L : ∀ E ∈ xxL, Cond.castable E E ∈ lw_tbl := by
  intro E hE
  have c : E = xISE ∨ E = xIAE ∨ E = xIOB ∨ E = xNSE ∨ E = xARI := by simpa [xxL] using hE
  rcases c with rfl | rfl | rfl | rfl | rfl
  · exact ct_ISE
  · exact ct_IAE
  · exact ct_IOB
  · exact ct_NSE
  · exact ct_ARI
theorem nc_L : ∀ E ∈ xxL, ∀ k ∈ [13, 19, 25, 130, 88], nmL k = E ∨ (E, nmL k) ∈ NC := by decide +kernel
theorem kl_L {M : MI} (hM : M.own = RL) : ∀ k ∈ [13, 19, 25, 130, 88], k ≠ 0 ∧ Cond.classLink M.own k (nmL k) ∈ lw_tbl := by
  intro k hk
  have c : k = 13 ∨ k = 19 ∨ k = 25 ∨ k = 130 ∨ k = 88 := by simpa using hk
  rcases c with rfl | rfl | rfl | rfl | rfl
  · exact ⟨by decide, kl_L_13 hM⟩
  · exact ⟨by decide, kl_L_19 hM⟩
  · exact ⟨by decide, kl_L_25 hM⟩
  · exact ⟨by decide, kl_L_130 hM⟩
  · exact ⟨by decide, kl_L_88 hM⟩
def Wq (σ : Hp) (κ x D' : Int) (s' : Lsv) (τ : Hp) : Prop := Nw o7S σ τ ∧ CIv D' τ s' ∧ (κ = 0 → τ.J 70 0 0 = x)
def WqD (σ : Hp) (κ : Int) (x : UInt64) (D' : Int) (s' : Lsv) (τ : Hp) : Prop := Nw o7S σ τ ∧ CIv D' τ s' ∧ (κ = 0 → τ.B 71 0 0 = x)
section Ww
variable {M M2 : MI} {n b bs n2 pc nx idx k : Nat} {ls : List (Option AV)} {st rest as : List AV} {σ τ : Hp} {Q : Res → Hp → Prop} {Es : List String} {κ D' v x : Int} {w : AV} {s' : Lsv}
theorem V_try (h : Ix M pc (.invokevirtual idx) 3 nx) (c : CV M idx M2 10 k) (hct : Cq M2 as σ Es κ w D' s') (hM : M.own = RL) (hh : ∀ x ∈ M.hh, x.2.2.2 ∈ [13, 19, 25, 130, 88]) (hk : as.length = k) (hfit : (ent0 (vR (some (10, 0)) :: as)).length ≤ M2.mL) (hcat : cats rest ≤ 8) (hst : st = as.reverse ++ vR (some (10, 0)) :: rest)
    (k0 : κ = 0 → ∀ τ, QCv D' s' σ τ → V M 16 b bs nx ls (w :: rest) τ Q) (k1 : ∀ (j : Nat) (E : String), Es[j]? = some E → E ∈ xxL ∧ ∃ hp, catchAt M.hh nmL pc E = some hp ∧ (κ = (j : Int) + 1 → ∀ τ q, QCv D' s' σ τ → V M 16 b bs hp ls [vR (some (99, q))] τ Q)) : V M 16 (b + 61) (bs + 419) pc ls st σ Q := by
  refine V_ivX (nm := nmL) (i := 0) h c.2.2.2.2.2.1 c.2.2.2.2.1 c.2.1 c.2.2.2.2.2.2 c.1 c.2.2.1 c.2.2.2.1 hct (by decide) hk hfit hcat hst (fun u τ hq => ?_) (fun E τ q hq => ?_)
  · obtain ⟨hr, hc⟩ := hq
    rcases hr with ⟨e0, e⟩ | ⟨j, E, -, -, e⟩
    · cases e
      exact k0 e0 τ hc
    · cases e
  · obtain ⟨hr, hc⟩ := hq
    rcases hr with ⟨-, e⟩ | ⟨j, E', hj, hκ, e⟩
    · cases e
    · cases e
      obtain ⟨hE, hp, hcat2, kk⟩ := k1 j E hj
      exact ⟨hp, hcat2, fun x hx => ⟨(kl_L hM _ (hh x hx)).1, (kl_L hM _ (hh x hx)).2, nc_L E hE _ (hh x hx)⟩, ct_L E hE, kk hκ τ q hc⟩
theorem Nw.setJ {S : Nat → Nat → Prop} {t i : Nat} {k v : Int} (hs : S t i) : Nw S σ (σ.setJ t i k v) := ⟨rfl, fun t' n hn => ⟨rfl, rfl, by
  funext k'
  exact if_neg (fun z => hn (by rw [z.1, z.2.1]; exact hs)), rfl, rfl, rfl⟩⟩
theorem Nw.setB {S : Nat → Nat → Prop} {t i : Nat} {k : Int} {v : UInt64} (hs : S t i) : Nw S σ (σ.setB t i k v) := ⟨rfl, fun t' n hn => ⟨rfl, rfl, rfl, rfl, rfl, by
  funext k'
  exact if_neg (fun z => hn (by rw [z.1, z.2.1]; exact hs))⟩⟩
theorem wq0 (hc : QCv D' s' σ τ) : Wq σ κ x D' s' (τ.setJ 70 0 0 x) := by
  have f : Nw (fun t _ => t = 70) τ (τ.setJ 70 0 0 x) := Nw.setJ rfl
  refine ⟨(hc.1.sub (fun t n z => Or.inl z)).trans (f.sub (fun t n z => Or.inr (Or.inl z))), hc.2.out f hc.2.wf (fun t n z => by unfold ocS; omega), fun _ => ?_⟩
  show u3 τ.J 70 0 0 x 70 0 0 = x
  unfold u3
  exact if_pos ⟨rfl, rfl, rfl⟩
theorem wq1 (hc : QCv D' s' σ τ) (hk : κ ≠ 0) : Wq σ κ x D' s' τ := ⟨hc.1.sub (fun t n z => Or.inl z), hc.2, fun z => absurd z hk⟩
theorem wq0D {x : UInt64} (hc : QCv D' s' σ τ) : WqD σ κ x D' s' (τ.setB 71 0 0 x) := by
  have f : Nw (fun t _ => t = 71) τ (τ.setB 71 0 0 x) := Nw.setB rfl
  refine ⟨(hc.1.sub (fun t n z => Or.inl z)).trans (f.sub (fun t n z => Or.inr (Or.inr z))), hc.2.out f hc.2.wf (fun t n z => by unfold ocS; omega), fun _ => ?_⟩
  show u3 τ.B 71 0 0 x 71 0 0 = x
  unfold u3
  exact if_pos ⟨rfl, rfl, rfl⟩
theorem wq1D {x : UInt64} (hc : QCv D' s' σ τ) (hk : κ ≠ 0) : WqD σ κ x D' s' τ := ⟨hc.1.sub (fun t n z => Or.inl z), hc.2, fun z => absurd z hk⟩
theorem W_appendText {p1 p2 p3 p4 p5 : Int} {κ D' : Int} {v : Int} {s' : Lsv} (h : Cq m_X10_appendText [vI p1, vI p2, vI p3, vI p4, vI p5] σ [xISE] κ (vI v) D' s') : Cv m_L_appendText 16 61 419 [vR (some (10, 0)), vI p1, vI p2, vI p3, vI p4, vI p5, vR (some (70, 0))] σ (some (vI κ)) (Wq σ κ (v.bmod (2 ^ 32)) D' s') := by
  show V _ 16 61 419 0 [some (vR (some (10, 0))), some (vI p1), some (vI p2), some (vI p3), some (vI p4), some (vI p5), some (vR (some (70, 0))), none] [] σ _
  refine V_ald6 a_L_appendText_0 ?_
  refine V_iconst a_L_appendText_2 ?_
  refine V_aldn0 a_L_appendText_3 ?_
  refine V_ildn1 a_L_appendText_4 ?_
  refine V_ildn2 a_L_appendText_5 ?_
  refine V_ildn3 a_L_appendText_6 ?_
  refine V_ild4 a_L_appendText_7 ?_
  refine V_ild5 a_L_appendText_9 ?_
  skip
  refine V_try (b := 0) (bs := 0) (as := [vI p1, vI p2, vI p3, vI p4, vI p5]) (rest := [vI 0, vR (some (70, 0))]) a_L_appendText_11 c_L_7 h rfl (by decide) rfl (by exact Nat.le_of_ble_eq_true rfl) (by exact Nat.le_of_ble_eq_true rfl) rfl (fun e0 τ hc => ?_) (fun j E hj => ?_)
  · subst e0
    refine V_i2lM a_L_appendText_14 ?_
    refine V_last a_L_appendText_15 rfl (by omega) ?_
    refine V_goto a_L_appendText_16 ?_
    refine V_iconst a_L_appendText_23 ?_
    exact V_iret a_L_appendText_24 (⟨rfl, wq0 hc⟩)
  · match j, hj with
    | 0, hj =>
      cases hj
      refine ⟨by decide +kernel, 19, by decide +kernel, fun hk τ q hc => ?_⟩
      have hk : κ = 1 := hk.trans (by decide)
      subst hk
      refine V_ast7 a_L_appendText_19 ?_
      refine V_iconst a_L_appendText_21 ?_
      exact V_iret a_L_appendText_22 (⟨rfl, wq1 hc (by decide)⟩)
    | j + 1, hj => cases hj
end Ww

