theorem vx_ofWF {l : Launch} {y : MethodName} {ws ws' : List Cond} {rm : Room} {Pc : Array Value → State → Prop} {Qc : Array Value → State → Outcome → State → Prop} {XC : String → State → State → Prop} {mc ms : Nat} {free : Addr → Prop} {cc : ByteArray} {maxL : Nat} {ret : Option FieldType}
    (hy : plainFor y = true) (hw : ws = Cond.code y cc maxL ret :: ws')
    (body : ∀ p e s m args below meth c s₁, BodyLoose p l y (headSpec ws rm) cc maxL ret e s m args below meth c s₁ → c.maxLocals = maxL → (∀ x ∈ c.exceptionTable.toList, False) → Pc args s →
      W p l e (headSpec ws rm).room s m args below meth c s.heap [] 0 0 (vx_MQ below Qc XC args s mc ms free) (entryFrame m args maxL)) : vx_Met l y ws rm Pc Qc XC mc ms free := by
  refine MetFree.of_bodySF (code := cc) (maxLocals := maxL) (ret := ret) hy ?_ ?_
  · intro args s m h hn
    obtain ⟨meth, c, h1, h2, h3, h4, h5, h6, -, -⟩ := Cond.code_spec hn (atoms_spec (ws := ws) h _ (by rw [hw]; exact List.mem_cons_self))
    exact ⟨meth, c, h1, h2, h3, h4, h5, h6⟩
  · intro p e s m args below meth c s₁ B hml hP _
    have hh0 : s₁.heap = s.heap := by rw [B.state]; rfl
    have ht : ∀ x ∈ c.exceptionTable.toList, False := by
      obtain ⟨meth9, c9, h1, h2, -, -, -, -, h7, -⟩ := Cond.code_spec B.named (atoms_spec (ws := ws) B.pre _ (by rw [hw]; exact List.mem_cons_self))
      cases Option.some.inj (h1.symm.trans B.method)
      cases Option.some.inj (h2.symm.trans (Stand.of_body B).code)
      intro x hx
      rw [Array.isEmpty_iff.mp h7] at hx
      cases hx
    obtain ⟨t, a1, o, b1, b2, b3⟩ := body p e s m args below meth c s₁ B hml ht hP s₁ hh0 (Stand.of_body B)
    exact ⟨t, o, a1, b1, b2, b3⟩
/-- the locals at a method's entry -/
def ent0 : List AV → List (Option AV)
  | [] => []
  | .inr (.inl a) :: r => some (vL a) :: none :: ent0 r
  | .inr (.inr (.inr a)) :: r => some (vD a) :: none :: ent0 r
  | v :: r => some v :: ent0 r
def entL (n : Nat) (as : List AV) : List (Option AV) := ent0 as ++ List.replicate (n - (ent0 as).length) none
/-- THE CONTRACT: M, called with these values in this heap, ends as Q says -/
def Ct (M : MI) (n b bs : Nat) (as : List AV) (σ : Hp) (Q : Res → Hp → Prop) : Prop := V M n b bs 0 (entL M.mL as) [] σ Q
/-- .. answers v and leaves σ' -/
def Rt (M : MI) (n b bs : Nat) (as : List AV) (σ : Hp) (v : Option AV) (σ' : Hp) : Prop := Ct M n b bs as σ (fun r τ => r = .inl v ∧ τ = σ')
theorem ent0_len (ad : Nat → Nat → Nat) (as : List AV) : (lg_sl (as.map (toV ad))).length = (ent0 as).length := by
  induction as with
  | nil => rfl
  | cons v r ih =>
    rcases v with a | a | (_ | a) | a <;> simp [lg_sl, ent0, toV, rV, Value.category] at ih ⊢ <;> omega
theorem ent0_in (ad : Nat → Nat → Nat) : ∀ (as : List AV) (k i : Nat) (v : AV), (ent0 as)[i]? = some (some v) → (k + i, toV ad v) ∈ lv_args k (as.map (toV ad)) := by
  intro as
  induction as with
  | nil => intro k i v h; simp [ent0] at h
  | cons x r ih =>
    intro k i v h
    have one : (toV ad x).category = 1 → (some x :: ent0 r)[i]? = some (some v) → (k + i, toV ad v) ∈ lv_args k ((x :: r).map (toV ad)) := fun hc h => by
      show _ ∈ (k, toV ad x) :: lv_args (if (toV ad x).category = 2 then k + 2 else k + 1) (r.map (toV ad))
      rw [if_neg (by omega)]
      cases i with
      | zero =>
        have e : x = v := by simpa using h
        subst e
        exact List.mem_cons_self
      | succ i =>
        rw [show k + (i + 1) = k + 1 + i by omega]
        exact List.mem_cons_of_mem _ (ih (k + 1) i v (by simpa using h))
    have two : (toV ad x).category = 2 → (some x :: none :: ent0 r)[i]? = some (some v) → (k + i, toV ad v) ∈ lv_args k ((x :: r).map (toV ad)) := fun hc h => by
      show _ ∈ (k, toV ad x) :: lv_args (if (toV ad x).category = 2 then k + 2 else k + 1) (r.map (toV ad))
      rw [if_pos hc]
      cases i with
      | zero =>
        have e : x = v := by simpa using h
        subst e
        exact List.mem_cons_self
      | succ i =>
        cases i with
        | zero => simp at h
        | succ i =>
          rw [show k + (i + 1 + 1) = k + 2 + i by omega]
          exact List.mem_cons_of_mem _ (ih (k + 2) i v (by simpa using h))
    rcases x with a | a | a | a
    · exact one rfl h
    · exact two rfl h
    · exact one (cat_R a ad) h
    · exact two rfl h
theorem ent0_ok {σ : Hp} : ∀ (as : List AV), okS σ as → okL σ (ent0 as) := by
  intro as
  induction as with
  | nil => intro _ v h; simp [ent0] at h
  | cons x r ih =>
    intro h v hv
    have h2 := ih (okS_t h)
    have h1 := okS_h h
    rcases x with a | a | a | a
    · rcases List.mem_cons.mp hv with e | e
      · cases e; exact h1
      · exact h2 v e
    · rcases List.mem_cons.mp hv with e | e
      · cases e; exact h1
      · rcases List.mem_cons.mp e with e | e
        · cases e
        · exact h2 v e
    · rcases List.mem_cons.mp hv with e | e
      · cases e; exact h1
      · exact h2 v e
    · rcases List.mem_cons.mp hv with e | e
      · cases e; exact h1
      · rcases List.mem_cons.mp e with e | e
        · cases e
        · exact h2 v e
theorem entL_get {n : Nat} {as : List AV} {i : Nat} {v : AV} (h : (entL n as)[i]? = some (some v)) : (ent0 as)[i]? = some (some v) := by
  unfold entL at h
  by_cases q : i < (ent0 as).length
  · rwa [List.getElem?_append_left q] at h
  · rw [List.getElem?_append_right (by omega), List.getElem?_replicate] at h
    split at h
    · cases h
    · cases h
theorem entL_ok {σ : Hp} {n : Nat} {as : List AV} (h : okS σ as) : okL σ (entL n as) := by
  intro v hv
  rcases List.mem_append.mp hv with h1 | h1
  · exact ent0_ok as h v h1
  · cases (List.mem_replicate.mp h1).2
def room (n b bs : Nat) : Room := { frames := n, cells := b, slots := bs, locals := 40 * n }
def Pcf (g : Gp) (ad : Nat → Nat → Nat) (as : List AV) (σ : Hp) : Array Value → State → Prop := va_Pc (as.map (toV ad)) (fun U => G g U ∧ rep g ad σ U.heap ∧ okS σ as)
theorem Pcf_blind (g : Gp) (ad : Nat → Nat → Nat) (as : List AV) (σ : Hp) : FrameBlind (Pcf g ad as σ) := fun a U f mk h => ⟨h.1, h.2.1.calling f mk a, h.2.2⟩
theorem body_of {M : MI} {n b bs : Nat} {as : List AV} {σ : Hp} {Q : Res → Hp → Prop} (hV : Ct M n b bs as σ Q) (hfit : (ent0 as).length ≤ M.mL) (hown : M.own = M.y.cls) {l : Launch} (hl : l.stackTraces = false) (g : Gp) (ad : Nat → Nat → Nat) {ws : List Cond}
    {p : Program} {e : Env} {s : State} {m : MethodId} {args : Array Value} {below : List Frame} {meth : Method} {c : Code} {s₁ : State} (B : BodyLoose p l M.y (headSpec ws (room n b bs)) M.cc M.mL M.rt e s m args below meth c s₁) (hml : c.maxLocals = M.mL) (hx : c.exceptionTable.toList = tableOf M.hh) (hp : Pcf g ad as σ args s) :
    W p l e (headSpec ws (room n b bs)).room s m args below meth c s.heap [] 0 0 (vx_MQ below (Qcf g ad σ Q) (XCf g ad σ Q) args s b bs (aF g)) (entryFrame m args M.mL) := by
  obtain ⟨rfl, hG, hr, hok⟩ := hp
  have hown2 : s.vm.findClass M.own = some m.cls := by rw [hown]; exact findClass_of_methodNamed B.named
  have hlv := lv_entry (as.map (toV ad)) (n := M.mL) (by rw [ent0_len]; exact hfit)
  rw [lg_entry_eq]
  refine hV g ad p l e (room n b bs) s m _ below meth c s.heap [] 0 0 _ ad σ ⟨⟨B.exec, B.bytes, hml, hown2, B.returns, B.notSynchronized, (name_of_methodNamed B.named B.method).1, hl, hx, hG⟩, ⟨Nat.le_refl _, Nat.le_refl _, by show 0 + b ≤ b; omega, by show 0 + bs ≤ bs; omega⟩, va_S.rf, hr, ⟨entL_ok hok, fun _ h => nomatch h⟩, ⟨hlv.1, hlv.2.1, fun i v hi => ?_⟩, ⟨fun t i h => ⟨h, rfl⟩, fun _ _ _ => rfl⟩⟩
  have := ent0_in ad as 0 i v (entL_get hi)
  rw [Nat.zero_add] at this
  exact hlv.2.2 _ this
theorem met_of {M : MI} {n b bs : Nat} {as : List AV} {σ : Hp} {Q : Res → Hp → Prop} (hV : Ct M n b bs as σ Q) (hfit : (ent0 as).length ≤ M.mL) (hown : M.own = M.y.cls) (hh : plainFor M.y = true) (hhh : M.hh = []) {l : Launch} (hl : l.stackTraces = false) (g : Gp) (ad : Nat → Nat → Nat) : vx_Met l M.y [Cond.code M.y M.cc M.mL M.rt] (room n b bs) (Pcf g ad as σ) (Qcf g ad σ Q) (XCf g ad σ Q) b bs (aF g) := by
  refine vx_ofWF (cc := M.cc) (maxL := M.mL) (ret := M.rt) hh rfl ?_
  intro p e s m args below meth c s₁ B hml hx hp
  refine body_of hV hfit hown hl g ad B hml ?_ hp
  rw [hhh]
  cases e1 : c.exceptionTable.toList with
  | nil => rfl
  | cons a r => exact absurd (hx a (by rw [e1]; exact List.mem_cons_self)) (fun h => h)
theorem metH_of {M : MI} {n b bs : Nat} {as : List AV} {σ : Hp} {Q : Res → Hp → Prop} (hV : Ct M n b bs as σ Q) (hfit : (ent0 as).length ≤ M.mL) (hown : M.own = M.y.cls) (hh : plainName M.y.cls = true) {l : Launch} (hl : l.stackTraces = false) (g : Gp) (ad : Nat → Nat → Nat) : vx_Met l M.y [Cond.codeWith M.y M.cc M.mL M.rt M.hh] (room n b bs) (Pcf g ad as σ) (Qcf g ad σ Q) (XCf g ad σ Q) b bs (aF g) := by
  refine vx_ofWH (cc := M.cc) (maxL := M.mL) (ret := M.rt) (hh := M.hh) hh rfl ?_
  intro p e s m args below meth c s₁ B hml hp
  exact body_of hV hfit hown hl g ad B hml (vx_table (x := M.y) B (atoms_spec (ws := [Cond.codeWith M.y M.cc M.mL M.rt M.hh]) B.pre _ List.mem_cons_self)) hp
/-- a callee that never throws -/
theorem met_plain {l : Launch} {y : MethodName} {ws : List Cond} {rm : Room} {Pc : Array Value → State → Prop} {Qc : Array Value → State → Outcome → State → Prop} {XC : String → State → State → Prop} {mc ms : Nat} {free : Addr → Prop} (h : vx_Met l y ws rm Pc Qc XC mc ms free) (hx : ∀ E st t, ¬ XC E st t) : Met l y ws rm Pc Qc mc ms free := by
  intro p e ha hc hk s m args below h1 h2 h3 h4
  obtain ⟨k, o, b1, b2, b3, b4⟩ := h p e ha hc hk s m args below h1 h2 h3 h4
  refine ⟨k, o, b1, b2, b3, ?_⟩
  rcases b4 with q | ⟨q, -, E, ce, L, hxc, -⟩
  · exact q
  · exact absurd hxc (hx _ _ _)
