theorem toV_ext {ad ad' : Nat → Nat → Nat} {σ σ' : Hp} (h : ext ad σ ad' σ') {v : AV} (hv : okV σ v) : toV ad' v = toV ad v := by
  rcases v with a | a | (_ | a) | a <;> first | rfl | skip
  show Value.ref _ = Value.ref _
  rcases hv with hv | hv
  · rw [(h.1 _ _ hv).2]
  · rw [h.2 _ _ hv]
theorem okV_ext {ad ad' : Nat → Nat → Nat} {σ σ' : Hp} (h : ext ad σ ad' σ') {v : AV} (hv : okV σ v) : okV σ' v := by
  rcases v with a | a | (_ | a) | a <;> first | trivial | skip
  rcases hv with hv | hv
  · exact Or.inl (h.1 _ _ hv).1
  · exact Or.inr hv
theorem ext.trans {ad ad' ad'' : Nat → Nat → Nat} {σ σ' σ'' : Hp} (h : ext ad σ ad' σ') (h2 : ext ad' σ' ad'' σ'') : ext ad σ ad'' σ'' := ⟨fun t i q => ⟨(h2.1 t i (h.1 t i q).1).1, ((h2.1 t i (h.1 t i q).1).2).trans (h.1 t i q).2⟩, fun t i q => (h2.2 t i q).trans (h.2 t i q)⟩
theorem ext.refl (ad : Nat → Nat → Nat) (σ : Hp) : ext ad σ ad σ := ⟨fun _ _ h => ⟨h, rfl⟩, fun _ _ _ => rfl⟩
section CallR
variable {M M2 : MI} {n b bs n2 b2 bs2 pc nx : Nat} {ls : List (Option AV)} {st rest as : List AV} {σ : Hp} {Q Q2 : Res → Hp → Prop}
/-- behind a call: what came back, or what was thrown -/
theorem call_core {g : Gp} {ad : Nat → Nat → Nat} {p : Program} {l : Launch} {e : Env} {R : Room} {s : State} {m : MethodId} {args : Array Value} {below : List Frame} {meth : Method} {c : Code} {H : Heap} {locs : List Loc} {cells slots : Nat} {lsA : Array Slot} {ad0 : Nat → Nat → Nat} {σ0 : Hp} {a : Array Value} {Z : State → Prop}
    (hp : Pre M n (b + b2) (bs + bs2) ls st σ g ad p l R s m meth c H locs cells slots lsA ad0 σ0) (hrest : okS σ rest)
    (hr : vx_Run p l e R s m args below meth c H locs cells slots b2 bs2 (F0 m pc lsA (st.map (toV ad))) (rest.map (toV ad)) (Qcf g ad σ Q2 a) (XCf g ad σ Q2) (aF g))
    (kk : ∀ (v : Option AV) (σ' : Hp) (ad' : Nat → Nat → Nat) (H' : Heap) (locs' : List Loc), Q2 (.inl v) σ' → Pre M n b bs ls (v.toList ++ rest) σ' g ad' p l R s m meth c H' locs' (cells + b2) (slots + bs2) lsA ad0 σ0 → W p l e R s m args below meth c H' locs' (cells + b2) (slots + bs2) Z (F0 m (pc + 3) lsA ((v.toList ++ rest).map (toV ad'))))
    (kx : ∀ (E : String) (σ' : Hp) (ad' : Nat → Nat → Nat) (H' : Heap) (locs' : List Loc) (q : Addr) (ce : Cell), Q2 (.inr E) σ' → Pre M n b bs ls rest σ' g ad' p l R s m meth c H' locs' (cells + b2) (slots + bs2) lsA ad0 σ0 → H'[q]? = some ce → ce.vm = .none → s.vm.findClass E = some ce.cls → vx_W p l e R s m args below meth c H' locs' (cells + b2) (slots + bs2) Z (F0 m pc lsA (rest.map (toV ad))) q) :
    W p l e R s m args below meth c H locs cells slots Z (F0 m pc lsA (st.map (toV ad))) := by
  obtain ⟨F, ⟨rm1, rm2, rm3, rm4⟩, hS, hrep, ⟨hol, hos⟩, hl, he⟩ := hp
  intro T hT X
  have pre : ∀ (v : Option AV) (σ' : Hp) (ad' : Nat → Nat → Nat) (st₀ t T' : State) (L : List Loc), st₀.heap = H → T'.heap = t.heap → (∀ q ∈ L, (aF g) q.base) → rep g ad' σ' t.heap → ext ad σ ad' σ' → (∀ x, v = some x → okV σ' x) → va_F (aF g) st₀ t → Pre M n b bs ls (v.toList ++ rest) σ' g ad' p l R s m meth c T'.heap (locs ++ L) (cells + b2) (slots + bs2) lsA ad0 σ0 := by
    intro v σ' ad' st₀ t T' L h0 e1 hL hrp hx hv hF
    obtain ⟨k1, k2, k3⟩ := vx_keep h0 e1 hS (fun q _ h => h) (fun q h => h) hL hF
    refine ⟨F, ⟨rm1, rm2, by omega, by omega⟩, k3, by rw [e1]; exact hrp, ⟨fun v hv => okV_ext hx (hol v hv), fun v2 hv2 => ?_⟩, ⟨hl.1, hl.2.1, fun j v hj => by rw [toV_ext hx (okV_mem hol hj)]; exact hl.2.2 j v hj⟩, he.trans hx⟩
    rcases List.mem_append.mp hv2 with h | h
    · cases v with
      | none => cases h
      | some x =>
        have e : v2 = x := by simpa using h
        rw [e]
        exact hv x rfl
    · exact okV_ext hx (hrest v2 h)
  rcases hr T hT X with ⟨v, st₀, t, T', L, h0, X', hL, e1, e2, ⟨v', ad', σ', ev, hq2, hrp, hx, hv, hF⟩, st1⟩ | ⟨q, st₀, t, T', L, E, ce, h0, X', hL, e1, e2, ⟨ad', σ', hq2, hrp, hx, hF⟩, hce, hcv, hcl, st1⟩
  · cases ev
    obtain ⟨t2, a1, b1⟩ := kk v' σ' ad' T'.heap (locs ++ L) hq2 (pre v' σ' ad' st₀ t T' L h0 e1 hL hrp hx hv hF) T' rfl X'
    refine ⟨t2, st1 t2 ?_, b1⟩
    have ee : (v'.toList ++ rest).map (toV ad') = (v'.map (toV ad')).toList ++ rest.map (toV ad) := by
      rw [List.map_append, List.map_congr_left (fun v hv => toV_ext hx (hrest v hv))]
      cases v' <;> rfl
    rw [ee] at a1
    exact a1
  · obtain ⟨t2, a1, b1⟩ := kx E σ' ad' T'.heap (locs ++ L) q ce hq2 (pre none σ' ad' st₀ t T' L h0 e1 hL hrp hx (fun _ h => nomatch h) hF) (by rw [e1]; exact hce) hcv hcl T' rfl X'
    exact ⟨t2, st1.trans a1, b1⟩
/-- what a callee is: its words stand in the tables -/
def MOk (M : MI) (k : Nat) : Prop := (plainFor M.y = true ∧ M.own = M.y.cls ∧ M.mL ≤ 21) ∧ ((if M.hh = [] then Cond.code M.y M.cc M.mL M.rt else Cond.codeWith M.y M.cc M.mL M.rt M.hh) ∈ lw_tbl ∧ Cond.initialized M.y.cls ∈ lw_tbl) ∧ (M.y.cls ≠ "java/lang/invoke/MethodHandle" ∧ M.y.cls ≠ "java/lang/invoke/VarHandle") ∧ (parseMethodDescriptor M.y.desc).map (fun d => d.parameters.length) = some k
def cats : List AV → Nat
  | [] => 0
  | .inr (.inl _) :: r => 2 + cats r
  | .inr (.inr (.inr _)) :: r => 2 + cats r
  | _ :: r => 1 + cats r
theorem cats_sum (ad : Nat → Nat → Nat) (st : List AV) : ((st.map (toV ad)).map fun v => v.category).sum = cats st := by
  induction st with
  | nil => rfl
  | cons v r ih =>
    rcases v with a | a | (_ | a) | a <;> simp [cats, toV, rV, Value.category] at ih ⊢ <;> exact ih
theorem plen {M2 : MI} {k : Nat} (h : (parseMethodDescriptor M2.y.desc).map (fun d => d.parameters.length) = some k) : ∀ sig, parseMethodDescriptor M2.y.desc = some sig → k = sig.parameters.length := fun sig hs => by
  rw [hs] at h
  exact (Option.some.inj h).symm
theorem callB_V {g : Gp} {R : Room} {s : State} {args : Array Value} {own : String} {idx k : Nat} (hG : G g s) (hok : MOk M2 k) (hhh : M2.hh = []) (hR1 : n2 + 1 ≤ R.frames) (hR2 : 40 * (n2 + 1) ≤ R.locals) (hlink : Cond.methodLink own idx M2.y ∈ lw_tbl) : CallB R s args own idx M2.y M2.cc M2.mL M2.rt [Cond.code M2.y M2.cc M2.mL M2.rt] (room n2 b2 bs2) b2 bs2 k := by
  obtain ⟨⟨h1, h2, h3⟩, ⟨h4, h5⟩, h6, h7⟩ := hok
  rw [if_pos hhh] at h4
  have hc : ∀ a, (Cond.code M2.y M2.cc M2.mL M2.rt).before a s = true := hG.1 _ h4 rfl
  refine ⟨rfl, rfl, hR1, ?_, fun w hw a' U hW => ?_, List.mem_cons_self, hc args, hG.1 _ h5 rfl args, h6, plen h7, hG.1 _ hlink rfl args⟩
  · show 8 + (M2.mL + 11) + 40 * n2 ≤ R.locals
    omega
  · rw [List.mem_singleton.mp hw]
    exact word_at hW (Or.inl rfl) (hc args)
/-- not caught here: the caller's Q takes it -/
theorem kx_out {g : Gp} {ad : Nat → Nat → Nat} {p : Program} {l : Launch} {e : Env} {R : Room} {s : State} {m : MethodId} {args : Array Value} {below : List Frame} {meth : Method} {c : Code} {H' : Heap} {locs' : List Loc} {cells slots : Nat} {lsA : Array Slot} {ad0 ad' : Nat → Nat → Nat} {σ0 σ' : Hp} {q : Addr} {ce : Cell} {E : String} (hh : M.hh = []) (hq : Q (.inr E) σ')
    (hp : Pre M n b bs ls rest σ' g ad' p l R s m meth c H' locs' cells slots lsA ad0 σ0) (h1 : H'[q]? = some ce) (h2 : ce.vm = .none) (h3 : s.vm.findClass E = some ce.cls) : vx_W p l e R s m args below meth c H' locs' cells slots (vx_MQ below (Qcf g ad0 σ0 Q) (XCf g ad0 σ0 Q) args s R.cells R.slots (aF g)) (F0 m pc lsA (rest.map (toV ad))) q := by
  obtain ⟨F, rm, hS, hr, ⟨hol, hos⟩, hl, he⟩ := hp
  exact vx_out (fun x hx => by rw [F.2.2.2.2.2.2.2.2.1, hh] at hx; cases hx) F.2.2.2.2.2.1 h1 h2 h3 (fun t ht hvm => ⟨ad', σ', hq, by rw [ht]; exact hr, he, ⟨by rw [ht]; exact hS.1, fun q h1 h2 => by rw [ht]; exact hS.2.1 q h1 h2⟩⟩) hS.2.2 (by omega) (by omega)
theorem Pcf_pre {g : Gp} {ad : Nat → Nat → Nat} {s : State} {H : Heap} {locs : List Loc} (hG : G g s) (hS : va_S (aF g) s.heap H locs) (hr : rep g ad σ H) (hok : okS σ as) : ∀ U : State, U.heap = H → s.WarmedH U.vm → Pcf g ad as σ (as.map (toV ad)).toArray U := fun U hU hW => ⟨rfl, hG.move hW (by rw [hU]; exact hS), by rw [hU]; exact hr, hok⟩
/-- invokevirtual on an object of this program -/
theorem V_iv {idx k t i : Nat} (h : Ix M pc (.invokevirtual idx) 3 nx) (hM : M.hh = []) (ht : t < 12) (hC : M2.own = cR t) (hok : MOk M2 k) (hhh : M2.hh = []) (hl1 : Cond.methodLink M.own idx M2.y ∈ lw_tbl) (hl2 : Cond.instanceMethod M2.y ∈ lw_tbl) (hl3 : Cond.selects M2.y.cls M2.y M2.y ∈ lw_tbl)
    (hct : Ct M2 n2 b2 bs2 (vR (some (t, i)) :: as) σ Q2) (hn : n2 + 1 ≤ n) (hk : as.length = k) (hfit : (ent0 (vR (some (t, i)) :: as)).length ≤ M2.mL) (hcat : cats rest ≤ 8) (hst : st = as.reverse ++ vR (some (t, i)) :: rest)
    (kk : ∀ v σ', Q2 (.inl v) σ' → V M n b bs nx ls (v.toList ++ rest) σ' Q) (kx : ∀ E σ', Q2 (.inr E) σ' → Q (.inr E) σ') : V M n (b + b2) (bs + bs2) pc ls st σ Q := by
  obtain ⟨hd, rfl⟩ := h
  subst hst
  intro g ad p l e R s m args below meth c H locs cells slots lsA ad0 σ0 hp
  have hp0 := hp
  obtain ⟨F, ⟨rm1, rm2, rm3, rm4⟩, hS, hr, ⟨hol, hos⟩, hl, he⟩ := hp
  have hG := F.2.2.2.2.2.2.2.2.2
  have hrest : okS σ rest := fun v hv => hos v (List.mem_append_right _ (List.mem_cons_of_mem _ hv))
  have has : okS σ (vR (some (t, i)) :: as) := okS_c (hos _ (List.mem_append_right _ List.mem_cons_self)) (fun v hv => hos v (List.mem_append_left _ (List.mem_reverse.mpr hv)))
  have hal := hr.alive (okS_h has) (by omega)
  have hat := (hr.1 t i hal).2.2
  rw [cE_obj ht] at hat
  have hcls : M2.y.cls = cR t := by rw [← hok.1.2.1]; exact hC
  refine call_core (Q2 := Q2) hp0 hrest (vx_runV (C := cR t) (b := ad t i) (As := as.map (toV ad)) (Ts := []) ⟨F.1, F.2.1, F.2.2.1, F.2.2.2.1, fun _ h => nomatch h⟩ (met_of hct hfit hok.1.2.1 hok.1.1 hhh F.2.2.2.2.2.2.2.1 g ad) ⟨callB_V hG hok hhh (by omega) (by omega) hl1, hG.1 _ hl2 rfl args, by rw [← hcls]; exact hG.1 _ hl3 rfl args⟩ ⟨Pcf_blind _ _ _ _, va_recv hG.2.1.1 (one_P hat) (lays_ok t ht).1 (q0 := 0) rfl, Pcf_pre hG hS hr has⟩ rfl (by rw [List.length_map]; exact hk) hl.1 ?_ ?_ hd ⟨by omega, by omega⟩) (fun v σ' ad' H' locs' hq hp' => kk v σ' hq g ad' p l e R s m args below meth c H' locs' _ _ lsA ad0 σ0 hp') (fun E σ' ad' H' locs' q ce hq hp' h1 h2 h3 => kx_out hM (kx E σ' hq) hp' h1 h2 h3)
  · show (as.reverse ++ vR (some (t, i)) :: rest).map (toV ad) = _
    rw [List.map_append, List.map_reverse]
    rfl
  · show 2 * 0 + _ ≤ 8
    rw [cats_sum]
    omega
/-- invokestatic -/
theorem V_is {idx k : Nat} (h : Ix M pc (.invokestatic idx) 3 nx) (hM : M.hh = []) (hok : MOk M2 k) (hhh : M2.hh = []) (hl1 : Cond.methodLink M.own idx M2.y ∈ lw_tbl) (hl2 : Cond.static M2.y ∈ lw_tbl)
    (hct : Ct M2 n2 b2 bs2 as σ Q2) (hn : n2 + 1 ≤ n) (hk : as.length = k) (hfit : (ent0 as).length ≤ M2.mL) (hcat : cats rest ≤ 8) (hst : st = as.reverse ++ rest)
    (kk : ∀ v σ', Q2 (.inl v) σ' → V M n b bs nx ls (v.toList ++ rest) σ' Q) (kx : ∀ E σ', Q2 (.inr E) σ' → Q (.inr E) σ') : V M n (b + b2) (bs + bs2) pc ls st σ Q := by
  obtain ⟨hd, rfl⟩ := h
  subst hst
  intro g ad p l e R s m args below meth c H locs cells slots lsA ad0 σ0 hp
  have hp0 := hp
  obtain ⟨F, ⟨rm1, rm2, rm3, rm4⟩, hS, hr, ⟨hol, hos⟩, hl, he⟩ := hp
  have hG := F.2.2.2.2.2.2.2.2.2
  have hrest : okS σ rest := fun v hv => hos v (List.mem_append_right _ hv)
  have has : okS σ as := fun v hv => hos v (List.mem_append_left _ (List.mem_reverse.mpr hv))
  refine call_core (Q2 := Q2) hp0 hrest (vx_runS (As := as.map (toV ad)) (Ts := []) ⟨F.1, F.2.1, F.2.2.1, F.2.2.2.1, fun _ h => nomatch h⟩ (met_of hct hfit hok.1.2.1 hok.1.1 hhh F.2.2.2.2.2.2.2.1 g ad) ⟨callB_V hG hok hhh (by omega) (by omega) hl1, hG.1 _ hl2 rfl args⟩ ⟨Pcf_blind _ _ _ _, Pcf_pre hG hS hr has⟩ rfl (by rw [List.length_map]; exact hk) hl.1 ?_ ?_ hd ⟨by omega, by omega⟩) (fun v σ' ad' H' locs' hq hp' => kk v σ' hq g ad' p l e R s m args below meth c H' locs' _ _ lsA ad0 σ0 hp') (fun E σ' ad' H' locs' q ce hq hp' h1 h2 h3 => kx_out hM (kx E σ' hq) hp' h1 h2 h3)
  · show (as.reverse ++ rest).map (toV ad) = _
    rw [List.map_append, List.map_reverse]
  · show 2 * 0 + _ ≤ 8
    rw [cats_sum]
    omega
end CallR
