section HandR
variable {M M2 : MI} {n b bs n2 b2 bs2 pc nx : Nat} {ls : List (Option AV)} {st rest as : List AV} {σ : Hp} {Q Q2 : Res → Hp → Prop}
/-- where the method goes on when E comes from pc: its first row that covers pc and names E -/
def catchAt (hh : List (Nat × Nat × Nat × Nat)) (nm : Nat → String) (pc : Nat) (E : String) : Option Nat := match hh with
  | [] => none
  | (a, z, h, k) :: r => if a ≤ pc ∧ pc < z ∧ nm k = E then some h else catchAt r nm pc E
theorem catch_V {g : Gp} {p : Program} {l : Launch} {e : Env} {R : Room} {s : State} {m : MethodId} {args : Array Value} {below : List Frame} {meth : Method} {c : Code} {H : Heap} {locs : List Loc} {cells slots : Nat} {lsA : Array Slot} {Z : State → Prop} {q : Addr} {ce : Cell} {E : String} {hp : Nat} {nm : Nat → String} {rest : List Value}
    (F : Fx M g p l s m meth c) (hcl : ∀ x ∈ M.hh, x.2.2.2 ≠ 0 ∧ Cond.classLink M.own x.2.2.2 (nm x.2.2.2) ∈ lw_tbl ∧ (nm x.2.2.2 = E ∨ (E, nm x.2.2.2) ∈ NC)) (hcs : Cond.castable E E ∈ lw_tbl)
    (hc : catchAt M.hh nm pc E = some hp) (h1 : H[q]? = some ce) (h2 : ce.vm = .none) (h3 : s.vm.findClass E = some ce.cls) (kk : W p l e R s m args below meth c H locs cells slots Z (F0 m hp lsA [.ref q])) : vx_W p l e R s m args below meth c H locs cells slots Z (F0 m pc lsA rest) q := by
  have hG := F.2.2.2.2.2.2.2.2.2
  have key : ∀ (hh pre : List (Nat × Nat × Nat × Nat)), M.hh = pre ++ hh → (∀ x ∈ pre, ¬ (x.1 ≤ pc ∧ pc < x.2.1 ∧ nm x.2.2.2 = E)) → catchAt hh nm pc E = some hp → vx_W p l e R s m args below meth c H locs cells slots Z (F0 m pc lsA rest) q := by
    intro hh
    induction hh with
    | nil => intro pre _ _ h; cases h
    | cons x r ih =>
      intro pre hpre hno h
      obtain ⟨a, z, h0, k⟩ := x
      by_cases hx : a ≤ pc ∧ pc < z ∧ nm k = E
      · have e1 : some h0 = some hp := by
          have : catchAt ((a, z, h0, k) :: r) nm pc E = some h0 := by
            show (if _ then _ else _) = _
            rw [if_pos hx]
          rw [← this]; exact h
        cases e1
        obtain ⟨k0, kl, -⟩ := hcl (a, z, hp, k) (by rw [hpre]; exact List.mem_append_right _ List.mem_cons_self)
        have htab : c.exceptionTable.toList = tableOf pre ++ ({ startPc := a, endPc := z, handlerPc := hp, catchType := k } : ExceptionTableEntry) :: tableOf r := by
          rw [F.2.2.2.2.2.2.2.2.1, hpre]
          simp [tableOf]
        refine vx_catch (own := M.own) (name := E) (E := E) F.2.2.2.1 (tableOf pre) _ (tableOf r) htab (fun y hy => ?_) ?_ k0 (by rw [← hx.2.2]; exact hG.1 _ kl rfl args) (hG.1 _ hcs rfl args) h1 h2 h3 kk
        · obtain ⟨y0, hy0, rfl⟩ := List.mem_map.mp (show y ∈ pre.map _ from hy)
          obtain ⟨q0, ql, qn⟩ := hcl y0 (by rw [hpre]; exact List.mem_append_left _ hy0)
          by_cases hcov : y0.1 ≤ pc ∧ pc < y0.2.1
          · refine Or.inr ⟨q0, nm y0.2.2.2, hG.1 _ ql rfl args, ?_⟩
            rcases qn with qn | qn
            · exact absurd ⟨hcov.1, hcov.2, qn⟩ (hno y0 hy0)
            · exact hG.2.2.2.1 _ qn
          · refine Or.inl ?_
            simp [covers]
            omega
        · simp [covers]
          omega
      · refine ih (pre ++ [(a, z, h0, k)]) (by rw [hpre]; simp) (fun y hy => ?_) ?_
        · rcases List.mem_append.mp hy with hy | hy
          · exact hno y hy
          · rw [List.mem_singleton.mp hy]
            exact hx
        · have : catchAt ((a, z, h0, k) :: r) nm pc E = catchAt r nm pc E := by
            show (if _ then _ else _) = _
            rw [if_neg hx]
          rw [← this]; exact h
  exact key M.hh [] rfl (fun _ h => nomatch h) hc
/-- a call inside a try -/
theorem V_ivX {idx k t i : Nat} {nm : Nat → String} (h : Ix M pc (.invokevirtual idx) 3 nx) (ht : t < 12) (hC : M2.own = cR t) (hok : MOk M2 k) (hhh : M2.hh = []) (hl1 : Cond.methodLink M.own idx M2.y ∈ lw_tbl) (hl2 : Cond.instanceMethod M2.y ∈ lw_tbl) (hl3 : Cond.selects M2.y.cls M2.y M2.y ∈ lw_tbl)
    (hct : Ct M2 n2 b2 bs2 (vR (some (t, i)) :: as) σ Q2) (hn : n2 + 1 ≤ n) (hk : as.length = k) (hfit : (ent0 (vR (some (t, i)) :: as)).length ≤ M2.mL) (hcat : cats rest ≤ 8) (hst : st = as.reverse ++ vR (some (t, i)) :: rest)
    (kk : ∀ v σ', Q2 (.inl v) σ' → V M n b bs nx ls (v.toList ++ rest) σ' Q) (kx : ∀ E σ' q, Q2 (.inr E) σ' → ∃ hp, catchAt M.hh nm pc E = some hp ∧ (∀ x ∈ M.hh, x.2.2.2 ≠ 0 ∧ Cond.classLink M.own x.2.2.2 (nm x.2.2.2) ∈ lw_tbl ∧ (nm x.2.2.2 = E ∨ (E, nm x.2.2.2) ∈ NC)) ∧ Cond.castable E E ∈ lw_tbl ∧ V M n b bs hp ls [vR (some (99, q))] σ' Q) : V M n (b + b2) (bs + bs2) pc ls st σ Q := by
  obtain ⟨hd, rfl⟩ := h
  subst hst
  intro g ad p l e R s m args below meth c H locs cells slots lsA ad0 σ0 hp
  have hp0 := hp
  obtain ⟨F, ⟨rm1, rm2, rm3, rm4⟩, hS, hr, ⟨hol, hos⟩, hl, he⟩ := hp
  have hG := F.2.2.2.2.2.2.2.2.2
  have hrest : okS σ rest := fun v hv => hos v (List.mem_append_right _ (List.mem_cons_of_mem _ hv))
  have has : okS σ (vR (some (t, i)) :: as) := okS_c (hos _ (List.mem_append_right _ List.mem_cons_self)) (fun v hv => hos v (List.mem_append_left _ (List.mem_reverse.mpr hv)))
  have hal := hr.alive (okS_h has) (by omega)
  have hat := (hr.1 t i hal).2.2
  rw [cE_obj ht] at hat
  have hcls : M2.y.cls = cR t := by rw [← hok.1.2.1]; exact hC
  refine call_core (Q2 := Q2) hp0 hrest (vx_runV (C := cR t) (b := ad t i) (As := as.map (toV ad)) (Ts := []) ⟨F.1, F.2.1, F.2.2.1, F.2.2.2.1, fun _ h => nomatch h⟩ (met_of hct hfit hok.1.2.1 hok.1.1 hhh F.2.2.2.2.2.2.2.1 g ad) ⟨callB_V hG hok hhh (by omega) (by omega) hl1, hG.1 _ hl2 rfl args, by rw [← hcls]; exact hG.1 _ hl3 rfl args⟩ ⟨Pcf_blind _ _ _ _, va_recv hG.2.1.1 (one_P hat) (lays_ok t ht).1 (q0 := 0) rfl, Pcf_pre hG hS hr has⟩ rfl (by rw [List.length_map]; exact hk) hl.1 ?_ ?_ hd ⟨by omega, by omega⟩) (fun v σ' ad' H' locs' hq hp' => kk v σ' hq g ad' p l e R s m args below meth c H' locs' _ _ lsA ad0 σ0 hp') (fun E σ' ad' H' locs' q ce hq hp' h1 h2 h3 => ?_)
  · show (as.reverse ++ vR (some (t, i)) :: rest).map (toV ad) = _
    rw [List.map_append, List.map_reverse]
    rfl
  · show 2 * 0 + _ ≤ 8
    rw [cats_sum]
    omega
  · obtain ⟨hp2, hca, hcl2, hcs, hV⟩ := kx E σ' q hq
    refine catch_V F hcl2 hcs hca h1 h2 h3 ?_
    obtain ⟨F', rm', hS', hr', ⟨hol', hos'⟩, hl', he'⟩ := hp'
    have k2 := hV g ad' p l e R s m args below meth c H' locs' _ _ lsA ad0 σ0 ⟨F', rm', hS', hr', ⟨hol', okS_c (Or.inr (by show 90 ≤ 99; decide)) (fun _ h => nomatch h)⟩, hl', he'⟩
    have e1 : ([vR (some (99, q))] : List AV).map (toV ad') = [.ref q] := by
      show [Value.ref (ad' 99 q)] = _
      rw [hr'.2.2.2.2.1.1 q]
    rw [e1] at k2
    exact k2
/-- a static method with handlers, that never throws -/
theorem V_isW {idx k : Nat} (h : Ix M pc (.invokestatic idx) 3 nx) (hM : M.hh = []) (hok : MOk M2 k) (hhh : M2.hh ≠ []) (hpl : plainName M2.y.cls = true) (hl1 : Cond.methodLink M.own idx M2.y ∈ lw_tbl) (hl2 : Cond.static M2.y ∈ lw_tbl)
    (hct : Ct M2 n2 b2 bs2 as σ Q2) (hn : n2 + 1 ≤ n) (hk : as.length = k) (hfit : (ent0 as).length ≤ M2.mL) (hcat : cats rest ≤ 8) (hst : st = as.reverse ++ rest)
    (kk : ∀ v σ', Q2 (.inl v) σ' → V M n b bs nx ls (v.toList ++ rest) σ' Q) (kx : ∀ E σ', Q2 (.inr E) σ' → Q (.inr E) σ') : V M n (b + b2) (bs + bs2) pc ls st σ Q := by
  obtain ⟨hd, rfl⟩ := h
  subst hst
  intro g ad p l e R s m args below meth c H locs cells slots lsA ad0 σ0 hp
  have hp0 := hp
  obtain ⟨F, ⟨rm1, rm2, rm3, rm4⟩, hS, hr, ⟨hol, hos⟩, hl, he⟩ := hp
  have hG := F.2.2.2.2.2.2.2.2.2
  have hrest : okS σ rest := fun v hv => hos v (List.mem_append_right _ hv)
  have has : okS σ as := fun v hv => hos v (List.mem_append_left _ (List.mem_reverse.mpr hv))
  obtain ⟨⟨o1, o2, o3⟩, ⟨o4, o5⟩, o6, o7⟩ := hok
  rw [if_neg hhh] at o4
  have hc : ∀ a, (Cond.codeWith M2.y M2.cc M2.mL M2.rt M2.hh).before a s = true := hG.1 _ o4 rfl
  have cw : vx_CSW R s args M.own idx M2.y M2.cc M2.mL M2.rt M2.hh [Cond.codeWith M2.y M2.cc M2.mL M2.rt M2.hh] (room n2 b2 bs2) b2 bs2 k := by
    refine ⟨⟨rfl, rfl, by show n2 + 1 ≤ _; omega, ?_, fun w hw a' U hW => ?_, List.mem_cons_self⟩, hc args, hG.1 _ o5 rfl args, o6, plen o7, hG.1 _ hl1 rfl args, hG.1 _ hl2 rfl args⟩
    · show 8 + (M2.mL + 11) + 40 * n2 ≤ R.locals
      omega
    · rw [List.mem_singleton.mp hw]
      exact word_at hW (Or.inl rfl) (hc args)
  refine call_core (Q2 := Q2) hp0 hrest (vx_runSX (As := as.map (toV ad)) (Ts := []) ⟨F.1, F.2.1, F.2.2.1, F.2.2.2.1, fun _ h => nomatch h⟩ (metH_of hct hfit o2 hpl F.2.2.2.2.2.2.2.1 g ad) cw ⟨Pcf_blind _ _ _ _, Pcf_pre hG hS hr has⟩ rfl (by rw [List.length_map]; exact hk) hl.1 ?_ ?_ hd ⟨by omega, by omega⟩) (fun v σ' ad' H' locs' hq hp' => kk v σ' hq g ad' p l e R s m args below meth c H' locs' _ _ lsA ad0 σ0 hp') (fun E σ' ad' H' locs' q ce hq hp' h1 h2 h3 => kx_out hM (kx E σ' hq) hp' h1 h2 h3)
  · show (as.reverse ++ rest).map (toV ad) = _
    rw [List.map_append, List.map_reverse]
  · show 2 * 0 + _ ≤ 8
    rw [cats_sum]
    omega
end HandR
