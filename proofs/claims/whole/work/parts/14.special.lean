section SpecR
variable {M M2 : MI} {n b bs n2 b2 bs2 pc nx : Nat} {ls : List (Option AV)} {st rest as : List AV} {σ : Hp} {Q Q2 : Res → Hp → Prop}
/-- va_Run (a callee that never throws) as vx_Run -/
theorem run_vx {p : Program} {l : Launch} {e : Env} {R : Room} {s : State} {m : MethodId} {args : Array Value} {below : List Frame} {meth : Method} {c : Code} {H : Heap} {locs : List Loc} {cells slots mc ms : Nat} {g : JFrame} {rest : List Value} {Qa : State → Outcome → State → Prop} {XC : String → State → State → Prop} {free : Addr → Prop} (h : va_Run p l e R s m args below meth c H locs cells slots mc ms g rest Qa free) : vx_Run p l e R s m args below meth c H locs cells slots mc ms g rest Qa XC free := fun T hT X => Or.inl (h T hT X)
theorem noX {g : Gp} {ad : Nat → Nat → Nat} (hno : ∀ E τ, ¬ Q2 (.inr E) τ) : ∀ E st t, ¬ XCf g ad σ Q2 E st t := fun E st t h => by
  obtain ⟨ad', σ', h1, -⟩ := h
  exact hno _ _ h1
theorem callN_V {g : Gp} {R : Room} {s : State} {args : Array Value} {own host : String} {idx k : Nat} (hG : G g s) (hok : MOk M2 k) (hhh : M2.hh = []) (hR1 : n2 + 1 ≤ R.frames) (hR2 : 40 * (n2 + 1) ≤ R.locals) (hlink : Cond.methodLinkNest own idx M2.y host ∈ lw_tbl) : va_CN R s args own idx M2.y host M2.cc M2.mL M2.rt [Cond.code M2.y M2.cc M2.mL M2.rt] (room n2 b2 bs2) b2 bs2 k := by
  obtain ⟨⟨h1, h2, h3⟩, ⟨h4, h5⟩, h6, h7⟩ := hok
  rw [if_pos hhh] at h4
  have hc : ∀ a, (Cond.code M2.y M2.cc M2.mL M2.rt).before a s = true := hG.1 _ h4 rfl
  refine ⟨⟨rfl, rfl, hR1, ?_, fun w hw a' U hW => ?_, List.mem_cons_self⟩, hc args, hG.1 _ h5 rfl args, h6, plen h7, hG.1 _ hlink rfl args⟩
  · show 8 + (M2.mL + 11) + 40 * n2 ≤ R.locals
    omega
  · rw [List.mem_singleton.mp hw]
    exact word_at hW (Or.inl rfl) (hc args)
/-- invokestatic of a nest mate's private method -/
theorem V_isN {idx k : Nat} {host : String} (h : Ix M pc (.invokestatic idx) 3 nx) (hM : M.hh = []) (hok : MOk M2 k) (hhh : M2.hh = []) (hl1 : Cond.methodLinkNest M.own idx M2.y host ∈ lw_tbl) (hl2 : Cond.static M2.y ∈ lw_tbl)
    (hct : Ct M2 n2 b2 bs2 as σ Q2) (hno : ∀ E τ, ¬ Q2 (.inr E) τ) (hn : n2 + 1 ≤ n) (hk : as.length = k) (hfit : (ent0 as).length ≤ M2.mL) (hcat : cats rest ≤ 8) (hst : st = as.reverse ++ rest)
    (kk : ∀ v σ', Q2 (.inl v) σ' → V M n b bs nx ls (v.toList ++ rest) σ' Q) : V M n (b + b2) (bs + bs2) pc ls st σ Q := by
  obtain ⟨hd, rfl⟩ := h
  subst hst
  intro g ad p l e R s m args below meth c H locs cells slots lsA ad0 σ0 hp
  have hp0 := hp
  obtain ⟨F, ⟨rm1, rm2, rm3, rm4⟩, hS, hr, ⟨hol, hos⟩, hl, he⟩ := hp
  have hG := F.2.2.2.2.2.2.2.2.2
  have hrest : okS σ rest := fun v hv => hos v (List.mem_append_right _ hv)
  have has : okS σ as := fun v hv => hos v (List.mem_append_left _ (List.mem_reverse.mpr hv))
  refine call_core (Q2 := Q2) hp0 hrest (run_vx (va_runSN (As := as.map (toV ad)) (Ts := []) ⟨F.1, F.2.1, F.2.2.1, F.2.2.2.1, fun _ h => nomatch h⟩ (met_plain (met_of hct hfit hok.1.2.1 hok.1.1 hhh F.2.2.2.2.2.2.2.1 g ad) (noX hno)) ⟨callN_V hG hok hhh (by omega) (by omega) hl1, hG.1 _ hl2 rfl args, trivial⟩ ⟨Pcf_blind _ _ _ _, Pcf_pre hG hS hr has⟩ rfl (by rw [List.length_map]; exact hk) hl.1 ?_ ?_ hd ⟨by omega, by omega⟩)) (fun v σ' ad' H' locs' hq hp' => kk v σ' hq g ad' p l e R s m args below meth c H' locs' _ _ lsA ad0 σ0 hp') (fun E σ' ad' H' locs' q ce hq hp' h1 h2 h3 => absurd hq (hno _ _))
  · show (as.reverse ++ rest).map (toV ad) = _
    rw [List.map_append, List.map_reverse]
  · show 2 * 0 + _ ≤ 8
    rw [cats_sum]
    omega
/-- a constructor; a nest mate's private one -/
theorem V_ii {idx k t i : Nat} {host : String} (h : Ix M pc (.invokespecial idx) 3 nx) (hM : M.hh = []) (hok : MOk M2 k) (hhh : M2.hh = []) (hnm : M2.y.name = "<init>") (hrt : M2.rt = none) (hl1 : Cond.methodLink M.own idx M2.y ∈ lw_tbl ∨ Cond.methodLinkNest M.own idx M2.y host ∈ lw_tbl) (hl2 : Cond.instanceMethod M2.y ∈ lw_tbl)
    (hct : Ct M2 n2 b2 bs2 (vR (some (t, i)) :: as) σ Q2) (hno : ∀ E τ, ¬ Q2 (.inr E) τ) (hn : n2 + 1 ≤ n) (hk : as.length = k) (hfit : (ent0 (vR (some (t, i)) :: as)).length ≤ M2.mL) (hcat : cats rest ≤ 8) (hst : st = as.reverse ++ vR (some (t, i)) :: rest)
    (kk : ∀ v σ', Q2 (.inl v) σ' → V M n b bs nx ls (v.toList ++ rest) σ' Q) : V M n (b + b2) (bs + bs2) pc ls st σ Q := by
  obtain ⟨hd, rfl⟩ := h
  subst hst
  intro g ad p l e R s m args below meth c H locs cells slots lsA ad0 σ0 hp
  have hp0 := hp
  obtain ⟨F, ⟨rm1, rm2, rm3, rm4⟩, hS, hr, ⟨hol, hos⟩, hl, he⟩ := hp
  have hG := F.2.2.2.2.2.2.2.2.2
  have hrest : okS σ rest := fun v hv => hos v (List.mem_append_right _ (List.mem_cons_of_mem _ hv))
  have has : okS σ (vR (some (t, i)) :: as) := okS_c (hos _ (List.mem_append_right _ List.mem_cons_self)) (fun v hv => hos v (List.mem_append_left _ (List.mem_reverse.mpr hv)))
  have hmet := met_plain (met_of hct hfit hok.1.2.1 hok.1.1 hhh F.2.2.2.2.2.2.2.1 g ad) (noX hno)
  have e1 : (F0 m pc lsA ((as.reverse ++ vR (some (t, i)) :: rest).map (toV ad))).stack = (as.map (toV ad)).reverse ++ .ref (ad t i) :: rest.map (toV ad) := by
    show (as.reverse ++ vR (some (t, i)) :: rest).map (toV ad) = _
    rw [List.map_append, List.map_reverse]
    rfl
  have e2 : 2 * (F0 m pc lsA ((as.reverse ++ vR (some (t, i)) :: rest).map (toV ad))).monitorRoom + ((rest.map (toV ad)).map fun v => v.category).sum ≤ 8 := by
    show 2 * 0 + _ ≤ 8
    rw [cats_sum]
    omega
  have hrun : va_Run p l e R s m args below meth c H locs cells slots b2 bs2 (F0 m pc lsA ((as.reverse ++ vR (some (t, i)) :: rest).map (toV ad))) (rest.map (toV ad)) (Qcf g ad σ Q2 (Value.ref (ad t i) :: as.map (toV ad)).toArray) (aF g) := by
    rcases hl1 with hl1 | hl1
    · have cb := callB_V (n2 := n2) (b2 := b2) (bs2 := bs2) (R := R) (args := args) hG hok hhh (by omega) (by omega) hl1
      rw [hrt] at cb hmet
      exact va_runI (b := ad t i) (As := as.map (toV ad)) (Ts := []) ⟨F.1, F.2.1, F.2.2.1, F.2.2.2.1, fun _ h => nomatch h⟩ hmet ⟨cb, hnm, hG.1 _ hl2 rfl args⟩ ⟨Pcf_blind _ _ _ _, Pcf_pre hG hS hr has⟩ rfl (by rw [List.length_map]; exact hk) hl.1 e1 e2 hd ⟨by omega, by omega⟩
    · have cb := callN_V (n2 := n2) (b2 := b2) (bs2 := bs2) (R := R) (args := args) hG hok hhh (by omega) (by omega) hl1
      rw [hrt] at cb hmet
      exact va_runIN (b := ad t i) (As := as.map (toV ad)) (Ts := []) ⟨F.1, F.2.1, F.2.2.1, F.2.2.2.1, fun _ h => nomatch h⟩ hmet ⟨cb, hnm, hG.1 _ hl2 rfl args⟩ ⟨Pcf_blind _ _ _ _, Pcf_pre hG hS hr has⟩ rfl (by rw [List.length_map]; exact hk) hl.1 e1 e2 hd ⟨by omega, by omega⟩
  exact call_core (Q2 := Q2) hp0 hrest (run_vx hrun) (fun v σ' ad' H' locs' hq hp' => kk v σ' hq g ad' p l e R s m args below meth c H' locs' _ _ lsA ad0 σ0 hp') (fun E σ' ad' H' locs' q ce hq hp' h1 h2 h3 => absurd hq (hno _ _))
theorem V_objInit {idx t i : Nat} (h : Ix M pc (.invokespecial idx) 3 nx) (hw : Cond.methodLink M.own idx objectInit ∈ lw_tbl) (hw2 : Cond.instanceMethod objectInit ∈ lw_tbl) (hw3 : Cond.code objectInit ⟨#[0xb1]⟩ 1 none ∈ lw_tbl) (hn : 1 ≤ n) (hc : cats st ≤ 28) (kk : V M n b bs nx ls st σ Q) : V M n b bs pc ls (vR (some (t, i)) :: st) σ Q := by
  obtain ⟨hd, rfl⟩ := h
  intro g ad p l e R s m args below meth c H locs cells slots lsA ad0 σ0 hp
  obtain ⟨F, rm, hS, hr, ⟨hol, hos⟩, hl, he⟩ := hp
  have hG := F.2.2.2.2.2.2.2.2.2
  refine W.objInit F.1 F.2.1 F.2.2.2.1 (hG.1 _ hw rfl _) (hG.1 _ hw2 rfl _) (hG.1 _ hw3 rfl _) rfl (by rw [F.2.2.1]; exact hl.1) rfl hd (by omega) ?_ ?_
  · show 2 * 0 + _ + 12 ≤ _
    rw [cats_sum]
    omega
  · exact kk g ad p l e R s m args below meth c H locs cells slots lsA ad0 σ0 ⟨F, rm, hS, hr, ⟨hol, okS_t hos⟩, hl, he⟩
/-- a final reference field, in its class's constructor -/
theorem V_putF {idx k t i : Nat} {kI : Int} {r : Nat × Nat} (h : Ix M pc (.putfield idx) 3 nx) (hf : FL M idx t k kI) (hk2 : fk t k = true) (hin : M.y.name = "<init>") (ho : M.own = cR t) (h9 : r.1 < 90) (kk : V M n b bs nx ls st (σ.setF t i k (some r)) Q) : V M n b bs pc ls (vR (some r) :: vR (some (t, i)) :: st) σ Q := by
  obtain ⟨hd, rfl⟩ := h
  obtain ⟨⟨ht, hk⟩, rfl, hw⟩ := hf
  intro g ad p l e R s m args below meth c H locs cells slots lsA ad0 σ0 hp
  obtain ⟨F, rm, hS, hr, ⟨hol, hos⟩, hl, he⟩ := hp
  have hal := hr.alive (okS_h (okS_t hos)) (by omega)
  have hral := hr.alive (t := r.1) (i := r.2) (okS_h hos) h9
  have hG := F.2.2.2.2.2.2.2.2.2
  have hat := (hr.1 t i hal).2.2
  rw [cE_obj ht] at hat
  obtain ⟨l1, l2, l3, l4⟩ := lays_ok t ht
  have hts := hts_of hG ht args
  have hap := va_apart (own := M.own) hts (fun _ h => h) (cTy t) l3 l4 hG.2.1.1 l1
  obtain ⟨r0, h1, cell, q1, q2, q3, q4⟩ := hat
  have hr1 : r0 = (cR t, cT t, nf t) := Option.some.inj (h1.symm.trans l1)
  subst hr1
  obtain ⟨hSl, hfc, kC, hkC, hkind⟩ := hG.2.1.1.1 t _ l1
  obtain ⟨cf, kf, fi, f, hi, hsl⟩ := hSl k hk
  obtain ⟨f1, f2, f3⟩ := fld_ref t ht k hk hk2
  have hlay := hts _ (u_in_lay hk)
  unfold u_lay at hlay
  rw [if_pos f1] at hlay
  have hst := (u_facts hfc hkC (u_lays hts (fun _ h => h) hk) hi).1
  have hcf : m.cls = cf := by
    obtain ⟨_, _, c', _, _, _, -, -, hf', -, -, -, hown2, -⟩ := Cond.laysFinal_spec hlay
    have e1 : c' = cf := by have := hi.symm.trans hf'; simp at this; exact this.1.symm
    rw [f2, ← ho] at hown2
    rw [← e1]; exact Option.some.inj (F.2.2.2.1.symm.trans hown2)
  obtain ⟨nf1, nf2⟩ := ref_nf f3 (ad r.1 r.2)
  have h6 := u_fits hfc hkC hkind (Or.inr hlay) hi (l3 k hk) nf1 nf2
  refine W.putFinK F.1 F.2.1 F.2.2.2.1 (hG.1 _ hw rfl args) hi hst hcf (F.2.2.2.2.2.2.1.trans hin) (by rw [q2]; exact h6) q1 q3 (by rw [hsl]; exact k2_hasslot (q4 k hk)) rfl rfl hd fun H' e1 e2 e3 => ?_
  rw [hsl] at e1 ⊢
  refine kk g ad p l e R s m args below meth c H' _ cells slots lsA ad0 σ0 ⟨F, rm, hS.put e2 e3 (hr.1 t i hal).1, ?_, ⟨okL_al rfl hol, okS_al rfl (okS_t (okS_t hos))⟩, hl, he.al rfl⟩
  refine hr.put (t := t) (i := i) hal rfl (fun k' r' hk' => ?_) (fun k j => hr.2.2.2.1 t i k j hal) (fun t' i' hne => ⟨rfl, rfl, n3_ne hne, rfl, rfl⟩) rfl ?_ e3
  · have hk' : n3 σ.F t i k (some r) t i k' = some r' := hk'
    rw [n3_same] at hk'
    by_cases q : k' = k
    · rw [if_pos q] at hk'
      cases hk'
      exact hral
    · rw [if_neg q] at hk'
      exact hr.2.2.1 t i k' r' hal hk'
  rw [cE_obj ht]
  refine ⟨_, l1, t_OB.to (V := updV (vp_V ((List.range (nf t)).map (fldV ad σ t i))) k (.ref (ad r.1 r.2))) ⟨_, e1, q2, q3, t_set q4 hap hk _⟩ (fun j hj => ?_)⟩
  have e5 : ∀ (σ2 : Hp), vp_V ((List.range (nf t)).map (fldV ad σ2 t i)) j = fldV ad σ2 t i j := fun σ2 => by
    unfold vp_V
    rw [List.getD_eq_getElem?_getD, rng_get _ hj]
    rfl
  show (if j = k then _ else _) = vp_V ((List.range (nf t)).map (fldV ad (σ.setF t i k (some r)) t i)) j
  rw [e5, e5]
  by_cases hjk : j = k
  · subst hjk
    rw [if_pos rfl]
    unfold fldV
    rw [if_pos hk2]
    show _ = rV ad (n3 σ.F t i j (some r) t i j)
    rw [n3_same, if_pos rfl]
    rfl
  · rw [if_neg hjk]
    unfold fldV
    show (if fk t j = true then rV ad (σ.F t i j) else .int (i32 (σ.I t i j))) = (if fk t j = true then rV ad (n3 σ.F t i k (some r) t i j) else .int (i32 (σ.I t i j)))
    rw [n3_same, if_neg hjk]
/-- arraycopy from the start of one row to the start of another -/
def cpy (f : Nat → Nat → Int → Int) (t i t' i' : Nat) (n : Int) : Nat → Nat → Int → Int := fun a b k => if (a = t' ∧ b = i') ∧ 0 ≤ k ∧ k < n then f t i k else f a b k
theorem copyK {α : Type} (mk : α → Value) {p : Program} {l : Launch} {e : Env} {R : Room} {s : State} {m : MethodId} {args : Array Value} {below : List Frame} {meth : Method} {c : Code} {H : Heap} {locs : List Loc} {cells slots : Nat} {Z : State → Prop} {cc : ByteArray} {pc : Nat} {ls : Array Slot} {rest : List Value} {a0 a : Nat}
    (hexec : p.tables.exec = Jvm.exec) (hb : c.code = cc) (hml : c.maxLocals = ls.size) {own : String} {index : Nat} (hown : s.vm.findClass own = some m.cls) (hlink : (Cond.methodLink own index arraycopyName).before args s = true) (hnat : (Cond.native arraycopyName).before args s = true) (hstat : (Cond.static arraycopyName).before args s = true) (hini : (Cond.initialized "java/lang/System").before args s = true)
    {c0 : ClassId} {n0 n1 : Nat} {f g : Nat → α} {ty : FieldType} (hc0 : H[a0]? = some (arrV c0 n0 (fun j => mk (f j)))) (hc1 : H[a]? = some (arrV c0 n1 (fun j => mk (g j)))) (hA : ArrOfT s c0 ty) (hprim : refKind ty = false) (hmk : ∀ x, fits ty (mk x) = true) (hmr : ∀ x, match mk x with | .ref _ => False | _ => True)
    {n : Int32} (h3 : ¬ n < 0) (h4 : n.toNatClampNeg ≤ n0) (h5 : n.toNatClampNeg ≤ n1)
    (hframes : 1 ≤ R.frames) (hlocals : (rest.map fun v => v.category).sum + (nativeFrameWords "java/lang/System" "arraycopy" 5 + 11) ≤ R.locals) (hdg : decode cc pc = .ok (.invokestatic index, 3))
    (kk : ∀ (H1 : Heap) (locs1 : List Loc), H1[a]? = some (arrV c0 n1 (fun j => mk (va_cpy f g 0 0 n.toNatClampNeg j))) → H1.size = H.size → (∀ q, q ≠ a → H1[q]? = H[q]?) → (∀ x ∈ locs1, x ∈ locs ∨ x.base = a) → W p l e R s m args below meth c H1 locs1 cells slots Z (F0 m (pc + 3) ls rest)) : W p l e R s m args below meth c H locs cells slots Z (F0 m pc ls (.int n :: .int 0 :: .ref a :: .int 0 :: .ref a0 :: rest)) := by
  have nn : ∀ z : Int32, ¬ z < 0 → z.toInt = (z.toNatClampNeg : Int) := by
    intro z hz
    have hz0 : (0 : Int) ≤ z.toInt := by
      have := Int32.not_lt.mp hz
      simpa using Int32.le_iff_toInt_le.mp this
    show z.toInt = ((z.toInt.toNat : Nat) : Int)
    omega
  intro T hT X
  obtain ⟨-, k0, hk0, cm0, hkk0⟩ := hA n0 (fun j => mk (f j))
  obtain ⟨-, k1, hk1, cm1, hkk1⟩ := hA n1 (fun j => mk (g j))
  have z0 : (0 : Int32).toNatClampNeg = 0 := rfl
  obtain ⟨vm', X', step⟩ := X.arraycopy hexec hown hlink hnat hstat hini (src := a0) (dst := a) (cs := arrV c0 n0 (fun j => mk (f j))) (cd := arrV c0 n1 (fun j => mk (g j))) (srcPos := 0) (destPos := 0) (n := n) (by rw [hT]; exact hc0) (by rw [hT]; exact hc1)
    (fun _ h => by cases h) (fun _ h => by cases h) (fun h => by cases h) (fun h => by cases h) hk0 hk1 hkk0 hkk1 (by simp [hprim]) (by decide) (by decide) h3
    (by rw [nn n h3, arrV_size]; simp; omega)
    (by rw [nn n h3, arrV_size]; simp; omega)
    (fun vm₁ _ i hi => by
      have e : (arrV c0 n0 (fun j => mk (f j))).slots.getD ((0 : Int32).toNatClampNeg + i) .null = mk (f (0 + i)) := by
        rw [Array.getD_eq_getD_getElem?, z0, arrV_read _ _ (by omega)]
        rfl
      refine ⟨?_, ?_⟩
      · rw [e]
        exact hmk _
      · rw [e]
        have := hmr (f (0 + i))
        revert this
        cases mk (f (0 + i)) <;> intro this <;> first | trivial | exact this.elim)
    (g := F0 m pc ls (.int n :: .int 0 :: .ref a :: .int 0 :: .ref a0 :: rest)) rfl (by rw [hml]) (rest := rest) rfl (by rw [hb]; exact hdg) hframes (by show 2 * 0 + _ + _ ≤ _; omega)
  have e1 : copied (arrV c0 n0 (fun j => mk (f j))) (arrV c0 n1 (fun j => mk (g j))) 0 0 n = arrV c0 n1 (fun j => mk (va_cpy f g 0 0 n.toNatClampNeg j)) := va_copied mk c0 c0 f g (sp := 0) (by omega)
  rw [e1] at X' step
  have hl : a < H.size := (Array.getElem?_eq_some_iff.mp hc1).1
  have hheap : ((T.setVm vm').setCell a (arrV c0 n1 (fun j => mk (va_cpy f g 0 0 n.toNatClampNeg j)))).heap = H.setIfInBounds a (arrV c0 n1 (fun j => mk (va_cpy f g 0 0 n.toNatClampNeg j))) := by rw [← hT]; rfl
  have oq : ∀ q : Nat, q ≠ a → (H.setIfInBounds a (arrV c0 n1 (fun j => mk (va_cpy f g 0 0 n.toNatClampNeg j))))[q]? = H[q]? := fun q hq => by simp [Array.getElem?_setIfInBounds, Ne.symm hq]
  obtain ⟨t, a1, b1⟩ := kk _ _ (by simp [Array.getElem?_setIfInBounds, hl]) (by simp) oq (fun x hx => by
      rcases List.mem_append.mp hx with h | h
      · exact Or.inl h
      · obtain ⟨z, -, hz⟩ := List.mem_map.mp h
        rw [← hz]
        exact Or.inr rfl) _ hheap X'
  exact ⟨t, step t a1, b1⟩
end SpecR
