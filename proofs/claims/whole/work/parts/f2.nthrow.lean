/-! The law of this throw follows vx_throwSW of part 01, over nx_ctor. -/
section Nt
variable {p : Program} {l : Launch} {e : Env} {R : Room} {s : State} {m : MethodId} {args : Array Value} {below : List Frame} {meth : Method} {c : Code} {H : Heap} {locs : List Loc} {cells slots : Nat} {Q : State → Prop}
variable {mc ms : Nat} {free : Addr → Prop} {A0 A1 : Nat → Prop} {H0 : Heap} {a : Array Value} {ls : Array Slot} {st0 rest : List Value}
variable {Qc : Array Value → State → Outcome → State → Prop} {XC : String → State → State → Prop}
theorem vx_throwN {cc : ByteArray} {pc : Nat} (hexec : p.tables.exec = Jvm.exec) (hb : c.code = cc) (hl : l.stackTraces = false) {own text : String} {ik is ic mc ms sa : Nat} {A : Nat → Prop}
    (hown : s.vm.findClass own = some m.cls)
    (hk : (Cond.classLink own ik xNSE).before args s = true) (hini : (Cond.initialized xNSE).before args s = true) (hstr : vk_R own is text sa s) (hat : ∀ w ∈ nxW own ic, w.before args s = true)
    (hgood : ∀ w ∈ Cond.classLink own ik xNSE :: Cond.initialized xNSE :: nxW own ic, vx_ot w = true)
    (hU : vx_Zq Bundle.tN "UNASSIGNED_STACK" Bundle.steD A s s.heap) (hN : vx_Zq Bundle.tN "SUPPRESSED_SENTINEL" Bundle.listD A s s.heap) (hS : va_S A s.heap H locs) (hsize : ls.size = c.maxLocals)
    (d0 : decode cc pc = .ok (.new ik, 3)) (d3 : decode cc (pc + 3) = .ok (.dup, 1)) (d4 : decode cc (pc + 4) = .ok (.ldc_w is, 3)) (d7 : decode cc (pc + 7) = .ok (.invokespecial ic, 3)) (d10 : decode cc (pc + 10) = .ok (.athrow, 1))
    (hout : ∀ x ∈ c.exceptionTable.toList, covers x (pc + 10) = false)
    (hRframes : 5 < R.frames) (hRlocals : (rest.map fun v => v.category).sum + 82 ≤ R.locals) (hRcells : cells + 1 ≤ R.cells) (hRslots : slots + 6 ≤ R.slots) (hlocks : meth.locks = false)
    (hx : ∀ t : State, s.vm.Alike t.vm → H.size ≤ t.heap.size → (∀ q : Nat, q < H.size → t.heap[q]? = H[q]?) → XC xNSE s t)
    (hf : ∀ z ∈ locs, free z.base) (hc : cells + 1 ≤ mc) (hs : slots + 6 ≤ ms) :
    W p l e R s m args below meth c H locs cells slots (vx_MQ below Qc XC args s mc ms free) (F0 m pc ls rest) := by
  intro T hT X
  have htr : e.platform.stackTraces = false := (show e.platform.stackTraces = l.stackTraces by rw [X.admits.platform]).trans hl
  have Y := vx_rebase X (R' := { frames := R.frames, locals := R.locals, cells := 1, slots := 6 }) (Nat.le_refl _) (Nat.le_refl _) hRcells hRslots
  obtain ⟨s', hA⟩ : ∃ z, z = (T.setVm s.vm).setFrames (.invoking m args :: below) := ⟨_, rfl⟩
  rw [← hA] at Y
  have hvm : s'.vm = s.vm := by rw [hA]; rfl
  have hhp : s'.heap = H := by rw [hA]; exact hT
  have hW0 : s.WarmedH s'.vm := by rw [hvm]; exact State.WarmedH.refl s
  have hat' : ∀ w ∈ nxW own ic, w.before args s' = true := fun w hw => vx_ot_at hW0 hvm.symm (hgood w (List.mem_cons_of_mem _ (List.mem_cons_of_mem _ hw))) (hat w hw)
  have hk' : (Cond.classLink own ik xNSE).before args s' = true := vx_ot_at hW0 hvm.symm (hgood _ List.mem_cons_self) hk
  have hini' : (Cond.initialized xNSE).before args s' = true := vx_ot_at hW0 hvm.symm (hgood _ (List.mem_cons_of_mem _ List.mem_cons_self)) hini
  have hU' : vx_Zq Bundle.tN "UNASSIGNED_STACK" Bundle.steD A s' s'.heap := by rw [hhp]; exact vx_Zq.moved hW0.alike (hU.kept hS.2.1)
  have hN' : vx_Zq Bundle.tN "SUPPRESSED_SENTINEL" Bundle.listD A s' s'.heap := by rw [hhp]; exact vx_Zq.moved hW0.alike (hN.kept hS.2.1)
  have h : ∀ w ∈ nxL own ic, w.before args s' = true := vx_own (L := nxL own ic) hat' (vx_isRefq hU'.1) (vx_isRefq hN'.1) hU'.2.word hN'.2.word
  have hown' : s'.vm.findClass own = some m.cls := by rw [hvm]; exact hown
  have hins : (Cond.instantiable xNSE 6).before args s' = true := h _ (by simp [nxL, nxO])
  obtain ⟨vm₁, cX, kX, hfX, hkX, -, -, X₁, st1⟩ := Y.newCold hexec (own := own) (C := xNSE) (index := ik) (n := 6) hown' hk' hins hini'
    (g := F0 m pc ls rest) rfl (by rw [hb]; exact d0) (Nat.le_refl _) (Nat.le_refl _)
  generalize hT1 : (T.setVm vm₁).pushCell { cls := cX, slots := kX.instanceTypes.map defaultValue, vm := .none } = T1 at X₁ st1
  have hcat : (Value.ref T.heap.size).category = 1 := rfl
  have hcellA : T1.heap[T.heap.size]? = some (freshCell cX kX) := by rw [← hT1]; exact State.heap_pushCell_size _ _
  have d3' : decode c.code (pc + 3) = .ok (.dup, 1) := by rw [hb]; exact d3
  have d4' : decode c.code (pc + 4) = .ok (.ldc_w is, 3) := by rw [hb]; exact d4
  have hstr' : vk_R own is text sa s' := vk_R.warm hW0 hstr
  obtain ⟨U, hsteps, hrun, hend, hW, hsame, ce, hce, hcc, hcv⟩ := nx_ctor X₁ hexec htr (own := own) (ic := ic) hown' h (fun x hx => nomatch hx) hfX hkX hcellA (by rw [hhp, hT]; exact Nat.le_refl _) (msg := .ref sa) rfl
    (g := { method := m, pc := pc + 7, locals := ls, stack := .ref sa :: .ref T.heap.size :: .ref T.heap.size :: rest, locked := none }) rfl hsize rfl rfl (rest := rest) rfl
    (by rw [hb]; exact d7) (by rw [hb]; exact d10) hout hRframes (by simp only [List.map_cons, List.sum_cons, hcat]; omega) hlocks
  obtain ⟨f1, f2⟩ := vx_frame hsame
  rw [hhp] at f1 f2
  have hWs : s.WarmedH U.vm := State.WarmedH.trans hW0 hW
  have hcl : s.vm.findClass xNSE = some ce.cls := by
    rw [hcc, ← hvm]
    exact hfX
  have hall : s.sameButNew ({ U with vm := s.vm } : State) locs mc ms := by
    subst hA
    obtain ⟨e1, e2⟩ := hsame
    rw [State.setFrames_setFrames] at e1
    have h2 : (T.setVm s.vm).sameButNew ({ U with vm := s.vm } : State) [] (0 + 1) (0 + 6) := ⟨e1, e2⟩
    have h3 := X.same.trans h2
    rw [List.append_nil] at h3
    exact h3.mono hc hs
  refine ⟨U, ?_, .threw T.heap.size, hrun, hend, Or.inr ⟨T.heap.size, rfl, xNSE, ce, locs, hx U hWs.alike f1 (fun q hq => f2 q hq (fun z hz => nomatch hz)), hce, hcv, hcl, hWs, hall, hf⟩⟩
  refine st1 _ ?_
  show Steps p.tables e below (T1.setTop { method := m, pc := pc + 3, locals := ls, stack := .ref T.heap.size :: rest, locked := none }) _
  jvm_step X₁.here [X₁.here.top, hexec, d3', Value.category]
  exact X₁.ldcStringW hexec (own := own) (text := text) (index := is) (a := sa) hown' hstr'.1 hstr'.2
    (g := { method := m, pc := pc + 4, locals := ls, stack := .ref T.heap.size :: .ref T.heap.size :: rest, locked := none }) rfl d4' _ hsteps
end Nt
section Nv
variable {M M2 : MI} {n b bs n2 b2 bs2 pc nx : Nat} {ls : List (Option AV)} {st rest as : List AV} {σ : Hp} {Q Q2 : Res → Hp → Prop}
theorem V_throwN {ik is ic j n1 n2 n3 n4 n5 : Nat} (hM : M.hh = []) (d0 : Ix M pc (.new ik) 3 n1) (d1 : Ix M n1 .dup 1 n2) (d2 : Ix M n2 (.ldc_w is) 3 n3) (d3 : Ix M n3 (.invokespecial ic) 3 n4) (d4 : Ix M n4 .athrow 1 n5)
    (hk : Cond.classLink M.own ik xNSE ∈ lw_tbl) (hs : (M.own, is, j) ∈ SR) (hat : ∀ w ∈ nxW M.own ic, w ∈ lw_tbl ∧ (goodWord w || nestW w) = true) (hgood : ∀ w ∈ nxW M.own ic, vx_ot w = true)
    (hn : 6 ≤ n) (hcat : cats st ≤ 8) (hq : Q (.inr xNSE) σ) : V M n (b + 1) (bs + 6) pc ls st σ Q := by
  obtain ⟨d0, rfl⟩ := d0
  obtain ⟨d1, rfl⟩ := d1
  obtain ⟨d4, -⟩ := d4
  obtain ⟨d3, rfl⟩ := d3
  obtain ⟨d2, rfl⟩ := d2
  intro g ad p l e R s m args below meth c H locs cells slots lsA ad0 σ0 hp
  obtain ⟨F, rm, hS, hr, ⟨hol, hos⟩, hl, he⟩ := hp
  have hG := F.2.2.2.2.2.2.2.2.2
  have hx : ∀ t : State, s.vm.Alike t.vm → H.size ≤ t.heap.size → (∀ q : Nat, q < H.size → t.heap[q]? = H[q]?) → XCf g ad0 σ0 Q xNSE s t := fun t _ h1 h2 => by
    refine ⟨ad, σ, hq, ?_, he, ⟨Nat.le_trans hS.1 h1, fun q h3 h4 => (h2 q (Nat.lt_of_lt_of_le h3 hS.1)).trans (hS.2.1 q h3 h4)⟩⟩
    obtain ⟨r1, r2⟩ := hr
    exact ⟨fun t' i' h => ⟨(r1 t' i' h).1, (r1 t' i' h).2.1, (r1 t' i' h).2.2.kept (h2 _ (r1 t' i' h).2.2.lt)⟩, r2⟩
  have hgood2 : ∀ w ∈ Cond.classLink M.own ik xNSE :: Cond.initialized xNSE :: nxW M.own ic, vx_ot w = true := List.forall_mem_cons.mpr ⟨rfl, List.forall_mem_cons.mpr ⟨rfl, hgood⟩⟩
  have hrl : ((st.map (toV ad)).map fun v => v.category).sum + 82 ≤ R.locals := by
    rw [cats_sum]
    omega
  have hSR := hG.2.2.1.1 _ hs
  have hout : ∀ k : Nat, ∀ x ∈ c.exceptionTable.toList, covers x k = false := fun k x hx => by
    rw [F.2.2.2.2.2.2.2.2.1, hM] at hx
    cases hx
  exact vx_throwN F.1 F.2.1 F.2.2.2.2.2.2.2.1 F.2.2.2.1 (hG.1 _ hk rfl _) (hG.1 _ xi_NSE rfl _) hSR (fun w hw => hG.1 w (hat w hw).1 (hat w hw).2 args) hgood2 hG.2.2.2.2.1.1 hG.2.2.2.2.1.2 hS (by rw [F.2.2.1]; exact hl.1) d0 d1 d2 d3 d4 (hout _) (by omega) hrl (by omega) (by omega) F.2.2.2.2.2.1 hx hS.2.2 (by omega) (by omega)
end Nv

