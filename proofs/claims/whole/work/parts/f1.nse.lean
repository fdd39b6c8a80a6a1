/-! The constructor of NoSuchElementException calls its super by the index 13: a throw of it, with no stack traces. The way goes as in the library's Stand.ctorThrowS (BundleOwnThrow); its first pass is laid by hand. -/
def nxB : ByteArray := ⟨#[0x2a, 0x2b, 0xb7, 0x00, 0x0d, 0xb1]⟩
theorem nx0 : decode nxB 0 = .ok (.aload_n 0, 1) := by decide +kernel
theorem nx1 : decode nxB 1 = .ok (.aload_n 1, 1) := by decide +kernel
theorem nx2 : decode nxB 2 = .ok (.invokespecial 13, 3) := by decide +kernel
theorem nx5 : decode nxB 5 = .ok (.return_, 1) := by decide +kernel
abbrev nxN : List String := ["java/lang/RuntimeException", "java/lang/Exception"]
/-- the words of the constructor and of those above it -/
def nxP : List Cond := Bundle.passSAtoms xNSE "java/lang/RuntimeException" 13 nxB ++ Bundle.chainSAtoms "java/lang/RuntimeException" ["java/lang/Exception"]
/-- the words of an object of the class -/
def nxO (own : String) (ic : Nat) : List Cond := [.instantiable xNSE 6, .methodLink own ic (Bundle.initS xNSE), .selects xNSE Bundle.tFill Bundle.tFill, .selects xNSE Bundle.tFill0 Bundle.tFill0, .isRef (.static Bundle.tN "SUPPRESSED_SENTINEL" Bundle.listD), .isRef (.static Bundle.tN "UNASSIGNED_STACK" Bundle.steD), .lays xNSE Bundle.tN "detailMessage" "Ljava/lang/String;", .lays xNSE Bundle.tN "suppressedExceptions" Bundle.listD, .lays xNSE Bundle.tN "stackTrace" Bundle.steD, .lays xNSE Bundle.tN "cause" "Ljava/lang/Throwable;", .lays xNSE Bundle.tN "backtrace" "Ljava/lang/Object;", .lays Bundle.tN Bundle.tN "backtrace" "Ljava/lang/Object;", .fieldLink Bundle.tN 198 Bundle.tN "backtrace" "Ljava/lang/Object;"]
def nxL (own : String) (ic : Nat) : List Cond := Bundle.throwableAtoms ++ Bundle.throwableSAtoms ++ nxP ++ nxO own ic
def nxW (own : String) (ic : Nat) : List Cond := (nxL own ic).filter vx_no
theorem nx_a : ∀ w ∈ nxW RX10 358, w ∈ lw_tbl ∧ (goodWord w || nestW w) = true := by decide +kernel
theorem nx_g : ∀ w ∈ nxW RX10 358, vx_ot w = true := by decide +kernel
section Nx
variable {p : Program} {l : Launch} {e : Env} {R : Room} {s : State} {m₀ : MethodId} {args : Array Value} {below : List Frame} {meth : Method} {c : Code} {W : State} {locs : List Loc} {cells slots : Nat}
set_option maxHeartbeats 1000000 in
theorem nx_ctor (X : Stand p l e R s m₀ args below meth c W locs cells slots) (hexec : p.tables.exec = Jvm.exec) (htr : e.platform.stackTraces = false) {own : String} {ic : Nat}
    (hown : s.vm.findClass own = some m₀.cls) (h : ∀ w ∈ nxL own ic, w.before args s = true)
    (hlocs : ∀ x ∈ locs, ∀ cell, s.heap[x.base]? = some cell → cell.vm.isStatics = false)
    {a : Addr} {cX : ClassId} {kX : Class} (hfoundX : s.vm.findClass xNSE = some cX) (hkX : s.vm.classes[cX]? = some kX) (hcell : W.heap[a]? = some (freshCell cX kX)) (hnew : s.heap.size ≤ a)
    {msg : Value} (hmsg : msg.isRef = true)
    {g : JFrame} (hg : g.method = m₀) (hsize : g.locals.size = c.maxLocals) (hlocked : g.locked = none) (hentered : g.entered = []) {rest : List Value} (hstack : g.stack = msg :: .ref a :: .ref a :: rest)
    (hd6 : decode c.code g.pc = .ok (.invokespecial ic, 3)) (hd9 : decode c.code (g.pc + 3) = .ok (.athrow, 1)) (hout : ∀ x ∈ c.exceptionTable.toList, covers x (g.pc + 3) = false)
    (hRframes : 5 < R.frames) (hRlocals : 2 * g.monitorRoom + ((Value.ref a :: rest).map fun v => v.category).sum + 81 ≤ R.locals) (hlocks : meth.locks = false) :
    ∃ U : State, Steps p.tables e below (W.setTop g) U ∧ U.status = .running ∧ Ended U below (.threw a) ∧ s.WarmedH U.vm ∧ s.sameButNew ({ U with vm := s.vm } : State) locs cells slots ∧ ∃ ce, U.heap[a]? = some ce ∧ ce.cls = cX ∧ ce.vm = .none := by
  have own1 : e.platform.frameOwnsMonitors = true := by rw [X.admits.platform]
  have fin1 : e.platform.finalization = false := by rw [X.admits.platform]
  have acc1 : e.platform.magicAccessors = ({} : Platform).magicAccessors := by rw [X.admits.platform]
  have hfit : Bundle.fit xNSE = true := xf_NSE
  have hfits : ∀ n ∈ nxN, Bundle.fit n = true := by decide +kernel
  have sub1 : ∀ w ∈ Bundle.throwableAtoms, w.before args s = true := fun w hw => h w (by simp [nxL, nxO, hw])
  have sub2 : ∀ w ∈ Bundle.throwableSAtoms, w.before args s = true := fun w hw => h w (by simp [nxL, nxO, hw])
  have sub3 : ∀ w ∈ nxP, w.before args s = true := fun w hw => h w (by simp [nxL, nxO, hw])
  have it : ∀ w, w ∈ nxL own ic → w.holds args s none s [] = true := fun w hw => h w hw
  obtain ⟨T, Z0, L, -, Y⟩ := ThrowableC.of_atoms (args := args) own1 fin1 acc1 sub1
  obtain ⟨Z, M, LZ, LM, topN⟩ := Init0T.ofS_atoms (args := args) acc1 L Y sub2
  obtain ⟨P1, L1, hP1, hs1⟩ := PassC.ofS_atoms (args := args) (s := s) acc1 (X := xNSE) (Y := "java/lang/RuntimeException") (Bundle.fit_spec hfit).1 (Bundle.fit_spec (hfits _ List.mem_cons_self)).2 nx0 nx1 nx2 nx5 (fun w hw => sub3 w (List.mem_append_left _ hw))
  obtain ⟨P2, Pr, hlen2, L2, hL2, hP2, hl3, hl4⟩ := Bundle.chainS (args := args) acc1 topN ["java/lang/Exception"] "java/lang/RuntimeException" (hfits _ List.mem_cons_self) (fun n hn => hfits n (List.mem_cons_of_mem _ hn)) (fun w hw => sub3 w (List.mem_append_right _ hw))
  obtain ⟨Ps, hPs⟩ : ∃ Ps, Ps = P2 :: Pr := ⟨_, rfl⟩
  have hlen : Ps.length = 2 := by
    rw [hPs, List.length_cons, hlen2]
    rfl
  have hL : ∀ P, P ∈ Ps → P.LinksS e.platform s := fun P hP => by
    rw [hPs] at hP
    rcases List.mem_cons.mp hP with rfl | hP
    · exact L2
    · exact hL2 P hP
  have hl1 : P1.sup = firstOf (Z.m T.toThrowableT) (Ps.map (·.toPassT)) := by
    rw [hPs]
    exact Option.some.inj (hs1.symm.trans hP2)
  have hl2 : PassesOn (Z.m T.toThrowableT) (Ps.map (·.toPassT)) := by
    rw [hPs]
    exact ⟨hl3, hl4⟩
  have hfd : s.vm.findClass xNSE = some P1.m.cls := findClass_of_methodNamed hP1
  cases Option.some.inj (hfoundX.symm.trans hfd)
  obtain ⟨c1, kX', hc1, hk, hord, -, -, -⟩ := Cond.instantiable_spec (it (.instantiable xNSE 6) (by simp [nxL, nxO]))
  cases Option.some.inj (hc1.symm.trans hfd)
  cases Option.some.inj (hkX.symm.trans hk)
  have sel0 : selectMethod e.platform s.vm P1.m.cls T.fill0 = .method T.fill0 := by
    obtain ⟨c2, r2, m2, q1, q2, q3, q4, -⟩ := Cond.selects_spec (it (.selects xNSE Bundle.tFill0 Bundle.tFill0) (by simp [nxL, nxO]))
    cases Option.some.inj (q1.symm.trans hfd)
    cases Option.some.inj (q2.symm.trans (State.methodFound?_of_named Y.fill0 (by decide)))
    cases Option.some.inj (q3.symm.trans Y.fill0)
    rw [Launch.admits_selectMethod X.admits]
    exact q4
  have sel1 : selectMethod e.platform s.vm P1.m.cls T.fill = .method T.fill := by
    obtain ⟨c2, r2, m2, q1, q2, q3, q4, -⟩ := Cond.selects_spec (it (.selects xNSE Bundle.tFill Bundle.tFill) (by simp [nxL, nxO]))
    cases Option.some.inj (q1.symm.trans hfd)
    cases Option.some.inj (q2.symm.trans (State.methodFound?_of_named Y.fill (by decide)))
    cases Option.some.inj (q3.symm.trans Y.fill)
    rw [Launch.admits_selectMethod X.admits]
    exact q4
  obtain ⟨sc0, hsc0, hst⟩ := Y.statics
  obtain ⟨u0, hu0⟩ := Cond.staticRefV Y.unassigned L.unassignedStatic L.statics hsc0 hst (it (.isRef (.static Bundle.tN "UNASSIGNED_STACK" Bundle.steD)) (by simp [nxL, nxO]))
  obtain ⟨v0, hv0⟩ := Cond.staticRefV Y.sentinel L.sentinelStatic L.statics hsc0 hst (it (.isRef (.static Bundle.tN "SUPPRESSED_SENTINEL" Bundle.listD)) (by simp [nxL, nxO]))
  obtain ⟨ciB, iB, fB, b1, b2, b3, b4, -, b5, b6, b7⟩ := Cond.ownField (t := .object "java/lang/Object") Y.found L.cls (by decide +kernel) (it (.fieldLink Bundle.tN 198 Bundle.tN "backtrace" "Ljava/lang/Object;") (by simp [nxL, nxO])) (it (.lays Bundle.tN Bundle.tN "backtrace" "Ljava/lang/Object;") (by simp [nxL, nxO])) e.platform acc1
  obtain ⟨sc1, hsc1, esc, -, keep⟩ := X.same.2.2.2.2.2 T.aS sc0 hsc0
  have hsc2 : W.heap[T.aS]? = some sc1 := hsc1
  have away : ∀ i, (⟨T.aS, i⟩ : Loc) ∉ locs := fun i hm => by
    have z := hlocs _ hm sc0 hsc0
    rw [hst] at z
    cases z
  have known : sc1.vm ≠ .unknown := by
    rw [esc]
    intro hu
    rw [show sc0.vm = .unknown from hu] at hst
    cases hst
  have apart : T.aS ≠ a := Nat.ne_of_lt (Nat.lt_of_lt_of_le (Array.getElem?_eq_some_iff.mp hsc0).1 hnew)
  obtain ⟨iM, fM⟩ := Y.msg
  obtain ⟨tC, dC, eC, nC⟩ := Cond.laysAt hfd hk Y.cause (it (.lays xNSE Bundle.tN "cause" "Ljava/lang/Throwable;") (by simp [nxL, nxO]))
  obtain ⟨tS, dS, eS, nS⟩ := Cond.laysAt hfd hk Y.stack (it (.lays xNSE Bundle.tN "stackTrace" Bundle.steD) (by simp [nxL, nxO]))
  obtain ⟨tP, dP, eP, nP⟩ := Cond.laysAt hfd hk Y.supp (it (.lays xNSE Bundle.tN "suppressedExceptions" Bundle.listD) (by simp [nxL, nxO]))
  obtain ⟨tM, dM, eM, nM⟩ := Cond.laysAt hfd hk fM (it (.lays xNSE Bundle.tN "detailMessage" "Ljava/lang/String;") (by simp [nxL, nxO]))
  obtain ⟨tB, dB, eB, nB⟩ := Cond.laysAt hfd hk b7 (it (.lays xNSE Bundle.tN "backtrace" "Ljava/lang/Object;") (by simp [nxL, nxO]))
  have aC := Cond.laysApart eB eC nB nC (by rw [b5, Y.causeName]; decide)
  have aS := Cond.laysApart eB eS nB nS (by rw [b5, Y.stackName]; decide)
  have aP := Cond.laysApart eB eP nB nP (by rw [b5, Y.suppName]; decide)
  have skip1 : SkipFacts T e.platform s (fun u => u) u0 ((preparedCellV T.toThrowableT (freshCell P1.m.cls kX) a u0 v0).withEntry W.cur) := by
    refine ⟨{ ci198 := ciB, i198 := iB, fBack := fB }, ⟨b1, b2, b3, b4⟩, ?_, fun _ _ => rfl⟩
    have z := fresh_default (c := P1.m.cls) tB
    rw [b6] at z
    simpa [preparedCellV, Cell.setSlot, Cell.withEntry, Array.getElem?_setIfInBounds, aC, aS, aP, aC.symm, aS.symm, aP.symm, defaultValue] using z
  obtain ⟨tm, mC, cdC, kC, vm1, hnC, -, -, -, -, -, -, -, hW1, st1⟩ := Steps.initColdS (tb := p.tables) (e := e) (below := below) (s := s) (U := W) X.here hexec X.warmed acc1 hown (t := Bundle.initS xNSE) rfl rfl (Bundle.fit_spec hfit).2
    (it (.methodLink own ic (Bundle.initS xNSE)) (by simp [nxL, nxO])) (sub3 (.instanceMethod (Bundle.initS xNSE)) (by simp [nxP, Bundle.passSAtoms])) (bytes := nxB) (maxL := 2) (sub3 (.code (Bundle.initS xNSE) nxB 2 none) (by simp [nxP, Bundle.passSAtoms]))
    (f := g) hg (a := a) (msg := msg) (rest := .ref a :: rest) hstack hd6
  cases Option.some.inj (hnC.symm.trans hP1)
  obtain ⟨vm2, X2, st2⟩ := (X.noted hW1).ctorMessageOffV hexec (g := { g with stack := .ref a :: rest }) hg hsize T L Z LZ M LM (P1 :: Ps)
    (fun P hP => by
      rcases List.mem_cons.mp hP with rfl | hP
      · exact L1
      · exact hL P hP) ⟨hl1, hl2⟩ (u0 := u0) (sen := v0) (self := a) hmsg (cell := freshCell P1.m.cls kX) (cellS := sc1)
    hcell (fun _ => by simp) (by simp) rfl rfl sel0 sel1 hsc2 apart known (by rw [keep _ (away _)]; exact hu0) (by rw [keep _ (away _)]; exact hv0)
    (Takes.of_laid hk hord tC (by rw [Y.causeType]; rfl)) (Takes.of_laid hk hord tS (by rw [Y.stackType]; exact fits_refV_array _ u0)) (Takes.of_laid hk hord tP (by rw [Y.suppType]; exact fits_refV_object _ v0))
    (Takes.of_laid hk hord tM (by rw [Y.msgType]; exact fits_refV_object _ ⟨msg, hmsg⟩)) Y.objLocals skip1 htr [] hd6
    (by simp only [List.length_cons, hlen]; exact hRframes) (by simp only [List.length_cons, hlen]; exact hRlocals)
  obtain ⟨walk1, run1, end1, warm1, same1⟩ := X2.athrowLeaves hexec (g := { g with stack := .ref a :: rest, pc := g.pc + 3 }) hg hlocked hentered hout (a := a) (rest := rest) rfl hd9
  have lt1 : a < ((W.setVm vm1).setVm vm2).heap.size := (Array.getElem?_eq_some_iff.mp hcell).1
  have at1 := heapAt_setCell_self (s := (W.setVm vm1).setVm vm2) (plainBareV T.toThrowableT (freshCell P1.m.cls kX) a u0 v0 msg) lt1
  refine ⟨_, st1 _ (fun acts => ?_), run1, end1, warm1, same1.weaken (fun y hy hlt => ?_) (Nat.le_refl _) (Nat.le_refl _), _, at1, rfl, rfl⟩
  · rw [doInvoke_state]
    exact st2 _ walk1
  · rcases List.mem_append.mp hy with h1 | h1
    · exact h1
    · have hb : y.base = a := by
        simp only [List.mem_cons, List.not_mem_nil, or_false] at h1
        rcases h1 with rfl | rfl | rfl | rfl | rfl <;> rfl
      rw [hb] at hlt
      exact absurd hlt (Nat.not_lt.mpr hnew)
end Nx

