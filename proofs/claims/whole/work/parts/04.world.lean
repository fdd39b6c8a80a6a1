def MI : Type := String × MethodName × ByteArray × Nat × Option FieldType × List (Nat × Nat × Nat × Nat)
def MI.own (M : MI) : String := M.1
def MI.y (M : MI) : MethodName := M.2.1
def MI.cc (M : MI) : ByteArray := M.2.2.1
def MI.mL (M : MI) : Nat := M.2.2.2.1
def MI.rt (M : MI) : Option FieldType := M.2.2.2.2.1
def MI.hh (M : MI) : List (Nat × Nat × Nat × Nat) := M.2.2.2.2.2
/-- the first free cell at the law's start; class numbers; array classes; where Strings and their bytes lie; the script -/
def Gp : Type := Nat × va_G × (Nat → ClassId) × (Nat → Nat) × (Nat → Nat) × Nat × Nat × (Nat → Int32)
def Gp.N (g : Gp) : Nat := g.1
def Gp.D (g : Gp) : va_G := g.2.1
def Gp.cy (g : Gp) : Nat → ClassId := g.2.2.1
def Gp.aK (g : Gp) : Nat → Nat := g.2.2.2.1
def Gp.aV (g : Gp) : Nat → Nat := g.2.2.2.2.1
def Gp.b (g : Gp) : Nat := g.2.2.2.2.2.1
def Gp.L (g : Gp) : Nat := g.2.2.2.2.2.2.1
def Gp.xs (g : Gp) : Nat → Int32 := g.2.2.2.2.2.2.2
def aF (g : Gp) : Nat → Prop := fun q => g.N ≤ q
def rV (ad : Nat → Nat → Nat) : Option (Nat × Nat) → Value
  | none => .null
  | some r => .ref (ad r.1 r.2)
def toV (ad : Nat → Nat → Nat) : AV → Value
  | .inl a => .int (i32 a)
  | .inr (.inl a) => .long (i64 a)
  | .inr (.inr (.inl r)) => rV ad r
  | .inr (.inr (.inr x)) => .double x
def fldV (ad : Nat → Nat → Nat) (σ : Hp) (t i k : Nat) : Value := if fk t k = true then rV ad (σ.F t i k) else .int (i32 (σ.I t i (k : Int)))
def arE (ad : Nat → Nat → Nat) (σ : Hp) (t i : Nat) : (Nat → Int32) ⊕ (Nat → Int64) ⊕ (Nat → UInt32) ⊕ (Nat → UInt64) ⊕ (Nat → Option Nat) :=
  if tk t = 1 then .inr (.inl fun k => i64 (σ.J t i (k : Int))) else if tk t = 4 then .inr (.inr (.inr (.inl fun k => σ.B t i (k : Int)))) else if 5 ≤ tk t then .inr (.inr (.inr (.inr fun k => (σ.P t i (k : Int)).map (ad (el t))))) else .inl (fun k => i32 (σ.I t i (k : Int)))
def cE (g : Gp) (ad : Nat → Nat → Nat) (σ : Hp) (t i : Nat) : va_E := if t < 12 then .inr (t, (List.range (nf t)).map (fldV ad σ t i)) else .inl (g.cy (tk t), tln t, arE ad σ t i)
/-- the heap H holds σ, by the addresses ad -/
def rep (g : Gp) (ad : Nat → Nat → Nat) (σ : Hp) (H : Heap) : Prop :=
  (∀ t i, σ.al t i = true → g.N ≤ ad t i ∧ t < 90 ∧ va_at g.D CL (ad t i, cE g ad σ t i) H) ∧
  (∀ t i t' i', σ.al t i = true → σ.al t' i' = true → ad t i = ad t' i' → t = t' ∧ i = i') ∧
  (∀ t i k r, σ.al t i = true → σ.F t i k = some r → σ.al r.1 r.2 = true) ∧
  (∀ t i k j, σ.al t i = true → σ.P t i k = some j → σ.al (el t) j = true) ∧
  ((∀ q, ad 99 q = q) ∧ (∀ i, ad 98 i = g.aK i) ∧ (∀ i, ad 97 i = g.aV i) ∧ ∀ i, ad 96 i = g.b) ∧
  σ.sl = g.L ∧ ∀ k : Nat, k < g.L → i32 (σ.I 96 0 (k : Int)) = g.xs k
/-- a value's reference is there -/
def okV (σ : Hp) : AV → Prop
  | .inr (.inr (.inl (some r))) => σ.al r.1 r.2 = true ∨ 90 ≤ r.1
  | _ => True
def okL (σ : Hp) (ls : List (Option AV)) : Prop := ∀ v, some v ∈ ls → okV σ v
def okS (σ : Hp) (st : List AV) : Prop := ∀ v ∈ st, okV σ v
/-- what was there is still there, at the same place -/
def ext (ad : Nat → Nat → Nat) (σ : Hp) (ad' : Nat → Nat → Nat) (σ' : Hp) : Prop := (∀ t i, σ.al t i = true → σ'.al t i = true ∧ ad' t i = ad t i) ∧ ∀ t i, 90 ≤ t → ad' t i = ad t i
def lvs (ad : Nat → Nat → Nat) (nL : Nat) (lsA : Array Slot) (ls : List (Option AV)) : Prop := lsA.size = nL ∧ lv_wf lsA ∧ ∀ (i : Nat) (v : AV), ls[i]? = some (some v) → lsA[i]? = some (.val (toV ad v))
def nestW : Cond → Bool
  | .methodLinkNest .. => true
  | .castable .. => true
  | .declares _ => true
  | _ => false
def txtL : List String := ["pool", "security", "lender", "borrower", "holding", "borrow", "return", "recall", "pass", "price", "dividend", "day ", " loans ", "loan ", " of ", "the text would be too long", "no such length", "no such number", "an argument is out of its range", "the pool does not allow this now", "there is none", "the holding would be too great", "too few shares that are not on loan", "all holdings are 0", "no such index", "no shares are recalled", "no such price", "there are no lenders", "there is no change to undo", ";"]
def txt (i : Nat) : String := txtL.getD i ""
def bytL : List (List Int) := [[112, 111, 111, 108], [115, 101, 99, 117, 114, 105, 116, 121], [108, 101, 110, 100, 101, 114], [98, 111, 114, 114, 111, 119, 101, 114], [104, 111, 108, 100, 105, 110, 103], [98, 111, 114, 114, 111, 119], [114, 101, 116, 117, 114, 110], [114, 101, 99, 97, 108, 108], [112, 97, 115, 115], [112, 114, 105, 99, 101], [100, 105, 118, 105, 100, 101, 110, 100], [100, 97, 121, 32], [32, 108, 111, 97, 110, 115, 32], [108, 111, 97, 110, 32], [32, 111, 102, 32], [116, 104, 101, 32, 116, 101, 120, 116, 32, 119, 111, 117, 108, 100, 32, 98, 101, 32, 116, 111, 111, 32, 108, 111, 110, 103], [110, 111, 32, 115, 117, 99, 104, 32, 108, 101, 110, 103, 116, 104], [110, 111, 32, 115, 117, 99, 104, 32, 110, 117, 109, 98, 101, 114], [97, 110, 32, 97, 114, 103, 117, 109, 101, 110, 116, 32, 105, 115, 32, 111, 117, 116, 32, 111, 102, 32, 105, 116, 115, 32, 114, 97, 110, 103, 101], [116, 104, 101, 32, 112, 111, 111, 108, 32, 100, 111, 101, 115, 32, 110, 111, 116, 32, 97, 108, 108, 111, 119, 32, 116, 104, 105, 115, 32, 110, 111, 119], [116, 104, 101, 114, 101, 32, 105, 115, 32, 110, 111, 110, 101], [116, 104, 101, 32, 104, 111, 108, 100, 105, 110, 103, 32, 119, 111, 117, 108, 100, 32, 98, 101, 32, 116, 111, 111, 32, 103, 114, 101, 97, 116], [116, 111, 111, 32, 102, 101, 119, 32, 115, 104, 97, 114, 101, 115, 32, 116, 104, 97, 116, 32, 97, 114, 101, 32, 110, 111, 116, 32, 111, 110, 32, 108, 111, 97, 110], [97, 108, 108, 32, 104, 111, 108, 100, 105, 110, 103, 115, 32, 97, 114, 101, 32, 48], [110, 111, 32, 115, 117, 99, 104, 32, 105, 110, 100, 101, 120], [110, 111, 32, 115, 104, 97, 114, 101, 115, 32, 97, 114, 101, 32, 114, 101, 99, 97, 108, 108, 101, 100], [110, 111, 32, 115, 117, 99, 104, 32, 112, 114, 105, 99, 101], [116, 104, 101, 114, 101, 32, 97, 114, 101, 32, 110, 111, 32, 108, 101, 110, 100, 101, 114, 115], [116, 104, 101, 114, 101, 32, 105, 115, 32, 110, 111, 32, 99, 104, 97, 110, 103, 101, 32, 116, 111, 32, 117, 110, 100, 111], [59]]
def slen (i : Nat) : Nat := (bytL.getD i []).length
def schr (i : Nat) (k : Int) : Int := (bytL.getD i []).getD k.toNat 0
def SR : List (String × Nat × Nat) := [("LendingPool$PoolReader", 68, 0), ("LendingPool$PoolReader", 74, 1), ("LendingPool$PoolReader", 76, 2), ("LendingPool$PoolReader", 78, 3), ("LendingPool$PoolReader", 80, 4), ("LendingPool$OrderReader", 57, 5), ("LendingPool$OrderReader", 63, 6), ("LendingPool$OrderReader", 65, 7), ("LendingPool$OrderReader", 67, 8), ("LendingPool$OrderReader", 69, 9), ("LendingPool$OrderReader", 71, 10), ("LendingPool$Report", 19, 11), ("LendingPool$Report", 35, 12), ("LendingPool$Report", 49, 13), ("LendingPool$Report", 56, 14), ("LendingPool", 74, 15), ("LendingPool", 93, 16), ("LendingPool", 414, 17), ("LendingPool", 416, 18), ("LendingPool", 418, 19), ("LendingPool", 420, 20), ("LendingPool", 163, 21), ("LendingPool", 171, 22), ("LendingPool", 227, 23), ("LendingPool", 310, 24), ("LendingPool", 356, 25), ("LendingPool", 364, 26), ("LendingPool", 380, 27), ("LendingPool", 409, 28), ("LendingPoolModel", 155, 0), ("LendingPoolModel", 161, 1), ("LendingPoolModel", 163, 2), ("LendingPoolModel", 165, 3), ("LendingPoolModel", 167, 4), ("LendingPoolModel", 188, 29), ("LendingPoolModel", 364, 5), ("LendingPoolModel", 366, 6), ("LendingPoolModel", 368, 7), ("LendingPoolModel", 370, 8), ("LendingPoolModel", 371, 9), ("LendingPoolModel", 373, 10), ("LendingPoolModel", 445, 11), ("LendingPoolModel", 451, 12), ("LendingPoolModel", 453, 13), ("LendingPoolModel", 455, 14)]
def NC : List (String × String) := [("java/lang/ArithmeticException", "java/lang/IllegalArgumentException"), ("java/lang/ArithmeticException", "java/lang/IllegalStateException"), ("java/lang/ArithmeticException", "java/lang/IndexOutOfBoundsException"), ("java/lang/ArithmeticException", "java/util/NoSuchElementException"), ("java/lang/IllegalArgumentException", "java/lang/ArithmeticException"), ("java/lang/IllegalArgumentException", "java/lang/IllegalStateException"), ("java/lang/IllegalArgumentException", "java/lang/IndexOutOfBoundsException"), ("java/lang/IllegalArgumentException", "java/util/NoSuchElementException"), ("java/lang/IllegalStateException", "java/lang/ArithmeticException"), ("java/lang/IllegalStateException", "java/lang/IllegalArgumentException"), ("java/lang/IllegalStateException", "java/lang/IndexOutOfBoundsException"), ("java/lang/IllegalStateException", "java/util/NoSuchElementException"), ("java/lang/IndexOutOfBoundsException", "java/lang/ArithmeticException"), ("java/lang/IndexOutOfBoundsException", "java/lang/IllegalArgumentException"), ("java/lang/IndexOutOfBoundsException", "java/lang/IllegalStateException"), ("java/lang/IndexOutOfBoundsException", "java/util/NoSuchElementException"), ("java/util/NoSuchElementException", "java/lang/ArithmeticException"), ("java/util/NoSuchElementException", "java/lang/IllegalArgumentException"), ("java/util/NoSuchElementException", "java/lang/IllegalStateException"), ("java/util/NoSuchElementException", "java/lang/IndexOutOfBoundsException")]
def tyL (g : Gp) : List (ClassId × FieldType) := [(g.cy 0, .int), (g.cy 1, .long), (g.cy 2, .char), (g.cy 3, .byte), (g.cy 4, .double), (g.cy 5, .object "LendingPool$Pool"), (g.cy 6, .object "LendingPool$Loan")]
def strAt (g : Gp) (i : Nat) (U : State) : Prop := va_O "java/lang/String" (g.aK i) (aF g) U U.heap ∧ va_OF "java/lang/String" "coder" "B" (.int 0) (g.aK i) (aF g) U U.heap ∧ va_OF "java/lang/String" "value" "[B" (.ref (g.aV i)) (g.aK i) (aF g) U U.heap ∧ va_T .byte (g.aV i) (slen i) (fun j => .int (i32 (schr i (j : Int)))) (aF g) U U.heap
/-- what holds of every state of the run -/
def G (g : Gp) (U : State) : Prop :=
  (∀ w ∈ lw_tbl, (goodWord w || nestW w) = true → ∀ a, w.before a U = true) ∧
  (va_K g.D CL (tyL g) U ∧ va_AO "LendingPool$Pool" U ∧ va_AO "LendingPool$Loan" U) ∧
  ((∀ q ∈ SR, vk_R q.1 q.2.1 (txt q.2.2) (g.aK q.2.2) U) ∧ ∀ i, i < 30 → strAt g i U) ∧
  (∀ q ∈ NC, va_Nc q.1 q.2 U) ∧
  (vx_Zq Bundle.tN "UNASSIGNED_STACK" Bundle.steD (aF g) U U.heap ∧ vx_Zq Bundle.tN "SUPPRESSED_SENTINEL" Bundle.listD (aF g) U U.heap) ∧
  (va_Z "java/lang/String" "COMPACT_STRINGS" "Z" (.int 1) (aF g) U U.heap ∧ va_Zq "jdk/internal/util/Preconditions" "SIOOBE_FORMATTER" "Ljava/util/function/BiFunction;" (aF g) U U.heap) ∧
  va_X g.b g.L g.xs U U.heap ∧ g.b < g.N ∧ g.N ≤ U.heap.size
theorem nestW_warm {w : Cond} {s U : State} (hn : nestW w = true) (hW : s.WarmedH U.vm) (h : ∀ a, w.before a s = true) : ∀ a, w.before a U = true := by
  cases w with
  | methodLinkNest c i x h0 => exact fun a => va_Nw.use rfl (va_Nw.warmM hW (h #[]))
  | castable c t => exact fun a => va_Nw.use rfl (va_Nw.warmC hW (h #[]))
  | declares x => exact fun a => va_Nw.use rfl (va_Nw.warmD hW (h #[]))
  | _ => simp [nestW] at hn
theorem G.move {g : Gp} {s U : State} {locs : List Loc} (h : G g s) (hW : s.WarmedH U.vm) (hS : va_S (aF g) s.heap U.heap locs) : G g U := by
  obtain ⟨h1, ⟨h2, h3, h4⟩, ⟨h5, h6⟩, h7, ⟨h8, h9⟩, ⟨h10, h11⟩, h12, h13, h14⟩ := h
  have hq := hS.2.1
  refine ⟨fun w hw hg => ?_, ⟨h2.moved hW.alike, h3.moved hW.alike, h4.moved hW.alike⟩, ⟨fun q hq => (h5 q hq).warm hW, fun i hi => ?_⟩, fun q hq => (h7 q hq).moved hW.alike, ⟨(h8.moved hW.alike).kept hq, (h9.moved hW.alike).kept hq⟩, ⟨(h10.moved hW.alike).kept hq, (h11.moved hW.alike).kept hq⟩, (h12.moved hW.alike).kept (hq _ (Nat.lt_of_lt_of_le h13 h14) (Nat.not_le.mpr h13)), h13, Nat.le_trans h14 hS.1⟩
  · rcases Bool.or_eq_true_iff.mp hg with hg | hg
    · exact fun a => word_at hW (good_of_word hg) (h1 w hw (by rw [hg]; rfl) a)
    · exact nestW_warm hg hW (h1 w hw (by rw [hg]; simp))
  · obtain ⟨a, b, c, d⟩ := h6 i hi
    exact ⟨(a.moved hW.alike).kept hq, (b.moved hW.alike).kept hq, (c.moved hW.alike).kept hq, (d.moved hW.alike).kept hq⟩
theorem G.calling {g : Gp} {U : State} (h : G g U) (f : JFrame) (mk : MethodId) (a : Array Value) : G g (U.calling f mk a) := h.move (locs := []) (State.WarmedH.refl U) ⟨Nat.le_refl _, fun _ _ _ => rfl, fun _ h => nomatch h⟩
def Qcf (g : Gp) (ad0 : Nat → Nat → Nat) (σ0 : Hp) (Q : Res → Hp → Prop) : Array Value → State → Outcome → State → Prop := fun _ st o t => ∃ (v : Option AV) (ad : Nat → Nat → Nat) (σ : Hp), o = .returned (v.map (toV ad)) ∧ Q (.inl v) σ ∧ rep g ad σ t.heap ∧ ext ad0 σ0 ad σ ∧ (∀ x, v = some x → okV σ x) ∧ va_F (aF g) st t
def XCf (g : Gp) (ad0 : Nat → Nat → Nat) (σ0 : Hp) (Q : Res → Hp → Prop) : String → State → State → Prop := fun E st t => ∃ (ad : Nat → Nat → Nat) (σ : Hp), Q (.inr E) σ ∧ rep g ad σ t.heap ∧ ext ad0 σ0 ad σ ∧ va_F (aF g) st t
/-- what a body knows of its machine -/
def Fx (M : MI) (g : Gp) (p : Program) (l : Launch) (s : State) (m : MethodId) (meth : Method) (c : Code) : Prop :=
  p.tables.exec = Jvm.exec ∧ c.code = M.cc ∧ c.maxLocals = M.mL ∧ s.vm.findClass M.own = some m.cls ∧ meth.sig.returnType = M.rt ∧ meth.locks = false ∧ meth.name = M.y.name ∧ l.stackTraces = false ∧ c.exceptionTable.toList = tableOf M.hh ∧ G g s
def Pre (M : MI) (n b bs : Nat) (ls : List (Option AV)) (st : List AV) (σ : Hp) (g : Gp) (ad : Nat → Nat → Nat) (p : Program) (l : Launch) (R : Room) (s : State) (m : MethodId) (meth : Method) (c : Code) (H : Heap) (locs : List Loc) (cells slots : Nat) (lsA : Array Slot) (ad0 : Nat → Nat → Nat) (σ0 : Hp) : Prop :=
  Fx M g p l s m meth c ∧ (n ≤ R.frames ∧ 40 * n ≤ R.locals ∧ cells + b ≤ R.cells ∧ slots + bs ≤ R.slots) ∧ va_S (aF g) s.heap H locs ∧ rep g ad σ H ∧ (okL σ ls ∧ okS σ st) ∧ lvs ad M.mL lsA ls ∧ ext ad0 σ0 ad σ
/-- THE JUDGEMENT: the method M, at pc with these locals, this stack, this heap, ends as Q says; n frames, b cells and bs slots are left for it -/
def V (M : MI) (n b bs pc : Nat) (ls : List (Option AV)) (st : List AV) (σ : Hp) (Q : Res → Hp → Prop) : Prop :=
  ∀ (g : Gp) (ad : Nat → Nat → Nat) (p : Program) (l : Launch) (e : Env) (R : Room) (s : State) (m : MethodId) (args : Array Value) (below : List Frame) (meth : Method) (c : Code) (H : Heap) (locs : List Loc) (cells slots : Nat) (lsA : Array Slot) (ad0 : Nat → Nat → Nat) (σ0 : Hp),
    Pre M n b bs ls st σ g ad p l R s m meth c H locs cells slots lsA ad0 σ0 →
    W p l e R s m args below meth c H locs cells slots (vx_MQ below (Qcf g ad0 σ0 Q) (XCf g ad0 σ0 Q) args s R.cells R.slots (aF g)) (F0 m pc lsA (st.map (toV ad)))
def Ix (M : MI) (pc : Nat) (i : Instr) (len nx : Nat) : Prop := decode M.cc pc = .ok (i, len) ∧ pc + len = nx
def Ij (M : MI) (pc : Nat) (i : Int → Instr) (len nx tgt : Nat) : Prop := ∃ off : Int, decode M.cc pc = .ok (i off, len) ∧ pc + len = nx ∧ (pc : Int) + off = (tgt : Int)
