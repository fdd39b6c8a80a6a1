/-! Decoding the law's entry: its bytes in blocks of 64, and each kind of instruction once for all. -/
theorem u1_ok {c : ByteArray} {p : Nat} {b : UInt8} (h : c.data.toList[p]? = some b) : (Jvm.ClassFile.Reader.u1 : Jvm.ClassFile.Decoder Nat) c p = .ok (b.toNat, p + 1) := by
  obtain ⟨h1, h2⟩ := List.getElem?_eq_some_iff.mp h
  have hs : p < c.size := by
    rw [Array.length_toList] at h1
    exact h1
  have hb : c[p] = b := by
    rw [← h2, Array.getElem_toList]
    rfl
  rw [← hb]
  show (dite (p < c.size) _ _ : Jvm.ClassFile.Decoder Nat) c p = _
  rw [dif_pos hs]
  rfl
theorem dec_of {c : ByteArray} {pc nx : Nat} {i : Instr} (h : (Jvm.ClassFile.Decoder.instr pc) c pc = .ok (i, nx)) : decode c pc = .ok (i, nx - pc) := by
  show Except.bind ((Jvm.ClassFile.Decoder.instr pc) c pc) _ = _
  rw [h]
  rfl
theorem dc_aload_n0 {c : ByteArray} {pc : Nat} (h : c.data.toList[pc]? = some 42) : decode c pc = .ok (.aload_n 0, 1) := by
  have e := u1_ok h
  have r : (Jvm.ClassFile.Decoder.instr pc) c pc = .ok (.aload_n 0, pc + 1) := by
    show Except.bind ((Jvm.ClassFile.Reader.u1 : Jvm.ClassFile.Decoder Nat) c pc) _ = _
    rw [e]
    rfl
  rw [dec_of r, Nat.add_sub_cancel_left]
theorem dc_aload_n1 {c : ByteArray} {pc : Nat} (h : c.data.toList[pc]? = some 43) : decode c pc = .ok (.aload_n 1, 1) := by
  have e := u1_ok h
  have r : (Jvm.ClassFile.Decoder.instr pc) c pc = .ok (.aload_n 1, pc + 1) := by
    show Except.bind ((Jvm.ClassFile.Reader.u1 : Jvm.ClassFile.Decoder Nat) c pc) _ = _
    rw [e]
    rfl
  rw [dec_of r, Nat.add_sub_cancel_left]
theorem dc_aload_n2 {c : ByteArray} {pc : Nat} (h : c.data.toList[pc]? = some 44) : decode c pc = .ok (.aload_n 2, 1) := by
  have e := u1_ok h
  have r : (Jvm.ClassFile.Decoder.instr pc) c pc = .ok (.aload_n 2, pc + 1) := by
    show Except.bind ((Jvm.ClassFile.Reader.u1 : Jvm.ClassFile.Decoder Nat) c pc) _ = _
    rw [e]
    rfl
  rw [dec_of r, Nat.add_sub_cancel_left]
theorem dc_aload_n3 {c : ByteArray} {pc : Nat} (h : c.data.toList[pc]? = some 45) : decode c pc = .ok (.aload_n 3, 1) := by
  have e := u1_ok h
  have r : (Jvm.ClassFile.Decoder.instr pc) c pc = .ok (.aload_n 3, pc + 1) := by
    show Except.bind ((Jvm.ClassFile.Reader.u1 : Jvm.ClassFile.Decoder Nat) c pc) _ = _
    rw [e]
    rfl
  rw [dec_of r, Nat.add_sub_cancel_left]
theorem dc_iconst0 {c : ByteArray} {pc : Nat} (h : c.data.toList[pc]? = some 3) : decode c pc = .ok (.iconst 0, 1) := by
  have e := u1_ok h
  have r : (Jvm.ClassFile.Decoder.instr pc) c pc = .ok (.iconst 0, pc + 1) := by
    show Except.bind ((Jvm.ClassFile.Reader.u1 : Jvm.ClassFile.Decoder Nat) c pc) _ = _
    rw [e]
    rfl
  rw [dec_of r, Nat.add_sub_cancel_left]
theorem dc_iconst1 {c : ByteArray} {pc : Nat} (h : c.data.toList[pc]? = some 4) : decode c pc = .ok (.iconst 1, 1) := by
  have e := u1_ok h
  have r : (Jvm.ClassFile.Decoder.instr pc) c pc = .ok (.iconst 1, pc + 1) := by
    show Except.bind ((Jvm.ClassFile.Reader.u1 : Jvm.ClassFile.Decoder Nat) c pc) _ = _
    rw [e]
    rfl
  rw [dec_of r, Nat.add_sub_cancel_left]
theorem dc_iconst2 {c : ByteArray} {pc : Nat} (h : c.data.toList[pc]? = some 5) : decode c pc = .ok (.iconst 2, 1) := by
  have e := u1_ok h
  have r : (Jvm.ClassFile.Decoder.instr pc) c pc = .ok (.iconst 2, pc + 1) := by
    show Except.bind ((Jvm.ClassFile.Reader.u1 : Jvm.ClassFile.Decoder Nat) c pc) _ = _
    rw [e]
    rfl
  rw [dec_of r, Nat.add_sub_cancel_left]
theorem dc_iconst3 {c : ByteArray} {pc : Nat} (h : c.data.toList[pc]? = some 6) : decode c pc = .ok (.iconst 3, 1) := by
  have e := u1_ok h
  have r : (Jvm.ClassFile.Decoder.instr pc) c pc = .ok (.iconst 3, pc + 1) := by
    show Except.bind ((Jvm.ClassFile.Reader.u1 : Jvm.ClassFile.Decoder Nat) c pc) _ = _
    rw [e]
    rfl
  rw [dec_of r, Nat.add_sub_cancel_left]
theorem dc_iconst4 {c : ByteArray} {pc : Nat} (h : c.data.toList[pc]? = some 7) : decode c pc = .ok (.iconst 4, 1) := by
  have e := u1_ok h
  have r : (Jvm.ClassFile.Decoder.instr pc) c pc = .ok (.iconst 4, pc + 1) := by
    show Except.bind ((Jvm.ClassFile.Reader.u1 : Jvm.ClassFile.Decoder Nat) c pc) _ = _
    rw [e]
    rfl
  rw [dec_of r, Nat.add_sub_cancel_left]
theorem dc_iconst5 {c : ByteArray} {pc : Nat} (h : c.data.toList[pc]? = some 8) : decode c pc = .ok (.iconst 5, 1) := by
  have e := u1_ok h
  have r : (Jvm.ClassFile.Decoder.instr pc) c pc = .ok (.iconst 5, pc + 1) := by
    show Except.bind ((Jvm.ClassFile.Reader.u1 : Jvm.ClassFile.Decoder Nat) c pc) _ = _
    rw [e]
    rfl
  rw [dec_of r, Nat.add_sub_cancel_left]
theorem dc_iaload {c : ByteArray} {pc : Nat} (h : c.data.toList[pc]? = some 46) : decode c pc = .ok (.iaload, 1) := by
  have e := u1_ok h
  have r : (Jvm.ClassFile.Decoder.instr pc) c pc = .ok (.iaload, pc + 1) := by
    show Except.bind ((Jvm.ClassFile.Reader.u1 : Jvm.ClassFile.Decoder Nat) c pc) _ = _
    rw [e]
    rfl
  rw [dec_of r, Nat.add_sub_cancel_left]
theorem dc_laload {c : ByteArray} {pc : Nat} (h : c.data.toList[pc]? = some 47) : decode c pc = .ok (.laload, 1) := by
  have e := u1_ok h
  have r : (Jvm.ClassFile.Decoder.instr pc) c pc = .ok (.laload, pc + 1) := by
    show Except.bind ((Jvm.ClassFile.Reader.u1 : Jvm.ClassFile.Decoder Nat) c pc) _ = _
    rw [e]
    rfl
  rw [dec_of r, Nat.add_sub_cancel_left]
theorem dc_daload {c : ByteArray} {pc : Nat} (h : c.data.toList[pc]? = some 49) : decode c pc = .ok (.daload, 1) := by
  have e := u1_ok h
  have r : (Jvm.ClassFile.Decoder.instr pc) c pc = .ok (.daload, pc + 1) := by
    show Except.bind ((Jvm.ClassFile.Reader.u1 : Jvm.ClassFile.Decoder Nat) c pc) _ = _
    rw [e]
    rfl
  rw [dec_of r, Nat.add_sub_cancel_left]
theorem dc_iadd {c : ByteArray} {pc : Nat} (h : c.data.toList[pc]? = some 96) : decode c pc = .ok (.iadd, 1) := by
  have e := u1_ok h
  have r : (Jvm.ClassFile.Decoder.instr pc) c pc = .ok (.iadd, pc + 1) := by
    show Except.bind ((Jvm.ClassFile.Reader.u1 : Jvm.ClassFile.Decoder Nat) c pc) _ = _
    rw [e]
    rfl
  rw [dec_of r, Nat.add_sub_cancel_left]
theorem dc_ireturn {c : ByteArray} {pc : Nat} (h : c.data.toList[pc]? = some 172) : decode c pc = .ok (.ireturn, 1) := by
  have e := u1_ok h
  have r : (Jvm.ClassFile.Decoder.instr pc) c pc = .ok (.ireturn, pc + 1) := by
    show Except.bind ((Jvm.ClassFile.Reader.u1 : Jvm.ClassFile.Decoder Nat) c pc) _ = _
    rw [e]
    rfl
  rw [dec_of r, Nat.add_sub_cancel_left]
theorem dc_lcmp {c : ByteArray} {pc : Nat} (h : c.data.toList[pc]? = some 148) : decode c pc = .ok (.lcmp, 1) := by
  have e := u1_ok h
  have r : (Jvm.ClassFile.Decoder.instr pc) c pc = .ok (.lcmp, pc + 1) := by
    show Except.bind ((Jvm.ClassFile.Reader.u1 : Jvm.ClassFile.Decoder Nat) c pc) _ = _
    rw [e]
    rfl
  rw [dec_of r, Nat.add_sub_cancel_left]
theorem dc_i2l {c : ByteArray} {pc : Nat} (h : c.data.toList[pc]? = some 133) : decode c pc = .ok (.i2l, 1) := by
  have e := u1_ok h
  have r : (Jvm.ClassFile.Decoder.instr pc) c pc = .ok (.i2l, pc + 1) := by
    show Except.bind ((Jvm.ClassFile.Reader.u1 : Jvm.ClassFile.Decoder Nat) c pc) _ = _
    rw [e]
    rfl
  rw [dec_of r, Nat.add_sub_cancel_left]
theorem dc_iload {c : ByteArray} {pc n : Nat} {a : UInt8} (h : c.data.toList[pc]? = some 21) (h1 : c.data.toList[pc + 1]? = some a) (hn : a.toNat = n) : decode c pc = .ok (.iload n, 2) := by
  subst hn
  have e := u1_ok h
  have e1 := u1_ok h1
  have r : (Jvm.ClassFile.Decoder.instr pc) c pc = .ok (.iload a.toNat, pc + 1 + 1) := by
    show Except.bind ((Jvm.ClassFile.Reader.u1 : Jvm.ClassFile.Decoder Nat) c pc) _ = _
    rw [e]
    show Except.bind ((Jvm.ClassFile.Reader.u1 : Jvm.ClassFile.Decoder Nat) c (pc + 1)) _ = _
    rw [e1]
    rfl
  rw [dec_of r, show pc + 1 + 1 - pc = 2 by omega]
theorem dc_lload {c : ByteArray} {pc n : Nat} {a : UInt8} (h : c.data.toList[pc]? = some 22) (h1 : c.data.toList[pc + 1]? = some a) (hn : a.toNat = n) : decode c pc = .ok (.lload n, 2) := by
  subst hn
  have e := u1_ok h
  have e1 := u1_ok h1
  have r : (Jvm.ClassFile.Decoder.instr pc) c pc = .ok (.lload a.toNat, pc + 1 + 1) := by
    show Except.bind ((Jvm.ClassFile.Reader.u1 : Jvm.ClassFile.Decoder Nat) c pc) _ = _
    rw [e]
    show Except.bind ((Jvm.ClassFile.Reader.u1 : Jvm.ClassFile.Decoder Nat) c (pc + 1)) _ = _
    rw [e1]
    rfl
  rw [dec_of r, show pc + 1 + 1 - pc = 2 by omega]
theorem dc_dload {c : ByteArray} {pc n : Nat} {a : UInt8} (h : c.data.toList[pc]? = some 24) (h1 : c.data.toList[pc + 1]? = some a) (hn : a.toNat = n) : decode c pc = .ok (.dload n, 2) := by
  subst hn
  have e := u1_ok h
  have e1 := u1_ok h1
  have r : (Jvm.ClassFile.Decoder.instr pc) c pc = .ok (.dload a.toNat, pc + 1 + 1) := by
    show Except.bind ((Jvm.ClassFile.Reader.u1 : Jvm.ClassFile.Decoder Nat) c pc) _ = _
    rw [e]
    show Except.bind ((Jvm.ClassFile.Reader.u1 : Jvm.ClassFile.Decoder Nat) c (pc + 1)) _ = _
    rw [e1]
    rfl
  rw [dec_of r, show pc + 1 + 1 - pc = 2 by omega]
theorem dc_aload {c : ByteArray} {pc n : Nat} {a : UInt8} (h : c.data.toList[pc]? = some 25) (h1 : c.data.toList[pc + 1]? = some a) (hn : a.toNat = n) : decode c pc = .ok (.aload n, 2) := by
  subst hn
  have e := u1_ok h
  have e1 := u1_ok h1
  have r : (Jvm.ClassFile.Decoder.instr pc) c pc = .ok (.aload a.toNat, pc + 1 + 1) := by
    show Except.bind ((Jvm.ClassFile.Reader.u1 : Jvm.ClassFile.Decoder Nat) c pc) _ = _
    rw [e]
    show Except.bind ((Jvm.ClassFile.Reader.u1 : Jvm.ClassFile.Decoder Nat) c (pc + 1)) _ = _
    rw [e1]
    rfl
  rw [dec_of r, show pc + 1 + 1 - pc = 2 by omega]
theorem dc_istore {c : ByteArray} {pc n : Nat} {a : UInt8} (h : c.data.toList[pc]? = some 54) (h1 : c.data.toList[pc + 1]? = some a) (hn : a.toNat = n) : decode c pc = .ok (.istore n, 2) := by
  subst hn
  have e := u1_ok h
  have e1 := u1_ok h1
  have r : (Jvm.ClassFile.Decoder.instr pc) c pc = .ok (.istore a.toNat, pc + 1 + 1) := by
    show Except.bind ((Jvm.ClassFile.Reader.u1 : Jvm.ClassFile.Decoder Nat) c pc) _ = _
    rw [e]
    show Except.bind ((Jvm.ClassFile.Reader.u1 : Jvm.ClassFile.Decoder Nat) c (pc + 1)) _ = _
    rw [e1]
    rfl
  rw [dec_of r, show pc + 1 + 1 - pc = 2 by omega]
theorem dc_lstore {c : ByteArray} {pc n : Nat} {a : UInt8} (h : c.data.toList[pc]? = some 55) (h1 : c.data.toList[pc + 1]? = some a) (hn : a.toNat = n) : decode c pc = .ok (.lstore n, 2) := by
  subst hn
  have e := u1_ok h
  have e1 := u1_ok h1
  have r : (Jvm.ClassFile.Decoder.instr pc) c pc = .ok (.lstore a.toNat, pc + 1 + 1) := by
    show Except.bind ((Jvm.ClassFile.Reader.u1 : Jvm.ClassFile.Decoder Nat) c pc) _ = _
    rw [e]
    show Except.bind ((Jvm.ClassFile.Reader.u1 : Jvm.ClassFile.Decoder Nat) c (pc + 1)) _ = _
    rw [e1]
    rfl
  rw [dec_of r, show pc + 1 + 1 - pc = 2 by omega]
theorem dc_dstore {c : ByteArray} {pc n : Nat} {a : UInt8} (h : c.data.toList[pc]? = some 57) (h1 : c.data.toList[pc + 1]? = some a) (hn : a.toNat = n) : decode c pc = .ok (.dstore n, 2) := by
  subst hn
  have e := u1_ok h
  have e1 := u1_ok h1
  have r : (Jvm.ClassFile.Decoder.instr pc) c pc = .ok (.dstore a.toNat, pc + 1 + 1) := by
    show Except.bind ((Jvm.ClassFile.Reader.u1 : Jvm.ClassFile.Decoder Nat) c pc) _ = _
    rw [e]
    show Except.bind ((Jvm.ClassFile.Reader.u1 : Jvm.ClassFile.Decoder Nat) c (pc + 1)) _ = _
    rw [e1]
    rfl
  rw [dec_of r, show pc + 1 + 1 - pc = 2 by omega]
theorem dc_invokevirtual {c : ByteArray} {pc : Nat} {n : Nat} {a b : UInt8} (h : c.data.toList[pc]? = some 182) (h1 : c.data.toList[pc + 1]? = some a) (h2 : c.data.toList[pc + 2]? = some b) (hn : a.toNat * 256 + b.toNat = n) : decode c pc = .ok (.invokevirtual n, 3) := by
  subst hn
  have e := u1_ok h
  have e1 := u1_ok h1
  have e2 := u1_ok (p := pc + 1 + 1) h2
  have r : (Jvm.ClassFile.Decoder.instr pc) c pc = .ok (.invokevirtual (a.toNat * 256 + b.toNat), pc + 1 + 1 + 1) := by
    show Except.bind ((Jvm.ClassFile.Reader.u1 : Jvm.ClassFile.Decoder Nat) c pc) _ = _
    rw [e]
    show Except.bind (Except.bind ((Jvm.ClassFile.Reader.u1 : Jvm.ClassFile.Decoder Nat) c (pc + 1)) _) _ = _
    rw [e1]
    show Except.bind (Except.bind ((Jvm.ClassFile.Reader.u1 : Jvm.ClassFile.Decoder Nat) c (pc + 1 + 1)) _) _ = _
    rw [e2]
    rfl
  rw [dec_of r, show pc + 1 + 1 + 1 - pc = 3 by omega]
theorem dc_invokestatic {c : ByteArray} {pc : Nat} {n : Nat} {a b : UInt8} (h : c.data.toList[pc]? = some 184) (h1 : c.data.toList[pc + 1]? = some a) (h2 : c.data.toList[pc + 2]? = some b) (hn : a.toNat * 256 + b.toNat = n) : decode c pc = .ok (.invokestatic n, 3) := by
  subst hn
  have e := u1_ok h
  have e1 := u1_ok h1
  have e2 := u1_ok (p := pc + 1 + 1) h2
  have r : (Jvm.ClassFile.Decoder.instr pc) c pc = .ok (.invokestatic (a.toNat * 256 + b.toNat), pc + 1 + 1 + 1) := by
    show Except.bind ((Jvm.ClassFile.Reader.u1 : Jvm.ClassFile.Decoder Nat) c pc) _ = _
    rw [e]
    show Except.bind (Except.bind ((Jvm.ClassFile.Reader.u1 : Jvm.ClassFile.Decoder Nat) c (pc + 1)) _) _ = _
    rw [e1]
    show Except.bind (Except.bind ((Jvm.ClassFile.Reader.u1 : Jvm.ClassFile.Decoder Nat) c (pc + 1 + 1)) _) _ = _
    rw [e2]
    rfl
  rw [dec_of r, show pc + 1 + 1 + 1 - pc = 3 by omega]
theorem dc_ifeq {c : ByteArray} {pc : Nat} {n : Int} {a b : UInt8} (h : c.data.toList[pc]? = some 153) (h1 : c.data.toList[pc + 1]? = some a) (h2 : c.data.toList[pc + 2]? = some b) (hn : Jvm.ClassFile.Reader.signed 16 (a.toNat * 256 + b.toNat) = n) : decode c pc = .ok (.ifCond .eq n, 3) := by
  subst hn
  have e := u1_ok h
  have e1 := u1_ok h1
  have e2 := u1_ok (p := pc + 1 + 1) h2
  have r : (Jvm.ClassFile.Decoder.instr pc) c pc = .ok (.ifCond .eq (Jvm.ClassFile.Reader.signed 16 (a.toNat * 256 + b.toNat)), pc + 1 + 1 + 1) := by
    show Except.bind ((Jvm.ClassFile.Reader.u1 : Jvm.ClassFile.Decoder Nat) c pc) _ = _
    rw [e]
    show Except.bind (Except.bind (Except.bind ((Jvm.ClassFile.Reader.u1 : Jvm.ClassFile.Decoder Nat) c (pc + 1)) _) _) _ = _
    rw [e1]
    show Except.bind (Except.bind (Except.bind ((Jvm.ClassFile.Reader.u1 : Jvm.ClassFile.Decoder Nat) c (pc + 1 + 1)) _) _) _ = _
    rw [e2]
    rfl
  rw [dec_of r, show pc + 1 + 1 + 1 - pc = 3 by omega]
theorem dc_ifne {c : ByteArray} {pc : Nat} {n : Int} {a b : UInt8} (h : c.data.toList[pc]? = some 154) (h1 : c.data.toList[pc + 1]? = some a) (h2 : c.data.toList[pc + 2]? = some b) (hn : Jvm.ClassFile.Reader.signed 16 (a.toNat * 256 + b.toNat) = n) : decode c pc = .ok (.ifCond .ne n, 3) := by
  subst hn
  have e := u1_ok h
  have e1 := u1_ok h1
  have e2 := u1_ok (p := pc + 1 + 1) h2
  have r : (Jvm.ClassFile.Decoder.instr pc) c pc = .ok (.ifCond .ne (Jvm.ClassFile.Reader.signed 16 (a.toNat * 256 + b.toNat)), pc + 1 + 1 + 1) := by
    show Except.bind ((Jvm.ClassFile.Reader.u1 : Jvm.ClassFile.Decoder Nat) c pc) _ = _
    rw [e]
    show Except.bind (Except.bind (Except.bind ((Jvm.ClassFile.Reader.u1 : Jvm.ClassFile.Decoder Nat) c (pc + 1)) _) _) _ = _
    rw [e1]
    show Except.bind (Except.bind (Except.bind ((Jvm.ClassFile.Reader.u1 : Jvm.ClassFile.Decoder Nat) c (pc + 1 + 1)) _) _) _ = _
    rw [e2]
    rfl
  rw [dec_of r, show pc + 1 + 1 + 1 - pc = 3 by omega]
theorem dc_icmpeq {c : ByteArray} {pc : Nat} {n : Int} {a b : UInt8} (h : c.data.toList[pc]? = some 159) (h1 : c.data.toList[pc + 1]? = some a) (h2 : c.data.toList[pc + 2]? = some b) (hn : Jvm.ClassFile.Reader.signed 16 (a.toNat * 256 + b.toNat) = n) : decode c pc = .ok (.if_icmp .eq n, 3) := by
  subst hn
  have e := u1_ok h
  have e1 := u1_ok h1
  have e2 := u1_ok (p := pc + 1 + 1) h2
  have r : (Jvm.ClassFile.Decoder.instr pc) c pc = .ok (.if_icmp .eq (Jvm.ClassFile.Reader.signed 16 (a.toNat * 256 + b.toNat)), pc + 1 + 1 + 1) := by
    show Except.bind ((Jvm.ClassFile.Reader.u1 : Jvm.ClassFile.Decoder Nat) c pc) _ = _
    rw [e]
    show Except.bind (Except.bind (Except.bind ((Jvm.ClassFile.Reader.u1 : Jvm.ClassFile.Decoder Nat) c (pc + 1)) _) _) _ = _
    rw [e1]
    show Except.bind (Except.bind (Except.bind ((Jvm.ClassFile.Reader.u1 : Jvm.ClassFile.Decoder Nat) c (pc + 1 + 1)) _) _) _ = _
    rw [e2]
    rfl
  rw [dec_of r, show pc + 1 + 1 + 1 - pc = 3 by omega]
theorem dc_goto {c : ByteArray} {pc : Nat} {n : Int} {a b : UInt8} (h : c.data.toList[pc]? = some 167) (h1 : c.data.toList[pc + 1]? = some a) (h2 : c.data.toList[pc + 2]? = some b) (hn : Jvm.ClassFile.Reader.signed 16 (a.toNat * 256 + b.toNat) = n) : decode c pc = .ok (.goto n, 3) := by
  subst hn
  have e := u1_ok h
  have e1 := u1_ok h1
  have e2 := u1_ok (p := pc + 1 + 1) h2
  have r : (Jvm.ClassFile.Decoder.instr pc) c pc = .ok (.goto (Jvm.ClassFile.Reader.signed 16 (a.toNat * 256 + b.toNat)), pc + 1 + 1 + 1) := by
    show Except.bind ((Jvm.ClassFile.Reader.u1 : Jvm.ClassFile.Decoder Nat) c pc) _ = _
    rw [e]
    show Except.bind (Except.bind (Except.bind ((Jvm.ClassFile.Reader.u1 : Jvm.ClassFile.Decoder Nat) c (pc + 1)) _) _) _ = _
    rw [e1]
    show Except.bind (Except.bind (Except.bind ((Jvm.ClassFile.Reader.u1 : Jvm.ClassFile.Decoder Nat) c (pc + 1 + 1)) _) _) _ = _
    rw [e2]
    rfl
  rw [dec_of r, show pc + 1 + 1 + 1 - pc = 3 by omega]
theorem rdL {o : Nat} {B : List UInt8} {b : UInt8} (h : (code.data.toList.drop o).take 64 = B) (j : Nat) (hj : j < 64) (hb : B[j]? = some b) : code.data.toList[o + j]? = some b := by
  rw [← h, List.getElem?_take_of_lt hj, List.getElem?_drop] at hb
  exact hb
def lb_0 : List UInt8 := [187, 0, 8, 89, 183, 0, 173, 76, 187, 0, 174, 89, 183, 0, 176, 77, 4, 188, 11, 78, 4, 188, 7, 58, 4, 3, 54, 5, 21, 5, 42, 190, 16, 6, 100, 163, 13, 228, 42, 21, 5, 46, 16, 63, 126, 170, 0, 0, 0, 0, 13, 212, 0, 0, 0, 0, 0, 0, 0, 53, 0, 0, 0, 231]
theorem tb_0 : (code.data.toList.drop 0).take 64 = lb_0 := by decide +kernel
def lb_1 : List UInt8 := [0, 0, 1, 79, 0, 0, 1, 135, 0, 0, 1, 148, 0, 0, 1, 161, 0, 0, 1, 174, 0, 0, 2, 10, 0, 0, 2, 78, 0, 0, 2, 158, 0, 0, 2, 214, 0, 0, 3, 25, 0, 0, 3, 105, 0, 0, 3, 185, 0, 0, 3, 253, 0, 0, 4, 65, 0, 0, 4, 133, 0, 0, 4, 189]
theorem tb_1 : (code.data.toList.drop 64).take 64 = lb_1 := by decide +kernel
def lb_2 : List UInt8 := [0, 0, 4, 202, 0, 0, 5, 2, 0, 0, 5, 70, 0, 0, 5, 138, 0, 0, 5, 194, 0, 0, 6, 6, 0, 0, 6, 74, 0, 0, 6, 142, 0, 0, 6, 198, 0, 0, 7, 19, 0, 0, 7, 74, 0, 0, 7, 141, 0, 0, 7, 197, 0, 0, 8, 9, 0, 0, 8, 89, 0, 0, 8, 144]
theorem tb_2 : (code.data.toList.drop 128).take 64 = lb_2 := by decide +kernel
def lb_3 : List UInt8 := [0, 0, 8, 212, 0, 0, 9, 36, 0, 0, 9, 104, 0, 0, 9, 184, 0, 0, 9, 252, 0, 0, 10, 76, 0, 0, 10, 156, 0, 0, 10, 236, 0, 0, 11, 60, 0, 0, 11, 139, 0, 0, 11, 195, 0, 0, 11, 239, 0, 0, 12, 51, 0, 0, 12, 119, 0, 0, 12, 187, 0, 0, 12, 231]
theorem tb_3 : (code.data.toList.drop 192).take 64 = lb_3 := by decide +kernel
def lb_4 : List UInt8 := [0, 0, 13, 31, 0, 0, 13, 86, 0, 0, 13, 99, 0, 0, 13, 155, 0, 0, 13, 199, 43, 42, 21, 5, 4, 96, 46, 42, 21, 5, 5, 96, 46, 42, 21, 5, 6, 96, 46, 42, 21, 5, 7, 96, 46, 42, 21, 5, 8, 96, 46, 45, 184, 0, 177, 54, 6, 44, 42, 21, 5, 4, 96, 46]
theorem tb_4 : (code.data.toList.drop 256).take 64 = lb_4 := by decide +kernel
def lb_5 : List UInt8 := [42, 21, 5, 5, 96, 46, 42, 21, 5, 6, 96, 46, 42, 21, 5, 7, 96, 46, 42, 21, 5, 8, 96, 46, 182, 0, 182, 54, 7, 44, 182, 0, 183, 21, 6, 159, 0, 5, 3, 172, 21, 6, 154, 0, 15, 45, 3, 47, 21, 7, 133, 148, 153, 0, 5, 3, 172, 167, 12, 136, 43, 42, 21, 5]
theorem tb_5 : (code.data.toList.drop 320).take 64 = lb_5 := by decide +kernel
def lb_6 : List UInt8 := [4, 96, 46, 45, 184, 0, 186, 54, 6, 44, 42, 21, 5, 4, 96, 46, 182, 0, 189, 54, 7, 44, 182, 0, 183, 21, 6, 159, 0, 5, 3, 172, 21, 6, 154, 0, 15, 45, 3, 47, 21, 7, 133, 148, 153, 0, 5, 3, 172, 167, 12, 80, 43, 182, 0, 190, 44, 182, 0, 193, 159, 12, 69, 3]
theorem tb_6 : (code.data.toList.drop 384).take 64 = lb_6 := by decide +kernel
def lb_7 : List UInt8 := [172, 43, 182, 0, 194, 44, 182, 0, 197, 159, 12, 56, 3, 172, 43, 182, 0, 198, 44, 182, 0, 201, 159, 12, 43, 3, 172, 43, 42, 21, 5, 4, 96, 46, 42, 21, 5, 5, 96, 46, 42, 21, 5, 6, 96, 46, 42, 21, 5, 7, 96, 46, 45, 184, 0, 202, 54, 6, 44, 42, 21, 5, 4, 96]
theorem tb_7 : (code.data.toList.drop 448).take 64 = lb_7 := by decide +kernel
def lb_8 : List UInt8 := [46, 42, 21, 5, 5, 96, 46, 42, 21, 5, 6, 96, 46, 42, 21, 5, 7, 96, 46, 182, 0, 205, 54, 7, 44, 182, 0, 183, 21, 6, 159, 0, 5, 3, 172, 21, 6, 154, 0, 15, 45, 3, 47, 21, 7, 133, 148, 153, 0, 5, 3, 172, 167, 11, 205, 43, 42, 21, 5, 4, 96, 46, 42, 21]
theorem tb_8 : (code.data.toList.drop 512).take 64 = lb_8 := by decide +kernel
def lb_9 : List UInt8 := [5, 5, 96, 46, 45, 184, 0, 206, 54, 6, 44, 42, 21, 5, 4, 96, 46, 42, 21, 5, 5, 96, 46, 182, 0, 209, 54, 7, 44, 182, 0, 183, 21, 6, 159, 0, 5, 3, 172, 21, 6, 154, 0, 15, 45, 3, 47, 21, 7, 133, 148, 153, 0, 5, 3, 172, 167, 11, 137, 43, 42, 21, 5, 4]
theorem tb_9 : (code.data.toList.drop 576).take 64 = lb_9 := by decide +kernel
def lb_10 : List UInt8 := [96, 46, 42, 21, 5, 5, 96, 46, 42, 21, 5, 6, 96, 46, 45, 184, 0, 210, 54, 6, 44, 42, 21, 5, 4, 96, 46, 42, 21, 5, 5, 96, 46, 42, 21, 5, 6, 96, 46, 182, 0, 213, 54, 7, 44, 182, 0, 183, 21, 6, 159, 0, 5, 3, 172, 21, 6, 154, 0, 15, 45, 3, 47, 21]
theorem tb_10 : (code.data.toList.drop 640).take 64 = lb_10 := by decide +kernel
def lb_11 : List UInt8 := [7, 133, 148, 153, 0, 5, 3, 172, 167, 11, 57, 43, 42, 21, 5, 4, 96, 46, 45, 184, 0, 214, 54, 6, 44, 42, 21, 5, 4, 96, 46, 182, 0, 216, 54, 7, 44, 182, 0, 183, 21, 6, 159, 0, 5, 3, 172, 21, 6, 154, 0, 15, 45, 3, 47, 21, 7, 133, 148, 153, 0, 5, 3, 172]
theorem tb_11 : (code.data.toList.drop 704).take 64 = lb_11 := by decide +kernel
def lb_12 : List UInt8 := [167, 11, 1, 43, 42, 21, 5, 4, 96, 46, 42, 21, 5, 5, 96, 46, 45, 184, 0, 217, 54, 6, 44, 42, 21, 5, 4, 96, 46, 42, 21, 5, 5, 96, 46, 182, 0, 219, 55, 7, 44, 182, 0, 183, 21, 6, 159, 0, 5, 3, 172, 21, 6, 154, 0, 14, 45, 3, 47, 22, 7, 148, 153, 0]
theorem tb_12 : (code.data.toList.drop 768).take 64 = lb_12 := by decide +kernel
def lb_13 : List UInt8 := [5, 3, 172, 167, 10, 190, 43, 42, 21, 5, 4, 96, 46, 42, 21, 5, 5, 96, 46, 42, 21, 5, 6, 96, 46, 45, 184, 0, 220, 54, 6, 44, 42, 21, 5, 4, 96, 46, 42, 21, 5, 5, 96, 46, 42, 21, 5, 6, 96, 46, 182, 0, 222, 54, 7, 44, 182, 0, 183, 21, 6, 159, 0, 5]
theorem tb_13 : (code.data.toList.drop 832).take 64 = lb_13 := by decide +kernel
def lb_14 : List UInt8 := [3, 172, 21, 6, 154, 0, 15, 45, 3, 47, 21, 7, 133, 148, 153, 0, 5, 3, 172, 167, 10, 110, 43, 42, 21, 5, 4, 96, 46, 42, 21, 5, 5, 96, 46, 42, 21, 5, 6, 96, 46, 45, 184, 0, 223, 54, 6, 44, 42, 21, 5, 4, 96, 46, 42, 21, 5, 5, 96, 46, 42, 21, 5, 6]
theorem tb_14 : (code.data.toList.drop 896).take 64 = lb_14 := by decide +kernel
def lb_15 : List UInt8 := [96, 46, 182, 0, 225, 54, 7, 44, 182, 0, 183, 21, 6, 159, 0, 5, 3, 172, 21, 6, 154, 0, 15, 45, 3, 47, 21, 7, 133, 148, 153, 0, 5, 3, 172, 167, 10, 30, 43, 42, 21, 5, 4, 96, 46, 42, 21, 5, 5, 96, 46, 45, 184, 0, 226, 54, 6, 44, 42, 21, 5, 4, 96, 46]
theorem tb_15 : (code.data.toList.drop 960).take 64 = lb_15 := by decide +kernel
def lb_16 : List UInt8 := [42, 21, 5, 5, 96, 46, 182, 0, 228, 54, 7, 44, 182, 0, 183, 21, 6, 159, 0, 5, 3, 172, 21, 6, 154, 0, 15, 45, 3, 47, 21, 7, 133, 148, 153, 0, 5, 3, 172, 167, 9, 218, 43, 42, 21, 5, 4, 96, 46, 42, 21, 5, 5, 96, 46, 45, 184, 0, 229, 54, 6, 44, 42, 21]
theorem tb_16 : (code.data.toList.drop 1024).take 64 = lb_16 := by decide +kernel
def lb_17 : List UInt8 := [5, 4, 96, 46, 42, 21, 5, 5, 96, 46, 182, 0, 231, 54, 7, 44, 182, 0, 183, 21, 6, 159, 0, 5, 3, 172, 21, 6, 154, 0, 15, 45, 3, 47, 21, 7, 133, 148, 153, 0, 5, 3, 172, 167, 9, 150, 43, 42, 21, 5, 4, 96, 46, 42, 21, 5, 5, 96, 46, 45, 184, 0, 232, 54]
theorem tb_17 : (code.data.toList.drop 1088).take 64 = lb_17 := by decide +kernel
def lb_18 : List UInt8 := [6, 44, 42, 21, 5, 4, 96, 46, 42, 21, 5, 5, 96, 46, 182, 0, 234, 54, 7, 44, 182, 0, 183, 21, 6, 159, 0, 5, 3, 172, 21, 6, 154, 0, 15, 45, 3, 47, 21, 7, 133, 148, 153, 0, 5, 3, 172, 167, 9, 82, 43, 42, 21, 5, 4, 96, 46, 45, 184, 0, 235, 54, 6, 44]
theorem tb_18 : (code.data.toList.drop 1152).take 64 = lb_18 := by decide +kernel
def lb_19 : List UInt8 := [42, 21, 5, 4, 96, 46, 182, 0, 237, 54, 7, 44, 182, 0, 183, 21, 6, 159, 0, 5, 3, 172, 21, 6, 154, 0, 15, 45, 3, 47, 21, 7, 133, 148, 153, 0, 5, 3, 172, 167, 9, 26, 43, 182, 0, 238, 44, 182, 0, 241, 159, 9, 15, 3, 172, 43, 42, 21, 5, 4, 96, 46, 45, 184]
theorem tb_19 : (code.data.toList.drop 1216).take 64 = lb_19 := by decide +kernel
def lb_20 : List UInt8 := [0, 242, 54, 6, 44, 42, 21, 5, 4, 96, 46, 182, 0, 244, 54, 7, 44, 182, 0, 183, 21, 6, 159, 0, 5, 3, 172, 21, 6, 154, 0, 15, 45, 3, 47, 21, 7, 133, 148, 153, 0, 5, 3, 172, 167, 8, 213, 43, 42, 21, 5, 4, 96, 46, 42, 21, 5, 5, 96, 46, 45, 184, 0, 245]
theorem tb_20 : (code.data.toList.drop 1280).take 64 = lb_20 := by decide +kernel
def lb_21 : List UInt8 := [54, 6, 44, 42, 21, 5, 4, 96, 46, 42, 21, 5, 5, 96, 46, 182, 0, 247, 54, 7, 44, 182, 0, 183, 21, 6, 159, 0, 5, 3, 172, 21, 6, 154, 0, 15, 45, 3, 47, 21, 7, 133, 148, 153, 0, 5, 3, 172, 167, 8, 145, 43, 42, 21, 5, 4, 96, 46, 42, 21, 5, 5, 96, 46]
theorem tb_21 : (code.data.toList.drop 1344).take 64 = lb_21 := by decide +kernel
def lb_22 : List UInt8 := [45, 184, 0, 248, 54, 6, 44, 42, 21, 5, 4, 96, 46, 42, 21, 5, 5, 96, 46, 182, 0, 250, 54, 7, 44, 182, 0, 183, 21, 6, 159, 0, 5, 3, 172, 21, 6, 154, 0, 15, 45, 3, 47, 21, 7, 133, 148, 153, 0, 5, 3, 172, 167, 8, 77, 43, 42, 21, 5, 4, 96, 46, 45, 184]
theorem tb_22 : (code.data.toList.drop 1408).take 64 = lb_22 := by decide +kernel
def lb_23 : List UInt8 := [0, 251, 54, 6, 44, 42, 21, 5, 4, 96, 46, 182, 0, 253, 54, 7, 44, 182, 0, 183, 21, 6, 159, 0, 5, 3, 172, 21, 6, 154, 0, 15, 45, 3, 47, 21, 7, 133, 148, 153, 0, 5, 3, 172, 167, 8, 21, 43, 42, 21, 5, 4, 96, 46, 42, 21, 5, 5, 96, 46, 45, 184, 0, 254]
theorem tb_23 : (code.data.toList.drop 1472).take 64 = lb_23 := by decide +kernel
def lb_24 : List UInt8 := [54, 6, 44, 42, 21, 5, 4, 96, 46, 42, 21, 5, 5, 96, 46, 182, 1, 0, 54, 7, 44, 182, 0, 183, 21, 6, 159, 0, 5, 3, 172, 21, 6, 154, 0, 15, 45, 3, 47, 21, 7, 133, 148, 153, 0, 5, 3, 172, 167, 7, 209, 43, 42, 21, 5, 4, 96, 46, 42, 21, 5, 5, 96, 46]
theorem tb_24 : (code.data.toList.drop 1536).take 64 = lb_24 := by decide +kernel
def lb_25 : List UInt8 := [45, 184, 1, 1, 54, 6, 44, 42, 21, 5, 4, 96, 46, 42, 21, 5, 5, 96, 46, 182, 1, 3, 54, 7, 44, 182, 0, 183, 21, 6, 159, 0, 5, 3, 172, 21, 6, 154, 0, 15, 45, 3, 47, 21, 7, 133, 148, 153, 0, 5, 3, 172, 167, 7, 141, 43, 42, 21, 5, 4, 96, 46, 42, 21]
theorem tb_25 : (code.data.toList.drop 1600).take 64 = lb_25 := by decide +kernel
def lb_26 : List UInt8 := [5, 5, 96, 46, 45, 184, 1, 4, 54, 6, 44, 42, 21, 5, 4, 96, 46, 42, 21, 5, 5, 96, 46, 182, 1, 6, 54, 7, 44, 182, 0, 183, 21, 6, 159, 0, 5, 3, 172, 21, 6, 154, 0, 15, 45, 3, 47, 21, 7, 133, 148, 153, 0, 5, 3, 172, 167, 7, 73, 43, 42, 21, 5, 4]
theorem tb_26 : (code.data.toList.drop 1664).take 64 = lb_26 := by decide +kernel
def lb_27 : List UInt8 := [96, 46, 45, 184, 1, 7, 54, 6, 44, 42, 21, 5, 4, 96, 46, 182, 1, 9, 54, 7, 44, 182, 0, 183, 21, 6, 159, 0, 5, 3, 172, 21, 6, 154, 0, 15, 45, 3, 47, 21, 7, 133, 148, 153, 0, 5, 3, 172, 167, 7, 17, 43, 42, 21, 5, 4, 96, 46, 25, 4, 184, 1, 10, 54]
theorem tb_27 : (code.data.toList.drop 1728).take 64 = lb_27 := by decide +kernel
def lb_28 : List UInt8 := [6, 44, 42, 21, 5, 4, 96, 46, 182, 1, 13, 57, 7, 44, 182, 0, 183, 21, 6, 159, 0, 5, 3, 172, 21, 6, 154, 0, 35, 25, 4, 3, 49, 24, 7, 151, 153, 0, 25, 25, 4, 3, 49, 25, 4, 3, 49, 151, 153, 0, 11, 24, 7, 24, 7, 151, 154, 0, 5, 3, 172, 167, 6, 196]
theorem tb_28 : (code.data.toList.drop 1792).take 64 = lb_28 := by decide +kernel
def lb_29 : List UInt8 := [43, 42, 21, 5, 4, 96, 46, 45, 184, 1, 14, 54, 6, 44, 42, 21, 5, 4, 96, 46, 182, 1, 16, 55, 7, 44, 182, 0, 183, 21, 6, 159, 0, 5, 3, 172, 21, 6, 154, 0, 14, 45, 3, 47, 22, 7, 148, 153, 0, 5, 3, 172, 167, 6, 141, 43, 42, 21, 5, 4, 96, 46, 42, 21]
theorem tb_29 : (code.data.toList.drop 1856).take 64 = lb_29 := by decide +kernel
def lb_30 : List UInt8 := [5, 5, 96, 46, 45, 184, 1, 17, 54, 6, 44, 42, 21, 5, 4, 96, 46, 42, 21, 5, 5, 96, 46, 182, 1, 19, 55, 7, 44, 182, 0, 183, 21, 6, 159, 0, 5, 3, 172, 21, 6, 154, 0, 14, 45, 3, 47, 22, 7, 148, 153, 0, 5, 3, 172, 167, 6, 74, 43, 42, 21, 5, 4, 96]
theorem tb_30 : (code.data.toList.drop 1920).take 64 = lb_30 := by decide +kernel
def lb_31 : List UInt8 := [46, 45, 184, 1, 20, 54, 6, 44, 42, 21, 5, 4, 96, 46, 182, 1, 22, 54, 7, 44, 182, 0, 183, 21, 6, 159, 0, 5, 3, 172, 21, 6, 154, 0, 15, 45, 3, 47, 21, 7, 133, 148, 153, 0, 5, 3, 172, 167, 6, 18, 43, 42, 21, 5, 4, 96, 46, 42, 21, 5, 5, 96, 46, 45]
theorem tb_31 : (code.data.toList.drop 1984).take 64 = lb_31 := by decide +kernel
def lb_32 : List UInt8 := [184, 1, 23, 54, 6, 44, 42, 21, 5, 4, 96, 46, 42, 21, 5, 5, 96, 46, 182, 1, 25, 54, 7, 44, 182, 0, 183, 21, 6, 159, 0, 5, 3, 172, 21, 6, 154, 0, 15, 45, 3, 47, 21, 7, 133, 148, 153, 0, 5, 3, 172, 167, 5, 206, 43, 42, 21, 5, 4, 96, 46, 42, 21, 5]
theorem tb_32 : (code.data.toList.drop 2048).take 64 = lb_32 := by decide +kernel
def lb_33 : List UInt8 := [5, 96, 46, 42, 21, 5, 6, 96, 46, 45, 184, 1, 26, 54, 6, 44, 42, 21, 5, 4, 96, 46, 42, 21, 5, 5, 96, 46, 42, 21, 5, 6, 96, 46, 182, 1, 28, 54, 7, 44, 182, 0, 183, 21, 6, 159, 0, 5, 3, 172, 21, 6, 154, 0, 15, 45, 3, 47, 21, 7, 133, 148, 153, 0]
theorem tb_33 : (code.data.toList.drop 2112).take 64 = lb_33 := by decide +kernel
def lb_34 : List UInt8 := [5, 3, 172, 167, 5, 126, 43, 42, 21, 5, 4, 96, 46, 45, 184, 1, 29, 54, 6, 44, 42, 21, 5, 4, 96, 46, 182, 1, 31, 55, 7, 44, 182, 0, 183, 21, 6, 159, 0, 5, 3, 172, 21, 6, 154, 0, 14, 45, 3, 47, 22, 7, 148, 153, 0, 5, 3, 172, 167, 5, 71, 43, 42, 21]
theorem tb_34 : (code.data.toList.drop 2176).take 64 = lb_34 := by decide +kernel
def lb_35 : List UInt8 := [5, 4, 96, 46, 42, 21, 5, 5, 96, 46, 45, 184, 1, 32, 54, 6, 44, 42, 21, 5, 4, 96, 46, 42, 21, 5, 5, 96, 46, 182, 1, 34, 54, 7, 44, 182, 0, 183, 21, 6, 159, 0, 5, 3, 172, 21, 6, 154, 0, 15, 45, 3, 47, 21, 7, 133, 148, 153, 0, 5, 3, 172, 167, 5]
theorem tb_35 : (code.data.toList.drop 2240).take 64 = lb_35 := by decide +kernel
def lb_36 : List UInt8 := [3, 43, 42, 21, 5, 4, 96, 46, 42, 21, 5, 5, 96, 46, 42, 21, 5, 6, 96, 46, 45, 184, 1, 35, 54, 6, 44, 42, 21, 5, 4, 96, 46, 42, 21, 5, 5, 96, 46, 42, 21, 5, 6, 96, 46, 182, 1, 37, 54, 7, 44, 182, 0, 183, 21, 6, 159, 0, 5, 3, 172, 21, 6, 154]
theorem tb_36 : (code.data.toList.drop 2304).take 64 = lb_36 := by decide +kernel
def lb_37 : List UInt8 := [0, 15, 45, 3, 47, 21, 7, 133, 148, 153, 0, 5, 3, 172, 167, 4, 179, 43, 42, 21, 5, 4, 96, 46, 42, 21, 5, 5, 96, 46, 45, 184, 1, 38, 54, 6, 44, 42, 21, 5, 4, 96, 46, 42, 21, 5, 5, 96, 46, 182, 1, 40, 54, 7, 44, 182, 0, 183, 21, 6, 159, 0, 5, 3]
theorem tb_37 : (code.data.toList.drop 2368).take 64 = lb_37 := by decide +kernel
def lb_38 : List UInt8 := [172, 21, 6, 154, 0, 15, 45, 3, 47, 21, 7, 133, 148, 153, 0, 5, 3, 172, 167, 4, 111, 43, 42, 21, 5, 4, 96, 46, 42, 21, 5, 5, 96, 46, 42, 21, 5, 6, 96, 46, 45, 184, 1, 41, 54, 6, 44, 42, 21, 5, 4, 96, 46, 42, 21, 5, 5, 96, 46, 42, 21, 5, 6, 96]
theorem tb_38 : (code.data.toList.drop 2432).take 64 = lb_38 := by decide +kernel
def lb_39 : List UInt8 := [46, 182, 1, 43, 54, 7, 44, 182, 0, 183, 21, 6, 159, 0, 5, 3, 172, 21, 6, 154, 0, 15, 45, 3, 47, 21, 7, 133, 148, 153, 0, 5, 3, 172, 167, 4, 31, 43, 42, 21, 5, 4, 96, 46, 42, 21, 5, 5, 96, 46, 45, 184, 1, 44, 54, 6, 44, 42, 21, 5, 4, 96, 46, 42]
theorem tb_39 : (code.data.toList.drop 2496).take 64 = lb_39 := by decide +kernel
def lb_40 : List UInt8 := [21, 5, 5, 96, 46, 182, 1, 46, 54, 7, 44, 182, 0, 183, 21, 6, 159, 0, 5, 3, 172, 21, 6, 154, 0, 15, 45, 3, 47, 21, 7, 133, 148, 153, 0, 5, 3, 172, 167, 3, 219, 43, 42, 21, 5, 4, 96, 46, 42, 21, 5, 5, 96, 46, 42, 21, 5, 6, 96, 46, 45, 184, 1, 47]
theorem tb_40 : (code.data.toList.drop 2560).take 64 = lb_40 := by decide +kernel
def lb_41 : List UInt8 := [54, 6, 44, 42, 21, 5, 4, 96, 46, 42, 21, 5, 5, 96, 46, 42, 21, 5, 6, 96, 46, 182, 1, 49, 54, 7, 44, 182, 0, 183, 21, 6, 159, 0, 5, 3, 172, 21, 6, 154, 0, 15, 45, 3, 47, 21, 7, 133, 148, 153, 0, 5, 3, 172, 167, 3, 139, 43, 42, 21, 5, 4, 96, 46]
theorem tb_41 : (code.data.toList.drop 2624).take 64 = lb_41 := by decide +kernel
def lb_42 : List UInt8 := [42, 21, 5, 5, 96, 46, 42, 21, 5, 6, 96, 46, 45, 184, 1, 50, 54, 6, 44, 42, 21, 5, 4, 96, 46, 42, 21, 5, 5, 96, 46, 42, 21, 5, 6, 96, 46, 182, 1, 52, 54, 7, 44, 182, 0, 183, 21, 6, 159, 0, 5, 3, 172, 21, 6, 154, 0, 15, 45, 3, 47, 21, 7, 133]
theorem tb_42 : (code.data.toList.drop 2688).take 64 = lb_42 := by decide +kernel
def lb_43 : List UInt8 := [148, 153, 0, 5, 3, 172, 167, 3, 59, 43, 42, 21, 5, 4, 96, 46, 42, 21, 5, 5, 96, 46, 42, 21, 5, 6, 96, 46, 45, 184, 1, 53, 54, 6, 44, 42, 21, 5, 4, 96, 46, 42, 21, 5, 5, 96, 46, 42, 21, 5, 6, 96, 46, 182, 1, 55, 54, 7, 44, 182, 0, 183, 21, 6]
theorem tb_43 : (code.data.toList.drop 2752).take 64 = lb_43 := by decide +kernel
def lb_44 : List UInt8 := [159, 0, 5, 3, 172, 21, 6, 154, 0, 15, 45, 3, 47, 21, 7, 133, 148, 153, 0, 5, 3, 172, 167, 2, 235, 43, 42, 21, 5, 4, 96, 46, 42, 21, 5, 5, 96, 46, 42, 21, 5, 6, 96, 46, 45, 184, 1, 56, 54, 6, 44, 42, 21, 5, 4, 96, 46, 42, 21, 5, 5, 96, 46, 42]
theorem tb_44 : (code.data.toList.drop 2816).take 64 = lb_44 := by decide +kernel
def lb_45 : List UInt8 := [21, 5, 6, 96, 46, 182, 1, 58, 54, 7, 44, 182, 0, 183, 21, 6, 159, 0, 5, 3, 172, 21, 6, 154, 0, 15, 45, 3, 47, 21, 7, 133, 148, 153, 0, 5, 3, 172, 167, 2, 155, 43, 42, 21, 5, 4, 96, 46, 42, 21, 5, 5, 96, 46, 42, 21, 5, 6, 96, 46, 45, 184, 1, 59]
theorem tb_45 : (code.data.toList.drop 2880).take 64 = lb_45 := by decide +kernel
def lb_46 : List UInt8 := [54, 6, 44, 42, 21, 5, 4, 96, 46, 42, 21, 5, 5, 96, 46, 42, 21, 5, 6, 96, 46, 182, 1, 61, 55, 7, 44, 182, 0, 183, 21, 6, 159, 0, 5, 3, 172, 21, 6, 154, 0, 14, 45, 3, 47, 22, 7, 148, 153, 0, 5, 3, 172, 167, 2, 76, 43, 42, 21, 5, 4, 96, 46, 45]
theorem tb_46 : (code.data.toList.drop 2944).take 64 = lb_46 := by decide +kernel
def lb_47 : List UInt8 := [184, 1, 62, 54, 6, 44, 42, 21, 5, 4, 96, 46, 182, 1, 64, 54, 7, 44, 182, 0, 183, 21, 6, 159, 0, 5, 3, 172, 21, 6, 154, 0, 15, 45, 3, 47, 21, 7, 133, 148, 153, 0, 5, 3, 172, 167, 2, 20, 43, 45, 184, 1, 65, 54, 6, 44, 182, 1, 68, 54, 7, 44, 182, 0]
theorem tb_47 : (code.data.toList.drop 3008).take 64 = lb_47 := by decide +kernel
def lb_48 : List UInt8 := [183, 21, 6, 159, 0, 5, 3, 172, 21, 6, 154, 0, 15, 45, 3, 47, 21, 7, 133, 148, 153, 0, 5, 3, 172, 167, 1, 232, 43, 42, 21, 5, 4, 96, 46, 42, 21, 5, 5, 96, 46, 45, 184, 1, 69, 54, 6, 44, 42, 21, 5, 4, 96, 46, 42, 21, 5, 5, 96, 46, 182, 1, 71, 54]
theorem tb_48 : (code.data.toList.drop 3072).take 64 = lb_48 := by decide +kernel
def lb_49 : List UInt8 := [7, 44, 182, 0, 183, 21, 6, 159, 0, 5, 3, 172, 21, 6, 154, 0, 15, 45, 3, 47, 21, 7, 133, 148, 153, 0, 5, 3, 172, 167, 1, 164, 43, 42, 21, 5, 4, 96, 46, 42, 21, 5, 5, 96, 46, 45, 184, 1, 72, 54, 6, 44, 42, 21, 5, 4, 96, 46, 42, 21, 5, 5, 96, 46]
theorem tb_49 : (code.data.toList.drop 3136).take 64 = lb_49 := by decide +kernel
def lb_50 : List UInt8 := [182, 1, 74, 54, 7, 44, 182, 0, 183, 21, 6, 159, 0, 5, 3, 172, 21, 6, 154, 0, 15, 45, 3, 47, 21, 7, 133, 148, 153, 0, 5, 3, 172, 167, 1, 96, 43, 42, 21, 5, 4, 96, 46, 42, 21, 5, 5, 96, 46, 45, 184, 1, 75, 54, 6, 44, 42, 21, 5, 4, 96, 46, 42, 21]
theorem tb_50 : (code.data.toList.drop 3200).take 64 = lb_50 := by decide +kernel
def lb_51 : List UInt8 := [5, 5, 96, 46, 182, 1, 77, 54, 7, 44, 182, 0, 183, 21, 6, 159, 0, 5, 3, 172, 21, 6, 154, 0, 15, 45, 3, 47, 21, 7, 133, 148, 153, 0, 5, 3, 172, 167, 1, 28, 43, 45, 184, 1, 78, 54, 6, 44, 182, 1, 80, 54, 7, 44, 182, 0, 183, 21, 6, 159, 0, 5, 3, 172]
theorem tb_51 : (code.data.toList.drop 3264).take 64 = lb_51 := by decide +kernel
def lb_52 : List UInt8 := [21, 6, 154, 0, 15, 45, 3, 47, 21, 7, 133, 148, 153, 0, 5, 3, 172, 167, 0, 240, 43, 42, 21, 5, 4, 96, 46, 45, 184, 1, 81, 54, 6, 44, 42, 21, 5, 4, 96, 46, 182, 1, 83, 54, 7, 44, 182, 0, 183, 21, 6, 159, 0, 5, 3, 172, 21, 6, 154, 0, 15, 45, 3, 47]
theorem tb_52 : (code.data.toList.drop 3328).take 64 = lb_52 := by decide +kernel
def lb_53 : List UInt8 := [21, 7, 133, 148, 153, 0, 5, 3, 172, 167, 0, 184, 43, 42, 21, 5, 4, 96, 46, 45, 184, 1, 84, 54, 6, 44, 42, 21, 5, 4, 96, 46, 182, 1, 86, 55, 7, 44, 182, 0, 183, 21, 6, 159, 0, 5, 3, 172, 21, 6, 154, 0, 14, 45, 3, 47, 22, 7, 148, 153, 0, 5, 3, 172]
theorem tb_53 : (code.data.toList.drop 3392).take 64 = lb_53 := by decide +kernel
def lb_54 : List UInt8 := [167, 0, 129, 43, 182, 1, 87, 44, 182, 1, 90, 159, 0, 118, 3, 172, 43, 42, 21, 5, 4, 96, 46, 45, 184, 1, 91, 54, 6, 44, 42, 21, 5, 4, 96, 46, 182, 1, 93, 54, 7, 44, 182, 0, 183, 21, 6, 159, 0, 5, 3, 172, 21, 6, 154, 0, 15, 45, 3, 47, 21, 7, 133, 148]
theorem tb_54 : (code.data.toList.drop 3456).take 64 = lb_54 := by decide +kernel
def lb_55 : List UInt8 := [153, 0, 5, 3, 172, 167, 0, 60, 43, 45, 184, 1, 94, 54, 6, 44, 182, 1, 96, 54, 7, 44, 182, 0, 183, 21, 6, 159, 0, 5, 3, 172, 21, 6, 154, 0, 15, 45, 3, 47, 21, 7, 133, 148, 153, 0, 5, 3, 172, 167, 0, 16, 43, 182, 1, 97, 44, 182, 1, 100, 159, 0, 5, 3]
theorem tb_55 : (code.data.toList.drop 3520).take 64 = lb_55 := by decide +kernel
def lb_56 : List UInt8 := [172, 132, 5, 6, 167, 242, 24, 4, 172]
theorem tb_56 : (code.data.toList.drop 3584).take 64 = lb_56 := by decide +kernel

