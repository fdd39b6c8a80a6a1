theorem bn (a : Int) : (i32 a).toBitVec.toNat = (a % 4294967296).toNat := by
  show (Int32.ofInt a).toBitVec.toNat = _
  rw [Int32.toBitVec_ofInt, BitVec.toNat_ofInt]
  rfl
theorem i32_bv {y : Int32} {z : Int} (h0 : 0 ≤ z) (h1 : z < 4294967296) (h : y.toBitVec.toNat = z.toNat) : y = i32 z := by
  apply Int32.toBitVec_inj.mp
  apply BitVec.eq_of_toNat_eq
  rw [h, bn, Int.emod_eq_of_lt h0 h1]
theorem i_and255 (a : Int) : i32 a &&& i32 255 = i32 (a % 256) := by
  refine i32_bv (by omega) (by omega) ?_
  show ((i32 a).toBitVec &&& (i32 255).toBitVec).toNat = _
  rw [BitVec.toNat_and, bn, bn, show ((255 : Int) % 4294967296).toNat = 2 ^ 8 - 1 from rfl, Nat.and_two_pow_sub_one_eq_mod]
  omega
theorem i_and63 (a : Int) : i32 a &&& i32 63 = i32 (a % 64) := by
  refine i32_bv (by omega) (by omega) ?_
  show ((i32 a).toBitVec &&& (i32 63).toBitVec).toNat = _
  rw [BitVec.toNat_and, bn, bn, show ((63 : Int) % 4294967296).toNat = 2 ^ 6 - 1 from rfl, Nat.and_two_pow_sub_one_eq_mod]
  omega
theorem i_and1 (a : Int) : i32 a &&& i32 1 = i32 (a % 2) := by
  refine i32_bv (by omega) (by omega) ?_
  show ((i32 a).toBitVec &&& (i32 1).toBitVec).toNat = _
  rw [BitVec.toNat_and, bn, bn, show ((1 : Int) % 4294967296).toNat = 2 ^ 1 - 1 from rfl, Nat.and_two_pow_sub_one_eq_mod]
  omega
/-- powers of two -/
def p2 (k : Int) : Int := (2 : Int) ^ k.toNat
theorem p2_pos (k : Int) : 0 < p2 k := Int.pow_pos (by decide)
theorem p2_s {k : Int} (h : 0 ≤ k) : p2 (k + 1) = 2 * p2 k := by
  unfold p2
  rw [show (k + 1).toNat = k.toNat + 1 by omega, Int.pow_succ, Int.mul_comm]
theorem sh_n : ∀ n : Nat, n < 32 → ((i32 (n : Int) &&& 31).toBitVec.smod 32).toNat = n := by decide
theorem sh_u : ∀ n : Nat, n < 32 → ((i32 (n : Int)).toUInt32 &&& Int32.toUInt32 31).toNat % 32 = n := by decide
theorem i_shr {a k : Int} (h1 : -2147483648 ≤ a) (h2 : a < 2147483648) (k0 : 0 ≤ k) (k1 : k < 32) : i32 a >>> (i32 k &&& 31) = i32 (a / p2 k) := by
  have hp := p2_pos k
  have hb : -2147483648 ≤ a / p2 k ∧ a / p2 k < 2147483648 := by
    refine ⟨Int.le_ediv_of_mul_le hp ?_, Int.ediv_lt_of_lt_mul hp ?_⟩
    · have : (-2147483648 : Int) * p2 k ≤ -2147483648 * 1 := Int.mul_le_mul_of_nonpos_left (by omega) (by omega)
      omega
    · have : (2147483648 : Int) * 1 ≤ 2147483648 * p2 k := Int.mul_le_mul_of_nonneg_left (by omega) (by omega)
      omega
  obtain ⟨n, rfl⟩ : ∃ n : Nat, k = (n : Int) := ⟨k.toNat, by omega⟩
  apply Int32.toInt_inj.mp
  rw [n32 hb.1 hb.2]
  show ((i32 a).toBitVec.sshiftRight ((i32 (n : Int) &&& 31).toBitVec.smod 32).toNat).toInt = _
  rw [sh_n n (by omega), BitVec.toInt_sshiftRight]
  show (i32 a).toInt >>> n = _
  rw [n32 h1 h2, Int.shiftRight_eq_div_pow]
  unfold p2
  rw [Int.toNat_natCast]
  norm_cast
theorem i_ushr {a k : Int} (k0 : 0 ≤ k) (k1 : k < 32) : ((i32 a).toUInt32 >>> ((i32 k).toUInt32 &&& Int32.toUInt32 31)).toInt32 = i32 (a % 4294967296 / p2 k) := by
  have hp := p2_pos k
  have h0 : 0 ≤ a % 4294967296 := by omega
  have hq : a % 4294967296 / p2 k ≤ a % 4294967296 := Int.ediv_le_self _ h0
  refine i32_bv (Int.ediv_nonneg h0 (by omega)) (by omega) ?_
  obtain ⟨n, rfl⟩ : ∃ n : Nat, k = (n : Int) := ⟨k.toNat, by omega⟩
  show ((i32 a).toUInt32 >>> ((i32 (n : Int)).toUInt32 &&& Int32.toUInt32 31)).toNat = _
  rw [UInt32.toNat_shiftRight, sh_u n (by omega), Nat.shiftRight_eq_div_pow]
  show (i32 a).toBitVec.toNat / 2 ^ n = _
  rw [bn]
  unfold p2
  rw [Int.toNat_natCast]
  have e : ((a % 4294967296).toNat : Int) = a % 4294967296 := by omega
  rw [← e, show ((2 : Int) ^ n) = ((2 ^ n : Nat) : Int) by norm_cast, ← Int.natCast_ediv, Int.toNat_natCast]
  rw [Int.toNat_natCast]
theorem i_shl {k : Int} (k0 : 0 ≤ k) (k1 : k < 31) : i32 1 <<< (i32 k &&& 31) = i32 (p2 k) := by
  obtain ⟨n, rfl⟩ : ∃ n : Nat, k = (n : Int) := ⟨k.toNat, by omega⟩
  have key : ∀ n : Nat, n < 31 → i32 1 <<< (i32 (n : Int) &&& 31) = i32 (p2 n) := by decide
  exact key n (by omega)
/-- a set with one more member -/
theorem i_or {a k : Int} (k0 : 0 ≤ k) (k1 : k < 31) (h0 : 0 ≤ a) (h1 : a < p2 k) : i32 a ||| i32 (p2 k) = i32 (a + p2 k) := by
  obtain ⟨n, rfl⟩ : ∃ n : Nat, k = (n : Int) := ⟨k.toNat, by omega⟩
  have ep : p2 (n : Int) = ((2 ^ n : Nat) : Int) := by
    unfold p2
    rw [Int.toNat_natCast]
    norm_cast
  have hn : 2 ^ n < 2 ^ 31 := Nat.pow_lt_pow_right (by decide) (by omega)
  have hn : 2 ^ n < 2147483648 := hn
  rw [ep] at h1 ⊢
  refine i32_bv (by omega) (by omega) ?_
  show ((i32 a).toBitVec ||| (i32 ((2 ^ n : Nat) : Int)).toBitVec).toNat = _
  rw [BitVec.toNat_or, bn, bn, Int.emod_eq_of_lt h0 (by omega), Int.emod_eq_of_lt (by omega) (by omega), Int.toNat_natCast]
  obtain ⟨m, rfl⟩ : ∃ m : Nat, a = (m : Int) := ⟨a.toNat, by omega⟩
  have e := Nat.two_pow_add_eq_or_of_lt (i := n) (b := m) (by omega) 1
  rw [Nat.mul_one] at e
  rw [Int.toNat_natCast, Nat.or_comm, ← e]
  omega
/-- the signed byte of a number -/
def sb (x : Int) : Int := (x + 128) % 256 - 128
theorem sb_bd (x : Int) : -128 ≤ sb x ∧ sb x < 128 := by unfold sb; omega
theorem sb_mod (x : Int) : sb x % 256 = x % 256 := by unfold sb; omega
theorem sb_id {x : Int} (h0 : -128 ≤ x) (h1 : x < 128) : sb x = x := by unfold sb; omega
theorem i_b (a : Int) : (i32 a).toInt8.toInt32 = i32 (sb a) := by
  apply Int32.toInt_inj.mp
  have h := sb_bd a
  rw [n32 (by omega) (by omega), Int8.toInt_toInt32, show (i32 a).toInt8 = Int8.ofInt a from Int32.toInt8_ofInt, Int8.toInt_ofInt, Int.bmod_def]
  simp only [show ((2 ^ 8 : Nat) : Int) = 256 from rfl]
  unfold sb
  split <;> omega
theorem i_c {a : Int} (h0 : 0 ≤ a) (h1 : a < 65536) : ((i32 a).toUInt32 % 65536).toInt32 = i32 a := by
  refine i32_bv h0 (by omega) ?_
  show ((i32 a).toUInt32 % 65536).toNat = _
  rw [UInt32.toNat_mod]
  show (i32 a).toBitVec.toNat % 65536 = _
  rw [bn]
  omega
section Bits
variable {M : MI} {n b bs pc nx : Nat} {ls : List (Option AV)} {st : List AV} {σ : Hp} {Q : Res → Hp → Prop}
theorem V_iand255 {x : Int} (h : Ix M pc .iand 1 nx) (k : V M n b bs nx ls (vI (x % 256) :: st) σ Q) : V M n b bs pc ls (vI 255 :: vI x :: st) σ Q := by
  obtain ⟨hd, rfl⟩ := h
  exact V_pure k (fun ho => okS_c trivial (okS_t (okS_t ho))) (fun ad => fun hx hb ho hts hl w => lv_iand hx hb hd (by rw [i_and255]; exact w))
theorem V_iand63 {x : Int} (h : Ix M pc .iand 1 nx) (k : V M n b bs nx ls (vI (x % 64) :: st) σ Q) : V M n b bs pc ls (vI 63 :: vI x :: st) σ Q := by
  obtain ⟨hd, rfl⟩ := h
  exact V_pure k (fun ho => okS_c trivial (okS_t (okS_t ho))) (fun ad => fun hx hb ho hts hl w => lv_iand hx hb hd (by rw [i_and63]; exact w))
theorem V_iand1 {x : Int} (h : Ix M pc .iand 1 nx) (k : V M n b bs nx ls (vI (x % 2) :: st) σ Q) : V M n b bs pc ls (vI 1 :: vI x :: st) σ Q := by
  obtain ⟨hd, rfl⟩ := h
  exact V_pure k (fun ho => okS_c trivial (okS_t (okS_t ho))) (fun ad => fun hx hb ho hts hl w => lv_iand hx hb hd (by rw [i_and1]; exact w))
theorem V_ior {x y : Int} (h : Ix M pc .ior 1 nx) (hr : (0 ≤ y ∧ y < 31) ∧ 0 ≤ x ∧ x < p2 y) (k : V M n b bs nx ls (vI (x + p2 y) :: st) σ Q) : V M n b bs pc ls (vI (p2 y) :: vI x :: st) σ Q := by
  obtain ⟨hd, rfl⟩ := h
  exact V_pure k (fun ho => okS_c trivial (okS_t (okS_t ho))) (fun ad => fun hx hb ho hts hl w => lv_ior hx hb hd (by rw [i_or hr.1.1 hr.1.2 hr.2.1 hr.2.2]; exact w))
theorem V_ishl {y : Int} (h : Ix M pc .ishl 1 nx) (hr : 0 ≤ y ∧ y < 31) (k : V M n b bs nx ls (vI (p2 y) :: st) σ Q) : V M n b bs pc ls (vI y :: vI 1 :: st) σ Q := by
  obtain ⟨hd, rfl⟩ := h
  exact V_pure k (fun ho => okS_c trivial (okS_t (okS_t ho))) (fun ad => fun hx hb ho hts hl w => lv_ishl hx hb hd (by rw [i_shl hr.1 hr.2]; exact w))
theorem V_ishr {x y : Int} (h : Ix M pc .ishr 1 nx) (hr : (-2147483648 ≤ x ∧ x < 2147483648) ∧ 0 ≤ y ∧ y < 32) (k : V M n b bs nx ls (vI (x / p2 y) :: st) σ Q) : V M n b bs pc ls (vI y :: vI x :: st) σ Q := by
  obtain ⟨hd, rfl⟩ := h
  exact V_pure k (fun ho => okS_c trivial (okS_t (okS_t ho))) (fun ad => fun hx hb ho hts hl w => lv_ishr hx hb hd (by rw [i_shr hr.1.1 hr.1.2 hr.2.1 hr.2.2]; exact w))
theorem V_iushr {x y : Int} (h : Ix M pc .iushr 1 nx) (hr : 0 ≤ y ∧ y < 32) (k : V M n b bs nx ls (vI (x % 4294967296 / p2 y) :: st) σ Q) : V M n b bs pc ls (vI y :: vI x :: st) σ Q := by
  obtain ⟨hd, rfl⟩ := h
  exact V_pure k (fun ho => okS_c trivial (okS_t (okS_t ho))) (fun ad => fun hx hb ho hts hl w => lv_iushr hx hb hd (i_ushr hr.1 hr.2) w)
theorem V_i2b {x : Int} (h : Ix M pc .i2b 1 nx) (k : V M n b bs nx ls (vI (sb x) :: st) σ Q) : V M n b bs pc ls (vI x :: st) σ Q := by
  obtain ⟨hd, rfl⟩ := h
  exact V_pure k (fun ho => okS_c trivial (okS_t ho)) (fun ad => fun hx hb ho hts hl w => lv_i2b hx hb hd (i_b x) w)
theorem V_i2c {x : Int} (h : Ix M pc .i2c 1 nx) (hr : 0 ≤ x ∧ x < 65536) (k : V M n b bs nx ls (vI x :: st) σ Q) : V M n b bs pc ls (vI x :: st) σ Q := by
  obtain ⟨hd, rfl⟩ := h
  exact V_pure k (fun ho => okS_c trivial (okS_t ho)) (fun ad => fun hx hb ho hts hl w => lv_i2c hx hb hd (i_c hr.1 hr.2) w)
end Bits

