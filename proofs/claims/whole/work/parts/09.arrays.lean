section ArrR
variable {M : MI} {n b bs pc nx : Nat} {ls : List (Option AV)} {st : List AV} {σ : Hp} {Q : Res → Hp → Prop} {t i : Nat}
theorem arr_at {g : Gp} {ad : Nat → Nat → Nat} {σ : Hp} {H : Heap} {t i c N e : Nat} (hr : rep g ad σ H) (hal : σ.al t i = true) (h20 : 20 ≤ t) (ht : tgD t = (c, N, e)) : va_at g.D CL (ad t i, .inl (g.cy c, N, arE ad σ t i)) H := by
  have hat := (hr.1 t i hal).2.2
  rw [cE_arr (by omega)] at hat
  obtain ⟨h1, h2, -⟩ := tgD_tk ht
  rw [h1, h2] at hat
  exact hat
theorem tgD_lt {t c N e : Nat} (ht : tgD t = (c, N, e)) : N < 2147483648 := by
  have h := tln_lt t
  rw [(tgD_tk ht).2.1] at h
  omega
theorem tgD_90 {t c N e : Nat} (h20 : 20 ≤ t) (ht : tgD t = (c, N, e)) (hc : c < 9) : t < 90 := by
  rcases Nat.lt_or_ge t 72 with h | h
  · omega
  · have e2 : tgD t = (9, 0, 0) := by
      unfold tgD
      rw [List.getD_eq_getElem?_getD, List.getElem?_eq_none (by show 52 ≤ _; omega)]
      rfl
    rw [e2] at ht
    cases ht
    omega
theorem V_iald {x : Int} {N e : Nat} (h : Ix M pc .iaload 1 nx) (ht : tgD t = (0, N, e)) (hx : 0 ≤ x ∧ x < (N : Int)) (kk : V M n b bs nx ls (vI (σ.I t i x) :: st) σ Q) (h20 : 20 ≤ t := by exact Nat.le_of_ble_eq_true rfl) : V M n b bs pc ls (vI x :: vR (some (t, i)) :: st) σ Q := by
  obtain ⟨hd, rfl⟩ := h
  intro g ad p l e R s m args below meth c H locs cells slots lsA ad0 σ0 hp
  obtain ⟨F, rm, hS, hr, ⟨hol, hos⟩, hl, he⟩ := hp
  have hal := hr.alive (okS_h (okS_t hos)) (tgD_90 h20 ht (by decide))
  have hG := F.2.2.2.2.2.2.2.2.2
  have hat := arr_at hr hal h20 ht
  have hae : arE ad σ t i = .inl (fun k => i32 (σ.I t i (k : Int))) := by
    unfold arE
    rw [(tgD_tk ht).1]
    rfl
  rw [hae] at hat
  obtain ⟨hin, hto⟩ := nat_in hx.1 hx.2 (tgD_lt ht)
  refine va_iald (ws := [_]) F.1 F.2.1 hG.2.1.1 (one_P hat) 0 0 rfl rfl hin hd ?_
  rw [hto]
  have ex : ((x.toNat : Nat) : Int) = x := Int.toNat_of_nonneg hx.1
  have k2 := kk g ad p l e R s m args below meth c H locs cells slots lsA ad0 σ0 ⟨F, rm, hS, hr, ⟨hol, okS_c trivial (okS_t (okS_t hos))⟩, hl, he⟩
  rw [← ex] at k2
  exact k2
theorem V_cald {x : Int} {N e : Nat} (h : Ix M pc .caload 1 nx) (ht : tgD t = (2, N, e)) (hx : 0 ≤ x ∧ x < (N : Int)) (kk : V M n b bs nx ls (vI (σ.I t i x) :: st) σ Q) (h20 : 20 ≤ t := by exact Nat.le_of_ble_eq_true rfl) : V M n b bs pc ls (vI x :: vR (some (t, i)) :: st) σ Q := by
  obtain ⟨hd, rfl⟩ := h
  intro g ad p l e R s m args below meth c H locs cells slots lsA ad0 σ0 hp
  obtain ⟨F, rm, hS, hr, ⟨hol, hos⟩, hl, he⟩ := hp
  have hal := hr.alive (okS_h (okS_t hos)) (tgD_90 h20 ht (by decide))
  have hG := F.2.2.2.2.2.2.2.2.2
  have hat := arr_at hr hal h20 ht
  have hae : arE ad σ t i = .inl (fun k => i32 (σ.I t i (k : Int))) := by
    unfold arE
    rw [(tgD_tk ht).1]
    rfl
  rw [hae] at hat
  obtain ⟨hin, hto⟩ := nat_in hx.1 hx.2 (tgD_lt ht)
  refine va_cald (ws := [_]) F.1 F.2.1 hG.2.1.1 (one_P hat) 0 2 rfl rfl hin hd ?_
  rw [hto]
  have ex : ((x.toNat : Nat) : Int) = x := Int.toNat_of_nonneg hx.1
  have k2 := kk g ad p l e R s m args below meth c H locs cells slots lsA ad0 σ0 ⟨F, rm, hS, hr, ⟨hol, okS_c trivial (okS_t (okS_t hos))⟩, hl, he⟩
  rw [← ex] at k2
  exact k2
theorem V_bald {x : Int} {N e : Nat} (h : Ix M pc .baload 1 nx) (ht : tgD t = (3, N, e)) (hx : 0 ≤ x ∧ x < (N : Int)) (kk : V M n b bs nx ls (vI (σ.I t i x) :: st) σ Q) (h20 : 20 ≤ t := by exact Nat.le_of_ble_eq_true rfl) : V M n b bs pc ls (vI x :: vR (some (t, i)) :: st) σ Q := by
  obtain ⟨hd, rfl⟩ := h
  intro g ad p l e R s m args below meth c H locs cells slots lsA ad0 σ0 hp
  obtain ⟨F, rm, hS, hr, ⟨hol, hos⟩, hl, he⟩ := hp
  have hal := hr.alive (okS_h (okS_t hos)) (tgD_90 h20 ht (by decide))
  have hG := F.2.2.2.2.2.2.2.2.2
  have hat := arr_at hr hal h20 ht
  have hae : arE ad σ t i = .inl (fun k => i32 (σ.I t i (k : Int))) := by
    unfold arE
    rw [(tgD_tk ht).1]
    rfl
  rw [hae] at hat
  obtain ⟨hin, hto⟩ := nat_in hx.1 hx.2 (tgD_lt ht)
  refine va_bald (ws := [_]) F.1 F.2.1 hG.2.1.1 (one_P hat) 0 3 rfl rfl hin hd ?_
  rw [hto]
  have ex : ((x.toNat : Nat) : Int) = x := Int.toNat_of_nonneg hx.1
  have k2 := kk g ad p l e R s m args below meth c H locs cells slots lsA ad0 σ0 ⟨F, rm, hS, hr, ⟨hol, okS_c trivial (okS_t (okS_t hos))⟩, hl, he⟩
  rw [← ex] at k2
  exact k2
theorem V_lald {x : Int} {N e : Nat} (h : Ix M pc .laload 1 nx) (ht : tgD t = (1, N, e)) (hx : 0 ≤ x ∧ x < (N : Int)) (kk : V M n b bs nx ls (vL (σ.J t i x) :: st) σ Q) (h20 : 20 ≤ t := by exact Nat.le_of_ble_eq_true rfl) : V M n b bs pc ls (vI x :: vR (some (t, i)) :: st) σ Q := by
  obtain ⟨hd, rfl⟩ := h
  intro g ad p l e R s m args below meth c H locs cells slots lsA ad0 σ0 hp
  obtain ⟨F, rm, hS, hr, ⟨hol, hos⟩, hl, he⟩ := hp
  have hal := hr.alive (okS_h (okS_t hos)) (tgD_90 h20 ht (by decide))
  have hG := F.2.2.2.2.2.2.2.2.2
  have hat := arr_at hr hal h20 ht
  have hae : arE ad σ t i = .inr (.inl fun k => i64 (σ.J t i (k : Int))) := by
    unfold arE
    rw [(tgD_tk ht).1]
    rfl
  rw [hae] at hat
  obtain ⟨hin, hto⟩ := nat_in hx.1 hx.2 (tgD_lt ht)
  refine va_lald (ws := [_]) F.1 F.2.1 hG.2.1.1 (one_P hat) 0 1 rfl rfl hin hd ?_
  rw [hto]
  have ex : ((x.toNat : Nat) : Int) = x := Int.toNat_of_nonneg hx.1
  have k2 := kk g ad p l e R s m args below meth c H locs cells slots lsA ad0 σ0 ⟨F, rm, hS, hr, ⟨hol, okS_c trivial (okS_t (okS_t hos))⟩, hl, he⟩
  rw [← ex] at k2
  exact k2
theorem V_dald {x : Int} {N e : Nat} (h : Ix M pc .daload 1 nx) (ht : tgD t = (4, N, e)) (hx : 0 ≤ x ∧ x < (N : Int)) (kk : V M n b bs nx ls (vD (σ.B t i x) :: st) σ Q) (h20 : 20 ≤ t := by exact Nat.le_of_ble_eq_true rfl) : V M n b bs pc ls (vI x :: vR (some (t, i)) :: st) σ Q := by
  obtain ⟨hd, rfl⟩ := h
  intro g ad p l e R s m args below meth c H locs cells slots lsA ad0 σ0 hp
  obtain ⟨F, rm, hS, hr, ⟨hol, hos⟩, hl, he⟩ := hp
  have hal := hr.alive (okS_h (okS_t hos)) (tgD_90 h20 ht (by decide))
  have hG := F.2.2.2.2.2.2.2.2.2
  have hat := arr_at hr hal h20 ht
  have hae : arE ad σ t i = .inr (.inr (.inr (.inl fun k => σ.B t i (k : Int)))) := by
    unfold arE
    rw [(tgD_tk ht).1]
    rfl
  rw [hae] at hat
  obtain ⟨hin, hto⟩ := nat_in hx.1 hx.2 (tgD_lt ht)
  refine va_dald (ws := [_]) F.1 F.2.1 hG.2.1.1 (one_P hat) 0 4 rfl rfl hin hd ?_
  rw [hto]
  have ex : ((x.toNat : Nat) : Int) = x := Int.toNat_of_nonneg hx.1
  have k2 := kk g ad p l e R s m args below meth c H locs cells slots lsA ad0 σ0 ⟨F, rm, hS, hr, ⟨hol, okS_c trivial (okS_t (okS_t hos))⟩, hl, he⟩
  rw [← ex] at k2
  exact k2
theorem u32n (v : Int) : (i32 v).toUInt32.toNat = (v % 4294967296).toNat := by
  show (BitVec.ofInt 32 v).toNat = _
  rw [BitVec.toNat_ofInt]
  rfl
theorem nar_c {v : Int} (h : 0 ≤ v ∧ v < 65536) : narrow .char (.int (i32 v)) = .int (i32 v) := by
  have e : (i32 v).toUInt32.toUInt16.toUInt32 = (i32 v).toUInt32 := by
    apply UInt32.toNat_inj.mp
    rw [UInt16.toNat_toUInt32, UInt32.toNat_toUInt16, u32n]
    omega
  show Value.int (vp_nar .char (i32 v)) = _
  rw [vp_nar_char, e]
  rfl
theorem nar_b {v : Int} (h : -128 ≤ v ∧ v < 128) : narrow .byte (.int (i32 v)) = .int (i32 v) := by
  have e : (i32 v).toInt8.toInt32 = i32 v := by
    apply Int32.toInt_inj.mp
    rw [Int8.toInt_toInt32, Int32.toInt_toInt8, n32 (by omega) (by omega), Int.bmod_def]
    simp only [show ((2 ^ 8 : Nat) : Int) = 256 from rfl]
    split <;> omega
  show Value.int (vp_nar .byte (i32 v)) = _
  rw [vp_nar_byte, e]
theorem V_iast {x : Int} {v : Int} {N e : Nat} (h : Ix M pc .iastore 1 nx) (ht : tgD t = (0, N, e)) (hx : 0 ≤ x ∧ x < (N : Int)) (kk : V M n b bs nx ls st (σ.setI t i x v) Q) (h20 : 20 ≤ t := by exact Nat.le_of_ble_eq_true rfl) : V M n b bs pc ls (vI v :: vI x :: vR (some (t, i)) :: st) σ Q := by
  obtain ⟨hd, rfl⟩ := h
  intro g ad p l e R s m args below meth c H locs cells slots lsA ad0 σ0 hp
  obtain ⟨F, rm, hS, hr, ⟨hol, hos⟩, hl, he⟩ := hp
  have hal := hr.alive (okS_h (okS_t (okS_t hos))) (tgD_90 h20 ht (by decide))
  have hG := F.2.2.2.2.2.2.2.2.2
  have hat := arr_at hr hal h20 ht
  have hae : ∀ σ : Hp, arE ad σ t i = .inl (fun k => i32 (σ.I t i (k : Int))) := fun σ => by
    unfold arE
    rw [(tgD_tk ht).1]
    rfl
  rw [hae] at hat
  have hat : H[ad t i]? = some (arrV (g.cy 0) N (fun k => .int (i32 (σ.I t i (k : Int))))) := hat
  obtain ⟨hin, hto⟩ := nat_in hx.1 hx.2 (tgD_lt ht)
  refine W.iast F.1 F.2.1 hat ((hG.2.1.1.2 0 _ rfl).1 _ _) (fun q => by cases q) (by show ¬ (_ < 0 ∨ (arrV _ _ _).slots.size ≤ _); rw [arrV_size]; exact hin) rfl rfl hd fun H1 e1 z oq => ?_
  refine kk g ad p l e R s m args below meth c H1 _ cells slots lsA ad0 σ0 ⟨F, rm, hS.put z oq (hr.1 t i hal).1, ?_, ⟨okL_al rfl hol, okS_al rfl (okS_t (okS_t (okS_t hos)))⟩, hl, he.al rfl⟩
  refine hr.put (t := t) (i := i) hal rfl (fun k r => hr.2.2.1 t i k r hal) (fun k j => hr.2.2.2.1 t i k j hal) (fun t' i' hne => ⟨u3_ne hne, rfl, rfl, rfl, rfl⟩) rfl ?_ oq
  rw [cE_arr (by omega), (tgD_tk ht).1, (tgD_tk ht).2.1, hae]
  show H1[ad t i]? = some (arrV (g.cy 0) N (fun k => .int (i32 (u3 σ.I t i x v t i (k : Int)))))
  rw [e1, arrV_store]
  congr 2
  funext q
  unfold updV
  rw [u3_same, hto]
  by_cases hq : q = x.toNat
  · rw [if_pos hq, if_pos (by omega)]
  · rw [if_neg hq, if_neg (by omega)]
theorem V_cast {x : Int} {v : Int} {N e : Nat} (h : Ix M pc .castore 1 nx) (ht : tgD t = (2, N, e)) (hx : 0 ≤ x ∧ x < (N : Int)) (hv : 0 ≤ v ∧ v < 65536) (kk : V M n b bs nx ls st (σ.setI t i x v) Q) (h20 : 20 ≤ t := by exact Nat.le_of_ble_eq_true rfl) : V M n b bs pc ls (vI v :: vI x :: vR (some (t, i)) :: st) σ Q := by
  obtain ⟨hd, rfl⟩ := h
  intro g ad p l e R s m args below meth c H locs cells slots lsA ad0 σ0 hp
  obtain ⟨F, rm, hS, hr, ⟨hol, hos⟩, hl, he⟩ := hp
  have hal := hr.alive (okS_h (okS_t (okS_t hos))) (tgD_90 h20 ht (by decide))
  have hG := F.2.2.2.2.2.2.2.2.2
  have hat := arr_at hr hal h20 ht
  have hae : ∀ σ : Hp, arE ad σ t i = .inl (fun k => i32 (σ.I t i (k : Int))) := fun σ => by
    unfold arE
    rw [(tgD_tk ht).1]
    rfl
  rw [hae] at hat
  have hat : H[ad t i]? = some (arrV (g.cy 2) N (fun k => .int (i32 (σ.I t i (k : Int))))) := hat
  obtain ⟨hin, hto⟩ := nat_in hx.1 hx.2 (tgD_lt ht)
  refine W.cast F.1 F.2.1 hat ((hG.2.1.1.2 2 _ rfl).1 _ _) (fun q => by cases q) (by show ¬ (_ < 0 ∨ (arrV _ _ _).slots.size ≤ _); rw [arrV_size]; exact hin) rfl rfl hd fun H1 e1 z oq => ?_
  refine kk g ad p l e R s m args below meth c H1 _ cells slots lsA ad0 σ0 ⟨F, rm, hS.put z oq (hr.1 t i hal).1, ?_, ⟨okL_al rfl hol, okS_al rfl (okS_t (okS_t (okS_t hos)))⟩, hl, he.al rfl⟩
  refine hr.put (t := t) (i := i) hal rfl (fun k r => hr.2.2.1 t i k r hal) (fun k j => hr.2.2.2.1 t i k j hal) (fun t' i' hne => ⟨u3_ne hne, rfl, rfl, rfl, rfl⟩) rfl ?_ oq
  rw [cE_arr (by omega), (tgD_tk ht).1, (tgD_tk ht).2.1, hae]
  show H1[ad t i]? = some (arrV (g.cy 2) N (fun k => .int (i32 (u3 σ.I t i x v t i (k : Int)))))
  rw [e1, nar_c hv, arrV_store]
  congr 2
  funext q
  unfold updV
  rw [u3_same, hto]
  by_cases hq : q = x.toNat
  · rw [if_pos hq, if_pos (by omega)]
  · rw [if_neg hq, if_neg (by omega)]
theorem V_bast {x : Int} {v : Int} {N e : Nat} (h : Ix M pc .bastore 1 nx) (ht : tgD t = (3, N, e)) (hx : 0 ≤ x ∧ x < (N : Int)) (hv : -128 ≤ v ∧ v < 128) (kk : V M n b bs nx ls st (σ.setI t i x v) Q) (h20 : 20 ≤ t := by exact Nat.le_of_ble_eq_true rfl) : V M n b bs pc ls (vI v :: vI x :: vR (some (t, i)) :: st) σ Q := by
  obtain ⟨hd, rfl⟩ := h
  intro g ad p l e R s m args below meth c H locs cells slots lsA ad0 σ0 hp
  obtain ⟨F, rm, hS, hr, ⟨hol, hos⟩, hl, he⟩ := hp
  have hal := hr.alive (okS_h (okS_t (okS_t hos))) (tgD_90 h20 ht (by decide))
  have hG := F.2.2.2.2.2.2.2.2.2
  have hat := arr_at hr hal h20 ht
  have hae : ∀ σ : Hp, arE ad σ t i = .inl (fun k => i32 (σ.I t i (k : Int))) := fun σ => by
    unfold arE
    rw [(tgD_tk ht).1]
    rfl
  rw [hae] at hat
  have hat : H[ad t i]? = some (arrV (g.cy 3) N (fun k => .int (i32 (σ.I t i (k : Int))))) := hat
  obtain ⟨hin, hto⟩ := nat_in hx.1 hx.2 (tgD_lt ht)
  refine W.bast F.1 F.2.1 hat ((hG.2.1.1.2 3 _ rfl).1 _ _) (fun q => by cases q) (by show ¬ (_ < 0 ∨ (arrV _ _ _).slots.size ≤ _); rw [arrV_size]; exact hin) rfl rfl hd fun H1 e1 z oq => ?_
  refine kk g ad p l e R s m args below meth c H1 _ cells slots lsA ad0 σ0 ⟨F, rm, hS.put z oq (hr.1 t i hal).1, ?_, ⟨okL_al rfl hol, okS_al rfl (okS_t (okS_t (okS_t hos)))⟩, hl, he.al rfl⟩
  refine hr.put (t := t) (i := i) hal rfl (fun k r => hr.2.2.1 t i k r hal) (fun k j => hr.2.2.2.1 t i k j hal) (fun t' i' hne => ⟨u3_ne hne, rfl, rfl, rfl, rfl⟩) rfl ?_ oq
  rw [cE_arr (by omega), (tgD_tk ht).1, (tgD_tk ht).2.1, hae]
  show H1[ad t i]? = some (arrV (g.cy 3) N (fun k => .int (i32 (u3 σ.I t i x v t i (k : Int)))))
  rw [e1, nar_b hv, arrV_store]
  congr 2
  funext q
  unfold updV
  rw [u3_same, hto]
  by_cases hq : q = x.toNat
  · rw [if_pos hq, if_pos (by omega)]
  · rw [if_neg hq, if_neg (by omega)]
theorem V_last {x : Int} {v : Int} {N e : Nat} (h : Ix M pc .lastore 1 nx) (ht : tgD t = (1, N, e)) (hx : 0 ≤ x ∧ x < (N : Int)) (kk : V M n b bs nx ls st (σ.setJ t i x v) Q) (h20 : 20 ≤ t := by exact Nat.le_of_ble_eq_true rfl) : V M n b bs pc ls (vL v :: vI x :: vR (some (t, i)) :: st) σ Q := by
  obtain ⟨hd, rfl⟩ := h
  intro g ad p l e R s m args below meth c H locs cells slots lsA ad0 σ0 hp
  obtain ⟨F, rm, hS, hr, ⟨hol, hos⟩, hl, he⟩ := hp
  have hal := hr.alive (okS_h (okS_t (okS_t hos))) (tgD_90 h20 ht (by decide))
  have hG := F.2.2.2.2.2.2.2.2.2
  have hat := arr_at hr hal h20 ht
  have hae : ∀ σ : Hp, arE ad σ t i = .inr (.inl fun k => i64 (σ.J t i (k : Int))) := fun σ => by
    unfold arE
    rw [(tgD_tk ht).1]
    rfl
  rw [hae] at hat
  have hat : H[ad t i]? = some (arrV (g.cy 1) N (fun k => .long (i64 (σ.J t i (k : Int))))) := hat
  obtain ⟨hin, hto⟩ := nat_in hx.1 hx.2 (tgD_lt ht)
  refine W.last F.1 F.2.1 hat ((hG.2.1.1.2 1 _ rfl).1 _ _) (fun q => by cases q) (by show ¬ (_ < 0 ∨ (arrV _ _ _).slots.size ≤ _); rw [arrV_size]; exact hin) rfl rfl hd fun H1 e1 z oq => ?_
  refine kk g ad p l e R s m args below meth c H1 _ cells slots lsA ad0 σ0 ⟨F, rm, hS.put z oq (hr.1 t i hal).1, ?_, ⟨okL_al rfl hol, okS_al rfl (okS_t (okS_t (okS_t hos)))⟩, hl, he.al rfl⟩
  refine hr.put (t := t) (i := i) hal rfl (fun k r => hr.2.2.1 t i k r hal) (fun k j => hr.2.2.2.1 t i k j hal) (fun t' i' hne => ⟨rfl, u3_ne hne, rfl, rfl, rfl⟩) rfl ?_ oq
  rw [cE_arr (by omega), (tgD_tk ht).1, (tgD_tk ht).2.1, hae]
  show H1[ad t i]? = some (arrV (g.cy 1) N (fun k => .long (i64 (u3 σ.J t i x v t i (k : Int)))))
  rw [e1, arrV_store]
  congr 2
  funext q
  unfold updV
  rw [u3_same, hto]
  by_cases hq : q = x.toNat
  · rw [if_pos hq, if_pos (by omega)]
  · rw [if_neg hq, if_neg (by omega)]
theorem V_dast {x : Int} {v : UInt64} {N e : Nat} (h : Ix M pc .dastore 1 nx) (ht : tgD t = (4, N, e)) (hx : 0 ≤ x ∧ x < (N : Int)) (kk : V M n b bs nx ls st (σ.setB t i x v) Q) (h20 : 20 ≤ t := by exact Nat.le_of_ble_eq_true rfl) : V M n b bs pc ls (vD v :: vI x :: vR (some (t, i)) :: st) σ Q := by
  obtain ⟨hd, rfl⟩ := h
  intro g ad p l e R s m args below meth c H locs cells slots lsA ad0 σ0 hp
  obtain ⟨F, rm, hS, hr, ⟨hol, hos⟩, hl, he⟩ := hp
  have hal := hr.alive (okS_h (okS_t (okS_t hos))) (tgD_90 h20 ht (by decide))
  have hG := F.2.2.2.2.2.2.2.2.2
  have hat := arr_at hr hal h20 ht
  have hae : ∀ σ : Hp, arE ad σ t i = .inr (.inr (.inr (.inl fun k => σ.B t i (k : Int)))) := fun σ => by
    unfold arE
    rw [(tgD_tk ht).1]
    rfl
  rw [hae] at hat
  have hat : H[ad t i]? = some (arrV (g.cy 4) N (fun k => .double (σ.B t i (k : Int)))) := hat
  obtain ⟨hin, hto⟩ := nat_in hx.1 hx.2 (tgD_lt ht)
  refine W.dast F.1 F.2.1 hat ((hG.2.1.1.2 4 _ rfl).1 _ _) (fun q => by cases q) (by show ¬ (_ < 0 ∨ (arrV _ _ _).slots.size ≤ _); rw [arrV_size]; exact hin) rfl rfl hd fun H1 e1 z oq => ?_
  refine kk g ad p l e R s m args below meth c H1 _ cells slots lsA ad0 σ0 ⟨F, rm, hS.put z oq (hr.1 t i hal).1, ?_, ⟨okL_al rfl hol, okS_al rfl (okS_t (okS_t (okS_t hos)))⟩, hl, he.al rfl⟩
  refine hr.put (t := t) (i := i) hal rfl (fun k r => hr.2.2.1 t i k r hal) (fun k j => hr.2.2.2.1 t i k j hal) (fun t' i' hne => ⟨rfl, rfl, rfl, rfl, u3_ne hne⟩) rfl ?_ oq
  rw [cE_arr (by omega), (tgD_tk ht).1, (tgD_tk ht).2.1, hae]
  show H1[ad t i]? = some (arrV (g.cy 4) N (fun k => .double (u3 σ.B t i x v t i (k : Int))))
  rw [e1, arrV_store]
  congr 2
  funext q
  unfold updV
  rw [u3_same, hto]
  by_cases hq : q = x.toNat
  · rw [if_pos hq, if_pos (by omega)]
  · rw [if_neg hq, if_neg (by omega)]
end ArrR
