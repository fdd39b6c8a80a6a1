theorem okS_c {σ : Hp} {v : AV} {st : List AV} (h : okV σ v) (h2 : okS σ st) : okS σ (v :: st) := fun x hx => (List.mem_cons.mp hx).elim (fun e => e ▸ h) (h2 x)
theorem okS_h {σ : Hp} {v : AV} {st : List AV} (h : okS σ (v :: st)) : okV σ v := h v List.mem_cons_self
theorem okS_t {σ : Hp} {v : AV} {st : List AV} (h : okS σ (v :: st)) : okS σ st := fun x hx => h x (List.mem_cons_of_mem _ hx)
section Pure
variable {M : MI} {n b bs pc nx tgt : Nat} {ls : List (Option AV)} {st : List AV} {σ : Hp} {Q : Res → Hp → Prop}
theorem V_pure {st st' : List AV} (k : V M n b bs nx ls st' σ Q) (hok : okS σ st → okS σ st')
    (hw : ∀ (ad : Nat → Nat → Nat) {p : Program} {l : Launch} {e : Env} {R : Room} {s : State} {m : MethodId} {args : Array Value} {below : List Frame} {meth : Method} {c : Code} {H : Heap} {locs : List Loc} {cells slots : Nat} {lsA : Array Slot} {Z : State → Prop}, p.tables.exec = Jvm.exec → c.code = M.cc → s.vm.findClass M.own = some m.cls → (∀ w ∈ lw_tbl, (goodWord w || nestW w) = true → ∀ a, w.before a s = true) → lvs ad M.mL lsA ls →
      W p l e R s m args below meth c H locs cells slots Z (F0 m nx lsA (st'.map (toV ad))) → W p l e R s m args below meth c H locs cells slots Z (F0 m pc lsA (st.map (toV ad)))) : V M n b bs pc ls st σ Q := by
  intro g ad p l e R s m args below meth c H locs cells slots lsA ad0 σ0 hp
  obtain ⟨F, rm, hS, hr, ⟨hol, hos⟩, hl, he⟩ := hp
  exact hw ad F.1 F.2.1 F.2.2.2.1 F.2.2.2.2.2.2.2.2.2.1 hl (k g ad p l e R s m args below meth c H locs cells slots lsA ad0 σ0 ⟨F, rm, hS, hr, ⟨hol, hok hos⟩, hl, he⟩)
/-- two ways to go on -/
theorem V_two {tt : Prop} {tp np : Nat} {st' : List AV} (kt : tt → V M n b bs tp ls st' σ Q) (kf : ¬ tt → V M n b bs np ls st' σ Q) (hok : okS σ st → okS σ st')
    (hw : ∀ (ad : Nat → Nat → Nat) {p : Program} {l : Launch} {e : Env} {R : Room} {s : State} {m : MethodId} {args : Array Value} {below : List Frame} {meth : Method} {c : Code} {H : Heap} {locs : List Loc} {cells slots : Nat} {lsA : Array Slot} {Z : State → Prop}, p.tables.exec = Jvm.exec → c.code = M.cc →
      (tt → W p l e R s m args below meth c H locs cells slots Z (F0 m tp lsA (st'.map (toV ad)))) → (¬ tt → W p l e R s m args below meth c H locs cells slots Z (F0 m np lsA (st'.map (toV ad)))) → W p l e R s m args below meth c H locs cells slots Z (F0 m pc lsA (st.map (toV ad)))) : V M n b bs pc ls st σ Q := by
  intro g ad p l e R s m args below meth c H locs cells slots lsA ad0 σ0 hp
  obtain ⟨F, rm, hS, hr, ⟨hol, hos⟩, hl, he⟩ := hp
  exact hw ad F.1 F.2.1 (fun h => kt h g ad p l e R s m args below meth c H locs cells slots lsA ad0 σ0 ⟨F, rm, hS, hr, ⟨hol, hok hos⟩, hl, he⟩) (fun h => kf h g ad p l e R s m args below meth c H locs cells slots lsA ad0 σ0 ⟨F, rm, hS, hr, ⟨hol, hok hos⟩, hl, he⟩)
theorem V_iconst {c : Int} (h : Ix M pc (.iconst c) 1 nx)  (k : V M n b bs nx ls (vI c :: st) σ Q) : V M n b bs pc ls (st) σ Q := by
  obtain ⟨hd, rfl⟩ := h
  exact V_pure k (fun ho => okS_c trivial ho) (fun ad => fun hx hb ho hts hl w => lv_iconst hx hb hd rfl w)
theorem i8_32 {c : Int} (h1 : -128 ≤ c) (h2 : c < 128) : (Int8.ofInt c).toInt32 = i32 c := by
  apply Int32.toInt_inj.mp
  rw [Int8.toInt_toInt32, n32 (by omega) (by omega), Int8.toInt_ofInt, Int.bmod_def]
  simp only [show ((2 ^ 8 : Nat) : Int) = 256 from rfl]
  split <;> omega
theorem i16_32 {c : Int} (h1 : -32768 ≤ c) (h2 : c < 32768) : (Int16.ofInt c).toInt32 = i32 c := by
  apply Int32.toInt_inj.mp
  rw [Int16.toInt_toInt32, n32 (by omega) (by omega), Int16.toInt_ofInt, Int.bmod_def]
  simp only [show ((2 ^ 16 : Nat) : Int) = 65536 from rfl]
  split <;> omega
theorem V_bipush {c : Int} (h : Ix M pc (.bipush c) 2 nx) (hc : -128 ≤ c ∧ c < 128) (k : V M n b bs nx ls (vI c :: st) σ Q) : V M n b bs pc ls (st) σ Q := by
  obtain ⟨hd, rfl⟩ := h
  exact V_pure k (fun ho => okS_c trivial ho) (fun ad => fun hx hb ho hts hl w => lv_bipush hx hb hd (i8_32 hc.1 hc.2) w)
theorem V_sipush {c : Int} (h : Ix M pc (.sipush c) 3 nx) (hc : -32768 ≤ c ∧ c < 32768) (k : V M n b bs nx ls (vI c :: st) σ Q) : V M n b bs pc ls (st) σ Q := by
  obtain ⟨hd, rfl⟩ := h
  exact V_pure k (fun ho => okS_c trivial ho) (fun ad => fun hx hb ho hts hl w => lv_sipush hx hb hd (i16_32 hc.1 hc.2) w)
theorem V_lconst0  (h : Ix M pc (.lconst 0) 1 nx)  (k : V M n b bs nx ls (vL 0 :: st) σ Q) : V M n b bs pc ls (st) σ Q := by
  obtain ⟨hd, rfl⟩ := h
  exact V_pure k (fun ho => okS_c trivial ho) (fun ad => fun hx hb ho hts hl w => lv_lconst (v := i64 0) hx hb hd rfl w)
theorem V_lconst1  (h : Ix M pc (.lconst 1) 1 nx)  (k : V M n b bs nx ls (vL 1 :: st) σ Q) : V M n b bs pc ls (st) σ Q := by
  obtain ⟨hd, rfl⟩ := h
  exact V_pure k (fun ho => okS_c trivial ho) (fun ad => fun hx hb ho hts hl w => lv_lconst (v := i64 1) hx hb hd rfl w)
theorem V_dconst0  (h : Ix M pc (.dconst 0) 1 nx)  (k : V M n b bs nx ls (vD FP.dconst0 :: st) σ Q) : V M n b bs pc ls (st) σ Q := by
  obtain ⟨hd, rfl⟩ := h
  exact V_pure k (fun ho => okS_c trivial ho) (fun ad => fun hx hb ho hts hl w => lv_dconst0 hx hb hd w)
theorem V_ldc {i : Nat} {c : Int} (h : Ix M pc (.ldc i) 2 nx) (hw : Cond.constant M.own i (i32 c) ∈ lw_tbl) (k : V M n b bs nx ls (vI c :: st) σ Q) : V M n b bs pc ls (st) σ Q := by
  obtain ⟨hd, rfl⟩ := h
  exact V_pure k (fun ho => okS_c trivial ho) (fun ad => fun hx hb ho hts hl w => lv_ldc hx hb ho (hts _ hw rfl _) hd w)
theorem V_ldc_w {i : Nat} {c : Int} (h : Ix M pc (.ldc_w i) 3 nx) (hw : Cond.constant M.own i (i32 c) ∈ lw_tbl) (k : V M n b bs nx ls (vI c :: st) σ Q) : V M n b bs pc ls (st) σ Q := by
  obtain ⟨hd, rfl⟩ := h
  exact V_pure k (fun ho => okS_c trivial ho) (fun ad => fun hx hb ho hts hl w => lv_ldcw hx hb ho (hts _ hw rfl _) hd w)
theorem V_ldc2 {i : Nat} {c : Int} (h : Ix M pc (.ldc2_w i) 3 nx) (hw : Cond.constantLong M.own i (i64 c) ∈ lw_tbl) (k : V M n b bs nx ls (vL c :: st) σ Q) : V M n b bs pc ls (st) σ Q := by
  obtain ⟨hd, rfl⟩ := h
  exact V_pure k (fun ho => okS_c trivial ho) (fun ad => fun hx hb ho hts hl w => lv_ldc2 hx hb ho (hts _ hw rfl _) hd w)
theorem V_iadd {x y : Int} (h : Ix M pc .iadd 1 nx)  (k : V M n b bs nx ls (vI (x + y) :: st) σ Q) : V M n b bs pc ls (vI y :: vI x :: st) σ Q := by
  obtain ⟨hd, rfl⟩ := h
  exact V_pure k (fun ho => okS_c trivial (okS_t (okS_t ho))) (fun ad => fun hx hb ho hts hl w => lv_iadd hx hb hd (by have w2 : W _ _ _ _ _ _ _ _ _ _ _ _ _ _ _ (F0 _ _ _ (.int (i32 (x + y)) :: st.map (toV ad))) := w; rw [i32_add] at w2; exact w2))
theorem V_isub {x y : Int} (h : Ix M pc .isub 1 nx)  (k : V M n b bs nx ls (vI (x - y) :: st) σ Q) : V M n b bs pc ls (vI y :: vI x :: st) σ Q := by
  obtain ⟨hd, rfl⟩ := h
  exact V_pure k (fun ho => okS_c trivial (okS_t (okS_t ho))) (fun ad => fun hx hb ho hts hl w => lv_isub hx hb hd (by have w2 : W _ _ _ _ _ _ _ _ _ _ _ _ _ _ _ (F0 _ _ _ (.int (i32 (x - y)) :: st.map (toV ad))) := w; rw [i32_sub] at w2; exact w2))
theorem V_imul {x y : Int} (h : Ix M pc .imul 1 nx)  (k : V M n b bs nx ls (vI (x * y) :: st) σ Q) : V M n b bs pc ls (vI y :: vI x :: st) σ Q := by
  obtain ⟨hd, rfl⟩ := h
  exact V_pure k (fun ho => okS_c trivial (okS_t (okS_t ho))) (fun ad => fun hx hb ho hts hl w => lv_imul hx hb hd (by have w2 : W _ _ _ _ _ _ _ _ _ _ _ _ _ _ _ (F0 _ _ _ (.int (i32 (x * y)) :: st.map (toV ad))) := w; rw [i32_mul] at w2; exact w2))
theorem V_ladd {x y : Int} (h : Ix M pc .ladd 1 nx)  (k : V M n b bs nx ls (vL (x + y) :: st) σ Q) : V M n b bs pc ls (vL y :: vL x :: st) σ Q := by
  obtain ⟨hd, rfl⟩ := h
  exact V_pure k (fun ho => okS_c trivial (okS_t (okS_t ho))) (fun ad => fun hx hb ho hts hl w => lv_ladd hx hb hd (by have w2 : W _ _ _ _ _ _ _ _ _ _ _ _ _ _ _ (F0 _ _ _ (.long (i64 (x + y)) :: st.map (toV ad))) := w; rw [i64_add] at w2; exact w2))
theorem V_lsub {x y : Int} (h : Ix M pc .lsub 1 nx)  (k : V M n b bs nx ls (vL (x - y) :: st) σ Q) : V M n b bs pc ls (vL y :: vL x :: st) σ Q := by
  obtain ⟨hd, rfl⟩ := h
  exact V_pure k (fun ho => okS_c trivial (okS_t (okS_t ho))) (fun ad => fun hx hb ho hts hl w => lv_lsub hx hb hd (by have w2 : W _ _ _ _ _ _ _ _ _ _ _ _ _ _ _ (F0 _ _ _ (.long (i64 (x - y)) :: st.map (toV ad))) := w; rw [i64_sub] at w2; exact w2))
theorem V_lmul {x y : Int} (h : Ix M pc .lmul 1 nx)  (k : V M n b bs nx ls (vL (x * y) :: st) σ Q) : V M n b bs pc ls (vL y :: vL x :: st) σ Q := by
  obtain ⟨hd, rfl⟩ := h
  exact V_pure k (fun ho => okS_c trivial (okS_t (okS_t ho))) (fun ad => fun hx hb ho hts hl w => lv_lmul hx hb hd (by have w2 : W _ _ _ _ _ _ _ _ _ _ _ _ _ _ _ (F0 _ _ _ (.long (i64 (x * y)) :: st.map (toV ad))) := w; rw [i64_mul] at w2; exact w2))
theorem V_ineg {x : Int} (h : Ix M pc .ineg 1 nx)  (k : V M n b bs nx ls (vI (-x) :: st) σ Q) : V M n b bs pc ls (vI x :: st) σ Q := by
  obtain ⟨hd, rfl⟩ := h
  exact V_pure k (fun ho => okS_c trivial (okS_t ho)) (fun ad => fun hx hb ho hts hl w => lv_ineg hx hb hd (by have w2 : W _ _ _ _ _ _ _ _ _ _ _ _ _ _ _ (F0 _ _ _ (.int (i32 (-x)) :: st.map (toV ad))) := w; rw [i32_neg] at w2; exact w2))
theorem V_lneg {x : Int} (h : Ix M pc .lneg 1 nx)  (k : V M n b bs nx ls (vL (-x) :: st) σ Q) : V M n b bs pc ls (vL x :: st) σ Q := by
  obtain ⟨hd, rfl⟩ := h
  exact V_pure k (fun ho => okS_c trivial (okS_t ho)) (fun ad => fun hx hb ho hts hl w => lv_lneg hx hb hd (by have w2 : W _ _ _ _ _ _ _ _ _ _ _ _ _ _ _ (F0 _ _ _ (.long (i64 (-x)) :: st.map (toV ad))) := w; rw [i64_neg] at w2; exact w2))
theorem V_i2l {x : Int} (h : Ix M pc .i2l 1 nx) (hr : -2147483648 ≤ x ∧ x < 2147483648) (k : V M n b bs nx ls (vL x :: st) σ Q) : V M n b bs pc ls (vI x :: st) σ Q := by
  obtain ⟨hd, rfl⟩ := h
  exact V_pure k (fun ho => okS_c trivial (okS_t ho)) (fun ad => fun hx hb ho hts hl w => lv_i2l hx hb hd (i_l hr.1 hr.2) w)
theorem V_l2i {x : Int} (h : Ix M pc .l2i 1 nx)  (k : V M n b bs nx ls (vI x :: st) σ Q) : V M n b bs pc ls (vL x :: st) σ Q := by
  obtain ⟨hd, rfl⟩ := h
  exact V_pure k (fun ho => okS_c trivial (okS_t ho)) (fun ad => fun hx hb ho hts hl w => lv_l2i hx hb hd (l_i x) w)
theorem V_idiv {x y : Int} (h : Ix M pc .idiv 1 nx) (hr : (-2147483648 < x ∧ x < 2147483648) ∧ 0 < y ∧ y < 2147483648) (k : V M n b bs nx ls (vI (x.tdiv y) :: st) σ Q) : V M n b bs pc ls (vI y :: vI x :: st) σ Q := by
  obtain ⟨hd, rfl⟩ := h
  exact V_pure k (fun ho => okS_c trivial (okS_t (okS_t ho))) (fun ad => fun hx hb ho hts hl w => lv_idiv hx hb hd (fun q => by have h2 := (i_eq (a := y) (b := 0) (by omega) (by omega) (by omega) (by omega)).mp q; omega) (by rw [i_div hr.1.1 hr.1.2 (by omega) hr.2.2]; exact w))
theorem V_irem {x y : Int} (h : Ix M pc .irem 1 nx) (hr : (-2147483648 < x ∧ x < 2147483648) ∧ 0 < y ∧ y < 2147483648) (k : V M n b bs nx ls (vI (x.tmod y) :: st) σ Q) : V M n b bs pc ls (vI y :: vI x :: st) σ Q := by
  obtain ⟨hd, rfl⟩ := h
  exact V_pure k (fun ho => okS_c trivial (okS_t (okS_t ho))) (fun ad => fun hx hb ho hts hl w => lv_irem hx hb hd (fun q => by have h2 := (i_eq (a := y) (b := 0) (by omega) (by omega) (by omega) (by omega)).mp q; omega) (by rw [i_rem hr.1.1 hr.1.2 (by omega) hr.2.2]; exact w))
theorem V_ldiv {x y : Int} (h : Ix M pc .ldiv 1 nx) (hr : (-9223372036854775808 < x ∧ x < 9223372036854775808) ∧ 0 < y ∧ y < 9223372036854775808) (k : V M n b bs nx ls (vL (x.tdiv y) :: st) σ Q) : V M n b bs pc ls (vL y :: vL x :: st) σ Q := by
  obtain ⟨hd, rfl⟩ := h
  exact V_pure k (fun ho => okS_c trivial (okS_t (okS_t ho))) (fun ad => fun hx hb ho hts hl w => lv_ldiv hx hb hd (fun q => by have h2 := (l_eq (a := y) (b := 0) (by omega) (by omega) (by omega) (by omega)).mp q; omega) (by rw [l_div hr.1.1 hr.1.2 (by omega) hr.2.2]; exact w))
theorem V_lrem {x y : Int} (h : Ix M pc .lrem 1 nx) (hr : (-9223372036854775808 < x ∧ x < 9223372036854775808) ∧ 0 < y ∧ y < 9223372036854775808) (k : V M n b bs nx ls (vL (x.tmod y) :: st) σ Q) : V M n b bs pc ls (vL y :: vL x :: st) σ Q := by
  obtain ⟨hd, rfl⟩ := h
  exact V_pure k (fun ho => okS_c trivial (okS_t (okS_t ho))) (fun ad => fun hx hb ho hts hl w => lv_lrem hx hb hd (fun q => by have h2 := (l_eq (a := y) (b := 0) (by omega) (by omega) (by omega) (by omega)).mp q; omega) (by rw [l_rem hr.1.1 hr.1.2 (by omega) hr.2.2]; exact w))
theorem V_lcmp {x y : Int} (h : Ix M pc .lcmp 1 nx) (hr : (-9223372036854775808 ≤ x ∧ x < 9223372036854775808) ∧ -9223372036854775808 ≤ y ∧ y < 9223372036854775808) (k : V M n b bs nx ls (vI (cmpI x y) :: st) σ Q) : V M n b bs pc ls (vL y :: vL x :: st) σ Q := by
  obtain ⟨hd, rfl⟩ := h
  exact V_pure k (fun ho => okS_c trivial (okS_t (okS_t ho))) (fun ad => fun hx hb ho hts hl w => W.lcmp hx hb hd (by rw [l_cmp hr.1.1 hr.1.2 hr.2.1 hr.2.2]; exact w))
theorem V_lcmpG {x y : Int} (h : Ix M pc .lcmp 1 nx)  (k : V M n b bs nx ls (vI (c64 x y) :: st) σ Q) : V M n b bs pc ls (vL y :: vL x :: st) σ Q := by
  obtain ⟨hd, rfl⟩ := h
  exact V_pure k (fun ho => okS_c trivial (okS_t (okS_t ho))) (fun ad => fun hx hb ho hts hl w => W.lcmp hx hb hd (by rw [l_cmpG]; exact w))
theorem cat_I (x : Int) (ad : Nat → Nat → Nat) : (toV ad (vI x)).category = 1 := rfl
theorem cat_R (r : Option (Nat × Nat)) (ad : Nat → Nat → Nat) : (toV ad (vR r)).category = 1 := by cases r <;> rfl
theorem V_dupI {x : Int} (h : Ix M pc .dup 1 nx)  (k : V M n b bs nx ls (vI x :: vI x :: st) σ Q) : V M n b bs pc ls (vI x :: st) σ Q := by
  obtain ⟨hd, rfl⟩ := h
  exact V_pure k (fun ho => okS_c (okS_h ho) ho) (fun ad => fun hx hb ho hts hl w => lv_dup hx hb hd (cat_I x ad) w)
theorem V_popI {x : Int} (h : Ix M pc .pop 1 nx)  (k : V M n b bs nx ls (st) σ Q) : V M n b bs pc ls (vI x :: st) σ Q := by
  obtain ⟨hd, rfl⟩ := h
  exact V_pure k (fun ho => okS_t ho) (fun ad => fun hx hb ho hts hl w => lv_pop hx hb hd (cat_I x ad) w)
theorem V_dupR {x : Option (Nat × Nat)} (h : Ix M pc .dup 1 nx)  (k : V M n b bs nx ls (vR x :: vR x :: st) σ Q) : V M n b bs pc ls (vR x :: st) σ Q := by
  obtain ⟨hd, rfl⟩ := h
  exact V_pure k (fun ho => okS_c (okS_h ho) ho) (fun ad => fun hx hb ho hts hl w => lv_dup hx hb hd (cat_R x ad) w)
theorem V_popR {x : Option (Nat × Nat)} (h : Ix M pc .pop 1 nx)  (k : V M n b bs nx ls (st) σ Q) : V M n b bs pc ls (vR x :: st) σ Q := by
  obtain ⟨hd, rfl⟩ := h
  exact V_pure k (fun ho => okS_t ho) (fun ad => fun hx hb ho hts hl w => lv_pop hx hb hd (cat_R x ad) w)
theorem V_dup2L {x : Int} (h : Ix M pc .dup2 1 nx)  (k : V M n b bs nx ls (vL x :: vL x :: st) σ Q) : V M n b bs pc ls (vL x :: st) σ Q := by
  obtain ⟨hd, rfl⟩ := h
  exact V_pure k (fun ho => okS_c (okS_h ho) ho) (fun ad => fun hx hb ho hts hl w => lv_dup2_2 hx hb hd rfl w)
theorem V_pop2L {x : Int} (h : Ix M pc .pop2 1 nx)  (k : V M n b bs nx ls (st) σ Q) : V M n b bs pc ls (vL x :: st) σ Q := by
  obtain ⟨hd, rfl⟩ := h
  exact V_pure k (fun ho => okS_t ho) (fun ad => fun hx hb ho hts hl w => lv_pop2_2 hx hb hd rfl w)
theorem V_dup2D {x : UInt64} (h : Ix M pc .dup2 1 nx)  (k : V M n b bs nx ls (vD x :: vD x :: st) σ Q) : V M n b bs pc ls (vD x :: st) σ Q := by
  obtain ⟨hd, rfl⟩ := h
  exact V_pure k (fun ho => okS_c (okS_h ho) ho) (fun ad => fun hx hb ho hts hl w => lv_dup2_2 hx hb hd rfl w)
theorem V_pop2D {x : UInt64} (h : Ix M pc .pop2 1 nx)  (k : V M n b bs nx ls (st) σ Q) : V M n b bs pc ls (vD x :: st) σ Q := by
  obtain ⟨hd, rfl⟩ := h
  exact V_pure k (fun ho => okS_t ho) (fun ad => fun hx hb ho hts hl w => lv_pop2_2 hx hb hd rfl w)
theorem V_dup2IR {x : Int} {r : Option (Nat × Nat)} (h : Ix M pc .dup2 1 nx)  (k : V M n b bs nx ls (vI x :: vR r :: vI x :: vR r :: st) σ Q) : V M n b bs pc ls (vI x :: vR r :: st) σ Q := by
  obtain ⟨hd, rfl⟩ := h
  exact V_pure k (fun ho => okS_c trivial (okS_c (okS_h (okS_t ho)) ho)) (fun ad => fun hx hb ho hts hl w => lv_dup2_11 hx hb hd (cat_I x ad) (cat_R r ad) w)
theorem V_dup_x1IR {x : Int} {r : Option (Nat × Nat)} (h : Ix M pc .dup_x1 1 nx)  (k : V M n b bs nx ls (vI x :: vR r :: vI x :: st) σ Q) : V M n b bs pc ls (vI x :: vR r :: st) σ Q := by
  obtain ⟨hd, rfl⟩ := h
  exact V_pure k (fun ho => okS_c trivial (okS_c (okS_h (okS_t ho)) (okS_c trivial (okS_t (okS_t ho))))) (fun ad => fun hx hb ho hts hl w => lv_dup_x1 hx hb hd (cat_I x ad) (cat_R r ad) w)
theorem V_i2d {x : Int} (h : Ix M pc .i2d 1 nx)  (k : V M n b bs nx ls (vD (FP.i2d (i32 x)) :: st) σ Q) : V M n b bs pc ls (vI x :: st) σ Q := by
  obtain ⟨hd, rfl⟩ := h
  exact V_pure k (fun ho => okS_c trivial (okS_t ho)) (fun ad => fun hx hb ho hts hl w => lv_i2d hx hb hd w)
theorem V_l2d {x : Int} (h : Ix M pc .l2d 1 nx)  (k : V M n b bs nx ls (vD (FP.l2d (i64 x)) :: st) σ Q) : V M n b bs pc ls (vL x :: st) σ Q := by
  obtain ⟨hd, rfl⟩ := h
  exact V_pure k (fun ho => okS_c trivial (okS_t ho)) (fun ad => fun hx hb ho hts hl w => lv_l2d hx hb hd w)
theorem V_ddiv {x y : UInt64} (h : Ix M pc .ddiv 1 nx) (hn : vf_n64 (FP.ddiv x y)) (k : V M n b bs nx ls (vD (FP.ddiv x y) :: st) σ Q) : V M n b bs pc ls (vD y :: vD x :: st) σ Q := by
  obtain ⟨hd, rfl⟩ := h
  exact V_pure k (fun ho => okS_c trivial (okS_t (okS_t ho))) (fun ad => fun hx hb ho hts hl w => lv_ddiv hx hb hd hn w)
theorem V_dcmp {x y : UInt64} {op : CmpOp} {z : Int} (h : Ix M pc (.dcmp op) 1 nx) (hz : Op.cmpValue (FP.dcmp x y) op = i32 z) (k : V M n b bs nx ls (vI z :: st) σ Q) : V M n b bs pc ls (vD y :: vD x :: st) σ Q := by
  obtain ⟨hd, rfl⟩ := h
  exact V_pure k (fun ho => okS_c trivial (okS_t (okS_t ho))) (fun ad => fun hx hb ho hts hl w => lv_dcmp hx hb hd (by rw [hz]; exact w))
theorem V_goto (h : Ij M pc .goto 3 nx tgt) (k : V M n b bs tgt ls st σ Q) : V M n b bs pc ls st σ Q := by
  obtain ⟨off, hd, -, ht⟩ := h
  exact V_pure k id (fun ad => fun hx hb ho hts hl w => lv_goto hx hb hd ht w)
theorem V_icmp_eq {x y : Int} (h : Ij M pc (.if_icmp .eq) 3 nx tgt) (hr : (-2147483648 ≤ x ∧ x < 2147483648) ∧ -2147483648 ≤ y ∧ y < 2147483648) (kt : x = y → V M n b bs tgt ls st σ Q) (kf : ¬ (x = y) → V M n b bs nx ls st σ Q) : V M n b bs pc ls (vI y :: vI x :: st) σ Q := by
  obtain ⟨off, hd, rfl, ht⟩ := h
  have e := i_eq (a := x) (b := y) (by omega) (by omega) (by omega) (by omega)
  exact V_two kt kf (fun ho => okS_t (okS_t ho)) (fun ad => fun hx hb kt kf => lv_icmp_eq hx hb hd ht (fun q => kt (e.mp q)) (fun q => kf (fun z => q (e.mpr z))))
theorem V_icmp_eq_t {x y : Int} (h : Ij M pc (.if_icmp .eq) 3 nx tgt) (hr : (-2147483648 ≤ x ∧ x < 2147483648) ∧ -2147483648 ≤ y ∧ y < 2147483648) (hc : x = y) (k : V M n b bs tgt ls st σ Q) : V M n b bs pc ls (vI y :: vI x :: st) σ Q := V_icmp_eq h hr (fun _ => k) (fun q => absurd hc q)
theorem V_icmp_eq_f {x y : Int} (h : Ij M pc (.if_icmp .eq) 3 nx tgt) (hr : (-2147483648 ≤ x ∧ x < 2147483648) ∧ -2147483648 ≤ y ∧ y < 2147483648) (hc : ¬ (x = y)) (k : V M n b bs nx ls st σ Q) : V M n b bs pc ls (vI y :: vI x :: st) σ Q := V_icmp_eq h hr (fun q => absurd q hc) (fun _ => k)
theorem V_if_eq {x : Int} (h : Ij M pc (.ifCond .eq) 3 nx tgt) (hr : -2147483648 ≤ x ∧ x < 2147483648) (kt : x = 0 → V M n b bs tgt ls st σ Q) (kf : ¬ (x = 0) → V M n b bs nx ls st σ Q) : V M n b bs pc ls (vI x :: st) σ Q := by
  obtain ⟨off, hd, rfl, ht⟩ := h
  have e := i_eq (a := x) (b := 0) (by omega) (by omega) (by omega) (by omega)
  exact V_two kt kf (fun ho => okS_t ho) (fun ad => fun hx hb kt kf => lv_if_eq hx hb hd ht (fun q => kt (e.mp q)) (fun q => kf (fun z => q (e.mpr z))))
theorem V_if_eq_t {x : Int} (h : Ij M pc (.ifCond .eq) 3 nx tgt) (hr : -2147483648 ≤ x ∧ x < 2147483648) (hc : x = 0) (k : V M n b bs tgt ls st σ Q) : V M n b bs pc ls (vI x :: st) σ Q := V_if_eq h hr (fun _ => k) (fun q => absurd hc q)
theorem V_if_eq_f {x : Int} (h : Ij M pc (.ifCond .eq) 3 nx tgt) (hr : -2147483648 ≤ x ∧ x < 2147483648) (hc : ¬ (x = 0)) (k : V M n b bs nx ls st σ Q) : V M n b bs pc ls (vI x :: st) σ Q := V_if_eq h hr (fun q => absurd q hc) (fun _ => k)
theorem V_icmp_ne {x y : Int} (h : Ij M pc (.if_icmp .ne) 3 nx tgt) (hr : (-2147483648 ≤ x ∧ x < 2147483648) ∧ -2147483648 ≤ y ∧ y < 2147483648) (kt : ¬ x = y → V M n b bs tgt ls st σ Q) (kf : ¬ (¬ x = y) → V M n b bs nx ls st σ Q) : V M n b bs pc ls (vI y :: vI x :: st) σ Q := by
  obtain ⟨off, hd, rfl, ht⟩ := h
  have e := i_eq (a := x) (b := y) (by omega) (by omega) (by omega) (by omega)
  exact V_two kt kf (fun ho => okS_t (okS_t ho)) (fun ad => fun hx hb kt kf => lv_icmp_ne hx hb hd ht (fun q => kt (fun z => q (e.mpr z))) (fun q => kf (fun z => z (e.mp q))))
theorem V_icmp_ne_t {x y : Int} (h : Ij M pc (.if_icmp .ne) 3 nx tgt) (hr : (-2147483648 ≤ x ∧ x < 2147483648) ∧ -2147483648 ≤ y ∧ y < 2147483648) (hc : ¬ x = y) (k : V M n b bs tgt ls st σ Q) : V M n b bs pc ls (vI y :: vI x :: st) σ Q := V_icmp_ne h hr (fun _ => k) (fun q => absurd hc q)
theorem V_icmp_ne_f {x y : Int} (h : Ij M pc (.if_icmp .ne) 3 nx tgt) (hr : (-2147483648 ≤ x ∧ x < 2147483648) ∧ -2147483648 ≤ y ∧ y < 2147483648) (hc : ¬ (¬ x = y)) (k : V M n b bs nx ls st σ Q) : V M n b bs pc ls (vI y :: vI x :: st) σ Q := V_icmp_ne h hr (fun q => absurd q hc) (fun _ => k)
theorem V_if_ne {x : Int} (h : Ij M pc (.ifCond .ne) 3 nx tgt) (hr : -2147483648 ≤ x ∧ x < 2147483648) (kt : ¬ x = 0 → V M n b bs tgt ls st σ Q) (kf : ¬ (¬ x = 0) → V M n b bs nx ls st σ Q) : V M n b bs pc ls (vI x :: st) σ Q := by
  obtain ⟨off, hd, rfl, ht⟩ := h
  have e := i_eq (a := x) (b := 0) (by omega) (by omega) (by omega) (by omega)
  exact V_two kt kf (fun ho => okS_t ho) (fun ad => fun hx hb kt kf => lv_if_ne hx hb hd ht (fun q => kt (fun z => q (e.mpr z))) (fun q => kf (fun z => z (e.mp q))))
theorem V_if_ne_t {x : Int} (h : Ij M pc (.ifCond .ne) 3 nx tgt) (hr : -2147483648 ≤ x ∧ x < 2147483648) (hc : ¬ x = 0) (k : V M n b bs tgt ls st σ Q) : V M n b bs pc ls (vI x :: st) σ Q := V_if_ne h hr (fun _ => k) (fun q => absurd hc q)
theorem V_if_ne_f {x : Int} (h : Ij M pc (.ifCond .ne) 3 nx tgt) (hr : -2147483648 ≤ x ∧ x < 2147483648) (hc : ¬ (¬ x = 0)) (k : V M n b bs nx ls st σ Q) : V M n b bs pc ls (vI x :: st) σ Q := V_if_ne h hr (fun q => absurd q hc) (fun _ => k)
theorem V_icmp_lt {x y : Int} (h : Ij M pc (.if_icmp .lt) 3 nx tgt) (hr : (-2147483648 ≤ x ∧ x < 2147483648) ∧ -2147483648 ≤ y ∧ y < 2147483648) (kt : x < y → V M n b bs tgt ls st σ Q) (kf : ¬ (x < y) → V M n b bs nx ls st σ Q) : V M n b bs pc ls (vI y :: vI x :: st) σ Q := by
  obtain ⟨off, hd, rfl, ht⟩ := h
  have e := i_lt (a := x) (b := y) (by omega) (by omega) (by omega) (by omega)
  exact V_two kt kf (fun ho => okS_t (okS_t ho)) (fun ad => fun hx hb kt kf => lv_icmp_lt hx hb hd ht (fun q => kt (e.mp q)) (fun q => kf (fun z => q (e.mpr z))))
theorem V_icmp_lt_t {x y : Int} (h : Ij M pc (.if_icmp .lt) 3 nx tgt) (hr : (-2147483648 ≤ x ∧ x < 2147483648) ∧ -2147483648 ≤ y ∧ y < 2147483648) (hc : x < y) (k : V M n b bs tgt ls st σ Q) : V M n b bs pc ls (vI y :: vI x :: st) σ Q := V_icmp_lt h hr (fun _ => k) (fun q => absurd hc q)
theorem V_icmp_lt_f {x y : Int} (h : Ij M pc (.if_icmp .lt) 3 nx tgt) (hr : (-2147483648 ≤ x ∧ x < 2147483648) ∧ -2147483648 ≤ y ∧ y < 2147483648) (hc : ¬ (x < y)) (k : V M n b bs nx ls st σ Q) : V M n b bs pc ls (vI y :: vI x :: st) σ Q := V_icmp_lt h hr (fun q => absurd q hc) (fun _ => k)
theorem V_if_lt {x : Int} (h : Ij M pc (.ifCond .lt) 3 nx tgt) (hr : -2147483648 ≤ x ∧ x < 2147483648) (kt : x < 0 → V M n b bs tgt ls st σ Q) (kf : ¬ (x < 0) → V M n b bs nx ls st σ Q) : V M n b bs pc ls (vI x :: st) σ Q := by
  obtain ⟨off, hd, rfl, ht⟩ := h
  have e := i_lt (a := x) (b := 0) (by omega) (by omega) (by omega) (by omega)
  exact V_two kt kf (fun ho => okS_t ho) (fun ad => fun hx hb kt kf => lv_if_lt hx hb hd ht (fun q => kt (e.mp q)) (fun q => kf (fun z => q (e.mpr z))))
theorem V_if_lt_t {x : Int} (h : Ij M pc (.ifCond .lt) 3 nx tgt) (hr : -2147483648 ≤ x ∧ x < 2147483648) (hc : x < 0) (k : V M n b bs tgt ls st σ Q) : V M n b bs pc ls (vI x :: st) σ Q := V_if_lt h hr (fun _ => k) (fun q => absurd hc q)
theorem V_if_lt_f {x : Int} (h : Ij M pc (.ifCond .lt) 3 nx tgt) (hr : -2147483648 ≤ x ∧ x < 2147483648) (hc : ¬ (x < 0)) (k : V M n b bs nx ls st σ Q) : V M n b bs pc ls (vI x :: st) σ Q := V_if_lt h hr (fun q => absurd q hc) (fun _ => k)
theorem V_icmp_ge {x y : Int} (h : Ij M pc (.if_icmp .ge) 3 nx tgt) (hr : (-2147483648 ≤ x ∧ x < 2147483648) ∧ -2147483648 ≤ y ∧ y < 2147483648) (kt : y ≤ x → V M n b bs tgt ls st σ Q) (kf : ¬ (y ≤ x) → V M n b bs nx ls st σ Q) : V M n b bs pc ls (vI y :: vI x :: st) σ Q := by
  obtain ⟨off, hd, rfl, ht⟩ := h
  have e := i_le (a := y) (b := x) (by omega) (by omega) (by omega) (by omega)
  exact V_two kt kf (fun ho => okS_t (okS_t ho)) (fun ad => fun hx hb kt kf => lv_icmp_ge hx hb hd ht (fun q => kt (e.mp q)) (fun q => kf (fun z => q (e.mpr z))))
theorem V_icmp_ge_t {x y : Int} (h : Ij M pc (.if_icmp .ge) 3 nx tgt) (hr : (-2147483648 ≤ x ∧ x < 2147483648) ∧ -2147483648 ≤ y ∧ y < 2147483648) (hc : y ≤ x) (k : V M n b bs tgt ls st σ Q) : V M n b bs pc ls (vI y :: vI x :: st) σ Q := V_icmp_ge h hr (fun _ => k) (fun q => absurd hc q)
theorem V_icmp_ge_f {x y : Int} (h : Ij M pc (.if_icmp .ge) 3 nx tgt) (hr : (-2147483648 ≤ x ∧ x < 2147483648) ∧ -2147483648 ≤ y ∧ y < 2147483648) (hc : ¬ (y ≤ x)) (k : V M n b bs nx ls st σ Q) : V M n b bs pc ls (vI y :: vI x :: st) σ Q := V_icmp_ge h hr (fun q => absurd q hc) (fun _ => k)
theorem V_if_ge {x : Int} (h : Ij M pc (.ifCond .ge) 3 nx tgt) (hr : -2147483648 ≤ x ∧ x < 2147483648) (kt : 0 ≤ x → V M n b bs tgt ls st σ Q) (kf : ¬ (0 ≤ x) → V M n b bs nx ls st σ Q) : V M n b bs pc ls (vI x :: st) σ Q := by
  obtain ⟨off, hd, rfl, ht⟩ := h
  have e := i_le (a := 0) (b := x) (by omega) (by omega) (by omega) (by omega)
  exact V_two kt kf (fun ho => okS_t ho) (fun ad => fun hx hb kt kf => lv_if_ge hx hb hd ht (fun q => kt (e.mp q)) (fun q => kf (fun z => q (e.mpr z))))
theorem V_if_ge_t {x : Int} (h : Ij M pc (.ifCond .ge) 3 nx tgt) (hr : -2147483648 ≤ x ∧ x < 2147483648) (hc : 0 ≤ x) (k : V M n b bs tgt ls st σ Q) : V M n b bs pc ls (vI x :: st) σ Q := V_if_ge h hr (fun _ => k) (fun q => absurd hc q)
theorem V_if_ge_f {x : Int} (h : Ij M pc (.ifCond .ge) 3 nx tgt) (hr : -2147483648 ≤ x ∧ x < 2147483648) (hc : ¬ (0 ≤ x)) (k : V M n b bs nx ls st σ Q) : V M n b bs pc ls (vI x :: st) σ Q := V_if_ge h hr (fun q => absurd q hc) (fun _ => k)
theorem V_icmp_gt {x y : Int} (h : Ij M pc (.if_icmp .gt) 3 nx tgt) (hr : (-2147483648 ≤ x ∧ x < 2147483648) ∧ -2147483648 ≤ y ∧ y < 2147483648) (kt : y < x → V M n b bs tgt ls st σ Q) (kf : ¬ (y < x) → V M n b bs nx ls st σ Q) : V M n b bs pc ls (vI y :: vI x :: st) σ Q := by
  obtain ⟨off, hd, rfl, ht⟩ := h
  have e := i_lt (a := y) (b := x) (by omega) (by omega) (by omega) (by omega)
  exact V_two kt kf (fun ho => okS_t (okS_t ho)) (fun ad => fun hx hb kt kf => lv_icmp_gt hx hb hd ht (fun q => kt (e.mp q)) (fun q => kf (fun z => q (e.mpr z))))
theorem V_icmp_gt_t {x y : Int} (h : Ij M pc (.if_icmp .gt) 3 nx tgt) (hr : (-2147483648 ≤ x ∧ x < 2147483648) ∧ -2147483648 ≤ y ∧ y < 2147483648) (hc : y < x) (k : V M n b bs tgt ls st σ Q) : V M n b bs pc ls (vI y :: vI x :: st) σ Q := V_icmp_gt h hr (fun _ => k) (fun q => absurd hc q)
theorem V_icmp_gt_f {x y : Int} (h : Ij M pc (.if_icmp .gt) 3 nx tgt) (hr : (-2147483648 ≤ x ∧ x < 2147483648) ∧ -2147483648 ≤ y ∧ y < 2147483648) (hc : ¬ (y < x)) (k : V M n b bs nx ls st σ Q) : V M n b bs pc ls (vI y :: vI x :: st) σ Q := V_icmp_gt h hr (fun q => absurd q hc) (fun _ => k)
theorem V_if_gt {x : Int} (h : Ij M pc (.ifCond .gt) 3 nx tgt) (hr : -2147483648 ≤ x ∧ x < 2147483648) (kt : 0 < x → V M n b bs tgt ls st σ Q) (kf : ¬ (0 < x) → V M n b bs nx ls st σ Q) : V M n b bs pc ls (vI x :: st) σ Q := by
  obtain ⟨off, hd, rfl, ht⟩ := h
  have e := i_lt (a := 0) (b := x) (by omega) (by omega) (by omega) (by omega)
  exact V_two kt kf (fun ho => okS_t ho) (fun ad => fun hx hb kt kf => lv_if_gt hx hb hd ht (fun q => kt (e.mp q)) (fun q => kf (fun z => q (e.mpr z))))
theorem V_if_gt_t {x : Int} (h : Ij M pc (.ifCond .gt) 3 nx tgt) (hr : -2147483648 ≤ x ∧ x < 2147483648) (hc : 0 < x) (k : V M n b bs tgt ls st σ Q) : V M n b bs pc ls (vI x :: st) σ Q := V_if_gt h hr (fun _ => k) (fun q => absurd hc q)
theorem V_if_gt_f {x : Int} (h : Ij M pc (.ifCond .gt) 3 nx tgt) (hr : -2147483648 ≤ x ∧ x < 2147483648) (hc : ¬ (0 < x)) (k : V M n b bs nx ls st σ Q) : V M n b bs pc ls (vI x :: st) σ Q := V_if_gt h hr (fun q => absurd q hc) (fun _ => k)
theorem V_icmp_le {x y : Int} (h : Ij M pc (.if_icmp .le) 3 nx tgt) (hr : (-2147483648 ≤ x ∧ x < 2147483648) ∧ -2147483648 ≤ y ∧ y < 2147483648) (kt : x ≤ y → V M n b bs tgt ls st σ Q) (kf : ¬ (x ≤ y) → V M n b bs nx ls st σ Q) : V M n b bs pc ls (vI y :: vI x :: st) σ Q := by
  obtain ⟨off, hd, rfl, ht⟩ := h
  have e := i_le (a := x) (b := y) (by omega) (by omega) (by omega) (by omega)
  exact V_two kt kf (fun ho => okS_t (okS_t ho)) (fun ad => fun hx hb kt kf => lv_icmp_le hx hb hd ht (fun q => kt (e.mp q)) (fun q => kf (fun z => q (e.mpr z))))
theorem V_icmp_le_t {x y : Int} (h : Ij M pc (.if_icmp .le) 3 nx tgt) (hr : (-2147483648 ≤ x ∧ x < 2147483648) ∧ -2147483648 ≤ y ∧ y < 2147483648) (hc : x ≤ y) (k : V M n b bs tgt ls st σ Q) : V M n b bs pc ls (vI y :: vI x :: st) σ Q := V_icmp_le h hr (fun _ => k) (fun q => absurd hc q)
theorem V_icmp_le_f {x y : Int} (h : Ij M pc (.if_icmp .le) 3 nx tgt) (hr : (-2147483648 ≤ x ∧ x < 2147483648) ∧ -2147483648 ≤ y ∧ y < 2147483648) (hc : ¬ (x ≤ y)) (k : V M n b bs nx ls st σ Q) : V M n b bs pc ls (vI y :: vI x :: st) σ Q := V_icmp_le h hr (fun q => absurd q hc) (fun _ => k)
theorem V_if_le {x : Int} (h : Ij M pc (.ifCond .le) 3 nx tgt) (hr : -2147483648 ≤ x ∧ x < 2147483648) (kt : x ≤ 0 → V M n b bs tgt ls st σ Q) (kf : ¬ (x ≤ 0) → V M n b bs nx ls st σ Q) : V M n b bs pc ls (vI x :: st) σ Q := by
  obtain ⟨off, hd, rfl, ht⟩ := h
  have e := i_le (a := x) (b := 0) (by omega) (by omega) (by omega) (by omega)
  exact V_two kt kf (fun ho => okS_t ho) (fun ad => fun hx hb kt kf => lv_if_le hx hb hd ht (fun q => kt (e.mp q)) (fun q => kf (fun z => q (e.mpr z))))
theorem V_if_le_t {x : Int} (h : Ij M pc (.ifCond .le) 3 nx tgt) (hr : -2147483648 ≤ x ∧ x < 2147483648) (hc : x ≤ 0) (k : V M n b bs tgt ls st σ Q) : V M n b bs pc ls (vI x :: st) σ Q := V_if_le h hr (fun _ => k) (fun q => absurd hc q)
theorem V_if_le_f {x : Int} (h : Ij M pc (.ifCond .le) 3 nx tgt) (hr : -2147483648 ≤ x ∧ x < 2147483648) (hc : ¬ (x ≤ 0)) (k : V M n b bs nx ls st σ Q) : V M n b bs pc ls (vI x :: st) σ Q := V_if_le h hr (fun q => absurd q hc) (fun _ => k)
theorem V_lc_eq {x y : Int} {mid : Nat} (h0 : Ix M pc .lcmp 1 mid) (h : Ij M mid (.ifCond .eq) 3 nx tgt) (hr : (-9223372036854775808 ≤ x ∧ x < 9223372036854775808) ∧ -9223372036854775808 ≤ y ∧ y < 9223372036854775808) (kt : x = y → V M n b bs tgt ls st σ Q) (kf : ¬ (x = y) → V M n b bs nx ls st σ Q) : V M n b bs pc ls (vL y :: vL x :: st) σ Q := by
  refine V_lcmp h0 hr ?_
  have hc : (cmpI x y = -1 ∧ x < y) ∨ (cmpI x y = 0 ∧ x = y) ∨ (cmpI x y = 1 ∧ y < x) := by
    unfold cmpI
    split
    · exact Or.inl ⟨rfl, by assumption⟩
    · split
      · exact Or.inr (Or.inl ⟨rfl, by assumption⟩)
      · exact Or.inr (Or.inr ⟨rfl, by omega⟩)
  exact V_if_eq h (by omega) (fun q => kt (by omega)) (fun q => kf (by omega))
theorem V_lc_eq_t {x y : Int} {mid : Nat} (h0 : Ix M pc .lcmp 1 mid) (h : Ij M mid (.ifCond .eq) 3 nx tgt) (hr : (-9223372036854775808 ≤ x ∧ x < 9223372036854775808) ∧ -9223372036854775808 ≤ y ∧ y < 9223372036854775808) (hc : x = y) (k : V M n b bs tgt ls st σ Q) : V M n b bs pc ls (vL y :: vL x :: st) σ Q := V_lc_eq h0 h hr (fun _ => k) (fun q => absurd hc q)
theorem V_lc_eq_f {x y : Int} {mid : Nat} (h0 : Ix M pc .lcmp 1 mid) (h : Ij M mid (.ifCond .eq) 3 nx tgt) (hr : (-9223372036854775808 ≤ x ∧ x < 9223372036854775808) ∧ -9223372036854775808 ≤ y ∧ y < 9223372036854775808) (hc : ¬ (x = y)) (k : V M n b bs nx ls st σ Q) : V M n b bs pc ls (vL y :: vL x :: st) σ Q := V_lc_eq h0 h hr (fun q => absurd q hc) (fun _ => k)
theorem V_lc_ne {x y : Int} {mid : Nat} (h0 : Ix M pc .lcmp 1 mid) (h : Ij M mid (.ifCond .ne) 3 nx tgt) (hr : (-9223372036854775808 ≤ x ∧ x < 9223372036854775808) ∧ -9223372036854775808 ≤ y ∧ y < 9223372036854775808) (kt : ¬ x = y → V M n b bs tgt ls st σ Q) (kf : ¬ (¬ x = y) → V M n b bs nx ls st σ Q) : V M n b bs pc ls (vL y :: vL x :: st) σ Q := by
  refine V_lcmp h0 hr ?_
  have hc : (cmpI x y = -1 ∧ x < y) ∨ (cmpI x y = 0 ∧ x = y) ∨ (cmpI x y = 1 ∧ y < x) := by
    unfold cmpI
    split
    · exact Or.inl ⟨rfl, by assumption⟩
    · split
      · exact Or.inr (Or.inl ⟨rfl, by assumption⟩)
      · exact Or.inr (Or.inr ⟨rfl, by omega⟩)
  exact V_if_ne h (by omega) (fun q => kt (by omega)) (fun q => kf (by omega))
theorem V_lc_ne_t {x y : Int} {mid : Nat} (h0 : Ix M pc .lcmp 1 mid) (h : Ij M mid (.ifCond .ne) 3 nx tgt) (hr : (-9223372036854775808 ≤ x ∧ x < 9223372036854775808) ∧ -9223372036854775808 ≤ y ∧ y < 9223372036854775808) (hc : ¬ x = y) (k : V M n b bs tgt ls st σ Q) : V M n b bs pc ls (vL y :: vL x :: st) σ Q := V_lc_ne h0 h hr (fun _ => k) (fun q => absurd hc q)
theorem V_lc_ne_f {x y : Int} {mid : Nat} (h0 : Ix M pc .lcmp 1 mid) (h : Ij M mid (.ifCond .ne) 3 nx tgt) (hr : (-9223372036854775808 ≤ x ∧ x < 9223372036854775808) ∧ -9223372036854775808 ≤ y ∧ y < 9223372036854775808) (hc : ¬ (¬ x = y)) (k : V M n b bs nx ls st σ Q) : V M n b bs pc ls (vL y :: vL x :: st) σ Q := V_lc_ne h0 h hr (fun q => absurd q hc) (fun _ => k)
theorem V_lc_lt {x y : Int} {mid : Nat} (h0 : Ix M pc .lcmp 1 mid) (h : Ij M mid (.ifCond .lt) 3 nx tgt) (hr : (-9223372036854775808 ≤ x ∧ x < 9223372036854775808) ∧ -9223372036854775808 ≤ y ∧ y < 9223372036854775808) (kt : x < y → V M n b bs tgt ls st σ Q) (kf : ¬ (x < y) → V M n b bs nx ls st σ Q) : V M n b bs pc ls (vL y :: vL x :: st) σ Q := by
  refine V_lcmp h0 hr ?_
  have hc : (cmpI x y = -1 ∧ x < y) ∨ (cmpI x y = 0 ∧ x = y) ∨ (cmpI x y = 1 ∧ y < x) := by
    unfold cmpI
    split
    · exact Or.inl ⟨rfl, by assumption⟩
    · split
      · exact Or.inr (Or.inl ⟨rfl, by assumption⟩)
      · exact Or.inr (Or.inr ⟨rfl, by omega⟩)
  exact V_if_lt h (by omega) (fun q => kt (by omega)) (fun q => kf (by omega))
theorem V_lc_lt_t {x y : Int} {mid : Nat} (h0 : Ix M pc .lcmp 1 mid) (h : Ij M mid (.ifCond .lt) 3 nx tgt) (hr : (-9223372036854775808 ≤ x ∧ x < 9223372036854775808) ∧ -9223372036854775808 ≤ y ∧ y < 9223372036854775808) (hc : x < y) (k : V M n b bs tgt ls st σ Q) : V M n b bs pc ls (vL y :: vL x :: st) σ Q := V_lc_lt h0 h hr (fun _ => k) (fun q => absurd hc q)
theorem V_lc_lt_f {x y : Int} {mid : Nat} (h0 : Ix M pc .lcmp 1 mid) (h : Ij M mid (.ifCond .lt) 3 nx tgt) (hr : (-9223372036854775808 ≤ x ∧ x < 9223372036854775808) ∧ -9223372036854775808 ≤ y ∧ y < 9223372036854775808) (hc : ¬ (x < y)) (k : V M n b bs nx ls st σ Q) : V M n b bs pc ls (vL y :: vL x :: st) σ Q := V_lc_lt h0 h hr (fun q => absurd q hc) (fun _ => k)
theorem V_lc_ge {x y : Int} {mid : Nat} (h0 : Ix M pc .lcmp 1 mid) (h : Ij M mid (.ifCond .ge) 3 nx tgt) (hr : (-9223372036854775808 ≤ x ∧ x < 9223372036854775808) ∧ -9223372036854775808 ≤ y ∧ y < 9223372036854775808) (kt : y ≤ x → V M n b bs tgt ls st σ Q) (kf : ¬ (y ≤ x) → V M n b bs nx ls st σ Q) : V M n b bs pc ls (vL y :: vL x :: st) σ Q := by
  refine V_lcmp h0 hr ?_
  have hc : (cmpI x y = -1 ∧ x < y) ∨ (cmpI x y = 0 ∧ x = y) ∨ (cmpI x y = 1 ∧ y < x) := by
    unfold cmpI
    split
    · exact Or.inl ⟨rfl, by assumption⟩
    · split
      · exact Or.inr (Or.inl ⟨rfl, by assumption⟩)
      · exact Or.inr (Or.inr ⟨rfl, by omega⟩)
  exact V_if_ge h (by omega) (fun q => kt (by omega)) (fun q => kf (by omega))
theorem V_lc_ge_t {x y : Int} {mid : Nat} (h0 : Ix M pc .lcmp 1 mid) (h : Ij M mid (.ifCond .ge) 3 nx tgt) (hr : (-9223372036854775808 ≤ x ∧ x < 9223372036854775808) ∧ -9223372036854775808 ≤ y ∧ y < 9223372036854775808) (hc : y ≤ x) (k : V M n b bs tgt ls st σ Q) : V M n b bs pc ls (vL y :: vL x :: st) σ Q := V_lc_ge h0 h hr (fun _ => k) (fun q => absurd hc q)
theorem V_lc_ge_f {x y : Int} {mid : Nat} (h0 : Ix M pc .lcmp 1 mid) (h : Ij M mid (.ifCond .ge) 3 nx tgt) (hr : (-9223372036854775808 ≤ x ∧ x < 9223372036854775808) ∧ -9223372036854775808 ≤ y ∧ y < 9223372036854775808) (hc : ¬ (y ≤ x)) (k : V M n b bs nx ls st σ Q) : V M n b bs pc ls (vL y :: vL x :: st) σ Q := V_lc_ge h0 h hr (fun q => absurd q hc) (fun _ => k)
theorem V_lc_gt {x y : Int} {mid : Nat} (h0 : Ix M pc .lcmp 1 mid) (h : Ij M mid (.ifCond .gt) 3 nx tgt) (hr : (-9223372036854775808 ≤ x ∧ x < 9223372036854775808) ∧ -9223372036854775808 ≤ y ∧ y < 9223372036854775808) (kt : y < x → V M n b bs tgt ls st σ Q) (kf : ¬ (y < x) → V M n b bs nx ls st σ Q) : V M n b bs pc ls (vL y :: vL x :: st) σ Q := by
  refine V_lcmp h0 hr ?_
  have hc : (cmpI x y = -1 ∧ x < y) ∨ (cmpI x y = 0 ∧ x = y) ∨ (cmpI x y = 1 ∧ y < x) := by
    unfold cmpI
    split
    · exact Or.inl ⟨rfl, by assumption⟩
    · split
      · exact Or.inr (Or.inl ⟨rfl, by assumption⟩)
      · exact Or.inr (Or.inr ⟨rfl, by omega⟩)
  exact V_if_gt h (by omega) (fun q => kt (by omega)) (fun q => kf (by omega))
theorem V_lc_gt_t {x y : Int} {mid : Nat} (h0 : Ix M pc .lcmp 1 mid) (h : Ij M mid (.ifCond .gt) 3 nx tgt) (hr : (-9223372036854775808 ≤ x ∧ x < 9223372036854775808) ∧ -9223372036854775808 ≤ y ∧ y < 9223372036854775808) (hc : y < x) (k : V M n b bs tgt ls st σ Q) : V M n b bs pc ls (vL y :: vL x :: st) σ Q := V_lc_gt h0 h hr (fun _ => k) (fun q => absurd hc q)
theorem V_lc_gt_f {x y : Int} {mid : Nat} (h0 : Ix M pc .lcmp 1 mid) (h : Ij M mid (.ifCond .gt) 3 nx tgt) (hr : (-9223372036854775808 ≤ x ∧ x < 9223372036854775808) ∧ -9223372036854775808 ≤ y ∧ y < 9223372036854775808) (hc : ¬ (y < x)) (k : V M n b bs nx ls st σ Q) : V M n b bs pc ls (vL y :: vL x :: st) σ Q := V_lc_gt h0 h hr (fun q => absurd q hc) (fun _ => k)
theorem V_lc_le {x y : Int} {mid : Nat} (h0 : Ix M pc .lcmp 1 mid) (h : Ij M mid (.ifCond .le) 3 nx tgt) (hr : (-9223372036854775808 ≤ x ∧ x < 9223372036854775808) ∧ -9223372036854775808 ≤ y ∧ y < 9223372036854775808) (kt : x ≤ y → V M n b bs tgt ls st σ Q) (kf : ¬ (x ≤ y) → V M n b bs nx ls st σ Q) : V M n b bs pc ls (vL y :: vL x :: st) σ Q := by
  refine V_lcmp h0 hr ?_
  have hc : (cmpI x y = -1 ∧ x < y) ∨ (cmpI x y = 0 ∧ x = y) ∨ (cmpI x y = 1 ∧ y < x) := by
    unfold cmpI
    split
    · exact Or.inl ⟨rfl, by assumption⟩
    · split
      · exact Or.inr (Or.inl ⟨rfl, by assumption⟩)
      · exact Or.inr (Or.inr ⟨rfl, by omega⟩)
  exact V_if_le h (by omega) (fun q => kt (by omega)) (fun q => kf (by omega))
theorem V_lc_le_t {x y : Int} {mid : Nat} (h0 : Ix M pc .lcmp 1 mid) (h : Ij M mid (.ifCond .le) 3 nx tgt) (hr : (-9223372036854775808 ≤ x ∧ x < 9223372036854775808) ∧ -9223372036854775808 ≤ y ∧ y < 9223372036854775808) (hc : x ≤ y) (k : V M n b bs tgt ls st σ Q) : V M n b bs pc ls (vL y :: vL x :: st) σ Q := V_lc_le h0 h hr (fun _ => k) (fun q => absurd hc q)
theorem V_lc_le_f {x y : Int} {mid : Nat} (h0 : Ix M pc .lcmp 1 mid) (h : Ij M mid (.ifCond .le) 3 nx tgt) (hr : (-9223372036854775808 ≤ x ∧ x < 9223372036854775808) ∧ -9223372036854775808 ≤ y ∧ y < 9223372036854775808) (hc : ¬ (x ≤ y)) (k : V M n b bs nx ls st σ Q) : V M n b bs pc ls (vL y :: vL x :: st) σ Q := V_lc_le h0 h hr (fun q => absurd q hc) (fun _ => k)
theorem V_ifnull_N (h : Ij M pc .ifnull 3 nx tgt) (k : V M n b bs tgt ls st σ Q) : V M n b bs pc ls (vR none :: st) σ Q := by
  obtain ⟨off, hd, -, ht⟩ := h
  exact V_pure k (fun ho => okS_t ho) (fun ad => fun hx hb ho hts hl w => lv_ifnullN hx hb hd ht w)
theorem V_ifnull_S {r : Nat × Nat} (h : Ij M pc .ifnull 3 nx tgt) (k : V M n b bs nx ls st σ Q) : V M n b bs pc ls (vR (some r) :: st) σ Q := by
  obtain ⟨off, hd, rfl, ht⟩ := h
  exact V_pure k (fun ho => okS_t ho) (fun ad => fun hx hb ho hts hl w => lv_ifnull hx hb hd w)
theorem V_ifnonnull_S {r : Nat × Nat} (h : Ij M pc .ifnonnull 3 nx tgt) (k : V M n b bs tgt ls st σ Q) : V M n b bs pc ls (vR (some r) :: st) σ Q := by
  obtain ⟨off, hd, -, ht⟩ := h
  exact V_pure k (fun ho => okS_t ho) (fun ad => fun hx hb ho hts hl w => lv_ifnonnull hx hb hd ht w)
theorem V_ifnonnull_N (h : Ij M pc .ifnonnull 3 nx tgt) (k : V M n b bs nx ls st σ Q) : V M n b bs pc ls (vR none :: st) σ Q := by
  obtain ⟨off, hd, rfl, ht⟩ := h
  exact V_pure k (fun ho => okS_t ho) (fun ad => fun hx hb ho hts hl w => lv_ifnonnullN hx hb hd w)
theorem V_table_out {x dflt lo hi : Int} {offs : Array Int} {len : Nat} (h : Ix M pc (.tableswitch dflt lo hi offs) len nx) (ht : (pc : Int) + dflt = (tgt : Int)) (hr : -2147483648 ≤ x ∧ x < 2147483648) (hc : x < lo ∨ hi < x) (k : V M n b bs tgt ls st σ Q) : V M n b bs pc ls (vI x :: st) σ Q := by
  obtain ⟨hd, -⟩ := h
  exact V_pure k (fun ho => okS_t ho) (fun ad => fun hx hb ho hts hl w => lv_tableOut hx hb hd (by rw [n32 hr.1 hr.2]; exact hc) ht w)
theorem V_table_in {x dflt lo hi off : Int} {offs : Array Int} {len : Nat} (h : Ix M pc (.tableswitch dflt lo hi offs) len nx) (ho : offs[(x - lo).toNat]? = some off) (ht : (pc : Int) + off = (tgt : Int)) (hr : -2147483648 ≤ x ∧ x < 2147483648) (hc : lo ≤ x ∧ x ≤ hi) (k : V M n b bs tgt ls st σ Q) : V M n b bs pc ls (vI x :: st) σ Q := by
  obtain ⟨hd, -⟩ := h
  exact V_pure k (fun ho => okS_t ho) (fun ad => fun hx hb ho2 hts hl w => lv_tableIn hx hb hd (by rw [n32 hr.1 hr.2]; omega) (by rw [n32 hr.1 hr.2]; omega) (by rw [n32 hr.1 hr.2]; exact ho) ht w)
end Pure
