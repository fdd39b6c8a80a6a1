theorem nfw : nativeFrameWords "java/lang/System" "arraycopy" 5 ≤ 20 := by decide +kernel
section ThrowR
variable {M M2 : MI} {n b bs n2 b2 bs2 pc nx : Nat} {ls : List (Option AV)} {st rest as : List AV} {σ : Hp} {Q Q2 : Res → Hp → Prop}
theorem cpy_ne {f : Nat → Nat → Int → Int} {t i t' i' : Nat} {n : Int} {a b : Nat} (h : ¬ (a = t' ∧ b = i')) : cpy f t i t' i' n a b = f a b := by
  funext k
  unfold cpy
  rw [if_neg (fun e => h e.1)]
theorem cpy_eq {f : Nat → Nat → Int → Int} {t i t' i' : Nat} {n k : Int} : cpy f t i t' i' n t' i' k = if 0 ≤ k ∧ k < n then f t i k else f t' i' k := by
  unfold cpy
  simp

theorem V_cpyI {idx t i t' i' N N' e e' : Nat} {x : Int} (h : Ix M pc (.invokestatic idx) 3 nx) (ht : tgD t = (0, N, e)) (ht' : tgD t' = (0, N', e')) (hx : 0 ≤ x ∧ x ≤ (N : Int) ∧ x ≤ (N' : Int)) (hw1 : Cond.methodLink M.own idx arraycopyName ∈ lw_tbl) (hw2 : Cond.native arraycopyName ∈ lw_tbl) (hw3 : Cond.static arraycopyName ∈ lw_tbl) (hw4 : Cond.initialized "java/lang/System" ∈ lw_tbl) (hn : 1 ≤ n) (hcat : cats st ≤ 8)
    (kk : V M n b bs nx ls st (σ.wI (cpy σ.I t i t' i' x)) Q) (h20 : 20 ≤ t := by exact Nat.le_of_ble_eq_true rfl) (h20' : 20 ≤ t' := by exact Nat.le_of_ble_eq_true rfl) : V M n b bs pc ls (vI x :: vI 0 :: vR (some (t', i')) :: vI 0 :: vR (some (t, i)) :: st) σ Q := by
  obtain ⟨hd, rfl⟩ := h
  intro g ad p l e R s m args below meth c H locs cells slots lsA ad0 σ0 hp
  obtain ⟨F, rm, hS, hr, ⟨hol, hos⟩, hl, he⟩ := hp
  have hG := F.2.2.2.2.2.2.2.2.2
  have hal' := hr.alive (okS_h (okS_t (okS_t hos))) (tgD_90 h20' ht' (by decide))
  have hal := hr.alive (okS_h (okS_t (okS_t (okS_t (okS_t hos))))) (tgD_90 h20 ht (by decide))
  have hae : ∀ (σ : Hp) {t i N e : Nat}, tgD t = (0, N, e) → arE ad σ t i = .inl (fun k => i32 (σ.I t i (k : Int))) := fun σ {t i N e} ht => by
    unfold arE
    rw [(tgD_tk ht).1]
    rfl
  have hat := arr_at hr hal h20 ht
  have hat' := arr_at hr hal' h20' ht'
  rw [hae σ ht] at hat
  rw [hae σ ht'] at hat'
  have hat : H[ad t i]? = some (arrV (g.cy 0) N (fun j => (fun x : Int32 => Value.int x) ((fun k : Nat => i32 (σ.I t i (k : Int))) j))) := hat
  have hat' : H[ad t' i']? = some (arrV (g.cy 0) N' (fun j => (fun x : Int32 => Value.int x) ((fun k : Nat => i32 (σ.I t' i' (k : Int))) j))) := hat'
  have hN : x.toNat < 2147483648 := by have := tgD_lt ht; omega
  have en : (i32 x).toNatClampNeg = x.toNat := by
    show (i32 x).toInt.toNat = x.toNat
    rw [n32 (by omega) (by have := tgD_lt ht; omega)]
  refine copyK (f := fun k : Nat => i32 (σ.I t i (k : Int))) (g := fun k : Nat => i32 (σ.I t' i' (k : Int))) (fun x : Int32 => Value.int x) F.1 F.2.1 (by rw [F.2.2.1]; exact hl.1.symm) F.2.2.2.1 (hG.1 _ hw1 rfl _) (hG.1 _ hw2 rfl _) (hG.1 _ hw3 rfl _) (hG.1 _ hw4 rfl _) hat hat' (hG.2.1.1.2 0 _ rfl).1 rfl (fun _ => rfl) (fun _ => trivial) (n := i32 x) (fun q => ?_) (by rw [en]; omega) (by rw [en]; omega) (by omega) ?_ hd (fun H1 locs1 e1 z oq hlc => ?_)
  · have := (i_lt (a := x) (b := 0) (by omega) (by have := tgD_lt ht; omega) (by omega) (by omega)).mp q
    omega
  · rw [cats_sum]
    have := nfw
    omega
  refine kk g ad p l e R s m args below meth c H1 locs1 cells slots lsA ad0 σ0 ⟨F, rm, ⟨by rw [z]; exact hS.1, fun q h1 h2 => ?_, fun q hq => ?_⟩, ?_, ⟨okL_al rfl hol, okS_al rfl (okS_t (okS_t (okS_t (okS_t (okS_t hos)))))⟩, hl, he.al rfl⟩
  · rw [oq q (fun e => h2 (by rw [e]; exact (hr.1 t' i' hal').1))]
    exact hS.2.1 q h1 h2
  · rcases hlc q hq with h | h
    · exact hS.2.2 q h
    · rw [h]
      exact (hr.1 t' i' hal').1
  refine hr.put (t := t') (i := i') hal' rfl (fun k r => hr.2.2.1 t' i' k r hal') (fun k j => hr.2.2.2.1 t' i' k j hal') (fun a b hne => ⟨cpy_ne hne, rfl, rfl, rfl, rfl⟩) rfl ?_ oq
  rw [cE_arr (by omega), (tgD_tk ht').1, (tgD_tk ht').2.1, hae _ ht']
  show H1[ad t' i']? = some (arrV (g.cy 0) N' (fun k : Nat => Value.int (i32 (cpy σ.I t i t' i' x t' i' (k : Int)))))
  rw [e1]
  congr 2
  funext q
  show Value.int (va_cpy _ _ 0 0 _ q) = _
  unfold va_cpy
  rw [cpy_eq, en]
  by_cases hq : q < x.toNat
  · rw [if_pos (by omega), if_pos (by omega)]
    simp
  · rw [if_neg (by omega), if_neg (by omega)]
theorem V_cpyJ {idx t i t' i' N N' e e' : Nat} {x : Int} (h : Ix M pc (.invokestatic idx) 3 nx) (ht : tgD t = (1, N, e)) (ht' : tgD t' = (1, N', e')) (hx : 0 ≤ x ∧ x ≤ (N : Int) ∧ x ≤ (N' : Int)) (hw1 : Cond.methodLink M.own idx arraycopyName ∈ lw_tbl) (hw2 : Cond.native arraycopyName ∈ lw_tbl) (hw3 : Cond.static arraycopyName ∈ lw_tbl) (hw4 : Cond.initialized "java/lang/System" ∈ lw_tbl) (hn : 1 ≤ n) (hcat : cats st ≤ 8)
    (kk : V M n b bs nx ls st (σ.wJ (cpy σ.J t i t' i' x)) Q) (h20 : 20 ≤ t := by exact Nat.le_of_ble_eq_true rfl) (h20' : 20 ≤ t' := by exact Nat.le_of_ble_eq_true rfl) : V M n b bs pc ls (vI x :: vI 0 :: vR (some (t', i')) :: vI 0 :: vR (some (t, i)) :: st) σ Q := by
  obtain ⟨hd, rfl⟩ := h
  intro g ad p l e R s m args below meth c H locs cells slots lsA ad0 σ0 hp
  obtain ⟨F, rm, hS, hr, ⟨hol, hos⟩, hl, he⟩ := hp
  have hG := F.2.2.2.2.2.2.2.2.2
  have hal' := hr.alive (okS_h (okS_t (okS_t hos))) (tgD_90 h20' ht' (by decide))
  have hal := hr.alive (okS_h (okS_t (okS_t (okS_t (okS_t hos))))) (tgD_90 h20 ht (by decide))
  have hae : ∀ (σ : Hp) {t i N e : Nat}, tgD t = (1, N, e) → arE ad σ t i = .inr (.inl fun k => i64 (σ.J t i (k : Int))) := fun σ {t i N e} ht => by
    unfold arE
    rw [(tgD_tk ht).1]
    rfl
  have hat := arr_at hr hal h20 ht
  have hat' := arr_at hr hal' h20' ht'
  rw [hae σ ht] at hat
  rw [hae σ ht'] at hat'
  have hat : H[ad t i]? = some (arrV (g.cy 1) N (fun j => (fun x : Int64 => Value.long x) ((fun k : Nat => i64 (σ.J t i (k : Int))) j))) := hat
  have hat' : H[ad t' i']? = some (arrV (g.cy 1) N' (fun j => (fun x : Int64 => Value.long x) ((fun k : Nat => i64 (σ.J t' i' (k : Int))) j))) := hat'
  have hN : x.toNat < 2147483648 := by have := tgD_lt ht; omega
  have en : (i32 x).toNatClampNeg = x.toNat := by
    show (i32 x).toInt.toNat = x.toNat
    rw [n32 (by omega) (by have := tgD_lt ht; omega)]
  refine copyK (f := fun k : Nat => i64 (σ.J t i (k : Int))) (g := fun k : Nat => i64 (σ.J t' i' (k : Int))) (fun x : Int64 => Value.long x) F.1 F.2.1 (by rw [F.2.2.1]; exact hl.1.symm) F.2.2.2.1 (hG.1 _ hw1 rfl _) (hG.1 _ hw2 rfl _) (hG.1 _ hw3 rfl _) (hG.1 _ hw4 rfl _) hat hat' (hG.2.1.1.2 1 _ rfl).1 rfl (fun _ => rfl) (fun _ => trivial) (n := i32 x) (fun q => ?_) (by rw [en]; omega) (by rw [en]; omega) (by omega) ?_ hd (fun H1 locs1 e1 z oq hlc => ?_)
  · have := (i_lt (a := x) (b := 0) (by omega) (by have := tgD_lt ht; omega) (by omega) (by omega)).mp q
    omega
  · rw [cats_sum]
    have := nfw
    omega
  refine kk g ad p l e R s m args below meth c H1 locs1 cells slots lsA ad0 σ0 ⟨F, rm, ⟨by rw [z]; exact hS.1, fun q h1 h2 => ?_, fun q hq => ?_⟩, ?_, ⟨okL_al rfl hol, okS_al rfl (okS_t (okS_t (okS_t (okS_t (okS_t hos)))))⟩, hl, he.al rfl⟩
  · rw [oq q (fun e => h2 (by rw [e]; exact (hr.1 t' i' hal').1))]
    exact hS.2.1 q h1 h2
  · rcases hlc q hq with h | h
    · exact hS.2.2 q h
    · rw [h]
      exact (hr.1 t' i' hal').1
  refine hr.put (t := t') (i := i') hal' rfl (fun k r => hr.2.2.1 t' i' k r hal') (fun k j => hr.2.2.2.1 t' i' k j hal') (fun a b hne => ⟨rfl, cpy_ne hne, rfl, rfl, rfl⟩) rfl ?_ oq
  rw [cE_arr (by omega), (tgD_tk ht').1, (tgD_tk ht').2.1, hae _ ht']
  show H1[ad t' i']? = some (arrV (g.cy 1) N' (fun k : Nat => Value.long (i64 (cpy σ.J t i t' i' x t' i' (k : Int)))))
  rw [e1]
  congr 2
  funext q
  show Value.long (va_cpy _ _ 0 0 _ q) = _
  unfold va_cpy
  rw [cpy_eq, en]
  by_cases hq : q < x.toNat
  · rw [if_pos (by omega), if_pos (by omega)]
    simp
  · rw [if_neg (by omega), if_neg (by omega)]
/-- throw new E("text") -/
theorem V_throw {cls : String} {ik is ic j n1 n2 n3 n4 n5 : Nat} {wide : Bool} (hM : M.hh = []) (d0 : Ix M pc (.new ik) 3 n1) (d1 : Ix M n1 .dup 1 n2) (d2 : if wide then Ix M n2 (.ldc_w is) 3 n3 else Ix M n2 (.ldc is) 2 n3) (d3 : Ix M n3 (.invokespecial ic) 3 n4) (d4 : Ix M n4 .athrow 1 n5)
    (hcls : Bundle.fit cls = true) (hk : Cond.classLink M.own ik cls ∈ lw_tbl) (hini : Cond.initialized cls ∈ lw_tbl) (hs : (M.own, is, j) ∈ SR) (hat : ∀ w ∈ vx_atS M.own ic cls ["java/lang/RuntimeException", "java/lang/Exception"], w ∈ lw_tbl ∧ (goodWord w || nestW w) = true) (hgood : ∀ w ∈ vx_atS M.own ic cls ["java/lang/RuntimeException", "java/lang/Exception"], vx_ot w = true)
    (hn : 6 ≤ n) (hcat : cats st ≤ 8) (hq : Q (.inr cls) σ) : V M n (b + 1) (bs + 6) pc ls st σ Q := by
  obtain ⟨d0, rfl⟩ := d0
  obtain ⟨d1, rfl⟩ := d1
  obtain ⟨d4, -⟩ := d4
  obtain ⟨d3, rfl⟩ := d3
  intro g ad p l e R s m args below meth c H locs cells slots lsA ad0 σ0 hp
  obtain ⟨F, rm, hS, hr, ⟨hol, hos⟩, hl, he⟩ := hp
  have hG := F.2.2.2.2.2.2.2.2.2
  have hnm : ∀ n ∈ ["java/lang/RuntimeException", "java/lang/Exception"], Bundle.fit n = true := by decide +kernel
  have hx : ∀ t : State, s.vm.Alike t.vm → H.size ≤ t.heap.size → (∀ q : Nat, q < H.size → t.heap[q]? = H[q]?) → XCf g ad0 σ0 Q cls s t := fun t _ h1 h2 => by
    refine ⟨ad, σ, hq, ?_, he, ⟨Nat.le_trans hS.1 h1, fun q h3 h4 => (h2 q (Nat.lt_of_lt_of_le h3 hS.1)).trans (hS.2.1 q h3 h4)⟩⟩
    obtain ⟨r1, r2⟩ := hr
    exact ⟨fun t' i' h => ⟨(r1 t' i' h).1, (r1 t' i' h).2.1, (r1 t' i' h).2.2.kept (h2 _ (r1 t' i' h).2.2.lt)⟩, r2⟩
  have hgood2 : ∀ w ∈ Cond.classLink M.own ik cls :: Cond.initialized cls :: vx_atS M.own ic cls ["java/lang/RuntimeException", "java/lang/Exception"], vx_ot w = true := List.forall_mem_cons.mpr ⟨rfl, List.forall_mem_cons.mpr ⟨rfl, hgood⟩⟩
  have hrl : ((st.map (toV ad)).map fun v => v.category).sum + (13 * (["java/lang/RuntimeException", "java/lang/Exception"].length + 1) + 43) ≤ R.locals := by
    rw [cats_sum]
    show cats st + (13 * (2 + 1) + 43) ≤ _
    omega
  have hSR := hG.2.2.1.1 _ hs
  have hout : ∀ k : Nat, ∀ x ∈ c.exceptionTable.toList, covers x k = false := fun k x hx => by rw [F.2.2.2.2.2.2.2.2.1, hM] at hx; cases hx
  cases wide with
  | false =>
    obtain ⟨d2, rfl⟩ := d2
    exact vx_throwS F.1 F.2.1 F.2.2.2.2.2.2.2.1 F.2.2.2.1 hcls hnm (hG.1 _ hk rfl _) (hG.1 _ hini rfl _) hSR (fun w hw => hG.1 w (hat w hw).1 (hat w hw).2 args) hgood2 hG.2.2.2.2.1.1 hG.2.2.2.2.1.2 hS (by rw [F.2.2.1]; exact hl.1) d0 d1 d2 d3 d4 (hout _) (by show 2 + 3 < _; omega) hrl (by omega) (by omega) F.2.2.2.2.2.1 hx hS.2.2 (by omega) (by omega)
  | true =>
    obtain ⟨d2, rfl⟩ := d2
    exact vx_throwSW F.1 F.2.1 F.2.2.2.2.2.2.2.1 F.2.2.2.1 hcls hnm (hG.1 _ hk rfl _) (hG.1 _ hini rfl _) hSR (fun w hw => hG.1 w (hat w hw).1 (hat w hw).2 args) hgood2 hG.2.2.2.2.1.1 hG.2.2.2.2.1.2 hS (by rw [F.2.2.1]; exact hl.1) d0 d1 d2 d3 d4 (hout _) (by show 2 + 3 < _; omega) hrl (by omega) (by omega) F.2.2.2.2.2.1 hx hS.2.2 (by omega) (by omega)
/-- strings -/
theorem V_ldcS {idx j : Nat} (h : Ix M pc (.ldc idx) 2 nx) (hs : (M.own, idx, j) ∈ SR) (kk : V M n b bs nx ls (vR (some (98, j)) :: st) σ Q) : V M n b bs pc ls st σ Q := by
  obtain ⟨hd, rfl⟩ := h
  intro g ad p l e R s m args below meth c H locs cells slots lsA ad0 σ0 hp
  obtain ⟨F, rm, hS, hr, ⟨hol, hos⟩, hl, he⟩ := hp
  have hG := F.2.2.2.2.2.2.2.2.2
  have k2 := kk g ad p l e R s m args below meth c H locs cells slots lsA ad0 σ0 ⟨F, rm, hS, hr, ⟨hol, okS_c (Or.inr (by show 90 ≤ 98; decide)) hos⟩, hl, he⟩
  have e1 : (vR (some (98, j)) :: st).map (toV ad) = .ref (g.aK j) :: st.map (toV ad) := by
    show Value.ref (ad 98 j) :: _ = _
    rw [hr.2.2.2.2.1.2.1 j]
  rw [e1] at k2
  exact va_ldcS F.1 F.2.1 F.2.2.2.1 (hG.2.2.1.1 _ hs) hd k2
theorem V_strv {idx j : Nat} (h : Ix M pc (.getfield idx) 3 nx) (hj : j < 30) (hw : Cond.fieldLink M.own idx "java/lang/String" "value" "[B" ∈ lw_tbl) (kk : V M n b bs nx ls (vR (some (97, j)) :: st) σ Q) : V M n b bs pc ls (vR (some (98, j)) :: st) σ Q := by
  obtain ⟨hd, rfl⟩ := h
  intro g ad p l e R s m args below meth c H locs cells slots lsA ad0 σ0 hp
  obtain ⟨F, rm, hS, hr, ⟨hol, hos⟩, hl, he⟩ := hp
  have hG := F.2.2.2.2.2.2.2.2.2
  have k2 := kk g ad p l e R s m args below meth c H locs cells slots lsA ad0 σ0 ⟨F, rm, hS, hr, ⟨hol, okS_c (Or.inr (by show 90 ≤ 97; decide)) (okS_t hos)⟩, hl, he⟩
  have e1 : (vR (some (97, j)) :: st).map (toV ad) = .ref (g.aV j) :: st.map (toV ad) := by
    show Value.ref (ad 97 j) :: _ = _
    rw [hr.2.2.2.2.1.2.2.1 j]
  rw [e1] at k2
  show W p l e R s m args below meth c H locs cells slots _ (F0 m pc lsA (.ref (ad 98 j) :: st.map (toV ad)))
  rw [hr.2.2.2.2.1.2.1 j]
  exact vk_getf F.1 F.2.1 (hG.2.2.1.2 j hj).2.2.1 hS F.2.2.2.1 (hG.1 _ hw rfl _) (fun _ h => h) hd k2
theorem V_strc {idx j : Nat} (h : Ix M pc (.getfield idx) 3 nx) (hj : j < 30) (hw : Cond.fieldLink M.own idx "java/lang/String" "coder" "B" ∈ lw_tbl) (kk : V M n b bs nx ls (vI 0 :: st) σ Q) : V M n b bs pc ls (vR (some (98, j)) :: st) σ Q := by
  obtain ⟨hd, rfl⟩ := h
  intro g ad p l e R s m args below meth c H locs cells slots lsA ad0 σ0 hp
  obtain ⟨F, rm, hS, hr, ⟨hol, hos⟩, hl, he⟩ := hp
  have hG := F.2.2.2.2.2.2.2.2.2
  have k2 := kk g ad p l e R s m args below meth c H locs cells slots lsA ad0 σ0 ⟨F, rm, hS, hr, ⟨hol, okS_c trivial (okS_t hos)⟩, hl, he⟩
  show W p l e R s m args below meth c H locs cells slots _ (F0 m pc lsA (.ref (ad 98 j) :: st.map (toV ad)))
  rw [hr.2.2.2.2.1.2.1 j]
  exact vk_getf F.1 F.2.1 (hG.2.2.1.2 j hj).2.1 hS F.2.2.2.1 (hG.1 _ hw rfl _) (fun _ h => h) hd k2
theorem sl_lt (j : Nat) : slen j < 1000 := by
  have h : ∀ k, k < 30 → (bytL.getD k []).length < 1000 := by decide
  show (bytL.getD j []).length < 1000
  by_cases q : j < 30
  · exact h _ q
  · rw [List.getD_eq_getElem?_getD, List.getElem?_eq_none (by show 30 ≤ _; omega)]
    decide
theorem V_strb {j : Nat} {x : Int} (h : Ix M pc .baload 1 nx) (hj : j < 30) (hx : 0 ≤ x ∧ x < (slen j : Int)) (kk : V M n b bs nx ls (vI (schr j x) :: st) σ Q) : V M n b bs pc ls (vI x :: vR (some (97, j)) :: st) σ Q := by
  obtain ⟨hd, rfl⟩ := h
  intro g ad p l e R s m args below meth c H locs cells slots lsA ad0 σ0 hp
  obtain ⟨F, rm, hS, hr, ⟨hol, hos⟩, hl, he⟩ := hp
  have hG := F.2.2.2.2.2.2.2.2.2
  have k2 := kk g ad p l e R s m args below meth c H locs cells slots lsA ad0 σ0 ⟨F, rm, hS, hr, ⟨hol, okS_c trivial (okS_t (okS_t hos))⟩, hl, he⟩
  show W p l e R s m args below meth c H locs cells slots _ (F0 m pc lsA (.int (i32 x) :: .ref (ad 97 j) :: st.map (toV ad)))
  rw [hr.2.2.2.2.1.2.2.1 j]
  obtain ⟨hin, hto⟩ := nat_in hx.1 hx.2 (by have := sl_lt j; omega)
  have ex : ((x.toNat : Nat) : Int) = x := Int.toNat_of_nonneg hx.1
  exact va_tb F.1 F.2.1 (hG.2.2.1.2 j hj).2.2.2 hS hin (v := .int (i32 (schr j x))) (by rw [hto, ex]) hd k2
theorem V_strl {j : Nat} (h : Ix M pc .arraylength 1 nx) (hj : j < 30) (kk : V M n b bs nx ls (vI (slen j) :: st) σ Q) : V M n b bs pc ls (vR (some (97, j)) :: st) σ Q := by
  obtain ⟨hd, rfl⟩ := h
  intro g ad p l e R s m args below meth c H locs cells slots lsA ad0 σ0 hp
  obtain ⟨F, rm, hS, hr, ⟨hol, hos⟩, hl, he⟩ := hp
  have hG := F.2.2.2.2.2.2.2.2.2
  have k2 := kk g ad p l e R s m args below meth c H locs cells slots lsA ad0 σ0 ⟨F, rm, hS, hr, ⟨hol, okS_c trivial (okS_t hos)⟩, hl, he⟩
  show W p l e R s m args below meth c H locs cells slots _ (F0 m pc lsA (.ref (ad 97 j) :: st.map (toV ad)))
  rw [hr.2.2.2.2.1.2.2.1 j]
  exact va_tlen F.1 F.2.1 (hG.2.2.1.2 j hj).2.2.2 hS (v := i32 (slen j : Int)) (by exact (Int32.ofInt_eq_ofNat).symm) hd k2
theorem V_cstr {idx : Nat} (h : Ix M pc (.getstatic idx) 3 nx) (hw : Cond.fieldLink M.own idx "java/lang/String" "COMPACT_STRINGS" "Z" ∈ lw_tbl) (kk : V M n b bs nx ls (vI 1 :: st) σ Q) : V M n b bs pc ls st σ Q := by
  obtain ⟨hd, rfl⟩ := h
  intro g ad p l e R s m args below meth c H locs cells slots lsA ad0 σ0 hp
  obtain ⟨F, rm, hS, hr, ⟨hol, hos⟩, hl, he⟩ := hp
  have hG := F.2.2.2.2.2.2.2.2.2
  have k2 := kk g ad p l e R s m args below meth c H locs cells slots lsA ad0 σ0 ⟨F, rm, hS, hr, ⟨hol, okS_c trivial hos⟩, hl, he⟩
  exact va_gets F.1 F.2.1 hG.2.2.2.2.2.1.1 hS F.2.2.2.1 (hG.1 _ hw rfl _) (fun _ h => h) hd k2
theorem V_fmt {idx : Nat} (h : Ix M pc (.getstatic idx) 3 nx) (hw : Cond.fieldLink M.own idx "jdk/internal/util/Preconditions" "SIOOBE_FORMATTER" "Ljava/util/function/BiFunction;" ∈ lw_tbl) (kk : ∀ r : Option (Nat × Nat), V M n b bs nx ls (vR r :: st) σ Q) : V M n b bs pc ls st σ Q := by
  obtain ⟨hd, rfl⟩ := h
  intro g ad p l e R s m args below meth c H locs cells slots lsA ad0 σ0 hp
  obtain ⟨F, rm, hS, hr, ⟨hol, hos⟩, hl, he⟩ := hp
  have hG := F.2.2.2.2.2.2.2.2.2
  rcases hG.2.2.2.2.2.1.2 with hz | ⟨q, hz⟩
  · have k2 := kk none g ad p l e R s m args below meth c H locs cells slots lsA ad0 σ0 ⟨F, rm, hS, hr, ⟨hol, okS_c trivial hos⟩, hl, he⟩
    exact va_gets F.1 F.2.1 hz hS F.2.2.2.1 (hG.1 _ hw rfl _) (fun _ h => h) hd k2
  · have k2 := kk (some (99, q)) g ad p l e R s m args below meth c H locs cells slots lsA ad0 σ0 ⟨F, rm, hS, hr, ⟨hol, okS_c (Or.inr (by show 90 ≤ 99; decide)) hos⟩, hl, he⟩
    have e1 : (vR (some (99, q)) :: st).map (toV ad) = .ref q :: st.map (toV ad) := by
      show Value.ref (ad 99 q) :: _ = _
      rw [hr.2.2.2.2.1.1 q]
    rw [e1] at k2
    exact va_gets F.1 F.2.1 hz hS F.2.2.2.1 (hG.1 _ hw rfl _) (fun _ h => h) hd k2
/-- invokevirtual on a String of the program -/
theorem V_ivS {idx k j : Nat} (h : Ix M pc (.invokevirtual idx) 3 nx) (hM : M.hh = []) (hj : j < 30) (hC : M2.own = "java/lang/String") (hok : MOk M2 k) (hhh : M2.hh = []) (hl1 : Cond.methodLink M.own idx M2.y ∈ lw_tbl) (hl2 : Cond.instanceMethod M2.y ∈ lw_tbl) (hl3 : Cond.selects M2.y.cls M2.y M2.y ∈ lw_tbl)
    (hct : Ct M2 n2 b2 bs2 (vR (some (98, j)) :: as) σ Q2) (hn : n2 + 1 ≤ n) (hk : as.length = k) (hfit : (ent0 (vR (some (98, j)) :: as)).length ≤ M2.mL) (hcat : cats rest ≤ 8) (hst : st = as.reverse ++ vR (some (98, j)) :: rest)
    (kk : ∀ v σ', Q2 (.inl v) σ' → V M n b bs nx ls (v.toList ++ rest) σ' Q) (kx : ∀ E σ', Q2 (.inr E) σ' → Q (.inr E) σ') : V M n (b + b2) (bs + bs2) pc ls st σ Q := by
  obtain ⟨hd, rfl⟩ := h
  subst hst
  intro g ad p l e R s m args below meth c H locs cells slots lsA ad0 σ0 hp
  have hp0 := hp
  obtain ⟨F, ⟨rm1, rm2, rm3, rm4⟩, hS, hr, ⟨hol, hos⟩, hl, he⟩ := hp
  have hG := F.2.2.2.2.2.2.2.2.2
  have hrest : okS σ rest := fun v hv => hos v (List.mem_append_right _ (List.mem_cons_of_mem _ hv))
  have has : okS σ (vR (some (98, j)) :: as) := okS_c (hos _ (List.mem_append_right _ List.mem_cons_self)) (fun v hv => hos v (List.mem_append_left _ (List.mem_reverse.mpr hv)))
  have hcls : M2.y.cls = "java/lang/String" := by rw [← hok.1.2.1]; exact hC
  have hrec : ∃ cell : Cell, H[ad 98 j]? = some cell ∧ cell.vm.isStatics = false ∧ s.vm.findClass "java/lang/String" = some cell.cls := by
    rw [hr.2.2.2.2.1.2.1 j]
    obtain ⟨cell, h1, h2, h3, -⟩ := (hG.2.2.1.2 j hj).1.kept hS.2.1
    exact ⟨cell, h1, h2, h3⟩
  refine call_core (Q2 := Q2) hp0 hrest (vx_runV (C := "java/lang/String") (b := ad 98 j) (As := as.map (toV ad)) (Ts := []) ⟨F.1, F.2.1, F.2.2.1, F.2.2.2.1, fun _ h => nomatch h⟩ (met_of hct hfit hok.1.2.1 hok.1.1 hhh F.2.2.2.2.2.2.2.1 g ad) ⟨callB_V hG hok hhh (by omega) (by omega) hl1, hG.1 _ hl2 rfl args, by rw [← hcls]; exact hG.1 _ hl3 rfl args⟩ ⟨Pcf_blind _ _ _ _, hrec, Pcf_pre hG hS hr has⟩ rfl (by rw [List.length_map]; exact hk) hl.1 ?_ ?_ hd ⟨by omega, by omega⟩) (fun v σ' ad' H' locs' hq hp' => kk v σ' hq g ad' p l e R s m args below meth c H' locs' _ _ lsA ad0 σ0 hp') (fun E σ' ad' H' locs' q ce hq hp' h1 h2 h3 => kx_out hM (kx E σ' hq) hp' h1 h2 h3)
  · show (as.reverse ++ vR (some (98, j)) :: rest).map (toV ad) = _
    rw [List.map_append, List.map_reverse]
    rfl
  · show 2 * 0 + _ ≤ 8
    rw [cats_sum]
    omega
end ThrowR
