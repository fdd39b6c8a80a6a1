section EndR
variable {M M2 : MI} {n b bs n2 b2 bs2 pc nx : Nat} {ls : List (Option AV)} {st rest as : List AV} {σ : Hp} {Q Q2 : Res → Hp → Prop}
theorem end_post {g : Gp} {ad ad0 : Nat → Nat → Nat} {σ0 : Hp} {s : State} {args : Array Value} {H : Heap} {locs : List Loc} {v : Option AV} (hq : Q (.inl v) σ) (hS : va_S (aF g) s.heap H locs) (hr : rep g ad σ H) (hv : ∀ x, v = some x → okV σ x) (he : ext ad0 σ0 ad σ) : ∀ t : State, t.heap = H → s.WarmedH t.vm → Qcf g ad0 σ0 Q args s (.returned (v.map (toV ad))) t := fun t ht _ => ⟨v, ad, σ, rfl, hq, by rw [ht]; exact hr, he, hv, by rw [ht]; exact hS.1, fun q h1 h2 => by rw [ht]; exact hS.2.1 q h1 h2⟩
theorem V_ireturn {x : Int} {ty : FieldType} (h : Ix M pc .ireturn 1 nx) (hrt : M.rt = some ty) (hn : narrow ty (.int (i32 x)) = .int (i32 x)) (hq : Q (.inl (some (vI x))) σ) : V M n b bs pc ls [vI x] σ Q := by
  obtain ⟨hd, rfl⟩ := h
  intro g ad p l e R s m args below meth c H locs cells slots lsA ad0 σ0 hp
  obtain ⟨F, rm, hS, hr, ⟨hol, hos⟩, hl, he⟩ := hp
  refine W.widen (k := R.cells) (n := R.slots) (by omega) (by omega) (vx_ret ?_)
  exact W.zret F.1 F.2.1 (F.2.2.2.2.1.trans hrt) hn (end_post (v := some (vI x)) hq hS hr (fun _ e => by cases e; trivial) he) hS.2.2 hd F.2.2.2.2.2.1
theorem V_iret {x : Int} (h : Ix M pc .ireturn 1 nx) (hq : Q (.inl (some (vI x))) σ) (hrt : M.rt = some .int := by rfl) : V M n b bs pc ls [vI x] σ Q := V_ireturn h hrt rfl hq
theorem nar_z {x : Int} (h : x = 0 ∨ x = 1) : narrow .boolean (.int (i32 x)) = .int (i32 x) := by
  rcases h with rfl | rfl
  · rfl
  · rfl
theorem V_zret {x : Int} (h : Ix M pc .ireturn 1 nx) (hx : x = 0 ∨ x = 1) (hq : Q (.inl (some (vI x))) σ) (hrt : M.rt = some .boolean := by rfl) : V M n b bs pc ls [vI x] σ Q := V_ireturn h hrt (nar_z hx) hq
theorem V_cret {x : Int} (h : Ix M pc .ireturn 1 nx) (hx : 0 ≤ x ∧ x < 65536) (hq : Q (.inl (some (vI x))) σ) (hrt : M.rt = some .char := by rfl) : V M n b bs pc ls [vI x] σ Q := V_ireturn h hrt (nar_c hx) hq
theorem V_bret {x : Int} (h : Ix M pc .ireturn 1 nx) (hx : -128 ≤ x ∧ x < 128) (hq : Q (.inl (some (vI x))) σ) (hrt : M.rt = some .byte := by rfl) : V M n b bs pc ls [vI x] σ Q := V_ireturn h hrt (nar_b hx) hq
theorem V_lret {x : Int} (h : Ix M pc .lreturn 1 nx) (hq : Q (.inl (some (vL x))) σ) (hrt : M.rt = some .long := by rfl) : V M n b bs pc ls [vL x] σ Q := by
  obtain ⟨hd, rfl⟩ := h
  intro g ad p l e R s m args below meth c H locs cells slots lsA ad0 σ0 hp
  obtain ⟨F, rm, hS, hr, ⟨hol, hos⟩, hl, he⟩ := hp
  refine W.widen (k := R.cells) (n := R.slots) (by omega) (by omega) (vx_ret ?_)
  exact W.lret F.1 F.2.1 (F.2.2.2.2.1.trans hrt) (end_post (v := some (vL x)) hq hS hr (fun _ e => by cases e; trivial) he) hS.2.2 hd (hlocks := F.2.2.2.2.2.1)
theorem V_dret {x : UInt64} (h : Ix M pc .dreturn 1 nx) (hq : Q (.inl (some (vD x))) σ) (hrt : M.rt = some .double := by rfl) : V M n b bs pc ls [vD x] σ Q := by
  obtain ⟨hd, rfl⟩ := h
  intro g ad p l e R s m args below meth c H locs cells slots lsA ad0 σ0 hp
  obtain ⟨F, rm, hS, hr, ⟨hol, hos⟩, hl, he⟩ := hp
  refine W.widen (k := R.cells) (n := R.slots) (by omega) (by omega) (vx_ret ?_)
  exact W.dret F.1 F.2.1 (F.2.2.2.2.1.trans hrt) (end_post (v := some (vD x)) hq hS hr (fun _ e => by cases e; trivial) he) hS.2.2 hd (hlocks := F.2.2.2.2.2.1)
theorem V_aret {r : Option (Nat × Nat)} {C : String} (h : Ix M pc .areturn 1 nx) (hq : Q (.inl (some (vR r))) σ) (hrt : M.rt = some (.object C)) : V M n b bs pc ls [vR r] σ Q := by
  obtain ⟨hd, rfl⟩ := h
  intro g ad p l e R s m args below meth c H locs cells slots lsA ad0 σ0 hp
  obtain ⟨F, rm, hS, hr, ⟨hol, hos⟩, hl, he⟩ := hp
  refine W.widen (k := R.cells) (n := R.slots) (by omega) (by omega) (vx_ret ?_)
  exact W.aret F.1 F.2.1 (F.2.2.2.2.1.trans hrt) (Or.inl ⟨C, rfl⟩) (by cases r; exact Or.inl rfl; exact Or.inr ⟨_, rfl⟩) (end_post (v := some (vR r)) hq hS hr (fun _ e => by cases e; exact okS_h hos) he) hS.2.2 hd (hlocks := F.2.2.2.2.2.1)
theorem V_ret (h : Ix M pc .return_ 1 nx) (hq : Q (.inl none) σ) (hrt : M.rt = none := by rfl) : V M n b bs pc ls [] σ Q := by
  obtain ⟨hd, rfl⟩ := h
  intro g ad p l e R s m args below meth c H locs cells slots lsA ad0 σ0 hp
  obtain ⟨F, rm, hS, hr, ⟨hol, hos⟩, hl, he⟩ := hp
  refine W.widen (k := R.cells) (n := R.slots) (by omega) (by omega) (vx_ret ?_)
  exact W.vret F.1 F.2.1 (F.2.2.2.2.1.trans hrt) (end_post (v := none) hq hS hr (fun _ e => nomatch e) he) hS.2.2 hd (hlocks := F.2.2.2.2.2.1)
/-- rows of references -/
theorem V_aald {x : Int} {c0 N e j : Nat} (h : Ix M pc .aaload 1 nx) {t i : Nat} (ht : tgD t = (c0, N, e)) (hx : 0 ≤ x ∧ x < (N : Int)) (hP : σ.P t i x = some j) (kk : V M n b bs nx ls (vR (some (e, j)) :: st) σ Q) (hc : c0 = 5 ∨ c0 = 6 := by first | exact Or.inl rfl | exact Or.inr rfl) (h20 : 20 ≤ t := by exact Nat.le_of_ble_eq_true rfl) : V M n b bs pc ls (vI x :: vR (some (t, i)) :: st) σ Q := by
  obtain ⟨hd, rfl⟩ := h
  intro g ad p l e9 R s m args below meth c H locs cells slots lsA ad0 σ0 hp
  obtain ⟨F, rm, hS, hr, ⟨hol, hos⟩, hl, he⟩ := hp
  have hal := hr.alive (okS_h (okS_t hos)) (tgD_90 h20 ht (by omega))
  have hG := F.2.2.2.2.2.2.2.2.2
  have hat := arr_at hr hal h20 ht
  have hel := (tgD_tk ht).2.2
  have hae : arE ad σ t i = .inr (.inr (.inr (.inr fun k => (σ.P t i (k : Int)).map (ad (el t))))) := by
    unfold arE
    rw [(tgD_tk ht).1, if_neg (by omega), if_neg (by omega), if_pos (by omega)]
  rw [hae] at hat
  obtain ⟨hin, hto⟩ := nat_in hx.1 hx.2 (tgD_lt ht)
  have ex : ((x.toNat : Nat) : Int) = x := Int.toNat_of_nonneg hx.1
  have hj : σ.al e j = true := by rw [← hel]; exact hr.2.2.2.1 t i x j hal hP
  have k2 := kk g ad p l e9 R s m args below meth c H locs cells slots lsA ad0 σ0 ⟨F, rm, hS, hr, ⟨hol, okS_c (Or.inl hj) (okS_t (okS_t hos))⟩, hl, he⟩
  have e2 : va_rf ((fun k : Nat => (σ.P t i (k : Int)).map (ad (el t))) (i32 x).toNatClampNeg) = .ref (ad e j) := by
    show va_rf ((σ.P t i (((i32 x).toNatClampNeg : Nat) : Int)).map _) = _
    rw [hto, ex, hP, hel]
    rfl
  rcases hc with rfl | rfl
  · refine va_aldq (ws := [_]) F.1 F.2.1 hG.2.1.1 (one_P hat) 0 5 rfl rfl hin hd ?_
    rw [e2]
    exact k2
  · refine va_aldq (ws := [_]) F.1 F.2.1 hG.2.1.1 (one_P hat) 0 6 rfl rfl hin hd ?_
    rw [e2]
    exact k2
theorem V_aaldN {x : Int} {c0 N e : Nat} (h : Ix M pc .aaload 1 nx) {t i : Nat} (ht : tgD t = (c0, N, e)) (hx : 0 ≤ x ∧ x < (N : Int)) (hP : σ.P t i x = none) (kk : V M n b bs nx ls (vR none :: st) σ Q) (hc : c0 = 5 ∨ c0 = 6 := by first | exact Or.inl rfl | exact Or.inr rfl) (h20 : 20 ≤ t := by exact Nat.le_of_ble_eq_true rfl) : V M n b bs pc ls (vI x :: vR (some (t, i)) :: st) σ Q := by
  obtain ⟨hd, rfl⟩ := h
  intro g ad p l e9 R s m args below meth c H locs cells slots lsA ad0 σ0 hp
  obtain ⟨F, rm, hS, hr, ⟨hol, hos⟩, hl, he⟩ := hp
  have hal := hr.alive (okS_h (okS_t hos)) (tgD_90 h20 ht (by omega))
  have hG := F.2.2.2.2.2.2.2.2.2
  have hat := arr_at hr hal h20 ht
  have hae : arE ad σ t i = .inr (.inr (.inr (.inr fun k => (σ.P t i (k : Int)).map (ad (el t))))) := by
    unfold arE
    rw [(tgD_tk ht).1, if_neg (by omega), if_neg (by omega), if_pos (by omega)]
  rw [hae] at hat
  obtain ⟨hin, hto⟩ := nat_in hx.1 hx.2 (tgD_lt ht)
  have ex : ((x.toNat : Nat) : Int) = x := Int.toNat_of_nonneg hx.1
  have k2 := kk g ad p l e9 R s m args below meth c H locs cells slots lsA ad0 σ0 ⟨F, rm, hS, hr, ⟨hol, okS_c trivial (okS_t (okS_t hos))⟩, hl, he⟩
  have e2 : va_rf ((fun k : Nat => (σ.P t i (k : Int)).map (ad (el t))) (i32 x).toNatClampNeg) = .null := by
    show va_rf ((σ.P t i (((i32 x).toNatClampNeg : Nat) : Int)).map _) = _
    rw [hto, ex, hP]
    rfl
  rcases hc with rfl | rfl
  · refine va_aldq (ws := [_]) F.1 F.2.1 hG.2.1.1 (one_P hat) 0 5 rfl rfl hin hd ?_
    rw [e2]
    exact k2
  · refine va_aldq (ws := [_]) F.1 F.2.1 hG.2.1.1 (one_P hat) 0 6 rfl rfl hin hd ?_
    rw [e2]
    exact k2
theorem V_aast {x : Int} {c0 N e j t i : Nat} (h : Ix M pc .aastore 1 nx) (ht : tgD t = (c0, N, e)) (hx : 0 ≤ x ∧ x < (N : Int)) (kk : V M n b bs nx ls st (σ.setP t i x (some j)) Q) (hc : (c0 = 5 ∧ e = 6) ∨ (c0 = 6 ∧ e = 3) := by first | exact Or.inl ⟨rfl, rfl⟩ | exact Or.inr ⟨rfl, rfl⟩) (h20 : 20 ≤ t := by exact Nat.le_of_ble_eq_true rfl) : V M n b bs pc ls (vR (some (e, j)) :: vI x :: vR (some (t, i)) :: st) σ Q := by
  obtain ⟨hd, rfl⟩ := h
  intro g ad p l e9 R s m args below meth c H locs cells slots lsA ad0 σ0 hp
  obtain ⟨F, rm, hS, hr, ⟨hol, hos⟩, hl, he⟩ := hp
  have hal := hr.alive (okS_h (okS_t (okS_t hos))) (tgD_90 h20 ht (by omega))
  have hG := F.2.2.2.2.2.2.2.2.2
  have he12 : e < 12 := by omega
  have hjal := hr.alive (okS_h hos) (by omega)
  have hat := arr_at hr hal h20 ht
  have hel := (tgD_tk ht).2.2
  have hae : ∀ σ : Hp, arE ad σ t i = .inr (.inr (.inr (.inr fun k => (σ.P t i (k : Int)).map (ad (el t))))) := fun σ => by
    unfold arE
    rw [(tgD_tk ht).1, if_neg (by omega), if_neg (by omega), if_pos (by omega)]
  rw [hae] at hat
  have hat : H[ad t i]? = some (arrV (g.cy c0) N (fun k : Nat => va_rf ((σ.P t i (k : Int)).map (ad (el t))))) := hat
  obtain ⟨hin, hto⟩ := nat_in hx.1 hx.2 (tgD_lt ht)
  have hjat := (hr.1 e j hjal).2.2
  rw [cE_obj he12] at hjat
  obtain ⟨r', hr', cellV, g1, g2, g3, -⟩ := hjat
  obtain ⟨l1, -⟩ := lays_ok e he12
  have hcls := (hG.2.1.1.1 e _ l1).2
  have hRA : ∃ (kA : Class) (comp : ClassId), s.vm.classes[g.cy c0]? = some kA ∧ (∃ C, kA.kind = .array comp (.object C)) ∧ comp = g.D.1 e := by
    rcases hc with ⟨rfl, rfl⟩ | ⟨rfl, rfl⟩
    · obtain ⟨kA, comp, k1, k2, k3, -⟩ := (hG.2.1.1.2 5 _ rfl).2
      exact ⟨kA, comp, k1, ⟨_, k2⟩, Option.some.inj (k3.symm.trans hcls.1)⟩
    · obtain ⟨kA, comp, k1, k2, k3, -⟩ := (hG.2.1.1.2 6 _ rfl).2
      exact ⟨kA, comp, k1, ⟨_, k2⟩, Option.some.inj (k3.symm.trans hcls.1)⟩
  obtain ⟨kA, comp, k1, ⟨C, k2⟩, hcomp⟩ := hRA
  subst hcomp
  have hcl2 := hcls
  obtain ⟨kC, hkC, -⟩ := hcls.2
  have h0 : ¬ i32 x < 0 := fun q => hin (Or.inl q)
  have hlt : (i32 x).toNatClampNeg < N := Nat.not_le.mp fun q => hin (Or.inr q)
  refine W.aast F.1 F.2.1 hat (fun q h => by cases h) (fun h => by cases h) k1 k2 rfl hkC ⟨h0, by show _ < (arrV _ _ _).slots.size; rw [arrV_size]; exact hlt⟩ g1 (fun q h => by rw [g3] at h; cases h) (by rw [g2]; exact hkC) (by rw [g2]; exact va_assign hcl2) rfl rfl hd fun H1 e1 z oq => ?_
  refine kk g ad p l e9 R s m args below meth c H1 _ cells slots lsA ad0 σ0 ⟨F, rm, hS.put z oq (hr.1 t i hal).1, ?_, ⟨okL_al rfl hol, okS_al rfl (okS_t (okS_t (okS_t hos)))⟩, hl, he.al rfl⟩
  refine hr.put (t := t) (i := i) hal rfl (fun k r => hr.2.2.1 t i k r hal) (fun k j' hk => ?_) (fun t' i' hne => ⟨rfl, rfl, rfl, u3_ne hne, rfl⟩) rfl ?_ oq
  · have hk : u3 σ.P t i x (some j) t i k = some j' := hk
    rw [u3_same] at hk
    by_cases q : k = x
    · rw [if_pos q] at hk
      cases hk
      rw [hel]
      exact hjal
    · rw [if_neg q] at hk
      exact hr.2.2.2.1 t i k j' hal hk
  rw [cE_arr (by omega), (tgD_tk ht).1, (tgD_tk ht).2.1, hae]
  show H1[ad t i]? = some (arrV (g.cy c0) N (fun k : Nat => va_rf ((u3 σ.P t i x (some j) t i (k : Int)).map (ad (el t)))))
  rw [e1, arrV_store]
  congr 2
  funext q
  unfold updV
  rw [u3_same, hto]
  by_cases hq : q = x.toNat
  · rw [if_pos hq, if_pos (by omega), hel]
    rfl
  · rw [if_neg hq, if_neg (by omega)]
theorem V_alen {c0 N e t i : Nat} (h : Ix M pc .arraylength 1 nx) (ht : tgD t = (c0, N, e)) (hc : c0 < 5) (kk : V M n b bs nx ls (vI N :: st) σ Q) (h20 : 20 ≤ t := by exact Nat.le_of_ble_eq_true rfl) : V M n b bs pc ls (vR (some (t, i)) :: st) σ Q := by
  obtain ⟨hd, rfl⟩ := h
  intro g ad p l e R s m args below meth c H locs cells slots lsA ad0 σ0 hp
  obtain ⟨F, rm, hS, hr, ⟨hol, hos⟩, hl, he⟩ := hp
  have hal := hr.alive (okS_h hos) (tgD_90 h20 ht (by omega))
  have hG := F.2.2.2.2.2.2.2.2.2
  have hat := arr_at hr hal h20 ht
  have hty : ∃ ty, (tyL g)[c0]? = some (g.cy c0, ty) := by
    match c0, hc with
    | 0, _ => exact ⟨_, rfl⟩
    | 1, _ => exact ⟨_, rfl⟩
    | 2, _ => exact ⟨_, rfl⟩
    | 3, _ => exact ⟨_, rfl⟩
    | 4, _ => exact ⟨_, rfl⟩
  obtain ⟨ty, hty⟩ := hty
  refine va_alen (ws := [_]) (v := i32 (N : Int)) F.1 F.2.1 hG.2.1.1 (one_P hat) 0 c0 rfl hty (by show Int32.ofNat N = _; exact (Int32.ofInt_eq_ofNat).symm) hd ?_
  exact kk g ad p l e R s m args below meth c H locs cells slots lsA ad0 σ0 ⟨F, rm, hS, hr, ⟨hol, okS_c trivial (okS_t hos)⟩, hl, he⟩
/-- the script -/
theorem V_slen (h : Ix M pc .arraylength 1 nx) (kk : V M n b bs nx ls (vI σ.sl :: st) σ Q) : V M n b bs pc ls (vR (some (96, 0)) :: st) σ Q := by
  obtain ⟨hd, rfl⟩ := h
  intro g ad p l e R s m args below meth c H locs cells slots lsA ad0 σ0 hp
  obtain ⟨F, rm, hS, hr, ⟨hol, hos⟩, hl, he⟩ := hp
  have hG := F.2.2.2.2.2.2.2.2.2
  have hb : ad 96 0 = g.b := hr.2.2.2.2.1.2.2.2 0
  have k2 := kk g ad p l e R s m args below meth c H locs cells slots lsA ad0 σ0 ⟨F, rm, hS, hr, ⟨hol, okS_c trivial (okS_t hos)⟩, hl, he⟩
  show W p l e R s m args below meth c H locs cells slots _ (F0 m pc lsA (.ref (ad 96 0) :: st.map (toV ad)))
  rw [hb]
  refine va_slen F.1 F.2.1 hG.2.2.2.2.2.2.1 (Nat.lt_of_lt_of_le hG.2.2.2.2.2.2.2.1 hG.2.2.2.2.2.2.2.2) (Nat.not_le.mpr hG.2.2.2.2.2.2.2.1) hS hd ?_
  have e2 : i32 (σ.sl : Int) = Int32.ofNat g.L := by rw [hr.2.2.2.2.2.1]; exact Int32.ofInt_eq_ofNat
  rw [← e2]
  exact k2
theorem V_sld {x : Int} (h : Ix M pc .iaload 1 nx) (hx : 0 ≤ x ∧ x < (σ.sl : Int)) (hs : σ.sl < 2147483648) (kk : V M n b bs nx ls (vI (σ.I 96 0 x) :: st) σ Q) : V M n b bs pc ls (vI x :: vR (some (96, 0)) :: st) σ Q := by
  obtain ⟨hd, rfl⟩ := h
  intro g ad p l e R s m args below meth c H locs cells slots lsA ad0 σ0 hp
  obtain ⟨F, rm, hS, hr, ⟨hol, hos⟩, hl, he⟩ := hp
  have hG := F.2.2.2.2.2.2.2.2.2
  have hb : ad 96 0 = g.b := hr.2.2.2.2.1.2.2.2 0
  have hL := hr.2.2.2.2.2.1
  have k2 := kk g ad p l e R s m args below meth c H locs cells slots lsA ad0 σ0 ⟨F, rm, hS, hr, ⟨hol, okS_c trivial (okS_t (okS_t hos))⟩, hl, he⟩
  show W p l e R s m args below meth c H locs cells slots _ (F0 m pc lsA (.int (i32 x) :: .ref (ad 96 0) :: st.map (toV ad)))
  rw [hb]
  obtain ⟨hin, hto⟩ := nat_in (n := σ.sl) hx.1 hx.2 hs
  rw [hL] at hin
  refine va_sld F.1 F.2.1 hG.2.2.2.2.2.2.1 (Nat.lt_of_lt_of_le hG.2.2.2.2.2.2.2.1 hG.2.2.2.2.2.2.2.2) (Nat.not_le.mpr hG.2.2.2.2.2.2.2.1) hS hin hd ?_
  have ex : ((x.toNat : Nat) : Int) = x := Int.toNat_of_nonneg hx.1
  rw [hto, ← hr.2.2.2.2.2.2 x.toNat (by omega), ex]
  exact k2
end EndR
