def Hp.new (σ : Hp) (t i : Nat) : Hp := (fun t' i' k => if t' = t ∧ i' = i then 0 else σ.I t' i' k, fun t' i' k => if t' = t ∧ i' = i then 0 else σ.J t' i' k, fun t' i' k => if t' = t ∧ i' = i then none else σ.F t' i' k, fun t' i' k => if t' = t ∧ i' = i then none else σ.P t' i' k, fun t' i' k => if t' = t ∧ i' = i then 0 else σ.B t' i' k, fun t' i' => if t' = t ∧ i' = i then true else σ.al t' i', σ.sl)
def adN (ad : Nat → Nat → Nat) (t i q : Nat) : Nat → Nat → Nat := fun t' i' => if t' = t ∧ i' = i then q else ad t' i'
section AllocR
variable {M : MI} {n b bs pc nx : Nat} {ls : List (Option AV)} {st : List AV} {σ : Hp} {Q : Res → Hp → Prop} {t i : Nat}
theorem adN_ne {ad : Nat → Nat → Nat} {t i q t' i' : Nat} (h : ¬ (t' = t ∧ i' = i)) : adN ad t i q t' i' = ad t' i' := by
  unfold adN
  rw [if_neg h]
theorem adN_eq {ad : Nat → Nat → Nat} {t i q : Nat} : adN ad t i q t i = q := by
  unfold adN
  rw [if_pos ⟨rfl, rfl⟩]
theorem new_al {σ : Hp} {t i t' i' : Nat} : (σ.new t i).al t' i' = true ↔ (t' = t ∧ i' = i) ∨ σ.al t' i' = true := by
  show (if t' = t ∧ i' = i then true else σ.al t' i') = true ↔ _
  by_cases h : t' = t ∧ i' = i
  · simp [h]
  · simp [h]
theorem ne_al {σ : Hp} {t i : Nat} (h : σ.al t i = false) {t' i' : Nat} (h' : σ.al t' i' = true) : ¬ (t' = t ∧ i' = i) := fun e => by
  rw [e.1, e.2, h] at h'
  cases h'
theorem toV_new {ad : Nat → Nat → Nat} {σ : Hp} {t i q : Nat} (ht : t < 90) (h : σ.al t i = false) {v : AV} (hv : okV σ v) : toV (adN ad t i q) v = toV ad v := by
  rcases v with a | a | (_ | a) | a <;> first | rfl | skip
  show Value.ref _ = Value.ref _
  rcases hv with hv | hv
  · rw [adN_ne (ne_al h hv)]
  · rw [adN_ne (fun e => by omega)]
theorem okV_new {σ : Hp} {t i : Nat} {v : AV} (hv : okV σ v) : okV (σ.new t i) v := by
  rcases v with a | a | (_ | a) | a <;> first | trivial | skip
  rcases hv with hv | hv
  · exact Or.inl (new_al.mpr (Or.inr hv))
  · exact Or.inr hv
theorem rep.new {g : Gp} {ad : Nat → Nat → Nat} {σ : Hp} {H H1 : Heap} (hr : rep g ad σ H) (ht : t < 90) (h : σ.al t i = false) (hN : g.N ≤ H.size) (ho : ∀ q, q < H.size → H1[q]? = H[q]?)
    (hn : va_at g.D CL (H.size, cE g (adN ad t i H.size) (σ.new t i) t i) H1) : rep g (adN ad t i H.size) (σ.new t i) H1 := by
  obtain ⟨r1, r2, r3, r4, r5, r6, r7⟩ := hr
  have old : ∀ t' i', σ.al t' i' = true → cE g (adN ad t i H.size) (σ.new t i) t' i' = cE g ad σ t' i' := fun t' i' hal => by
    have hne := ne_al h hal
    have hI : (σ.new t i).I t' i' = σ.I t' i' := by funext k; show (if _ then _ else _) = _; rw [if_neg hne]
    have hJ : (σ.new t i).J t' i' = σ.J t' i' := by funext k; show (if _ then _ else _) = _; rw [if_neg hne]
    have hF : (σ.new t i).F t' i' = σ.F t' i' := by funext k; show (if _ then _ else _) = _; rw [if_neg hne]
    have hP : (σ.new t i).P t' i' = σ.P t' i' := by funext k; show (if _ then _ else _) = _; rw [if_neg hne]
    have hB : (σ.new t i).B t' i' = σ.B t' i' := by funext k; show (if _ then _ else _) = _; rw [if_neg hne]
    have hf : fldV (adN ad t i H.size) (σ.new t i) t' i' = fldV ad σ t' i' := by
      funext k
      unfold fldV
      rw [hI, hF]
      cases e : σ.F t' i' k with
      | none => rfl
      | some r =>
        have := r3 t' i' k r hal e
        show (if _ then Value.ref _ else _) = (if _ then Value.ref _ else _)
        rw [adN_ne (ne_al h this)]
    have hp : (fun k : Nat => (σ.P t' i' (k : Int)).map (adN ad t i H.size (el t'))) = (fun k : Nat => (σ.P t' i' (k : Int)).map (ad (el t'))) := by
      funext k
      cases e : σ.P t' i' (k : Int) with
      | none => rfl
      | some j =>
        show some _ = some _
        rw [adN_ne (ne_al h (r4 t' i' _ j hal e))]
    unfold cE arE
    rw [hf, hI, hJ, hP, hB, hp]
  refine ⟨fun t' i' q => ?_, fun a b c d h1 h2 e => ?_, fun t' i' k r q e => ?_, fun t' i' k j q e => ?_, ⟨fun q => ?_, fun q => ?_, fun q => ?_, fun q => ?_⟩, r6, fun k hk => ?_⟩
  · rcases new_al.mp q with ⟨rfl, rfl⟩ | q
    · rw [adN_eq]
      exact ⟨hN, ht, hn⟩
    · rw [adN_ne (ne_al h q), old t' i' q]
      exact ⟨(r1 t' i' q).1, (r1 t' i' q).2.1, (r1 t' i' q).2.2.kept (ho _ (r1 t' i' q).2.2.lt)⟩
  · rcases new_al.mp h1 with ⟨rfl, rfl⟩ | g1
    · rcases new_al.mp h2 with ⟨rfl, rfl⟩ | g2
      · exact ⟨rfl, rfl⟩
      · rw [adN_eq, adN_ne (ne_al h g2)] at e
        exact absurd (r1 _ _ g2).2.2.lt (by rw [← e]; exact Nat.lt_irrefl _)
    · rcases new_al.mp h2 with ⟨rfl, rfl⟩ | g2
      · rw [adN_eq, adN_ne (ne_al h g1)] at e
        exact absurd (r1 _ _ g1).2.2.lt (by rw [e]; exact Nat.lt_irrefl _)
      · rw [adN_ne (ne_al h g1), adN_ne (ne_al h g2)] at e
        exact r2 _ _ _ _ g1 g2 e
  · rcases new_al.mp q with ⟨rfl, rfl⟩ | q
    · have e2 : (if t' = t' ∧ i' = i' then none else σ.F t' i' k) = some r := e
      simp at e2
    · have e2 : (if t' = t ∧ i' = i then none else σ.F t' i' k) = some r := e
      rw [if_neg (ne_al h q)] at e2
      exact new_al.mpr (Or.inr (r3 _ _ _ _ q e2))
  · rcases new_al.mp q with ⟨rfl, rfl⟩ | q
    · have e2 : (if t' = t' ∧ i' = i' then none else σ.P t' i' k) = some j := e
      simp at e2
    · have e2 : (if t' = t ∧ i' = i then none else σ.P t' i' k) = some j := e
      rw [if_neg (ne_al h q)] at e2
      exact new_al.mpr (Or.inr (r4 _ _ _ _ q e2))
  · rw [adN_ne (fun e => by omega)]; exact r5.1 q
  · rw [adN_ne (fun e => by omega)]; exact r5.2.1 q
  · rw [adN_ne (fun e => by omega)]; exact r5.2.2.1 q
  · rw [adN_ne (fun e => by omega)]; exact r5.2.2.2 q
  · show i32 (if (96 : Nat) = t ∧ 0 = i then 0 else σ.I 96 0 (k : Int)) = _
    rw [if_neg (fun e => by omega)]
    exact r7 k hk
/-- a new cell at the heap's end, as the machine makes it -/
theorem V_alloc {N : Nat} {st0 st1 : List AV} (ht : t < 90) (h : σ.al t i = false) (hst : okS σ st0 → okS σ st1) (kk : V M n b bs nx ls (vR (some (t, i)) :: st1) (σ.new t i) Q)
    (hw : ∀ (g : Gp) (ad : Nat → Nat → Nat) {p : Program} {l : Launch} {e : Env} {R : Room} {s : State} {m : MethodId} {args : Array Value} {below : List Frame} {meth : Method} {c : Code} {H : Heap} {locs : List Loc} {cells slots : Nat} {lsA : Array Slot} {Z : State → Prop}, Fx M g p l s m meth c → cells + 1 ≤ R.cells → slots + N ≤ R.slots →
      (∀ H1 : Heap, H1.size = H.size + 1 → (∀ q, q < H.size → H1[q]? = H[q]?) → va_at g.D CL (H.size, cE g (adN ad t i H.size) (σ.new t i) t i) H1 → W p l e R s m args below meth c H1 locs (cells + 1) (slots + N) Z (F0 m nx lsA (.ref H.size :: st1.map (toV ad)))) → W p l e R s m args below meth c H locs cells slots Z (F0 m pc lsA (st0.map (toV ad)))) : V M n (b + 1) (bs + N) pc ls st0 σ Q := by
  intro g ad p l e R s m args below meth c H locs cells slots lsA ad0 σ0 hp
  obtain ⟨F, ⟨rm1, rm2, rm3, rm4⟩, hS, hr, ⟨hol, hos⟩, hl, he⟩ := hp
  have hG := F.2.2.2.2.2.2.2.2.2
  refine hw g ad F (by omega) (by omega) (fun H1 z o1 hn => ?_)
  have hN : g.N ≤ H.size := Nat.le_trans hG.2.2.2.2.2.2.2.2 hS.1
  have hos1 := hst hos
  have k2 := kk g (adN ad t i H.size) p l e R s m args below meth c H1 locs (cells + 1) (slots + N) lsA ad0 σ0 ⟨F, ⟨rm1, rm2, by omega, by omega⟩, ⟨Nat.le_trans hS.1 (by omega), fun q h1 h2 => (o1 q (Nat.lt_of_lt_of_le h1 hS.1)).trans (hS.2.1 q h1 h2), hS.2.2⟩, hr.new ht h hN o1 hn, ⟨fun v hv => okV_new (hol v hv), okS_c (Or.inl (new_al.mpr (Or.inl ⟨rfl, rfl⟩))) (fun v hv => okV_new (hos1 v hv))⟩, ⟨hl.1, hl.2.1, fun j v hj => by rw [toV_new ht h (okV_mem hol hj)]; exact hl.2.2 j v hj⟩, ⟨fun t' i' q => ⟨new_al.mpr (Or.inr (he.1 t' i' q).1), by rw [adN_ne (ne_al h (he.1 t' i' q).1)]; exact (he.1 t' i' q).2⟩, fun t' i' q => by rw [adN_ne (fun e => by omega)]; exact he.2 t' i' q⟩⟩
  have e1 : (vR (some (t, i)) :: st1).map (toV (adN ad t i H.size)) = .ref H.size :: st1.map (toV ad) := by
    show Value.ref (adN ad t i H.size t i) :: st1.map _ = _
    rw [adN_eq, List.map_congr_left (fun v hv => toV_new ht h (hos1 v hv))]
  rw [e1] at k2
  exact k2
theorem V_newA {aty : ArrayType} {c0 N e0 : Nat} {ty : FieldType} (h : Ix M pc (.newarray aty) 2 nx) (ht : tgD t = (c0, N, e0)) (hty : newarray.typeOf aty = ty) (hc : c0 < 5) (hc2 : [FieldType.int, .long, .char, .byte, .double][c0]? = some ty) (hw : Cond.arrayClass ty ∈ lw_tbl) (hal : σ.al t i = false) (kk : V M n b bs nx ls (vR (some (t, i)) :: st) (σ.new t i) Q) (h20 : 20 ≤ t := by exact Nat.le_of_ble_eq_true rfl) : V M n (b + 1) (bs + N) pc ls (vI N :: st) σ Q := by
  obtain ⟨hd, rfl⟩ := h
  subst hty
  refine V_alloc (tgD_90 h20 ht (by omega)) hal (fun ho => okS_t ho) kk (fun g ad => fun F hcl hsl w => ?_)
  have hG := F.2.2.2.2.2.2.2.2.2
  have hN := tgD_lt ht
  have hN2 : N < 4000 := by have := tln_lt t; rwa [(tgD_tk ht).2.1] at this
  have eN : (i32 (N : Int)).toNatClampNeg = N := by
    show (i32 (N : Int)).toInt.toNat = N
    rw [n32 (by omega) (by omega)]
    omega
  refine va_newaK F.1 F.2.1 (hG.1 _ hw rfl _) rfl hd rfl (fun q => ?_) eN ?_ hcl hsl rfl (fun H1 cA e1 z o1 hAr hNm => ?_)
  · have := (i_lt (a := (N : Int)) (b := 0) (by omega) (by omega) (by omega) (by omega)).mp q
    omega
  · have h8 : ∀ a : ArrayType, componentBytes (newarray.typeOf a) ≤ 8 := by intro a; cases a <;> decide
    have h9 := h8 aty
    have h10 : N * componentBytes (newarray.typeOf aty) ≤ 4000 * 8 := Nat.mul_le_mul (by omega) h9
    omega
  · refine w H1 z o1 ?_
    rw [cE_arr (by omega), (tgD_tk ht).1, (tgD_tk ht).2.1]
    have hcA : ∀ (k : Nat) (ty : FieldType), (tyL g)[k]? = some (g.cy k, ty) → (∀ C, ty ≠ .object C) → newarray.typeOf aty = ty → cA = g.cy k := fun k ty hk hne e => by
      have h2 := (hG.2.1.1.2 k _ hk).2
      rw [e] at hNm
      cases ty <;> first | exact absurd rfl (hne _) | exact Option.some.inj (hNm.symm.trans h2)
    have h0 : ∀ k : Int, (σ.new t i).I t i k = 0 := fun k => by show (if _ then _ else _) = _; rw [if_pos ⟨rfl, rfl⟩]
    have h1 : ∀ k : Int, (σ.new t i).J t i k = 0 := fun k => by show (if _ then _ else _) = _; rw [if_pos ⟨rfl, rfl⟩]
    have h2 : ∀ k : Int, (σ.new t i).B t i k = 0 := fun k => by show (if _ then _ else _) = _; rw [if_pos ⟨rfl, rfl⟩]
    match c0, hc, hc2, ht with
    | 0, _, hc2, ht =>
      have ety : newarray.typeOf aty = .int := (Option.some.inj hc2).symm
      rw [hcA 0 .int rfl (fun _ q => by cases q) ety, ety] at e1
      show H1[_]? = some (vp_cell _ _)
      rw [e1]
      unfold arE
      rw [(tgD_tk ht).1]
      show some (arrV _ _ _) = some (arrV _ _ (fun k : Nat => .int (i32 ((σ.new t i).I t i (k : Int)))))
      simp only [h0]
      rfl
    | 1, _, hc2, ht =>
      have ety : newarray.typeOf aty = .long := (Option.some.inj hc2).symm
      rw [hcA 1 .long rfl (fun _ q => by cases q) ety, ety] at e1
      show H1[_]? = some (vp_cell _ _)
      rw [e1]
      unfold arE
      rw [(tgD_tk ht).1]
      show some (arrV _ _ _) = some (arrV _ _ (fun k : Nat => .long (i64 ((σ.new t i).J t i (k : Int)))))
      simp only [h1]
      rfl
    | 2, _, hc2, ht =>
      have ety : newarray.typeOf aty = .char := (Option.some.inj hc2).symm
      rw [hcA 2 .char rfl (fun _ q => by cases q) ety, ety] at e1
      show H1[_]? = some (vp_cell _ _)
      rw [e1]
      unfold arE
      rw [(tgD_tk ht).1]
      show some (arrV _ _ _) = some (arrV _ _ (fun k : Nat => .int (i32 ((σ.new t i).I t i (k : Int)))))
      simp only [h0]
      rfl
    | 3, _, hc2, ht =>
      have ety : newarray.typeOf aty = .byte := (Option.some.inj hc2).symm
      rw [hcA 3 .byte rfl (fun _ q => by cases q) ety, ety] at e1
      show H1[_]? = some (vp_cell _ _)
      rw [e1]
      unfold arE
      rw [(tgD_tk ht).1]
      show some (arrV _ _ _) = some (arrV _ _ (fun k : Nat => .int (i32 ((σ.new t i).I t i (k : Int)))))
      simp only [h0]
      rfl
    | 4, _, hc2, ht =>
      have ety : newarray.typeOf aty = .double := (Option.some.inj hc2).symm
      rw [hcA 4 .double rfl (fun _ q => by cases q) ety, ety] at e1
      show H1[_]? = some (vp_cell _ _)
      rw [e1]
      unfold arE
      rw [(tgD_tk ht).1]
      show some (arrV _ _ _) = some (arrV _ _ (fun k : Nat => .double ((σ.new t i).B t i (k : Int))))
      simp only [h2]
      rfl
theorem V_newO {idx : Nat} (h : Ix M pc (.new idx) 3 nx) (ht : t < 12) (hw1 : Cond.classLink M.own idx (cR t) ∈ lw_tbl) (hw2 : Cond.instantiable (cR t) (nf t) ∈ lw_tbl) (hw3 : Cond.initialized (cR t) ∈ lw_tbl) (hal : σ.al t i = false) (kk : V M n b bs nx ls (vR (some (t, i)) :: st) (σ.new t i) Q) : V M n (b + 1) (bs + nf t) pc ls st σ Q := by
  obtain ⟨hd, rfl⟩ := h
  refine V_alloc (by omega) hal id kk (fun g ad => fun F hcl hsl w => ?_)
  have hG := F.2.2.2.2.2.2.2.2.2
  obtain ⟨l1, l2, l3, l4⟩ := lays_ok t ht
  have hKn := hG.2.1.1.1 t _ l1
  refine W.newcK F.1 F.2.1 F.2.2.2.1 (hG.1 _ hw1 rfl _) (hG.1 _ hw2 rfl _) (hG.1 _ hw3 rfl _) rfl hd hcl hsl hKn.2.1 rfl fun H1 kC hkC e1 z o1 => ?_
  refine w H1 z o1 ?_
  rw [cE_obj ht]
  refine ⟨_, l1, (u_born (cTy t) (hts_of hG ht #[]) (fun _ h => h) hKn hkC e1 l3).to (fun j hj => ?_)⟩
  show _ = vp_V _ j
  unfold vp_V
  rw [List.getD_eq_getElem?_getD, rng_get _ hj]
  show _ = fldV _ _ _ _ _
  unfold fldV
  have h0 : ∀ k : Int, (σ.new t i).I t i k = 0 := fun k => by show (if _ then _ else _) = _; rw [if_pos ⟨rfl, rfl⟩]
  have hF : ∀ k : Nat, (σ.new t i).F t i k = none := fun k => by show (if _ then _ else _) = _; rw [if_pos ⟨rfl, rfl⟩]
  cases hk : fk t j with
  | false =>
    rw [if_neg (by decide), h0, (fld_int t ht j hj hk).2]
    rfl
  | true =>
    rw [if_pos rfl, hF]
    have := (fld_ref t ht j hj hk).2.2
    cases e : cTy t j <;> rw [e] at this <;> first | rfl | cases this
theorem ao_of {g : Gp} {s : State} {C : String} {c0 : Nat} (hG : G g s) (hC : (c0 = 5 ∧ C = "LendingPool$Pool") ∨ (c0 = 6 ∧ C = "LendingPool$Loan")) : va_AO C s ∧ s.vm.findClass ("[" ++ (FieldType.object C).toString) = some (g.cy c0) := by
  rcases hC with ⟨rfl, rfl⟩ | ⟨rfl, rfl⟩
  · obtain ⟨kA, comp, h1, h2, h3, h4⟩ := (hG.2.1.1.2 5 _ rfl).2
    exact ⟨hG.2.1.2.1, h4⟩
  · obtain ⟨kA, comp, h1, h2, h3, h4⟩ := (hG.2.1.1.2 6 _ rfl).2
    exact ⟨hG.2.1.2.2, h4⟩
theorem V_newQ {idx c0 N e0 : Nat} {C : String} (h : Ix M pc (.anewarray idx) 3 nx) (ht : tgD t = (c0, N, e0)) (hC : (c0 = 5 ∧ C = "LendingPool$Pool") ∨ (c0 = 6 ∧ C = "LendingPool$Loan")) (hw : Cond.classLink M.own idx C ∈ lw_tbl) (hal : σ.al t i = false) (kk : V M n b bs nx ls (vR (some (t, i)) :: st) (σ.new t i) Q) (h20 : 20 ≤ t := by exact Nat.le_of_ble_eq_true rfl) : V M n (b + 1) (bs + N) pc ls (vI N :: st) σ Q := by
  obtain ⟨hd, rfl⟩ := h
  refine V_alloc (tgD_90 h20 ht (by omega)) hal (fun ho => okS_t ho) kk (fun g ad => fun F hcl hsl w => ?_)
  have hG := F.2.2.2.2.2.2.2.2.2
  have hN := tgD_lt ht
  have hN2 : N < 4000 := by have := tln_lt t; rwa [(tgD_tk ht).2.1] at this
  have eN : (i32 (N : Int)).toNatClampNeg = N := by
    show (i32 (N : Int)).toInt.toNat = N
    rw [n32 (by omega) (by omega)]
    omega
  obtain ⟨hAO, hRA⟩ := ao_of hG hC
  refine W.anew F.1 F.2.1 F.2.2.2.1 (hG.1 _ hw rfl _) (va_AO.use hAO) rfl hd rfl (fun q => ?_) (by rw [eN]; omega) hcl (by rw [eN]; exact hsl) fun cA kA comp f1 f2 f3 f4 => ?_
  · have := (i_lt (a := (N : Int)) (b := 0) (by omega) (by omega) (by omega) (by omega)).mp q
    omega
  · have hcA : cA = g.cy c0 := Option.some.inj (f1.symm.trans hRA)
    subst hcA
    rw [eN]
    refine w _ (by rw [Array.size_push]) (fun q hq => by rw [Array.getElem?_push, if_neg (Nat.ne_of_lt hq)]) ?_
    rw [cE_arr (by omega), (tgD_tk ht).1, (tgD_tk ht).2.1]
    have h5 : 5 ≤ c0 := by rcases hC with ⟨rfl, -⟩ | ⟨rfl, -⟩ <;> decide
    have hP : ∀ k : Int, (σ.new t i).P t i k = none := fun k => by show (if _ then _ else _) = _; rw [if_pos ⟨rfl, rfl⟩]
    unfold arE
    rw [(tgD_tk ht).1, if_neg (by omega), if_neg (by omega), if_pos h5]
    show (Array.push _ _)[_]? = some (arrV (g.cy c0) N (fun k : Nat => va_rf ((((σ.new t i).P t i (k : Int))).map _)))
    rw [Array.getElem?_push_size]
    simp only [hP]
    show _ = some (arrV (g.cy c0) N (fun _ => Value.null))
    rw [← arrV_new]
end AllocR
