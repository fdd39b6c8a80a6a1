theorem loopF {P : Int → Prop} {a N : Int} (ha : a ≤ N) (he : P N) (hs : ∀ k, a ≤ k → k < N → P (k + 1) → P k) : P a := by
  have key : ∀ (n : Nat) (k : Int), a ≤ k → k ≤ N → (N - k).toNat = n → P k := by
    intro n
    induction n with
    | zero =>
      intro k h1 h2 h3
      have e : k = N := by omega
      rw [e]
      exact he
    | succ n ih =>
      intro k h1 h2 h3
      exact hs k h1 (by omega) (ih (k + 1) (by omega) (by omega) (by omega))
  exact key _ a (by omega) ha rfl
theorem loopI {P : Int → Prop} {N : Int} (hN : 0 ≤ N) (he : P N) (hs : ∀ k, 0 ≤ k → k < N → P (k + 1) → P k) : P 0 := loopF hN he hs
/-- a sum over 0, 1 .. k - 1 -/
def smN (f : Int → Int) : Nat → Int
  | 0 => 0
  | n + 1 => smN f n + f (n : Int)
def sm (f : Int → Int) (k : Int) : Int := smN f k.toNat
theorem sm_0 (f : Int → Int) : sm f 0 = 0 := rfl
theorem sm_s (f : Int → Int) {k : Int} (h : 0 ≤ k) : sm f (k + 1) = sm f k + f k := by
  unfold sm
  rw [show (k + 1).toNat = k.toNat + 1 by omega]
  show smN f k.toNat + f (k.toNat : Int) = _
  rw [Int.toNat_of_nonneg h]
theorem sm_neg (f : Int → Int) {k : Int} (h : k ≤ 0) : sm f k = 0 := by
  unfold sm
  rw [show k.toNat = 0 by omega]
  rfl
theorem sm_congr {f g : Int → Int} {k : Int} (h : ∀ j, 0 ≤ j → j < k → f j = g j) : sm f k = sm g k := by
  have key : ∀ n : Nat, (∀ j : Int, 0 ≤ j → j < (n : Int) → f j = g j) → smN f n = smN g n := by
    intro n
    induction n with
    | zero => intro _; rfl
    | succ n ih =>
      intro h
      show smN f n + f n = smN g n + g n
      rw [ih (fun j h1 h2 => h j h1 (by omega)), h n (by omega) (by omega)]
  exact key _ (fun j h1 h2 => h j h1 (by omega))
theorem sm_bd {f : Int → Int} {k lo hi : Int} (h0 : 0 ≤ k) (h : ∀ j, 0 ≤ j → j < k → lo ≤ f j ∧ f j ≤ hi) : k * lo ≤ sm f k ∧ sm f k ≤ k * hi := by
  have key : ∀ n : Nat, (∀ j : Int, 0 ≤ j → j < (n : Int) → lo ≤ f j ∧ f j ≤ hi) → (n : Int) * lo ≤ smN f n ∧ smN f n ≤ (n : Int) * hi := by
    intro n
    induction n with
    | zero => intro _; simp [smN]
    | succ n ih =>
      intro h
      have h1 := ih (fun j h1 h2 => h j h1 (by omega))
      have h2 := h n (by omega) (by omega)
      show _ ≤ smN f n + f n ∧ smN f n + f n ≤ _
      rw [show ((n + 1 : Nat) : Int) * lo = (n : Int) * lo + lo by rw [Int.natCast_add, Int.add_mul]; simp, show ((n + 1 : Nat) : Int) * hi = (n : Int) * hi + hi by rw [Int.natCast_add, Int.add_mul]; simp]
      omega
  have := key k.toNat (fun j h1 h2 => h j h1 (by omega))
  rw [Int.toNat_of_nonneg h0] at this
  exact this
/-- the state of a pool, in the model's order -/
abbrev St : Type := Int → Int
/-- the open loan at a place -/
def LoanIn (D : Int) (A : St) (k : Int) : Prop :=
  (0 ≤ A (83 + 23 * k + 0) ∧ A (83 + 23 * k + 0) < A 8) ∧ (0 ≤ A (83 + 23 * k + 1) ∧ A (83 + 23 * k + 1) < A 2) ∧ (0 ≤ A (83 + 23 * k + 2) ∧ A (83 + 23 * k + 2) < A 0) ∧ (0 ≤ A (83 + 23 * k + 3) ∧ A (83 + 23 * k + 3) ≤ 9999) ∧ (0 ≤ A (83 + 23 * k + 4) ∧ A (83 + 23 * k + 4) ≤ A 6) ∧
  ∀ l, 0 ≤ l → l < 6 → (0 ≤ A (83 + 23 * k + 11 + l) ∧ A (83 + 23 * k + 11 + l) ≤ A (83 + 23 * k + 5 + l) ∧ A (83 + 23 * k + 5 + l) ≤ 99999) ∧ (A (83 + 23 * k + 11 + l) = 0 → A (83 + 23 * k + 17 + l) = -1) ∧ (0 < A (83 + 23 * k + 11 + l) → A 6 ≤ A (83 + 23 * k + 17 + l) ∧ A (83 + 23 * k + 17 + l) ≤ A 6 + 30) ∧ (A 1 ≤ l → A (83 + 23 * k + 5 + l) = 0)
def lentA (A : St) (l s : Int) : Int := sm (fun k => if A (83 + 23 * k + 2) = s then A (83 + 23 * k + 5 + l) else 0) (A 7)
def quanA (A : St) (k : Int) : Int := sm (fun l => A (83 + 23 * k + 5 + l)) (A 1)
def Inv (D : Int) (A : St) : Prop :=
  ((0 ≤ A 0 ∧ A 0 ≤ 4) ∧ (0 ≤ A 1 ∧ A 1 ≤ 6) ∧ (0 ≤ A 2 ∧ A 2 ≤ 4) ∧ (0 ≤ A 3 ∧ A 3 ≤ 30) ∧ (0 ≤ A 4 ∧ A 4 ≤ 100) ∧ (0 ≤ A 5 ∧ A 5 ≤ 2) ∧ (0 ≤ A 6 ∧ A 6 ≤ D) ∧ (0 ≤ A 7 ∧ A 7 ≤ 12) ∧ (0 ≤ A 8 ∧ A 8 ≤ D)) ∧
  (∀ s, 0 ≤ s → s < A 0 → (1 ≤ A (15 + s) ∧ A (15 + s) ≤ 9999) ∧ 0 ≤ A (19 + s) ∧ A (19 + s) ≤ 9999) ∧
  (∀ s, 0 ≤ s → s < 4 → -1 ≤ A (23 + s) ∧ (A (23 + s) = -1 ∨ A (23 + s) < A 1)) ∧
  (∀ l, 0 ≤ l → l < A 1 → (0 ≤ A (27 + l) ∧ A (27 + l) ≤ 100) ∧ (0 ≤ A (33 + l) ∧ A (33 + l) ≤ 100) ∧ 0 ≤ A (39 + l) ∧ A (39 + l) ≤ 100) ∧
  (∀ b, 0 ≤ b → b < A 2 → 0 ≤ A (45 + b) ∧ A (45 + b) ≤ 9999999) ∧
  (∀ l s, 0 ≤ l → l < 6 → 0 ≤ s → s < 4 → 0 ≤ A (49 + 4 * l + s) ∧ A (49 + 4 * l + s) ≤ 99999) ∧
  (∀ k, 0 ≤ k → k < A 7 → LoanIn D A k ∧ 0 < quanA A k) ∧
  (∀ j k, 0 ≤ j → j < k → k < A 7 → A (83 + 23 * j + 0) < A (83 + 23 * k + 0)) ∧
  (∀ l s, 0 ≤ l → l < 6 → 0 ≤ s → s < 4 → lentA A l s ≤ A (49 + 4 * l + s))
theorem Inv.n {D : Int} {A : St} (h : Inv D A) : (0 ≤ A 0 ∧ A 0 ≤ 4) ∧ (0 ≤ A 1 ∧ A 1 ≤ 6) ∧ (0 ≤ A 2 ∧ A 2 ≤ 4) ∧ (0 ≤ A 3 ∧ A 3 ≤ 30) ∧ (0 ≤ A 4 ∧ A 4 ≤ 100) ∧ (0 ≤ A 5 ∧ A 5 ≤ 2) ∧ (0 ≤ A 6 ∧ A 6 ≤ D) ∧ (0 ≤ A 7 ∧ A 7 ≤ 12) ∧ (0 ≤ A 8 ∧ A 8 ≤ D) := h.1
theorem Inv.price {D : Int} {A : St} (h : Inv D A) {s : Int} (h0 : 0 ≤ s) (h1 : s < A 0) : (1 ≤ A (15 + s) ∧ A (15 + s) ≤ 9999) ∧ 0 ≤ A (19 + s) ∧ A (19 + s) ≤ 9999 := h.2.1 s h0 h1
theorem Inv.last {D : Int} {A : St} (h : Inv D A) {s : Int} (h0 : 0 ≤ s) (h1 : s < 4) : -1 ≤ A (23 + s) ∧ (A (23 + s) = -1 ∨ A (23 + s) < A 1) := h.2.2.1 s h0 h1
theorem Inv.lend {D : Int} {A : St} (h : Inv D A) {l : Int} (h0 : 0 ≤ l) (h1 : l < A 1) : (0 ≤ A (27 + l) ∧ A (27 + l) ≤ 100) ∧ (0 ≤ A (33 + l) ∧ A (33 + l) ≤ 100) ∧ 0 ≤ A (39 + l) ∧ A (39 + l) ≤ 100 := h.2.2.2.1 l h0 h1
theorem Inv.cred {D : Int} {A : St} (h : Inv D A) {b : Int} (h0 : 0 ≤ b) (h1 : b < A 2) : 0 ≤ A (45 + b) ∧ A (45 + b) ≤ 9999999 := h.2.2.2.2.1 b h0 h1
theorem Inv.held {D : Int} {A : St} (h : Inv D A) {l s : Int} (h0 : 0 ≤ l) (h1 : l < 6) (h2 : 0 ≤ s) (h3 : s < 4) : 0 ≤ A (49 + 4 * l + s) ∧ A (49 + 4 * l + s) ≤ 99999 := h.2.2.2.2.2.1 l s h0 h1 h2 h3
theorem Inv.loan {D : Int} {A : St} (h : Inv D A) {k : Int} (h0 : 0 ≤ k) (h1 : k < A 7) : LoanIn D A k := (h.2.2.2.2.2.2.1 k h0 h1).1
theorem Inv.quan {D : Int} {A : St} (h : Inv D A) {k : Int} (h0 : 0 ≤ k) (h1 : k < A 7) : 0 < quanA A k := (h.2.2.2.2.2.2.1 k h0 h1).2
theorem Inv.incr {D : Int} {A : St} (h : Inv D A) {j k : Int} (h0 : 0 ≤ j) (h1 : j < k) (h2 : k < A 7) : A (83 + 23 * j + 0) < A (83 + 23 * k + 0) := h.2.2.2.2.2.2.2.1 j k h0 h1 h2
theorem Inv.lent {D : Int} {A : St} (h : Inv D A) {l s : Int} (h0 : 0 ≤ l) (h1 : l < 6) (h2 : 0 ≤ s) (h3 : s < 4) : lentA A l s ≤ A (49 + 4 * l + s) := h.2.2.2.2.2.2.2.2 l s h0 h1 h2 h3
theorem LoanIn.sl {D : Int} {A : St} {k : Int} (h : LoanIn D A k) {l : Int} (h0 : 0 ≤ l) (h1 : l < 6) : (0 ≤ A (83 + 23 * k + 11 + l) ∧ A (83 + 23 * k + 11 + l) ≤ A (83 + 23 * k + 5 + l) ∧ A (83 + 23 * k + 5 + l) ≤ 99999) ∧ (A (83 + 23 * k + 11 + l) = 0 → A (83 + 23 * k + 17 + l) = -1) ∧ (0 < A (83 + 23 * k + 11 + l) → A 6 ≤ A (83 + 23 * k + 17 + l) ∧ A (83 + 23 * k + 17 + l) ≤ A 6 + 30) ∧ (A 1 ≤ l → A (83 + 23 * k + 5 + l) = 0) := h.2.2.2.2.2 l h0 h1
/-- the class's pool number i holds the state A -/
def lid (σ : Hp) (i : Nat) (k : Int) : Nat := (σ.P 47 i k).getD 0
def Rel (σ : Hp) (i : Nat) (A : St) : Prop :=
  (σ.I 36 i 0 = A 0 ∧ σ.I 36 i 1 = A 1 ∧ σ.I 36 i 2 = A 2 ∧ σ.I 36 i 3 = A 7 ∧ σ.I 36 i 4 = A 8 ∧ σ.I 36 i 5 = A 6 ∧ σ.I 36 i 6 = A 5 ∧ σ.I 36 i 7 = A 3 ∧ σ.I 36 i 8 = A 4) ∧
  (∀ s, 0 ≤ s → s < A 0 → σ.I 37 i s = A (15 + s) ∧ σ.I 38 i s = A (19 + s)) ∧
  (∀ s, 0 ≤ s → s < A 0 → σ.I 39 i s = A (23 + s)) ∧
  (∀ l, 0 ≤ l → l < A 1 → σ.I 40 i l = A (27 + l) ∧ σ.I 41 i l = A (33 + l) ∧ σ.I 42 i l = A (39 + l)) ∧
  (∀ b, 0 ≤ b → b < A 2 → σ.I 43 i b = A (45 + b)) ∧
  (∀ l s, 0 ≤ l → l < 6 → 0 ≤ s → s < 4 → σ.I 44 i (l * 4 + s) = A (49 + 4 * l + s)) ∧
  ((∀ l, 0 ≤ l → l < 6 → σ.J 45 i l = A (73 + l)) ∧ (∀ b, 0 ≤ b → b < 4 → σ.J 45 i (6 + b) = A (79 + b)) ∧ σ.J 45 i 10 = A 12 ∧ σ.J 45 i 11 = A 13 ∧ σ.J 45 i 12 = A 14) ∧
  (σ.J 46 i 0 = A 9 ∧ σ.J 46 i 1 = A 10 ∧ σ.J 46 i 2 = A 11) ∧
  (∀ k, 0 ≤ k → k < A 7 → σ.I 3 (lid σ i k) 0 = A (83 + 23 * k + 0) ∧ σ.I 3 (lid σ i k) 1 = A (83 + 23 * k + 1) ∧ σ.I 3 (lid σ i k) 2 = A (83 + 23 * k + 2) ∧ σ.I 3 (lid σ i k) 3 = A (83 + 23 * k + 3) ∧ σ.I 3 (lid σ i k) 4 = A (83 + 23 * k + 4) ∧
    ∀ l, 0 ≤ l → l < 6 → σ.I 30 (lid σ i k) l = A (83 + 23 * k + 5 + l) ∧ σ.I 31 (lid σ i k) l = A (83 + 23 * k + 11 + l) ∧ σ.I 32 (lid σ i k) l = A (83 + 23 * k + 17 + l))
/-- its twelve rows are apart -/
def Shp (σ : Hp) (i : Nat) : Prop := (∀ k, 0 ≤ k → k < 12 → σ.P 47 i k = some (lid σ i k) ∧ 12 * i ≤ lid σ i k ∧ lid σ i k < 12 * i + 12) ∧ ∀ j k, 0 ≤ j → j < 12 → 0 ≤ k → k < 12 → lid σ i j = lid σ i k → j = k
section EV
variable {M : MI} {n b bs pc nx : Nat} {ls : List (Option AV)} {st : List AV} {σ : Hp} {Q : Res → Hp → Prop} {t i : Nat}
theorem V_ialdE {x v : Int} {N e : Nat} (h : Ix M pc .iaload 1 nx) (ht : tgD t = (0, N, e)) (hx : 0 ≤ x ∧ x < (N : Int)) (hv : σ.I t i x = v) (kk : V M n b bs nx ls (vI v :: st) σ Q) (h20 : 20 ≤ t := by exact Nat.le_of_ble_eq_true rfl) : V M n b bs pc ls (vI x :: vR (some (t, i)) :: st) σ Q := by
  subst hv
  exact V_iald h ht hx kk h20
theorem V_laldE {x v : Int} {N e : Nat} (h : Ix M pc .laload 1 nx) (ht : tgD t = (1, N, e)) (hx : 0 ≤ x ∧ x < (N : Int)) (hv : σ.J t i x = v) (kk : V M n b bs nx ls (vL v :: st) σ Q) (h20 : 20 ≤ t := by exact Nat.le_of_ble_eq_true rfl) : V M n b bs pc ls (vI x :: vR (some (t, i)) :: st) σ Q := by
  subst hv
  exact V_lald h ht hx kk h20
theorem V_baldE {x v : Int} {N e : Nat} (h : Ix M pc .baload 1 nx) (ht : tgD t = (3, N, e)) (hx : 0 ≤ x ∧ x < (N : Int)) (hv : σ.I t i x = v) (kk : V M n b bs nx ls (vI v :: st) σ Q) (h20 : 20 ≤ t := by exact Nat.le_of_ble_eq_true rfl) : V M n b bs pc ls (vI x :: vR (some (t, i)) :: st) σ Q := by
  subst hv
  exact V_bald h ht hx kk h20
theorem V_caldE {x v : Int} {N e : Nat} (h : Ix M pc .caload 1 nx) (ht : tgD t = (2, N, e)) (hx : 0 ≤ x ∧ x < (N : Int)) (hv : σ.I t i x = v) (kk : V M n b bs nx ls (vI v :: st) σ Q) (h20 : 20 ≤ t := by exact Nat.le_of_ble_eq_true rfl) : V M n b bs pc ls (vI x :: vR (some (t, i)) :: st) σ Q := by
  subst hv
  exact V_cald h ht hx kk h20
theorem V_getIE {idx k : Nat} {kI v : Int} (h : Ix M pc (.getfield idx) 3 nx) (hf : FL M idx t k kI) (hk : fk t k = false) (hv : σ.I t i kI = v) (kk : V M n b bs nx ls (vI v :: st) σ Q) : V M n b bs pc ls (vR (some (t, i)) :: st) σ Q := by
  subst hv
  exact V_getI h hf hk kk
/-- the model's row w -/
theorem V_w {A : St} {x : Int} (h : Ix M pc .laload 1 nx) (hx : 0 ≤ x ∧ x < 359) (hA : σ.J 50 0 = A) (kk : V M n b bs nx ls (vL (A x) :: st) σ Q) : V M n b bs pc ls (vI x :: vR (some (50, 0)) :: st) σ Q := by
  subst hA
  exact V_lald h rfl (by omega) kk
end EV
/-- what a method leaves as it was: all but some tags -/
def Fm (L : List Nat) (σ σ' : Hp) : Prop := σ'.F = σ.F ∧ σ'.P = σ.P ∧ σ'.B = σ.B ∧ σ'.al = σ.al ∧ σ'.sl = σ.sl ∧ (∀ t, t ∉ L → σ'.I t = σ.I t) ∧ ∀ t, t ∉ L → σ'.J t = σ.J t
theorem Fm.refl (L : List Nat) (σ : Hp) : Fm L σ σ := ⟨rfl, rfl, rfl, rfl, rfl, fun _ _ => rfl, fun _ _ => rfl⟩
theorem Fm.trans {L : List Nat} {σ σ' σ'' : Hp} (h : Fm L σ σ') (h2 : Fm L σ' σ'') : Fm L σ σ'' := ⟨h2.1.trans h.1, h2.2.1.trans h.2.1, h2.2.2.1.trans h.2.2.1, h2.2.2.2.1.trans h.2.2.2.1, h2.2.2.2.2.1.trans h.2.2.2.2.1, fun t ht => (h2.2.2.2.2.2.1 t ht).trans (h.2.2.2.2.2.1 t ht), fun t ht => (h2.2.2.2.2.2.2 t ht).trans (h.2.2.2.2.2.2 t ht)⟩
theorem Fm.sub {L L' : List Nat} {σ σ' : Hp} (h : Fm L σ σ') (hs : ∀ t ∈ L, t ∈ L') : Fm L' σ σ' := ⟨h.1, h.2.1, h.2.2.1, h.2.2.2.1, h.2.2.2.2.1, fun t ht => h.2.2.2.2.2.1 t (fun q => ht (hs t q)), fun t ht => h.2.2.2.2.2.2 t (fun q => ht (hs t q))⟩
theorem Fm.wf {L : List Nat} {σ σ' : Hp} (h : Fm L σ σ') (hW : WF σ) : WF σ' := fun t k i r hf hal => by
  rw [h.2.2.2.1] at hal
  rw [h.1]
  exact hW t k i r hf hal
theorem Fm.I {L : List Nat} {σ σ' : Hp} (h : Fm L σ σ') {t : Nat} (ht : t ∉ L) : σ'.I t = σ.I t := h.2.2.2.2.2.1 t ht
theorem Fm.J {L : List Nat} {σ σ' : Hp} (h : Fm L σ σ') {t : Nat} (ht : t ∉ L) : σ'.J t = σ.J t := h.2.2.2.2.2.2 t ht
theorem u3_t {α : Type} {f : Nat → Nat → Int → α} {t i : Nat} {k : Int} {v : α} {t' : Nat} (h : t' ≠ t) : u3 f t i k v t' = f t' := by
  funext i' k'
  unfold u3
  rw [if_neg (fun e => h e.1)]
theorem Fm.setI {L : List Nat} {σ : Hp} {t i : Nat} {k v : Int} (ht : t ∈ L) : Fm L σ (σ.setI t i k v) := ⟨rfl, rfl, rfl, rfl, rfl, fun t' h' => u3_t (fun e => h' (e ▸ ht)), fun _ _ => rfl⟩
theorem Fm.setJ {L : List Nat} {σ : Hp} {t i : Nat} {k v : Int} (ht : t ∈ L) : Fm L σ (σ.setJ t i k v) := ⟨rfl, rfl, rfl, rfl, rfl, fun _ _ => rfl, fun t' h' => u3_t (fun e => h' (e ▸ ht))⟩
/-- a whole row in place of another -/
def rowR {α : Type} (f : Nat → Nat → Int → α) (t i : Nat) (g : Int → α) : Nat → Nat → Int → α := fun t' i' => if t' = t ∧ i' = i then g else f t' i'
def upI (g : Int → Int) (k v : Int) : Int → Int := fun j => if j = k then v else g j
theorem upI_eq {g : Int → Int} {k v : Int} : upI g k v k = v := by simp [upI]
theorem upI_ne {g : Int → Int} {k v j : Int} (h : j ≠ k) : upI g k v j = g j := by simp [upI, h]
abbrev Hp.rI (σ : Hp) (t i : Nat) (g : Int → Int) : Hp := σ.wI (rowR σ.I t i g)
abbrev Hp.rJ (σ : Hp) (t i : Nat) (g : Int → Int) : Hp := σ.wJ (rowR σ.J t i g)
theorem row_eq {α : Type} {f : Nat → Nat → Int → α} {t i : Nat} {g : Int → α} : rowR f t i g t i = g := by
  unfold rowR
  rw [if_pos ⟨rfl, rfl⟩]
theorem row_ne {α : Type} {f : Nat → Nat → Int → α} {t i : Nat} {g : Int → α} {t' i' : Nat} (h : ¬ (t' = t ∧ i' = i)) : rowR f t i g t' i' = f t' i' := by
  unfold rowR
  rw [if_neg h]
theorem row_self {α : Type} {f : Nat → Nat → Int → α} {t i : Nat} : rowR f t i (f t i) = f := by
  funext t' i'
  unfold rowR
  by_cases h : t' = t ∧ i' = i
  · rw [if_pos h, h.1, h.2]
  · rw [if_neg h]
theorem row_u3 {f : Nat → Nat → Int → Int} {t i : Nat} {g : Int → Int} {k v : Int} : u3 (rowR f t i g) t i k v = rowR f t i (upI g k v) := by
  funext t' i' k'
  unfold u3 rowR upI
  by_cases h : t' = t ∧ i' = i
  · obtain ⟨rfl, rfl⟩ := h
    simp
  · simp [h]
    intro h1 h2
    exact absurd ⟨h1, h2⟩ h
theorem u3_row {f : Nat → Nat → Int → Int} {t i : Nat} {k v : Int} : u3 f t i k v = rowR f t i (upI (f t i) k v) := by
  rw [← row_u3, row_self]
theorem row_row {α : Type} {f : Nat → Nat → Int → α} {t i : Nat} {g h : Int → α} : rowR (rowR f t i g) t i h = rowR f t i h := by
  funext t' i'
  unfold rowR
  by_cases q : t' = t ∧ i' = i
  · rw [if_pos q, if_pos q]
  · rw [if_neg q, if_neg q, if_neg q]
theorem rJ_set {σ : Hp} {t i : Nat} {g : Int → Int} {k v : Int} : (σ.rJ t i g).setJ t i k v = σ.rJ t i (upI g k v) := by
  show Hp.wJ (Hp.wJ σ _) (u3 (rowR σ.J t i g) t i k v) = _
  rw [row_u3]
  rfl
theorem rI_set {σ : Hp} {t i : Nat} {g : Int → Int} {k v : Int} : (σ.rI t i g).setI t i k v = σ.rI t i (upI g k v) := by
  show Hp.wI (Hp.wI σ _) (u3 (rowR σ.I t i g) t i k v) = _
  rw [row_u3]
  rfl
theorem rJ_self {σ : Hp} {t i : Nat} : σ.rJ t i (σ.J t i) = σ := by
  show Hp.wJ σ (rowR σ.J t i (σ.J t i)) = σ
  rw [row_self]
  rfl
theorem rI_self {σ : Hp} {t i : Nat} : σ.rI t i (σ.I t i) = σ := by
  show Hp.wI σ (rowR σ.I t i (σ.I t i)) = σ
  rw [row_self]
  rfl
theorem setJ_row {σ : Hp} {t i : Nat} {k v : Int} : σ.setJ t i k v = σ.rJ t i (upI (σ.J t i) k v) := by
  show Hp.wJ σ _ = Hp.wJ σ _
  rw [u3_row]
theorem setI_row {σ : Hp} {t i : Nat} {k v : Int} : σ.setI t i k v = σ.rI t i (upI (σ.I t i) k v) := by
  show Hp.wI σ _ = Hp.wI σ _
  rw [u3_row]
theorem Fm.rI {L : List Nat} {σ : Hp} {t i : Nat} {g : Int → Int} (ht : t ∈ L) : Fm L σ (σ.rI t i g) := ⟨rfl, rfl, rfl, rfl, rfl, fun t' h' => by
  funext i'
  exact row_ne (fun e => h' (e.1 ▸ ht)), fun _ _ => rfl⟩
theorem Fm.rJ {L : List Nat} {σ : Hp} {t i : Nat} {g : Int → Int} (ht : t ∈ L) : Fm L σ (σ.rJ t i g) := ⟨rfl, rfl, rfl, rfl, rfl, fun _ _ => rfl, fun t' h' => by
  funext i'
  exact row_ne (fun e => h' (e.1 ▸ ht))⟩
theorem setI_setI {σ : Hp} {t i : Nat} {k v w : Int} : (σ.setI t i k v).setI t i k w = σ.setI t i k w := by
  show Hp.wI (Hp.wI σ _) (u3 (u3 σ.I t i k v) t i k w) = Hp.wI σ _
  have e : u3 (u3 σ.I t i k v) t i k w = u3 σ.I t i k w := by
    funext t' i' k'
    unfold u3
    by_cases h : t' = t ∧ i' = i ∧ k' = k
    · rw [if_pos h, if_pos h]
    · rw [if_neg h, if_neg h, if_neg h]
  rw [e]
  rfl

