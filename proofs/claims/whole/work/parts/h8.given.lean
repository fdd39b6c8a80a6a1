/-! What the Statement gives of the start, in the words of G. -/
def T0 : Cond := Jvm.Cond.and given_1 narrow_1
/-- the part of a condition at the end of a path: its steps are the digits of n, the lowest first -/
def pthN : Nat → Nat → Cond → Cond
  | 0, _, c => c
  | f + 1, n, c => if n ≤ 1 then c else match c with
    | .and a b => if n % 2 = 0 then pthN f (n / 2) a else pthN f (n / 2) b
    | c => c
theorem pth_ok {a : Array Value} {s : State} : ∀ (f n : Nat) (c : Cond), c.before a s = true → (pthN f n c).before a s = true := by
  intro f
  induction f with
  | zero => intro n c h; exact h
  | succ f ih =>
    intro n c h
    unfold pthN
    split
    · exact h
    · split
      · rw [Cond.before_and, Bool.and_eq_true] at h
        split
        · exact ih _ _ h.1
        · exact ih _ _ h.2
      · exact h
def tmL : List (String × Nat) := [("LendingPool$PoolReader", 68), ("LendingPool$PoolReader", 74), ("LendingPool$PoolReader", 76), ("LendingPool$PoolReader", 78), ("LendingPool$PoolReader", 80), ("LendingPool$OrderReader", 57), ("LendingPool$OrderReader", 63), ("LendingPool$OrderReader", 65), ("LendingPool$OrderReader", 67), ("LendingPool$OrderReader", 69), ("LendingPool$OrderReader", 71), ("LendingPool$Report", 19), ("LendingPool$Report", 35), ("LendingPool$Report", 49), ("LendingPool$Report", 56), ("LendingPool", 74), ("LendingPool", 93), ("LendingPool", 414), ("LendingPool", 416), ("LendingPool", 418), ("LendingPool", 420), ("LendingPool", 163), ("LendingPool", 171), ("LendingPool", 227), ("LendingPool", 310), ("LendingPool", 356), ("LendingPool", 364), ("LendingPool", 380), ("LendingPool", 409), ("LendingPoolModel", 188)]
def tmS (i : Nat) : Term := Term.string (tmL.getD i ("", 0)).1 (tmL.getD i ("", 0)).2
def exC : List Nat := [3881, 2665, 1049, 2969, 3545, 3769, 3961, 3589, 1093, 3781, 2853, 2917, 4069, 2965, 2773, 3637, 1165, 4045, 2925, 2621, 3971, 1315, 1107, 1035, 3531, 3691, 1371, 2747, 3847, 3959]
def coC : List Nat := [1193, 3689, 2585, 3993, 3033, 2489, 1273, 1285, 2629, 2501, 3877, 3941, 1045, 3989, 3797, 1333, 2701, 1069, 3949, 3645, 1091, 2851, 2643, 2571, 3019, 1387, 2907, 3771, 1159, 1271]
def arC : List Nat := [2729, 1385, 3609, 1113, 4057, 3513, 2809, 2821, 3653, 3525, 1189, 1253, 2581, 1109, 2517, 2869, 3725, 2605, 1261, 1341, 2627, 3875, 3667, 3595, 4043, 2923, 3931, 2491, 2695, 2807]
def leC : List Nat := [3753, 2921, 1305, 2649, 1081, 3001, 3833, 3845, 1349, 3013, 2725, 2789, 3605, 2645, 3541, 3893, 1421, 3629, 2797, 2877, 3651, 1187, 1363, 1291, 1067, 3947, 1243, 3515, 3719, 3831]
def elC : List (List Nat) := [[1449, 2985, 4009, 1129], [3945, 1257, 2793, 3817, 2537, 3561, 3049, 4073], [2841, 3865, 1177, 2713, 3737, 1433], [3673, 1369, 2905, 3929, 1241, 2777, 3801, 2521], [2617, 3641, 1337, 2873, 3897, 1209, 2745], [4025, 1145, 2681, 3705, 1401, 2937], [2553, 3577, 3065, 4089, 1029, 2565], [1157, 2693, 3717, 1413, 2949, 3973], [2885, 3909, 1221, 2757], [4037, 1061, 2597, 3621, 1317], [3749, 1445, 2981, 4005, 1125, 2661, 3685, 1381], [3813, 2533, 3557, 3045], [1301, 2837, 3861, 1173, 2709, 3733, 1429], [3669, 1365, 2901, 3925, 1237], [3029, 4053, 1077, 2613], [1205, 2741, 3765, 2485, 3509, 2997, 4021, 1141, 2677, 3701, 1397, 2933, 3957, 1269, 2805, 3829, 2549, 3573, 3061, 4085, 1037, 2573, 3597, 1293, 2829, 3853], [2957, 3981, 1101, 2637, 3661, 1357, 2893, 3917, 1229, 2765, 3789, 2509, 3533, 3021], [1325, 2861, 3885, 1197, 2733, 3757, 2477, 3501, 2989, 4013, 1133, 2669, 3693, 1389], [3821, 2541, 3565, 3053, 4077, 1053, 2589, 3613, 1309, 2845, 3869, 1181, 2717, 3741, 1437, 2973, 3997, 1117, 2653, 3677, 1373, 2909, 3933, 1245, 2781, 3805, 2525, 3549, 3037, 4061, 1085], [3901, 1213, 2749, 3773, 2493, 3517, 3005, 4029, 1149, 2685, 3709, 1405, 2941, 3965, 1277, 2813, 3837, 2557, 3581, 3069, 4093, 1027, 2563, 3587, 1283, 2819, 3843, 1155, 2691, 3715, 1411, 2947], [1347, 2883, 3907, 1219, 2755, 3779, 2499, 3523, 3011, 4035, 1059, 2595, 3619], [2723, 3747, 1443, 2979, 4003, 1123, 2659, 3683, 1379, 2915, 3939, 1251, 2787, 3811, 2531, 3555, 3043, 4067, 1043, 2579, 3603, 1299, 2835, 3859, 1171, 2707, 3731, 1427, 2963, 3987], [2899, 3923, 1235, 2771, 3795, 2515, 3539, 3027, 4051, 1075, 2611, 3635, 1331, 2867, 3891, 1203, 2739, 3763, 2483, 3507, 2995, 4019, 1139, 2675, 3699, 1395, 2931, 3955, 1267, 2803, 3827, 2547, 3571, 3059, 4083], [2827, 3851, 1163, 2699, 3723, 1419, 2955, 3979, 1099, 2635, 3659, 1355, 2891, 3915, 1227, 2763, 3787, 2507], [2603, 3627, 1323, 2859, 3883, 1195, 2731, 3755, 1451, 2987, 4011, 1131, 2667], [1259, 2795, 3819, 2539, 3563, 3051, 4075, 1051, 2587, 3611, 1307, 2843, 3867, 1179, 2715, 3739, 1435, 2971, 3995, 1115, 2651, 3675], [2779, 3803, 2523, 3547, 3035, 4059, 1083, 2619, 3643, 1339, 2875, 3899, 1211], [3003, 4027, 1147, 2683, 3707, 1403, 2939, 3963, 1275, 2811, 3835, 2555, 3579, 3067, 4091, 1031, 2567, 3591, 1287, 2823], [1415, 2951, 3975, 1095, 2631, 3655, 1351, 2887, 3911, 1223, 2759, 3783, 2503, 3527, 3015, 4039, 1063, 2599, 3623, 1319, 2855, 3879, 1191, 2727, 3751, 1447], [2551]]
def eqC : List Nat := [1255, 1175, 3927, 3895, 2935, 2703, 1231, 2863, 1135, 3567, 2975, 2783, 1215, 1407, 4095]
def ncC : List Nat := [3937, 1057, 3729, 2929, 3537, 2497, 1169, 2673, 2513, 2657, 3857, 1137, 4049, 1377, 3009, 1393, 1073, 2913, 4033, 2705]
theorem f_ex : ∀ i, i < 30 → pthN 12 (exC.getD i 0) T0 = Cond.exactly (tmS i) "java/lang/String" := by decide +kernel
theorem f_co : ∀ i, i < 30 → pthN 12 (coC.getD i 0) T0 = Cond.eq (.field (tmS i) "java/lang/String" "coder" "B") (.int 0) := by decide +kernel
theorem f_ar : ∀ i, i < 30 → pthN 12 (arC.getD i 0) T0 = Cond.arrayOf (.field (tmS i) "java/lang/String" "value" "[B") .byte := by decide +kernel
theorem f_le : ∀ i, i < 30 → pthN 12 (leC.getD i 0) T0 = Cond.eq (.length (.field (tmS i) "java/lang/String" "value" "[B")) (.int (Int32.ofNat (slen i))) := by decide +kernel
theorem f_el : ∀ i, i < 30 → ∀ j, j < slen i → pthN 12 ((elC.getD i []).getD j 0) T0 = Cond.eq (.elem (.field (tmS i) "java/lang/String" "value" "[B") (.int (Int32.ofNat j))) (.int (i32 (schr i (j : Int)))) := by decide +kernel
theorem f_sl : ∀ i, i < 30 → slen i < 2 ^ 31 := by decide +kernel
theorem f_sr : ∀ q ∈ SR, Term.string q.1 q.2.1 = tmS q.2.2 ∨ ∃ n ∈ eqC, pthN 12 n T0 = Cond.eq (tmS q.2.2) (Term.string q.1 q.2.1) := by decide +kernel
theorem f_s30 : ∀ q ∈ SR, q.2.2 < 30 := by decide +kernel
theorem f_nc : ∀ q ∈ NC, ∃ n ∈ ncC, pthN 12 n T0 = Cond.not (.castable q.1 q.2) := by decide +kernel
theorem f_z1 : pthN 12 2689 T0 = (Cond.isRef (Term.static "java/lang/Throwable" "UNASSIGNED_STACK" "[Ljava/lang/StackTraceElement;")) := by decide +kernel
theorem f_z2 : pthN 12 3713 T0 = (Cond.isRef (Term.static "java/lang/Throwable" "SUPPRESSED_SENTINEL" "Ljava/util/List;")) := by decide +kernel
theorem f_z3 : pthN 12 1281 T0 = (Cond.isRef (Term.static "jdk/internal/util/Preconditions" "SIOOBE_FORMATTER" "Ljava/util/function/BiFunction;")) := by decide +kernel
theorem f_z4 : pthN 12 3585 T0 = (Cond.eq (Term.static "java/lang/String" "COMPACT_STRINGS" "Z") (Term.int 1)) := by decide +kernel
theorem f_sw : ∀ q ∈ SR, Cond.stringRef q.1 q.2.1 (txt q.2.2) ∈ lw_tbl := by
  refine List.forall_mem_cons.mpr ⟨tm2 (List.mem_of_getElem? (i := 197) rfl), ?_⟩
  refine List.forall_mem_cons.mpr ⟨tm3 (List.mem_of_getElem? (i := 10) rfl), ?_⟩
  refine List.forall_mem_cons.mpr ⟨tm3 (List.mem_of_getElem? (i := 11) rfl), ?_⟩
  refine List.forall_mem_cons.mpr ⟨tm3 (List.mem_of_getElem? (i := 12) rfl), ?_⟩
  refine List.forall_mem_cons.mpr ⟨tm3 (List.mem_of_getElem? (i := 13) rfl), ?_⟩
  refine List.forall_mem_cons.mpr ⟨tm3 (List.mem_of_getElem? (i := 88) rfl), ?_⟩
  refine List.forall_mem_cons.mpr ⟨tm3 (List.mem_of_getElem? (i := 90) rfl), ?_⟩
  refine List.forall_mem_cons.mpr ⟨tm3 (List.mem_of_getElem? (i := 91) rfl), ?_⟩
  refine List.forall_mem_cons.mpr ⟨tm3 (List.mem_of_getElem? (i := 92) rfl), ?_⟩
  refine List.forall_mem_cons.mpr ⟨tm3 (List.mem_of_getElem? (i := 93) rfl), ?_⟩
  refine List.forall_mem_cons.mpr ⟨tm3 (List.mem_of_getElem? (i := 94) rfl), ?_⟩
  refine List.forall_mem_cons.mpr ⟨tm4 (List.mem_of_getElem? (i := 90) rfl), ?_⟩
  refine List.forall_mem_cons.mpr ⟨tm4 (List.mem_of_getElem? (i := 106) rfl), ?_⟩
  refine List.forall_mem_cons.mpr ⟨tm4 (List.mem_of_getElem? (i := 111) rfl), ?_⟩
  refine List.forall_mem_cons.mpr ⟨tm4 (List.mem_of_getElem? (i := 112) rfl), ?_⟩
  refine List.forall_mem_cons.mpr ⟨tm4 (List.mem_of_getElem? (i := 178) rfl), ?_⟩
  refine List.forall_mem_cons.mpr ⟨tm4 (List.mem_of_getElem? (i := 226) rfl), ?_⟩
  refine List.forall_mem_cons.mpr ⟨tm5 (List.mem_of_getElem? (i := 37) rfl), ?_⟩
  refine List.forall_mem_cons.mpr ⟨tm5 (List.mem_of_getElem? (i := 41) rfl), ?_⟩
  refine List.forall_mem_cons.mpr ⟨tm5 (List.mem_of_getElem? (i := 42) rfl), ?_⟩
  refine List.forall_mem_cons.mpr ⟨tm5 (List.mem_of_getElem? (i := 52) rfl), ?_⟩
  refine List.forall_mem_cons.mpr ⟨tm5 (List.mem_of_getElem? (i := 106) rfl), ?_⟩
  refine List.forall_mem_cons.mpr ⟨tm5 (List.mem_of_getElem? (i := 120) rfl), ?_⟩
  refine List.forall_mem_cons.mpr ⟨tm6 (List.mem_of_getElem? (i := 12) rfl), ?_⟩
  refine List.forall_mem_cons.mpr ⟨tm6 (List.mem_of_getElem? (i := 114) rfl), ?_⟩
  refine List.forall_mem_cons.mpr ⟨tm6 (List.mem_of_getElem? (i := 223) rfl), ?_⟩
  refine List.forall_mem_cons.mpr ⟨tm6 (List.mem_of_getElem? (i := 236) rfl), ?_⟩
  refine List.forall_mem_cons.mpr ⟨tm7 (List.mem_of_getElem? (i := 24) rfl), ?_⟩
  refine List.forall_mem_cons.mpr ⟨tm7 (List.mem_of_getElem? (i := 66) rfl), ?_⟩
  refine List.forall_mem_cons.mpr ⟨tm7 (List.mem_of_getElem? (i := 210) rfl), ?_⟩
  refine List.forall_mem_cons.mpr ⟨tm7 (List.mem_of_getElem? (i := 217) rfl), ?_⟩
  refine List.forall_mem_cons.mpr ⟨tm7 (List.mem_of_getElem? (i := 218) rfl), ?_⟩
  refine List.forall_mem_cons.mpr ⟨tm7 (List.mem_of_getElem? (i := 219) rfl), ?_⟩
  refine List.forall_mem_cons.mpr ⟨tm7 (List.mem_of_getElem? (i := 220) rfl), ?_⟩
  refine List.forall_mem_cons.mpr ⟨tm8 (List.mem_of_getElem? (i := 22) rfl), ?_⟩
  refine List.forall_mem_cons.mpr ⟨tm9 (List.mem_of_getElem? (i := 48) rfl), ?_⟩
  refine List.forall_mem_cons.mpr ⟨tm9 (List.mem_of_getElem? (i := 49) rfl), ?_⟩
  refine List.forall_mem_cons.mpr ⟨tm9 (List.mem_of_getElem? (i := 50) rfl), ?_⟩
  refine List.forall_mem_cons.mpr ⟨tm9 (List.mem_of_getElem? (i := 51) rfl), ?_⟩
  refine List.forall_mem_cons.mpr ⟨tm9 (List.mem_of_getElem? (i := 52) rfl), ?_⟩
  refine List.forall_mem_cons.mpr ⟨tm9 (List.mem_of_getElem? (i := 53) rfl), ?_⟩
  refine List.forall_mem_cons.mpr ⟨tm10 (List.mem_of_getElem? (i := 4) rfl), ?_⟩
  refine List.forall_mem_cons.mpr ⟨tm10 (List.mem_of_getElem? (i := 19) rfl), ?_⟩
  refine List.forall_mem_cons.mpr ⟨tm10 (List.mem_of_getElem? (i := 20) rfl), ?_⟩
  refine List.forall_mem_cons.mpr ⟨tm10 (List.mem_of_getElem? (i := 21) rfl), ?_⟩
  exact fun _ h => nomatch h
theorem f_in : ∀ t, t < 12 → Cond.instantiable (cR t) (nf t) ∈ lw_tbl := fun t ht => by
  match t, ht with
  | 0, _ => exact ins_0
  | 1, _ => exact ins_1
  | 2, _ => exact ins_2
  | 3, _ => exact ins_3
  | 4, _ => exact ins_4
  | 5, _ => exact ins_5
  | 6, _ => exact ins_6
  | 7, _ => exact ins_7
  | 8, _ => exact ins_8
  | 9, _ => exact ins_9
  | 10, _ => exact ins_10
  | 11, _ => exact ins_11
  | t + 12, ht => omega
theorem g_prim {s : State} {a : Array Value} {ty : FieldType} (hp : ∀ C, ty ≠ .object C) (h : (Cond.arrayClass ty).before a s = true) : ∃ c, ArrOfT s c ty ∧ va_RA s c ty := by
  obtain ⟨c, k, comp, h1, h2, h3⟩ := Cond.arrayClass_spec h
  refine ⟨c, fun n z => ⟨(fun k h => by cases h), k, h2, comp, h3⟩, ?_⟩
  cases ty with
  | object C => exact absurd rfl (hp C)
  | _ => exact h1
theorem g_obj {s : State} {a : Array Value} {C : String} (h : (Cond.arrayOver (.object C)).before a s = true) : ∃ c, ArrOfT s c (.object C) ∧ va_RA s c (.object C) := by
  obtain ⟨comp, c, k, h1, h2, h3, h4, h5⟩ := Cond.arrayOver_spec h
  exact ⟨c, fun n z => ⟨(fun k h => by cases h), k, h3, comp, h4⟩, ⟨k, comp, h3, h4, h1, h5⟩⟩
theorem g_str {s : State} {args : Array Value} {A : Nat → Prop} (hs : T0.before args s = true) (hA : ∀ a : Nat, a < s.heap.size → ¬ A a) : ∀ i : Nat, ∃ q : Nat × Nat, i < 30 → (tmS i).eval args s none [] s = some (.ref q.1) ∧ va_O "java/lang/String" q.1 A s s.heap ∧ va_OF "java/lang/String" "coder" "B" (.int 0) q.1 A s s.heap ∧ va_OF "java/lang/String" "value" "[B" (.ref q.2) q.1 A s s.heap ∧ va_T .byte q.2 (slen i) (fun j => .int (i32 (schr i (j : Int)))) A s s.heap := by
  have pt : ∀ {n : Nat} {c : Cond}, pthN 12 n T0 = c → c.before args s = true := fun h => by
    rw [← h]
    exact pth_ok _ _ _ hs
  intro i
  by_cases hi : i < 30
  · obtain ⟨a, c, cA, kA, q1, q2, q3, q4, q5, q6, -⟩ := Cond.exactly_spec (args := args) (first := s) (o := none) (s := s) (idx := []) (t := tmS i) (cls := "java/lang/String") (pt (f_ex i hi))
    obtain ⟨t, ht, hT⟩ := va_Tof (f := fun j => .int (i32 (schr i (j : Int)))) (A := A) (f_sl i hi) (pt (f_ar i hi)) (va_eqt (pt (f_le i hi))) (fun j hj => va_eqt (pt (f_el i hi j hj))) hA
    exact ⟨(a, t), fun _ => ⟨q1, ⟨cA, q3, q5, by rw [q6]; exact q2, hA a (Array.getElem?_eq_some_iff.mp q3).1⟩, vk_OFof q1 (va_eqt (pt (f_co i hi))) hA, vk_OFof q1 ht hA, hT⟩⟩
  · exact ⟨(0, 0), fun h => absurd h hi⟩
theorem g_nest {w : Cond} {s : State} {a a' : Array Value} (hn : nestW w = true) (h : w.before a s = true) : w.before a' s = true := by
  cases w with
  | methodLinkNest c i x h0 => exact h
  | castable c t => exact h
  | declares x => exact h
  | _ => simp [nestW] at hn
theorem g_start {s : State} {b L : Nat} {xs : Nat → Int32} (hts : ∀ w ∈ lw_tbl, w.before #[Value.ref b] s = true) (hX : va_X b L xs s s.heap) (hbl : b < s.heap.size) (hgv : (Jvm.Cond.and given_1 narrow_1).before #[Value.ref b] s = true) : ∃ g : Gp, G g s ∧ g.N = s.heap.size ∧ g.b = b ∧ g.L = L ∧ g.xs = xs := by
  have hs : T0.before #[Value.ref b] s = true := hgv
  have pt : ∀ {n : Nat} {c : Cond}, pthN 12 n T0 = c → c.before #[Value.ref b] s = true := fun h => by
    rw [← h]
    exact pth_ok _ _ _ hs
  have hA : ∀ a : Nat, a < s.heap.size → ¬ s.heap.size ≤ a := fun a h => Nat.not_le.mpr h
  have hk : ∀ t : Nat, ∃ q : ClassId × (Nat → Nat), t < 12 → u_Kn s (cR t) (cT t) (nf t) q.1 q.2 := fun t => by
    by_cases ht : t < 12
    · obtain ⟨cC, iS, h⟩ := u_known (C := cR t) (T := cT t) (N := nf t) (n := nf t) hts (fun w hw => ((lays_ok t ht).2.1 w hw).1) (hts _ (f_in t ht))
      exact ⟨(cC, iS), fun _ => h⟩
    · exact ⟨(0, fun _ => 0), fun h => absurd h ht⟩
  obtain ⟨dd, hd⟩ := Classical.axiomOfChoice hk
  obtain ⟨c0, k0⟩ := g_prim (s := s) (ty := .int) (fun C h => nomatch h) (hts _ arc_int)
  obtain ⟨c1, k1⟩ := g_prim (s := s) (ty := .long) (fun C h => nomatch h) (hts _ arc_long)
  obtain ⟨c2, k2⟩ := g_prim (s := s) (ty := .char) (fun C h => nomatch h) (hts _ arc_char)
  obtain ⟨c3, k3⟩ := g_prim (s := s) (ty := .byte) (fun C h => nomatch h) (hts _ arc_byte)
  obtain ⟨c4, k4⟩ := g_prim (s := s) (ty := .double) (fun C h => nomatch h) (hts _ arc_double)
  have o5 : (Cond.arrayOver (.object "LendingPool$Pool")).before #[Value.ref b] s = true := hts _ (tm2 (List.mem_of_getElem? (i := 10) rfl))
  have o6 : (Cond.arrayOver (.object "LendingPool$Loan")).before #[Value.ref b] s = true := hts _ (tm2 (List.mem_of_getElem? (i := 45) rfl))
  obtain ⟨c5, k5⟩ := g_obj o5
  obtain ⟨c6, k6⟩ := g_obj o6
  obtain ⟨ad, had⟩ := Classical.axiomOfChoice (g_str (A := fun q => s.heap.size ≤ q) hs hA)
  refine ⟨(s.heap.size, (fun c => (dd c).1, fun c => (dd c).2), fun k => if k = 0 then c0 else if k = 1 then c1 else if k = 2 then c2 else if k = 3 then c3 else if k = 4 then c4 else if k = 5 then c5 else c6, fun i => (ad i).1, fun i => (ad i).2, b, L, xs), ⟨fun w hw hg a => ?_, ⟨⟨fun c q hq => ?_, fun k q hq => ?_⟩, va_AO.of o5, va_AO.of o6⟩, ⟨fun q hq => ?_, fun i hi => (had i hi).2⟩, fun q hq => va_Nc.of (let ⟨n, _, e⟩ := f_nc q hq; pt e), ⟨vx_Zqof (hts _ (tm4 (List.mem_of_getElem? (i := 161) rfl))) (hts _ (tm1 (List.mem_of_getElem? (i := 13) rfl))) (pt f_z1) hA, vx_Zqof (hts _ (tm4 (List.mem_of_getElem? (i := 163) rfl))) (hts _ (tm1 (List.mem_of_getElem? (i := 13) rfl))) (pt f_z2) hA⟩, ⟨va_Zof (hts _ (tm2 (List.mem_of_getElem? (i := 211) rfl))) (hts _ (tm1 (List.mem_of_getElem? (i := 19) rfl))) (va_eqi (pt f_z4)) hA, va_Zqof (hts _ (tm2 (List.mem_of_getElem? (i := 227) rfl))) (hts _ (tm1 (List.mem_of_getElem? (i := 21) rfl))) (pt f_z3) hA⟩, hX, hbl, Nat.le_refl _⟩, rfl, rfl, rfl, rfl⟩
  · rcases Bool.or_eq_true_iff.mp hg with hg | hg
    · exact word_at (State.WarmedH.refl s) (good_of_word hg) (hts w hw)
    · exact g_nest hg (hts w hw)
  · have hc : c < 12 := by
      obtain ⟨h1, -⟩ := List.getElem?_eq_some_iff.mp hq
      exact h1
    have e := (lays_ok c hc).1
    rw [hq] at e
    cases e
    exact hd c hc
  · match k, hq with
    | 0, hq => cases hq; exact k0
    | 1, hq => cases hq; exact k1
    | 2, hq => cases hq; exact k2
    | 3, hq => cases hq; exact k3
    | 4, hq => cases hq; exact k4
    | 5, hq => cases hq; exact k5
    | 6, hq => cases hq; exact k6
    | k + 7, hq => cases hq
  · have e := (had q.2.2 (f_s30 q hq)).1
    rcases f_sr q hq with z | z
    · exact vk_R.of (hts _ (f_sw q hq)) (by rw [z]; exact e)
    · obtain ⟨n, -, z⟩ := z
      exact vk_R.of (hts _ (f_sw q hq)) (va_eqR (pt z) e)

