theorem st_oc {args : Array Value} {s : State} {C : String} (h : (Cond.arrayOver (.object C)).before args s = true) : (Cond.arrayClass (.object C)).before #[] s = true := by
  obtain ⟨comp, c, k, f1, -, f2, f3, f4⟩ := Cond.arrayOver_spec (first := s) (o := none) (idx := []) h
  simp [Cond.before, Cond.holds, Cond.value, f4, f2, f3]
theorem st_arr {args : Array Value} {s : State} {ty : FieldType} (h : (Cond.arrayClass ty).before args s = true) : ∃ cA : ClassId, ArrOfT s cA ty ∧ s.vm.findClass ("[" ++ ty.toString) = some cA := by
  obtain ⟨cA, kA, comp, h1, h2, h3⟩ := Cond.arrayClass_spec (first := s) (o := none) (idx := []) h
  exact ⟨cA, fun n z => ⟨fun k h => (by cases h), kA, h2, comp, h3⟩, h1⟩
theorem st_arrO {args : Array Value} {s : State} {C : String} (h : (Cond.arrayOver (.object C)).before args s = true) : ∃ cA : ClassId, ArrOfT s cA (.object C) ∧ va_RA s cA (.object C) := by
  obtain ⟨comp, cA, kA, f1, -, f2, f3, f4⟩ := Cond.arrayOver_spec (first := s) (o := none) (idx := []) h
  exact ⟨cA, fun n z => ⟨fun k h => (by cases h), kA, f2, comp, f3⟩, kA, comp, f2, f3, f1, f4⟩
theorem st_arrA {args : Array Value} {s : State} (h : (Cond.arrayOver (.array .int)).before args s = true) : ∃ cA : ClassId, ArrOfT s cA (.array .int) ∧ va_RA s cA (.array .int) := by
  obtain ⟨comp, cA, kA, f1, -, f2, f3, f4⟩ := arrayOverA_spec (first := s) (o := none) (idx := []) h
  exact ⟨cA, fun n z => ⟨fun k h => (by cases h), kA, f2, comp, f3⟩, f4⟩
theorem st_thr : ∀ w ∈ thr_ws, w ∈ lw_tbl := by decide +kernel
theorem st_str : ∀ q ∈ thr_strs, Cond.stringRef RX3 q.1 q.2 ∈ lw_tbl := by decide +kernel
theorem st_EZ {args : Array Value} {s : State} {A : Nat → Prop} (hl : (Cond.laysStatic "java/util/ArrayList" "DEFAULTCAPACITY_EMPTY_ELEMENTDATA" "[Ljava/lang/Object;").before args s = true) (hini : (Cond.initialized "java/util/ArrayList").before args s = true) (h : (Cond.arrayOf (.static "java/util/ArrayList" "DEFAULTCAPACITY_EMPTY_ELEMENTDATA" "[Ljava/lang/Object;") (.object "java/lang/Object")).before args s = true) (h0 : (Cond.eq (.length (.static "java/util/ArrayList" "DEFAULTCAPACITY_EMPTY_ELEMENTDATA" "[Ljava/lang/Object;")) (.int 0)).before args s = true) (hO : (Cond.arrayOver (.object "java/lang/Object")).before args s = true) (hC : (Cond.castable RX5 "java/lang/Object").before args s = true) (hA : ∀ a : Nat, a < s.heap.size → ¬ A a) : ∃ eD, EZ eD A s := by
  have hlen : (Term.length (.static "java/util/ArrayList" "DEFAULTCAPACITY_EMPTY_ELEMENTDATA" "[Ljava/lang/Object;")).eval args s none [] s = some (.int (Int32.ofNat 0)) := by
    cases hv : (Term.length (.static "java/util/ArrayList" "DEFAULTCAPACITY_EMPTY_ELEMENTDATA" "[Ljava/lang/Object;")).eval args s none [] s with
    | none => simp [Cond.before, Cond.holds, Cond.value, hv] at h0
    | some v =>
      simp only [Cond.before, Cond.holds, Cond.value, hv] at h0
      cases v with
      | int x => simp [Term.eval] at h0; rw [h0]; rfl
      | _ => simp [Term.eval] at h0
  obtain ⟨t, h1, h2⟩ := va_Tof (f := fun _ => .null) (by decide) h hlen (fun j hj => absurd hj (Nat.not_lt_zero j)) hA
  exact ⟨t, va_Zref hl hini h1 hA, h2, va_AO.of hO, th_any (a := args) (w := .castable RX5 "java/lang/Object") rfl hC⟩
theorem st_arrB {args : Array Value} {s : State} {t0 : FieldType} (h : (Cond.arrayOver (.array t0)).before args s = true) : ∃ cA : ClassId, ArrOfT s cA (.array t0) ∧ va_RA s cA (.array t0) := by
  obtain ⟨comp, cA, kA, f1, -, f2, f3, f4⟩ := arrayOverA_spec (first := s) (o := none) (idx := []) h
  exact ⟨cA, fun n z => ⟨fun k h => (by cases h), kA, f2, comp, f3⟩, f4⟩
theorem asg_self (vm : Vm) (c : ClassId) : vm.assignable c c = true := by
  show vm.assignableAux (255 + 1) c c = true
  rw [Vm.assignableAux]
  simp
theorem st_self {s : State} {C : String} {c : ClassId} (h : s.vm.findClass C = some c) : (Cond.castable C C).before #[] s = true := by
  simp [Cond.before, Cond.holds, Cond.value, h, asg_self]
theorem st_nst : ∀ w ∈ nst2_ws, w ∈ lw_tbl := by decide +kernel
theorem st_nse : ∀ w ∈ nse_ws, w ∈ lw_tbl := by decide +kernel
set_option maxHeartbeats 4000000 in
set_option maxRecDepth 100000 in
theorem st_facts2 {p : Program} {s : State} {m : MethodId} {meth : Method} {c : Code} {b L : Nat} {xs : Nat → Int32} (C0 : lw_At p s m meth c b L xs) : ∃ (dC : Nat → ClassId) (dI : Nat → Nat → Nat) (kA : Nat → ClassId) (eD : Nat), va_K (dC, dI) vwCl (TYS kA) s ∧ EX eD s.heap.size s ∧ va_AO RX1 s := by
  obtain ⟨hx, hb, hr, hml, hown, hts, hX, hbl, hlocks, hgv⟩ := C0
  have hA : ∀ a : Nat, a < s.heap.size → ¬ (fun q : Nat => s.heap.size ≤ q) a := fun a h => Nat.not_le.mpr h
  have hfl := flat_of_before _ hgv
  obtain ⟨c0, i0, hk0⟩ := u_known (C := RJ0) (T := TJ0) (N := 2) (n := 4) hts inJ0 (hts (.instantiable RJ0 4) (by decide +kernel))
  obtain ⟨c1, i1, hk1⟩ := u_known (C := RJx00060) (T := TJx00060) (N := 6) (n := 6) hts inJx00060 (hts (.instantiable RJx00060 6) (by decide +kernel))
  obtain ⟨c2, i2, hk2⟩ := u_known (C := RJx35411) (T := TJx35411) (N := 4) (n := 4) hts inJx35411 (hts (.instantiable RJx35411 4) (by decide +kernel))
  obtain ⟨c3, i3, hk3⟩ := u_known (C := RJx4a65c) (T := TJx4a65c) (N := 3) (n := 3) hts inJx4a65c (hts (.instantiable RJx4a65c 3) (by decide +kernel))
  obtain ⟨c4, i4, hk4⟩ := u_known (C := RX0) (T := TX0) (N := 3) (n := 3) hts inX0 (hts (.instantiable RX0 3) (by decide +kernel))
  obtain ⟨c5, i5, hk5⟩ := u_known (C := RX1) (T := TX1) (N := 15) (n := 15) hts inX1 (hts (.instantiable RX1 15) (by decide +kernel))
  obtain ⟨c6, i6, hk6⟩ := u_known (C := RX2) (T := TX2) (N := 4) (n := 4) hts inX2 (hts (.instantiable RX2 4) (by decide +kernel))
  obtain ⟨c7, i7, hk7⟩ := u_known (C := RX3) (T := TX3) (N := 10) (n := 10) hts inX3 (hts (.instantiable RX3 10) (by decide +kernel))
  obtain ⟨c8, i8, hk8⟩ := u_known (C := RX4) (T := TX4) (N := 5) (n := 5) hts inX4 (hts (.instantiable RX4 5) (by decide +kernel))
  obtain ⟨c9, i9, hk9⟩ := u_known (C := RX5) (T := TX5) (N := 10) (n := 10) hts inX5 (hts (.instantiable RX5 10) (by decide +kernel))
  obtain ⟨c10, i10, hk10⟩ := u_known (C := RX6) (T := TX6) (N := 11) (n := 11) hts inX6 (hts (.instantiable RX6 11) (by decide +kernel))
  obtain ⟨cI, aI, bI9⟩ := st_arr (hts (.arrayClass .int) (by decide +kernel))
  obtain ⟨cS, aS, bS⟩ := st_arrO (hts (.arrayOver (.object "Snowpalace$Site")) (by decide +kernel))
  obtain ⟨cc2, ac2, bc2⟩ := st_arrA (hts (.arrayOver (.array .int)) (by decide +kernel))
  obtain ⟨cJ, aJ, bJ⟩ := st_arr (hts (.arrayClass .long) (by decide +kernel))
  obtain ⟨cE, aE, bE⟩ := st_arr (hts (.arrayClass .double) (by decide +kernel))
  obtain ⟨cZ, aZ, bZ⟩ := st_arr (hts (.arrayClass .boolean) (by decide +kernel))
  obtain ⟨cC, aC, bC⟩ := st_arr (hts (.arrayClass .char) (by decide +kernel))
  obtain ⟨cZZ, aZZ, bZZ⟩ := st_arrB (hts (.arrayOver (.array .boolean)) (by decide +kernel))
  obtain ⟨cL, aL, bL⟩ := st_arrO (hts (.arrayOver (.object "SnowpalaceModel$Cell")) (by decide +kernel))
  obtain ⟨cLL, aLL, bLL⟩ := st_arrB (hts (.arrayOver (.array (.object "SnowpalaceModel$Cell"))) (by decide +kernel))
  obtain ⟨cO, aO, bO⟩ := st_arrO (hts (.arrayOver (.object "java/lang/Object")) (by decide +kernel))
  obtain ⟨eD, hZ⟩ := st_EZ (A := fun q : Nat => s.heap.size ≤ q) (hts (.laysStatic "java/util/ArrayList" "DEFAULTCAPACITY_EMPTY_ELEMENTDATA" "[Ljava/lang/Object;") (by decide +kernel)) (hts (.initialized "java/util/ArrayList") (by decide +kernel)) (hfl _ (by decide +kernel)) (hfl _ (by decide +kernel)) (hts (.arrayOver (.object "java/lang/Object")) (by decide +kernel)) (hts (.castable RX5 "java/lang/Object") (by decide +kernel)) hA
  have hT1 : ∀ w ∈ thr_ws, w.before #[] s = true := fun w hw => th_any (List.all_eq_true.mp thr_k w hw) (hts w (st_thr w hw))
  refine ⟨fun k => ([c0, c1, c2, c3, c4, c5, c6, c7, c8, c9, c10] : List ClassId).getD k 0, fun k => ([i0, i1, i2, i3, i4, i5, i6, i7, i8, i9, i10] : List (Nat → Nat)).getD k (fun _ => 0), fun k => ([cI, cZ, cC, cJ, cE, cS, cc2, cZZ, cL, cLL, cO] : List ClassId).getD k 0, eD, ⟨?_, ?_⟩, ⟨⟨hT1, ?_, ?_, ?_, ?_⟩, ⟨va_Fw.of (A := #[Value.ref b]) (hts (.declares ⟨"java/util/List", "size", "()I"⟩) (by decide +kernel)) (hts (.interfaceMethod ((⟨"java/util/List", "size", "()I"⟩ : MethodName).cls) ((⟨"java/util/List", "size", "()I"⟩ : MethodName).cls) ((⟨"java/util/List", "size", "()I"⟩ : MethodName).name) ((⟨"java/util/List", "size", "()I"⟩ : MethodName).desc)) (by decide +kernel)) (hts (.publicMethod yJx4a65c_size_8abf5) (by decide +kernel)) (hts (.unhidden RJx4a65c ((⟨"java/util/List", "size", "()I"⟩ : MethodName).name) ((⟨"java/util/List", "size", "()I"⟩ : MethodName).desc)) (by decide +kernel)) (hts (.castable RJx4a65c ((⟨"java/util/List", "size", "()I"⟩ : MethodName).cls)) (by decide +kernel)), va_Fw.of (A := #[Value.ref b]) (hts (.declares ⟨"java/util/List", "iterator", "()Ljava/util/Iterator;"⟩) (by decide +kernel)) (hts (.interfaceMethod ((⟨"java/util/List", "iterator", "()Ljava/util/Iterator;"⟩ : MethodName).cls) ((⟨"java/util/List", "iterator", "()Ljava/util/Iterator;"⟩ : MethodName).cls) ((⟨"java/util/List", "iterator", "()Ljava/util/Iterator;"⟩ : MethodName).name) ((⟨"java/util/List", "iterator", "()Ljava/util/Iterator;"⟩ : MethodName).desc)) (by decide +kernel)) (hts (.publicMethod yJx4a65c_iterator_32c93) (by decide +kernel)) (hts (.unhidden RJx4a65c ((⟨"java/util/List", "iterator", "()Ljava/util/Iterator;"⟩ : MethodName).name) ((⟨"java/util/List", "iterator", "()Ljava/util/Iterator;"⟩ : MethodName).desc)) (by decide +kernel)) (hts (.castable RJx4a65c ((⟨"java/util/List", "iterator", "()Ljava/util/Iterator;"⟩ : MethodName).cls)) (by decide +kernel)), va_Fw.of (A := #[Value.ref b]) (hts (.declares ⟨"java/util/Iterator", "hasNext", "()Z"⟩) (by decide +kernel)) (hts (.interfaceMethod ((⟨"java/util/Iterator", "hasNext", "()Z"⟩ : MethodName).cls) ((⟨"java/util/Iterator", "hasNext", "()Z"⟩ : MethodName).cls) ((⟨"java/util/Iterator", "hasNext", "()Z"⟩ : MethodName).name) ((⟨"java/util/Iterator", "hasNext", "()Z"⟩ : MethodName).desc)) (by decide +kernel)) (hts (.publicMethod yJx35411_hasNext_aae02) (by decide +kernel)) (hts (.unhidden RJx35411 ((⟨"java/util/Iterator", "hasNext", "()Z"⟩ : MethodName).name) ((⟨"java/util/Iterator", "hasNext", "()Z"⟩ : MethodName).desc)) (by decide +kernel)) (hts (.castable RJx35411 ((⟨"java/util/Iterator", "hasNext", "()Z"⟩ : MethodName).cls)) (by decide +kernel)), va_Fw.of (A := #[Value.ref b]) (hts (.declares ⟨"java/util/List", "isEmpty", "()Z"⟩) (by decide +kernel)) (hts (.interfaceMethod ((⟨"java/util/List", "isEmpty", "()Z"⟩ : MethodName).cls) ((⟨"java/util/List", "isEmpty", "()Z"⟩ : MethodName).cls) ((⟨"java/util/List", "isEmpty", "()Z"⟩ : MethodName).name) ((⟨"java/util/List", "isEmpty", "()Z"⟩ : MethodName).desc)) (by decide +kernel)) (hts (.publicMethod yJx4a65c_isEmpty_aae02) (by decide +kernel)) (hts (.unhidden RJx4a65c ((⟨"java/util/List", "isEmpty", "()Z"⟩ : MethodName).name) ((⟨"java/util/List", "isEmpty", "()Z"⟩ : MethodName).desc)) (by decide +kernel)) (hts (.castable RJx4a65c ((⟨"java/util/List", "isEmpty", "()Z"⟩ : MethodName).cls)) (by decide +kernel)), va_Fw.of (A := #[Value.ref b]) (hts (.declares ⟨"java/util/List", "add", "(Ljava/lang/Object;)Z"⟩) (by decide +kernel)) (hts (.interfaceMethod ((⟨"java/util/List", "add", "(Ljava/lang/Object;)Z"⟩ : MethodName).cls) ((⟨"java/util/List", "add", "(Ljava/lang/Object;)Z"⟩ : MethodName).cls) ((⟨"java/util/List", "add", "(Ljava/lang/Object;)Z"⟩ : MethodName).name) ((⟨"java/util/List", "add", "(Ljava/lang/Object;)Z"⟩ : MethodName).desc)) (by decide +kernel)) (hts (.publicMethod yJx4a65c_add_9ea2d) (by decide +kernel)) (hts (.unhidden RJx4a65c ((⟨"java/util/List", "add", "(Ljava/lang/Object;)Z"⟩ : MethodName).name) ((⟨"java/util/List", "add", "(Ljava/lang/Object;)Z"⟩ : MethodName).desc)) (by decide +kernel)) (hts (.castable RJx4a65c ((⟨"java/util/List", "add", "(Ljava/lang/Object;)Z"⟩ : MethodName).cls)) (by decide +kernel)), hts (.arrayOver (.array .int)) (by decide +kernel), fun w hw => hT1 w (List.mem_append_right _ hw)⟩, ⟨va_any rfl (hts (.classLink RX5 15 "[[LSnowpalaceModel$Cell;") (by decide +kernel)), hts (.arrayOver (.array (.object "SnowpalaceModel$Cell"))) (by decide +kernel), hts (.arrayOver (.array .boolean)) (by decide +kernel), st_oc (hts (.arrayOver (.object "SnowpalaceModel$Cell")) (by decide +kernel))⟩, hZ, ⟨va_Fw.of (A := #[Value.ref b]) (hts (.declares ⟨"java/util/List", "get", "(I)Ljava/lang/Object;"⟩) (by decide +kernel)) (hts (.interfaceMethod ((⟨"java/util/List", "get", "(I)Ljava/lang/Object;"⟩ : MethodName).cls) ((⟨"java/util/List", "get", "(I)Ljava/lang/Object;"⟩ : MethodName).cls) ((⟨"java/util/List", "get", "(I)Ljava/lang/Object;"⟩ : MethodName).name) ((⟨"java/util/List", "get", "(I)Ljava/lang/Object;"⟩ : MethodName).desc)) (by decide +kernel)) (hts (.publicMethod yJx4a65c_get_915e3) (by decide +kernel)) (hts (.unhidden RJx4a65c ((⟨"java/util/List", "get", "(I)Ljava/lang/Object;"⟩ : MethodName).name) ((⟨"java/util/List", "get", "(I)Ljava/lang/Object;"⟩ : MethodName).desc)) (by decide +kernel)) (hts (.castable RJx4a65c ((⟨"java/util/List", "get", "(I)Ljava/lang/Object;"⟩ : MethodName).cls)) (by decide +kernel)), va_Fw.of (A := #[Value.ref b]) (hts (.declares ⟨"java/util/Iterator", "next", "()Ljava/lang/Object;"⟩) (by decide +kernel)) (hts (.interfaceMethod ((⟨"java/util/Iterator", "next", "()Ljava/lang/Object;"⟩ : MethodName).cls) ((⟨"java/util/Iterator", "next", "()Ljava/lang/Object;"⟩ : MethodName).cls) ((⟨"java/util/Iterator", "next", "()Ljava/lang/Object;"⟩ : MethodName).name) ((⟨"java/util/Iterator", "next", "()Ljava/lang/Object;"⟩ : MethodName).desc)) (by decide +kernel)) (hts (.publicMethod yJx35411_next_0502b) (by decide +kernel)) (hts (.unhidden RJx35411 ((⟨"java/util/Iterator", "next", "()Ljava/lang/Object;"⟩ : MethodName).name) ((⟨"java/util/Iterator", "next", "()Ljava/lang/Object;"⟩ : MethodName).desc)) (by decide +kernel)) (hts (.castable RJx35411 ((⟨"java/util/Iterator", "next", "()Ljava/lang/Object;"⟩ : MethodName).cls)) (by decide +kernel)), st_self hk9.2.1, fun w hw => th_any (List.all_eq_true.mp nst2_k w hw) (hts w (st_nst w hw)), fun w hw => vx_ot_at (s := s) (U := s) (State.WarmedH.refl s) rfl (List.all_eq_true.mp nse_ot w hw) (hts w (st_nse w hw))⟩⟩, va_AO.of (hts (.arrayOver (.object RX1)) (by decide +kernel))⟩
  · intro k q hq
    match k, hq with
    | 0, hq => cases hq; exact hk0
    | 1, hq => cases hq; exact hk1
    | 2, hq => cases hq; exact hk2
    | 3, hq => cases hq; exact hk3
    | 4, hq => cases hq; exact hk4
    | 5, hq => cases hq; exact hk5
    | 6, hq => cases hq; exact hk6
    | 7, hq => cases hq; exact hk7
    | 8, hq => cases hq; exact hk8
    | 9, hq => cases hq; exact hk9
    | 10, hq => cases hq; exact hk10
    | k + 11, hq => simp [vwCl] at hq
  · intro k q hq
    match k, hq with
    | 0, hq => cases hq; exact ⟨aI, bI9⟩
    | 1, hq => cases hq; exact ⟨aZ, bZ⟩
    | 2, hq => cases hq; exact ⟨aC, bC⟩
    | 3, hq => cases hq; exact ⟨aJ, bJ⟩
    | 4, hq => cases hq; exact ⟨aE, bE⟩
    | 5, hq => cases hq; exact ⟨aS, bS⟩
    | 6, hq => cases hq; exact ⟨ac2, bc2⟩
    | 7, hq => cases hq; exact ⟨aZZ, bZZ⟩
    | 8, hq => cases hq; exact ⟨aL, bL⟩
    | 9, hq => cases hq; exact ⟨aLL, bLL⟩
    | 10, hq => cases hq; exact ⟨aO, bO⟩
    | k + 11, hq => simp at hq
  · intro q hq
    have hex : (Cond.exactly (.string RX3 q.1) "java/lang/String").before #[Value.ref b] s = true := hfl _ (by
      have : ∀ q ∈ thr_strs, Cond.exactly (.string RX3 q.1) "java/lang/String" ∈ flatC (Jvm.Cond.and given_1 narrow_1) := by decide +kernel
      exact this q hq)
    obtain ⟨a, c9, cell, k9, h1, -⟩ := Cond.exactly_spec (first := s) (o := none) (idx := []) hex
    exact ⟨a, vk_R.of (hts _ (st_str q hq)) h1⟩
  · intro q hq
    have : ∀ q ∈ thr_ncs, Cond.not (.castable q.1 q.2) ∈ flatC (Jvm.Cond.and given_1 narrow_1) := by decide +kernel
    exact va_Nc.of (hfl _ (this q hq))
  · exact vx_Zqof (hts _ (by decide +kernel)) (hts (.initialized "java/lang/Throwable") (by decide +kernel)) (hfl _ (by decide +kernel)) hA
  · exact vx_Zqof (hts _ (by decide +kernel)) (hts (.initialized "java/lang/Throwable") (by decide +kernel)) (hfl _ (by decide +kernel)) hA

