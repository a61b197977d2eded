set_option maxHeartbeats 4000000 in
set_option maxRecDepth 100000 in
/-- a script that is too short for a call -/
theorem law_short0 {p : Program} {l : Launch} {e : Env} {s : State} {m : MethodId} {below : List Frame} {meth : Method} {c : Code} {b0 : Nat} {xs : Nat → Int32} (C0 : lw_At p s m meth c b0 0 xs) {H : Heap} {locs : List Loc} (hS : va_S (fun q : Nat => s.heap.size ≤ q) s.heap H locs) {cells slots : Nat} (h1 : cells ≤ 612298) (h2 : slots ≤ 7265186) {ls : Array Slot} (hl : lv_has ls 9 [(0, .ref b0), (5, .int 0)]) :
    W p l e room_1 s m #[Value.ref b0] below meth c H locs cells slots (lw_Z below #[Value.ref b0] s) (F0 m 28 ls []) := by
  obtain ⟨hx, hb, hr, hml, hown, hts, hX, hbl, hlocks, hgv⟩ := C0
  have hbA : ¬ (fun q : Nat => s.heap.size ≤ q) b0 := Nat.not_le.mpr hbl
  refine lv_iload hx hb dL_law_28 (lv_at hl 1 rfl) ?_
  refine lv_aload_n hx hb dL_law_30 rfl (lv_at hl 0 rfl) ?_
  refine va_slen hx hb hX hbl hbA hS dL_law_31 ?_
  refine lv_topi (fun v1 e2 => ?_)
  obtain rfl : v1 = (0 : Int32) := e2.trans (by decide)
  refine lv_bipush (v := 6) hx hb dL_law_32 (by decide) ?_
  refine lv_isub hx hb dL_law_34 ?_
  refine lv_topi (fun v3 e4 => ?_)
  obtain rfl : v3 = ((-6) : Int32) := e4.trans (by decide)
  refine lv_icmp_gt (tgt := 3043) hx hb dL_law_35 (by decide) (fun _ => ?_) (fun cx => by first | exact absurd (by decide) cx | exact absurd cx (by decide))
  refine lv_iconst (v := 1) hx hb dL_law_3043 (by decide) ?_
  refine va_forget (fun q hq => hS.2.2 q hq) ?_
  refine W.widen (k := 612298) (n := 7265186) h1 h2 ?_
  refine W.base ?_
  exact lw_ret (Drawn.sameBut.refl s.drawn lw_cs) hx hb hr hlocks dL_law_3044
set_option maxHeartbeats 4000000 in
set_option maxRecDepth 100000 in
/-- a script that is too short for a call -/
theorem law_short1 {p : Program} {l : Launch} {e : Env} {s : State} {m : MethodId} {below : List Frame} {meth : Method} {c : Code} {b0 : Nat} {xs : Nat → Int32} (C0 : lw_At p s m meth c b0 1 xs) {H : Heap} {locs : List Loc} (hS : va_S (fun q : Nat => s.heap.size ≤ q) s.heap H locs) {cells slots : Nat} (h1 : cells ≤ 612298) (h2 : slots ≤ 7265186) {ls : Array Slot} (hl : lv_has ls 9 [(0, .ref b0), (5, .int 0)]) :
    W p l e room_1 s m #[Value.ref b0] below meth c H locs cells slots (lw_Z below #[Value.ref b0] s) (F0 m 28 ls []) := by
  obtain ⟨hx, hb, hr, hml, hown, hts, hX, hbl, hlocks, hgv⟩ := C0
  have hbA : ¬ (fun q : Nat => s.heap.size ≤ q) b0 := Nat.not_le.mpr hbl
  refine lv_iload hx hb dL_law_28 (lv_at hl 1 rfl) ?_
  refine lv_aload_n hx hb dL_law_30 rfl (lv_at hl 0 rfl) ?_
  refine va_slen hx hb hX hbl hbA hS dL_law_31 ?_
  refine lv_topi (fun v1 e2 => ?_)
  obtain rfl : v1 = (1 : Int32) := e2.trans (by decide)
  refine lv_bipush (v := 6) hx hb dL_law_32 (by decide) ?_
  refine lv_isub hx hb dL_law_34 ?_
  refine lv_topi (fun v3 e4 => ?_)
  obtain rfl : v3 = ((-5) : Int32) := e4.trans (by decide)
  refine lv_icmp_gt (tgt := 3043) hx hb dL_law_35 (by decide) (fun _ => ?_) (fun cx => by first | exact absurd (by decide) cx | exact absurd cx (by decide))
  refine lv_iconst (v := 1) hx hb dL_law_3043 (by decide) ?_
  refine va_forget (fun q hq => hS.2.2 q hq) ?_
  refine W.widen (k := 612298) (n := 7265186) h1 h2 ?_
  refine W.base ?_
  exact lw_ret (Drawn.sameBut.refl s.drawn lw_cs) hx hb hr hlocks dL_law_3044
set_option maxHeartbeats 4000000 in
set_option maxRecDepth 100000 in
/-- a script that is too short for a call -/
theorem law_short2 {p : Program} {l : Launch} {e : Env} {s : State} {m : MethodId} {below : List Frame} {meth : Method} {c : Code} {b0 : Nat} {xs : Nat → Int32} (C0 : lw_At p s m meth c b0 2 xs) {H : Heap} {locs : List Loc} (hS : va_S (fun q : Nat => s.heap.size ≤ q) s.heap H locs) {cells slots : Nat} (h1 : cells ≤ 612298) (h2 : slots ≤ 7265186) {ls : Array Slot} (hl : lv_has ls 9 [(0, .ref b0), (5, .int 0)]) :
    W p l e room_1 s m #[Value.ref b0] below meth c H locs cells slots (lw_Z below #[Value.ref b0] s) (F0 m 28 ls []) := by
  obtain ⟨hx, hb, hr, hml, hown, hts, hX, hbl, hlocks, hgv⟩ := C0
  have hbA : ¬ (fun q : Nat => s.heap.size ≤ q) b0 := Nat.not_le.mpr hbl
  refine lv_iload hx hb dL_law_28 (lv_at hl 1 rfl) ?_
  refine lv_aload_n hx hb dL_law_30 rfl (lv_at hl 0 rfl) ?_
  refine va_slen hx hb hX hbl hbA hS dL_law_31 ?_
  refine lv_topi (fun v1 e2 => ?_)
  obtain rfl : v1 = (2 : Int32) := e2.trans (by decide)
  refine lv_bipush (v := 6) hx hb dL_law_32 (by decide) ?_
  refine lv_isub hx hb dL_law_34 ?_
  refine lv_topi (fun v3 e4 => ?_)
  obtain rfl : v3 = ((-4) : Int32) := e4.trans (by decide)
  refine lv_icmp_gt (tgt := 3043) hx hb dL_law_35 (by decide) (fun _ => ?_) (fun cx => by first | exact absurd (by decide) cx | exact absurd cx (by decide))
  refine lv_iconst (v := 1) hx hb dL_law_3043 (by decide) ?_
  refine va_forget (fun q hq => hS.2.2 q hq) ?_
  refine W.widen (k := 612298) (n := 7265186) h1 h2 ?_
  refine W.base ?_
  exact lw_ret (Drawn.sameBut.refl s.drawn lw_cs) hx hb hr hlocks dL_law_3044
set_option maxHeartbeats 4000000 in
set_option maxRecDepth 100000 in
/-- a script that is too short for a call -/
theorem law_short3 {p : Program} {l : Launch} {e : Env} {s : State} {m : MethodId} {below : List Frame} {meth : Method} {c : Code} {b0 : Nat} {xs : Nat → Int32} (C0 : lw_At p s m meth c b0 3 xs) {H : Heap} {locs : List Loc} (hS : va_S (fun q : Nat => s.heap.size ≤ q) s.heap H locs) {cells slots : Nat} (h1 : cells ≤ 612298) (h2 : slots ≤ 7265186) {ls : Array Slot} (hl : lv_has ls 9 [(0, .ref b0), (5, .int 0)]) :
    W p l e room_1 s m #[Value.ref b0] below meth c H locs cells slots (lw_Z below #[Value.ref b0] s) (F0 m 28 ls []) := by
  obtain ⟨hx, hb, hr, hml, hown, hts, hX, hbl, hlocks, hgv⟩ := C0
  have hbA : ¬ (fun q : Nat => s.heap.size ≤ q) b0 := Nat.not_le.mpr hbl
  refine lv_iload hx hb dL_law_28 (lv_at hl 1 rfl) ?_
  refine lv_aload_n hx hb dL_law_30 rfl (lv_at hl 0 rfl) ?_
  refine va_slen hx hb hX hbl hbA hS dL_law_31 ?_
  refine lv_topi (fun v1 e2 => ?_)
  obtain rfl : v1 = (3 : Int32) := e2.trans (by decide)
  refine lv_bipush (v := 6) hx hb dL_law_32 (by decide) ?_
  refine lv_isub hx hb dL_law_34 ?_
  refine lv_topi (fun v3 e4 => ?_)
  obtain rfl : v3 = ((-3) : Int32) := e4.trans (by decide)
  refine lv_icmp_gt (tgt := 3043) hx hb dL_law_35 (by decide) (fun _ => ?_) (fun cx => by first | exact absurd (by decide) cx | exact absurd cx (by decide))
  refine lv_iconst (v := 1) hx hb dL_law_3043 (by decide) ?_
  refine va_forget (fun q hq => hS.2.2 q hq) ?_
  refine W.widen (k := 612298) (n := 7265186) h1 h2 ?_
  refine W.base ?_
  exact lw_ret (Drawn.sameBut.refl s.drawn lw_cs) hx hb hr hlocks dL_law_3044
set_option maxHeartbeats 4000000 in
set_option maxRecDepth 100000 in
/-- a script that is too short for a call -/
theorem law_short4 {p : Program} {l : Launch} {e : Env} {s : State} {m : MethodId} {below : List Frame} {meth : Method} {c : Code} {b0 : Nat} {xs : Nat → Int32} (C0 : lw_At p s m meth c b0 4 xs) {H : Heap} {locs : List Loc} (hS : va_S (fun q : Nat => s.heap.size ≤ q) s.heap H locs) {cells slots : Nat} (h1 : cells ≤ 612298) (h2 : slots ≤ 7265186) {ls : Array Slot} (hl : lv_has ls 9 [(0, .ref b0), (5, .int 0)]) :
    W p l e room_1 s m #[Value.ref b0] below meth c H locs cells slots (lw_Z below #[Value.ref b0] s) (F0 m 28 ls []) := by
  obtain ⟨hx, hb, hr, hml, hown, hts, hX, hbl, hlocks, hgv⟩ := C0
  have hbA : ¬ (fun q : Nat => s.heap.size ≤ q) b0 := Nat.not_le.mpr hbl
  refine lv_iload hx hb dL_law_28 (lv_at hl 1 rfl) ?_
  refine lv_aload_n hx hb dL_law_30 rfl (lv_at hl 0 rfl) ?_
  refine va_slen hx hb hX hbl hbA hS dL_law_31 ?_
  refine lv_topi (fun v1 e2 => ?_)
  obtain rfl : v1 = (4 : Int32) := e2.trans (by decide)
  refine lv_bipush (v := 6) hx hb dL_law_32 (by decide) ?_
  refine lv_isub hx hb dL_law_34 ?_
  refine lv_topi (fun v3 e4 => ?_)
  obtain rfl : v3 = ((-2) : Int32) := e4.trans (by decide)
  refine lv_icmp_gt (tgt := 3043) hx hb dL_law_35 (by decide) (fun _ => ?_) (fun cx => by first | exact absurd (by decide) cx | exact absurd cx (by decide))
  refine lv_iconst (v := 1) hx hb dL_law_3043 (by decide) ?_
  refine va_forget (fun q hq => hS.2.2 q hq) ?_
  refine W.widen (k := 612298) (n := 7265186) h1 h2 ?_
  refine W.base ?_
  exact lw_ret (Drawn.sameBut.refl s.drawn lw_cs) hx hb hr hlocks dL_law_3044
set_option maxHeartbeats 4000000 in
set_option maxRecDepth 100000 in
/-- a script that is too short for a call -/
theorem law_short5 {p : Program} {l : Launch} {e : Env} {s : State} {m : MethodId} {below : List Frame} {meth : Method} {c : Code} {b0 : Nat} {xs : Nat → Int32} (C0 : lw_At p s m meth c b0 5 xs) {H : Heap} {locs : List Loc} (hS : va_S (fun q : Nat => s.heap.size ≤ q) s.heap H locs) {cells slots : Nat} (h1 : cells ≤ 612298) (h2 : slots ≤ 7265186) {ls : Array Slot} (hl : lv_has ls 9 [(0, .ref b0), (5, .int 0)]) :
    W p l e room_1 s m #[Value.ref b0] below meth c H locs cells slots (lw_Z below #[Value.ref b0] s) (F0 m 28 ls []) := by
  obtain ⟨hx, hb, hr, hml, hown, hts, hX, hbl, hlocks, hgv⟩ := C0
  have hbA : ¬ (fun q : Nat => s.heap.size ≤ q) b0 := Nat.not_le.mpr hbl
  refine lv_iload hx hb dL_law_28 (lv_at hl 1 rfl) ?_
  refine lv_aload_n hx hb dL_law_30 rfl (lv_at hl 0 rfl) ?_
  refine va_slen hx hb hX hbl hbA hS dL_law_31 ?_
  refine lv_topi (fun v1 e2 => ?_)
  obtain rfl : v1 = (5 : Int32) := e2.trans (by decide)
  refine lv_bipush (v := 6) hx hb dL_law_32 (by decide) ?_
  refine lv_isub hx hb dL_law_34 ?_
  refine lv_topi (fun v3 e4 => ?_)
  obtain rfl : v3 = ((-1) : Int32) := e4.trans (by decide)
  refine lv_icmp_gt (tgt := 3043) hx hb dL_law_35 (by decide) (fun _ => ?_) (fun cx => by first | exact absurd (by decide) cx | exact absurd cx (by decide))
  refine lv_iconst (v := 1) hx hb dL_law_3043 (by decide) ?_
  refine va_forget (fun q hq => hS.2.2 q hq) ?_
  refine W.widen (k := 612298) (n := 7265186) h1 h2 ?_
  refine W.base ?_
  exact lw_ret (Drawn.sameBut.refl s.drawn lw_cs) hx hb hr hlocks dL_law_3044
