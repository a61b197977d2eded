set_option maxHeartbeats 4000000 in
set_option maxRecDepth 100000 in
/-- the law, a first call of age -/
theorem case_20 {p : Program} {l : Launch} {e : Env} {s : State} {m : MethodId} {below : List Frame} {meth : Method} {c : Code} (hlt : l.stackTraces = false) {b0 : Nat} {xs : Nat → Int32} (C0 : lw_At p s m meth c b0 6 xs) (dC : Nat → ClassId) (dI : Nat → Nat → Nat) (a : Nat → Nat) (cI cS : ClassId) (f : Nat → Nat → Int32) (b : Nat → Nat) (c2 : ClassId) (dg : Nat → Option Nat) (dl : Nat → Int32) (eD o o2 : Nat) (cJ cE : ClassId) (Ld : List Nat) {H : Heap} {locs : List Loc} (hw0 : LW dC dI s H locs a cI cS f b c2 dg dl eD o o2 cJ cE Ld) {ls : Array Slot} (hl : lv_has ls 9 [(0, .ref b0), (1, .ref (a 0)), (2, .ref (b 0)), (3, .ref o), (4, .ref o2), (5, .int 0)]) :
    W p l e room_1 s m #[Value.ref b0] below meth c H locs 200 2000 (lw_Z below #[Value.ref b0] s) (F0 m 1449 ls []) := by
  obtain ⟨hx, hb, hr, hml, hown, hts0, hX, hbl, hlocks, hgv⟩ := id C0
  have hts : ∀ w ∈ wzL_law, w.before #[Value.ref b0] s = true := fun w h => hts0 w (wzL_law_in w h)
  have hA : ∀ q : Nat, s.heap.size ≤ q → (fun q : Nat => s.heap.size ≤ q) q := fun _ h => h
  have hbA : ¬ (fun q : Nat => s.heap.size ≤ q) b0 := Nat.not_le.mpr hbl
  obtain ⟨hK, hP, hD, hS, hT, hM, hLX⟩ := hw0
  refine lv_aload_n hx hb dL_law_1449 rfl (lv_at hl 1 rfl) ?_
  refine lv_aload_n hx hb dL_law_1450 rfl (lv_at hl 0 rfl) ?_
  refine lv_iload hx hb dL_law_1451 (lv_at hl 5 rfl) ?_
  refine lv_iconst (v := 1) hx hb dL_law_1453 (by decide) ?_
  refine lv_iadd hx hb dL_law_1454 ?_
  refine lv_topi (fun v1 e2 => ?_)
  obtain rfl : v1 = (1 : Int32) := e2.trans (by decide)
  refine va_sld hx hb hX hbl hbA hS (by unfold vp_in; decide) dL_law_1455 ?_
  refine lv_aload_n hx hb dL_law_1456 rfl (lv_at hl 0 rfl) ?_
  refine lv_iload hx hb dL_law_1457 (lv_at hl 5 rfl) ?_
  refine lv_iconst (v := 2) hx hb dL_law_1459 (by decide) ?_
  refine lv_iadd hx hb dL_law_1460 ?_
  refine lv_topi (fun v3 e4 => ?_)
  obtain rfl : v3 = (2 : Int32) := e4.trans (by decide)
  refine va_sld hx hb hX hbl hbA hS (by unfold vp_in; decide) dL_law_1461 ?_
  refine lv_aload_n hx hb dL_law_1462 rfl (lv_at hl 0 rfl) ?_
  refine lv_iload hx hb dL_law_1463 (lv_at hl 5 rfl) ?_
  refine lv_iconst (v := 3) hx hb dL_law_1465 (by decide) ?_
  refine lv_iadd hx hb dL_law_1466 ?_
  refine lv_topi (fun v5 e6 => ?_)
  obtain rfl : v5 = (3 : Int32) := e6.trans (by decide)
  refine va_sld hx hb hX hbl hbA hS (by unfold vp_in; decide) dL_law_1467 ?_
  refine lv_aload_n hx hb dL_law_1468 rfl (lv_at hl 3 rfl) ?_
  have hFc := va_free (wc := [((a 0), .inr (7, [.ref (a 1), .ref (a 2), .ref (a 3), .int 0, .int 0, .int 0, .int 0, .int 0, .int 0, .int 0])), ((a 1), .inr (6, [.ref (a 4), .ref (a 5), .ref (a 6), .ref (a 7)])), ((a 2), .inr (4, [.ref (a 8), .ref (a 9), .ref (a 10)])), ((a 3), .inl (cS, 3, .inr (.inr (.inr (.inr (fun _ => none)))))), ((a 4), .inl (cI, 21, .inl (f 0))), ((a 5), .inl (cI, 21, .inl (f 1))), ((a 6), .inl (cI, 21, .inl (f 2))), ((a 7), .inl (cI, 21, .inl (f 3))), ((a 8), .inl (cI, 4, .inl (fun _ => 0))), ((a 9), .inl (cI, 4, .inl (fun _ => 0))), ((a 10), .inl (cI, 4, .inl (f 4))), (o, .inl (cJ, 1, .inr (.inl (fun _ => 0))))]) hD hS hA [0, 1, 2, 3, 4, 5, 6, 7, 8, 9, 10, 18] rfl
  refine va_calli (vx_runSW (As := [.ref (a 0), .int (xs (1 : Int32).toNatClampNeg), .int (xs (2 : Int32).toNatClampNeg), .int (xs (3 : Int32).toNatClampNeg), .ref o]) (rest := []) ⟨hx, hb, hml, hown, hts⟩ (h_age l hlt dC dI _ a cI cS f cJ o (fun _ => 0) (xs (1 : Int32).toNatClampNeg) (xs (2 : Int32).toNatClampNeg) (xs (3 : Int32).toNatClampNeg)) (vx_cwSW 5 hts gL_law_L_age rfl rfl rfl (by decide +kernel) ⟨Nat.le_of_ble_eq_true rfl, Nat.le_of_ble_eq_true rfl⟩) ⟨fb_PT, fun U hU hW => ⟨rfl, PT.give hP hK hD hS hA hT [0, 1, 2, 3, 4, 5, 6, 7, 8, 9, 10, 18] [0, 1, 3] rfl rfl rfl rfl hU hW⟩⟩ rfl rfl hl.1 rfl (lv_room (Nat.le_of_ble_eq_true rfl)) dL_law_1469 ⟨(Nat.le_of_ble_eq_true rfl), (Nat.le_of_ble_eq_true rfl)⟩) hS (fun q _ h => hFc q h) hFc (fun r7 u t H locs ht hvm hw8 hB hz1 hk1 hS => ?_)
  obtain ⟨hP, hD⟩ := aft0 [0, 1, 2, 3, 4, 5, 6, 7, 8, 9, 10, 18] [11, 12, 13, 14, 15, 16, 17, 19] hP hD rfl (wr := [((b 0), .inr (10, [.int 0, .ref (b 1), .int 0, .int 0, .ref (b 2), .ref (b 3), .ref (b 4), .ref (b 5), .int 0, .int 0, .ref (b 6)])), ((b 1), .inl (c2, 21, .inr (.inr (.inr (.inr dg))))), ((b 2), .inl (cI, 4, .inl (fun _ => 0))), ((b 3), .inl (cI, 4, .inl (fun _ => 0))), ((b 4), .inl (cI, 4, .inl dl)), ((b 5), .inl (cI, 2, .inl (fun _ => 0))), ((b 6), .inr (3, [.int 0, .ref eD, .int 0])), (o2, .inl (cE, 1, .inr (.inr (.inr (.inl (fun _ => 0))))))]) rfl rfl (by decide) hFc hk1
  have hP : va_P (dC, dI) vwCl ([((b 0), .inr (10, [.int 0, .ref (b 1), .int 0, .int 0, .ref (b 2), .ref (b 3), .ref (b 4), .ref (b 5), .int 0, .int 0, .ref (b 6)])), ((b 1), .inl (c2, 21, .inr (.inr (.inr (.inr dg))))), ((b 2), .inl (cI, 4, .inl (fun _ => 0))), ((b 3), .inl (cI, 4, .inl (fun _ => 0))), ((b 4), .inl (cI, 4, .inl dl)), ((b 5), .inl (cI, 2, .inl (fun _ => 0))), ((b 6), .inr (3, [.int 0, .ref eD, .int 0])), (o2, .inl (cE, 1, .inr (.inr (.inr (.inl (fun _ => 0))))))]) H := hP
  have hD : va_D (fun q : Nat => s.heap.size ≤ q) ([((b 0), .inr (10, [.int 0, .ref (b 1), .int 0, .int 0, .ref (b 2), .ref (b 3), .ref (b 4), .ref (b 5), .int 0, .int 0, .ref (b 6)])), ((b 1), .inl (c2, 21, .inr (.inr (.inr (.inr dg))))), ((b 2), .inl (cI, 4, .inl (fun _ => 0))), ((b 3), .inl (cI, 4, .inl (fun _ => 0))), ((b 4), .inl (cI, 4, .inl dl)), ((b 5), .inl (cI, 2, .inl (fun _ => 0))), ((b 6), .inr (3, [.int 0, .ref eD, .int 0])), (o2, .inl (cE, 1, .inr (.inr (.inr (.inl (fun _ => 0))))))]) := hD
  obtain rfl : r7 = 1 := hw8
  refine lv_istore (lv' := [(6, .int 1), (0, .ref b0), (1, .ref (a 0)), (2, .ref (b 0)), (3, .ref o), (4, .ref o2), (5, .int 0)]) hx hb dL_law_1472 hl (by decide) rfl (fun ls hl => ?_)
  refine lv_aload_n hx hb dL_law_1474 rfl (lv_at hl 3 rfl) ?_
  refine lv_aload_n hx hb dL_law_1475 rfl (lv_at hl 1 rfl) ?_
  refine lv_iload hx hb dL_law_1476 (lv_at hl 6 rfl) ?_
  refine lv_iconst (v := 1) hx hb dL_law_1478 (by decide) ?_
  refine lv_iadd hx hb dL_law_1479 ?_
  refine lv_topi (fun v9 e10 => ?_)
  obtain rfl : v9 = (1 : Int32) := e10.trans (by decide)
  refine va_sld hx hb hX hbl hbA hS (by unfold vp_in; decide) dL_law_1480 ?_
  refine lv_aload_n hx hb dL_law_1481 rfl (lv_at hl 1 rfl) ?_
  refine lv_iload hx hb dL_law_1482 (lv_at hl 6 rfl) ?_
  refine lv_iconst (v := 2) hx hb dL_law_1484 (by decide) ?_
  refine lv_iadd hx hb dL_law_1485 ?_
  refine lv_topi (fun v11 e12 => ?_)
  obtain rfl : v11 = (2 : Int32) := e12.trans (by decide)
  refine va_sld hx hb hX hbl hbA hS (by unfold vp_in; decide) dL_law_1486 ?_
  refine lv_aload_n hx hb dL_law_1487 rfl (lv_at hl 1 rfl) ?_
  refine lv_iload hx hb dL_law_1488 (lv_at hl 6 rfl) ?_
  refine lv_iconst (v := 3) hx hb dL_law_1490 (by decide) ?_
  refine lv_iadd hx hb dL_law_1491 ?_
  refine lv_topi (fun v13 e14 => ?_)
  obtain rfl : v13 = (3 : Int32) := e14.trans (by decide)
  refine va_sld hx hb hX hbl hbA hS (by unfold vp_in; decide) dL_law_1492 ?_
  have hFc := va_free (wc := [((b 0), .inr (10, [.int 0, .ref (b 1), .int 0, .int 0, .ref (b 2), .ref (b 3), .ref (b 4), .ref (b 5), .int 0, .int 0, .ref (b 6)])), ((b 6), .inr (3, [.int 0, .ref eD, .int 0]))]) hD hS hA [0, 6] rfl
  refine va_calli (va_runV (As := [.int (xs (1 : Int32).toNatClampNeg), .int (xs (2 : Int32).toNatClampNeg), .int (xs (3 : Int32).toNatClampNeg)]) (rest := []) ⟨hx, hb, hml, hown, hts⟩ (m_age l dC dI _ b eD (xs (1 : Int32).toNatClampNeg) (xs (2 : Int32).toNatClampNeg) (xs (3 : Int32).toNatClampNeg)) (cwV 3 hts gL_law_X6_age rfl rfl rfl (by decide +kernel) ⟨Nat.le_of_ble_eq_true rfl, Nat.le_of_ble_eq_true rfl⟩) ⟨fb_PM, va_recv hK hP (ci := 10) (q0 := 0) rfl rfl, fun U hU hW => ⟨rfl, PM.give hP hK hD hM [0, 6] [] rfl rfl rfl rfl hU hW⟩⟩ rfl rfl hl.1 rfl (lv_room (Nat.le_of_ble_eq_true rfl)) dL_law_1493 ⟨(Nat.le_of_ble_eq_true rfl), (Nat.le_of_ble_eq_true rfl)⟩) hS (fun q _ h => hFc q h) hFc (fun r15 u t H locs ht hvm hw16 hB hz1 hk1 hS => ?_)
  obtain ⟨hP, hD, hK⟩ := aft [0, 6] [] hP hK hD rfl (wr := []) rfl rfl (by decide) hFc hB ht hvm hk1
  have hP : va_P (dC, dI) vwCl ([((b 6), .inr (3, [.int 0, .ref eD, .int 0])), ((b 0), .inr (10, [.int 1, .ref (b 1), .int 0, .int 0, .ref (b 2), .ref (b 3), .ref (b 4), .ref (b 5), .int 0, .int 0, .ref (b 6)]))]) H := hP
  have hD : va_D (fun q : Nat => s.heap.size ≤ q) ([((b 6), .inr (3, [.int 0, .ref eD, .int 0])), ((b 0), .inr (10, [.int 1, .ref (b 1), .int 0, .int 0, .ref (b 2), .ref (b 3), .ref (b 4), .ref (b 5), .int 0, .int 0, .ref (b 6)]))]) := hD
  have hK : va_K (dC, dI) vwCl [(cI, .int), (cS, .object "Snowpalace$Site"), (c2, .array .int), (cJ, .long), (cE, .double)] s := hK
  refine lv_istore (lv' := [(7, .int r15), (6, .int 1), (0, .ref b0), (1, .ref (a 0)), (2, .ref (b 0)), (3, .ref o), (4, .ref o2), (5, .int 0)]) hx hb dL_law_1496 hl (by decide) rfl (fun ls hl => ?_)
  refine lv_aload_n hx hb dL_law_1498 rfl (lv_at hl 4 rfl) ?_
  refine va_calli (va_runV (As := []) (rest := []) ⟨hx, hb, hml, hown, hts⟩ (m_thrown l dC dI _ (b 0) 1 [.ref (b 1), .int 0, .int 0, .ref (b 2), .ref (b 3), .ref (b 4), .ref (b 5), .int 0, .int 0, .ref (b 6)]) (cwV 0 hts gL_law_X6_thrown rfl rfl rfl (by decide +kernel) ⟨Nat.le_of_ble_eq_true rfl, Nat.le_of_ble_eq_true rfl⟩) ⟨fb_PW, va_recv hK hP (ci := 10) (q0 := 1) rfl rfl, fun U hU hW => ⟨rfl, PW.give hP hK hD [1] [] rfl rfl rfl rfl hU hW⟩⟩ rfl rfl hl.1 rfl (lv_room (Nat.le_of_ble_eq_true rfl)) dL_law_1499 ⟨(Nat.le_of_ble_eq_true rfl), (Nat.le_of_ble_eq_true rfl)⟩) hS (fun q _ h => h.elim) (fun q h => h.elim) (fun r17 u t H locs ht hvm hw18 hB hz1 hk1 hS => ?_)
  have hP := kp_P hP hk1
  have hP : va_P (dC, dI) vwCl ([((b 6), .inr (3, [.int 0, .ref eD, .int 0])), ((b 0), .inr (10, [.int 1, .ref (b 1), .int 0, .int 0, .ref (b 2), .ref (b 3), .ref (b 4), .ref (b 5), .int 0, .int 0, .ref (b 6)]))]) H := hP
  have hD : va_D (fun q : Nat => s.heap.size ≤ q) ([((b 6), .inr (3, [.int 0, .ref eD, .int 0])), ((b 0), .inr (10, [.int 1, .ref (b 1), .int 0, .int 0, .ref (b 2), .ref (b 3), .ref (b 4), .ref (b 5), .int 0, .int 0, .ref (b 6)]))]) := hD
  obtain rfl : r17 = 1 := hw18
  refine lv_iload hx hb dL_law_1502 (lv_at hl 1 rfl) ?_
  refine lv_icmp_eq (tgt := 1509) hx hb dL_law_1504 (by decide) (fun _ => ?_) (fun cx => by first | exact absurd (by decide) cx | exact absurd cx (by decide))
  refine lv_iload hx hb dL_law_1509 (lv_at hl 1 rfl) ?_
  refine lv_if_ne (tgt := 1526) hx hb dL_law_1511 (by decide) (fun _ => ?_) (fun cx => by first | exact absurd (by decide) cx | exact absurd cx (by decide))
  refine lv_goto (tgt := 3037) hx hb dL_law_1526 (by decide) ?_
  exact law_exit C0 hS (Nat.le_of_ble_eq_true rfl) (Nat.le_of_ble_eq_true rfl) (lv_sub hl [2, 7] rfl)

set_option maxHeartbeats 4000000 in
set_option maxRecDepth 100000 in
/-- the law, a first call of isArch -/
theorem case_21 {p : Program} {l : Launch} {e : Env} {s : State} {m : MethodId} {below : List Frame} {meth : Method} {c : Code} (hlt : l.stackTraces = false) {b0 : Nat} {xs : Nat → Int32} (C0 : lw_At p s m meth c b0 6 xs) (dC : Nat → ClassId) (dI : Nat → Nat → Nat) (a : Nat → Nat) (cI cS : ClassId) (f : Nat → Nat → Int32) (b : Nat → Nat) (c2 : ClassId) (dg : Nat → Option Nat) (dl : Nat → Int32) (eD o o2 : Nat) (cJ cE : ClassId) (Ld : List Nat) {H : Heap} {locs : List Loc} (hw0 : LW dC dI s H locs a cI cS f b c2 dg dl eD o o2 cJ cE Ld) {ls : Array Slot} (hl : lv_has ls 9 [(0, .ref b0), (1, .ref (a 0)), (2, .ref (b 0)), (3, .ref o), (4, .ref o2), (5, .int 0)]) :
    W p l e room_1 s m #[Value.ref b0] below meth c H locs 200 2000 (lw_Z below #[Value.ref b0] s) (F0 m 1529 ls []) := by
  obtain ⟨hx, hb, hr, hml, hown, hts0, hX, hbl, hlocks, hgv⟩ := id C0
  have hts : ∀ w ∈ wzL_law, w.before #[Value.ref b0] s = true := fun w h => hts0 w (wzL_law_in w h)
  have hA : ∀ q : Nat, s.heap.size ≤ q → (fun q : Nat => s.heap.size ≤ q) q := fun _ h => h
  have hbA : ¬ (fun q : Nat => s.heap.size ≤ q) b0 := Nat.not_le.mpr hbl
  obtain ⟨hK, hP, hD, hS, hT, hM, hLX⟩ := hw0
  refine lv_aload_n hx hb dL_law_1529 rfl (lv_at hl 1 rfl) ?_
  refine lv_aload_n hx hb dL_law_1530 rfl (lv_at hl 0 rfl) ?_
  refine lv_iload hx hb dL_law_1531 (lv_at hl 5 rfl) ?_
  refine lv_iconst (v := 1) hx hb dL_law_1533 (by decide) ?_
  refine lv_iadd hx hb dL_law_1534 ?_
  refine lv_topi (fun v1 e2 => ?_)
  obtain rfl : v1 = (1 : Int32) := e2.trans (by decide)
  refine va_sld hx hb hX hbl hbA hS (by unfold vp_in; decide) dL_law_1535 ?_
  refine lv_aload_n hx hb dL_law_1536 rfl (lv_at hl 0 rfl) ?_
  refine lv_iload hx hb dL_law_1537 (lv_at hl 5 rfl) ?_
  refine lv_iconst (v := 2) hx hb dL_law_1539 (by decide) ?_
  refine lv_iadd hx hb dL_law_1540 ?_
  refine lv_topi (fun v3 e4 => ?_)
  obtain rfl : v3 = (2 : Int32) := e4.trans (by decide)
  refine va_sld hx hb hX hbl hbA hS (by unfold vp_in; decide) dL_law_1541 ?_
  refine lv_aload_n hx hb dL_law_1542 rfl (lv_at hl 0 rfl) ?_
  refine lv_iload hx hb dL_law_1543 (lv_at hl 5 rfl) ?_
  refine lv_iconst (v := 3) hx hb dL_law_1545 (by decide) ?_
  refine lv_iadd hx hb dL_law_1546 ?_
  refine lv_topi (fun v5 e6 => ?_)
  obtain rfl : v5 = (3 : Int32) := e6.trans (by decide)
  refine va_sld hx hb hX hbl hbA hS (by unfold vp_in; decide) dL_law_1547 ?_
  refine lv_aload_n hx hb dL_law_1548 rfl (lv_at hl 3 rfl) ?_
  have hFc := va_free (wc := [((a 0), .inr (7, [.ref (a 1), .ref (a 2), .ref (a 3), .int 0, .int 0, .int 0, .int 0, .int 0, .int 0, .int 0])), ((a 1), .inr (6, [.ref (a 4), .ref (a 5), .ref (a 6), .ref (a 7)])), ((a 2), .inr (4, [.ref (a 8), .ref (a 9), .ref (a 10)])), ((a 3), .inl (cS, 3, .inr (.inr (.inr (.inr (fun _ => none)))))), ((a 4), .inl (cI, 21, .inl (f 0))), ((a 5), .inl (cI, 21, .inl (f 1))), ((a 6), .inl (cI, 21, .inl (f 2))), ((a 7), .inl (cI, 21, .inl (f 3))), ((a 8), .inl (cI, 4, .inl (fun _ => 0))), ((a 9), .inl (cI, 4, .inl (fun _ => 0))), ((a 10), .inl (cI, 4, .inl (f 4))), (o, .inl (cJ, 1, .inr (.inl (fun _ => 0))))]) hD hS hA [0, 1, 2, 3, 4, 5, 6, 7, 8, 9, 10, 18] rfl
  refine va_calli (vx_runSW (As := [.ref (a 0), .int (xs (1 : Int32).toNatClampNeg), .int (xs (2 : Int32).toNatClampNeg), .int (xs (3 : Int32).toNatClampNeg), .ref o]) (rest := []) ⟨hx, hb, hml, hown, hts⟩ (h_isArch l hlt dC dI _ a cI cS f cJ o (fun _ => 0) (xs (1 : Int32).toNatClampNeg) (xs (2 : Int32).toNatClampNeg) (xs (3 : Int32).toNatClampNeg)) (vx_cwSW 5 hts gL_law_L_isArch rfl rfl rfl (by decide +kernel) ⟨Nat.le_of_ble_eq_true rfl, Nat.le_of_ble_eq_true rfl⟩) ⟨fb_PT, fun U hU hW => ⟨rfl, PT.give hP hK hD hS hA hT [0, 1, 2, 3, 4, 5, 6, 7, 8, 9, 10, 18] [0, 1, 3] rfl rfl rfl rfl hU hW⟩⟩ rfl rfl hl.1 rfl (lv_room (Nat.le_of_ble_eq_true rfl)) dL_law_1549 ⟨(Nat.le_of_ble_eq_true rfl), (Nat.le_of_ble_eq_true rfl)⟩) hS (fun q _ h => hFc q h) hFc (fun r7 u t H locs ht hvm hw8 hB hz1 hk1 hS => ?_)
  obtain ⟨hP, hD⟩ := aft0 [0, 1, 2, 3, 4, 5, 6, 7, 8, 9, 10, 18] [11, 12, 13, 14, 15, 16, 17, 19] hP hD rfl (wr := [((b 0), .inr (10, [.int 0, .ref (b 1), .int 0, .int 0, .ref (b 2), .ref (b 3), .ref (b 4), .ref (b 5), .int 0, .int 0, .ref (b 6)])), ((b 1), .inl (c2, 21, .inr (.inr (.inr (.inr dg))))), ((b 2), .inl (cI, 4, .inl (fun _ => 0))), ((b 3), .inl (cI, 4, .inl (fun _ => 0))), ((b 4), .inl (cI, 4, .inl dl)), ((b 5), .inl (cI, 2, .inl (fun _ => 0))), ((b 6), .inr (3, [.int 0, .ref eD, .int 0])), (o2, .inl (cE, 1, .inr (.inr (.inr (.inl (fun _ => 0))))))]) rfl rfl (by decide) hFc hk1
  have hP : va_P (dC, dI) vwCl ([((b 0), .inr (10, [.int 0, .ref (b 1), .int 0, .int 0, .ref (b 2), .ref (b 3), .ref (b 4), .ref (b 5), .int 0, .int 0, .ref (b 6)])), ((b 1), .inl (c2, 21, .inr (.inr (.inr (.inr dg))))), ((b 2), .inl (cI, 4, .inl (fun _ => 0))), ((b 3), .inl (cI, 4, .inl (fun _ => 0))), ((b 4), .inl (cI, 4, .inl dl)), ((b 5), .inl (cI, 2, .inl (fun _ => 0))), ((b 6), .inr (3, [.int 0, .ref eD, .int 0])), (o2, .inl (cE, 1, .inr (.inr (.inr (.inl (fun _ => 0))))))]) H := hP
  have hD : va_D (fun q : Nat => s.heap.size ≤ q) ([((b 0), .inr (10, [.int 0, .ref (b 1), .int 0, .int 0, .ref (b 2), .ref (b 3), .ref (b 4), .ref (b 5), .int 0, .int 0, .ref (b 6)])), ((b 1), .inl (c2, 21, .inr (.inr (.inr (.inr dg))))), ((b 2), .inl (cI, 4, .inl (fun _ => 0))), ((b 3), .inl (cI, 4, .inl (fun _ => 0))), ((b 4), .inl (cI, 4, .inl dl)), ((b 5), .inl (cI, 2, .inl (fun _ => 0))), ((b 6), .inr (3, [.int 0, .ref eD, .int 0])), (o2, .inl (cE, 1, .inr (.inr (.inr (.inl (fun _ => 0))))))]) := hD
  obtain rfl : r7 = 1 := hw8
  refine lv_istore (lv' := [(6, .int 1), (0, .ref b0), (1, .ref (a 0)), (2, .ref (b 0)), (3, .ref o), (4, .ref o2), (5, .int 0)]) hx hb dL_law_1552 hl (by decide) rfl (fun ls hl => ?_)
  refine lv_aload_n hx hb dL_law_1554 rfl (lv_at hl 3 rfl) ?_
  refine lv_aload_n hx hb dL_law_1555 rfl (lv_at hl 1 rfl) ?_
  refine lv_iload hx hb dL_law_1556 (lv_at hl 6 rfl) ?_
  refine lv_iconst (v := 1) hx hb dL_law_1558 (by decide) ?_
  refine lv_iadd hx hb dL_law_1559 ?_
  refine lv_topi (fun v9 e10 => ?_)
  obtain rfl : v9 = (1 : Int32) := e10.trans (by decide)
  refine va_sld hx hb hX hbl hbA hS (by unfold vp_in; decide) dL_law_1560 ?_
  refine lv_aload_n hx hb dL_law_1561 rfl (lv_at hl 1 rfl) ?_
  refine lv_iload hx hb dL_law_1562 (lv_at hl 6 rfl) ?_
  refine lv_iconst (v := 2) hx hb dL_law_1564 (by decide) ?_
  refine lv_iadd hx hb dL_law_1565 ?_
  refine lv_topi (fun v11 e12 => ?_)
  obtain rfl : v11 = (2 : Int32) := e12.trans (by decide)
  refine va_sld hx hb hX hbl hbA hS (by unfold vp_in; decide) dL_law_1566 ?_
  refine lv_aload_n hx hb dL_law_1567 rfl (lv_at hl 1 rfl) ?_
  refine lv_iload hx hb dL_law_1568 (lv_at hl 6 rfl) ?_
  refine lv_iconst (v := 3) hx hb dL_law_1570 (by decide) ?_
  refine lv_iadd hx hb dL_law_1571 ?_
  refine lv_topi (fun v13 e14 => ?_)
  obtain rfl : v13 = (3 : Int32) := e14.trans (by decide)
  refine va_sld hx hb hX hbl hbA hS (by unfold vp_in; decide) dL_law_1572 ?_
  have hFc := va_free (wc := [((b 0), .inr (10, [.int 0, .ref (b 1), .int 0, .int 0, .ref (b 2), .ref (b 3), .ref (b 4), .ref (b 5), .int 0, .int 0, .ref (b 6)])), ((b 6), .inr (3, [.int 0, .ref eD, .int 0]))]) hD hS hA [0, 6] rfl
  refine va_calli (va_runV (As := [.int (xs (1 : Int32).toNatClampNeg), .int (xs (2 : Int32).toNatClampNeg), .int (xs (3 : Int32).toNatClampNeg)]) (rest := []) ⟨hx, hb, hml, hown, hts⟩ (m_isArch l dC dI _ b eD (xs (1 : Int32).toNatClampNeg) (xs (2 : Int32).toNatClampNeg) (xs (3 : Int32).toNatClampNeg)) (cwV 3 hts gL_law_X6_isArch rfl rfl rfl (by decide +kernel) ⟨Nat.le_of_ble_eq_true rfl, Nat.le_of_ble_eq_true rfl⟩) ⟨fb_PM, va_recv hK hP (ci := 10) (q0 := 0) rfl rfl, fun U hU hW => ⟨rfl, PM.give hP hK hD hM [0, 6] [] rfl rfl rfl rfl hU hW⟩⟩ rfl rfl hl.1 rfl (lv_room (Nat.le_of_ble_eq_true rfl)) dL_law_1573 ⟨(Nat.le_of_ble_eq_true rfl), (Nat.le_of_ble_eq_true rfl)⟩) hS (fun q _ h => hFc q h) hFc (fun r15 u t H locs ht hvm hw16 hB hz1 hk1 hS => ?_)
  obtain ⟨hP, hD, hK⟩ := aft [0, 6] [] hP hK hD rfl (wr := []) rfl rfl (by decide) hFc hB ht hvm hk1
  have hP : va_P (dC, dI) vwCl ([((b 6), .inr (3, [.int 0, .ref eD, .int 0])), ((b 0), .inr (10, [.int 1, .ref (b 1), .int 0, .int 0, .ref (b 2), .ref (b 3), .ref (b 4), .ref (b 5), .int 0, .int 0, .ref (b 6)]))]) H := hP
  have hD : va_D (fun q : Nat => s.heap.size ≤ q) ([((b 6), .inr (3, [.int 0, .ref eD, .int 0])), ((b 0), .inr (10, [.int 1, .ref (b 1), .int 0, .int 0, .ref (b 2), .ref (b 3), .ref (b 4), .ref (b 5), .int 0, .int 0, .ref (b 6)]))]) := hD
  have hK : va_K (dC, dI) vwCl [(cI, .int), (cS, .object "Snowpalace$Site"), (c2, .array .int), (cJ, .long), (cE, .double)] s := hK
  refine lv_istore (lv' := [(7, .int r15), (6, .int 1), (0, .ref b0), (1, .ref (a 0)), (2, .ref (b 0)), (3, .ref o), (4, .ref o2), (5, .int 0)]) hx hb dL_law_1576 hl (by decide) rfl (fun ls hl => ?_)
  refine lv_aload_n hx hb dL_law_1578 rfl (lv_at hl 4 rfl) ?_
  refine va_calli (va_runV (As := []) (rest := []) ⟨hx, hb, hml, hown, hts⟩ (m_thrown l dC dI _ (b 0) 1 [.ref (b 1), .int 0, .int 0, .ref (b 2), .ref (b 3), .ref (b 4), .ref (b 5), .int 0, .int 0, .ref (b 6)]) (cwV 0 hts gL_law_X6_thrown rfl rfl rfl (by decide +kernel) ⟨Nat.le_of_ble_eq_true rfl, Nat.le_of_ble_eq_true rfl⟩) ⟨fb_PW, va_recv hK hP (ci := 10) (q0 := 1) rfl rfl, fun U hU hW => ⟨rfl, PW.give hP hK hD [1] [] rfl rfl rfl rfl hU hW⟩⟩ rfl rfl hl.1 rfl (lv_room (Nat.le_of_ble_eq_true rfl)) dL_law_1579 ⟨(Nat.le_of_ble_eq_true rfl), (Nat.le_of_ble_eq_true rfl)⟩) hS (fun q _ h => h.elim) (fun q h => h.elim) (fun r17 u t H locs ht hvm hw18 hB hz1 hk1 hS => ?_)
  have hP := kp_P hP hk1
  have hP : va_P (dC, dI) vwCl ([((b 6), .inr (3, [.int 0, .ref eD, .int 0])), ((b 0), .inr (10, [.int 1, .ref (b 1), .int 0, .int 0, .ref (b 2), .ref (b 3), .ref (b 4), .ref (b 5), .int 0, .int 0, .ref (b 6)]))]) H := hP
  have hD : va_D (fun q : Nat => s.heap.size ≤ q) ([((b 6), .inr (3, [.int 0, .ref eD, .int 0])), ((b 0), .inr (10, [.int 1, .ref (b 1), .int 0, .int 0, .ref (b 2), .ref (b 3), .ref (b 4), .ref (b 5), .int 0, .int 0, .ref (b 6)]))]) := hD
  obtain rfl : r17 = 1 := hw18
  refine lv_iload hx hb dL_law_1582 (lv_at hl 1 rfl) ?_
  refine lv_icmp_eq (tgt := 1589) hx hb dL_law_1584 (by decide) (fun _ => ?_) (fun cx => by first | exact absurd (by decide) cx | exact absurd cx (by decide))
  refine lv_iload hx hb dL_law_1589 (lv_at hl 1 rfl) ?_
  refine lv_if_ne (tgt := 1613) hx hb dL_law_1591 (by decide) (fun _ => ?_) (fun cx => by first | exact absurd (by decide) cx | exact absurd cx (by decide))
  refine lv_goto (tgt := 3037) hx hb dL_law_1613 (by decide) ?_
  exact law_exit C0 hS (Nat.le_of_ble_eq_true rfl) (Nat.le_of_ble_eq_true rfl) (lv_sub hl [2, 7] rfl)

set_option maxHeartbeats 4000000 in
set_option maxRecDepth 100000 in
/-- the law, a first call of fell -/
theorem case_22 {p : Program} {l : Launch} {e : Env} {s : State} {m : MethodId} {below : List Frame} {meth : Method} {c : Code} (hlt : l.stackTraces = false) {b0 : Nat} {xs : Nat → Int32} (C0 : lw_At p s m meth c b0 6 xs) (dC : Nat → ClassId) (dI : Nat → Nat → Nat) (a : Nat → Nat) (cI cS : ClassId) (f : Nat → Nat → Int32) (b : Nat → Nat) (c2 : ClassId) (dg : Nat → Option Nat) (dl : Nat → Int32) (eD o o2 : Nat) (cJ cE : ClassId) (Ld : List Nat) {H : Heap} {locs : List Loc} (hw0 : LW dC dI s H locs a cI cS f b c2 dg dl eD o o2 cJ cE Ld) {ls : Array Slot} (hl : lv_has ls 9 [(0, .ref b0), (1, .ref (a 0)), (2, .ref (b 0)), (3, .ref o), (4, .ref o2), (5, .int 0)]) :
    W p l e room_1 s m #[Value.ref b0] below meth c H locs 200 2000 (lw_Z below #[Value.ref b0] s) (F0 m 1616 ls []) := by
  obtain ⟨hx, hb, hr, hml, hown, hts0, hX, hbl, hlocks, hgv⟩ := id C0
  have hts : ∀ w ∈ wzL_law, w.before #[Value.ref b0] s = true := fun w h => hts0 w (wzL_law_in w h)
  have hA : ∀ q : Nat, s.heap.size ≤ q → (fun q : Nat => s.heap.size ≤ q) q := fun _ h => h
  have hbA : ¬ (fun q : Nat => s.heap.size ≤ q) b0 := Nat.not_le.mpr hbl
  obtain ⟨hK, hP, hD, hS, hT, hM, hLX⟩ := hw0
  refine lv_aload_n hx hb dL_law_1616 rfl (lv_at hl 1 rfl) ?_
  refine lv_aload_n hx hb dL_law_1617 rfl (lv_at hl 0 rfl) ?_
  refine lv_iload hx hb dL_law_1618 (lv_at hl 5 rfl) ?_
  refine lv_iconst (v := 1) hx hb dL_law_1620 (by decide) ?_
  refine lv_iadd hx hb dL_law_1621 ?_
  refine lv_topi (fun v1 e2 => ?_)
  obtain rfl : v1 = (1 : Int32) := e2.trans (by decide)
  refine va_sld hx hb hX hbl hbA hS (by unfold vp_in; decide) dL_law_1622 ?_
  refine lv_aload_n hx hb dL_law_1623 rfl (lv_at hl 3 rfl) ?_
  have hFc := va_free (wc := [((a 0), .inr (7, [.ref (a 1), .ref (a 2), .ref (a 3), .int 0, .int 0, .int 0, .int 0, .int 0, .int 0, .int 0])), ((a 1), .inr (6, [.ref (a 4), .ref (a 5), .ref (a 6), .ref (a 7)])), ((a 2), .inr (4, [.ref (a 8), .ref (a 9), .ref (a 10)])), ((a 3), .inl (cS, 3, .inr (.inr (.inr (.inr (fun _ => none)))))), ((a 4), .inl (cI, 21, .inl (f 0))), ((a 5), .inl (cI, 21, .inl (f 1))), ((a 6), .inl (cI, 21, .inl (f 2))), ((a 7), .inl (cI, 21, .inl (f 3))), ((a 8), .inl (cI, 4, .inl (fun _ => 0))), ((a 9), .inl (cI, 4, .inl (fun _ => 0))), ((a 10), .inl (cI, 4, .inl (f 4))), (o, .inl (cJ, 1, .inr (.inl (fun _ => 0))))]) hD hS hA [0, 1, 2, 3, 4, 5, 6, 7, 8, 9, 10, 18] rfl
  refine va_calli (vx_runSW (As := [.ref (a 0), .int (xs (1 : Int32).toNatClampNeg), .ref o]) (rest := []) ⟨hx, hb, hml, hown, hts⟩ (h_fell l hlt dC dI _ a cI cS f cJ o (fun _ => 0) (xs (1 : Int32).toNatClampNeg)) (vx_cwSW 3 hts gL_law_L_fell rfl rfl rfl (by decide +kernel) ⟨Nat.le_of_ble_eq_true rfl, Nat.le_of_ble_eq_true rfl⟩) ⟨fb_PT, fun U hU hW => ⟨rfl, PT.give hP hK hD hS hA hT [0, 1, 2, 3, 4, 5, 6, 7, 8, 9, 10, 18] [0, 1, 3] rfl rfl rfl rfl hU hW⟩⟩ rfl rfl hl.1 rfl (lv_room (Nat.le_of_ble_eq_true rfl)) dL_law_1624 ⟨(Nat.le_of_ble_eq_true rfl), (Nat.le_of_ble_eq_true rfl)⟩) hS (fun q _ h => hFc q h) hFc (fun r3 u t H locs ht hvm hw4 hB hz1 hk1 hS => ?_)
  obtain ⟨hP, hD⟩ := aft0 [0, 1, 2, 3, 4, 5, 6, 7, 8, 9, 10, 18] [11, 12, 13, 14, 15, 16, 17, 19] hP hD rfl (wr := [((b 0), .inr (10, [.int 0, .ref (b 1), .int 0, .int 0, .ref (b 2), .ref (b 3), .ref (b 4), .ref (b 5), .int 0, .int 0, .ref (b 6)])), ((b 1), .inl (c2, 21, .inr (.inr (.inr (.inr dg))))), ((b 2), .inl (cI, 4, .inl (fun _ => 0))), ((b 3), .inl (cI, 4, .inl (fun _ => 0))), ((b 4), .inl (cI, 4, .inl dl)), ((b 5), .inl (cI, 2, .inl (fun _ => 0))), ((b 6), .inr (3, [.int 0, .ref eD, .int 0])), (o2, .inl (cE, 1, .inr (.inr (.inr (.inl (fun _ => 0))))))]) rfl rfl (by decide) hFc hk1
  have hP : va_P (dC, dI) vwCl ([((b 0), .inr (10, [.int 0, .ref (b 1), .int 0, .int 0, .ref (b 2), .ref (b 3), .ref (b 4), .ref (b 5), .int 0, .int 0, .ref (b 6)])), ((b 1), .inl (c2, 21, .inr (.inr (.inr (.inr dg))))), ((b 2), .inl (cI, 4, .inl (fun _ => 0))), ((b 3), .inl (cI, 4, .inl (fun _ => 0))), ((b 4), .inl (cI, 4, .inl dl)), ((b 5), .inl (cI, 2, .inl (fun _ => 0))), ((b 6), .inr (3, [.int 0, .ref eD, .int 0])), (o2, .inl (cE, 1, .inr (.inr (.inr (.inl (fun _ => 0))))))]) H := hP
  have hD : va_D (fun q : Nat => s.heap.size ≤ q) ([((b 0), .inr (10, [.int 0, .ref (b 1), .int 0, .int 0, .ref (b 2), .ref (b 3), .ref (b 4), .ref (b 5), .int 0, .int 0, .ref (b 6)])), ((b 1), .inl (c2, 21, .inr (.inr (.inr (.inr dg))))), ((b 2), .inl (cI, 4, .inl (fun _ => 0))), ((b 3), .inl (cI, 4, .inl (fun _ => 0))), ((b 4), .inl (cI, 4, .inl dl)), ((b 5), .inl (cI, 2, .inl (fun _ => 0))), ((b 6), .inr (3, [.int 0, .ref eD, .int 0])), (o2, .inl (cE, 1, .inr (.inr (.inr (.inl (fun _ => 0))))))]) := hD
  obtain rfl : r3 = 1 := hw4
  refine lv_istore (lv' := [(6, .int 1), (0, .ref b0), (1, .ref (a 0)), (2, .ref (b 0)), (3, .ref o), (4, .ref o2), (5, .int 0)]) hx hb dL_law_1627 hl (by decide) rfl (fun ls hl => ?_)
  refine lv_aload_n hx hb dL_law_1629 rfl (lv_at hl 3 rfl) ?_
  refine lv_aload_n hx hb dL_law_1630 rfl (lv_at hl 1 rfl) ?_
  refine lv_iload hx hb dL_law_1631 (lv_at hl 6 rfl) ?_
  refine lv_iconst (v := 1) hx hb dL_law_1633 (by decide) ?_
  refine lv_iadd hx hb dL_law_1634 ?_
  refine lv_topi (fun v5 e6 => ?_)
  obtain rfl : v5 = (1 : Int32) := e6.trans (by decide)
  refine va_sld hx hb hX hbl hbA hS (by unfold vp_in; decide) dL_law_1635 ?_
  have hFc := va_free (wc := [((b 0), .inr (10, [.int 0, .ref (b 1), .int 0, .int 0, .ref (b 2), .ref (b 3), .ref (b 4), .ref (b 5), .int 0, .int 0, .ref (b 6)])), ((b 6), .inr (3, [.int 0, .ref eD, .int 0]))]) hD hS hA [0, 6] rfl
  refine va_calli (va_runV (As := [.int (xs (1 : Int32).toNatClampNeg)]) (rest := []) ⟨hx, hb, hml, hown, hts⟩ (m_fell l dC dI _ b eD (xs (1 : Int32).toNatClampNeg)) (cwV 1 hts gL_law_X6_fell rfl rfl rfl (by decide +kernel) ⟨Nat.le_of_ble_eq_true rfl, Nat.le_of_ble_eq_true rfl⟩) ⟨fb_PM, va_recv hK hP (ci := 10) (q0 := 0) rfl rfl, fun U hU hW => ⟨rfl, PM.give hP hK hD hM [0, 6] [] rfl rfl rfl rfl hU hW⟩⟩ rfl rfl hl.1 rfl (lv_room (Nat.le_of_ble_eq_true rfl)) dL_law_1636 ⟨(Nat.le_of_ble_eq_true rfl), (Nat.le_of_ble_eq_true rfl)⟩) hS (fun q _ h => hFc q h) hFc (fun r7 u t H locs ht hvm hw8 hB hz1 hk1 hS => ?_)
  obtain ⟨hP, hD, hK⟩ := aft [0, 6] [] hP hK hD rfl (wr := []) rfl rfl (by decide) hFc hB ht hvm hk1
  have hP : va_P (dC, dI) vwCl ([((b 6), .inr (3, [.int 0, .ref eD, .int 0])), ((b 0), .inr (10, [.int 1, .ref (b 1), .int 0, .int 0, .ref (b 2), .ref (b 3), .ref (b 4), .ref (b 5), .int 0, .int 0, .ref (b 6)]))]) H := hP
  have hD : va_D (fun q : Nat => s.heap.size ≤ q) ([((b 6), .inr (3, [.int 0, .ref eD, .int 0])), ((b 0), .inr (10, [.int 1, .ref (b 1), .int 0, .int 0, .ref (b 2), .ref (b 3), .ref (b 4), .ref (b 5), .int 0, .int 0, .ref (b 6)]))]) := hD
  have hK : va_K (dC, dI) vwCl [(cI, .int), (cS, .object "Snowpalace$Site"), (c2, .array .int), (cJ, .long), (cE, .double)] s := hK
  refine lv_istore (lv' := [(7, .int r7), (6, .int 1), (0, .ref b0), (1, .ref (a 0)), (2, .ref (b 0)), (3, .ref o), (4, .ref o2), (5, .int 0)]) hx hb dL_law_1639 hl (by decide) rfl (fun ls hl => ?_)
  refine lv_aload_n hx hb dL_law_1641 rfl (lv_at hl 4 rfl) ?_
  refine va_calli (va_runV (As := []) (rest := []) ⟨hx, hb, hml, hown, hts⟩ (m_thrown l dC dI _ (b 0) 1 [.ref (b 1), .int 0, .int 0, .ref (b 2), .ref (b 3), .ref (b 4), .ref (b 5), .int 0, .int 0, .ref (b 6)]) (cwV 0 hts gL_law_X6_thrown rfl rfl rfl (by decide +kernel) ⟨Nat.le_of_ble_eq_true rfl, Nat.le_of_ble_eq_true rfl⟩) ⟨fb_PW, va_recv hK hP (ci := 10) (q0 := 1) rfl rfl, fun U hU hW => ⟨rfl, PW.give hP hK hD [1] [] rfl rfl rfl rfl hU hW⟩⟩ rfl rfl hl.1 rfl (lv_room (Nat.le_of_ble_eq_true rfl)) dL_law_1642 ⟨(Nat.le_of_ble_eq_true rfl), (Nat.le_of_ble_eq_true rfl)⟩) hS (fun q _ h => h.elim) (fun q h => h.elim) (fun r9 u t H locs ht hvm hw10 hB hz1 hk1 hS => ?_)
  have hP := kp_P hP hk1
  have hP : va_P (dC, dI) vwCl ([((b 6), .inr (3, [.int 0, .ref eD, .int 0])), ((b 0), .inr (10, [.int 1, .ref (b 1), .int 0, .int 0, .ref (b 2), .ref (b 3), .ref (b 4), .ref (b 5), .int 0, .int 0, .ref (b 6)]))]) H := hP
  have hD : va_D (fun q : Nat => s.heap.size ≤ q) ([((b 6), .inr (3, [.int 0, .ref eD, .int 0])), ((b 0), .inr (10, [.int 1, .ref (b 1), .int 0, .int 0, .ref (b 2), .ref (b 3), .ref (b 4), .ref (b 5), .int 0, .int 0, .ref (b 6)]))]) := hD
  obtain rfl : r9 = 1 := hw10
  refine lv_iload hx hb dL_law_1645 (lv_at hl 1 rfl) ?_
  refine lv_icmp_eq (tgt := 1652) hx hb dL_law_1647 (by decide) (fun _ => ?_) (fun cx => by first | exact absurd (by decide) cx | exact absurd cx (by decide))
  refine lv_iload hx hb dL_law_1652 (lv_at hl 1 rfl) ?_
  refine lv_if_ne (tgt := 1669) hx hb dL_law_1654 (by decide) (fun _ => ?_) (fun cx => by first | exact absurd (by decide) cx | exact absurd cx (by decide))
  refine lv_goto (tgt := 3037) hx hb dL_law_1669 (by decide) ?_
  exact law_exit C0 hS (Nat.le_of_ble_eq_true rfl) (Nat.le_of_ble_eq_true rfl) (lv_sub hl [2, 7] rfl)

set_option maxHeartbeats 4000000 in
set_option maxRecDepth 100000 in
/-- the law, a first call of lastFell -/
theorem case_23 {p : Program} {l : Launch} {e : Env} {s : State} {m : MethodId} {below : List Frame} {meth : Method} {c : Code} (hlt : l.stackTraces = false) {b0 : Nat} {xs : Nat → Int32} (C0 : lw_At p s m meth c b0 6 xs) (dC : Nat → ClassId) (dI : Nat → Nat → Nat) (a : Nat → Nat) (cI cS : ClassId) (f : Nat → Nat → Int32) (b : Nat → Nat) (c2 : ClassId) (dg : Nat → Option Nat) (dl : Nat → Int32) (eD o o2 : Nat) (cJ cE : ClassId) (Ld : List Nat) {H : Heap} {locs : List Loc} (hw0 : LW dC dI s H locs a cI cS f b c2 dg dl eD o o2 cJ cE Ld) {ls : Array Slot} (hl : lv_has ls 9 [(0, .ref b0), (1, .ref (a 0)), (2, .ref (b 0)), (3, .ref o), (4, .ref o2), (5, .int 0)]) :
    W p l e room_1 s m #[Value.ref b0] below meth c H locs 200 2000 (lw_Z below #[Value.ref b0] s) (F0 m 1672 ls []) := by
  obtain ⟨hx, hb, hr, hml, hown, hts0, hX, hbl, hlocks, hgv⟩ := id C0
  have hts : ∀ w ∈ wzL_law, w.before #[Value.ref b0] s = true := fun w h => hts0 w (wzL_law_in w h)
  have hA : ∀ q : Nat, s.heap.size ≤ q → (fun q : Nat => s.heap.size ≤ q) q := fun _ h => h
  have hbA : ¬ (fun q : Nat => s.heap.size ≤ q) b0 := Nat.not_le.mpr hbl
  obtain ⟨hK, hP, hD, hS, hT, hM, hLX⟩ := hw0
  refine lv_aload_n hx hb dL_law_1672 rfl (lv_at hl 1 rfl) ?_
  refine lv_aload_n hx hb dL_law_1673 rfl (lv_at hl 0 rfl) ?_
  refine lv_iload hx hb dL_law_1674 (lv_at hl 5 rfl) ?_
  refine lv_iconst (v := 1) hx hb dL_law_1676 (by decide) ?_
  refine lv_iadd hx hb dL_law_1677 ?_
  refine lv_topi (fun v1 e2 => ?_)
  obtain rfl : v1 = (1 : Int32) := e2.trans (by decide)
  refine va_sld hx hb hX hbl hbA hS (by unfold vp_in; decide) dL_law_1678 ?_
  refine lv_aload_n hx hb dL_law_1679 rfl (lv_at hl 3 rfl) ?_
  have hFc := va_free (wc := [((a 0), .inr (7, [.ref (a 1), .ref (a 2), .ref (a 3), .int 0, .int 0, .int 0, .int 0, .int 0, .int 0, .int 0])), ((a 1), .inr (6, [.ref (a 4), .ref (a 5), .ref (a 6), .ref (a 7)])), ((a 2), .inr (4, [.ref (a 8), .ref (a 9), .ref (a 10)])), ((a 3), .inl (cS, 3, .inr (.inr (.inr (.inr (fun _ => none)))))), ((a 4), .inl (cI, 21, .inl (f 0))), ((a 5), .inl (cI, 21, .inl (f 1))), ((a 6), .inl (cI, 21, .inl (f 2))), ((a 7), .inl (cI, 21, .inl (f 3))), ((a 8), .inl (cI, 4, .inl (fun _ => 0))), ((a 9), .inl (cI, 4, .inl (fun _ => 0))), ((a 10), .inl (cI, 4, .inl (f 4))), (o, .inl (cJ, 1, .inr (.inl (fun _ => 0))))]) hD hS hA [0, 1, 2, 3, 4, 5, 6, 7, 8, 9, 10, 18] rfl
  refine va_calli (vx_runSW (As := [.ref (a 0), .int (xs (1 : Int32).toNatClampNeg), .ref o]) (rest := []) ⟨hx, hb, hml, hown, hts⟩ (h_lastFell l hlt dC dI _ a cI cS f cJ o (fun _ => 0) (xs (1 : Int32).toNatClampNeg)) (vx_cwSW 3 hts gL_law_L_lastFell rfl rfl rfl (by decide +kernel) ⟨Nat.le_of_ble_eq_true rfl, Nat.le_of_ble_eq_true rfl⟩) ⟨fb_PT, fun U hU hW => ⟨rfl, PT.give hP hK hD hS hA hT [0, 1, 2, 3, 4, 5, 6, 7, 8, 9, 10, 18] [0, 1, 3] rfl rfl rfl rfl hU hW⟩⟩ rfl rfl hl.1 rfl (lv_room (Nat.le_of_ble_eq_true rfl)) dL_law_1680 ⟨(Nat.le_of_ble_eq_true rfl), (Nat.le_of_ble_eq_true rfl)⟩) hS (fun q _ h => hFc q h) hFc (fun r3 u t H locs ht hvm hw4 hB hz1 hk1 hS => ?_)
  obtain ⟨hP, hD⟩ := aft0 [0, 1, 2, 3, 4, 5, 6, 7, 8, 9, 10, 18] [11, 12, 13, 14, 15, 16, 17, 19] hP hD rfl (wr := [((b 0), .inr (10, [.int 0, .ref (b 1), .int 0, .int 0, .ref (b 2), .ref (b 3), .ref (b 4), .ref (b 5), .int 0, .int 0, .ref (b 6)])), ((b 1), .inl (c2, 21, .inr (.inr (.inr (.inr dg))))), ((b 2), .inl (cI, 4, .inl (fun _ => 0))), ((b 3), .inl (cI, 4, .inl (fun _ => 0))), ((b 4), .inl (cI, 4, .inl dl)), ((b 5), .inl (cI, 2, .inl (fun _ => 0))), ((b 6), .inr (3, [.int 0, .ref eD, .int 0])), (o2, .inl (cE, 1, .inr (.inr (.inr (.inl (fun _ => 0))))))]) rfl rfl (by decide) hFc hk1
  have hP : va_P (dC, dI) vwCl ([((b 0), .inr (10, [.int 0, .ref (b 1), .int 0, .int 0, .ref (b 2), .ref (b 3), .ref (b 4), .ref (b 5), .int 0, .int 0, .ref (b 6)])), ((b 1), .inl (c2, 21, .inr (.inr (.inr (.inr dg))))), ((b 2), .inl (cI, 4, .inl (fun _ => 0))), ((b 3), .inl (cI, 4, .inl (fun _ => 0))), ((b 4), .inl (cI, 4, .inl dl)), ((b 5), .inl (cI, 2, .inl (fun _ => 0))), ((b 6), .inr (3, [.int 0, .ref eD, .int 0])), (o2, .inl (cE, 1, .inr (.inr (.inr (.inl (fun _ => 0))))))]) H := hP
  have hD : va_D (fun q : Nat => s.heap.size ≤ q) ([((b 0), .inr (10, [.int 0, .ref (b 1), .int 0, .int 0, .ref (b 2), .ref (b 3), .ref (b 4), .ref (b 5), .int 0, .int 0, .ref (b 6)])), ((b 1), .inl (c2, 21, .inr (.inr (.inr (.inr dg))))), ((b 2), .inl (cI, 4, .inl (fun _ => 0))), ((b 3), .inl (cI, 4, .inl (fun _ => 0))), ((b 4), .inl (cI, 4, .inl dl)), ((b 5), .inl (cI, 2, .inl (fun _ => 0))), ((b 6), .inr (3, [.int 0, .ref eD, .int 0])), (o2, .inl (cE, 1, .inr (.inr (.inr (.inl (fun _ => 0))))))]) := hD
  obtain rfl : r3 = 1 := hw4
  refine lv_istore (lv' := [(6, .int 1), (0, .ref b0), (1, .ref (a 0)), (2, .ref (b 0)), (3, .ref o), (4, .ref o2), (5, .int 0)]) hx hb dL_law_1683 hl (by decide) rfl (fun ls hl => ?_)
  refine lv_aload_n hx hb dL_law_1685 rfl (lv_at hl 3 rfl) ?_
  refine lv_aload_n hx hb dL_law_1686 rfl (lv_at hl 1 rfl) ?_
  refine lv_iload hx hb dL_law_1687 (lv_at hl 6 rfl) ?_
  refine lv_iconst (v := 1) hx hb dL_law_1689 (by decide) ?_
  refine lv_iadd hx hb dL_law_1690 ?_
  refine lv_topi (fun v5 e6 => ?_)
  obtain rfl : v5 = (1 : Int32) := e6.trans (by decide)
  refine va_sld hx hb hX hbl hbA hS (by unfold vp_in; decide) dL_law_1691 ?_
  have hFc := va_free (wc := [((b 0), .inr (10, [.int 0, .ref (b 1), .int 0, .int 0, .ref (b 2), .ref (b 3), .ref (b 4), .ref (b 5), .int 0, .int 0, .ref (b 6)])), ((b 6), .inr (3, [.int 0, .ref eD, .int 0]))]) hD hS hA [0, 6] rfl
  refine va_calli (va_runV (As := [.int (xs (1 : Int32).toNatClampNeg)]) (rest := []) ⟨hx, hb, hml, hown, hts⟩ (m_lastFell l dC dI _ b eD (xs (1 : Int32).toNatClampNeg)) (cwV 1 hts gL_law_X6_lastFell rfl rfl rfl (by decide +kernel) ⟨Nat.le_of_ble_eq_true rfl, Nat.le_of_ble_eq_true rfl⟩) ⟨fb_PM, va_recv hK hP (ci := 10) (q0 := 0) rfl rfl, fun U hU hW => ⟨rfl, PM.give hP hK hD hM [0, 6] [] rfl rfl rfl rfl hU hW⟩⟩ rfl rfl hl.1 rfl (lv_room (Nat.le_of_ble_eq_true rfl)) dL_law_1692 ⟨(Nat.le_of_ble_eq_true rfl), (Nat.le_of_ble_eq_true rfl)⟩) hS (fun q _ h => hFc q h) hFc (fun r7 u t H locs ht hvm hw8 hB hz1 hk1 hS => ?_)
  obtain ⟨hP, hD, hK⟩ := aft [0, 6] [] hP hK hD rfl (wr := []) rfl rfl (by decide) hFc hB ht hvm hk1
  have hP : va_P (dC, dI) vwCl ([((b 6), .inr (3, [.int 0, .ref eD, .int 0])), ((b 0), .inr (10, [.int 1, .ref (b 1), .int 0, .int 0, .ref (b 2), .ref (b 3), .ref (b 4), .ref (b 5), .int 0, .int 0, .ref (b 6)]))]) H := hP
  have hD : va_D (fun q : Nat => s.heap.size ≤ q) ([((b 6), .inr (3, [.int 0, .ref eD, .int 0])), ((b 0), .inr (10, [.int 1, .ref (b 1), .int 0, .int 0, .ref (b 2), .ref (b 3), .ref (b 4), .ref (b 5), .int 0, .int 0, .ref (b 6)]))]) := hD
  have hK : va_K (dC, dI) vwCl [(cI, .int), (cS, .object "Snowpalace$Site"), (c2, .array .int), (cJ, .long), (cE, .double)] s := hK
  refine lv_istore (lv' := [(7, .int r7), (6, .int 1), (0, .ref b0), (1, .ref (a 0)), (2, .ref (b 0)), (3, .ref o), (4, .ref o2), (5, .int 0)]) hx hb dL_law_1695 hl (by decide) rfl (fun ls hl => ?_)
  refine lv_aload_n hx hb dL_law_1697 rfl (lv_at hl 4 rfl) ?_
  refine va_calli (va_runV (As := []) (rest := []) ⟨hx, hb, hml, hown, hts⟩ (m_thrown l dC dI _ (b 0) 1 [.ref (b 1), .int 0, .int 0, .ref (b 2), .ref (b 3), .ref (b 4), .ref (b 5), .int 0, .int 0, .ref (b 6)]) (cwV 0 hts gL_law_X6_thrown rfl rfl rfl (by decide +kernel) ⟨Nat.le_of_ble_eq_true rfl, Nat.le_of_ble_eq_true rfl⟩) ⟨fb_PW, va_recv hK hP (ci := 10) (q0 := 1) rfl rfl, fun U hU hW => ⟨rfl, PW.give hP hK hD [1] [] rfl rfl rfl rfl hU hW⟩⟩ rfl rfl hl.1 rfl (lv_room (Nat.le_of_ble_eq_true rfl)) dL_law_1698 ⟨(Nat.le_of_ble_eq_true rfl), (Nat.le_of_ble_eq_true rfl)⟩) hS (fun q _ h => h.elim) (fun q h => h.elim) (fun r9 u t H locs ht hvm hw10 hB hz1 hk1 hS => ?_)
  have hP := kp_P hP hk1
  have hP : va_P (dC, dI) vwCl ([((b 6), .inr (3, [.int 0, .ref eD, .int 0])), ((b 0), .inr (10, [.int 1, .ref (b 1), .int 0, .int 0, .ref (b 2), .ref (b 3), .ref (b 4), .ref (b 5), .int 0, .int 0, .ref (b 6)]))]) H := hP
  have hD : va_D (fun q : Nat => s.heap.size ≤ q) ([((b 6), .inr (3, [.int 0, .ref eD, .int 0])), ((b 0), .inr (10, [.int 1, .ref (b 1), .int 0, .int 0, .ref (b 2), .ref (b 3), .ref (b 4), .ref (b 5), .int 0, .int 0, .ref (b 6)]))]) := hD
  obtain rfl : r9 = 1 := hw10
  refine lv_iload hx hb dL_law_1701 (lv_at hl 1 rfl) ?_
  refine lv_icmp_eq (tgt := 1708) hx hb dL_law_1703 (by decide) (fun _ => ?_) (fun cx => by first | exact absurd (by decide) cx | exact absurd cx (by decide))
  refine lv_iload hx hb dL_law_1708 (lv_at hl 1 rfl) ?_
  refine lv_if_ne (tgt := 1725) hx hb dL_law_1710 (by decide) (fun _ => ?_) (fun cx => by first | exact absurd (by decide) cx | exact absurd cx (by decide))
  refine lv_goto (tgt := 3037) hx hb dL_law_1725 (by decide) ?_
  exact law_exit C0 hS (Nat.le_of_ble_eq_true rfl) (Nat.le_of_ble_eq_true rfl) (lv_sub hl [2, 7] rfl)

set_option maxHeartbeats 4000000 in
set_option maxRecDepth 100000 in
/-- the law, a first call of cover -/
theorem case_24 {p : Program} {l : Launch} {e : Env} {s : State} {m : MethodId} {below : List Frame} {meth : Method} {c : Code} (hlt : l.stackTraces = false) {b0 : Nat} {xs : Nat → Int32} (C0 : lw_At p s m meth c b0 6 xs) (dC : Nat → ClassId) (dI : Nat → Nat → Nat) (a : Nat → Nat) (cI cS : ClassId) (f : Nat → Nat → Int32) (b : Nat → Nat) (c2 : ClassId) (dg : Nat → Option Nat) (dl : Nat → Int32) (eD o o2 : Nat) (cJ cE : ClassId) (Ld : List Nat) {H : Heap} {locs : List Loc} (hw0 : LW dC dI s H locs a cI cS f b c2 dg dl eD o o2 cJ cE Ld) {ls : Array Slot} (hl : lv_has ls 9 [(0, .ref b0), (1, .ref (a 0)), (2, .ref (b 0)), (3, .ref o), (4, .ref o2), (5, .int 0)]) :
    W p l e room_1 s m #[Value.ref b0] below meth c H locs 200 2000 (lw_Z below #[Value.ref b0] s) (F0 m 1728 ls []) := by
  obtain ⟨hx, hb, hr, hml, hown, hts0, hX, hbl, hlocks, hgv⟩ := id C0
  have hts : ∀ w ∈ wzL_law, w.before #[Value.ref b0] s = true := fun w h => hts0 w (wzL_law_in w h)
  have hA : ∀ q : Nat, s.heap.size ≤ q → (fun q : Nat => s.heap.size ≤ q) q := fun _ h => h
  have hbA : ¬ (fun q : Nat => s.heap.size ≤ q) b0 := Nat.not_le.mpr hbl
  obtain ⟨hK, hP, hD, hS, hT, hM, hLX⟩ := hw0
  refine lv_aload_n hx hb dL_law_1728 rfl (lv_at hl 1 rfl) ?_
  refine lv_aload_n hx hb dL_law_1729 rfl (lv_at hl 0 rfl) ?_
  refine lv_iload hx hb dL_law_1730 (lv_at hl 5 rfl) ?_
  refine lv_iconst (v := 1) hx hb dL_law_1732 (by decide) ?_
  refine lv_iadd hx hb dL_law_1733 ?_
  refine lv_topi (fun v1 e2 => ?_)
  obtain rfl : v1 = (1 : Int32) := e2.trans (by decide)
  refine va_sld hx hb hX hbl hbA hS (by unfold vp_in; decide) dL_law_1734 ?_
  refine lv_aload_n hx hb dL_law_1735 rfl (lv_at hl 0 rfl) ?_
  refine lv_iload hx hb dL_law_1736 (lv_at hl 5 rfl) ?_
  refine lv_iconst (v := 2) hx hb dL_law_1738 (by decide) ?_
  refine lv_iadd hx hb dL_law_1739 ?_
  refine lv_topi (fun v3 e4 => ?_)
  obtain rfl : v3 = (2 : Int32) := e4.trans (by decide)
  refine va_sld hx hb hX hbl hbA hS (by unfold vp_in; decide) dL_law_1740 ?_
  refine lv_if_eq (tgt := 1748) hx hb dL_law_1741 (by decide) (fun c5 => ?_) (fun c5 => ?_)
  · skip
    refine lv_iconst (v := 0) hx hb dL_law_1748 (by decide) ?_
    refine lv_aload_n hx hb dL_law_1749 rfl (lv_at hl 3 rfl) ?_
    have hFc := va_free (wc := [((a 0), .inr (7, [.ref (a 1), .ref (a 2), .ref (a 3), .int 0, .int 0, .int 0, .int 0, .int 0, .int 0, .int 0])), ((a 1), .inr (6, [.ref (a 4), .ref (a 5), .ref (a 6), .ref (a 7)])), ((a 2), .inr (4, [.ref (a 8), .ref (a 9), .ref (a 10)])), ((a 3), .inl (cS, 3, .inr (.inr (.inr (.inr (fun _ => none)))))), ((a 4), .inl (cI, 21, .inl (f 0))), ((a 5), .inl (cI, 21, .inl (f 1))), ((a 6), .inl (cI, 21, .inl (f 2))), ((a 7), .inl (cI, 21, .inl (f 3))), ((a 8), .inl (cI, 4, .inl (fun _ => 0))), ((a 9), .inl (cI, 4, .inl (fun _ => 0))), ((a 10), .inl (cI, 4, .inl (f 4))), (o, .inl (cJ, 1, .inr (.inl (fun _ => 0))))]) hD hS hA [0, 1, 2, 3, 4, 5, 6, 7, 8, 9, 10, 18] rfl
    refine va_calli (vx_runSW (As := [.ref (a 0), .int (xs (1 : Int32).toNatClampNeg), .int 0, .ref o]) (rest := []) ⟨hx, hb, hml, hown, hts⟩ (h_cover l hlt dC dI _ a cI cS f cJ o (fun _ => 0) (xs (1 : Int32).toNatClampNeg) 0) (vx_cwSW 4 hts gL_law_L_cover rfl rfl rfl (by decide +kernel) ⟨Nat.le_of_ble_eq_true rfl, Nat.le_of_ble_eq_true rfl⟩) ⟨fb_PT, fun U hU hW => ⟨rfl, PT.give hP hK hD hS hA hT [0, 1, 2, 3, 4, 5, 6, 7, 8, 9, 10, 18] [0, 1, 3] rfl rfl rfl rfl hU hW⟩⟩ rfl rfl hl.1 rfl (lv_room (Nat.le_of_ble_eq_true rfl)) dL_law_1750 ⟨(Nat.le_of_ble_eq_true rfl), (Nat.le_of_ble_eq_true rfl)⟩) hS (fun q _ h => hFc q h) hFc (fun r6 u t H locs ht hvm hw7 hB hz1 hk1 hS => ?_)
    obtain ⟨hP, hD⟩ := aft0 [0, 1, 2, 3, 4, 5, 6, 7, 8, 9, 10, 18] [11, 12, 13, 14, 15, 16, 17, 19] hP hD rfl (wr := [((b 0), .inr (10, [.int 0, .ref (b 1), .int 0, .int 0, .ref (b 2), .ref (b 3), .ref (b 4), .ref (b 5), .int 0, .int 0, .ref (b 6)])), ((b 1), .inl (c2, 21, .inr (.inr (.inr (.inr dg))))), ((b 2), .inl (cI, 4, .inl (fun _ => 0))), ((b 3), .inl (cI, 4, .inl (fun _ => 0))), ((b 4), .inl (cI, 4, .inl dl)), ((b 5), .inl (cI, 2, .inl (fun _ => 0))), ((b 6), .inr (3, [.int 0, .ref eD, .int 0])), (o2, .inl (cE, 1, .inr (.inr (.inr (.inl (fun _ => 0))))))]) rfl rfl (by decide) hFc hk1
    have hP : va_P (dC, dI) vwCl ([((b 0), .inr (10, [.int 0, .ref (b 1), .int 0, .int 0, .ref (b 2), .ref (b 3), .ref (b 4), .ref (b 5), .int 0, .int 0, .ref (b 6)])), ((b 1), .inl (c2, 21, .inr (.inr (.inr (.inr dg))))), ((b 2), .inl (cI, 4, .inl (fun _ => 0))), ((b 3), .inl (cI, 4, .inl (fun _ => 0))), ((b 4), .inl (cI, 4, .inl dl)), ((b 5), .inl (cI, 2, .inl (fun _ => 0))), ((b 6), .inr (3, [.int 0, .ref eD, .int 0])), (o2, .inl (cE, 1, .inr (.inr (.inr (.inl (fun _ => 0))))))]) H := hP
    have hD : va_D (fun q : Nat => s.heap.size ≤ q) ([((b 0), .inr (10, [.int 0, .ref (b 1), .int 0, .int 0, .ref (b 2), .ref (b 3), .ref (b 4), .ref (b 5), .int 0, .int 0, .ref (b 6)])), ((b 1), .inl (c2, 21, .inr (.inr (.inr (.inr dg))))), ((b 2), .inl (cI, 4, .inl (fun _ => 0))), ((b 3), .inl (cI, 4, .inl (fun _ => 0))), ((b 4), .inl (cI, 4, .inl dl)), ((b 5), .inl (cI, 2, .inl (fun _ => 0))), ((b 6), .inr (3, [.int 0, .ref eD, .int 0])), (o2, .inl (cE, 1, .inr (.inr (.inr (.inl (fun _ => 0))))))]) := hD
    obtain rfl : r6 = 1 := hw7
    refine lv_istore (lv' := [(6, .int 1), (0, .ref b0), (1, .ref (a 0)), (2, .ref (b 0)), (3, .ref o), (4, .ref o2), (5, .int 0)]) hx hb dL_law_1753 hl (by decide) rfl (fun ls hl => ?_)
    refine lv_aload_n hx hb dL_law_1755 rfl (lv_at hl 3 rfl) ?_
    refine lv_aload_n hx hb dL_law_1756 rfl (lv_at hl 1 rfl) ?_
    refine lv_iload hx hb dL_law_1757 (lv_at hl 6 rfl) ?_
    refine lv_iconst (v := 1) hx hb dL_law_1759 (by decide) ?_
    refine lv_iadd hx hb dL_law_1760 ?_
    refine lv_topi (fun v8 e9 => ?_)
    obtain rfl : v8 = (1 : Int32) := e9.trans (by decide)
    refine va_sld hx hb hX hbl hbA hS (by unfold vp_in; decide) dL_law_1761 ?_
    refine lv_aload_n hx hb dL_law_1762 rfl (lv_at hl 1 rfl) ?_
    refine lv_iload hx hb dL_law_1763 (lv_at hl 6 rfl) ?_
    refine lv_iconst (v := 2) hx hb dL_law_1765 (by decide) ?_
    refine lv_iadd hx hb dL_law_1766 ?_
    refine lv_topi (fun v10 e11 => ?_)
    obtain rfl : v10 = (2 : Int32) := e11.trans (by decide)
    refine va_sld hx hb hX hbl hbA hS (by unfold vp_in; decide) dL_law_1767 ?_
    refine lv_if_eq (tgt := 1775) hx hb dL_law_1768 (by decide) (fun _ => ?_) (fun cx => absurd c5 cx)
    refine lv_iconst (v := 0) hx hb dL_law_1775 (by decide) ?_
    have hFc := va_free (wc := [((b 0), .inr (10, [.int 0, .ref (b 1), .int 0, .int 0, .ref (b 2), .ref (b 3), .ref (b 4), .ref (b 5), .int 0, .int 0, .ref (b 6)])), ((b 6), .inr (3, [.int 0, .ref eD, .int 0]))]) hD hS hA [0, 6] rfl
    refine va_calli (va_runV (As := [.int (xs (1 : Int32).toNatClampNeg), .int 0]) (rest := []) ⟨hx, hb, hml, hown, hts⟩ (m_cover l dC dI _ b eD (xs (1 : Int32).toNatClampNeg) 0) (cwV 2 hts gL_law_X6_cover rfl rfl rfl (by decide +kernel) ⟨Nat.le_of_ble_eq_true rfl, Nat.le_of_ble_eq_true rfl⟩) ⟨fb_PM, va_recv hK hP (ci := 10) (q0 := 0) rfl rfl, fun U hU hW => ⟨rfl, PM.give hP hK hD hM [0, 6] [] rfl rfl rfl rfl hU hW⟩⟩ rfl rfl hl.1 rfl (lv_room (Nat.le_of_ble_eq_true rfl)) dL_law_1776 ⟨(Nat.le_of_ble_eq_true rfl), (Nat.le_of_ble_eq_true rfl)⟩) hS (fun q _ h => hFc q h) hFc (fun r12 u t H locs ht hvm hw13 hB hz1 hk1 hS => ?_)
    obtain ⟨hP, hD, hK⟩ := aft [0, 6] [] hP hK hD rfl (wr := []) rfl rfl (by decide) hFc hB ht hvm hk1
    have hP : va_P (dC, dI) vwCl ([((b 6), .inr (3, [.int 0, .ref eD, .int 0])), ((b 0), .inr (10, [.int 1, .ref (b 1), .int 0, .int 0, .ref (b 2), .ref (b 3), .ref (b 4), .ref (b 5), .int 0, .int 0, .ref (b 6)]))]) H := hP
    have hD : va_D (fun q : Nat => s.heap.size ≤ q) ([((b 6), .inr (3, [.int 0, .ref eD, .int 0])), ((b 0), .inr (10, [.int 1, .ref (b 1), .int 0, .int 0, .ref (b 2), .ref (b 3), .ref (b 4), .ref (b 5), .int 0, .int 0, .ref (b 6)]))]) := hD
    have hK : va_K (dC, dI) vwCl [(cI, .int), (cS, .object "Snowpalace$Site"), (c2, .array .int), (cJ, .long), (cE, .double)] s := hK
    refine lv_istore (lv' := [(7, .int r12), (6, .int 1), (0, .ref b0), (1, .ref (a 0)), (2, .ref (b 0)), (3, .ref o), (4, .ref o2), (5, .int 0)]) hx hb dL_law_1779 hl (by decide) rfl (fun ls hl => ?_)
    refine lv_aload_n hx hb dL_law_1781 rfl (lv_at hl 4 rfl) ?_
    refine va_calli (va_runV (As := []) (rest := []) ⟨hx, hb, hml, hown, hts⟩ (m_thrown l dC dI _ (b 0) 1 [.ref (b 1), .int 0, .int 0, .ref (b 2), .ref (b 3), .ref (b 4), .ref (b 5), .int 0, .int 0, .ref (b 6)]) (cwV 0 hts gL_law_X6_thrown rfl rfl rfl (by decide +kernel) ⟨Nat.le_of_ble_eq_true rfl, Nat.le_of_ble_eq_true rfl⟩) ⟨fb_PW, va_recv hK hP (ci := 10) (q0 := 1) rfl rfl, fun U hU hW => ⟨rfl, PW.give hP hK hD [1] [] rfl rfl rfl rfl hU hW⟩⟩ rfl rfl hl.1 rfl (lv_room (Nat.le_of_ble_eq_true rfl)) dL_law_1782 ⟨(Nat.le_of_ble_eq_true rfl), (Nat.le_of_ble_eq_true rfl)⟩) hS (fun q _ h => h.elim) (fun q h => h.elim) (fun r14 u t H locs ht hvm hw15 hB hz1 hk1 hS => ?_)
    have hP := kp_P hP hk1
    have hP : va_P (dC, dI) vwCl ([((b 6), .inr (3, [.int 0, .ref eD, .int 0])), ((b 0), .inr (10, [.int 1, .ref (b 1), .int 0, .int 0, .ref (b 2), .ref (b 3), .ref (b 4), .ref (b 5), .int 0, .int 0, .ref (b 6)]))]) H := hP
    have hD : va_D (fun q : Nat => s.heap.size ≤ q) ([((b 6), .inr (3, [.int 0, .ref eD, .int 0])), ((b 0), .inr (10, [.int 1, .ref (b 1), .int 0, .int 0, .ref (b 2), .ref (b 3), .ref (b 4), .ref (b 5), .int 0, .int 0, .ref (b 6)]))]) := hD
    obtain rfl : r14 = 1 := hw15
    refine lv_iload hx hb dL_law_1785 (lv_at hl 1 rfl) ?_
    refine lv_icmp_eq (tgt := 1792) hx hb dL_law_1787 (by decide) (fun _ => ?_) (fun cx => by first | exact absurd (by decide) cx | exact absurd cx (by decide))
    refine lv_iload hx hb dL_law_1792 (lv_at hl 1 rfl) ?_
    refine lv_if_ne (tgt := 1816) hx hb dL_law_1794 (by decide) (fun _ => ?_) (fun cx => by first | exact absurd (by decide) cx | exact absurd cx (by decide))
    refine lv_goto (tgt := 3037) hx hb dL_law_1816 (by decide) ?_
    exact law_exit C0 hS (Nat.le_of_ble_eq_true rfl) (Nat.le_of_ble_eq_true rfl) (lv_sub hl [2, 7] rfl)
  · skip
    refine lv_iconst (v := 1) hx hb dL_law_1744 (by decide) ?_
    refine lv_goto (tgt := 1749) hx hb dL_law_1745 (by decide) ?_
    refine lv_aload_n hx hb dL_law_1749 rfl (lv_at hl 3 rfl) ?_
    have hFc := va_free (wc := [((a 0), .inr (7, [.ref (a 1), .ref (a 2), .ref (a 3), .int 0, .int 0, .int 0, .int 0, .int 0, .int 0, .int 0])), ((a 1), .inr (6, [.ref (a 4), .ref (a 5), .ref (a 6), .ref (a 7)])), ((a 2), .inr (4, [.ref (a 8), .ref (a 9), .ref (a 10)])), ((a 3), .inl (cS, 3, .inr (.inr (.inr (.inr (fun _ => none)))))), ((a 4), .inl (cI, 21, .inl (f 0))), ((a 5), .inl (cI, 21, .inl (f 1))), ((a 6), .inl (cI, 21, .inl (f 2))), ((a 7), .inl (cI, 21, .inl (f 3))), ((a 8), .inl (cI, 4, .inl (fun _ => 0))), ((a 9), .inl (cI, 4, .inl (fun _ => 0))), ((a 10), .inl (cI, 4, .inl (f 4))), (o, .inl (cJ, 1, .inr (.inl (fun _ => 0))))]) hD hS hA [0, 1, 2, 3, 4, 5, 6, 7, 8, 9, 10, 18] rfl
    refine va_calli (vx_runSW (As := [.ref (a 0), .int (xs (1 : Int32).toNatClampNeg), .int 1, .ref o]) (rest := []) ⟨hx, hb, hml, hown, hts⟩ (h_cover l hlt dC dI _ a cI cS f cJ o (fun _ => 0) (xs (1 : Int32).toNatClampNeg) 1) (vx_cwSW 4 hts gL_law_L_cover rfl rfl rfl (by decide +kernel) ⟨Nat.le_of_ble_eq_true rfl, Nat.le_of_ble_eq_true rfl⟩) ⟨fb_PT, fun U hU hW => ⟨rfl, PT.give hP hK hD hS hA hT [0, 1, 2, 3, 4, 5, 6, 7, 8, 9, 10, 18] [0, 1, 3] rfl rfl rfl rfl hU hW⟩⟩ rfl rfl hl.1 rfl (lv_room (Nat.le_of_ble_eq_true rfl)) dL_law_1750 ⟨(Nat.le_of_ble_eq_true rfl), (Nat.le_of_ble_eq_true rfl)⟩) hS (fun q _ h => hFc q h) hFc (fun r16 u t H locs ht hvm hw17 hB hz1 hk1 hS => ?_)
    obtain ⟨hP, hD⟩ := aft0 [0, 1, 2, 3, 4, 5, 6, 7, 8, 9, 10, 18] [11, 12, 13, 14, 15, 16, 17, 19] hP hD rfl (wr := [((b 0), .inr (10, [.int 0, .ref (b 1), .int 0, .int 0, .ref (b 2), .ref (b 3), .ref (b 4), .ref (b 5), .int 0, .int 0, .ref (b 6)])), ((b 1), .inl (c2, 21, .inr (.inr (.inr (.inr dg))))), ((b 2), .inl (cI, 4, .inl (fun _ => 0))), ((b 3), .inl (cI, 4, .inl (fun _ => 0))), ((b 4), .inl (cI, 4, .inl dl)), ((b 5), .inl (cI, 2, .inl (fun _ => 0))), ((b 6), .inr (3, [.int 0, .ref eD, .int 0])), (o2, .inl (cE, 1, .inr (.inr (.inr (.inl (fun _ => 0))))))]) rfl rfl (by decide) hFc hk1
    have hP : va_P (dC, dI) vwCl ([((b 0), .inr (10, [.int 0, .ref (b 1), .int 0, .int 0, .ref (b 2), .ref (b 3), .ref (b 4), .ref (b 5), .int 0, .int 0, .ref (b 6)])), ((b 1), .inl (c2, 21, .inr (.inr (.inr (.inr dg))))), ((b 2), .inl (cI, 4, .inl (fun _ => 0))), ((b 3), .inl (cI, 4, .inl (fun _ => 0))), ((b 4), .inl (cI, 4, .inl dl)), ((b 5), .inl (cI, 2, .inl (fun _ => 0))), ((b 6), .inr (3, [.int 0, .ref eD, .int 0])), (o2, .inl (cE, 1, .inr (.inr (.inr (.inl (fun _ => 0))))))]) H := hP
    have hD : va_D (fun q : Nat => s.heap.size ≤ q) ([((b 0), .inr (10, [.int 0, .ref (b 1), .int 0, .int 0, .ref (b 2), .ref (b 3), .ref (b 4), .ref (b 5), .int 0, .int 0, .ref (b 6)])), ((b 1), .inl (c2, 21, .inr (.inr (.inr (.inr dg))))), ((b 2), .inl (cI, 4, .inl (fun _ => 0))), ((b 3), .inl (cI, 4, .inl (fun _ => 0))), ((b 4), .inl (cI, 4, .inl dl)), ((b 5), .inl (cI, 2, .inl (fun _ => 0))), ((b 6), .inr (3, [.int 0, .ref eD, .int 0])), (o2, .inl (cE, 1, .inr (.inr (.inr (.inl (fun _ => 0))))))]) := hD
    obtain rfl : r16 = 1 := hw17
    refine lv_istore (lv' := [(6, .int 1), (0, .ref b0), (1, .ref (a 0)), (2, .ref (b 0)), (3, .ref o), (4, .ref o2), (5, .int 0)]) hx hb dL_law_1753 hl (by decide) rfl (fun ls hl => ?_)
    refine lv_aload_n hx hb dL_law_1755 rfl (lv_at hl 3 rfl) ?_
    refine lv_aload_n hx hb dL_law_1756 rfl (lv_at hl 1 rfl) ?_
    refine lv_iload hx hb dL_law_1757 (lv_at hl 6 rfl) ?_
    refine lv_iconst (v := 1) hx hb dL_law_1759 (by decide) ?_
    refine lv_iadd hx hb dL_law_1760 ?_
    refine lv_topi (fun v18 e19 => ?_)
    obtain rfl : v18 = (1 : Int32) := e19.trans (by decide)
    refine va_sld hx hb hX hbl hbA hS (by unfold vp_in; decide) dL_law_1761 ?_
    refine lv_aload_n hx hb dL_law_1762 rfl (lv_at hl 1 rfl) ?_
    refine lv_iload hx hb dL_law_1763 (lv_at hl 6 rfl) ?_
    refine lv_iconst (v := 2) hx hb dL_law_1765 (by decide) ?_
    refine lv_iadd hx hb dL_law_1766 ?_
    refine lv_topi (fun v20 e21 => ?_)
    obtain rfl : v20 = (2 : Int32) := e21.trans (by decide)
    refine va_sld hx hb hX hbl hbA hS (by unfold vp_in; decide) dL_law_1767 ?_
    refine lv_if_eq (tgt := 1775) hx hb dL_law_1768 (by decide) (fun cx => absurd cx c5) (fun _ => ?_)
    refine lv_iconst (v := 1) hx hb dL_law_1771 (by decide) ?_
    refine lv_goto (tgt := 1776) hx hb dL_law_1772 (by decide) ?_
    have hFc := va_free (wc := [((b 0), .inr (10, [.int 0, .ref (b 1), .int 0, .int 0, .ref (b 2), .ref (b 3), .ref (b 4), .ref (b 5), .int 0, .int 0, .ref (b 6)])), ((b 6), .inr (3, [.int 0, .ref eD, .int 0]))]) hD hS hA [0, 6] rfl
    refine va_calli (va_runV (As := [.int (xs (1 : Int32).toNatClampNeg), .int 1]) (rest := []) ⟨hx, hb, hml, hown, hts⟩ (m_cover l dC dI _ b eD (xs (1 : Int32).toNatClampNeg) 1) (cwV 2 hts gL_law_X6_cover rfl rfl rfl (by decide +kernel) ⟨Nat.le_of_ble_eq_true rfl, Nat.le_of_ble_eq_true rfl⟩) ⟨fb_PM, va_recv hK hP (ci := 10) (q0 := 0) rfl rfl, fun U hU hW => ⟨rfl, PM.give hP hK hD hM [0, 6] [] rfl rfl rfl rfl hU hW⟩⟩ rfl rfl hl.1 rfl (lv_room (Nat.le_of_ble_eq_true rfl)) dL_law_1776 ⟨(Nat.le_of_ble_eq_true rfl), (Nat.le_of_ble_eq_true rfl)⟩) hS (fun q _ h => hFc q h) hFc (fun r22 u t H locs ht hvm hw23 hB hz1 hk1 hS => ?_)
    obtain ⟨hP, hD, hK⟩ := aft [0, 6] [] hP hK hD rfl (wr := []) rfl rfl (by decide) hFc hB ht hvm hk1
    have hP : va_P (dC, dI) vwCl ([((b 6), .inr (3, [.int 0, .ref eD, .int 0])), ((b 0), .inr (10, [.int 1, .ref (b 1), .int 0, .int 0, .ref (b 2), .ref (b 3), .ref (b 4), .ref (b 5), .int 0, .int 0, .ref (b 6)]))]) H := hP
    have hD : va_D (fun q : Nat => s.heap.size ≤ q) ([((b 6), .inr (3, [.int 0, .ref eD, .int 0])), ((b 0), .inr (10, [.int 1, .ref (b 1), .int 0, .int 0, .ref (b 2), .ref (b 3), .ref (b 4), .ref (b 5), .int 0, .int 0, .ref (b 6)]))]) := hD
    have hK : va_K (dC, dI) vwCl [(cI, .int), (cS, .object "Snowpalace$Site"), (c2, .array .int), (cJ, .long), (cE, .double)] s := hK
    refine lv_istore (lv' := [(7, .int r22), (6, .int 1), (0, .ref b0), (1, .ref (a 0)), (2, .ref (b 0)), (3, .ref o), (4, .ref o2), (5, .int 0)]) hx hb dL_law_1779 hl (by decide) rfl (fun ls hl => ?_)
    refine lv_aload_n hx hb dL_law_1781 rfl (lv_at hl 4 rfl) ?_
    refine va_calli (va_runV (As := []) (rest := []) ⟨hx, hb, hml, hown, hts⟩ (m_thrown l dC dI _ (b 0) 1 [.ref (b 1), .int 0, .int 0, .ref (b 2), .ref (b 3), .ref (b 4), .ref (b 5), .int 0, .int 0, .ref (b 6)]) (cwV 0 hts gL_law_X6_thrown rfl rfl rfl (by decide +kernel) ⟨Nat.le_of_ble_eq_true rfl, Nat.le_of_ble_eq_true rfl⟩) ⟨fb_PW, va_recv hK hP (ci := 10) (q0 := 1) rfl rfl, fun U hU hW => ⟨rfl, PW.give hP hK hD [1] [] rfl rfl rfl rfl hU hW⟩⟩ rfl rfl hl.1 rfl (lv_room (Nat.le_of_ble_eq_true rfl)) dL_law_1782 ⟨(Nat.le_of_ble_eq_true rfl), (Nat.le_of_ble_eq_true rfl)⟩) hS (fun q _ h => h.elim) (fun q h => h.elim) (fun r24 u t H locs ht hvm hw25 hB hz1 hk1 hS => ?_)
    have hP := kp_P hP hk1
    have hP : va_P (dC, dI) vwCl ([((b 6), .inr (3, [.int 0, .ref eD, .int 0])), ((b 0), .inr (10, [.int 1, .ref (b 1), .int 0, .int 0, .ref (b 2), .ref (b 3), .ref (b 4), .ref (b 5), .int 0, .int 0, .ref (b 6)]))]) H := hP
    have hD : va_D (fun q : Nat => s.heap.size ≤ q) ([((b 6), .inr (3, [.int 0, .ref eD, .int 0])), ((b 0), .inr (10, [.int 1, .ref (b 1), .int 0, .int 0, .ref (b 2), .ref (b 3), .ref (b 4), .ref (b 5), .int 0, .int 0, .ref (b 6)]))]) := hD
    obtain rfl : r24 = 1 := hw25
    refine lv_iload hx hb dL_law_1785 (lv_at hl 1 rfl) ?_
    refine lv_icmp_eq (tgt := 1792) hx hb dL_law_1787 (by decide) (fun _ => ?_) (fun cx => by first | exact absurd (by decide) cx | exact absurd cx (by decide))
    refine lv_iload hx hb dL_law_1792 (lv_at hl 1 rfl) ?_
    refine lv_if_ne (tgt := 1816) hx hb dL_law_1794 (by decide) (fun _ => ?_) (fun cx => by first | exact absurd (by decide) cx | exact absurd cx (by decide))
    refine lv_goto (tgt := 3037) hx hb dL_law_1816 (by decide) ?_
    exact law_exit C0 hS (Nat.le_of_ble_eq_true rfl) (Nat.le_of_ble_eq_true rfl) (lv_sub hl [2, 7] rfl)

set_option maxHeartbeats 4000000 in
set_option maxRecDepth 100000 in
/-- the law, a first call of lamp -/
theorem case_25 {p : Program} {l : Launch} {e : Env} {s : State} {m : MethodId} {below : List Frame} {meth : Method} {c : Code} (hlt : l.stackTraces = false) {b0 : Nat} {xs : Nat → Int32} (C0 : lw_At p s m meth c b0 6 xs) (dC : Nat → ClassId) (dI : Nat → Nat → Nat) (a : Nat → Nat) (cI cS : ClassId) (f : Nat → Nat → Int32) (b : Nat → Nat) (c2 : ClassId) (dg : Nat → Option Nat) (dl : Nat → Int32) (eD o o2 : Nat) (cJ cE : ClassId) (Ld : List Nat) {H : Heap} {locs : List Loc} (hw0 : LW dC dI s H locs a cI cS f b c2 dg dl eD o o2 cJ cE Ld) {ls : Array Slot} (hl : lv_has ls 9 [(0, .ref b0), (1, .ref (a 0)), (2, .ref (b 0)), (3, .ref o), (4, .ref o2), (5, .int 0)]) :
    W p l e room_1 s m #[Value.ref b0] below meth c H locs 200 2000 (lw_Z below #[Value.ref b0] s) (F0 m 1819 ls []) := by
  obtain ⟨hx, hb, hr, hml, hown, hts0, hX, hbl, hlocks, hgv⟩ := id C0
  have hts : ∀ w ∈ wzL_law, w.before #[Value.ref b0] s = true := fun w h => hts0 w (wzL_law_in w h)
  have hA : ∀ q : Nat, s.heap.size ≤ q → (fun q : Nat => s.heap.size ≤ q) q := fun _ h => h
  have hbA : ¬ (fun q : Nat => s.heap.size ≤ q) b0 := Nat.not_le.mpr hbl
  obtain ⟨hK, hP, hD, hS, hT, hM, hLX⟩ := hw0
  refine lv_aload_n hx hb dL_law_1819 rfl (lv_at hl 1 rfl) ?_
  refine lv_aload_n hx hb dL_law_1820 rfl (lv_at hl 0 rfl) ?_
  refine lv_iload hx hb dL_law_1821 (lv_at hl 5 rfl) ?_
  refine lv_iconst (v := 1) hx hb dL_law_1823 (by decide) ?_
  refine lv_iadd hx hb dL_law_1824 ?_
  refine lv_topi (fun v1 e2 => ?_)
  obtain rfl : v1 = (1 : Int32) := e2.trans (by decide)
  refine va_sld hx hb hX hbl hbA hS (by unfold vp_in; decide) dL_law_1825 ?_
  refine lv_aload_n hx hb dL_law_1826 rfl (lv_at hl 0 rfl) ?_
  refine lv_iload hx hb dL_law_1827 (lv_at hl 5 rfl) ?_
  refine lv_iconst (v := 2) hx hb dL_law_1829 (by decide) ?_
  refine lv_iadd hx hb dL_law_1830 ?_
  refine lv_topi (fun v3 e4 => ?_)
  obtain rfl : v3 = (2 : Int32) := e4.trans (by decide)
  refine va_sld hx hb hX hbl hbA hS (by unfold vp_in; decide) dL_law_1831 ?_
  refine lv_aload_n hx hb dL_law_1832 rfl (lv_at hl 0 rfl) ?_
  refine lv_iload hx hb dL_law_1833 (lv_at hl 5 rfl) ?_
  refine lv_iconst (v := 3) hx hb dL_law_1835 (by decide) ?_
  refine lv_iadd hx hb dL_law_1836 ?_
  refine lv_topi (fun v5 e6 => ?_)
  obtain rfl : v5 = (3 : Int32) := e6.trans (by decide)
  refine va_sld hx hb hX hbl hbA hS (by unfold vp_in; decide) dL_law_1837 ?_
  refine lv_aload_n hx hb dL_law_1838 rfl (lv_at hl 0 rfl) ?_
  refine lv_iload hx hb dL_law_1839 (lv_at hl 5 rfl) ?_
  refine lv_iconst (v := 4) hx hb dL_law_1841 (by decide) ?_
  refine lv_iadd hx hb dL_law_1842 ?_
  refine lv_topi (fun v7 e8 => ?_)
  obtain rfl : v7 = (4 : Int32) := e8.trans (by decide)
  refine va_sld hx hb hX hbl hbA hS (by unfold vp_in; decide) dL_law_1843 ?_
  refine lv_if_eq (tgt := 1851) hx hb dL_law_1844 (by decide) (fun c9 => ?_) (fun c9 => ?_)
  · skip
    refine lv_iconst (v := 0) hx hb dL_law_1851 (by decide) ?_
    refine lv_aload_n hx hb dL_law_1852 rfl (lv_at hl 3 rfl) ?_
    have hFc := va_free (wc := [((a 0), .inr (7, [.ref (a 1), .ref (a 2), .ref (a 3), .int 0, .int 0, .int 0, .int 0, .int 0, .int 0, .int 0])), ((a 1), .inr (6, [.ref (a 4), .ref (a 5), .ref (a 6), .ref (a 7)])), ((a 2), .inr (4, [.ref (a 8), .ref (a 9), .ref (a 10)])), ((a 3), .inl (cS, 3, .inr (.inr (.inr (.inr (fun _ => none)))))), ((a 4), .inl (cI, 21, .inl (f 0))), ((a 5), .inl (cI, 21, .inl (f 1))), ((a 6), .inl (cI, 21, .inl (f 2))), ((a 7), .inl (cI, 21, .inl (f 3))), ((a 8), .inl (cI, 4, .inl (fun _ => 0))), ((a 9), .inl (cI, 4, .inl (fun _ => 0))), ((a 10), .inl (cI, 4, .inl (f 4))), (o, .inl (cJ, 1, .inr (.inl (fun _ => 0))))]) hD hS hA [0, 1, 2, 3, 4, 5, 6, 7, 8, 9, 10, 18] rfl
    refine va_calli (vx_runSW (As := [.ref (a 0), .int (xs (1 : Int32).toNatClampNeg), .int (xs (2 : Int32).toNatClampNeg), .int (xs (3 : Int32).toNatClampNeg), .int 0, .ref o]) (rest := []) ⟨hx, hb, hml, hown, hts⟩ (h_lamp l hlt dC dI _ a cI cS f cJ o (fun _ => 0) (xs (1 : Int32).toNatClampNeg) (xs (2 : Int32).toNatClampNeg) (xs (3 : Int32).toNatClampNeg) 0) (vx_cwSW 6 hts gL_law_L_lamp rfl rfl rfl (by decide +kernel) ⟨Nat.le_of_ble_eq_true rfl, Nat.le_of_ble_eq_true rfl⟩) ⟨fb_PT, fun U hU hW => ⟨rfl, PT.give hP hK hD hS hA hT [0, 1, 2, 3, 4, 5, 6, 7, 8, 9, 10, 18] [0, 1, 3] rfl rfl rfl rfl hU hW⟩⟩ rfl rfl hl.1 rfl (lv_room (Nat.le_of_ble_eq_true rfl)) dL_law_1853 ⟨(Nat.le_of_ble_eq_true rfl), (Nat.le_of_ble_eq_true rfl)⟩) hS (fun q _ h => hFc q h) hFc (fun r10 u t H locs ht hvm hw11 hB hz1 hk1 hS => ?_)
    obtain ⟨hP, hD⟩ := aft0 [0, 1, 2, 3, 4, 5, 6, 7, 8, 9, 10, 18] [11, 12, 13, 14, 15, 16, 17, 19] hP hD rfl (wr := [((b 0), .inr (10, [.int 0, .ref (b 1), .int 0, .int 0, .ref (b 2), .ref (b 3), .ref (b 4), .ref (b 5), .int 0, .int 0, .ref (b 6)])), ((b 1), .inl (c2, 21, .inr (.inr (.inr (.inr dg))))), ((b 2), .inl (cI, 4, .inl (fun _ => 0))), ((b 3), .inl (cI, 4, .inl (fun _ => 0))), ((b 4), .inl (cI, 4, .inl dl)), ((b 5), .inl (cI, 2, .inl (fun _ => 0))), ((b 6), .inr (3, [.int 0, .ref eD, .int 0])), (o2, .inl (cE, 1, .inr (.inr (.inr (.inl (fun _ => 0))))))]) rfl rfl (by decide) hFc hk1
    have hP : va_P (dC, dI) vwCl ([((b 0), .inr (10, [.int 0, .ref (b 1), .int 0, .int 0, .ref (b 2), .ref (b 3), .ref (b 4), .ref (b 5), .int 0, .int 0, .ref (b 6)])), ((b 1), .inl (c2, 21, .inr (.inr (.inr (.inr dg))))), ((b 2), .inl (cI, 4, .inl (fun _ => 0))), ((b 3), .inl (cI, 4, .inl (fun _ => 0))), ((b 4), .inl (cI, 4, .inl dl)), ((b 5), .inl (cI, 2, .inl (fun _ => 0))), ((b 6), .inr (3, [.int 0, .ref eD, .int 0])), (o2, .inl (cE, 1, .inr (.inr (.inr (.inl (fun _ => 0))))))]) H := hP
    have hD : va_D (fun q : Nat => s.heap.size ≤ q) ([((b 0), .inr (10, [.int 0, .ref (b 1), .int 0, .int 0, .ref (b 2), .ref (b 3), .ref (b 4), .ref (b 5), .int 0, .int 0, .ref (b 6)])), ((b 1), .inl (c2, 21, .inr (.inr (.inr (.inr dg))))), ((b 2), .inl (cI, 4, .inl (fun _ => 0))), ((b 3), .inl (cI, 4, .inl (fun _ => 0))), ((b 4), .inl (cI, 4, .inl dl)), ((b 5), .inl (cI, 2, .inl (fun _ => 0))), ((b 6), .inr (3, [.int 0, .ref eD, .int 0])), (o2, .inl (cE, 1, .inr (.inr (.inr (.inl (fun _ => 0))))))]) := hD
    obtain rfl : r10 = 1 := hw11
    refine lv_istore (lv' := [(6, .int 1), (0, .ref b0), (1, .ref (a 0)), (2, .ref (b 0)), (3, .ref o), (4, .ref o2), (5, .int 0)]) hx hb dL_law_1856 hl (by decide) rfl (fun ls hl => ?_)
    refine lv_aload_n hx hb dL_law_1858 rfl (lv_at hl 3 rfl) ?_
    refine lv_aload_n hx hb dL_law_1859 rfl (lv_at hl 1 rfl) ?_
    refine lv_iload hx hb dL_law_1860 (lv_at hl 6 rfl) ?_
    refine lv_iconst (v := 1) hx hb dL_law_1862 (by decide) ?_
    refine lv_iadd hx hb dL_law_1863 ?_
    refine lv_topi (fun v12 e13 => ?_)
    obtain rfl : v12 = (1 : Int32) := e13.trans (by decide)
    refine va_sld hx hb hX hbl hbA hS (by unfold vp_in; decide) dL_law_1864 ?_
    refine lv_aload_n hx hb dL_law_1865 rfl (lv_at hl 1 rfl) ?_
    refine lv_iload hx hb dL_law_1866 (lv_at hl 6 rfl) ?_
    refine lv_iconst (v := 2) hx hb dL_law_1868 (by decide) ?_
    refine lv_iadd hx hb dL_law_1869 ?_
    refine lv_topi (fun v14 e15 => ?_)
    obtain rfl : v14 = (2 : Int32) := e15.trans (by decide)
    refine va_sld hx hb hX hbl hbA hS (by unfold vp_in; decide) dL_law_1870 ?_
    refine lv_aload_n hx hb dL_law_1871 rfl (lv_at hl 1 rfl) ?_
    refine lv_iload hx hb dL_law_1872 (lv_at hl 6 rfl) ?_
    refine lv_iconst (v := 3) hx hb dL_law_1874 (by decide) ?_
    refine lv_iadd hx hb dL_law_1875 ?_
    refine lv_topi (fun v16 e17 => ?_)
    obtain rfl : v16 = (3 : Int32) := e17.trans (by decide)
    refine va_sld hx hb hX hbl hbA hS (by unfold vp_in; decide) dL_law_1876 ?_
    refine lv_aload_n hx hb dL_law_1877 rfl (lv_at hl 1 rfl) ?_
    refine lv_iload hx hb dL_law_1878 (lv_at hl 6 rfl) ?_
    refine lv_iconst (v := 4) hx hb dL_law_1880 (by decide) ?_
    refine lv_iadd hx hb dL_law_1881 ?_
    refine lv_topi (fun v18 e19 => ?_)
    obtain rfl : v18 = (4 : Int32) := e19.trans (by decide)
    refine va_sld hx hb hX hbl hbA hS (by unfold vp_in; decide) dL_law_1882 ?_
    refine lv_if_eq (tgt := 1890) hx hb dL_law_1883 (by decide) (fun _ => ?_) (fun cx => absurd c9 cx)
    refine lv_iconst (v := 0) hx hb dL_law_1890 (by decide) ?_
    have hFc := va_free (wc := [((b 0), .inr (10, [.int 0, .ref (b 1), .int 0, .int 0, .ref (b 2), .ref (b 3), .ref (b 4), .ref (b 5), .int 0, .int 0, .ref (b 6)])), ((b 6), .inr (3, [.int 0, .ref eD, .int 0]))]) hD hS hA [0, 6] rfl
    refine va_calli (va_runV (As := [.int (xs (1 : Int32).toNatClampNeg), .int (xs (2 : Int32).toNatClampNeg), .int (xs (3 : Int32).toNatClampNeg), .int 0]) (rest := []) ⟨hx, hb, hml, hown, hts⟩ (m_lamp l dC dI _ b eD (xs (1 : Int32).toNatClampNeg) (xs (2 : Int32).toNatClampNeg) (xs (3 : Int32).toNatClampNeg) 0) (cwV 4 hts gL_law_X6_lamp rfl rfl rfl (by decide +kernel) ⟨Nat.le_of_ble_eq_true rfl, Nat.le_of_ble_eq_true rfl⟩) ⟨fb_PM, va_recv hK hP (ci := 10) (q0 := 0) rfl rfl, fun U hU hW => ⟨rfl, PM.give hP hK hD hM [0, 6] [] rfl rfl rfl rfl hU hW⟩⟩ rfl rfl hl.1 rfl (lv_room (Nat.le_of_ble_eq_true rfl)) dL_law_1891 ⟨(Nat.le_of_ble_eq_true rfl), (Nat.le_of_ble_eq_true rfl)⟩) hS (fun q _ h => hFc q h) hFc (fun r20 u t H locs ht hvm hw21 hB hz1 hk1 hS => ?_)
    obtain ⟨hP, hD, hK⟩ := aft [0, 6] [] hP hK hD rfl (wr := []) rfl rfl (by decide) hFc hB ht hvm hk1
    have hP : va_P (dC, dI) vwCl ([((b 6), .inr (3, [.int 0, .ref eD, .int 0])), ((b 0), .inr (10, [.int 1, .ref (b 1), .int 0, .int 0, .ref (b 2), .ref (b 3), .ref (b 4), .ref (b 5), .int 0, .int 0, .ref (b 6)]))]) H := hP
    have hD : va_D (fun q : Nat => s.heap.size ≤ q) ([((b 6), .inr (3, [.int 0, .ref eD, .int 0])), ((b 0), .inr (10, [.int 1, .ref (b 1), .int 0, .int 0, .ref (b 2), .ref (b 3), .ref (b 4), .ref (b 5), .int 0, .int 0, .ref (b 6)]))]) := hD
    have hK : va_K (dC, dI) vwCl [(cI, .int), (cS, .object "Snowpalace$Site"), (c2, .array .int), (cJ, .long), (cE, .double)] s := hK
    refine lv_istore (lv' := [(7, .int r20), (6, .int 1), (0, .ref b0), (1, .ref (a 0)), (2, .ref (b 0)), (3, .ref o), (4, .ref o2), (5, .int 0)]) hx hb dL_law_1894 hl (by decide) rfl (fun ls hl => ?_)
    refine lv_aload_n hx hb dL_law_1896 rfl (lv_at hl 4 rfl) ?_
    refine va_calli (va_runV (As := []) (rest := []) ⟨hx, hb, hml, hown, hts⟩ (m_thrown l dC dI _ (b 0) 1 [.ref (b 1), .int 0, .int 0, .ref (b 2), .ref (b 3), .ref (b 4), .ref (b 5), .int 0, .int 0, .ref (b 6)]) (cwV 0 hts gL_law_X6_thrown rfl rfl rfl (by decide +kernel) ⟨Nat.le_of_ble_eq_true rfl, Nat.le_of_ble_eq_true rfl⟩) ⟨fb_PW, va_recv hK hP (ci := 10) (q0 := 1) rfl rfl, fun U hU hW => ⟨rfl, PW.give hP hK hD [1] [] rfl rfl rfl rfl hU hW⟩⟩ rfl rfl hl.1 rfl (lv_room (Nat.le_of_ble_eq_true rfl)) dL_law_1897 ⟨(Nat.le_of_ble_eq_true rfl), (Nat.le_of_ble_eq_true rfl)⟩) hS (fun q _ h => h.elim) (fun q h => h.elim) (fun r22 u t H locs ht hvm hw23 hB hz1 hk1 hS => ?_)
    have hP := kp_P hP hk1
    have hP : va_P (dC, dI) vwCl ([((b 6), .inr (3, [.int 0, .ref eD, .int 0])), ((b 0), .inr (10, [.int 1, .ref (b 1), .int 0, .int 0, .ref (b 2), .ref (b 3), .ref (b 4), .ref (b 5), .int 0, .int 0, .ref (b 6)]))]) H := hP
    have hD : va_D (fun q : Nat => s.heap.size ≤ q) ([((b 6), .inr (3, [.int 0, .ref eD, .int 0])), ((b 0), .inr (10, [.int 1, .ref (b 1), .int 0, .int 0, .ref (b 2), .ref (b 3), .ref (b 4), .ref (b 5), .int 0, .int 0, .ref (b 6)]))]) := hD
    obtain rfl : r22 = 1 := hw23
    refine lv_iload hx hb dL_law_1900 (lv_at hl 1 rfl) ?_
    refine lv_icmp_eq (tgt := 1907) hx hb dL_law_1902 (by decide) (fun _ => ?_) (fun cx => by first | exact absurd (by decide) cx | exact absurd cx (by decide))
    refine lv_iload hx hb dL_law_1907 (lv_at hl 1 rfl) ?_
    refine lv_if_ne (tgt := 1931) hx hb dL_law_1909 (by decide) (fun _ => ?_) (fun cx => by first | exact absurd (by decide) cx | exact absurd cx (by decide))
    refine lv_goto (tgt := 3037) hx hb dL_law_1931 (by decide) ?_
    exact law_exit C0 hS (Nat.le_of_ble_eq_true rfl) (Nat.le_of_ble_eq_true rfl) (lv_sub hl [2, 7] rfl)
  · skip
    refine lv_iconst (v := 1) hx hb dL_law_1847 (by decide) ?_
    refine lv_goto (tgt := 1852) hx hb dL_law_1848 (by decide) ?_
    refine lv_aload_n hx hb dL_law_1852 rfl (lv_at hl 3 rfl) ?_
    have hFc := va_free (wc := [((a 0), .inr (7, [.ref (a 1), .ref (a 2), .ref (a 3), .int 0, .int 0, .int 0, .int 0, .int 0, .int 0, .int 0])), ((a 1), .inr (6, [.ref (a 4), .ref (a 5), .ref (a 6), .ref (a 7)])), ((a 2), .inr (4, [.ref (a 8), .ref (a 9), .ref (a 10)])), ((a 3), .inl (cS, 3, .inr (.inr (.inr (.inr (fun _ => none)))))), ((a 4), .inl (cI, 21, .inl (f 0))), ((a 5), .inl (cI, 21, .inl (f 1))), ((a 6), .inl (cI, 21, .inl (f 2))), ((a 7), .inl (cI, 21, .inl (f 3))), ((a 8), .inl (cI, 4, .inl (fun _ => 0))), ((a 9), .inl (cI, 4, .inl (fun _ => 0))), ((a 10), .inl (cI, 4, .inl (f 4))), (o, .inl (cJ, 1, .inr (.inl (fun _ => 0))))]) hD hS hA [0, 1, 2, 3, 4, 5, 6, 7, 8, 9, 10, 18] rfl
    refine va_calli (vx_runSW (As := [.ref (a 0), .int (xs (1 : Int32).toNatClampNeg), .int (xs (2 : Int32).toNatClampNeg), .int (xs (3 : Int32).toNatClampNeg), .int 1, .ref o]) (rest := []) ⟨hx, hb, hml, hown, hts⟩ (h_lamp l hlt dC dI _ a cI cS f cJ o (fun _ => 0) (xs (1 : Int32).toNatClampNeg) (xs (2 : Int32).toNatClampNeg) (xs (3 : Int32).toNatClampNeg) 1) (vx_cwSW 6 hts gL_law_L_lamp rfl rfl rfl (by decide +kernel) ⟨Nat.le_of_ble_eq_true rfl, Nat.le_of_ble_eq_true rfl⟩) ⟨fb_PT, fun U hU hW => ⟨rfl, PT.give hP hK hD hS hA hT [0, 1, 2, 3, 4, 5, 6, 7, 8, 9, 10, 18] [0, 1, 3] rfl rfl rfl rfl hU hW⟩⟩ rfl rfl hl.1 rfl (lv_room (Nat.le_of_ble_eq_true rfl)) dL_law_1853 ⟨(Nat.le_of_ble_eq_true rfl), (Nat.le_of_ble_eq_true rfl)⟩) hS (fun q _ h => hFc q h) hFc (fun r24 u t H locs ht hvm hw25 hB hz1 hk1 hS => ?_)
    obtain ⟨hP, hD⟩ := aft0 [0, 1, 2, 3, 4, 5, 6, 7, 8, 9, 10, 18] [11, 12, 13, 14, 15, 16, 17, 19] hP hD rfl (wr := [((b 0), .inr (10, [.int 0, .ref (b 1), .int 0, .int 0, .ref (b 2), .ref (b 3), .ref (b 4), .ref (b 5), .int 0, .int 0, .ref (b 6)])), ((b 1), .inl (c2, 21, .inr (.inr (.inr (.inr dg))))), ((b 2), .inl (cI, 4, .inl (fun _ => 0))), ((b 3), .inl (cI, 4, .inl (fun _ => 0))), ((b 4), .inl (cI, 4, .inl dl)), ((b 5), .inl (cI, 2, .inl (fun _ => 0))), ((b 6), .inr (3, [.int 0, .ref eD, .int 0])), (o2, .inl (cE, 1, .inr (.inr (.inr (.inl (fun _ => 0))))))]) rfl rfl (by decide) hFc hk1
    have hP : va_P (dC, dI) vwCl ([((b 0), .inr (10, [.int 0, .ref (b 1), .int 0, .int 0, .ref (b 2), .ref (b 3), .ref (b 4), .ref (b 5), .int 0, .int 0, .ref (b 6)])), ((b 1), .inl (c2, 21, .inr (.inr (.inr (.inr dg))))), ((b 2), .inl (cI, 4, .inl (fun _ => 0))), ((b 3), .inl (cI, 4, .inl (fun _ => 0))), ((b 4), .inl (cI, 4, .inl dl)), ((b 5), .inl (cI, 2, .inl (fun _ => 0))), ((b 6), .inr (3, [.int 0, .ref eD, .int 0])), (o2, .inl (cE, 1, .inr (.inr (.inr (.inl (fun _ => 0))))))]) H := hP
    have hD : va_D (fun q : Nat => s.heap.size ≤ q) ([((b 0), .inr (10, [.int 0, .ref (b 1), .int 0, .int 0, .ref (b 2), .ref (b 3), .ref (b 4), .ref (b 5), .int 0, .int 0, .ref (b 6)])), ((b 1), .inl (c2, 21, .inr (.inr (.inr (.inr dg))))), ((b 2), .inl (cI, 4, .inl (fun _ => 0))), ((b 3), .inl (cI, 4, .inl (fun _ => 0))), ((b 4), .inl (cI, 4, .inl dl)), ((b 5), .inl (cI, 2, .inl (fun _ => 0))), ((b 6), .inr (3, [.int 0, .ref eD, .int 0])), (o2, .inl (cE, 1, .inr (.inr (.inr (.inl (fun _ => 0))))))]) := hD
    obtain rfl : r24 = 1 := hw25
    refine lv_istore (lv' := [(6, .int 1), (0, .ref b0), (1, .ref (a 0)), (2, .ref (b 0)), (3, .ref o), (4, .ref o2), (5, .int 0)]) hx hb dL_law_1856 hl (by decide) rfl (fun ls hl => ?_)
    refine lv_aload_n hx hb dL_law_1858 rfl (lv_at hl 3 rfl) ?_
    refine lv_aload_n hx hb dL_law_1859 rfl (lv_at hl 1 rfl) ?_
    refine lv_iload hx hb dL_law_1860 (lv_at hl 6 rfl) ?_
    refine lv_iconst (v := 1) hx hb dL_law_1862 (by decide) ?_
    refine lv_iadd hx hb dL_law_1863 ?_
    refine lv_topi (fun v26 e27 => ?_)
    obtain rfl : v26 = (1 : Int32) := e27.trans (by decide)
    refine va_sld hx hb hX hbl hbA hS (by unfold vp_in; decide) dL_law_1864 ?_
    refine lv_aload_n hx hb dL_law_1865 rfl (lv_at hl 1 rfl) ?_
    refine lv_iload hx hb dL_law_1866 (lv_at hl 6 rfl) ?_
    refine lv_iconst (v := 2) hx hb dL_law_1868 (by decide) ?_
    refine lv_iadd hx hb dL_law_1869 ?_
    refine lv_topi (fun v28 e29 => ?_)
    obtain rfl : v28 = (2 : Int32) := e29.trans (by decide)
    refine va_sld hx hb hX hbl hbA hS (by unfold vp_in; decide) dL_law_1870 ?_
    refine lv_aload_n hx hb dL_law_1871 rfl (lv_at hl 1 rfl) ?_
    refine lv_iload hx hb dL_law_1872 (lv_at hl 6 rfl) ?_
    refine lv_iconst (v := 3) hx hb dL_law_1874 (by decide) ?_
    refine lv_iadd hx hb dL_law_1875 ?_
    refine lv_topi (fun v30 e31 => ?_)
    obtain rfl : v30 = (3 : Int32) := e31.trans (by decide)
    refine va_sld hx hb hX hbl hbA hS (by unfold vp_in; decide) dL_law_1876 ?_
    refine lv_aload_n hx hb dL_law_1877 rfl (lv_at hl 1 rfl) ?_
    refine lv_iload hx hb dL_law_1878 (lv_at hl 6 rfl) ?_
    refine lv_iconst (v := 4) hx hb dL_law_1880 (by decide) ?_
    refine lv_iadd hx hb dL_law_1881 ?_
    refine lv_topi (fun v32 e33 => ?_)
    obtain rfl : v32 = (4 : Int32) := e33.trans (by decide)
    refine va_sld hx hb hX hbl hbA hS (by unfold vp_in; decide) dL_law_1882 ?_
    refine lv_if_eq (tgt := 1890) hx hb dL_law_1883 (by decide) (fun cx => absurd cx c9) (fun _ => ?_)
    refine lv_iconst (v := 1) hx hb dL_law_1886 (by decide) ?_
    refine lv_goto (tgt := 1891) hx hb dL_law_1887 (by decide) ?_
    have hFc := va_free (wc := [((b 0), .inr (10, [.int 0, .ref (b 1), .int 0, .int 0, .ref (b 2), .ref (b 3), .ref (b 4), .ref (b 5), .int 0, .int 0, .ref (b 6)])), ((b 6), .inr (3, [.int 0, .ref eD, .int 0]))]) hD hS hA [0, 6] rfl
    refine va_calli (va_runV (As := [.int (xs (1 : Int32).toNatClampNeg), .int (xs (2 : Int32).toNatClampNeg), .int (xs (3 : Int32).toNatClampNeg), .int 1]) (rest := []) ⟨hx, hb, hml, hown, hts⟩ (m_lamp l dC dI _ b eD (xs (1 : Int32).toNatClampNeg) (xs (2 : Int32).toNatClampNeg) (xs (3 : Int32).toNatClampNeg) 1) (cwV 4 hts gL_law_X6_lamp rfl rfl rfl (by decide +kernel) ⟨Nat.le_of_ble_eq_true rfl, Nat.le_of_ble_eq_true rfl⟩) ⟨fb_PM, va_recv hK hP (ci := 10) (q0 := 0) rfl rfl, fun U hU hW => ⟨rfl, PM.give hP hK hD hM [0, 6] [] rfl rfl rfl rfl hU hW⟩⟩ rfl rfl hl.1 rfl (lv_room (Nat.le_of_ble_eq_true rfl)) dL_law_1891 ⟨(Nat.le_of_ble_eq_true rfl), (Nat.le_of_ble_eq_true rfl)⟩) hS (fun q _ h => hFc q h) hFc (fun r34 u t H locs ht hvm hw35 hB hz1 hk1 hS => ?_)
    obtain ⟨hP, hD, hK⟩ := aft [0, 6] [] hP hK hD rfl (wr := []) rfl rfl (by decide) hFc hB ht hvm hk1
    have hP : va_P (dC, dI) vwCl ([((b 6), .inr (3, [.int 0, .ref eD, .int 0])), ((b 0), .inr (10, [.int 1, .ref (b 1), .int 0, .int 0, .ref (b 2), .ref (b 3), .ref (b 4), .ref (b 5), .int 0, .int 0, .ref (b 6)]))]) H := hP
    have hD : va_D (fun q : Nat => s.heap.size ≤ q) ([((b 6), .inr (3, [.int 0, .ref eD, .int 0])), ((b 0), .inr (10, [.int 1, .ref (b 1), .int 0, .int 0, .ref (b 2), .ref (b 3), .ref (b 4), .ref (b 5), .int 0, .int 0, .ref (b 6)]))]) := hD
    have hK : va_K (dC, dI) vwCl [(cI, .int), (cS, .object "Snowpalace$Site"), (c2, .array .int), (cJ, .long), (cE, .double)] s := hK
    refine lv_istore (lv' := [(7, .int r34), (6, .int 1), (0, .ref b0), (1, .ref (a 0)), (2, .ref (b 0)), (3, .ref o), (4, .ref o2), (5, .int 0)]) hx hb dL_law_1894 hl (by decide) rfl (fun ls hl => ?_)
    refine lv_aload_n hx hb dL_law_1896 rfl (lv_at hl 4 rfl) ?_
    refine va_calli (va_runV (As := []) (rest := []) ⟨hx, hb, hml, hown, hts⟩ (m_thrown l dC dI _ (b 0) 1 [.ref (b 1), .int 0, .int 0, .ref (b 2), .ref (b 3), .ref (b 4), .ref (b 5), .int 0, .int 0, .ref (b 6)]) (cwV 0 hts gL_law_X6_thrown rfl rfl rfl (by decide +kernel) ⟨Nat.le_of_ble_eq_true rfl, Nat.le_of_ble_eq_true rfl⟩) ⟨fb_PW, va_recv hK hP (ci := 10) (q0 := 1) rfl rfl, fun U hU hW => ⟨rfl, PW.give hP hK hD [1] [] rfl rfl rfl rfl hU hW⟩⟩ rfl rfl hl.1 rfl (lv_room (Nat.le_of_ble_eq_true rfl)) dL_law_1897 ⟨(Nat.le_of_ble_eq_true rfl), (Nat.le_of_ble_eq_true rfl)⟩) hS (fun q _ h => h.elim) (fun q h => h.elim) (fun r36 u t H locs ht hvm hw37 hB hz1 hk1 hS => ?_)
    have hP := kp_P hP hk1
    have hP : va_P (dC, dI) vwCl ([((b 6), .inr (3, [.int 0, .ref eD, .int 0])), ((b 0), .inr (10, [.int 1, .ref (b 1), .int 0, .int 0, .ref (b 2), .ref (b 3), .ref (b 4), .ref (b 5), .int 0, .int 0, .ref (b 6)]))]) H := hP
    have hD : va_D (fun q : Nat => s.heap.size ≤ q) ([((b 6), .inr (3, [.int 0, .ref eD, .int 0])), ((b 0), .inr (10, [.int 1, .ref (b 1), .int 0, .int 0, .ref (b 2), .ref (b 3), .ref (b 4), .ref (b 5), .int 0, .int 0, .ref (b 6)]))]) := hD
    obtain rfl : r36 = 1 := hw37
    refine lv_iload hx hb dL_law_1900 (lv_at hl 1 rfl) ?_
    refine lv_icmp_eq (tgt := 1907) hx hb dL_law_1902 (by decide) (fun _ => ?_) (fun cx => by first | exact absurd (by decide) cx | exact absurd cx (by decide))
    refine lv_iload hx hb dL_law_1907 (lv_at hl 1 rfl) ?_
    refine lv_if_ne (tgt := 1931) hx hb dL_law_1909 (by decide) (fun _ => ?_) (fun cx => by first | exact absurd (by decide) cx | exact absurd cx (by decide))
    refine lv_goto (tgt := 3037) hx hb dL_law_1931 (by decide) ?_
    exact law_exit C0 hS (Nat.le_of_ble_eq_true rfl) (Nat.le_of_ble_eq_true rfl) (lv_sub hl [2, 7] rfl)

