set_option maxHeartbeats 4000000 in
set_option maxRecDepth 100000 in
/-- the law, a first call of put -/
theorem case_14 {p : Program} {l : Launch} {e : Env} {s : State} {m : MethodId} {below : List Frame} {meth : Method} {c : Code} (hlt : l.stackTraces = false) {b0 : Nat} {xs : Nat → Int32} (C0 : lw_At p s m meth c b0 6 xs) (dC : Nat → ClassId) (dI : Nat → Nat → Nat) (a : Nat → Nat) (cI cS : ClassId) (f : Nat → Nat → Int32) (b : Nat → Nat) (c2 : ClassId) (dg : Nat → Option Nat) (dl : Nat → Int32) (eD o o2 : Nat) (cJ cE : ClassId) (Ld : List Nat) {H : Heap} {locs : List Loc} (hw0 : LW dC dI s H locs a cI cS f b c2 dg dl eD o o2 cJ cE Ld) {ls : Array Slot} (hl : lv_has ls 9 [(0, .ref b0), (1, .ref (a 0)), (2, .ref (b 0)), (3, .ref o), (4, .ref o2), (5, .int 0)]) :
    W p l e room_1 s m #[Value.ref b0] below meth c H locs 200 2000 (lw_Z below #[Value.ref b0] s) (F0 m 955 ls []) := by
  obtain ⟨hx, hb, hr, hml, hown, hts0, hX, hbl, hlocks, hgv⟩ := id C0
  have hts : ∀ w ∈ wzL_law, w.before #[Value.ref b0] s = true := fun w h => hts0 w (wzL_law_in w h)
  have hA : ∀ q : Nat, s.heap.size ≤ q → (fun q : Nat => s.heap.size ≤ q) q := fun _ h => h
  have hbA : ¬ (fun q : Nat => s.heap.size ≤ q) b0 := Nat.not_le.mpr hbl
  obtain ⟨hK, hP, hD, hS, hT, hM, hLX⟩ := hw0
  refine lv_aload_n hx hb dL_law_955 rfl (lv_at hl 1 rfl) ?_
  refine lv_aload_n hx hb dL_law_956 rfl (lv_at hl 0 rfl) ?_
  refine lv_iload hx hb dL_law_957 (lv_at hl 5 rfl) ?_
  refine lv_iconst (v := 1) hx hb dL_law_959 (by decide) ?_
  refine lv_iadd hx hb dL_law_960 ?_
  refine lv_topi (fun v1 e2 => ?_)
  obtain rfl : v1 = (1 : Int32) := e2.trans (by decide)
  refine va_sld hx hb hX hbl hbA hS (by unfold vp_in; decide) dL_law_961 ?_
  refine lv_aload_n hx hb dL_law_962 rfl (lv_at hl 0 rfl) ?_
  refine lv_iload hx hb dL_law_963 (lv_at hl 5 rfl) ?_
  refine lv_iconst (v := 2) hx hb dL_law_965 (by decide) ?_
  refine lv_iadd hx hb dL_law_966 ?_
  refine lv_topi (fun v3 e4 => ?_)
  obtain rfl : v3 = (2 : Int32) := e4.trans (by decide)
  refine va_sld hx hb hX hbl hbA hS (by unfold vp_in; decide) dL_law_967 ?_
  refine lv_aload_n hx hb dL_law_968 rfl (lv_at hl 0 rfl) ?_
  refine lv_iload hx hb dL_law_969 (lv_at hl 5 rfl) ?_
  refine lv_iconst (v := 3) hx hb dL_law_971 (by decide) ?_
  refine lv_iadd hx hb dL_law_972 ?_
  refine lv_topi (fun v5 e6 => ?_)
  obtain rfl : v5 = (3 : Int32) := e6.trans (by decide)
  refine va_sld hx hb hX hbl hbA hS (by unfold vp_in; decide) dL_law_973 ?_
  refine lv_aload_n hx hb dL_law_974 rfl (lv_at hl 0 rfl) ?_
  refine lv_iload hx hb dL_law_975 (lv_at hl 5 rfl) ?_
  refine lv_iconst (v := 4) hx hb dL_law_977 (by decide) ?_
  refine lv_iadd hx hb dL_law_978 ?_
  refine lv_topi (fun v7 e8 => ?_)
  obtain rfl : v7 = (4 : Int32) := e8.trans (by decide)
  refine va_sld hx hb hX hbl hbA hS (by unfold vp_in; decide) dL_law_979 ?_
  refine lv_i2c hx hb dL_law_980 rfl ?_
  refine lv_aload_n hx hb dL_law_981 rfl (lv_at hl 3 rfl) ?_
  have hFc := va_free (wc := [((a 0), .inr (7, [.ref (a 1), .ref (a 2), .ref (a 3), .int 0, .int 0, .int 0, .int 0, .int 0, .int 0, .int 0])), ((a 1), .inr (6, [.ref (a 4), .ref (a 5), .ref (a 6), .ref (a 7)])), ((a 2), .inr (4, [.ref (a 8), .ref (a 9), .ref (a 10)])), ((a 3), .inl (cS, 3, .inr (.inr (.inr (.inr (fun _ => none)))))), ((a 4), .inl (cI, 21, .inl (f 0))), ((a 5), .inl (cI, 21, .inl (f 1))), ((a 6), .inl (cI, 21, .inl (f 2))), ((a 7), .inl (cI, 21, .inl (f 3))), ((a 8), .inl (cI, 4, .inl (fun _ => 0))), ((a 9), .inl (cI, 4, .inl (fun _ => 0))), ((a 10), .inl (cI, 4, .inl (f 4))), (o, .inl (cJ, 1, .inr (.inl (fun _ => 0))))]) hD hS hA [0, 1, 2, 3, 4, 5, 6, 7, 8, 9, 10, 18] rfl
  refine va_calli (vx_runSW (As := [.ref (a 0), .int (xs (1 : Int32).toNatClampNeg), .int (xs (2 : Int32).toNatClampNeg), .int (xs (3 : Int32).toNatClampNeg), .int (((xs (4 : Int32).toNatClampNeg).toUInt32 % 65536).toInt32), .ref o]) (rest := []) ⟨hx, hb, hml, hown, hts⟩ (h_put l hlt dC dI _ a cI cS f cJ o (fun _ => 0) (xs (1 : Int32).toNatClampNeg) (xs (2 : Int32).toNatClampNeg) (xs (3 : Int32).toNatClampNeg) (((xs (4 : Int32).toNatClampNeg).toUInt32 % 65536).toInt32)) (vx_cwSW 6 hts gL_law_L_put rfl rfl rfl (by decide +kernel) ⟨Nat.le_of_ble_eq_true rfl, Nat.le_of_ble_eq_true rfl⟩) ⟨fb_PT, fun U hU hW => ⟨rfl, PT.give hP hK hD hS hA hT [0, 1, 2, 3, 4, 5, 6, 7, 8, 9, 10, 18] [0, 1, 3] rfl rfl rfl rfl hU hW⟩⟩ rfl rfl hl.1 rfl (lv_room (Nat.le_of_ble_eq_true rfl)) dL_law_982 ⟨(Nat.le_of_ble_eq_true rfl), (Nat.le_of_ble_eq_true rfl)⟩) hS (fun q _ h => hFc q h) hFc (fun r9 u t H locs ht hvm hw10 hB hz1 hk1 hS => ?_)
  obtain ⟨hP, hD⟩ := aft0 [0, 1, 2, 3, 4, 5, 6, 7, 8, 9, 10, 18] [11, 12, 13, 14, 15, 16, 17, 19] hP hD rfl (wr := [((b 0), .inr (10, [.int 0, .ref (b 1), .int 0, .int 0, .ref (b 2), .ref (b 3), .ref (b 4), .ref (b 5), .int 0, .int 0, .ref (b 6)])), ((b 1), .inl (c2, 21, .inr (.inr (.inr (.inr dg))))), ((b 2), .inl (cI, 4, .inl (fun _ => 0))), ((b 3), .inl (cI, 4, .inl (fun _ => 0))), ((b 4), .inl (cI, 4, .inl dl)), ((b 5), .inl (cI, 2, .inl (fun _ => 0))), ((b 6), .inr (3, [.int 0, .ref eD, .int 0])), (o2, .inl (cE, 1, .inr (.inr (.inr (.inl (fun _ => 0))))))]) rfl rfl (by decide) hFc hk1
  have hP : va_P (dC, dI) vwCl ([((b 0), .inr (10, [.int 0, .ref (b 1), .int 0, .int 0, .ref (b 2), .ref (b 3), .ref (b 4), .ref (b 5), .int 0, .int 0, .ref (b 6)])), ((b 1), .inl (c2, 21, .inr (.inr (.inr (.inr dg))))), ((b 2), .inl (cI, 4, .inl (fun _ => 0))), ((b 3), .inl (cI, 4, .inl (fun _ => 0))), ((b 4), .inl (cI, 4, .inl dl)), ((b 5), .inl (cI, 2, .inl (fun _ => 0))), ((b 6), .inr (3, [.int 0, .ref eD, .int 0])), (o2, .inl (cE, 1, .inr (.inr (.inr (.inl (fun _ => 0))))))]) H := hP
  have hD : va_D (fun q : Nat => s.heap.size ≤ q) ([((b 0), .inr (10, [.int 0, .ref (b 1), .int 0, .int 0, .ref (b 2), .ref (b 3), .ref (b 4), .ref (b 5), .int 0, .int 0, .ref (b 6)])), ((b 1), .inl (c2, 21, .inr (.inr (.inr (.inr dg))))), ((b 2), .inl (cI, 4, .inl (fun _ => 0))), ((b 3), .inl (cI, 4, .inl (fun _ => 0))), ((b 4), .inl (cI, 4, .inl dl)), ((b 5), .inl (cI, 2, .inl (fun _ => 0))), ((b 6), .inr (3, [.int 0, .ref eD, .int 0])), (o2, .inl (cE, 1, .inr (.inr (.inr (.inl (fun _ => 0))))))]) := hD
  obtain rfl : r9 = 1 := hw10
  refine lv_istore (lv' := [(6, .int 1), (0, .ref b0), (1, .ref (a 0)), (2, .ref (b 0)), (3, .ref o), (4, .ref o2), (5, .int 0)]) hx hb dL_law_985 hl (by decide) rfl (fun ls hl => ?_)
  refine lv_aload_n hx hb dL_law_987 rfl (lv_at hl 3 rfl) ?_
  refine lv_aload_n hx hb dL_law_988 rfl (lv_at hl 1 rfl) ?_
  refine lv_iload hx hb dL_law_989 (lv_at hl 6 rfl) ?_
  refine lv_iconst (v := 1) hx hb dL_law_991 (by decide) ?_
  refine lv_iadd hx hb dL_law_992 ?_
  refine lv_topi (fun v11 e12 => ?_)
  obtain rfl : v11 = (1 : Int32) := e12.trans (by decide)
  refine va_sld hx hb hX hbl hbA hS (by unfold vp_in; decide) dL_law_993 ?_
  refine lv_aload_n hx hb dL_law_994 rfl (lv_at hl 1 rfl) ?_
  refine lv_iload hx hb dL_law_995 (lv_at hl 6 rfl) ?_
  refine lv_iconst (v := 2) hx hb dL_law_997 (by decide) ?_
  refine lv_iadd hx hb dL_law_998 ?_
  refine lv_topi (fun v13 e14 => ?_)
  obtain rfl : v13 = (2 : Int32) := e14.trans (by decide)
  refine va_sld hx hb hX hbl hbA hS (by unfold vp_in; decide) dL_law_999 ?_
  refine lv_aload_n hx hb dL_law_1000 rfl (lv_at hl 1 rfl) ?_
  refine lv_iload hx hb dL_law_1001 (lv_at hl 6 rfl) ?_
  refine lv_iconst (v := 3) hx hb dL_law_1003 (by decide) ?_
  refine lv_iadd hx hb dL_law_1004 ?_
  refine lv_topi (fun v15 e16 => ?_)
  obtain rfl : v15 = (3 : Int32) := e16.trans (by decide)
  refine va_sld hx hb hX hbl hbA hS (by unfold vp_in; decide) dL_law_1005 ?_
  refine lv_aload_n hx hb dL_law_1006 rfl (lv_at hl 1 rfl) ?_
  refine lv_iload hx hb dL_law_1007 (lv_at hl 6 rfl) ?_
  refine lv_iconst (v := 4) hx hb dL_law_1009 (by decide) ?_
  refine lv_iadd hx hb dL_law_1010 ?_
  refine lv_topi (fun v17 e18 => ?_)
  obtain rfl : v17 = (4 : Int32) := e18.trans (by decide)
  refine va_sld hx hb hX hbl hbA hS (by unfold vp_in; decide) dL_law_1011 ?_
  refine lv_i2c hx hb dL_law_1012 rfl ?_
  have hFc := va_free (wc := [((b 0), .inr (10, [.int 0, .ref (b 1), .int 0, .int 0, .ref (b 2), .ref (b 3), .ref (b 4), .ref (b 5), .int 0, .int 0, .ref (b 6)])), ((b 6), .inr (3, [.int 0, .ref eD, .int 0]))]) hD hS hA [0, 6] rfl
  refine va_calli (va_runV (As := [.int (xs (1 : Int32).toNatClampNeg), .int (xs (2 : Int32).toNatClampNeg), .int (xs (3 : Int32).toNatClampNeg), .int (((xs (4 : Int32).toNatClampNeg).toUInt32 % 65536).toInt32)]) (rest := []) ⟨hx, hb, hml, hown, hts⟩ (m_put l dC dI _ b eD (xs (1 : Int32).toNatClampNeg) (xs (2 : Int32).toNatClampNeg) (xs (3 : Int32).toNatClampNeg) (((xs (4 : Int32).toNatClampNeg).toUInt32 % 65536).toInt32)) (cwV 4 hts gL_law_X6_put rfl rfl rfl (by decide +kernel) ⟨Nat.le_of_ble_eq_true rfl, Nat.le_of_ble_eq_true rfl⟩) ⟨fb_PM, va_recv hK hP (ci := 10) (q0 := 0) rfl rfl, fun U hU hW => ⟨rfl, PM.give hP hK hD hM [0, 6] [] rfl rfl rfl rfl hU hW⟩⟩ rfl rfl hl.1 rfl (lv_room (Nat.le_of_ble_eq_true rfl)) dL_law_1013 ⟨(Nat.le_of_ble_eq_true rfl), (Nat.le_of_ble_eq_true rfl)⟩) hS (fun q _ h => hFc q h) hFc (fun r19 u t H locs ht hvm hw20 hB hz1 hk1 hS => ?_)
  obtain ⟨hP, hD, hK⟩ := aft [0, 6] [] hP hK hD rfl (wr := []) rfl rfl (by decide) hFc hB ht hvm hk1
  have hP : va_P (dC, dI) vwCl ([((b 6), .inr (3, [.int 0, .ref eD, .int 0])), ((b 0), .inr (10, [.int 1, .ref (b 1), .int 0, .int 0, .ref (b 2), .ref (b 3), .ref (b 4), .ref (b 5), .int 0, .int 0, .ref (b 6)]))]) H := hP
  have hD : va_D (fun q : Nat => s.heap.size ≤ q) ([((b 6), .inr (3, [.int 0, .ref eD, .int 0])), ((b 0), .inr (10, [.int 1, .ref (b 1), .int 0, .int 0, .ref (b 2), .ref (b 3), .ref (b 4), .ref (b 5), .int 0, .int 0, .ref (b 6)]))]) := hD
  have hK : va_K (dC, dI) vwCl [(cI, .int), (cS, .object "Snowpalace$Site"), (c2, .array .int), (cJ, .long), (cE, .double)] s := hK
  refine lv_istore (lv' := [(7, .int r19), (6, .int 1), (0, .ref b0), (1, .ref (a 0)), (2, .ref (b 0)), (3, .ref o), (4, .ref o2), (5, .int 0)]) hx hb dL_law_1016 hl (by decide) rfl (fun ls hl => ?_)
  refine lv_aload_n hx hb dL_law_1018 rfl (lv_at hl 4 rfl) ?_
  refine va_calli (va_runV (As := []) (rest := []) ⟨hx, hb, hml, hown, hts⟩ (m_thrown l dC dI _ (b 0) 1 [.ref (b 1), .int 0, .int 0, .ref (b 2), .ref (b 3), .ref (b 4), .ref (b 5), .int 0, .int 0, .ref (b 6)]) (cwV 0 hts gL_law_X6_thrown rfl rfl rfl (by decide +kernel) ⟨Nat.le_of_ble_eq_true rfl, Nat.le_of_ble_eq_true rfl⟩) ⟨fb_PW, va_recv hK hP (ci := 10) (q0 := 1) rfl rfl, fun U hU hW => ⟨rfl, PW.give hP hK hD [1] [] rfl rfl rfl rfl hU hW⟩⟩ rfl rfl hl.1 rfl (lv_room (Nat.le_of_ble_eq_true rfl)) dL_law_1019 ⟨(Nat.le_of_ble_eq_true rfl), (Nat.le_of_ble_eq_true rfl)⟩) hS (fun q _ h => h.elim) (fun q h => h.elim) (fun r21 u t H locs ht hvm hw22 hB hz1 hk1 hS => ?_)
  have hP := kp_P hP hk1
  have hP : va_P (dC, dI) vwCl ([((b 6), .inr (3, [.int 0, .ref eD, .int 0])), ((b 0), .inr (10, [.int 1, .ref (b 1), .int 0, .int 0, .ref (b 2), .ref (b 3), .ref (b 4), .ref (b 5), .int 0, .int 0, .ref (b 6)]))]) H := hP
  have hD : va_D (fun q : Nat => s.heap.size ≤ q) ([((b 6), .inr (3, [.int 0, .ref eD, .int 0])), ((b 0), .inr (10, [.int 1, .ref (b 1), .int 0, .int 0, .ref (b 2), .ref (b 3), .ref (b 4), .ref (b 5), .int 0, .int 0, .ref (b 6)]))]) := hD
  obtain rfl : r21 = 1 := hw22
  refine lv_iload hx hb dL_law_1022 (lv_at hl 1 rfl) ?_
  refine lv_icmp_eq (tgt := 1029) hx hb dL_law_1024 (by decide) (fun _ => ?_) (fun cx => by first | exact absurd (by decide) cx | exact absurd cx (by decide))
  refine lv_iload hx hb dL_law_1029 (lv_at hl 1 rfl) ?_
  refine lv_if_ne (tgt := 1046) hx hb dL_law_1031 (by decide) (fun _ => ?_) (fun cx => by first | exact absurd (by decide) cx | exact absurd cx (by decide))
  refine lv_goto (tgt := 3037) hx hb dL_law_1046 (by decide) ?_
  exact law_exit C0 hS (Nat.le_of_ble_eq_true rfl) (Nat.le_of_ble_eq_true rfl) (lv_sub hl [2, 7] rfl)

set_option maxHeartbeats 4000000 in
set_option maxRecDepth 100000 in
/-- the law, a first call of at -/
theorem case_15 {p : Program} {l : Launch} {e : Env} {s : State} {m : MethodId} {below : List Frame} {meth : Method} {c : Code} (hlt : l.stackTraces = false) {b0 : Nat} {xs : Nat → Int32} (C0 : lw_At p s m meth c b0 6 xs) (dC : Nat → ClassId) (dI : Nat → Nat → Nat) (a : Nat → Nat) (cI cS : ClassId) (f : Nat → Nat → Int32) (b : Nat → Nat) (c2 : ClassId) (dg : Nat → Option Nat) (dl : Nat → Int32) (eD o o2 : Nat) (cJ cE : ClassId) (Ld : List Nat) {H : Heap} {locs : List Loc} (hw0 : LW dC dI s H locs a cI cS f b c2 dg dl eD o o2 cJ cE Ld) {ls : Array Slot} (hl : lv_has ls 9 [(0, .ref b0), (1, .ref (a 0)), (2, .ref (b 0)), (3, .ref o), (4, .ref o2), (5, .int 0)]) :
    W p l e room_1 s m #[Value.ref b0] below meth c H locs 200 2000 (lw_Z below #[Value.ref b0] s) (F0 m 1049 ls []) := by
  obtain ⟨hx, hb, hr, hml, hown, hts0, hX, hbl, hlocks, hgv⟩ := id C0
  have hts : ∀ w ∈ wzL_law, w.before #[Value.ref b0] s = true := fun w h => hts0 w (wzL_law_in w h)
  have hA : ∀ q : Nat, s.heap.size ≤ q → (fun q : Nat => s.heap.size ≤ q) q := fun _ h => h
  have hbA : ¬ (fun q : Nat => s.heap.size ≤ q) b0 := Nat.not_le.mpr hbl
  obtain ⟨hK, hP, hD, hS, hT, hM, hLX⟩ := hw0
  refine lv_aload_n hx hb dL_law_1049 rfl (lv_at hl 1 rfl) ?_
  refine lv_aload_n hx hb dL_law_1050 rfl (lv_at hl 0 rfl) ?_
  refine lv_iload hx hb dL_law_1051 (lv_at hl 5 rfl) ?_
  refine lv_iconst (v := 1) hx hb dL_law_1053 (by decide) ?_
  refine lv_iadd hx hb dL_law_1054 ?_
  refine lv_topi (fun v1 e2 => ?_)
  obtain rfl : v1 = (1 : Int32) := e2.trans (by decide)
  refine va_sld hx hb hX hbl hbA hS (by unfold vp_in; decide) dL_law_1055 ?_
  refine lv_aload_n hx hb dL_law_1056 rfl (lv_at hl 0 rfl) ?_
  refine lv_iload hx hb dL_law_1057 (lv_at hl 5 rfl) ?_
  refine lv_iconst (v := 2) hx hb dL_law_1059 (by decide) ?_
  refine lv_iadd hx hb dL_law_1060 ?_
  refine lv_topi (fun v3 e4 => ?_)
  obtain rfl : v3 = (2 : Int32) := e4.trans (by decide)
  refine va_sld hx hb hX hbl hbA hS (by unfold vp_in; decide) dL_law_1061 ?_
  refine lv_aload_n hx hb dL_law_1062 rfl (lv_at hl 0 rfl) ?_
  refine lv_iload hx hb dL_law_1063 (lv_at hl 5 rfl) ?_
  refine lv_iconst (v := 3) hx hb dL_law_1065 (by decide) ?_
  refine lv_iadd hx hb dL_law_1066 ?_
  refine lv_topi (fun v5 e6 => ?_)
  obtain rfl : v5 = (3 : Int32) := e6.trans (by decide)
  refine va_sld hx hb hX hbl hbA hS (by unfold vp_in; decide) dL_law_1067 ?_
  refine lv_aload_n hx hb dL_law_1068 rfl (lv_at hl 3 rfl) ?_
  have hFc := va_free (wc := [((a 0), .inr (7, [.ref (a 1), .ref (a 2), .ref (a 3), .int 0, .int 0, .int 0, .int 0, .int 0, .int 0, .int 0])), ((a 1), .inr (6, [.ref (a 4), .ref (a 5), .ref (a 6), .ref (a 7)])), ((a 2), .inr (4, [.ref (a 8), .ref (a 9), .ref (a 10)])), ((a 3), .inl (cS, 3, .inr (.inr (.inr (.inr (fun _ => none)))))), ((a 4), .inl (cI, 21, .inl (f 0))), ((a 5), .inl (cI, 21, .inl (f 1))), ((a 6), .inl (cI, 21, .inl (f 2))), ((a 7), .inl (cI, 21, .inl (f 3))), ((a 8), .inl (cI, 4, .inl (fun _ => 0))), ((a 9), .inl (cI, 4, .inl (fun _ => 0))), ((a 10), .inl (cI, 4, .inl (f 4))), (o, .inl (cJ, 1, .inr (.inl (fun _ => 0))))]) hD hS hA [0, 1, 2, 3, 4, 5, 6, 7, 8, 9, 10, 18] rfl
  refine va_calli (vx_runSW (As := [.ref (a 0), .int (xs (1 : Int32).toNatClampNeg), .int (xs (2 : Int32).toNatClampNeg), .int (xs (3 : Int32).toNatClampNeg), .ref o]) (rest := []) ⟨hx, hb, hml, hown, hts⟩ (h_at l hlt dC dI _ a cI cS f cJ o (fun _ => 0) (xs (1 : Int32).toNatClampNeg) (xs (2 : Int32).toNatClampNeg) (xs (3 : Int32).toNatClampNeg)) (vx_cwSW 5 hts gL_law_L_at rfl rfl rfl (by decide +kernel) ⟨Nat.le_of_ble_eq_true rfl, Nat.le_of_ble_eq_true rfl⟩) ⟨fb_PT, fun U hU hW => ⟨rfl, PT.give hP hK hD hS hA hT [0, 1, 2, 3, 4, 5, 6, 7, 8, 9, 10, 18] [0, 1, 3] rfl rfl rfl rfl hU hW⟩⟩ rfl rfl hl.1 rfl (lv_room (Nat.le_of_ble_eq_true rfl)) dL_law_1069 ⟨(Nat.le_of_ble_eq_true rfl), (Nat.le_of_ble_eq_true rfl)⟩) hS (fun q _ h => hFc q h) hFc (fun r7 u t H locs ht hvm hw8 hB hz1 hk1 hS => ?_)
  obtain ⟨hP, hD⟩ := aft0 [0, 1, 2, 3, 4, 5, 6, 7, 8, 9, 10, 18] [11, 12, 13, 14, 15, 16, 17, 19] hP hD rfl (wr := [((b 0), .inr (10, [.int 0, .ref (b 1), .int 0, .int 0, .ref (b 2), .ref (b 3), .ref (b 4), .ref (b 5), .int 0, .int 0, .ref (b 6)])), ((b 1), .inl (c2, 21, .inr (.inr (.inr (.inr dg))))), ((b 2), .inl (cI, 4, .inl (fun _ => 0))), ((b 3), .inl (cI, 4, .inl (fun _ => 0))), ((b 4), .inl (cI, 4, .inl dl)), ((b 5), .inl (cI, 2, .inl (fun _ => 0))), ((b 6), .inr (3, [.int 0, .ref eD, .int 0])), (o2, .inl (cE, 1, .inr (.inr (.inr (.inl (fun _ => 0))))))]) rfl rfl (by decide) hFc hk1
  have hP : va_P (dC, dI) vwCl ([((b 0), .inr (10, [.int 0, .ref (b 1), .int 0, .int 0, .ref (b 2), .ref (b 3), .ref (b 4), .ref (b 5), .int 0, .int 0, .ref (b 6)])), ((b 1), .inl (c2, 21, .inr (.inr (.inr (.inr dg))))), ((b 2), .inl (cI, 4, .inl (fun _ => 0))), ((b 3), .inl (cI, 4, .inl (fun _ => 0))), ((b 4), .inl (cI, 4, .inl dl)), ((b 5), .inl (cI, 2, .inl (fun _ => 0))), ((b 6), .inr (3, [.int 0, .ref eD, .int 0])), (o2, .inl (cE, 1, .inr (.inr (.inr (.inl (fun _ => 0))))))]) H := hP
  have hD : va_D (fun q : Nat => s.heap.size ≤ q) ([((b 0), .inr (10, [.int 0, .ref (b 1), .int 0, .int 0, .ref (b 2), .ref (b 3), .ref (b 4), .ref (b 5), .int 0, .int 0, .ref (b 6)])), ((b 1), .inl (c2, 21, .inr (.inr (.inr (.inr dg))))), ((b 2), .inl (cI, 4, .inl (fun _ => 0))), ((b 3), .inl (cI, 4, .inl (fun _ => 0))), ((b 4), .inl (cI, 4, .inl dl)), ((b 5), .inl (cI, 2, .inl (fun _ => 0))), ((b 6), .inr (3, [.int 0, .ref eD, .int 0])), (o2, .inl (cE, 1, .inr (.inr (.inr (.inl (fun _ => 0))))))]) := hD
  obtain rfl : r7 = 1 := hw8
  refine lv_istore (lv' := [(6, .int 1), (0, .ref b0), (1, .ref (a 0)), (2, .ref (b 0)), (3, .ref o), (4, .ref o2), (5, .int 0)]) hx hb dL_law_1072 hl (by decide) rfl (fun ls hl => ?_)
  refine lv_aload_n hx hb dL_law_1074 rfl (lv_at hl 3 rfl) ?_
  refine lv_aload_n hx hb dL_law_1075 rfl (lv_at hl 1 rfl) ?_
  refine lv_iload hx hb dL_law_1076 (lv_at hl 6 rfl) ?_
  refine lv_iconst (v := 1) hx hb dL_law_1078 (by decide) ?_
  refine lv_iadd hx hb dL_law_1079 ?_
  refine lv_topi (fun v9 e10 => ?_)
  obtain rfl : v9 = (1 : Int32) := e10.trans (by decide)
  refine va_sld hx hb hX hbl hbA hS (by unfold vp_in; decide) dL_law_1080 ?_
  refine lv_aload_n hx hb dL_law_1081 rfl (lv_at hl 1 rfl) ?_
  refine lv_iload hx hb dL_law_1082 (lv_at hl 6 rfl) ?_
  refine lv_iconst (v := 2) hx hb dL_law_1084 (by decide) ?_
  refine lv_iadd hx hb dL_law_1085 ?_
  refine lv_topi (fun v11 e12 => ?_)
  obtain rfl : v11 = (2 : Int32) := e12.trans (by decide)
  refine va_sld hx hb hX hbl hbA hS (by unfold vp_in; decide) dL_law_1086 ?_
  refine lv_aload_n hx hb dL_law_1087 rfl (lv_at hl 1 rfl) ?_
  refine lv_iload hx hb dL_law_1088 (lv_at hl 6 rfl) ?_
  refine lv_iconst (v := 3) hx hb dL_law_1090 (by decide) ?_
  refine lv_iadd hx hb dL_law_1091 ?_
  refine lv_topi (fun v13 e14 => ?_)
  obtain rfl : v13 = (3 : Int32) := e14.trans (by decide)
  refine va_sld hx hb hX hbl hbA hS (by unfold vp_in; decide) dL_law_1092 ?_
  have hFc := va_free (wc := [((b 0), .inr (10, [.int 0, .ref (b 1), .int 0, .int 0, .ref (b 2), .ref (b 3), .ref (b 4), .ref (b 5), .int 0, .int 0, .ref (b 6)])), ((b 6), .inr (3, [.int 0, .ref eD, .int 0]))]) hD hS hA [0, 6] rfl
  refine va_calli (va_runV (As := [.int (xs (1 : Int32).toNatClampNeg), .int (xs (2 : Int32).toNatClampNeg), .int (xs (3 : Int32).toNatClampNeg)]) (rest := []) ⟨hx, hb, hml, hown, hts⟩ (m_at l dC dI _ b eD (xs (1 : Int32).toNatClampNeg) (xs (2 : Int32).toNatClampNeg) (xs (3 : Int32).toNatClampNeg)) (cwV 3 hts gL_law_X6_at rfl rfl rfl (by decide +kernel) ⟨Nat.le_of_ble_eq_true rfl, Nat.le_of_ble_eq_true rfl⟩) ⟨fb_PM, va_recv hK hP (ci := 10) (q0 := 0) rfl rfl, fun U hU hW => ⟨rfl, PM.give hP hK hD hM [0, 6] [] rfl rfl rfl rfl hU hW⟩⟩ rfl rfl hl.1 rfl (lv_room (Nat.le_of_ble_eq_true rfl)) dL_law_1093 ⟨(Nat.le_of_ble_eq_true rfl), (Nat.le_of_ble_eq_true rfl)⟩) hS (fun q _ h => hFc q h) hFc (fun r15 u t H locs ht hvm hw16 hB hz1 hk1 hS => ?_)
  obtain ⟨hP, hD, hK⟩ := aft [0, 6] [] hP hK hD rfl (wr := []) rfl rfl (by decide) hFc hB ht hvm hk1
  have hP : va_P (dC, dI) vwCl ([((b 6), .inr (3, [.int 0, .ref eD, .int 0])), ((b 0), .inr (10, [.int 1, .ref (b 1), .int 0, .int 0, .ref (b 2), .ref (b 3), .ref (b 4), .ref (b 5), .int 0, .int 0, .ref (b 6)]))]) H := hP
  have hD : va_D (fun q : Nat => s.heap.size ≤ q) ([((b 6), .inr (3, [.int 0, .ref eD, .int 0])), ((b 0), .inr (10, [.int 1, .ref (b 1), .int 0, .int 0, .ref (b 2), .ref (b 3), .ref (b 4), .ref (b 5), .int 0, .int 0, .ref (b 6)]))]) := hD
  have hK : va_K (dC, dI) vwCl [(cI, .int), (cS, .object "Snowpalace$Site"), (c2, .array .int), (cJ, .long), (cE, .double)] s := hK
  refine lv_istore (lv' := [(7, .int r15), (6, .int 1), (0, .ref b0), (1, .ref (a 0)), (2, .ref (b 0)), (3, .ref o), (4, .ref o2), (5, .int 0)]) hx hb dL_law_1096 hl (by decide) rfl (fun ls hl => ?_)
  refine lv_aload_n hx hb dL_law_1098 rfl (lv_at hl 4 rfl) ?_
  refine va_calli (va_runV (As := []) (rest := []) ⟨hx, hb, hml, hown, hts⟩ (m_thrown l dC dI _ (b 0) 1 [.ref (b 1), .int 0, .int 0, .ref (b 2), .ref (b 3), .ref (b 4), .ref (b 5), .int 0, .int 0, .ref (b 6)]) (cwV 0 hts gL_law_X6_thrown rfl rfl rfl (by decide +kernel) ⟨Nat.le_of_ble_eq_true rfl, Nat.le_of_ble_eq_true rfl⟩) ⟨fb_PW, va_recv hK hP (ci := 10) (q0 := 1) rfl rfl, fun U hU hW => ⟨rfl, PW.give hP hK hD [1] [] rfl rfl rfl rfl hU hW⟩⟩ rfl rfl hl.1 rfl (lv_room (Nat.le_of_ble_eq_true rfl)) dL_law_1099 ⟨(Nat.le_of_ble_eq_true rfl), (Nat.le_of_ble_eq_true rfl)⟩) hS (fun q _ h => h.elim) (fun q h => h.elim) (fun r17 u t H locs ht hvm hw18 hB hz1 hk1 hS => ?_)
  have hP := kp_P hP hk1
  have hP : va_P (dC, dI) vwCl ([((b 6), .inr (3, [.int 0, .ref eD, .int 0])), ((b 0), .inr (10, [.int 1, .ref (b 1), .int 0, .int 0, .ref (b 2), .ref (b 3), .ref (b 4), .ref (b 5), .int 0, .int 0, .ref (b 6)]))]) H := hP
  have hD : va_D (fun q : Nat => s.heap.size ≤ q) ([((b 6), .inr (3, [.int 0, .ref eD, .int 0])), ((b 0), .inr (10, [.int 1, .ref (b 1), .int 0, .int 0, .ref (b 2), .ref (b 3), .ref (b 4), .ref (b 5), .int 0, .int 0, .ref (b 6)]))]) := hD
  obtain rfl : r17 = 1 := hw18
  refine lv_iload hx hb dL_law_1102 (lv_at hl 1 rfl) ?_
  refine lv_icmp_eq (tgt := 1109) hx hb dL_law_1104 (by decide) (fun _ => ?_) (fun cx => by first | exact absurd (by decide) cx | exact absurd cx (by decide))
  refine lv_iload hx hb dL_law_1109 (lv_at hl 1 rfl) ?_
  refine lv_if_ne (tgt := 1126) hx hb dL_law_1111 (by decide) (fun _ => ?_) (fun cx => by first | exact absurd (by decide) cx | exact absurd cx (by decide))
  refine lv_goto (tgt := 3037) hx hb dL_law_1126 (by decide) ?_
  exact law_exit C0 hS (Nat.le_of_ble_eq_true rfl) (Nat.le_of_ble_eq_true rfl) (lv_sub hl [2, 7] rfl)

set_option maxHeartbeats 4000000 in
set_option maxRecDepth 100000 in
/-- the law, a first call of mass -/
theorem case_16 {p : Program} {l : Launch} {e : Env} {s : State} {m : MethodId} {below : List Frame} {meth : Method} {c : Code} (hlt : l.stackTraces = false) {b0 : Nat} {xs : Nat → Int32} (C0 : lw_At p s m meth c b0 6 xs) (dC : Nat → ClassId) (dI : Nat → Nat → Nat) (a : Nat → Nat) (cI cS : ClassId) (f : Nat → Nat → Int32) (b : Nat → Nat) (c2 : ClassId) (dg : Nat → Option Nat) (dl : Nat → Int32) (eD o o2 : Nat) (cJ cE : ClassId) (Ld : List Nat) {H : Heap} {locs : List Loc} (hw0 : LW dC dI s H locs a cI cS f b c2 dg dl eD o o2 cJ cE Ld) {ls : Array Slot} (hl : lv_has ls 9 [(0, .ref b0), (1, .ref (a 0)), (2, .ref (b 0)), (3, .ref o), (4, .ref o2), (5, .int 0)]) :
    W p l e room_1 s m #[Value.ref b0] below meth c H locs 200 2000 (lw_Z below #[Value.ref b0] s) (F0 m 1129 ls []) := by
  obtain ⟨hx, hb, hr, hml, hown, hts0, hX, hbl, hlocks, hgv⟩ := id C0
  have hts : ∀ w ∈ wzL_law, w.before #[Value.ref b0] s = true := fun w h => hts0 w (wzL_law_in w h)
  have hA : ∀ q : Nat, s.heap.size ≤ q → (fun q : Nat => s.heap.size ≤ q) q := fun _ h => h
  have hbA : ¬ (fun q : Nat => s.heap.size ≤ q) b0 := Nat.not_le.mpr hbl
  obtain ⟨hK, hP, hD, hS, hT, hM, hLX⟩ := hw0
  refine lv_aload_n hx hb dL_law_1129 rfl (lv_at hl 1 rfl) ?_
  refine lv_aload_n hx hb dL_law_1130 rfl (lv_at hl 0 rfl) ?_
  refine lv_iload hx hb dL_law_1131 (lv_at hl 5 rfl) ?_
  refine lv_iconst (v := 1) hx hb dL_law_1133 (by decide) ?_
  refine lv_iadd hx hb dL_law_1134 ?_
  refine lv_topi (fun v1 e2 => ?_)
  obtain rfl : v1 = (1 : Int32) := e2.trans (by decide)
  refine va_sld hx hb hX hbl hbA hS (by unfold vp_in; decide) dL_law_1135 ?_
  refine lv_aload_n hx hb dL_law_1136 rfl (lv_at hl 0 rfl) ?_
  refine lv_iload hx hb dL_law_1137 (lv_at hl 5 rfl) ?_
  refine lv_iconst (v := 2) hx hb dL_law_1139 (by decide) ?_
  refine lv_iadd hx hb dL_law_1140 ?_
  refine lv_topi (fun v3 e4 => ?_)
  obtain rfl : v3 = (2 : Int32) := e4.trans (by decide)
  refine va_sld hx hb hX hbl hbA hS (by unfold vp_in; decide) dL_law_1141 ?_
  refine lv_aload_n hx hb dL_law_1142 rfl (lv_at hl 0 rfl) ?_
  refine lv_iload hx hb dL_law_1143 (lv_at hl 5 rfl) ?_
  refine lv_iconst (v := 3) hx hb dL_law_1145 (by decide) ?_
  refine lv_iadd hx hb dL_law_1146 ?_
  refine lv_topi (fun v5 e6 => ?_)
  obtain rfl : v5 = (3 : Int32) := e6.trans (by decide)
  refine va_sld hx hb hX hbl hbA hS (by unfold vp_in; decide) dL_law_1147 ?_
  refine lv_aload_n hx hb dL_law_1148 rfl (lv_at hl 3 rfl) ?_
  have hFc := va_free (wc := [((a 0), .inr (7, [.ref (a 1), .ref (a 2), .ref (a 3), .int 0, .int 0, .int 0, .int 0, .int 0, .int 0, .int 0])), ((a 1), .inr (6, [.ref (a 4), .ref (a 5), .ref (a 6), .ref (a 7)])), ((a 2), .inr (4, [.ref (a 8), .ref (a 9), .ref (a 10)])), ((a 3), .inl (cS, 3, .inr (.inr (.inr (.inr (fun _ => none)))))), ((a 4), .inl (cI, 21, .inl (f 0))), ((a 5), .inl (cI, 21, .inl (f 1))), ((a 6), .inl (cI, 21, .inl (f 2))), ((a 7), .inl (cI, 21, .inl (f 3))), ((a 8), .inl (cI, 4, .inl (fun _ => 0))), ((a 9), .inl (cI, 4, .inl (fun _ => 0))), ((a 10), .inl (cI, 4, .inl (f 4))), (o, .inl (cJ, 1, .inr (.inl (fun _ => 0))))]) hD hS hA [0, 1, 2, 3, 4, 5, 6, 7, 8, 9, 10, 18] rfl
  refine va_calli (vx_runSW (As := [.ref (a 0), .int (xs (1 : Int32).toNatClampNeg), .int (xs (2 : Int32).toNatClampNeg), .int (xs (3 : Int32).toNatClampNeg), .ref o]) (rest := []) ⟨hx, hb, hml, hown, hts⟩ (h_mass l hlt dC dI _ a cI cS f cJ o (fun _ => 0) (xs (1 : Int32).toNatClampNeg) (xs (2 : Int32).toNatClampNeg) (xs (3 : Int32).toNatClampNeg)) (vx_cwSW 5 hts gL_law_L_mass rfl rfl rfl (by decide +kernel) ⟨Nat.le_of_ble_eq_true rfl, Nat.le_of_ble_eq_true rfl⟩) ⟨fb_PT, fun U hU hW => ⟨rfl, PT.give hP hK hD hS hA hT [0, 1, 2, 3, 4, 5, 6, 7, 8, 9, 10, 18] [0, 1, 3] rfl rfl rfl rfl hU hW⟩⟩ rfl rfl hl.1 rfl (lv_room (Nat.le_of_ble_eq_true rfl)) dL_law_1149 ⟨(Nat.le_of_ble_eq_true rfl), (Nat.le_of_ble_eq_true rfl)⟩) hS (fun q _ h => hFc q h) hFc (fun r7 u t H locs ht hvm hw8 hB hz1 hk1 hS => ?_)
  obtain ⟨hP, hD⟩ := aft0 [0, 1, 2, 3, 4, 5, 6, 7, 8, 9, 10, 18] [11, 12, 13, 14, 15, 16, 17, 19] hP hD rfl (wr := [((b 0), .inr (10, [.int 0, .ref (b 1), .int 0, .int 0, .ref (b 2), .ref (b 3), .ref (b 4), .ref (b 5), .int 0, .int 0, .ref (b 6)])), ((b 1), .inl (c2, 21, .inr (.inr (.inr (.inr dg))))), ((b 2), .inl (cI, 4, .inl (fun _ => 0))), ((b 3), .inl (cI, 4, .inl (fun _ => 0))), ((b 4), .inl (cI, 4, .inl dl)), ((b 5), .inl (cI, 2, .inl (fun _ => 0))), ((b 6), .inr (3, [.int 0, .ref eD, .int 0])), (o2, .inl (cE, 1, .inr (.inr (.inr (.inl (fun _ => 0))))))]) rfl rfl (by decide) hFc hk1
  have hP : va_P (dC, dI) vwCl ([((b 0), .inr (10, [.int 0, .ref (b 1), .int 0, .int 0, .ref (b 2), .ref (b 3), .ref (b 4), .ref (b 5), .int 0, .int 0, .ref (b 6)])), ((b 1), .inl (c2, 21, .inr (.inr (.inr (.inr dg))))), ((b 2), .inl (cI, 4, .inl (fun _ => 0))), ((b 3), .inl (cI, 4, .inl (fun _ => 0))), ((b 4), .inl (cI, 4, .inl dl)), ((b 5), .inl (cI, 2, .inl (fun _ => 0))), ((b 6), .inr (3, [.int 0, .ref eD, .int 0])), (o2, .inl (cE, 1, .inr (.inr (.inr (.inl (fun _ => 0))))))]) H := hP
  have hD : va_D (fun q : Nat => s.heap.size ≤ q) ([((b 0), .inr (10, [.int 0, .ref (b 1), .int 0, .int 0, .ref (b 2), .ref (b 3), .ref (b 4), .ref (b 5), .int 0, .int 0, .ref (b 6)])), ((b 1), .inl (c2, 21, .inr (.inr (.inr (.inr dg))))), ((b 2), .inl (cI, 4, .inl (fun _ => 0))), ((b 3), .inl (cI, 4, .inl (fun _ => 0))), ((b 4), .inl (cI, 4, .inl dl)), ((b 5), .inl (cI, 2, .inl (fun _ => 0))), ((b 6), .inr (3, [.int 0, .ref eD, .int 0])), (o2, .inl (cE, 1, .inr (.inr (.inr (.inl (fun _ => 0))))))]) := hD
  obtain rfl : r7 = 1 := hw8
  refine lv_istore (lv' := [(6, .int 1), (0, .ref b0), (1, .ref (a 0)), (2, .ref (b 0)), (3, .ref o), (4, .ref o2), (5, .int 0)]) hx hb dL_law_1152 hl (by decide) rfl (fun ls hl => ?_)
  refine lv_aload_n hx hb dL_law_1154 rfl (lv_at hl 3 rfl) ?_
  refine lv_aload_n hx hb dL_law_1155 rfl (lv_at hl 1 rfl) ?_
  refine lv_iload hx hb dL_law_1156 (lv_at hl 6 rfl) ?_
  refine lv_iconst (v := 1) hx hb dL_law_1158 (by decide) ?_
  refine lv_iadd hx hb dL_law_1159 ?_
  refine lv_topi (fun v9 e10 => ?_)
  obtain rfl : v9 = (1 : Int32) := e10.trans (by decide)
  refine va_sld hx hb hX hbl hbA hS (by unfold vp_in; decide) dL_law_1160 ?_
  refine lv_aload_n hx hb dL_law_1161 rfl (lv_at hl 1 rfl) ?_
  refine lv_iload hx hb dL_law_1162 (lv_at hl 6 rfl) ?_
  refine lv_iconst (v := 2) hx hb dL_law_1164 (by decide) ?_
  refine lv_iadd hx hb dL_law_1165 ?_
  refine lv_topi (fun v11 e12 => ?_)
  obtain rfl : v11 = (2 : Int32) := e12.trans (by decide)
  refine va_sld hx hb hX hbl hbA hS (by unfold vp_in; decide) dL_law_1166 ?_
  refine lv_aload_n hx hb dL_law_1167 rfl (lv_at hl 1 rfl) ?_
  refine lv_iload hx hb dL_law_1168 (lv_at hl 6 rfl) ?_
  refine lv_iconst (v := 3) hx hb dL_law_1170 (by decide) ?_
  refine lv_iadd hx hb dL_law_1171 ?_
  refine lv_topi (fun v13 e14 => ?_)
  obtain rfl : v13 = (3 : Int32) := e14.trans (by decide)
  refine va_sld hx hb hX hbl hbA hS (by unfold vp_in; decide) dL_law_1172 ?_
  have hFc := va_free (wc := [((b 0), .inr (10, [.int 0, .ref (b 1), .int 0, .int 0, .ref (b 2), .ref (b 3), .ref (b 4), .ref (b 5), .int 0, .int 0, .ref (b 6)])), ((b 6), .inr (3, [.int 0, .ref eD, .int 0]))]) hD hS hA [0, 6] rfl
  refine va_calli (va_runV (As := [.int (xs (1 : Int32).toNatClampNeg), .int (xs (2 : Int32).toNatClampNeg), .int (xs (3 : Int32).toNatClampNeg)]) (rest := []) ⟨hx, hb, hml, hown, hts⟩ (m_mass l dC dI _ b eD (xs (1 : Int32).toNatClampNeg) (xs (2 : Int32).toNatClampNeg) (xs (3 : Int32).toNatClampNeg)) (cwV 3 hts gL_law_X6_mass rfl rfl rfl (by decide +kernel) ⟨Nat.le_of_ble_eq_true rfl, Nat.le_of_ble_eq_true rfl⟩) ⟨fb_PM, va_recv hK hP (ci := 10) (q0 := 0) rfl rfl, fun U hU hW => ⟨rfl, PM.give hP hK hD hM [0, 6] [] rfl rfl rfl rfl hU hW⟩⟩ rfl rfl hl.1 rfl (lv_room (Nat.le_of_ble_eq_true rfl)) dL_law_1173 ⟨(Nat.le_of_ble_eq_true rfl), (Nat.le_of_ble_eq_true rfl)⟩) hS (fun q _ h => hFc q h) hFc (fun r15 u t H locs ht hvm hw16 hB hz1 hk1 hS => ?_)
  obtain ⟨hP, hD, hK⟩ := aft [0, 6] [] hP hK hD rfl (wr := []) rfl rfl (by decide) hFc hB ht hvm hk1
  have hP : va_P (dC, dI) vwCl ([((b 6), .inr (3, [.int 0, .ref eD, .int 0])), ((b 0), .inr (10, [.int 1, .ref (b 1), .int 0, .int 0, .ref (b 2), .ref (b 3), .ref (b 4), .ref (b 5), .int 0, .int 0, .ref (b 6)]))]) H := hP
  have hD : va_D (fun q : Nat => s.heap.size ≤ q) ([((b 6), .inr (3, [.int 0, .ref eD, .int 0])), ((b 0), .inr (10, [.int 1, .ref (b 1), .int 0, .int 0, .ref (b 2), .ref (b 3), .ref (b 4), .ref (b 5), .int 0, .int 0, .ref (b 6)]))]) := hD
  have hK : va_K (dC, dI) vwCl [(cI, .int), (cS, .object "Snowpalace$Site"), (c2, .array .int), (cJ, .long), (cE, .double)] s := hK
  refine lv_istore (lv' := [(7, .int r15), (6, .int 1), (0, .ref b0), (1, .ref (a 0)), (2, .ref (b 0)), (3, .ref o), (4, .ref o2), (5, .int 0)]) hx hb dL_law_1176 hl (by decide) rfl (fun ls hl => ?_)
  refine lv_aload_n hx hb dL_law_1178 rfl (lv_at hl 4 rfl) ?_
  refine va_calli (va_runV (As := []) (rest := []) ⟨hx, hb, hml, hown, hts⟩ (m_thrown l dC dI _ (b 0) 1 [.ref (b 1), .int 0, .int 0, .ref (b 2), .ref (b 3), .ref (b 4), .ref (b 5), .int 0, .int 0, .ref (b 6)]) (cwV 0 hts gL_law_X6_thrown rfl rfl rfl (by decide +kernel) ⟨Nat.le_of_ble_eq_true rfl, Nat.le_of_ble_eq_true rfl⟩) ⟨fb_PW, va_recv hK hP (ci := 10) (q0 := 1) rfl rfl, fun U hU hW => ⟨rfl, PW.give hP hK hD [1] [] rfl rfl rfl rfl hU hW⟩⟩ rfl rfl hl.1 rfl (lv_room (Nat.le_of_ble_eq_true rfl)) dL_law_1179 ⟨(Nat.le_of_ble_eq_true rfl), (Nat.le_of_ble_eq_true rfl)⟩) hS (fun q _ h => h.elim) (fun q h => h.elim) (fun r17 u t H locs ht hvm hw18 hB hz1 hk1 hS => ?_)
  have hP := kp_P hP hk1
  have hP : va_P (dC, dI) vwCl ([((b 6), .inr (3, [.int 0, .ref eD, .int 0])), ((b 0), .inr (10, [.int 1, .ref (b 1), .int 0, .int 0, .ref (b 2), .ref (b 3), .ref (b 4), .ref (b 5), .int 0, .int 0, .ref (b 6)]))]) H := hP
  have hD : va_D (fun q : Nat => s.heap.size ≤ q) ([((b 6), .inr (3, [.int 0, .ref eD, .int 0])), ((b 0), .inr (10, [.int 1, .ref (b 1), .int 0, .int 0, .ref (b 2), .ref (b 3), .ref (b 4), .ref (b 5), .int 0, .int 0, .ref (b 6)]))]) := hD
  obtain rfl : r17 = 1 := hw18
  refine lv_iload hx hb dL_law_1182 (lv_at hl 1 rfl) ?_
  refine lv_icmp_eq (tgt := 1189) hx hb dL_law_1184 (by decide) (fun _ => ?_) (fun cx => by first | exact absurd (by decide) cx | exact absurd cx (by decide))
  refine lv_iload hx hb dL_law_1189 (lv_at hl 1 rfl) ?_
  refine lv_if_ne (tgt := 1206) hx hb dL_law_1191 (by decide) (fun _ => ?_) (fun cx => by first | exact absurd (by decide) cx | exact absurd cx (by decide))
  refine lv_goto (tgt := 3037) hx hb dL_law_1206 (by decide) ?_
  exact law_exit C0 hS (Nat.le_of_ble_eq_true rfl) (Nat.le_of_ble_eq_true rfl) (lv_sub hl [2, 7] rfl)

set_option maxHeartbeats 4000000 in
set_option maxRecDepth 100000 in
/-- the law, a first call of load -/
theorem case_17 {p : Program} {l : Launch} {e : Env} {s : State} {m : MethodId} {below : List Frame} {meth : Method} {c : Code} (hlt : l.stackTraces = false) {b0 : Nat} {xs : Nat → Int32} (C0 : lw_At p s m meth c b0 6 xs) (dC : Nat → ClassId) (dI : Nat → Nat → Nat) (a : Nat → Nat) (cI cS : ClassId) (f : Nat → Nat → Int32) (b : Nat → Nat) (c2 : ClassId) (dg : Nat → Option Nat) (dl : Nat → Int32) (eD o o2 : Nat) (cJ cE : ClassId) (Ld : List Nat) {H : Heap} {locs : List Loc} (hw0 : LW dC dI s H locs a cI cS f b c2 dg dl eD o o2 cJ cE Ld) {ls : Array Slot} (hl : lv_has ls 9 [(0, .ref b0), (1, .ref (a 0)), (2, .ref (b 0)), (3, .ref o), (4, .ref o2), (5, .int 0)]) :
    W p l e room_1 s m #[Value.ref b0] below meth c H locs 200 2000 (lw_Z below #[Value.ref b0] s) (F0 m 1209 ls []) := by
  obtain ⟨hx, hb, hr, hml, hown, hts0, hX, hbl, hlocks, hgv⟩ := id C0
  have hts : ∀ w ∈ wzL_law, w.before #[Value.ref b0] s = true := fun w h => hts0 w (wzL_law_in w h)
  have hA : ∀ q : Nat, s.heap.size ≤ q → (fun q : Nat => s.heap.size ≤ q) q := fun _ h => h
  have hbA : ¬ (fun q : Nat => s.heap.size ≤ q) b0 := Nat.not_le.mpr hbl
  obtain ⟨hK, hP, hD, hS, hT, hM, hLX⟩ := hw0
  refine lv_aload_n hx hb dL_law_1209 rfl (lv_at hl 1 rfl) ?_
  refine lv_aload_n hx hb dL_law_1210 rfl (lv_at hl 0 rfl) ?_
  refine lv_iload hx hb dL_law_1211 (lv_at hl 5 rfl) ?_
  refine lv_iconst (v := 1) hx hb dL_law_1213 (by decide) ?_
  refine lv_iadd hx hb dL_law_1214 ?_
  refine lv_topi (fun v1 e2 => ?_)
  obtain rfl : v1 = (1 : Int32) := e2.trans (by decide)
  refine va_sld hx hb hX hbl hbA hS (by unfold vp_in; decide) dL_law_1215 ?_
  refine lv_aload_n hx hb dL_law_1216 rfl (lv_at hl 0 rfl) ?_
  refine lv_iload hx hb dL_law_1217 (lv_at hl 5 rfl) ?_
  refine lv_iconst (v := 2) hx hb dL_law_1219 (by decide) ?_
  refine lv_iadd hx hb dL_law_1220 ?_
  refine lv_topi (fun v3 e4 => ?_)
  obtain rfl : v3 = (2 : Int32) := e4.trans (by decide)
  refine va_sld hx hb hX hbl hbA hS (by unfold vp_in; decide) dL_law_1221 ?_
  refine lv_aload_n hx hb dL_law_1222 rfl (lv_at hl 0 rfl) ?_
  refine lv_iload hx hb dL_law_1223 (lv_at hl 5 rfl) ?_
  refine lv_iconst (v := 3) hx hb dL_law_1225 (by decide) ?_
  refine lv_iadd hx hb dL_law_1226 ?_
  refine lv_topi (fun v5 e6 => ?_)
  obtain rfl : v5 = (3 : Int32) := e6.trans (by decide)
  refine va_sld hx hb hX hbl hbA hS (by unfold vp_in; decide) dL_law_1227 ?_
  refine lv_aload_n hx hb dL_law_1228 rfl (lv_at hl 3 rfl) ?_
  have hFc := va_free (wc := [((a 0), .inr (7, [.ref (a 1), .ref (a 2), .ref (a 3), .int 0, .int 0, .int 0, .int 0, .int 0, .int 0, .int 0])), ((a 1), .inr (6, [.ref (a 4), .ref (a 5), .ref (a 6), .ref (a 7)])), ((a 2), .inr (4, [.ref (a 8), .ref (a 9), .ref (a 10)])), ((a 3), .inl (cS, 3, .inr (.inr (.inr (.inr (fun _ => none)))))), ((a 4), .inl (cI, 21, .inl (f 0))), ((a 5), .inl (cI, 21, .inl (f 1))), ((a 6), .inl (cI, 21, .inl (f 2))), ((a 7), .inl (cI, 21, .inl (f 3))), ((a 8), .inl (cI, 4, .inl (fun _ => 0))), ((a 9), .inl (cI, 4, .inl (fun _ => 0))), ((a 10), .inl (cI, 4, .inl (f 4))), (o, .inl (cJ, 1, .inr (.inl (fun _ => 0))))]) hD hS hA [0, 1, 2, 3, 4, 5, 6, 7, 8, 9, 10, 18] rfl
  refine va_calli (vx_runSW (As := [.ref (a 0), .int (xs (1 : Int32).toNatClampNeg), .int (xs (2 : Int32).toNatClampNeg), .int (xs (3 : Int32).toNatClampNeg), .ref o]) (rest := []) ⟨hx, hb, hml, hown, hts⟩ (h_load l hlt dC dI _ a cI cS f cJ o (fun _ => 0) (xs (1 : Int32).toNatClampNeg) (xs (2 : Int32).toNatClampNeg) (xs (3 : Int32).toNatClampNeg)) (vx_cwSW 5 hts gL_law_L_load rfl rfl rfl (by decide +kernel) ⟨Nat.le_of_ble_eq_true rfl, Nat.le_of_ble_eq_true rfl⟩) ⟨fb_PT, fun U hU hW => ⟨rfl, PT.give hP hK hD hS hA hT [0, 1, 2, 3, 4, 5, 6, 7, 8, 9, 10, 18] [0, 1, 3] rfl rfl rfl rfl hU hW⟩⟩ rfl rfl hl.1 rfl (lv_room (Nat.le_of_ble_eq_true rfl)) dL_law_1229 ⟨(Nat.le_of_ble_eq_true rfl), (Nat.le_of_ble_eq_true rfl)⟩) hS (fun q _ h => hFc q h) hFc (fun r7 u t H locs ht hvm hw8 hB hz1 hk1 hS => ?_)
  obtain ⟨hP, hD⟩ := aft0 [0, 1, 2, 3, 4, 5, 6, 7, 8, 9, 10, 18] [11, 12, 13, 14, 15, 16, 17, 19] hP hD rfl (wr := [((b 0), .inr (10, [.int 0, .ref (b 1), .int 0, .int 0, .ref (b 2), .ref (b 3), .ref (b 4), .ref (b 5), .int 0, .int 0, .ref (b 6)])), ((b 1), .inl (c2, 21, .inr (.inr (.inr (.inr dg))))), ((b 2), .inl (cI, 4, .inl (fun _ => 0))), ((b 3), .inl (cI, 4, .inl (fun _ => 0))), ((b 4), .inl (cI, 4, .inl dl)), ((b 5), .inl (cI, 2, .inl (fun _ => 0))), ((b 6), .inr (3, [.int 0, .ref eD, .int 0])), (o2, .inl (cE, 1, .inr (.inr (.inr (.inl (fun _ => 0))))))]) rfl rfl (by decide) hFc hk1
  have hP : va_P (dC, dI) vwCl ([((b 0), .inr (10, [.int 0, .ref (b 1), .int 0, .int 0, .ref (b 2), .ref (b 3), .ref (b 4), .ref (b 5), .int 0, .int 0, .ref (b 6)])), ((b 1), .inl (c2, 21, .inr (.inr (.inr (.inr dg))))), ((b 2), .inl (cI, 4, .inl (fun _ => 0))), ((b 3), .inl (cI, 4, .inl (fun _ => 0))), ((b 4), .inl (cI, 4, .inl dl)), ((b 5), .inl (cI, 2, .inl (fun _ => 0))), ((b 6), .inr (3, [.int 0, .ref eD, .int 0])), (o2, .inl (cE, 1, .inr (.inr (.inr (.inl (fun _ => 0))))))]) H := hP
  have hD : va_D (fun q : Nat => s.heap.size ≤ q) ([((b 0), .inr (10, [.int 0, .ref (b 1), .int 0, .int 0, .ref (b 2), .ref (b 3), .ref (b 4), .ref (b 5), .int 0, .int 0, .ref (b 6)])), ((b 1), .inl (c2, 21, .inr (.inr (.inr (.inr dg))))), ((b 2), .inl (cI, 4, .inl (fun _ => 0))), ((b 3), .inl (cI, 4, .inl (fun _ => 0))), ((b 4), .inl (cI, 4, .inl dl)), ((b 5), .inl (cI, 2, .inl (fun _ => 0))), ((b 6), .inr (3, [.int 0, .ref eD, .int 0])), (o2, .inl (cE, 1, .inr (.inr (.inr (.inl (fun _ => 0))))))]) := hD
  obtain rfl : r7 = 1 := hw8
  refine lv_istore (lv' := [(6, .int 1), (0, .ref b0), (1, .ref (a 0)), (2, .ref (b 0)), (3, .ref o), (4, .ref o2), (5, .int 0)]) hx hb dL_law_1232 hl (by decide) rfl (fun ls hl => ?_)
  refine lv_aload_n hx hb dL_law_1234 rfl (lv_at hl 3 rfl) ?_
  refine lv_aload_n hx hb dL_law_1235 rfl (lv_at hl 1 rfl) ?_
  refine lv_iload hx hb dL_law_1236 (lv_at hl 6 rfl) ?_
  refine lv_iconst (v := 1) hx hb dL_law_1238 (by decide) ?_
  refine lv_iadd hx hb dL_law_1239 ?_
  refine lv_topi (fun v9 e10 => ?_)
  obtain rfl : v9 = (1 : Int32) := e10.trans (by decide)
  refine va_sld hx hb hX hbl hbA hS (by unfold vp_in; decide) dL_law_1240 ?_
  refine lv_aload_n hx hb dL_law_1241 rfl (lv_at hl 1 rfl) ?_
  refine lv_iload hx hb dL_law_1242 (lv_at hl 6 rfl) ?_
  refine lv_iconst (v := 2) hx hb dL_law_1244 (by decide) ?_
  refine lv_iadd hx hb dL_law_1245 ?_
  refine lv_topi (fun v11 e12 => ?_)
  obtain rfl : v11 = (2 : Int32) := e12.trans (by decide)
  refine va_sld hx hb hX hbl hbA hS (by unfold vp_in; decide) dL_law_1246 ?_
  refine lv_aload_n hx hb dL_law_1247 rfl (lv_at hl 1 rfl) ?_
  refine lv_iload hx hb dL_law_1248 (lv_at hl 6 rfl) ?_
  refine lv_iconst (v := 3) hx hb dL_law_1250 (by decide) ?_
  refine lv_iadd hx hb dL_law_1251 ?_
  refine lv_topi (fun v13 e14 => ?_)
  obtain rfl : v13 = (3 : Int32) := e14.trans (by decide)
  refine va_sld hx hb hX hbl hbA hS (by unfold vp_in; decide) dL_law_1252 ?_
  have hFc := va_free (wc := [((b 0), .inr (10, [.int 0, .ref (b 1), .int 0, .int 0, .ref (b 2), .ref (b 3), .ref (b 4), .ref (b 5), .int 0, .int 0, .ref (b 6)])), ((b 6), .inr (3, [.int 0, .ref eD, .int 0]))]) hD hS hA [0, 6] rfl
  refine va_calli (va_runV (As := [.int (xs (1 : Int32).toNatClampNeg), .int (xs (2 : Int32).toNatClampNeg), .int (xs (3 : Int32).toNatClampNeg)]) (rest := []) ⟨hx, hb, hml, hown, hts⟩ (m_load l dC dI _ b eD (xs (1 : Int32).toNatClampNeg) (xs (2 : Int32).toNatClampNeg) (xs (3 : Int32).toNatClampNeg)) (cwV 3 hts gL_law_X6_load rfl rfl rfl (by decide +kernel) ⟨Nat.le_of_ble_eq_true rfl, Nat.le_of_ble_eq_true rfl⟩) ⟨fb_PM, va_recv hK hP (ci := 10) (q0 := 0) rfl rfl, fun U hU hW => ⟨rfl, PM.give hP hK hD hM [0, 6] [] rfl rfl rfl rfl hU hW⟩⟩ rfl rfl hl.1 rfl (lv_room (Nat.le_of_ble_eq_true rfl)) dL_law_1253 ⟨(Nat.le_of_ble_eq_true rfl), (Nat.le_of_ble_eq_true rfl)⟩) hS (fun q _ h => hFc q h) hFc (fun r15 u t H locs ht hvm hw16 hB hz1 hk1 hS => ?_)
  obtain ⟨hP, hD, hK⟩ := aft [0, 6] [] hP hK hD rfl (wr := []) rfl rfl (by decide) hFc hB ht hvm hk1
  have hP : va_P (dC, dI) vwCl ([((b 6), .inr (3, [.int 0, .ref eD, .int 0])), ((b 0), .inr (10, [.int 1, .ref (b 1), .int 0, .int 0, .ref (b 2), .ref (b 3), .ref (b 4), .ref (b 5), .int 0, .int 0, .ref (b 6)]))]) H := hP
  have hD : va_D (fun q : Nat => s.heap.size ≤ q) ([((b 6), .inr (3, [.int 0, .ref eD, .int 0])), ((b 0), .inr (10, [.int 1, .ref (b 1), .int 0, .int 0, .ref (b 2), .ref (b 3), .ref (b 4), .ref (b 5), .int 0, .int 0, .ref (b 6)]))]) := hD
  have hK : va_K (dC, dI) vwCl [(cI, .int), (cS, .object "Snowpalace$Site"), (c2, .array .int), (cJ, .long), (cE, .double)] s := hK
  refine lv_istore (lv' := [(7, .int r15), (6, .int 1), (0, .ref b0), (1, .ref (a 0)), (2, .ref (b 0)), (3, .ref o), (4, .ref o2), (5, .int 0)]) hx hb dL_law_1256 hl (by decide) rfl (fun ls hl => ?_)
  refine lv_aload_n hx hb dL_law_1258 rfl (lv_at hl 4 rfl) ?_
  refine va_calli (va_runV (As := []) (rest := []) ⟨hx, hb, hml, hown, hts⟩ (m_thrown l dC dI _ (b 0) 1 [.ref (b 1), .int 0, .int 0, .ref (b 2), .ref (b 3), .ref (b 4), .ref (b 5), .int 0, .int 0, .ref (b 6)]) (cwV 0 hts gL_law_X6_thrown rfl rfl rfl (by decide +kernel) ⟨Nat.le_of_ble_eq_true rfl, Nat.le_of_ble_eq_true rfl⟩) ⟨fb_PW, va_recv hK hP (ci := 10) (q0 := 1) rfl rfl, fun U hU hW => ⟨rfl, PW.give hP hK hD [1] [] rfl rfl rfl rfl hU hW⟩⟩ rfl rfl hl.1 rfl (lv_room (Nat.le_of_ble_eq_true rfl)) dL_law_1259 ⟨(Nat.le_of_ble_eq_true rfl), (Nat.le_of_ble_eq_true rfl)⟩) hS (fun q _ h => h.elim) (fun q h => h.elim) (fun r17 u t H locs ht hvm hw18 hB hz1 hk1 hS => ?_)
  have hP := kp_P hP hk1
  have hP : va_P (dC, dI) vwCl ([((b 6), .inr (3, [.int 0, .ref eD, .int 0])), ((b 0), .inr (10, [.int 1, .ref (b 1), .int 0, .int 0, .ref (b 2), .ref (b 3), .ref (b 4), .ref (b 5), .int 0, .int 0, .ref (b 6)]))]) H := hP
  have hD : va_D (fun q : Nat => s.heap.size ≤ q) ([((b 6), .inr (3, [.int 0, .ref eD, .int 0])), ((b 0), .inr (10, [.int 1, .ref (b 1), .int 0, .int 0, .ref (b 2), .ref (b 3), .ref (b 4), .ref (b 5), .int 0, .int 0, .ref (b 6)]))]) := hD
  obtain rfl : r17 = 1 := hw18
  refine lv_iload hx hb dL_law_1262 (lv_at hl 1 rfl) ?_
  refine lv_icmp_eq (tgt := 1269) hx hb dL_law_1264 (by decide) (fun _ => ?_) (fun cx => by first | exact absurd (by decide) cx | exact absurd cx (by decide))
  refine lv_iload hx hb dL_law_1269 (lv_at hl 1 rfl) ?_
  refine lv_if_ne (tgt := 1286) hx hb dL_law_1271 (by decide) (fun _ => ?_) (fun cx => by first | exact absurd (by decide) cx | exact absurd cx (by decide))
  refine lv_goto (tgt := 3037) hx hb dL_law_1286 (by decide) ?_
  exact law_exit C0 hS (Nat.le_of_ble_eq_true rfl) (Nat.le_of_ble_eq_true rfl) (lv_sub hl [2, 7] rfl)

set_option maxHeartbeats 4000000 in
set_option maxRecDepth 100000 in
/-- the law, a first call of strength -/
theorem case_18 {p : Program} {l : Launch} {e : Env} {s : State} {m : MethodId} {below : List Frame} {meth : Method} {c : Code} (hlt : l.stackTraces = false) {b0 : Nat} {xs : Nat → Int32} (C0 : lw_At p s m meth c b0 6 xs) (dC : Nat → ClassId) (dI : Nat → Nat → Nat) (a : Nat → Nat) (cI cS : ClassId) (f : Nat → Nat → Int32) (b : Nat → Nat) (c2 : ClassId) (dg : Nat → Option Nat) (dl : Nat → Int32) (eD o o2 : Nat) (cJ cE : ClassId) (Ld : List Nat) {H : Heap} {locs : List Loc} (hw0 : LW dC dI s H locs a cI cS f b c2 dg dl eD o o2 cJ cE Ld) {ls : Array Slot} (hl : lv_has ls 9 [(0, .ref b0), (1, .ref (a 0)), (2, .ref (b 0)), (3, .ref o), (4, .ref o2), (5, .int 0)]) :
    W p l e room_1 s m #[Value.ref b0] below meth c H locs 200 2000 (lw_Z below #[Value.ref b0] s) (F0 m 1289 ls []) := by
  obtain ⟨hx, hb, hr, hml, hown, hts0, hX, hbl, hlocks, hgv⟩ := id C0
  have hts : ∀ w ∈ wzL_law, w.before #[Value.ref b0] s = true := fun w h => hts0 w (wzL_law_in w h)
  have hA : ∀ q : Nat, s.heap.size ≤ q → (fun q : Nat => s.heap.size ≤ q) q := fun _ h => h
  have hbA : ¬ (fun q : Nat => s.heap.size ≤ q) b0 := Nat.not_le.mpr hbl
  obtain ⟨hK, hP, hD, hS, hT, hM, hLX⟩ := hw0
  refine lv_aload_n hx hb dL_law_1289 rfl (lv_at hl 1 rfl) ?_
  refine lv_aload_n hx hb dL_law_1290 rfl (lv_at hl 0 rfl) ?_
  refine lv_iload hx hb dL_law_1291 (lv_at hl 5 rfl) ?_
  refine lv_iconst (v := 1) hx hb dL_law_1293 (by decide) ?_
  refine lv_iadd hx hb dL_law_1294 ?_
  refine lv_topi (fun v1 e2 => ?_)
  obtain rfl : v1 = (1 : Int32) := e2.trans (by decide)
  refine va_sld hx hb hX hbl hbA hS (by unfold vp_in; decide) dL_law_1295 ?_
  refine lv_aload_n hx hb dL_law_1296 rfl (lv_at hl 0 rfl) ?_
  refine lv_iload hx hb dL_law_1297 (lv_at hl 5 rfl) ?_
  refine lv_iconst (v := 2) hx hb dL_law_1299 (by decide) ?_
  refine lv_iadd hx hb dL_law_1300 ?_
  refine lv_topi (fun v3 e4 => ?_)
  obtain rfl : v3 = (2 : Int32) := e4.trans (by decide)
  refine va_sld hx hb hX hbl hbA hS (by unfold vp_in; decide) dL_law_1301 ?_
  refine lv_aload_n hx hb dL_law_1302 rfl (lv_at hl 0 rfl) ?_
  refine lv_iload hx hb dL_law_1303 (lv_at hl 5 rfl) ?_
  refine lv_iconst (v := 3) hx hb dL_law_1305 (by decide) ?_
  refine lv_iadd hx hb dL_law_1306 ?_
  refine lv_topi (fun v5 e6 => ?_)
  obtain rfl : v5 = (3 : Int32) := e6.trans (by decide)
  refine va_sld hx hb hX hbl hbA hS (by unfold vp_in; decide) dL_law_1307 ?_
  refine lv_aload_n hx hb dL_law_1308 rfl (lv_at hl 3 rfl) ?_
  have hFc := va_free (wc := [((a 0), .inr (7, [.ref (a 1), .ref (a 2), .ref (a 3), .int 0, .int 0, .int 0, .int 0, .int 0, .int 0, .int 0])), ((a 1), .inr (6, [.ref (a 4), .ref (a 5), .ref (a 6), .ref (a 7)])), ((a 2), .inr (4, [.ref (a 8), .ref (a 9), .ref (a 10)])), ((a 3), .inl (cS, 3, .inr (.inr (.inr (.inr (fun _ => none)))))), ((a 4), .inl (cI, 21, .inl (f 0))), ((a 5), .inl (cI, 21, .inl (f 1))), ((a 6), .inl (cI, 21, .inl (f 2))), ((a 7), .inl (cI, 21, .inl (f 3))), ((a 8), .inl (cI, 4, .inl (fun _ => 0))), ((a 9), .inl (cI, 4, .inl (fun _ => 0))), ((a 10), .inl (cI, 4, .inl (f 4))), (o, .inl (cJ, 1, .inr (.inl (fun _ => 0))))]) hD hS hA [0, 1, 2, 3, 4, 5, 6, 7, 8, 9, 10, 18] rfl
  refine va_calli (vx_runSW (As := [.ref (a 0), .int (xs (1 : Int32).toNatClampNeg), .int (xs (2 : Int32).toNatClampNeg), .int (xs (3 : Int32).toNatClampNeg), .ref o]) (rest := []) ⟨hx, hb, hml, hown, hts⟩ (h_strength l hlt dC dI _ a cI cS f cJ o (fun _ => 0) (xs (1 : Int32).toNatClampNeg) (xs (2 : Int32).toNatClampNeg) (xs (3 : Int32).toNatClampNeg)) (vx_cwSW 5 hts gL_law_L_strength rfl rfl rfl (by decide +kernel) ⟨Nat.le_of_ble_eq_true rfl, Nat.le_of_ble_eq_true rfl⟩) ⟨fb_PT, fun U hU hW => ⟨rfl, PT.give hP hK hD hS hA hT [0, 1, 2, 3, 4, 5, 6, 7, 8, 9, 10, 18] [0, 1, 3] rfl rfl rfl rfl hU hW⟩⟩ rfl rfl hl.1 rfl (lv_room (Nat.le_of_ble_eq_true rfl)) dL_law_1309 ⟨(Nat.le_of_ble_eq_true rfl), (Nat.le_of_ble_eq_true rfl)⟩) hS (fun q _ h => hFc q h) hFc (fun r7 u t H locs ht hvm hw8 hB hz1 hk1 hS => ?_)
  obtain ⟨hP, hD⟩ := aft0 [0, 1, 2, 3, 4, 5, 6, 7, 8, 9, 10, 18] [11, 12, 13, 14, 15, 16, 17, 19] hP hD rfl (wr := [((b 0), .inr (10, [.int 0, .ref (b 1), .int 0, .int 0, .ref (b 2), .ref (b 3), .ref (b 4), .ref (b 5), .int 0, .int 0, .ref (b 6)])), ((b 1), .inl (c2, 21, .inr (.inr (.inr (.inr dg))))), ((b 2), .inl (cI, 4, .inl (fun _ => 0))), ((b 3), .inl (cI, 4, .inl (fun _ => 0))), ((b 4), .inl (cI, 4, .inl dl)), ((b 5), .inl (cI, 2, .inl (fun _ => 0))), ((b 6), .inr (3, [.int 0, .ref eD, .int 0])), (o2, .inl (cE, 1, .inr (.inr (.inr (.inl (fun _ => 0))))))]) rfl rfl (by decide) hFc hk1
  have hP : va_P (dC, dI) vwCl ([((b 0), .inr (10, [.int 0, .ref (b 1), .int 0, .int 0, .ref (b 2), .ref (b 3), .ref (b 4), .ref (b 5), .int 0, .int 0, .ref (b 6)])), ((b 1), .inl (c2, 21, .inr (.inr (.inr (.inr dg))))), ((b 2), .inl (cI, 4, .inl (fun _ => 0))), ((b 3), .inl (cI, 4, .inl (fun _ => 0))), ((b 4), .inl (cI, 4, .inl dl)), ((b 5), .inl (cI, 2, .inl (fun _ => 0))), ((b 6), .inr (3, [.int 0, .ref eD, .int 0])), (o2, .inl (cE, 1, .inr (.inr (.inr (.inl (fun _ => 0))))))]) H := hP
  have hD : va_D (fun q : Nat => s.heap.size ≤ q) ([((b 0), .inr (10, [.int 0, .ref (b 1), .int 0, .int 0, .ref (b 2), .ref (b 3), .ref (b 4), .ref (b 5), .int 0, .int 0, .ref (b 6)])), ((b 1), .inl (c2, 21, .inr (.inr (.inr (.inr dg))))), ((b 2), .inl (cI, 4, .inl (fun _ => 0))), ((b 3), .inl (cI, 4, .inl (fun _ => 0))), ((b 4), .inl (cI, 4, .inl dl)), ((b 5), .inl (cI, 2, .inl (fun _ => 0))), ((b 6), .inr (3, [.int 0, .ref eD, .int 0])), (o2, .inl (cE, 1, .inr (.inr (.inr (.inl (fun _ => 0))))))]) := hD
  obtain rfl : r7 = 1 := hw8
  refine lv_istore (lv' := [(6, .int 1), (0, .ref b0), (1, .ref (a 0)), (2, .ref (b 0)), (3, .ref o), (4, .ref o2), (5, .int 0)]) hx hb dL_law_1312 hl (by decide) rfl (fun ls hl => ?_)
  refine lv_aload_n hx hb dL_law_1314 rfl (lv_at hl 3 rfl) ?_
  refine lv_aload_n hx hb dL_law_1315 rfl (lv_at hl 1 rfl) ?_
  refine lv_iload hx hb dL_law_1316 (lv_at hl 6 rfl) ?_
  refine lv_iconst (v := 1) hx hb dL_law_1318 (by decide) ?_
  refine lv_iadd hx hb dL_law_1319 ?_
  refine lv_topi (fun v9 e10 => ?_)
  obtain rfl : v9 = (1 : Int32) := e10.trans (by decide)
  refine va_sld hx hb hX hbl hbA hS (by unfold vp_in; decide) dL_law_1320 ?_
  refine lv_aload_n hx hb dL_law_1321 rfl (lv_at hl 1 rfl) ?_
  refine lv_iload hx hb dL_law_1322 (lv_at hl 6 rfl) ?_
  refine lv_iconst (v := 2) hx hb dL_law_1324 (by decide) ?_
  refine lv_iadd hx hb dL_law_1325 ?_
  refine lv_topi (fun v11 e12 => ?_)
  obtain rfl : v11 = (2 : Int32) := e12.trans (by decide)
  refine va_sld hx hb hX hbl hbA hS (by unfold vp_in; decide) dL_law_1326 ?_
  refine lv_aload_n hx hb dL_law_1327 rfl (lv_at hl 1 rfl) ?_
  refine lv_iload hx hb dL_law_1328 (lv_at hl 6 rfl) ?_
  refine lv_iconst (v := 3) hx hb dL_law_1330 (by decide) ?_
  refine lv_iadd hx hb dL_law_1331 ?_
  refine lv_topi (fun v13 e14 => ?_)
  obtain rfl : v13 = (3 : Int32) := e14.trans (by decide)
  refine va_sld hx hb hX hbl hbA hS (by unfold vp_in; decide) dL_law_1332 ?_
  have hFc := va_free (wc := [((b 0), .inr (10, [.int 0, .ref (b 1), .int 0, .int 0, .ref (b 2), .ref (b 3), .ref (b 4), .ref (b 5), .int 0, .int 0, .ref (b 6)])), ((b 6), .inr (3, [.int 0, .ref eD, .int 0]))]) hD hS hA [0, 6] rfl
  refine va_calli (va_runV (As := [.int (xs (1 : Int32).toNatClampNeg), .int (xs (2 : Int32).toNatClampNeg), .int (xs (3 : Int32).toNatClampNeg)]) (rest := []) ⟨hx, hb, hml, hown, hts⟩ (m_strength l dC dI _ b eD (xs (1 : Int32).toNatClampNeg) (xs (2 : Int32).toNatClampNeg) (xs (3 : Int32).toNatClampNeg)) (cwV 3 hts gL_law_X6_strength rfl rfl rfl (by decide +kernel) ⟨Nat.le_of_ble_eq_true rfl, Nat.le_of_ble_eq_true rfl⟩) ⟨fb_PM, va_recv hK hP (ci := 10) (q0 := 0) rfl rfl, fun U hU hW => ⟨rfl, PM.give hP hK hD hM [0, 6] [] rfl rfl rfl rfl hU hW⟩⟩ rfl rfl hl.1 rfl (lv_room (Nat.le_of_ble_eq_true rfl)) dL_law_1333 ⟨(Nat.le_of_ble_eq_true rfl), (Nat.le_of_ble_eq_true rfl)⟩) hS (fun q _ h => hFc q h) hFc (fun r15 u t H locs ht hvm hw16 hB hz1 hk1 hS => ?_)
  obtain ⟨hP, hD, hK⟩ := aft [0, 6] [] hP hK hD rfl (wr := []) rfl rfl (by decide) hFc hB ht hvm hk1
  have hP : va_P (dC, dI) vwCl ([((b 6), .inr (3, [.int 0, .ref eD, .int 0])), ((b 0), .inr (10, [.int 1, .ref (b 1), .int 0, .int 0, .ref (b 2), .ref (b 3), .ref (b 4), .ref (b 5), .int 0, .int 0, .ref (b 6)]))]) H := hP
  have hD : va_D (fun q : Nat => s.heap.size ≤ q) ([((b 6), .inr (3, [.int 0, .ref eD, .int 0])), ((b 0), .inr (10, [.int 1, .ref (b 1), .int 0, .int 0, .ref (b 2), .ref (b 3), .ref (b 4), .ref (b 5), .int 0, .int 0, .ref (b 6)]))]) := hD
  have hK : va_K (dC, dI) vwCl [(cI, .int), (cS, .object "Snowpalace$Site"), (c2, .array .int), (cJ, .long), (cE, .double)] s := hK
  refine lv_istore (lv' := [(7, .int r15), (6, .int 1), (0, .ref b0), (1, .ref (a 0)), (2, .ref (b 0)), (3, .ref o), (4, .ref o2), (5, .int 0)]) hx hb dL_law_1336 hl (by decide) rfl (fun ls hl => ?_)
  refine lv_aload_n hx hb dL_law_1338 rfl (lv_at hl 4 rfl) ?_
  refine va_calli (va_runV (As := []) (rest := []) ⟨hx, hb, hml, hown, hts⟩ (m_thrown l dC dI _ (b 0) 1 [.ref (b 1), .int 0, .int 0, .ref (b 2), .ref (b 3), .ref (b 4), .ref (b 5), .int 0, .int 0, .ref (b 6)]) (cwV 0 hts gL_law_X6_thrown rfl rfl rfl (by decide +kernel) ⟨Nat.le_of_ble_eq_true rfl, Nat.le_of_ble_eq_true rfl⟩) ⟨fb_PW, va_recv hK hP (ci := 10) (q0 := 1) rfl rfl, fun U hU hW => ⟨rfl, PW.give hP hK hD [1] [] rfl rfl rfl rfl hU hW⟩⟩ rfl rfl hl.1 rfl (lv_room (Nat.le_of_ble_eq_true rfl)) dL_law_1339 ⟨(Nat.le_of_ble_eq_true rfl), (Nat.le_of_ble_eq_true rfl)⟩) hS (fun q _ h => h.elim) (fun q h => h.elim) (fun r17 u t H locs ht hvm hw18 hB hz1 hk1 hS => ?_)
  have hP := kp_P hP hk1
  have hP : va_P (dC, dI) vwCl ([((b 6), .inr (3, [.int 0, .ref eD, .int 0])), ((b 0), .inr (10, [.int 1, .ref (b 1), .int 0, .int 0, .ref (b 2), .ref (b 3), .ref (b 4), .ref (b 5), .int 0, .int 0, .ref (b 6)]))]) H := hP
  have hD : va_D (fun q : Nat => s.heap.size ≤ q) ([((b 6), .inr (3, [.int 0, .ref eD, .int 0])), ((b 0), .inr (10, [.int 1, .ref (b 1), .int 0, .int 0, .ref (b 2), .ref (b 3), .ref (b 4), .ref (b 5), .int 0, .int 0, .ref (b 6)]))]) := hD
  obtain rfl : r17 = 1 := hw18
  refine lv_iload hx hb dL_law_1342 (lv_at hl 1 rfl) ?_
  refine lv_icmp_eq (tgt := 1349) hx hb dL_law_1344 (by decide) (fun _ => ?_) (fun cx => by first | exact absurd (by decide) cx | exact absurd cx (by decide))
  refine lv_iload hx hb dL_law_1349 (lv_at hl 1 rfl) ?_
  refine lv_if_ne (tgt := 1366) hx hb dL_law_1351 (by decide) (fun _ => ?_) (fun cx => by first | exact absurd (by decide) cx | exact absurd cx (by decide))
  refine lv_goto (tgt := 3037) hx hb dL_law_1366 (by decide) ?_
  exact law_exit C0 hS (Nat.le_of_ble_eq_true rfl) (Nat.le_of_ble_eq_true rfl) (lv_sub hl [2, 7] rfl)

set_option maxHeartbeats 4000000 in
set_option maxRecDepth 100000 in
/-- the law, a first call of creep -/
theorem case_19 {p : Program} {l : Launch} {e : Env} {s : State} {m : MethodId} {below : List Frame} {meth : Method} {c : Code} (hlt : l.stackTraces = false) {b0 : Nat} {xs : Nat → Int32} (C0 : lw_At p s m meth c b0 6 xs) (dC : Nat → ClassId) (dI : Nat → Nat → Nat) (a : Nat → Nat) (cI cS : ClassId) (f : Nat → Nat → Int32) (b : Nat → Nat) (c2 : ClassId) (dg : Nat → Option Nat) (dl : Nat → Int32) (eD o o2 : Nat) (cJ cE : ClassId) (Ld : List Nat) {H : Heap} {locs : List Loc} (hw0 : LW dC dI s H locs a cI cS f b c2 dg dl eD o o2 cJ cE Ld) {ls : Array Slot} (hl : lv_has ls 9 [(0, .ref b0), (1, .ref (a 0)), (2, .ref (b 0)), (3, .ref o), (4, .ref o2), (5, .int 0)]) :
    W p l e room_1 s m #[Value.ref b0] below meth c H locs 200 2000 (lw_Z below #[Value.ref b0] s) (F0 m 1369 ls []) := by
  obtain ⟨hx, hb, hr, hml, hown, hts0, hX, hbl, hlocks, hgv⟩ := id C0
  have hts : ∀ w ∈ wzL_law, w.before #[Value.ref b0] s = true := fun w h => hts0 w (wzL_law_in w h)
  have hA : ∀ q : Nat, s.heap.size ≤ q → (fun q : Nat => s.heap.size ≤ q) q := fun _ h => h
  have hbA : ¬ (fun q : Nat => s.heap.size ≤ q) b0 := Nat.not_le.mpr hbl
  obtain ⟨hK, hP, hD, hS, hT, hM, hLX⟩ := hw0
  refine lv_aload_n hx hb dL_law_1369 rfl (lv_at hl 1 rfl) ?_
  refine lv_aload_n hx hb dL_law_1370 rfl (lv_at hl 0 rfl) ?_
  refine lv_iload hx hb dL_law_1371 (lv_at hl 5 rfl) ?_
  refine lv_iconst (v := 1) hx hb dL_law_1373 (by decide) ?_
  refine lv_iadd hx hb dL_law_1374 ?_
  refine lv_topi (fun v1 e2 => ?_)
  obtain rfl : v1 = (1 : Int32) := e2.trans (by decide)
  refine va_sld hx hb hX hbl hbA hS (by unfold vp_in; decide) dL_law_1375 ?_
  refine lv_aload_n hx hb dL_law_1376 rfl (lv_at hl 0 rfl) ?_
  refine lv_iload hx hb dL_law_1377 (lv_at hl 5 rfl) ?_
  refine lv_iconst (v := 2) hx hb dL_law_1379 (by decide) ?_
  refine lv_iadd hx hb dL_law_1380 ?_
  refine lv_topi (fun v3 e4 => ?_)
  obtain rfl : v3 = (2 : Int32) := e4.trans (by decide)
  refine va_sld hx hb hX hbl hbA hS (by unfold vp_in; decide) dL_law_1381 ?_
  refine lv_aload_n hx hb dL_law_1382 rfl (lv_at hl 0 rfl) ?_
  refine lv_iload hx hb dL_law_1383 (lv_at hl 5 rfl) ?_
  refine lv_iconst (v := 3) hx hb dL_law_1385 (by decide) ?_
  refine lv_iadd hx hb dL_law_1386 ?_
  refine lv_topi (fun v5 e6 => ?_)
  obtain rfl : v5 = (3 : Int32) := e6.trans (by decide)
  refine va_sld hx hb hX hbl hbA hS (by unfold vp_in; decide) dL_law_1387 ?_
  refine lv_aload_n hx hb dL_law_1388 rfl (lv_at hl 3 rfl) ?_
  have hFc := va_free (wc := [((a 0), .inr (7, [.ref (a 1), .ref (a 2), .ref (a 3), .int 0, .int 0, .int 0, .int 0, .int 0, .int 0, .int 0])), ((a 1), .inr (6, [.ref (a 4), .ref (a 5), .ref (a 6), .ref (a 7)])), ((a 2), .inr (4, [.ref (a 8), .ref (a 9), .ref (a 10)])), ((a 3), .inl (cS, 3, .inr (.inr (.inr (.inr (fun _ => none)))))), ((a 4), .inl (cI, 21, .inl (f 0))), ((a 5), .inl (cI, 21, .inl (f 1))), ((a 6), .inl (cI, 21, .inl (f 2))), ((a 7), .inl (cI, 21, .inl (f 3))), ((a 8), .inl (cI, 4, .inl (fun _ => 0))), ((a 9), .inl (cI, 4, .inl (fun _ => 0))), ((a 10), .inl (cI, 4, .inl (f 4))), (o, .inl (cJ, 1, .inr (.inl (fun _ => 0))))]) hD hS hA [0, 1, 2, 3, 4, 5, 6, 7, 8, 9, 10, 18] rfl
  refine va_calli (vx_runSW (As := [.ref (a 0), .int (xs (1 : Int32).toNatClampNeg), .int (xs (2 : Int32).toNatClampNeg), .int (xs (3 : Int32).toNatClampNeg), .ref o]) (rest := []) ⟨hx, hb, hml, hown, hts⟩ (h_creep l hlt dC dI _ a cI cS f cJ o (fun _ => 0) (xs (1 : Int32).toNatClampNeg) (xs (2 : Int32).toNatClampNeg) (xs (3 : Int32).toNatClampNeg)) (vx_cwSW 5 hts gL_law_L_creep rfl rfl rfl (by decide +kernel) ⟨Nat.le_of_ble_eq_true rfl, Nat.le_of_ble_eq_true rfl⟩) ⟨fb_PT, fun U hU hW => ⟨rfl, PT.give hP hK hD hS hA hT [0, 1, 2, 3, 4, 5, 6, 7, 8, 9, 10, 18] [0, 1, 3] rfl rfl rfl rfl hU hW⟩⟩ rfl rfl hl.1 rfl (lv_room (Nat.le_of_ble_eq_true rfl)) dL_law_1389 ⟨(Nat.le_of_ble_eq_true rfl), (Nat.le_of_ble_eq_true rfl)⟩) hS (fun q _ h => hFc q h) hFc (fun r7 u t H locs ht hvm hw8 hB hz1 hk1 hS => ?_)
  obtain ⟨hP, hD⟩ := aft0 [0, 1, 2, 3, 4, 5, 6, 7, 8, 9, 10, 18] [11, 12, 13, 14, 15, 16, 17, 19] hP hD rfl (wr := [((b 0), .inr (10, [.int 0, .ref (b 1), .int 0, .int 0, .ref (b 2), .ref (b 3), .ref (b 4), .ref (b 5), .int 0, .int 0, .ref (b 6)])), ((b 1), .inl (c2, 21, .inr (.inr (.inr (.inr dg))))), ((b 2), .inl (cI, 4, .inl (fun _ => 0))), ((b 3), .inl (cI, 4, .inl (fun _ => 0))), ((b 4), .inl (cI, 4, .inl dl)), ((b 5), .inl (cI, 2, .inl (fun _ => 0))), ((b 6), .inr (3, [.int 0, .ref eD, .int 0])), (o2, .inl (cE, 1, .inr (.inr (.inr (.inl (fun _ => 0))))))]) rfl rfl (by decide) hFc hk1
  have hP : va_P (dC, dI) vwCl ([((b 0), .inr (10, [.int 0, .ref (b 1), .int 0, .int 0, .ref (b 2), .ref (b 3), .ref (b 4), .ref (b 5), .int 0, .int 0, .ref (b 6)])), ((b 1), .inl (c2, 21, .inr (.inr (.inr (.inr dg))))), ((b 2), .inl (cI, 4, .inl (fun _ => 0))), ((b 3), .inl (cI, 4, .inl (fun _ => 0))), ((b 4), .inl (cI, 4, .inl dl)), ((b 5), .inl (cI, 2, .inl (fun _ => 0))), ((b 6), .inr (3, [.int 0, .ref eD, .int 0])), (o2, .inl (cE, 1, .inr (.inr (.inr (.inl (fun _ => 0))))))]) H := hP
  have hD : va_D (fun q : Nat => s.heap.size ≤ q) ([((b 0), .inr (10, [.int 0, .ref (b 1), .int 0, .int 0, .ref (b 2), .ref (b 3), .ref (b 4), .ref (b 5), .int 0, .int 0, .ref (b 6)])), ((b 1), .inl (c2, 21, .inr (.inr (.inr (.inr dg))))), ((b 2), .inl (cI, 4, .inl (fun _ => 0))), ((b 3), .inl (cI, 4, .inl (fun _ => 0))), ((b 4), .inl (cI, 4, .inl dl)), ((b 5), .inl (cI, 2, .inl (fun _ => 0))), ((b 6), .inr (3, [.int 0, .ref eD, .int 0])), (o2, .inl (cE, 1, .inr (.inr (.inr (.inl (fun _ => 0))))))]) := hD
  obtain rfl : r7 = 1 := hw8
  refine lv_istore (lv' := [(6, .int 1), (0, .ref b0), (1, .ref (a 0)), (2, .ref (b 0)), (3, .ref o), (4, .ref o2), (5, .int 0)]) hx hb dL_law_1392 hl (by decide) rfl (fun ls hl => ?_)
  refine lv_aload_n hx hb dL_law_1394 rfl (lv_at hl 3 rfl) ?_
  refine lv_aload_n hx hb dL_law_1395 rfl (lv_at hl 1 rfl) ?_
  refine lv_iload hx hb dL_law_1396 (lv_at hl 6 rfl) ?_
  refine lv_iconst (v := 1) hx hb dL_law_1398 (by decide) ?_
  refine lv_iadd hx hb dL_law_1399 ?_
  refine lv_topi (fun v9 e10 => ?_)
  obtain rfl : v9 = (1 : Int32) := e10.trans (by decide)
  refine va_sld hx hb hX hbl hbA hS (by unfold vp_in; decide) dL_law_1400 ?_
  refine lv_aload_n hx hb dL_law_1401 rfl (lv_at hl 1 rfl) ?_
  refine lv_iload hx hb dL_law_1402 (lv_at hl 6 rfl) ?_
  refine lv_iconst (v := 2) hx hb dL_law_1404 (by decide) ?_
  refine lv_iadd hx hb dL_law_1405 ?_
  refine lv_topi (fun v11 e12 => ?_)
  obtain rfl : v11 = (2 : Int32) := e12.trans (by decide)
  refine va_sld hx hb hX hbl hbA hS (by unfold vp_in; decide) dL_law_1406 ?_
  refine lv_aload_n hx hb dL_law_1407 rfl (lv_at hl 1 rfl) ?_
  refine lv_iload hx hb dL_law_1408 (lv_at hl 6 rfl) ?_
  refine lv_iconst (v := 3) hx hb dL_law_1410 (by decide) ?_
  refine lv_iadd hx hb dL_law_1411 ?_
  refine lv_topi (fun v13 e14 => ?_)
  obtain rfl : v13 = (3 : Int32) := e14.trans (by decide)
  refine va_sld hx hb hX hbl hbA hS (by unfold vp_in; decide) dL_law_1412 ?_
  have hFc := va_free (wc := [((b 0), .inr (10, [.int 0, .ref (b 1), .int 0, .int 0, .ref (b 2), .ref (b 3), .ref (b 4), .ref (b 5), .int 0, .int 0, .ref (b 6)])), ((b 6), .inr (3, [.int 0, .ref eD, .int 0]))]) hD hS hA [0, 6] rfl
  refine va_calli (va_runV (As := [.int (xs (1 : Int32).toNatClampNeg), .int (xs (2 : Int32).toNatClampNeg), .int (xs (3 : Int32).toNatClampNeg)]) (rest := []) ⟨hx, hb, hml, hown, hts⟩ (m_creep l dC dI _ b eD (xs (1 : Int32).toNatClampNeg) (xs (2 : Int32).toNatClampNeg) (xs (3 : Int32).toNatClampNeg)) (cwV 3 hts gL_law_X6_creep rfl rfl rfl (by decide +kernel) ⟨Nat.le_of_ble_eq_true rfl, Nat.le_of_ble_eq_true rfl⟩) ⟨fb_PM, va_recv hK hP (ci := 10) (q0 := 0) rfl rfl, fun U hU hW => ⟨rfl, PM.give hP hK hD hM [0, 6] [] rfl rfl rfl rfl hU hW⟩⟩ rfl rfl hl.1 rfl (lv_room (Nat.le_of_ble_eq_true rfl)) dL_law_1413 ⟨(Nat.le_of_ble_eq_true rfl), (Nat.le_of_ble_eq_true rfl)⟩) hS (fun q _ h => hFc q h) hFc (fun r15 u t H locs ht hvm hw16 hB hz1 hk1 hS => ?_)
  obtain ⟨hP, hD, hK⟩ := aft [0, 6] [] hP hK hD rfl (wr := []) rfl rfl (by decide) hFc hB ht hvm hk1
  have hP : va_P (dC, dI) vwCl ([((b 6), .inr (3, [.int 0, .ref eD, .int 0])), ((b 0), .inr (10, [.int 1, .ref (b 1), .int 0, .int 0, .ref (b 2), .ref (b 3), .ref (b 4), .ref (b 5), .int 0, .int 0, .ref (b 6)]))]) H := hP
  have hD : va_D (fun q : Nat => s.heap.size ≤ q) ([((b 6), .inr (3, [.int 0, .ref eD, .int 0])), ((b 0), .inr (10, [.int 1, .ref (b 1), .int 0, .int 0, .ref (b 2), .ref (b 3), .ref (b 4), .ref (b 5), .int 0, .int 0, .ref (b 6)]))]) := hD
  have hK : va_K (dC, dI) vwCl [(cI, .int), (cS, .object "Snowpalace$Site"), (c2, .array .int), (cJ, .long), (cE, .double)] s := hK
  refine lv_istore (lv' := [(7, .int r15), (6, .int 1), (0, .ref b0), (1, .ref (a 0)), (2, .ref (b 0)), (3, .ref o), (4, .ref o2), (5, .int 0)]) hx hb dL_law_1416 hl (by decide) rfl (fun ls hl => ?_)
  refine lv_aload_n hx hb dL_law_1418 rfl (lv_at hl 4 rfl) ?_
  refine va_calli (va_runV (As := []) (rest := []) ⟨hx, hb, hml, hown, hts⟩ (m_thrown l dC dI _ (b 0) 1 [.ref (b 1), .int 0, .int 0, .ref (b 2), .ref (b 3), .ref (b 4), .ref (b 5), .int 0, .int 0, .ref (b 6)]) (cwV 0 hts gL_law_X6_thrown rfl rfl rfl (by decide +kernel) ⟨Nat.le_of_ble_eq_true rfl, Nat.le_of_ble_eq_true rfl⟩) ⟨fb_PW, va_recv hK hP (ci := 10) (q0 := 1) rfl rfl, fun U hU hW => ⟨rfl, PW.give hP hK hD [1] [] rfl rfl rfl rfl hU hW⟩⟩ rfl rfl hl.1 rfl (lv_room (Nat.le_of_ble_eq_true rfl)) dL_law_1419 ⟨(Nat.le_of_ble_eq_true rfl), (Nat.le_of_ble_eq_true rfl)⟩) hS (fun q _ h => h.elim) (fun q h => h.elim) (fun r17 u t H locs ht hvm hw18 hB hz1 hk1 hS => ?_)
  have hP := kp_P hP hk1
  have hP : va_P (dC, dI) vwCl ([((b 6), .inr (3, [.int 0, .ref eD, .int 0])), ((b 0), .inr (10, [.int 1, .ref (b 1), .int 0, .int 0, .ref (b 2), .ref (b 3), .ref (b 4), .ref (b 5), .int 0, .int 0, .ref (b 6)]))]) H := hP
  have hD : va_D (fun q : Nat => s.heap.size ≤ q) ([((b 6), .inr (3, [.int 0, .ref eD, .int 0])), ((b 0), .inr (10, [.int 1, .ref (b 1), .int 0, .int 0, .ref (b 2), .ref (b 3), .ref (b 4), .ref (b 5), .int 0, .int 0, .ref (b 6)]))]) := hD
  obtain rfl : r17 = 1 := hw18
  refine lv_iload hx hb dL_law_1422 (lv_at hl 1 rfl) ?_
  refine lv_icmp_eq (tgt := 1429) hx hb dL_law_1424 (by decide) (fun _ => ?_) (fun cx => by first | exact absurd (by decide) cx | exact absurd cx (by decide))
  refine lv_iload hx hb dL_law_1429 (lv_at hl 1 rfl) ?_
  refine lv_if_ne (tgt := 1446) hx hb dL_law_1431 (by decide) (fun _ => ?_) (fun cx => by first | exact absurd (by decide) cx | exact absurd cx (by decide))
  refine lv_goto (tgt := 3037) hx hb dL_law_1446 (by decide) ?_
  exact law_exit C0 hS (Nat.le_of_ble_eq_true rfl) (Nat.le_of_ble_eq_true rfl) (lv_sub hl [2, 7] rfl)

