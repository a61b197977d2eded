set_option maxHeartbeats 4000000 in
set_option maxRecDepth 100000 in
/-- the law, a first call of lightBits -/
theorem case_26 {p : Program} {l : Launch} {e : Env} {s : State} {m : MethodId} {below : List Frame} {meth : Method} {c : Code} (hlt : l.stackTraces = false) {b0 : Nat} {xs : Nat → Int32} (C0 : lw_At p s m meth c b0 6 xs) (dC : Nat → ClassId) (dI : Nat → Nat → Nat) (a : Nat → Nat) (cI cS : ClassId) (f : Nat → Nat → Int32) (b : Nat → Nat) (c2 : ClassId) (dg : Nat → Option Nat) (dl : Nat → Int32) (eD o o2 : Nat) (cJ cE : ClassId) (Ld : List Nat) {H : Heap} {locs : List Loc} (hw0 : LW dC dI s H locs a cI cS f b c2 dg dl eD o o2 cJ cE Ld) {ls : Array Slot} (hl : lv_has ls 9 [(0, .ref b0), (1, .ref (a 0)), (2, .ref (b 0)), (3, .ref o), (4, .ref o2), (5, .int 0)]) :
    W p l e room_1 s m #[Value.ref b0] below meth c H locs 200 2000 (lw_Z below #[Value.ref b0] s) (F0 m 1934 ls []) := by
  obtain ⟨hx, hb, hr, hml, hown, hts0, hX, hbl, hlocks, hgv⟩ := id C0
  have hts : ∀ w ∈ wzL_law, w.before #[Value.ref b0] s = true := fun w h => hts0 w (wzL_law_in w h)
  have hA : ∀ q : Nat, s.heap.size ≤ q → (fun q : Nat => s.heap.size ≤ q) q := fun _ h => h
  have hbA : ¬ (fun q : Nat => s.heap.size ≤ q) b0 := Nat.not_le.mpr hbl
  obtain ⟨hK, hP, hD, hS, hT, hM, hLX⟩ := hw0
  refine lv_aload_n hx hb dL_law_1934 rfl (lv_at hl 1 rfl) ?_
  refine lv_aload_n hx hb dL_law_1935 rfl (lv_at hl 0 rfl) ?_
  refine lv_iload hx hb dL_law_1936 (lv_at hl 5 rfl) ?_
  refine lv_iconst (v := 1) hx hb dL_law_1938 (by decide) ?_
  refine lv_iadd hx hb dL_law_1939 ?_
  refine lv_topi (fun v1 e2 => ?_)
  obtain rfl : v1 = (1 : Int32) := e2.trans (by decide)
  refine va_sld hx hb hX hbl hbA hS (by unfold vp_in; decide) dL_law_1940 ?_
  refine lv_aload_n hx hb dL_law_1941 rfl (lv_at hl 0 rfl) ?_
  refine lv_iload hx hb dL_law_1942 (lv_at hl 5 rfl) ?_
  refine lv_iconst (v := 2) hx hb dL_law_1944 (by decide) ?_
  refine lv_iadd hx hb dL_law_1945 ?_
  refine lv_topi (fun v3 e4 => ?_)
  obtain rfl : v3 = (2 : Int32) := e4.trans (by decide)
  refine va_sld hx hb hX hbl hbA hS (by unfold vp_in; decide) dL_law_1946 ?_
  refine lv_aload_n hx hb dL_law_1947 rfl (lv_at hl 0 rfl) ?_
  refine lv_iload hx hb dL_law_1948 (lv_at hl 5 rfl) ?_
  refine lv_iconst (v := 3) hx hb dL_law_1950 (by decide) ?_
  refine lv_iadd hx hb dL_law_1951 ?_
  refine lv_topi (fun v5 e6 => ?_)
  obtain rfl : v5 = (3 : Int32) := e6.trans (by decide)
  refine va_sld hx hb hX hbl hbA hS (by unfold vp_in; decide) dL_law_1952 ?_
  refine lv_aload_n hx hb dL_law_1953 rfl (lv_at hl 3 rfl) ?_
  have hFc := va_free (wc := [((a 0), .inr (7, [.ref (a 1), .ref (a 2), .ref (a 3), .int 0, .int 0, .int 0, .int 0, .int 0, .int 0, .int 0])), ((a 1), .inr (6, [.ref (a 4), .ref (a 5), .ref (a 6), .ref (a 7)])), ((a 2), .inr (4, [.ref (a 8), .ref (a 9), .ref (a 10)])), ((a 3), .inl (cS, 3, .inr (.inr (.inr (.inr (fun _ => none)))))), ((a 4), .inl (cI, 21, .inl (f 0))), ((a 5), .inl (cI, 21, .inl (f 1))), ((a 6), .inl (cI, 21, .inl (f 2))), ((a 7), .inl (cI, 21, .inl (f 3))), ((a 8), .inl (cI, 4, .inl (fun _ => 0))), ((a 9), .inl (cI, 4, .inl (fun _ => 0))), ((a 10), .inl (cI, 4, .inl (f 4))), (o, .inl (cJ, 1, .inr (.inl (fun _ => 0))))]) hD hS hA [0, 1, 2, 3, 4, 5, 6, 7, 8, 9, 10, 18] rfl
  refine va_calli (vx_runSW (As := [.ref (a 0), .int (xs (1 : Int32).toNatClampNeg), .int (xs (2 : Int32).toNatClampNeg), .int (xs (3 : Int32).toNatClampNeg), .ref o]) (rest := []) ⟨hx, hb, hml, hown, hts⟩ (h_lightBits l hlt dC dI _ a cI cS f cJ o (fun _ => 0) (xs (1 : Int32).toNatClampNeg) (xs (2 : Int32).toNatClampNeg) (xs (3 : Int32).toNatClampNeg)) (vx_cwSW 5 hts gL_law_L_lightBits rfl rfl rfl (by decide +kernel) ⟨Nat.le_of_ble_eq_true rfl, Nat.le_of_ble_eq_true rfl⟩) ⟨fb_PT, fun U hU hW => ⟨rfl, PT.give hP hK hD hS hA hT [0, 1, 2, 3, 4, 5, 6, 7, 8, 9, 10, 18] [0, 1, 3] rfl rfl rfl rfl hU hW⟩⟩ rfl rfl hl.1 rfl (lv_room (Nat.le_of_ble_eq_true rfl)) dL_law_1954 ⟨(Nat.le_of_ble_eq_true rfl), (Nat.le_of_ble_eq_true rfl)⟩) hS (fun q _ h => hFc q h) hFc (fun r7 u t H locs ht hvm hw8 hB hz1 hk1 hS => ?_)
  obtain ⟨hP, hD⟩ := aft0 [0, 1, 2, 3, 4, 5, 6, 7, 8, 9, 10, 18] [11, 12, 13, 14, 15, 16, 17, 19] hP hD rfl (wr := [((b 0), .inr (10, [.int 0, .ref (b 1), .int 0, .int 0, .ref (b 2), .ref (b 3), .ref (b 4), .ref (b 5), .int 0, .int 0, .ref (b 6)])), ((b 1), .inl (c2, 21, .inr (.inr (.inr (.inr dg))))), ((b 2), .inl (cI, 4, .inl (fun _ => 0))), ((b 3), .inl (cI, 4, .inl (fun _ => 0))), ((b 4), .inl (cI, 4, .inl dl)), ((b 5), .inl (cI, 2, .inl (fun _ => 0))), ((b 6), .inr (3, [.int 0, .ref eD, .int 0])), (o2, .inl (cE, 1, .inr (.inr (.inr (.inl (fun _ => 0))))))]) rfl rfl (by decide) hFc hk1
  have hP : va_P (dC, dI) vwCl ([((b 0), .inr (10, [.int 0, .ref (b 1), .int 0, .int 0, .ref (b 2), .ref (b 3), .ref (b 4), .ref (b 5), .int 0, .int 0, .ref (b 6)])), ((b 1), .inl (c2, 21, .inr (.inr (.inr (.inr dg))))), ((b 2), .inl (cI, 4, .inl (fun _ => 0))), ((b 3), .inl (cI, 4, .inl (fun _ => 0))), ((b 4), .inl (cI, 4, .inl dl)), ((b 5), .inl (cI, 2, .inl (fun _ => 0))), ((b 6), .inr (3, [.int 0, .ref eD, .int 0])), (o2, .inl (cE, 1, .inr (.inr (.inr (.inl (fun _ => 0))))))]) H := hP
  have hD : va_D (fun q : Nat => s.heap.size ≤ q) ([((b 0), .inr (10, [.int 0, .ref (b 1), .int 0, .int 0, .ref (b 2), .ref (b 3), .ref (b 4), .ref (b 5), .int 0, .int 0, .ref (b 6)])), ((b 1), .inl (c2, 21, .inr (.inr (.inr (.inr dg))))), ((b 2), .inl (cI, 4, .inl (fun _ => 0))), ((b 3), .inl (cI, 4, .inl (fun _ => 0))), ((b 4), .inl (cI, 4, .inl dl)), ((b 5), .inl (cI, 2, .inl (fun _ => 0))), ((b 6), .inr (3, [.int 0, .ref eD, .int 0])), (o2, .inl (cE, 1, .inr (.inr (.inr (.inl (fun _ => 0))))))]) := hD
  obtain rfl : r7 = 1 := hw8
  refine lv_istore (lv' := [(6, .int 1), (0, .ref b0), (1, .ref (a 0)), (2, .ref (b 0)), (3, .ref o), (4, .ref o2), (5, .int 0)]) hx hb dL_law_1957 hl (by decide) rfl (fun ls hl => ?_)
  refine lv_aload_n hx hb dL_law_1959 rfl (lv_at hl 3 rfl) ?_
  refine lv_aload_n hx hb dL_law_1960 rfl (lv_at hl 1 rfl) ?_
  refine lv_iload hx hb dL_law_1961 (lv_at hl 6 rfl) ?_
  refine lv_iconst (v := 1) hx hb dL_law_1963 (by decide) ?_
  refine lv_iadd hx hb dL_law_1964 ?_
  refine lv_topi (fun v9 e10 => ?_)
  obtain rfl : v9 = (1 : Int32) := e10.trans (by decide)
  refine va_sld hx hb hX hbl hbA hS (by unfold vp_in; decide) dL_law_1965 ?_
  refine lv_aload_n hx hb dL_law_1966 rfl (lv_at hl 1 rfl) ?_
  refine lv_iload hx hb dL_law_1967 (lv_at hl 6 rfl) ?_
  refine lv_iconst (v := 2) hx hb dL_law_1969 (by decide) ?_
  refine lv_iadd hx hb dL_law_1970 ?_
  refine lv_topi (fun v11 e12 => ?_)
  obtain rfl : v11 = (2 : Int32) := e12.trans (by decide)
  refine va_sld hx hb hX hbl hbA hS (by unfold vp_in; decide) dL_law_1971 ?_
  refine lv_aload_n hx hb dL_law_1972 rfl (lv_at hl 1 rfl) ?_
  refine lv_iload hx hb dL_law_1973 (lv_at hl 6 rfl) ?_
  refine lv_iconst (v := 3) hx hb dL_law_1975 (by decide) ?_
  refine lv_iadd hx hb dL_law_1976 ?_
  refine lv_topi (fun v13 e14 => ?_)
  obtain rfl : v13 = (3 : Int32) := e14.trans (by decide)
  refine va_sld hx hb hX hbl hbA hS (by unfold vp_in; decide) dL_law_1977 ?_
  have hFc := va_free (wc := [((b 0), .inr (10, [.int 0, .ref (b 1), .int 0, .int 0, .ref (b 2), .ref (b 3), .ref (b 4), .ref (b 5), .int 0, .int 0, .ref (b 6)])), ((b 6), .inr (3, [.int 0, .ref eD, .int 0]))]) hD hS hA [0, 6] rfl
  refine va_calli (va_runV (As := [.int (xs (1 : Int32).toNatClampNeg), .int (xs (2 : Int32).toNatClampNeg), .int (xs (3 : Int32).toNatClampNeg)]) (rest := []) ⟨hx, hb, hml, hown, hts⟩ (m_lightBits l dC dI _ b eD (xs (1 : Int32).toNatClampNeg) (xs (2 : Int32).toNatClampNeg) (xs (3 : Int32).toNatClampNeg)) (cwV 3 hts gL_law_X6_lightBits rfl rfl rfl (by decide +kernel) ⟨Nat.le_of_ble_eq_true rfl, Nat.le_of_ble_eq_true rfl⟩) ⟨fb_PM, va_recv hK hP (ci := 10) (q0 := 0) rfl rfl, fun U hU hW => ⟨rfl, PM.give hP hK hD hM [0, 6] [] rfl rfl rfl rfl hU hW⟩⟩ rfl rfl hl.1 rfl (lv_room (Nat.le_of_ble_eq_true rfl)) dL_law_1978 ⟨(Nat.le_of_ble_eq_true rfl), (Nat.le_of_ble_eq_true rfl)⟩) hS (fun q _ h => hFc q h) hFc (fun r15 u t H locs ht hvm hw16 hB hz1 hk1 hS => ?_)
  obtain ⟨hP, hD, hK⟩ := aft [0, 6] [] hP hK hD rfl (wr := []) rfl rfl (by decide) hFc hB ht hvm hk1
  have hP : va_P (dC, dI) vwCl ([((b 6), .inr (3, [.int 0, .ref eD, .int 0])), ((b 0), .inr (10, [.int 1, .ref (b 1), .int 0, .int 0, .ref (b 2), .ref (b 3), .ref (b 4), .ref (b 5), .int 0, .int 0, .ref (b 6)]))]) H := hP
  have hD : va_D (fun q : Nat => s.heap.size ≤ q) ([((b 6), .inr (3, [.int 0, .ref eD, .int 0])), ((b 0), .inr (10, [.int 1, .ref (b 1), .int 0, .int 0, .ref (b 2), .ref (b 3), .ref (b 4), .ref (b 5), .int 0, .int 0, .ref (b 6)]))]) := hD
  have hK : va_K (dC, dI) vwCl [(cI, .int), (cS, .object "Snowpalace$Site"), (c2, .array .int), (cJ, .long), (cE, .double)] s := hK
  refine lv_istore (lv' := [(7, .int r15), (6, .int 1), (0, .ref b0), (1, .ref (a 0)), (2, .ref (b 0)), (3, .ref o), (4, .ref o2), (5, .int 0)]) hx hb dL_law_1981 hl (by decide) rfl (fun ls hl => ?_)
  refine lv_aload_n hx hb dL_law_1983 rfl (lv_at hl 4 rfl) ?_
  refine va_calli (va_runV (As := []) (rest := []) ⟨hx, hb, hml, hown, hts⟩ (m_thrown l dC dI _ (b 0) 1 [.ref (b 1), .int 0, .int 0, .ref (b 2), .ref (b 3), .ref (b 4), .ref (b 5), .int 0, .int 0, .ref (b 6)]) (cwV 0 hts gL_law_X6_thrown rfl rfl rfl (by decide +kernel) ⟨Nat.le_of_ble_eq_true rfl, Nat.le_of_ble_eq_true rfl⟩) ⟨fb_PW, va_recv hK hP (ci := 10) (q0 := 1) rfl rfl, fun U hU hW => ⟨rfl, PW.give hP hK hD [1] [] rfl rfl rfl rfl hU hW⟩⟩ rfl rfl hl.1 rfl (lv_room (Nat.le_of_ble_eq_true rfl)) dL_law_1984 ⟨(Nat.le_of_ble_eq_true rfl), (Nat.le_of_ble_eq_true rfl)⟩) hS (fun q _ h => h.elim) (fun q h => h.elim) (fun r17 u t H locs ht hvm hw18 hB hz1 hk1 hS => ?_)
  have hP := kp_P hP hk1
  have hP : va_P (dC, dI) vwCl ([((b 6), .inr (3, [.int 0, .ref eD, .int 0])), ((b 0), .inr (10, [.int 1, .ref (b 1), .int 0, .int 0, .ref (b 2), .ref (b 3), .ref (b 4), .ref (b 5), .int 0, .int 0, .ref (b 6)]))]) H := hP
  have hD : va_D (fun q : Nat => s.heap.size ≤ q) ([((b 6), .inr (3, [.int 0, .ref eD, .int 0])), ((b 0), .inr (10, [.int 1, .ref (b 1), .int 0, .int 0, .ref (b 2), .ref (b 3), .ref (b 4), .ref (b 5), .int 0, .int 0, .ref (b 6)]))]) := hD
  obtain rfl : r17 = 1 := hw18
  refine lv_iload hx hb dL_law_1987 (lv_at hl 1 rfl) ?_
  refine lv_icmp_eq (tgt := 1994) hx hb dL_law_1989 (by decide) (fun _ => ?_) (fun cx => by first | exact absurd (by decide) cx | exact absurd cx (by decide))
  refine lv_iload hx hb dL_law_1994 (lv_at hl 1 rfl) ?_
  refine lv_if_ne (tgt := 2011) hx hb dL_law_1996 (by decide) (fun _ => ?_) (fun cx => by first | exact absurd (by decide) cx | exact absurd cx (by decide))
  refine lv_goto (tgt := 3037) hx hb dL_law_2011 (by decide) ?_
  exact law_exit C0 hS (Nat.le_of_ble_eq_true rfl) (Nat.le_of_ble_eq_true rfl) (lv_sub hl [2, 7] rfl)

set_option maxHeartbeats 4000000 in
set_option maxRecDepth 100000 in
/-- the law, a first call of isOpen -/
theorem case_27 {p : Program} {l : Launch} {e : Env} {s : State} {m : MethodId} {below : List Frame} {meth : Method} {c : Code} (hlt : l.stackTraces = false) {b0 : Nat} {xs : Nat → Int32} (C0 : lw_At p s m meth c b0 6 xs) (dC : Nat → ClassId) (dI : Nat → Nat → Nat) (a : Nat → Nat) (cI cS : ClassId) (f : Nat → Nat → Int32) (b : Nat → Nat) (c2 : ClassId) (dg : Nat → Option Nat) (dl : Nat → Int32) (eD o o2 : Nat) (cJ cE : ClassId) (Ld : List Nat) {H : Heap} {locs : List Loc} (hw0 : LW dC dI s H locs a cI cS f b c2 dg dl eD o o2 cJ cE Ld) {ls : Array Slot} (hl : lv_has ls 9 [(0, .ref b0), (1, .ref (a 0)), (2, .ref (b 0)), (3, .ref o), (4, .ref o2), (5, .int 0)]) :
    W p l e room_1 s m #[Value.ref b0] below meth c H locs 200 2000 (lw_Z below #[Value.ref b0] s) (F0 m 2014 ls []) := by
  obtain ⟨hx, hb, hr, hml, hown, hts0, hX, hbl, hlocks, hgv⟩ := id C0
  have hts : ∀ w ∈ wzL_law, w.before #[Value.ref b0] s = true := fun w h => hts0 w (wzL_law_in w h)
  have hA : ∀ q : Nat, s.heap.size ≤ q → (fun q : Nat => s.heap.size ≤ q) q := fun _ h => h
  have hbA : ¬ (fun q : Nat => s.heap.size ≤ q) b0 := Nat.not_le.mpr hbl
  obtain ⟨hK, hP, hD, hS, hT, hM, hLX⟩ := hw0
  refine lv_aload_n hx hb dL_law_2014 rfl (lv_at hl 1 rfl) ?_
  refine lv_aload_n hx hb dL_law_2015 rfl (lv_at hl 0 rfl) ?_
  refine lv_iload hx hb dL_law_2016 (lv_at hl 5 rfl) ?_
  refine lv_iconst (v := 1) hx hb dL_law_2018 (by decide) ?_
  refine lv_iadd hx hb dL_law_2019 ?_
  refine lv_topi (fun v1 e2 => ?_)
  obtain rfl : v1 = (1 : Int32) := e2.trans (by decide)
  refine va_sld hx hb hX hbl hbA hS (by unfold vp_in; decide) dL_law_2020 ?_
  refine lv_aload_n hx hb dL_law_2021 rfl (lv_at hl 3 rfl) ?_
  have hFc := va_free (wc := [((a 0), .inr (7, [.ref (a 1), .ref (a 2), .ref (a 3), .int 0, .int 0, .int 0, .int 0, .int 0, .int 0, .int 0])), ((a 1), .inr (6, [.ref (a 4), .ref (a 5), .ref (a 6), .ref (a 7)])), ((a 2), .inr (4, [.ref (a 8), .ref (a 9), .ref (a 10)])), ((a 3), .inl (cS, 3, .inr (.inr (.inr (.inr (fun _ => none)))))), ((a 4), .inl (cI, 21, .inl (f 0))), ((a 5), .inl (cI, 21, .inl (f 1))), ((a 6), .inl (cI, 21, .inl (f 2))), ((a 7), .inl (cI, 21, .inl (f 3))), ((a 8), .inl (cI, 4, .inl (fun _ => 0))), ((a 9), .inl (cI, 4, .inl (fun _ => 0))), ((a 10), .inl (cI, 4, .inl (f 4))), (o, .inl (cJ, 1, .inr (.inl (fun _ => 0))))]) hD hS hA [0, 1, 2, 3, 4, 5, 6, 7, 8, 9, 10, 18] rfl
  refine va_calli (vx_runSW (As := [.ref (a 0), .int (xs (1 : Int32).toNatClampNeg), .ref o]) (rest := []) ⟨hx, hb, hml, hown, hts⟩ (h_isOpen l hlt dC dI _ a cI cS f cJ o (fun _ => 0) (xs (1 : Int32).toNatClampNeg)) (vx_cwSW 3 hts gL_law_L_isOpen rfl rfl rfl (by decide +kernel) ⟨Nat.le_of_ble_eq_true rfl, Nat.le_of_ble_eq_true rfl⟩) ⟨fb_PT, fun U hU hW => ⟨rfl, PT.give hP hK hD hS hA hT [0, 1, 2, 3, 4, 5, 6, 7, 8, 9, 10, 18] [0, 1, 3] rfl rfl rfl rfl hU hW⟩⟩ rfl rfl hl.1 rfl (lv_room (Nat.le_of_ble_eq_true rfl)) dL_law_2022 ⟨(Nat.le_of_ble_eq_true rfl), (Nat.le_of_ble_eq_true rfl)⟩) hS (fun q _ h => hFc q h) hFc (fun r3 u t H locs ht hvm hw4 hB hz1 hk1 hS => ?_)
  obtain ⟨hP, hD⟩ := aft0 [0, 1, 2, 3, 4, 5, 6, 7, 8, 9, 10, 18] [11, 12, 13, 14, 15, 16, 17, 19] hP hD rfl (wr := [((b 0), .inr (10, [.int 0, .ref (b 1), .int 0, .int 0, .ref (b 2), .ref (b 3), .ref (b 4), .ref (b 5), .int 0, .int 0, .ref (b 6)])), ((b 1), .inl (c2, 21, .inr (.inr (.inr (.inr dg))))), ((b 2), .inl (cI, 4, .inl (fun _ => 0))), ((b 3), .inl (cI, 4, .inl (fun _ => 0))), ((b 4), .inl (cI, 4, .inl dl)), ((b 5), .inl (cI, 2, .inl (fun _ => 0))), ((b 6), .inr (3, [.int 0, .ref eD, .int 0])), (o2, .inl (cE, 1, .inr (.inr (.inr (.inl (fun _ => 0))))))]) rfl rfl (by decide) hFc hk1
  have hP : va_P (dC, dI) vwCl ([((b 0), .inr (10, [.int 0, .ref (b 1), .int 0, .int 0, .ref (b 2), .ref (b 3), .ref (b 4), .ref (b 5), .int 0, .int 0, .ref (b 6)])), ((b 1), .inl (c2, 21, .inr (.inr (.inr (.inr dg))))), ((b 2), .inl (cI, 4, .inl (fun _ => 0))), ((b 3), .inl (cI, 4, .inl (fun _ => 0))), ((b 4), .inl (cI, 4, .inl dl)), ((b 5), .inl (cI, 2, .inl (fun _ => 0))), ((b 6), .inr (3, [.int 0, .ref eD, .int 0])), (o2, .inl (cE, 1, .inr (.inr (.inr (.inl (fun _ => 0))))))]) H := hP
  have hD : va_D (fun q : Nat => s.heap.size ≤ q) ([((b 0), .inr (10, [.int 0, .ref (b 1), .int 0, .int 0, .ref (b 2), .ref (b 3), .ref (b 4), .ref (b 5), .int 0, .int 0, .ref (b 6)])), ((b 1), .inl (c2, 21, .inr (.inr (.inr (.inr dg))))), ((b 2), .inl (cI, 4, .inl (fun _ => 0))), ((b 3), .inl (cI, 4, .inl (fun _ => 0))), ((b 4), .inl (cI, 4, .inl dl)), ((b 5), .inl (cI, 2, .inl (fun _ => 0))), ((b 6), .inr (3, [.int 0, .ref eD, .int 0])), (o2, .inl (cE, 1, .inr (.inr (.inr (.inl (fun _ => 0))))))]) := hD
  obtain rfl : r3 = 1 := hw4
  refine lv_istore (lv' := [(6, .int 1), (0, .ref b0), (1, .ref (a 0)), (2, .ref (b 0)), (3, .ref o), (4, .ref o2), (5, .int 0)]) hx hb dL_law_2025 hl (by decide) rfl (fun ls hl => ?_)
  refine lv_aload_n hx hb dL_law_2027 rfl (lv_at hl 3 rfl) ?_
  refine lv_aload_n hx hb dL_law_2028 rfl (lv_at hl 1 rfl) ?_
  refine lv_iload hx hb dL_law_2029 (lv_at hl 6 rfl) ?_
  refine lv_iconst (v := 1) hx hb dL_law_2031 (by decide) ?_
  refine lv_iadd hx hb dL_law_2032 ?_
  refine lv_topi (fun v5 e6 => ?_)
  obtain rfl : v5 = (1 : Int32) := e6.trans (by decide)
  refine va_sld hx hb hX hbl hbA hS (by unfold vp_in; decide) dL_law_2033 ?_
  have hFc := va_free (wc := [((b 0), .inr (10, [.int 0, .ref (b 1), .int 0, .int 0, .ref (b 2), .ref (b 3), .ref (b 4), .ref (b 5), .int 0, .int 0, .ref (b 6)])), ((b 6), .inr (3, [.int 0, .ref eD, .int 0]))]) hD hS hA [0, 6] rfl
  refine va_calli (va_runV (As := [.int (xs (1 : Int32).toNatClampNeg)]) (rest := []) ⟨hx, hb, hml, hown, hts⟩ (m_isOpen l dC dI _ b eD (xs (1 : Int32).toNatClampNeg)) (cwV 1 hts gL_law_X6_isOpen rfl rfl rfl (by decide +kernel) ⟨Nat.le_of_ble_eq_true rfl, Nat.le_of_ble_eq_true rfl⟩) ⟨fb_PM, va_recv hK hP (ci := 10) (q0 := 0) rfl rfl, fun U hU hW => ⟨rfl, PM.give hP hK hD hM [0, 6] [] rfl rfl rfl rfl hU hW⟩⟩ rfl rfl hl.1 rfl (lv_room (Nat.le_of_ble_eq_true rfl)) dL_law_2034 ⟨(Nat.le_of_ble_eq_true rfl), (Nat.le_of_ble_eq_true rfl)⟩) hS (fun q _ h => hFc q h) hFc (fun r7 u t H locs ht hvm hw8 hB hz1 hk1 hS => ?_)
  obtain ⟨hP, hD, hK⟩ := aft [0, 6] [] hP hK hD rfl (wr := []) rfl rfl (by decide) hFc hB ht hvm hk1
  have hP : va_P (dC, dI) vwCl ([((b 6), .inr (3, [.int 0, .ref eD, .int 0])), ((b 0), .inr (10, [.int 1, .ref (b 1), .int 0, .int 0, .ref (b 2), .ref (b 3), .ref (b 4), .ref (b 5), .int 0, .int 0, .ref (b 6)]))]) H := hP
  have hD : va_D (fun q : Nat => s.heap.size ≤ q) ([((b 6), .inr (3, [.int 0, .ref eD, .int 0])), ((b 0), .inr (10, [.int 1, .ref (b 1), .int 0, .int 0, .ref (b 2), .ref (b 3), .ref (b 4), .ref (b 5), .int 0, .int 0, .ref (b 6)]))]) := hD
  have hK : va_K (dC, dI) vwCl [(cI, .int), (cS, .object "Snowpalace$Site"), (c2, .array .int), (cJ, .long), (cE, .double)] s := hK
  refine lv_istore (lv' := [(7, .int r7), (6, .int 1), (0, .ref b0), (1, .ref (a 0)), (2, .ref (b 0)), (3, .ref o), (4, .ref o2), (5, .int 0)]) hx hb dL_law_2037 hl (by decide) rfl (fun ls hl => ?_)
  refine lv_aload_n hx hb dL_law_2039 rfl (lv_at hl 4 rfl) ?_
  refine va_calli (va_runV (As := []) (rest := []) ⟨hx, hb, hml, hown, hts⟩ (m_thrown l dC dI _ (b 0) 1 [.ref (b 1), .int 0, .int 0, .ref (b 2), .ref (b 3), .ref (b 4), .ref (b 5), .int 0, .int 0, .ref (b 6)]) (cwV 0 hts gL_law_X6_thrown rfl rfl rfl (by decide +kernel) ⟨Nat.le_of_ble_eq_true rfl, Nat.le_of_ble_eq_true rfl⟩) ⟨fb_PW, va_recv hK hP (ci := 10) (q0 := 1) rfl rfl, fun U hU hW => ⟨rfl, PW.give hP hK hD [1] [] rfl rfl rfl rfl hU hW⟩⟩ rfl rfl hl.1 rfl (lv_room (Nat.le_of_ble_eq_true rfl)) dL_law_2040 ⟨(Nat.le_of_ble_eq_true rfl), (Nat.le_of_ble_eq_true rfl)⟩) hS (fun q _ h => h.elim) (fun q h => h.elim) (fun r9 u t H locs ht hvm hw10 hB hz1 hk1 hS => ?_)
  have hP := kp_P hP hk1
  have hP : va_P (dC, dI) vwCl ([((b 6), .inr (3, [.int 0, .ref eD, .int 0])), ((b 0), .inr (10, [.int 1, .ref (b 1), .int 0, .int 0, .ref (b 2), .ref (b 3), .ref (b 4), .ref (b 5), .int 0, .int 0, .ref (b 6)]))]) H := hP
  have hD : va_D (fun q : Nat => s.heap.size ≤ q) ([((b 6), .inr (3, [.int 0, .ref eD, .int 0])), ((b 0), .inr (10, [.int 1, .ref (b 1), .int 0, .int 0, .ref (b 2), .ref (b 3), .ref (b 4), .ref (b 5), .int 0, .int 0, .ref (b 6)]))]) := hD
  obtain rfl : r9 = 1 := hw10
  refine lv_iload hx hb dL_law_2043 (lv_at hl 1 rfl) ?_
  refine lv_icmp_eq (tgt := 2050) hx hb dL_law_2045 (by decide) (fun _ => ?_) (fun cx => by first | exact absurd (by decide) cx | exact absurd cx (by decide))
  refine lv_iload hx hb dL_law_2050 (lv_at hl 1 rfl) ?_
  refine lv_if_ne (tgt := 2074) hx hb dL_law_2052 (by decide) (fun _ => ?_) (fun cx => by first | exact absurd (by decide) cx | exact absurd cx (by decide))
  refine lv_goto (tgt := 3037) hx hb dL_law_2074 (by decide) ?_
  exact law_exit C0 hS (Nat.le_of_ble_eq_true rfl) (Nat.le_of_ble_eq_true rfl) (lv_sub hl [2, 7] rfl)

set_option maxHeartbeats 4000000 in
set_option maxRecDepth 100000 in
/-- the law, a first call of carries -/
theorem case_28 {p : Program} {l : Launch} {e : Env} {s : State} {m : MethodId} {below : List Frame} {meth : Method} {c : Code} (hlt : l.stackTraces = false) {b0 : Nat} {xs : Nat → Int32} (C0 : lw_At p s m meth c b0 6 xs) (dC : Nat → ClassId) (dI : Nat → Nat → Nat) (a : Nat → Nat) (cI cS : ClassId) (f : Nat → Nat → Int32) (b : Nat → Nat) (c2 : ClassId) (dg : Nat → Option Nat) (dl : Nat → Int32) (eD o o2 : Nat) (cJ cE : ClassId) (Ld : List Nat) {H : Heap} {locs : List Loc} (hw0 : LW dC dI s H locs a cI cS f b c2 dg dl eD o o2 cJ cE Ld) {ls : Array Slot} (hl : lv_has ls 9 [(0, .ref b0), (1, .ref (a 0)), (2, .ref (b 0)), (3, .ref o), (4, .ref o2), (5, .int 0)]) :
    W p l e room_1 s m #[Value.ref b0] below meth c H locs 200 2000 (lw_Z below #[Value.ref b0] s) (F0 m 2077 ls []) := by
  obtain ⟨hx, hb, hr, hml, hown, hts0, hX, hbl, hlocks, hgv⟩ := id C0
  have hts : ∀ w ∈ wzL_law, w.before #[Value.ref b0] s = true := fun w h => hts0 w (wzL_law_in w h)
  have hA : ∀ q : Nat, s.heap.size ≤ q → (fun q : Nat => s.heap.size ≤ q) q := fun _ h => h
  have hbA : ¬ (fun q : Nat => s.heap.size ≤ q) b0 := Nat.not_le.mpr hbl
  obtain ⟨hK, hP, hD, hS, hT, hM, hLX⟩ := hw0
  refine lv_aload_n hx hb dL_law_2077 rfl (lv_at hl 1 rfl) ?_
  refine lv_aload_n hx hb dL_law_2078 rfl (lv_at hl 0 rfl) ?_
  refine lv_iload hx hb dL_law_2079 (lv_at hl 5 rfl) ?_
  refine lv_iconst (v := 1) hx hb dL_law_2081 (by decide) ?_
  refine lv_iadd hx hb dL_law_2082 ?_
  refine lv_topi (fun v1 e2 => ?_)
  obtain rfl : v1 = (1 : Int32) := e2.trans (by decide)
  refine va_sld hx hb hX hbl hbA hS (by unfold vp_in; decide) dL_law_2083 ?_
  refine lv_aload_n hx hb dL_law_2084 rfl (lv_at hl 0 rfl) ?_
  refine lv_iload hx hb dL_law_2085 (lv_at hl 5 rfl) ?_
  refine lv_iconst (v := 2) hx hb dL_law_2087 (by decide) ?_
  refine lv_iadd hx hb dL_law_2088 ?_
  refine lv_topi (fun v3 e4 => ?_)
  obtain rfl : v3 = (2 : Int32) := e4.trans (by decide)
  refine va_sld hx hb hX hbl hbA hS (by unfold vp_in; decide) dL_law_2089 ?_
  refine lv_aload_n hx hb dL_law_2090 rfl (lv_at hl 3 rfl) ?_
  have hFc := va_free (wc := [((a 0), .inr (7, [.ref (a 1), .ref (a 2), .ref (a 3), .int 0, .int 0, .int 0, .int 0, .int 0, .int 0, .int 0])), ((a 1), .inr (6, [.ref (a 4), .ref (a 5), .ref (a 6), .ref (a 7)])), ((a 2), .inr (4, [.ref (a 8), .ref (a 9), .ref (a 10)])), ((a 3), .inl (cS, 3, .inr (.inr (.inr (.inr (fun _ => none)))))), ((a 4), .inl (cI, 21, .inl (f 0))), ((a 5), .inl (cI, 21, .inl (f 1))), ((a 6), .inl (cI, 21, .inl (f 2))), ((a 7), .inl (cI, 21, .inl (f 3))), ((a 8), .inl (cI, 4, .inl (fun _ => 0))), ((a 9), .inl (cI, 4, .inl (fun _ => 0))), ((a 10), .inl (cI, 4, .inl (f 4))), (o, .inl (cJ, 1, .inr (.inl (fun _ => 0))))]) hD hS hA [0, 1, 2, 3, 4, 5, 6, 7, 8, 9, 10, 18] rfl
  refine va_calli (vx_runSW (As := [.ref (a 0), .int (xs (1 : Int32).toNatClampNeg), .int (xs (2 : Int32).toNatClampNeg), .ref o]) (rest := []) ⟨hx, hb, hml, hown, hts⟩ (h_carries l hlt dC dI _ a cI cS f cJ o (fun _ => 0) (xs (1 : Int32).toNatClampNeg) (xs (2 : Int32).toNatClampNeg)) (vx_cwSW 4 hts gL_law_L_carries rfl rfl rfl (by decide +kernel) ⟨Nat.le_of_ble_eq_true rfl, Nat.le_of_ble_eq_true rfl⟩) ⟨fb_PT, fun U hU hW => ⟨rfl, PT.give hP hK hD hS hA hT [0, 1, 2, 3, 4, 5, 6, 7, 8, 9, 10, 18] [0, 1, 3] rfl rfl rfl rfl hU hW⟩⟩ rfl rfl hl.1 rfl (lv_room (Nat.le_of_ble_eq_true rfl)) dL_law_2091 ⟨(Nat.le_of_ble_eq_true rfl), (Nat.le_of_ble_eq_true rfl)⟩) hS (fun q _ h => hFc q h) hFc (fun r5 u t H locs ht hvm hw6 hB hz1 hk1 hS => ?_)
  obtain ⟨hP, hD⟩ := aft0 [0, 1, 2, 3, 4, 5, 6, 7, 8, 9, 10, 18] [11, 12, 13, 14, 15, 16, 17, 19] hP hD rfl (wr := [((b 0), .inr (10, [.int 0, .ref (b 1), .int 0, .int 0, .ref (b 2), .ref (b 3), .ref (b 4), .ref (b 5), .int 0, .int 0, .ref (b 6)])), ((b 1), .inl (c2, 21, .inr (.inr (.inr (.inr dg))))), ((b 2), .inl (cI, 4, .inl (fun _ => 0))), ((b 3), .inl (cI, 4, .inl (fun _ => 0))), ((b 4), .inl (cI, 4, .inl dl)), ((b 5), .inl (cI, 2, .inl (fun _ => 0))), ((b 6), .inr (3, [.int 0, .ref eD, .int 0])), (o2, .inl (cE, 1, .inr (.inr (.inr (.inl (fun _ => 0))))))]) rfl rfl (by decide) hFc hk1
  have hP : va_P (dC, dI) vwCl ([((b 0), .inr (10, [.int 0, .ref (b 1), .int 0, .int 0, .ref (b 2), .ref (b 3), .ref (b 4), .ref (b 5), .int 0, .int 0, .ref (b 6)])), ((b 1), .inl (c2, 21, .inr (.inr (.inr (.inr dg))))), ((b 2), .inl (cI, 4, .inl (fun _ => 0))), ((b 3), .inl (cI, 4, .inl (fun _ => 0))), ((b 4), .inl (cI, 4, .inl dl)), ((b 5), .inl (cI, 2, .inl (fun _ => 0))), ((b 6), .inr (3, [.int 0, .ref eD, .int 0])), (o2, .inl (cE, 1, .inr (.inr (.inr (.inl (fun _ => 0))))))]) H := hP
  have hD : va_D (fun q : Nat => s.heap.size ≤ q) ([((b 0), .inr (10, [.int 0, .ref (b 1), .int 0, .int 0, .ref (b 2), .ref (b 3), .ref (b 4), .ref (b 5), .int 0, .int 0, .ref (b 6)])), ((b 1), .inl (c2, 21, .inr (.inr (.inr (.inr dg))))), ((b 2), .inl (cI, 4, .inl (fun _ => 0))), ((b 3), .inl (cI, 4, .inl (fun _ => 0))), ((b 4), .inl (cI, 4, .inl dl)), ((b 5), .inl (cI, 2, .inl (fun _ => 0))), ((b 6), .inr (3, [.int 0, .ref eD, .int 0])), (o2, .inl (cE, 1, .inr (.inr (.inr (.inl (fun _ => 0))))))]) := hD
  obtain rfl : r5 = 1 := hw6
  refine lv_istore (lv' := [(6, .int 1), (0, .ref b0), (1, .ref (a 0)), (2, .ref (b 0)), (3, .ref o), (4, .ref o2), (5, .int 0)]) hx hb dL_law_2094 hl (by decide) rfl (fun ls hl => ?_)
  refine lv_aload_n hx hb dL_law_2096 rfl (lv_at hl 3 rfl) ?_
  refine lv_aload_n hx hb dL_law_2097 rfl (lv_at hl 1 rfl) ?_
  refine lv_iload hx hb dL_law_2098 (lv_at hl 6 rfl) ?_
  refine lv_iconst (v := 1) hx hb dL_law_2100 (by decide) ?_
  refine lv_iadd hx hb dL_law_2101 ?_
  refine lv_topi (fun v7 e8 => ?_)
  obtain rfl : v7 = (1 : Int32) := e8.trans (by decide)
  refine va_sld hx hb hX hbl hbA hS (by unfold vp_in; decide) dL_law_2102 ?_
  refine lv_aload_n hx hb dL_law_2103 rfl (lv_at hl 1 rfl) ?_
  refine lv_iload hx hb dL_law_2104 (lv_at hl 6 rfl) ?_
  refine lv_iconst (v := 2) hx hb dL_law_2106 (by decide) ?_
  refine lv_iadd hx hb dL_law_2107 ?_
  refine lv_topi (fun v9 e10 => ?_)
  obtain rfl : v9 = (2 : Int32) := e10.trans (by decide)
  refine va_sld hx hb hX hbl hbA hS (by unfold vp_in; decide) dL_law_2108 ?_
  have hFc := va_free (wc := [((b 0), .inr (10, [.int 0, .ref (b 1), .int 0, .int 0, .ref (b 2), .ref (b 3), .ref (b 4), .ref (b 5), .int 0, .int 0, .ref (b 6)])), ((b 6), .inr (3, [.int 0, .ref eD, .int 0]))]) hD hS hA [0, 6] rfl
  refine va_calli (va_runV (As := [.int (xs (1 : Int32).toNatClampNeg), .int (xs (2 : Int32).toNatClampNeg)]) (rest := []) ⟨hx, hb, hml, hown, hts⟩ (m_carries l dC dI _ b eD (xs (1 : Int32).toNatClampNeg) (xs (2 : Int32).toNatClampNeg)) (cwV 2 hts gL_law_X6_carries rfl rfl rfl (by decide +kernel) ⟨Nat.le_of_ble_eq_true rfl, Nat.le_of_ble_eq_true rfl⟩) ⟨fb_PM, va_recv hK hP (ci := 10) (q0 := 0) rfl rfl, fun U hU hW => ⟨rfl, PM.give hP hK hD hM [0, 6] [] rfl rfl rfl rfl hU hW⟩⟩ rfl rfl hl.1 rfl (lv_room (Nat.le_of_ble_eq_true rfl)) dL_law_2109 ⟨(Nat.le_of_ble_eq_true rfl), (Nat.le_of_ble_eq_true rfl)⟩) hS (fun q _ h => hFc q h) hFc (fun r11 u t H locs ht hvm hw12 hB hz1 hk1 hS => ?_)
  obtain ⟨hP, hD, hK⟩ := aft [0, 6] [] hP hK hD rfl (wr := []) rfl rfl (by decide) hFc hB ht hvm hk1
  have hP : va_P (dC, dI) vwCl ([((b 6), .inr (3, [.int 0, .ref eD, .int 0])), ((b 0), .inr (10, [.int 1, .ref (b 1), .int 0, .int 0, .ref (b 2), .ref (b 3), .ref (b 4), .ref (b 5), .int 0, .int 0, .ref (b 6)]))]) H := hP
  have hD : va_D (fun q : Nat => s.heap.size ≤ q) ([((b 6), .inr (3, [.int 0, .ref eD, .int 0])), ((b 0), .inr (10, [.int 1, .ref (b 1), .int 0, .int 0, .ref (b 2), .ref (b 3), .ref (b 4), .ref (b 5), .int 0, .int 0, .ref (b 6)]))]) := hD
  have hK : va_K (dC, dI) vwCl [(cI, .int), (cS, .object "Snowpalace$Site"), (c2, .array .int), (cJ, .long), (cE, .double)] s := hK
  refine lv_istore (lv' := [(7, .int r11), (6, .int 1), (0, .ref b0), (1, .ref (a 0)), (2, .ref (b 0)), (3, .ref o), (4, .ref o2), (5, .int 0)]) hx hb dL_law_2112 hl (by decide) rfl (fun ls hl => ?_)
  refine lv_aload_n hx hb dL_law_2114 rfl (lv_at hl 4 rfl) ?_
  refine va_calli (va_runV (As := []) (rest := []) ⟨hx, hb, hml, hown, hts⟩ (m_thrown l dC dI _ (b 0) 1 [.ref (b 1), .int 0, .int 0, .ref (b 2), .ref (b 3), .ref (b 4), .ref (b 5), .int 0, .int 0, .ref (b 6)]) (cwV 0 hts gL_law_X6_thrown rfl rfl rfl (by decide +kernel) ⟨Nat.le_of_ble_eq_true rfl, Nat.le_of_ble_eq_true rfl⟩) ⟨fb_PW, va_recv hK hP (ci := 10) (q0 := 1) rfl rfl, fun U hU hW => ⟨rfl, PW.give hP hK hD [1] [] rfl rfl rfl rfl hU hW⟩⟩ rfl rfl hl.1 rfl (lv_room (Nat.le_of_ble_eq_true rfl)) dL_law_2115 ⟨(Nat.le_of_ble_eq_true rfl), (Nat.le_of_ble_eq_true rfl)⟩) hS (fun q _ h => h.elim) (fun q h => h.elim) (fun r13 u t H locs ht hvm hw14 hB hz1 hk1 hS => ?_)
  have hP := kp_P hP hk1
  have hP : va_P (dC, dI) vwCl ([((b 6), .inr (3, [.int 0, .ref eD, .int 0])), ((b 0), .inr (10, [.int 1, .ref (b 1), .int 0, .int 0, .ref (b 2), .ref (b 3), .ref (b 4), .ref (b 5), .int 0, .int 0, .ref (b 6)]))]) H := hP
  have hD : va_D (fun q : Nat => s.heap.size ≤ q) ([((b 6), .inr (3, [.int 0, .ref eD, .int 0])), ((b 0), .inr (10, [.int 1, .ref (b 1), .int 0, .int 0, .ref (b 2), .ref (b 3), .ref (b 4), .ref (b 5), .int 0, .int 0, .ref (b 6)]))]) := hD
  obtain rfl : r13 = 1 := hw14
  refine lv_iload hx hb dL_law_2118 (lv_at hl 1 rfl) ?_
  refine lv_icmp_eq (tgt := 2125) hx hb dL_law_2120 (by decide) (fun _ => ?_) (fun cx => by first | exact absurd (by decide) cx | exact absurd cx (by decide))
  refine lv_iload hx hb dL_law_2125 (lv_at hl 1 rfl) ?_
  refine lv_if_ne (tgt := 2142) hx hb dL_law_2127 (by decide) (fun _ => ?_) (fun cx => by first | exact absurd (by decide) cx | exact absurd cx (by decide))
  refine lv_goto (tgt := 3037) hx hb dL_law_2142 (by decide) ?_
  exact law_exit C0 hS (Nat.le_of_ble_eq_true rfl) (Nat.le_of_ble_eq_true rfl) (lv_sub hl [2, 7] rfl)

set_option maxHeartbeats 4000000 in
set_option maxRecDepth 100000 in
/-- the law, a first call of visit -/
theorem case_29 {p : Program} {l : Launch} {e : Env} {s : State} {m : MethodId} {below : List Frame} {meth : Method} {c : Code} (hlt : l.stackTraces = false) {b0 : Nat} {xs : Nat → Int32} (C0 : lw_At p s m meth c b0 6 xs) (dC : Nat → ClassId) (dI : Nat → Nat → Nat) (a : Nat → Nat) (cI cS : ClassId) (f : Nat → Nat → Int32) (b : Nat → Nat) (c2 : ClassId) (dg : Nat → Option Nat) (dl : Nat → Int32) (eD o o2 : Nat) (cJ cE : ClassId) (Ld : List Nat) {H : Heap} {locs : List Loc} (hw0 : LW dC dI s H locs a cI cS f b c2 dg dl eD o o2 cJ cE Ld) {ls : Array Slot} (hl : lv_has ls 9 [(0, .ref b0), (1, .ref (a 0)), (2, .ref (b 0)), (3, .ref o), (4, .ref o2), (5, .int 0)]) :
    W p l e room_1 s m #[Value.ref b0] below meth c H locs 200 2000 (lw_Z below #[Value.ref b0] s) (F0 m 2145 ls []) := by
  obtain ⟨hx, hb, hr, hml, hown, hts0, hX, hbl, hlocks, hgv⟩ := id C0
  have hts : ∀ w ∈ wzL_law, w.before #[Value.ref b0] s = true := fun w h => hts0 w (wzL_law_in w h)
  have hA : ∀ q : Nat, s.heap.size ≤ q → (fun q : Nat => s.heap.size ≤ q) q := fun _ h => h
  have hbA : ¬ (fun q : Nat => s.heap.size ≤ q) b0 := Nat.not_le.mpr hbl
  obtain ⟨hK, hP, hD, hS, hT, hM, hLX⟩ := hw0
  refine lv_aload_n hx hb dL_law_2145 rfl (lv_at hl 1 rfl) ?_
  refine lv_aload_n hx hb dL_law_2146 rfl (lv_at hl 0 rfl) ?_
  refine lv_iload hx hb dL_law_2147 (lv_at hl 5 rfl) ?_
  refine lv_iconst (v := 1) hx hb dL_law_2149 (by decide) ?_
  refine lv_iadd hx hb dL_law_2150 ?_
  refine lv_topi (fun v1 e2 => ?_)
  obtain rfl : v1 = (1 : Int32) := e2.trans (by decide)
  refine va_sld hx hb hX hbl hbA hS (by unfold vp_in; decide) dL_law_2151 ?_
  refine lv_aload_n hx hb dL_law_2152 rfl (lv_at hl 0 rfl) ?_
  refine lv_iload hx hb dL_law_2153 (lv_at hl 5 rfl) ?_
  refine lv_iconst (v := 2) hx hb dL_law_2155 (by decide) ?_
  refine lv_iadd hx hb dL_law_2156 ?_
  refine lv_topi (fun v3 e4 => ?_)
  obtain rfl : v3 = (2 : Int32) := e4.trans (by decide)
  refine va_sld hx hb hX hbl hbA hS (by unfold vp_in; decide) dL_law_2157 ?_
  refine lv_aload_n hx hb dL_law_2158 rfl (lv_at hl 3 rfl) ?_
  have hFc := va_free (wc := [((a 0), .inr (7, [.ref (a 1), .ref (a 2), .ref (a 3), .int 0, .int 0, .int 0, .int 0, .int 0, .int 0, .int 0])), ((a 1), .inr (6, [.ref (a 4), .ref (a 5), .ref (a 6), .ref (a 7)])), ((a 2), .inr (4, [.ref (a 8), .ref (a 9), .ref (a 10)])), ((a 3), .inl (cS, 3, .inr (.inr (.inr (.inr (fun _ => none)))))), ((a 4), .inl (cI, 21, .inl (f 0))), ((a 5), .inl (cI, 21, .inl (f 1))), ((a 6), .inl (cI, 21, .inl (f 2))), ((a 7), .inl (cI, 21, .inl (f 3))), ((a 8), .inl (cI, 4, .inl (fun _ => 0))), ((a 9), .inl (cI, 4, .inl (fun _ => 0))), ((a 10), .inl (cI, 4, .inl (f 4))), (o, .inl (cJ, 1, .inr (.inl (fun _ => 0))))]) hD hS hA [0, 1, 2, 3, 4, 5, 6, 7, 8, 9, 10, 18] rfl
  refine va_calli (vx_runSW (As := [.ref (a 0), .int (xs (1 : Int32).toNatClampNeg), .int (xs (2 : Int32).toNatClampNeg), .ref o]) (rest := []) ⟨hx, hb, hml, hown, hts⟩ (h_visit l hlt dC dI _ a cI cS f cJ o (fun _ => 0) (xs (1 : Int32).toNatClampNeg) (xs (2 : Int32).toNatClampNeg)) (vx_cwSW 4 hts gL_law_L_visit rfl rfl rfl (by decide +kernel) ⟨Nat.le_of_ble_eq_true rfl, Nat.le_of_ble_eq_true rfl⟩) ⟨fb_PT, fun U hU hW => ⟨rfl, PT.give hP hK hD hS hA hT [0, 1, 2, 3, 4, 5, 6, 7, 8, 9, 10, 18] [0, 1, 3] rfl rfl rfl rfl hU hW⟩⟩ rfl rfl hl.1 rfl (lv_room (Nat.le_of_ble_eq_true rfl)) dL_law_2159 ⟨(Nat.le_of_ble_eq_true rfl), (Nat.le_of_ble_eq_true rfl)⟩) hS (fun q _ h => hFc q h) hFc (fun r5 u t H locs ht hvm hw6 hB hz1 hk1 hS => ?_)
  obtain ⟨hP, hD⟩ := aft0 [0, 1, 2, 3, 4, 5, 6, 7, 8, 9, 10, 18] [11, 12, 13, 14, 15, 16, 17, 19] hP hD rfl (wr := [((b 0), .inr (10, [.int 0, .ref (b 1), .int 0, .int 0, .ref (b 2), .ref (b 3), .ref (b 4), .ref (b 5), .int 0, .int 0, .ref (b 6)])), ((b 1), .inl (c2, 21, .inr (.inr (.inr (.inr dg))))), ((b 2), .inl (cI, 4, .inl (fun _ => 0))), ((b 3), .inl (cI, 4, .inl (fun _ => 0))), ((b 4), .inl (cI, 4, .inl dl)), ((b 5), .inl (cI, 2, .inl (fun _ => 0))), ((b 6), .inr (3, [.int 0, .ref eD, .int 0])), (o2, .inl (cE, 1, .inr (.inr (.inr (.inl (fun _ => 0))))))]) rfl rfl (by decide) hFc hk1
  have hP : va_P (dC, dI) vwCl ([((b 0), .inr (10, [.int 0, .ref (b 1), .int 0, .int 0, .ref (b 2), .ref (b 3), .ref (b 4), .ref (b 5), .int 0, .int 0, .ref (b 6)])), ((b 1), .inl (c2, 21, .inr (.inr (.inr (.inr dg))))), ((b 2), .inl (cI, 4, .inl (fun _ => 0))), ((b 3), .inl (cI, 4, .inl (fun _ => 0))), ((b 4), .inl (cI, 4, .inl dl)), ((b 5), .inl (cI, 2, .inl (fun _ => 0))), ((b 6), .inr (3, [.int 0, .ref eD, .int 0])), (o2, .inl (cE, 1, .inr (.inr (.inr (.inl (fun _ => 0))))))]) H := hP
  have hD : va_D (fun q : Nat => s.heap.size ≤ q) ([((b 0), .inr (10, [.int 0, .ref (b 1), .int 0, .int 0, .ref (b 2), .ref (b 3), .ref (b 4), .ref (b 5), .int 0, .int 0, .ref (b 6)])), ((b 1), .inl (c2, 21, .inr (.inr (.inr (.inr dg))))), ((b 2), .inl (cI, 4, .inl (fun _ => 0))), ((b 3), .inl (cI, 4, .inl (fun _ => 0))), ((b 4), .inl (cI, 4, .inl dl)), ((b 5), .inl (cI, 2, .inl (fun _ => 0))), ((b 6), .inr (3, [.int 0, .ref eD, .int 0])), (o2, .inl (cE, 1, .inr (.inr (.inr (.inl (fun _ => 0))))))]) := hD
  obtain rfl : r5 = 1 := hw6
  refine lv_istore (lv' := [(6, .int 1), (0, .ref b0), (1, .ref (a 0)), (2, .ref (b 0)), (3, .ref o), (4, .ref o2), (5, .int 0)]) hx hb dL_law_2162 hl (by decide) rfl (fun ls hl => ?_)
  refine lv_aload_n hx hb dL_law_2164 rfl (lv_at hl 3 rfl) ?_
  refine lv_aload_n hx hb dL_law_2165 rfl (lv_at hl 1 rfl) ?_
  refine lv_iload hx hb dL_law_2166 (lv_at hl 6 rfl) ?_
  refine lv_iconst (v := 1) hx hb dL_law_2168 (by decide) ?_
  refine lv_iadd hx hb dL_law_2169 ?_
  refine lv_topi (fun v7 e8 => ?_)
  obtain rfl : v7 = (1 : Int32) := e8.trans (by decide)
  refine va_sld hx hb hX hbl hbA hS (by unfold vp_in; decide) dL_law_2170 ?_
  refine lv_aload_n hx hb dL_law_2171 rfl (lv_at hl 1 rfl) ?_
  refine lv_iload hx hb dL_law_2172 (lv_at hl 6 rfl) ?_
  refine lv_iconst (v := 2) hx hb dL_law_2174 (by decide) ?_
  refine lv_iadd hx hb dL_law_2175 ?_
  refine lv_topi (fun v9 e10 => ?_)
  obtain rfl : v9 = (2 : Int32) := e10.trans (by decide)
  refine va_sld hx hb hX hbl hbA hS (by unfold vp_in; decide) dL_law_2176 ?_
  have hFc := va_free (wc := [((b 0), .inr (10, [.int 0, .ref (b 1), .int 0, .int 0, .ref (b 2), .ref (b 3), .ref (b 4), .ref (b 5), .int 0, .int 0, .ref (b 6)])), ((b 6), .inr (3, [.int 0, .ref eD, .int 0]))]) hD hS hA [0, 6] rfl
  refine va_calli (va_runV (As := [.int (xs (1 : Int32).toNatClampNeg), .int (xs (2 : Int32).toNatClampNeg)]) (rest := []) ⟨hx, hb, hml, hown, hts⟩ (m_visit l dC dI _ b eD (xs (1 : Int32).toNatClampNeg) (xs (2 : Int32).toNatClampNeg)) (cwV 2 hts gL_law_X6_visit rfl rfl rfl (by decide +kernel) ⟨Nat.le_of_ble_eq_true rfl, Nat.le_of_ble_eq_true rfl⟩) ⟨fb_PM, va_recv hK hP (ci := 10) (q0 := 0) rfl rfl, fun U hU hW => ⟨rfl, PM.give hP hK hD hM [0, 6] [] rfl rfl rfl rfl hU hW⟩⟩ rfl rfl hl.1 rfl (lv_room (Nat.le_of_ble_eq_true rfl)) dL_law_2177 ⟨(Nat.le_of_ble_eq_true rfl), (Nat.le_of_ble_eq_true rfl)⟩) hS (fun q _ h => hFc q h) hFc (fun r11 u t H locs ht hvm hw12 hB hz1 hk1 hS => ?_)
  obtain ⟨hP, hD, hK⟩ := aft [0, 6] [] hP hK hD rfl (wr := []) rfl rfl (by decide) hFc hB ht hvm hk1
  have hP : va_P (dC, dI) vwCl ([((b 6), .inr (3, [.int 0, .ref eD, .int 0])), ((b 0), .inr (10, [.int 1, .ref (b 1), .int 0, .int 0, .ref (b 2), .ref (b 3), .ref (b 4), .ref (b 5), .int 0, .int 0, .ref (b 6)]))]) H := hP
  have hD : va_D (fun q : Nat => s.heap.size ≤ q) ([((b 6), .inr (3, [.int 0, .ref eD, .int 0])), ((b 0), .inr (10, [.int 1, .ref (b 1), .int 0, .int 0, .ref (b 2), .ref (b 3), .ref (b 4), .ref (b 5), .int 0, .int 0, .ref (b 6)]))]) := hD
  have hK : va_K (dC, dI) vwCl [(cI, .int), (cS, .object "Snowpalace$Site"), (c2, .array .int), (cJ, .long), (cE, .double)] s := hK
  refine lv_istore (lv' := [(7, .int r11), (6, .int 1), (0, .ref b0), (1, .ref (a 0)), (2, .ref (b 0)), (3, .ref o), (4, .ref o2), (5, .int 0)]) hx hb dL_law_2180 hl (by decide) rfl (fun ls hl => ?_)
  refine lv_aload_n hx hb dL_law_2182 rfl (lv_at hl 4 rfl) ?_
  refine va_calli (va_runV (As := []) (rest := []) ⟨hx, hb, hml, hown, hts⟩ (m_thrown l dC dI _ (b 0) 1 [.ref (b 1), .int 0, .int 0, .ref (b 2), .ref (b 3), .ref (b 4), .ref (b 5), .int 0, .int 0, .ref (b 6)]) (cwV 0 hts gL_law_X6_thrown rfl rfl rfl (by decide +kernel) ⟨Nat.le_of_ble_eq_true rfl, Nat.le_of_ble_eq_true rfl⟩) ⟨fb_PW, va_recv hK hP (ci := 10) (q0 := 1) rfl rfl, fun U hU hW => ⟨rfl, PW.give hP hK hD [1] [] rfl rfl rfl rfl hU hW⟩⟩ rfl rfl hl.1 rfl (lv_room (Nat.le_of_ble_eq_true rfl)) dL_law_2183 ⟨(Nat.le_of_ble_eq_true rfl), (Nat.le_of_ble_eq_true rfl)⟩) hS (fun q _ h => h.elim) (fun q h => h.elim) (fun r13 u t H locs ht hvm hw14 hB hz1 hk1 hS => ?_)
  have hP := kp_P hP hk1
  have hP : va_P (dC, dI) vwCl ([((b 6), .inr (3, [.int 0, .ref eD, .int 0])), ((b 0), .inr (10, [.int 1, .ref (b 1), .int 0, .int 0, .ref (b 2), .ref (b 3), .ref (b 4), .ref (b 5), .int 0, .int 0, .ref (b 6)]))]) H := hP
  have hD : va_D (fun q : Nat => s.heap.size ≤ q) ([((b 6), .inr (3, [.int 0, .ref eD, .int 0])), ((b 0), .inr (10, [.int 1, .ref (b 1), .int 0, .int 0, .ref (b 2), .ref (b 3), .ref (b 4), .ref (b 5), .int 0, .int 0, .ref (b 6)]))]) := hD
  obtain rfl : r13 = 1 := hw14
  refine lv_iload hx hb dL_law_2186 (lv_at hl 1 rfl) ?_
  refine lv_icmp_eq (tgt := 2193) hx hb dL_law_2188 (by decide) (fun _ => ?_) (fun cx => by first | exact absurd (by decide) cx | exact absurd cx (by decide))
  refine lv_iload hx hb dL_law_2193 (lv_at hl 1 rfl) ?_
  refine lv_if_ne (tgt := 2210) hx hb dL_law_2195 (by decide) (fun _ => ?_) (fun cx => by first | exact absurd (by decide) cx | exact absurd cx (by decide))
  refine lv_goto (tgt := 3037) hx hb dL_law_2210 (by decide) ?_
  exact law_exit C0 hS (Nat.le_of_ble_eq_true rfl) (Nat.le_of_ble_eq_true rfl) (lv_sub hl [2, 7] rfl)

set_option maxHeartbeats 4000000 in
set_option maxRecDepth 100000 in
/-- the law, a first call of plan -/
theorem case_31 {p : Program} {l : Launch} {e : Env} {s : State} {m : MethodId} {below : List Frame} {meth : Method} {c : Code} (hlt : l.stackTraces = false) {b0 : Nat} {xs : Nat → Int32} (C0 : lw_At p s m meth c b0 6 xs) (dC : Nat → ClassId) (dI : Nat → Nat → Nat) (a : Nat → Nat) (cI cS : ClassId) (f : Nat → Nat → Int32) (b : Nat → Nat) (c2 : ClassId) (dg : Nat → Option Nat) (dl : Nat → Int32) (eD o o2 : Nat) (cJ cE : ClassId) (Ld : List Nat) {H : Heap} {locs : List Loc} (hw0 : LW dC dI s H locs a cI cS f b c2 dg dl eD o o2 cJ cE Ld) {ls : Array Slot} (hl : lv_has ls 9 [(0, .ref b0), (1, .ref (a 0)), (2, .ref (b 0)), (3, .ref o), (4, .ref o2), (5, .int 0)]) :
    W p l e room_1 s m #[Value.ref b0] below meth c H locs 200 2000 (lw_Z below #[Value.ref b0] s) (F0 m 2308 ls []) := by
  obtain ⟨hx, hb, hr, hml, hown, hts0, hX, hbl, hlocks, hgv⟩ := id C0
  have hts : ∀ w ∈ wzL_law, w.before #[Value.ref b0] s = true := fun w h => hts0 w (wzL_law_in w h)
  have hA : ∀ q : Nat, s.heap.size ≤ q → (fun q : Nat => s.heap.size ≤ q) q := fun _ h => h
  have hbA : ¬ (fun q : Nat => s.heap.size ≤ q) b0 := Nat.not_le.mpr hbl
  obtain ⟨hK, hP, hD, hS, hT, hM, hLX⟩ := hw0
  refine lv_aload_n hx hb dL_law_2308 rfl (lv_at hl 1 rfl) ?_
  refine lv_aload_n hx hb dL_law_2309 rfl (lv_at hl 0 rfl) ?_
  refine lv_iload hx hb dL_law_2310 (lv_at hl 5 rfl) ?_
  refine lv_iconst (v := 1) hx hb dL_law_2312 (by decide) ?_
  refine lv_iadd hx hb dL_law_2313 ?_
  refine lv_topi (fun v1 e2 => ?_)
  obtain rfl : v1 = (1 : Int32) := e2.trans (by decide)
  refine va_sld hx hb hX hbl hbA hS (by unfold vp_in; decide) dL_law_2314 ?_
  refine lv_aload_n hx hb dL_law_2315 rfl (lv_at hl 0 rfl) ?_
  refine lv_iload hx hb dL_law_2316 (lv_at hl 5 rfl) ?_
  refine lv_iconst (v := 2) hx hb dL_law_2318 (by decide) ?_
  refine lv_iadd hx hb dL_law_2319 ?_
  refine lv_topi (fun v3 e4 => ?_)
  obtain rfl : v3 = (2 : Int32) := e4.trans (by decide)
  refine va_sld hx hb hX hbl hbA hS (by unfold vp_in; decide) dL_law_2320 ?_
  refine lv_aload_n hx hb dL_law_2321 rfl (lv_at hl 0 rfl) ?_
  refine lv_iload hx hb dL_law_2322 (lv_at hl 5 rfl) ?_
  refine lv_iconst (v := 3) hx hb dL_law_2324 (by decide) ?_
  refine lv_iadd hx hb dL_law_2325 ?_
  refine lv_topi (fun v5 e6 => ?_)
  obtain rfl : v5 = (3 : Int32) := e6.trans (by decide)
  refine va_sld hx hb hX hbl hbA hS (by unfold vp_in; decide) dL_law_2326 ?_
  refine lv_aload_n hx hb dL_law_2327 rfl (lv_at hl 0 rfl) ?_
  refine lv_iload hx hb dL_law_2328 (lv_at hl 5 rfl) ?_
  refine lv_iconst (v := 4) hx hb dL_law_2330 (by decide) ?_
  refine lv_iadd hx hb dL_law_2331 ?_
  refine lv_topi (fun v7 e8 => ?_)
  obtain rfl : v7 = (4 : Int32) := e8.trans (by decide)
  refine va_sld hx hb hX hbl hbA hS (by unfold vp_in; decide) dL_law_2332 ?_
  refine lv_if_eq (tgt := 2340) hx hb dL_law_2333 (by decide) (fun c9 => ?_) (fun c9 => ?_)
  · skip
    refine lv_iconst (v := 0) hx hb dL_law_2340 (by decide) ?_
    refine lv_aload_n hx hb dL_law_2341 rfl (lv_at hl 3 rfl) ?_
    have hFc := va_free (wc := [((a 0), .inr (7, [.ref (a 1), .ref (a 2), .ref (a 3), .int 0, .int 0, .int 0, .int 0, .int 0, .int 0, .int 0])), ((a 1), .inr (6, [.ref (a 4), .ref (a 5), .ref (a 6), .ref (a 7)])), ((a 2), .inr (4, [.ref (a 8), .ref (a 9), .ref (a 10)])), ((a 3), .inl (cS, 3, .inr (.inr (.inr (.inr (fun _ => none)))))), ((a 4), .inl (cI, 21, .inl (f 0))), ((a 5), .inl (cI, 21, .inl (f 1))), ((a 6), .inl (cI, 21, .inl (f 2))), ((a 7), .inl (cI, 21, .inl (f 3))), ((a 8), .inl (cI, 4, .inl (fun _ => 0))), ((a 9), .inl (cI, 4, .inl (fun _ => 0))), ((a 10), .inl (cI, 4, .inl (f 4))), (o, .inl (cJ, 1, .inr (.inl (fun _ => 0))))]) hD hS hA [0, 1, 2, 3, 4, 5, 6, 7, 8, 9, 10, 18] rfl
    refine va_calli (vx_runSW (As := [.ref (a 0), .int (xs (1 : Int32).toNatClampNeg), .int (xs (2 : Int32).toNatClampNeg), .int (xs (3 : Int32).toNatClampNeg), .int 0, .ref o]) (rest := []) ⟨hx, hb, hml, hown, hts⟩ (h_plan l hlt dC dI _ a cI cS f cJ o (fun _ => 0) (xs (1 : Int32).toNatClampNeg) (xs (2 : Int32).toNatClampNeg) (xs (3 : Int32).toNatClampNeg) 0) (vx_cwSW 6 hts gL_law_L_plan rfl rfl rfl (by decide +kernel) ⟨Nat.le_of_ble_eq_true rfl, Nat.le_of_ble_eq_true rfl⟩) ⟨fb_PT, fun U hU hW => ⟨rfl, PT.give hP hK hD hS hA hT [0, 1, 2, 3, 4, 5, 6, 7, 8, 9, 10, 18] [0, 1, 3] rfl rfl rfl rfl hU hW⟩⟩ rfl rfl hl.1 rfl (lv_room (Nat.le_of_ble_eq_true rfl)) dL_law_2342 ⟨(Nat.le_of_ble_eq_true rfl), (Nat.le_of_ble_eq_true rfl)⟩) hS (fun q _ h => hFc q h) hFc (fun r10 u t H locs ht hvm hw11 hB hz1 hk1 hS => ?_)
    obtain ⟨hP, hD⟩ := aft0 [0, 1, 2, 3, 4, 5, 6, 7, 8, 9, 10, 18] [11, 12, 13, 14, 15, 16, 17, 19] hP hD rfl (wr := [((b 0), .inr (10, [.int 0, .ref (b 1), .int 0, .int 0, .ref (b 2), .ref (b 3), .ref (b 4), .ref (b 5), .int 0, .int 0, .ref (b 6)])), ((b 1), .inl (c2, 21, .inr (.inr (.inr (.inr dg))))), ((b 2), .inl (cI, 4, .inl (fun _ => 0))), ((b 3), .inl (cI, 4, .inl (fun _ => 0))), ((b 4), .inl (cI, 4, .inl dl)), ((b 5), .inl (cI, 2, .inl (fun _ => 0))), ((b 6), .inr (3, [.int 0, .ref eD, .int 0])), (o2, .inl (cE, 1, .inr (.inr (.inr (.inl (fun _ => 0))))))]) rfl rfl (by decide) hFc hk1
    have hP : va_P (dC, dI) vwCl ([((b 0), .inr (10, [.int 0, .ref (b 1), .int 0, .int 0, .ref (b 2), .ref (b 3), .ref (b 4), .ref (b 5), .int 0, .int 0, .ref (b 6)])), ((b 1), .inl (c2, 21, .inr (.inr (.inr (.inr dg))))), ((b 2), .inl (cI, 4, .inl (fun _ => 0))), ((b 3), .inl (cI, 4, .inl (fun _ => 0))), ((b 4), .inl (cI, 4, .inl dl)), ((b 5), .inl (cI, 2, .inl (fun _ => 0))), ((b 6), .inr (3, [.int 0, .ref eD, .int 0])), (o2, .inl (cE, 1, .inr (.inr (.inr (.inl (fun _ => 0))))))]) H := hP
    have hD : va_D (fun q : Nat => s.heap.size ≤ q) ([((b 0), .inr (10, [.int 0, .ref (b 1), .int 0, .int 0, .ref (b 2), .ref (b 3), .ref (b 4), .ref (b 5), .int 0, .int 0, .ref (b 6)])), ((b 1), .inl (c2, 21, .inr (.inr (.inr (.inr dg))))), ((b 2), .inl (cI, 4, .inl (fun _ => 0))), ((b 3), .inl (cI, 4, .inl (fun _ => 0))), ((b 4), .inl (cI, 4, .inl dl)), ((b 5), .inl (cI, 2, .inl (fun _ => 0))), ((b 6), .inr (3, [.int 0, .ref eD, .int 0])), (o2, .inl (cE, 1, .inr (.inr (.inr (.inl (fun _ => 0))))))]) := hD
    obtain rfl : r10 = 1 := hw11
    refine lv_istore (lv' := [(6, .int 1), (0, .ref b0), (1, .ref (a 0)), (2, .ref (b 0)), (3, .ref o), (4, .ref o2), (5, .int 0)]) hx hb dL_law_2345 hl (by decide) rfl (fun ls hl => ?_)
    refine lv_aload_n hx hb dL_law_2347 rfl (lv_at hl 3 rfl) ?_
    refine lv_aload_n hx hb dL_law_2348 rfl (lv_at hl 1 rfl) ?_
    refine lv_iload hx hb dL_law_2349 (lv_at hl 6 rfl) ?_
    refine lv_iconst (v := 1) hx hb dL_law_2351 (by decide) ?_
    refine lv_iadd hx hb dL_law_2352 ?_
    refine lv_topi (fun v12 e13 => ?_)
    obtain rfl : v12 = (1 : Int32) := e13.trans (by decide)
    refine va_sld hx hb hX hbl hbA hS (by unfold vp_in; decide) dL_law_2353 ?_
    refine lv_aload_n hx hb dL_law_2354 rfl (lv_at hl 1 rfl) ?_
    refine lv_iload hx hb dL_law_2355 (lv_at hl 6 rfl) ?_
    refine lv_iconst (v := 2) hx hb dL_law_2357 (by decide) ?_
    refine lv_iadd hx hb dL_law_2358 ?_
    refine lv_topi (fun v14 e15 => ?_)
    obtain rfl : v14 = (2 : Int32) := e15.trans (by decide)
    refine va_sld hx hb hX hbl hbA hS (by unfold vp_in; decide) dL_law_2359 ?_
    refine lv_aload_n hx hb dL_law_2360 rfl (lv_at hl 1 rfl) ?_
    refine lv_iload hx hb dL_law_2361 (lv_at hl 6 rfl) ?_
    refine lv_iconst (v := 3) hx hb dL_law_2363 (by decide) ?_
    refine lv_iadd hx hb dL_law_2364 ?_
    refine lv_topi (fun v16 e17 => ?_)
    obtain rfl : v16 = (3 : Int32) := e17.trans (by decide)
    refine va_sld hx hb hX hbl hbA hS (by unfold vp_in; decide) dL_law_2365 ?_
    refine lv_aload_n hx hb dL_law_2366 rfl (lv_at hl 1 rfl) ?_
    refine lv_iload hx hb dL_law_2367 (lv_at hl 6 rfl) ?_
    refine lv_iconst (v := 4) hx hb dL_law_2369 (by decide) ?_
    refine lv_iadd hx hb dL_law_2370 ?_
    refine lv_topi (fun v18 e19 => ?_)
    obtain rfl : v18 = (4 : Int32) := e19.trans (by decide)
    refine va_sld hx hb hX hbl hbA hS (by unfold vp_in; decide) dL_law_2371 ?_
    refine lv_if_eq (tgt := 2379) hx hb dL_law_2372 (by decide) (fun _ => ?_) (fun cx => absurd c9 cx)
    refine lv_iconst (v := 0) hx hb dL_law_2379 (by decide) ?_
    have hFc := va_free (wc := [((b 0), .inr (10, [.int 0, .ref (b 1), .int 0, .int 0, .ref (b 2), .ref (b 3), .ref (b 4), .ref (b 5), .int 0, .int 0, .ref (b 6)])), ((b 6), .inr (3, [.int 0, .ref eD, .int 0]))]) hD hS hA [0, 6] rfl
    refine va_calli (va_runV (As := [.int (xs (1 : Int32).toNatClampNeg), .int (xs (2 : Int32).toNatClampNeg), .int (xs (3 : Int32).toNatClampNeg), .int 0]) (rest := []) ⟨hx, hb, hml, hown, hts⟩ (m_plan l dC dI _ b eD (xs (1 : Int32).toNatClampNeg) (xs (2 : Int32).toNatClampNeg) (xs (3 : Int32).toNatClampNeg) 0) (cwV 4 hts gL_law_X6_plan rfl rfl rfl (by decide +kernel) ⟨Nat.le_of_ble_eq_true rfl, Nat.le_of_ble_eq_true rfl⟩) ⟨fb_PM, va_recv hK hP (ci := 10) (q0 := 0) rfl rfl, fun U hU hW => ⟨rfl, PM.give hP hK hD hM [0, 6] [] rfl rfl rfl rfl hU hW⟩⟩ rfl rfl hl.1 rfl (lv_room (Nat.le_of_ble_eq_true rfl)) dL_law_2380 ⟨(Nat.le_of_ble_eq_true rfl), (Nat.le_of_ble_eq_true rfl)⟩) hS (fun q _ h => hFc q h) hFc (fun r20 u t H locs ht hvm hw21 hB hz1 hk1 hS => ?_)
    obtain ⟨hP, hD, hK⟩ := aft [0, 6] [] hP hK hD rfl (wr := []) rfl rfl (by decide) hFc hB ht hvm hk1
    have hP : va_P (dC, dI) vwCl ([((b 6), .inr (3, [.int 0, .ref eD, .int 0])), ((b 0), .inr (10, [.int 1, .ref (b 1), .int 0, .int 0, .ref (b 2), .ref (b 3), .ref (b 4), .ref (b 5), .int 0, .int 0, .ref (b 6)]))]) H := hP
    have hD : va_D (fun q : Nat => s.heap.size ≤ q) ([((b 6), .inr (3, [.int 0, .ref eD, .int 0])), ((b 0), .inr (10, [.int 1, .ref (b 1), .int 0, .int 0, .ref (b 2), .ref (b 3), .ref (b 4), .ref (b 5), .int 0, .int 0, .ref (b 6)]))]) := hD
    have hK : va_K (dC, dI) vwCl [(cI, .int), (cS, .object "Snowpalace$Site"), (c2, .array .int), (cJ, .long), (cE, .double)] s := hK
    refine lv_istore (lv' := [(7, .int r20), (6, .int 1), (0, .ref b0), (1, .ref (a 0)), (2, .ref (b 0)), (3, .ref o), (4, .ref o2), (5, .int 0)]) hx hb dL_law_2383 hl (by decide) rfl (fun ls hl => ?_)
    refine lv_aload_n hx hb dL_law_2385 rfl (lv_at hl 4 rfl) ?_
    refine va_calli (va_runV (As := []) (rest := []) ⟨hx, hb, hml, hown, hts⟩ (m_thrown l dC dI _ (b 0) 1 [.ref (b 1), .int 0, .int 0, .ref (b 2), .ref (b 3), .ref (b 4), .ref (b 5), .int 0, .int 0, .ref (b 6)]) (cwV 0 hts gL_law_X6_thrown rfl rfl rfl (by decide +kernel) ⟨Nat.le_of_ble_eq_true rfl, Nat.le_of_ble_eq_true rfl⟩) ⟨fb_PW, va_recv hK hP (ci := 10) (q0 := 1) rfl rfl, fun U hU hW => ⟨rfl, PW.give hP hK hD [1] [] rfl rfl rfl rfl hU hW⟩⟩ rfl rfl hl.1 rfl (lv_room (Nat.le_of_ble_eq_true rfl)) dL_law_2386 ⟨(Nat.le_of_ble_eq_true rfl), (Nat.le_of_ble_eq_true rfl)⟩) hS (fun q _ h => h.elim) (fun q h => h.elim) (fun r22 u t H locs ht hvm hw23 hB hz1 hk1 hS => ?_)
    have hP := kp_P hP hk1
    have hP : va_P (dC, dI) vwCl ([((b 6), .inr (3, [.int 0, .ref eD, .int 0])), ((b 0), .inr (10, [.int 1, .ref (b 1), .int 0, .int 0, .ref (b 2), .ref (b 3), .ref (b 4), .ref (b 5), .int 0, .int 0, .ref (b 6)]))]) H := hP
    have hD : va_D (fun q : Nat => s.heap.size ≤ q) ([((b 6), .inr (3, [.int 0, .ref eD, .int 0])), ((b 0), .inr (10, [.int 1, .ref (b 1), .int 0, .int 0, .ref (b 2), .ref (b 3), .ref (b 4), .ref (b 5), .int 0, .int 0, .ref (b 6)]))]) := hD
    obtain rfl : r22 = 1 := hw23
    refine lv_iload hx hb dL_law_2389 (lv_at hl 1 rfl) ?_
    refine lv_icmp_eq (tgt := 2396) hx hb dL_law_2391 (by decide) (fun _ => ?_) (fun cx => by first | exact absurd (by decide) cx | exact absurd cx (by decide))
    refine lv_iload hx hb dL_law_2396 (lv_at hl 1 rfl) ?_
    refine lv_if_ne (tgt := 2413) hx hb dL_law_2398 (by decide) (fun _ => ?_) (fun cx => by first | exact absurd (by decide) cx | exact absurd cx (by decide))
    refine lv_goto (tgt := 3037) hx hb dL_law_2413 (by decide) ?_
    exact law_exit C0 hS (Nat.le_of_ble_eq_true rfl) (Nat.le_of_ble_eq_true rfl) (lv_sub hl [2, 7] rfl)
  · skip
    refine lv_iconst (v := 1) hx hb dL_law_2336 (by decide) ?_
    refine lv_goto (tgt := 2341) hx hb dL_law_2337 (by decide) ?_
    refine lv_aload_n hx hb dL_law_2341 rfl (lv_at hl 3 rfl) ?_
    have hFc := va_free (wc := [((a 0), .inr (7, [.ref (a 1), .ref (a 2), .ref (a 3), .int 0, .int 0, .int 0, .int 0, .int 0, .int 0, .int 0])), ((a 1), .inr (6, [.ref (a 4), .ref (a 5), .ref (a 6), .ref (a 7)])), ((a 2), .inr (4, [.ref (a 8), .ref (a 9), .ref (a 10)])), ((a 3), .inl (cS, 3, .inr (.inr (.inr (.inr (fun _ => none)))))), ((a 4), .inl (cI, 21, .inl (f 0))), ((a 5), .inl (cI, 21, .inl (f 1))), ((a 6), .inl (cI, 21, .inl (f 2))), ((a 7), .inl (cI, 21, .inl (f 3))), ((a 8), .inl (cI, 4, .inl (fun _ => 0))), ((a 9), .inl (cI, 4, .inl (fun _ => 0))), ((a 10), .inl (cI, 4, .inl (f 4))), (o, .inl (cJ, 1, .inr (.inl (fun _ => 0))))]) hD hS hA [0, 1, 2, 3, 4, 5, 6, 7, 8, 9, 10, 18] rfl
    refine va_calli (vx_runSW (As := [.ref (a 0), .int (xs (1 : Int32).toNatClampNeg), .int (xs (2 : Int32).toNatClampNeg), .int (xs (3 : Int32).toNatClampNeg), .int 1, .ref o]) (rest := []) ⟨hx, hb, hml, hown, hts⟩ (h_plan l hlt dC dI _ a cI cS f cJ o (fun _ => 0) (xs (1 : Int32).toNatClampNeg) (xs (2 : Int32).toNatClampNeg) (xs (3 : Int32).toNatClampNeg) 1) (vx_cwSW 6 hts gL_law_L_plan rfl rfl rfl (by decide +kernel) ⟨Nat.le_of_ble_eq_true rfl, Nat.le_of_ble_eq_true rfl⟩) ⟨fb_PT, fun U hU hW => ⟨rfl, PT.give hP hK hD hS hA hT [0, 1, 2, 3, 4, 5, 6, 7, 8, 9, 10, 18] [0, 1, 3] rfl rfl rfl rfl hU hW⟩⟩ rfl rfl hl.1 rfl (lv_room (Nat.le_of_ble_eq_true rfl)) dL_law_2342 ⟨(Nat.le_of_ble_eq_true rfl), (Nat.le_of_ble_eq_true rfl)⟩) hS (fun q _ h => hFc q h) hFc (fun r24 u t H locs ht hvm hw25 hB hz1 hk1 hS => ?_)
    obtain ⟨hP, hD⟩ := aft0 [0, 1, 2, 3, 4, 5, 6, 7, 8, 9, 10, 18] [11, 12, 13, 14, 15, 16, 17, 19] hP hD rfl (wr := [((b 0), .inr (10, [.int 0, .ref (b 1), .int 0, .int 0, .ref (b 2), .ref (b 3), .ref (b 4), .ref (b 5), .int 0, .int 0, .ref (b 6)])), ((b 1), .inl (c2, 21, .inr (.inr (.inr (.inr dg))))), ((b 2), .inl (cI, 4, .inl (fun _ => 0))), ((b 3), .inl (cI, 4, .inl (fun _ => 0))), ((b 4), .inl (cI, 4, .inl dl)), ((b 5), .inl (cI, 2, .inl (fun _ => 0))), ((b 6), .inr (3, [.int 0, .ref eD, .int 0])), (o2, .inl (cE, 1, .inr (.inr (.inr (.inl (fun _ => 0))))))]) rfl rfl (by decide) hFc hk1
    have hP : va_P (dC, dI) vwCl ([((b 0), .inr (10, [.int 0, .ref (b 1), .int 0, .int 0, .ref (b 2), .ref (b 3), .ref (b 4), .ref (b 5), .int 0, .int 0, .ref (b 6)])), ((b 1), .inl (c2, 21, .inr (.inr (.inr (.inr dg))))), ((b 2), .inl (cI, 4, .inl (fun _ => 0))), ((b 3), .inl (cI, 4, .inl (fun _ => 0))), ((b 4), .inl (cI, 4, .inl dl)), ((b 5), .inl (cI, 2, .inl (fun _ => 0))), ((b 6), .inr (3, [.int 0, .ref eD, .int 0])), (o2, .inl (cE, 1, .inr (.inr (.inr (.inl (fun _ => 0))))))]) H := hP
    have hD : va_D (fun q : Nat => s.heap.size ≤ q) ([((b 0), .inr (10, [.int 0, .ref (b 1), .int 0, .int 0, .ref (b 2), .ref (b 3), .ref (b 4), .ref (b 5), .int 0, .int 0, .ref (b 6)])), ((b 1), .inl (c2, 21, .inr (.inr (.inr (.inr dg))))), ((b 2), .inl (cI, 4, .inl (fun _ => 0))), ((b 3), .inl (cI, 4, .inl (fun _ => 0))), ((b 4), .inl (cI, 4, .inl dl)), ((b 5), .inl (cI, 2, .inl (fun _ => 0))), ((b 6), .inr (3, [.int 0, .ref eD, .int 0])), (o2, .inl (cE, 1, .inr (.inr (.inr (.inl (fun _ => 0))))))]) := hD
    obtain rfl : r24 = 1 := hw25
    refine lv_istore (lv' := [(6, .int 1), (0, .ref b0), (1, .ref (a 0)), (2, .ref (b 0)), (3, .ref o), (4, .ref o2), (5, .int 0)]) hx hb dL_law_2345 hl (by decide) rfl (fun ls hl => ?_)
    refine lv_aload_n hx hb dL_law_2347 rfl (lv_at hl 3 rfl) ?_
    refine lv_aload_n hx hb dL_law_2348 rfl (lv_at hl 1 rfl) ?_
    refine lv_iload hx hb dL_law_2349 (lv_at hl 6 rfl) ?_
    refine lv_iconst (v := 1) hx hb dL_law_2351 (by decide) ?_
    refine lv_iadd hx hb dL_law_2352 ?_
    refine lv_topi (fun v26 e27 => ?_)
    obtain rfl : v26 = (1 : Int32) := e27.trans (by decide)
    refine va_sld hx hb hX hbl hbA hS (by unfold vp_in; decide) dL_law_2353 ?_
    refine lv_aload_n hx hb dL_law_2354 rfl (lv_at hl 1 rfl) ?_
    refine lv_iload hx hb dL_law_2355 (lv_at hl 6 rfl) ?_
    refine lv_iconst (v := 2) hx hb dL_law_2357 (by decide) ?_
    refine lv_iadd hx hb dL_law_2358 ?_
    refine lv_topi (fun v28 e29 => ?_)
    obtain rfl : v28 = (2 : Int32) := e29.trans (by decide)
    refine va_sld hx hb hX hbl hbA hS (by unfold vp_in; decide) dL_law_2359 ?_
    refine lv_aload_n hx hb dL_law_2360 rfl (lv_at hl 1 rfl) ?_
    refine lv_iload hx hb dL_law_2361 (lv_at hl 6 rfl) ?_
    refine lv_iconst (v := 3) hx hb dL_law_2363 (by decide) ?_
    refine lv_iadd hx hb dL_law_2364 ?_
    refine lv_topi (fun v30 e31 => ?_)
    obtain rfl : v30 = (3 : Int32) := e31.trans (by decide)
    refine va_sld hx hb hX hbl hbA hS (by unfold vp_in; decide) dL_law_2365 ?_
    refine lv_aload_n hx hb dL_law_2366 rfl (lv_at hl 1 rfl) ?_
    refine lv_iload hx hb dL_law_2367 (lv_at hl 6 rfl) ?_
    refine lv_iconst (v := 4) hx hb dL_law_2369 (by decide) ?_
    refine lv_iadd hx hb dL_law_2370 ?_
    refine lv_topi (fun v32 e33 => ?_)
    obtain rfl : v32 = (4 : Int32) := e33.trans (by decide)
    refine va_sld hx hb hX hbl hbA hS (by unfold vp_in; decide) dL_law_2371 ?_
    refine lv_if_eq (tgt := 2379) hx hb dL_law_2372 (by decide) (fun cx => absurd cx c9) (fun _ => ?_)
    refine lv_iconst (v := 1) hx hb dL_law_2375 (by decide) ?_
    refine lv_goto (tgt := 2380) hx hb dL_law_2376 (by decide) ?_
    have hFc := va_free (wc := [((b 0), .inr (10, [.int 0, .ref (b 1), .int 0, .int 0, .ref (b 2), .ref (b 3), .ref (b 4), .ref (b 5), .int 0, .int 0, .ref (b 6)])), ((b 6), .inr (3, [.int 0, .ref eD, .int 0]))]) hD hS hA [0, 6] rfl
    refine va_calli (va_runV (As := [.int (xs (1 : Int32).toNatClampNeg), .int (xs (2 : Int32).toNatClampNeg), .int (xs (3 : Int32).toNatClampNeg), .int 1]) (rest := []) ⟨hx, hb, hml, hown, hts⟩ (m_plan l dC dI _ b eD (xs (1 : Int32).toNatClampNeg) (xs (2 : Int32).toNatClampNeg) (xs (3 : Int32).toNatClampNeg) 1) (cwV 4 hts gL_law_X6_plan rfl rfl rfl (by decide +kernel) ⟨Nat.le_of_ble_eq_true rfl, Nat.le_of_ble_eq_true rfl⟩) ⟨fb_PM, va_recv hK hP (ci := 10) (q0 := 0) rfl rfl, fun U hU hW => ⟨rfl, PM.give hP hK hD hM [0, 6] [] rfl rfl rfl rfl hU hW⟩⟩ rfl rfl hl.1 rfl (lv_room (Nat.le_of_ble_eq_true rfl)) dL_law_2380 ⟨(Nat.le_of_ble_eq_true rfl), (Nat.le_of_ble_eq_true rfl)⟩) hS (fun q _ h => hFc q h) hFc (fun r34 u t H locs ht hvm hw35 hB hz1 hk1 hS => ?_)
    obtain ⟨hP, hD, hK⟩ := aft [0, 6] [] hP hK hD rfl (wr := []) rfl rfl (by decide) hFc hB ht hvm hk1
    have hP : va_P (dC, dI) vwCl ([((b 6), .inr (3, [.int 0, .ref eD, .int 0])), ((b 0), .inr (10, [.int 1, .ref (b 1), .int 0, .int 0, .ref (b 2), .ref (b 3), .ref (b 4), .ref (b 5), .int 0, .int 0, .ref (b 6)]))]) H := hP
    have hD : va_D (fun q : Nat => s.heap.size ≤ q) ([((b 6), .inr (3, [.int 0, .ref eD, .int 0])), ((b 0), .inr (10, [.int 1, .ref (b 1), .int 0, .int 0, .ref (b 2), .ref (b 3), .ref (b 4), .ref (b 5), .int 0, .int 0, .ref (b 6)]))]) := hD
    have hK : va_K (dC, dI) vwCl [(cI, .int), (cS, .object "Snowpalace$Site"), (c2, .array .int), (cJ, .long), (cE, .double)] s := hK
    refine lv_istore (lv' := [(7, .int r34), (6, .int 1), (0, .ref b0), (1, .ref (a 0)), (2, .ref (b 0)), (3, .ref o), (4, .ref o2), (5, .int 0)]) hx hb dL_law_2383 hl (by decide) rfl (fun ls hl => ?_)
    refine lv_aload_n hx hb dL_law_2385 rfl (lv_at hl 4 rfl) ?_
    refine va_calli (va_runV (As := []) (rest := []) ⟨hx, hb, hml, hown, hts⟩ (m_thrown l dC dI _ (b 0) 1 [.ref (b 1), .int 0, .int 0, .ref (b 2), .ref (b 3), .ref (b 4), .ref (b 5), .int 0, .int 0, .ref (b 6)]) (cwV 0 hts gL_law_X6_thrown rfl rfl rfl (by decide +kernel) ⟨Nat.le_of_ble_eq_true rfl, Nat.le_of_ble_eq_true rfl⟩) ⟨fb_PW, va_recv hK hP (ci := 10) (q0 := 1) rfl rfl, fun U hU hW => ⟨rfl, PW.give hP hK hD [1] [] rfl rfl rfl rfl hU hW⟩⟩ rfl rfl hl.1 rfl (lv_room (Nat.le_of_ble_eq_true rfl)) dL_law_2386 ⟨(Nat.le_of_ble_eq_true rfl), (Nat.le_of_ble_eq_true rfl)⟩) hS (fun q _ h => h.elim) (fun q h => h.elim) (fun r36 u t H locs ht hvm hw37 hB hz1 hk1 hS => ?_)
    have hP := kp_P hP hk1
    have hP : va_P (dC, dI) vwCl ([((b 6), .inr (3, [.int 0, .ref eD, .int 0])), ((b 0), .inr (10, [.int 1, .ref (b 1), .int 0, .int 0, .ref (b 2), .ref (b 3), .ref (b 4), .ref (b 5), .int 0, .int 0, .ref (b 6)]))]) H := hP
    have hD : va_D (fun q : Nat => s.heap.size ≤ q) ([((b 6), .inr (3, [.int 0, .ref eD, .int 0])), ((b 0), .inr (10, [.int 1, .ref (b 1), .int 0, .int 0, .ref (b 2), .ref (b 3), .ref (b 4), .ref (b 5), .int 0, .int 0, .ref (b 6)]))]) := hD
    obtain rfl : r36 = 1 := hw37
    refine lv_iload hx hb dL_law_2389 (lv_at hl 1 rfl) ?_
    refine lv_icmp_eq (tgt := 2396) hx hb dL_law_2391 (by decide) (fun _ => ?_) (fun cx => by first | exact absurd (by decide) cx | exact absurd cx (by decide))
    refine lv_iload hx hb dL_law_2396 (lv_at hl 1 rfl) ?_
    refine lv_if_ne (tgt := 2413) hx hb dL_law_2398 (by decide) (fun _ => ?_) (fun cx => by first | exact absurd (by decide) cx | exact absurd cx (by decide))
    refine lv_goto (tgt := 3037) hx hb dL_law_2413 (by decide) ?_
    exact law_exit C0 hS (Nat.le_of_ble_eq_true rfl) (Nat.le_of_ble_eq_true rfl) (lv_sub hl [2, 7] rfl)

set_option maxHeartbeats 4000000 in
set_option maxRecDepth 100000 in
/-- the law, a first call of carve -/
theorem case_32 {p : Program} {l : Launch} {e : Env} {s : State} {m : MethodId} {below : List Frame} {meth : Method} {c : Code} (hlt : l.stackTraces = false) {b0 : Nat} {xs : Nat → Int32} (C0 : lw_At p s m meth c b0 6 xs) (dC : Nat → ClassId) (dI : Nat → Nat → Nat) (a : Nat → Nat) (cI cS : ClassId) (f : Nat → Nat → Int32) (b : Nat → Nat) (c2 : ClassId) (dg : Nat → Option Nat) (dl : Nat → Int32) (eD o o2 : Nat) (cJ cE : ClassId) (Ld : List Nat) {H : Heap} {locs : List Loc} (hw0 : LW dC dI s H locs a cI cS f b c2 dg dl eD o o2 cJ cE Ld) {ls : Array Slot} (hl : lv_has ls 9 [(0, .ref b0), (1, .ref (a 0)), (2, .ref (b 0)), (3, .ref o), (4, .ref o2), (5, .int 0)]) :
    W p l e room_1 s m #[Value.ref b0] below meth c H locs 200 2000 (lw_Z below #[Value.ref b0] s) (F0 m 2416 ls []) := by
  obtain ⟨hx, hb, hr, hml, hown, hts0, hX, hbl, hlocks, hgv⟩ := id C0
  have hts : ∀ w ∈ wzL_law, w.before #[Value.ref b0] s = true := fun w h => hts0 w (wzL_law_in w h)
  have hA : ∀ q : Nat, s.heap.size ≤ q → (fun q : Nat => s.heap.size ≤ q) q := fun _ h => h
  have hbA : ¬ (fun q : Nat => s.heap.size ≤ q) b0 := Nat.not_le.mpr hbl
  obtain ⟨hK, hP, hD, hS, hT, hM, hLX⟩ := hw0
  refine lv_aload_n hx hb dL_law_2416 rfl (lv_at hl 1 rfl) ?_
  refine lv_aload_n hx hb dL_law_2417 rfl (lv_at hl 0 rfl) ?_
  refine lv_iload hx hb dL_law_2418 (lv_at hl 5 rfl) ?_
  refine lv_iconst (v := 1) hx hb dL_law_2420 (by decide) ?_
  refine lv_iadd hx hb dL_law_2421 ?_
  refine lv_topi (fun v1 e2 => ?_)
  obtain rfl : v1 = (1 : Int32) := e2.trans (by decide)
  refine va_sld hx hb hX hbl hbA hS (by unfold vp_in; decide) dL_law_2422 ?_
  refine lv_aload_n hx hb dL_law_2423 rfl (lv_at hl 0 rfl) ?_
  refine lv_iload hx hb dL_law_2424 (lv_at hl 5 rfl) ?_
  refine lv_iconst (v := 2) hx hb dL_law_2426 (by decide) ?_
  refine lv_iadd hx hb dL_law_2427 ?_
  refine lv_topi (fun v3 e4 => ?_)
  obtain rfl : v3 = (2 : Int32) := e4.trans (by decide)
  refine va_sld hx hb hX hbl hbA hS (by unfold vp_in; decide) dL_law_2428 ?_
  refine lv_aload_n hx hb dL_law_2429 rfl (lv_at hl 0 rfl) ?_
  refine lv_iload hx hb dL_law_2430 (lv_at hl 5 rfl) ?_
  refine lv_iconst (v := 3) hx hb dL_law_2432 (by decide) ?_
  refine lv_iadd hx hb dL_law_2433 ?_
  refine lv_topi (fun v5 e6 => ?_)
  obtain rfl : v5 = (3 : Int32) := e6.trans (by decide)
  refine va_sld hx hb hX hbl hbA hS (by unfold vp_in; decide) dL_law_2434 ?_
  refine lv_aload_n hx hb dL_law_2435 rfl (lv_at hl 0 rfl) ?_
  refine lv_iload hx hb dL_law_2436 (lv_at hl 5 rfl) ?_
  refine lv_iconst (v := 4) hx hb dL_law_2438 (by decide) ?_
  refine lv_iadd hx hb dL_law_2439 ?_
  refine lv_topi (fun v7 e8 => ?_)
  obtain rfl : v7 = (4 : Int32) := e8.trans (by decide)
  refine va_sld hx hb hX hbl hbA hS (by unfold vp_in; decide) dL_law_2440 ?_
  refine lv_aload_n hx hb dL_law_2441 rfl (lv_at hl 3 rfl) ?_
  have hFc := va_free (wc := [((a 0), .inr (7, [.ref (a 1), .ref (a 2), .ref (a 3), .int 0, .int 0, .int 0, .int 0, .int 0, .int 0, .int 0])), ((a 1), .inr (6, [.ref (a 4), .ref (a 5), .ref (a 6), .ref (a 7)])), ((a 2), .inr (4, [.ref (a 8), .ref (a 9), .ref (a 10)])), ((a 3), .inl (cS, 3, .inr (.inr (.inr (.inr (fun _ => none)))))), ((a 4), .inl (cI, 21, .inl (f 0))), ((a 5), .inl (cI, 21, .inl (f 1))), ((a 6), .inl (cI, 21, .inl (f 2))), ((a 7), .inl (cI, 21, .inl (f 3))), ((a 8), .inl (cI, 4, .inl (fun _ => 0))), ((a 9), .inl (cI, 4, .inl (fun _ => 0))), ((a 10), .inl (cI, 4, .inl (f 4))), (o, .inl (cJ, 1, .inr (.inl (fun _ => 0))))]) hD hS hA [0, 1, 2, 3, 4, 5, 6, 7, 8, 9, 10, 18] rfl
  refine va_calli (vx_runSW (As := [.ref (a 0), .int (xs (1 : Int32).toNatClampNeg), .int (xs (2 : Int32).toNatClampNeg), .int (xs (3 : Int32).toNatClampNeg), .int (xs (4 : Int32).toNatClampNeg), .ref o]) (rest := []) ⟨hx, hb, hml, hown, hts⟩ (h_carve l hlt dC dI _ a cI cS f cJ o (fun _ => 0) (xs (1 : Int32).toNatClampNeg) (xs (2 : Int32).toNatClampNeg) (xs (3 : Int32).toNatClampNeg) (xs (4 : Int32).toNatClampNeg)) (vx_cwSW 6 hts gL_law_L_carve rfl rfl rfl (by decide +kernel) ⟨Nat.le_of_ble_eq_true rfl, Nat.le_of_ble_eq_true rfl⟩) ⟨fb_PT, fun U hU hW => ⟨rfl, PT.give hP hK hD hS hA hT [0, 1, 2, 3, 4, 5, 6, 7, 8, 9, 10, 18] [0, 1, 3] rfl rfl rfl rfl hU hW⟩⟩ rfl rfl hl.1 rfl (lv_room (Nat.le_of_ble_eq_true rfl)) dL_law_2442 ⟨(Nat.le_of_ble_eq_true rfl), (Nat.le_of_ble_eq_true rfl)⟩) hS (fun q _ h => hFc q h) hFc (fun r9 u t H locs ht hvm hw10 hB hz1 hk1 hS => ?_)
  obtain ⟨hP, hD⟩ := aft0 [0, 1, 2, 3, 4, 5, 6, 7, 8, 9, 10, 18] [11, 12, 13, 14, 15, 16, 17, 19] hP hD rfl (wr := [((b 0), .inr (10, [.int 0, .ref (b 1), .int 0, .int 0, .ref (b 2), .ref (b 3), .ref (b 4), .ref (b 5), .int 0, .int 0, .ref (b 6)])), ((b 1), .inl (c2, 21, .inr (.inr (.inr (.inr dg))))), ((b 2), .inl (cI, 4, .inl (fun _ => 0))), ((b 3), .inl (cI, 4, .inl (fun _ => 0))), ((b 4), .inl (cI, 4, .inl dl)), ((b 5), .inl (cI, 2, .inl (fun _ => 0))), ((b 6), .inr (3, [.int 0, .ref eD, .int 0])), (o2, .inl (cE, 1, .inr (.inr (.inr (.inl (fun _ => 0))))))]) rfl rfl (by decide) hFc hk1
  have hP : va_P (dC, dI) vwCl ([((b 0), .inr (10, [.int 0, .ref (b 1), .int 0, .int 0, .ref (b 2), .ref (b 3), .ref (b 4), .ref (b 5), .int 0, .int 0, .ref (b 6)])), ((b 1), .inl (c2, 21, .inr (.inr (.inr (.inr dg))))), ((b 2), .inl (cI, 4, .inl (fun _ => 0))), ((b 3), .inl (cI, 4, .inl (fun _ => 0))), ((b 4), .inl (cI, 4, .inl dl)), ((b 5), .inl (cI, 2, .inl (fun _ => 0))), ((b 6), .inr (3, [.int 0, .ref eD, .int 0])), (o2, .inl (cE, 1, .inr (.inr (.inr (.inl (fun _ => 0))))))]) H := hP
  have hD : va_D (fun q : Nat => s.heap.size ≤ q) ([((b 0), .inr (10, [.int 0, .ref (b 1), .int 0, .int 0, .ref (b 2), .ref (b 3), .ref (b 4), .ref (b 5), .int 0, .int 0, .ref (b 6)])), ((b 1), .inl (c2, 21, .inr (.inr (.inr (.inr dg))))), ((b 2), .inl (cI, 4, .inl (fun _ => 0))), ((b 3), .inl (cI, 4, .inl (fun _ => 0))), ((b 4), .inl (cI, 4, .inl dl)), ((b 5), .inl (cI, 2, .inl (fun _ => 0))), ((b 6), .inr (3, [.int 0, .ref eD, .int 0])), (o2, .inl (cE, 1, .inr (.inr (.inr (.inl (fun _ => 0))))))]) := hD
  obtain rfl : r9 = 1 := hw10
  refine lv_istore (lv' := [(6, .int 1), (0, .ref b0), (1, .ref (a 0)), (2, .ref (b 0)), (3, .ref o), (4, .ref o2), (5, .int 0)]) hx hb dL_law_2445 hl (by decide) rfl (fun ls hl => ?_)
  refine lv_aload_n hx hb dL_law_2447 rfl (lv_at hl 3 rfl) ?_
  refine lv_aload_n hx hb dL_law_2448 rfl (lv_at hl 1 rfl) ?_
  refine lv_iload hx hb dL_law_2449 (lv_at hl 6 rfl) ?_
  refine lv_iconst (v := 1) hx hb dL_law_2451 (by decide) ?_
  refine lv_iadd hx hb dL_law_2452 ?_
  refine lv_topi (fun v11 e12 => ?_)
  obtain rfl : v11 = (1 : Int32) := e12.trans (by decide)
  refine va_sld hx hb hX hbl hbA hS (by unfold vp_in; decide) dL_law_2453 ?_
  refine lv_aload_n hx hb dL_law_2454 rfl (lv_at hl 1 rfl) ?_
  refine lv_iload hx hb dL_law_2455 (lv_at hl 6 rfl) ?_
  refine lv_iconst (v := 2) hx hb dL_law_2457 (by decide) ?_
  refine lv_iadd hx hb dL_law_2458 ?_
  refine lv_topi (fun v13 e14 => ?_)
  obtain rfl : v13 = (2 : Int32) := e14.trans (by decide)
  refine va_sld hx hb hX hbl hbA hS (by unfold vp_in; decide) dL_law_2459 ?_
  refine lv_aload_n hx hb dL_law_2460 rfl (lv_at hl 1 rfl) ?_
  refine lv_iload hx hb dL_law_2461 (lv_at hl 6 rfl) ?_
  refine lv_iconst (v := 3) hx hb dL_law_2463 (by decide) ?_
  refine lv_iadd hx hb dL_law_2464 ?_
  refine lv_topi (fun v15 e16 => ?_)
  obtain rfl : v15 = (3 : Int32) := e16.trans (by decide)
  refine va_sld hx hb hX hbl hbA hS (by unfold vp_in; decide) dL_law_2465 ?_
  refine lv_aload_n hx hb dL_law_2466 rfl (lv_at hl 1 rfl) ?_
  refine lv_iload hx hb dL_law_2467 (lv_at hl 6 rfl) ?_
  refine lv_iconst (v := 4) hx hb dL_law_2469 (by decide) ?_
  refine lv_iadd hx hb dL_law_2470 ?_
  refine lv_topi (fun v17 e18 => ?_)
  obtain rfl : v17 = (4 : Int32) := e18.trans (by decide)
  refine va_sld hx hb hX hbl hbA hS (by unfold vp_in; decide) dL_law_2471 ?_
  have hFc := va_free (wc := [((b 0), .inr (10, [.int 0, .ref (b 1), .int 0, .int 0, .ref (b 2), .ref (b 3), .ref (b 4), .ref (b 5), .int 0, .int 0, .ref (b 6)])), ((b 6), .inr (3, [.int 0, .ref eD, .int 0]))]) hD hS hA [0, 6] rfl
  refine va_calli (va_runV (As := [.int (xs (1 : Int32).toNatClampNeg), .int (xs (2 : Int32).toNatClampNeg), .int (xs (3 : Int32).toNatClampNeg), .int (xs (4 : Int32).toNatClampNeg)]) (rest := []) ⟨hx, hb, hml, hown, hts⟩ (m_carve l dC dI _ b eD (xs (1 : Int32).toNatClampNeg) (xs (2 : Int32).toNatClampNeg) (xs (3 : Int32).toNatClampNeg) (xs (4 : Int32).toNatClampNeg)) (cwV 4 hts gL_law_X6_carve rfl rfl rfl (by decide +kernel) ⟨Nat.le_of_ble_eq_true rfl, Nat.le_of_ble_eq_true rfl⟩) ⟨fb_PM, va_recv hK hP (ci := 10) (q0 := 0) rfl rfl, fun U hU hW => ⟨rfl, PM.give hP hK hD hM [0, 6] [] rfl rfl rfl rfl hU hW⟩⟩ rfl rfl hl.1 rfl (lv_room (Nat.le_of_ble_eq_true rfl)) dL_law_2472 ⟨(Nat.le_of_ble_eq_true rfl), (Nat.le_of_ble_eq_true rfl)⟩) hS (fun q _ h => hFc q h) hFc (fun r19 u t H locs ht hvm hw20 hB hz1 hk1 hS => ?_)
  obtain ⟨hP, hD, hK⟩ := aft [0, 6] [] hP hK hD rfl (wr := []) rfl rfl (by decide) hFc hB ht hvm hk1
  have hP : va_P (dC, dI) vwCl ([((b 6), .inr (3, [.int 0, .ref eD, .int 0])), ((b 0), .inr (10, [.int 1, .ref (b 1), .int 0, .int 0, .ref (b 2), .ref (b 3), .ref (b 4), .ref (b 5), .int 0, .int 0, .ref (b 6)]))]) H := hP
  have hD : va_D (fun q : Nat => s.heap.size ≤ q) ([((b 6), .inr (3, [.int 0, .ref eD, .int 0])), ((b 0), .inr (10, [.int 1, .ref (b 1), .int 0, .int 0, .ref (b 2), .ref (b 3), .ref (b 4), .ref (b 5), .int 0, .int 0, .ref (b 6)]))]) := hD
  have hK : va_K (dC, dI) vwCl [(cI, .int), (cS, .object "Snowpalace$Site"), (c2, .array .int), (cJ, .long), (cE, .double)] s := hK
  refine lv_istore (lv' := [(7, .int r19), (6, .int 1), (0, .ref b0), (1, .ref (a 0)), (2, .ref (b 0)), (3, .ref o), (4, .ref o2), (5, .int 0)]) hx hb dL_law_2475 hl (by decide) rfl (fun ls hl => ?_)
  refine lv_aload_n hx hb dL_law_2477 rfl (lv_at hl 4 rfl) ?_
  refine va_calli (va_runV (As := []) (rest := []) ⟨hx, hb, hml, hown, hts⟩ (m_thrown l dC dI _ (b 0) 1 [.ref (b 1), .int 0, .int 0, .ref (b 2), .ref (b 3), .ref (b 4), .ref (b 5), .int 0, .int 0, .ref (b 6)]) (cwV 0 hts gL_law_X6_thrown rfl rfl rfl (by decide +kernel) ⟨Nat.le_of_ble_eq_true rfl, Nat.le_of_ble_eq_true rfl⟩) ⟨fb_PW, va_recv hK hP (ci := 10) (q0 := 1) rfl rfl, fun U hU hW => ⟨rfl, PW.give hP hK hD [1] [] rfl rfl rfl rfl hU hW⟩⟩ rfl rfl hl.1 rfl (lv_room (Nat.le_of_ble_eq_true rfl)) dL_law_2478 ⟨(Nat.le_of_ble_eq_true rfl), (Nat.le_of_ble_eq_true rfl)⟩) hS (fun q _ h => h.elim) (fun q h => h.elim) (fun r21 u t H locs ht hvm hw22 hB hz1 hk1 hS => ?_)
  have hP := kp_P hP hk1
  have hP : va_P (dC, dI) vwCl ([((b 6), .inr (3, [.int 0, .ref eD, .int 0])), ((b 0), .inr (10, [.int 1, .ref (b 1), .int 0, .int 0, .ref (b 2), .ref (b 3), .ref (b 4), .ref (b 5), .int 0, .int 0, .ref (b 6)]))]) H := hP
  have hD : va_D (fun q : Nat => s.heap.size ≤ q) ([((b 6), .inr (3, [.int 0, .ref eD, .int 0])), ((b 0), .inr (10, [.int 1, .ref (b 1), .int 0, .int 0, .ref (b 2), .ref (b 3), .ref (b 4), .ref (b 5), .int 0, .int 0, .ref (b 6)]))]) := hD
  obtain rfl : r21 = 1 := hw22
  refine lv_iload hx hb dL_law_2481 (lv_at hl 1 rfl) ?_
  refine lv_icmp_eq (tgt := 2488) hx hb dL_law_2483 (by decide) (fun _ => ?_) (fun cx => by first | exact absurd (by decide) cx | exact absurd cx (by decide))
  refine lv_iload hx hb dL_law_2488 (lv_at hl 1 rfl) ?_
  refine lv_if_ne (tgt := 2505) hx hb dL_law_2490 (by decide) (fun _ => ?_) (fun cx => by first | exact absurd (by decide) cx | exact absurd cx (by decide))
  refine lv_goto (tgt := 3037) hx hb dL_law_2505 (by decide) ?_
  exact law_exit C0 hS (Nat.le_of_ble_eq_true rfl) (Nat.le_of_ble_eq_true rfl) (lv_sub hl [2, 7] rfl)

