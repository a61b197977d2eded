set_option maxHeartbeats 4000000 in
set_option maxRecDepth 100000 in
/-- the law, a first call of squareBits -/
theorem case_30 {p : Program} {l : Launch} {e : Env} {s : State} {m : MethodId} {below : List Frame} {meth : Method} {c : Code} (hlt : l.stackTraces = false) {b0 : Nat} {xs : Nat → Int32} (C0 : lw_At p s m meth c b0 6 xs) (dC : Nat → ClassId) (dI : Nat → Nat → Nat) (a : Nat → Nat) (cI cS : ClassId) (f : Nat → Nat → Int32) (b : Nat → Nat) (c2 : ClassId) (dg : Nat → Option Nat) (dl : Nat → Int32) (eD o o2 : Nat) (cJ cE : ClassId) (Ld : List Nat) {H : Heap} {locs : List Loc} (hw0 : LW dC dI s H locs a cI cS f b c2 dg dl eD o o2 cJ cE Ld) {ls : Array Slot} (hl : lv_has ls 9 [(0, .ref b0), (1, .ref (a 0)), (2, .ref (b 0)), (3, .ref o), (4, .ref o2), (5, .int 0)]) :
    W p l e room_1 s m #[Value.ref b0] below meth c H locs 200 2000 (lw_Z below #[Value.ref b0] s) (F0 m 2213 ls []) := by
  obtain ⟨hx, hb, hr, hml, hown, hts0, hX, hbl, hlocks, hgv⟩ := id C0
  have hts : ∀ w ∈ wzL_law, w.before #[Value.ref b0] s = true := fun w h => hts0 w (wzL_law_in w h)
  have hA : ∀ q : Nat, s.heap.size ≤ q → (fun q : Nat => s.heap.size ≤ q) q := fun _ h => h
  have hbA : ¬ (fun q : Nat => s.heap.size ≤ q) b0 := Nat.not_le.mpr hbl
  obtain ⟨hK, hP, hD, hS, hT, hM, hLX⟩ := hw0
  refine lv_aload_n hx hb dL_law_2213 rfl (lv_at hl 1 rfl) ?_
  refine lv_aload_n hx hb dL_law_2214 rfl (lv_at hl 0 rfl) ?_
  refine lv_iload hx hb dL_law_2215 (lv_at hl 5 rfl) ?_
  refine lv_iconst (v := 1) hx hb dL_law_2217 (by decide) ?_
  refine lv_iadd hx hb dL_law_2218 ?_
  refine lv_topi (fun v1 e2 => ?_)
  obtain rfl : v1 = (1 : Int32) := e2.trans (by decide)
  refine va_sld hx hb hX hbl hbA hS (by unfold vp_in; decide) dL_law_2219 ?_
  refine lv_aload_n hx hb dL_law_2220 rfl (lv_at hl 0 rfl) ?_
  refine lv_iload hx hb dL_law_2221 (lv_at hl 5 rfl) ?_
  refine lv_iconst (v := 2) hx hb dL_law_2223 (by decide) ?_
  refine lv_iadd hx hb dL_law_2224 ?_
  refine lv_topi (fun v3 e4 => ?_)
  obtain rfl : v3 = (2 : Int32) := e4.trans (by decide)
  refine va_sld hx hb hX hbl hbA hS (by unfold vp_in; decide) dL_law_2225 ?_
  refine lv_aload_n hx hb dL_law_2226 rfl (lv_at hl 0 rfl) ?_
  refine lv_iload hx hb dL_law_2227 (lv_at hl 5 rfl) ?_
  refine lv_iconst (v := 3) hx hb dL_law_2229 (by decide) ?_
  refine lv_iadd hx hb dL_law_2230 ?_
  refine lv_topi (fun v5 e6 => ?_)
  obtain rfl : v5 = (3 : Int32) := e6.trans (by decide)
  refine va_sld hx hb hX hbl hbA hS (by unfold vp_in; decide) dL_law_2231 ?_
  refine lv_if_eq (tgt := 2239) hx hb dL_law_2232 (by decide) (fun c7 => ?_) (fun c7 => ?_)
  · skip
    refine lv_iconst (v := 0) hx hb dL_law_2239 (by decide) ?_
    refine lv_aload_n hx hb dL_law_2240 rfl (lv_at hl 3 rfl) ?_
    have hFc := va_free (wc := [((a 0), .inr (7, [.ref (a 1), .ref (a 2), .ref (a 3), .int 0, .int 0, .int 0, .int 0, .int 0, .int 0, .int 0])), ((a 1), .inr (6, [.ref (a 4), .ref (a 5), .ref (a 6), .ref (a 7)])), ((a 2), .inr (4, [.ref (a 8), .ref (a 9), .ref (a 10)])), ((a 3), .inl (cS, 3, .inr (.inr (.inr (.inr (fun _ => none)))))), ((a 4), .inl (cI, 21, .inl (f 0))), ((a 5), .inl (cI, 21, .inl (f 1))), ((a 6), .inl (cI, 21, .inl (f 2))), ((a 7), .inl (cI, 21, .inl (f 3))), ((a 8), .inl (cI, 4, .inl (fun _ => 0))), ((a 9), .inl (cI, 4, .inl (fun _ => 0))), ((a 10), .inl (cI, 4, .inl (f 4))), (o, .inl (cJ, 1, .inr (.inl (fun _ => 0))))]) hD hS hA [0, 1, 2, 3, 4, 5, 6, 7, 8, 9, 10, 18] rfl
    refine va_calli (vx_runSW (As := [.ref (a 0), .int (xs (1 : Int32).toNatClampNeg), .int (xs (2 : Int32).toNatClampNeg), .int 0, .ref o]) (rest := []) ⟨hx, hb, hml, hown, hts⟩ (h_squareBits l hlt dC dI _ a cI cS f hLX.1 cJ o (fun _ => 0) (xs (1 : Int32).toNatClampNeg) (xs (2 : Int32).toNatClampNeg) 0) (vx_cwSW 5 hts gL_law_L_squareBits rfl rfl rfl (by decide +kernel) ⟨Nat.le_of_ble_eq_true rfl, Nat.le_of_ble_eq_true rfl⟩) ⟨fb_PT, fun U hU hW => ⟨rfl, PT.give hP hK hD hS hA hT [0, 1, 2, 3, 4, 5, 6, 7, 8, 9, 10, 18] [0, 1, 3] rfl rfl rfl rfl hU hW⟩⟩ rfl rfl hl.1 rfl (lv_room (Nat.le_of_ble_eq_true rfl)) dL_law_2241 ⟨(Nat.le_of_ble_eq_true rfl), (Nat.le_of_ble_eq_true rfl)⟩) hS (fun q _ h => hFc q h) hFc (fun r8 u t H locs ht hvm hw9 hB hz1 hk1 hS => ?_)
    have hw9 := hw9
    obtain ⟨u9, hu0⟩ : ∃ z, z = u := ⟨_, rfl⟩
    subst hu0
    obtain ⟨hP, hD, hK⟩ := aftQ [0, 1, 2, 3, 4, 5, 6, 7, 8, 9, 10, 18] [11, 12, 13, 14, 15, 16, 17, 19] hP hK hD rfl (wr := [((b 0), .inr (10, [.int 0, .ref (b 1), .int 0, .int 0, .ref (b 2), .ref (b 3), .ref (b 4), .ref (b 5), .int 0, .int 0, .ref (b 6)])), ((b 1), .inl (c2, 21, .inr (.inr (.inr (.inr dg))))), ((b 2), .inl (cI, 4, .inl (fun _ => 0))), ((b 3), .inl (cI, 4, .inl (fun _ => 0))), ((b 4), .inl (cI, 4, .inl dl)), ((b 5), .inl (cI, 2, .inl (fun _ => 0))), ((b 6), .inr (3, [.int 0, .ref eD, .int 0])), (o2, .inl (cE, 1, .inr (.inr (.inr (.inl (fun _ => 0))))))]) rfl rfl (by decide) hFc hB ht hvm hk1
    have hP : va_P (dC, dI) vwCl (([((b 0), .inr (10, [.int 0, .ref (b 1), .int 0, .int 0, .ref (b 2), .ref (b 3), .ref (b 4), .ref (b 5), .int 0, .int 0, .ref (b 6)])), ((b 1), .inl (c2, 21, .inr (.inr (.inr (.inr dg))))), ((b 2), .inl (cI, 4, .inl (fun _ => 0))), ((b 3), .inl (cI, 4, .inl (fun _ => 0))), ((b 4), .inl (cI, 4, .inl dl)), ((b 5), .inl (cI, 2, .inl (fun _ => 0))), ((b 6), .inr (3, [.int 0, .ref eD, .int 0])), (o2, .inl (cE, 1, .inr (.inr (.inr (.inl (fun _ => 0)))))), (o, .inl (cJ, 1, .inr (.inl u9)))]) ++ va_pl Ld (fun _ => .inl (cI, 4, .inl wRow))) H := hP
    have hD : va_D (fun q : Nat => s.heap.size ≤ q) (([((b 0), .inr (10, [.int 0, .ref (b 1), .int 0, .int 0, .ref (b 2), .ref (b 3), .ref (b 4), .ref (b 5), .int 0, .int 0, .ref (b 6)])), ((b 1), .inl (c2, 21, .inr (.inr (.inr (.inr dg))))), ((b 2), .inl (cI, 4, .inl (fun _ => 0))), ((b 3), .inl (cI, 4, .inl (fun _ => 0))), ((b 4), .inl (cI, 4, .inl dl)), ((b 5), .inl (cI, 2, .inl (fun _ => 0))), ((b 6), .inr (3, [.int 0, .ref eD, .int 0])), (o2, .inl (cE, 1, .inr (.inr (.inr (.inl (fun _ => 0)))))), (o, .inl (cJ, 1, .inr (.inl u9)))]) ++ va_pl Ld (fun _ => .inl (cI, 4, .inl wRow))) := hD
    have hK : va_K (dC, dI) vwCl [(cI, .int), (cS, .object "Snowpalace$Site"), (c2, .array .int), (cJ, .long), (cE, .double)] s := hK.sub [0, 1, 2, 3, 4] rfl
    rcases hw9 with ⟨hok, hr8, hu9⟩ | ⟨hno, hr8⟩
    · skip
      obtain rfl : r8 = 0 := hr8
      refine lv_istore (lv' := [(6, .int 0), (0, .ref b0), (1, .ref (a 0)), (2, .ref (b 0)), (3, .ref o), (4, .ref o2), (5, .int 0)]) hx hb dL_law_2244 hl (by decide) rfl (fun ls hl => ?_)
      refine lv_aload_n hx hb dL_law_2246 rfl (lv_at hl 3 rfl) ?_
      refine lv_aload_n hx hb dL_law_2247 rfl (lv_at hl 1 rfl) ?_
      refine lv_iload hx hb dL_law_2248 (lv_at hl 6 rfl) ?_
      refine lv_iconst (v := 1) hx hb dL_law_2250 (by decide) ?_
      refine lv_iadd hx hb dL_law_2251 ?_
      refine lv_topi (fun v10 e11 => ?_)
      obtain rfl : v10 = (1 : Int32) := e11.trans (by decide)
      refine va_sld hx hb hX hbl hbA hS (by unfold vp_in; decide) dL_law_2252 ?_
      refine lv_aload_n hx hb dL_law_2253 rfl (lv_at hl 1 rfl) ?_
      refine lv_iload hx hb dL_law_2254 (lv_at hl 6 rfl) ?_
      refine lv_iconst (v := 2) hx hb dL_law_2256 (by decide) ?_
      refine lv_iadd hx hb dL_law_2257 ?_
      refine lv_topi (fun v12 e13 => ?_)
      obtain rfl : v12 = (2 : Int32) := e13.trans (by decide)
      refine va_sld hx hb hX hbl hbA hS (by unfold vp_in; decide) dL_law_2258 ?_
      refine lv_aload_n hx hb dL_law_2259 rfl (lv_at hl 1 rfl) ?_
      refine lv_iload hx hb dL_law_2260 (lv_at hl 6 rfl) ?_
      refine lv_iconst (v := 3) hx hb dL_law_2262 (by decide) ?_
      refine lv_iadd hx hb dL_law_2263 ?_
      refine lv_topi (fun v14 e15 => ?_)
      obtain rfl : v14 = (3 : Int32) := e15.trans (by decide)
      refine va_sld hx hb hX hbl hbA hS (by unfold vp_in; decide) dL_law_2264 ?_
      refine lv_if_eq (tgt := 2272) hx hb dL_law_2265 (by decide) (fun _ => ?_) (fun cx => absurd c7 cx)
      refine lv_iconst (v := 0) hx hb dL_law_2272 (by decide) ?_
      have hFc := va_freeP (cx := [((b 0), .inr (10, [.int 0, .ref (b 1), .int 0, .int 0, .ref (b 2), .ref (b 3), .ref (b 4), .ref (b 5), .int 0, .int 0, .ref (b 6)])), ((b 1), .inl (c2, 21, .inr (.inr (.inr (.inr dg)))))]) (pl := va_pl Ld (fun _ => .inl (cI, 4, .inl wRow))) hD hS hA [0, 1] rfl
      refine va_calll (va_runV (As := [.int (xs (1 : Int32).toNatClampNeg), .int (xs (2 : Int32).toNatClampNeg), .int 0]) (rest := []) ⟨hx, hb, hml, hown, hts⟩ (m_squareBits l dC dI _ b cI c2 dg Ld hLX.2 (xs (1 : Int32).toNatClampNeg) (xs (2 : Int32).toNatClampNeg) 0) (cwV 3 hts gL_law_X6_squareBits rfl rfl rfl (by decide +kernel) ⟨Nat.le_of_ble_eq_true rfl, Nat.le_of_ble_eq_true rfl⟩) ⟨fb_PM, va_recv hK hP (ci := 10) (q0 := 0) rfl rfl, fun U hU hW => ⟨rfl, ⟨PW.giveP hP hK hD [0, 1] [0, 2] rfl rfl rfl hU hW, hM.warm hW⟩⟩⟩ rfl rfl hl.1 rfl (lv_room (Nat.le_of_ble_eq_true rfl)) dL_law_2273 ⟨(Nat.le_of_ble_eq_true rfl), (Nat.le_of_ble_eq_true rfl)⟩) hS (fun q _ h => hFc q h) hFc (fun r16 u t H locs ht hvm hw17 hB hz1 hk1 hS => ?_)
      obtain ⟨t9, fs9⟩ := u
      dsimp only at hw17
      obtain ⟨hP, hD, hK⟩ := aftPR [0, 1] [2, 3, 4, 5, 6, 7, 8] hP hK hD rfl (wr := [((b 2), .inl (cI, 4, .inl (fun _ => 0))), ((b 3), .inl (cI, 4, .inl (fun _ => 0))), ((b 4), .inl (cI, 4, .inl dl)), ((b 5), .inl (cI, 2, .inl (fun _ => 0))), ((b 6), .inr (3, [.int 0, .ref eD, .int 0])), (o2, .inl (cE, 1, .inr (.inr (.inr (.inl (fun _ => 0)))))), (o, .inl (cJ, 1, .inr (.inl u9)))]) rfl rfl (by decide) hFc hB ht hvm hk1
      have hP : va_P (dC, dI) vwCl ([((b 2), .inl (cI, 4, .inl (fun _ => 0))), ((b 3), .inl (cI, 4, .inl (fun _ => 0))), ((b 4), .inl (cI, 4, .inl dl)), ((b 5), .inl (cI, 2, .inl (fun _ => 0))), ((b 6), .inr (3, [.int 0, .ref eD, .int 0])), (o2, .inl (cE, 1, .inr (.inr (.inr (.inl (fun _ => 0)))))), (o, .inl (cJ, 1, .inr (.inl u9))), ((b 0), .inr (10, .int t9 :: fs9))]) H := hP
      have hD : va_D (fun q : Nat => s.heap.size ≤ q) ([((b 2), .inl (cI, 4, .inl (fun _ => 0))), ((b 3), .inl (cI, 4, .inl (fun _ => 0))), ((b 4), .inl (cI, 4, .inl dl)), ((b 5), .inl (cI, 2, .inl (fun _ => 0))), ((b 6), .inr (3, [.int 0, .ref eD, .int 0])), (o2, .inl (cE, 1, .inr (.inr (.inr (.inl (fun _ => 0)))))), (o, .inl (cJ, 1, .inr (.inl u9))), ((b 0), .inr (10, .int t9 :: fs9))]) := hD
      have hK : va_K (dC, dI) vwCl [(cI, .int), (cS, .object "Snowpalace$Site"), (c2, .array .int), (cJ, .long), (cE, .double)] s := hK.sub [0, 1, 2, 3, 4] rfl
      rcases hw17 with ⟨hok2, h9, hr9⟩ | ⟨hno2, h9⟩
      · skip
        obtain rfl : t9 = 0 := h9
        refine lv_lstore (lv' := [(7, .long r16), (6, .int 0), (0, .ref b0), (1, .ref (a 0)), (2, .ref (b 0)), (3, .ref o), (4, .ref o2), (5, .int 0)]) hx hb dL_law_2276 hl (by decide) rfl (fun ls hl => ?_)
        refine lv_aload_n hx hb dL_law_2278 rfl (lv_at hl 4 rfl) ?_
        refine va_calli (va_runV (As := []) (rest := []) ⟨hx, hb, hml, hown, hts⟩ (m_thrown l dC dI _ (b 0) 0 fs9) (cwV 0 hts gL_law_X6_thrown rfl rfl rfl (by decide +kernel) ⟨Nat.le_of_ble_eq_true rfl, Nat.le_of_ble_eq_true rfl⟩) ⟨fb_PW, va_recv hK hP (ci := 10) (q0 := 7) rfl rfl, fun U hU hW => ⟨rfl, PW.give hP hK hD [7] [] rfl rfl rfl rfl hU hW⟩⟩ rfl rfl hl.1 rfl (lv_room (Nat.le_of_ble_eq_true rfl)) dL_law_2279 ⟨(Nat.le_of_ble_eq_true rfl), (Nat.le_of_ble_eq_true rfl)⟩) hS (fun q _ h => h.elim) (fun q h => h.elim) (fun r18 u t H locs ht hvm hw19 hB hz1 hk1 hS => ?_)
        have hP := kp_P hP hk1
        have hP : va_P (dC, dI) vwCl ([((b 2), .inl (cI, 4, .inl (fun _ => 0))), ((b 3), .inl (cI, 4, .inl (fun _ => 0))), ((b 4), .inl (cI, 4, .inl dl)), ((b 5), .inl (cI, 2, .inl (fun _ => 0))), ((b 6), .inr (3, [.int 0, .ref eD, .int 0])), (o2, .inl (cE, 1, .inr (.inr (.inr (.inl (fun _ => 0)))))), (o, .inl (cJ, 1, .inr (.inl u9))), ((b 0), .inr (10, .int 0 :: fs9))]) H := hP
        have hD : va_D (fun q : Nat => s.heap.size ≤ q) ([((b 2), .inl (cI, 4, .inl (fun _ => 0))), ((b 3), .inl (cI, 4, .inl (fun _ => 0))), ((b 4), .inl (cI, 4, .inl dl)), ((b 5), .inl (cI, 2, .inl (fun _ => 0))), ((b 6), .inr (3, [.int 0, .ref eD, .int 0])), (o2, .inl (cE, 1, .inr (.inr (.inr (.inl (fun _ => 0)))))), (o, .inl (cJ, 1, .inr (.inl u9))), ((b 0), .inr (10, .int 0 :: fs9))]) := hD
        obtain rfl : r18 = 0 := hw19
        refine lv_iload hx hb dL_law_2282 (lv_at hl 1 rfl) ?_
        refine lv_icmp_eq (tgt := 2289) hx hb dL_law_2284 (by decide) (fun _ => ?_) (fun cx => by first | exact absurd (by decide) cx | exact absurd cx (by decide))
        refine lv_iload hx hb dL_law_2289 (lv_at hl 1 rfl) ?_
        refine lv_if_ne (tgt := 2305) hx hb dL_law_2291 (by decide) (fun cx => by first | exact absurd cx (by decide) | exact absurd (by decide) cx) (fun _ => ?_)
        refine lv_aload_n hx hb dL_law_2294 rfl (lv_at hl 5 rfl) ?_
        refine lv_iconst (v := 0) hx hb dL_law_2295 (by decide) ?_
        refine va_lald (D := (dC, dI)) hx hb hK hP 6 3 rfl rfl (by unfold vp_in; decide) dL_law_2296 ?_
        refine lv_topl (fun v20 e21 => ?_)
        refine lv_lload hx hb dL_law_2297 (lv_at hl 0 rfl) ?_
        refine W.lcmp hx hb dL_law_2299 ?_
        refine lv_topi (fun v22 e23 => ?_)
        obtain rfl : v22 = (0 : Int32) := e23.trans (lcmp0 rfl (e21.trans (hu9.trans (by first | exact hr9.symm | exact (congrArg Int32.toInt64 hr9).symm | rfl | decide))))
        refine lv_if_eq (tgt := 2305) hx hb dL_law_2300 (by decide) (fun _ => ?_) (fun cx => by first | exact absurd (by decide) cx | exact absurd cx (by decide))
        refine lv_goto (tgt := 3037) hx hb dL_law_2305 (by decide) ?_
        exact law_exit C0 hS (Nat.le_of_ble_eq_true rfl) (Nat.le_of_ble_eq_true rfl) (lv_sub hl [2, 7] rfl)
      · skip
        exact absurd hok hno2
    · skip
      obtain rfl : r8 = 1 := hr8
      refine lv_istore (lv' := [(6, .int 1), (0, .ref b0), (1, .ref (a 0)), (2, .ref (b 0)), (3, .ref o), (4, .ref o2), (5, .int 0)]) hx hb dL_law_2244 hl (by decide) rfl (fun ls hl => ?_)
      refine lv_aload_n hx hb dL_law_2246 rfl (lv_at hl 3 rfl) ?_
      refine lv_aload_n hx hb dL_law_2247 rfl (lv_at hl 1 rfl) ?_
      refine lv_iload hx hb dL_law_2248 (lv_at hl 6 rfl) ?_
      refine lv_iconst (v := 1) hx hb dL_law_2250 (by decide) ?_
      refine lv_iadd hx hb dL_law_2251 ?_
      refine lv_topi (fun v24 e25 => ?_)
      obtain rfl : v24 = (1 : Int32) := e25.trans (by decide)
      refine va_sld hx hb hX hbl hbA hS (by unfold vp_in; decide) dL_law_2252 ?_
      refine lv_aload_n hx hb dL_law_2253 rfl (lv_at hl 1 rfl) ?_
      refine lv_iload hx hb dL_law_2254 (lv_at hl 6 rfl) ?_
      refine lv_iconst (v := 2) hx hb dL_law_2256 (by decide) ?_
      refine lv_iadd hx hb dL_law_2257 ?_
      refine lv_topi (fun v26 e27 => ?_)
      obtain rfl : v26 = (2 : Int32) := e27.trans (by decide)
      refine va_sld hx hb hX hbl hbA hS (by unfold vp_in; decide) dL_law_2258 ?_
      refine lv_aload_n hx hb dL_law_2259 rfl (lv_at hl 1 rfl) ?_
      refine lv_iload hx hb dL_law_2260 (lv_at hl 6 rfl) ?_
      refine lv_iconst (v := 3) hx hb dL_law_2262 (by decide) ?_
      refine lv_iadd hx hb dL_law_2263 ?_
      refine lv_topi (fun v28 e29 => ?_)
      obtain rfl : v28 = (3 : Int32) := e29.trans (by decide)
      refine va_sld hx hb hX hbl hbA hS (by unfold vp_in; decide) dL_law_2264 ?_
      refine lv_if_eq (tgt := 2272) hx hb dL_law_2265 (by decide) (fun _ => ?_) (fun cx => absurd c7 cx)
      refine lv_iconst (v := 0) hx hb dL_law_2272 (by decide) ?_
      have hFc := va_freeP (cx := [((b 0), .inr (10, [.int 0, .ref (b 1), .int 0, .int 0, .ref (b 2), .ref (b 3), .ref (b 4), .ref (b 5), .int 0, .int 0, .ref (b 6)])), ((b 1), .inl (c2, 21, .inr (.inr (.inr (.inr dg)))))]) (pl := va_pl Ld (fun _ => .inl (cI, 4, .inl wRow))) hD hS hA [0, 1] rfl
      refine va_calll (va_runV (As := [.int (xs (1 : Int32).toNatClampNeg), .int (xs (2 : Int32).toNatClampNeg), .int 0]) (rest := []) ⟨hx, hb, hml, hown, hts⟩ (m_squareBits l dC dI _ b cI c2 dg Ld hLX.2 (xs (1 : Int32).toNatClampNeg) (xs (2 : Int32).toNatClampNeg) 0) (cwV 3 hts gL_law_X6_squareBits rfl rfl rfl (by decide +kernel) ⟨Nat.le_of_ble_eq_true rfl, Nat.le_of_ble_eq_true rfl⟩) ⟨fb_PM, va_recv hK hP (ci := 10) (q0 := 0) rfl rfl, fun U hU hW => ⟨rfl, ⟨PW.giveP hP hK hD [0, 1] [0, 2] rfl rfl rfl hU hW, hM.warm hW⟩⟩⟩ rfl rfl hl.1 rfl (lv_room (Nat.le_of_ble_eq_true rfl)) dL_law_2273 ⟨(Nat.le_of_ble_eq_true rfl), (Nat.le_of_ble_eq_true rfl)⟩) hS (fun q _ h => hFc q h) hFc (fun r30 u t H locs ht hvm hw31 hB hz1 hk1 hS => ?_)
      obtain ⟨t9, fs9⟩ := u
      dsimp only at hw31
      obtain ⟨hP, hD, hK⟩ := aftPR [0, 1] [2, 3, 4, 5, 6, 7, 8] hP hK hD rfl (wr := [((b 2), .inl (cI, 4, .inl (fun _ => 0))), ((b 3), .inl (cI, 4, .inl (fun _ => 0))), ((b 4), .inl (cI, 4, .inl dl)), ((b 5), .inl (cI, 2, .inl (fun _ => 0))), ((b 6), .inr (3, [.int 0, .ref eD, .int 0])), (o2, .inl (cE, 1, .inr (.inr (.inr (.inl (fun _ => 0)))))), (o, .inl (cJ, 1, .inr (.inl u9)))]) rfl rfl (by decide) hFc hB ht hvm hk1
      have hP : va_P (dC, dI) vwCl ([((b 2), .inl (cI, 4, .inl (fun _ => 0))), ((b 3), .inl (cI, 4, .inl (fun _ => 0))), ((b 4), .inl (cI, 4, .inl dl)), ((b 5), .inl (cI, 2, .inl (fun _ => 0))), ((b 6), .inr (3, [.int 0, .ref eD, .int 0])), (o2, .inl (cE, 1, .inr (.inr (.inr (.inl (fun _ => 0)))))), (o, .inl (cJ, 1, .inr (.inl u9))), ((b 0), .inr (10, .int t9 :: fs9))]) H := hP
      have hD : va_D (fun q : Nat => s.heap.size ≤ q) ([((b 2), .inl (cI, 4, .inl (fun _ => 0))), ((b 3), .inl (cI, 4, .inl (fun _ => 0))), ((b 4), .inl (cI, 4, .inl dl)), ((b 5), .inl (cI, 2, .inl (fun _ => 0))), ((b 6), .inr (3, [.int 0, .ref eD, .int 0])), (o2, .inl (cE, 1, .inr (.inr (.inr (.inl (fun _ => 0)))))), (o, .inl (cJ, 1, .inr (.inl u9))), ((b 0), .inr (10, .int t9 :: fs9))]) := hD
      have hK : va_K (dC, dI) vwCl [(cI, .int), (cS, .object "Snowpalace$Site"), (c2, .array .int), (cJ, .long), (cE, .double)] s := hK.sub [0, 1, 2, 3, 4] rfl
      rcases hw31 with ⟨hok2, h9, hr9⟩ | ⟨hno2, h9⟩
      · skip
        exact absurd hok2 hno
      · skip
        obtain rfl : t9 = 1 := h9
        refine lv_lstore (lv' := [(7, .long r30), (6, .int 1), (0, .ref b0), (1, .ref (a 0)), (2, .ref (b 0)), (3, .ref o), (4, .ref o2), (5, .int 0)]) hx hb dL_law_2276 hl (by decide) rfl (fun ls hl => ?_)
        refine lv_aload_n hx hb dL_law_2278 rfl (lv_at hl 4 rfl) ?_
        refine va_calli (va_runV (As := []) (rest := []) ⟨hx, hb, hml, hown, hts⟩ (m_thrown l dC dI _ (b 0) 1 fs9) (cwV 0 hts gL_law_X6_thrown rfl rfl rfl (by decide +kernel) ⟨Nat.le_of_ble_eq_true rfl, Nat.le_of_ble_eq_true rfl⟩) ⟨fb_PW, va_recv hK hP (ci := 10) (q0 := 7) rfl rfl, fun U hU hW => ⟨rfl, PW.give hP hK hD [7] [] rfl rfl rfl rfl hU hW⟩⟩ rfl rfl hl.1 rfl (lv_room (Nat.le_of_ble_eq_true rfl)) dL_law_2279 ⟨(Nat.le_of_ble_eq_true rfl), (Nat.le_of_ble_eq_true rfl)⟩) hS (fun q _ h => h.elim) (fun q h => h.elim) (fun r32 u t H locs ht hvm hw33 hB hz1 hk1 hS => ?_)
        have hP := kp_P hP hk1
        have hP : va_P (dC, dI) vwCl ([((b 2), .inl (cI, 4, .inl (fun _ => 0))), ((b 3), .inl (cI, 4, .inl (fun _ => 0))), ((b 4), .inl (cI, 4, .inl dl)), ((b 5), .inl (cI, 2, .inl (fun _ => 0))), ((b 6), .inr (3, [.int 0, .ref eD, .int 0])), (o2, .inl (cE, 1, .inr (.inr (.inr (.inl (fun _ => 0)))))), (o, .inl (cJ, 1, .inr (.inl u9))), ((b 0), .inr (10, .int 1 :: fs9))]) H := hP
        have hD : va_D (fun q : Nat => s.heap.size ≤ q) ([((b 2), .inl (cI, 4, .inl (fun _ => 0))), ((b 3), .inl (cI, 4, .inl (fun _ => 0))), ((b 4), .inl (cI, 4, .inl dl)), ((b 5), .inl (cI, 2, .inl (fun _ => 0))), ((b 6), .inr (3, [.int 0, .ref eD, .int 0])), (o2, .inl (cE, 1, .inr (.inr (.inr (.inl (fun _ => 0)))))), (o, .inl (cJ, 1, .inr (.inl u9))), ((b 0), .inr (10, .int 1 :: fs9))]) := hD
        obtain rfl : r32 = 1 := hw33
        refine lv_iload hx hb dL_law_2282 (lv_at hl 1 rfl) ?_
        refine lv_icmp_eq (tgt := 2289) hx hb dL_law_2284 (by decide) (fun _ => ?_) (fun cx => by first | exact absurd (by decide) cx | exact absurd cx (by decide))
        refine lv_iload hx hb dL_law_2289 (lv_at hl 1 rfl) ?_
        refine lv_if_ne (tgt := 2305) hx hb dL_law_2291 (by decide) (fun _ => ?_) (fun cx => by first | exact absurd (by decide) cx | exact absurd cx (by decide))
        refine lv_goto (tgt := 3037) hx hb dL_law_2305 (by decide) ?_
        exact law_exit C0 hS (Nat.le_of_ble_eq_true rfl) (Nat.le_of_ble_eq_true rfl) (lv_sub hl [2, 7] rfl)
  · skip
    refine lv_iconst (v := 1) hx hb dL_law_2235 (by decide) ?_
    refine lv_goto (tgt := 2240) hx hb dL_law_2236 (by decide) ?_
    refine lv_aload_n hx hb dL_law_2240 rfl (lv_at hl 3 rfl) ?_
    have hFc := va_free (wc := [((a 0), .inr (7, [.ref (a 1), .ref (a 2), .ref (a 3), .int 0, .int 0, .int 0, .int 0, .int 0, .int 0, .int 0])), ((a 1), .inr (6, [.ref (a 4), .ref (a 5), .ref (a 6), .ref (a 7)])), ((a 2), .inr (4, [.ref (a 8), .ref (a 9), .ref (a 10)])), ((a 3), .inl (cS, 3, .inr (.inr (.inr (.inr (fun _ => none)))))), ((a 4), .inl (cI, 21, .inl (f 0))), ((a 5), .inl (cI, 21, .inl (f 1))), ((a 6), .inl (cI, 21, .inl (f 2))), ((a 7), .inl (cI, 21, .inl (f 3))), ((a 8), .inl (cI, 4, .inl (fun _ => 0))), ((a 9), .inl (cI, 4, .inl (fun _ => 0))), ((a 10), .inl (cI, 4, .inl (f 4))), (o, .inl (cJ, 1, .inr (.inl (fun _ => 0))))]) hD hS hA [0, 1, 2, 3, 4, 5, 6, 7, 8, 9, 10, 18] rfl
    refine va_calli (vx_runSW (As := [.ref (a 0), .int (xs (1 : Int32).toNatClampNeg), .int (xs (2 : Int32).toNatClampNeg), .int 1, .ref o]) (rest := []) ⟨hx, hb, hml, hown, hts⟩ (h_squareBits l hlt dC dI _ a cI cS f hLX.1 cJ o (fun _ => 0) (xs (1 : Int32).toNatClampNeg) (xs (2 : Int32).toNatClampNeg) 1) (vx_cwSW 5 hts gL_law_L_squareBits rfl rfl rfl (by decide +kernel) ⟨Nat.le_of_ble_eq_true rfl, Nat.le_of_ble_eq_true rfl⟩) ⟨fb_PT, fun U hU hW => ⟨rfl, PT.give hP hK hD hS hA hT [0, 1, 2, 3, 4, 5, 6, 7, 8, 9, 10, 18] [0, 1, 3] rfl rfl rfl rfl hU hW⟩⟩ rfl rfl hl.1 rfl (lv_room (Nat.le_of_ble_eq_true rfl)) dL_law_2241 ⟨(Nat.le_of_ble_eq_true rfl), (Nat.le_of_ble_eq_true rfl)⟩) hS (fun q _ h => hFc q h) hFc (fun r34 u t H locs ht hvm hw35 hB hz1 hk1 hS => ?_)
    have hw9 := hw35
    obtain ⟨u9, hu0⟩ : ∃ z, z = u := ⟨_, rfl⟩
    subst hu0
    obtain ⟨hP, hD, hK⟩ := aftQ [0, 1, 2, 3, 4, 5, 6, 7, 8, 9, 10, 18] [11, 12, 13, 14, 15, 16, 17, 19] hP hK hD rfl (wr := [((b 0), .inr (10, [.int 0, .ref (b 1), .int 0, .int 0, .ref (b 2), .ref (b 3), .ref (b 4), .ref (b 5), .int 0, .int 0, .ref (b 6)])), ((b 1), .inl (c2, 21, .inr (.inr (.inr (.inr dg))))), ((b 2), .inl (cI, 4, .inl (fun _ => 0))), ((b 3), .inl (cI, 4, .inl (fun _ => 0))), ((b 4), .inl (cI, 4, .inl dl)), ((b 5), .inl (cI, 2, .inl (fun _ => 0))), ((b 6), .inr (3, [.int 0, .ref eD, .int 0])), (o2, .inl (cE, 1, .inr (.inr (.inr (.inl (fun _ => 0))))))]) rfl rfl (by decide) hFc hB ht hvm hk1
    have hP : va_P (dC, dI) vwCl (([((b 0), .inr (10, [.int 0, .ref (b 1), .int 0, .int 0, .ref (b 2), .ref (b 3), .ref (b 4), .ref (b 5), .int 0, .int 0, .ref (b 6)])), ((b 1), .inl (c2, 21, .inr (.inr (.inr (.inr dg))))), ((b 2), .inl (cI, 4, .inl (fun _ => 0))), ((b 3), .inl (cI, 4, .inl (fun _ => 0))), ((b 4), .inl (cI, 4, .inl dl)), ((b 5), .inl (cI, 2, .inl (fun _ => 0))), ((b 6), .inr (3, [.int 0, .ref eD, .int 0])), (o2, .inl (cE, 1, .inr (.inr (.inr (.inl (fun _ => 0)))))), (o, .inl (cJ, 1, .inr (.inl u9)))]) ++ va_pl Ld (fun _ => .inl (cI, 4, .inl wRow))) H := hP
    have hD : va_D (fun q : Nat => s.heap.size ≤ q) (([((b 0), .inr (10, [.int 0, .ref (b 1), .int 0, .int 0, .ref (b 2), .ref (b 3), .ref (b 4), .ref (b 5), .int 0, .int 0, .ref (b 6)])), ((b 1), .inl (c2, 21, .inr (.inr (.inr (.inr dg))))), ((b 2), .inl (cI, 4, .inl (fun _ => 0))), ((b 3), .inl (cI, 4, .inl (fun _ => 0))), ((b 4), .inl (cI, 4, .inl dl)), ((b 5), .inl (cI, 2, .inl (fun _ => 0))), ((b 6), .inr (3, [.int 0, .ref eD, .int 0])), (o2, .inl (cE, 1, .inr (.inr (.inr (.inl (fun _ => 0)))))), (o, .inl (cJ, 1, .inr (.inl u9)))]) ++ va_pl Ld (fun _ => .inl (cI, 4, .inl wRow))) := hD
    have hK : va_K (dC, dI) vwCl [(cI, .int), (cS, .object "Snowpalace$Site"), (c2, .array .int), (cJ, .long), (cE, .double)] s := hK.sub [0, 1, 2, 3, 4] rfl
    rcases hw35 with ⟨hok, hr8, hu9⟩ | ⟨hno, hr8⟩
    · skip
      obtain rfl : r34 = 0 := hr8
      refine lv_istore (lv' := [(6, .int 0), (0, .ref b0), (1, .ref (a 0)), (2, .ref (b 0)), (3, .ref o), (4, .ref o2), (5, .int 0)]) hx hb dL_law_2244 hl (by decide) rfl (fun ls hl => ?_)
      refine lv_aload_n hx hb dL_law_2246 rfl (lv_at hl 3 rfl) ?_
      refine lv_aload_n hx hb dL_law_2247 rfl (lv_at hl 1 rfl) ?_
      refine lv_iload hx hb dL_law_2248 (lv_at hl 6 rfl) ?_
      refine lv_iconst (v := 1) hx hb dL_law_2250 (by decide) ?_
      refine lv_iadd hx hb dL_law_2251 ?_
      refine lv_topi (fun v36 e37 => ?_)
      obtain rfl : v36 = (1 : Int32) := e37.trans (by decide)
      refine va_sld hx hb hX hbl hbA hS (by unfold vp_in; decide) dL_law_2252 ?_
      refine lv_aload_n hx hb dL_law_2253 rfl (lv_at hl 1 rfl) ?_
      refine lv_iload hx hb dL_law_2254 (lv_at hl 6 rfl) ?_
      refine lv_iconst (v := 2) hx hb dL_law_2256 (by decide) ?_
      refine lv_iadd hx hb dL_law_2257 ?_
      refine lv_topi (fun v38 e39 => ?_)
      obtain rfl : v38 = (2 : Int32) := e39.trans (by decide)
      refine va_sld hx hb hX hbl hbA hS (by unfold vp_in; decide) dL_law_2258 ?_
      refine lv_aload_n hx hb dL_law_2259 rfl (lv_at hl 1 rfl) ?_
      refine lv_iload hx hb dL_law_2260 (lv_at hl 6 rfl) ?_
      refine lv_iconst (v := 3) hx hb dL_law_2262 (by decide) ?_
      refine lv_iadd hx hb dL_law_2263 ?_
      refine lv_topi (fun v40 e41 => ?_)
      obtain rfl : v40 = (3 : Int32) := e41.trans (by decide)
      refine va_sld hx hb hX hbl hbA hS (by unfold vp_in; decide) dL_law_2264 ?_
      refine lv_if_eq (tgt := 2272) hx hb dL_law_2265 (by decide) (fun cx => absurd cx c7) (fun _ => ?_)
      refine lv_iconst (v := 1) hx hb dL_law_2268 (by decide) ?_
      refine lv_goto (tgt := 2273) hx hb dL_law_2269 (by decide) ?_
      have hFc := va_freeP (cx := [((b 0), .inr (10, [.int 0, .ref (b 1), .int 0, .int 0, .ref (b 2), .ref (b 3), .ref (b 4), .ref (b 5), .int 0, .int 0, .ref (b 6)])), ((b 1), .inl (c2, 21, .inr (.inr (.inr (.inr dg)))))]) (pl := va_pl Ld (fun _ => .inl (cI, 4, .inl wRow))) hD hS hA [0, 1] rfl
      refine va_calll (va_runV (As := [.int (xs (1 : Int32).toNatClampNeg), .int (xs (2 : Int32).toNatClampNeg), .int 1]) (rest := []) ⟨hx, hb, hml, hown, hts⟩ (m_squareBits l dC dI _ b cI c2 dg Ld hLX.2 (xs (1 : Int32).toNatClampNeg) (xs (2 : Int32).toNatClampNeg) 1) (cwV 3 hts gL_law_X6_squareBits rfl rfl rfl (by decide +kernel) ⟨Nat.le_of_ble_eq_true rfl, Nat.le_of_ble_eq_true rfl⟩) ⟨fb_PM, va_recv hK hP (ci := 10) (q0 := 0) rfl rfl, fun U hU hW => ⟨rfl, ⟨PW.giveP hP hK hD [0, 1] [0, 2] rfl rfl rfl hU hW, hM.warm hW⟩⟩⟩ rfl rfl hl.1 rfl (lv_room (Nat.le_of_ble_eq_true rfl)) dL_law_2273 ⟨(Nat.le_of_ble_eq_true rfl), (Nat.le_of_ble_eq_true rfl)⟩) hS (fun q _ h => hFc q h) hFc (fun r42 u t H locs ht hvm hw43 hB hz1 hk1 hS => ?_)
      obtain ⟨t9, fs9⟩ := u
      dsimp only at hw43
      obtain ⟨hP, hD, hK⟩ := aftPR [0, 1] [2, 3, 4, 5, 6, 7, 8] hP hK hD rfl (wr := [((b 2), .inl (cI, 4, .inl (fun _ => 0))), ((b 3), .inl (cI, 4, .inl (fun _ => 0))), ((b 4), .inl (cI, 4, .inl dl)), ((b 5), .inl (cI, 2, .inl (fun _ => 0))), ((b 6), .inr (3, [.int 0, .ref eD, .int 0])), (o2, .inl (cE, 1, .inr (.inr (.inr (.inl (fun _ => 0)))))), (o, .inl (cJ, 1, .inr (.inl u9)))]) rfl rfl (by decide) hFc hB ht hvm hk1
      have hP : va_P (dC, dI) vwCl ([((b 2), .inl (cI, 4, .inl (fun _ => 0))), ((b 3), .inl (cI, 4, .inl (fun _ => 0))), ((b 4), .inl (cI, 4, .inl dl)), ((b 5), .inl (cI, 2, .inl (fun _ => 0))), ((b 6), .inr (3, [.int 0, .ref eD, .int 0])), (o2, .inl (cE, 1, .inr (.inr (.inr (.inl (fun _ => 0)))))), (o, .inl (cJ, 1, .inr (.inl u9))), ((b 0), .inr (10, .int t9 :: fs9))]) H := hP
      have hD : va_D (fun q : Nat => s.heap.size ≤ q) ([((b 2), .inl (cI, 4, .inl (fun _ => 0))), ((b 3), .inl (cI, 4, .inl (fun _ => 0))), ((b 4), .inl (cI, 4, .inl dl)), ((b 5), .inl (cI, 2, .inl (fun _ => 0))), ((b 6), .inr (3, [.int 0, .ref eD, .int 0])), (o2, .inl (cE, 1, .inr (.inr (.inr (.inl (fun _ => 0)))))), (o, .inl (cJ, 1, .inr (.inl u9))), ((b 0), .inr (10, .int t9 :: fs9))]) := hD
      have hK : va_K (dC, dI) vwCl [(cI, .int), (cS, .object "Snowpalace$Site"), (c2, .array .int), (cJ, .long), (cE, .double)] s := hK.sub [0, 1, 2, 3, 4] rfl
      rcases hw43 with ⟨hok2, h9, hr9⟩ | ⟨hno2, h9⟩
      · skip
        obtain rfl : t9 = 0 := h9
        refine lv_lstore (lv' := [(7, .long r42), (6, .int 0), (0, .ref b0), (1, .ref (a 0)), (2, .ref (b 0)), (3, .ref o), (4, .ref o2), (5, .int 0)]) hx hb dL_law_2276 hl (by decide) rfl (fun ls hl => ?_)
        refine lv_aload_n hx hb dL_law_2278 rfl (lv_at hl 4 rfl) ?_
        refine va_calli (va_runV (As := []) (rest := []) ⟨hx, hb, hml, hown, hts⟩ (m_thrown l dC dI _ (b 0) 0 fs9) (cwV 0 hts gL_law_X6_thrown rfl rfl rfl (by decide +kernel) ⟨Nat.le_of_ble_eq_true rfl, Nat.le_of_ble_eq_true rfl⟩) ⟨fb_PW, va_recv hK hP (ci := 10) (q0 := 7) rfl rfl, fun U hU hW => ⟨rfl, PW.give hP hK hD [7] [] rfl rfl rfl rfl hU hW⟩⟩ rfl rfl hl.1 rfl (lv_room (Nat.le_of_ble_eq_true rfl)) dL_law_2279 ⟨(Nat.le_of_ble_eq_true rfl), (Nat.le_of_ble_eq_true rfl)⟩) hS (fun q _ h => h.elim) (fun q h => h.elim) (fun r44 u t H locs ht hvm hw45 hB hz1 hk1 hS => ?_)
        have hP := kp_P hP hk1
        have hP : va_P (dC, dI) vwCl ([((b 2), .inl (cI, 4, .inl (fun _ => 0))), ((b 3), .inl (cI, 4, .inl (fun _ => 0))), ((b 4), .inl (cI, 4, .inl dl)), ((b 5), .inl (cI, 2, .inl (fun _ => 0))), ((b 6), .inr (3, [.int 0, .ref eD, .int 0])), (o2, .inl (cE, 1, .inr (.inr (.inr (.inl (fun _ => 0)))))), (o, .inl (cJ, 1, .inr (.inl u9))), ((b 0), .inr (10, .int 0 :: fs9))]) H := hP
        have hD : va_D (fun q : Nat => s.heap.size ≤ q) ([((b 2), .inl (cI, 4, .inl (fun _ => 0))), ((b 3), .inl (cI, 4, .inl (fun _ => 0))), ((b 4), .inl (cI, 4, .inl dl)), ((b 5), .inl (cI, 2, .inl (fun _ => 0))), ((b 6), .inr (3, [.int 0, .ref eD, .int 0])), (o2, .inl (cE, 1, .inr (.inr (.inr (.inl (fun _ => 0)))))), (o, .inl (cJ, 1, .inr (.inl u9))), ((b 0), .inr (10, .int 0 :: fs9))]) := hD
        obtain rfl : r44 = 0 := hw45
        refine lv_iload hx hb dL_law_2282 (lv_at hl 1 rfl) ?_
        refine lv_icmp_eq (tgt := 2289) hx hb dL_law_2284 (by decide) (fun _ => ?_) (fun cx => by first | exact absurd (by decide) cx | exact absurd cx (by decide))
        refine lv_iload hx hb dL_law_2289 (lv_at hl 1 rfl) ?_
        refine lv_if_ne (tgt := 2305) hx hb dL_law_2291 (by decide) (fun cx => by first | exact absurd cx (by decide) | exact absurd (by decide) cx) (fun _ => ?_)
        refine lv_aload_n hx hb dL_law_2294 rfl (lv_at hl 5 rfl) ?_
        refine lv_iconst (v := 0) hx hb dL_law_2295 (by decide) ?_
        refine va_lald (D := (dC, dI)) hx hb hK hP 6 3 rfl rfl (by unfold vp_in; decide) dL_law_2296 ?_
        refine lv_topl (fun v46 e47 => ?_)
        refine lv_lload hx hb dL_law_2297 (lv_at hl 0 rfl) ?_
        refine W.lcmp hx hb dL_law_2299 ?_
        refine lv_topi (fun v48 e49 => ?_)
        obtain rfl : v48 = (0 : Int32) := e49.trans (lcmp0 rfl (e47.trans (hu9.trans (by first | exact hr9.symm | exact (congrArg Int32.toInt64 hr9).symm | rfl | decide))))
        refine lv_if_eq (tgt := 2305) hx hb dL_law_2300 (by decide) (fun _ => ?_) (fun cx => by first | exact absurd (by decide) cx | exact absurd cx (by decide))
        refine lv_goto (tgt := 3037) hx hb dL_law_2305 (by decide) ?_
        exact law_exit C0 hS (Nat.le_of_ble_eq_true rfl) (Nat.le_of_ble_eq_true rfl) (lv_sub hl [2, 7] rfl)
      · skip
        exact absurd hok hno2
    · skip
      obtain rfl : r34 = 1 := hr8
      refine lv_istore (lv' := [(6, .int 1), (0, .ref b0), (1, .ref (a 0)), (2, .ref (b 0)), (3, .ref o), (4, .ref o2), (5, .int 0)]) hx hb dL_law_2244 hl (by decide) rfl (fun ls hl => ?_)
      refine lv_aload_n hx hb dL_law_2246 rfl (lv_at hl 3 rfl) ?_
      refine lv_aload_n hx hb dL_law_2247 rfl (lv_at hl 1 rfl) ?_
      refine lv_iload hx hb dL_law_2248 (lv_at hl 6 rfl) ?_
      refine lv_iconst (v := 1) hx hb dL_law_2250 (by decide) ?_
      refine lv_iadd hx hb dL_law_2251 ?_
      refine lv_topi (fun v50 e51 => ?_)
      obtain rfl : v50 = (1 : Int32) := e51.trans (by decide)
      refine va_sld hx hb hX hbl hbA hS (by unfold vp_in; decide) dL_law_2252 ?_
      refine lv_aload_n hx hb dL_law_2253 rfl (lv_at hl 1 rfl) ?_
      refine lv_iload hx hb dL_law_2254 (lv_at hl 6 rfl) ?_
      refine lv_iconst (v := 2) hx hb dL_law_2256 (by decide) ?_
      refine lv_iadd hx hb dL_law_2257 ?_
      refine lv_topi (fun v52 e53 => ?_)
      obtain rfl : v52 = (2 : Int32) := e53.trans (by decide)
      refine va_sld hx hb hX hbl hbA hS (by unfold vp_in; decide) dL_law_2258 ?_
      refine lv_aload_n hx hb dL_law_2259 rfl (lv_at hl 1 rfl) ?_
      refine lv_iload hx hb dL_law_2260 (lv_at hl 6 rfl) ?_
      refine lv_iconst (v := 3) hx hb dL_law_2262 (by decide) ?_
      refine lv_iadd hx hb dL_law_2263 ?_
      refine lv_topi (fun v54 e55 => ?_)
      obtain rfl : v54 = (3 : Int32) := e55.trans (by decide)
      refine va_sld hx hb hX hbl hbA hS (by unfold vp_in; decide) dL_law_2264 ?_
      refine lv_if_eq (tgt := 2272) hx hb dL_law_2265 (by decide) (fun cx => absurd cx c7) (fun _ => ?_)
      refine lv_iconst (v := 1) hx hb dL_law_2268 (by decide) ?_
      refine lv_goto (tgt := 2273) hx hb dL_law_2269 (by decide) ?_
      have hFc := va_freeP (cx := [((b 0), .inr (10, [.int 0, .ref (b 1), .int 0, .int 0, .ref (b 2), .ref (b 3), .ref (b 4), .ref (b 5), .int 0, .int 0, .ref (b 6)])), ((b 1), .inl (c2, 21, .inr (.inr (.inr (.inr dg)))))]) (pl := va_pl Ld (fun _ => .inl (cI, 4, .inl wRow))) hD hS hA [0, 1] rfl
      refine va_calll (va_runV (As := [.int (xs (1 : Int32).toNatClampNeg), .int (xs (2 : Int32).toNatClampNeg), .int 1]) (rest := []) ⟨hx, hb, hml, hown, hts⟩ (m_squareBits l dC dI _ b cI c2 dg Ld hLX.2 (xs (1 : Int32).toNatClampNeg) (xs (2 : Int32).toNatClampNeg) 1) (cwV 3 hts gL_law_X6_squareBits rfl rfl rfl (by decide +kernel) ⟨Nat.le_of_ble_eq_true rfl, Nat.le_of_ble_eq_true rfl⟩) ⟨fb_PM, va_recv hK hP (ci := 10) (q0 := 0) rfl rfl, fun U hU hW => ⟨rfl, ⟨PW.giveP hP hK hD [0, 1] [0, 2] rfl rfl rfl hU hW, hM.warm hW⟩⟩⟩ rfl rfl hl.1 rfl (lv_room (Nat.le_of_ble_eq_true rfl)) dL_law_2273 ⟨(Nat.le_of_ble_eq_true rfl), (Nat.le_of_ble_eq_true rfl)⟩) hS (fun q _ h => hFc q h) hFc (fun r56 u t H locs ht hvm hw57 hB hz1 hk1 hS => ?_)
      obtain ⟨t9, fs9⟩ := u
      dsimp only at hw57
      obtain ⟨hP, hD, hK⟩ := aftPR [0, 1] [2, 3, 4, 5, 6, 7, 8] hP hK hD rfl (wr := [((b 2), .inl (cI, 4, .inl (fun _ => 0))), ((b 3), .inl (cI, 4, .inl (fun _ => 0))), ((b 4), .inl (cI, 4, .inl dl)), ((b 5), .inl (cI, 2, .inl (fun _ => 0))), ((b 6), .inr (3, [.int 0, .ref eD, .int 0])), (o2, .inl (cE, 1, .inr (.inr (.inr (.inl (fun _ => 0)))))), (o, .inl (cJ, 1, .inr (.inl u9)))]) rfl rfl (by decide) hFc hB ht hvm hk1
      have hP : va_P (dC, dI) vwCl ([((b 2), .inl (cI, 4, .inl (fun _ => 0))), ((b 3), .inl (cI, 4, .inl (fun _ => 0))), ((b 4), .inl (cI, 4, .inl dl)), ((b 5), .inl (cI, 2, .inl (fun _ => 0))), ((b 6), .inr (3, [.int 0, .ref eD, .int 0])), (o2, .inl (cE, 1, .inr (.inr (.inr (.inl (fun _ => 0)))))), (o, .inl (cJ, 1, .inr (.inl u9))), ((b 0), .inr (10, .int t9 :: fs9))]) H := hP
      have hD : va_D (fun q : Nat => s.heap.size ≤ q) ([((b 2), .inl (cI, 4, .inl (fun _ => 0))), ((b 3), .inl (cI, 4, .inl (fun _ => 0))), ((b 4), .inl (cI, 4, .inl dl)), ((b 5), .inl (cI, 2, .inl (fun _ => 0))), ((b 6), .inr (3, [.int 0, .ref eD, .int 0])), (o2, .inl (cE, 1, .inr (.inr (.inr (.inl (fun _ => 0)))))), (o, .inl (cJ, 1, .inr (.inl u9))), ((b 0), .inr (10, .int t9 :: fs9))]) := hD
      have hK : va_K (dC, dI) vwCl [(cI, .int), (cS, .object "Snowpalace$Site"), (c2, .array .int), (cJ, .long), (cE, .double)] s := hK.sub [0, 1, 2, 3, 4] rfl
      rcases hw57 with ⟨hok2, h9, hr9⟩ | ⟨hno2, h9⟩
      · skip
        exact absurd hok2 hno
      · skip
        obtain rfl : t9 = 1 := h9
        refine lv_lstore (lv' := [(7, .long r56), (6, .int 1), (0, .ref b0), (1, .ref (a 0)), (2, .ref (b 0)), (3, .ref o), (4, .ref o2), (5, .int 0)]) hx hb dL_law_2276 hl (by decide) rfl (fun ls hl => ?_)
        refine lv_aload_n hx hb dL_law_2278 rfl (lv_at hl 4 rfl) ?_
        refine va_calli (va_runV (As := []) (rest := []) ⟨hx, hb, hml, hown, hts⟩ (m_thrown l dC dI _ (b 0) 1 fs9) (cwV 0 hts gL_law_X6_thrown rfl rfl rfl (by decide +kernel) ⟨Nat.le_of_ble_eq_true rfl, Nat.le_of_ble_eq_true rfl⟩) ⟨fb_PW, va_recv hK hP (ci := 10) (q0 := 7) rfl rfl, fun U hU hW => ⟨rfl, PW.give hP hK hD [7] [] rfl rfl rfl rfl hU hW⟩⟩ rfl rfl hl.1 rfl (lv_room (Nat.le_of_ble_eq_true rfl)) dL_law_2279 ⟨(Nat.le_of_ble_eq_true rfl), (Nat.le_of_ble_eq_true rfl)⟩) hS (fun q _ h => h.elim) (fun q h => h.elim) (fun r58 u t H locs ht hvm hw59 hB hz1 hk1 hS => ?_)
        have hP := kp_P hP hk1
        have hP : va_P (dC, dI) vwCl ([((b 2), .inl (cI, 4, .inl (fun _ => 0))), ((b 3), .inl (cI, 4, .inl (fun _ => 0))), ((b 4), .inl (cI, 4, .inl dl)), ((b 5), .inl (cI, 2, .inl (fun _ => 0))), ((b 6), .inr (3, [.int 0, .ref eD, .int 0])), (o2, .inl (cE, 1, .inr (.inr (.inr (.inl (fun _ => 0)))))), (o, .inl (cJ, 1, .inr (.inl u9))), ((b 0), .inr (10, .int 1 :: fs9))]) H := hP
        have hD : va_D (fun q : Nat => s.heap.size ≤ q) ([((b 2), .inl (cI, 4, .inl (fun _ => 0))), ((b 3), .inl (cI, 4, .inl (fun _ => 0))), ((b 4), .inl (cI, 4, .inl dl)), ((b 5), .inl (cI, 2, .inl (fun _ => 0))), ((b 6), .inr (3, [.int 0, .ref eD, .int 0])), (o2, .inl (cE, 1, .inr (.inr (.inr (.inl (fun _ => 0)))))), (o, .inl (cJ, 1, .inr (.inl u9))), ((b 0), .inr (10, .int 1 :: fs9))]) := hD
        obtain rfl : r58 = 1 := hw59
        refine lv_iload hx hb dL_law_2282 (lv_at hl 1 rfl) ?_
        refine lv_icmp_eq (tgt := 2289) hx hb dL_law_2284 (by decide) (fun _ => ?_) (fun cx => by first | exact absurd (by decide) cx | exact absurd cx (by decide))
        refine lv_iload hx hb dL_law_2289 (lv_at hl 1 rfl) ?_
        refine lv_if_ne (tgt := 2305) hx hb dL_law_2291 (by decide) (fun _ => ?_) (fun cx => by first | exact absurd (by decide) cx | exact absurd cx (by decide))
        refine lv_goto (tgt := 3037) hx hb dL_law_2305 (by decide) ?_
        exact law_exit C0 hS (Nat.le_of_ble_eq_true rfl) (Nat.le_of_ble_eq_true rfl) (lv_sub hl [2, 7] rfl)

