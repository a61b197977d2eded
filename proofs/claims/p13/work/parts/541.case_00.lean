set_option maxHeartbeats 4000000 in
set_option maxRecDepth 100000 in
/-- the law: a call of weather -/
theorem case_0 {p : Program} {l : Launch} {e : Env} {s : State} {m : MethodId} {below : List Frame} {meth : Method} {c : Code} (hlt : l.stackTraces = false) {b0 L : Nat} {xs : Nat → Int32} (C0 : lw_At p s m meth c b0 L xs) (hL : L ≤ 3072) (dC : Nat → ClassId) (dI : Nat → Nat → Nat) (kA : Nat → ClassId) (eD b o mo q q2 k : Nat) (hb9 : b = s.heap.size) (hb0 : b ≤ s.heap.size) (hk : 6 * k + 6 ≤ L) (hK : va_K (dC, dI) vwCl (TYS kA) s) (hE : EX eD b s) (hnext : ∀ (g : Gh) (H : Heap) (locs : List Loc) (ls : Array Slot) (C S : Nat), LI (dC, dI) kA b eD o mo q q2 g H → RI g mo C S (k + 1) → va_S (fun q => b ≤ q) s.heap H locs → lv_has ls 9 [(0, .ref b0), (1, .ref o), (2, .ref mo), (3, .ref q), (4, .ref q2), (5, .int (nI (6 * k)))] → W p l e room_1 s m #[Value.ref b0] below meth c H locs C S (lw_Z below #[Value.ref b0] s) (F0 m 1913 ls [])) {g : Gh} {H : Heap} {locs : List Loc} {ls : Array Slot} {C S : Nat} (hI : LI (dC, dI) kA b eD o mo q q2 g H) (hR : RI g mo C S k) (hS : va_S (fun q => b ≤ q) s.heap H locs) (hl : lv_has ls 9 [(0, .ref b0), (1, .ref o), (2, .ref mo), (3, .ref q), (4, .ref q2), (5, .int (nI (6 * k)))]) : W p l e room_1 s m #[Value.ref b0] below meth c H locs C S (lw_Z below #[Value.ref b0] s) (F0 m 232 ls []) := by
  obtain ⟨hx, hb, hr, hml, hown, hts0, hX, hbl, hlocks, hgv⟩ := id C0
  have hts : ∀ w ∈ wzL_law, w.before #[Value.ref b0] s = true := fun w h => hts0 w (wzL_law_in w h)
  have hbA : ¬ (fun q : Nat => b ≤ q) b0 := by show ¬ b ≤ b0; omega
  have hT := hE.1
  have hN := hE.2.2.2.2.2.2.2.1
  obtain ⟨hM, hG, hto, htm, htq, htq2, -, hed⟩ := id hI
  have hRC : C ≤ 430000 := by have h9 := hR; unfold RI at h9; omega
  have hRS : S ≤ 3400000 := by have h9 := hR; unfold RI at h9; omega
  refine lv_aload_n hx hb dL_law_232 rfl (lv_at hl 1 rfl) ?_
  refine lv_aload_n hx hb dL_law_233 rfl (lv_at hl 0 rfl) ?_
  refine lv_iload hx hb dL_law_234 (lv_at hl 5 rfl) ?_
  refine lv_iconst (v := 1) hx hb dL_law_236 (by decide) ?_
  refine lv_iadd hx hb dL_law_237 ?_
  refine lv_topi (fun v1 e2 => ?_)
  obtain rfl : v1 = nI ((6 * k) + 1) := e2.trans (nI_add (6 * k) 1)
  refine va_sld hx hb hX hbl hbA hS (vp_in_nI (by omega) (by omega)) dL_law_238 ?_
  refine lv_topi (fun v3 e4 => ?_)
  refine lv_aload_n hx hb dL_law_239 rfl (lv_at hl 0 rfl) ?_
  refine lv_iload hx hb dL_law_240 (lv_at hl 5 rfl) ?_
  refine lv_iconst (v := 2) hx hb dL_law_242 (by decide) ?_
  refine lv_iadd hx hb dL_law_243 ?_
  refine lv_topi (fun v5 e6 => ?_)
  obtain rfl : v5 = nI ((6 * k) + 2) := e6.trans (nI_add (6 * k) 2)
  refine va_sld hx hb hX hbl hbA hS (vp_in_nI (by omega) (by omega)) dL_law_244 ?_
  refine lv_topi (fun v7 e8 => ?_)
  refine lv_aload_n hx hb dL_law_245 rfl (lv_at hl 0 rfl) ?_
  refine lv_iload hx hb dL_law_246 (lv_at hl 5 rfl) ?_
  refine lv_iconst (v := 3) hx hb dL_law_248 (by decide) ?_
  refine lv_iadd hx hb dL_law_249 ?_
  refine lv_topi (fun v9 e10 => ?_)
  obtain rfl : v9 = nI ((6 * k) + 3) := e10.trans (nI_add (6 * k) 3)
  refine va_sld hx hb hX hbl hbA hS (vp_in_nI (by omega) (by omega)) dL_law_250 ?_
  refine lv_topi (fun v11 e12 => ?_)
  refine lv_aload_n hx hb dL_law_251 rfl (lv_at hl 0 rfl) ?_
  refine lv_iload hx hb dL_law_252 (lv_at hl 5 rfl) ?_
  refine lv_iconst (v := 4) hx hb dL_law_254 (by decide) ?_
  refine lv_iadd hx hb dL_law_255 ?_
  refine lv_topi (fun v13 e14 => ?_)
  obtain rfl : v13 = nI ((6 * k) + 4) := e14.trans (nI_add (6 * k) 4)
  refine va_sld hx hb hX hbl hbA hS (vp_in_nI (by omega) (by omega)) dL_law_256 ?_
  refine lv_topi (fun v15 e16 => ?_)
  refine lv_aload_n hx hb dL_law_257 rfl (lv_at hl 0 rfl) ?_
  refine lv_iload hx hb dL_law_258 (lv_at hl 5 rfl) ?_
  refine lv_iconst (v := 5) hx hb dL_law_260 (by decide) ?_
  refine lv_iadd hx hb dL_law_261 ?_
  refine lv_topi (fun v17 e18 => ?_)
  obtain rfl : v17 = nI ((6 * k) + 5) := e18.trans (nI_add (6 * k) 5)
  refine va_sld hx hb hX hbl hbA hS (vp_in_nI (by omega) (by omega)) dL_law_262 ?_
  refine lv_topi (fun v19 e20 => ?_)
  refine lv_aload_n hx hb dL_law_263 rfl (lv_at hl 3 rfl) ?_
  refine va_calli (vx_runSW (As := [.ref o, .int v3, .int v7, .int v11, .int v15, .int v19, .ref q]) (rest := []) ⟨hx, hb, hml, hown, hts⟩ (rh_weather l hlt dC dI kA eD b g o q v3 v7 v11 v15 v19 (by omega) (by omega)) (vx_cwSW 7 hts gL_law_L_weather rfl rfl rfl (by decide +kernel) ⟨Nat.le_of_ble_eq_true rfl, Nat.le_of_ble_eq_true rfl⟩) ⟨fb_CX, fun U hU hW => ⟨rfl, CX.give hb0 hM hK hG hE hS hU hW⟩⟩ rfl rfl hl.1 rfl (lv_room (Nat.le_of_ble_eq_true rfl)) dL_law_264 ⟨(show C + 1 ≤ 960594 by omega), (show S + 6 ≤ 6134452 by omega)⟩) hS (fun q _ h => h) (fun q h => h) (fun r21 g23 t H locs ht hvm hw22 hB hz1 hk1 hS => ?_)
  have hM := hB.back ht
  have hG := hB.2.2.2.1
  have hM1 := hM
  have hG1 := hG
  have hkt := kt_weather hw22
  have ht24 : tg g23 o = 1 := (hkt o (by omega)).trans hto
  have ht25 : tg g23 mo = 17 := (hkt mo (by omega)).trans htm
  have ht26 : tg g23 q = 34 := (hkt q (by omega)).trans htq
  have ht27 : tg g23 q2 = 35 := (hkt q2 (by omega)).trans htq2
  refine lv_istore (lv' := [(6, .int r21), (0, .ref b0), (1, .ref o), (2, .ref mo), (3, .ref q), (4, .ref q2), (5, .int (nI (6 * k)))]) hx hb dL_law_267 hl (by decide) rfl (fun ls hl => ?_)
  refine lv_aload_n hx hb dL_law_269 rfl (lv_at hl 3 rfl) ?_
  refine lv_aload_n hx hb dL_law_270 rfl (lv_at hl 1 rfl) ?_
  refine lv_iload hx hb dL_law_271 (lv_at hl 6 rfl) ?_
  refine lv_iconst (v := 1) hx hb dL_law_273 (by decide) ?_
  refine lv_iadd hx hb dL_law_274 ?_
  refine lv_topi (fun v28 e29 => ?_)
  obtain rfl : v28 = nI ((6 * k) + 1) := e29.trans (nI_add (6 * k) 1)
  refine va_sld hx hb hX hbl hbA hS (vp_in_nI (by omega) (by omega)) dL_law_275 ?_
  refine lv_topi (fun v30 e31 => ?_)
  obtain rfl : v3 = v30 := e4.trans e31.symm
  refine lv_aload_n hx hb dL_law_276 rfl (lv_at hl 1 rfl) ?_
  refine lv_iload hx hb dL_law_277 (lv_at hl 6 rfl) ?_
  refine lv_iconst (v := 2) hx hb dL_law_279 (by decide) ?_
  refine lv_iadd hx hb dL_law_280 ?_
  refine lv_topi (fun v32 e33 => ?_)
  obtain rfl : v32 = nI ((6 * k) + 2) := e33.trans (nI_add (6 * k) 2)
  refine va_sld hx hb hX hbl hbA hS (vp_in_nI (by omega) (by omega)) dL_law_281 ?_
  refine lv_topi (fun v34 e35 => ?_)
  obtain rfl : v7 = v34 := e8.trans e35.symm
  refine lv_aload_n hx hb dL_law_282 rfl (lv_at hl 1 rfl) ?_
  refine lv_iload hx hb dL_law_283 (lv_at hl 6 rfl) ?_
  refine lv_iconst (v := 3) hx hb dL_law_285 (by decide) ?_
  refine lv_iadd hx hb dL_law_286 ?_
  refine lv_topi (fun v36 e37 => ?_)
  obtain rfl : v36 = nI ((6 * k) + 3) := e37.trans (nI_add (6 * k) 3)
  refine va_sld hx hb hX hbl hbA hS (vp_in_nI (by omega) (by omega)) dL_law_287 ?_
  refine lv_topi (fun v38 e39 => ?_)
  obtain rfl : v11 = v38 := e12.trans e39.symm
  refine lv_aload_n hx hb dL_law_288 rfl (lv_at hl 1 rfl) ?_
  refine lv_iload hx hb dL_law_289 (lv_at hl 6 rfl) ?_
  refine lv_iconst (v := 4) hx hb dL_law_291 (by decide) ?_
  refine lv_iadd hx hb dL_law_292 ?_
  refine lv_topi (fun v40 e41 => ?_)
  obtain rfl : v40 = nI ((6 * k) + 4) := e41.trans (nI_add (6 * k) 4)
  refine va_sld hx hb hX hbl hbA hS (vp_in_nI (by omega) (by omega)) dL_law_293 ?_
  refine lv_topi (fun v42 e43 => ?_)
  obtain rfl : v15 = v42 := e16.trans e43.symm
  refine lv_aload_n hx hb dL_law_294 rfl (lv_at hl 1 rfl) ?_
  refine lv_iload hx hb dL_law_295 (lv_at hl 6 rfl) ?_
  refine lv_iconst (v := 5) hx hb dL_law_297 (by decide) ?_
  refine lv_iadd hx hb dL_law_298 ?_
  refine lv_topi (fun v44 e45 => ?_)
  obtain rfl : v44 = nI ((6 * k) + 5) := e45.trans (nI_add (6 * k) 5)
  refine va_sld hx hb hX hbl hbA hS (vp_in_nI (by omega) (by omega)) dL_law_299 ?_
  refine lv_topi (fun v46 e47 => ?_)
  obtain rfl : v19 = v46 := e20.trans e47.symm
  obtain ⟨u48, u49, hP, hf⟩ := o_mo (i := 0) (q := mo) hM (by omega)
  refine va_calli (va_runV (As := [.int v3, .int v7, .int v11, .int v15, .int v19]) (rest := []) ⟨hx, hb, hml, hown, hts⟩ (rmf_weather l dC dI kA eD b g23 mo v3 v7 v11 v15 v19 (by omega)) (cwV 5 hts gL_law_X6_weather rfl rfl rfl (by decide +kernel) ⟨Nat.le_of_ble_eq_true rfl, Nat.le_of_ble_eq_true rfl⟩) ⟨fb_CX, va_recv hK hP (ci := 10) (q0 := 0) rfl rfl, fun U hU hW => ⟨rfl, CX.give hb0 hM hK hG hE hS hU hW⟩⟩ rfl rfl hl.1 rfl (lv_room (Nat.le_of_ble_eq_true rfl)) dL_law_300 ⟨(show C + 1 + 1 ≤ 960594 by omega), (show S + 6 + 4 ≤ 6134452 by omega)⟩) hS (fun q _ h => h) (fun q h => h) (fun r50 g52 t H locs ht hvm hw51 hB hz1 hk1 hS => ?_)
  have hM := hB.back ht
  have hG := hB.2.2.2.1
  have hlx := lx_weather hI hw22 hM1 hG1 hw51 hM hG
  have ht53 : tg g52 o = 1 := hlx.1.2.2.1
  have ht54 : tg g52 mo = 17 := hlx.1.2.2.2.1
  have ht55 : tg g52 q = 34 := hlx.1.2.2.2.2.1
  have ht56 : tg g52 q2 = 35 := hlx.1.2.2.2.2.2.1
  refine lv_istore (lv' := [(7, .int r50), (6, .int r21), (0, .ref b0), (1, .ref o), (2, .ref mo), (3, .ref q), (4, .ref q2), (5, .int (nI (6 * k)))]) hx hb dL_law_303 hl (by decide) rfl (fun ls hl => ?_)
  refine lv_goto (tgt := 1913) hx hb dL_law_305 (by decide) ?_
  exact hnext g52 H _ ls _ _ ⟨hM, hG, hlx.1.2.2⟩ (by have h9 := hlx.2.1 C S k hR; unfold RI at h9 ⊢; omega) hS (lv_sub hl [2, 3, 4, 5, 6, 7] rfl)

set_option maxHeartbeats 4000000 in
set_option maxRecDepth 100000 in
/-- the law: a call of warmth -/
theorem case_1 {p : Program} {l : Launch} {e : Env} {s : State} {m : MethodId} {below : List Frame} {meth : Method} {c : Code} (hlt : l.stackTraces = false) {b0 L : Nat} {xs : Nat → Int32} (C0 : lw_At p s m meth c b0 L xs) (hL : L ≤ 3072) (dC : Nat → ClassId) (dI : Nat → Nat → Nat) (kA : Nat → ClassId) (eD b o mo q q2 k : Nat) (hb9 : b = s.heap.size) (hb0 : b ≤ s.heap.size) (hk : 6 * k + 6 ≤ L) (hK : va_K (dC, dI) vwCl (TYS kA) s) (hE : EX eD b s) (hnext : ∀ (g : Gh) (H : Heap) (locs : List Loc) (ls : Array Slot) (C S : Nat), LI (dC, dI) kA b eD o mo q q2 g H → RI g mo C S (k + 1) → va_S (fun q => b ≤ q) s.heap H locs → lv_has ls 9 [(0, .ref b0), (1, .ref o), (2, .ref mo), (3, .ref q), (4, .ref q2), (5, .int (nI (6 * k)))] → W p l e room_1 s m #[Value.ref b0] below meth c H locs C S (lw_Z below #[Value.ref b0] s) (F0 m 1913 ls [])) {g : Gh} {H : Heap} {locs : List Loc} {ls : Array Slot} {C S : Nat} (hI : LI (dC, dI) kA b eD o mo q q2 g H) (hR : RI g mo C S k) (hS : va_S (fun q => b ≤ q) s.heap H locs) (hl : lv_has ls 9 [(0, .ref b0), (1, .ref o), (2, .ref mo), (3, .ref q), (4, .ref q2), (5, .int (nI (6 * k)))]) : W p l e room_1 s m #[Value.ref b0] below meth c H locs C S (lw_Z below #[Value.ref b0] s) (F0 m 308 ls []) := by
  obtain ⟨hx, hb, hr, hml, hown, hts0, hX, hbl, hlocks, hgv⟩ := id C0
  have hts : ∀ w ∈ wzL_law, w.before #[Value.ref b0] s = true := fun w h => hts0 w (wzL_law_in w h)
  have hbA : ¬ (fun q : Nat => b ≤ q) b0 := by show ¬ b ≤ b0; omega
  have hT := hE.1
  have hN := hE.2.2.2.2.2.2.2.1
  obtain ⟨hM, hG, hto, htm, htq, htq2, -, hed⟩ := id hI
  have hRC : C ≤ 430000 := by have h9 := hR; unfold RI at h9; omega
  have hRS : S ≤ 3400000 := by have h9 := hR; unfold RI at h9; omega
  refine lv_aload_n hx hb dL_law_308 rfl (lv_at hl 1 rfl) ?_
  refine lv_aload_n hx hb dL_law_309 rfl (lv_at hl 0 rfl) ?_
  refine lv_iload hx hb dL_law_310 (lv_at hl 5 rfl) ?_
  refine lv_iconst (v := 1) hx hb dL_law_312 (by decide) ?_
  refine lv_iadd hx hb dL_law_313 ?_
  refine lv_topi (fun v1 e2 => ?_)
  obtain rfl : v1 = nI ((6 * k) + 1) := e2.trans (nI_add (6 * k) 1)
  refine va_sld hx hb hX hbl hbA hS (vp_in_nI (by omega) (by omega)) dL_law_314 ?_
  refine lv_topi (fun v3 e4 => ?_)
  refine lv_aload_n hx hb dL_law_315 rfl (lv_at hl 3 rfl) ?_
  refine va_calli (vx_runSW (As := [.ref o, .int v3, .ref q]) (rest := []) ⟨hx, hb, hml, hown, hts⟩ (rh_warmth l hlt dC dI kA eD b g o q v3 (by omega) (by omega)) (vx_cwSW 3 hts gL_law_L_warmth rfl rfl rfl (by decide +kernel) ⟨Nat.le_of_ble_eq_true rfl, Nat.le_of_ble_eq_true rfl⟩) ⟨fb_CX, fun U hU hW => ⟨rfl, CX.give hb0 hM hK hG hE hS hU hW⟩⟩ rfl rfl hl.1 rfl (lv_room (Nat.le_of_ble_eq_true rfl)) dL_law_316 ⟨(show C + 1 ≤ 960594 by omega), (show S + 6 ≤ 6134452 by omega)⟩) hS (fun q _ h => h) (fun q h => h) (fun r5 g7 t H locs ht hvm hw6 hB hz1 hk1 hS => ?_)
  have hM := hB.back ht
  have hG := hB.2.2.2.1
  have hM1 := hM
  have hG1 := hG
  have hkt := kt_warmth hw6
  have ht8 : tg g7 o = 1 := (hkt o (by omega)).trans hto
  have ht9 : tg g7 mo = 17 := (hkt mo (by omega)).trans htm
  have ht10 : tg g7 q = 34 := (hkt q (by omega)).trans htq
  have ht11 : tg g7 q2 = 35 := (hkt q2 (by omega)).trans htq2
  refine lv_istore (lv' := [(6, .int r5), (0, .ref b0), (1, .ref o), (2, .ref mo), (3, .ref q), (4, .ref q2), (5, .int (nI (6 * k)))]) hx hb dL_law_319 hl (by decide) rfl (fun ls hl => ?_)
  refine lv_aload_n hx hb dL_law_321 rfl (lv_at hl 3 rfl) ?_
  refine lv_aload_n hx hb dL_law_322 rfl (lv_at hl 1 rfl) ?_
  refine lv_iload hx hb dL_law_323 (lv_at hl 6 rfl) ?_
  refine lv_iconst (v := 1) hx hb dL_law_325 (by decide) ?_
  refine lv_iadd hx hb dL_law_326 ?_
  refine lv_topi (fun v12 e13 => ?_)
  obtain rfl : v12 = nI ((6 * k) + 1) := e13.trans (nI_add (6 * k) 1)
  refine va_sld hx hb hX hbl hbA hS (vp_in_nI (by omega) (by omega)) dL_law_327 ?_
  refine lv_topi (fun v14 e15 => ?_)
  obtain rfl : v3 = v14 := e4.trans e15.symm
  obtain ⟨u16, u17, hP, hf⟩ := o_mo (i := 0) (q := mo) hM (by omega)
  refine va_calli (va_runV (As := [.int v3]) (rest := []) ⟨hx, hb, hml, hown, hts⟩ (rmf_warmth l dC dI kA eD b g7 mo v3 (by omega)) (cwV 1 hts gL_law_X6_warmth rfl rfl rfl (by decide +kernel) ⟨Nat.le_of_ble_eq_true rfl, Nat.le_of_ble_eq_true rfl⟩) ⟨fb_CX, va_recv hK hP (ci := 10) (q0 := 0) rfl rfl, fun U hU hW => ⟨rfl, CX.give hb0 hM hK hG hE hS hU hW⟩⟩ rfl rfl hl.1 rfl (lv_room (Nat.le_of_ble_eq_true rfl)) dL_law_328 ⟨(show C + 1 + 0 ≤ 960594 by omega), (show S + 6 + 0 ≤ 6134452 by omega)⟩) hS (fun q _ h => h) (fun q h => h) (fun r18 g20 t H locs ht hvm hw19 hB hz1 hk1 hS => ?_)
  have hM := hB.back ht
  have hG := hB.2.2.2.1
  have hlx := lx_warmth hI hw6 hM1 hG1 hw19 hM hG
  have ht21 : tg g20 o = 1 := hlx.1.2.2.1
  have ht22 : tg g20 mo = 17 := hlx.1.2.2.2.1
  have ht23 : tg g20 q = 34 := hlx.1.2.2.2.2.1
  have ht24 : tg g20 q2 = 35 := hlx.1.2.2.2.2.2.1
  refine lv_istore (lv' := [(7, .int r18), (6, .int r5), (0, .ref b0), (1, .ref o), (2, .ref mo), (3, .ref q), (4, .ref q2), (5, .int (nI (6 * k)))]) hx hb dL_law_331 hl (by decide) rfl (fun ls hl => ?_)
  refine lv_goto (tgt := 1913) hx hb dL_law_333 (by decide) ?_
  exact hnext g20 H _ ls _ _ ⟨hM, hG, hlx.1.2.2⟩ (by have h9 := hlx.2.1 C S k hR; unfold RI at h9 ⊢; omega) hS (lv_sub hl [2, 3, 4, 5, 6, 7] rfl)

set_option maxHeartbeats 4000000 in
set_option maxRecDepth 100000 in
/-- the law: a call of wet -/
theorem case_2 {p : Program} {l : Launch} {e : Env} {s : State} {m : MethodId} {below : List Frame} {meth : Method} {c : Code} (hlt : l.stackTraces = false) {b0 L : Nat} {xs : Nat → Int32} (C0 : lw_At p s m meth c b0 L xs) (hL : L ≤ 3072) (dC : Nat → ClassId) (dI : Nat → Nat → Nat) (kA : Nat → ClassId) (eD b o mo q q2 k : Nat) (hb9 : b = s.heap.size) (hb0 : b ≤ s.heap.size) (hk : 6 * k + 6 ≤ L) (hK : va_K (dC, dI) vwCl (TYS kA) s) (hE : EX eD b s) (hnext : ∀ (g : Gh) (H : Heap) (locs : List Loc) (ls : Array Slot) (C S : Nat), LI (dC, dI) kA b eD o mo q q2 g H → RI g mo C S (k + 1) → va_S (fun q => b ≤ q) s.heap H locs → lv_has ls 9 [(0, .ref b0), (1, .ref o), (2, .ref mo), (3, .ref q), (4, .ref q2), (5, .int (nI (6 * k)))] → W p l e room_1 s m #[Value.ref b0] below meth c H locs C S (lw_Z below #[Value.ref b0] s) (F0 m 1913 ls [])) {g : Gh} {H : Heap} {locs : List Loc} {ls : Array Slot} {C S : Nat} (hI : LI (dC, dI) kA b eD o mo q q2 g H) (hR : RI g mo C S k) (hS : va_S (fun q => b ≤ q) s.heap H locs) (hl : lv_has ls 9 [(0, .ref b0), (1, .ref o), (2, .ref mo), (3, .ref q), (4, .ref q2), (5, .int (nI (6 * k)))]) : W p l e room_1 s m #[Value.ref b0] below meth c H locs C S (lw_Z below #[Value.ref b0] s) (F0 m 336 ls []) := by
  obtain ⟨hx, hb, hr, hml, hown, hts0, hX, hbl, hlocks, hgv⟩ := id C0
  have hts : ∀ w ∈ wzL_law, w.before #[Value.ref b0] s = true := fun w h => hts0 w (wzL_law_in w h)
  have hbA : ¬ (fun q : Nat => b ≤ q) b0 := by show ¬ b ≤ b0; omega
  have hT := hE.1
  have hN := hE.2.2.2.2.2.2.2.1
  obtain ⟨hM, hG, hto, htm, htq, htq2, -, hed⟩ := id hI
  have hRC : C ≤ 430000 := by have h9 := hR; unfold RI at h9; omega
  have hRS : S ≤ 3400000 := by have h9 := hR; unfold RI at h9; omega
  refine lv_aload_n hx hb dL_law_336 rfl (lv_at hl 1 rfl) ?_
  refine lv_aload_n hx hb dL_law_337 rfl (lv_at hl 0 rfl) ?_
  refine lv_iload hx hb dL_law_338 (lv_at hl 5 rfl) ?_
  refine lv_iconst (v := 1) hx hb dL_law_340 (by decide) ?_
  refine lv_iadd hx hb dL_law_341 ?_
  refine lv_topi (fun v1 e2 => ?_)
  obtain rfl : v1 = nI ((6 * k) + 1) := e2.trans (nI_add (6 * k) 1)
  refine va_sld hx hb hX hbl hbA hS (vp_in_nI (by omega) (by omega)) dL_law_342 ?_
  refine lv_topi (fun v3 e4 => ?_)
  refine lv_aload_n hx hb dL_law_343 rfl (lv_at hl 3 rfl) ?_
  refine va_calli (vx_runSW (As := [.ref o, .int v3, .ref q]) (rest := []) ⟨hx, hb, hml, hown, hts⟩ (rh_wet l hlt dC dI kA eD b g o q v3 (by omega) (by omega)) (vx_cwSW 3 hts gL_law_L_wet rfl rfl rfl (by decide +kernel) ⟨Nat.le_of_ble_eq_true rfl, Nat.le_of_ble_eq_true rfl⟩) ⟨fb_CX, fun U hU hW => ⟨rfl, CX.give hb0 hM hK hG hE hS hU hW⟩⟩ rfl rfl hl.1 rfl (lv_room (Nat.le_of_ble_eq_true rfl)) dL_law_344 ⟨(show C + 1 ≤ 960594 by omega), (show S + 6 ≤ 6134452 by omega)⟩) hS (fun q _ h => h) (fun q h => h) (fun r5 g7 t H locs ht hvm hw6 hB hz1 hk1 hS => ?_)
  have hM := hB.back ht
  have hG := hB.2.2.2.1
  have hM1 := hM
  have hG1 := hG
  have hkt := kt_wet hw6
  have ht8 : tg g7 o = 1 := (hkt o (by omega)).trans hto
  have ht9 : tg g7 mo = 17 := (hkt mo (by omega)).trans htm
  have ht10 : tg g7 q = 34 := (hkt q (by omega)).trans htq
  have ht11 : tg g7 q2 = 35 := (hkt q2 (by omega)).trans htq2
  refine lv_istore (lv' := [(6, .int r5), (0, .ref b0), (1, .ref o), (2, .ref mo), (3, .ref q), (4, .ref q2), (5, .int (nI (6 * k)))]) hx hb dL_law_347 hl (by decide) rfl (fun ls hl => ?_)
  refine lv_aload_n hx hb dL_law_349 rfl (lv_at hl 3 rfl) ?_
  refine lv_aload_n hx hb dL_law_350 rfl (lv_at hl 1 rfl) ?_
  refine lv_iload hx hb dL_law_351 (lv_at hl 6 rfl) ?_
  refine lv_iconst (v := 1) hx hb dL_law_353 (by decide) ?_
  refine lv_iadd hx hb dL_law_354 ?_
  refine lv_topi (fun v12 e13 => ?_)
  obtain rfl : v12 = nI ((6 * k) + 1) := e13.trans (nI_add (6 * k) 1)
  refine va_sld hx hb hX hbl hbA hS (vp_in_nI (by omega) (by omega)) dL_law_355 ?_
  refine lv_topi (fun v14 e15 => ?_)
  obtain rfl : v3 = v14 := e4.trans e15.symm
  obtain ⟨u16, u17, hP, hf⟩ := o_mo (i := 0) (q := mo) hM (by omega)
  refine va_calli (va_runV (As := [.int v3]) (rest := []) ⟨hx, hb, hml, hown, hts⟩ (rmf_wet l dC dI kA eD b g7 mo v3 (by omega)) (cwV 1 hts gL_law_X6_wet rfl rfl rfl (by decide +kernel) ⟨Nat.le_of_ble_eq_true rfl, Nat.le_of_ble_eq_true rfl⟩) ⟨fb_CX, va_recv hK hP (ci := 10) (q0 := 0) rfl rfl, fun U hU hW => ⟨rfl, CX.give hb0 hM hK hG hE hS hU hW⟩⟩ rfl rfl hl.1 rfl (lv_room (Nat.le_of_ble_eq_true rfl)) dL_law_356 ⟨(show C + 1 + 0 ≤ 960594 by omega), (show S + 6 + 0 ≤ 6134452 by omega)⟩) hS (fun q _ h => h) (fun q h => h) (fun r18 g20 t H locs ht hvm hw19 hB hz1 hk1 hS => ?_)
  have hM := hB.back ht
  have hG := hB.2.2.2.1
  have hlx := lx_wet hI hw6 hM1 hG1 hw19 hM hG
  have ht21 : tg g20 o = 1 := hlx.1.2.2.1
  have ht22 : tg g20 mo = 17 := hlx.1.2.2.2.1
  have ht23 : tg g20 q = 34 := hlx.1.2.2.2.2.1
  have ht24 : tg g20 q2 = 35 := hlx.1.2.2.2.2.2.1
  refine lv_istore (lv' := [(7, .int r18), (6, .int r5), (0, .ref b0), (1, .ref o), (2, .ref mo), (3, .ref q), (4, .ref q2), (5, .int (nI (6 * k)))]) hx hb dL_law_359 hl (by decide) rfl (fun ls hl => ?_)
  refine lv_goto (tgt := 1913) hx hb dL_law_361 (by decide) ?_
  exact hnext g20 H _ ls _ _ ⟨hM, hG, hlx.1.2.2⟩ (by have h9 := hlx.2.1 C S k hR; unfold RI at h9 ⊢; omega) hS (lv_sub hl [2, 3, 4, 5, 6, 7] rfl)

set_option maxHeartbeats 4000000 in
set_option maxRecDepth 100000 in
/-- the law: a call of go -/
theorem case_3 {p : Program} {l : Launch} {e : Env} {s : State} {m : MethodId} {below : List Frame} {meth : Method} {c : Code} (hlt : l.stackTraces = false) {b0 L : Nat} {xs : Nat → Int32} (C0 : lw_At p s m meth c b0 L xs) (hL : L ≤ 3072) (dC : Nat → ClassId) (dI : Nat → Nat → Nat) (kA : Nat → ClassId) (eD b o mo q q2 k : Nat) (hb9 : b = s.heap.size) (hb0 : b ≤ s.heap.size) (hk : 6 * k + 6 ≤ L) (hK : va_K (dC, dI) vwCl (TYS kA) s) (hE : EX eD b s) (hnext : ∀ (g : Gh) (H : Heap) (locs : List Loc) (ls : Array Slot) (C S : Nat), LI (dC, dI) kA b eD o mo q q2 g H → RI g mo C S (k + 1) → va_S (fun q => b ≤ q) s.heap H locs → lv_has ls 9 [(0, .ref b0), (1, .ref o), (2, .ref mo), (3, .ref q), (4, .ref q2), (5, .int (nI (6 * k)))] → W p l e room_1 s m #[Value.ref b0] below meth c H locs C S (lw_Z below #[Value.ref b0] s) (F0 m 1913 ls [])) {g : Gh} {H : Heap} {locs : List Loc} {ls : Array Slot} {C S : Nat} (hI : LI (dC, dI) kA b eD o mo q q2 g H) (hR : RI g mo C S k) (hS : va_S (fun q => b ≤ q) s.heap H locs) (hl : lv_has ls 9 [(0, .ref b0), (1, .ref o), (2, .ref mo), (3, .ref q), (4, .ref q2), (5, .int (nI (6 * k)))]) : W p l e room_1 s m #[Value.ref b0] below meth c H locs C S (lw_Z below #[Value.ref b0] s) (F0 m 364 ls []) := by
  obtain ⟨hx, hb, hr, hml, hown, hts0, hX, hbl, hlocks, hgv⟩ := id C0
  have hts : ∀ w ∈ wzL_law, w.before #[Value.ref b0] s = true := fun w h => hts0 w (wzL_law_in w h)
  have hbA : ¬ (fun q : Nat => b ≤ q) b0 := by show ¬ b ≤ b0; omega
  have hT := hE.1
  have hN := hE.2.2.2.2.2.2.2.1
  obtain ⟨hM, hG, hto, htm, htq, htq2, -, hed⟩ := id hI
  have hRC : C ≤ 430000 := by have h9 := hR; unfold RI at h9; omega
  have hRS : S ≤ 3400000 := by have h9 := hR; unfold RI at h9; omega
  refine lv_aload_n hx hb dL_law_364 rfl (lv_at hl 1 rfl) ?_
  refine lv_aload_n hx hb dL_law_365 rfl (lv_at hl 0 rfl) ?_
  refine lv_iload hx hb dL_law_366 (lv_at hl 5 rfl) ?_
  refine lv_iconst (v := 1) hx hb dL_law_368 (by decide) ?_
  refine lv_iadd hx hb dL_law_369 ?_
  refine lv_topi (fun v1 e2 => ?_)
  obtain rfl : v1 = nI ((6 * k) + 1) := e2.trans (nI_add (6 * k) 1)
  refine va_sld hx hb hX hbl hbA hS (vp_in_nI (by omega) (by omega)) dL_law_370 ?_
  refine lv_topi (fun v3 e4 => ?_)
  refine lv_aload_n hx hb dL_law_371 rfl (lv_at hl 3 rfl) ?_
  refine va_calli (vx_runSW (As := [.ref o, .int v3, .ref q]) (rest := []) ⟨hx, hb, hml, hown, hts⟩ (rh_go l hlt dC dI kA eD b g o q v3 (by omega) (by omega)) (vx_cwSW 3 hts gL_law_L_go rfl rfl rfl (by decide +kernel) ⟨Nat.le_of_ble_eq_true rfl, Nat.le_of_ble_eq_true rfl⟩) ⟨fb_CX, fun U hU hW => ⟨rfl, CX.give hb0 hM hK hG hE hS hU hW⟩⟩ rfl rfl hl.1 rfl (lv_room (Nat.le_of_ble_eq_true rfl)) dL_law_372 ⟨(show C + 1 ≤ 960594 by omega), (show S + 6 ≤ 6134452 by omega)⟩) hS (fun q _ h => h) (fun q h => h) (fun r5 g7 t H locs ht hvm hw6 hB hz1 hk1 hS => ?_)
  have hM := hB.back ht
  have hG := hB.2.2.2.1
  have hM1 := hM
  have hG1 := hG
  have hkt := kt_go hw6
  have ht8 : tg g7 o = 1 := (hkt o (by omega)).trans hto
  have ht9 : tg g7 mo = 17 := (hkt mo (by omega)).trans htm
  have ht10 : tg g7 q = 34 := (hkt q (by omega)).trans htq
  have ht11 : tg g7 q2 = 35 := (hkt q2 (by omega)).trans htq2
  refine lv_istore (lv' := [(6, .int r5), (0, .ref b0), (1, .ref o), (2, .ref mo), (3, .ref q), (4, .ref q2), (5, .int (nI (6 * k)))]) hx hb dL_law_375 hl (by decide) rfl (fun ls hl => ?_)
  refine lv_aload_n hx hb dL_law_377 rfl (lv_at hl 3 rfl) ?_
  refine lv_aload_n hx hb dL_law_378 rfl (lv_at hl 1 rfl) ?_
  refine lv_iload hx hb dL_law_379 (lv_at hl 6 rfl) ?_
  refine lv_iconst (v := 1) hx hb dL_law_381 (by decide) ?_
  refine lv_iadd hx hb dL_law_382 ?_
  refine lv_topi (fun v12 e13 => ?_)
  obtain rfl : v12 = nI ((6 * k) + 1) := e13.trans (nI_add (6 * k) 1)
  refine va_sld hx hb hX hbl hbA hS (vp_in_nI (by omega) (by omega)) dL_law_383 ?_
  refine lv_topi (fun v14 e15 => ?_)
  obtain rfl : v3 = v14 := e4.trans e15.symm
  obtain ⟨u16, u17, hP, hf⟩ := o_mo (i := 0) (q := mo) hM (by omega)
  refine W.know (fun hkn1 hkn2 => ?_)
  refine va_calli (va_runV (As := [.int v3]) (rest := []) ⟨hx, hb, hml, hown, hts⟩ (rmf_go l dC dI kA eD b g7 H.size (SH H) mo v3 (by omega) (by omega)) (cwV 1 hts gL_law_X6_go rfl rfl rfl (by decide +kernel) ⟨Nat.le_of_ble_eq_true rfl, Nat.le_of_ble_eq_true rfl⟩) ⟨fb_CXs, va_recv hK hP (ci := 10) (q0 := 0) rfl rfl, fun U hU hW => ⟨rfl, CXs.give hb0 hM hK hG hE hS hU hW⟩⟩ rfl rfl hl.1 rfl (lv_room (Nat.le_of_ble_eq_true rfl)) dL_law_384 ⟨(show C + 1 + 6900 ≤ 960594 by omega), (show S + 6 + 53000 ≤ 6134452 by omega)⟩) hS (fun q _ h => h) (fun q h => h) (fun r18 g20 t H locs ht hvm hw19 hB hz1 hk1 hS => ?_)
  have hM := hB.1.back ht
  have hG := hB.1.2.2.2.1
  obtain ⟨g20, d9⟩ := g20
  have hgr := hB.2
  rw [ht] at hgr
  have hgr1 : H.size + 85 * (504 - (pI g20 mo 0).toInt.toNat) ≤ _ + 85 * (504 - (pI g7 mo 0).toInt.toNat) + 14 * d9 := hgr.1
  have hgr2 : SH H + 652 * (504 - (pI g20 mo 0).toInt.toNat) ≤ _ + 652 * (504 - (pI g7 mo 0).toInt.toNat) + 108 * d9 := hgr.2
  refine W.shrink (k := (C + 1 + 85 * (504 - (pI g7 mo 0).toInt.toNat) + 14 * d9 - 85 * (504 - (pI g20 mo 0).toInt.toNat))) (n := (S + 6 + 652 * (504 - (pI g7 mo 0).toInt.toNat) + 108 * d9 - 652 * (504 - (pI g20 mo 0).toInt.toNat))) (by omega) (by omega) ?_
  have hup := go_up (u2 := g20) (d9 := d9) ht9 hw19
  have hup2 : (pI g7 mo 0).toInt ≤ (pI g20 mo 0).toInt := hup
  have hlx := lx_go (u2 := g20) (d9 := d9) hI hw6 hM1 hG1 hw19 hM hG
  have ht21 : tg g20 o = 1 := hlx.1.2.2.1
  have ht22 : tg g20 mo = 17 := hlx.1.2.2.2.1
  have ht23 : tg g20 q = 34 := hlx.1.2.2.2.2.1
  have ht24 : tg g20 q2 = 35 := hlx.1.2.2.2.2.2.1
  refine lv_istore (lv' := [(7, .int r18), (6, .int r5), (0, .ref b0), (1, .ref o), (2, .ref mo), (3, .ref q), (4, .ref q2), (5, .int (nI (6 * k)))]) hx hb dL_law_387 hl (by decide) rfl (fun ls hl => ?_)
  refine lv_goto (tgt := 1913) hx hb dL_law_389 (by decide) ?_
  exact hnext g20 H _ ls _ _ ⟨hM, hG, hlx.1.2.2⟩ (hlx.2.1 C S k _ _ hR (by omega) (by omega)) hS (lv_sub hl [2, 3, 4, 5, 6, 7] rfl)

set_option maxHeartbeats 4000000 in
set_option maxRecDepth 100000 in
/-- the law: a call of now -/
theorem case_4 {p : Program} {l : Launch} {e : Env} {s : State} {m : MethodId} {below : List Frame} {meth : Method} {c : Code} (hlt : l.stackTraces = false) {b0 L : Nat} {xs : Nat → Int32} (C0 : lw_At p s m meth c b0 L xs) (hL : L ≤ 3072) (dC : Nat → ClassId) (dI : Nat → Nat → Nat) (kA : Nat → ClassId) (eD b o mo q q2 k : Nat) (hb9 : b = s.heap.size) (hb0 : b ≤ s.heap.size) (hk : 6 * k + 6 ≤ L) (hK : va_K (dC, dI) vwCl (TYS kA) s) (hE : EX eD b s) (hnext : ∀ (g : Gh) (H : Heap) (locs : List Loc) (ls : Array Slot) (C S : Nat), LI (dC, dI) kA b eD o mo q q2 g H → RI g mo C S (k + 1) → va_S (fun q => b ≤ q) s.heap H locs → lv_has ls 9 [(0, .ref b0), (1, .ref o), (2, .ref mo), (3, .ref q), (4, .ref q2), (5, .int (nI (6 * k)))] → W p l e room_1 s m #[Value.ref b0] below meth c H locs C S (lw_Z below #[Value.ref b0] s) (F0 m 1913 ls [])) {g : Gh} {H : Heap} {locs : List Loc} {ls : Array Slot} {C S : Nat} (hI : LI (dC, dI) kA b eD o mo q q2 g H) (hR : RI g mo C S k) (hS : va_S (fun q => b ≤ q) s.heap H locs) (hl : lv_has ls 9 [(0, .ref b0), (1, .ref o), (2, .ref mo), (3, .ref q), (4, .ref q2), (5, .int (nI (6 * k)))]) : W p l e room_1 s m #[Value.ref b0] below meth c H locs C S (lw_Z below #[Value.ref b0] s) (F0 m 392 ls []) := by
  obtain ⟨hx, hb, hr, hml, hown, hts0, hX, hbl, hlocks, hgv⟩ := id C0
  have hts : ∀ w ∈ wzL_law, w.before #[Value.ref b0] s = true := fun w h => hts0 w (wzL_law_in w h)
  have hbA : ¬ (fun q : Nat => b ≤ q) b0 := by show ¬ b ≤ b0; omega
  have hT := hE.1
  have hN := hE.2.2.2.2.2.2.2.1
  obtain ⟨hM, hG, hto, htm, htq, htq2, -, hed⟩ := id hI
  have hRC : C ≤ 430000 := by have h9 := hR; unfold RI at h9; omega
  have hRS : S ≤ 3400000 := by have h9 := hR; unfold RI at h9; omega
  refine lv_aload_n hx hb dL_law_392 rfl (lv_at hl 1 rfl) ?_
  obtain ⟨u1, u2, u3, u4, hP, hf⟩ := o_sno (i := 0) (q := o) hM (by omega)
  refine va_calli (va_runV (As := []) (rest := []) ⟨hx, hb, hml, hown, hts⟩ (rf_now l dC dI kA eD b g o  (by omega)) (cwV 0 hts gL_law_X3_now rfl rfl rfl (by decide +kernel) ⟨Nat.le_of_ble_eq_true rfl, Nat.le_of_ble_eq_true rfl⟩) ⟨fb_CX, va_recv hK hP (ci := 7) (q0 := 0) rfl rfl, fun U hU hW => ⟨rfl, CX.give hb0 hM hK hG hE hS hU hW⟩⟩ rfl rfl hl.1 rfl (lv_room (Nat.le_of_ble_eq_true rfl)) dL_law_393 ⟨(show C + 0 ≤ 960594 by omega), (show S + 0 ≤ 6134452 by omega)⟩) hS (fun q _ h => h) (fun q h => h) (fun r5 u t H locs ht hvm hw6 hB hz1 hk1 hS => ?_)
  have hM := hB.back ht
  have hG := hB.2.2.2.1
  have hM1 := hM
  have hG1 := hG
  have hu1 : g = g := rfl
  refine lv_pop hx hb dL_law_396 rfl ?_
  refine lv_aload_n hx hb dL_law_397 rfl (lv_at hl 2 rfl) ?_
  obtain ⟨u7, u8, hP, hf⟩ := o_mo (i := 0) (q := mo) hM (by omega)
  refine va_calli (va_runV (As := []) (rest := []) ⟨hx, hb, hml, hown, hts⟩ (rmf_now l dC dI kA eD b g mo  (by omega)) (cwV 0 hts gL_law_X6_now rfl rfl rfl (by decide +kernel) ⟨Nat.le_of_ble_eq_true rfl, Nat.le_of_ble_eq_true rfl⟩) ⟨fb_CX, va_recv hK hP (ci := 10) (q0 := 0) rfl rfl, fun U hU hW => ⟨rfl, CX.give hb0 hM hK hG hE hS hU hW⟩⟩ rfl rfl hl.1 rfl (lv_room (Nat.le_of_ble_eq_true rfl)) dL_law_398 ⟨(show C + 0 ≤ 960594 by omega), (show S + 0 ≤ 6134452 by omega)⟩) hS (fun q _ h => h) (fun q h => h) (fun r9 g11 t H locs ht hvm hw10 hB hz1 hk1 hS => ?_)
  have hM := hB.back ht
  have hG := hB.2.2.2.1
  have hlx := lx_now hI hw6 rfl hM1 hG1 hw10 hM hG
  have ht12 : tg g11 o = 1 := hlx.1.2.2.1
  have ht13 : tg g11 mo = 17 := hlx.1.2.2.2.1
  have ht14 : tg g11 q = 34 := hlx.1.2.2.2.2.1
  have ht15 : tg g11 q2 = 35 := hlx.1.2.2.2.2.2.1
  refine lv_pop hx hb dL_law_401 rfl ?_
  refine lv_goto (tgt := 1913) hx hb dL_law_402 (by decide) ?_
  exact hnext g11 H _ ls _ _ ⟨hM, hG, hlx.1.2.2⟩ (by have h9 := hlx.2.1 C S k hR; unfold RI at h9 ⊢; omega) hS (lv_sub hl [0, 1, 2, 3, 4, 5] rfl)

set_option maxHeartbeats 4000000 in
set_option maxRecDepth 100000 in
/-- the law: a call of ice -/
theorem case_5 {p : Program} {l : Launch} {e : Env} {s : State} {m : MethodId} {below : List Frame} {meth : Method} {c : Code} (hlt : l.stackTraces = false) {b0 L : Nat} {xs : Nat → Int32} (C0 : lw_At p s m meth c b0 L xs) (hL : L ≤ 3072) (dC : Nat → ClassId) (dI : Nat → Nat → Nat) (kA : Nat → ClassId) (eD b o mo q q2 k : Nat) (hb9 : b = s.heap.size) (hb0 : b ≤ s.heap.size) (hk : 6 * k + 6 ≤ L) (hK : va_K (dC, dI) vwCl (TYS kA) s) (hE : EX eD b s) (hnext : ∀ (g : Gh) (H : Heap) (locs : List Loc) (ls : Array Slot) (C S : Nat), LI (dC, dI) kA b eD o mo q q2 g H → RI g mo C S (k + 1) → va_S (fun q => b ≤ q) s.heap H locs → lv_has ls 9 [(0, .ref b0), (1, .ref o), (2, .ref mo), (3, .ref q), (4, .ref q2), (5, .int (nI (6 * k)))] → W p l e room_1 s m #[Value.ref b0] below meth c H locs C S (lw_Z below #[Value.ref b0] s) (F0 m 1913 ls [])) {g : Gh} {H : Heap} {locs : List Loc} {ls : Array Slot} {C S : Nat} (hI : LI (dC, dI) kA b eD o mo q q2 g H) (hR : RI g mo C S k) (hS : va_S (fun q => b ≤ q) s.heap H locs) (hl : lv_has ls 9 [(0, .ref b0), (1, .ref o), (2, .ref mo), (3, .ref q), (4, .ref q2), (5, .int (nI (6 * k)))]) : W p l e room_1 s m #[Value.ref b0] below meth c H locs C S (lw_Z below #[Value.ref b0] s) (F0 m 405 ls []) := by
  obtain ⟨hx, hb, hr, hml, hown, hts0, hX, hbl, hlocks, hgv⟩ := id C0
  have hts : ∀ w ∈ wzL_law, w.before #[Value.ref b0] s = true := fun w h => hts0 w (wzL_law_in w h)
  have hbA : ¬ (fun q : Nat => b ≤ q) b0 := by show ¬ b ≤ b0; omega
  have hT := hE.1
  have hN := hE.2.2.2.2.2.2.2.1
  obtain ⟨hM, hG, hto, htm, htq, htq2, -, hed⟩ := id hI
  have hRC : C ≤ 430000 := by have h9 := hR; unfold RI at h9; omega
  have hRS : S ≤ 3400000 := by have h9 := hR; unfold RI at h9; omega
  refine lv_aload_n hx hb dL_law_405 rfl (lv_at hl 1 rfl) ?_
  refine lv_aload_n hx hb dL_law_406 rfl (lv_at hl 0 rfl) ?_
  refine lv_iload hx hb dL_law_407 (lv_at hl 5 rfl) ?_
  refine lv_iconst (v := 1) hx hb dL_law_409 (by decide) ?_
  refine lv_iadd hx hb dL_law_410 ?_
  refine lv_topi (fun v1 e2 => ?_)
  obtain rfl : v1 = nI ((6 * k) + 1) := e2.trans (nI_add (6 * k) 1)
  refine va_sld hx hb hX hbl hbA hS (vp_in_nI (by omega) (by omega)) dL_law_411 ?_
  refine lv_topi (fun v3 e4 => ?_)
  refine lv_aload_n hx hb dL_law_412 rfl (lv_at hl 3 rfl) ?_
  refine va_calli (vx_runSW (As := [.ref o, .int v3, .ref q]) (rest := []) ⟨hx, hb, hml, hown, hts⟩ (rh_ice l hlt dC dI kA eD b g o q v3 (by omega) (by omega)) (vx_cwSW 3 hts gL_law_L_ice rfl rfl rfl (by decide +kernel) ⟨Nat.le_of_ble_eq_true rfl, Nat.le_of_ble_eq_true rfl⟩) ⟨fb_CX, fun U hU hW => ⟨rfl, CX.give hb0 hM hK hG hE hS hU hW⟩⟩ rfl rfl hl.1 rfl (lv_room (Nat.le_of_ble_eq_true rfl)) dL_law_413 ⟨(show C + 1 ≤ 960594 by omega), (show S + 6 ≤ 6134452 by omega)⟩) hS (fun q _ h => h) (fun q h => h) (fun r5 g7 t H locs ht hvm hw6 hB hz1 hk1 hS => ?_)
  have hM := hB.back ht
  have hG := hB.2.2.2.1
  have hM1 := hM
  have hG1 := hG
  have hkt : ∀ a : Nat, tg g a ≠ 0 → tg g7 a = tg g a := fun a _ => by obtain ⟨f9, h9⟩ := hw6; rw [h9]; rfl
  have ht8 : tg g7 o = 1 := (hkt o (by omega)).trans hto
  have ht9 : tg g7 mo = 17 := (hkt mo (by omega)).trans htm
  have ht10 : tg g7 q = 34 := (hkt q (by omega)).trans htq
  have ht11 : tg g7 q2 = 35 := (hkt q2 (by omega)).trans htq2
  refine lv_istore (lv' := [(6, .int r5), (0, .ref b0), (1, .ref o), (2, .ref mo), (3, .ref q), (4, .ref q2), (5, .int (nI (6 * k)))]) hx hb dL_law_416 hl (by decide) rfl (fun ls hl => ?_)
  refine lv_aload_n hx hb dL_law_418 rfl (lv_at hl 3 rfl) ?_
  refine lv_aload_n hx hb dL_law_419 rfl (lv_at hl 1 rfl) ?_
  refine lv_iload hx hb dL_law_420 (lv_at hl 6 rfl) ?_
  refine lv_iconst (v := 1) hx hb dL_law_422 (by decide) ?_
  refine lv_iadd hx hb dL_law_423 ?_
  refine lv_topi (fun v12 e13 => ?_)
  obtain rfl : v12 = nI ((6 * k) + 1) := e13.trans (nI_add (6 * k) 1)
  refine va_sld hx hb hX hbl hbA hS (vp_in_nI (by omega) (by omega)) dL_law_424 ?_
  refine lv_topi (fun v14 e15 => ?_)
  obtain rfl : v3 = v14 := e4.trans e15.symm
  obtain ⟨u16, u17, hP, hf⟩ := o_mo (i := 0) (q := mo) hM (by omega)
  refine va_calli (va_runV (As := [.int v3]) (rest := []) ⟨hx, hb, hml, hown, hts⟩ (rmf_ice l dC dI kA eD b g7 mo v3 (by omega)) (cwV 1 hts gL_law_X6_ice rfl rfl rfl (by decide +kernel) ⟨Nat.le_of_ble_eq_true rfl, Nat.le_of_ble_eq_true rfl⟩) ⟨fb_CX, va_recv hK hP (ci := 10) (q0 := 0) rfl rfl, fun U hU hW => ⟨rfl, CX.give hb0 hM hK hG hE hS hU hW⟩⟩ rfl rfl hl.1 rfl (lv_room (Nat.le_of_ble_eq_true rfl)) dL_law_425 ⟨(show C + 1 + 0 ≤ 960594 by omega), (show S + 6 + 0 ≤ 6134452 by omega)⟩) hS (fun q _ h => h) (fun q h => h) (fun r18 g20 t H locs ht hvm hw19 hB hz1 hk1 hS => ?_)
  have hM := hB.back ht
  have hG := hB.2.2.2.1
  have hlx := lx_N hI (Or.inl hw6) hM1 hG1 hw19 hM hG
  have ht21 : tg g20 o = 1 := hlx.1.2.2.1
  have ht22 : tg g20 mo = 17 := hlx.1.2.2.2.1
  have ht23 : tg g20 q = 34 := hlx.1.2.2.2.2.1
  have ht24 : tg g20 q2 = 35 := hlx.1.2.2.2.2.2.1
  refine lv_istore (lv' := [(7, .int r18), (6, .int r5), (0, .ref b0), (1, .ref o), (2, .ref mo), (3, .ref q), (4, .ref q2), (5, .int (nI (6 * k)))]) hx hb dL_law_428 hl (by decide) rfl (fun ls hl => ?_)
  refine lv_goto (tgt := 1913) hx hb dL_law_430 (by decide) ?_
  exact hnext g20 H _ ls _ _ ⟨hM, hG, hlx.1.2.2⟩ (by have h9 := hlx.2 C S k hR; unfold RI at h9 ⊢; omega) hS (lv_sub hl [2, 3, 4, 5, 6, 7] rfl)

set_option maxHeartbeats 4000000 in
set_option maxRecDepth 100000 in
/-- the law: a call of clear -/
theorem case_6 {p : Program} {l : Launch} {e : Env} {s : State} {m : MethodId} {below : List Frame} {meth : Method} {c : Code} (hlt : l.stackTraces = false) {b0 L : Nat} {xs : Nat → Int32} (C0 : lw_At p s m meth c b0 L xs) (hL : L ≤ 3072) (dC : Nat → ClassId) (dI : Nat → Nat → Nat) (kA : Nat → ClassId) (eD b o mo q q2 k : Nat) (hb9 : b = s.heap.size) (hb0 : b ≤ s.heap.size) (hk : 6 * k + 6 ≤ L) (hK : va_K (dC, dI) vwCl (TYS kA) s) (hE : EX eD b s) (hnext : ∀ (g : Gh) (H : Heap) (locs : List Loc) (ls : Array Slot) (C S : Nat), LI (dC, dI) kA b eD o mo q q2 g H → RI g mo C S (k + 1) → va_S (fun q => b ≤ q) s.heap H locs → lv_has ls 9 [(0, .ref b0), (1, .ref o), (2, .ref mo), (3, .ref q), (4, .ref q2), (5, .int (nI (6 * k)))] → W p l e room_1 s m #[Value.ref b0] below meth c H locs C S (lw_Z below #[Value.ref b0] s) (F0 m 1913 ls [])) {g : Gh} {H : Heap} {locs : List Loc} {ls : Array Slot} {C S : Nat} (hI : LI (dC, dI) kA b eD o mo q q2 g H) (hR : RI g mo C S k) (hS : va_S (fun q => b ≤ q) s.heap H locs) (hl : lv_has ls 9 [(0, .ref b0), (1, .ref o), (2, .ref mo), (3, .ref q), (4, .ref q2), (5, .int (nI (6 * k)))]) : W p l e room_1 s m #[Value.ref b0] below meth c H locs C S (lw_Z below #[Value.ref b0] s) (F0 m 433 ls []) := by
  obtain ⟨hx, hb, hr, hml, hown, hts0, hX, hbl, hlocks, hgv⟩ := id C0
  have hts : ∀ w ∈ wzL_law, w.before #[Value.ref b0] s = true := fun w h => hts0 w (wzL_law_in w h)
  have hbA : ¬ (fun q : Nat => b ≤ q) b0 := by show ¬ b ≤ b0; omega
  have hT := hE.1
  have hN := hE.2.2.2.2.2.2.2.1
  obtain ⟨hM, hG, hto, htm, htq, htq2, -, hed⟩ := id hI
  have hRC : C ≤ 430000 := by have h9 := hR; unfold RI at h9; omega
  have hRS : S ≤ 3400000 := by have h9 := hR; unfold RI at h9; omega
  refine lv_aload_n hx hb dL_law_433 rfl (lv_at hl 1 rfl) ?_
  refine lv_aload_n hx hb dL_law_434 rfl (lv_at hl 0 rfl) ?_
  refine lv_iload hx hb dL_law_435 (lv_at hl 5 rfl) ?_
  refine lv_iconst (v := 1) hx hb dL_law_437 (by decide) ?_
  refine lv_iadd hx hb dL_law_438 ?_
  refine lv_topi (fun v1 e2 => ?_)
  obtain rfl : v1 = nI ((6 * k) + 1) := e2.trans (nI_add (6 * k) 1)
  refine va_sld hx hb hX hbl hbA hS (vp_in_nI (by omega) (by omega)) dL_law_439 ?_
  refine lv_topi (fun v3 e4 => ?_)
  refine lv_aload_n hx hb dL_law_440 rfl (lv_at hl 3 rfl) ?_
  refine va_calli (vx_runSW (As := [.ref o, .int v3, .ref q]) (rest := []) ⟨hx, hb, hml, hown, hts⟩ (rh_clear l hlt dC dI kA eD b g o q v3 (by omega) (by omega)) (vx_cwSW 3 hts gL_law_L_clear rfl rfl rfl (by decide +kernel) ⟨Nat.le_of_ble_eq_true rfl, Nat.le_of_ble_eq_true rfl⟩) ⟨fb_CX, fun U hU hW => ⟨rfl, CX.give hb0 hM hK hG hE hS hU hW⟩⟩ rfl rfl hl.1 rfl (lv_room (Nat.le_of_ble_eq_true rfl)) dL_law_441 ⟨(show C + 1 ≤ 960594 by omega), (show S + 6 ≤ 6134452 by omega)⟩) hS (fun q _ h => h) (fun q h => h) (fun r5 g7 t H locs ht hvm hw6 hB hz1 hk1 hS => ?_)
  have hM := hB.back ht
  have hG := hB.2.2.2.1
  have hM1 := hM
  have hG1 := hG
  have hkt : ∀ a : Nat, tg g a ≠ 0 → tg g7 a = tg g a := fun a _ => by obtain ⟨f9, h9⟩ := hw6; rw [h9]; rfl
  have ht8 : tg g7 o = 1 := (hkt o (by omega)).trans hto
  have ht9 : tg g7 mo = 17 := (hkt mo (by omega)).trans htm
  have ht10 : tg g7 q = 34 := (hkt q (by omega)).trans htq
  have ht11 : tg g7 q2 = 35 := (hkt q2 (by omega)).trans htq2
  refine lv_istore (lv' := [(6, .int r5), (0, .ref b0), (1, .ref o), (2, .ref mo), (3, .ref q), (4, .ref q2), (5, .int (nI (6 * k)))]) hx hb dL_law_444 hl (by decide) rfl (fun ls hl => ?_)
  refine lv_aload_n hx hb dL_law_446 rfl (lv_at hl 3 rfl) ?_
  refine lv_aload_n hx hb dL_law_447 rfl (lv_at hl 1 rfl) ?_
  refine lv_iload hx hb dL_law_448 (lv_at hl 6 rfl) ?_
  refine lv_iconst (v := 1) hx hb dL_law_450 (by decide) ?_
  refine lv_iadd hx hb dL_law_451 ?_
  refine lv_topi (fun v12 e13 => ?_)
  obtain rfl : v12 = nI ((6 * k) + 1) := e13.trans (nI_add (6 * k) 1)
  refine va_sld hx hb hX hbl hbA hS (vp_in_nI (by omega) (by omega)) dL_law_452 ?_
  refine lv_topi (fun v14 e15 => ?_)
  obtain rfl : v3 = v14 := e4.trans e15.symm
  obtain ⟨u16, u17, hP, hf⟩ := o_mo (i := 0) (q := mo) hM (by omega)
  refine va_calli (va_runV (As := [.int v3]) (rest := []) ⟨hx, hb, hml, hown, hts⟩ (rmf_clear l dC dI kA eD b g7 mo v3 (by omega)) (cwV 1 hts gL_law_X6_clear rfl rfl rfl (by decide +kernel) ⟨Nat.le_of_ble_eq_true rfl, Nat.le_of_ble_eq_true rfl⟩) ⟨fb_CX, va_recv hK hP (ci := 10) (q0 := 0) rfl rfl, fun U hU hW => ⟨rfl, CX.give hb0 hM hK hG hE hS hU hW⟩⟩ rfl rfl hl.1 rfl (lv_room (Nat.le_of_ble_eq_true rfl)) dL_law_453 ⟨(show C + 1 + 0 ≤ 960594 by omega), (show S + 6 + 0 ≤ 6134452 by omega)⟩) hS (fun q _ h => h) (fun q h => h) (fun r18 g20 t H locs ht hvm hw19 hB hz1 hk1 hS => ?_)
  have hM := hB.back ht
  have hG := hB.2.2.2.1
  have hlx := lx_N hI (Or.inl hw6) hM1 hG1 hw19 hM hG
  have ht21 : tg g20 o = 1 := hlx.1.2.2.1
  have ht22 : tg g20 mo = 17 := hlx.1.2.2.2.1
  have ht23 : tg g20 q = 34 := hlx.1.2.2.2.2.1
  have ht24 : tg g20 q2 = 35 := hlx.1.2.2.2.2.2.1
  refine lv_istore (lv' := [(7, .int r18), (6, .int r5), (0, .ref b0), (1, .ref o), (2, .ref mo), (3, .ref q), (4, .ref q2), (5, .int (nI (6 * k)))]) hx hb dL_law_456 hl (by decide) rfl (fun ls hl => ?_)
  refine lv_goto (tgt := 1913) hx hb dL_law_458 (by decide) ?_
  exact hnext g20 H _ ls _ _ ⟨hM, hG, hlx.1.2.2⟩ (by have h9 := hlx.2 C S k hR; unfold RI at h9 ⊢; omega) hS (lv_sub hl [2, 3, 4, 5, 6, 7] rfl)

set_option maxHeartbeats 4000000 in
set_option maxRecDepth 100000 in
/-- the law: a call of bears -/
theorem case_7 {p : Program} {l : Launch} {e : Env} {s : State} {m : MethodId} {below : List Frame} {meth : Method} {c : Code} (hlt : l.stackTraces = false) {b0 L : Nat} {xs : Nat → Int32} (C0 : lw_At p s m meth c b0 L xs) (hL : L ≤ 3072) (dC : Nat → ClassId) (dI : Nat → Nat → Nat) (kA : Nat → ClassId) (eD b o mo q q2 k : Nat) (hb9 : b = s.heap.size) (hb0 : b ≤ s.heap.size) (hk : 6 * k + 6 ≤ L) (hK : va_K (dC, dI) vwCl (TYS kA) s) (hE : EX eD b s) (hnext : ∀ (g : Gh) (H : Heap) (locs : List Loc) (ls : Array Slot) (C S : Nat), LI (dC, dI) kA b eD o mo q q2 g H → RI g mo C S (k + 1) → va_S (fun q => b ≤ q) s.heap H locs → lv_has ls 9 [(0, .ref b0), (1, .ref o), (2, .ref mo), (3, .ref q), (4, .ref q2), (5, .int (nI (6 * k)))] → W p l e room_1 s m #[Value.ref b0] below meth c H locs C S (lw_Z below #[Value.ref b0] s) (F0 m 1913 ls [])) {g : Gh} {H : Heap} {locs : List Loc} {ls : Array Slot} {C S : Nat} (hI : LI (dC, dI) kA b eD o mo q q2 g H) (hR : RI g mo C S k) (hS : va_S (fun q => b ≤ q) s.heap H locs) (hl : lv_has ls 9 [(0, .ref b0), (1, .ref o), (2, .ref mo), (3, .ref q), (4, .ref q2), (5, .int (nI (6 * k)))]) : W p l e room_1 s m #[Value.ref b0] below meth c H locs C S (lw_Z below #[Value.ref b0] s) (F0 m 461 ls []) := by
  obtain ⟨hx, hb, hr, hml, hown, hts0, hX, hbl, hlocks, hgv⟩ := id C0
  have hts : ∀ w ∈ wzL_law, w.before #[Value.ref b0] s = true := fun w h => hts0 w (wzL_law_in w h)
  have hbA : ¬ (fun q : Nat => b ≤ q) b0 := by show ¬ b ≤ b0; omega
  have hT := hE.1
  have hN := hE.2.2.2.2.2.2.2.1
  obtain ⟨hM, hG, hto, htm, htq, htq2, -, hed⟩ := id hI
  have hRC : C ≤ 430000 := by have h9 := hR; unfold RI at h9; omega
  have hRS : S ≤ 3400000 := by have h9 := hR; unfold RI at h9; omega
  refine lv_aload_n hx hb dL_law_461 rfl (lv_at hl 1 rfl) ?_
  refine lv_aload_n hx hb dL_law_462 rfl (lv_at hl 0 rfl) ?_
  refine lv_iload hx hb dL_law_463 (lv_at hl 5 rfl) ?_
  refine lv_iconst (v := 1) hx hb dL_law_465 (by decide) ?_
  refine lv_iadd hx hb dL_law_466 ?_
  refine lv_topi (fun v1 e2 => ?_)
  obtain rfl : v1 = nI ((6 * k) + 1) := e2.trans (nI_add (6 * k) 1)
  refine va_sld hx hb hX hbl hbA hS (vp_in_nI (by omega) (by omega)) dL_law_467 ?_
  refine lv_topi (fun v3 e4 => ?_)
  refine lv_aload_n hx hb dL_law_468 rfl (lv_at hl 3 rfl) ?_
  refine va_calli (vx_runSW (As := [.ref o, .int v3, .ref q]) (rest := []) ⟨hx, hb, hml, hown, hts⟩ (rh_bears l hlt dC dI kA eD b g o q v3 (by omega) (by omega)) (vx_cwSW 3 hts gL_law_L_bears rfl rfl rfl (by decide +kernel) ⟨Nat.le_of_ble_eq_true rfl, Nat.le_of_ble_eq_true rfl⟩) ⟨fb_CX, fun U hU hW => ⟨rfl, CX.give hb0 hM hK hG hE hS hU hW⟩⟩ rfl rfl hl.1 rfl (lv_room (Nat.le_of_ble_eq_true rfl)) dL_law_469 ⟨(show C + 1 ≤ 960594 by omega), (show S + 6 ≤ 6134452 by omega)⟩) hS (fun q _ h => h) (fun q h => h) (fun r5 g7 t H locs ht hvm hw6 hB hz1 hk1 hS => ?_)
  have hM := hB.back ht
  have hG := hB.2.2.2.1
  have hM1 := hM
  have hG1 := hG
  have hkt : ∀ a : Nat, tg g a ≠ 0 → tg g7 a = tg g a := fun a _ => by obtain ⟨f9, h9⟩ := hw6; rw [h9]; rfl
  have ht8 : tg g7 o = 1 := (hkt o (by omega)).trans hto
  have ht9 : tg g7 mo = 17 := (hkt mo (by omega)).trans htm
  have ht10 : tg g7 q = 34 := (hkt q (by omega)).trans htq
  have ht11 : tg g7 q2 = 35 := (hkt q2 (by omega)).trans htq2
  refine lv_istore (lv' := [(6, .int r5), (0, .ref b0), (1, .ref o), (2, .ref mo), (3, .ref q), (4, .ref q2), (5, .int (nI (6 * k)))]) hx hb dL_law_472 hl (by decide) rfl (fun ls hl => ?_)
  refine lv_aload_n hx hb dL_law_474 rfl (lv_at hl 3 rfl) ?_
  refine lv_aload_n hx hb dL_law_475 rfl (lv_at hl 1 rfl) ?_
  refine lv_iload hx hb dL_law_476 (lv_at hl 6 rfl) ?_
  refine lv_iconst (v := 1) hx hb dL_law_478 (by decide) ?_
  refine lv_iadd hx hb dL_law_479 ?_
  refine lv_topi (fun v12 e13 => ?_)
  obtain rfl : v12 = nI ((6 * k) + 1) := e13.trans (nI_add (6 * k) 1)
  refine va_sld hx hb hX hbl hbA hS (vp_in_nI (by omega) (by omega)) dL_law_480 ?_
  refine lv_topi (fun v14 e15 => ?_)
  obtain rfl : v3 = v14 := e4.trans e15.symm
  obtain ⟨u16, u17, hP, hf⟩ := o_mo (i := 0) (q := mo) hM (by omega)
  refine va_calli (va_runV (As := [.int v3]) (rest := []) ⟨hx, hb, hml, hown, hts⟩ (rmf_bears l dC dI kA eD b g7 mo v3 (by omega)) (cwV 1 hts gL_law_X6_bears rfl rfl rfl (by decide +kernel) ⟨Nat.le_of_ble_eq_true rfl, Nat.le_of_ble_eq_true rfl⟩) ⟨fb_CX, va_recv hK hP (ci := 10) (q0 := 0) rfl rfl, fun U hU hW => ⟨rfl, CX.give hb0 hM hK hG hE hS hU hW⟩⟩ rfl rfl hl.1 rfl (lv_room (Nat.le_of_ble_eq_true rfl)) dL_law_481 ⟨(show C + 1 + 0 ≤ 960594 by omega), (show S + 6 + 0 ≤ 6134452 by omega)⟩) hS (fun q _ h => h) (fun q h => h) (fun r18 g20 t H locs ht hvm hw19 hB hz1 hk1 hS => ?_)
  have hM := hB.back ht
  have hG := hB.2.2.2.1
  have hlx := lx_N hI (Or.inl hw6) hM1 hG1 hw19 hM hG
  have ht21 : tg g20 o = 1 := hlx.1.2.2.1
  have ht22 : tg g20 mo = 17 := hlx.1.2.2.2.1
  have ht23 : tg g20 q = 34 := hlx.1.2.2.2.2.1
  have ht24 : tg g20 q2 = 35 := hlx.1.2.2.2.2.2.1
  refine lv_istore (lv' := [(7, .int r18), (6, .int r5), (0, .ref b0), (1, .ref o), (2, .ref mo), (3, .ref q), (4, .ref q2), (5, .int (nI (6 * k)))]) hx hb dL_law_484 hl (by decide) rfl (fun ls hl => ?_)
  refine lv_goto (tgt := 1913) hx hb dL_law_486 (by decide) ?_
  exact hnext g20 H _ ls _ _ ⟨hM, hG, hlx.1.2.2⟩ (by have h9 := hlx.2 C S k hR; unfold RI at h9 ⊢; omega) hS (lv_sub hl [2, 3, 4, 5, 6, 7] rfl)

set_option maxHeartbeats 4000000 in
set_option maxRecDepth 100000 in
/-- the law: a call of cut -/
theorem case_8 {p : Program} {l : Launch} {e : Env} {s : State} {m : MethodId} {below : List Frame} {meth : Method} {c : Code} (hlt : l.stackTraces = false) {b0 L : Nat} {xs : Nat → Int32} (C0 : lw_At p s m meth c b0 L xs) (hL : L ≤ 3072) (dC : Nat → ClassId) (dI : Nat → Nat → Nat) (kA : Nat → ClassId) (eD b o mo q q2 k : Nat) (hb9 : b = s.heap.size) (hb0 : b ≤ s.heap.size) (hk : 6 * k + 6 ≤ L) (hK : va_K (dC, dI) vwCl (TYS kA) s) (hE : EX eD b s) (hnext : ∀ (g : Gh) (H : Heap) (locs : List Loc) (ls : Array Slot) (C S : Nat), LI (dC, dI) kA b eD o mo q q2 g H → RI g mo C S (k + 1) → va_S (fun q => b ≤ q) s.heap H locs → lv_has ls 9 [(0, .ref b0), (1, .ref o), (2, .ref mo), (3, .ref q), (4, .ref q2), (5, .int (nI (6 * k)))] → W p l e room_1 s m #[Value.ref b0] below meth c H locs C S (lw_Z below #[Value.ref b0] s) (F0 m 1913 ls [])) {g : Gh} {H : Heap} {locs : List Loc} {ls : Array Slot} {C S : Nat} (hI : LI (dC, dI) kA b eD o mo q q2 g H) (hR : RI g mo C S k) (hS : va_S (fun q => b ≤ q) s.heap H locs) (hl : lv_has ls 9 [(0, .ref b0), (1, .ref o), (2, .ref mo), (3, .ref q), (4, .ref q2), (5, .int (nI (6 * k)))]) : W p l e room_1 s m #[Value.ref b0] below meth c H locs C S (lw_Z below #[Value.ref b0] s) (F0 m 489 ls []) := by
  obtain ⟨hx, hb, hr, hml, hown, hts0, hX, hbl, hlocks, hgv⟩ := id C0
  have hts : ∀ w ∈ wzL_law, w.before #[Value.ref b0] s = true := fun w h => hts0 w (wzL_law_in w h)
  have hbA : ¬ (fun q : Nat => b ≤ q) b0 := by show ¬ b ≤ b0; omega
  have hT := hE.1
  have hN := hE.2.2.2.2.2.2.2.1
  obtain ⟨hM, hG, hto, htm, htq, htq2, -, hed⟩ := id hI
  have hRC : C ≤ 430000 := by have h9 := hR; unfold RI at h9; omega
  have hRS : S ≤ 3400000 := by have h9 := hR; unfold RI at h9; omega
  refine lv_aload_n hx hb dL_law_489 rfl (lv_at hl 1 rfl) ?_
  refine lv_aload_n hx hb dL_law_490 rfl (lv_at hl 0 rfl) ?_
  refine lv_iload hx hb dL_law_491 (lv_at hl 5 rfl) ?_
  refine lv_iconst (v := 1) hx hb dL_law_493 (by decide) ?_
  refine lv_iadd hx hb dL_law_494 ?_
  refine lv_topi (fun v1 e2 => ?_)
  obtain rfl : v1 = nI ((6 * k) + 1) := e2.trans (nI_add (6 * k) 1)
  refine va_sld hx hb hX hbl hbA hS (vp_in_nI (by omega) (by omega)) dL_law_495 ?_
  refine lv_topi (fun v3 e4 => ?_)
  refine lv_aload_n hx hb dL_law_496 rfl (lv_at hl 0 rfl) ?_
  refine lv_iload hx hb dL_law_497 (lv_at hl 5 rfl) ?_
  refine lv_iconst (v := 2) hx hb dL_law_499 (by decide) ?_
  refine lv_iadd hx hb dL_law_500 ?_
  refine lv_topi (fun v5 e6 => ?_)
  obtain rfl : v5 = nI ((6 * k) + 2) := e6.trans (nI_add (6 * k) 2)
  refine va_sld hx hb hX hbl hbA hS (vp_in_nI (by omega) (by omega)) dL_law_501 ?_
  refine lv_topi (fun v7 e8 => ?_)
  refine lv_aload_n hx hb dL_law_502 rfl (lv_at hl 3 rfl) ?_
  refine va_calli (vx_runSW (As := [.ref o, .int v3, .int v7, .ref q]) (rest := []) ⟨hx, hb, hml, hown, hts⟩ (rh_cut l hlt dC dI kA eD b g o q v3 v7 (by omega) (by omega)) (vx_cwSW 4 hts gL_law_L_cut rfl rfl rfl (by decide +kernel) ⟨Nat.le_of_ble_eq_true rfl, Nat.le_of_ble_eq_true rfl⟩) ⟨fb_CX, fun U hU hW => ⟨rfl, CX.give hb0 hM hK hG hE hS hU hW⟩⟩ rfl rfl hl.1 rfl (lv_room (Nat.le_of_ble_eq_true rfl)) dL_law_503 ⟨(show C + 1 ≤ 960594 by omega), (show S + 6 ≤ 6134452 by omega)⟩) hS (fun q _ h => h) (fun q h => h) (fun r9 g11 t H locs ht hvm hw10 hB hz1 hk1 hS => ?_)
  have hM := hB.back ht
  have hG := hB.2.2.2.1
  have hM1 := hM
  have hG1 := hG
  have hkt : ∀ a : Nat, tg g a ≠ 0 → tg g11 a = tg g a := fun a _ => by obtain ⟨f9, h9⟩ := hw10; rw [h9]; rfl
  have ht12 : tg g11 o = 1 := (hkt o (by omega)).trans hto
  have ht13 : tg g11 mo = 17 := (hkt mo (by omega)).trans htm
  have ht14 : tg g11 q = 34 := (hkt q (by omega)).trans htq
  have ht15 : tg g11 q2 = 35 := (hkt q2 (by omega)).trans htq2
  refine lv_istore (lv' := [(6, .int r9), (0, .ref b0), (1, .ref o), (2, .ref mo), (3, .ref q), (4, .ref q2), (5, .int (nI (6 * k)))]) hx hb dL_law_506 hl (by decide) rfl (fun ls hl => ?_)
  refine lv_aload_n hx hb dL_law_508 rfl (lv_at hl 3 rfl) ?_
  refine lv_aload_n hx hb dL_law_509 rfl (lv_at hl 1 rfl) ?_
  refine lv_iload hx hb dL_law_510 (lv_at hl 6 rfl) ?_
  refine lv_iconst (v := 1) hx hb dL_law_512 (by decide) ?_
  refine lv_iadd hx hb dL_law_513 ?_
  refine lv_topi (fun v16 e17 => ?_)
  obtain rfl : v16 = nI ((6 * k) + 1) := e17.trans (nI_add (6 * k) 1)
  refine va_sld hx hb hX hbl hbA hS (vp_in_nI (by omega) (by omega)) dL_law_514 ?_
  refine lv_topi (fun v18 e19 => ?_)
  obtain rfl : v3 = v18 := e4.trans e19.symm
  refine lv_aload_n hx hb dL_law_515 rfl (lv_at hl 1 rfl) ?_
  refine lv_iload hx hb dL_law_516 (lv_at hl 6 rfl) ?_
  refine lv_iconst (v := 2) hx hb dL_law_518 (by decide) ?_
  refine lv_iadd hx hb dL_law_519 ?_
  refine lv_topi (fun v20 e21 => ?_)
  obtain rfl : v20 = nI ((6 * k) + 2) := e21.trans (nI_add (6 * k) 2)
  refine va_sld hx hb hX hbl hbA hS (vp_in_nI (by omega) (by omega)) dL_law_520 ?_
  refine lv_topi (fun v22 e23 => ?_)
  obtain rfl : v7 = v22 := e8.trans e23.symm
  obtain ⟨u24, u25, hP, hf⟩ := o_mo (i := 0) (q := mo) hM (by omega)
  refine va_calli (va_runV (As := [.int v3, .int v7]) (rest := []) ⟨hx, hb, hml, hown, hts⟩ (rmf_cut l dC dI kA eD b g11 mo v3 v7 (by omega)) (cwV 2 hts gL_law_X6_cut rfl rfl rfl (by decide +kernel) ⟨Nat.le_of_ble_eq_true rfl, Nat.le_of_ble_eq_true rfl⟩) ⟨fb_CX, va_recv hK hP (ci := 10) (q0 := 0) rfl rfl, fun U hU hW => ⟨rfl, CX.give hb0 hM hK hG hE hS hU hW⟩⟩ rfl rfl hl.1 rfl (lv_room (Nat.le_of_ble_eq_true rfl)) dL_law_521 ⟨(show C + 1 + 0 ≤ 960594 by omega), (show S + 6 + 0 ≤ 6134452 by omega)⟩) hS (fun q _ h => h) (fun q h => h) (fun r26 g28 t H locs ht hvm hw27 hB hz1 hk1 hS => ?_)
  have hM := hB.back ht
  have hG := hB.2.2.2.1
  have hlx := lx_N hI (Or.inl hw10) hM1 hG1 hw27 hM hG
  have ht29 : tg g28 o = 1 := hlx.1.2.2.1
  have ht30 : tg g28 mo = 17 := hlx.1.2.2.2.1
  have ht31 : tg g28 q = 34 := hlx.1.2.2.2.2.1
  have ht32 : tg g28 q2 = 35 := hlx.1.2.2.2.2.2.1
  refine lv_istore (lv' := [(7, .int r26), (6, .int r9), (0, .ref b0), (1, .ref o), (2, .ref mo), (3, .ref q), (4, .ref q2), (5, .int (nI (6 * k)))]) hx hb dL_law_524 hl (by decide) rfl (fun ls hl => ?_)
  refine lv_goto (tgt := 1913) hx hb dL_law_526 (by decide) ?_
  exact hnext g28 H _ ls _ _ ⟨hM, hG, hlx.1.2.2⟩ (by have h9 := hlx.2 C S k hR; unfold RI at h9 ⊢; omega) hS (lv_sub hl [2, 3, 4, 5, 6, 7] rfl)

set_option maxHeartbeats 4000000 in
set_option maxRecDepth 100000 in
/-- the law: a call of yard -/
theorem case_9 {p : Program} {l : Launch} {e : Env} {s : State} {m : MethodId} {below : List Frame} {meth : Method} {c : Code} (hlt : l.stackTraces = false) {b0 L : Nat} {xs : Nat → Int32} (C0 : lw_At p s m meth c b0 L xs) (hL : L ≤ 3072) (dC : Nat → ClassId) (dI : Nat → Nat → Nat) (kA : Nat → ClassId) (eD b o mo q q2 k : Nat) (hb9 : b = s.heap.size) (hb0 : b ≤ s.heap.size) (hk : 6 * k + 6 ≤ L) (hK : va_K (dC, dI) vwCl (TYS kA) s) (hE : EX eD b s) (hnext : ∀ (g : Gh) (H : Heap) (locs : List Loc) (ls : Array Slot) (C S : Nat), LI (dC, dI) kA b eD o mo q q2 g H → RI g mo C S (k + 1) → va_S (fun q => b ≤ q) s.heap H locs → lv_has ls 9 [(0, .ref b0), (1, .ref o), (2, .ref mo), (3, .ref q), (4, .ref q2), (5, .int (nI (6 * k)))] → W p l e room_1 s m #[Value.ref b0] below meth c H locs C S (lw_Z below #[Value.ref b0] s) (F0 m 1913 ls [])) {g : Gh} {H : Heap} {locs : List Loc} {ls : Array Slot} {C S : Nat} (hI : LI (dC, dI) kA b eD o mo q q2 g H) (hR : RI g mo C S k) (hS : va_S (fun q => b ≤ q) s.heap H locs) (hl : lv_has ls 9 [(0, .ref b0), (1, .ref o), (2, .ref mo), (3, .ref q), (4, .ref q2), (5, .int (nI (6 * k)))]) : W p l e room_1 s m #[Value.ref b0] below meth c H locs C S (lw_Z below #[Value.ref b0] s) (F0 m 529 ls []) := by
  obtain ⟨hx, hb, hr, hml, hown, hts0, hX, hbl, hlocks, hgv⟩ := id C0
  have hts : ∀ w ∈ wzL_law, w.before #[Value.ref b0] s = true := fun w h => hts0 w (wzL_law_in w h)
  have hbA : ¬ (fun q : Nat => b ≤ q) b0 := by show ¬ b ≤ b0; omega
  have hT := hE.1
  have hN := hE.2.2.2.2.2.2.2.1
  obtain ⟨hM, hG, hto, htm, htq, htq2, -, hed⟩ := id hI
  have hRC : C ≤ 430000 := by have h9 := hR; unfold RI at h9; omega
  have hRS : S ≤ 3400000 := by have h9 := hR; unfold RI at h9; omega
  refine lv_aload_n hx hb dL_law_529 rfl (lv_at hl 1 rfl) ?_
  refine lv_aload_n hx hb dL_law_530 rfl (lv_at hl 0 rfl) ?_
  refine lv_iload hx hb dL_law_531 (lv_at hl 5 rfl) ?_
  refine lv_iconst (v := 1) hx hb dL_law_533 (by decide) ?_
  refine lv_iadd hx hb dL_law_534 ?_
  refine lv_topi (fun v1 e2 => ?_)
  obtain rfl : v1 = nI ((6 * k) + 1) := e2.trans (nI_add (6 * k) 1)
  refine va_sld hx hb hX hbl hbA hS (vp_in_nI (by omega) (by omega)) dL_law_535 ?_
  refine lv_topi (fun v3 e4 => ?_)
  refine lv_if_eq (tgt := 543) hx hb dL_law_536 (by decide) (fun c5 => ?_) (fun c5 => ?_)
  · skip
    refine lv_iconst (v := 0) hx hb dL_law_543 (by decide) ?_
    obtain ⟨u6, u7, u8, u9, hP, hf⟩ := o_sno (i := 0) (q := o) hM (by omega)
    refine va_calli (va_runV (As := [.int 0]) (rest := []) ⟨hx, hb, hml, hown, hts⟩ (rf_yard l dC dI kA eD b g o 0 (by omega)) (cwV 1 hts gL_law_X3_yard rfl rfl rfl (by decide +kernel) ⟨Nat.le_of_ble_eq_true rfl, Nat.le_of_ble_eq_true rfl⟩) ⟨fb_CX, va_recv hK hP (ci := 7) (q0 := 0) rfl rfl, fun U hU hW => ⟨rfl, CX.give hb0 hM hK hG hE hS hU hW⟩⟩ rfl rfl hl.1 rfl (lv_room (Nat.le_of_ble_eq_true rfl)) dL_law_544 ⟨(show C + 0 ≤ 960594 by omega), (show S + 0 ≤ 6134452 by omega)⟩) hS (fun q _ h => h) (fun q h => h) (fun r10 u t H locs ht hvm hw11 hB hz1 hk1 hS => ?_)
    have hM := hB.back ht
    have hG := hB.2.2.2.1
    have hM1 := hM
    have hG1 := hG
    have hu1 : g = g := rfl
    refine lv_pop hx hb dL_law_547 rfl ?_
    refine lv_aload_n hx hb dL_law_548 rfl (lv_at hl 2 rfl) ?_
    refine lv_aload_n hx hb dL_law_549 rfl (lv_at hl 0 rfl) ?_
    refine lv_iload hx hb dL_law_550 (lv_at hl 5 rfl) ?_
    refine lv_iconst (v := 1) hx hb dL_law_552 (by decide) ?_
    refine lv_iadd hx hb dL_law_553 ?_
    refine lv_topi (fun v12 e13 => ?_)
    obtain rfl : v12 = nI ((6 * k) + 1) := e13.trans (nI_add (6 * k) 1)
    refine va_sld hx hb hX hbl hbA hS (vp_in_nI (by omega) (by omega)) dL_law_554 ?_
    refine lv_topi (fun v14 e15 => ?_)
    obtain rfl : v3 = v14 := e4.trans e15.symm
    refine lv_if_eq (tgt := 562) hx hb dL_law_555 (by decide) (fun _ => ?_) (fun cx => absurd c5 cx)
    refine lv_iconst (v := 0) hx hb dL_law_562 (by decide) ?_
    obtain ⟨u16, u17, hP, hf⟩ := o_mo (i := 0) (q := mo) hM (by omega)
    refine va_calli (va_runV (As := [.int 0]) (rest := []) ⟨hx, hb, hml, hown, hts⟩ (rmf_yard l dC dI kA eD b g mo 0 (by omega)) (cwV 1 hts gL_law_X6_yard rfl rfl rfl (by decide +kernel) ⟨Nat.le_of_ble_eq_true rfl, Nat.le_of_ble_eq_true rfl⟩) ⟨fb_CX, va_recv hK hP (ci := 10) (q0 := 0) rfl rfl, fun U hU hW => ⟨rfl, CX.give hb0 hM hK hG hE hS hU hW⟩⟩ rfl rfl hl.1 rfl (lv_room (Nat.le_of_ble_eq_true rfl)) dL_law_563 ⟨(show C + 0 ≤ 960594 by omega), (show S + 0 ≤ 6134452 by omega)⟩) hS (fun q _ h => h) (fun q h => h) (fun r18 g20 t H locs ht hvm hw19 hB hz1 hk1 hS => ?_)
    have hM := hB.back ht
    have hG := hB.2.2.2.1
    have hlx := lx_N hI (Or.inr hu1) hM1 hG1 hw19 hM hG
    have ht21 : tg g20 o = 1 := hlx.1.2.2.1
    have ht22 : tg g20 mo = 17 := hlx.1.2.2.2.1
    have ht23 : tg g20 q = 34 := hlx.1.2.2.2.2.1
    have ht24 : tg g20 q2 = 35 := hlx.1.2.2.2.2.2.1
    refine lv_pop hx hb dL_law_566 rfl ?_
    refine lv_goto (tgt := 1913) hx hb dL_law_567 (by decide) ?_
    exact hnext g20 H _ ls _ _ ⟨hM, hG, hlx.1.2.2⟩ (by have h9 := hlx.2 C S k hR; unfold RI at h9 ⊢; omega) hS (lv_sub hl [0, 1, 2, 3, 4, 5] rfl)
  · skip
    refine lv_iconst (v := 1) hx hb dL_law_539 (by decide) ?_
    refine lv_goto (tgt := 544) hx hb dL_law_540 (by decide) ?_
    obtain ⟨u25, u26, u27, u28, hP, hf⟩ := o_sno (i := 0) (q := o) hM (by omega)
    refine va_calli (va_runV (As := [.int 1]) (rest := []) ⟨hx, hb, hml, hown, hts⟩ (rf_yard l dC dI kA eD b g o 1 (by omega)) (cwV 1 hts gL_law_X3_yard rfl rfl rfl (by decide +kernel) ⟨Nat.le_of_ble_eq_true rfl, Nat.le_of_ble_eq_true rfl⟩) ⟨fb_CX, va_recv hK hP (ci := 7) (q0 := 0) rfl rfl, fun U hU hW => ⟨rfl, CX.give hb0 hM hK hG hE hS hU hW⟩⟩ rfl rfl hl.1 rfl (lv_room (Nat.le_of_ble_eq_true rfl)) dL_law_544 ⟨(show C + 0 ≤ 960594 by omega), (show S + 0 ≤ 6134452 by omega)⟩) hS (fun q _ h => h) (fun q h => h) (fun r29 u t H locs ht hvm hw30 hB hz1 hk1 hS => ?_)
    have hM := hB.back ht
    have hG := hB.2.2.2.1
    have hM1 := hM
    have hG1 := hG
    have hu1 : g = g := rfl
    refine lv_pop hx hb dL_law_547 rfl ?_
    refine lv_aload_n hx hb dL_law_548 rfl (lv_at hl 2 rfl) ?_
    refine lv_aload_n hx hb dL_law_549 rfl (lv_at hl 0 rfl) ?_
    refine lv_iload hx hb dL_law_550 (lv_at hl 5 rfl) ?_
    refine lv_iconst (v := 1) hx hb dL_law_552 (by decide) ?_
    refine lv_iadd hx hb dL_law_553 ?_
    refine lv_topi (fun v31 e32 => ?_)
    obtain rfl : v31 = nI ((6 * k) + 1) := e32.trans (nI_add (6 * k) 1)
    refine va_sld hx hb hX hbl hbA hS (vp_in_nI (by omega) (by omega)) dL_law_554 ?_
    refine lv_topi (fun v33 e34 => ?_)
    obtain rfl : v3 = v33 := e4.trans e34.symm
    refine lv_if_eq (tgt := 562) hx hb dL_law_555 (by decide) (fun cx => absurd cx c5) (fun _ => ?_)
    refine lv_iconst (v := 1) hx hb dL_law_558 (by decide) ?_
    refine lv_goto (tgt := 563) hx hb dL_law_559 (by decide) ?_
    obtain ⟨u35, u36, hP, hf⟩ := o_mo (i := 0) (q := mo) hM (by omega)
    refine va_calli (va_runV (As := [.int 1]) (rest := []) ⟨hx, hb, hml, hown, hts⟩ (rmf_yard l dC dI kA eD b g mo 1 (by omega)) (cwV 1 hts gL_law_X6_yard rfl rfl rfl (by decide +kernel) ⟨Nat.le_of_ble_eq_true rfl, Nat.le_of_ble_eq_true rfl⟩) ⟨fb_CX, va_recv hK hP (ci := 10) (q0 := 0) rfl rfl, fun U hU hW => ⟨rfl, CX.give hb0 hM hK hG hE hS hU hW⟩⟩ rfl rfl hl.1 rfl (lv_room (Nat.le_of_ble_eq_true rfl)) dL_law_563 ⟨(show C + 0 ≤ 960594 by omega), (show S + 0 ≤ 6134452 by omega)⟩) hS (fun q _ h => h) (fun q h => h) (fun r37 g39 t H locs ht hvm hw38 hB hz1 hk1 hS => ?_)
    have hM := hB.back ht
    have hG := hB.2.2.2.1
    have hlx := lx_N hI (Or.inr hu1) hM1 hG1 hw38 hM hG
    have ht40 : tg g39 o = 1 := hlx.1.2.2.1
    have ht41 : tg g39 mo = 17 := hlx.1.2.2.2.1
    have ht42 : tg g39 q = 34 := hlx.1.2.2.2.2.1
    have ht43 : tg g39 q2 = 35 := hlx.1.2.2.2.2.2.1
    refine lv_pop hx hb dL_law_566 rfl ?_
    refine lv_goto (tgt := 1913) hx hb dL_law_567 (by decide) ?_
    exact hnext g39 H _ ls _ _ ⟨hM, hG, hlx.1.2.2⟩ (by have h9 := hlx.2 C S k hR; unfold RI at h9 ⊢; omega) hS (lv_sub hl [0, 1, 2, 3, 4, 5] rfl)

set_option maxHeartbeats 4000000 in
set_option maxRecDepth 100000 in
/-- the law: a call of lorries -/
theorem case_10 {p : Program} {l : Launch} {e : Env} {s : State} {m : MethodId} {below : List Frame} {meth : Method} {c : Code} (hlt : l.stackTraces = false) {b0 L : Nat} {xs : Nat → Int32} (C0 : lw_At p s m meth c b0 L xs) (hL : L ≤ 3072) (dC : Nat → ClassId) (dI : Nat → Nat → Nat) (kA : Nat → ClassId) (eD b o mo q q2 k : Nat) (hb9 : b = s.heap.size) (hb0 : b ≤ s.heap.size) (hk : 6 * k + 6 ≤ L) (hK : va_K (dC, dI) vwCl (TYS kA) s) (hE : EX eD b s) (hnext : ∀ (g : Gh) (H : Heap) (locs : List Loc) (ls : Array Slot) (C S : Nat), LI (dC, dI) kA b eD o mo q q2 g H → RI g mo C S (k + 1) → va_S (fun q => b ≤ q) s.heap H locs → lv_has ls 9 [(0, .ref b0), (1, .ref o), (2, .ref mo), (3, .ref q), (4, .ref q2), (5, .int (nI (6 * k)))] → W p l e room_1 s m #[Value.ref b0] below meth c H locs C S (lw_Z below #[Value.ref b0] s) (F0 m 1913 ls [])) {g : Gh} {H : Heap} {locs : List Loc} {ls : Array Slot} {C S : Nat} (hI : LI (dC, dI) kA b eD o mo q q2 g H) (hR : RI g mo C S k) (hS : va_S (fun q => b ≤ q) s.heap H locs) (hl : lv_has ls 9 [(0, .ref b0), (1, .ref o), (2, .ref mo), (3, .ref q), (4, .ref q2), (5, .int (nI (6 * k)))]) : W p l e room_1 s m #[Value.ref b0] below meth c H locs C S (lw_Z below #[Value.ref b0] s) (F0 m 570 ls []) := by
  obtain ⟨hx, hb, hr, hml, hown, hts0, hX, hbl, hlocks, hgv⟩ := id C0
  have hts : ∀ w ∈ wzL_law, w.before #[Value.ref b0] s = true := fun w h => hts0 w (wzL_law_in w h)
  have hbA : ¬ (fun q : Nat => b ≤ q) b0 := by show ¬ b ≤ b0; omega
  have hT := hE.1
  have hN := hE.2.2.2.2.2.2.2.1
  obtain ⟨hM, hG, hto, htm, htq, htq2, -, hed⟩ := id hI
  have hRC : C ≤ 430000 := by have h9 := hR; unfold RI at h9; omega
  have hRS : S ≤ 3400000 := by have h9 := hR; unfold RI at h9; omega
  refine lv_aload_n hx hb dL_law_570 rfl (lv_at hl 1 rfl) ?_
  refine lv_aload_n hx hb dL_law_571 rfl (lv_at hl 0 rfl) ?_
  refine lv_iload hx hb dL_law_572 (lv_at hl 5 rfl) ?_
  refine lv_iconst (v := 1) hx hb dL_law_574 (by decide) ?_
  refine lv_iadd hx hb dL_law_575 ?_
  refine lv_topi (fun v1 e2 => ?_)
  obtain rfl : v1 = nI ((6 * k) + 1) := e2.trans (nI_add (6 * k) 1)
  refine va_sld hx hb hX hbl hbA hS (vp_in_nI (by omega) (by omega)) dL_law_576 ?_
  refine lv_topi (fun v3 e4 => ?_)
  refine lv_aload_n hx hb dL_law_577 rfl (lv_at hl 3 rfl) ?_
  refine va_calli (vx_runSW (As := [.ref o, .int v3, .ref q]) (rest := []) ⟨hx, hb, hml, hown, hts⟩ (rh_lorries l hlt dC dI kA eD b g o q v3 (by omega) (by omega)) (vx_cwSW 3 hts gL_law_L_lorries rfl rfl rfl (by decide +kernel) ⟨Nat.le_of_ble_eq_true rfl, Nat.le_of_ble_eq_true rfl⟩) ⟨fb_CX, fun U hU hW => ⟨rfl, CX.give hb0 hM hK hG hE hS hU hW⟩⟩ rfl rfl hl.1 rfl (lv_room (Nat.le_of_ble_eq_true rfl)) dL_law_578 ⟨(show C + 1 ≤ 960594 by omega), (show S + 6 ≤ 6134452 by omega)⟩) hS (fun q _ h => h) (fun q h => h) (fun r5 g7 t H locs ht hvm hw6 hB hz1 hk1 hS => ?_)
  have hM := hB.back ht
  have hG := hB.2.2.2.1
  have hM1 := hM
  have hG1 := hG
  have hkt : ∀ a : Nat, tg g a ≠ 0 → tg g7 a = tg g a := fun a _ => by obtain ⟨f9, h9⟩ := hw6; rw [h9]; rfl
  have ht8 : tg g7 o = 1 := (hkt o (by omega)).trans hto
  have ht9 : tg g7 mo = 17 := (hkt mo (by omega)).trans htm
  have ht10 : tg g7 q = 34 := (hkt q (by omega)).trans htq
  have ht11 : tg g7 q2 = 35 := (hkt q2 (by omega)).trans htq2
  refine lv_istore (lv' := [(6, .int r5), (0, .ref b0), (1, .ref o), (2, .ref mo), (3, .ref q), (4, .ref q2), (5, .int (nI (6 * k)))]) hx hb dL_law_581 hl (by decide) rfl (fun ls hl => ?_)
  refine lv_aload_n hx hb dL_law_583 rfl (lv_at hl 3 rfl) ?_
  refine lv_aload_n hx hb dL_law_584 rfl (lv_at hl 1 rfl) ?_
  refine lv_iload hx hb dL_law_585 (lv_at hl 6 rfl) ?_
  refine lv_iconst (v := 1) hx hb dL_law_587 (by decide) ?_
  refine lv_iadd hx hb dL_law_588 ?_
  refine lv_topi (fun v12 e13 => ?_)
  obtain rfl : v12 = nI ((6 * k) + 1) := e13.trans (nI_add (6 * k) 1)
  refine va_sld hx hb hX hbl hbA hS (vp_in_nI (by omega) (by omega)) dL_law_589 ?_
  refine lv_topi (fun v14 e15 => ?_)
  obtain rfl : v3 = v14 := e4.trans e15.symm
  obtain ⟨u16, u17, hP, hf⟩ := o_mo (i := 0) (q := mo) hM (by omega)
  refine va_calli (va_runV (As := [.int v3]) (rest := []) ⟨hx, hb, hml, hown, hts⟩ (rmf_lorries l dC dI kA eD b g7 mo v3 (by omega)) (cwV 1 hts gL_law_X6_lorries rfl rfl rfl (by decide +kernel) ⟨Nat.le_of_ble_eq_true rfl, Nat.le_of_ble_eq_true rfl⟩) ⟨fb_CX, va_recv hK hP (ci := 10) (q0 := 0) rfl rfl, fun U hU hW => ⟨rfl, CX.give hb0 hM hK hG hE hS hU hW⟩⟩ rfl rfl hl.1 rfl (lv_room (Nat.le_of_ble_eq_true rfl)) dL_law_590 ⟨(show C + 1 + 0 ≤ 960594 by omega), (show S + 6 + 0 ≤ 6134452 by omega)⟩) hS (fun q _ h => h) (fun q h => h) (fun r18 g20 t H locs ht hvm hw19 hB hz1 hk1 hS => ?_)
  have hM := hB.back ht
  have hG := hB.2.2.2.1
  have hlx := lx_N hI (Or.inl hw6) hM1 hG1 hw19 hM hG
  have ht21 : tg g20 o = 1 := hlx.1.2.2.1
  have ht22 : tg g20 mo = 17 := hlx.1.2.2.2.1
  have ht23 : tg g20 q = 34 := hlx.1.2.2.2.2.1
  have ht24 : tg g20 q2 = 35 := hlx.1.2.2.2.2.2.1
  refine lv_istore (lv' := [(7, .int r18), (6, .int r5), (0, .ref b0), (1, .ref o), (2, .ref mo), (3, .ref q), (4, .ref q2), (5, .int (nI (6 * k)))]) hx hb dL_law_593 hl (by decide) rfl (fun ls hl => ?_)
  refine lv_goto (tgt := 1913) hx hb dL_law_595 (by decide) ?_
  exact hnext g20 H _ ls _ _ ⟨hM, hG, hlx.1.2.2⟩ (by have h9 := hlx.2 C S k hR; unfold RI at h9 ⊢; omega) hS (lv_sub hl [2, 3, 4, 5, 6, 7] rfl)

set_option maxHeartbeats 4000000 in
set_option maxRecDepth 100000 in
/-- the law: a call of machine -/
theorem case_11 {p : Program} {l : Launch} {e : Env} {s : State} {m : MethodId} {below : List Frame} {meth : Method} {c : Code} (hlt : l.stackTraces = false) {b0 L : Nat} {xs : Nat → Int32} (C0 : lw_At p s m meth c b0 L xs) (hL : L ≤ 3072) (dC : Nat → ClassId) (dI : Nat → Nat → Nat) (kA : Nat → ClassId) (eD b o mo q q2 k : Nat) (hb9 : b = s.heap.size) (hb0 : b ≤ s.heap.size) (hk : 6 * k + 6 ≤ L) (hK : va_K (dC, dI) vwCl (TYS kA) s) (hE : EX eD b s) (hnext : ∀ (g : Gh) (H : Heap) (locs : List Loc) (ls : Array Slot) (C S : Nat), LI (dC, dI) kA b eD o mo q q2 g H → RI g mo C S (k + 1) → va_S (fun q => b ≤ q) s.heap H locs → lv_has ls 9 [(0, .ref b0), (1, .ref o), (2, .ref mo), (3, .ref q), (4, .ref q2), (5, .int (nI (6 * k)))] → W p l e room_1 s m #[Value.ref b0] below meth c H locs C S (lw_Z below #[Value.ref b0] s) (F0 m 1913 ls [])) {g : Gh} {H : Heap} {locs : List Loc} {ls : Array Slot} {C S : Nat} (hI : LI (dC, dI) kA b eD o mo q q2 g H) (hR : RI g mo C S k) (hS : va_S (fun q => b ≤ q) s.heap H locs) (hl : lv_has ls 9 [(0, .ref b0), (1, .ref o), (2, .ref mo), (3, .ref q), (4, .ref q2), (5, .int (nI (6 * k)))]) : W p l e room_1 s m #[Value.ref b0] below meth c H locs C S (lw_Z below #[Value.ref b0] s) (F0 m 598 ls []) := by
  obtain ⟨hx, hb, hr, hml, hown, hts0, hX, hbl, hlocks, hgv⟩ := id C0
  have hts : ∀ w ∈ wzL_law, w.before #[Value.ref b0] s = true := fun w h => hts0 w (wzL_law_in w h)
  have hbA : ¬ (fun q : Nat => b ≤ q) b0 := by show ¬ b ≤ b0; omega
  have hT := hE.1
  have hN := hE.2.2.2.2.2.2.2.1
  obtain ⟨hM, hG, hto, htm, htq, htq2, -, hed⟩ := id hI
  have hRC : C ≤ 430000 := by have h9 := hR; unfold RI at h9; omega
  have hRS : S ≤ 3400000 := by have h9 := hR; unfold RI at h9; omega
  refine lv_aload_n hx hb dL_law_598 rfl (lv_at hl 1 rfl) ?_
  refine lv_aload_n hx hb dL_law_599 rfl (lv_at hl 0 rfl) ?_
  refine lv_iload hx hb dL_law_600 (lv_at hl 5 rfl) ?_
  refine lv_iconst (v := 1) hx hb dL_law_602 (by decide) ?_
  refine lv_iadd hx hb dL_law_603 ?_
  refine lv_topi (fun v1 e2 => ?_)
  obtain rfl : v1 = nI ((6 * k) + 1) := e2.trans (nI_add (6 * k) 1)
  refine va_sld hx hb hX hbl hbA hS (vp_in_nI (by omega) (by omega)) dL_law_604 ?_
  refine lv_topi (fun v3 e4 => ?_)
  refine lv_if_eq (tgt := 612) hx hb dL_law_605 (by decide) (fun c5 => ?_) (fun c5 => ?_)
  · skip
    refine lv_iconst (v := 0) hx hb dL_law_612 (by decide) ?_
    obtain ⟨u6, u7, u8, u9, hP, hf⟩ := o_sno (i := 0) (q := o) hM (by omega)
    refine va_calli (va_runV (As := [.int 0]) (rest := []) ⟨hx, hb, hml, hown, hts⟩ (rf_machine l dC dI kA eD b g o 0 (by omega) (Or.inl rfl)) (cwV 1 hts gL_law_X3_machine rfl rfl rfl (by decide +kernel) ⟨Nat.le_of_ble_eq_true rfl, Nat.le_of_ble_eq_true rfl⟩) ⟨fb_CX, va_recv hK hP (ci := 7) (q0 := 0) rfl rfl, fun U hU hW => ⟨rfl, CX.give hb0 hM hK hG hE hS hU hW⟩⟩ rfl rfl hl.1 rfl (lv_room (Nat.le_of_ble_eq_true rfl)) dL_law_613 ⟨(show C + 0 ≤ 960594 by omega), (show S + 0 ≤ 6134452 by omega)⟩) hS (fun q _ h => h) (fun q h => h) (fun r10 g12 t H locs ht hvm hw11 hB hz1 hk1 hS => ?_)
    have hM := hB.back ht
    have hG := hB.2.2.2.1
    have hM1 := hM
    have hG1 := hG
    have hkt := kt_machine hw11
    have ht13 : tg g12 o = 1 := (hkt o (by omega)).trans hto
    have ht14 : tg g12 mo = 17 := (hkt mo (by omega)).trans htm
    have ht15 : tg g12 q = 34 := (hkt q (by omega)).trans htq
    have ht16 : tg g12 q2 = 35 := (hkt q2 (by omega)).trans htq2
    refine lv_aload_n hx hb dL_law_616 rfl (lv_at hl 2 rfl) ?_
    refine lv_aload_n hx hb dL_law_617 rfl (lv_at hl 0 rfl) ?_
    refine lv_iload hx hb dL_law_618 (lv_at hl 5 rfl) ?_
    refine lv_iconst (v := 1) hx hb dL_law_620 (by decide) ?_
    refine lv_iadd hx hb dL_law_621 ?_
    refine lv_topi (fun v17 e18 => ?_)
    obtain rfl : v17 = nI ((6 * k) + 1) := e18.trans (nI_add (6 * k) 1)
    refine va_sld hx hb hX hbl hbA hS (vp_in_nI (by omega) (by omega)) dL_law_622 ?_
    refine lv_topi (fun v19 e20 => ?_)
    obtain rfl : v3 = v19 := e4.trans e20.symm
    refine lv_if_eq (tgt := 630) hx hb dL_law_623 (by decide) (fun _ => ?_) (fun cx => absurd c5 cx)
    refine lv_iconst (v := 0) hx hb dL_law_630 (by decide) ?_
    obtain ⟨u21, u22, hP, hf⟩ := o_mo (i := 0) (q := mo) hM (by omega)
    refine va_calli (va_runV (As := [.int 0]) (rest := [.int r10]) ⟨hx, hb, hml, hown, hts⟩ (rmf_machine l dC dI kA eD b g12 mo 0 (by omega) (Or.inl rfl)) (cwV 1 hts gL_law_X6_machine rfl rfl rfl (by decide +kernel) ⟨Nat.le_of_ble_eq_true rfl, Nat.le_of_ble_eq_true rfl⟩) ⟨fb_CX, va_recv hK hP (ci := 10) (q0 := 0) rfl rfl, fun U hU hW => ⟨rfl, CX.give hb0 hM hK hG hE hS hU hW⟩⟩ rfl rfl hl.1 rfl (lv_room (Nat.le_of_ble_eq_true rfl)) dL_law_631 ⟨(show C + 0 ≤ 960594 by omega), (show S + 0 ≤ 6134452 by omega)⟩) hS (fun q _ h => h) (fun q h => h) (fun r23 g25 t H locs ht hvm hw24 hB hz1 hk1 hS => ?_)
    have hM := hB.back ht
    have hG := hB.2.2.2.1
    have hlx := lx_machine hI hw11 hM1 hG1 hw24 hM hG
    have ht26 : tg g25 o = 1 := hlx.1.2.2.1
    have ht27 : tg g25 mo = 17 := hlx.1.2.2.2.1
    have ht28 : tg g25 q = 34 := hlx.1.2.2.2.2.1
    have ht29 : tg g25 q2 = 35 := hlx.1.2.2.2.2.2.1
    refine lv_icmp_eq (tgt := 1913) hx hb dL_law_634 (by decide) (fun _ => ?_) (fun cx => absurd hlx.2.2 cx)
    exact hnext g25 H _ ls _ _ ⟨hM, hG, hlx.1.2.2⟩ (by have h9 := hlx.2.1 C S k hR; unfold RI at h9 ⊢; omega) hS (lv_sub hl [0, 1, 2, 3, 4, 5] rfl)
  · skip
    refine lv_iconst (v := 1) hx hb dL_law_608 (by decide) ?_
    refine lv_goto (tgt := 613) hx hb dL_law_609 (by decide) ?_
    obtain ⟨u30, u31, u32, u33, hP, hf⟩ := o_sno (i := 0) (q := o) hM (by omega)
    refine va_calli (va_runV (As := [.int 1]) (rest := []) ⟨hx, hb, hml, hown, hts⟩ (rf_machine l dC dI kA eD b g o 1 (by omega) (Or.inr rfl)) (cwV 1 hts gL_law_X3_machine rfl rfl rfl (by decide +kernel) ⟨Nat.le_of_ble_eq_true rfl, Nat.le_of_ble_eq_true rfl⟩) ⟨fb_CX, va_recv hK hP (ci := 7) (q0 := 0) rfl rfl, fun U hU hW => ⟨rfl, CX.give hb0 hM hK hG hE hS hU hW⟩⟩ rfl rfl hl.1 rfl (lv_room (Nat.le_of_ble_eq_true rfl)) dL_law_613 ⟨(show C + 0 ≤ 960594 by omega), (show S + 0 ≤ 6134452 by omega)⟩) hS (fun q _ h => h) (fun q h => h) (fun r34 g36 t H locs ht hvm hw35 hB hz1 hk1 hS => ?_)
    have hM := hB.back ht
    have hG := hB.2.2.2.1
    have hM1 := hM
    have hG1 := hG
    have hkt := kt_machine hw35
    have ht37 : tg g36 o = 1 := (hkt o (by omega)).trans hto
    have ht38 : tg g36 mo = 17 := (hkt mo (by omega)).trans htm
    have ht39 : tg g36 q = 34 := (hkt q (by omega)).trans htq
    have ht40 : tg g36 q2 = 35 := (hkt q2 (by omega)).trans htq2
    refine lv_aload_n hx hb dL_law_616 rfl (lv_at hl 2 rfl) ?_
    refine lv_aload_n hx hb dL_law_617 rfl (lv_at hl 0 rfl) ?_
    refine lv_iload hx hb dL_law_618 (lv_at hl 5 rfl) ?_
    refine lv_iconst (v := 1) hx hb dL_law_620 (by decide) ?_
    refine lv_iadd hx hb dL_law_621 ?_
    refine lv_topi (fun v41 e42 => ?_)
    obtain rfl : v41 = nI ((6 * k) + 1) := e42.trans (nI_add (6 * k) 1)
    refine va_sld hx hb hX hbl hbA hS (vp_in_nI (by omega) (by omega)) dL_law_622 ?_
    refine lv_topi (fun v43 e44 => ?_)
    obtain rfl : v3 = v43 := e4.trans e44.symm
    refine lv_if_eq (tgt := 630) hx hb dL_law_623 (by decide) (fun cx => absurd cx c5) (fun _ => ?_)
    refine lv_iconst (v := 1) hx hb dL_law_626 (by decide) ?_
    refine lv_goto (tgt := 631) hx hb dL_law_627 (by decide) ?_
    obtain ⟨u45, u46, hP, hf⟩ := o_mo (i := 0) (q := mo) hM (by omega)
    refine va_calli (va_runV (As := [.int 1]) (rest := [.int r34]) ⟨hx, hb, hml, hown, hts⟩ (rmf_machine l dC dI kA eD b g36 mo 1 (by omega) (Or.inr rfl)) (cwV 1 hts gL_law_X6_machine rfl rfl rfl (by decide +kernel) ⟨Nat.le_of_ble_eq_true rfl, Nat.le_of_ble_eq_true rfl⟩) ⟨fb_CX, va_recv hK hP (ci := 10) (q0 := 0) rfl rfl, fun U hU hW => ⟨rfl, CX.give hb0 hM hK hG hE hS hU hW⟩⟩ rfl rfl hl.1 rfl (lv_room (Nat.le_of_ble_eq_true rfl)) dL_law_631 ⟨(show C + 0 ≤ 960594 by omega), (show S + 0 ≤ 6134452 by omega)⟩) hS (fun q _ h => h) (fun q h => h) (fun r47 g49 t H locs ht hvm hw48 hB hz1 hk1 hS => ?_)
    have hM := hB.back ht
    have hG := hB.2.2.2.1
    have hlx := lx_machine hI hw35 hM1 hG1 hw48 hM hG
    have ht50 : tg g49 o = 1 := hlx.1.2.2.1
    have ht51 : tg g49 mo = 17 := hlx.1.2.2.2.1
    have ht52 : tg g49 q = 34 := hlx.1.2.2.2.2.1
    have ht53 : tg g49 q2 = 35 := hlx.1.2.2.2.2.2.1
    refine lv_icmp_eq (tgt := 1913) hx hb dL_law_634 (by decide) (fun _ => ?_) (fun cx => absurd hlx.2.2 cx)
    exact hnext g49 H _ ls _ _ ⟨hM, hG, hlx.1.2.2⟩ (by have h9 := hlx.2.1 C S k hR; unfold RI at h9 ⊢; omega) hS (lv_sub hl [0, 1, 2, 3, 4, 5] rfl)

set_option maxHeartbeats 4000000 in
set_option maxRecDepth 100000 in
/-- the law: a call of snow -/
theorem case_12 {p : Program} {l : Launch} {e : Env} {s : State} {m : MethodId} {below : List Frame} {meth : Method} {c : Code} (hlt : l.stackTraces = false) {b0 L : Nat} {xs : Nat → Int32} (C0 : lw_At p s m meth c b0 L xs) (hL : L ≤ 3072) (dC : Nat → ClassId) (dI : Nat → Nat → Nat) (kA : Nat → ClassId) (eD b o mo q q2 k : Nat) (hb9 : b = s.heap.size) (hb0 : b ≤ s.heap.size) (hk : 6 * k + 6 ≤ L) (hK : va_K (dC, dI) vwCl (TYS kA) s) (hE : EX eD b s) (hnext : ∀ (g : Gh) (H : Heap) (locs : List Loc) (ls : Array Slot) (C S : Nat), LI (dC, dI) kA b eD o mo q q2 g H → RI g mo C S (k + 1) → va_S (fun q => b ≤ q) s.heap H locs → lv_has ls 9 [(0, .ref b0), (1, .ref o), (2, .ref mo), (3, .ref q), (4, .ref q2), (5, .int (nI (6 * k)))] → W p l e room_1 s m #[Value.ref b0] below meth c H locs C S (lw_Z below #[Value.ref b0] s) (F0 m 1913 ls [])) {g : Gh} {H : Heap} {locs : List Loc} {ls : Array Slot} {C S : Nat} (hI : LI (dC, dI) kA b eD o mo q q2 g H) (hR : RI g mo C S k) (hS : va_S (fun q => b ≤ q) s.heap H locs) (hl : lv_has ls 9 [(0, .ref b0), (1, .ref o), (2, .ref mo), (3, .ref q), (4, .ref q2), (5, .int (nI (6 * k)))]) : W p l e room_1 s m #[Value.ref b0] below meth c H locs C S (lw_Z below #[Value.ref b0] s) (F0 m 639 ls []) := by
  obtain ⟨hx, hb, hr, hml, hown, hts0, hX, hbl, hlocks, hgv⟩ := id C0
  have hts : ∀ w ∈ wzL_law, w.before #[Value.ref b0] s = true := fun w h => hts0 w (wzL_law_in w h)
  have hbA : ¬ (fun q : Nat => b ≤ q) b0 := by show ¬ b ≤ b0; omega
  have hT := hE.1
  have hN := hE.2.2.2.2.2.2.2.1
  obtain ⟨hM, hG, hto, htm, htq, htq2, -, hed⟩ := id hI
  have hRC : C ≤ 430000 := by have h9 := hR; unfold RI at h9; omega
  have hRS : S ≤ 3400000 := by have h9 := hR; unfold RI at h9; omega
  refine lv_aload_n hx hb dL_law_639 rfl (lv_at hl 1 rfl) ?_
  obtain ⟨u1, u2, u3, u4, hP, hf⟩ := o_sno (i := 0) (q := o) hM (by omega)
  refine va_calli (va_runV (As := []) (rest := []) ⟨hx, hb, hml, hown, hts⟩ (rf_snow l dC dI kA eD b g o  (by omega)) (cwV 0 hts gL_law_X3_snow rfl rfl rfl (by decide +kernel) ⟨Nat.le_of_ble_eq_true rfl, Nat.le_of_ble_eq_true rfl⟩) ⟨fb_CX, va_recv hK hP (ci := 7) (q0 := 0) rfl rfl, fun U hU hW => ⟨rfl, CX.give hb0 hM hK hG hE hS hU hW⟩⟩ rfl rfl hl.1 rfl (lv_room (Nat.le_of_ble_eq_true rfl)) dL_law_640 ⟨(show C + 0 ≤ 960594 by omega), (show S + 0 ≤ 6134452 by omega)⟩) hS (fun q _ h => h) (fun q h => h) (fun r5 u t H locs ht hvm hw6 hB hz1 hk1 hS => ?_)
  have hM := hB.back ht
  have hG := hB.2.2.2.1
  have hM1 := hM
  have hG1 := hG
  have hu1 : g = g := rfl
  refine lv_pop hx hb dL_law_643 rfl ?_
  refine lv_aload_n hx hb dL_law_644 rfl (lv_at hl 2 rfl) ?_
  obtain ⟨u7, u8, hP, hf⟩ := o_mo (i := 0) (q := mo) hM (by omega)
  refine va_calli (va_runV (As := []) (rest := []) ⟨hx, hb, hml, hown, hts⟩ (rmf_snow l dC dI kA eD b g mo  (by omega)) (cwV 0 hts gL_law_X6_snow rfl rfl rfl (by decide +kernel) ⟨Nat.le_of_ble_eq_true rfl, Nat.le_of_ble_eq_true rfl⟩) ⟨fb_CX, va_recv hK hP (ci := 10) (q0 := 0) rfl rfl, fun U hU hW => ⟨rfl, CX.give hb0 hM hK hG hE hS hU hW⟩⟩ rfl rfl hl.1 rfl (lv_room (Nat.le_of_ble_eq_true rfl)) dL_law_645 ⟨(show C + 0 ≤ 960594 by omega), (show S + 0 ≤ 6134452 by omega)⟩) hS (fun q _ h => h) (fun q h => h) (fun r9 g11 t H locs ht hvm hw10 hB hz1 hk1 hS => ?_)
  have hM := hB.back ht
  have hG := hB.2.2.2.1
  have hlx := lx_N hI (Or.inr hu1) hM1 hG1 hw10 hM hG
  have ht12 : tg g11 o = 1 := hlx.1.2.2.1
  have ht13 : tg g11 mo = 17 := hlx.1.2.2.2.1
  have ht14 : tg g11 q = 34 := hlx.1.2.2.2.2.1
  have ht15 : tg g11 q2 = 35 := hlx.1.2.2.2.2.2.1
  refine lv_pop hx hb dL_law_648 rfl ?_
  refine lv_goto (tgt := 1913) hx hb dL_law_649 (by decide) ?_
  exact hnext g11 H _ ls _ _ ⟨hM, hG, hlx.1.2.2⟩ (by have h9 := hlx.2 C S k hR; unfold RI at h9 ⊢; omega) hS (lv_sub hl [0, 1, 2, 3, 4, 5] rfl)

set_option maxHeartbeats 4000000 in
set_option maxRecDepth 100000 in
/-- the law: a call of site -/
theorem case_13 {p : Program} {l : Launch} {e : Env} {s : State} {m : MethodId} {below : List Frame} {meth : Method} {c : Code} (hlt : l.stackTraces = false) {b0 L : Nat} {xs : Nat → Int32} (C0 : lw_At p s m meth c b0 L xs) (hL : L ≤ 3072) (dC : Nat → ClassId) (dI : Nat → Nat → Nat) (kA : Nat → ClassId) (eD b o mo q q2 k : Nat) (hb9 : b = s.heap.size) (hb0 : b ≤ s.heap.size) (hk : 6 * k + 6 ≤ L) (hK : va_K (dC, dI) vwCl (TYS kA) s) (hE : EX eD b s) (hnext : ∀ (g : Gh) (H : Heap) (locs : List Loc) (ls : Array Slot) (C S : Nat), LI (dC, dI) kA b eD o mo q q2 g H → RI g mo C S (k + 1) → va_S (fun q => b ≤ q) s.heap H locs → lv_has ls 9 [(0, .ref b0), (1, .ref o), (2, .ref mo), (3, .ref q), (4, .ref q2), (5, .int (nI (6 * k)))] → W p l e room_1 s m #[Value.ref b0] below meth c H locs C S (lw_Z below #[Value.ref b0] s) (F0 m 1913 ls [])) {g : Gh} {H : Heap} {locs : List Loc} {ls : Array Slot} {C S : Nat} (hI : LI (dC, dI) kA b eD o mo q q2 g H) (hR : RI g mo C S k) (hS : va_S (fun q => b ≤ q) s.heap H locs) (hl : lv_has ls 9 [(0, .ref b0), (1, .ref o), (2, .ref mo), (3, .ref q), (4, .ref q2), (5, .int (nI (6 * k)))]) : W p l e room_1 s m #[Value.ref b0] below meth c H locs C S (lw_Z below #[Value.ref b0] s) (F0 m 652 ls []) := by
  obtain ⟨hx, hb, hr, hml, hown, hts0, hX, hbl, hlocks, hgv⟩ := id C0
  have hts : ∀ w ∈ wzL_law, w.before #[Value.ref b0] s = true := fun w h => hts0 w (wzL_law_in w h)
  have hbA : ¬ (fun q : Nat => b ≤ q) b0 := by show ¬ b ≤ b0; omega
  have hT := hE.1
  have hN := hE.2.2.2.2.2.2.2.1
  obtain ⟨hM, hG, hto, htm, htq, htq2, -, hed⟩ := id hI
  have hRC : C ≤ 430000 := by have h9 := hR; unfold RI at h9; omega
  have hRS : S ≤ 3400000 := by have h9 := hR; unfold RI at h9; omega
  refine lv_aload_n hx hb dL_law_652 rfl (lv_at hl 1 rfl) ?_
  refine lv_aload_n hx hb dL_law_653 rfl (lv_at hl 3 rfl) ?_
  refine va_calli (vx_runSW (As := [.ref o, .ref q]) (rest := []) ⟨hx, hb, hml, hown, hts⟩ (rh_site l hlt dC dI kA eD b g o q  mo (by omega) (by omega) (by omega)) (vx_cwSW 2 hts gL_law_L_site rfl rfl rfl (by decide +kernel) ⟨Nat.le_of_ble_eq_true rfl, Nat.le_of_ble_eq_true rfl⟩) ⟨fb_CX, fun U hU hW => ⟨rfl, CX.give hb0 hM hK hG hE hS hU hW⟩⟩ rfl rfl hl.1 rfl (lv_room (Nat.le_of_ble_eq_true rfl)) dL_law_654 ⟨(show C + 9 ≤ 960594 by omega), (show S + 399 ≤ 6134452 by omega)⟩) hS (fun q _ h => h) (fun q h => h) (fun r1 g3 t H locs ht hvm hw2 hB hz1 hk1 hS => ?_)
  have hM := hB.back ht
  have hG := hB.2.2.2.1
  have hM1 := hM
  have hG1 := hG
  have hkt := kt_site hw2
  have ht4 : tg g3 o = 1 := (hkt o (by omega)).trans hto
  have ht5 : tg g3 mo = 17 := (hkt mo (by omega)).trans htm
  have ht6 : tg g3 q = 34 := (hkt q (by omega)).trans htq
  have ht7 : tg g3 q2 = 35 := (hkt q2 (by omega)).trans htq2
  refine lv_istore (lv' := [(6, .int r1), (0, .ref b0), (1, .ref o), (2, .ref mo), (3, .ref q), (4, .ref q2), (5, .int (nI (6 * k)))]) hx hb dL_law_657 hl (by decide) rfl (fun ls hl => ?_)
  refine lv_aload_n hx hb dL_law_659 rfl (lv_at hl 3 rfl) ?_
  obtain ⟨u8, u9, hP, hf⟩ := o_mo (i := 0) (q := mo) hM (by omega)
  have hed1 : pF g3 (pF g3 mo 5) 1 = eD := ed_site hI hw2
  refine va_calli (va_runV (As := []) (rest := []) ⟨hx, hb, hml, hown, hts⟩ (rmf_site l dC dI kA eD b g3 mo (by omega) hed1) (cwV 0 hts gL_law_X6_site rfl rfl rfl (by decide +kernel) ⟨Nat.le_of_ble_eq_true rfl, Nat.le_of_ble_eq_true rfl⟩) ⟨fb_CX, va_recv hK hP (ci := 10) (q0 := 0) rfl rfl, fun U hU hW => ⟨rfl, CX.give hb0 hM hK hG hE hS hU hW⟩⟩ rfl rfl hl.1 rfl (lv_room (Nat.le_of_ble_eq_true rfl)) dL_law_660 ⟨(show C + 9 + 16 ≤ 960594 by omega), (show S + 399 + 128 ≤ 6134452 by omega)⟩) hS (fun q _ h => h) (fun q h => h) (fun r10 g12 t H locs ht hvm hw11 hB hz1 hk1 hS => ?_)
  have hM := hB.back ht
  have hG := hB.2.2.2.1
  have hlx := lx_site hI hw2 hM1 hG1 hw11 hM hG
  have ht13 : tg g12 o = 1 := hlx.1.2.2.1
  have ht14 : tg g12 mo = 17 := hlx.1.2.2.2.1
  have ht15 : tg g12 q = 34 := hlx.1.2.2.2.2.1
  have ht16 : tg g12 q2 = 35 := hlx.1.2.2.2.2.2.1
  refine lv_istore (lv' := [(7, .int r10), (6, .int r1), (0, .ref b0), (1, .ref o), (2, .ref mo), (3, .ref q), (4, .ref q2), (5, .int (nI (6 * k)))]) hx hb dL_law_663 hl (by decide) rfl (fun ls hl => ?_)
  refine lv_goto (tgt := 1913) hx hb dL_law_665 (by decide) ?_
  exact hnext g12 H _ ls _ _ ⟨hM, hG, hlx.1.2.2⟩ (by have h9 := hlx.2.1 C S k hR; unfold RI at h9 ⊢; omega) hS (lv_sub hl [2, 3, 4, 5, 6, 7] rfl)

set_option maxHeartbeats 4000000 in
set_option maxRecDepth 100000 in
/-- the law: a call of put -/
theorem case_14 {p : Program} {l : Launch} {e : Env} {s : State} {m : MethodId} {below : List Frame} {meth : Method} {c : Code} (hlt : l.stackTraces = false) {b0 L : Nat} {xs : Nat → Int32} (C0 : lw_At p s m meth c b0 L xs) (hL : L ≤ 3072) (dC : Nat → ClassId) (dI : Nat → Nat → Nat) (kA : Nat → ClassId) (eD b o mo q q2 k : Nat) (hb9 : b = s.heap.size) (hb0 : b ≤ s.heap.size) (hk : 6 * k + 6 ≤ L) (hK : va_K (dC, dI) vwCl (TYS kA) s) (hE : EX eD b s) (hnext : ∀ (g : Gh) (H : Heap) (locs : List Loc) (ls : Array Slot) (C S : Nat), LI (dC, dI) kA b eD o mo q q2 g H → RI g mo C S (k + 1) → va_S (fun q => b ≤ q) s.heap H locs → lv_has ls 9 [(0, .ref b0), (1, .ref o), (2, .ref mo), (3, .ref q), (4, .ref q2), (5, .int (nI (6 * k)))] → W p l e room_1 s m #[Value.ref b0] below meth c H locs C S (lw_Z below #[Value.ref b0] s) (F0 m 1913 ls [])) {g : Gh} {H : Heap} {locs : List Loc} {ls : Array Slot} {C S : Nat} (hI : LI (dC, dI) kA b eD o mo q q2 g H) (hR : RI g mo C S k) (hS : va_S (fun q => b ≤ q) s.heap H locs) (hl : lv_has ls 9 [(0, .ref b0), (1, .ref o), (2, .ref mo), (3, .ref q), (4, .ref q2), (5, .int (nI (6 * k)))]) : W p l e room_1 s m #[Value.ref b0] below meth c H locs C S (lw_Z below #[Value.ref b0] s) (F0 m 668 ls []) := by
  obtain ⟨hx, hb, hr, hml, hown, hts0, hX, hbl, hlocks, hgv⟩ := id C0
  have hts : ∀ w ∈ wzL_law, w.before #[Value.ref b0] s = true := fun w h => hts0 w (wzL_law_in w h)
  have hbA : ¬ (fun q : Nat => b ≤ q) b0 := by show ¬ b ≤ b0; omega
  have hT := hE.1
  have hN := hE.2.2.2.2.2.2.2.1
  obtain ⟨hM, hG, hto, htm, htq, htq2, -, hed⟩ := id hI
  have hRC : C ≤ 430000 := by have h9 := hR; unfold RI at h9; omega
  have hRS : S ≤ 3400000 := by have h9 := hR; unfold RI at h9; omega
  refine lv_aload_n hx hb dL_law_668 rfl (lv_at hl 1 rfl) ?_
  refine lv_aload_n hx hb dL_law_669 rfl (lv_at hl 0 rfl) ?_
  refine lv_iload hx hb dL_law_670 (lv_at hl 5 rfl) ?_
  refine lv_iconst (v := 1) hx hb dL_law_672 (by decide) ?_
  refine lv_iadd hx hb dL_law_673 ?_
  refine lv_topi (fun v1 e2 => ?_)
  obtain rfl : v1 = nI ((6 * k) + 1) := e2.trans (nI_add (6 * k) 1)
  refine va_sld hx hb hX hbl hbA hS (vp_in_nI (by omega) (by omega)) dL_law_674 ?_
  refine lv_topi (fun v3 e4 => ?_)
  refine lv_aload_n hx hb dL_law_675 rfl (lv_at hl 0 rfl) ?_
  refine lv_iload hx hb dL_law_676 (lv_at hl 5 rfl) ?_
  refine lv_iconst (v := 2) hx hb dL_law_678 (by decide) ?_
  refine lv_iadd hx hb dL_law_679 ?_
  refine lv_topi (fun v5 e6 => ?_)
  obtain rfl : v5 = nI ((6 * k) + 2) := e6.trans (nI_add (6 * k) 2)
  refine va_sld hx hb hX hbl hbA hS (vp_in_nI (by omega) (by omega)) dL_law_680 ?_
  refine lv_topi (fun v7 e8 => ?_)
  refine lv_aload_n hx hb dL_law_681 rfl (lv_at hl 0 rfl) ?_
  refine lv_iload hx hb dL_law_682 (lv_at hl 5 rfl) ?_
  refine lv_iconst (v := 3) hx hb dL_law_684 (by decide) ?_
  refine lv_iadd hx hb dL_law_685 ?_
  refine lv_topi (fun v9 e10 => ?_)
  obtain rfl : v9 = nI ((6 * k) + 3) := e10.trans (nI_add (6 * k) 3)
  refine va_sld hx hb hX hbl hbA hS (vp_in_nI (by omega) (by omega)) dL_law_686 ?_
  refine lv_topi (fun v11 e12 => ?_)
  refine lv_aload_n hx hb dL_law_687 rfl (lv_at hl 0 rfl) ?_
  refine lv_iload hx hb dL_law_688 (lv_at hl 5 rfl) ?_
  refine lv_iconst (v := 4) hx hb dL_law_690 (by decide) ?_
  refine lv_iadd hx hb dL_law_691 ?_
  refine lv_topi (fun v13 e14 => ?_)
  obtain rfl : v13 = nI ((6 * k) + 4) := e14.trans (nI_add (6 * k) 4)
  refine va_sld hx hb hX hbl hbA hS (vp_in_nI (by omega) (by omega)) dL_law_692 ?_
  refine lv_topi (fun v15 e16 => ?_)
  refine lv_i2c hx hb dL_law_693 rfl ?_
  refine lv_aload_n hx hb dL_law_694 rfl (lv_at hl 3 rfl) ?_
  refine va_calli (vx_runSW (As := [.ref o, .int v3, .int v7, .int v11, .int ((v15.toUInt32 % 65536).toInt32), .ref q]) (rest := []) ⟨hx, hb, hml, hown, hts⟩ (rh_put l hlt dC dI kA eD b g o q v3 v7 v11 ((v15.toUInt32 % 65536).toInt32) (by omega) (by omega)) (vx_cwSW 6 hts gL_law_L_put rfl rfl rfl (by decide +kernel) ⟨Nat.le_of_ble_eq_true rfl, Nat.le_of_ble_eq_true rfl⟩) ⟨fb_CX, fun U hU hW => ⟨rfl, CX.give hb0 hM hK hG hE hS hU hW⟩⟩ rfl rfl hl.1 rfl (lv_room (Nat.le_of_ble_eq_true rfl)) dL_law_695 ⟨(show C + 1 ≤ 960594 by omega), (show S + 6 ≤ 6134452 by omega)⟩) hS (fun q _ h => h) (fun q h => h) (fun r17 g19 t H locs ht hvm hw18 hB hz1 hk1 hS => ?_)
  have hM := hB.back ht
  have hG := hB.2.2.2.1
  have hM1 := hM
  have hG1 := hG
  have hkt : ∀ a : Nat, tg g a ≠ 0 → tg g19 a = tg g a := fun a _ => by obtain ⟨f9, h9⟩ := hw18; rw [h9]; rfl
  have ht20 : tg g19 o = 1 := (hkt o (by omega)).trans hto
  have ht21 : tg g19 mo = 17 := (hkt mo (by omega)).trans htm
  have ht22 : tg g19 q = 34 := (hkt q (by omega)).trans htq
  have ht23 : tg g19 q2 = 35 := (hkt q2 (by omega)).trans htq2
  refine lv_istore (lv' := [(6, .int r17), (0, .ref b0), (1, .ref o), (2, .ref mo), (3, .ref q), (4, .ref q2), (5, .int (nI (6 * k)))]) hx hb dL_law_698 hl (by decide) rfl (fun ls hl => ?_)
  refine lv_aload_n hx hb dL_law_700 rfl (lv_at hl 3 rfl) ?_
  refine lv_aload_n hx hb dL_law_701 rfl (lv_at hl 1 rfl) ?_
  refine lv_iload hx hb dL_law_702 (lv_at hl 6 rfl) ?_
  refine lv_iconst (v := 1) hx hb dL_law_704 (by decide) ?_
  refine lv_iadd hx hb dL_law_705 ?_
  refine lv_topi (fun v24 e25 => ?_)
  obtain rfl : v24 = nI ((6 * k) + 1) := e25.trans (nI_add (6 * k) 1)
  refine va_sld hx hb hX hbl hbA hS (vp_in_nI (by omega) (by omega)) dL_law_706 ?_
  refine lv_topi (fun v26 e27 => ?_)
  obtain rfl : v3 = v26 := e4.trans e27.symm
  refine lv_aload_n hx hb dL_law_707 rfl (lv_at hl 1 rfl) ?_
  refine lv_iload hx hb dL_law_708 (lv_at hl 6 rfl) ?_
  refine lv_iconst (v := 2) hx hb dL_law_710 (by decide) ?_
  refine lv_iadd hx hb dL_law_711 ?_
  refine lv_topi (fun v28 e29 => ?_)
  obtain rfl : v28 = nI ((6 * k) + 2) := e29.trans (nI_add (6 * k) 2)
  refine va_sld hx hb hX hbl hbA hS (vp_in_nI (by omega) (by omega)) dL_law_712 ?_
  refine lv_topi (fun v30 e31 => ?_)
  obtain rfl : v7 = v30 := e8.trans e31.symm
  refine lv_aload_n hx hb dL_law_713 rfl (lv_at hl 1 rfl) ?_
  refine lv_iload hx hb dL_law_714 (lv_at hl 6 rfl) ?_
  refine lv_iconst (v := 3) hx hb dL_law_716 (by decide) ?_
  refine lv_iadd hx hb dL_law_717 ?_
  refine lv_topi (fun v32 e33 => ?_)
  obtain rfl : v32 = nI ((6 * k) + 3) := e33.trans (nI_add (6 * k) 3)
  refine va_sld hx hb hX hbl hbA hS (vp_in_nI (by omega) (by omega)) dL_law_718 ?_
  refine lv_topi (fun v34 e35 => ?_)
  obtain rfl : v11 = v34 := e12.trans e35.symm
  refine lv_aload_n hx hb dL_law_719 rfl (lv_at hl 1 rfl) ?_
  refine lv_iload hx hb dL_law_720 (lv_at hl 6 rfl) ?_
  refine lv_iconst (v := 4) hx hb dL_law_722 (by decide) ?_
  refine lv_iadd hx hb dL_law_723 ?_
  refine lv_topi (fun v36 e37 => ?_)
  obtain rfl : v36 = nI ((6 * k) + 4) := e37.trans (nI_add (6 * k) 4)
  refine va_sld hx hb hX hbl hbA hS (vp_in_nI (by omega) (by omega)) dL_law_724 ?_
  refine lv_topi (fun v38 e39 => ?_)
  obtain rfl : v15 = v38 := e16.trans e39.symm
  refine lv_i2c hx hb dL_law_725 rfl ?_
  obtain ⟨u40, u41, hP, hf⟩ := o_mo (i := 0) (q := mo) hM (by omega)
  refine W.know (fun hkn1 hkn2 => ?_)
  refine va_calli (va_runV (As := [.int v3, .int v7, .int v11, .int ((v15.toUInt32 % 65536).toInt32)]) (rest := []) ⟨hx, hb, hml, hown, hts⟩ (rmf_put l dC dI kA eD b g19 H.size (SH H) mo v3 v7 v11 ((v15.toUInt32 % 65536).toInt32) (by omega) (narCU v15)) (cwV 4 hts gL_law_X6_put rfl rfl rfl (by decide +kernel) ⟨Nat.le_of_ble_eq_true rfl, Nat.le_of_ble_eq_true rfl⟩) ⟨fb_CXs, va_recv hK hP (ci := 10) (q0 := 0) rfl rfl, fun U hU hW => ⟨rfl, CXs.give hb0 hM hK hG hE hS hU hW⟩⟩ rfl rfl hl.1 rfl (lv_room (Nat.le_of_ble_eq_true rfl)) dL_law_726 ⟨(show C + 1 + 730 ≤ 960594 by omega), (show S + 6 + 5600 ≤ 6134452 by omega)⟩) hS (fun q _ h => h) (fun q h => h) (fun r42 g44 t H locs ht hvm hw43 hB hz1 hk1 hS => ?_)
  have hM := hB.1.back ht
  have hG := hB.1.2.2.2.1
  obtain ⟨g44, d9⟩ := g44
  have hgr := hB.2
  rw [ht] at hgr
  have hgr1 : H.size ≤ _ + (20 + 14 * (1 + d9)) := hgr.1
  have hgr2 : SH H ≤ _ + (120 + 108 * (1 + d9)) := hgr.2
  refine W.shrink (k := C + 1 + 14 * d9 + 40) (n := S + 6 + 108 * d9 + 240) (by omega) (by omega) ?_
  have hlx := lx_G (u2 := g44) (d9 := d9) hI (Or.inl hw18) hM1 hG1 hw43 hM hG
  have ht45 : tg g44 o = 1 := hlx.1.2.2.1
  have ht46 : tg g44 mo = 17 := hlx.1.2.2.2.1
  have ht47 : tg g44 q = 34 := hlx.1.2.2.2.2.1
  have ht48 : tg g44 q2 = 35 := hlx.1.2.2.2.2.2.1
  refine lv_istore (lv' := [(7, .int r42), (6, .int r17), (0, .ref b0), (1, .ref o), (2, .ref mo), (3, .ref q), (4, .ref q2), (5, .int (nI (6 * k)))]) hx hb dL_law_729 hl (by decide) rfl (fun ls hl => ?_)
  refine lv_goto (tgt := 1913) hx hb dL_law_731 (by decide) ?_
  exact hnext g44 H _ ls _ _ ⟨hM, hG, hlx.1.2.2⟩ (hlx.2 C S k _ _ hR (by omega) (by omega)) hS (lv_sub hl [2, 3, 4, 5, 6, 7] rfl)

set_option maxHeartbeats 4000000 in
set_option maxRecDepth 100000 in
/-- the law: a call of at -/
theorem case_15 {p : Program} {l : Launch} {e : Env} {s : State} {m : MethodId} {below : List Frame} {meth : Method} {c : Code} (hlt : l.stackTraces = false) {b0 L : Nat} {xs : Nat → Int32} (C0 : lw_At p s m meth c b0 L xs) (hL : L ≤ 3072) (dC : Nat → ClassId) (dI : Nat → Nat → Nat) (kA : Nat → ClassId) (eD b o mo q q2 k : Nat) (hb9 : b = s.heap.size) (hb0 : b ≤ s.heap.size) (hk : 6 * k + 6 ≤ L) (hK : va_K (dC, dI) vwCl (TYS kA) s) (hE : EX eD b s) (hnext : ∀ (g : Gh) (H : Heap) (locs : List Loc) (ls : Array Slot) (C S : Nat), LI (dC, dI) kA b eD o mo q q2 g H → RI g mo C S (k + 1) → va_S (fun q => b ≤ q) s.heap H locs → lv_has ls 9 [(0, .ref b0), (1, .ref o), (2, .ref mo), (3, .ref q), (4, .ref q2), (5, .int (nI (6 * k)))] → W p l e room_1 s m #[Value.ref b0] below meth c H locs C S (lw_Z below #[Value.ref b0] s) (F0 m 1913 ls [])) {g : Gh} {H : Heap} {locs : List Loc} {ls : Array Slot} {C S : Nat} (hI : LI (dC, dI) kA b eD o mo q q2 g H) (hR : RI g mo C S k) (hS : va_S (fun q => b ≤ q) s.heap H locs) (hl : lv_has ls 9 [(0, .ref b0), (1, .ref o), (2, .ref mo), (3, .ref q), (4, .ref q2), (5, .int (nI (6 * k)))]) : W p l e room_1 s m #[Value.ref b0] below meth c H locs C S (lw_Z below #[Value.ref b0] s) (F0 m 734 ls []) := by
  obtain ⟨hx, hb, hr, hml, hown, hts0, hX, hbl, hlocks, hgv⟩ := id C0
  have hts : ∀ w ∈ wzL_law, w.before #[Value.ref b0] s = true := fun w h => hts0 w (wzL_law_in w h)
  have hbA : ¬ (fun q : Nat => b ≤ q) b0 := by show ¬ b ≤ b0; omega
  have hT := hE.1
  have hN := hE.2.2.2.2.2.2.2.1
  obtain ⟨hM, hG, hto, htm, htq, htq2, -, hed⟩ := id hI
  have hRC : C ≤ 430000 := by have h9 := hR; unfold RI at h9; omega
  have hRS : S ≤ 3400000 := by have h9 := hR; unfold RI at h9; omega
  refine lv_aload_n hx hb dL_law_734 rfl (lv_at hl 1 rfl) ?_
  refine lv_aload_n hx hb dL_law_735 rfl (lv_at hl 0 rfl) ?_
  refine lv_iload hx hb dL_law_736 (lv_at hl 5 rfl) ?_
  refine lv_iconst (v := 1) hx hb dL_law_738 (by decide) ?_
  refine lv_iadd hx hb dL_law_739 ?_
  refine lv_topi (fun v1 e2 => ?_)
  obtain rfl : v1 = nI ((6 * k) + 1) := e2.trans (nI_add (6 * k) 1)
  refine va_sld hx hb hX hbl hbA hS (vp_in_nI (by omega) (by omega)) dL_law_740 ?_
  refine lv_topi (fun v3 e4 => ?_)
  refine lv_aload_n hx hb dL_law_741 rfl (lv_at hl 0 rfl) ?_
  refine lv_iload hx hb dL_law_742 (lv_at hl 5 rfl) ?_
  refine lv_iconst (v := 2) hx hb dL_law_744 (by decide) ?_
  refine lv_iadd hx hb dL_law_745 ?_
  refine lv_topi (fun v5 e6 => ?_)
  obtain rfl : v5 = nI ((6 * k) + 2) := e6.trans (nI_add (6 * k) 2)
  refine va_sld hx hb hX hbl hbA hS (vp_in_nI (by omega) (by omega)) dL_law_746 ?_
  refine lv_topi (fun v7 e8 => ?_)
  refine lv_aload_n hx hb dL_law_747 rfl (lv_at hl 0 rfl) ?_
  refine lv_iload hx hb dL_law_748 (lv_at hl 5 rfl) ?_
  refine lv_iconst (v := 3) hx hb dL_law_750 (by decide) ?_
  refine lv_iadd hx hb dL_law_751 ?_
  refine lv_topi (fun v9 e10 => ?_)
  obtain rfl : v9 = nI ((6 * k) + 3) := e10.trans (nI_add (6 * k) 3)
  refine va_sld hx hb hX hbl hbA hS (vp_in_nI (by omega) (by omega)) dL_law_752 ?_
  refine lv_topi (fun v11 e12 => ?_)
  refine lv_aload_n hx hb dL_law_753 rfl (lv_at hl 3 rfl) ?_
  refine va_calli (vx_runSW (As := [.ref o, .int v3, .int v7, .int v11, .ref q]) (rest := []) ⟨hx, hb, hml, hown, hts⟩ (rh_at l hlt dC dI kA eD b g o q v3 v7 v11 (by omega) (by omega)) (vx_cwSW 5 hts gL_law_L_at rfl rfl rfl (by decide +kernel) ⟨Nat.le_of_ble_eq_true rfl, Nat.le_of_ble_eq_true rfl⟩) ⟨fb_CX, fun U hU hW => ⟨rfl, CX.give hb0 hM hK hG hE hS hU hW⟩⟩ rfl rfl hl.1 rfl (lv_room (Nat.le_of_ble_eq_true rfl)) dL_law_754 ⟨(show C + 1 ≤ 960594 by omega), (show S + 6 ≤ 6134452 by omega)⟩) hS (fun q _ h => h) (fun q h => h) (fun r13 g15 t H locs ht hvm hw14 hB hz1 hk1 hS => ?_)
  have hM := hB.back ht
  have hG := hB.2.2.2.1
  have hM1 := hM
  have hG1 := hG
  have hkt : ∀ a : Nat, tg g a ≠ 0 → tg g15 a = tg g a := fun a _ => by obtain ⟨f9, h9⟩ := hw14; rw [h9]; rfl
  have ht16 : tg g15 o = 1 := (hkt o (by omega)).trans hto
  have ht17 : tg g15 mo = 17 := (hkt mo (by omega)).trans htm
  have ht18 : tg g15 q = 34 := (hkt q (by omega)).trans htq
  have ht19 : tg g15 q2 = 35 := (hkt q2 (by omega)).trans htq2
  refine lv_istore (lv' := [(6, .int r13), (0, .ref b0), (1, .ref o), (2, .ref mo), (3, .ref q), (4, .ref q2), (5, .int (nI (6 * k)))]) hx hb dL_law_757 hl (by decide) rfl (fun ls hl => ?_)
  refine lv_aload_n hx hb dL_law_759 rfl (lv_at hl 3 rfl) ?_
  refine lv_aload_n hx hb dL_law_760 rfl (lv_at hl 1 rfl) ?_
  refine lv_iload hx hb dL_law_761 (lv_at hl 6 rfl) ?_
  refine lv_iconst (v := 1) hx hb dL_law_763 (by decide) ?_
  refine lv_iadd hx hb dL_law_764 ?_
  refine lv_topi (fun v20 e21 => ?_)
  obtain rfl : v20 = nI ((6 * k) + 1) := e21.trans (nI_add (6 * k) 1)
  refine va_sld hx hb hX hbl hbA hS (vp_in_nI (by omega) (by omega)) dL_law_765 ?_
  refine lv_topi (fun v22 e23 => ?_)
  obtain rfl : v3 = v22 := e4.trans e23.symm
  refine lv_aload_n hx hb dL_law_766 rfl (lv_at hl 1 rfl) ?_
  refine lv_iload hx hb dL_law_767 (lv_at hl 6 rfl) ?_
  refine lv_iconst (v := 2) hx hb dL_law_769 (by decide) ?_
  refine lv_iadd hx hb dL_law_770 ?_
  refine lv_topi (fun v24 e25 => ?_)
  obtain rfl : v24 = nI ((6 * k) + 2) := e25.trans (nI_add (6 * k) 2)
  refine va_sld hx hb hX hbl hbA hS (vp_in_nI (by omega) (by omega)) dL_law_771 ?_
  refine lv_topi (fun v26 e27 => ?_)
  obtain rfl : v7 = v26 := e8.trans e27.symm
  refine lv_aload_n hx hb dL_law_772 rfl (lv_at hl 1 rfl) ?_
  refine lv_iload hx hb dL_law_773 (lv_at hl 6 rfl) ?_
  refine lv_iconst (v := 3) hx hb dL_law_775 (by decide) ?_
  refine lv_iadd hx hb dL_law_776 ?_
  refine lv_topi (fun v28 e29 => ?_)
  obtain rfl : v28 = nI ((6 * k) + 3) := e29.trans (nI_add (6 * k) 3)
  refine va_sld hx hb hX hbl hbA hS (vp_in_nI (by omega) (by omega)) dL_law_777 ?_
  refine lv_topi (fun v30 e31 => ?_)
  obtain rfl : v11 = v30 := e12.trans e31.symm
  obtain ⟨u32, u33, hP, hf⟩ := o_mo (i := 0) (q := mo) hM (by omega)
  refine va_calli (va_runV (As := [.int v3, .int v7, .int v11]) (rest := []) ⟨hx, hb, hml, hown, hts⟩ (rmf_at l dC dI kA eD b g15 mo v3 v7 v11 (by omega)) (cwV 3 hts gL_law_X6_at rfl rfl rfl (by decide +kernel) ⟨Nat.le_of_ble_eq_true rfl, Nat.le_of_ble_eq_true rfl⟩) ⟨fb_CX, va_recv hK hP (ci := 10) (q0 := 0) rfl rfl, fun U hU hW => ⟨rfl, CX.give hb0 hM hK hG hE hS hU hW⟩⟩ rfl rfl hl.1 rfl (lv_room (Nat.le_of_ble_eq_true rfl)) dL_law_778 ⟨(show C + 1 + 0 ≤ 960594 by omega), (show S + 6 + 0 ≤ 6134452 by omega)⟩) hS (fun q _ h => h) (fun q h => h) (fun r34 g36 t H locs ht hvm hw35 hB hz1 hk1 hS => ?_)
  have hM := hB.back ht
  have hG := hB.2.2.2.1
  have hlx := lx_N hI (Or.inl hw14) hM1 hG1 hw35 hM hG
  have ht37 : tg g36 o = 1 := hlx.1.2.2.1
  have ht38 : tg g36 mo = 17 := hlx.1.2.2.2.1
  have ht39 : tg g36 q = 34 := hlx.1.2.2.2.2.1
  have ht40 : tg g36 q2 = 35 := hlx.1.2.2.2.2.2.1
  refine lv_istore (lv' := [(7, .int r34), (6, .int r13), (0, .ref b0), (1, .ref o), (2, .ref mo), (3, .ref q), (4, .ref q2), (5, .int (nI (6 * k)))]) hx hb dL_law_781 hl (by decide) rfl (fun ls hl => ?_)
  refine lv_goto (tgt := 1913) hx hb dL_law_783 (by decide) ?_
  exact hnext g36 H _ ls _ _ ⟨hM, hG, hlx.1.2.2⟩ (by have h9 := hlx.2 C S k hR; unfold RI at h9 ⊢; omega) hS (lv_sub hl [2, 3, 4, 5, 6, 7] rfl)

set_option maxHeartbeats 4000000 in
set_option maxRecDepth 100000 in
/-- the law: a call of mass -/
theorem case_16 {p : Program} {l : Launch} {e : Env} {s : State} {m : MethodId} {below : List Frame} {meth : Method} {c : Code} (hlt : l.stackTraces = false) {b0 L : Nat} {xs : Nat → Int32} (C0 : lw_At p s m meth c b0 L xs) (hL : L ≤ 3072) (dC : Nat → ClassId) (dI : Nat → Nat → Nat) (kA : Nat → ClassId) (eD b o mo q q2 k : Nat) (hb9 : b = s.heap.size) (hb0 : b ≤ s.heap.size) (hk : 6 * k + 6 ≤ L) (hK : va_K (dC, dI) vwCl (TYS kA) s) (hE : EX eD b s) (hnext : ∀ (g : Gh) (H : Heap) (locs : List Loc) (ls : Array Slot) (C S : Nat), LI (dC, dI) kA b eD o mo q q2 g H → RI g mo C S (k + 1) → va_S (fun q => b ≤ q) s.heap H locs → lv_has ls 9 [(0, .ref b0), (1, .ref o), (2, .ref mo), (3, .ref q), (4, .ref q2), (5, .int (nI (6 * k)))] → W p l e room_1 s m #[Value.ref b0] below meth c H locs C S (lw_Z below #[Value.ref b0] s) (F0 m 1913 ls [])) {g : Gh} {H : Heap} {locs : List Loc} {ls : Array Slot} {C S : Nat} (hI : LI (dC, dI) kA b eD o mo q q2 g H) (hR : RI g mo C S k) (hS : va_S (fun q => b ≤ q) s.heap H locs) (hl : lv_has ls 9 [(0, .ref b0), (1, .ref o), (2, .ref mo), (3, .ref q), (4, .ref q2), (5, .int (nI (6 * k)))]) : W p l e room_1 s m #[Value.ref b0] below meth c H locs C S (lw_Z below #[Value.ref b0] s) (F0 m 786 ls []) := by
  obtain ⟨hx, hb, hr, hml, hown, hts0, hX, hbl, hlocks, hgv⟩ := id C0
  have hts : ∀ w ∈ wzL_law, w.before #[Value.ref b0] s = true := fun w h => hts0 w (wzL_law_in w h)
  have hbA : ¬ (fun q : Nat => b ≤ q) b0 := by show ¬ b ≤ b0; omega
  have hT := hE.1
  have hN := hE.2.2.2.2.2.2.2.1
  obtain ⟨hM, hG, hto, htm, htq, htq2, -, hed⟩ := id hI
  have hRC : C ≤ 430000 := by have h9 := hR; unfold RI at h9; omega
  have hRS : S ≤ 3400000 := by have h9 := hR; unfold RI at h9; omega
  refine lv_aload_n hx hb dL_law_786 rfl (lv_at hl 1 rfl) ?_
  refine lv_aload_n hx hb dL_law_787 rfl (lv_at hl 0 rfl) ?_
  refine lv_iload hx hb dL_law_788 (lv_at hl 5 rfl) ?_
  refine lv_iconst (v := 1) hx hb dL_law_790 (by decide) ?_
  refine lv_iadd hx hb dL_law_791 ?_
  refine lv_topi (fun v1 e2 => ?_)
  obtain rfl : v1 = nI ((6 * k) + 1) := e2.trans (nI_add (6 * k) 1)
  refine va_sld hx hb hX hbl hbA hS (vp_in_nI (by omega) (by omega)) dL_law_792 ?_
  refine lv_topi (fun v3 e4 => ?_)
  refine lv_aload_n hx hb dL_law_793 rfl (lv_at hl 0 rfl) ?_
  refine lv_iload hx hb dL_law_794 (lv_at hl 5 rfl) ?_
  refine lv_iconst (v := 2) hx hb dL_law_796 (by decide) ?_
  refine lv_iadd hx hb dL_law_797 ?_
  refine lv_topi (fun v5 e6 => ?_)
  obtain rfl : v5 = nI ((6 * k) + 2) := e6.trans (nI_add (6 * k) 2)
  refine va_sld hx hb hX hbl hbA hS (vp_in_nI (by omega) (by omega)) dL_law_798 ?_
  refine lv_topi (fun v7 e8 => ?_)
  refine lv_aload_n hx hb dL_law_799 rfl (lv_at hl 0 rfl) ?_
  refine lv_iload hx hb dL_law_800 (lv_at hl 5 rfl) ?_
  refine lv_iconst (v := 3) hx hb dL_law_802 (by decide) ?_
  refine lv_iadd hx hb dL_law_803 ?_
  refine lv_topi (fun v9 e10 => ?_)
  obtain rfl : v9 = nI ((6 * k) + 3) := e10.trans (nI_add (6 * k) 3)
  refine va_sld hx hb hX hbl hbA hS (vp_in_nI (by omega) (by omega)) dL_law_804 ?_
  refine lv_topi (fun v11 e12 => ?_)
  refine lv_aload_n hx hb dL_law_805 rfl (lv_at hl 3 rfl) ?_
  refine va_calli (vx_runSW (As := [.ref o, .int v3, .int v7, .int v11, .ref q]) (rest := []) ⟨hx, hb, hml, hown, hts⟩ (rh_mass l hlt dC dI kA eD b g o q v3 v7 v11 (by omega) (by omega)) (vx_cwSW 5 hts gL_law_L_mass rfl rfl rfl (by decide +kernel) ⟨Nat.le_of_ble_eq_true rfl, Nat.le_of_ble_eq_true rfl⟩) ⟨fb_CX, fun U hU hW => ⟨rfl, CX.give hb0 hM hK hG hE hS hU hW⟩⟩ rfl rfl hl.1 rfl (lv_room (Nat.le_of_ble_eq_true rfl)) dL_law_806 ⟨(show C + 1 ≤ 960594 by omega), (show S + 6 ≤ 6134452 by omega)⟩) hS (fun q _ h => h) (fun q h => h) (fun r13 g15 t H locs ht hvm hw14 hB hz1 hk1 hS => ?_)
  have hM := hB.back ht
  have hG := hB.2.2.2.1
  have hM1 := hM
  have hG1 := hG
  have hkt : ∀ a : Nat, tg g a ≠ 0 → tg g15 a = tg g a := fun a _ => by obtain ⟨f9, h9⟩ := hw14; rw [h9]; rfl
  have ht16 : tg g15 o = 1 := (hkt o (by omega)).trans hto
  have ht17 : tg g15 mo = 17 := (hkt mo (by omega)).trans htm
  have ht18 : tg g15 q = 34 := (hkt q (by omega)).trans htq
  have ht19 : tg g15 q2 = 35 := (hkt q2 (by omega)).trans htq2
  refine lv_istore (lv' := [(6, .int r13), (0, .ref b0), (1, .ref o), (2, .ref mo), (3, .ref q), (4, .ref q2), (5, .int (nI (6 * k)))]) hx hb dL_law_809 hl (by decide) rfl (fun ls hl => ?_)
  refine lv_aload_n hx hb dL_law_811 rfl (lv_at hl 3 rfl) ?_
  refine lv_aload_n hx hb dL_law_812 rfl (lv_at hl 1 rfl) ?_
  refine lv_iload hx hb dL_law_813 (lv_at hl 6 rfl) ?_
  refine lv_iconst (v := 1) hx hb dL_law_815 (by decide) ?_
  refine lv_iadd hx hb dL_law_816 ?_
  refine lv_topi (fun v20 e21 => ?_)
  obtain rfl : v20 = nI ((6 * k) + 1) := e21.trans (nI_add (6 * k) 1)
  refine va_sld hx hb hX hbl hbA hS (vp_in_nI (by omega) (by omega)) dL_law_817 ?_
  refine lv_topi (fun v22 e23 => ?_)
  obtain rfl : v3 = v22 := e4.trans e23.symm
  refine lv_aload_n hx hb dL_law_818 rfl (lv_at hl 1 rfl) ?_
  refine lv_iload hx hb dL_law_819 (lv_at hl 6 rfl) ?_
  refine lv_iconst (v := 2) hx hb dL_law_821 (by decide) ?_
  refine lv_iadd hx hb dL_law_822 ?_
  refine lv_topi (fun v24 e25 => ?_)
  obtain rfl : v24 = nI ((6 * k) + 2) := e25.trans (nI_add (6 * k) 2)
  refine va_sld hx hb hX hbl hbA hS (vp_in_nI (by omega) (by omega)) dL_law_823 ?_
  refine lv_topi (fun v26 e27 => ?_)
  obtain rfl : v7 = v26 := e8.trans e27.symm
  refine lv_aload_n hx hb dL_law_824 rfl (lv_at hl 1 rfl) ?_
  refine lv_iload hx hb dL_law_825 (lv_at hl 6 rfl) ?_
  refine lv_iconst (v := 3) hx hb dL_law_827 (by decide) ?_
  refine lv_iadd hx hb dL_law_828 ?_
  refine lv_topi (fun v28 e29 => ?_)
  obtain rfl : v28 = nI ((6 * k) + 3) := e29.trans (nI_add (6 * k) 3)
  refine va_sld hx hb hX hbl hbA hS (vp_in_nI (by omega) (by omega)) dL_law_829 ?_
  refine lv_topi (fun v30 e31 => ?_)
  obtain rfl : v11 = v30 := e12.trans e31.symm
  obtain ⟨u32, u33, hP, hf⟩ := o_mo (i := 0) (q := mo) hM (by omega)
  refine va_calli (va_runV (As := [.int v3, .int v7, .int v11]) (rest := []) ⟨hx, hb, hml, hown, hts⟩ (rmf_mass l dC dI kA eD b g15 mo v3 v7 v11 (by omega)) (cwV 3 hts gL_law_X6_mass rfl rfl rfl (by decide +kernel) ⟨Nat.le_of_ble_eq_true rfl, Nat.le_of_ble_eq_true rfl⟩) ⟨fb_CX, va_recv hK hP (ci := 10) (q0 := 0) rfl rfl, fun U hU hW => ⟨rfl, CX.give hb0 hM hK hG hE hS hU hW⟩⟩ rfl rfl hl.1 rfl (lv_room (Nat.le_of_ble_eq_true rfl)) dL_law_830 ⟨(show C + 1 + 0 ≤ 960594 by omega), (show S + 6 + 0 ≤ 6134452 by omega)⟩) hS (fun q _ h => h) (fun q h => h) (fun r34 g36 t H locs ht hvm hw35 hB hz1 hk1 hS => ?_)
  have hM := hB.back ht
  have hG := hB.2.2.2.1
  have hlx := lx_N hI (Or.inl hw14) hM1 hG1 hw35 hM hG
  have ht37 : tg g36 o = 1 := hlx.1.2.2.1
  have ht38 : tg g36 mo = 17 := hlx.1.2.2.2.1
  have ht39 : tg g36 q = 34 := hlx.1.2.2.2.2.1
  have ht40 : tg g36 q2 = 35 := hlx.1.2.2.2.2.2.1
  refine lv_istore (lv' := [(7, .int r34), (6, .int r13), (0, .ref b0), (1, .ref o), (2, .ref mo), (3, .ref q), (4, .ref q2), (5, .int (nI (6 * k)))]) hx hb dL_law_833 hl (by decide) rfl (fun ls hl => ?_)
  refine lv_goto (tgt := 1913) hx hb dL_law_835 (by decide) ?_
  exact hnext g36 H _ ls _ _ ⟨hM, hG, hlx.1.2.2⟩ (by have h9 := hlx.2 C S k hR; unfold RI at h9 ⊢; omega) hS (lv_sub hl [2, 3, 4, 5, 6, 7] rfl)

set_option maxHeartbeats 4000000 in
set_option maxRecDepth 100000 in
/-- the law: a call of load -/
theorem case_17 {p : Program} {l : Launch} {e : Env} {s : State} {m : MethodId} {below : List Frame} {meth : Method} {c : Code} (hlt : l.stackTraces = false) {b0 L : Nat} {xs : Nat → Int32} (C0 : lw_At p s m meth c b0 L xs) (hL : L ≤ 3072) (dC : Nat → ClassId) (dI : Nat → Nat → Nat) (kA : Nat → ClassId) (eD b o mo q q2 k : Nat) (hb9 : b = s.heap.size) (hb0 : b ≤ s.heap.size) (hk : 6 * k + 6 ≤ L) (hK : va_K (dC, dI) vwCl (TYS kA) s) (hE : EX eD b s) (hnext : ∀ (g : Gh) (H : Heap) (locs : List Loc) (ls : Array Slot) (C S : Nat), LI (dC, dI) kA b eD o mo q q2 g H → RI g mo C S (k + 1) → va_S (fun q => b ≤ q) s.heap H locs → lv_has ls 9 [(0, .ref b0), (1, .ref o), (2, .ref mo), (3, .ref q), (4, .ref q2), (5, .int (nI (6 * k)))] → W p l e room_1 s m #[Value.ref b0] below meth c H locs C S (lw_Z below #[Value.ref b0] s) (F0 m 1913 ls [])) {g : Gh} {H : Heap} {locs : List Loc} {ls : Array Slot} {C S : Nat} (hI : LI (dC, dI) kA b eD o mo q q2 g H) (hR : RI g mo C S k) (hS : va_S (fun q => b ≤ q) s.heap H locs) (hl : lv_has ls 9 [(0, .ref b0), (1, .ref o), (2, .ref mo), (3, .ref q), (4, .ref q2), (5, .int (nI (6 * k)))]) : W p l e room_1 s m #[Value.ref b0] below meth c H locs C S (lw_Z below #[Value.ref b0] s) (F0 m 838 ls []) := by
  obtain ⟨hx, hb, hr, hml, hown, hts0, hX, hbl, hlocks, hgv⟩ := id C0
  have hts : ∀ w ∈ wzL_law, w.before #[Value.ref b0] s = true := fun w h => hts0 w (wzL_law_in w h)
  have hbA : ¬ (fun q : Nat => b ≤ q) b0 := by show ¬ b ≤ b0; omega
  have hT := hE.1
  have hN := hE.2.2.2.2.2.2.2.1
  obtain ⟨hM, hG, hto, htm, htq, htq2, -, hed⟩ := id hI
  have hRC : C ≤ 430000 := by have h9 := hR; unfold RI at h9; omega
  have hRS : S ≤ 3400000 := by have h9 := hR; unfold RI at h9; omega
  refine lv_aload_n hx hb dL_law_838 rfl (lv_at hl 1 rfl) ?_
  refine lv_aload_n hx hb dL_law_839 rfl (lv_at hl 0 rfl) ?_
  refine lv_iload hx hb dL_law_840 (lv_at hl 5 rfl) ?_
  refine lv_iconst (v := 1) hx hb dL_law_842 (by decide) ?_
  refine lv_iadd hx hb dL_law_843 ?_
  refine lv_topi (fun v1 e2 => ?_)
  obtain rfl : v1 = nI ((6 * k) + 1) := e2.trans (nI_add (6 * k) 1)
  refine va_sld hx hb hX hbl hbA hS (vp_in_nI (by omega) (by omega)) dL_law_844 ?_
  refine lv_topi (fun v3 e4 => ?_)
  refine lv_aload_n hx hb dL_law_845 rfl (lv_at hl 0 rfl) ?_
  refine lv_iload hx hb dL_law_846 (lv_at hl 5 rfl) ?_
  refine lv_iconst (v := 2) hx hb dL_law_848 (by decide) ?_
  refine lv_iadd hx hb dL_law_849 ?_
  refine lv_topi (fun v5 e6 => ?_)
  obtain rfl : v5 = nI ((6 * k) + 2) := e6.trans (nI_add (6 * k) 2)
  refine va_sld hx hb hX hbl hbA hS (vp_in_nI (by omega) (by omega)) dL_law_850 ?_
  refine lv_topi (fun v7 e8 => ?_)
  refine lv_aload_n hx hb dL_law_851 rfl (lv_at hl 0 rfl) ?_
  refine lv_iload hx hb dL_law_852 (lv_at hl 5 rfl) ?_
  refine lv_iconst (v := 3) hx hb dL_law_854 (by decide) ?_
  refine lv_iadd hx hb dL_law_855 ?_
  refine lv_topi (fun v9 e10 => ?_)
  obtain rfl : v9 = nI ((6 * k) + 3) := e10.trans (nI_add (6 * k) 3)
  refine va_sld hx hb hX hbl hbA hS (vp_in_nI (by omega) (by omega)) dL_law_856 ?_
  refine lv_topi (fun v11 e12 => ?_)
  refine lv_aload_n hx hb dL_law_857 rfl (lv_at hl 3 rfl) ?_
  refine va_calli (vx_runSW (As := [.ref o, .int v3, .int v7, .int v11, .ref q]) (rest := []) ⟨hx, hb, hml, hown, hts⟩ (rh_load l hlt dC dI kA eD b g o q v3 v7 v11 (by omega) (by omega)) (vx_cwSW 5 hts gL_law_L_load rfl rfl rfl (by decide +kernel) ⟨Nat.le_of_ble_eq_true rfl, Nat.le_of_ble_eq_true rfl⟩) ⟨fb_CX, fun U hU hW => ⟨rfl, CX.give hb0 hM hK hG hE hS hU hW⟩⟩ rfl rfl hl.1 rfl (lv_room (Nat.le_of_ble_eq_true rfl)) dL_law_858 ⟨(show C + 1 ≤ 960594 by omega), (show S + 6 ≤ 6134452 by omega)⟩) hS (fun q _ h => h) (fun q h => h) (fun r13 g15 t H locs ht hvm hw14 hB hz1 hk1 hS => ?_)
  have hM := hB.back ht
  have hG := hB.2.2.2.1
  have hM1 := hM
  have hG1 := hG
  have hkt : ∀ a : Nat, tg g a ≠ 0 → tg g15 a = tg g a := fun a _ => by obtain ⟨f9, h9⟩ := hw14; rw [h9]; rfl
  have ht16 : tg g15 o = 1 := (hkt o (by omega)).trans hto
  have ht17 : tg g15 mo = 17 := (hkt mo (by omega)).trans htm
  have ht18 : tg g15 q = 34 := (hkt q (by omega)).trans htq
  have ht19 : tg g15 q2 = 35 := (hkt q2 (by omega)).trans htq2
  refine lv_istore (lv' := [(6, .int r13), (0, .ref b0), (1, .ref o), (2, .ref mo), (3, .ref q), (4, .ref q2), (5, .int (nI (6 * k)))]) hx hb dL_law_861 hl (by decide) rfl (fun ls hl => ?_)
  refine lv_aload_n hx hb dL_law_863 rfl (lv_at hl 3 rfl) ?_
  refine lv_aload_n hx hb dL_law_864 rfl (lv_at hl 1 rfl) ?_
  refine lv_iload hx hb dL_law_865 (lv_at hl 6 rfl) ?_
  refine lv_iconst (v := 1) hx hb dL_law_867 (by decide) ?_
  refine lv_iadd hx hb dL_law_868 ?_
  refine lv_topi (fun v20 e21 => ?_)
  obtain rfl : v20 = nI ((6 * k) + 1) := e21.trans (nI_add (6 * k) 1)
  refine va_sld hx hb hX hbl hbA hS (vp_in_nI (by omega) (by omega)) dL_law_869 ?_
  refine lv_topi (fun v22 e23 => ?_)
  obtain rfl : v3 = v22 := e4.trans e23.symm
  refine lv_aload_n hx hb dL_law_870 rfl (lv_at hl 1 rfl) ?_
  refine lv_iload hx hb dL_law_871 (lv_at hl 6 rfl) ?_
  refine lv_iconst (v := 2) hx hb dL_law_873 (by decide) ?_
  refine lv_iadd hx hb dL_law_874 ?_
  refine lv_topi (fun v24 e25 => ?_)
  obtain rfl : v24 = nI ((6 * k) + 2) := e25.trans (nI_add (6 * k) 2)
  refine va_sld hx hb hX hbl hbA hS (vp_in_nI (by omega) (by omega)) dL_law_875 ?_
  refine lv_topi (fun v26 e27 => ?_)
  obtain rfl : v7 = v26 := e8.trans e27.symm
  refine lv_aload_n hx hb dL_law_876 rfl (lv_at hl 1 rfl) ?_
  refine lv_iload hx hb dL_law_877 (lv_at hl 6 rfl) ?_
  refine lv_iconst (v := 3) hx hb dL_law_879 (by decide) ?_
  refine lv_iadd hx hb dL_law_880 ?_
  refine lv_topi (fun v28 e29 => ?_)
  obtain rfl : v28 = nI ((6 * k) + 3) := e29.trans (nI_add (6 * k) 3)
  refine va_sld hx hb hX hbl hbA hS (vp_in_nI (by omega) (by omega)) dL_law_881 ?_
  refine lv_topi (fun v30 e31 => ?_)
  obtain rfl : v11 = v30 := e12.trans e31.symm
  obtain ⟨u32, u33, hP, hf⟩ := o_mo (i := 0) (q := mo) hM (by omega)
  refine va_calli (va_runV (As := [.int v3, .int v7, .int v11]) (rest := []) ⟨hx, hb, hml, hown, hts⟩ (rmf_load l dC dI kA eD b g15 mo v3 v7 v11 (by omega)) (cwV 3 hts gL_law_X6_load rfl rfl rfl (by decide +kernel) ⟨Nat.le_of_ble_eq_true rfl, Nat.le_of_ble_eq_true rfl⟩) ⟨fb_CX, va_recv hK hP (ci := 10) (q0 := 0) rfl rfl, fun U hU hW => ⟨rfl, CX.give hb0 hM hK hG hE hS hU hW⟩⟩ rfl rfl hl.1 rfl (lv_room (Nat.le_of_ble_eq_true rfl)) dL_law_882 ⟨(show C + 1 + 7 ≤ 960594 by omega), (show S + 6 + 54 ≤ 6134452 by omega)⟩) hS (fun q _ h => h) (fun q h => h) (fun r34 g36 t H locs ht hvm hw35 hB hz1 hk1 hS => ?_)
  have hM := hB.back ht
  have hG := hB.2.2.2.1
  have hlx := lx_N hI (Or.inl hw14) hM1 hG1 hw35 hM hG
  have ht37 : tg g36 o = 1 := hlx.1.2.2.1
  have ht38 : tg g36 mo = 17 := hlx.1.2.2.2.1
  have ht39 : tg g36 q = 34 := hlx.1.2.2.2.2.1
  have ht40 : tg g36 q2 = 35 := hlx.1.2.2.2.2.2.1
  refine lv_istore (lv' := [(7, .int r34), (6, .int r13), (0, .ref b0), (1, .ref o), (2, .ref mo), (3, .ref q), (4, .ref q2), (5, .int (nI (6 * k)))]) hx hb dL_law_885 hl (by decide) rfl (fun ls hl => ?_)
  refine lv_goto (tgt := 1913) hx hb dL_law_887 (by decide) ?_
  exact hnext g36 H _ ls _ _ ⟨hM, hG, hlx.1.2.2⟩ (by have h9 := hlx.2 C S k hR; unfold RI at h9 ⊢; omega) hS (lv_sub hl [2, 3, 4, 5, 6, 7] rfl)

set_option maxHeartbeats 4000000 in
set_option maxRecDepth 100000 in
/-- the law: a call of strength -/
theorem case_18 {p : Program} {l : Launch} {e : Env} {s : State} {m : MethodId} {below : List Frame} {meth : Method} {c : Code} (hlt : l.stackTraces = false) {b0 L : Nat} {xs : Nat → Int32} (C0 : lw_At p s m meth c b0 L xs) (hL : L ≤ 3072) (dC : Nat → ClassId) (dI : Nat → Nat → Nat) (kA : Nat → ClassId) (eD b o mo q q2 k : Nat) (hb9 : b = s.heap.size) (hb0 : b ≤ s.heap.size) (hk : 6 * k + 6 ≤ L) (hK : va_K (dC, dI) vwCl (TYS kA) s) (hE : EX eD b s) (hnext : ∀ (g : Gh) (H : Heap) (locs : List Loc) (ls : Array Slot) (C S : Nat), LI (dC, dI) kA b eD o mo q q2 g H → RI g mo C S (k + 1) → va_S (fun q => b ≤ q) s.heap H locs → lv_has ls 9 [(0, .ref b0), (1, .ref o), (2, .ref mo), (3, .ref q), (4, .ref q2), (5, .int (nI (6 * k)))] → W p l e room_1 s m #[Value.ref b0] below meth c H locs C S (lw_Z below #[Value.ref b0] s) (F0 m 1913 ls [])) {g : Gh} {H : Heap} {locs : List Loc} {ls : Array Slot} {C S : Nat} (hI : LI (dC, dI) kA b eD o mo q q2 g H) (hR : RI g mo C S k) (hS : va_S (fun q => b ≤ q) s.heap H locs) (hl : lv_has ls 9 [(0, .ref b0), (1, .ref o), (2, .ref mo), (3, .ref q), (4, .ref q2), (5, .int (nI (6 * k)))]) : W p l e room_1 s m #[Value.ref b0] below meth c H locs C S (lw_Z below #[Value.ref b0] s) (F0 m 890 ls []) := by
  obtain ⟨hx, hb, hr, hml, hown, hts0, hX, hbl, hlocks, hgv⟩ := id C0
  have hts : ∀ w ∈ wzL_law, w.before #[Value.ref b0] s = true := fun w h => hts0 w (wzL_law_in w h)
  have hbA : ¬ (fun q : Nat => b ≤ q) b0 := by show ¬ b ≤ b0; omega
  have hT := hE.1
  have hN := hE.2.2.2.2.2.2.2.1
  obtain ⟨hM, hG, hto, htm, htq, htq2, -, hed⟩ := id hI
  have hRC : C ≤ 430000 := by have h9 := hR; unfold RI at h9; omega
  have hRS : S ≤ 3400000 := by have h9 := hR; unfold RI at h9; omega
  refine lv_aload_n hx hb dL_law_890 rfl (lv_at hl 1 rfl) ?_
  refine lv_aload_n hx hb dL_law_891 rfl (lv_at hl 0 rfl) ?_
  refine lv_iload hx hb dL_law_892 (lv_at hl 5 rfl) ?_
  refine lv_iconst (v := 1) hx hb dL_law_894 (by decide) ?_
  refine lv_iadd hx hb dL_law_895 ?_
  refine lv_topi (fun v1 e2 => ?_)
  obtain rfl : v1 = nI ((6 * k) + 1) := e2.trans (nI_add (6 * k) 1)
  refine va_sld hx hb hX hbl hbA hS (vp_in_nI (by omega) (by omega)) dL_law_896 ?_
  refine lv_topi (fun v3 e4 => ?_)
  refine lv_aload_n hx hb dL_law_897 rfl (lv_at hl 0 rfl) ?_
  refine lv_iload hx hb dL_law_898 (lv_at hl 5 rfl) ?_
  refine lv_iconst (v := 2) hx hb dL_law_900 (by decide) ?_
  refine lv_iadd hx hb dL_law_901 ?_
  refine lv_topi (fun v5 e6 => ?_)
  obtain rfl : v5 = nI ((6 * k) + 2) := e6.trans (nI_add (6 * k) 2)
  refine va_sld hx hb hX hbl hbA hS (vp_in_nI (by omega) (by omega)) dL_law_902 ?_
  refine lv_topi (fun v7 e8 => ?_)
  refine lv_aload_n hx hb dL_law_903 rfl (lv_at hl 0 rfl) ?_
  refine lv_iload hx hb dL_law_904 (lv_at hl 5 rfl) ?_
  refine lv_iconst (v := 3) hx hb dL_law_906 (by decide) ?_
  refine lv_iadd hx hb dL_law_907 ?_
  refine lv_topi (fun v9 e10 => ?_)
  obtain rfl : v9 = nI ((6 * k) + 3) := e10.trans (nI_add (6 * k) 3)
  refine va_sld hx hb hX hbl hbA hS (vp_in_nI (by omega) (by omega)) dL_law_908 ?_
  refine lv_topi (fun v11 e12 => ?_)
  refine lv_aload_n hx hb dL_law_909 rfl (lv_at hl 3 rfl) ?_
  refine va_calli (vx_runSW (As := [.ref o, .int v3, .int v7, .int v11, .ref q]) (rest := []) ⟨hx, hb, hml, hown, hts⟩ (rh_strength l hlt dC dI kA eD b g o q v3 v7 v11 (by omega) (by omega)) (vx_cwSW 5 hts gL_law_L_strength rfl rfl rfl (by decide +kernel) ⟨Nat.le_of_ble_eq_true rfl, Nat.le_of_ble_eq_true rfl⟩) ⟨fb_CX, fun U hU hW => ⟨rfl, CX.give hb0 hM hK hG hE hS hU hW⟩⟩ rfl rfl hl.1 rfl (lv_room (Nat.le_of_ble_eq_true rfl)) dL_law_910 ⟨(show C + 1 ≤ 960594 by omega), (show S + 6 ≤ 6134452 by omega)⟩) hS (fun q _ h => h) (fun q h => h) (fun r13 g15 t H locs ht hvm hw14 hB hz1 hk1 hS => ?_)
  have hM := hB.back ht
  have hG := hB.2.2.2.1
  have hM1 := hM
  have hG1 := hG
  have hkt : ∀ a : Nat, tg g a ≠ 0 → tg g15 a = tg g a := fun a _ => by obtain ⟨f9, h9⟩ := hw14; rw [h9]; rfl
  have ht16 : tg g15 o = 1 := (hkt o (by omega)).trans hto
  have ht17 : tg g15 mo = 17 := (hkt mo (by omega)).trans htm
  have ht18 : tg g15 q = 34 := (hkt q (by omega)).trans htq
  have ht19 : tg g15 q2 = 35 := (hkt q2 (by omega)).trans htq2
  refine lv_istore (lv' := [(6, .int r13), (0, .ref b0), (1, .ref o), (2, .ref mo), (3, .ref q), (4, .ref q2), (5, .int (nI (6 * k)))]) hx hb dL_law_913 hl (by decide) rfl (fun ls hl => ?_)
  refine lv_aload_n hx hb dL_law_915 rfl (lv_at hl 3 rfl) ?_
  refine lv_aload_n hx hb dL_law_916 rfl (lv_at hl 1 rfl) ?_
  refine lv_iload hx hb dL_law_917 (lv_at hl 6 rfl) ?_
  refine lv_iconst (v := 1) hx hb dL_law_919 (by decide) ?_
  refine lv_iadd hx hb dL_law_920 ?_
  refine lv_topi (fun v20 e21 => ?_)
  obtain rfl : v20 = nI ((6 * k) + 1) := e21.trans (nI_add (6 * k) 1)
  refine va_sld hx hb hX hbl hbA hS (vp_in_nI (by omega) (by omega)) dL_law_921 ?_
  refine lv_topi (fun v22 e23 => ?_)
  obtain rfl : v3 = v22 := e4.trans e23.symm
  refine lv_aload_n hx hb dL_law_922 rfl (lv_at hl 1 rfl) ?_
  refine lv_iload hx hb dL_law_923 (lv_at hl 6 rfl) ?_
  refine lv_iconst (v := 2) hx hb dL_law_925 (by decide) ?_
  refine lv_iadd hx hb dL_law_926 ?_
  refine lv_topi (fun v24 e25 => ?_)
  obtain rfl : v24 = nI ((6 * k) + 2) := e25.trans (nI_add (6 * k) 2)
  refine va_sld hx hb hX hbl hbA hS (vp_in_nI (by omega) (by omega)) dL_law_927 ?_
  refine lv_topi (fun v26 e27 => ?_)
  obtain rfl : v7 = v26 := e8.trans e27.symm
  refine lv_aload_n hx hb dL_law_928 rfl (lv_at hl 1 rfl) ?_
  refine lv_iload hx hb dL_law_929 (lv_at hl 6 rfl) ?_
  refine lv_iconst (v := 3) hx hb dL_law_931 (by decide) ?_
  refine lv_iadd hx hb dL_law_932 ?_
  refine lv_topi (fun v28 e29 => ?_)
  obtain rfl : v28 = nI ((6 * k) + 3) := e29.trans (nI_add (6 * k) 3)
  refine va_sld hx hb hX hbl hbA hS (vp_in_nI (by omega) (by omega)) dL_law_933 ?_
  refine lv_topi (fun v30 e31 => ?_)
  obtain rfl : v11 = v30 := e12.trans e31.symm
  obtain ⟨u32, u33, hP, hf⟩ := o_mo (i := 0) (q := mo) hM (by omega)
  refine va_calli (va_runV (As := [.int v3, .int v7, .int v11]) (rest := []) ⟨hx, hb, hml, hown, hts⟩ (rmf_strength l dC dI kA eD b g15 mo v3 v7 v11 (by omega)) (cwV 3 hts gL_law_X6_strength rfl rfl rfl (by decide +kernel) ⟨Nat.le_of_ble_eq_true rfl, Nat.le_of_ble_eq_true rfl⟩) ⟨fb_CX, va_recv hK hP (ci := 10) (q0 := 0) rfl rfl, fun U hU hW => ⟨rfl, CX.give hb0 hM hK hG hE hS hU hW⟩⟩ rfl rfl hl.1 rfl (lv_room (Nat.le_of_ble_eq_true rfl)) dL_law_934 ⟨(show C + 1 + 0 ≤ 960594 by omega), (show S + 6 + 0 ≤ 6134452 by omega)⟩) hS (fun q _ h => h) (fun q h => h) (fun r34 g36 t H locs ht hvm hw35 hB hz1 hk1 hS => ?_)
  have hM := hB.back ht
  have hG := hB.2.2.2.1
  have hlx := lx_N hI (Or.inl hw14) hM1 hG1 hw35 hM hG
  have ht37 : tg g36 o = 1 := hlx.1.2.2.1
  have ht38 : tg g36 mo = 17 := hlx.1.2.2.2.1
  have ht39 : tg g36 q = 34 := hlx.1.2.2.2.2.1
  have ht40 : tg g36 q2 = 35 := hlx.1.2.2.2.2.2.1
  refine lv_istore (lv' := [(7, .int r34), (6, .int r13), (0, .ref b0), (1, .ref o), (2, .ref mo), (3, .ref q), (4, .ref q2), (5, .int (nI (6 * k)))]) hx hb dL_law_937 hl (by decide) rfl (fun ls hl => ?_)
  refine lv_goto (tgt := 1913) hx hb dL_law_939 (by decide) ?_
  exact hnext g36 H _ ls _ _ ⟨hM, hG, hlx.1.2.2⟩ (by have h9 := hlx.2 C S k hR; unfold RI at h9 ⊢; omega) hS (lv_sub hl [2, 3, 4, 5, 6, 7] rfl)

set_option maxHeartbeats 4000000 in
set_option maxRecDepth 100000 in
/-- the law: a call of creep -/
theorem case_19 {p : Program} {l : Launch} {e : Env} {s : State} {m : MethodId} {below : List Frame} {meth : Method} {c : Code} (hlt : l.stackTraces = false) {b0 L : Nat} {xs : Nat → Int32} (C0 : lw_At p s m meth c b0 L xs) (hL : L ≤ 3072) (dC : Nat → ClassId) (dI : Nat → Nat → Nat) (kA : Nat → ClassId) (eD b o mo q q2 k : Nat) (hb9 : b = s.heap.size) (hb0 : b ≤ s.heap.size) (hk : 6 * k + 6 ≤ L) (hK : va_K (dC, dI) vwCl (TYS kA) s) (hE : EX eD b s) (hnext : ∀ (g : Gh) (H : Heap) (locs : List Loc) (ls : Array Slot) (C S : Nat), LI (dC, dI) kA b eD o mo q q2 g H → RI g mo C S (k + 1) → va_S (fun q => b ≤ q) s.heap H locs → lv_has ls 9 [(0, .ref b0), (1, .ref o), (2, .ref mo), (3, .ref q), (4, .ref q2), (5, .int (nI (6 * k)))] → W p l e room_1 s m #[Value.ref b0] below meth c H locs C S (lw_Z below #[Value.ref b0] s) (F0 m 1913 ls [])) {g : Gh} {H : Heap} {locs : List Loc} {ls : Array Slot} {C S : Nat} (hI : LI (dC, dI) kA b eD o mo q q2 g H) (hR : RI g mo C S k) (hS : va_S (fun q => b ≤ q) s.heap H locs) (hl : lv_has ls 9 [(0, .ref b0), (1, .ref o), (2, .ref mo), (3, .ref q), (4, .ref q2), (5, .int (nI (6 * k)))]) : W p l e room_1 s m #[Value.ref b0] below meth c H locs C S (lw_Z below #[Value.ref b0] s) (F0 m 942 ls []) := by
  obtain ⟨hx, hb, hr, hml, hown, hts0, hX, hbl, hlocks, hgv⟩ := id C0
  have hts : ∀ w ∈ wzL_law, w.before #[Value.ref b0] s = true := fun w h => hts0 w (wzL_law_in w h)
  have hbA : ¬ (fun q : Nat => b ≤ q) b0 := by show ¬ b ≤ b0; omega
  have hT := hE.1
  have hN := hE.2.2.2.2.2.2.2.1
  obtain ⟨hM, hG, hto, htm, htq, htq2, -, hed⟩ := id hI
  have hRC : C ≤ 430000 := by have h9 := hR; unfold RI at h9; omega
  have hRS : S ≤ 3400000 := by have h9 := hR; unfold RI at h9; omega
  refine lv_aload_n hx hb dL_law_942 rfl (lv_at hl 1 rfl) ?_
  refine lv_aload_n hx hb dL_law_943 rfl (lv_at hl 0 rfl) ?_
  refine lv_iload hx hb dL_law_944 (lv_at hl 5 rfl) ?_
  refine lv_iconst (v := 1) hx hb dL_law_946 (by decide) ?_
  refine lv_iadd hx hb dL_law_947 ?_
  refine lv_topi (fun v1 e2 => ?_)
  obtain rfl : v1 = nI ((6 * k) + 1) := e2.trans (nI_add (6 * k) 1)
  refine va_sld hx hb hX hbl hbA hS (vp_in_nI (by omega) (by omega)) dL_law_948 ?_
  refine lv_topi (fun v3 e4 => ?_)
  refine lv_aload_n hx hb dL_law_949 rfl (lv_at hl 0 rfl) ?_
  refine lv_iload hx hb dL_law_950 (lv_at hl 5 rfl) ?_
  refine lv_iconst (v := 2) hx hb dL_law_952 (by decide) ?_
  refine lv_iadd hx hb dL_law_953 ?_
  refine lv_topi (fun v5 e6 => ?_)
  obtain rfl : v5 = nI ((6 * k) + 2) := e6.trans (nI_add (6 * k) 2)
  refine va_sld hx hb hX hbl hbA hS (vp_in_nI (by omega) (by omega)) dL_law_954 ?_
  refine lv_topi (fun v7 e8 => ?_)
  refine lv_aload_n hx hb dL_law_955 rfl (lv_at hl 0 rfl) ?_
  refine lv_iload hx hb dL_law_956 (lv_at hl 5 rfl) ?_
  refine lv_iconst (v := 3) hx hb dL_law_958 (by decide) ?_
  refine lv_iadd hx hb dL_law_959 ?_
  refine lv_topi (fun v9 e10 => ?_)
  obtain rfl : v9 = nI ((6 * k) + 3) := e10.trans (nI_add (6 * k) 3)
  refine va_sld hx hb hX hbl hbA hS (vp_in_nI (by omega) (by omega)) dL_law_960 ?_
  refine lv_topi (fun v11 e12 => ?_)
  refine lv_aload_n hx hb dL_law_961 rfl (lv_at hl 3 rfl) ?_
  refine va_calli (vx_runSW (As := [.ref o, .int v3, .int v7, .int v11, .ref q]) (rest := []) ⟨hx, hb, hml, hown, hts⟩ (rh_creep l hlt dC dI kA eD b g o q v3 v7 v11 (by omega) (by omega)) (vx_cwSW 5 hts gL_law_L_creep rfl rfl rfl (by decide +kernel) ⟨Nat.le_of_ble_eq_true rfl, Nat.le_of_ble_eq_true rfl⟩) ⟨fb_CX, fun U hU hW => ⟨rfl, CX.give hb0 hM hK hG hE hS hU hW⟩⟩ rfl rfl hl.1 rfl (lv_room (Nat.le_of_ble_eq_true rfl)) dL_law_962 ⟨(show C + 1 ≤ 960594 by omega), (show S + 6 ≤ 6134452 by omega)⟩) hS (fun q _ h => h) (fun q h => h) (fun r13 g15 t H locs ht hvm hw14 hB hz1 hk1 hS => ?_)
  have hM := hB.back ht
  have hG := hB.2.2.2.1
  have hM1 := hM
  have hG1 := hG
  have hkt : ∀ a : Nat, tg g a ≠ 0 → tg g15 a = tg g a := fun a _ => by obtain ⟨f9, h9⟩ := hw14; rw [h9]; rfl
  have ht16 : tg g15 o = 1 := (hkt o (by omega)).trans hto
  have ht17 : tg g15 mo = 17 := (hkt mo (by omega)).trans htm
  have ht18 : tg g15 q = 34 := (hkt q (by omega)).trans htq
  have ht19 : tg g15 q2 = 35 := (hkt q2 (by omega)).trans htq2
  refine lv_istore (lv' := [(6, .int r13), (0, .ref b0), (1, .ref o), (2, .ref mo), (3, .ref q), (4, .ref q2), (5, .int (nI (6 * k)))]) hx hb dL_law_965 hl (by decide) rfl (fun ls hl => ?_)
  refine lv_aload_n hx hb dL_law_967 rfl (lv_at hl 3 rfl) ?_
  refine lv_aload_n hx hb dL_law_968 rfl (lv_at hl 1 rfl) ?_
  refine lv_iload hx hb dL_law_969 (lv_at hl 6 rfl) ?_
  refine lv_iconst (v := 1) hx hb dL_law_971 (by decide) ?_
  refine lv_iadd hx hb dL_law_972 ?_
  refine lv_topi (fun v20 e21 => ?_)
  obtain rfl : v20 = nI ((6 * k) + 1) := e21.trans (nI_add (6 * k) 1)
  refine va_sld hx hb hX hbl hbA hS (vp_in_nI (by omega) (by omega)) dL_law_973 ?_
  refine lv_topi (fun v22 e23 => ?_)
  obtain rfl : v3 = v22 := e4.trans e23.symm
  refine lv_aload_n hx hb dL_law_974 rfl (lv_at hl 1 rfl) ?_
  refine lv_iload hx hb dL_law_975 (lv_at hl 6 rfl) ?_
  refine lv_iconst (v := 2) hx hb dL_law_977 (by decide) ?_
  refine lv_iadd hx hb dL_law_978 ?_
  refine lv_topi (fun v24 e25 => ?_)
  obtain rfl : v24 = nI ((6 * k) + 2) := e25.trans (nI_add (6 * k) 2)
  refine va_sld hx hb hX hbl hbA hS (vp_in_nI (by omega) (by omega)) dL_law_979 ?_
  refine lv_topi (fun v26 e27 => ?_)
  obtain rfl : v7 = v26 := e8.trans e27.symm
  refine lv_aload_n hx hb dL_law_980 rfl (lv_at hl 1 rfl) ?_
  refine lv_iload hx hb dL_law_981 (lv_at hl 6 rfl) ?_
  refine lv_iconst (v := 3) hx hb dL_law_983 (by decide) ?_
  refine lv_iadd hx hb dL_law_984 ?_
  refine lv_topi (fun v28 e29 => ?_)
  obtain rfl : v28 = nI ((6 * k) + 3) := e29.trans (nI_add (6 * k) 3)
  refine va_sld hx hb hX hbl hbA hS (vp_in_nI (by omega) (by omega)) dL_law_985 ?_
  refine lv_topi (fun v30 e31 => ?_)
  obtain rfl : v11 = v30 := e12.trans e31.symm
  obtain ⟨u32, u33, hP, hf⟩ := o_mo (i := 0) (q := mo) hM (by omega)
  refine va_calli (va_runV (As := [.int v3, .int v7, .int v11]) (rest := []) ⟨hx, hb, hml, hown, hts⟩ (rmf_creep l dC dI kA eD b g15 mo v3 v7 v11 (by omega)) (cwV 3 hts gL_law_X6_creep rfl rfl rfl (by decide +kernel) ⟨Nat.le_of_ble_eq_true rfl, Nat.le_of_ble_eq_true rfl⟩) ⟨fb_CX, va_recv hK hP (ci := 10) (q0 := 0) rfl rfl, fun U hU hW => ⟨rfl, CX.give hb0 hM hK hG hE hS hU hW⟩⟩ rfl rfl hl.1 rfl (lv_room (Nat.le_of_ble_eq_true rfl)) dL_law_986 ⟨(show C + 1 + 0 ≤ 960594 by omega), (show S + 6 + 0 ≤ 6134452 by omega)⟩) hS (fun q _ h => h) (fun q h => h) (fun r34 g36 t H locs ht hvm hw35 hB hz1 hk1 hS => ?_)
  have hM := hB.back ht
  have hG := hB.2.2.2.1
  have hlx := lx_N hI (Or.inl hw14) hM1 hG1 hw35 hM hG
  have ht37 : tg g36 o = 1 := hlx.1.2.2.1
  have ht38 : tg g36 mo = 17 := hlx.1.2.2.2.1
  have ht39 : tg g36 q = 34 := hlx.1.2.2.2.2.1
  have ht40 : tg g36 q2 = 35 := hlx.1.2.2.2.2.2.1
  refine lv_istore (lv' := [(7, .int r34), (6, .int r13), (0, .ref b0), (1, .ref o), (2, .ref mo), (3, .ref q), (4, .ref q2), (5, .int (nI (6 * k)))]) hx hb dL_law_989 hl (by decide) rfl (fun ls hl => ?_)
  refine lv_goto (tgt := 1913) hx hb dL_law_991 (by decide) ?_
  exact hnext g36 H _ ls _ _ ⟨hM, hG, hlx.1.2.2⟩ (by have h9 := hlx.2 C S k hR; unfold RI at h9 ⊢; omega) hS (lv_sub hl [2, 3, 4, 5, 6, 7] rfl)

set_option maxHeartbeats 4000000 in
set_option maxRecDepth 100000 in
/-- the law: a call of age -/
theorem case_20 {p : Program} {l : Launch} {e : Env} {s : State} {m : MethodId} {below : List Frame} {meth : Method} {c : Code} (hlt : l.stackTraces = false) {b0 L : Nat} {xs : Nat → Int32} (C0 : lw_At p s m meth c b0 L xs) (hL : L ≤ 3072) (dC : Nat → ClassId) (dI : Nat → Nat → Nat) (kA : Nat → ClassId) (eD b o mo q q2 k : Nat) (hb9 : b = s.heap.size) (hb0 : b ≤ s.heap.size) (hk : 6 * k + 6 ≤ L) (hK : va_K (dC, dI) vwCl (TYS kA) s) (hE : EX eD b s) (hnext : ∀ (g : Gh) (H : Heap) (locs : List Loc) (ls : Array Slot) (C S : Nat), LI (dC, dI) kA b eD o mo q q2 g H → RI g mo C S (k + 1) → va_S (fun q => b ≤ q) s.heap H locs → lv_has ls 9 [(0, .ref b0), (1, .ref o), (2, .ref mo), (3, .ref q), (4, .ref q2), (5, .int (nI (6 * k)))] → W p l e room_1 s m #[Value.ref b0] below meth c H locs C S (lw_Z below #[Value.ref b0] s) (F0 m 1913 ls [])) {g : Gh} {H : Heap} {locs : List Loc} {ls : Array Slot} {C S : Nat} (hI : LI (dC, dI) kA b eD o mo q q2 g H) (hR : RI g mo C S k) (hS : va_S (fun q => b ≤ q) s.heap H locs) (hl : lv_has ls 9 [(0, .ref b0), (1, .ref o), (2, .ref mo), (3, .ref q), (4, .ref q2), (5, .int (nI (6 * k)))]) : W p l e room_1 s m #[Value.ref b0] below meth c H locs C S (lw_Z below #[Value.ref b0] s) (F0 m 994 ls []) := by
  obtain ⟨hx, hb, hr, hml, hown, hts0, hX, hbl, hlocks, hgv⟩ := id C0
  have hts : ∀ w ∈ wzL_law, w.before #[Value.ref b0] s = true := fun w h => hts0 w (wzL_law_in w h)
  have hbA : ¬ (fun q : Nat => b ≤ q) b0 := by show ¬ b ≤ b0; omega
  have hT := hE.1
  have hN := hE.2.2.2.2.2.2.2.1
  obtain ⟨hM, hG, hto, htm, htq, htq2, -, hed⟩ := id hI
  have hRC : C ≤ 430000 := by have h9 := hR; unfold RI at h9; omega
  have hRS : S ≤ 3400000 := by have h9 := hR; unfold RI at h9; omega
  refine lv_aload_n hx hb dL_law_994 rfl (lv_at hl 1 rfl) ?_
  refine lv_aload_n hx hb dL_law_995 rfl (lv_at hl 0 rfl) ?_
  refine lv_iload hx hb dL_law_996 (lv_at hl 5 rfl) ?_
  refine lv_iconst (v := 1) hx hb dL_law_998 (by decide) ?_
  refine lv_iadd hx hb dL_law_999 ?_
  refine lv_topi (fun v1 e2 => ?_)
  obtain rfl : v1 = nI ((6 * k) + 1) := e2.trans (nI_add (6 * k) 1)
  refine va_sld hx hb hX hbl hbA hS (vp_in_nI (by omega) (by omega)) dL_law_1000 ?_
  refine lv_topi (fun v3 e4 => ?_)
  refine lv_aload_n hx hb dL_law_1001 rfl (lv_at hl 0 rfl) ?_
  refine lv_iload hx hb dL_law_1002 (lv_at hl 5 rfl) ?_
  refine lv_iconst (v := 2) hx hb dL_law_1004 (by decide) ?_
  refine lv_iadd hx hb dL_law_1005 ?_
  refine lv_topi (fun v5 e6 => ?_)
  obtain rfl : v5 = nI ((6 * k) + 2) := e6.trans (nI_add (6 * k) 2)
  refine va_sld hx hb hX hbl hbA hS (vp_in_nI (by omega) (by omega)) dL_law_1006 ?_
  refine lv_topi (fun v7 e8 => ?_)
  refine lv_aload_n hx hb dL_law_1007 rfl (lv_at hl 0 rfl) ?_
  refine lv_iload hx hb dL_law_1008 (lv_at hl 5 rfl) ?_
  refine lv_iconst (v := 3) hx hb dL_law_1010 (by decide) ?_
  refine lv_iadd hx hb dL_law_1011 ?_
  refine lv_topi (fun v9 e10 => ?_)
  obtain rfl : v9 = nI ((6 * k) + 3) := e10.trans (nI_add (6 * k) 3)
  refine va_sld hx hb hX hbl hbA hS (vp_in_nI (by omega) (by omega)) dL_law_1012 ?_
  refine lv_topi (fun v11 e12 => ?_)
  refine lv_aload_n hx hb dL_law_1013 rfl (lv_at hl 3 rfl) ?_
  refine va_calli (vx_runSW (As := [.ref o, .int v3, .int v7, .int v11, .ref q]) (rest := []) ⟨hx, hb, hml, hown, hts⟩ (rh_age l hlt dC dI kA eD b g o q v3 v7 v11 (by omega) (by omega)) (vx_cwSW 5 hts gL_law_L_age rfl rfl rfl (by decide +kernel) ⟨Nat.le_of_ble_eq_true rfl, Nat.le_of_ble_eq_true rfl⟩) ⟨fb_CX, fun U hU hW => ⟨rfl, CX.give hb0 hM hK hG hE hS hU hW⟩⟩ rfl rfl hl.1 rfl (lv_room (Nat.le_of_ble_eq_true rfl)) dL_law_1014 ⟨(show C + 1 ≤ 960594 by omega), (show S + 6 ≤ 6134452 by omega)⟩) hS (fun q _ h => h) (fun q h => h) (fun r13 g15 t H locs ht hvm hw14 hB hz1 hk1 hS => ?_)
  have hM := hB.back ht
  have hG := hB.2.2.2.1
  have hM1 := hM
  have hG1 := hG
  have hkt : ∀ a : Nat, tg g a ≠ 0 → tg g15 a = tg g a := fun a _ => by obtain ⟨f9, h9⟩ := hw14; rw [h9]; rfl
  have ht16 : tg g15 o = 1 := (hkt o (by omega)).trans hto
  have ht17 : tg g15 mo = 17 := (hkt mo (by omega)).trans htm
  have ht18 : tg g15 q = 34 := (hkt q (by omega)).trans htq
  have ht19 : tg g15 q2 = 35 := (hkt q2 (by omega)).trans htq2
  refine lv_istore (lv' := [(6, .int r13), (0, .ref b0), (1, .ref o), (2, .ref mo), (3, .ref q), (4, .ref q2), (5, .int (nI (6 * k)))]) hx hb dL_law_1017 hl (by decide) rfl (fun ls hl => ?_)
  refine lv_aload_n hx hb dL_law_1019 rfl (lv_at hl 3 rfl) ?_
  refine lv_aload_n hx hb dL_law_1020 rfl (lv_at hl 1 rfl) ?_
  refine lv_iload hx hb dL_law_1021 (lv_at hl 6 rfl) ?_
  refine lv_iconst (v := 1) hx hb dL_law_1023 (by decide) ?_
  refine lv_iadd hx hb dL_law_1024 ?_
  refine lv_topi (fun v20 e21 => ?_)
  obtain rfl : v20 = nI ((6 * k) + 1) := e21.trans (nI_add (6 * k) 1)
  refine va_sld hx hb hX hbl hbA hS (vp_in_nI (by omega) (by omega)) dL_law_1025 ?_
  refine lv_topi (fun v22 e23 => ?_)
  obtain rfl : v3 = v22 := e4.trans e23.symm
  refine lv_aload_n hx hb dL_law_1026 rfl (lv_at hl 1 rfl) ?_
  refine lv_iload hx hb dL_law_1027 (lv_at hl 6 rfl) ?_
  refine lv_iconst (v := 2) hx hb dL_law_1029 (by decide) ?_
  refine lv_iadd hx hb dL_law_1030 ?_
  refine lv_topi (fun v24 e25 => ?_)
  obtain rfl : v24 = nI ((6 * k) + 2) := e25.trans (nI_add (6 * k) 2)
  refine va_sld hx hb hX hbl hbA hS (vp_in_nI (by omega) (by omega)) dL_law_1031 ?_
  refine lv_topi (fun v26 e27 => ?_)
  obtain rfl : v7 = v26 := e8.trans e27.symm
  refine lv_aload_n hx hb dL_law_1032 rfl (lv_at hl 1 rfl) ?_
  refine lv_iload hx hb dL_law_1033 (lv_at hl 6 rfl) ?_
  refine lv_iconst (v := 3) hx hb dL_law_1035 (by decide) ?_
  refine lv_iadd hx hb dL_law_1036 ?_
  refine lv_topi (fun v28 e29 => ?_)
  obtain rfl : v28 = nI ((6 * k) + 3) := e29.trans (nI_add (6 * k) 3)
  refine va_sld hx hb hX hbl hbA hS (vp_in_nI (by omega) (by omega)) dL_law_1037 ?_
  refine lv_topi (fun v30 e31 => ?_)
  obtain rfl : v11 = v30 := e12.trans e31.symm
  obtain ⟨u32, u33, hP, hf⟩ := o_mo (i := 0) (q := mo) hM (by omega)
  refine va_calli (va_runV (As := [.int v3, .int v7, .int v11]) (rest := []) ⟨hx, hb, hml, hown, hts⟩ (rmf_age l dC dI kA eD b g15 mo v3 v7 v11 (by omega)) (cwV 3 hts gL_law_X6_age rfl rfl rfl (by decide +kernel) ⟨Nat.le_of_ble_eq_true rfl, Nat.le_of_ble_eq_true rfl⟩) ⟨fb_CX, va_recv hK hP (ci := 10) (q0 := 0) rfl rfl, fun U hU hW => ⟨rfl, CX.give hb0 hM hK hG hE hS hU hW⟩⟩ rfl rfl hl.1 rfl (lv_room (Nat.le_of_ble_eq_true rfl)) dL_law_1038 ⟨(show C + 1 + 0 ≤ 960594 by omega), (show S + 6 + 0 ≤ 6134452 by omega)⟩) hS (fun q _ h => h) (fun q h => h) (fun r34 g36 t H locs ht hvm hw35 hB hz1 hk1 hS => ?_)
  have hM := hB.back ht
  have hG := hB.2.2.2.1
  have hlx := lx_N hI (Or.inl hw14) hM1 hG1 hw35 hM hG
  have ht37 : tg g36 o = 1 := hlx.1.2.2.1
  have ht38 : tg g36 mo = 17 := hlx.1.2.2.2.1
  have ht39 : tg g36 q = 34 := hlx.1.2.2.2.2.1
  have ht40 : tg g36 q2 = 35 := hlx.1.2.2.2.2.2.1
  refine lv_istore (lv' := [(7, .int r34), (6, .int r13), (0, .ref b0), (1, .ref o), (2, .ref mo), (3, .ref q), (4, .ref q2), (5, .int (nI (6 * k)))]) hx hb dL_law_1041 hl (by decide) rfl (fun ls hl => ?_)
  refine lv_goto (tgt := 1913) hx hb dL_law_1043 (by decide) ?_
  exact hnext g36 H _ ls _ _ ⟨hM, hG, hlx.1.2.2⟩ (by have h9 := hlx.2 C S k hR; unfold RI at h9 ⊢; omega) hS (lv_sub hl [2, 3, 4, 5, 6, 7] rfl)

set_option maxHeartbeats 4000000 in
set_option maxRecDepth 100000 in
/-- the law: a call of isArch -/
theorem case_21 {p : Program} {l : Launch} {e : Env} {s : State} {m : MethodId} {below : List Frame} {meth : Method} {c : Code} (hlt : l.stackTraces = false) {b0 L : Nat} {xs : Nat → Int32} (C0 : lw_At p s m meth c b0 L xs) (hL : L ≤ 3072) (dC : Nat → ClassId) (dI : Nat → Nat → Nat) (kA : Nat → ClassId) (eD b o mo q q2 k : Nat) (hb9 : b = s.heap.size) (hb0 : b ≤ s.heap.size) (hk : 6 * k + 6 ≤ L) (hK : va_K (dC, dI) vwCl (TYS kA) s) (hE : EX eD b s) (hnext : ∀ (g : Gh) (H : Heap) (locs : List Loc) (ls : Array Slot) (C S : Nat), LI (dC, dI) kA b eD o mo q q2 g H → RI g mo C S (k + 1) → va_S (fun q => b ≤ q) s.heap H locs → lv_has ls 9 [(0, .ref b0), (1, .ref o), (2, .ref mo), (3, .ref q), (4, .ref q2), (5, .int (nI (6 * k)))] → W p l e room_1 s m #[Value.ref b0] below meth c H locs C S (lw_Z below #[Value.ref b0] s) (F0 m 1913 ls [])) {g : Gh} {H : Heap} {locs : List Loc} {ls : Array Slot} {C S : Nat} (hI : LI (dC, dI) kA b eD o mo q q2 g H) (hR : RI g mo C S k) (hS : va_S (fun q => b ≤ q) s.heap H locs) (hl : lv_has ls 9 [(0, .ref b0), (1, .ref o), (2, .ref mo), (3, .ref q), (4, .ref q2), (5, .int (nI (6 * k)))]) : W p l e room_1 s m #[Value.ref b0] below meth c H locs C S (lw_Z below #[Value.ref b0] s) (F0 m 1046 ls []) := by
  obtain ⟨hx, hb, hr, hml, hown, hts0, hX, hbl, hlocks, hgv⟩ := id C0
  have hts : ∀ w ∈ wzL_law, w.before #[Value.ref b0] s = true := fun w h => hts0 w (wzL_law_in w h)
  have hbA : ¬ (fun q : Nat => b ≤ q) b0 := by show ¬ b ≤ b0; omega
  have hT := hE.1
  have hN := hE.2.2.2.2.2.2.2.1
  obtain ⟨hM, hG, hto, htm, htq, htq2, -, hed⟩ := id hI
  have hRC : C ≤ 430000 := by have h9 := hR; unfold RI at h9; omega
  have hRS : S ≤ 3400000 := by have h9 := hR; unfold RI at h9; omega
  refine lv_aload_n hx hb dL_law_1046 rfl (lv_at hl 1 rfl) ?_
  refine lv_aload_n hx hb dL_law_1047 rfl (lv_at hl 0 rfl) ?_
  refine lv_iload hx hb dL_law_1048 (lv_at hl 5 rfl) ?_
  refine lv_iconst (v := 1) hx hb dL_law_1050 (by decide) ?_
  refine lv_iadd hx hb dL_law_1051 ?_
  refine lv_topi (fun v1 e2 => ?_)
  obtain rfl : v1 = nI ((6 * k) + 1) := e2.trans (nI_add (6 * k) 1)
  refine va_sld hx hb hX hbl hbA hS (vp_in_nI (by omega) (by omega)) dL_law_1052 ?_
  refine lv_topi (fun v3 e4 => ?_)
  refine lv_aload_n hx hb dL_law_1053 rfl (lv_at hl 0 rfl) ?_
  refine lv_iload hx hb dL_law_1054 (lv_at hl 5 rfl) ?_
  refine lv_iconst (v := 2) hx hb dL_law_1056 (by decide) ?_
  refine lv_iadd hx hb dL_law_1057 ?_
  refine lv_topi (fun v5 e6 => ?_)
  obtain rfl : v5 = nI ((6 * k) + 2) := e6.trans (nI_add (6 * k) 2)
  refine va_sld hx hb hX hbl hbA hS (vp_in_nI (by omega) (by omega)) dL_law_1058 ?_
  refine lv_topi (fun v7 e8 => ?_)
  refine lv_aload_n hx hb dL_law_1059 rfl (lv_at hl 0 rfl) ?_
  refine lv_iload hx hb dL_law_1060 (lv_at hl 5 rfl) ?_
  refine lv_iconst (v := 3) hx hb dL_law_1062 (by decide) ?_
  refine lv_iadd hx hb dL_law_1063 ?_
  refine lv_topi (fun v9 e10 => ?_)
  obtain rfl : v9 = nI ((6 * k) + 3) := e10.trans (nI_add (6 * k) 3)
  refine va_sld hx hb hX hbl hbA hS (vp_in_nI (by omega) (by omega)) dL_law_1064 ?_
  refine lv_topi (fun v11 e12 => ?_)
  refine lv_aload_n hx hb dL_law_1065 rfl (lv_at hl 3 rfl) ?_
  refine va_calli (vx_runSW (As := [.ref o, .int v3, .int v7, .int v11, .ref q]) (rest := []) ⟨hx, hb, hml, hown, hts⟩ (rh_isArch l hlt dC dI kA eD b g o q v3 v7 v11 (by omega) (by omega)) (vx_cwSW 5 hts gL_law_L_isArch rfl rfl rfl (by decide +kernel) ⟨Nat.le_of_ble_eq_true rfl, Nat.le_of_ble_eq_true rfl⟩) ⟨fb_CX, fun U hU hW => ⟨rfl, CX.give hb0 hM hK hG hE hS hU hW⟩⟩ rfl rfl hl.1 rfl (lv_room (Nat.le_of_ble_eq_true rfl)) dL_law_1066 ⟨(show C + 1 ≤ 960594 by omega), (show S + 6 ≤ 6134452 by omega)⟩) hS (fun q _ h => h) (fun q h => h) (fun r13 g15 t H locs ht hvm hw14 hB hz1 hk1 hS => ?_)
  have hM := hB.back ht
  have hG := hB.2.2.2.1
  have hM1 := hM
  have hG1 := hG
  have hkt : ∀ a : Nat, tg g a ≠ 0 → tg g15 a = tg g a := fun a _ => by obtain ⟨f9, h9⟩ := hw14; rw [h9]; rfl
  have ht16 : tg g15 o = 1 := (hkt o (by omega)).trans hto
  have ht17 : tg g15 mo = 17 := (hkt mo (by omega)).trans htm
  have ht18 : tg g15 q = 34 := (hkt q (by omega)).trans htq
  have ht19 : tg g15 q2 = 35 := (hkt q2 (by omega)).trans htq2
  refine lv_istore (lv' := [(6, .int r13), (0, .ref b0), (1, .ref o), (2, .ref mo), (3, .ref q), (4, .ref q2), (5, .int (nI (6 * k)))]) hx hb dL_law_1069 hl (by decide) rfl (fun ls hl => ?_)
  refine lv_aload_n hx hb dL_law_1071 rfl (lv_at hl 3 rfl) ?_
  refine lv_aload_n hx hb dL_law_1072 rfl (lv_at hl 1 rfl) ?_
  refine lv_iload hx hb dL_law_1073 (lv_at hl 6 rfl) ?_
  refine lv_iconst (v := 1) hx hb dL_law_1075 (by decide) ?_
  refine lv_iadd hx hb dL_law_1076 ?_
  refine lv_topi (fun v20 e21 => ?_)
  obtain rfl : v20 = nI ((6 * k) + 1) := e21.trans (nI_add (6 * k) 1)
  refine va_sld hx hb hX hbl hbA hS (vp_in_nI (by omega) (by omega)) dL_law_1077 ?_
  refine lv_topi (fun v22 e23 => ?_)
  obtain rfl : v3 = v22 := e4.trans e23.symm
  refine lv_aload_n hx hb dL_law_1078 rfl (lv_at hl 1 rfl) ?_
  refine lv_iload hx hb dL_law_1079 (lv_at hl 6 rfl) ?_
  refine lv_iconst (v := 2) hx hb dL_law_1081 (by decide) ?_
  refine lv_iadd hx hb dL_law_1082 ?_
  refine lv_topi (fun v24 e25 => ?_)
  obtain rfl : v24 = nI ((6 * k) + 2) := e25.trans (nI_add (6 * k) 2)
  refine va_sld hx hb hX hbl hbA hS (vp_in_nI (by omega) (by omega)) dL_law_1083 ?_
  refine lv_topi (fun v26 e27 => ?_)
  obtain rfl : v7 = v26 := e8.trans e27.symm
  refine lv_aload_n hx hb dL_law_1084 rfl (lv_at hl 1 rfl) ?_
  refine lv_iload hx hb dL_law_1085 (lv_at hl 6 rfl) ?_
  refine lv_iconst (v := 3) hx hb dL_law_1087 (by decide) ?_
  refine lv_iadd hx hb dL_law_1088 ?_
  refine lv_topi (fun v28 e29 => ?_)
  obtain rfl : v28 = nI ((6 * k) + 3) := e29.trans (nI_add (6 * k) 3)
  refine va_sld hx hb hX hbl hbA hS (vp_in_nI (by omega) (by omega)) dL_law_1089 ?_
  refine lv_topi (fun v30 e31 => ?_)
  obtain rfl : v11 = v30 := e12.trans e31.symm
  obtain ⟨u32, u33, hP, hf⟩ := o_mo (i := 0) (q := mo) hM (by omega)
  refine va_calli (va_runV (As := [.int v3, .int v7, .int v11]) (rest := []) ⟨hx, hb, hml, hown, hts⟩ (rmf_isArch l dC dI kA eD b g15 mo v3 v7 v11 (by omega)) (cwV 3 hts gL_law_X6_isArch rfl rfl rfl (by decide +kernel) ⟨Nat.le_of_ble_eq_true rfl, Nat.le_of_ble_eq_true rfl⟩) ⟨fb_CX, va_recv hK hP (ci := 10) (q0 := 0) rfl rfl, fun U hU hW => ⟨rfl, CX.give hb0 hM hK hG hE hS hU hW⟩⟩ rfl rfl hl.1 rfl (lv_room (Nat.le_of_ble_eq_true rfl)) dL_law_1090 ⟨(show C + 1 + 0 ≤ 960594 by omega), (show S + 6 + 0 ≤ 6134452 by omega)⟩) hS (fun q _ h => h) (fun q h => h) (fun r34 g36 t H locs ht hvm hw35 hB hz1 hk1 hS => ?_)
  have hM := hB.back ht
  have hG := hB.2.2.2.1
  have hlx := lx_N hI (Or.inl hw14) hM1 hG1 hw35 hM hG
  have ht37 : tg g36 o = 1 := hlx.1.2.2.1
  have ht38 : tg g36 mo = 17 := hlx.1.2.2.2.1
  have ht39 : tg g36 q = 34 := hlx.1.2.2.2.2.1
  have ht40 : tg g36 q2 = 35 := hlx.1.2.2.2.2.2.1
  refine lv_istore (lv' := [(7, .int r34), (6, .int r13), (0, .ref b0), (1, .ref o), (2, .ref mo), (3, .ref q), (4, .ref q2), (5, .int (nI (6 * k)))]) hx hb dL_law_1093 hl (by decide) rfl (fun ls hl => ?_)
  refine lv_goto (tgt := 1913) hx hb dL_law_1095 (by decide) ?_
  exact hnext g36 H _ ls _ _ ⟨hM, hG, hlx.1.2.2⟩ (by have h9 := hlx.2 C S k hR; unfold RI at h9 ⊢; omega) hS (lv_sub hl [2, 3, 4, 5, 6, 7] rfl)

set_option maxHeartbeats 4000000 in
set_option maxRecDepth 100000 in
/-- the law: a call of fell -/
theorem case_22 {p : Program} {l : Launch} {e : Env} {s : State} {m : MethodId} {below : List Frame} {meth : Method} {c : Code} (hlt : l.stackTraces = false) {b0 L : Nat} {xs : Nat → Int32} (C0 : lw_At p s m meth c b0 L xs) (hL : L ≤ 3072) (dC : Nat → ClassId) (dI : Nat → Nat → Nat) (kA : Nat → ClassId) (eD b o mo q q2 k : Nat) (hb9 : b = s.heap.size) (hb0 : b ≤ s.heap.size) (hk : 6 * k + 6 ≤ L) (hK : va_K (dC, dI) vwCl (TYS kA) s) (hE : EX eD b s) (hnext : ∀ (g : Gh) (H : Heap) (locs : List Loc) (ls : Array Slot) (C S : Nat), LI (dC, dI) kA b eD o mo q q2 g H → RI g mo C S (k + 1) → va_S (fun q => b ≤ q) s.heap H locs → lv_has ls 9 [(0, .ref b0), (1, .ref o), (2, .ref mo), (3, .ref q), (4, .ref q2), (5, .int (nI (6 * k)))] → W p l e room_1 s m #[Value.ref b0] below meth c H locs C S (lw_Z below #[Value.ref b0] s) (F0 m 1913 ls [])) {g : Gh} {H : Heap} {locs : List Loc} {ls : Array Slot} {C S : Nat} (hI : LI (dC, dI) kA b eD o mo q q2 g H) (hR : RI g mo C S k) (hS : va_S (fun q => b ≤ q) s.heap H locs) (hl : lv_has ls 9 [(0, .ref b0), (1, .ref o), (2, .ref mo), (3, .ref q), (4, .ref q2), (5, .int (nI (6 * k)))]) : W p l e room_1 s m #[Value.ref b0] below meth c H locs C S (lw_Z below #[Value.ref b0] s) (F0 m 1098 ls []) := by
  obtain ⟨hx, hb, hr, hml, hown, hts0, hX, hbl, hlocks, hgv⟩ := id C0
  have hts : ∀ w ∈ wzL_law, w.before #[Value.ref b0] s = true := fun w h => hts0 w (wzL_law_in w h)
  have hbA : ¬ (fun q : Nat => b ≤ q) b0 := by show ¬ b ≤ b0; omega
  have hT := hE.1
  have hN := hE.2.2.2.2.2.2.2.1
  obtain ⟨hM, hG, hto, htm, htq, htq2, -, hed⟩ := id hI
  have hRC : C ≤ 430000 := by have h9 := hR; unfold RI at h9; omega
  have hRS : S ≤ 3400000 := by have h9 := hR; unfold RI at h9; omega
  refine lv_aload_n hx hb dL_law_1098 rfl (lv_at hl 1 rfl) ?_
  refine lv_aload_n hx hb dL_law_1099 rfl (lv_at hl 0 rfl) ?_
  refine lv_iload hx hb dL_law_1100 (lv_at hl 5 rfl) ?_
  refine lv_iconst (v := 1) hx hb dL_law_1102 (by decide) ?_
  refine lv_iadd hx hb dL_law_1103 ?_
  refine lv_topi (fun v1 e2 => ?_)
  obtain rfl : v1 = nI ((6 * k) + 1) := e2.trans (nI_add (6 * k) 1)
  refine va_sld hx hb hX hbl hbA hS (vp_in_nI (by omega) (by omega)) dL_law_1104 ?_
  refine lv_topi (fun v3 e4 => ?_)
  refine lv_aload_n hx hb dL_law_1105 rfl (lv_at hl 3 rfl) ?_
  refine va_calli (vx_runSW (As := [.ref o, .int v3, .ref q]) (rest := []) ⟨hx, hb, hml, hown, hts⟩ (rh_fell l hlt dC dI kA eD b g o q v3 (by omega) (by omega)) (vx_cwSW 3 hts gL_law_L_fell rfl rfl rfl (by decide +kernel) ⟨Nat.le_of_ble_eq_true rfl, Nat.le_of_ble_eq_true rfl⟩) ⟨fb_CX, fun U hU hW => ⟨rfl, CX.give hb0 hM hK hG hE hS hU hW⟩⟩ rfl rfl hl.1 rfl (lv_room (Nat.le_of_ble_eq_true rfl)) dL_law_1106 ⟨(show C + 1 ≤ 960594 by omega), (show S + 6 ≤ 6134452 by omega)⟩) hS (fun q _ h => h) (fun q h => h) (fun r5 g7 t H locs ht hvm hw6 hB hz1 hk1 hS => ?_)
  have hM := hB.back ht
  have hG := hB.2.2.2.1
  have hM1 := hM
  have hG1 := hG
  have hkt : ∀ a : Nat, tg g a ≠ 0 → tg g7 a = tg g a := fun a _ => by obtain ⟨f9, h9⟩ := hw6; rw [h9]; rfl
  have ht8 : tg g7 o = 1 := (hkt o (by omega)).trans hto
  have ht9 : tg g7 mo = 17 := (hkt mo (by omega)).trans htm
  have ht10 : tg g7 q = 34 := (hkt q (by omega)).trans htq
  have ht11 : tg g7 q2 = 35 := (hkt q2 (by omega)).trans htq2
  refine lv_istore (lv' := [(6, .int r5), (0, .ref b0), (1, .ref o), (2, .ref mo), (3, .ref q), (4, .ref q2), (5, .int (nI (6 * k)))]) hx hb dL_law_1109 hl (by decide) rfl (fun ls hl => ?_)
  refine lv_aload_n hx hb dL_law_1111 rfl (lv_at hl 3 rfl) ?_
  refine lv_aload_n hx hb dL_law_1112 rfl (lv_at hl 1 rfl) ?_
  refine lv_iload hx hb dL_law_1113 (lv_at hl 6 rfl) ?_
  refine lv_iconst (v := 1) hx hb dL_law_1115 (by decide) ?_
  refine lv_iadd hx hb dL_law_1116 ?_
  refine lv_topi (fun v12 e13 => ?_)
  obtain rfl : v12 = nI ((6 * k) + 1) := e13.trans (nI_add (6 * k) 1)
  refine va_sld hx hb hX hbl hbA hS (vp_in_nI (by omega) (by omega)) dL_law_1117 ?_
  refine lv_topi (fun v14 e15 => ?_)
  obtain rfl : v3 = v14 := e4.trans e15.symm
  obtain ⟨u16, u17, hP, hf⟩ := o_mo (i := 0) (q := mo) hM (by omega)
  refine va_calli (va_runV (As := [.int v3]) (rest := []) ⟨hx, hb, hml, hown, hts⟩ (rmf_fell l dC dI kA eD b g7 mo v3 (by omega)) (cwV 1 hts gL_law_X6_fell rfl rfl rfl (by decide +kernel) ⟨Nat.le_of_ble_eq_true rfl, Nat.le_of_ble_eq_true rfl⟩) ⟨fb_CX, va_recv hK hP (ci := 10) (q0 := 0) rfl rfl, fun U hU hW => ⟨rfl, CX.give hb0 hM hK hG hE hS hU hW⟩⟩ rfl rfl hl.1 rfl (lv_room (Nat.le_of_ble_eq_true rfl)) dL_law_1118 ⟨(show C + 1 + 0 ≤ 960594 by omega), (show S + 6 + 0 ≤ 6134452 by omega)⟩) hS (fun q _ h => h) (fun q h => h) (fun r18 g20 t H locs ht hvm hw19 hB hz1 hk1 hS => ?_)
  have hM := hB.back ht
  have hG := hB.2.2.2.1
  have hlx := lx_N hI (Or.inl hw6) hM1 hG1 hw19 hM hG
  have ht21 : tg g20 o = 1 := hlx.1.2.2.1
  have ht22 : tg g20 mo = 17 := hlx.1.2.2.2.1
  have ht23 : tg g20 q = 34 := hlx.1.2.2.2.2.1
  have ht24 : tg g20 q2 = 35 := hlx.1.2.2.2.2.2.1
  refine lv_istore (lv' := [(7, .int r18), (6, .int r5), (0, .ref b0), (1, .ref o), (2, .ref mo), (3, .ref q), (4, .ref q2), (5, .int (nI (6 * k)))]) hx hb dL_law_1121 hl (by decide) rfl (fun ls hl => ?_)
  refine lv_goto (tgt := 1913) hx hb dL_law_1123 (by decide) ?_
  exact hnext g20 H _ ls _ _ ⟨hM, hG, hlx.1.2.2⟩ (by have h9 := hlx.2 C S k hR; unfold RI at h9 ⊢; omega) hS (lv_sub hl [2, 3, 4, 5, 6, 7] rfl)

set_option maxHeartbeats 4000000 in
set_option maxRecDepth 100000 in
/-- the law: a call of lastFell -/
theorem case_23 {p : Program} {l : Launch} {e : Env} {s : State} {m : MethodId} {below : List Frame} {meth : Method} {c : Code} (hlt : l.stackTraces = false) {b0 L : Nat} {xs : Nat → Int32} (C0 : lw_At p s m meth c b0 L xs) (hL : L ≤ 3072) (dC : Nat → ClassId) (dI : Nat → Nat → Nat) (kA : Nat → ClassId) (eD b o mo q q2 k : Nat) (hb9 : b = s.heap.size) (hb0 : b ≤ s.heap.size) (hk : 6 * k + 6 ≤ L) (hK : va_K (dC, dI) vwCl (TYS kA) s) (hE : EX eD b s) (hnext : ∀ (g : Gh) (H : Heap) (locs : List Loc) (ls : Array Slot) (C S : Nat), LI (dC, dI) kA b eD o mo q q2 g H → RI g mo C S (k + 1) → va_S (fun q => b ≤ q) s.heap H locs → lv_has ls 9 [(0, .ref b0), (1, .ref o), (2, .ref mo), (3, .ref q), (4, .ref q2), (5, .int (nI (6 * k)))] → W p l e room_1 s m #[Value.ref b0] below meth c H locs C S (lw_Z below #[Value.ref b0] s) (F0 m 1913 ls [])) {g : Gh} {H : Heap} {locs : List Loc} {ls : Array Slot} {C S : Nat} (hI : LI (dC, dI) kA b eD o mo q q2 g H) (hR : RI g mo C S k) (hS : va_S (fun q => b ≤ q) s.heap H locs) (hl : lv_has ls 9 [(0, .ref b0), (1, .ref o), (2, .ref mo), (3, .ref q), (4, .ref q2), (5, .int (nI (6 * k)))]) : W p l e room_1 s m #[Value.ref b0] below meth c H locs C S (lw_Z below #[Value.ref b0] s) (F0 m 1126 ls []) := by
  obtain ⟨hx, hb, hr, hml, hown, hts0, hX, hbl, hlocks, hgv⟩ := id C0
  have hts : ∀ w ∈ wzL_law, w.before #[Value.ref b0] s = true := fun w h => hts0 w (wzL_law_in w h)
  have hbA : ¬ (fun q : Nat => b ≤ q) b0 := by show ¬ b ≤ b0; omega
  have hT := hE.1
  have hN := hE.2.2.2.2.2.2.2.1
  obtain ⟨hM, hG, hto, htm, htq, htq2, -, hed⟩ := id hI
  have hRC : C ≤ 430000 := by have h9 := hR; unfold RI at h9; omega
  have hRS : S ≤ 3400000 := by have h9 := hR; unfold RI at h9; omega
  refine lv_aload_n hx hb dL_law_1126 rfl (lv_at hl 1 rfl) ?_
  refine lv_aload_n hx hb dL_law_1127 rfl (lv_at hl 0 rfl) ?_
  refine lv_iload hx hb dL_law_1128 (lv_at hl 5 rfl) ?_
  refine lv_iconst (v := 1) hx hb dL_law_1130 (by decide) ?_
  refine lv_iadd hx hb dL_law_1131 ?_
  refine lv_topi (fun v1 e2 => ?_)
  obtain rfl : v1 = nI ((6 * k) + 1) := e2.trans (nI_add (6 * k) 1)
  refine va_sld hx hb hX hbl hbA hS (vp_in_nI (by omega) (by omega)) dL_law_1132 ?_
  refine lv_topi (fun v3 e4 => ?_)
  refine lv_aload_n hx hb dL_law_1133 rfl (lv_at hl 3 rfl) ?_
  refine va_calli (vx_runSW (As := [.ref o, .int v3, .ref q]) (rest := []) ⟨hx, hb, hml, hown, hts⟩ (rh_lastFell l hlt dC dI kA eD b g o q v3 (by omega) (by omega)) (vx_cwSW 3 hts gL_law_L_lastFell rfl rfl rfl (by decide +kernel) ⟨Nat.le_of_ble_eq_true rfl, Nat.le_of_ble_eq_true rfl⟩) ⟨fb_CX, fun U hU hW => ⟨rfl, CX.give hb0 hM hK hG hE hS hU hW⟩⟩ rfl rfl hl.1 rfl (lv_room (Nat.le_of_ble_eq_true rfl)) dL_law_1134 ⟨(show C + 1 ≤ 960594 by omega), (show S + 6 ≤ 6134452 by omega)⟩) hS (fun q _ h => h) (fun q h => h) (fun r5 g7 t H locs ht hvm hw6 hB hz1 hk1 hS => ?_)
  have hM := hB.back ht
  have hG := hB.2.2.2.1
  have hM1 := hM
  have hG1 := hG
  have hkt : ∀ a : Nat, tg g a ≠ 0 → tg g7 a = tg g a := fun a _ => by obtain ⟨f9, h9⟩ := hw6; rw [h9]; rfl
  have ht8 : tg g7 o = 1 := (hkt o (by omega)).trans hto
  have ht9 : tg g7 mo = 17 := (hkt mo (by omega)).trans htm
  have ht10 : tg g7 q = 34 := (hkt q (by omega)).trans htq
  have ht11 : tg g7 q2 = 35 := (hkt q2 (by omega)).trans htq2
  refine lv_istore (lv' := [(6, .int r5), (0, .ref b0), (1, .ref o), (2, .ref mo), (3, .ref q), (4, .ref q2), (5, .int (nI (6 * k)))]) hx hb dL_law_1137 hl (by decide) rfl (fun ls hl => ?_)
  refine lv_aload_n hx hb dL_law_1139 rfl (lv_at hl 3 rfl) ?_
  refine lv_aload_n hx hb dL_law_1140 rfl (lv_at hl 1 rfl) ?_
  refine lv_iload hx hb dL_law_1141 (lv_at hl 6 rfl) ?_
  refine lv_iconst (v := 1) hx hb dL_law_1143 (by decide) ?_
  refine lv_iadd hx hb dL_law_1144 ?_
  refine lv_topi (fun v12 e13 => ?_)
  obtain rfl : v12 = nI ((6 * k) + 1) := e13.trans (nI_add (6 * k) 1)
  refine va_sld hx hb hX hbl hbA hS (vp_in_nI (by omega) (by omega)) dL_law_1145 ?_
  refine lv_topi (fun v14 e15 => ?_)
  obtain rfl : v3 = v14 := e4.trans e15.symm
  obtain ⟨u16, u17, hP, hf⟩ := o_mo (i := 0) (q := mo) hM (by omega)
  refine va_calli (va_runV (As := [.int v3]) (rest := []) ⟨hx, hb, hml, hown, hts⟩ (rmf_lastFell l dC dI kA eD b g7 mo v3 (by omega)) (cwV 1 hts gL_law_X6_lastFell rfl rfl rfl (by decide +kernel) ⟨Nat.le_of_ble_eq_true rfl, Nat.le_of_ble_eq_true rfl⟩) ⟨fb_CX, va_recv hK hP (ci := 10) (q0 := 0) rfl rfl, fun U hU hW => ⟨rfl, CX.give hb0 hM hK hG hE hS hU hW⟩⟩ rfl rfl hl.1 rfl (lv_room (Nat.le_of_ble_eq_true rfl)) dL_law_1146 ⟨(show C + 1 + 0 ≤ 960594 by omega), (show S + 6 + 0 ≤ 6134452 by omega)⟩) hS (fun q _ h => h) (fun q h => h) (fun r18 g20 t H locs ht hvm hw19 hB hz1 hk1 hS => ?_)
  have hM := hB.back ht
  have hG := hB.2.2.2.1
  have hlx := lx_N hI (Or.inl hw6) hM1 hG1 hw19 hM hG
  have ht21 : tg g20 o = 1 := hlx.1.2.2.1
  have ht22 : tg g20 mo = 17 := hlx.1.2.2.2.1
  have ht23 : tg g20 q = 34 := hlx.1.2.2.2.2.1
  have ht24 : tg g20 q2 = 35 := hlx.1.2.2.2.2.2.1
  refine lv_istore (lv' := [(7, .int r18), (6, .int r5), (0, .ref b0), (1, .ref o), (2, .ref mo), (3, .ref q), (4, .ref q2), (5, .int (nI (6 * k)))]) hx hb dL_law_1149 hl (by decide) rfl (fun ls hl => ?_)
  refine lv_goto (tgt := 1913) hx hb dL_law_1151 (by decide) ?_
  exact hnext g20 H _ ls _ _ ⟨hM, hG, hlx.1.2.2⟩ (by have h9 := hlx.2 C S k hR; unfold RI at h9 ⊢; omega) hS (lv_sub hl [2, 3, 4, 5, 6, 7] rfl)
