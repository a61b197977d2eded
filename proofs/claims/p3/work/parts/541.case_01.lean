set_option maxHeartbeats 4000000 in
set_option maxRecDepth 100000 in
/-- the law: a call of lastFell -/
theorem case_23 {p : Program} {l : Launch} {e : Env} {s : State} {m : MethodId} {below : List Frame} {meth : Method} {c : Code} (hlt : l.stackTraces = false) {b0 L : Nat} {xs : Nat → Int32} (C0 : lw_At p s m meth c b0 L xs) (hL : L ≤ 3072) (dC : Nat → ClassId) (dI : Nat → Nat → Nat) (kA : Nat → ClassId) (eD b o mo q q2 k : Nat) (hb9 : b = s.heap.size) (hb0 : b ≤ s.heap.size) (hk : 6 * k + 6 ≤ L) (hK : va_K (dC, dI) vwCl (TYS kA) s) (hE : EX eD b s) (hnext : ∀ (g : Gh) (H : Heap) (locs : List Loc) (ls : Array Slot) (C S : Nat), LI (dC, dI) kA b eD o mo q q2 g H → RI g mo C S (k + 1) → va_S (fun q => b ≤ q) s.heap H locs → lv_has ls 9 [(0, .ref b0), (1, .ref o), (2, .ref mo), (3, .ref q), (4, .ref q2), (5, .int (nI (6 * k)))] → W p l e room_1 s m #[Value.ref b0] below meth c H locs C S (lw_Z below #[Value.ref b0] s) (F0 m 1941 ls [])) {g : Gh} {H : Heap} {locs : List Loc} {ls : Array Slot} {C S : Nat} (hI : LI (dC, dI) kA b eD o mo q q2 g H) (hR : RI g mo C S k) (hS : va_S (fun q => b ≤ q) s.heap H locs) (hl : lv_has ls 9 [(0, .ref b0), (1, .ref o), (2, .ref mo), (3, .ref q), (4, .ref q2), (5, .int (nI (6 * k)))]) : W p l e room_1 s m #[Value.ref b0] below meth c H locs C S (lw_Z below #[Value.ref b0] s) (F0 m 1154 ls []) := by
  obtain ⟨hx, hb, hr, hml, hown, hts0, hX, hbl, hlocks, hgv⟩ := id C0
  have hts : ∀ w ∈ wzL_law, w.before #[Value.ref b0] s = true := fun w h => hts0 w (wzL_law_in w h)
  have hbA : ¬ (fun q : Nat => b ≤ q) b0 := by show ¬ b ≤ b0; omega
  have hT := hE.1
  have hN := hE.2.2.2.2.2.2.2.1
  obtain ⟨hM, hG, hto, htm, htq, htq2, -, hed⟩ := id hI
  have hRC : C ≤ 430000 := by have h9 := hR; unfold RI at h9; omega
  have hRS : S ≤ 3400000 := by have h9 := hR; unfold RI at h9; omega
  refine lv_aload_n hx hb dL_law_1154 rfl (lv_at hl 1 rfl) ?_
  refine lv_aload_n hx hb dL_law_1155 rfl (lv_at hl 0 rfl) ?_
  refine lv_iload hx hb dL_law_1156 (lv_at hl 5 rfl) ?_
  refine lv_iconst (v := 1) hx hb dL_law_1158 (by decide) ?_
  refine lv_iadd hx hb dL_law_1159 ?_
  refine lv_topi (fun v1 e2 => ?_)
  obtain rfl : v1 = nI ((6 * k) + 1) := e2.trans (nI_add (6 * k) 1)
  refine va_sld hx hb hX hbl hbA hS (vp_in_nI (by omega) (by omega)) dL_law_1160 ?_
  refine lv_topi (fun v3 e4 => ?_)
  refine lv_aload_n hx hb dL_law_1161 rfl (lv_at hl 3 rfl) ?_
  refine va_calli (vx_runSW (As := [.ref o, .int v3, .ref q]) (rest := []) ⟨hx, hb, hml, hown, hts⟩ (rh_lastFell l hlt dC dI kA eD b g o q v3 (by omega) (by omega)) (vx_cwSW 3 hts gL_law_L_lastFell rfl rfl rfl (by decide +kernel) ⟨Nat.le_of_ble_eq_true rfl, Nat.le_of_ble_eq_true rfl⟩) ⟨fb_CX, fun U hU hW => ⟨rfl, CX.give hb0 hM hK hG hE hS hU hW⟩⟩ rfl rfl hl.1 rfl (lv_room (Nat.le_of_ble_eq_true rfl)) dL_law_1162 ⟨(show C + 1 ≤ 960594 by omega), (show S + 6 ≤ 6134452 by omega)⟩) hS (fun q _ h => h) (fun q h => h) (fun r5 g7 t H locs ht hvm hw6 hB hz1 hk1 hS => ?_)
  have hM := hB.back ht
  have hG := hB.2.2.2.1
  have hM1 := hM
  have hG1 := hG
  have hkt : ∀ a : Nat, tg g a ≠ 0 → tg g7 a = tg g a := fun a _ => by obtain ⟨f9, h9⟩ := hw6; rw [h9]; rfl
  have ht8 : tg g7 o = 1 := (hkt o (by omega)).trans hto
  have ht9 : tg g7 mo = 17 := (hkt mo (by omega)).trans htm
  have ht10 : tg g7 q = 34 := (hkt q (by omega)).trans htq
  have ht11 : tg g7 q2 = 35 := (hkt q2 (by omega)).trans htq2
  refine lv_istore (lv' := [(6, .int r5), (0, .ref b0), (1, .ref o), (2, .ref mo), (3, .ref q), (4, .ref q2), (5, .int (nI (6 * k)))]) hx hb dL_law_1165 hl (by decide) rfl (fun ls hl => ?_)
  refine lv_aload_n hx hb dL_law_1167 rfl (lv_at hl 3 rfl) ?_
  refine lv_aload_n hx hb dL_law_1168 rfl (lv_at hl 1 rfl) ?_
  refine lv_iload hx hb dL_law_1169 (lv_at hl 6 rfl) ?_
  refine lv_iconst (v := 1) hx hb dL_law_1171 (by decide) ?_
  refine lv_iadd hx hb dL_law_1172 ?_
  refine lv_topi (fun v12 e13 => ?_)
  obtain rfl : v12 = nI ((6 * k) + 1) := e13.trans (nI_add (6 * k) 1)
  refine va_sld hx hb hX hbl hbA hS (vp_in_nI (by omega) (by omega)) dL_law_1173 ?_
  refine lv_topi (fun v14 e15 => ?_)
  obtain rfl : v3 = v14 := e4.trans e15.symm
  obtain ⟨u16, u17, hP, hf⟩ := o_mo (i := 0) (q := mo) hM (by omega)
  refine va_calli (va_runV (As := [.int v3]) (rest := []) ⟨hx, hb, hml, hown, hts⟩ (rmf_lastFell l dC dI kA eD b g7 mo v3 (by omega)) (cwV 1 hts gL_law_X6_lastFell rfl rfl rfl (by decide +kernel) ⟨Nat.le_of_ble_eq_true rfl, Nat.le_of_ble_eq_true rfl⟩) ⟨fb_CX, va_recv hK hP (ci := 10) (q0 := 0) rfl rfl, fun U hU hW => ⟨rfl, CX.give hb0 hM hK hG hE hS hU hW⟩⟩ rfl rfl hl.1 rfl (lv_room (Nat.le_of_ble_eq_true rfl)) dL_law_1174 ⟨(show C + 1 + 0 ≤ 960594 by omega), (show S + 6 + 0 ≤ 6134452 by omega)⟩) hS (fun q _ h => h) (fun q h => h) (fun r18 g20 t H locs ht hvm hw19 hB hz1 hk1 hS => ?_)
  have hM := hB.back ht
  have hG := hB.2.2.2.1
  have hlx := lx_N hI (Or.inl hw6) hM1 hG1 hw19 hM hG
  have ht21 : tg g20 o = 1 := hlx.1.2.2.1
  have ht22 : tg g20 mo = 17 := hlx.1.2.2.2.1
  have ht23 : tg g20 q = 34 := hlx.1.2.2.2.2.1
  have ht24 : tg g20 q2 = 35 := hlx.1.2.2.2.2.2.1
  refine lv_istore (lv' := [(7, .int r18), (6, .int r5), (0, .ref b0), (1, .ref o), (2, .ref mo), (3, .ref q), (4, .ref q2), (5, .int (nI (6 * k)))]) hx hb dL_law_1177 hl (by decide) rfl (fun ls hl => ?_)
  refine lv_goto (tgt := 1941) hx hb dL_law_1179 (by decide) ?_
  exact hnext g20 H _ ls _ _ ⟨hM, hG, hlx.1.2.2⟩ (by have h9 := hlx.2 C S k hR; unfold RI at h9 ⊢; omega) hS (lv_sub hl [2, 3, 4, 5, 6, 7] rfl)

set_option maxHeartbeats 4000000 in
set_option maxRecDepth 100000 in
/-- the law: a call of cover -/
theorem case_24 {p : Program} {l : Launch} {e : Env} {s : State} {m : MethodId} {below : List Frame} {meth : Method} {c : Code} (hlt : l.stackTraces = false) {b0 L : Nat} {xs : Nat → Int32} (C0 : lw_At p s m meth c b0 L xs) (hL : L ≤ 3072) (dC : Nat → ClassId) (dI : Nat → Nat → Nat) (kA : Nat → ClassId) (eD b o mo q q2 k : Nat) (hb9 : b = s.heap.size) (hb0 : b ≤ s.heap.size) (hk : 6 * k + 6 ≤ L) (hK : va_K (dC, dI) vwCl (TYS kA) s) (hE : EX eD b s) (hnext : ∀ (g : Gh) (H : Heap) (locs : List Loc) (ls : Array Slot) (C S : Nat), LI (dC, dI) kA b eD o mo q q2 g H → RI g mo C S (k + 1) → va_S (fun q => b ≤ q) s.heap H locs → lv_has ls 9 [(0, .ref b0), (1, .ref o), (2, .ref mo), (3, .ref q), (4, .ref q2), (5, .int (nI (6 * k)))] → W p l e room_1 s m #[Value.ref b0] below meth c H locs C S (lw_Z below #[Value.ref b0] s) (F0 m 1941 ls [])) {g : Gh} {H : Heap} {locs : List Loc} {ls : Array Slot} {C S : Nat} (hI : LI (dC, dI) kA b eD o mo q q2 g H) (hR : RI g mo C S k) (hS : va_S (fun q => b ≤ q) s.heap H locs) (hl : lv_has ls 9 [(0, .ref b0), (1, .ref o), (2, .ref mo), (3, .ref q), (4, .ref q2), (5, .int (nI (6 * k)))]) : W p l e room_1 s m #[Value.ref b0] below meth c H locs C S (lw_Z below #[Value.ref b0] s) (F0 m 1182 ls []) := by
  obtain ⟨hx, hb, hr, hml, hown, hts0, hX, hbl, hlocks, hgv⟩ := id C0
  have hts : ∀ w ∈ wzL_law, w.before #[Value.ref b0] s = true := fun w h => hts0 w (wzL_law_in w h)
  have hbA : ¬ (fun q : Nat => b ≤ q) b0 := by show ¬ b ≤ b0; omega
  have hT := hE.1
  have hN := hE.2.2.2.2.2.2.2.1
  obtain ⟨hM, hG, hto, htm, htq, htq2, -, hed⟩ := id hI
  have hRC : C ≤ 430000 := by have h9 := hR; unfold RI at h9; omega
  have hRS : S ≤ 3400000 := by have h9 := hR; unfold RI at h9; omega
  refine lv_aload_n hx hb dL_law_1182 rfl (lv_at hl 1 rfl) ?_
  refine lv_aload_n hx hb dL_law_1183 rfl (lv_at hl 0 rfl) ?_
  refine lv_iload hx hb dL_law_1184 (lv_at hl 5 rfl) ?_
  refine lv_iconst (v := 1) hx hb dL_law_1186 (by decide) ?_
  refine lv_iadd hx hb dL_law_1187 ?_
  refine lv_topi (fun v1 e2 => ?_)
  obtain rfl : v1 = nI ((6 * k) + 1) := e2.trans (nI_add (6 * k) 1)
  refine va_sld hx hb hX hbl hbA hS (vp_in_nI (by omega) (by omega)) dL_law_1188 ?_
  refine lv_topi (fun v3 e4 => ?_)
  refine lv_aload_n hx hb dL_law_1189 rfl (lv_at hl 0 rfl) ?_
  refine lv_iload hx hb dL_law_1190 (lv_at hl 5 rfl) ?_
  refine lv_iconst (v := 2) hx hb dL_law_1192 (by decide) ?_
  refine lv_iadd hx hb dL_law_1193 ?_
  refine lv_topi (fun v5 e6 => ?_)
  obtain rfl : v5 = nI ((6 * k) + 2) := e6.trans (nI_add (6 * k) 2)
  refine va_sld hx hb hX hbl hbA hS (vp_in_nI (by omega) (by omega)) dL_law_1194 ?_
  refine lv_topi (fun v7 e8 => ?_)
  refine lv_if_eq (tgt := 1202) hx hb dL_law_1195 (by decide) (fun c9 => ?_) (fun c9 => ?_)
  · skip
    refine lv_iconst (v := 0) hx hb dL_law_1202 (by decide) ?_
    refine lv_aload_n hx hb dL_law_1203 rfl (lv_at hl 3 rfl) ?_
    refine va_calli (vx_runSW (As := [.ref o, .int v3, .int 0, .ref q]) (rest := []) ⟨hx, hb, hml, hown, hts⟩ (rh_cover l hlt dC dI kA eD b g o q v3 0 (by omega) (by omega) (Or.inl rfl)) (vx_cwSW 4 hts gL_law_L_cover rfl rfl rfl (by decide +kernel) ⟨Nat.le_of_ble_eq_true rfl, Nat.le_of_ble_eq_true rfl⟩) ⟨fb_CX, fun U hU hW => ⟨rfl, CX.give hb0 hM hK hG hE hS hU hW⟩⟩ rfl rfl hl.1 rfl (lv_room (Nat.le_of_ble_eq_true rfl)) dL_law_1204 ⟨(show C + 1 ≤ 960594 by omega), (show S + 6 ≤ 6134452 by omega)⟩) hS (fun q _ h => h) (fun q h => h) (fun r10 g12 t H locs ht hvm hw11 hB hz1 hk1 hS => ?_)
    have hM := hB.back ht
    have hG := hB.2.2.2.1
    have hM1 := hM
    have hG1 := hG
    have hkt := kt_cover hw11
    have ht13 : tg g12 o = 1 := (hkt o (by omega)).trans hto
    have ht14 : tg g12 mo = 17 := (hkt mo (by omega)).trans htm
    have ht15 : tg g12 q = 34 := (hkt q (by omega)).trans htq
    have ht16 : tg g12 q2 = 35 := (hkt q2 (by omega)).trans htq2
    refine lv_istore (lv' := [(6, .int r10), (0, .ref b0), (1, .ref o), (2, .ref mo), (3, .ref q), (4, .ref q2), (5, .int (nI (6 * k)))]) hx hb dL_law_1207 hl (by decide) rfl (fun ls hl => ?_)
    refine lv_aload_n hx hb dL_law_1209 rfl (lv_at hl 3 rfl) ?_
    refine lv_aload_n hx hb dL_law_1210 rfl (lv_at hl 1 rfl) ?_
    refine lv_iload hx hb dL_law_1211 (lv_at hl 6 rfl) ?_
    refine lv_iconst (v := 1) hx hb dL_law_1213 (by decide) ?_
    refine lv_iadd hx hb dL_law_1214 ?_
    refine lv_topi (fun v17 e18 => ?_)
    obtain rfl : v17 = nI ((6 * k) + 1) := e18.trans (nI_add (6 * k) 1)
    refine va_sld hx hb hX hbl hbA hS (vp_in_nI (by omega) (by omega)) dL_law_1215 ?_
    refine lv_topi (fun v19 e20 => ?_)
    obtain rfl : v3 = v19 := e4.trans e20.symm
    refine lv_aload_n hx hb dL_law_1216 rfl (lv_at hl 1 rfl) ?_
    refine lv_iload hx hb dL_law_1217 (lv_at hl 6 rfl) ?_
    refine lv_iconst (v := 2) hx hb dL_law_1219 (by decide) ?_
    refine lv_iadd hx hb dL_law_1220 ?_
    refine lv_topi (fun v21 e22 => ?_)
    obtain rfl : v21 = nI ((6 * k) + 2) := e22.trans (nI_add (6 * k) 2)
    refine va_sld hx hb hX hbl hbA hS (vp_in_nI (by omega) (by omega)) dL_law_1221 ?_
    refine lv_topi (fun v23 e24 => ?_)
    obtain rfl : v7 = v23 := e8.trans e24.symm
    refine lv_if_eq (tgt := 1229) hx hb dL_law_1222 (by decide) (fun _ => ?_) (fun cx => absurd c9 cx)
    refine lv_iconst (v := 0) hx hb dL_law_1229 (by decide) ?_
    obtain ⟨u25, u26, hP, hf⟩ := o_mo (i := 0) (q := mo) hM (by omega)
    refine va_calli (va_runV (As := [.int v3, .int 0]) (rest := []) ⟨hx, hb, hml, hown, hts⟩ (rmf_cover l dC dI kA eD b g12 mo v3 0 (by omega) (Or.inl rfl)) (cwV 2 hts gL_law_X6_cover rfl rfl rfl (by decide +kernel) ⟨Nat.le_of_ble_eq_true rfl, Nat.le_of_ble_eq_true rfl⟩) ⟨fb_CX, va_recv hK hP (ci := 10) (q0 := 0) rfl rfl, fun U hU hW => ⟨rfl, CX.give hb0 hM hK hG hE hS hU hW⟩⟩ rfl rfl hl.1 rfl (lv_room (Nat.le_of_ble_eq_true rfl)) dL_law_1230 ⟨(show C + 1 + 0 ≤ 960594 by omega), (show S + 6 + 0 ≤ 6134452 by omega)⟩) hS (fun q _ h => h) (fun q h => h) (fun r27 g29 t H locs ht hvm hw28 hB hz1 hk1 hS => ?_)
    have hM := hB.back ht
    have hG := hB.2.2.2.1
    have hlx := lx_cover hI hw11 hM1 hG1 hw28 hM hG
    have ht30 : tg g29 o = 1 := hlx.1.2.2.1
    have ht31 : tg g29 mo = 17 := hlx.1.2.2.2.1
    have ht32 : tg g29 q = 34 := hlx.1.2.2.2.2.1
    have ht33 : tg g29 q2 = 35 := hlx.1.2.2.2.2.2.1
    refine lv_istore (lv' := [(7, .int r27), (6, .int r10), (0, .ref b0), (1, .ref o), (2, .ref mo), (3, .ref q), (4, .ref q2), (5, .int (nI (6 * k)))]) hx hb dL_law_1233 hl (by decide) rfl (fun ls hl => ?_)
    refine lv_goto (tgt := 1941) hx hb dL_law_1235 (by decide) ?_
    exact hnext g29 H _ ls _ _ ⟨hM, hG, hlx.1.2.2⟩ (by have h9 := hlx.2.1 C S k hR; unfold RI at h9 ⊢; omega) hS (lv_sub hl [2, 3, 4, 5, 6, 7] rfl)
  · skip
    refine lv_iconst (v := 1) hx hb dL_law_1198 (by decide) ?_
    refine lv_goto (tgt := 1203) hx hb dL_law_1199 (by decide) ?_
    refine lv_aload_n hx hb dL_law_1203 rfl (lv_at hl 3 rfl) ?_
    refine va_calli (vx_runSW (As := [.ref o, .int v3, .int 1, .ref q]) (rest := []) ⟨hx, hb, hml, hown, hts⟩ (rh_cover l hlt dC dI kA eD b g o q v3 1 (by omega) (by omega) (Or.inr rfl)) (vx_cwSW 4 hts gL_law_L_cover rfl rfl rfl (by decide +kernel) ⟨Nat.le_of_ble_eq_true rfl, Nat.le_of_ble_eq_true rfl⟩) ⟨fb_CX, fun U hU hW => ⟨rfl, CX.give hb0 hM hK hG hE hS hU hW⟩⟩ rfl rfl hl.1 rfl (lv_room (Nat.le_of_ble_eq_true rfl)) dL_law_1204 ⟨(show C + 1 ≤ 960594 by omega), (show S + 6 ≤ 6134452 by omega)⟩) hS (fun q _ h => h) (fun q h => h) (fun r34 g36 t H locs ht hvm hw35 hB hz1 hk1 hS => ?_)
    have hM := hB.back ht
    have hG := hB.2.2.2.1
    have hM1 := hM
    have hG1 := hG
    have hkt := kt_cover hw35
    have ht37 : tg g36 o = 1 := (hkt o (by omega)).trans hto
    have ht38 : tg g36 mo = 17 := (hkt mo (by omega)).trans htm
    have ht39 : tg g36 q = 34 := (hkt q (by omega)).trans htq
    have ht40 : tg g36 q2 = 35 := (hkt q2 (by omega)).trans htq2
    refine lv_istore (lv' := [(6, .int r34), (0, .ref b0), (1, .ref o), (2, .ref mo), (3, .ref q), (4, .ref q2), (5, .int (nI (6 * k)))]) hx hb dL_law_1207 hl (by decide) rfl (fun ls hl => ?_)
    refine lv_aload_n hx hb dL_law_1209 rfl (lv_at hl 3 rfl) ?_
    refine lv_aload_n hx hb dL_law_1210 rfl (lv_at hl 1 rfl) ?_
    refine lv_iload hx hb dL_law_1211 (lv_at hl 6 rfl) ?_
    refine lv_iconst (v := 1) hx hb dL_law_1213 (by decide) ?_
    refine lv_iadd hx hb dL_law_1214 ?_
    refine lv_topi (fun v41 e42 => ?_)
    obtain rfl : v41 = nI ((6 * k) + 1) := e42.trans (nI_add (6 * k) 1)
    refine va_sld hx hb hX hbl hbA hS (vp_in_nI (by omega) (by omega)) dL_law_1215 ?_
    refine lv_topi (fun v43 e44 => ?_)
    obtain rfl : v3 = v43 := e4.trans e44.symm
    refine lv_aload_n hx hb dL_law_1216 rfl (lv_at hl 1 rfl) ?_
    refine lv_iload hx hb dL_law_1217 (lv_at hl 6 rfl) ?_
    refine lv_iconst (v := 2) hx hb dL_law_1219 (by decide) ?_
    refine lv_iadd hx hb dL_law_1220 ?_
    refine lv_topi (fun v45 e46 => ?_)
    obtain rfl : v45 = nI ((6 * k) + 2) := e46.trans (nI_add (6 * k) 2)
    refine va_sld hx hb hX hbl hbA hS (vp_in_nI (by omega) (by omega)) dL_law_1221 ?_
    refine lv_topi (fun v47 e48 => ?_)
    obtain rfl : v7 = v47 := e8.trans e48.symm
    refine lv_if_eq (tgt := 1229) hx hb dL_law_1222 (by decide) (fun cx => absurd cx c9) (fun _ => ?_)
    refine lv_iconst (v := 1) hx hb dL_law_1225 (by decide) ?_
    refine lv_goto (tgt := 1230) hx hb dL_law_1226 (by decide) ?_
    obtain ⟨u49, u50, hP, hf⟩ := o_mo (i := 0) (q := mo) hM (by omega)
    refine va_calli (va_runV (As := [.int v3, .int 1]) (rest := []) ⟨hx, hb, hml, hown, hts⟩ (rmf_cover l dC dI kA eD b g36 mo v3 1 (by omega) (Or.inr rfl)) (cwV 2 hts gL_law_X6_cover rfl rfl rfl (by decide +kernel) ⟨Nat.le_of_ble_eq_true rfl, Nat.le_of_ble_eq_true rfl⟩) ⟨fb_CX, va_recv hK hP (ci := 10) (q0 := 0) rfl rfl, fun U hU hW => ⟨rfl, CX.give hb0 hM hK hG hE hS hU hW⟩⟩ rfl rfl hl.1 rfl (lv_room (Nat.le_of_ble_eq_true rfl)) dL_law_1230 ⟨(show C + 1 + 0 ≤ 960594 by omega), (show S + 6 + 0 ≤ 6134452 by omega)⟩) hS (fun q _ h => h) (fun q h => h) (fun r51 g53 t H locs ht hvm hw52 hB hz1 hk1 hS => ?_)
    have hM := hB.back ht
    have hG := hB.2.2.2.1
    have hlx := lx_cover hI hw35 hM1 hG1 hw52 hM hG
    have ht54 : tg g53 o = 1 := hlx.1.2.2.1
    have ht55 : tg g53 mo = 17 := hlx.1.2.2.2.1
    have ht56 : tg g53 q = 34 := hlx.1.2.2.2.2.1
    have ht57 : tg g53 q2 = 35 := hlx.1.2.2.2.2.2.1
    refine lv_istore (lv' := [(7, .int r51), (6, .int r34), (0, .ref b0), (1, .ref o), (2, .ref mo), (3, .ref q), (4, .ref q2), (5, .int (nI (6 * k)))]) hx hb dL_law_1233 hl (by decide) rfl (fun ls hl => ?_)
    refine lv_goto (tgt := 1941) hx hb dL_law_1235 (by decide) ?_
    exact hnext g53 H _ ls _ _ ⟨hM, hG, hlx.1.2.2⟩ (by have h9 := hlx.2.1 C S k hR; unfold RI at h9 ⊢; omega) hS (lv_sub hl [2, 3, 4, 5, 6, 7] rfl)

set_option maxHeartbeats 4000000 in
set_option maxRecDepth 100000 in
/-- the law: a call of lamp -/
theorem case_25 {p : Program} {l : Launch} {e : Env} {s : State} {m : MethodId} {below : List Frame} {meth : Method} {c : Code} (hlt : l.stackTraces = false) {b0 L : Nat} {xs : Nat → Int32} (C0 : lw_At p s m meth c b0 L xs) (hL : L ≤ 3072) (dC : Nat → ClassId) (dI : Nat → Nat → Nat) (kA : Nat → ClassId) (eD b o mo q q2 k : Nat) (hb9 : b = s.heap.size) (hb0 : b ≤ s.heap.size) (hk : 6 * k + 6 ≤ L) (hK : va_K (dC, dI) vwCl (TYS kA) s) (hE : EX eD b s) (hnext : ∀ (g : Gh) (H : Heap) (locs : List Loc) (ls : Array Slot) (C S : Nat), LI (dC, dI) kA b eD o mo q q2 g H → RI g mo C S (k + 1) → va_S (fun q => b ≤ q) s.heap H locs → lv_has ls 9 [(0, .ref b0), (1, .ref o), (2, .ref mo), (3, .ref q), (4, .ref q2), (5, .int (nI (6 * k)))] → W p l e room_1 s m #[Value.ref b0] below meth c H locs C S (lw_Z below #[Value.ref b0] s) (F0 m 1941 ls [])) {g : Gh} {H : Heap} {locs : List Loc} {ls : Array Slot} {C S : Nat} (hI : LI (dC, dI) kA b eD o mo q q2 g H) (hR : RI g mo C S k) (hS : va_S (fun q => b ≤ q) s.heap H locs) (hl : lv_has ls 9 [(0, .ref b0), (1, .ref o), (2, .ref mo), (3, .ref q), (4, .ref q2), (5, .int (nI (6 * k)))]) : W p l e room_1 s m #[Value.ref b0] below meth c H locs C S (lw_Z below #[Value.ref b0] s) (F0 m 1238 ls []) := by
  obtain ⟨hx, hb, hr, hml, hown, hts0, hX, hbl, hlocks, hgv⟩ := id C0
  have hts : ∀ w ∈ wzL_law, w.before #[Value.ref b0] s = true := fun w h => hts0 w (wzL_law_in w h)
  have hbA : ¬ (fun q : Nat => b ≤ q) b0 := by show ¬ b ≤ b0; omega
  have hT := hE.1
  have hN := hE.2.2.2.2.2.2.2.1
  obtain ⟨hM, hG, hto, htm, htq, htq2, -, hed⟩ := id hI
  have hRC : C ≤ 430000 := by have h9 := hR; unfold RI at h9; omega
  have hRS : S ≤ 3400000 := by have h9 := hR; unfold RI at h9; omega
  refine lv_aload_n hx hb dL_law_1238 rfl (lv_at hl 1 rfl) ?_
  refine lv_aload_n hx hb dL_law_1239 rfl (lv_at hl 0 rfl) ?_
  refine lv_iload hx hb dL_law_1240 (lv_at hl 5 rfl) ?_
  refine lv_iconst (v := 1) hx hb dL_law_1242 (by decide) ?_
  refine lv_iadd hx hb dL_law_1243 ?_
  refine lv_topi (fun v1 e2 => ?_)
  obtain rfl : v1 = nI ((6 * k) + 1) := e2.trans (nI_add (6 * k) 1)
  refine va_sld hx hb hX hbl hbA hS (vp_in_nI (by omega) (by omega)) dL_law_1244 ?_
  refine lv_topi (fun v3 e4 => ?_)
  refine lv_aload_n hx hb dL_law_1245 rfl (lv_at hl 0 rfl) ?_
  refine lv_iload hx hb dL_law_1246 (lv_at hl 5 rfl) ?_
  refine lv_iconst (v := 2) hx hb dL_law_1248 (by decide) ?_
  refine lv_iadd hx hb dL_law_1249 ?_
  refine lv_topi (fun v5 e6 => ?_)
  obtain rfl : v5 = nI ((6 * k) + 2) := e6.trans (nI_add (6 * k) 2)
  refine va_sld hx hb hX hbl hbA hS (vp_in_nI (by omega) (by omega)) dL_law_1250 ?_
  refine lv_topi (fun v7 e8 => ?_)
  refine lv_aload_n hx hb dL_law_1251 rfl (lv_at hl 0 rfl) ?_
  refine lv_iload hx hb dL_law_1252 (lv_at hl 5 rfl) ?_
  refine lv_iconst (v := 3) hx hb dL_law_1254 (by decide) ?_
  refine lv_iadd hx hb dL_law_1255 ?_
  refine lv_topi (fun v9 e10 => ?_)
  obtain rfl : v9 = nI ((6 * k) + 3) := e10.trans (nI_add (6 * k) 3)
  refine va_sld hx hb hX hbl hbA hS (vp_in_nI (by omega) (by omega)) dL_law_1256 ?_
  refine lv_topi (fun v11 e12 => ?_)
  refine lv_aload_n hx hb dL_law_1257 rfl (lv_at hl 0 rfl) ?_
  refine lv_iload hx hb dL_law_1258 (lv_at hl 5 rfl) ?_
  refine lv_iconst (v := 4) hx hb dL_law_1260 (by decide) ?_
  refine lv_iadd hx hb dL_law_1261 ?_
  refine lv_topi (fun v13 e14 => ?_)
  obtain rfl : v13 = nI ((6 * k) + 4) := e14.trans (nI_add (6 * k) 4)
  refine va_sld hx hb hX hbl hbA hS (vp_in_nI (by omega) (by omega)) dL_law_1262 ?_
  refine lv_topi (fun v15 e16 => ?_)
  refine lv_if_eq (tgt := 1270) hx hb dL_law_1263 (by decide) (fun c17 => ?_) (fun c17 => ?_)
  · skip
    refine lv_iconst (v := 0) hx hb dL_law_1270 (by decide) ?_
    refine lv_aload_n hx hb dL_law_1271 rfl (lv_at hl 3 rfl) ?_
    refine va_calli (vx_runSW (As := [.ref o, .int v3, .int v7, .int v11, .int 0, .ref q]) (rest := []) ⟨hx, hb, hml, hown, hts⟩ (rh_lamp l hlt dC dI kA eD b g o q v3 v7 v11 0 (by omega) (by omega)) (vx_cwSW 6 hts gL_law_L_lamp rfl rfl rfl (by decide +kernel) ⟨Nat.le_of_ble_eq_true rfl, Nat.le_of_ble_eq_true rfl⟩) ⟨fb_CX, fun U hU hW => ⟨rfl, CX.give hb0 hM hK hG hE hS hU hW⟩⟩ rfl rfl hl.1 rfl (lv_room (Nat.le_of_ble_eq_true rfl)) dL_law_1272 ⟨(show C + 1 ≤ 960594 by omega), (show S + 6 ≤ 6134452 by omega)⟩) hS (fun q _ h => h) (fun q h => h) (fun r18 g20 t H locs ht hvm hw19 hB hz1 hk1 hS => ?_)
    have hM := hB.back ht
    have hG := hB.2.2.2.1
    have hM1 := hM
    have hG1 := hG
    have hkt : ∀ a : Nat, tg g a ≠ 0 → tg g20 a = tg g a := fun a _ => by obtain ⟨f9, h9⟩ := hw19; rw [h9]; rfl
    have ht21 : tg g20 o = 1 := (hkt o (by omega)).trans hto
    have ht22 : tg g20 mo = 17 := (hkt mo (by omega)).trans htm
    have ht23 : tg g20 q = 34 := (hkt q (by omega)).trans htq
    have ht24 : tg g20 q2 = 35 := (hkt q2 (by omega)).trans htq2
    refine lv_istore (lv' := [(6, .int r18), (0, .ref b0), (1, .ref o), (2, .ref mo), (3, .ref q), (4, .ref q2), (5, .int (nI (6 * k)))]) hx hb dL_law_1275 hl (by decide) rfl (fun ls hl => ?_)
    refine lv_aload_n hx hb dL_law_1277 rfl (lv_at hl 3 rfl) ?_
    refine lv_aload_n hx hb dL_law_1278 rfl (lv_at hl 1 rfl) ?_
    refine lv_iload hx hb dL_law_1279 (lv_at hl 6 rfl) ?_
    refine lv_iconst (v := 1) hx hb dL_law_1281 (by decide) ?_
    refine lv_iadd hx hb dL_law_1282 ?_
    refine lv_topi (fun v25 e26 => ?_)
    obtain rfl : v25 = nI ((6 * k) + 1) := e26.trans (nI_add (6 * k) 1)
    refine va_sld hx hb hX hbl hbA hS (vp_in_nI (by omega) (by omega)) dL_law_1283 ?_
    refine lv_topi (fun v27 e28 => ?_)
    obtain rfl : v3 = v27 := e4.trans e28.symm
    refine lv_aload_n hx hb dL_law_1284 rfl (lv_at hl 1 rfl) ?_
    refine lv_iload hx hb dL_law_1285 (lv_at hl 6 rfl) ?_
    refine lv_iconst (v := 2) hx hb dL_law_1287 (by decide) ?_
    refine lv_iadd hx hb dL_law_1288 ?_
    refine lv_topi (fun v29 e30 => ?_)
    obtain rfl : v29 = nI ((6 * k) + 2) := e30.trans (nI_add (6 * k) 2)
    refine va_sld hx hb hX hbl hbA hS (vp_in_nI (by omega) (by omega)) dL_law_1289 ?_
    refine lv_topi (fun v31 e32 => ?_)
    obtain rfl : v7 = v31 := e8.trans e32.symm
    refine lv_aload_n hx hb dL_law_1290 rfl (lv_at hl 1 rfl) ?_
    refine lv_iload hx hb dL_law_1291 (lv_at hl 6 rfl) ?_
    refine lv_iconst (v := 3) hx hb dL_law_1293 (by decide) ?_
    refine lv_iadd hx hb dL_law_1294 ?_
    refine lv_topi (fun v33 e34 => ?_)
    obtain rfl : v33 = nI ((6 * k) + 3) := e34.trans (nI_add (6 * k) 3)
    refine va_sld hx hb hX hbl hbA hS (vp_in_nI (by omega) (by omega)) dL_law_1295 ?_
    refine lv_topi (fun v35 e36 => ?_)
    obtain rfl : v11 = v35 := e12.trans e36.symm
    refine lv_aload_n hx hb dL_law_1296 rfl (lv_at hl 1 rfl) ?_
    refine lv_iload hx hb dL_law_1297 (lv_at hl 6 rfl) ?_
    refine lv_iconst (v := 4) hx hb dL_law_1299 (by decide) ?_
    refine lv_iadd hx hb dL_law_1300 ?_
    refine lv_topi (fun v37 e38 => ?_)
    obtain rfl : v37 = nI ((6 * k) + 4) := e38.trans (nI_add (6 * k) 4)
    refine va_sld hx hb hX hbl hbA hS (vp_in_nI (by omega) (by omega)) dL_law_1301 ?_
    refine lv_topi (fun v39 e40 => ?_)
    obtain rfl : v15 = v39 := e16.trans e40.symm
    refine lv_if_eq (tgt := 1309) hx hb dL_law_1302 (by decide) (fun _ => ?_) (fun cx => absurd c17 cx)
    refine lv_iconst (v := 0) hx hb dL_law_1309 (by decide) ?_
    obtain ⟨u41, u42, hP, hf⟩ := o_mo (i := 0) (q := mo) hM (by omega)
    refine va_calli (va_runV (As := [.int v3, .int v7, .int v11, .int 0]) (rest := []) ⟨hx, hb, hml, hown, hts⟩ (rmf_lamp l dC dI kA eD b g20 mo v3 v7 v11 0 (by omega) (Or.inl rfl)) (cwV 4 hts gL_law_X6_lamp rfl rfl rfl (by decide +kernel) ⟨Nat.le_of_ble_eq_true rfl, Nat.le_of_ble_eq_true rfl⟩) ⟨fb_CX, va_recv hK hP (ci := 10) (q0 := 0) rfl rfl, fun U hU hW => ⟨rfl, CX.give hb0 hM hK hG hE hS hU hW⟩⟩ rfl rfl hl.1 rfl (lv_room (Nat.le_of_ble_eq_true rfl)) dL_law_1310 ⟨(show C + 1 + 0 ≤ 960594 by omega), (show S + 6 + 0 ≤ 6134452 by omega)⟩) hS (fun q _ h => h) (fun q h => h) (fun r43 g45 t H locs ht hvm hw44 hB hz1 hk1 hS => ?_)
    have hM := hB.back ht
    have hG := hB.2.2.2.1
    have hlx := lx_N hI (Or.inl hw19) hM1 hG1 hw44 hM hG
    have ht46 : tg g45 o = 1 := hlx.1.2.2.1
    have ht47 : tg g45 mo = 17 := hlx.1.2.2.2.1
    have ht48 : tg g45 q = 34 := hlx.1.2.2.2.2.1
    have ht49 : tg g45 q2 = 35 := hlx.1.2.2.2.2.2.1
    refine lv_istore (lv' := [(7, .int r43), (6, .int r18), (0, .ref b0), (1, .ref o), (2, .ref mo), (3, .ref q), (4, .ref q2), (5, .int (nI (6 * k)))]) hx hb dL_law_1313 hl (by decide) rfl (fun ls hl => ?_)
    refine lv_goto (tgt := 1941) hx hb dL_law_1315 (by decide) ?_
    exact hnext g45 H _ ls _ _ ⟨hM, hG, hlx.1.2.2⟩ (by have h9 := hlx.2 C S k hR; unfold RI at h9 ⊢; omega) hS (lv_sub hl [2, 3, 4, 5, 6, 7] rfl)
  · skip
    refine lv_iconst (v := 1) hx hb dL_law_1266 (by decide) ?_
    refine lv_goto (tgt := 1271) hx hb dL_law_1267 (by decide) ?_
    refine lv_aload_n hx hb dL_law_1271 rfl (lv_at hl 3 rfl) ?_
    refine va_calli (vx_runSW (As := [.ref o, .int v3, .int v7, .int v11, .int 1, .ref q]) (rest := []) ⟨hx, hb, hml, hown, hts⟩ (rh_lamp l hlt dC dI kA eD b g o q v3 v7 v11 1 (by omega) (by omega)) (vx_cwSW 6 hts gL_law_L_lamp rfl rfl rfl (by decide +kernel) ⟨Nat.le_of_ble_eq_true rfl, Nat.le_of_ble_eq_true rfl⟩) ⟨fb_CX, fun U hU hW => ⟨rfl, CX.give hb0 hM hK hG hE hS hU hW⟩⟩ rfl rfl hl.1 rfl (lv_room (Nat.le_of_ble_eq_true rfl)) dL_law_1272 ⟨(show C + 1 ≤ 960594 by omega), (show S + 6 ≤ 6134452 by omega)⟩) hS (fun q _ h => h) (fun q h => h) (fun r50 g52 t H locs ht hvm hw51 hB hz1 hk1 hS => ?_)
    have hM := hB.back ht
    have hG := hB.2.2.2.1
    have hM1 := hM
    have hG1 := hG
    have hkt : ∀ a : Nat, tg g a ≠ 0 → tg g52 a = tg g a := fun a _ => by obtain ⟨f9, h9⟩ := hw51; rw [h9]; rfl
    have ht53 : tg g52 o = 1 := (hkt o (by omega)).trans hto
    have ht54 : tg g52 mo = 17 := (hkt mo (by omega)).trans htm
    have ht55 : tg g52 q = 34 := (hkt q (by omega)).trans htq
    have ht56 : tg g52 q2 = 35 := (hkt q2 (by omega)).trans htq2
    refine lv_istore (lv' := [(6, .int r50), (0, .ref b0), (1, .ref o), (2, .ref mo), (3, .ref q), (4, .ref q2), (5, .int (nI (6 * k)))]) hx hb dL_law_1275 hl (by decide) rfl (fun ls hl => ?_)
    refine lv_aload_n hx hb dL_law_1277 rfl (lv_at hl 3 rfl) ?_
    refine lv_aload_n hx hb dL_law_1278 rfl (lv_at hl 1 rfl) ?_
    refine lv_iload hx hb dL_law_1279 (lv_at hl 6 rfl) ?_
    refine lv_iconst (v := 1) hx hb dL_law_1281 (by decide) ?_
    refine lv_iadd hx hb dL_law_1282 ?_
    refine lv_topi (fun v57 e58 => ?_)
    obtain rfl : v57 = nI ((6 * k) + 1) := e58.trans (nI_add (6 * k) 1)
    refine va_sld hx hb hX hbl hbA hS (vp_in_nI (by omega) (by omega)) dL_law_1283 ?_
    refine lv_topi (fun v59 e60 => ?_)
    obtain rfl : v3 = v59 := e4.trans e60.symm
    refine lv_aload_n hx hb dL_law_1284 rfl (lv_at hl 1 rfl) ?_
    refine lv_iload hx hb dL_law_1285 (lv_at hl 6 rfl) ?_
    refine lv_iconst (v := 2) hx hb dL_law_1287 (by decide) ?_
    refine lv_iadd hx hb dL_law_1288 ?_
    refine lv_topi (fun v61 e62 => ?_)
    obtain rfl : v61 = nI ((6 * k) + 2) := e62.trans (nI_add (6 * k) 2)
    refine va_sld hx hb hX hbl hbA hS (vp_in_nI (by omega) (by omega)) dL_law_1289 ?_
    refine lv_topi (fun v63 e64 => ?_)
    obtain rfl : v7 = v63 := e8.trans e64.symm
    refine lv_aload_n hx hb dL_law_1290 rfl (lv_at hl 1 rfl) ?_
    refine lv_iload hx hb dL_law_1291 (lv_at hl 6 rfl) ?_
    refine lv_iconst (v := 3) hx hb dL_law_1293 (by decide) ?_
    refine lv_iadd hx hb dL_law_1294 ?_
    refine lv_topi (fun v65 e66 => ?_)
    obtain rfl : v65 = nI ((6 * k) + 3) := e66.trans (nI_add (6 * k) 3)
    refine va_sld hx hb hX hbl hbA hS (vp_in_nI (by omega) (by omega)) dL_law_1295 ?_
    refine lv_topi (fun v67 e68 => ?_)
    obtain rfl : v11 = v67 := e12.trans e68.symm
    refine lv_aload_n hx hb dL_law_1296 rfl (lv_at hl 1 rfl) ?_
    refine lv_iload hx hb dL_law_1297 (lv_at hl 6 rfl) ?_
    refine lv_iconst (v := 4) hx hb dL_law_1299 (by decide) ?_
    refine lv_iadd hx hb dL_law_1300 ?_
    refine lv_topi (fun v69 e70 => ?_)
    obtain rfl : v69 = nI ((6 * k) + 4) := e70.trans (nI_add (6 * k) 4)
    refine va_sld hx hb hX hbl hbA hS (vp_in_nI (by omega) (by omega)) dL_law_1301 ?_
    refine lv_topi (fun v71 e72 => ?_)
    obtain rfl : v15 = v71 := e16.trans e72.symm
    refine lv_if_eq (tgt := 1309) hx hb dL_law_1302 (by decide) (fun cx => absurd cx c17) (fun _ => ?_)
    refine lv_iconst (v := 1) hx hb dL_law_1305 (by decide) ?_
    refine lv_goto (tgt := 1310) hx hb dL_law_1306 (by decide) ?_
    obtain ⟨u73, u74, hP, hf⟩ := o_mo (i := 0) (q := mo) hM (by omega)
    refine va_calli (va_runV (As := [.int v3, .int v7, .int v11, .int 1]) (rest := []) ⟨hx, hb, hml, hown, hts⟩ (rmf_lamp l dC dI kA eD b g52 mo v3 v7 v11 1 (by omega) (Or.inr rfl)) (cwV 4 hts gL_law_X6_lamp rfl rfl rfl (by decide +kernel) ⟨Nat.le_of_ble_eq_true rfl, Nat.le_of_ble_eq_true rfl⟩) ⟨fb_CX, va_recv hK hP (ci := 10) (q0 := 0) rfl rfl, fun U hU hW => ⟨rfl, CX.give hb0 hM hK hG hE hS hU hW⟩⟩ rfl rfl hl.1 rfl (lv_room (Nat.le_of_ble_eq_true rfl)) dL_law_1310 ⟨(show C + 1 + 0 ≤ 960594 by omega), (show S + 6 + 0 ≤ 6134452 by omega)⟩) hS (fun q _ h => h) (fun q h => h) (fun r75 g77 t H locs ht hvm hw76 hB hz1 hk1 hS => ?_)
    have hM := hB.back ht
    have hG := hB.2.2.2.1
    have hlx := lx_N hI (Or.inl hw51) hM1 hG1 hw76 hM hG
    have ht78 : tg g77 o = 1 := hlx.1.2.2.1
    have ht79 : tg g77 mo = 17 := hlx.1.2.2.2.1
    have ht80 : tg g77 q = 34 := hlx.1.2.2.2.2.1
    have ht81 : tg g77 q2 = 35 := hlx.1.2.2.2.2.2.1
    refine lv_istore (lv' := [(7, .int r75), (6, .int r50), (0, .ref b0), (1, .ref o), (2, .ref mo), (3, .ref q), (4, .ref q2), (5, .int (nI (6 * k)))]) hx hb dL_law_1313 hl (by decide) rfl (fun ls hl => ?_)
    refine lv_goto (tgt := 1941) hx hb dL_law_1315 (by decide) ?_
    exact hnext g77 H _ ls _ _ ⟨hM, hG, hlx.1.2.2⟩ (by have h9 := hlx.2 C S k hR; unfold RI at h9 ⊢; omega) hS (lv_sub hl [2, 3, 4, 5, 6, 7] rfl)

set_option maxHeartbeats 4000000 in
set_option maxRecDepth 100000 in
/-- the law: a call of lightBits -/
theorem case_26 {p : Program} {l : Launch} {e : Env} {s : State} {m : MethodId} {below : List Frame} {meth : Method} {c : Code} (hlt : l.stackTraces = false) {b0 L : Nat} {xs : Nat → Int32} (C0 : lw_At p s m meth c b0 L xs) (hL : L ≤ 3072) (dC : Nat → ClassId) (dI : Nat → Nat → Nat) (kA : Nat → ClassId) (eD b o mo q q2 k : Nat) (hb9 : b = s.heap.size) (hb0 : b ≤ s.heap.size) (hk : 6 * k + 6 ≤ L) (hK : va_K (dC, dI) vwCl (TYS kA) s) (hE : EX eD b s) (hnext : ∀ (g : Gh) (H : Heap) (locs : List Loc) (ls : Array Slot) (C S : Nat), LI (dC, dI) kA b eD o mo q q2 g H → RI g mo C S (k + 1) → va_S (fun q => b ≤ q) s.heap H locs → lv_has ls 9 [(0, .ref b0), (1, .ref o), (2, .ref mo), (3, .ref q), (4, .ref q2), (5, .int (nI (6 * k)))] → W p l e room_1 s m #[Value.ref b0] below meth c H locs C S (lw_Z below #[Value.ref b0] s) (F0 m 1941 ls [])) {g : Gh} {H : Heap} {locs : List Loc} {ls : Array Slot} {C S : Nat} (hI : LI (dC, dI) kA b eD o mo q q2 g H) (hR : RI g mo C S k) (hS : va_S (fun q => b ≤ q) s.heap H locs) (hl : lv_has ls 9 [(0, .ref b0), (1, .ref o), (2, .ref mo), (3, .ref q), (4, .ref q2), (5, .int (nI (6 * k)))]) : W p l e room_1 s m #[Value.ref b0] below meth c H locs C S (lw_Z below #[Value.ref b0] s) (F0 m 1318 ls []) := by
  obtain ⟨hx, hb, hr, hml, hown, hts0, hX, hbl, hlocks, hgv⟩ := id C0
  have hts : ∀ w ∈ wzL_law, w.before #[Value.ref b0] s = true := fun w h => hts0 w (wzL_law_in w h)
  have hbA : ¬ (fun q : Nat => b ≤ q) b0 := by show ¬ b ≤ b0; omega
  have hT := hE.1
  have hN := hE.2.2.2.2.2.2.2.1
  obtain ⟨hM, hG, hto, htm, htq, htq2, -, hed⟩ := id hI
  have hRC : C ≤ 430000 := by have h9 := hR; unfold RI at h9; omega
  have hRS : S ≤ 3400000 := by have h9 := hR; unfold RI at h9; omega
  refine lv_aload_n hx hb dL_law_1318 rfl (lv_at hl 1 rfl) ?_
  refine lv_aload_n hx hb dL_law_1319 rfl (lv_at hl 0 rfl) ?_
  refine lv_iload hx hb dL_law_1320 (lv_at hl 5 rfl) ?_
  refine lv_iconst (v := 1) hx hb dL_law_1322 (by decide) ?_
  refine lv_iadd hx hb dL_law_1323 ?_
  refine lv_topi (fun v1 e2 => ?_)
  obtain rfl : v1 = nI ((6 * k) + 1) := e2.trans (nI_add (6 * k) 1)
  refine va_sld hx hb hX hbl hbA hS (vp_in_nI (by omega) (by omega)) dL_law_1324 ?_
  refine lv_topi (fun v3 e4 => ?_)
  refine lv_aload_n hx hb dL_law_1325 rfl (lv_at hl 0 rfl) ?_
  refine lv_iload hx hb dL_law_1326 (lv_at hl 5 rfl) ?_
  refine lv_iconst (v := 2) hx hb dL_law_1328 (by decide) ?_
  refine lv_iadd hx hb dL_law_1329 ?_
  refine lv_topi (fun v5 e6 => ?_)
  obtain rfl : v5 = nI ((6 * k) + 2) := e6.trans (nI_add (6 * k) 2)
  refine va_sld hx hb hX hbl hbA hS (vp_in_nI (by omega) (by omega)) dL_law_1330 ?_
  refine lv_topi (fun v7 e8 => ?_)
  refine lv_aload_n hx hb dL_law_1331 rfl (lv_at hl 0 rfl) ?_
  refine lv_iload hx hb dL_law_1332 (lv_at hl 5 rfl) ?_
  refine lv_iconst (v := 3) hx hb dL_law_1334 (by decide) ?_
  refine lv_iadd hx hb dL_law_1335 ?_
  refine lv_topi (fun v9 e10 => ?_)
  obtain rfl : v9 = nI ((6 * k) + 3) := e10.trans (nI_add (6 * k) 3)
  refine va_sld hx hb hX hbl hbA hS (vp_in_nI (by omega) (by omega)) dL_law_1336 ?_
  refine lv_topi (fun v11 e12 => ?_)
  refine lv_aload_n hx hb dL_law_1337 rfl (lv_at hl 3 rfl) ?_
  refine va_calli (vx_runSW (As := [.ref o, .int v3, .int v7, .int v11, .ref q]) (rest := []) ⟨hx, hb, hml, hown, hts⟩ (rh_lightBits l hlt dC dI kA eD b g o q v3 v7 v11 (by omega) (by omega)) (vx_cwSW 5 hts gL_law_L_lightBits rfl rfl rfl (by decide +kernel) ⟨Nat.le_of_ble_eq_true rfl, Nat.le_of_ble_eq_true rfl⟩) ⟨fb_CX, fun U hU hW => ⟨rfl, CX.give hb0 hM hK hG hE hS hU hW⟩⟩ rfl rfl hl.1 rfl (lv_room (Nat.le_of_ble_eq_true rfl)) dL_law_1338 ⟨(show C + 1 ≤ 960594 by omega), (show S + 6 ≤ 6134452 by omega)⟩) hS (fun q _ h => h) (fun q h => h) (fun r13 g15 t H locs ht hvm hw14 hB hz1 hk1 hS => ?_)
  have hM := hB.back ht
  have hG := hB.2.2.2.1
  have hM1 := hM
  have hG1 := hG
  have hkt : ∀ a : Nat, tg g a ≠ 0 → tg g15 a = tg g a := fun a _ => by obtain ⟨f9, h9⟩ := hw14; rw [h9]; rfl
  have ht16 : tg g15 o = 1 := (hkt o (by omega)).trans hto
  have ht17 : tg g15 mo = 17 := (hkt mo (by omega)).trans htm
  have ht18 : tg g15 q = 34 := (hkt q (by omega)).trans htq
  have ht19 : tg g15 q2 = 35 := (hkt q2 (by omega)).trans htq2
  refine lv_istore (lv' := [(6, .int r13), (0, .ref b0), (1, .ref o), (2, .ref mo), (3, .ref q), (4, .ref q2), (5, .int (nI (6 * k)))]) hx hb dL_law_1341 hl (by decide) rfl (fun ls hl => ?_)
  refine lv_aload_n hx hb dL_law_1343 rfl (lv_at hl 3 rfl) ?_
  refine lv_aload_n hx hb dL_law_1344 rfl (lv_at hl 1 rfl) ?_
  refine lv_iload hx hb dL_law_1345 (lv_at hl 6 rfl) ?_
  refine lv_iconst (v := 1) hx hb dL_law_1347 (by decide) ?_
  refine lv_iadd hx hb dL_law_1348 ?_
  refine lv_topi (fun v20 e21 => ?_)
  obtain rfl : v20 = nI ((6 * k) + 1) := e21.trans (nI_add (6 * k) 1)
  refine va_sld hx hb hX hbl hbA hS (vp_in_nI (by omega) (by omega)) dL_law_1349 ?_
  refine lv_topi (fun v22 e23 => ?_)
  obtain rfl : v3 = v22 := e4.trans e23.symm
  refine lv_aload_n hx hb dL_law_1350 rfl (lv_at hl 1 rfl) ?_
  refine lv_iload hx hb dL_law_1351 (lv_at hl 6 rfl) ?_
  refine lv_iconst (v := 2) hx hb dL_law_1353 (by decide) ?_
  refine lv_iadd hx hb dL_law_1354 ?_
  refine lv_topi (fun v24 e25 => ?_)
  obtain rfl : v24 = nI ((6 * k) + 2) := e25.trans (nI_add (6 * k) 2)
  refine va_sld hx hb hX hbl hbA hS (vp_in_nI (by omega) (by omega)) dL_law_1355 ?_
  refine lv_topi (fun v26 e27 => ?_)
  obtain rfl : v7 = v26 := e8.trans e27.symm
  refine lv_aload_n hx hb dL_law_1356 rfl (lv_at hl 1 rfl) ?_
  refine lv_iload hx hb dL_law_1357 (lv_at hl 6 rfl) ?_
  refine lv_iconst (v := 3) hx hb dL_law_1359 (by decide) ?_
  refine lv_iadd hx hb dL_law_1360 ?_
  refine lv_topi (fun v28 e29 => ?_)
  obtain rfl : v28 = nI ((6 * k) + 3) := e29.trans (nI_add (6 * k) 3)
  refine va_sld hx hb hX hbl hbA hS (vp_in_nI (by omega) (by omega)) dL_law_1361 ?_
  refine lv_topi (fun v30 e31 => ?_)
  obtain rfl : v11 = v30 := e12.trans e31.symm
  obtain ⟨u32, u33, hP, hf⟩ := o_mo (i := 0) (q := mo) hM (by omega)
  refine va_calli (va_runV (As := [.int v3, .int v7, .int v11]) (rest := []) ⟨hx, hb, hml, hown, hts⟩ (rmf_lightBits l dC dI kA eD b g15 mo v3 v7 v11 (by omega)) (cwV 3 hts gL_law_X6_lightBits rfl rfl rfl (by decide +kernel) ⟨Nat.le_of_ble_eq_true rfl, Nat.le_of_ble_eq_true rfl⟩) ⟨fb_CX, va_recv hK hP (ci := 10) (q0 := 0) rfl rfl, fun U hU hW => ⟨rfl, CX.give hb0 hM hK hG hE hS hU hW⟩⟩ rfl rfl hl.1 rfl (lv_room (Nat.le_of_ble_eq_true rfl)) dL_law_1362 ⟨(show C + 1 + 0 ≤ 960594 by omega), (show S + 6 + 0 ≤ 6134452 by omega)⟩) hS (fun q _ h => h) (fun q h => h) (fun r34 g36 t H locs ht hvm hw35 hB hz1 hk1 hS => ?_)
  have hM := hB.back ht
  have hG := hB.2.2.2.1
  have hlx := lx_N hI (Or.inl hw14) hM1 hG1 hw35 hM hG
  have ht37 : tg g36 o = 1 := hlx.1.2.2.1
  have ht38 : tg g36 mo = 17 := hlx.1.2.2.2.1
  have ht39 : tg g36 q = 34 := hlx.1.2.2.2.2.1
  have ht40 : tg g36 q2 = 35 := hlx.1.2.2.2.2.2.1
  refine lv_istore (lv' := [(7, .int r34), (6, .int r13), (0, .ref b0), (1, .ref o), (2, .ref mo), (3, .ref q), (4, .ref q2), (5, .int (nI (6 * k)))]) hx hb dL_law_1365 hl (by decide) rfl (fun ls hl => ?_)
  refine lv_goto (tgt := 1941) hx hb dL_law_1367 (by decide) ?_
  exact hnext g36 H _ ls _ _ ⟨hM, hG, hlx.1.2.2⟩ (by have h9 := hlx.2 C S k hR; unfold RI at h9 ⊢; omega) hS (lv_sub hl [2, 3, 4, 5, 6, 7] rfl)

set_option maxHeartbeats 4000000 in
set_option maxRecDepth 100000 in
/-- the law: a call of isOpen -/
theorem case_27 {p : Program} {l : Launch} {e : Env} {s : State} {m : MethodId} {below : List Frame} {meth : Method} {c : Code} (hlt : l.stackTraces = false) {b0 L : Nat} {xs : Nat → Int32} (C0 : lw_At p s m meth c b0 L xs) (hL : L ≤ 3072) (dC : Nat → ClassId) (dI : Nat → Nat → Nat) (kA : Nat → ClassId) (eD b o mo q q2 k : Nat) (hb9 : b = s.heap.size) (hb0 : b ≤ s.heap.size) (hk : 6 * k + 6 ≤ L) (hK : va_K (dC, dI) vwCl (TYS kA) s) (hE : EX eD b s) (hnext : ∀ (g : Gh) (H : Heap) (locs : List Loc) (ls : Array Slot) (C S : Nat), LI (dC, dI) kA b eD o mo q q2 g H → RI g mo C S (k + 1) → va_S (fun q => b ≤ q) s.heap H locs → lv_has ls 9 [(0, .ref b0), (1, .ref o), (2, .ref mo), (3, .ref q), (4, .ref q2), (5, .int (nI (6 * k)))] → W p l e room_1 s m #[Value.ref b0] below meth c H locs C S (lw_Z below #[Value.ref b0] s) (F0 m 1941 ls [])) {g : Gh} {H : Heap} {locs : List Loc} {ls : Array Slot} {C S : Nat} (hI : LI (dC, dI) kA b eD o mo q q2 g H) (hR : RI g mo C S k) (hS : va_S (fun q => b ≤ q) s.heap H locs) (hl : lv_has ls 9 [(0, .ref b0), (1, .ref o), (2, .ref mo), (3, .ref q), (4, .ref q2), (5, .int (nI (6 * k)))]) : W p l e room_1 s m #[Value.ref b0] below meth c H locs C S (lw_Z below #[Value.ref b0] s) (F0 m 1370 ls []) := by
  obtain ⟨hx, hb, hr, hml, hown, hts0, hX, hbl, hlocks, hgv⟩ := id C0
  have hts : ∀ w ∈ wzL_law, w.before #[Value.ref b0] s = true := fun w h => hts0 w (wzL_law_in w h)
  have hbA : ¬ (fun q : Nat => b ≤ q) b0 := by show ¬ b ≤ b0; omega
  have hT := hE.1
  have hN := hE.2.2.2.2.2.2.2.1
  obtain ⟨hM, hG, hto, htm, htq, htq2, -, hed⟩ := id hI
  have hRC : C ≤ 430000 := by have h9 := hR; unfold RI at h9; omega
  have hRS : S ≤ 3400000 := by have h9 := hR; unfold RI at h9; omega
  refine lv_aload_n hx hb dL_law_1370 rfl (lv_at hl 1 rfl) ?_
  refine lv_aload_n hx hb dL_law_1371 rfl (lv_at hl 0 rfl) ?_
  refine lv_iload hx hb dL_law_1372 (lv_at hl 5 rfl) ?_
  refine lv_iconst (v := 1) hx hb dL_law_1374 (by decide) ?_
  refine lv_iadd hx hb dL_law_1375 ?_
  refine lv_topi (fun v1 e2 => ?_)
  obtain rfl : v1 = nI ((6 * k) + 1) := e2.trans (nI_add (6 * k) 1)
  refine va_sld hx hb hX hbl hbA hS (vp_in_nI (by omega) (by omega)) dL_law_1376 ?_
  refine lv_topi (fun v3 e4 => ?_)
  refine lv_aload_n hx hb dL_law_1377 rfl (lv_at hl 3 rfl) ?_
  refine va_calli (vx_runSW (As := [.ref o, .int v3, .ref q]) (rest := []) ⟨hx, hb, hml, hown, hts⟩ (rh_isOpen l hlt dC dI kA eD b g o q v3 (by omega) (by omega)) (vx_cwSW 3 hts gL_law_L_isOpen rfl rfl rfl (by decide +kernel) ⟨Nat.le_of_ble_eq_true rfl, Nat.le_of_ble_eq_true rfl⟩) ⟨fb_CX, fun U hU hW => ⟨rfl, CX.give hb0 hM hK hG hE hS hU hW⟩⟩ rfl rfl hl.1 rfl (lv_room (Nat.le_of_ble_eq_true rfl)) dL_law_1378 ⟨(show C + 1 ≤ 960594 by omega), (show S + 6 ≤ 6134452 by omega)⟩) hS (fun q _ h => h) (fun q h => h) (fun r5 g7 t H locs ht hvm hw6 hB hz1 hk1 hS => ?_)
  have hM := hB.back ht
  have hG := hB.2.2.2.1
  have hM1 := hM
  have hG1 := hG
  have hkt : ∀ a : Nat, tg g a ≠ 0 → tg g7 a = tg g a := fun a _ => by obtain ⟨f9, h9⟩ := hw6; rw [h9]; rfl
  have ht8 : tg g7 o = 1 := (hkt o (by omega)).trans hto
  have ht9 : tg g7 mo = 17 := (hkt mo (by omega)).trans htm
  have ht10 : tg g7 q = 34 := (hkt q (by omega)).trans htq
  have ht11 : tg g7 q2 = 35 := (hkt q2 (by omega)).trans htq2
  refine lv_istore (lv' := [(6, .int r5), (0, .ref b0), (1, .ref o), (2, .ref mo), (3, .ref q), (4, .ref q2), (5, .int (nI (6 * k)))]) hx hb dL_law_1381 hl (by decide) rfl (fun ls hl => ?_)
  refine lv_aload_n hx hb dL_law_1383 rfl (lv_at hl 3 rfl) ?_
  refine lv_aload_n hx hb dL_law_1384 rfl (lv_at hl 1 rfl) ?_
  refine lv_iload hx hb dL_law_1385 (lv_at hl 6 rfl) ?_
  refine lv_iconst (v := 1) hx hb dL_law_1387 (by decide) ?_
  refine lv_iadd hx hb dL_law_1388 ?_
  refine lv_topi (fun v12 e13 => ?_)
  obtain rfl : v12 = nI ((6 * k) + 1) := e13.trans (nI_add (6 * k) 1)
  refine va_sld hx hb hX hbl hbA hS (vp_in_nI (by omega) (by omega)) dL_law_1389 ?_
  refine lv_topi (fun v14 e15 => ?_)
  obtain rfl : v3 = v14 := e4.trans e15.symm
  obtain ⟨u16, u17, hP, hf⟩ := o_mo (i := 0) (q := mo) hM (by omega)
  refine va_calli (va_runV (As := [.int v3]) (rest := []) ⟨hx, hb, hml, hown, hts⟩ (rmf_isOpen l dC dI kA eD b g7 mo v3 (by omega)) (cwV 1 hts gL_law_X6_isOpen rfl rfl rfl (by decide +kernel) ⟨Nat.le_of_ble_eq_true rfl, Nat.le_of_ble_eq_true rfl⟩) ⟨fb_CX, va_recv hK hP (ci := 10) (q0 := 0) rfl rfl, fun U hU hW => ⟨rfl, CX.give hb0 hM hK hG hE hS hU hW⟩⟩ rfl rfl hl.1 rfl (lv_room (Nat.le_of_ble_eq_true rfl)) dL_law_1390 ⟨(show C + 1 + 7 ≤ 960594 by omega), (show S + 6 + 54 ≤ 6134452 by omega)⟩) hS (fun q _ h => h) (fun q h => h) (fun r18 g20 t H locs ht hvm hw19 hB hz1 hk1 hS => ?_)
  have hM := hB.back ht
  have hG := hB.2.2.2.1
  have hlx := lx_N hI (Or.inl hw6) hM1 hG1 hw19 hM hG
  have ht21 : tg g20 o = 1 := hlx.1.2.2.1
  have ht22 : tg g20 mo = 17 := hlx.1.2.2.2.1
  have ht23 : tg g20 q = 34 := hlx.1.2.2.2.2.1
  have ht24 : tg g20 q2 = 35 := hlx.1.2.2.2.2.2.1
  refine lv_istore (lv' := [(7, .int r18), (6, .int r5), (0, .ref b0), (1, .ref o), (2, .ref mo), (3, .ref q), (4, .ref q2), (5, .int (nI (6 * k)))]) hx hb dL_law_1393 hl (by decide) rfl (fun ls hl => ?_)
  refine lv_goto (tgt := 1941) hx hb dL_law_1395 (by decide) ?_
  exact hnext g20 H _ ls _ _ ⟨hM, hG, hlx.1.2.2⟩ (by have h9 := hlx.2 C S k hR; unfold RI at h9 ⊢; omega) hS (lv_sub hl [2, 3, 4, 5, 6, 7] rfl)

set_option maxHeartbeats 4000000 in
set_option maxRecDepth 100000 in
/-- the law: a call of carries -/
theorem case_28 {p : Program} {l : Launch} {e : Env} {s : State} {m : MethodId} {below : List Frame} {meth : Method} {c : Code} (hlt : l.stackTraces = false) {b0 L : Nat} {xs : Nat → Int32} (C0 : lw_At p s m meth c b0 L xs) (hL : L ≤ 3072) (dC : Nat → ClassId) (dI : Nat → Nat → Nat) (kA : Nat → ClassId) (eD b o mo q q2 k : Nat) (hb9 : b = s.heap.size) (hb0 : b ≤ s.heap.size) (hk : 6 * k + 6 ≤ L) (hK : va_K (dC, dI) vwCl (TYS kA) s) (hE : EX eD b s) (hnext : ∀ (g : Gh) (H : Heap) (locs : List Loc) (ls : Array Slot) (C S : Nat), LI (dC, dI) kA b eD o mo q q2 g H → RI g mo C S (k + 1) → va_S (fun q => b ≤ q) s.heap H locs → lv_has ls 9 [(0, .ref b0), (1, .ref o), (2, .ref mo), (3, .ref q), (4, .ref q2), (5, .int (nI (6 * k)))] → W p l e room_1 s m #[Value.ref b0] below meth c H locs C S (lw_Z below #[Value.ref b0] s) (F0 m 1941 ls [])) {g : Gh} {H : Heap} {locs : List Loc} {ls : Array Slot} {C S : Nat} (hI : LI (dC, dI) kA b eD o mo q q2 g H) (hR : RI g mo C S k) (hS : va_S (fun q => b ≤ q) s.heap H locs) (hl : lv_has ls 9 [(0, .ref b0), (1, .ref o), (2, .ref mo), (3, .ref q), (4, .ref q2), (5, .int (nI (6 * k)))]) : W p l e room_1 s m #[Value.ref b0] below meth c H locs C S (lw_Z below #[Value.ref b0] s) (F0 m 1398 ls []) := by
  obtain ⟨hx, hb, hr, hml, hown, hts0, hX, hbl, hlocks, hgv⟩ := id C0
  have hts : ∀ w ∈ wzL_law, w.before #[Value.ref b0] s = true := fun w h => hts0 w (wzL_law_in w h)
  have hbA : ¬ (fun q : Nat => b ≤ q) b0 := by show ¬ b ≤ b0; omega
  have hT := hE.1
  have hN := hE.2.2.2.2.2.2.2.1
  obtain ⟨hM, hG, hto, htm, htq, htq2, -, hed⟩ := id hI
  have hRC : C ≤ 430000 := by have h9 := hR; unfold RI at h9; omega
  have hRS : S ≤ 3400000 := by have h9 := hR; unfold RI at h9; omega
  refine lv_aload_n hx hb dL_law_1398 rfl (lv_at hl 1 rfl) ?_
  refine lv_aload_n hx hb dL_law_1399 rfl (lv_at hl 0 rfl) ?_
  refine lv_iload hx hb dL_law_1400 (lv_at hl 5 rfl) ?_
  refine lv_iconst (v := 1) hx hb dL_law_1402 (by decide) ?_
  refine lv_iadd hx hb dL_law_1403 ?_
  refine lv_topi (fun v1 e2 => ?_)
  obtain rfl : v1 = nI ((6 * k) + 1) := e2.trans (nI_add (6 * k) 1)
  refine va_sld hx hb hX hbl hbA hS (vp_in_nI (by omega) (by omega)) dL_law_1404 ?_
  refine lv_topi (fun v3 e4 => ?_)
  refine lv_aload_n hx hb dL_law_1405 rfl (lv_at hl 0 rfl) ?_
  refine lv_iload hx hb dL_law_1406 (lv_at hl 5 rfl) ?_
  refine lv_iconst (v := 2) hx hb dL_law_1408 (by decide) ?_
  refine lv_iadd hx hb dL_law_1409 ?_
  refine lv_topi (fun v5 e6 => ?_)
  obtain rfl : v5 = nI ((6 * k) + 2) := e6.trans (nI_add (6 * k) 2)
  refine va_sld hx hb hX hbl hbA hS (vp_in_nI (by omega) (by omega)) dL_law_1410 ?_
  refine lv_topi (fun v7 e8 => ?_)
  refine lv_aload_n hx hb dL_law_1411 rfl (lv_at hl 3 rfl) ?_
  refine va_calli (vx_runSW (As := [.ref o, .int v3, .int v7, .ref q]) (rest := []) ⟨hx, hb, hml, hown, hts⟩ (rh_carries l hlt dC dI kA eD b g o q v3 v7 (by omega) (by omega)) (vx_cwSW 4 hts gL_law_L_carries rfl rfl rfl (by decide +kernel) ⟨Nat.le_of_ble_eq_true rfl, Nat.le_of_ble_eq_true rfl⟩) ⟨fb_CX, fun U hU hW => ⟨rfl, CX.give hb0 hM hK hG hE hS hU hW⟩⟩ rfl rfl hl.1 rfl (lv_room (Nat.le_of_ble_eq_true rfl)) dL_law_1412 ⟨(show C + 1 ≤ 960594 by omega), (show S + 6 ≤ 6134452 by omega)⟩) hS (fun q _ h => h) (fun q h => h) (fun r9 g11 t H locs ht hvm hw10 hB hz1 hk1 hS => ?_)
  have hM := hB.back ht
  have hG := hB.2.2.2.1
  have hM1 := hM
  have hG1 := hG
  have hkt : ∀ a : Nat, tg g a ≠ 0 → tg g11 a = tg g a := fun a _ => by obtain ⟨f9, h9⟩ := hw10; rw [h9]; rfl
  have ht12 : tg g11 o = 1 := (hkt o (by omega)).trans hto
  have ht13 : tg g11 mo = 17 := (hkt mo (by omega)).trans htm
  have ht14 : tg g11 q = 34 := (hkt q (by omega)).trans htq
  have ht15 : tg g11 q2 = 35 := (hkt q2 (by omega)).trans htq2
  refine lv_istore (lv' := [(6, .int r9), (0, .ref b0), (1, .ref o), (2, .ref mo), (3, .ref q), (4, .ref q2), (5, .int (nI (6 * k)))]) hx hb dL_law_1415 hl (by decide) rfl (fun ls hl => ?_)
  refine lv_aload_n hx hb dL_law_1417 rfl (lv_at hl 3 rfl) ?_
  refine lv_aload_n hx hb dL_law_1418 rfl (lv_at hl 1 rfl) ?_
  refine lv_iload hx hb dL_law_1419 (lv_at hl 6 rfl) ?_
  refine lv_iconst (v := 1) hx hb dL_law_1421 (by decide) ?_
  refine lv_iadd hx hb dL_law_1422 ?_
  refine lv_topi (fun v16 e17 => ?_)
  obtain rfl : v16 = nI ((6 * k) + 1) := e17.trans (nI_add (6 * k) 1)
  refine va_sld hx hb hX hbl hbA hS (vp_in_nI (by omega) (by omega)) dL_law_1423 ?_
  refine lv_topi (fun v18 e19 => ?_)
  obtain rfl : v3 = v18 := e4.trans e19.symm
  refine lv_aload_n hx hb dL_law_1424 rfl (lv_at hl 1 rfl) ?_
  refine lv_iload hx hb dL_law_1425 (lv_at hl 6 rfl) ?_
  refine lv_iconst (v := 2) hx hb dL_law_1427 (by decide) ?_
  refine lv_iadd hx hb dL_law_1428 ?_
  refine lv_topi (fun v20 e21 => ?_)
  obtain rfl : v20 = nI ((6 * k) + 2) := e21.trans (nI_add (6 * k) 2)
  refine va_sld hx hb hX hbl hbA hS (vp_in_nI (by omega) (by omega)) dL_law_1429 ?_
  refine lv_topi (fun v22 e23 => ?_)
  obtain rfl : v7 = v22 := e8.trans e23.symm
  obtain ⟨u24, u25, hP, hf⟩ := o_mo (i := 0) (q := mo) hM (by omega)
  refine va_calli (va_runV (As := [.int v3, .int v7]) (rest := []) ⟨hx, hb, hml, hown, hts⟩ (rmf_carries l dC dI kA eD b g11 mo v3 v7 (by omega)) (cwV 2 hts gL_law_X6_carries rfl rfl rfl (by decide +kernel) ⟨Nat.le_of_ble_eq_true rfl, Nat.le_of_ble_eq_true rfl⟩) ⟨fb_CX, va_recv hK hP (ci := 10) (q0 := 0) rfl rfl, fun U hU hW => ⟨rfl, CX.give hb0 hM hK hG hE hS hU hW⟩⟩ rfl rfl hl.1 rfl (lv_room (Nat.le_of_ble_eq_true rfl)) dL_law_1430 ⟨(show C + 1 + 710 ≤ 960594 by omega), (show S + 6 + 5460 ≤ 6134452 by omega)⟩) hS (fun q _ h => h) (fun q h => h) (fun r26 g28 t H locs ht hvm hw27 hB hz1 hk1 hS => ?_)
  have hM := hB.back ht
  have hG := hB.2.2.2.1
  have hlx := lx_N hI (Or.inl hw10) hM1 hG1 hw27 hM hG
  have ht29 : tg g28 o = 1 := hlx.1.2.2.1
  have ht30 : tg g28 mo = 17 := hlx.1.2.2.2.1
  have ht31 : tg g28 q = 34 := hlx.1.2.2.2.2.1
  have ht32 : tg g28 q2 = 35 := hlx.1.2.2.2.2.2.1
  refine lv_istore (lv' := [(7, .int r26), (6, .int r9), (0, .ref b0), (1, .ref o), (2, .ref mo), (3, .ref q), (4, .ref q2), (5, .int (nI (6 * k)))]) hx hb dL_law_1433 hl (by decide) rfl (fun ls hl => ?_)
  refine lv_goto (tgt := 1941) hx hb dL_law_1435 (by decide) ?_
  exact hnext g28 H _ ls _ _ ⟨hM, hG, hlx.1.2.2⟩ (by have h9 := hlx.2 C S k hR; unfold RI at h9 ⊢; omega) hS (lv_sub hl [2, 3, 4, 5, 6, 7] rfl)

set_option maxHeartbeats 4000000 in
set_option maxRecDepth 100000 in
/-- the law: a call of visit -/
theorem case_29 {p : Program} {l : Launch} {e : Env} {s : State} {m : MethodId} {below : List Frame} {meth : Method} {c : Code} (hlt : l.stackTraces = false) {b0 L : Nat} {xs : Nat → Int32} (C0 : lw_At p s m meth c b0 L xs) (hL : L ≤ 3072) (dC : Nat → ClassId) (dI : Nat → Nat → Nat) (kA : Nat → ClassId) (eD b o mo q q2 k : Nat) (hb9 : b = s.heap.size) (hb0 : b ≤ s.heap.size) (hk : 6 * k + 6 ≤ L) (hK : va_K (dC, dI) vwCl (TYS kA) s) (hE : EX eD b s) (hnext : ∀ (g : Gh) (H : Heap) (locs : List Loc) (ls : Array Slot) (C S : Nat), LI (dC, dI) kA b eD o mo q q2 g H → RI g mo C S (k + 1) → va_S (fun q => b ≤ q) s.heap H locs → lv_has ls 9 [(0, .ref b0), (1, .ref o), (2, .ref mo), (3, .ref q), (4, .ref q2), (5, .int (nI (6 * k)))] → W p l e room_1 s m #[Value.ref b0] below meth c H locs C S (lw_Z below #[Value.ref b0] s) (F0 m 1941 ls [])) {g : Gh} {H : Heap} {locs : List Loc} {ls : Array Slot} {C S : Nat} (hI : LI (dC, dI) kA b eD o mo q q2 g H) (hR : RI g mo C S k) (hS : va_S (fun q => b ≤ q) s.heap H locs) (hl : lv_has ls 9 [(0, .ref b0), (1, .ref o), (2, .ref mo), (3, .ref q), (4, .ref q2), (5, .int (nI (6 * k)))]) : W p l e room_1 s m #[Value.ref b0] below meth c H locs C S (lw_Z below #[Value.ref b0] s) (F0 m 1438 ls []) := by
  obtain ⟨hx, hb, hr, hml, hown, hts0, hX, hbl, hlocks, hgv⟩ := id C0
  have hts : ∀ w ∈ wzL_law, w.before #[Value.ref b0] s = true := fun w h => hts0 w (wzL_law_in w h)
  have hbA : ¬ (fun q : Nat => b ≤ q) b0 := by show ¬ b ≤ b0; omega
  have hT := hE.1
  have hN := hE.2.2.2.2.2.2.2.1
  obtain ⟨hM, hG, hto, htm, htq, htq2, -, hed⟩ := id hI
  have hRC : C ≤ 430000 := by have h9 := hR; unfold RI at h9; omega
  have hRS : S ≤ 3400000 := by have h9 := hR; unfold RI at h9; omega
  refine lv_aload_n hx hb dL_law_1438 rfl (lv_at hl 1 rfl) ?_
  refine lv_aload_n hx hb dL_law_1439 rfl (lv_at hl 0 rfl) ?_
  refine lv_iload hx hb dL_law_1440 (lv_at hl 5 rfl) ?_
  refine lv_iconst (v := 1) hx hb dL_law_1442 (by decide) ?_
  refine lv_iadd hx hb dL_law_1443 ?_
  refine lv_topi (fun v1 e2 => ?_)
  obtain rfl : v1 = nI ((6 * k) + 1) := e2.trans (nI_add (6 * k) 1)
  refine va_sld hx hb hX hbl hbA hS (vp_in_nI (by omega) (by omega)) dL_law_1444 ?_
  refine lv_topi (fun v3 e4 => ?_)
  refine lv_aload_n hx hb dL_law_1445 rfl (lv_at hl 0 rfl) ?_
  refine lv_iload hx hb dL_law_1446 (lv_at hl 5 rfl) ?_
  refine lv_iconst (v := 2) hx hb dL_law_1448 (by decide) ?_
  refine lv_iadd hx hb dL_law_1449 ?_
  refine lv_topi (fun v5 e6 => ?_)
  obtain rfl : v5 = nI ((6 * k) + 2) := e6.trans (nI_add (6 * k) 2)
  refine va_sld hx hb hX hbl hbA hS (vp_in_nI (by omega) (by omega)) dL_law_1450 ?_
  refine lv_topi (fun v7 e8 => ?_)
  refine lv_aload_n hx hb dL_law_1451 rfl (lv_at hl 3 rfl) ?_
  refine va_calli (vx_runSW (As := [.ref o, .int v3, .int v7, .ref q]) (rest := []) ⟨hx, hb, hml, hown, hts⟩ (rh_visit l hlt dC dI kA eD b g o q v3 v7 (by omega) (by omega)) (vx_cwSW 4 hts gL_law_L_visit rfl rfl rfl (by decide +kernel) ⟨Nat.le_of_ble_eq_true rfl, Nat.le_of_ble_eq_true rfl⟩) ⟨fb_CX, fun U hU hW => ⟨rfl, CX.give hb0 hM hK hG hE hS hU hW⟩⟩ rfl rfl hl.1 rfl (lv_room (Nat.le_of_ble_eq_true rfl)) dL_law_1452 ⟨(show C + 1 ≤ 960594 by omega), (show S + 6 ≤ 6134452 by omega)⟩) hS (fun q _ h => h) (fun q h => h) (fun r9 g11 t H locs ht hvm hw10 hB hz1 hk1 hS => ?_)
  have hM := hB.back ht
  have hG := hB.2.2.2.1
  have hM1 := hM
  have hG1 := hG
  have hkt : ∀ a : Nat, tg g a ≠ 0 → tg g11 a = tg g a := fun a _ => by obtain ⟨f9, h9⟩ := hw10; rw [h9]; rfl
  have ht12 : tg g11 o = 1 := (hkt o (by omega)).trans hto
  have ht13 : tg g11 mo = 17 := (hkt mo (by omega)).trans htm
  have ht14 : tg g11 q = 34 := (hkt q (by omega)).trans htq
  have ht15 : tg g11 q2 = 35 := (hkt q2 (by omega)).trans htq2
  refine lv_istore (lv' := [(6, .int r9), (0, .ref b0), (1, .ref o), (2, .ref mo), (3, .ref q), (4, .ref q2), (5, .int (nI (6 * k)))]) hx hb dL_law_1455 hl (by decide) rfl (fun ls hl => ?_)
  refine lv_aload_n hx hb dL_law_1457 rfl (lv_at hl 3 rfl) ?_
  refine lv_aload_n hx hb dL_law_1458 rfl (lv_at hl 1 rfl) ?_
  refine lv_iload hx hb dL_law_1459 (lv_at hl 6 rfl) ?_
  refine lv_iconst (v := 1) hx hb dL_law_1461 (by decide) ?_
  refine lv_iadd hx hb dL_law_1462 ?_
  refine lv_topi (fun v16 e17 => ?_)
  obtain rfl : v16 = nI ((6 * k) + 1) := e17.trans (nI_add (6 * k) 1)
  refine va_sld hx hb hX hbl hbA hS (vp_in_nI (by omega) (by omega)) dL_law_1463 ?_
  refine lv_topi (fun v18 e19 => ?_)
  obtain rfl : v3 = v18 := e4.trans e19.symm
  refine lv_aload_n hx hb dL_law_1464 rfl (lv_at hl 1 rfl) ?_
  refine lv_iload hx hb dL_law_1465 (lv_at hl 6 rfl) ?_
  refine lv_iconst (v := 2) hx hb dL_law_1467 (by decide) ?_
  refine lv_iadd hx hb dL_law_1468 ?_
  refine lv_topi (fun v20 e21 => ?_)
  obtain rfl : v20 = nI ((6 * k) + 2) := e21.trans (nI_add (6 * k) 2)
  refine va_sld hx hb hX hbl hbA hS (vp_in_nI (by omega) (by omega)) dL_law_1469 ?_
  refine lv_topi (fun v22 e23 => ?_)
  obtain rfl : v7 = v22 := e8.trans e23.symm
  obtain ⟨u24, u25, hP, hf⟩ := o_mo (i := 0) (q := mo) hM (by omega)
  refine va_calli (va_runV (As := [.int v3, .int v7]) (rest := []) ⟨hx, hb, hml, hown, hts⟩ (rmf_visit l dC dI kA eD b g11 mo v3 v7 (by omega)) (cwV 2 hts gL_law_X6_visit rfl rfl rfl (by decide +kernel) ⟨Nat.le_of_ble_eq_true rfl, Nat.le_of_ble_eq_true rfl⟩) ⟨fb_CX, va_recv hK hP (ci := 10) (q0 := 0) rfl rfl, fun U hU hW => ⟨rfl, CX.give hb0 hM hK hG hE hS hU hW⟩⟩ rfl rfl hl.1 rfl (lv_room (Nat.le_of_ble_eq_true rfl)) dL_law_1470 ⟨(show C + 1 + 7 ≤ 960594 by omega), (show S + 6 + 54 ≤ 6134452 by omega)⟩) hS (fun q _ h => h) (fun q h => h) (fun r26 g28 t H locs ht hvm hw27 hB hz1 hk1 hS => ?_)
  have hM := hB.back ht
  have hG := hB.2.2.2.1
  have hlx := lx_N hI (Or.inl hw10) hM1 hG1 hw27 hM hG
  have ht29 : tg g28 o = 1 := hlx.1.2.2.1
  have ht30 : tg g28 mo = 17 := hlx.1.2.2.2.1
  have ht31 : tg g28 q = 34 := hlx.1.2.2.2.2.1
  have ht32 : tg g28 q2 = 35 := hlx.1.2.2.2.2.2.1
  refine lv_istore (lv' := [(7, .int r26), (6, .int r9), (0, .ref b0), (1, .ref o), (2, .ref mo), (3, .ref q), (4, .ref q2), (5, .int (nI (6 * k)))]) hx hb dL_law_1473 hl (by decide) rfl (fun ls hl => ?_)
  refine lv_goto (tgt := 1941) hx hb dL_law_1475 (by decide) ?_
  exact hnext g28 H _ ls _ _ ⟨hM, hG, hlx.1.2.2⟩ (by have h9 := hlx.2 C S k hR; unfold RI at h9 ⊢; omega) hS (lv_sub hl [2, 3, 4, 5, 6, 7] rfl)

set_option maxHeartbeats 4000000 in
set_option maxRecDepth 100000 in
/-- the law: a call of squareBits -/
theorem case_30 {p : Program} {l : Launch} {e : Env} {s : State} {m : MethodId} {below : List Frame} {meth : Method} {c : Code} (hlt : l.stackTraces = false) {b0 L : Nat} {xs : Nat → Int32} (C0 : lw_At p s m meth c b0 L xs) (hL : L ≤ 3072) (dC : Nat → ClassId) (dI : Nat → Nat → Nat) (kA : Nat → ClassId) (eD b o mo q q2 k : Nat) (hb9 : b = s.heap.size) (hb0 : b ≤ s.heap.size) (hk : 6 * k + 6 ≤ L) (hK : va_K (dC, dI) vwCl (TYS kA) s) (hE : EX eD b s) (hnext : ∀ (g : Gh) (H : Heap) (locs : List Loc) (ls : Array Slot) (C S : Nat), LI (dC, dI) kA b eD o mo q q2 g H → RI g mo C S (k + 1) → va_S (fun q => b ≤ q) s.heap H locs → lv_has ls 9 [(0, .ref b0), (1, .ref o), (2, .ref mo), (3, .ref q), (4, .ref q2), (5, .int (nI (6 * k)))] → W p l e room_1 s m #[Value.ref b0] below meth c H locs C S (lw_Z below #[Value.ref b0] s) (F0 m 1941 ls [])) {g : Gh} {H : Heap} {locs : List Loc} {ls : Array Slot} {C S : Nat} (hI : LI (dC, dI) kA b eD o mo q q2 g H) (hR : RI g mo C S k) (hS : va_S (fun q => b ≤ q) s.heap H locs) (hl : lv_has ls 9 [(0, .ref b0), (1, .ref o), (2, .ref mo), (3, .ref q), (4, .ref q2), (5, .int (nI (6 * k)))]) : W p l e room_1 s m #[Value.ref b0] below meth c H locs C S (lw_Z below #[Value.ref b0] s) (F0 m 1478 ls []) := by
  obtain ⟨hx, hb, hr, hml, hown, hts0, hX, hbl, hlocks, hgv⟩ := id C0
  have hts : ∀ w ∈ wzL_law, w.before #[Value.ref b0] s = true := fun w h => hts0 w (wzL_law_in w h)
  have hbA : ¬ (fun q : Nat => b ≤ q) b0 := by show ¬ b ≤ b0; omega
  have hT := hE.1
  have hN := hE.2.2.2.2.2.2.2.1
  obtain ⟨hM, hG, hto, htm, htq, htq2, -, hed⟩ := id hI
  have hRC : C ≤ 430000 := by have h9 := hR; unfold RI at h9; omega
  have hRS : S ≤ 3400000 := by have h9 := hR; unfold RI at h9; omega
  refine lv_aload_n hx hb dL_law_1478 rfl (lv_at hl 1 rfl) ?_
  refine lv_aload_n hx hb dL_law_1479 rfl (lv_at hl 0 rfl) ?_
  refine lv_iload hx hb dL_law_1480 (lv_at hl 5 rfl) ?_
  refine lv_iconst (v := 1) hx hb dL_law_1482 (by decide) ?_
  refine lv_iadd hx hb dL_law_1483 ?_
  refine lv_topi (fun v1 e2 => ?_)
  obtain rfl : v1 = nI ((6 * k) + 1) := e2.trans (nI_add (6 * k) 1)
  refine va_sld hx hb hX hbl hbA hS (vp_in_nI (by omega) (by omega)) dL_law_1484 ?_
  refine lv_topi (fun v3 e4 => ?_)
  refine lv_aload_n hx hb dL_law_1485 rfl (lv_at hl 0 rfl) ?_
  refine lv_iload hx hb dL_law_1486 (lv_at hl 5 rfl) ?_
  refine lv_iconst (v := 2) hx hb dL_law_1488 (by decide) ?_
  refine lv_iadd hx hb dL_law_1489 ?_
  refine lv_topi (fun v5 e6 => ?_)
  obtain rfl : v5 = nI ((6 * k) + 2) := e6.trans (nI_add (6 * k) 2)
  refine va_sld hx hb hX hbl hbA hS (vp_in_nI (by omega) (by omega)) dL_law_1490 ?_
  refine lv_topi (fun v7 e8 => ?_)
  refine lv_aload_n hx hb dL_law_1491 rfl (lv_at hl 0 rfl) ?_
  refine lv_iload hx hb dL_law_1492 (lv_at hl 5 rfl) ?_
  refine lv_iconst (v := 3) hx hb dL_law_1494 (by decide) ?_
  refine lv_iadd hx hb dL_law_1495 ?_
  refine lv_topi (fun v9 e10 => ?_)
  obtain rfl : v9 = nI ((6 * k) + 3) := e10.trans (nI_add (6 * k) 3)
  refine va_sld hx hb hX hbl hbA hS (vp_in_nI (by omega) (by omega)) dL_law_1496 ?_
  refine lv_topi (fun v11 e12 => ?_)
  refine lv_if_eq (tgt := 1504) hx hb dL_law_1497 (by decide) (fun c13 => ?_) (fun c13 => ?_)
  · skip
    refine lv_iconst (v := 0) hx hb dL_law_1504 (by decide) ?_
    refine lv_aload_n hx hb dL_law_1505 rfl (lv_at hl 3 rfl) ?_
    refine va_calli (vx_runSW (As := [.ref o, .int v3, .int v7, .int 0, .ref q]) (rest := []) ⟨hx, hb, hml, hown, hts⟩ (rh_squareBits l hlt dC dI kA eD b g o q v3 v7 0 (by omega) (by omega)) (vx_cwSW 5 hts gL_law_L_squareBits rfl rfl rfl (by decide +kernel) ⟨Nat.le_of_ble_eq_true rfl, Nat.le_of_ble_eq_true rfl⟩) ⟨fb_CX, fun U hU hW => ⟨rfl, CX.give hb0 hM hK hG hE hS hU hW⟩⟩ rfl rfl hl.1 rfl (lv_room (Nat.le_of_ble_eq_true rfl)) dL_law_1506 ⟨(show C + 1 ≤ 960594 by omega), (show S + 6 ≤ 6134452 by omega)⟩) hS (fun q _ h => h) (fun q h => h) (fun r14 g16 t H locs ht hvm hw15 hB hz1 hk1 hS => ?_)
    have hM := hB.back ht
    have hG := hB.2.2.2.1
    have hM1 := hM
    have hG1 := hG
    have hkt := kt_squareBits hw15
    have ht17 : tg g16 o = 1 := (hkt o (by omega)).trans hto
    have ht18 : tg g16 mo = 17 := (hkt mo (by omega)).trans htm
    have ht19 : tg g16 q = 34 := (hkt q (by omega)).trans htq
    have ht20 : tg g16 q2 = 35 := (hkt q2 (by omega)).trans htq2
    refine lv_istore (lv' := [(6, .int r14), (0, .ref b0), (1, .ref o), (2, .ref mo), (3, .ref q), (4, .ref q2), (5, .int (nI (6 * k)))]) hx hb dL_law_1509 hl (by decide) rfl (fun ls hl => ?_)
    refine lv_aload_n hx hb dL_law_1511 rfl (lv_at hl 3 rfl) ?_
    refine lv_aload_n hx hb dL_law_1512 rfl (lv_at hl 1 rfl) ?_
    refine lv_iload hx hb dL_law_1513 (lv_at hl 6 rfl) ?_
    refine lv_iconst (v := 1) hx hb dL_law_1515 (by decide) ?_
    refine lv_iadd hx hb dL_law_1516 ?_
    refine lv_topi (fun v21 e22 => ?_)
    obtain rfl : v21 = nI ((6 * k) + 1) := e22.trans (nI_add (6 * k) 1)
    refine va_sld hx hb hX hbl hbA hS (vp_in_nI (by omega) (by omega)) dL_law_1517 ?_
    refine lv_topi (fun v23 e24 => ?_)
    obtain rfl : v3 = v23 := e4.trans e24.symm
    refine lv_aload_n hx hb dL_law_1518 rfl (lv_at hl 1 rfl) ?_
    refine lv_iload hx hb dL_law_1519 (lv_at hl 6 rfl) ?_
    refine lv_iconst (v := 2) hx hb dL_law_1521 (by decide) ?_
    refine lv_iadd hx hb dL_law_1522 ?_
    refine lv_topi (fun v25 e26 => ?_)
    obtain rfl : v25 = nI ((6 * k) + 2) := e26.trans (nI_add (6 * k) 2)
    refine va_sld hx hb hX hbl hbA hS (vp_in_nI (by omega) (by omega)) dL_law_1523 ?_
    refine lv_topi (fun v27 e28 => ?_)
    obtain rfl : v7 = v27 := e8.trans e28.symm
    refine lv_aload_n hx hb dL_law_1524 rfl (lv_at hl 1 rfl) ?_
    refine lv_iload hx hb dL_law_1525 (lv_at hl 6 rfl) ?_
    refine lv_iconst (v := 3) hx hb dL_law_1527 (by decide) ?_
    refine lv_iadd hx hb dL_law_1528 ?_
    refine lv_topi (fun v29 e30 => ?_)
    obtain rfl : v29 = nI ((6 * k) + 3) := e30.trans (nI_add (6 * k) 3)
    refine va_sld hx hb hX hbl hbA hS (vp_in_nI (by omega) (by omega)) dL_law_1529 ?_
    refine lv_topi (fun v31 e32 => ?_)
    obtain rfl : v11 = v31 := e12.trans e32.symm
    refine lv_if_eq (tgt := 1537) hx hb dL_law_1530 (by decide) (fun _ => ?_) (fun cx => absurd c13 cx)
    refine lv_iconst (v := 0) hx hb dL_law_1537 (by decide) ?_
    obtain ⟨u33, u34, hP, hf⟩ := o_mo (i := 0) (q := mo) hM (by omega)
    refine va_calll (va_runV (As := [.int v3, .int v7, .int 0]) (rest := []) ⟨hx, hb, hml, hown, hts⟩ (rmf_squareBits l dC dI kA eD b g16 mo v3 v7 0 (by omega)) (cwV 3 hts gL_law_X6_squareBits rfl rfl rfl (by decide +kernel) ⟨Nat.le_of_ble_eq_true rfl, Nat.le_of_ble_eq_true rfl⟩) ⟨fb_CX, va_recv hK hP (ci := 10) (q0 := 0) rfl rfl, fun U hU hW => ⟨rfl, CX.give hb0 hM hK hG hE hS hU hW⟩⟩ rfl rfl hl.1 rfl (lv_room (Nat.le_of_ble_eq_true rfl)) dL_law_1538 ⟨(show C + 1 + 0 ≤ 960594 by omega), (show S + 6 + 0 ≤ 6134452 by omega)⟩) hS (fun q _ h => h) (fun q h => h) (fun r35 g37 t H locs ht hvm hw36 hB hz1 hk1 hS => ?_)
    have hM := hB.back ht
    have hG := hB.2.2.2.1
    have hlx := lx_squareBits hI hw15 hM1 hG1 hw36 hM hG
    have ht38 : tg g37 o = 1 := hlx.1.2.2.1
    have ht39 : tg g37 mo = 17 := hlx.1.2.2.2.1
    have ht40 : tg g37 q = 34 := hlx.1.2.2.2.2.1
    have ht41 : tg g37 q2 = 35 := hlx.1.2.2.2.2.2.1
    refine lv_lstore (lv' := [(7, .long r35), (6, .int r14), (0, .ref b0), (1, .ref o), (2, .ref mo), (3, .ref q), (4, .ref q2), (5, .int (nI (6 * k)))]) hx hb dL_law_1541 hl (by decide) rfl (fun ls hl => ?_)
    refine lv_goto (tgt := 1941) hx hb dL_law_1543 (by decide) ?_
    exact hnext g37 H _ ls _ _ ⟨hM, hG, hlx.1.2.2⟩ (by have h9 := hlx.2.1 C S k hR; unfold RI at h9 ⊢; omega) hS (lv_sub hl [2, 3, 4, 5, 6, 7] rfl)
  · skip
    refine lv_iconst (v := 1) hx hb dL_law_1500 (by decide) ?_
    refine lv_goto (tgt := 1505) hx hb dL_law_1501 (by decide) ?_
    refine lv_aload_n hx hb dL_law_1505 rfl (lv_at hl 3 rfl) ?_
    refine va_calli (vx_runSW (As := [.ref o, .int v3, .int v7, .int 1, .ref q]) (rest := []) ⟨hx, hb, hml, hown, hts⟩ (rh_squareBits l hlt dC dI kA eD b g o q v3 v7 1 (by omega) (by omega)) (vx_cwSW 5 hts gL_law_L_squareBits rfl rfl rfl (by decide +kernel) ⟨Nat.le_of_ble_eq_true rfl, Nat.le_of_ble_eq_true rfl⟩) ⟨fb_CX, fun U hU hW => ⟨rfl, CX.give hb0 hM hK hG hE hS hU hW⟩⟩ rfl rfl hl.1 rfl (lv_room (Nat.le_of_ble_eq_true rfl)) dL_law_1506 ⟨(show C + 1 ≤ 960594 by omega), (show S + 6 ≤ 6134452 by omega)⟩) hS (fun q _ h => h) (fun q h => h) (fun r42 g44 t H locs ht hvm hw43 hB hz1 hk1 hS => ?_)
    have hM := hB.back ht
    have hG := hB.2.2.2.1
    have hM1 := hM
    have hG1 := hG
    have hkt := kt_squareBits hw43
    have ht45 : tg g44 o = 1 := (hkt o (by omega)).trans hto
    have ht46 : tg g44 mo = 17 := (hkt mo (by omega)).trans htm
    have ht47 : tg g44 q = 34 := (hkt q (by omega)).trans htq
    have ht48 : tg g44 q2 = 35 := (hkt q2 (by omega)).trans htq2
    refine lv_istore (lv' := [(6, .int r42), (0, .ref b0), (1, .ref o), (2, .ref mo), (3, .ref q), (4, .ref q2), (5, .int (nI (6 * k)))]) hx hb dL_law_1509 hl (by decide) rfl (fun ls hl => ?_)
    refine lv_aload_n hx hb dL_law_1511 rfl (lv_at hl 3 rfl) ?_
    refine lv_aload_n hx hb dL_law_1512 rfl (lv_at hl 1 rfl) ?_
    refine lv_iload hx hb dL_law_1513 (lv_at hl 6 rfl) ?_
    refine lv_iconst (v := 1) hx hb dL_law_1515 (by decide) ?_
    refine lv_iadd hx hb dL_law_1516 ?_
    refine lv_topi (fun v49 e50 => ?_)
    obtain rfl : v49 = nI ((6 * k) + 1) := e50.trans (nI_add (6 * k) 1)
    refine va_sld hx hb hX hbl hbA hS (vp_in_nI (by omega) (by omega)) dL_law_1517 ?_
    refine lv_topi (fun v51 e52 => ?_)
    obtain rfl : v3 = v51 := e4.trans e52.symm
    refine lv_aload_n hx hb dL_law_1518 rfl (lv_at hl 1 rfl) ?_
    refine lv_iload hx hb dL_law_1519 (lv_at hl 6 rfl) ?_
    refine lv_iconst (v := 2) hx hb dL_law_1521 (by decide) ?_
    refine lv_iadd hx hb dL_law_1522 ?_
    refine lv_topi (fun v53 e54 => ?_)
    obtain rfl : v53 = nI ((6 * k) + 2) := e54.trans (nI_add (6 * k) 2)
    refine va_sld hx hb hX hbl hbA hS (vp_in_nI (by omega) (by omega)) dL_law_1523 ?_
    refine lv_topi (fun v55 e56 => ?_)
    obtain rfl : v7 = v55 := e8.trans e56.symm
    refine lv_aload_n hx hb dL_law_1524 rfl (lv_at hl 1 rfl) ?_
    refine lv_iload hx hb dL_law_1525 (lv_at hl 6 rfl) ?_
    refine lv_iconst (v := 3) hx hb dL_law_1527 (by decide) ?_
    refine lv_iadd hx hb dL_law_1528 ?_
    refine lv_topi (fun v57 e58 => ?_)
    obtain rfl : v57 = nI ((6 * k) + 3) := e58.trans (nI_add (6 * k) 3)
    refine va_sld hx hb hX hbl hbA hS (vp_in_nI (by omega) (by omega)) dL_law_1529 ?_
    refine lv_topi (fun v59 e60 => ?_)
    obtain rfl : v11 = v59 := e12.trans e60.symm
    refine lv_if_eq (tgt := 1537) hx hb dL_law_1530 (by decide) (fun cx => absurd cx c13) (fun _ => ?_)
    refine lv_iconst (v := 1) hx hb dL_law_1533 (by decide) ?_
    refine lv_goto (tgt := 1538) hx hb dL_law_1534 (by decide) ?_
    obtain ⟨u61, u62, hP, hf⟩ := o_mo (i := 0) (q := mo) hM (by omega)
    refine va_calll (va_runV (As := [.int v3, .int v7, .int 1]) (rest := []) ⟨hx, hb, hml, hown, hts⟩ (rmf_squareBits l dC dI kA eD b g44 mo v3 v7 1 (by omega)) (cwV 3 hts gL_law_X6_squareBits rfl rfl rfl (by decide +kernel) ⟨Nat.le_of_ble_eq_true rfl, Nat.le_of_ble_eq_true rfl⟩) ⟨fb_CX, va_recv hK hP (ci := 10) (q0 := 0) rfl rfl, fun U hU hW => ⟨rfl, CX.give hb0 hM hK hG hE hS hU hW⟩⟩ rfl rfl hl.1 rfl (lv_room (Nat.le_of_ble_eq_true rfl)) dL_law_1538 ⟨(show C + 1 + 0 ≤ 960594 by omega), (show S + 6 + 0 ≤ 6134452 by omega)⟩) hS (fun q _ h => h) (fun q h => h) (fun r63 g65 t H locs ht hvm hw64 hB hz1 hk1 hS => ?_)
    have hM := hB.back ht
    have hG := hB.2.2.2.1
    have hlx := lx_squareBits hI hw43 hM1 hG1 hw64 hM hG
    have ht66 : tg g65 o = 1 := hlx.1.2.2.1
    have ht67 : tg g65 mo = 17 := hlx.1.2.2.2.1
    have ht68 : tg g65 q = 34 := hlx.1.2.2.2.2.1
    have ht69 : tg g65 q2 = 35 := hlx.1.2.2.2.2.2.1
    refine lv_lstore (lv' := [(7, .long r63), (6, .int r42), (0, .ref b0), (1, .ref o), (2, .ref mo), (3, .ref q), (4, .ref q2), (5, .int (nI (6 * k)))]) hx hb dL_law_1541 hl (by decide) rfl (fun ls hl => ?_)
    refine lv_goto (tgt := 1941) hx hb dL_law_1543 (by decide) ?_
    exact hnext g65 H _ ls _ _ ⟨hM, hG, hlx.1.2.2⟩ (by have h9 := hlx.2.1 C S k hR; unfold RI at h9 ⊢; omega) hS (lv_sub hl [2, 3, 4, 5, 6, 7] rfl)

set_option maxHeartbeats 4000000 in
set_option maxRecDepth 100000 in
/-- the law: a call of plan -/
theorem case_31 {p : Program} {l : Launch} {e : Env} {s : State} {m : MethodId} {below : List Frame} {meth : Method} {c : Code} (hlt : l.stackTraces = false) {b0 L : Nat} {xs : Nat → Int32} (C0 : lw_At p s m meth c b0 L xs) (hL : L ≤ 3072) (dC : Nat → ClassId) (dI : Nat → Nat → Nat) (kA : Nat → ClassId) (eD b o mo q q2 k : Nat) (hb9 : b = s.heap.size) (hb0 : b ≤ s.heap.size) (hk : 6 * k + 6 ≤ L) (hK : va_K (dC, dI) vwCl (TYS kA) s) (hE : EX eD b s) (hnext : ∀ (g : Gh) (H : Heap) (locs : List Loc) (ls : Array Slot) (C S : Nat), LI (dC, dI) kA b eD o mo q q2 g H → RI g mo C S (k + 1) → va_S (fun q => b ≤ q) s.heap H locs → lv_has ls 9 [(0, .ref b0), (1, .ref o), (2, .ref mo), (3, .ref q), (4, .ref q2), (5, .int (nI (6 * k)))] → W p l e room_1 s m #[Value.ref b0] below meth c H locs C S (lw_Z below #[Value.ref b0] s) (F0 m 1941 ls [])) {g : Gh} {H : Heap} {locs : List Loc} {ls : Array Slot} {C S : Nat} (hI : LI (dC, dI) kA b eD o mo q q2 g H) (hR : RI g mo C S k) (hS : va_S (fun q => b ≤ q) s.heap H locs) (hl : lv_has ls 9 [(0, .ref b0), (1, .ref o), (2, .ref mo), (3, .ref q), (4, .ref q2), (5, .int (nI (6 * k)))]) : W p l e room_1 s m #[Value.ref b0] below meth c H locs C S (lw_Z below #[Value.ref b0] s) (F0 m 1546 ls []) := by
  obtain ⟨hx, hb, hr, hml, hown, hts0, hX, hbl, hlocks, hgv⟩ := id C0
  have hts : ∀ w ∈ wzL_law, w.before #[Value.ref b0] s = true := fun w h => hts0 w (wzL_law_in w h)
  have hbA : ¬ (fun q : Nat => b ≤ q) b0 := by show ¬ b ≤ b0; omega
  have hT := hE.1
  have hN := hE.2.2.2.2.2.2.2.1
  obtain ⟨hM, hG, hto, htm, htq, htq2, -, hed⟩ := id hI
  have hRC : C ≤ 430000 := by have h9 := hR; unfold RI at h9; omega
  have hRS : S ≤ 3400000 := by have h9 := hR; unfold RI at h9; omega
  refine lv_aload_n hx hb dL_law_1546 rfl (lv_at hl 1 rfl) ?_
  refine lv_aload_n hx hb dL_law_1547 rfl (lv_at hl 0 rfl) ?_
  refine lv_iload hx hb dL_law_1548 (lv_at hl 5 rfl) ?_
  refine lv_iconst (v := 1) hx hb dL_law_1550 (by decide) ?_
  refine lv_iadd hx hb dL_law_1551 ?_
  refine lv_topi (fun v1 e2 => ?_)
  obtain rfl : v1 = nI ((6 * k) + 1) := e2.trans (nI_add (6 * k) 1)
  refine va_sld hx hb hX hbl hbA hS (vp_in_nI (by omega) (by omega)) dL_law_1552 ?_
  refine lv_topi (fun v3 e4 => ?_)
  refine lv_aload_n hx hb dL_law_1553 rfl (lv_at hl 0 rfl) ?_
  refine lv_iload hx hb dL_law_1554 (lv_at hl 5 rfl) ?_
  refine lv_iconst (v := 2) hx hb dL_law_1556 (by decide) ?_
  refine lv_iadd hx hb dL_law_1557 ?_
  refine lv_topi (fun v5 e6 => ?_)
  obtain rfl : v5 = nI ((6 * k) + 2) := e6.trans (nI_add (6 * k) 2)
  refine va_sld hx hb hX hbl hbA hS (vp_in_nI (by omega) (by omega)) dL_law_1558 ?_
  refine lv_topi (fun v7 e8 => ?_)
  refine lv_aload_n hx hb dL_law_1559 rfl (lv_at hl 0 rfl) ?_
  refine lv_iload hx hb dL_law_1560 (lv_at hl 5 rfl) ?_
  refine lv_iconst (v := 3) hx hb dL_law_1562 (by decide) ?_
  refine lv_iadd hx hb dL_law_1563 ?_
  refine lv_topi (fun v9 e10 => ?_)
  obtain rfl : v9 = nI ((6 * k) + 3) := e10.trans (nI_add (6 * k) 3)
  refine va_sld hx hb hX hbl hbA hS (vp_in_nI (by omega) (by omega)) dL_law_1564 ?_
  refine lv_topi (fun v11 e12 => ?_)
  refine lv_aload_n hx hb dL_law_1565 rfl (lv_at hl 0 rfl) ?_
  refine lv_iload hx hb dL_law_1566 (lv_at hl 5 rfl) ?_
  refine lv_iconst (v := 4) hx hb dL_law_1568 (by decide) ?_
  refine lv_iadd hx hb dL_law_1569 ?_
  refine lv_topi (fun v13 e14 => ?_)
  obtain rfl : v13 = nI ((6 * k) + 4) := e14.trans (nI_add (6 * k) 4)
  refine va_sld hx hb hX hbl hbA hS (vp_in_nI (by omega) (by omega)) dL_law_1570 ?_
  refine lv_topi (fun v15 e16 => ?_)
  refine lv_if_eq (tgt := 1578) hx hb dL_law_1571 (by decide) (fun c17 => ?_) (fun c17 => ?_)
  · skip
    refine lv_iconst (v := 0) hx hb dL_law_1578 (by decide) ?_
    refine lv_aload_n hx hb dL_law_1579 rfl (lv_at hl 3 rfl) ?_
    refine va_calli (vx_runSW (As := [.ref o, .int v3, .int v7, .int v11, .int 0, .ref q]) (rest := []) ⟨hx, hb, hml, hown, hts⟩ (rh_plan l hlt dC dI kA eD b g o q v3 v7 v11 0 (by omega) (by omega)) (vx_cwSW 6 hts gL_law_L_plan rfl rfl rfl (by decide +kernel) ⟨Nat.le_of_ble_eq_true rfl, Nat.le_of_ble_eq_true rfl⟩) ⟨fb_CX, fun U hU hW => ⟨rfl, CX.give hb0 hM hK hG hE hS hU hW⟩⟩ rfl rfl hl.1 rfl (lv_room (Nat.le_of_ble_eq_true rfl)) dL_law_1580 ⟨(show C + 1 ≤ 960594 by omega), (show S + 6 ≤ 6134452 by omega)⟩) hS (fun q _ h => h) (fun q h => h) (fun r18 g20 t H locs ht hvm hw19 hB hz1 hk1 hS => ?_)
    have hM := hB.back ht
    have hG := hB.2.2.2.1
    have hM1 := hM
    have hG1 := hG
    have hkt := kt_plan hw19
    have ht21 : tg g20 o = 1 := (hkt o (by omega)).trans hto
    have ht22 : tg g20 mo = 17 := (hkt mo (by omega)).trans htm
    have ht23 : tg g20 q = 34 := (hkt q (by omega)).trans htq
    have ht24 : tg g20 q2 = 35 := (hkt q2 (by omega)).trans htq2
    refine lv_istore (lv' := [(6, .int r18), (0, .ref b0), (1, .ref o), (2, .ref mo), (3, .ref q), (4, .ref q2), (5, .int (nI (6 * k)))]) hx hb dL_law_1583 hl (by decide) rfl (fun ls hl => ?_)
    refine lv_aload_n hx hb dL_law_1585 rfl (lv_at hl 3 rfl) ?_
    refine lv_aload_n hx hb dL_law_1586 rfl (lv_at hl 1 rfl) ?_
    refine lv_iload hx hb dL_law_1587 (lv_at hl 6 rfl) ?_
    refine lv_iconst (v := 1) hx hb dL_law_1589 (by decide) ?_
    refine lv_iadd hx hb dL_law_1590 ?_
    refine lv_topi (fun v25 e26 => ?_)
    obtain rfl : v25 = nI ((6 * k) + 1) := e26.trans (nI_add (6 * k) 1)
    refine va_sld hx hb hX hbl hbA hS (vp_in_nI (by omega) (by omega)) dL_law_1591 ?_
    refine lv_topi (fun v27 e28 => ?_)
    obtain rfl : v3 = v27 := e4.trans e28.symm
    refine lv_aload_n hx hb dL_law_1592 rfl (lv_at hl 1 rfl) ?_
    refine lv_iload hx hb dL_law_1593 (lv_at hl 6 rfl) ?_
    refine lv_iconst (v := 2) hx hb dL_law_1595 (by decide) ?_
    refine lv_iadd hx hb dL_law_1596 ?_
    refine lv_topi (fun v29 e30 => ?_)
    obtain rfl : v29 = nI ((6 * k) + 2) := e30.trans (nI_add (6 * k) 2)
    refine va_sld hx hb hX hbl hbA hS (vp_in_nI (by omega) (by omega)) dL_law_1597 ?_
    refine lv_topi (fun v31 e32 => ?_)
    obtain rfl : v7 = v31 := e8.trans e32.symm
    refine lv_aload_n hx hb dL_law_1598 rfl (lv_at hl 1 rfl) ?_
    refine lv_iload hx hb dL_law_1599 (lv_at hl 6 rfl) ?_
    refine lv_iconst (v := 3) hx hb dL_law_1601 (by decide) ?_
    refine lv_iadd hx hb dL_law_1602 ?_
    refine lv_topi (fun v33 e34 => ?_)
    obtain rfl : v33 = nI ((6 * k) + 3) := e34.trans (nI_add (6 * k) 3)
    refine va_sld hx hb hX hbl hbA hS (vp_in_nI (by omega) (by omega)) dL_law_1603 ?_
    refine lv_topi (fun v35 e36 => ?_)
    obtain rfl : v11 = v35 := e12.trans e36.symm
    refine lv_aload_n hx hb dL_law_1604 rfl (lv_at hl 1 rfl) ?_
    refine lv_iload hx hb dL_law_1605 (lv_at hl 6 rfl) ?_
    refine lv_iconst (v := 4) hx hb dL_law_1607 (by decide) ?_
    refine lv_iadd hx hb dL_law_1608 ?_
    refine lv_topi (fun v37 e38 => ?_)
    obtain rfl : v37 = nI ((6 * k) + 4) := e38.trans (nI_add (6 * k) 4)
    refine va_sld hx hb hX hbl hbA hS (vp_in_nI (by omega) (by omega)) dL_law_1609 ?_
    refine lv_topi (fun v39 e40 => ?_)
    obtain rfl : v15 = v39 := e16.trans e40.symm
    refine lv_if_eq (tgt := 1617) hx hb dL_law_1610 (by decide) (fun _ => ?_) (fun cx => absurd c17 cx)
    refine lv_iconst (v := 0) hx hb dL_law_1617 (by decide) ?_
    obtain ⟨u41, u42, hP, hf⟩ := o_mo (i := 0) (q := mo) hM (by omega)
    refine va_calli (va_runV (As := [.int v3, .int v7, .int v11, .int 0]) (rest := []) ⟨hx, hb, hml, hown, hts⟩ (rmf_plan l dC dI kA eD b g20 mo v3 v7 v11 0 (by omega)) (cwV 4 hts gL_law_X6_plan rfl rfl rfl (by decide +kernel) ⟨Nat.le_of_ble_eq_true rfl, Nat.le_of_ble_eq_true rfl⟩) ⟨fb_CX, va_recv hK hP (ci := 10) (q0 := 0) rfl rfl, fun U hU hW => ⟨rfl, CX.give hb0 hM hK hG hE hS hU hW⟩⟩ rfl rfl hl.1 rfl (lv_room (Nat.le_of_ble_eq_true rfl)) dL_law_1618 ⟨(show C + 1 + 0 ≤ 960594 by omega), (show S + 6 + 0 ≤ 6134452 by omega)⟩) hS (fun q _ h => h) (fun q h => h) (fun r43 g45 t H locs ht hvm hw44 hB hz1 hk1 hS => ?_)
    have hM := hB.back ht
    have hG := hB.2.2.2.1
    have hlx := lx_plan hI hw19 hM1 hG1 hw44 hM hG
    have ht46 : tg g45 o = 1 := hlx.1.2.2.1
    have ht47 : tg g45 mo = 17 := hlx.1.2.2.2.1
    have ht48 : tg g45 q = 34 := hlx.1.2.2.2.2.1
    have ht49 : tg g45 q2 = 35 := hlx.1.2.2.2.2.2.1
    refine lv_istore (lv' := [(7, .int r43), (6, .int r18), (0, .ref b0), (1, .ref o), (2, .ref mo), (3, .ref q), (4, .ref q2), (5, .int (nI (6 * k)))]) hx hb dL_law_1621 hl (by decide) rfl (fun ls hl => ?_)
    refine lv_goto (tgt := 1941) hx hb dL_law_1623 (by decide) ?_
    exact hnext g45 H _ ls _ _ ⟨hM, hG, hlx.1.2.2⟩ (by have h9 := hlx.2.1 C S k hR; unfold RI at h9 ⊢; omega) hS (lv_sub hl [2, 3, 4, 5, 6, 7] rfl)
  · skip
    refine lv_iconst (v := 1) hx hb dL_law_1574 (by decide) ?_
    refine lv_goto (tgt := 1579) hx hb dL_law_1575 (by decide) ?_
    refine lv_aload_n hx hb dL_law_1579 rfl (lv_at hl 3 rfl) ?_
    refine va_calli (vx_runSW (As := [.ref o, .int v3, .int v7, .int v11, .int 1, .ref q]) (rest := []) ⟨hx, hb, hml, hown, hts⟩ (rh_plan l hlt dC dI kA eD b g o q v3 v7 v11 1 (by omega) (by omega)) (vx_cwSW 6 hts gL_law_L_plan rfl rfl rfl (by decide +kernel) ⟨Nat.le_of_ble_eq_true rfl, Nat.le_of_ble_eq_true rfl⟩) ⟨fb_CX, fun U hU hW => ⟨rfl, CX.give hb0 hM hK hG hE hS hU hW⟩⟩ rfl rfl hl.1 rfl (lv_room (Nat.le_of_ble_eq_true rfl)) dL_law_1580 ⟨(show C + 1 ≤ 960594 by omega), (show S + 6 ≤ 6134452 by omega)⟩) hS (fun q _ h => h) (fun q h => h) (fun r50 g52 t H locs ht hvm hw51 hB hz1 hk1 hS => ?_)
    have hM := hB.back ht
    have hG := hB.2.2.2.1
    have hM1 := hM
    have hG1 := hG
    have hkt := kt_plan hw51
    have ht53 : tg g52 o = 1 := (hkt o (by omega)).trans hto
    have ht54 : tg g52 mo = 17 := (hkt mo (by omega)).trans htm
    have ht55 : tg g52 q = 34 := (hkt q (by omega)).trans htq
    have ht56 : tg g52 q2 = 35 := (hkt q2 (by omega)).trans htq2
    refine lv_istore (lv' := [(6, .int r50), (0, .ref b0), (1, .ref o), (2, .ref mo), (3, .ref q), (4, .ref q2), (5, .int (nI (6 * k)))]) hx hb dL_law_1583 hl (by decide) rfl (fun ls hl => ?_)
    refine lv_aload_n hx hb dL_law_1585 rfl (lv_at hl 3 rfl) ?_
    refine lv_aload_n hx hb dL_law_1586 rfl (lv_at hl 1 rfl) ?_
    refine lv_iload hx hb dL_law_1587 (lv_at hl 6 rfl) ?_
    refine lv_iconst (v := 1) hx hb dL_law_1589 (by decide) ?_
    refine lv_iadd hx hb dL_law_1590 ?_
    refine lv_topi (fun v57 e58 => ?_)
    obtain rfl : v57 = nI ((6 * k) + 1) := e58.trans (nI_add (6 * k) 1)
    refine va_sld hx hb hX hbl hbA hS (vp_in_nI (by omega) (by omega)) dL_law_1591 ?_
    refine lv_topi (fun v59 e60 => ?_)
    obtain rfl : v3 = v59 := e4.trans e60.symm
    refine lv_aload_n hx hb dL_law_1592 rfl (lv_at hl 1 rfl) ?_
    refine lv_iload hx hb dL_law_1593 (lv_at hl 6 rfl) ?_
    refine lv_iconst (v := 2) hx hb dL_law_1595 (by decide) ?_
    refine lv_iadd hx hb dL_law_1596 ?_
    refine lv_topi (fun v61 e62 => ?_)
    obtain rfl : v61 = nI ((6 * k) + 2) := e62.trans (nI_add (6 * k) 2)
    refine va_sld hx hb hX hbl hbA hS (vp_in_nI (by omega) (by omega)) dL_law_1597 ?_
    refine lv_topi (fun v63 e64 => ?_)
    obtain rfl : v7 = v63 := e8.trans e64.symm
    refine lv_aload_n hx hb dL_law_1598 rfl (lv_at hl 1 rfl) ?_
    refine lv_iload hx hb dL_law_1599 (lv_at hl 6 rfl) ?_
    refine lv_iconst (v := 3) hx hb dL_law_1601 (by decide) ?_
    refine lv_iadd hx hb dL_law_1602 ?_
    refine lv_topi (fun v65 e66 => ?_)
    obtain rfl : v65 = nI ((6 * k) + 3) := e66.trans (nI_add (6 * k) 3)
    refine va_sld hx hb hX hbl hbA hS (vp_in_nI (by omega) (by omega)) dL_law_1603 ?_
    refine lv_topi (fun v67 e68 => ?_)
    obtain rfl : v11 = v67 := e12.trans e68.symm
    refine lv_aload_n hx hb dL_law_1604 rfl (lv_at hl 1 rfl) ?_
    refine lv_iload hx hb dL_law_1605 (lv_at hl 6 rfl) ?_
    refine lv_iconst (v := 4) hx hb dL_law_1607 (by decide) ?_
    refine lv_iadd hx hb dL_law_1608 ?_
    refine lv_topi (fun v69 e70 => ?_)
    obtain rfl : v69 = nI ((6 * k) + 4) := e70.trans (nI_add (6 * k) 4)
    refine va_sld hx hb hX hbl hbA hS (vp_in_nI (by omega) (by omega)) dL_law_1609 ?_
    refine lv_topi (fun v71 e72 => ?_)
    obtain rfl : v15 = v71 := e16.trans e72.symm
    refine lv_if_eq (tgt := 1617) hx hb dL_law_1610 (by decide) (fun cx => absurd cx c17) (fun _ => ?_)
    refine lv_iconst (v := 1) hx hb dL_law_1613 (by decide) ?_
    refine lv_goto (tgt := 1618) hx hb dL_law_1614 (by decide) ?_
    obtain ⟨u73, u74, hP, hf⟩ := o_mo (i := 0) (q := mo) hM (by omega)
    refine va_calli (va_runV (As := [.int v3, .int v7, .int v11, .int 1]) (rest := []) ⟨hx, hb, hml, hown, hts⟩ (rmf_plan l dC dI kA eD b g52 mo v3 v7 v11 1 (by omega)) (cwV 4 hts gL_law_X6_plan rfl rfl rfl (by decide +kernel) ⟨Nat.le_of_ble_eq_true rfl, Nat.le_of_ble_eq_true rfl⟩) ⟨fb_CX, va_recv hK hP (ci := 10) (q0 := 0) rfl rfl, fun U hU hW => ⟨rfl, CX.give hb0 hM hK hG hE hS hU hW⟩⟩ rfl rfl hl.1 rfl (lv_room (Nat.le_of_ble_eq_true rfl)) dL_law_1618 ⟨(show C + 1 + 0 ≤ 960594 by omega), (show S + 6 + 0 ≤ 6134452 by omega)⟩) hS (fun q _ h => h) (fun q h => h) (fun r75 g77 t H locs ht hvm hw76 hB hz1 hk1 hS => ?_)
    have hM := hB.back ht
    have hG := hB.2.2.2.1
    have hlx := lx_plan hI hw51 hM1 hG1 hw76 hM hG
    have ht78 : tg g77 o = 1 := hlx.1.2.2.1
    have ht79 : tg g77 mo = 17 := hlx.1.2.2.2.1
    have ht80 : tg g77 q = 34 := hlx.1.2.2.2.2.1
    have ht81 : tg g77 q2 = 35 := hlx.1.2.2.2.2.2.1
    refine lv_istore (lv' := [(7, .int r75), (6, .int r50), (0, .ref b0), (1, .ref o), (2, .ref mo), (3, .ref q), (4, .ref q2), (5, .int (nI (6 * k)))]) hx hb dL_law_1621 hl (by decide) rfl (fun ls hl => ?_)
    refine lv_goto (tgt := 1941) hx hb dL_law_1623 (by decide) ?_
    exact hnext g77 H _ ls _ _ ⟨hM, hG, hlx.1.2.2⟩ (by have h9 := hlx.2.1 C S k hR; unfold RI at h9 ⊢; omega) hS (lv_sub hl [2, 3, 4, 5, 6, 7] rfl)

set_option maxHeartbeats 4000000 in
set_option maxRecDepth 100000 in
/-- the law: a call of carve -/
theorem case_32 {p : Program} {l : Launch} {e : Env} {s : State} {m : MethodId} {below : List Frame} {meth : Method} {c : Code} (hlt : l.stackTraces = false) {b0 L : Nat} {xs : Nat → Int32} (C0 : lw_At p s m meth c b0 L xs) (hL : L ≤ 3072) (dC : Nat → ClassId) (dI : Nat → Nat → Nat) (kA : Nat → ClassId) (eD b o mo q q2 k : Nat) (hb9 : b = s.heap.size) (hb0 : b ≤ s.heap.size) (hk : 6 * k + 6 ≤ L) (hK : va_K (dC, dI) vwCl (TYS kA) s) (hE : EX eD b s) (hnext : ∀ (g : Gh) (H : Heap) (locs : List Loc) (ls : Array Slot) (C S : Nat), LI (dC, dI) kA b eD o mo q q2 g H → RI g mo C S (k + 1) → va_S (fun q => b ≤ q) s.heap H locs → lv_has ls 9 [(0, .ref b0), (1, .ref o), (2, .ref mo), (3, .ref q), (4, .ref q2), (5, .int (nI (6 * k)))] → W p l e room_1 s m #[Value.ref b0] below meth c H locs C S (lw_Z below #[Value.ref b0] s) (F0 m 1941 ls [])) {g : Gh} {H : Heap} {locs : List Loc} {ls : Array Slot} {C S : Nat} (hI : LI (dC, dI) kA b eD o mo q q2 g H) (hR : RI g mo C S k) (hS : va_S (fun q => b ≤ q) s.heap H locs) (hl : lv_has ls 9 [(0, .ref b0), (1, .ref o), (2, .ref mo), (3, .ref q), (4, .ref q2), (5, .int (nI (6 * k)))]) : W p l e room_1 s m #[Value.ref b0] below meth c H locs C S (lw_Z below #[Value.ref b0] s) (F0 m 1626 ls []) := by
  obtain ⟨hx, hb, hr, hml, hown, hts0, hX, hbl, hlocks, hgv⟩ := id C0
  have hts : ∀ w ∈ wzL_law, w.before #[Value.ref b0] s = true := fun w h => hts0 w (wzL_law_in w h)
  have hbA : ¬ (fun q : Nat => b ≤ q) b0 := by show ¬ b ≤ b0; omega
  have hT := hE.1
  have hN := hE.2.2.2.2.2.2.2.1
  obtain ⟨hM, hG, hto, htm, htq, htq2, -, hed⟩ := id hI
  have hRC : C ≤ 430000 := by have h9 := hR; unfold RI at h9; omega
  have hRS : S ≤ 3400000 := by have h9 := hR; unfold RI at h9; omega
  refine lv_aload_n hx hb dL_law_1626 rfl (lv_at hl 1 rfl) ?_
  refine lv_aload_n hx hb dL_law_1627 rfl (lv_at hl 0 rfl) ?_
  refine lv_iload hx hb dL_law_1628 (lv_at hl 5 rfl) ?_
  refine lv_iconst (v := 1) hx hb dL_law_1630 (by decide) ?_
  refine lv_iadd hx hb dL_law_1631 ?_
  refine lv_topi (fun v1 e2 => ?_)
  obtain rfl : v1 = nI ((6 * k) + 1) := e2.trans (nI_add (6 * k) 1)
  refine va_sld hx hb hX hbl hbA hS (vp_in_nI (by omega) (by omega)) dL_law_1632 ?_
  refine lv_topi (fun v3 e4 => ?_)
  refine lv_aload_n hx hb dL_law_1633 rfl (lv_at hl 0 rfl) ?_
  refine lv_iload hx hb dL_law_1634 (lv_at hl 5 rfl) ?_
  refine lv_iconst (v := 2) hx hb dL_law_1636 (by decide) ?_
  refine lv_iadd hx hb dL_law_1637 ?_
  refine lv_topi (fun v5 e6 => ?_)
  obtain rfl : v5 = nI ((6 * k) + 2) := e6.trans (nI_add (6 * k) 2)
  refine va_sld hx hb hX hbl hbA hS (vp_in_nI (by omega) (by omega)) dL_law_1638 ?_
  refine lv_topi (fun v7 e8 => ?_)
  refine lv_aload_n hx hb dL_law_1639 rfl (lv_at hl 0 rfl) ?_
  refine lv_iload hx hb dL_law_1640 (lv_at hl 5 rfl) ?_
  refine lv_iconst (v := 3) hx hb dL_law_1642 (by decide) ?_
  refine lv_iadd hx hb dL_law_1643 ?_
  refine lv_topi (fun v9 e10 => ?_)
  obtain rfl : v9 = nI ((6 * k) + 3) := e10.trans (nI_add (6 * k) 3)
  refine va_sld hx hb hX hbl hbA hS (vp_in_nI (by omega) (by omega)) dL_law_1644 ?_
  refine lv_topi (fun v11 e12 => ?_)
  refine lv_aload_n hx hb dL_law_1645 rfl (lv_at hl 0 rfl) ?_
  refine lv_iload hx hb dL_law_1646 (lv_at hl 5 rfl) ?_
  refine lv_iconst (v := 4) hx hb dL_law_1648 (by decide) ?_
  refine lv_iadd hx hb dL_law_1649 ?_
  refine lv_topi (fun v13 e14 => ?_)
  obtain rfl : v13 = nI ((6 * k) + 4) := e14.trans (nI_add (6 * k) 4)
  refine va_sld hx hb hX hbl hbA hS (vp_in_nI (by omega) (by omega)) dL_law_1650 ?_
  refine lv_topi (fun v15 e16 => ?_)
  refine lv_aload_n hx hb dL_law_1651 rfl (lv_at hl 3 rfl) ?_
  refine va_calli (vx_runSW (As := [.ref o, .int v3, .int v7, .int v11, .int v15, .ref q]) (rest := []) ⟨hx, hb, hml, hown, hts⟩ (rh_carve l hlt dC dI kA eD b g o q v3 v7 v11 v15 (by omega) (by omega)) (vx_cwSW 6 hts gL_law_L_carve rfl rfl rfl (by decide +kernel) ⟨Nat.le_of_ble_eq_true rfl, Nat.le_of_ble_eq_true rfl⟩) ⟨fb_CX, fun U hU hW => ⟨rfl, CX.give hb0 hM hK hG hE hS hU hW⟩⟩ rfl rfl hl.1 rfl (lv_room (Nat.le_of_ble_eq_true rfl)) dL_law_1652 ⟨(show C + 1 ≤ 960594 by omega), (show S + 6 ≤ 6134452 by omega)⟩) hS (fun q _ h => h) (fun q h => h) (fun r17 g19 t H locs ht hvm hw18 hB hz1 hk1 hS => ?_)
  have hM := hB.back ht
  have hG := hB.2.2.2.1
  have hM1 := hM
  have hG1 := hG
  have hkt : ∀ a : Nat, tg g a ≠ 0 → tg g19 a = tg g a := fun a _ => by obtain ⟨f9, h9⟩ := hw18; rw [h9]; rfl
  have ht20 : tg g19 o = 1 := (hkt o (by omega)).trans hto
  have ht21 : tg g19 mo = 17 := (hkt mo (by omega)).trans htm
  have ht22 : tg g19 q = 34 := (hkt q (by omega)).trans htq
  have ht23 : tg g19 q2 = 35 := (hkt q2 (by omega)).trans htq2
  refine lv_istore (lv' := [(6, .int r17), (0, .ref b0), (1, .ref o), (2, .ref mo), (3, .ref q), (4, .ref q2), (5, .int (nI (6 * k)))]) hx hb dL_law_1655 hl (by decide) rfl (fun ls hl => ?_)
  refine lv_aload_n hx hb dL_law_1657 rfl (lv_at hl 3 rfl) ?_
  refine lv_aload_n hx hb dL_law_1658 rfl (lv_at hl 1 rfl) ?_
  refine lv_iload hx hb dL_law_1659 (lv_at hl 6 rfl) ?_
  refine lv_iconst (v := 1) hx hb dL_law_1661 (by decide) ?_
  refine lv_iadd hx hb dL_law_1662 ?_
  refine lv_topi (fun v24 e25 => ?_)
  obtain rfl : v24 = nI ((6 * k) + 1) := e25.trans (nI_add (6 * k) 1)
  refine va_sld hx hb hX hbl hbA hS (vp_in_nI (by omega) (by omega)) dL_law_1663 ?_
  refine lv_topi (fun v26 e27 => ?_)
  obtain rfl : v3 = v26 := e4.trans e27.symm
  refine lv_aload_n hx hb dL_law_1664 rfl (lv_at hl 1 rfl) ?_
  refine lv_iload hx hb dL_law_1665 (lv_at hl 6 rfl) ?_
  refine lv_iconst (v := 2) hx hb dL_law_1667 (by decide) ?_
  refine lv_iadd hx hb dL_law_1668 ?_
  refine lv_topi (fun v28 e29 => ?_)
  obtain rfl : v28 = nI ((6 * k) + 2) := e29.trans (nI_add (6 * k) 2)
  refine va_sld hx hb hX hbl hbA hS (vp_in_nI (by omega) (by omega)) dL_law_1669 ?_
  refine lv_topi (fun v30 e31 => ?_)
  obtain rfl : v7 = v30 := e8.trans e31.symm
  refine lv_aload_n hx hb dL_law_1670 rfl (lv_at hl 1 rfl) ?_
  refine lv_iload hx hb dL_law_1671 (lv_at hl 6 rfl) ?_
  refine lv_iconst (v := 3) hx hb dL_law_1673 (by decide) ?_
  refine lv_iadd hx hb dL_law_1674 ?_
  refine lv_topi (fun v32 e33 => ?_)
  obtain rfl : v32 = nI ((6 * k) + 3) := e33.trans (nI_add (6 * k) 3)
  refine va_sld hx hb hX hbl hbA hS (vp_in_nI (by omega) (by omega)) dL_law_1675 ?_
  refine lv_topi (fun v34 e35 => ?_)
  obtain rfl : v11 = v34 := e12.trans e35.symm
  refine lv_aload_n hx hb dL_law_1676 rfl (lv_at hl 1 rfl) ?_
  refine lv_iload hx hb dL_law_1677 (lv_at hl 6 rfl) ?_
  refine lv_iconst (v := 4) hx hb dL_law_1679 (by decide) ?_
  refine lv_iadd hx hb dL_law_1680 ?_
  refine lv_topi (fun v36 e37 => ?_)
  obtain rfl : v36 = nI ((6 * k) + 4) := e37.trans (nI_add (6 * k) 4)
  refine va_sld hx hb hX hbl hbA hS (vp_in_nI (by omega) (by omega)) dL_law_1681 ?_
  refine lv_topi (fun v38 e39 => ?_)
  obtain rfl : v15 = v38 := e16.trans e39.symm
  obtain ⟨u40, u41, hP, hf⟩ := o_mo (i := 0) (q := mo) hM (by omega)
  refine W.know (fun hkn1 hkn2 => ?_)
  refine va_calli (va_runV (As := [.int v3, .int v7, .int v11, .int v15]) (rest := []) ⟨hx, hb, hml, hown, hts⟩ (rmf_carve l dC dI kA eD b g19 H.size (SH H) mo v3 v7 v11 v15 (by omega)) (cwV 4 hts gL_law_X6_carve rfl rfl rfl (by decide +kernel) ⟨Nat.le_of_ble_eq_true rfl, Nat.le_of_ble_eq_true rfl⟩) ⟨fb_CXs, va_recv hK hP (ci := 10) (q0 := 0) rfl rfl, fun U hU hW => ⟨rfl, CXs.give hb0 hM hK hG hE hS hU hW⟩⟩ rfl rfl hl.1 rfl (lv_room (Nat.le_of_ble_eq_true rfl)) dL_law_1682 ⟨(show C + 1 + 730 ≤ 960594 by omega), (show S + 6 + 5600 ≤ 6134452 by omega)⟩) hS (fun q _ h => h) (fun q h => h) (fun r42 g44 t H locs ht hvm hw43 hB hz1 hk1 hS => ?_)
  have hM := hB.1.back ht
  have hG := hB.1.2.2.2.1
  obtain ⟨g44, d9⟩ := g44
  have hgr := hB.2
  rw [ht] at hgr
  have hgr1 : H.size ≤ _ + (20 + 14 * (1 + d9)) := hgr.1
  have hgr2 : SH H ≤ _ + (120 + 108 * (1 + d9)) := hgr.2
  refine W.shrink (k := C + 1 + 14 * d9 + 40) (n := S + 6 + 108 * d9 + 240) (by omega) (by omega) ?_
  have hlx := lx_G (u2 := g44) (d9 := d9) hI (Or.inl hw18) hM1 hG1 hw43 hM hG
  have ht45 : tg g44 o = 1 := hlx.1.2.2.1
  have ht46 : tg g44 mo = 17 := hlx.1.2.2.2.1
  have ht47 : tg g44 q = 34 := hlx.1.2.2.2.2.1
  have ht48 : tg g44 q2 = 35 := hlx.1.2.2.2.2.2.1
  refine lv_istore (lv' := [(7, .int r42), (6, .int r17), (0, .ref b0), (1, .ref o), (2, .ref mo), (3, .ref q), (4, .ref q2), (5, .int (nI (6 * k)))]) hx hb dL_law_1685 hl (by decide) rfl (fun ls hl => ?_)
  refine lv_goto (tgt := 1941) hx hb dL_law_1687 (by decide) ?_
  exact hnext g44 H _ ls _ _ ⟨hM, hG, hlx.1.2.2⟩ (hlx.2 C S k _ _ hR (by omega) (by omega)) hS (lv_sub hl [2, 3, 4, 5, 6, 7] rfl)

set_option maxHeartbeats 4000000 in
set_option maxRecDepth 100000 in
/-- the law: a call of hours -/
theorem case_33 {p : Program} {l : Launch} {e : Env} {s : State} {m : MethodId} {below : List Frame} {meth : Method} {c : Code} (hlt : l.stackTraces = false) {b0 L : Nat} {xs : Nat → Int32} (C0 : lw_At p s m meth c b0 L xs) (hL : L ≤ 3072) (dC : Nat → ClassId) (dI : Nat → Nat → Nat) (kA : Nat → ClassId) (eD b o mo q q2 k : Nat) (hb9 : b = s.heap.size) (hb0 : b ≤ s.heap.size) (hk : 6 * k + 6 ≤ L) (hK : va_K (dC, dI) vwCl (TYS kA) s) (hE : EX eD b s) (hnext : ∀ (g : Gh) (H : Heap) (locs : List Loc) (ls : Array Slot) (C S : Nat), LI (dC, dI) kA b eD o mo q q2 g H → RI g mo C S (k + 1) → va_S (fun q => b ≤ q) s.heap H locs → lv_has ls 9 [(0, .ref b0), (1, .ref o), (2, .ref mo), (3, .ref q), (4, .ref q2), (5, .int (nI (6 * k)))] → W p l e room_1 s m #[Value.ref b0] below meth c H locs C S (lw_Z below #[Value.ref b0] s) (F0 m 1941 ls [])) {g : Gh} {H : Heap} {locs : List Loc} {ls : Array Slot} {C S : Nat} (hI : LI (dC, dI) kA b eD o mo q q2 g H) (hR : RI g mo C S k) (hS : va_S (fun q => b ≤ q) s.heap H locs) (hl : lv_has ls 9 [(0, .ref b0), (1, .ref o), (2, .ref mo), (3, .ref q), (4, .ref q2), (5, .int (nI (6 * k)))]) : W p l e room_1 s m #[Value.ref b0] below meth c H locs C S (lw_Z below #[Value.ref b0] s) (F0 m 1690 ls []) := by
  obtain ⟨hx, hb, hr, hml, hown, hts0, hX, hbl, hlocks, hgv⟩ := id C0
  have hts : ∀ w ∈ wzL_law, w.before #[Value.ref b0] s = true := fun w h => hts0 w (wzL_law_in w h)
  have hbA : ¬ (fun q : Nat => b ≤ q) b0 := by show ¬ b ≤ b0; omega
  have hT := hE.1
  have hN := hE.2.2.2.2.2.2.2.1
  obtain ⟨hM, hG, hto, htm, htq, htq2, -, hed⟩ := id hI
  have hRC : C ≤ 430000 := by have h9 := hR; unfold RI at h9; omega
  have hRS : S ≤ 3400000 := by have h9 := hR; unfold RI at h9; omega
  refine lv_aload_n hx hb dL_law_1690 rfl (lv_at hl 1 rfl) ?_
  refine lv_aload_n hx hb dL_law_1691 rfl (lv_at hl 0 rfl) ?_
  refine lv_iload hx hb dL_law_1692 (lv_at hl 5 rfl) ?_
  refine lv_iconst (v := 1) hx hb dL_law_1694 (by decide) ?_
  refine lv_iadd hx hb dL_law_1695 ?_
  refine lv_topi (fun v1 e2 => ?_)
  obtain rfl : v1 = nI ((6 * k) + 1) := e2.trans (nI_add (6 * k) 1)
  refine va_sld hx hb hX hbl hbA hS (vp_in_nI (by omega) (by omega)) dL_law_1696 ?_
  refine lv_topi (fun v3 e4 => ?_)
  refine lv_aload_n hx hb dL_law_1697 rfl (lv_at hl 3 rfl) ?_
  refine va_calli (vx_runSW (As := [.ref o, .int v3, .ref q]) (rest := []) ⟨hx, hb, hml, hown, hts⟩ (rh_hours l hlt dC dI kA eD b g o q v3 (by omega) (by omega)) (vx_cwSW 3 hts gL_law_L_hours rfl rfl rfl (by decide +kernel) ⟨Nat.le_of_ble_eq_true rfl, Nat.le_of_ble_eq_true rfl⟩) ⟨fb_CX, fun U hU hW => ⟨rfl, CX.give hb0 hM hK hG hE hS hU hW⟩⟩ rfl rfl hl.1 rfl (lv_room (Nat.le_of_ble_eq_true rfl)) dL_law_1698 ⟨(show C + 1 ≤ 960594 by omega), (show S + 6 ≤ 6134452 by omega)⟩) hS (fun q _ h => h) (fun q h => h) (fun r5 g7 t H locs ht hvm hw6 hB hz1 hk1 hS => ?_)
  have hM := hB.back ht
  have hG := hB.2.2.2.1
  have hM1 := hM
  have hG1 := hG
  have hkt : ∀ a : Nat, tg g a ≠ 0 → tg g7 a = tg g a := fun a _ => by obtain ⟨f9, h9⟩ := hw6; rw [h9]; rfl
  have ht8 : tg g7 o = 1 := (hkt o (by omega)).trans hto
  have ht9 : tg g7 mo = 17 := (hkt mo (by omega)).trans htm
  have ht10 : tg g7 q = 34 := (hkt q (by omega)).trans htq
  have ht11 : tg g7 q2 = 35 := (hkt q2 (by omega)).trans htq2
  refine lv_istore (lv' := [(6, .int r5), (0, .ref b0), (1, .ref o), (2, .ref mo), (3, .ref q), (4, .ref q2), (5, .int (nI (6 * k)))]) hx hb dL_law_1701 hl (by decide) rfl (fun ls hl => ?_)
  refine lv_aload_n hx hb dL_law_1703 rfl (lv_at hl 3 rfl) ?_
  refine lv_aload_n hx hb dL_law_1704 rfl (lv_at hl 1 rfl) ?_
  refine lv_iload hx hb dL_law_1705 (lv_at hl 6 rfl) ?_
  refine lv_iconst (v := 1) hx hb dL_law_1707 (by decide) ?_
  refine lv_iadd hx hb dL_law_1708 ?_
  refine lv_topi (fun v12 e13 => ?_)
  obtain rfl : v12 = nI ((6 * k) + 1) := e13.trans (nI_add (6 * k) 1)
  refine va_sld hx hb hX hbl hbA hS (vp_in_nI (by omega) (by omega)) dL_law_1709 ?_
  refine lv_topi (fun v14 e15 => ?_)
  obtain rfl : v3 = v14 := e4.trans e15.symm
  obtain ⟨u16, u17, hP, hf⟩ := o_mo (i := 0) (q := mo) hM (by omega)
  refine va_calli (va_runV (As := [.int v3]) (rest := []) ⟨hx, hb, hml, hown, hts⟩ (rmf_hours l dC dI kA eD b g7 mo v3 (by omega)) (cwV 1 hts gL_law_X6_hours rfl rfl rfl (by decide +kernel) ⟨Nat.le_of_ble_eq_true rfl, Nat.le_of_ble_eq_true rfl⟩) ⟨fb_CX, va_recv hK hP (ci := 10) (q0 := 0) rfl rfl, fun U hU hW => ⟨rfl, CX.give hb0 hM hK hG hE hS hU hW⟩⟩ rfl rfl hl.1 rfl (lv_room (Nat.le_of_ble_eq_true rfl)) dL_law_1710 ⟨(show C + 1 + 0 ≤ 960594 by omega), (show S + 6 + 0 ≤ 6134452 by omega)⟩) hS (fun q _ h => h) (fun q h => h) (fun r18 g20 t H locs ht hvm hw19 hB hz1 hk1 hS => ?_)
  have hM := hB.back ht
  have hG := hB.2.2.2.1
  have hlx := lx_N hI (Or.inl hw6) hM1 hG1 hw19 hM hG
  have ht21 : tg g20 o = 1 := hlx.1.2.2.1
  have ht22 : tg g20 mo = 17 := hlx.1.2.2.2.1
  have ht23 : tg g20 q = 34 := hlx.1.2.2.2.2.1
  have ht24 : tg g20 q2 = 35 := hlx.1.2.2.2.2.2.1
  refine lv_istore (lv' := [(7, .int r18), (6, .int r5), (0, .ref b0), (1, .ref o), (2, .ref mo), (3, .ref q), (4, .ref q2), (5, .int (nI (6 * k)))]) hx hb dL_law_1713 hl (by decide) rfl (fun ls hl => ?_)
  refine lv_goto (tgt := 1941) hx hb dL_law_1715 (by decide) ?_
  exact hnext g20 H _ ls _ _ ⟨hM, hG, hlx.1.2.2⟩ (by have h9 := hlx.2 C S k hR; unfold RI at h9 ⊢; omega) hS (lv_sub hl [2, 3, 4, 5, 6, 7] rfl)

set_option maxHeartbeats 4000000 in
set_option maxRecDepth 100000 in
/-- the law: a call of judge -/
theorem case_34 {p : Program} {l : Launch} {e : Env} {s : State} {m : MethodId} {below : List Frame} {meth : Method} {c : Code} (hlt : l.stackTraces = false) {b0 L : Nat} {xs : Nat → Int32} (C0 : lw_At p s m meth c b0 L xs) (hL : L ≤ 3072) (dC : Nat → ClassId) (dI : Nat → Nat → Nat) (kA : Nat → ClassId) (eD b o mo q q2 k : Nat) (hb9 : b = s.heap.size) (hb0 : b ≤ s.heap.size) (hk : 6 * k + 6 ≤ L) (hK : va_K (dC, dI) vwCl (TYS kA) s) (hE : EX eD b s) (hnext : ∀ (g : Gh) (H : Heap) (locs : List Loc) (ls : Array Slot) (C S : Nat), LI (dC, dI) kA b eD o mo q q2 g H → RI g mo C S (k + 1) → va_S (fun q => b ≤ q) s.heap H locs → lv_has ls 9 [(0, .ref b0), (1, .ref o), (2, .ref mo), (3, .ref q), (4, .ref q2), (5, .int (nI (6 * k)))] → W p l e room_1 s m #[Value.ref b0] below meth c H locs C S (lw_Z below #[Value.ref b0] s) (F0 m 1941 ls [])) {g : Gh} {H : Heap} {locs : List Loc} {ls : Array Slot} {C S : Nat} (hI : LI (dC, dI) kA b eD o mo q q2 g H) (hR : RI g mo C S k) (hS : va_S (fun q => b ≤ q) s.heap H locs) (hl : lv_has ls 9 [(0, .ref b0), (1, .ref o), (2, .ref mo), (3, .ref q), (4, .ref q2), (5, .int (nI (6 * k)))]) : W p l e room_1 s m #[Value.ref b0] below meth c H locs C S (lw_Z below #[Value.ref b0] s) (F0 m 1718 ls []) := by
  obtain ⟨hx, hb, hr, hml, hown, hts0, hX, hbl, hlocks, hgv⟩ := id C0
  have hts : ∀ w ∈ wzL_law, w.before #[Value.ref b0] s = true := fun w h => hts0 w (wzL_law_in w h)
  have hbA : ¬ (fun q : Nat => b ≤ q) b0 := by show ¬ b ≤ b0; omega
  have hT := hE.1
  have hN := hE.2.2.2.2.2.2.2.1
  obtain ⟨hM, hG, hto, htm, htq, htq2, -, hed⟩ := id hI
  have hRC : C ≤ 430000 := by have h9 := hR; unfold RI at h9; omega
  have hRS : S ≤ 3400000 := by have h9 := hR; unfold RI at h9; omega
  refine lv_aload_n hx hb dL_law_1718 rfl (lv_at hl 1 rfl) ?_
  refine lv_aload_n hx hb dL_law_1719 rfl (lv_at hl 0 rfl) ?_
  refine lv_iload hx hb dL_law_1720 (lv_at hl 5 rfl) ?_
  refine lv_iconst (v := 1) hx hb dL_law_1722 (by decide) ?_
  refine lv_iadd hx hb dL_law_1723 ?_
  refine lv_topi (fun v1 e2 => ?_)
  obtain rfl : v1 = nI ((6 * k) + 1) := e2.trans (nI_add (6 * k) 1)
  refine va_sld hx hb hX hbl hbA hS (vp_in_nI (by omega) (by omega)) dL_law_1724 ?_
  refine lv_topi (fun v3 e4 => ?_)
  refine lv_aload hx hb dL_law_1725 (lv_at hl 4 rfl) ?_
  refine va_calli (vx_runSW (As := [.ref o, .int v3, .ref q2]) (rest := []) ⟨hx, hb, hml, hown, hts⟩ (rh_judge l hlt dC dI kA eD b g o q2 v3 (by omega) (by omega)) (vx_cwSW 3 hts gL_law_L_judge rfl rfl rfl (by decide +kernel) ⟨Nat.le_of_ble_eq_true rfl, Nat.le_of_ble_eq_true rfl⟩) ⟨fb_CX, fun U hU hW => ⟨rfl, CX.give hb0 hM hK hG hE hS hU hW⟩⟩ rfl rfl hl.1 rfl (lv_room (Nat.le_of_ble_eq_true rfl)) dL_law_1727 ⟨(show C + 1 ≤ 960594 by omega), (show S + 6 ≤ 6134452 by omega)⟩) hS (fun q _ h => h) (fun q h => h) (fun r5 g7 t H locs ht hvm hw6 hB hz1 hk1 hS => ?_)
  have hM := hB.back ht
  have hG := hB.2.2.2.1
  have hM1 := hM
  have hG1 := hG
  have hkt : ∀ a : Nat, tg g a ≠ 0 → tg g7 a = tg g a := fun a _ => by rw [hw6]
  have ht8 : tg g7 o = 1 := (hkt o (by omega)).trans hto
  have ht9 : tg g7 mo = 17 := (hkt mo (by omega)).trans htm
  have ht10 : tg g7 q = 34 := (hkt q (by omega)).trans htq
  have ht11 : tg g7 q2 = 35 := (hkt q2 (by omega)).trans htq2
  refine lv_istore (lv' := [(6, .int r5), (0, .ref b0), (1, .ref o), (2, .ref mo), (3, .ref q), (4, .ref q2), (5, .int (nI (6 * k)))]) hx hb dL_law_1730 hl (by decide) rfl (fun ls hl => ?_)
  refine lv_aload_n hx hb dL_law_1732 rfl (lv_at hl 3 rfl) ?_
  refine lv_aload_n hx hb dL_law_1733 rfl (lv_at hl 1 rfl) ?_
  refine lv_iload hx hb dL_law_1734 (lv_at hl 6 rfl) ?_
  refine lv_iconst (v := 1) hx hb dL_law_1736 (by decide) ?_
  refine lv_iadd hx hb dL_law_1737 ?_
  refine lv_topi (fun v12 e13 => ?_)
  obtain rfl : v12 = nI ((6 * k) + 1) := e13.trans (nI_add (6 * k) 1)
  refine va_sld hx hb hX hbl hbA hS (vp_in_nI (by omega) (by omega)) dL_law_1738 ?_
  refine lv_topi (fun v14 e15 => ?_)
  obtain rfl : v3 = v14 := e4.trans e15.symm
  obtain ⟨u16, u17, hP, hf⟩ := o_mo (i := 0) (q := mo) hM (by omega)
  refine va_calld (va_runV (As := [.int v3]) (rest := []) ⟨hx, hb, hml, hown, hts⟩ (rmf_judge l dC dI kA eD b g7 mo v3 (by omega)) (cwV 1 hts gL_law_X6_judge rfl rfl rfl (by decide +kernel) ⟨Nat.le_of_ble_eq_true rfl, Nat.le_of_ble_eq_true rfl⟩) ⟨fb_CX, va_recv hK hP (ci := 10) (q0 := 0) rfl rfl, fun U hU hW => ⟨rfl, CX.give hb0 hM hK hG hE hS hU hW⟩⟩ rfl rfl hl.1 rfl (lv_room (Nat.le_of_ble_eq_true rfl)) dL_law_1739 ⟨(show C + 1 + 0 ≤ 960594 by omega), (show S + 6 + 0 ≤ 6134452 by omega)⟩) hS (fun q _ h => h) (fun q h => h) (fun r18 g20 t H locs ht hvm hw19 hB hz1 hk1 hS => ?_)
  have hM := hB.back ht
  have hG := hB.2.2.2.1
  have hlx := lx_N hI (Or.inr hw6) hM1 hG1 hw19 hM hG
  have ht21 : tg g20 o = 1 := hlx.1.2.2.1
  have ht22 : tg g20 mo = 17 := hlx.1.2.2.2.1
  have ht23 : tg g20 q = 34 := hlx.1.2.2.2.2.1
  have ht24 : tg g20 q2 = 35 := hlx.1.2.2.2.2.2.1
  refine lv_dstore (lv' := [(7, .double r18), (6, .int r5), (0, .ref b0), (1, .ref o), (2, .ref mo), (3, .ref q), (4, .ref q2), (5, .int (nI (6 * k)))]) hx hb dL_law_1742 hl (by decide) rfl (fun ls hl => ?_)
  refine lv_goto (tgt := 1941) hx hb dL_law_1744 (by decide) ?_
  exact hnext g20 H _ ls _ _ ⟨hM, hG, hlx.1.2.2⟩ (by have h9 := hlx.2 C S k hR; unfold RI at h9 ⊢; omega) hS (lv_sub hl [2, 3, 4, 5, 6, 7] rfl)

set_option maxHeartbeats 4000000 in
set_option maxRecDepth 100000 in
/-- the law: a call of mark -/
theorem case_35 {p : Program} {l : Launch} {e : Env} {s : State} {m : MethodId} {below : List Frame} {meth : Method} {c : Code} (hlt : l.stackTraces = false) {b0 L : Nat} {xs : Nat → Int32} (C0 : lw_At p s m meth c b0 L xs) (hL : L ≤ 3072) (dC : Nat → ClassId) (dI : Nat → Nat → Nat) (kA : Nat → ClassId) (eD b o mo q q2 k : Nat) (hb9 : b = s.heap.size) (hb0 : b ≤ s.heap.size) (hk : 6 * k + 6 ≤ L) (hK : va_K (dC, dI) vwCl (TYS kA) s) (hE : EX eD b s) (hnext : ∀ (g : Gh) (H : Heap) (locs : List Loc) (ls : Array Slot) (C S : Nat), LI (dC, dI) kA b eD o mo q q2 g H → RI g mo C S (k + 1) → va_S (fun q => b ≤ q) s.heap H locs → lv_has ls 9 [(0, .ref b0), (1, .ref o), (2, .ref mo), (3, .ref q), (4, .ref q2), (5, .int (nI (6 * k)))] → W p l e room_1 s m #[Value.ref b0] below meth c H locs C S (lw_Z below #[Value.ref b0] s) (F0 m 1941 ls [])) {g : Gh} {H : Heap} {locs : List Loc} {ls : Array Slot} {C S : Nat} (hI : LI (dC, dI) kA b eD o mo q q2 g H) (hR : RI g mo C S k) (hS : va_S (fun q => b ≤ q) s.heap H locs) (hl : lv_has ls 9 [(0, .ref b0), (1, .ref o), (2, .ref mo), (3, .ref q), (4, .ref q2), (5, .int (nI (6 * k)))]) : W p l e room_1 s m #[Value.ref b0] below meth c H locs C S (lw_Z below #[Value.ref b0] s) (F0 m 1747 ls []) := by
  obtain ⟨hx, hb, hr, hml, hown, hts0, hX, hbl, hlocks, hgv⟩ := id C0
  have hts : ∀ w ∈ wzL_law, w.before #[Value.ref b0] s = true := fun w h => hts0 w (wzL_law_in w h)
  have hbA : ¬ (fun q : Nat => b ≤ q) b0 := by show ¬ b ≤ b0; omega
  have hT := hE.1
  have hN := hE.2.2.2.2.2.2.2.1
  obtain ⟨hM, hG, hto, htm, htq, htq2, -, hed⟩ := id hI
  have hRC : C ≤ 430000 := by have h9 := hR; unfold RI at h9; omega
  have hRS : S ≤ 3400000 := by have h9 := hR; unfold RI at h9; omega
  refine lv_aload_n hx hb dL_law_1747 rfl (lv_at hl 1 rfl) ?_
  refine lv_aload_n hx hb dL_law_1748 rfl (lv_at hl 0 rfl) ?_
  refine lv_iload hx hb dL_law_1749 (lv_at hl 5 rfl) ?_
  refine lv_iconst (v := 1) hx hb dL_law_1751 (by decide) ?_
  refine lv_iadd hx hb dL_law_1752 ?_
  refine lv_topi (fun v1 e2 => ?_)
  obtain rfl : v1 = nI ((6 * k) + 1) := e2.trans (nI_add (6 * k) 1)
  refine va_sld hx hb hX hbl hbA hS (vp_in_nI (by omega) (by omega)) dL_law_1753 ?_
  refine lv_topi (fun v3 e4 => ?_)
  refine lv_aload hx hb dL_law_1754 (lv_at hl 4 rfl) ?_
  refine va_calli (vx_runSW (As := [.ref o, .int v3, .ref q2]) (rest := []) ⟨hx, hb, hml, hown, hts⟩ (rh_mark l hlt dC dI kA eD b g o q2 v3 (by omega) (by omega)) (vx_cwSW 3 hts gL_law_L_mark rfl rfl rfl (by decide +kernel) ⟨Nat.le_of_ble_eq_true rfl, Nat.le_of_ble_eq_true rfl⟩) ⟨fb_CX, fun U hU hW => ⟨rfl, CX.give hb0 hM hK hG hE hS hU hW⟩⟩ rfl rfl hl.1 rfl (lv_room (Nat.le_of_ble_eq_true rfl)) dL_law_1756 ⟨(show C + 1 ≤ 960594 by omega), (show S + 6 ≤ 6134452 by omega)⟩) hS (fun q _ h => h) (fun q h => h) (fun r5 g7 t H locs ht hvm hw6 hB hz1 hk1 hS => ?_)
  have hM := hB.back ht
  have hG := hB.2.2.2.1
  have hM1 := hM
  have hG1 := hG
  have hkt : ∀ a : Nat, tg g a ≠ 0 → tg g7 a = tg g a := fun a _ => by rw [hw6]
  have ht8 : tg g7 o = 1 := (hkt o (by omega)).trans hto
  have ht9 : tg g7 mo = 17 := (hkt mo (by omega)).trans htm
  have ht10 : tg g7 q = 34 := (hkt q (by omega)).trans htq
  have ht11 : tg g7 q2 = 35 := (hkt q2 (by omega)).trans htq2
  refine lv_istore (lv' := [(6, .int r5), (0, .ref b0), (1, .ref o), (2, .ref mo), (3, .ref q), (4, .ref q2), (5, .int (nI (6 * k)))]) hx hb dL_law_1759 hl (by decide) rfl (fun ls hl => ?_)
  refine lv_aload_n hx hb dL_law_1761 rfl (lv_at hl 3 rfl) ?_
  refine lv_aload_n hx hb dL_law_1762 rfl (lv_at hl 1 rfl) ?_
  refine lv_iload hx hb dL_law_1763 (lv_at hl 6 rfl) ?_
  refine lv_iconst (v := 1) hx hb dL_law_1765 (by decide) ?_
  refine lv_iadd hx hb dL_law_1766 ?_
  refine lv_topi (fun v12 e13 => ?_)
  obtain rfl : v12 = nI ((6 * k) + 1) := e13.trans (nI_add (6 * k) 1)
  refine va_sld hx hb hX hbl hbA hS (vp_in_nI (by omega) (by omega)) dL_law_1767 ?_
  refine lv_topi (fun v14 e15 => ?_)
  obtain rfl : v3 = v14 := e4.trans e15.symm
  obtain ⟨u16, u17, hP, hf⟩ := o_mo (i := 0) (q := mo) hM (by omega)
  refine va_calld (va_runV (As := [.int v3]) (rest := []) ⟨hx, hb, hml, hown, hts⟩ (rmf_mark l dC dI kA eD b g7 mo v3 (by omega)) (cwV 1 hts gL_law_X6_mark rfl rfl rfl (by decide +kernel) ⟨Nat.le_of_ble_eq_true rfl, Nat.le_of_ble_eq_true rfl⟩) ⟨fb_CX, va_recv hK hP (ci := 10) (q0 := 0) rfl rfl, fun U hU hW => ⟨rfl, CX.give hb0 hM hK hG hE hS hU hW⟩⟩ rfl rfl hl.1 rfl (lv_room (Nat.le_of_ble_eq_true rfl)) dL_law_1768 ⟨(show C + 1 + 0 ≤ 960594 by omega), (show S + 6 + 0 ≤ 6134452 by omega)⟩) hS (fun q _ h => h) (fun q h => h) (fun r18 g20 t H locs ht hvm hw19 hB hz1 hk1 hS => ?_)
  have hM := hB.back ht
  have hG := hB.2.2.2.1
  have hlx := lx_N hI (Or.inr hw6) hM1 hG1 hw19 hM hG
  have ht21 : tg g20 o = 1 := hlx.1.2.2.1
  have ht22 : tg g20 mo = 17 := hlx.1.2.2.2.1
  have ht23 : tg g20 q = 34 := hlx.1.2.2.2.2.1
  have ht24 : tg g20 q2 = 35 := hlx.1.2.2.2.2.2.1
  refine lv_dstore (lv' := [(7, .double r18), (6, .int r5), (0, .ref b0), (1, .ref o), (2, .ref mo), (3, .ref q), (4, .ref q2), (5, .int (nI (6 * k)))]) hx hb dL_law_1771 hl (by decide) rfl (fun ls hl => ?_)
  refine lv_goto (tgt := 1941) hx hb dL_law_1773 (by decide) ?_
  exact hnext g20 H _ ls _ _ ⟨hM, hG, hlx.1.2.2⟩ (by have h9 := hlx.2 C S k hR; unfold RI at h9 ⊢; omega) hS (lv_sub hl [2, 3, 4, 5, 6, 7] rfl)

set_option maxHeartbeats 4000000 in
set_option maxRecDepth 100000 in
/-- the law: a call of take -/
theorem case_36 {p : Program} {l : Launch} {e : Env} {s : State} {m : MethodId} {below : List Frame} {meth : Method} {c : Code} (hlt : l.stackTraces = false) {b0 L : Nat} {xs : Nat → Int32} (C0 : lw_At p s m meth c b0 L xs) (hL : L ≤ 3072) (dC : Nat → ClassId) (dI : Nat → Nat → Nat) (kA : Nat → ClassId) (eD b o mo q q2 k : Nat) (hb9 : b = s.heap.size) (hb0 : b ≤ s.heap.size) (hk : 6 * k + 6 ≤ L) (hK : va_K (dC, dI) vwCl (TYS kA) s) (hE : EX eD b s) (hnext : ∀ (g : Gh) (H : Heap) (locs : List Loc) (ls : Array Slot) (C S : Nat), LI (dC, dI) kA b eD o mo q q2 g H → RI g mo C S (k + 1) → va_S (fun q => b ≤ q) s.heap H locs → lv_has ls 9 [(0, .ref b0), (1, .ref o), (2, .ref mo), (3, .ref q), (4, .ref q2), (5, .int (nI (6 * k)))] → W p l e room_1 s m #[Value.ref b0] below meth c H locs C S (lw_Z below #[Value.ref b0] s) (F0 m 1941 ls [])) {g : Gh} {H : Heap} {locs : List Loc} {ls : Array Slot} {C S : Nat} (hI : LI (dC, dI) kA b eD o mo q q2 g H) (hR : RI g mo C S k) (hS : va_S (fun q => b ≤ q) s.heap H locs) (hl : lv_has ls 9 [(0, .ref b0), (1, .ref o), (2, .ref mo), (3, .ref q), (4, .ref q2), (5, .int (nI (6 * k)))]) : W p l e room_1 s m #[Value.ref b0] below meth c H locs C S (lw_Z below #[Value.ref b0] s) (F0 m 1776 ls []) := by
  obtain ⟨hx, hb, hr, hml, hown, hts0, hX, hbl, hlocks, hgv⟩ := id C0
  have hts : ∀ w ∈ wzL_law, w.before #[Value.ref b0] s = true := fun w h => hts0 w (wzL_law_in w h)
  have hbA : ¬ (fun q : Nat => b ≤ q) b0 := by show ¬ b ≤ b0; omega
  have hT := hE.1
  have hN := hE.2.2.2.2.2.2.2.1
  obtain ⟨hM, hG, hto, htm, htq, htq2, -, hed⟩ := id hI
  have hRC : C ≤ 430000 := by have h9 := hR; unfold RI at h9; omega
  have hRS : S ≤ 3400000 := by have h9 := hR; unfold RI at h9; omega
  refine lv_aload_n hx hb dL_law_1776 rfl (lv_at hl 1 rfl) ?_
  refine lv_aload_n hx hb dL_law_1777 rfl (lv_at hl 0 rfl) ?_
  refine lv_iload hx hb dL_law_1778 (lv_at hl 5 rfl) ?_
  refine lv_iconst (v := 1) hx hb dL_law_1780 (by decide) ?_
  refine lv_iadd hx hb dL_law_1781 ?_
  refine lv_topi (fun v1 e2 => ?_)
  obtain rfl : v1 = nI ((6 * k) + 1) := e2.trans (nI_add (6 * k) 1)
  refine va_sld hx hb hX hbl hbA hS (vp_in_nI (by omega) (by omega)) dL_law_1782 ?_
  refine lv_topi (fun v3 e4 => ?_)
  refine lv_aload_n hx hb dL_law_1783 rfl (lv_at hl 0 rfl) ?_
  refine lv_iload hx hb dL_law_1784 (lv_at hl 5 rfl) ?_
  refine lv_iconst (v := 2) hx hb dL_law_1786 (by decide) ?_
  refine lv_iadd hx hb dL_law_1787 ?_
  refine lv_topi (fun v5 e6 => ?_)
  obtain rfl : v5 = nI ((6 * k) + 2) := e6.trans (nI_add (6 * k) 2)
  refine va_sld hx hb hX hbl hbA hS (vp_in_nI (by omega) (by omega)) dL_law_1788 ?_
  refine lv_topi (fun v7 e8 => ?_)
  refine lv_aload_n hx hb dL_law_1789 rfl (lv_at hl 0 rfl) ?_
  refine lv_iload hx hb dL_law_1790 (lv_at hl 5 rfl) ?_
  refine lv_iconst (v := 3) hx hb dL_law_1792 (by decide) ?_
  refine lv_iadd hx hb dL_law_1793 ?_
  refine lv_topi (fun v9 e10 => ?_)
  obtain rfl : v9 = nI ((6 * k) + 3) := e10.trans (nI_add (6 * k) 3)
  refine va_sld hx hb hX hbl hbA hS (vp_in_nI (by omega) (by omega)) dL_law_1794 ?_
  refine lv_topi (fun v11 e12 => ?_)
  refine lv_aload_n hx hb dL_law_1795 rfl (lv_at hl 3 rfl) ?_
  refine va_calli (vx_runSW (As := [.ref o, .int v3, .int v7, .int v11, .ref q]) (rest := []) ⟨hx, hb, hml, hown, hts⟩ (rh_take l hlt dC dI kA eD b g o q v3 v7 v11 (by omega) (by omega)) (vx_cwSW 5 hts gL_law_L_take rfl rfl rfl (by decide +kernel) ⟨Nat.le_of_ble_eq_true rfl, Nat.le_of_ble_eq_true rfl⟩) ⟨fb_CX, fun U hU hW => ⟨rfl, CX.give hb0 hM hK hG hE hS hU hW⟩⟩ rfl rfl hl.1 rfl (lv_room (Nat.le_of_ble_eq_true rfl)) dL_law_1796 ⟨(show C + 1 ≤ 960594 by omega), (show S + 6 ≤ 6134452 by omega)⟩) hS (fun q _ h => h) (fun q h => h) (fun r13 g15 t H locs ht hvm hw14 hB hz1 hk1 hS => ?_)
  have hM := hB.back ht
  have hG := hB.2.2.2.1
  have hM1 := hM
  have hG1 := hG
  have hkt : ∀ a : Nat, tg g a ≠ 0 → tg g15 a = tg g a := fun a _ => by obtain ⟨f9, h9⟩ := hw14; rw [h9]; rfl
  have ht16 : tg g15 o = 1 := (hkt o (by omega)).trans hto
  have ht17 : tg g15 mo = 17 := (hkt mo (by omega)).trans htm
  have ht18 : tg g15 q = 34 := (hkt q (by omega)).trans htq
  have ht19 : tg g15 q2 = 35 := (hkt q2 (by omega)).trans htq2
  refine lv_istore (lv' := [(6, .int r13), (0, .ref b0), (1, .ref o), (2, .ref mo), (3, .ref q), (4, .ref q2), (5, .int (nI (6 * k)))]) hx hb dL_law_1799 hl (by decide) rfl (fun ls hl => ?_)
  refine lv_aload_n hx hb dL_law_1801 rfl (lv_at hl 3 rfl) ?_
  refine lv_aload_n hx hb dL_law_1802 rfl (lv_at hl 1 rfl) ?_
  refine lv_iload hx hb dL_law_1803 (lv_at hl 6 rfl) ?_
  refine lv_iconst (v := 1) hx hb dL_law_1805 (by decide) ?_
  refine lv_iadd hx hb dL_law_1806 ?_
  refine lv_topi (fun v20 e21 => ?_)
  obtain rfl : v20 = nI ((6 * k) + 1) := e21.trans (nI_add (6 * k) 1)
  refine va_sld hx hb hX hbl hbA hS (vp_in_nI (by omega) (by omega)) dL_law_1807 ?_
  refine lv_topi (fun v22 e23 => ?_)
  obtain rfl : v3 = v22 := e4.trans e23.symm
  refine lv_aload_n hx hb dL_law_1808 rfl (lv_at hl 1 rfl) ?_
  refine lv_iload hx hb dL_law_1809 (lv_at hl 6 rfl) ?_
  refine lv_iconst (v := 2) hx hb dL_law_1811 (by decide) ?_
  refine lv_iadd hx hb dL_law_1812 ?_
  refine lv_topi (fun v24 e25 => ?_)
  obtain rfl : v24 = nI ((6 * k) + 2) := e25.trans (nI_add (6 * k) 2)
  refine va_sld hx hb hX hbl hbA hS (vp_in_nI (by omega) (by omega)) dL_law_1813 ?_
  refine lv_topi (fun v26 e27 => ?_)
  obtain rfl : v7 = v26 := e8.trans e27.symm
  refine lv_aload_n hx hb dL_law_1814 rfl (lv_at hl 1 rfl) ?_
  refine lv_iload hx hb dL_law_1815 (lv_at hl 6 rfl) ?_
  refine lv_iconst (v := 3) hx hb dL_law_1817 (by decide) ?_
  refine lv_iadd hx hb dL_law_1818 ?_
  refine lv_topi (fun v28 e29 => ?_)
  obtain rfl : v28 = nI ((6 * k) + 3) := e29.trans (nI_add (6 * k) 3)
  refine va_sld hx hb hX hbl hbA hS (vp_in_nI (by omega) (by omega)) dL_law_1819 ?_
  refine lv_topi (fun v30 e31 => ?_)
  obtain rfl : v11 = v30 := e12.trans e31.symm
  obtain ⟨u32, u33, hP, hf⟩ := o_mo (i := 0) (q := mo) hM (by omega)
  refine W.know (fun hkn1 hkn2 => ?_)
  refine va_calli (va_runV (As := [.int v3, .int v7, .int v11]) (rest := []) ⟨hx, hb, hml, hown, hts⟩ (rmf_take l dC dI kA eD b g15 H.size (SH H) mo v3 v7 v11 (by omega)) (cwV 3 hts gL_law_X6_take rfl rfl rfl (by decide +kernel) ⟨Nat.le_of_ble_eq_true rfl, Nat.le_of_ble_eq_true rfl⟩) ⟨fb_CXs, va_recv hK hP (ci := 10) (q0 := 0) rfl rfl, fun U hU hW => ⟨rfl, CXs.give hb0 hM hK hG hE hS hU hW⟩⟩ rfl rfl hl.1 rfl (lv_room (Nat.le_of_ble_eq_true rfl)) dL_law_1820 ⟨(show C + 1 + 730 ≤ 960594 by omega), (show S + 6 + 5600 ≤ 6134452 by omega)⟩) hS (fun q _ h => h) (fun q h => h) (fun r34 g36 t H locs ht hvm hw35 hB hz1 hk1 hS => ?_)
  have hM := hB.1.back ht
  have hG := hB.1.2.2.2.1
  obtain ⟨g36, d9⟩ := g36
  have hgr := hB.2
  rw [ht] at hgr
  have hgr1 : H.size ≤ _ + (20 + 14 * (1 + d9)) := hgr.1
  have hgr2 : SH H ≤ _ + (120 + 108 * (1 + d9)) := hgr.2
  refine W.shrink (k := C + 1 + 14 * d9 + 40) (n := S + 6 + 108 * d9 + 240) (by omega) (by omega) ?_
  have hlx := lx_G (u2 := g36) (d9 := d9) hI (Or.inl hw14) hM1 hG1 hw35 hM hG
  have ht37 : tg g36 o = 1 := hlx.1.2.2.1
  have ht38 : tg g36 mo = 17 := hlx.1.2.2.2.1
  have ht39 : tg g36 q = 34 := hlx.1.2.2.2.2.1
  have ht40 : tg g36 q2 = 35 := hlx.1.2.2.2.2.2.1
  refine lv_istore (lv' := [(7, .int r34), (6, .int r13), (0, .ref b0), (1, .ref o), (2, .ref mo), (3, .ref q), (4, .ref q2), (5, .int (nI (6 * k)))]) hx hb dL_law_1823 hl (by decide) rfl (fun ls hl => ?_)
  refine lv_goto (tgt := 1941) hx hb dL_law_1825 (by decide) ?_
  exact hnext g36 H _ ls _ _ ⟨hM, hG, hlx.1.2.2⟩ (hlx.2 C S k _ _ hR (by omega) (by omega)) hS (lv_sub hl [2, 3, 4, 5, 6, 7] rfl)

set_option maxHeartbeats 4000000 in
set_option maxRecDepth 100000 in
/-- the law: a call of money -/
theorem case_37 {p : Program} {l : Launch} {e : Env} {s : State} {m : MethodId} {below : List Frame} {meth : Method} {c : Code} (hlt : l.stackTraces = false) {b0 L : Nat} {xs : Nat → Int32} (C0 : lw_At p s m meth c b0 L xs) (hL : L ≤ 3072) (dC : Nat → ClassId) (dI : Nat → Nat → Nat) (kA : Nat → ClassId) (eD b o mo q q2 k : Nat) (hb9 : b = s.heap.size) (hb0 : b ≤ s.heap.size) (hk : 6 * k + 6 ≤ L) (hK : va_K (dC, dI) vwCl (TYS kA) s) (hE : EX eD b s) (hnext : ∀ (g : Gh) (H : Heap) (locs : List Loc) (ls : Array Slot) (C S : Nat), LI (dC, dI) kA b eD o mo q q2 g H → RI g mo C S (k + 1) → va_S (fun q => b ≤ q) s.heap H locs → lv_has ls 9 [(0, .ref b0), (1, .ref o), (2, .ref mo), (3, .ref q), (4, .ref q2), (5, .int (nI (6 * k)))] → W p l e room_1 s m #[Value.ref b0] below meth c H locs C S (lw_Z below #[Value.ref b0] s) (F0 m 1941 ls [])) {g : Gh} {H : Heap} {locs : List Loc} {ls : Array Slot} {C S : Nat} (hI : LI (dC, dI) kA b eD o mo q q2 g H) (hR : RI g mo C S k) (hS : va_S (fun q => b ≤ q) s.heap H locs) (hl : lv_has ls 9 [(0, .ref b0), (1, .ref o), (2, .ref mo), (3, .ref q), (4, .ref q2), (5, .int (nI (6 * k)))]) : W p l e room_1 s m #[Value.ref b0] below meth c H locs C S (lw_Z below #[Value.ref b0] s) (F0 m 1828 ls []) := by
  obtain ⟨hx, hb, hr, hml, hown, hts0, hX, hbl, hlocks, hgv⟩ := id C0
  have hts : ∀ w ∈ wzL_law, w.before #[Value.ref b0] s = true := fun w h => hts0 w (wzL_law_in w h)
  have hbA : ¬ (fun q : Nat => b ≤ q) b0 := by show ¬ b ≤ b0; omega
  have hT := hE.1
  have hN := hE.2.2.2.2.2.2.2.1
  obtain ⟨hM, hG, hto, htm, htq, htq2, -, hed⟩ := id hI
  have hRC : C ≤ 430000 := by have h9 := hR; unfold RI at h9; omega
  have hRS : S ≤ 3400000 := by have h9 := hR; unfold RI at h9; omega
  refine lv_aload_n hx hb dL_law_1828 rfl (lv_at hl 1 rfl) ?_
  obtain ⟨u1, u2, u3, u4, hP, hf⟩ := o_sno (i := 0) (q := o) hM (by omega)
  refine va_calli (va_runV (As := []) (rest := []) ⟨hx, hb, hml, hown, hts⟩ (rf_money l dC dI kA eD b g o  (by omega)) (cwV 0 hts gL_law_X3_money rfl rfl rfl (by decide +kernel) ⟨Nat.le_of_ble_eq_true rfl, Nat.le_of_ble_eq_true rfl⟩) ⟨fb_CX, va_recv hK hP (ci := 7) (q0 := 0) rfl rfl, fun U hU hW => ⟨rfl, CX.give hb0 hM hK hG hE hS hU hW⟩⟩ rfl rfl hl.1 rfl (lv_room (Nat.le_of_ble_eq_true rfl)) dL_law_1829 ⟨(show C + 0 ≤ 960594 by omega), (show S + 0 ≤ 6134452 by omega)⟩) hS (fun q _ h => h) (fun q h => h) (fun r5 u t H locs ht hvm hw6 hB hz1 hk1 hS => ?_)
  have hM := hB.back ht
  have hG := hB.2.2.2.1
  have hM1 := hM
  have hG1 := hG
  have hu1 : g = g := rfl
  refine lv_pop hx hb dL_law_1832 rfl ?_
  refine lv_aload_n hx hb dL_law_1833 rfl (lv_at hl 2 rfl) ?_
  obtain ⟨u7, u8, hP, hf⟩ := o_mo (i := 0) (q := mo) hM (by omega)
  refine va_calli (va_runV (As := []) (rest := []) ⟨hx, hb, hml, hown, hts⟩ (rmf_money l dC dI kA eD b g mo  (by omega)) (cwV 0 hts gL_law_X6_money rfl rfl rfl (by decide +kernel) ⟨Nat.le_of_ble_eq_true rfl, Nat.le_of_ble_eq_true rfl⟩) ⟨fb_CX, va_recv hK hP (ci := 10) (q0 := 0) rfl rfl, fun U hU hW => ⟨rfl, CX.give hb0 hM hK hG hE hS hU hW⟩⟩ rfl rfl hl.1 rfl (lv_room (Nat.le_of_ble_eq_true rfl)) dL_law_1834 ⟨(show C + 0 ≤ 960594 by omega), (show S + 0 ≤ 6134452 by omega)⟩) hS (fun q _ h => h) (fun q h => h) (fun r9 g11 t H locs ht hvm hw10 hB hz1 hk1 hS => ?_)
  have hM := hB.back ht
  have hG := hB.2.2.2.1
  have hlx := lx_N hI (Or.inr hu1) hM1 hG1 hw10 hM hG
  have ht12 : tg g11 o = 1 := hlx.1.2.2.1
  have ht13 : tg g11 mo = 17 := hlx.1.2.2.2.1
  have ht14 : tg g11 q = 34 := hlx.1.2.2.2.2.1
  have ht15 : tg g11 q2 = 35 := hlx.1.2.2.2.2.2.1
  refine lv_pop hx hb dL_law_1837 rfl ?_
  refine lv_goto (tgt := 1941) hx hb dL_law_1838 (by decide) ?_
  exact hnext g11 H _ ls _ _ ⟨hM, hG, hlx.1.2.2⟩ (by have h9 := hlx.2 C S k hR; unfold RI at h9 ⊢; omega) hS (lv_sub hl [0, 1, 2, 3, 4, 5] rfl)

set_option maxHeartbeats 4000000 in
set_option maxRecDepth 100000 in
/-- the law: a call of count -/
theorem case_38 {p : Program} {l : Launch} {e : Env} {s : State} {m : MethodId} {below : List Frame} {meth : Method} {c : Code} (hlt : l.stackTraces = false) {b0 L : Nat} {xs : Nat → Int32} (C0 : lw_At p s m meth c b0 L xs) (hL : L ≤ 3072) (dC : Nat → ClassId) (dI : Nat → Nat → Nat) (kA : Nat → ClassId) (eD b o mo q q2 k : Nat) (hb9 : b = s.heap.size) (hb0 : b ≤ s.heap.size) (hk : 6 * k + 6 ≤ L) (hK : va_K (dC, dI) vwCl (TYS kA) s) (hE : EX eD b s) (hnext : ∀ (g : Gh) (H : Heap) (locs : List Loc) (ls : Array Slot) (C S : Nat), LI (dC, dI) kA b eD o mo q q2 g H → RI g mo C S (k + 1) → va_S (fun q => b ≤ q) s.heap H locs → lv_has ls 9 [(0, .ref b0), (1, .ref o), (2, .ref mo), (3, .ref q), (4, .ref q2), (5, .int (nI (6 * k)))] → W p l e room_1 s m #[Value.ref b0] below meth c H locs C S (lw_Z below #[Value.ref b0] s) (F0 m 1941 ls [])) {g : Gh} {H : Heap} {locs : List Loc} {ls : Array Slot} {C S : Nat} (hI : LI (dC, dI) kA b eD o mo q q2 g H) (hR : RI g mo C S k) (hS : va_S (fun q => b ≤ q) s.heap H locs) (hl : lv_has ls 9 [(0, .ref b0), (1, .ref o), (2, .ref mo), (3, .ref q), (4, .ref q2), (5, .int (nI (6 * k)))]) : W p l e room_1 s m #[Value.ref b0] below meth c H locs C S (lw_Z below #[Value.ref b0] s) (F0 m 1841 ls []) := by
  obtain ⟨hx, hb, hr, hml, hown, hts0, hX, hbl, hlocks, hgv⟩ := id C0
  have hts : ∀ w ∈ wzL_law, w.before #[Value.ref b0] s = true := fun w h => hts0 w (wzL_law_in w h)
  have hbA : ¬ (fun q : Nat => b ≤ q) b0 := by show ¬ b ≤ b0; omega
  have hT := hE.1
  have hN := hE.2.2.2.2.2.2.2.1
  obtain ⟨hM, hG, hto, htm, htq, htq2, -, hed⟩ := id hI
  have hRC : C ≤ 430000 := by have h9 := hR; unfold RI at h9; omega
  have hRS : S ≤ 3400000 := by have h9 := hR; unfold RI at h9; omega
  refine lv_aload_n hx hb dL_law_1841 rfl (lv_at hl 1 rfl) ?_
  refine lv_aload_n hx hb dL_law_1842 rfl (lv_at hl 0 rfl) ?_
  refine lv_iload hx hb dL_law_1843 (lv_at hl 5 rfl) ?_
  refine lv_iconst (v := 1) hx hb dL_law_1845 (by decide) ?_
  refine lv_iadd hx hb dL_law_1846 ?_
  refine lv_topi (fun v1 e2 => ?_)
  obtain rfl : v1 = nI ((6 * k) + 1) := e2.trans (nI_add (6 * k) 1)
  refine va_sld hx hb hX hbl hbA hS (vp_in_nI (by omega) (by omega)) dL_law_1847 ?_
  refine lv_topi (fun v3 e4 => ?_)
  refine lv_aload_n hx hb dL_law_1848 rfl (lv_at hl 3 rfl) ?_
  refine va_calli (vx_runSW (As := [.ref o, .int v3, .ref q]) (rest := []) ⟨hx, hb, hml, hown, hts⟩ (rh_count l hlt dC dI kA eD b g o q v3 (by omega) (by omega)) (vx_cwSW 3 hts gL_law_L_count rfl rfl rfl (by decide +kernel) ⟨Nat.le_of_ble_eq_true rfl, Nat.le_of_ble_eq_true rfl⟩) ⟨fb_CX, fun U hU hW => ⟨rfl, CX.give hb0 hM hK hG hE hS hU hW⟩⟩ rfl rfl hl.1 rfl (lv_room (Nat.le_of_ble_eq_true rfl)) dL_law_1849 ⟨(show C + 1 ≤ 960594 by omega), (show S + 6 ≤ 6134452 by omega)⟩) hS (fun q _ h => h) (fun q h => h) (fun r5 g7 t H locs ht hvm hw6 hB hz1 hk1 hS => ?_)
  have hM := hB.back ht
  have hG := hB.2.2.2.1
  have hM1 := hM
  have hG1 := hG
  have hkt : ∀ a : Nat, tg g a ≠ 0 → tg g7 a = tg g a := fun a _ => by obtain ⟨f9, h9⟩ := hw6; rw [h9]; rfl
  have ht8 : tg g7 o = 1 := (hkt o (by omega)).trans hto
  have ht9 : tg g7 mo = 17 := (hkt mo (by omega)).trans htm
  have ht10 : tg g7 q = 34 := (hkt q (by omega)).trans htq
  have ht11 : tg g7 q2 = 35 := (hkt q2 (by omega)).trans htq2
  refine lv_istore (lv' := [(6, .int r5), (0, .ref b0), (1, .ref o), (2, .ref mo), (3, .ref q), (4, .ref q2), (5, .int (nI (6 * k)))]) hx hb dL_law_1852 hl (by decide) rfl (fun ls hl => ?_)
  refine lv_aload_n hx hb dL_law_1854 rfl (lv_at hl 3 rfl) ?_
  refine lv_aload_n hx hb dL_law_1855 rfl (lv_at hl 1 rfl) ?_
  refine lv_iload hx hb dL_law_1856 (lv_at hl 6 rfl) ?_
  refine lv_iconst (v := 1) hx hb dL_law_1858 (by decide) ?_
  refine lv_iadd hx hb dL_law_1859 ?_
  refine lv_topi (fun v12 e13 => ?_)
  obtain rfl : v12 = nI ((6 * k) + 1) := e13.trans (nI_add (6 * k) 1)
  refine va_sld hx hb hX hbl hbA hS (vp_in_nI (by omega) (by omega)) dL_law_1860 ?_
  refine lv_topi (fun v14 e15 => ?_)
  obtain rfl : v3 = v14 := e4.trans e15.symm
  obtain ⟨u16, u17, hP, hf⟩ := o_mo (i := 0) (q := mo) hM (by omega)
  refine va_calli (va_runV (As := [.int v3]) (rest := []) ⟨hx, hb, hml, hown, hts⟩ (rmf_count l dC dI kA eD b g7 mo v3 (by omega)) (cwV 1 hts gL_law_X6_count rfl rfl rfl (by decide +kernel) ⟨Nat.le_of_ble_eq_true rfl, Nat.le_of_ble_eq_true rfl⟩) ⟨fb_CX, va_recv hK hP (ci := 10) (q0 := 0) rfl rfl, fun U hU hW => ⟨rfl, CX.give hb0 hM hK hG hE hS hU hW⟩⟩ rfl rfl hl.1 rfl (lv_room (Nat.le_of_ble_eq_true rfl)) dL_law_1861 ⟨(show C + 1 + 0 ≤ 960594 by omega), (show S + 6 + 0 ≤ 6134452 by omega)⟩) hS (fun q _ h => h) (fun q h => h) (fun r18 g20 t H locs ht hvm hw19 hB hz1 hk1 hS => ?_)
  have hM := hB.back ht
  have hG := hB.2.2.2.1
  have hlx := lx_N hI (Or.inl hw6) hM1 hG1 hw19 hM hG
  have ht21 : tg g20 o = 1 := hlx.1.2.2.1
  have ht22 : tg g20 mo = 17 := hlx.1.2.2.2.1
  have ht23 : tg g20 q = 34 := hlx.1.2.2.2.2.1
  have ht24 : tg g20 q2 = 35 := hlx.1.2.2.2.2.2.1
  refine lv_istore (lv' := [(7, .int r18), (6, .int r5), (0, .ref b0), (1, .ref o), (2, .ref mo), (3, .ref q), (4, .ref q2), (5, .int (nI (6 * k)))]) hx hb dL_law_1864 hl (by decide) rfl (fun ls hl => ?_)
  refine lv_goto (tgt := 1941) hx hb dL_law_1866 (by decide) ?_
  exact hnext g20 H _ ls _ _ ⟨hM, hG, hlx.1.2.2⟩ (by have h9 := hlx.2 C S k hR; unfold RI at h9 ⊢; omega) hS (lv_sub hl [2, 3, 4, 5, 6, 7] rfl)

set_option maxHeartbeats 4000000 in
set_option maxRecDepth 100000 in
/-- the law: a call of openShare -/
theorem case_39 {p : Program} {l : Launch} {e : Env} {s : State} {m : MethodId} {below : List Frame} {meth : Method} {c : Code} (hlt : l.stackTraces = false) {b0 L : Nat} {xs : Nat → Int32} (C0 : lw_At p s m meth c b0 L xs) (hL : L ≤ 3072) (dC : Nat → ClassId) (dI : Nat → Nat → Nat) (kA : Nat → ClassId) (eD b o mo q q2 k : Nat) (hb9 : b = s.heap.size) (hb0 : b ≤ s.heap.size) (hk : 6 * k + 6 ≤ L) (hK : va_K (dC, dI) vwCl (TYS kA) s) (hE : EX eD b s) (hnext : ∀ (g : Gh) (H : Heap) (locs : List Loc) (ls : Array Slot) (C S : Nat), LI (dC, dI) kA b eD o mo q q2 g H → RI g mo C S (k + 1) → va_S (fun q => b ≤ q) s.heap H locs → lv_has ls 9 [(0, .ref b0), (1, .ref o), (2, .ref mo), (3, .ref q), (4, .ref q2), (5, .int (nI (6 * k)))] → W p l e room_1 s m #[Value.ref b0] below meth c H locs C S (lw_Z below #[Value.ref b0] s) (F0 m 1941 ls [])) {g : Gh} {H : Heap} {locs : List Loc} {ls : Array Slot} {C S : Nat} (hI : LI (dC, dI) kA b eD o mo q q2 g H) (hR : RI g mo C S k) (hS : va_S (fun q => b ≤ q) s.heap H locs) (hl : lv_has ls 9 [(0, .ref b0), (1, .ref o), (2, .ref mo), (3, .ref q), (4, .ref q2), (5, .int (nI (6 * k)))]) : W p l e room_1 s m #[Value.ref b0] below meth c H locs C S (lw_Z below #[Value.ref b0] s) (F0 m 1869 ls []) := by
  obtain ⟨hx, hb, hr, hml, hown, hts0, hX, hbl, hlocks, hgv⟩ := id C0
  have hts : ∀ w ∈ wzL_law, w.before #[Value.ref b0] s = true := fun w h => hts0 w (wzL_law_in w h)
  have hbA : ¬ (fun q : Nat => b ≤ q) b0 := by show ¬ b ≤ b0; omega
  have hT := hE.1
  have hN := hE.2.2.2.2.2.2.2.1
  obtain ⟨hM, hG, hto, htm, htq, htq2, -, hed⟩ := id hI
  have hRC : C ≤ 430000 := by have h9 := hR; unfold RI at h9; omega
  have hRS : S ≤ 3400000 := by have h9 := hR; unfold RI at h9; omega
  refine lv_aload_n hx hb dL_law_1869 rfl (lv_at hl 1 rfl) ?_
  refine lv_aload hx hb dL_law_1870 (lv_at hl 4 rfl) ?_
  refine va_calli (vx_runSW (As := [.ref o, .ref q2]) (rest := []) ⟨hx, hb, hml, hown, hts⟩ (rh_openShare l hlt dC dI kA eD b g o q2  (by omega) (by omega)) (vx_cwSW 2 hts gL_law_L_openShare rfl rfl rfl (by decide +kernel) ⟨Nat.le_of_ble_eq_true rfl, Nat.le_of_ble_eq_true rfl⟩) ⟨fb_CX, fun U hU hW => ⟨rfl, CX.give hb0 hM hK hG hE hS hU hW⟩⟩ rfl rfl hl.1 rfl (lv_room (Nat.le_of_ble_eq_true rfl)) dL_law_1872 ⟨(show C + 1 ≤ 960594 by omega), (show S + 6 ≤ 6134452 by omega)⟩) hS (fun q _ h => h) (fun q h => h) (fun r1 g3 t H locs ht hvm hw2 hB hz1 hk1 hS => ?_)
  have hM := hB.back ht
  have hG := hB.2.2.2.1
  have hM1 := hM
  have hG1 := hG
  have hkt : ∀ a : Nat, tg g a ≠ 0 → tg g3 a = tg g a := fun a _ => by rw [hw2]
  have ht4 : tg g3 o = 1 := (hkt o (by omega)).trans hto
  have ht5 : tg g3 mo = 17 := (hkt mo (by omega)).trans htm
  have ht6 : tg g3 q = 34 := (hkt q (by omega)).trans htq
  have ht7 : tg g3 q2 = 35 := (hkt q2 (by omega)).trans htq2
  refine lv_istore (lv' := [(6, .int r1), (0, .ref b0), (1, .ref o), (2, .ref mo), (3, .ref q), (4, .ref q2), (5, .int (nI (6 * k)))]) hx hb dL_law_1875 hl (by decide) rfl (fun ls hl => ?_)
  refine lv_aload_n hx hb dL_law_1877 rfl (lv_at hl 3 rfl) ?_
  obtain ⟨u8, u9, hP, hf⟩ := o_mo (i := 0) (q := mo) hM (by omega)
  refine va_callf (va_runV (As := []) (rest := []) ⟨hx, hb, hml, hown, hts⟩ (rmf_openShare l dC dI kA eD b g3 mo  (by omega)) (cwV 0 hts gL_law_X6_openShare rfl rfl rfl (by decide +kernel) ⟨Nat.le_of_ble_eq_true rfl, Nat.le_of_ble_eq_true rfl⟩) ⟨fb_CX, va_recv hK hP (ci := 10) (q0 := 0) rfl rfl, fun U hU hW => ⟨rfl, CX.give hb0 hM hK hG hE hS hU hW⟩⟩ rfl rfl hl.1 rfl (lv_room (Nat.le_of_ble_eq_true rfl)) dL_law_1878 ⟨(show C + 1 + 24 ≤ 960594 by omega), (show S + 6 + 170 ≤ 6134452 by omega)⟩) hS (fun q _ h => h) (fun q h => h) (fun r10 g12 t H locs ht hvm hw11 hB hz1 hk1 hS => ?_)
  have hM := hB.back ht
  have hG := hB.2.2.2.1
  have hlx := lx_N hI (Or.inr hw2) hM1 hG1 hw11 hM hG
  have ht13 : tg g12 o = 1 := hlx.1.2.2.1
  have ht14 : tg g12 mo = 17 := hlx.1.2.2.2.1
  have ht15 : tg g12 q = 34 := hlx.1.2.2.2.2.1
  have ht16 : tg g12 q2 = 35 := hlx.1.2.2.2.2.2.1
  refine lv_fstore (lv' := [(7, .float r10), (6, .int r1), (0, .ref b0), (1, .ref o), (2, .ref mo), (3, .ref q), (4, .ref q2), (5, .int (nI (6 * k)))]) hx hb dL_law_1881 hl (by decide) rfl (fun ls hl => ?_)
  refine lv_goto (tgt := 1941) hx hb dL_law_1883 (by decide) ?_
  exact hnext g12 H _ ls _ _ ⟨hM, hG, hlx.1.2.2⟩ (by have h9 := hlx.2 C S k hR; unfold RI at h9 ⊢; omega) hS (lv_sub hl [2, 3, 4, 5, 6, 7] rfl)

set_option maxHeartbeats 4000000 in
set_option maxRecDepth 100000 in
/-- the law: a call of meanCreep -/
theorem case_40 {p : Program} {l : Launch} {e : Env} {s : State} {m : MethodId} {below : List Frame} {meth : Method} {c : Code} (hlt : l.stackTraces = false) {b0 L : Nat} {xs : Nat → Int32} (C0 : lw_At p s m meth c b0 L xs) (hL : L ≤ 3072) (dC : Nat → ClassId) (dI : Nat → Nat → Nat) (kA : Nat → ClassId) (eD b o mo q q2 k : Nat) (hb9 : b = s.heap.size) (hb0 : b ≤ s.heap.size) (hk : 6 * k + 6 ≤ L) (hK : va_K (dC, dI) vwCl (TYS kA) s) (hE : EX eD b s) (hnext : ∀ (g : Gh) (H : Heap) (locs : List Loc) (ls : Array Slot) (C S : Nat), LI (dC, dI) kA b eD o mo q q2 g H → RI g mo C S (k + 1) → va_S (fun q => b ≤ q) s.heap H locs → lv_has ls 9 [(0, .ref b0), (1, .ref o), (2, .ref mo), (3, .ref q), (4, .ref q2), (5, .int (nI (6 * k)))] → W p l e room_1 s m #[Value.ref b0] below meth c H locs C S (lw_Z below #[Value.ref b0] s) (F0 m 1941 ls [])) {g : Gh} {H : Heap} {locs : List Loc} {ls : Array Slot} {C S : Nat} (hI : LI (dC, dI) kA b eD o mo q q2 g H) (hR : RI g mo C S k) (hS : va_S (fun q => b ≤ q) s.heap H locs) (hl : lv_has ls 9 [(0, .ref b0), (1, .ref o), (2, .ref mo), (3, .ref q), (4, .ref q2), (5, .int (nI (6 * k)))]) : W p l e room_1 s m #[Value.ref b0] below meth c H locs C S (lw_Z below #[Value.ref b0] s) (F0 m 1886 ls []) := by
  obtain ⟨hx, hb, hr, hml, hown, hts0, hX, hbl, hlocks, hgv⟩ := id C0
  have hts : ∀ w ∈ wzL_law, w.before #[Value.ref b0] s = true := fun w h => hts0 w (wzL_law_in w h)
  have hbA : ¬ (fun q : Nat => b ≤ q) b0 := by show ¬ b ≤ b0; omega
  have hT := hE.1
  have hN := hE.2.2.2.2.2.2.2.1
  obtain ⟨hM, hG, hto, htm, htq, htq2, -, hed⟩ := id hI
  have hRC : C ≤ 430000 := by have h9 := hR; unfold RI at h9; omega
  have hRS : S ≤ 3400000 := by have h9 := hR; unfold RI at h9; omega
  refine lv_aload_n hx hb dL_law_1886 rfl (lv_at hl 1 rfl) ?_
  refine lv_aload_n hx hb dL_law_1887 rfl (lv_at hl 0 rfl) ?_
  refine lv_iload hx hb dL_law_1888 (lv_at hl 5 rfl) ?_
  refine lv_iconst (v := 1) hx hb dL_law_1890 (by decide) ?_
  refine lv_iadd hx hb dL_law_1891 ?_
  refine lv_topi (fun v1 e2 => ?_)
  obtain rfl : v1 = nI ((6 * k) + 1) := e2.trans (nI_add (6 * k) 1)
  refine va_sld hx hb hX hbl hbA hS (vp_in_nI (by omega) (by omega)) dL_law_1892 ?_
  refine lv_topi (fun v3 e4 => ?_)
  refine lv_aload hx hb dL_law_1893 (lv_at hl 4 rfl) ?_
  refine va_calli (vx_runSW (As := [.ref o, .int v3, .ref q2]) (rest := []) ⟨hx, hb, hml, hown, hts⟩ (rh_meanCreep l hlt dC dI kA eD b g o q2 v3 (by omega) (by omega)) (vx_cwSW 3 hts gL_law_L_meanCreep rfl rfl rfl (by decide +kernel) ⟨Nat.le_of_ble_eq_true rfl, Nat.le_of_ble_eq_true rfl⟩) ⟨fb_CX, fun U hU hW => ⟨rfl, CX.give hb0 hM hK hG hE hS hU hW⟩⟩ rfl rfl hl.1 rfl (lv_room (Nat.le_of_ble_eq_true rfl)) dL_law_1895 ⟨(show C + 1 ≤ 960594 by omega), (show S + 6 ≤ 6134452 by omega)⟩) hS (fun q _ h => h) (fun q h => h) (fun r5 g7 t H locs ht hvm hw6 hB hz1 hk1 hS => ?_)
  have hM := hB.back ht
  have hG := hB.2.2.2.1
  have hM1 := hM
  have hG1 := hG
  have hkt : ∀ a : Nat, tg g a ≠ 0 → tg g7 a = tg g a := fun a _ => by rw [hw6]
  have ht8 : tg g7 o = 1 := (hkt o (by omega)).trans hto
  have ht9 : tg g7 mo = 17 := (hkt mo (by omega)).trans htm
  have ht10 : tg g7 q = 34 := (hkt q (by omega)).trans htq
  have ht11 : tg g7 q2 = 35 := (hkt q2 (by omega)).trans htq2
  refine lv_istore (lv' := [(6, .int r5), (0, .ref b0), (1, .ref o), (2, .ref mo), (3, .ref q), (4, .ref q2), (5, .int (nI (6 * k)))]) hx hb dL_law_1898 hl (by decide) rfl (fun ls hl => ?_)
  refine lv_aload_n hx hb dL_law_1900 rfl (lv_at hl 3 rfl) ?_
  refine lv_aload_n hx hb dL_law_1901 rfl (lv_at hl 1 rfl) ?_
  refine lv_iload hx hb dL_law_1902 (lv_at hl 6 rfl) ?_
  refine lv_iconst (v := 1) hx hb dL_law_1904 (by decide) ?_
  refine lv_iadd hx hb dL_law_1905 ?_
  refine lv_topi (fun v12 e13 => ?_)
  obtain rfl : v12 = nI ((6 * k) + 1) := e13.trans (nI_add (6 * k) 1)
  refine va_sld hx hb hX hbl hbA hS (vp_in_nI (by omega) (by omega)) dL_law_1906 ?_
  refine lv_topi (fun v14 e15 => ?_)
  obtain rfl : v3 = v14 := e4.trans e15.symm
  obtain ⟨u16, u17, hP, hf⟩ := o_mo (i := 0) (q := mo) hM (by omega)
  refine va_calld (va_runV (As := [.int v3]) (rest := []) ⟨hx, hb, hml, hown, hts⟩ (rmf_meanCreep l dC dI kA eD b g7 mo v3 (by omega)) (cwV 1 hts gL_law_X6_meanCreep rfl rfl rfl (by decide +kernel) ⟨Nat.le_of_ble_eq_true rfl, Nat.le_of_ble_eq_true rfl⟩) ⟨fb_CX, va_recv hK hP (ci := 10) (q0 := 0) rfl rfl, fun U hU hW => ⟨rfl, CX.give hb0 hM hK hG hE hS hU hW⟩⟩ rfl rfl hl.1 rfl (lv_room (Nat.le_of_ble_eq_true rfl)) dL_law_1907 ⟨(show C + 1 + 0 ≤ 960594 by omega), (show S + 6 + 0 ≤ 6134452 by omega)⟩) hS (fun q _ h => h) (fun q h => h) (fun r18 g20 t H locs ht hvm hw19 hB hz1 hk1 hS => ?_)
  have hM := hB.back ht
  have hG := hB.2.2.2.1
  have hlx := lx_N hI (Or.inr hw6) hM1 hG1 hw19 hM hG
  have ht21 : tg g20 o = 1 := hlx.1.2.2.1
  have ht22 : tg g20 mo = 17 := hlx.1.2.2.2.1
  have ht23 : tg g20 q = 34 := hlx.1.2.2.2.2.1
  have ht24 : tg g20 q2 = 35 := hlx.1.2.2.2.2.2.1
  refine lv_dstore (lv' := [(7, .double r18), (6, .int r5), (0, .ref b0), (1, .ref o), (2, .ref mo), (3, .ref q), (4, .ref q2), (5, .int (nI (6 * k)))]) hx hb dL_law_1910 hl (by decide) rfl (fun ls hl => ?_)
  refine lv_goto (tgt := 1941) hx hb dL_law_1912 (by decide) ?_
  exact hnext g20 H _ ls _ _ ⟨hM, hG, hlx.1.2.2⟩ (by have h9 := hlx.2 C S k hR; unfold RI at h9 ⊢; omega) hS (lv_sub hl [2, 3, 4, 5, 6, 7] rfl)

set_option maxHeartbeats 4000000 in
set_option maxRecDepth 100000 in
/-- the law: a call of checksum -/
theorem case_41 {p : Program} {l : Launch} {e : Env} {s : State} {m : MethodId} {below : List Frame} {meth : Method} {c : Code} (hlt : l.stackTraces = false) {b0 L : Nat} {xs : Nat → Int32} (C0 : lw_At p s m meth c b0 L xs) (hL : L ≤ 3072) (dC : Nat → ClassId) (dI : Nat → Nat → Nat) (kA : Nat → ClassId) (eD b o mo q q2 k : Nat) (hb9 : b = s.heap.size) (hb0 : b ≤ s.heap.size) (hk : 6 * k + 6 ≤ L) (hK : va_K (dC, dI) vwCl (TYS kA) s) (hE : EX eD b s) (hnext : ∀ (g : Gh) (H : Heap) (locs : List Loc) (ls : Array Slot) (C S : Nat), LI (dC, dI) kA b eD o mo q q2 g H → RI g mo C S (k + 1) → va_S (fun q => b ≤ q) s.heap H locs → lv_has ls 9 [(0, .ref b0), (1, .ref o), (2, .ref mo), (3, .ref q), (4, .ref q2), (5, .int (nI (6 * k)))] → W p l e room_1 s m #[Value.ref b0] below meth c H locs C S (lw_Z below #[Value.ref b0] s) (F0 m 1941 ls [])) {g : Gh} {H : Heap} {locs : List Loc} {ls : Array Slot} {C S : Nat} (hI : LI (dC, dI) kA b eD o mo q q2 g H) (hR : RI g mo C S k) (hS : va_S (fun q => b ≤ q) s.heap H locs) (hl : lv_has ls 9 [(0, .ref b0), (1, .ref o), (2, .ref mo), (3, .ref q), (4, .ref q2), (5, .int (nI (6 * k)))]) : W p l e room_1 s m #[Value.ref b0] below meth c H locs C S (lw_Z below #[Value.ref b0] s) (F0 m 1915 ls []) := by
  obtain ⟨hx, hb, hr, hml, hown, hts0, hX, hbl, hlocks, hgv⟩ := id C0
  have hts : ∀ w ∈ wzL_law, w.before #[Value.ref b0] s = true := fun w h => hts0 w (wzL_law_in w h)
  have hbA : ¬ (fun q : Nat => b ≤ q) b0 := by show ¬ b ≤ b0; omega
  have hT := hE.1
  have hN := hE.2.2.2.2.2.2.2.1
  obtain ⟨hM, hG, hto, htm, htq, htq2, -, hed⟩ := id hI
  have hRC : C ≤ 430000 := by have h9 := hR; unfold RI at h9; omega
  have hRS : S ≤ 3400000 := by have h9 := hR; unfold RI at h9; omega
  refine lv_aload_n hx hb dL_law_1915 rfl (lv_at hl 1 rfl) ?_
  obtain ⟨u1, u2, u3, u4, hP, hf⟩ := o_sno (i := 0) (q := o) hM (by omega)
  refine va_calll (va_runV (As := []) (rest := []) ⟨hx, hb, hml, hown, hts⟩ (rf_checksum l dC dI kA eD b g o  (by omega)) (cwV 0 hts gL_law_X3_checksum rfl rfl rfl (by decide +kernel) ⟨Nat.le_of_ble_eq_true rfl, Nat.le_of_ble_eq_true rfl⟩) ⟨fb_CX, va_recv hK hP (ci := 7) (q0 := 0) rfl rfl, fun U hU hW => ⟨rfl, CX.give hb0 hM hK hG hE hS hU hW⟩⟩ rfl rfl hl.1 rfl (lv_room (Nat.le_of_ble_eq_true rfl)) dL_law_1916 ⟨(show C + 0 ≤ 960594 by omega), (show S + 0 ≤ 6134452 by omega)⟩) hS (fun q _ h => h) (fun q h => h) (fun r5 u t H locs ht hvm hw6 hB hz1 hk1 hS => ?_)
  have hM := hB.back ht
  have hG := hB.2.2.2.1
  have hM1 := hM
  have hG1 := hG
  have hu1 : g = g := rfl
  refine lv_pop2_2 hx hb dL_law_1919 rfl ?_
  refine lv_aload_n hx hb dL_law_1920 rfl (lv_at hl 2 rfl) ?_
  obtain ⟨u7, u8, hP, hf⟩ := o_mo (i := 0) (q := mo) hM (by omega)
  refine va_calll (va_runV (As := []) (rest := []) ⟨hx, hb, hml, hown, hts⟩ (rmf_checksum l dC dI kA eD b g mo  (by omega)) (cwV 0 hts gL_law_X6_checksum rfl rfl rfl (by decide +kernel) ⟨Nat.le_of_ble_eq_true rfl, Nat.le_of_ble_eq_true rfl⟩) ⟨fb_CX, va_recv hK hP (ci := 10) (q0 := 0) rfl rfl, fun U hU hW => ⟨rfl, CX.give hb0 hM hK hG hE hS hU hW⟩⟩ rfl rfl hl.1 rfl (lv_room (Nat.le_of_ble_eq_true rfl)) dL_law_1921 ⟨(show C + 1 ≤ 960594 by omega), (show S + 4 ≤ 6134452 by omega)⟩) hS (fun q _ h => h) (fun q h => h) (fun r9 g11 t H locs ht hvm hw10 hB hz1 hk1 hS => ?_)
  have hM := hB.back ht
  have hG := hB.2.2.2.1
  have hlx := lx_N hI (Or.inr hu1) hM1 hG1 hw10 hM hG
  have ht12 : tg g11 o = 1 := hlx.1.2.2.1
  have ht13 : tg g11 mo = 17 := hlx.1.2.2.2.1
  have ht14 : tg g11 q = 34 := hlx.1.2.2.2.2.1
  have ht15 : tg g11 q2 = 35 := hlx.1.2.2.2.2.2.1
  refine lv_pop2_2 hx hb dL_law_1924 rfl ?_
  refine lv_goto (tgt := 1941) hx hb dL_law_1925 (by decide) ?_
  exact hnext g11 H _ ls _ _ ⟨hM, hG, hlx.1.2.2⟩ (by have h9 := hlx.2 C S k hR; unfold RI at h9 ⊢; omega) hS (lv_sub hl [0, 1, 2, 3, 4, 5] rfl)

set_option maxHeartbeats 4000000 in
set_option maxRecDepth 100000 in
/-- the law: a call of isSound -/
theorem case_42 {p : Program} {l : Launch} {e : Env} {s : State} {m : MethodId} {below : List Frame} {meth : Method} {c : Code} (hlt : l.stackTraces = false) {b0 L : Nat} {xs : Nat → Int32} (C0 : lw_At p s m meth c b0 L xs) (hL : L ≤ 3072) (dC : Nat → ClassId) (dI : Nat → Nat → Nat) (kA : Nat → ClassId) (eD b o mo q q2 k : Nat) (hb9 : b = s.heap.size) (hb0 : b ≤ s.heap.size) (hk : 6 * k + 6 ≤ L) (hK : va_K (dC, dI) vwCl (TYS kA) s) (hE : EX eD b s) (hnext : ∀ (g : Gh) (H : Heap) (locs : List Loc) (ls : Array Slot) (C S : Nat), LI (dC, dI) kA b eD o mo q q2 g H → RI g mo C S (k + 1) → va_S (fun q => b ≤ q) s.heap H locs → lv_has ls 9 [(0, .ref b0), (1, .ref o), (2, .ref mo), (3, .ref q), (4, .ref q2), (5, .int (nI (6 * k)))] → W p l e room_1 s m #[Value.ref b0] below meth c H locs C S (lw_Z below #[Value.ref b0] s) (F0 m 1941 ls [])) {g : Gh} {H : Heap} {locs : List Loc} {ls : Array Slot} {C S : Nat} (hI : LI (dC, dI) kA b eD o mo q q2 g H) (hR : RI g mo C S k) (hS : va_S (fun q => b ≤ q) s.heap H locs) (hl : lv_has ls 9 [(0, .ref b0), (1, .ref o), (2, .ref mo), (3, .ref q), (4, .ref q2), (5, .int (nI (6 * k)))]) : W p l e room_1 s m #[Value.ref b0] below meth c H locs C S (lw_Z below #[Value.ref b0] s) (F0 m 1928 ls []) := by
  obtain ⟨hx, hb, hr, hml, hown, hts0, hX, hbl, hlocks, hgv⟩ := id C0
  have hts : ∀ w ∈ wzL_law, w.before #[Value.ref b0] s = true := fun w h => hts0 w (wzL_law_in w h)
  have hbA : ¬ (fun q : Nat => b ≤ q) b0 := by show ¬ b ≤ b0; omega
  have hT := hE.1
  have hN := hE.2.2.2.2.2.2.2.1
  obtain ⟨hM, hG, hto, htm, htq, htq2, -, hed⟩ := id hI
  have hRC : C ≤ 430000 := by have h9 := hR; unfold RI at h9; omega
  have hRS : S ≤ 3400000 := by have h9 := hR; unfold RI at h9; omega
  refine lv_aload_n hx hb dL_law_1928 rfl (lv_at hl 1 rfl) ?_
  obtain ⟨u1, u2, u3, u4, hP, hf⟩ := o_sno (i := 0) (q := o) hM (by omega)
  refine va_calli (va_runV (As := []) (rest := []) ⟨hx, hb, hml, hown, hts⟩ (rf_isSound l dC dI kA eD b g o  (by omega)) (cwV 0 hts gL_law_X3_isSound rfl rfl rfl (by decide +kernel) ⟨Nat.le_of_ble_eq_true rfl, Nat.le_of_ble_eq_true rfl⟩) ⟨fb_CX, va_recv hK hP (ci := 7) (q0 := 0) rfl rfl, fun U hU hW => ⟨rfl, CX.give hb0 hM hK hG hE hS hU hW⟩⟩ rfl rfl hl.1 rfl (lv_room (Nat.le_of_ble_eq_true rfl)) dL_law_1929 ⟨(show C + 0 ≤ 960594 by omega), (show S + 0 ≤ 6134452 by omega)⟩) hS (fun q _ h => h) (fun q h => h) (fun r5 u t H locs ht hvm hw6 hB hz1 hk1 hS => ?_)
  have hM := hB.back ht
  have hG := hB.2.2.2.1
  have hM1 := hM
  have hG1 := hG
  have hu1 : g = g := rfl
  refine lv_pop hx hb dL_law_1932 rfl ?_
  refine lv_aload_n hx hb dL_law_1933 rfl (lv_at hl 2 rfl) ?_
  obtain ⟨u7, u8, hP, hf⟩ := o_mo (i := 0) (q := mo) hM (by omega)
  refine va_calli (va_runV (As := []) (rest := []) ⟨hx, hb, hml, hown, hts⟩ (rmf_isSound l dC dI kA eD b g mo  (by omega)) (cwV 0 hts gL_law_X6_isSound rfl rfl rfl (by decide +kernel) ⟨Nat.le_of_ble_eq_true rfl, Nat.le_of_ble_eq_true rfl⟩) ⟨fb_CX, va_recv hK hP (ci := 10) (q0 := 0) rfl rfl, fun U hU hW => ⟨rfl, CX.give hb0 hM hK hG hE hS hU hW⟩⟩ rfl rfl hl.1 rfl (lv_room (Nat.le_of_ble_eq_true rfl)) dL_law_1934 ⟨(show C + 0 ≤ 960594 by omega), (show S + 0 ≤ 6134452 by omega)⟩) hS (fun q _ h => h) (fun q h => h) (fun r9 g11 t H locs ht hvm hw10 hB hz1 hk1 hS => ?_)
  have hM := hB.back ht
  have hG := hB.2.2.2.1
  have hlx := lx_N hI (Or.inr hu1) hM1 hG1 hw10 hM hG
  have ht12 : tg g11 o = 1 := hlx.1.2.2.1
  have ht13 : tg g11 mo = 17 := hlx.1.2.2.2.1
  have ht14 : tg g11 q = 34 := hlx.1.2.2.2.2.1
  have ht15 : tg g11 q2 = 35 := hlx.1.2.2.2.2.2.1
  refine lv_pop hx hb dL_law_1937 rfl ?_
  refine lv_goto (tgt := 1941) hx hb dL_law_1938 (by decide) ?_
  exact hnext g11 H _ ls _ _ ⟨hM, hG, hlx.1.2.2⟩ (by have h9 := hlx.2 C S k hR; unfold RI at h9 ⊢; omega) hS (lv_sub hl [0, 1, 2, 3, 4, 5] rfl)
