set_option maxHeartbeats 4000000 in
set_option maxRecDepth 100000 in
/-- the law: a call of cover -/
theorem case_24 {p : Program} {l : Launch} {e : Env} {s : State} {m : MethodId} {below : List Frame} {meth : Method} {c : Code} (hlt : l.stackTraces = false) {b0 L : Nat} {xs : Nat → Int32} (C0 : lw_At p s m meth c b0 L xs) (hL : L ≤ 3072) (dC : Nat → ClassId) (dI : Nat → Nat → Nat) (kA : Nat → ClassId) (eD b o mo q q2 k : Nat) (hb9 : b = s.heap.size) (hb0 : b ≤ s.heap.size) (hk : 6 * k + 6 ≤ L) (hK : va_K (dC, dI) vwCl (TYS kA) s) (hE : EX eD b s) (hnext : ∀ (g : Gh) (H : Heap) (locs : List Loc) (ls : Array Slot) (C S : Nat), LI (dC, dI) kA b eD o mo q q2 g H → RI g mo C S (k + 1) → va_S (fun q => b ≤ q) s.heap H locs → lv_has ls 9 [(0, .ref b0), (1, .ref o), (2, .ref mo), (3, .ref q), (4, .ref q2), (5, .int (nI (6 * k)))] → W p l e room_1 s m #[Value.ref b0] below meth c H locs C S (lw_Z below #[Value.ref b0] s) (F0 m 1913 ls [])) {g : Gh} {H : Heap} {locs : List Loc} {ls : Array Slot} {C S : Nat} (hI : LI (dC, dI) kA b eD o mo q q2 g H) (hR : RI g mo C S k) (hS : va_S (fun q => b ≤ q) s.heap H locs) (hl : lv_has ls 9 [(0, .ref b0), (1, .ref o), (2, .ref mo), (3, .ref q), (4, .ref q2), (5, .int (nI (6 * k)))]) : W p l e room_1 s m #[Value.ref b0] below meth c H locs C S (lw_Z below #[Value.ref b0] s) (F0 m 1154 ls []) := by
  obtain ⟨hx, hb, hr, hml, hown, hts0, hX, hbl, hlocks, hgv⟩ := id C0
  have hts : ∀ w ∈ wzL_law, w.before #[Value.ref b0] s = true := fun w h => hts0 w (wzL_law_in w h)
  have hbA : ¬ (fun q : Nat => b ≤ q) b0 := by show ¬ b ≤ b0; omega
  have hT := hE.1
  have hN := hE.2.2.2.2.2.2.2.1
  obtain ⟨hM, hG, hto, htm, htq, htq2, -, hed⟩ := id hI
  have hRC : C ≤ 430000 := by have h9 := hR; unfold RI at h9; omega
  have hRS : S ≤ 3400000 := by have h9 := hR; unfold RI at h9; omega
  refine lv_aload_n hx hb dL_law_1154 rfl (lv_at hl 1 rfl) ?_
  refine lv_aload_n hx hb dL_law_1155 rfl (lv_at hl 0 rfl) ?_
  refine lv_iload hx hb dL_law_1156 (lv_at hl 5 rfl) ?_
  refine lv_iconst (v := 1) hx hb dL_law_1158 (by decide) ?_
  refine lv_iadd hx hb dL_law_1159 ?_
  refine lv_topi (fun v1 e2 => ?_)
  obtain rfl : v1 = nI ((6 * k) + 1) := e2.trans (nI_add (6 * k) 1)
  refine va_sld hx hb hX hbl hbA hS (vp_in_nI (by omega) (by omega)) dL_law_1160 ?_
  refine lv_topi (fun v3 e4 => ?_)
  refine lv_aload_n hx hb dL_law_1161 rfl (lv_at hl 0 rfl) ?_
  refine lv_iload hx hb dL_law_1162 (lv_at hl 5 rfl) ?_
  refine lv_iconst (v := 2) hx hb dL_law_1164 (by decide) ?_
  refine lv_iadd hx hb dL_law_1165 ?_
  refine lv_topi (fun v5 e6 => ?_)
  obtain rfl : v5 = nI ((6 * k) + 2) := e6.trans (nI_add (6 * k) 2)
  refine va_sld hx hb hX hbl hbA hS (vp_in_nI (by omega) (by omega)) dL_law_1166 ?_
  refine lv_topi (fun v7 e8 => ?_)
  refine lv_if_eq (tgt := 1174) hx hb dL_law_1167 (by decide) (fun c9 => ?_) (fun c9 => ?_)
  · skip
    refine lv_iconst (v := 0) hx hb dL_law_1174 (by decide) ?_
    refine lv_aload_n hx hb dL_law_1175 rfl (lv_at hl 3 rfl) ?_
    refine va_calli (vx_runSW (As := [.ref o, .int v3, .int 0, .ref q]) (rest := []) ⟨hx, hb, hml, hown, hts⟩ (rh_cover l hlt dC dI kA eD b g o q v3 0 (by omega) (by omega) (Or.inl rfl)) (vx_cwSW 4 hts gL_law_L_cover rfl rfl rfl (by decide +kernel) ⟨Nat.le_of_ble_eq_true rfl, Nat.le_of_ble_eq_true rfl⟩) ⟨fb_CX, fun U hU hW => ⟨rfl, CX.give hb0 hM hK hG hE hS hU hW⟩⟩ rfl rfl hl.1 rfl (lv_room (Nat.le_of_ble_eq_true rfl)) dL_law_1176 ⟨(show C + 1 ≤ 960594 by omega), (show S + 6 ≤ 6134452 by omega)⟩) hS (fun q _ h => h) (fun q h => h) (fun r10 g12 t H locs ht hvm hw11 hB hz1 hk1 hS => ?_)
    have hM := hB.back ht
    have hG := hB.2.2.2.1
    have hM1 := hM
    have hG1 := hG
    have hkt := kt_cover hw11
    have ht13 : tg g12 o = 1 := (hkt o (by omega)).trans hto
    have ht14 : tg g12 mo = 17 := (hkt mo (by omega)).trans htm
    have ht15 : tg g12 q = 34 := (hkt q (by omega)).trans htq
    have ht16 : tg g12 q2 = 35 := (hkt q2 (by omega)).trans htq2
    refine lv_istore (lv' := [(6, .int r10), (0, .ref b0), (1, .ref o), (2, .ref mo), (3, .ref q), (4, .ref q2), (5, .int (nI (6 * k)))]) hx hb dL_law_1179 hl (by decide) rfl (fun ls hl => ?_)
    refine lv_aload_n hx hb dL_law_1181 rfl (lv_at hl 3 rfl) ?_
    refine lv_aload_n hx hb dL_law_1182 rfl (lv_at hl 1 rfl) ?_
    refine lv_iload hx hb dL_law_1183 (lv_at hl 6 rfl) ?_
    refine lv_iconst (v := 1) hx hb dL_law_1185 (by decide) ?_
    refine lv_iadd hx hb dL_law_1186 ?_
    refine lv_topi (fun v17 e18 => ?_)
    obtain rfl : v17 = nI ((6 * k) + 1) := e18.trans (nI_add (6 * k) 1)
    refine va_sld hx hb hX hbl hbA hS (vp_in_nI (by omega) (by omega)) dL_law_1187 ?_
    refine lv_topi (fun v19 e20 => ?_)
    obtain rfl : v3 = v19 := e4.trans e20.symm
    refine lv_aload_n hx hb dL_law_1188 rfl (lv_at hl 1 rfl) ?_
    refine lv_iload hx hb dL_law_1189 (lv_at hl 6 rfl) ?_
    refine lv_iconst (v := 2) hx hb dL_law_1191 (by decide) ?_
    refine lv_iadd hx hb dL_law_1192 ?_
    refine lv_topi (fun v21 e22 => ?_)
    obtain rfl : v21 = nI ((6 * k) + 2) := e22.trans (nI_add (6 * k) 2)
    refine va_sld hx hb hX hbl hbA hS (vp_in_nI (by omega) (by omega)) dL_law_1193 ?_
    refine lv_topi (fun v23 e24 => ?_)
    obtain rfl : v7 = v23 := e8.trans e24.symm
    refine lv_if_eq (tgt := 1201) hx hb dL_law_1194 (by decide) (fun _ => ?_) (fun cx => absurd c9 cx)
    refine lv_iconst (v := 0) hx hb dL_law_1201 (by decide) ?_
    obtain ⟨u25, u26, hP, hf⟩ := o_mo (i := 0) (q := mo) hM (by omega)
    refine va_calli (va_runV (As := [.int v3, .int 0]) (rest := []) ⟨hx, hb, hml, hown, hts⟩ (rmf_cover l dC dI kA eD b g12 mo v3 0 (by omega) (Or.inl rfl)) (cwV 2 hts gL_law_X6_cover rfl rfl rfl (by decide +kernel) ⟨Nat.le_of_ble_eq_true rfl, Nat.le_of_ble_eq_true rfl⟩) ⟨fb_CX, va_recv hK hP (ci := 10) (q0 := 0) rfl rfl, fun U hU hW => ⟨rfl, CX.give hb0 hM hK hG hE hS hU hW⟩⟩ rfl rfl hl.1 rfl (lv_room (Nat.le_of_ble_eq_true rfl)) dL_law_1202 ⟨(show C + 1 + 0 ≤ 960594 by omega), (show S + 6 + 0 ≤ 6134452 by omega)⟩) hS (fun q _ h => h) (fun q h => h) (fun r27 g29 t H locs ht hvm hw28 hB hz1 hk1 hS => ?_)
    have hM := hB.back ht
    have hG := hB.2.2.2.1
    have hlx := lx_cover hI hw11 hM1 hG1 hw28 hM hG
    have ht30 : tg g29 o = 1 := hlx.1.2.2.1
    have ht31 : tg g29 mo = 17 := hlx.1.2.2.2.1
    have ht32 : tg g29 q = 34 := hlx.1.2.2.2.2.1
    have ht33 : tg g29 q2 = 35 := hlx.1.2.2.2.2.2.1
    refine lv_istore (lv' := [(7, .int r27), (6, .int r10), (0, .ref b0), (1, .ref o), (2, .ref mo), (3, .ref q), (4, .ref q2), (5, .int (nI (6 * k)))]) hx hb dL_law_1205 hl (by decide) rfl (fun ls hl => ?_)
    refine lv_goto (tgt := 1913) hx hb dL_law_1207 (by decide) ?_
    exact hnext g29 H _ ls _ _ ⟨hM, hG, hlx.1.2.2⟩ (by have h9 := hlx.2.1 C S k hR; unfold RI at h9 ⊢; omega) hS (lv_sub hl [2, 3, 4, 5, 6, 7] rfl)
  · skip
    refine lv_iconst (v := 1) hx hb dL_law_1170 (by decide) ?_
    refine lv_goto (tgt := 1175) hx hb dL_law_1171 (by decide) ?_
    refine lv_aload_n hx hb dL_law_1175 rfl (lv_at hl 3 rfl) ?_
    refine va_calli (vx_runSW (As := [.ref o, .int v3, .int 1, .ref q]) (rest := []) ⟨hx, hb, hml, hown, hts⟩ (rh_cover l hlt dC dI kA eD b g o q v3 1 (by omega) (by omega) (Or.inr rfl)) (vx_cwSW 4 hts gL_law_L_cover rfl rfl rfl (by decide +kernel) ⟨Nat.le_of_ble_eq_true rfl, Nat.le_of_ble_eq_true rfl⟩) ⟨fb_CX, fun U hU hW => ⟨rfl, CX.give hb0 hM hK hG hE hS hU hW⟩⟩ rfl rfl hl.1 rfl (lv_room (Nat.le_of_ble_eq_true rfl)) dL_law_1176 ⟨(show C + 1 ≤ 960594 by omega), (show S + 6 ≤ 6134452 by omega)⟩) hS (fun q _ h => h) (fun q h => h) (fun r34 g36 t H locs ht hvm hw35 hB hz1 hk1 hS => ?_)
    have hM := hB.back ht
    have hG := hB.2.2.2.1
    have hM1 := hM
    have hG1 := hG
    have hkt := kt_cover hw35
    have ht37 : tg g36 o = 1 := (hkt o (by omega)).trans hto
    have ht38 : tg g36 mo = 17 := (hkt mo (by omega)).trans htm
    have ht39 : tg g36 q = 34 := (hkt q (by omega)).trans htq
    have ht40 : tg g36 q2 = 35 := (hkt q2 (by omega)).trans htq2
    refine lv_istore (lv' := [(6, .int r34), (0, .ref b0), (1, .ref o), (2, .ref mo), (3, .ref q), (4, .ref q2), (5, .int (nI (6 * k)))]) hx hb dL_law_1179 hl (by decide) rfl (fun ls hl => ?_)
    refine lv_aload_n hx hb dL_law_1181 rfl (lv_at hl 3 rfl) ?_
    refine lv_aload_n hx hb dL_law_1182 rfl (lv_at hl 1 rfl) ?_
    refine lv_iload hx hb dL_law_1183 (lv_at hl 6 rfl) ?_
    refine lv_iconst (v := 1) hx hb dL_law_1185 (by decide) ?_
    refine lv_iadd hx hb dL_law_1186 ?_
    refine lv_topi (fun v41 e42 => ?_)
    obtain rfl : v41 = nI ((6 * k) + 1) := e42.trans (nI_add (6 * k) 1)
    refine va_sld hx hb hX hbl hbA hS (vp_in_nI (by omega) (by omega)) dL_law_1187 ?_
    refine lv_topi (fun v43 e44 => ?_)
    obtain rfl : v3 = v43 := e4.trans e44.symm
    refine lv_aload_n hx hb dL_law_1188 rfl (lv_at hl 1 rfl) ?_
    refine lv_iload hx hb dL_law_1189 (lv_at hl 6 rfl) ?_
    refine lv_iconst (v := 2) hx hb dL_law_1191 (by decide) ?_
    refine lv_iadd hx hb dL_law_1192 ?_
    refine lv_topi (fun v45 e46 => ?_)
    obtain rfl : v45 = nI ((6 * k) + 2) := e46.trans (nI_add (6 * k) 2)
    refine va_sld hx hb hX hbl hbA hS (vp_in_nI (by omega) (by omega)) dL_law_1193 ?_
    refine lv_topi (fun v47 e48 => ?_)
    obtain rfl : v7 = v47 := e8.trans e48.symm
    refine lv_if_eq (tgt := 1201) hx hb dL_law_1194 (by decide) (fun cx => absurd cx c9) (fun _ => ?_)
    refine lv_iconst (v := 1) hx hb dL_law_1197 (by decide) ?_
    refine lv_goto (tgt := 1202) hx hb dL_law_1198 (by decide) ?_
    obtain ⟨u49, u50, hP, hf⟩ := o_mo (i := 0) (q := mo) hM (by omega)
    refine va_calli (va_runV (As := [.int v3, .int 1]) (rest := []) ⟨hx, hb, hml, hown, hts⟩ (rmf_cover l dC dI kA eD b g36 mo v3 1 (by omega) (Or.inr rfl)) (cwV 2 hts gL_law_X6_cover rfl rfl rfl (by decide +kernel) ⟨Nat.le_of_ble_eq_true rfl, Nat.le_of_ble_eq_true rfl⟩) ⟨fb_CX, va_recv hK hP (ci := 10) (q0 := 0) rfl rfl, fun U hU hW => ⟨rfl, CX.give hb0 hM hK hG hE hS hU hW⟩⟩ rfl rfl hl.1 rfl (lv_room (Nat.le_of_ble_eq_true rfl)) dL_law_1202 ⟨(show C + 1 + 0 ≤ 960594 by omega), (show S + 6 + 0 ≤ 6134452 by omega)⟩) hS (fun q _ h => h) (fun q h => h) (fun r51 g53 t H locs ht hvm hw52 hB hz1 hk1 hS => ?_)
    have hM := hB.back ht
    have hG := hB.2.2.2.1
    have hlx := lx_cover hI hw35 hM1 hG1 hw52 hM hG
    have ht54 : tg g53 o = 1 := hlx.1.2.2.1
    have ht55 : tg g53 mo = 17 := hlx.1.2.2.2.1
    have ht56 : tg g53 q = 34 := hlx.1.2.2.2.2.1
    have ht57 : tg g53 q2 = 35 := hlx.1.2.2.2.2.2.1
    refine lv_istore (lv' := [(7, .int r51), (6, .int r34), (0, .ref b0), (1, .ref o), (2, .ref mo), (3, .ref q), (4, .ref q2), (5, .int (nI (6 * k)))]) hx hb dL_law_1205 hl (by decide) rfl (fun ls hl => ?_)
    refine lv_goto (tgt := 1913) hx hb dL_law_1207 (by decide) ?_
    exact hnext g53 H _ ls _ _ ⟨hM, hG, hlx.1.2.2⟩ (by have h9 := hlx.2.1 C S k hR; unfold RI at h9 ⊢; omega) hS (lv_sub hl [2, 3, 4, 5, 6, 7] rfl)

set_option maxHeartbeats 4000000 in
set_option maxRecDepth 100000 in
/-- the law: a call of lamp -/
theorem case_25 {p : Program} {l : Launch} {e : Env} {s : State} {m : MethodId} {below : List Frame} {meth : Method} {c : Code} (hlt : l.stackTraces = false) {b0 L : Nat} {xs : Nat → Int32} (C0 : lw_At p s m meth c b0 L xs) (hL : L ≤ 3072) (dC : Nat → ClassId) (dI : Nat → Nat → Nat) (kA : Nat → ClassId) (eD b o mo q q2 k : Nat) (hb9 : b = s.heap.size) (hb0 : b ≤ s.heap.size) (hk : 6 * k + 6 ≤ L) (hK : va_K (dC, dI) vwCl (TYS kA) s) (hE : EX eD b s) (hnext : ∀ (g : Gh) (H : Heap) (locs : List Loc) (ls : Array Slot) (C S : Nat), LI (dC, dI) kA b eD o mo q q2 g H → RI g mo C S (k + 1) → va_S (fun q => b ≤ q) s.heap H locs → lv_has ls 9 [(0, .ref b0), (1, .ref o), (2, .ref mo), (3, .ref q), (4, .ref q2), (5, .int (nI (6 * k)))] → W p l e room_1 s m #[Value.ref b0] below meth c H locs C S (lw_Z below #[Value.ref b0] s) (F0 m 1913 ls [])) {g : Gh} {H : Heap} {locs : List Loc} {ls : Array Slot} {C S : Nat} (hI : LI (dC, dI) kA b eD o mo q q2 g H) (hR : RI g mo C S k) (hS : va_S (fun q => b ≤ q) s.heap H locs) (hl : lv_has ls 9 [(0, .ref b0), (1, .ref o), (2, .ref mo), (3, .ref q), (4, .ref q2), (5, .int (nI (6 * k)))]) : W p l e room_1 s m #[Value.ref b0] below meth c H locs C S (lw_Z below #[Value.ref b0] s) (F0 m 1210 ls []) := by
  obtain ⟨hx, hb, hr, hml, hown, hts0, hX, hbl, hlocks, hgv⟩ := id C0
  have hts : ∀ w ∈ wzL_law, w.before #[Value.ref b0] s = true := fun w h => hts0 w (wzL_law_in w h)
  have hbA : ¬ (fun q : Nat => b ≤ q) b0 := by show ¬ b ≤ b0; omega
  have hT := hE.1
  have hN := hE.2.2.2.2.2.2.2.1
  obtain ⟨hM, hG, hto, htm, htq, htq2, -, hed⟩ := id hI
  have hRC : C ≤ 430000 := by have h9 := hR; unfold RI at h9; omega
  have hRS : S ≤ 3400000 := by have h9 := hR; unfold RI at h9; omega
  refine lv_aload_n hx hb dL_law_1210 rfl (lv_at hl 1 rfl) ?_
  refine lv_aload_n hx hb dL_law_1211 rfl (lv_at hl 0 rfl) ?_
  refine lv_iload hx hb dL_law_1212 (lv_at hl 5 rfl) ?_
  refine lv_iconst (v := 1) hx hb dL_law_1214 (by decide) ?_
  refine lv_iadd hx hb dL_law_1215 ?_
  refine lv_topi (fun v1 e2 => ?_)
  obtain rfl : v1 = nI ((6 * k) + 1) := e2.trans (nI_add (6 * k) 1)
  refine va_sld hx hb hX hbl hbA hS (vp_in_nI (by omega) (by omega)) dL_law_1216 ?_
  refine lv_topi (fun v3 e4 => ?_)
  refine lv_aload_n hx hb dL_law_1217 rfl (lv_at hl 0 rfl) ?_
  refine lv_iload hx hb dL_law_1218 (lv_at hl 5 rfl) ?_
  refine lv_iconst (v := 2) hx hb dL_law_1220 (by decide) ?_
  refine lv_iadd hx hb dL_law_1221 ?_
  refine lv_topi (fun v5 e6 => ?_)
  obtain rfl : v5 = nI ((6 * k) + 2) := e6.trans (nI_add (6 * k) 2)
  refine va_sld hx hb hX hbl hbA hS (vp_in_nI (by omega) (by omega)) dL_law_1222 ?_
  refine lv_topi (fun v7 e8 => ?_)
  refine lv_aload_n hx hb dL_law_1223 rfl (lv_at hl 0 rfl) ?_
  refine lv_iload hx hb dL_law_1224 (lv_at hl 5 rfl) ?_
  refine lv_iconst (v := 3) hx hb dL_law_1226 (by decide) ?_
  refine lv_iadd hx hb dL_law_1227 ?_
  refine lv_topi (fun v9 e10 => ?_)
  obtain rfl : v9 = nI ((6 * k) + 3) := e10.trans (nI_add (6 * k) 3)
  refine va_sld hx hb hX hbl hbA hS (vp_in_nI (by omega) (by omega)) dL_law_1228 ?_
  refine lv_topi (fun v11 e12 => ?_)
  refine lv_aload_n hx hb dL_law_1229 rfl (lv_at hl 0 rfl) ?_
  refine lv_iload hx hb dL_law_1230 (lv_at hl 5 rfl) ?_
  refine lv_iconst (v := 4) hx hb dL_law_1232 (by decide) ?_
  refine lv_iadd hx hb dL_law_1233 ?_
  refine lv_topi (fun v13 e14 => ?_)
  obtain rfl : v13 = nI ((6 * k) + 4) := e14.trans (nI_add (6 * k) 4)
  refine va_sld hx hb hX hbl hbA hS (vp_in_nI (by omega) (by omega)) dL_law_1234 ?_
  refine lv_topi (fun v15 e16 => ?_)
  refine lv_if_eq (tgt := 1242) hx hb dL_law_1235 (by decide) (fun c17 => ?_) (fun c17 => ?_)
  · skip
    refine lv_iconst (v := 0) hx hb dL_law_1242 (by decide) ?_
    refine lv_aload_n hx hb dL_law_1243 rfl (lv_at hl 3 rfl) ?_
    refine va_calli (vx_runSW (As := [.ref o, .int v3, .int v7, .int v11, .int 0, .ref q]) (rest := []) ⟨hx, hb, hml, hown, hts⟩ (rh_lamp l hlt dC dI kA eD b g o q v3 v7 v11 0 (by omega) (by omega)) (vx_cwSW 6 hts gL_law_L_lamp rfl rfl rfl (by decide +kernel) ⟨Nat.le_of_ble_eq_true rfl, Nat.le_of_ble_eq_true rfl⟩) ⟨fb_CX, fun U hU hW => ⟨rfl, CX.give hb0 hM hK hG hE hS hU hW⟩⟩ rfl rfl hl.1 rfl (lv_room (Nat.le_of_ble_eq_true rfl)) dL_law_1244 ⟨(show C + 1 ≤ 960594 by omega), (show S + 6 ≤ 6134452 by omega)⟩) hS (fun q _ h => h) (fun q h => h) (fun r18 g20 t H locs ht hvm hw19 hB hz1 hk1 hS => ?_)
    have hM := hB.back ht
    have hG := hB.2.2.2.1
    have hM1 := hM
    have hG1 := hG
    have hkt : ∀ a : Nat, tg g a ≠ 0 → tg g20 a = tg g a := fun a _ => by obtain ⟨f9, h9⟩ := hw19; rw [h9]; rfl
    have ht21 : tg g20 o = 1 := (hkt o (by omega)).trans hto
    have ht22 : tg g20 mo = 17 := (hkt mo (by omega)).trans htm
    have ht23 : tg g20 q = 34 := (hkt q (by omega)).trans htq
    have ht24 : tg g20 q2 = 35 := (hkt q2 (by omega)).trans htq2
    refine lv_istore (lv' := [(6, .int r18), (0, .ref b0), (1, .ref o), (2, .ref mo), (3, .ref q), (4, .ref q2), (5, .int (nI (6 * k)))]) hx hb dL_law_1247 hl (by decide) rfl (fun ls hl => ?_)
    refine lv_aload_n hx hb dL_law_1249 rfl (lv_at hl 3 rfl) ?_
    refine lv_aload_n hx hb dL_law_1250 rfl (lv_at hl 1 rfl) ?_
    refine lv_iload hx hb dL_law_1251 (lv_at hl 6 rfl) ?_
    refine lv_iconst (v := 1) hx hb dL_law_1253 (by decide) ?_
    refine lv_iadd hx hb dL_law_1254 ?_
    refine lv_topi (fun v25 e26 => ?_)
    obtain rfl : v25 = nI ((6 * k) + 1) := e26.trans (nI_add (6 * k) 1)
    refine va_sld hx hb hX hbl hbA hS (vp_in_nI (by omega) (by omega)) dL_law_1255 ?_
    refine lv_topi (fun v27 e28 => ?_)
    obtain rfl : v3 = v27 := e4.trans e28.symm
    refine lv_aload_n hx hb dL_law_1256 rfl (lv_at hl 1 rfl) ?_
    refine lv_iload hx hb dL_law_1257 (lv_at hl 6 rfl) ?_
    refine lv_iconst (v := 2) hx hb dL_law_1259 (by decide) ?_
    refine lv_iadd hx hb dL_law_1260 ?_
    refine lv_topi (fun v29 e30 => ?_)
    obtain rfl : v29 = nI ((6 * k) + 2) := e30.trans (nI_add (6 * k) 2)
    refine va_sld hx hb hX hbl hbA hS (vp_in_nI (by omega) (by omega)) dL_law_1261 ?_
    refine lv_topi (fun v31 e32 => ?_)
    obtain rfl : v7 = v31 := e8.trans e32.symm
    refine lv_aload_n hx hb dL_law_1262 rfl (lv_at hl 1 rfl) ?_
    refine lv_iload hx hb dL_law_1263 (lv_at hl 6 rfl) ?_
    refine lv_iconst (v := 3) hx hb dL_law_1265 (by decide) ?_
    refine lv_iadd hx hb dL_law_1266 ?_
    refine lv_topi (fun v33 e34 => ?_)
    obtain rfl : v33 = nI ((6 * k) + 3) := e34.trans (nI_add (6 * k) 3)
    refine va_sld hx hb hX hbl hbA hS (vp_in_nI (by omega) (by omega)) dL_law_1267 ?_
    refine lv_topi (fun v35 e36 => ?_)
    obtain rfl : v11 = v35 := e12.trans e36.symm
    refine lv_aload_n hx hb dL_law_1268 rfl (lv_at hl 1 rfl) ?_
    refine lv_iload hx hb dL_law_1269 (lv_at hl 6 rfl) ?_
    refine lv_iconst (v := 4) hx hb dL_law_1271 (by decide) ?_
    refine lv_iadd hx hb dL_law_1272 ?_
    refine lv_topi (fun v37 e38 => ?_)
    obtain rfl : v37 = nI ((6 * k) + 4) := e38.trans (nI_add (6 * k) 4)
    refine va_sld hx hb hX hbl hbA hS (vp_in_nI (by omega) (by omega)) dL_law_1273 ?_
    refine lv_topi (fun v39 e40 => ?_)
    obtain rfl : v15 = v39 := e16.trans e40.symm
    refine lv_if_eq (tgt := 1281) hx hb dL_law_1274 (by decide) (fun _ => ?_) (fun cx => absurd c17 cx)
    refine lv_iconst (v := 0) hx hb dL_law_1281 (by decide) ?_
    obtain ⟨u41, u42, hP, hf⟩ := o_mo (i := 0) (q := mo) hM (by omega)
    refine va_calli (va_runV (As := [.int v3, .int v7, .int v11, .int 0]) (rest := []) ⟨hx, hb, hml, hown, hts⟩ (rmf_lamp l dC dI kA eD b g20 mo v3 v7 v11 0 (by omega) (Or.inl rfl)) (cwV 4 hts gL_law_X6_lamp rfl rfl rfl (by decide +kernel) ⟨Nat.le_of_ble_eq_true rfl, Nat.le_of_ble_eq_true rfl⟩) ⟨fb_CX, va_recv hK hP (ci := 10) (q0 := 0) rfl rfl, fun U hU hW => ⟨rfl, CX.give hb0 hM hK hG hE hS hU hW⟩⟩ rfl rfl hl.1 rfl (lv_room (Nat.le_of_ble_eq_true rfl)) dL_law_1282 ⟨(show C + 1 + 0 ≤ 960594 by omega), (show S + 6 + 0 ≤ 6134452 by omega)⟩) hS (fun q _ h => h) (fun q h => h) (fun r43 g45 t H locs ht hvm hw44 hB hz1 hk1 hS => ?_)
    have hM := hB.back ht
    have hG := hB.2.2.2.1
    have hlx := lx_N hI (Or.inl hw19) hM1 hG1 hw44 hM hG
    have ht46 : tg g45 o = 1 := hlx.1.2.2.1
    have ht47 : tg g45 mo = 17 := hlx.1.2.2.2.1
    have ht48 : tg g45 q = 34 := hlx.1.2.2.2.2.1
    have ht49 : tg g45 q2 = 35 := hlx.1.2.2.2.2.2.1
    refine lv_istore (lv' := [(7, .int r43), (6, .int r18), (0, .ref b0), (1, .ref o), (2, .ref mo), (3, .ref q), (4, .ref q2), (5, .int (nI (6 * k)))]) hx hb dL_law_1285 hl (by decide) rfl (fun ls hl => ?_)
    refine lv_goto (tgt := 1913) hx hb dL_law_1287 (by decide) ?_
    exact hnext g45 H _ ls _ _ ⟨hM, hG, hlx.1.2.2⟩ (by have h9 := hlx.2 C S k hR; unfold RI at h9 ⊢; omega) hS (lv_sub hl [2, 3, 4, 5, 6, 7] rfl)
  · skip
    refine lv_iconst (v := 1) hx hb dL_law_1238 (by decide) ?_
    refine lv_goto (tgt := 1243) hx hb dL_law_1239 (by decide) ?_
    refine lv_aload_n hx hb dL_law_1243 rfl (lv_at hl 3 rfl) ?_
    refine va_calli (vx_runSW (As := [.ref o, .int v3, .int v7, .int v11, .int 1, .ref q]) (rest := []) ⟨hx, hb, hml, hown, hts⟩ (rh_lamp l hlt dC dI kA eD b g o q v3 v7 v11 1 (by omega) (by omega)) (vx_cwSW 6 hts gL_law_L_lamp rfl rfl rfl (by decide +kernel) ⟨Nat.le_of_ble_eq_true rfl, Nat.le_of_ble_eq_true rfl⟩) ⟨fb_CX, fun U hU hW => ⟨rfl, CX.give hb0 hM hK hG hE hS hU hW⟩⟩ rfl rfl hl.1 rfl (lv_room (Nat.le_of_ble_eq_true rfl)) dL_law_1244 ⟨(show C + 1 ≤ 960594 by omega), (show S + 6 ≤ 6134452 by omega)⟩) hS (fun q _ h => h) (fun q h => h) (fun r50 g52 t H locs ht hvm hw51 hB hz1 hk1 hS => ?_)
    have hM := hB.back ht
    have hG := hB.2.2.2.1
    have hM1 := hM
    have hG1 := hG
    have hkt : ∀ a : Nat, tg g a ≠ 0 → tg g52 a = tg g a := fun a _ => by obtain ⟨f9, h9⟩ := hw51; rw [h9]; rfl
    have ht53 : tg g52 o = 1 := (hkt o (by omega)).trans hto
    have ht54 : tg g52 mo = 17 := (hkt mo (by omega)).trans htm
    have ht55 : tg g52 q = 34 := (hkt q (by omega)).trans htq
    have ht56 : tg g52 q2 = 35 := (hkt q2 (by omega)).trans htq2
    refine lv_istore (lv' := [(6, .int r50), (0, .ref b0), (1, .ref o), (2, .ref mo), (3, .ref q), (4, .ref q2), (5, .int (nI (6 * k)))]) hx hb dL_law_1247 hl (by decide) rfl (fun ls hl => ?_)
    refine lv_aload_n hx hb dL_law_1249 rfl (lv_at hl 3 rfl) ?_
    refine lv_aload_n hx hb dL_law_1250 rfl (lv_at hl 1 rfl) ?_
    refine lv_iload hx hb dL_law_1251 (lv_at hl 6 rfl) ?_
    refine lv_iconst (v := 1) hx hb dL_law_1253 (by decide) ?_
    refine lv_iadd hx hb dL_law_1254 ?_
    refine lv_topi (fun v57 e58 => ?_)
    obtain rfl : v57 = nI ((6 * k) + 1) := e58.trans (nI_add (6 * k) 1)
    refine va_sld hx hb hX hbl hbA hS (vp_in_nI (by omega) (by omega)) dL_law_1255 ?_
    refine lv_topi (fun v59 e60 => ?_)
    obtain rfl : v3 = v59 := e4.trans e60.symm
    refine lv_aload_n hx hb dL_law_1256 rfl (lv_at hl 1 rfl) ?_
    refine lv_iload hx hb dL_law_1257 (lv_at hl 6 rfl) ?_
    refine lv_iconst (v := 2) hx hb dL_law_1259 (by decide) ?_
    refine lv_iadd hx hb dL_law_1260 ?_
    refine lv_topi (fun v61 e62 => ?_)
    obtain rfl : v61 = nI ((6 * k) + 2) := e62.trans (nI_add (6 * k) 2)
    refine va_sld hx hb hX hbl hbA hS (vp_in_nI (by omega) (by omega)) dL_law_1261 ?_
    refine lv_topi (fun v63 e64 => ?_)
    obtain rfl : v7 = v63 := e8.trans e64.symm
    refine lv_aload_n hx hb dL_law_1262 rfl (lv_at hl 1 rfl) ?_
    refine lv_iload hx hb dL_law_1263 (lv_at hl 6 rfl) ?_
    refine lv_iconst (v := 3) hx hb dL_law_1265 (by decide) ?_
    refine lv_iadd hx hb dL_law_1266 ?_
    refine lv_topi (fun v65 e66 => ?_)
    obtain rfl : v65 = nI ((6 * k) + 3) := e66.trans (nI_add (6 * k) 3)
    refine va_sld hx hb hX hbl hbA hS (vp_in_nI (by omega) (by omega)) dL_law_1267 ?_
    refine lv_topi (fun v67 e68 => ?_)
    obtain rfl : v11 = v67 := e12.trans e68.symm
    refine lv_aload_n hx hb dL_law_1268 rfl (lv_at hl 1 rfl) ?_
    refine lv_iload hx hb dL_law_1269 (lv_at hl 6 rfl) ?_
    refine lv_iconst (v := 4) hx hb dL_law_1271 (by decide) ?_
    refine lv_iadd hx hb dL_law_1272 ?_
    refine lv_topi (fun v69 e70 => ?_)
    obtain rfl : v69 = nI ((6 * k) + 4) := e70.trans (nI_add (6 * k) 4)
    refine va_sld hx hb hX hbl hbA hS (vp_in_nI (by omega) (by omega)) dL_law_1273 ?_
    refine lv_topi (fun v71 e72 => ?_)
    obtain rfl : v15 = v71 := e16.trans e72.symm
    refine lv_if_eq (tgt := 1281) hx hb dL_law_1274 (by decide) (fun cx => absurd cx c17) (fun _ => ?_)
    refine lv_iconst (v := 1) hx hb dL_law_1277 (by decide) ?_
    refine lv_goto (tgt := 1282) hx hb dL_law_1278 (by decide) ?_
    obtain ⟨u73, u74, hP, hf⟩ := o_mo (i := 0) (q := mo) hM (by omega)
    refine va_calli (va_runV (As := [.int v3, .int v7, .int v11, .int 1]) (rest := []) ⟨hx, hb, hml, hown, hts⟩ (rmf_lamp l dC dI kA eD b g52 mo v3 v7 v11 1 (by omega) (Or.inr rfl)) (cwV 4 hts gL_law_X6_lamp rfl rfl rfl (by decide +kernel) ⟨Nat.le_of_ble_eq_true rfl, Nat.le_of_ble_eq_true rfl⟩) ⟨fb_CX, va_recv hK hP (ci := 10) (q0 := 0) rfl rfl, fun U hU hW => ⟨rfl, CX.give hb0 hM hK hG hE hS hU hW⟩⟩ rfl rfl hl.1 rfl (lv_room (Nat.le_of_ble_eq_true rfl)) dL_law_1282 ⟨(show C + 1 + 0 ≤ 960594 by omega), (show S + 6 + 0 ≤ 6134452 by omega)⟩) hS (fun q _ h => h) (fun q h => h) (fun r75 g77 t H locs ht hvm hw76 hB hz1 hk1 hS => ?_)
    have hM := hB.back ht
    have hG := hB.2.2.2.1
    have hlx := lx_N hI (Or.inl hw51) hM1 hG1 hw76 hM hG
    have ht78 : tg g77 o = 1 := hlx.1.2.2.1
    have ht79 : tg g77 mo = 17 := hlx.1.2.2.2.1
    have ht80 : tg g77 q = 34 := hlx.1.2.2.2.2.1
    have ht81 : tg g77 q2 = 35 := hlx.1.2.2.2.2.2.1
    refine lv_istore (lv' := [(7, .int r75), (6, .int r50), (0, .ref b0), (1, .ref o), (2, .ref mo), (3, .ref q), (4, .ref q2), (5, .int (nI (6 * k)))]) hx hb dL_law_1285 hl (by decide) rfl (fun ls hl => ?_)
    refine lv_goto (tgt := 1913) hx hb dL_law_1287 (by decide) ?_
    exact hnext g77 H _ ls _ _ ⟨hM, hG, hlx.1.2.2⟩ (by have h9 := hlx.2 C S k hR; unfold RI at h9 ⊢; omega) hS (lv_sub hl [2, 3, 4, 5, 6, 7] rfl)

set_option maxHeartbeats 4000000 in
set_option maxRecDepth 100000 in
/-- the law: a call of lightBits -/
theorem case_26 {p : Program} {l : Launch} {e : Env} {s : State} {m : MethodId} {below : List Frame} {meth : Method} {c : Code} (hlt : l.stackTraces = false) {b0 L : Nat} {xs : Nat → Int32} (C0 : lw_At p s m meth c b0 L xs) (hL : L ≤ 3072) (dC : Nat → ClassId) (dI : Nat → Nat → Nat) (kA : Nat → ClassId) (eD b o mo q q2 k : Nat) (hb9 : b = s.heap.size) (hb0 : b ≤ s.heap.size) (hk : 6 * k + 6 ≤ L) (hK : va_K (dC, dI) vwCl (TYS kA) s) (hE : EX eD b s) (hnext : ∀ (g : Gh) (H : Heap) (locs : List Loc) (ls : Array Slot) (C S : Nat), LI (dC, dI) kA b eD o mo q q2 g H → RI g mo C S (k + 1) → va_S (fun q => b ≤ q) s.heap H locs → lv_has ls 9 [(0, .ref b0), (1, .ref o), (2, .ref mo), (3, .ref q), (4, .ref q2), (5, .int (nI (6 * k)))] → W p l e room_1 s m #[Value.ref b0] below meth c H locs C S (lw_Z below #[Value.ref b0] s) (F0 m 1913 ls [])) {g : Gh} {H : Heap} {locs : List Loc} {ls : Array Slot} {C S : Nat} (hI : LI (dC, dI) kA b eD o mo q q2 g H) (hR : RI g mo C S k) (hS : va_S (fun q => b ≤ q) s.heap H locs) (hl : lv_has ls 9 [(0, .ref b0), (1, .ref o), (2, .ref mo), (3, .ref q), (4, .ref q2), (5, .int (nI (6 * k)))]) : W p l e room_1 s m #[Value.ref b0] below meth c H locs C S (lw_Z below #[Value.ref b0] s) (F0 m 1290 ls []) := by
  obtain ⟨hx, hb, hr, hml, hown, hts0, hX, hbl, hlocks, hgv⟩ := id C0
  have hts : ∀ w ∈ wzL_law, w.before #[Value.ref b0] s = true := fun w h => hts0 w (wzL_law_in w h)
  have hbA : ¬ (fun q : Nat => b ≤ q) b0 := by show ¬ b ≤ b0; omega
  have hT := hE.1
  have hN := hE.2.2.2.2.2.2.2.1
  obtain ⟨hM, hG, hto, htm, htq, htq2, -, hed⟩ := id hI
  have hRC : C ≤ 430000 := by have h9 := hR; unfold RI at h9; omega
  have hRS : S ≤ 3400000 := by have h9 := hR; unfold RI at h9; omega
  refine lv_aload_n hx hb dL_law_1290 rfl (lv_at hl 1 rfl) ?_
  refine lv_aload_n hx hb dL_law_1291 rfl (lv_at hl 0 rfl) ?_
  refine lv_iload hx hb dL_law_1292 (lv_at hl 5 rfl) ?_
  refine lv_iconst (v := 1) hx hb dL_law_1294 (by decide) ?_
  refine lv_iadd hx hb dL_law_1295 ?_
  refine lv_topi (fun v1 e2 => ?_)
  obtain rfl : v1 = nI ((6 * k) + 1) := e2.trans (nI_add (6 * k) 1)
  refine va_sld hx hb hX hbl hbA hS (vp_in_nI (by omega) (by omega)) dL_law_1296 ?_
  refine lv_topi (fun v3 e4 => ?_)
  refine lv_aload_n hx hb dL_law_1297 rfl (lv_at hl 0 rfl) ?_
  refine lv_iload hx hb dL_law_1298 (lv_at hl 5 rfl) ?_
  refine lv_iconst (v := 2) hx hb dL_law_1300 (by decide) ?_
  refine lv_iadd hx hb dL_law_1301 ?_
  refine lv_topi (fun v5 e6 => ?_)
  obtain rfl : v5 = nI ((6 * k) + 2) := e6.trans (nI_add (6 * k) 2)
  refine va_sld hx hb hX hbl hbA hS (vp_in_nI (by omega) (by omega)) dL_law_1302 ?_
  refine lv_topi (fun v7 e8 => ?_)
  refine lv_aload_n hx hb dL_law_1303 rfl (lv_at hl 0 rfl) ?_
  refine lv_iload hx hb dL_law_1304 (lv_at hl 5 rfl) ?_
  refine lv_iconst (v := 3) hx hb dL_law_1306 (by decide) ?_
  refine lv_iadd hx hb dL_law_1307 ?_
  refine lv_topi (fun v9 e10 => ?_)
  obtain rfl : v9 = nI ((6 * k) + 3) := e10.trans (nI_add (6 * k) 3)
  refine va_sld hx hb hX hbl hbA hS (vp_in_nI (by omega) (by omega)) dL_law_1308 ?_
  refine lv_topi (fun v11 e12 => ?_)
  refine lv_aload_n hx hb dL_law_1309 rfl (lv_at hl 3 rfl) ?_
  refine va_calli (vx_runSW (As := [.ref o, .int v3, .int v7, .int v11, .ref q]) (rest := []) ⟨hx, hb, hml, hown, hts⟩ (rh_lightBits l hlt dC dI kA eD b g o q v3 v7 v11 (by omega) (by omega)) (vx_cwSW 5 hts gL_law_L_lightBits rfl rfl rfl (by decide +kernel) ⟨Nat.le_of_ble_eq_true rfl, Nat.le_of_ble_eq_true rfl⟩) ⟨fb_CX, fun U hU hW => ⟨rfl, CX.give hb0 hM hK hG hE hS hU hW⟩⟩ rfl rfl hl.1 rfl (lv_room (Nat.le_of_ble_eq_true rfl)) dL_law_1310 ⟨(show C + 1 ≤ 960594 by omega), (show S + 6 ≤ 6134452 by omega)⟩) hS (fun q _ h => h) (fun q h => h) (fun r13 g15 t H locs ht hvm hw14 hB hz1 hk1 hS => ?_)
  have hM := hB.back ht
  have hG := hB.2.2.2.1
  have hM1 := hM
  have hG1 := hG
  have hkt : ∀ a : Nat, tg g a ≠ 0 → tg g15 a = tg g a := fun a _ => by obtain ⟨f9, h9⟩ := hw14; rw [h9]; rfl
  have ht16 : tg g15 o = 1 := (hkt o (by omega)).trans hto
  have ht17 : tg g15 mo = 17 := (hkt mo (by omega)).trans htm
  have ht18 : tg g15 q = 34 := (hkt q (by omega)).trans htq
  have ht19 : tg g15 q2 = 35 := (hkt q2 (by omega)).trans htq2
  refine lv_istore (lv' := [(6, .int r13), (0, .ref b0), (1, .ref o), (2, .ref mo), (3, .ref q), (4, .ref q2), (5, .int (nI (6 * k)))]) hx hb dL_law_1313 hl (by decide) rfl (fun ls hl => ?_)
  refine lv_aload_n hx hb dL_law_1315 rfl (lv_at hl 3 rfl) ?_
  refine lv_aload_n hx hb dL_law_1316 rfl (lv_at hl 1 rfl) ?_
  refine lv_iload hx hb dL_law_1317 (lv_at hl 6 rfl) ?_
  refine lv_iconst (v := 1) hx hb dL_law_1319 (by decide) ?_
  refine lv_iadd hx hb dL_law_1320 ?_
  refine lv_topi (fun v20 e21 => ?_)
  obtain rfl : v20 = nI ((6 * k) + 1) := e21.trans (nI_add (6 * k) 1)
  refine va_sld hx hb hX hbl hbA hS (vp_in_nI (by omega) (by omega)) dL_law_1321 ?_
  refine lv_topi (fun v22 e23 => ?_)
  obtain rfl : v3 = v22 := e4.trans e23.symm
  refine lv_aload_n hx hb dL_law_1322 rfl (lv_at hl 1 rfl) ?_
  refine lv_iload hx hb dL_law_1323 (lv_at hl 6 rfl) ?_
  refine lv_iconst (v := 2) hx hb dL_law_1325 (by decide) ?_
  refine lv_iadd hx hb dL_law_1326 ?_
  refine lv_topi (fun v24 e25 => ?_)
  obtain rfl : v24 = nI ((6 * k) + 2) := e25.trans (nI_add (6 * k) 2)
  refine va_sld hx hb hX hbl hbA hS (vp_in_nI (by omega) (by omega)) dL_law_1327 ?_
  refine lv_topi (fun v26 e27 => ?_)
  obtain rfl : v7 = v26 := e8.trans e27.symm
  refine lv_aload_n hx hb dL_law_1328 rfl (lv_at hl 1 rfl) ?_
  refine lv_iload hx hb dL_law_1329 (lv_at hl 6 rfl) ?_
  refine lv_iconst (v := 3) hx hb dL_law_1331 (by decide) ?_
  refine lv_iadd hx hb dL_law_1332 ?_
  refine lv_topi (fun v28 e29 => ?_)
  obtain rfl : v28 = nI ((6 * k) + 3) := e29.trans (nI_add (6 * k) 3)
  refine va_sld hx hb hX hbl hbA hS (vp_in_nI (by omega) (by omega)) dL_law_1333 ?_
  refine lv_topi (fun v30 e31 => ?_)
  obtain rfl : v11 = v30 := e12.trans e31.symm
  obtain ⟨u32, u33, hP, hf⟩ := o_mo (i := 0) (q := mo) hM (by omega)
  refine va_calli (va_runV (As := [.int v3, .int v7, .int v11]) (rest := []) ⟨hx, hb, hml, hown, hts⟩ (rmf_lightBits l dC dI kA eD b g15 mo v3 v7 v11 (by omega)) (cwV 3 hts gL_law_X6_lightBits rfl rfl rfl (by decide +kernel) ⟨Nat.le_of_ble_eq_true rfl, Nat.le_of_ble_eq_true rfl⟩) ⟨fb_CX, va_recv hK hP (ci := 10) (q0 := 0) rfl rfl, fun U hU hW => ⟨rfl, CX.give hb0 hM hK hG hE hS hU hW⟩⟩ rfl rfl hl.1 rfl (lv_room (Nat.le_of_ble_eq_true rfl)) dL_law_1334 ⟨(show C + 1 + 0 ≤ 960594 by omega), (show S + 6 + 0 ≤ 6134452 by omega)⟩) hS (fun q _ h => h) (fun q h => h) (fun r34 g36 t H locs ht hvm hw35 hB hz1 hk1 hS => ?_)
  have hM := hB.back ht
  have hG := hB.2.2.2.1
  have hlx := lx_N hI (Or.inl hw14) hM1 hG1 hw35 hM hG
  have ht37 : tg g36 o = 1 := hlx.1.2.2.1
  have ht38 : tg g36 mo = 17 := hlx.1.2.2.2.1
  have ht39 : tg g36 q = 34 := hlx.1.2.2.2.2.1
  have ht40 : tg g36 q2 = 35 := hlx.1.2.2.2.2.2.1
  refine lv_istore (lv' := [(7, .int r34), (6, .int r13), (0, .ref b0), (1, .ref o), (2, .ref mo), (3, .ref q), (4, .ref q2), (5, .int (nI (6 * k)))]) hx hb dL_law_1337 hl (by decide) rfl (fun ls hl => ?_)
  refine lv_goto (tgt := 1913) hx hb dL_law_1339 (by decide) ?_
  exact hnext g36 H _ ls _ _ ⟨hM, hG, hlx.1.2.2⟩ (by have h9 := hlx.2 C S k hR; unfold RI at h9 ⊢; omega) hS (lv_sub hl [2, 3, 4, 5, 6, 7] rfl)

set_option maxHeartbeats 4000000 in
set_option maxRecDepth 100000 in
/-- the law: a call of isOpen -/
theorem case_27 {p : Program} {l : Launch} {e : Env} {s : State} {m : MethodId} {below : List Frame} {meth : Method} {c : Code} (hlt : l.stackTraces = false) {b0 L : Nat} {xs : Nat → Int32} (C0 : lw_At p s m meth c b0 L xs) (hL : L ≤ 3072) (dC : Nat → ClassId) (dI : Nat → Nat → Nat) (kA : Nat → ClassId) (eD b o mo q q2 k : Nat) (hb9 : b = s.heap.size) (hb0 : b ≤ s.heap.size) (hk : 6 * k + 6 ≤ L) (hK : va_K (dC, dI) vwCl (TYS kA) s) (hE : EX eD b s) (hnext : ∀ (g : Gh) (H : Heap) (locs : List Loc) (ls : Array Slot) (C S : Nat), LI (dC, dI) kA b eD o mo q q2 g H → RI g mo C S (k + 1) → va_S (fun q => b ≤ q) s.heap H locs → lv_has ls 9 [(0, .ref b0), (1, .ref o), (2, .ref mo), (3, .ref q), (4, .ref q2), (5, .int (nI (6 * k)))] → W p l e room_1 s m #[Value.ref b0] below meth c H locs C S (lw_Z below #[Value.ref b0] s) (F0 m 1913 ls [])) {g : Gh} {H : Heap} {locs : List Loc} {ls : Array Slot} {C S : Nat} (hI : LI (dC, dI) kA b eD o mo q q2 g H) (hR : RI g mo C S k) (hS : va_S (fun q => b ≤ q) s.heap H locs) (hl : lv_has ls 9 [(0, .ref b0), (1, .ref o), (2, .ref mo), (3, .ref q), (4, .ref q2), (5, .int (nI (6 * k)))]) : W p l e room_1 s m #[Value.ref b0] below meth c H locs C S (lw_Z below #[Value.ref b0] s) (F0 m 1342 ls []) := by
  obtain ⟨hx, hb, hr, hml, hown, hts0, hX, hbl, hlocks, hgv⟩ := id C0
  have hts : ∀ w ∈ wzL_law, w.before #[Value.ref b0] s = true := fun w h => hts0 w (wzL_law_in w h)
  have hbA : ¬ (fun q : Nat => b ≤ q) b0 := by show ¬ b ≤ b0; omega
  have hT := hE.1
  have hN := hE.2.2.2.2.2.2.2.1
  obtain ⟨hM, hG, hto, htm, htq, htq2, -, hed⟩ := id hI
  have hRC : C ≤ 430000 := by have h9 := hR; unfold RI at h9; omega
  have hRS : S ≤ 3400000 := by have h9 := hR; unfold RI at h9; omega
  refine lv_aload_n hx hb dL_law_1342 rfl (lv_at hl 1 rfl) ?_
  refine lv_aload_n hx hb dL_law_1343 rfl (lv_at hl 0 rfl) ?_
  refine lv_iload hx hb dL_law_1344 (lv_at hl 5 rfl) ?_
  refine lv_iconst (v := 1) hx hb dL_law_1346 (by decide) ?_
  refine lv_iadd hx hb dL_law_1347 ?_
  refine lv_topi (fun v1 e2 => ?_)
  obtain rfl : v1 = nI ((6 * k) + 1) := e2.trans (nI_add (6 * k) 1)
  refine va_sld hx hb hX hbl hbA hS (vp_in_nI (by omega) (by omega)) dL_law_1348 ?_
  refine lv_topi (fun v3 e4 => ?_)
  refine lv_aload_n hx hb dL_law_1349 rfl (lv_at hl 3 rfl) ?_
  refine va_calli (vx_runSW (As := [.ref o, .int v3, .ref q]) (rest := []) ⟨hx, hb, hml, hown, hts⟩ (rh_isOpen l hlt dC dI kA eD b g o q v3 (by omega) (by omega)) (vx_cwSW 3 hts gL_law_L_isOpen rfl rfl rfl (by decide +kernel) ⟨Nat.le_of_ble_eq_true rfl, Nat.le_of_ble_eq_true rfl⟩) ⟨fb_CX, fun U hU hW => ⟨rfl, CX.give hb0 hM hK hG hE hS hU hW⟩⟩ rfl rfl hl.1 rfl (lv_room (Nat.le_of_ble_eq_true rfl)) dL_law_1350 ⟨(show C + 1 ≤ 960594 by omega), (show S + 6 ≤ 6134452 by omega)⟩) hS (fun q _ h => h) (fun q h => h) (fun r5 g7 t H locs ht hvm hw6 hB hz1 hk1 hS => ?_)
  have hM := hB.back ht
  have hG := hB.2.2.2.1
  have hM1 := hM
  have hG1 := hG
  have hkt : ∀ a : Nat, tg g a ≠ 0 → tg g7 a = tg g a := fun a _ => by obtain ⟨f9, h9⟩ := hw6; rw [h9]; rfl
  have ht8 : tg g7 o = 1 := (hkt o (by omega)).trans hto
  have ht9 : tg g7 mo = 17 := (hkt mo (by omega)).trans htm
  have ht10 : tg g7 q = 34 := (hkt q (by omega)).trans htq
  have ht11 : tg g7 q2 = 35 := (hkt q2 (by omega)).trans htq2
  refine lv_istore (lv' := [(6, .int r5), (0, .ref b0), (1, .ref o), (2, .ref mo), (3, .ref q), (4, .ref q2), (5, .int (nI (6 * k)))]) hx hb dL_law_1353 hl (by decide) rfl (fun ls hl => ?_)
  refine lv_aload_n hx hb dL_law_1355 rfl (lv_at hl 3 rfl) ?_
  refine lv_aload_n hx hb dL_law_1356 rfl (lv_at hl 1 rfl) ?_
  refine lv_iload hx hb dL_law_1357 (lv_at hl 6 rfl) ?_
  refine lv_iconst (v := 1) hx hb dL_law_1359 (by decide) ?_
  refine lv_iadd hx hb dL_law_1360 ?_
  refine lv_topi (fun v12 e13 => ?_)
  obtain rfl : v12 = nI ((6 * k) + 1) := e13.trans (nI_add (6 * k) 1)
  refine va_sld hx hb hX hbl hbA hS (vp_in_nI (by omega) (by omega)) dL_law_1361 ?_
  refine lv_topi (fun v14 e15 => ?_)
  obtain rfl : v3 = v14 := e4.trans e15.symm
  obtain ⟨u16, u17, hP, hf⟩ := o_mo (i := 0) (q := mo) hM (by omega)
  refine va_calli (va_runV (As := [.int v3]) (rest := []) ⟨hx, hb, hml, hown, hts⟩ (rmf_isOpen l dC dI kA eD b g7 mo v3 (by omega)) (cwV 1 hts gL_law_X6_isOpen rfl rfl rfl (by decide +kernel) ⟨Nat.le_of_ble_eq_true rfl, Nat.le_of_ble_eq_true rfl⟩) ⟨fb_CX, va_recv hK hP (ci := 10) (q0 := 0) rfl rfl, fun U hU hW => ⟨rfl, CX.give hb0 hM hK hG hE hS hU hW⟩⟩ rfl rfl hl.1 rfl (lv_room (Nat.le_of_ble_eq_true rfl)) dL_law_1362 ⟨(show C + 1 + 7 ≤ 960594 by omega), (show S + 6 + 54 ≤ 6134452 by omega)⟩) hS (fun q _ h => h) (fun q h => h) (fun r18 g20 t H locs ht hvm hw19 hB hz1 hk1 hS => ?_)
  have hM := hB.back ht
  have hG := hB.2.2.2.1
  have hlx := lx_N hI (Or.inl hw6) hM1 hG1 hw19 hM hG
  have ht21 : tg g20 o = 1 := hlx.1.2.2.1
  have ht22 : tg g20 mo = 17 := hlx.1.2.2.2.1
  have ht23 : tg g20 q = 34 := hlx.1.2.2.2.2.1
  have ht24 : tg g20 q2 = 35 := hlx.1.2.2.2.2.2.1
  refine lv_istore (lv' := [(7, .int r18), (6, .int r5), (0, .ref b0), (1, .ref o), (2, .ref mo), (3, .ref q), (4, .ref q2), (5, .int (nI (6 * k)))]) hx hb dL_law_1365 hl (by decide) rfl (fun ls hl => ?_)
  refine lv_goto (tgt := 1913) hx hb dL_law_1367 (by decide) ?_
  exact hnext g20 H _ ls _ _ ⟨hM, hG, hlx.1.2.2⟩ (by have h9 := hlx.2 C S k hR; unfold RI at h9 ⊢; omega) hS (lv_sub hl [2, 3, 4, 5, 6, 7] rfl)

set_option maxHeartbeats 4000000 in
set_option maxRecDepth 100000 in
/-- the law: a call of carries -/
theorem case_28 {p : Program} {l : Launch} {e : Env} {s : State} {m : MethodId} {below : List Frame} {meth : Method} {c : Code} (hlt : l.stackTraces = false) {b0 L : Nat} {xs : Nat → Int32} (C0 : lw_At p s m meth c b0 L xs) (hL : L ≤ 3072) (dC : Nat → ClassId) (dI : Nat → Nat → Nat) (kA : Nat → ClassId) (eD b o mo q q2 k : Nat) (hb9 : b = s.heap.size) (hb0 : b ≤ s.heap.size) (hk : 6 * k + 6 ≤ L) (hK : va_K (dC, dI) vwCl (TYS kA) s) (hE : EX eD b s) (hnext : ∀ (g : Gh) (H : Heap) (locs : List Loc) (ls : Array Slot) (C S : Nat), LI (dC, dI) kA b eD o mo q q2 g H → RI g mo C S (k + 1) → va_S (fun q => b ≤ q) s.heap H locs → lv_has ls 9 [(0, .ref b0), (1, .ref o), (2, .ref mo), (3, .ref q), (4, .ref q2), (5, .int (nI (6 * k)))] → W p l e room_1 s m #[Value.ref b0] below meth c H locs C S (lw_Z below #[Value.ref b0] s) (F0 m 1913 ls [])) {g : Gh} {H : Heap} {locs : List Loc} {ls : Array Slot} {C S : Nat} (hI : LI (dC, dI) kA b eD o mo q q2 g H) (hR : RI g mo C S k) (hS : va_S (fun q => b ≤ q) s.heap H locs) (hl : lv_has ls 9 [(0, .ref b0), (1, .ref o), (2, .ref mo), (3, .ref q), (4, .ref q2), (5, .int (nI (6 * k)))]) : W p l e room_1 s m #[Value.ref b0] below meth c H locs C S (lw_Z below #[Value.ref b0] s) (F0 m 1370 ls []) := by
  obtain ⟨hx, hb, hr, hml, hown, hts0, hX, hbl, hlocks, hgv⟩ := id C0
  have hts : ∀ w ∈ wzL_law, w.before #[Value.ref b0] s = true := fun w h => hts0 w (wzL_law_in w h)
  have hbA : ¬ (fun q : Nat => b ≤ q) b0 := by show ¬ b ≤ b0; omega
  have hT := hE.1
  have hN := hE.2.2.2.2.2.2.2.1
  obtain ⟨hM, hG, hto, htm, htq, htq2, -, hed⟩ := id hI
  have hRC : C ≤ 430000 := by have h9 := hR; unfold RI at h9; omega
  have hRS : S ≤ 3400000 := by have h9 := hR; unfold RI at h9; omega
  refine lv_aload_n hx hb dL_law_1370 rfl (lv_at hl 1 rfl) ?_
  refine lv_aload_n hx hb dL_law_1371 rfl (lv_at hl 0 rfl) ?_
  refine lv_iload hx hb dL_law_1372 (lv_at hl 5 rfl) ?_
  refine lv_iconst (v := 1) hx hb dL_law_1374 (by decide) ?_
  refine lv_iadd hx hb dL_law_1375 ?_
  refine lv_topi (fun v1 e2 => ?_)
  obtain rfl : v1 = nI ((6 * k) + 1) := e2.trans (nI_add (6 * k) 1)
  refine va_sld hx hb hX hbl hbA hS (vp_in_nI (by omega) (by omega)) dL_law_1376 ?_
  refine lv_topi (fun v3 e4 => ?_)
  refine lv_aload_n hx hb dL_law_1377 rfl (lv_at hl 0 rfl) ?_
  refine lv_iload hx hb dL_law_1378 (lv_at hl 5 rfl) ?_
  refine lv_iconst (v := 2) hx hb dL_law_1380 (by decide) ?_
  refine lv_iadd hx hb dL_law_1381 ?_
  refine lv_topi (fun v5 e6 => ?_)
  obtain rfl : v5 = nI ((6 * k) + 2) := e6.trans (nI_add (6 * k) 2)
  refine va_sld hx hb hX hbl hbA hS (vp_in_nI (by omega) (by omega)) dL_law_1382 ?_
  refine lv_topi (fun v7 e8 => ?_)
  refine lv_aload_n hx hb dL_law_1383 rfl (lv_at hl 3 rfl) ?_
  refine va_calli (vx_runSW (As := [.ref o, .int v3, .int v7, .ref q]) (rest := []) ⟨hx, hb, hml, hown, hts⟩ (rh_carries l hlt dC dI kA eD b g o q v3 v7 (by omega) (by omega)) (vx_cwSW 4 hts gL_law_L_carries rfl rfl rfl (by decide +kernel) ⟨Nat.le_of_ble_eq_true rfl, Nat.le_of_ble_eq_true rfl⟩) ⟨fb_CX, fun U hU hW => ⟨rfl, CX.give hb0 hM hK hG hE hS hU hW⟩⟩ rfl rfl hl.1 rfl (lv_room (Nat.le_of_ble_eq_true rfl)) dL_law_1384 ⟨(show C + 1 ≤ 960594 by omega), (show S + 6 ≤ 6134452 by omega)⟩) hS (fun q _ h => h) (fun q h => h) (fun r9 g11 t H locs ht hvm hw10 hB hz1 hk1 hS => ?_)
  have hM := hB.back ht
  have hG := hB.2.2.2.1
  have hM1 := hM
  have hG1 := hG
  have hkt : ∀ a : Nat, tg g a ≠ 0 → tg g11 a = tg g a := fun a _ => by obtain ⟨f9, h9⟩ := hw10; rw [h9]; rfl
  have ht12 : tg g11 o = 1 := (hkt o (by omega)).trans hto
  have ht13 : tg g11 mo = 17 := (hkt mo (by omega)).trans htm
  have ht14 : tg g11 q = 34 := (hkt q (by omega)).trans htq
  have ht15 : tg g11 q2 = 35 := (hkt q2 (by omega)).trans htq2
  refine lv_istore (lv' := [(6, .int r9), (0, .ref b0), (1, .ref o), (2, .ref mo), (3, .ref q), (4, .ref q2), (5, .int (nI (6 * k)))]) hx hb dL_law_1387 hl (by decide) rfl (fun ls hl => ?_)
  refine lv_aload_n hx hb dL_law_1389 rfl (lv_at hl 3 rfl) ?_
  refine lv_aload_n hx hb dL_law_1390 rfl (lv_at hl 1 rfl) ?_
  refine lv_iload hx hb dL_law_1391 (lv_at hl 6 rfl) ?_
  refine lv_iconst (v := 1) hx hb dL_law_1393 (by decide) ?_
  refine lv_iadd hx hb dL_law_1394 ?_
  refine lv_topi (fun v16 e17 => ?_)
  obtain rfl : v16 = nI ((6 * k) + 1) := e17.trans (nI_add (6 * k) 1)
  refine va_sld hx hb hX hbl hbA hS (vp_in_nI (by omega) (by omega)) dL_law_1395 ?_
  refine lv_topi (fun v18 e19 => ?_)
  obtain rfl : v3 = v18 := e4.trans e19.symm
  refine lv_aload_n hx hb dL_law_1396 rfl (lv_at hl 1 rfl) ?_
  refine lv_iload hx hb dL_law_1397 (lv_at hl 6 rfl) ?_
  refine lv_iconst (v := 2) hx hb dL_law_1399 (by decide) ?_
  refine lv_iadd hx hb dL_law_1400 ?_
  refine lv_topi (fun v20 e21 => ?_)
  obtain rfl : v20 = nI ((6 * k) + 2) := e21.trans (nI_add (6 * k) 2)
  refine va_sld hx hb hX hbl hbA hS (vp_in_nI (by omega) (by omega)) dL_law_1401 ?_
  refine lv_topi (fun v22 e23 => ?_)
  obtain rfl : v7 = v22 := e8.trans e23.symm
  obtain ⟨u24, u25, hP, hf⟩ := o_mo (i := 0) (q := mo) hM (by omega)
  refine va_calli (va_runV (As := [.int v3, .int v7]) (rest := []) ⟨hx, hb, hml, hown, hts⟩ (rmf_carries l dC dI kA eD b g11 mo v3 v7 (by omega)) (cwV 2 hts gL_law_X6_carries rfl rfl rfl (by decide +kernel) ⟨Nat.le_of_ble_eq_true rfl, Nat.le_of_ble_eq_true rfl⟩) ⟨fb_CX, va_recv hK hP (ci := 10) (q0 := 0) rfl rfl, fun U hU hW => ⟨rfl, CX.give hb0 hM hK hG hE hS hU hW⟩⟩ rfl rfl hl.1 rfl (lv_room (Nat.le_of_ble_eq_true rfl)) dL_law_1402 ⟨(show C + 1 + 710 ≤ 960594 by omega), (show S + 6 + 5460 ≤ 6134452 by omega)⟩) hS (fun q _ h => h) (fun q h => h) (fun r26 g28 t H locs ht hvm hw27 hB hz1 hk1 hS => ?_)
  have hM := hB.back ht
  have hG := hB.2.2.2.1
  have hlx := lx_N hI (Or.inl hw10) hM1 hG1 hw27 hM hG
  have ht29 : tg g28 o = 1 := hlx.1.2.2.1
  have ht30 : tg g28 mo = 17 := hlx.1.2.2.2.1
  have ht31 : tg g28 q = 34 := hlx.1.2.2.2.2.1
  have ht32 : tg g28 q2 = 35 := hlx.1.2.2.2.2.2.1
  refine lv_istore (lv' := [(7, .int r26), (6, .int r9), (0, .ref b0), (1, .ref o), (2, .ref mo), (3, .ref q), (4, .ref q2), (5, .int (nI (6 * k)))]) hx hb dL_law_1405 hl (by decide) rfl (fun ls hl => ?_)
  refine lv_goto (tgt := 1913) hx hb dL_law_1407 (by decide) ?_
  exact hnext g28 H _ ls _ _ ⟨hM, hG, hlx.1.2.2⟩ (by have h9 := hlx.2 C S k hR; unfold RI at h9 ⊢; omega) hS (lv_sub hl [2, 3, 4, 5, 6, 7] rfl)

set_option maxHeartbeats 4000000 in
set_option maxRecDepth 100000 in
/-- the law: a call of visit -/
theorem case_29 {p : Program} {l : Launch} {e : Env} {s : State} {m : MethodId} {below : List Frame} {meth : Method} {c : Code} (hlt : l.stackTraces = false) {b0 L : Nat} {xs : Nat → Int32} (C0 : lw_At p s m meth c b0 L xs) (hL : L ≤ 3072) (dC : Nat → ClassId) (dI : Nat → Nat → Nat) (kA : Nat → ClassId) (eD b o mo q q2 k : Nat) (hb9 : b = s.heap.size) (hb0 : b ≤ s.heap.size) (hk : 6 * k + 6 ≤ L) (hK : va_K (dC, dI) vwCl (TYS kA) s) (hE : EX eD b s) (hnext : ∀ (g : Gh) (H : Heap) (locs : List Loc) (ls : Array Slot) (C S : Nat), LI (dC, dI) kA b eD o mo q q2 g H → RI g mo C S (k + 1) → va_S (fun q => b ≤ q) s.heap H locs → lv_has ls 9 [(0, .ref b0), (1, .ref o), (2, .ref mo), (3, .ref q), (4, .ref q2), (5, .int (nI (6 * k)))] → W p l e room_1 s m #[Value.ref b0] below meth c H locs C S (lw_Z below #[Value.ref b0] s) (F0 m 1913 ls [])) {g : Gh} {H : Heap} {locs : List Loc} {ls : Array Slot} {C S : Nat} (hI : LI (dC, dI) kA b eD o mo q q2 g H) (hR : RI g mo C S k) (hS : va_S (fun q => b ≤ q) s.heap H locs) (hl : lv_has ls 9 [(0, .ref b0), (1, .ref o), (2, .ref mo), (3, .ref q), (4, .ref q2), (5, .int (nI (6 * k)))]) : W p l e room_1 s m #[Value.ref b0] below meth c H locs C S (lw_Z below #[Value.ref b0] s) (F0 m 1410 ls []) := by
  obtain ⟨hx, hb, hr, hml, hown, hts0, hX, hbl, hlocks, hgv⟩ := id C0
  have hts : ∀ w ∈ wzL_law, w.before #[Value.ref b0] s = true := fun w h => hts0 w (wzL_law_in w h)
  have hbA : ¬ (fun q : Nat => b ≤ q) b0 := by show ¬ b ≤ b0; omega
  have hT := hE.1
  have hN := hE.2.2.2.2.2.2.2.1
  obtain ⟨hM, hG, hto, htm, htq, htq2, -, hed⟩ := id hI
  have hRC : C ≤ 430000 := by have h9 := hR; unfold RI at h9; omega
  have hRS : S ≤ 3400000 := by have h9 := hR; unfold RI at h9; omega
  refine lv_aload_n hx hb dL_law_1410 rfl (lv_at hl 1 rfl) ?_
  refine lv_aload_n hx hb dL_law_1411 rfl (lv_at hl 0 rfl) ?_
  refine lv_iload hx hb dL_law_1412 (lv_at hl 5 rfl) ?_
  refine lv_iconst (v := 1) hx hb dL_law_1414 (by decide) ?_
  refine lv_iadd hx hb dL_law_1415 ?_
  refine lv_topi (fun v1 e2 => ?_)
  obtain rfl : v1 = nI ((6 * k) + 1) := e2.trans (nI_add (6 * k) 1)
  refine va_sld hx hb hX hbl hbA hS (vp_in_nI (by omega) (by omega)) dL_law_1416 ?_
  refine lv_topi (fun v3 e4 => ?_)
  refine lv_aload_n hx hb dL_law_1417 rfl (lv_at hl 0 rfl) ?_
  refine lv_iload hx hb dL_law_1418 (lv_at hl 5 rfl) ?_
  refine lv_iconst (v := 2) hx hb dL_law_1420 (by decide) ?_
  refine lv_iadd hx hb dL_law_1421 ?_
  refine lv_topi (fun v5 e6 => ?_)
  obtain rfl : v5 = nI ((6 * k) + 2) := e6.trans (nI_add (6 * k) 2)
  refine va_sld hx hb hX hbl hbA hS (vp_in_nI (by omega) (by omega)) dL_law_1422 ?_
  refine lv_topi (fun v7 e8 => ?_)
  refine lv_aload_n hx hb dL_law_1423 rfl (lv_at hl 3 rfl) ?_
  refine va_calli (vx_runSW (As := [.ref o, .int v3, .int v7, .ref q]) (rest := []) ⟨hx, hb, hml, hown, hts⟩ (rh_visit l hlt dC dI kA eD b g o q v3 v7 (by omega) (by omega)) (vx_cwSW 4 hts gL_law_L_visit rfl rfl rfl (by decide +kernel) ⟨Nat.le_of_ble_eq_true rfl, Nat.le_of_ble_eq_true rfl⟩) ⟨fb_CX, fun U hU hW => ⟨rfl, CX.give hb0 hM hK hG hE hS hU hW⟩⟩ rfl rfl hl.1 rfl (lv_room (Nat.le_of_ble_eq_true rfl)) dL_law_1424 ⟨(show C + 1 ≤ 960594 by omega), (show S + 6 ≤ 6134452 by omega)⟩) hS (fun q _ h => h) (fun q h => h) (fun r9 g11 t H locs ht hvm hw10 hB hz1 hk1 hS => ?_)
  have hM := hB.back ht
  have hG := hB.2.2.2.1
  have hM1 := hM
  have hG1 := hG
  have hkt : ∀ a : Nat, tg g a ≠ 0 → tg g11 a = tg g a := fun a _ => by obtain ⟨f9, h9⟩ := hw10; rw [h9]; rfl
  have ht12 : tg g11 o = 1 := (hkt o (by omega)).trans hto
  have ht13 : tg g11 mo = 17 := (hkt mo (by omega)).trans htm
  have ht14 : tg g11 q = 34 := (hkt q (by omega)).trans htq
  have ht15 : tg g11 q2 = 35 := (hkt q2 (by omega)).trans htq2
  refine lv_istore (lv' := [(6, .int r9), (0, .ref b0), (1, .ref o), (2, .ref mo), (3, .ref q), (4, .ref q2), (5, .int (nI (6 * k)))]) hx hb dL_law_1427 hl (by decide) rfl (fun ls hl => ?_)
  refine lv_aload_n hx hb dL_law_1429 rfl (lv_at hl 3 rfl) ?_
  refine lv_aload_n hx hb dL_law_1430 rfl (lv_at hl 1 rfl) ?_
  refine lv_iload hx hb dL_law_1431 (lv_at hl 6 rfl) ?_
  refine lv_iconst (v := 1) hx hb dL_law_1433 (by decide) ?_
  refine lv_iadd hx hb dL_law_1434 ?_
  refine lv_topi (fun v16 e17 => ?_)
  obtain rfl : v16 = nI ((6 * k) + 1) := e17.trans (nI_add (6 * k) 1)
  refine va_sld hx hb hX hbl hbA hS (vp_in_nI (by omega) (by omega)) dL_law_1435 ?_
  refine lv_topi (fun v18 e19 => ?_)
  obtain rfl : v3 = v18 := e4.trans e19.symm
  refine lv_aload_n hx hb dL_law_1436 rfl (lv_at hl 1 rfl) ?_
  refine lv_iload hx hb dL_law_1437 (lv_at hl 6 rfl) ?_
  refine lv_iconst (v := 2) hx hb dL_law_1439 (by decide) ?_
  refine lv_iadd hx hb dL_law_1440 ?_
  refine lv_topi (fun v20 e21 => ?_)
  obtain rfl : v20 = nI ((6 * k) + 2) := e21.trans (nI_add (6 * k) 2)
  refine va_sld hx hb hX hbl hbA hS (vp_in_nI (by omega) (by omega)) dL_law_1441 ?_
  refine lv_topi (fun v22 e23 => ?_)
  obtain rfl : v7 = v22 := e8.trans e23.symm
  obtain ⟨u24, u25, hP, hf⟩ := o_mo (i := 0) (q := mo) hM (by omega)
  refine va_calli (va_runV (As := [.int v3, .int v7]) (rest := []) ⟨hx, hb, hml, hown, hts⟩ (rmf_visit l dC dI kA eD b g11 mo v3 v7 (by omega)) (cwV 2 hts gL_law_X6_visit rfl rfl rfl (by decide +kernel) ⟨Nat.le_of_ble_eq_true rfl, Nat.le_of_ble_eq_true rfl⟩) ⟨fb_CX, va_recv hK hP (ci := 10) (q0 := 0) rfl rfl, fun U hU hW => ⟨rfl, CX.give hb0 hM hK hG hE hS hU hW⟩⟩ rfl rfl hl.1 rfl (lv_room (Nat.le_of_ble_eq_true rfl)) dL_law_1442 ⟨(show C + 1 + 7 ≤ 960594 by omega), (show S + 6 + 54 ≤ 6134452 by omega)⟩) hS (fun q _ h => h) (fun q h => h) (fun r26 g28 t H locs ht hvm hw27 hB hz1 hk1 hS => ?_)
  have hM := hB.back ht
  have hG := hB.2.2.2.1
  have hlx := lx_N hI (Or.inl hw10) hM1 hG1 hw27 hM hG
  have ht29 : tg g28 o = 1 := hlx.1.2.2.1
  have ht30 : tg g28 mo = 17 := hlx.1.2.2.2.1
  have ht31 : tg g28 q = 34 := hlx.1.2.2.2.2.1
  have ht32 : tg g28 q2 = 35 := hlx.1.2.2.2.2.2.1
  refine lv_istore (lv' := [(7, .int r26), (6, .int r9), (0, .ref b0), (1, .ref o), (2, .ref mo), (3, .ref q), (4, .ref q2), (5, .int (nI (6 * k)))]) hx hb dL_law_1445 hl (by decide) rfl (fun ls hl => ?_)
  refine lv_goto (tgt := 1913) hx hb dL_law_1447 (by decide) ?_
  exact hnext g28 H _ ls _ _ ⟨hM, hG, hlx.1.2.2⟩ (by have h9 := hlx.2 C S k hR; unfold RI at h9 ⊢; omega) hS (lv_sub hl [2, 3, 4, 5, 6, 7] rfl)

set_option maxHeartbeats 4000000 in
set_option maxRecDepth 100000 in
/-- the law: a call of squareBits -/
theorem case_30 {p : Program} {l : Launch} {e : Env} {s : State} {m : MethodId} {below : List Frame} {meth : Method} {c : Code} (hlt : l.stackTraces = false) {b0 L : Nat} {xs : Nat → Int32} (C0 : lw_At p s m meth c b0 L xs) (hL : L ≤ 3072) (dC : Nat → ClassId) (dI : Nat → Nat → Nat) (kA : Nat → ClassId) (eD b o mo q q2 k : Nat) (hb9 : b = s.heap.size) (hb0 : b ≤ s.heap.size) (hk : 6 * k + 6 ≤ L) (hK : va_K (dC, dI) vwCl (TYS kA) s) (hE : EX eD b s) (hnext : ∀ (g : Gh) (H : Heap) (locs : List Loc) (ls : Array Slot) (C S : Nat), LI (dC, dI) kA b eD o mo q q2 g H → RI g mo C S (k + 1) → va_S (fun q => b ≤ q) s.heap H locs → lv_has ls 9 [(0, .ref b0), (1, .ref o), (2, .ref mo), (3, .ref q), (4, .ref q2), (5, .int (nI (6 * k)))] → W p l e room_1 s m #[Value.ref b0] below meth c H locs C S (lw_Z below #[Value.ref b0] s) (F0 m 1913 ls [])) {g : Gh} {H : Heap} {locs : List Loc} {ls : Array Slot} {C S : Nat} (hI : LI (dC, dI) kA b eD o mo q q2 g H) (hR : RI g mo C S k) (hS : va_S (fun q => b ≤ q) s.heap H locs) (hl : lv_has ls 9 [(0, .ref b0), (1, .ref o), (2, .ref mo), (3, .ref q), (4, .ref q2), (5, .int (nI (6 * k)))]) : W p l e room_1 s m #[Value.ref b0] below meth c H locs C S (lw_Z below #[Value.ref b0] s) (F0 m 1450 ls []) := by
  obtain ⟨hx, hb, hr, hml, hown, hts0, hX, hbl, hlocks, hgv⟩ := id C0
  have hts : ∀ w ∈ wzL_law, w.before #[Value.ref b0] s = true := fun w h => hts0 w (wzL_law_in w h)
  have hbA : ¬ (fun q : Nat => b ≤ q) b0 := by show ¬ b ≤ b0; omega
  have hT := hE.1
  have hN := hE.2.2.2.2.2.2.2.1
  obtain ⟨hM, hG, hto, htm, htq, htq2, -, hed⟩ := id hI
  have hRC : C ≤ 430000 := by have h9 := hR; unfold RI at h9; omega
  have hRS : S ≤ 3400000 := by have h9 := hR; unfold RI at h9; omega
  refine lv_aload_n hx hb dL_law_1450 rfl (lv_at hl 1 rfl) ?_
  refine lv_aload_n hx hb dL_law_1451 rfl (lv_at hl 0 rfl) ?_
  refine lv_iload hx hb dL_law_1452 (lv_at hl 5 rfl) ?_
  refine lv_iconst (v := 1) hx hb dL_law_1454 (by decide) ?_
  refine lv_iadd hx hb dL_law_1455 ?_
  refine lv_topi (fun v1 e2 => ?_)
  obtain rfl : v1 = nI ((6 * k) + 1) := e2.trans (nI_add (6 * k) 1)
  refine va_sld hx hb hX hbl hbA hS (vp_in_nI (by omega) (by omega)) dL_law_1456 ?_
  refine lv_topi (fun v3 e4 => ?_)
  refine lv_aload_n hx hb dL_law_1457 rfl (lv_at hl 0 rfl) ?_
  refine lv_iload hx hb dL_law_1458 (lv_at hl 5 rfl) ?_
  refine lv_iconst (v := 2) hx hb dL_law_1460 (by decide) ?_
  refine lv_iadd hx hb dL_law_1461 ?_
  refine lv_topi (fun v5 e6 => ?_)
  obtain rfl : v5 = nI ((6 * k) + 2) := e6.trans (nI_add (6 * k) 2)
  refine va_sld hx hb hX hbl hbA hS (vp_in_nI (by omega) (by omega)) dL_law_1462 ?_
  refine lv_topi (fun v7 e8 => ?_)
  refine lv_aload_n hx hb dL_law_1463 rfl (lv_at hl 0 rfl) ?_
  refine lv_iload hx hb dL_law_1464 (lv_at hl 5 rfl) ?_
  refine lv_iconst (v := 3) hx hb dL_law_1466 (by decide) ?_
  refine lv_iadd hx hb dL_law_1467 ?_
  refine lv_topi (fun v9 e10 => ?_)
  obtain rfl : v9 = nI ((6 * k) + 3) := e10.trans (nI_add (6 * k) 3)
  refine va_sld hx hb hX hbl hbA hS (vp_in_nI (by omega) (by omega)) dL_law_1468 ?_
  refine lv_topi (fun v11 e12 => ?_)
  refine lv_if_eq (tgt := 1476) hx hb dL_law_1469 (by decide) (fun c13 => ?_) (fun c13 => ?_)
  · skip
    refine lv_iconst (v := 0) hx hb dL_law_1476 (by decide) ?_
    refine lv_aload_n hx hb dL_law_1477 rfl (lv_at hl 3 rfl) ?_
    refine va_calli (vx_runSW (As := [.ref o, .int v3, .int v7, .int 0, .ref q]) (rest := []) ⟨hx, hb, hml, hown, hts⟩ (rh_squareBits l hlt dC dI kA eD b g o q v3 v7 0 (by omega) (by omega)) (vx_cwSW 5 hts gL_law_L_squareBits rfl rfl rfl (by decide +kernel) ⟨Nat.le_of_ble_eq_true rfl, Nat.le_of_ble_eq_true rfl⟩) ⟨fb_CX, fun U hU hW => ⟨rfl, CX.give hb0 hM hK hG hE hS hU hW⟩⟩ rfl rfl hl.1 rfl (lv_room (Nat.le_of_ble_eq_true rfl)) dL_law_1478 ⟨(show C + 1 ≤ 960594 by omega), (show S + 6 ≤ 6134452 by omega)⟩) hS (fun q _ h => h) (fun q h => h) (fun r14 g16 t H locs ht hvm hw15 hB hz1 hk1 hS => ?_)
    have hM := hB.back ht
    have hG := hB.2.2.2.1
    have hM1 := hM
    have hG1 := hG
    have hkt := kt_squareBits hw15
    have ht17 : tg g16 o = 1 := (hkt o (by omega)).trans hto
    have ht18 : tg g16 mo = 17 := (hkt mo (by omega)).trans htm
    have ht19 : tg g16 q = 34 := (hkt q (by omega)).trans htq
    have ht20 : tg g16 q2 = 35 := (hkt q2 (by omega)).trans htq2
    refine lv_istore (lv' := [(6, .int r14), (0, .ref b0), (1, .ref o), (2, .ref mo), (3, .ref q), (4, .ref q2), (5, .int (nI (6 * k)))]) hx hb dL_law_1481 hl (by decide) rfl (fun ls hl => ?_)
    refine lv_aload_n hx hb dL_law_1483 rfl (lv_at hl 3 rfl) ?_
    refine lv_aload_n hx hb dL_law_1484 rfl (lv_at hl 1 rfl) ?_
    refine lv_iload hx hb dL_law_1485 (lv_at hl 6 rfl) ?_
    refine lv_iconst (v := 1) hx hb dL_law_1487 (by decide) ?_
    refine lv_iadd hx hb dL_law_1488 ?_
    refine lv_topi (fun v21 e22 => ?_)
    obtain rfl : v21 = nI ((6 * k) + 1) := e22.trans (nI_add (6 * k) 1)
    refine va_sld hx hb hX hbl hbA hS (vp_in_nI (by omega) (by omega)) dL_law_1489 ?_
    refine lv_topi (fun v23 e24 => ?_)
    obtain rfl : v3 = v23 := e4.trans e24.symm
    refine lv_aload_n hx hb dL_law_1490 rfl (lv_at hl 1 rfl) ?_
    refine lv_iload hx hb dL_law_1491 (lv_at hl 6 rfl) ?_
    refine lv_iconst (v := 2) hx hb dL_law_1493 (by decide) ?_
    refine lv_iadd hx hb dL_law_1494 ?_
    refine lv_topi (fun v25 e26 => ?_)
    obtain rfl : v25 = nI ((6 * k) + 2) := e26.trans (nI_add (6 * k) 2)
    refine va_sld hx hb hX hbl hbA hS (vp_in_nI (by omega) (by omega)) dL_law_1495 ?_
    refine lv_topi (fun v27 e28 => ?_)
    obtain rfl : v7 = v27 := e8.trans e28.symm
    refine lv_aload_n hx hb dL_law_1496 rfl (lv_at hl 1 rfl) ?_
    refine lv_iload hx hb dL_law_1497 (lv_at hl 6 rfl) ?_
    refine lv_iconst (v := 3) hx hb dL_law_1499 (by decide) ?_
    refine lv_iadd hx hb dL_law_1500 ?_
    refine lv_topi (fun v29 e30 => ?_)
    obtain rfl : v29 = nI ((6 * k) + 3) := e30.trans (nI_add (6 * k) 3)
    refine va_sld hx hb hX hbl hbA hS (vp_in_nI (by omega) (by omega)) dL_law_1501 ?_
    refine lv_topi (fun v31 e32 => ?_)
    obtain rfl : v11 = v31 := e12.trans e32.symm
    refine lv_if_eq (tgt := 1509) hx hb dL_law_1502 (by decide) (fun _ => ?_) (fun cx => absurd c13 cx)
    refine lv_iconst (v := 0) hx hb dL_law_1509 (by decide) ?_
    obtain ⟨u33, u34, hP, hf⟩ := o_mo (i := 0) (q := mo) hM (by omega)
    refine va_calll (va_runV (As := [.int v3, .int v7, .int 0]) (rest := []) ⟨hx, hb, hml, hown, hts⟩ (rmf_squareBits l dC dI kA eD b g16 mo v3 v7 0 (by omega)) (cwV 3 hts gL_law_X6_squareBits rfl rfl rfl (by decide +kernel) ⟨Nat.le_of_ble_eq_true rfl, Nat.le_of_ble_eq_true rfl⟩) ⟨fb_CX, va_recv hK hP (ci := 10) (q0 := 0) rfl rfl, fun U hU hW => ⟨rfl, CX.give hb0 hM hK hG hE hS hU hW⟩⟩ rfl rfl hl.1 rfl (lv_room (Nat.le_of_ble_eq_true rfl)) dL_law_1510 ⟨(show C + 1 + 0 ≤ 960594 by omega), (show S + 6 + 0 ≤ 6134452 by omega)⟩) hS (fun q _ h => h) (fun q h => h) (fun r35 g37 t H locs ht hvm hw36 hB hz1 hk1 hS => ?_)
    have hM := hB.back ht
    have hG := hB.2.2.2.1
    have hlx := lx_squareBits hI hw15 hM1 hG1 hw36 hM hG
    have ht38 : tg g37 o = 1 := hlx.1.2.2.1
    have ht39 : tg g37 mo = 17 := hlx.1.2.2.2.1
    have ht40 : tg g37 q = 34 := hlx.1.2.2.2.2.1
    have ht41 : tg g37 q2 = 35 := hlx.1.2.2.2.2.2.1
    refine lv_lstore (lv' := [(7, .long r35), (6, .int r14), (0, .ref b0), (1, .ref o), (2, .ref mo), (3, .ref q), (4, .ref q2), (5, .int (nI (6 * k)))]) hx hb dL_law_1513 hl (by decide) rfl (fun ls hl => ?_)
    refine lv_goto (tgt := 1913) hx hb dL_law_1515 (by decide) ?_
    exact hnext g37 H _ ls _ _ ⟨hM, hG, hlx.1.2.2⟩ (by have h9 := hlx.2.1 C S k hR; unfold RI at h9 ⊢; omega) hS (lv_sub hl [2, 3, 4, 5, 6, 7] rfl)
  · skip
    refine lv_iconst (v := 1) hx hb dL_law_1472 (by decide) ?_
    refine lv_goto (tgt := 1477) hx hb dL_law_1473 (by decide) ?_
    refine lv_aload_n hx hb dL_law_1477 rfl (lv_at hl 3 rfl) ?_
    refine va_calli (vx_runSW (As := [.ref o, .int v3, .int v7, .int 1, .ref q]) (rest := []) ⟨hx, hb, hml, hown, hts⟩ (rh_squareBits l hlt dC dI kA eD b g o q v3 v7 1 (by omega) (by omega)) (vx_cwSW 5 hts gL_law_L_squareBits rfl rfl rfl (by decide +kernel) ⟨Nat.le_of_ble_eq_true rfl, Nat.le_of_ble_eq_true rfl⟩) ⟨fb_CX, fun U hU hW => ⟨rfl, CX.give hb0 hM hK hG hE hS hU hW⟩⟩ rfl rfl hl.1 rfl (lv_room (Nat.le_of_ble_eq_true rfl)) dL_law_1478 ⟨(show C + 1 ≤ 960594 by omega), (show S + 6 ≤ 6134452 by omega)⟩) hS (fun q _ h => h) (fun q h => h) (fun r42 g44 t H locs ht hvm hw43 hB hz1 hk1 hS => ?_)
    have hM := hB.back ht
    have hG := hB.2.2.2.1
    have hM1 := hM
    have hG1 := hG
    have hkt := kt_squareBits hw43
    have ht45 : tg g44 o = 1 := (hkt o (by omega)).trans hto
    have ht46 : tg g44 mo = 17 := (hkt mo (by omega)).trans htm
    have ht47 : tg g44 q = 34 := (hkt q (by omega)).trans htq
    have ht48 : tg g44 q2 = 35 := (hkt q2 (by omega)).trans htq2
    refine lv_istore (lv' := [(6, .int r42), (0, .ref b0), (1, .ref o), (2, .ref mo), (3, .ref q), (4, .ref q2), (5, .int (nI (6 * k)))]) hx hb dL_law_1481 hl (by decide) rfl (fun ls hl => ?_)
    refine lv_aload_n hx hb dL_law_1483 rfl (lv_at hl 3 rfl) ?_
    refine lv_aload_n hx hb dL_law_1484 rfl (lv_at hl 1 rfl) ?_
    refine lv_iload hx hb dL_law_1485 (lv_at hl 6 rfl) ?_
    refine lv_iconst (v := 1) hx hb dL_law_1487 (by decide) ?_
    refine lv_iadd hx hb dL_law_1488 ?_
    refine lv_topi (fun v49 e50 => ?_)
    obtain rfl : v49 = nI ((6 * k) + 1) := e50.trans (nI_add (6 * k) 1)
    refine va_sld hx hb hX hbl hbA hS (vp_in_nI (by omega) (by omega)) dL_law_1489 ?_
    refine lv_topi (fun v51 e52 => ?_)
    obtain rfl : v3 = v51 := e4.trans e52.symm
    refine lv_aload_n hx hb dL_law_1490 rfl (lv_at hl 1 rfl) ?_
    refine lv_iload hx hb dL_law_1491 (lv_at hl 6 rfl) ?_
    refine lv_iconst (v := 2) hx hb dL_law_1493 (by decide) ?_
    refine lv_iadd hx hb dL_law_1494 ?_
    refine lv_topi (fun v53 e54 => ?_)
    obtain rfl : v53 = nI ((6 * k) + 2) := e54.trans (nI_add (6 * k) 2)
    refine va_sld hx hb hX hbl hbA hS (vp_in_nI (by omega) (by omega)) dL_law_1495 ?_
    refine lv_topi (fun v55 e56 => ?_)
    obtain rfl : v7 = v55 := e8.trans e56.symm
    refine lv_aload_n hx hb dL_law_1496 rfl (lv_at hl 1 rfl) ?_
    refine lv_iload hx hb dL_law_1497 (lv_at hl 6 rfl) ?_
    refine lv_iconst (v := 3) hx hb dL_law_1499 (by decide) ?_
    refine lv_iadd hx hb dL_law_1500 ?_
    refine lv_topi (fun v57 e58 => ?_)
    obtain rfl : v57 = nI ((6 * k) + 3) := e58.trans (nI_add (6 * k) 3)
    refine va_sld hx hb hX hbl hbA hS (vp_in_nI (by omega) (by omega)) dL_law_1501 ?_
    refine lv_topi (fun v59 e60 => ?_)
    obtain rfl : v11 = v59 := e12.trans e60.symm
    refine lv_if_eq (tgt := 1509) hx hb dL_law_1502 (by decide) (fun cx => absurd cx c13) (fun _ => ?_)
    refine lv_iconst (v := 1) hx hb dL_law_1505 (by decide) ?_
    refine lv_goto (tgt := 1510) hx hb dL_law_1506 (by decide) ?_
    obtain ⟨u61, u62, hP, hf⟩ := o_mo (i := 0) (q := mo) hM (by omega)
    refine va_calll (va_runV (As := [.int v3, .int v7, .int 1]) (rest := []) ⟨hx, hb, hml, hown, hts⟩ (rmf_squareBits l dC dI kA eD b g44 mo v3 v7 1 (by omega)) (cwV 3 hts gL_law_X6_squareBits rfl rfl rfl (by decide +kernel) ⟨Nat.le_of_ble_eq_true rfl, Nat.le_of_ble_eq_true rfl⟩) ⟨fb_CX, va_recv hK hP (ci := 10) (q0 := 0) rfl rfl, fun U hU hW => ⟨rfl, CX.give hb0 hM hK hG hE hS hU hW⟩⟩ rfl rfl hl.1 rfl (lv_room (Nat.le_of_ble_eq_true rfl)) dL_law_1510 ⟨(show C + 1 + 0 ≤ 960594 by omega), (show S + 6 + 0 ≤ 6134452 by omega)⟩) hS (fun q _ h => h) (fun q h => h) (fun r63 g65 t H locs ht hvm hw64 hB hz1 hk1 hS => ?_)
    have hM := hB.back ht
    have hG := hB.2.2.2.1
    have hlx := lx_squareBits hI hw43 hM1 hG1 hw64 hM hG
    have ht66 : tg g65 o = 1 := hlx.1.2.2.1
    have ht67 : tg g65 mo = 17 := hlx.1.2.2.2.1
    have ht68 : tg g65 q = 34 := hlx.1.2.2.2.2.1
    have ht69 : tg g65 q2 = 35 := hlx.1.2.2.2.2.2.1
    refine lv_lstore (lv' := [(7, .long r63), (6, .int r42), (0, .ref b0), (1, .ref o), (2, .ref mo), (3, .ref q), (4, .ref q2), (5, .int (nI (6 * k)))]) hx hb dL_law_1513 hl (by decide) rfl (fun ls hl => ?_)
    refine lv_goto (tgt := 1913) hx hb dL_law_1515 (by decide) ?_
    exact hnext g65 H _ ls _ _ ⟨hM, hG, hlx.1.2.2⟩ (by have h9 := hlx.2.1 C S k hR; unfold RI at h9 ⊢; omega) hS (lv_sub hl [2, 3, 4, 5, 6, 7] rfl)

set_option maxHeartbeats 4000000 in
set_option maxRecDepth 100000 in
/-- the law: a call of plan -/
theorem case_31 {p : Program} {l : Launch} {e : Env} {s : State} {m : MethodId} {below : List Frame} {meth : Method} {c : Code} (hlt : l.stackTraces = false) {b0 L : Nat} {xs : Nat → Int32} (C0 : lw_At p s m meth c b0 L xs) (hL : L ≤ 3072) (dC : Nat → ClassId) (dI : Nat → Nat → Nat) (kA : Nat → ClassId) (eD b o mo q q2 k : Nat) (hb9 : b = s.heap.size) (hb0 : b ≤ s.heap.size) (hk : 6 * k + 6 ≤ L) (hK : va_K (dC, dI) vwCl (TYS kA) s) (hE : EX eD b s) (hnext : ∀ (g : Gh) (H : Heap) (locs : List Loc) (ls : Array Slot) (C S : Nat), LI (dC, dI) kA b eD o mo q q2 g H → RI g mo C S (k + 1) → va_S (fun q => b ≤ q) s.heap H locs → lv_has ls 9 [(0, .ref b0), (1, .ref o), (2, .ref mo), (3, .ref q), (4, .ref q2), (5, .int (nI (6 * k)))] → W p l e room_1 s m #[Value.ref b0] below meth c H locs C S (lw_Z below #[Value.ref b0] s) (F0 m 1913 ls [])) {g : Gh} {H : Heap} {locs : List Loc} {ls : Array Slot} {C S : Nat} (hI : LI (dC, dI) kA b eD o mo q q2 g H) (hR : RI g mo C S k) (hS : va_S (fun q => b ≤ q) s.heap H locs) (hl : lv_has ls 9 [(0, .ref b0), (1, .ref o), (2, .ref mo), (3, .ref q), (4, .ref q2), (5, .int (nI (6 * k)))]) : W p l e room_1 s m #[Value.ref b0] below meth c H locs C S (lw_Z below #[Value.ref b0] s) (F0 m 1518 ls []) := by
  obtain ⟨hx, hb, hr, hml, hown, hts0, hX, hbl, hlocks, hgv⟩ := id C0
  have hts : ∀ w ∈ wzL_law, w.before #[Value.ref b0] s = true := fun w h => hts0 w (wzL_law_in w h)
  have hbA : ¬ (fun q : Nat => b ≤ q) b0 := by show ¬ b ≤ b0; omega
  have hT := hE.1
  have hN := hE.2.2.2.2.2.2.2.1
  obtain ⟨hM, hG, hto, htm, htq, htq2, -, hed⟩ := id hI
  have hRC : C ≤ 430000 := by have h9 := hR; unfold RI at h9; omega
  have hRS : S ≤ 3400000 := by have h9 := hR; unfold RI at h9; omega
  refine lv_aload_n hx hb dL_law_1518 rfl (lv_at hl 1 rfl) ?_
  refine lv_aload_n hx hb dL_law_1519 rfl (lv_at hl 0 rfl) ?_
  refine lv_iload hx hb dL_law_1520 (lv_at hl 5 rfl) ?_
  refine lv_iconst (v := 1) hx hb dL_law_1522 (by decide) ?_
  refine lv_iadd hx hb dL_law_1523 ?_
  refine lv_topi (fun v1 e2 => ?_)
  obtain rfl : v1 = nI ((6 * k) + 1) := e2.trans (nI_add (6 * k) 1)
  refine va_sld hx hb hX hbl hbA hS (vp_in_nI (by omega) (by omega)) dL_law_1524 ?_
  refine lv_topi (fun v3 e4 => ?_)
  refine lv_aload_n hx hb dL_law_1525 rfl (lv_at hl 0 rfl) ?_
  refine lv_iload hx hb dL_law_1526 (lv_at hl 5 rfl) ?_
  refine lv_iconst (v := 2) hx hb dL_law_1528 (by decide) ?_
  refine lv_iadd hx hb dL_law_1529 ?_
  refine lv_topi (fun v5 e6 => ?_)
  obtain rfl : v5 = nI ((6 * k) + 2) := e6.trans (nI_add (6 * k) 2)
  refine va_sld hx hb hX hbl hbA hS (vp_in_nI (by omega) (by omega)) dL_law_1530 ?_
  refine lv_topi (fun v7 e8 => ?_)
  refine lv_aload_n hx hb dL_law_1531 rfl (lv_at hl 0 rfl) ?_
  refine lv_iload hx hb dL_law_1532 (lv_at hl 5 rfl) ?_
  refine lv_iconst (v := 3) hx hb dL_law_1534 (by decide) ?_
  refine lv_iadd hx hb dL_law_1535 ?_
  refine lv_topi (fun v9 e10 => ?_)
  obtain rfl : v9 = nI ((6 * k) + 3) := e10.trans (nI_add (6 * k) 3)
  refine va_sld hx hb hX hbl hbA hS (vp_in_nI (by omega) (by omega)) dL_law_1536 ?_
  refine lv_topi (fun v11 e12 => ?_)
  refine lv_aload_n hx hb dL_law_1537 rfl (lv_at hl 0 rfl) ?_
  refine lv_iload hx hb dL_law_1538 (lv_at hl 5 rfl) ?_
  refine lv_iconst (v := 4) hx hb dL_law_1540 (by decide) ?_
  refine lv_iadd hx hb dL_law_1541 ?_
  refine lv_topi (fun v13 e14 => ?_)
  obtain rfl : v13 = nI ((6 * k) + 4) := e14.trans (nI_add (6 * k) 4)
  refine va_sld hx hb hX hbl hbA hS (vp_in_nI (by omega) (by omega)) dL_law_1542 ?_
  refine lv_topi (fun v15 e16 => ?_)
  refine lv_if_eq (tgt := 1550) hx hb dL_law_1543 (by decide) (fun c17 => ?_) (fun c17 => ?_)
  · skip
    refine lv_iconst (v := 0) hx hb dL_law_1550 (by decide) ?_
    refine lv_aload_n hx hb dL_law_1551 rfl (lv_at hl 3 rfl) ?_
    refine va_calli (vx_runSW (As := [.ref o, .int v3, .int v7, .int v11, .int 0, .ref q]) (rest := []) ⟨hx, hb, hml, hown, hts⟩ (rh_plan l hlt dC dI kA eD b g o q v3 v7 v11 0 (by omega) (by omega)) (vx_cwSW 6 hts gL_law_L_plan rfl rfl rfl (by decide +kernel) ⟨Nat.le_of_ble_eq_true rfl, Nat.le_of_ble_eq_true rfl⟩) ⟨fb_CX, fun U hU hW => ⟨rfl, CX.give hb0 hM hK hG hE hS hU hW⟩⟩ rfl rfl hl.1 rfl (lv_room (Nat.le_of_ble_eq_true rfl)) dL_law_1552 ⟨(show C + 1 ≤ 960594 by omega), (show S + 6 ≤ 6134452 by omega)⟩) hS (fun q _ h => h) (fun q h => h) (fun r18 g20 t H locs ht hvm hw19 hB hz1 hk1 hS => ?_)
    have hM := hB.back ht
    have hG := hB.2.2.2.1
    have hM1 := hM
    have hG1 := hG
    have hkt := kt_plan hw19
    have ht21 : tg g20 o = 1 := (hkt o (by omega)).trans hto
    have ht22 : tg g20 mo = 17 := (hkt mo (by omega)).trans htm
    have ht23 : tg g20 q = 34 := (hkt q (by omega)).trans htq
    have ht24 : tg g20 q2 = 35 := (hkt q2 (by omega)).trans htq2
    refine lv_istore (lv' := [(6, .int r18), (0, .ref b0), (1, .ref o), (2, .ref mo), (3, .ref q), (4, .ref q2), (5, .int (nI (6 * k)))]) hx hb dL_law_1555 hl (by decide) rfl (fun ls hl => ?_)
    refine lv_aload_n hx hb dL_law_1557 rfl (lv_at hl 3 rfl) ?_
    refine lv_aload_n hx hb dL_law_1558 rfl (lv_at hl 1 rfl) ?_
    refine lv_iload hx hb dL_law_1559 (lv_at hl 6 rfl) ?_
    refine lv_iconst (v := 1) hx hb dL_law_1561 (by decide) ?_
    refine lv_iadd hx hb dL_law_1562 ?_
    refine lv_topi (fun v25 e26 => ?_)
    obtain rfl : v25 = nI ((6 * k) + 1) := e26.trans (nI_add (6 * k) 1)
    refine va_sld hx hb hX hbl hbA hS (vp_in_nI (by omega) (by omega)) dL_law_1563 ?_
    refine lv_topi (fun v27 e28 => ?_)
    obtain rfl : v3 = v27 := e4.trans e28.symm
    refine lv_aload_n hx hb dL_law_1564 rfl (lv_at hl 1 rfl) ?_
    refine lv_iload hx hb dL_law_1565 (lv_at hl 6 rfl) ?_
    refine lv_iconst (v := 2) hx hb dL_law_1567 (by decide) ?_
    refine lv_iadd hx hb dL_law_1568 ?_
    refine lv_topi (fun v29 e30 => ?_)
    obtain rfl : v29 = nI ((6 * k) + 2) := e30.trans (nI_add (6 * k) 2)
    refine va_sld hx hb hX hbl hbA hS (vp_in_nI (by omega) (by omega)) dL_law_1569 ?_
    refine lv_topi (fun v31 e32 => ?_)
    obtain rfl : v7 = v31 := e8.trans e32.symm
    refine lv_aload_n hx hb dL_law_1570 rfl (lv_at hl 1 rfl) ?_
    refine lv_iload hx hb dL_law_1571 (lv_at hl 6 rfl) ?_
    refine lv_iconst (v := 3) hx hb dL_law_1573 (by decide) ?_
    refine lv_iadd hx hb dL_law_1574 ?_
    refine lv_topi (fun v33 e34 => ?_)
    obtain rfl : v33 = nI ((6 * k) + 3) := e34.trans (nI_add (6 * k) 3)
    refine va_sld hx hb hX hbl hbA hS (vp_in_nI (by omega) (by omega)) dL_law_1575 ?_
    refine lv_topi (fun v35 e36 => ?_)
    obtain rfl : v11 = v35 := e12.trans e36.symm
    refine lv_aload_n hx hb dL_law_1576 rfl (lv_at hl 1 rfl) ?_
    refine lv_iload hx hb dL_law_1577 (lv_at hl 6 rfl) ?_
    refine lv_iconst (v := 4) hx hb dL_law_1579 (by decide) ?_
    refine lv_iadd hx hb dL_law_1580 ?_
    refine lv_topi (fun v37 e38 => ?_)
    obtain rfl : v37 = nI ((6 * k) + 4) := e38.trans (nI_add (6 * k) 4)
    refine va_sld hx hb hX hbl hbA hS (vp_in_nI (by omega) (by omega)) dL_law_1581 ?_
    refine lv_topi (fun v39 e40 => ?_)
    obtain rfl : v15 = v39 := e16.trans e40.symm
    refine lv_if_eq (tgt := 1589) hx hb dL_law_1582 (by decide) (fun _ => ?_) (fun cx => absurd c17 cx)
    refine lv_iconst (v := 0) hx hb dL_law_1589 (by decide) ?_
    obtain ⟨u41, u42, hP, hf⟩ := o_mo (i := 0) (q := mo) hM (by omega)
    refine va_calli (va_runV (As := [.int v3, .int v7, .int v11, .int 0]) (rest := []) ⟨hx, hb, hml, hown, hts⟩ (rmf_plan l dC dI kA eD b g20 mo v3 v7 v11 0 (by omega)) (cwV 4 hts gL_law_X6_plan rfl rfl rfl (by decide +kernel) ⟨Nat.le_of_ble_eq_true rfl, Nat.le_of_ble_eq_true rfl⟩) ⟨fb_CX, va_recv hK hP (ci := 10) (q0 := 0) rfl rfl, fun U hU hW => ⟨rfl, CX.give hb0 hM hK hG hE hS hU hW⟩⟩ rfl rfl hl.1 rfl (lv_room (Nat.le_of_ble_eq_true rfl)) dL_law_1590 ⟨(show C + 1 + 0 ≤ 960594 by omega), (show S + 6 + 0 ≤ 6134452 by omega)⟩) hS (fun q _ h => h) (fun q h => h) (fun r43 g45 t H locs ht hvm hw44 hB hz1 hk1 hS => ?_)
    have hM := hB.back ht
    have hG := hB.2.2.2.1
    have hlx := lx_plan hI hw19 hM1 hG1 hw44 hM hG
    have ht46 : tg g45 o = 1 := hlx.1.2.2.1
    have ht47 : tg g45 mo = 17 := hlx.1.2.2.2.1
    have ht48 : tg g45 q = 34 := hlx.1.2.2.2.2.1
    have ht49 : tg g45 q2 = 35 := hlx.1.2.2.2.2.2.1
    refine lv_istore (lv' := [(7, .int r43), (6, .int r18), (0, .ref b0), (1, .ref o), (2, .ref mo), (3, .ref q), (4, .ref q2), (5, .int (nI (6 * k)))]) hx hb dL_law_1593 hl (by decide) rfl (fun ls hl => ?_)
    refine lv_goto (tgt := 1913) hx hb dL_law_1595 (by decide) ?_
    exact hnext g45 H _ ls _ _ ⟨hM, hG, hlx.1.2.2⟩ (by have h9 := hlx.2.1 C S k hR; unfold RI at h9 ⊢; omega) hS (lv_sub hl [2, 3, 4, 5, 6, 7] rfl)
  · skip
    refine lv_iconst (v := 1) hx hb dL_law_1546 (by decide) ?_
    refine lv_goto (tgt := 1551) hx hb dL_law_1547 (by decide) ?_
    refine lv_aload_n hx hb dL_law_1551 rfl (lv_at hl 3 rfl) ?_
    refine va_calli (vx_runSW (As := [.ref o, .int v3, .int v7, .int v11, .int 1, .ref q]) (rest := []) ⟨hx, hb, hml, hown, hts⟩ (rh_plan l hlt dC dI kA eD b g o q v3 v7 v11 1 (by omega) (by omega)) (vx_cwSW 6 hts gL_law_L_plan rfl rfl rfl (by decide +kernel) ⟨Nat.le_of_ble_eq_true rfl, Nat.le_of_ble_eq_true rfl⟩) ⟨fb_CX, fun U hU hW => ⟨rfl, CX.give hb0 hM hK hG hE hS hU hW⟩⟩ rfl rfl hl.1 rfl (lv_room (Nat.le_of_ble_eq_true rfl)) dL_law_1552 ⟨(show C + 1 ≤ 960594 by omega), (show S + 6 ≤ 6134452 by omega)⟩) hS (fun q _ h => h) (fun q h => h) (fun r50 g52 t H locs ht hvm hw51 hB hz1 hk1 hS => ?_)
    have hM := hB.back ht
    have hG := hB.2.2.2.1
    have hM1 := hM
    have hG1 := hG
    have hkt := kt_plan hw51
    have ht53 : tg g52 o = 1 := (hkt o (by omega)).trans hto
    have ht54 : tg g52 mo = 17 := (hkt mo (by omega)).trans htm
    have ht55 : tg g52 q = 34 := (hkt q (by omega)).trans htq
    have ht56 : tg g52 q2 = 35 := (hkt q2 (by omega)).trans htq2
    refine lv_istore (lv' := [(6, .int r50), (0, .ref b0), (1, .ref o), (2, .ref mo), (3, .ref q), (4, .ref q2), (5, .int (nI (6 * k)))]) hx hb dL_law_1555 hl (by decide) rfl (fun ls hl => ?_)
    refine lv_aload_n hx hb dL_law_1557 rfl (lv_at hl 3 rfl) ?_
    refine lv_aload_n hx hb dL_law_1558 rfl (lv_at hl 1 rfl) ?_
    refine lv_iload hx hb dL_law_1559 (lv_at hl 6 rfl) ?_
    refine lv_iconst (v := 1) hx hb dL_law_1561 (by decide) ?_
    refine lv_iadd hx hb dL_law_1562 ?_
    refine lv_topi (fun v57 e58 => ?_)
    obtain rfl : v57 = nI ((6 * k) + 1) := e58.trans (nI_add (6 * k) 1)
    refine va_sld hx hb hX hbl hbA hS (vp_in_nI (by omega) (by omega)) dL_law_1563 ?_
    refine lv_topi (fun v59 e60 => ?_)
    obtain rfl : v3 = v59 := e4.trans e60.symm
    refine lv_aload_n hx hb dL_law_1564 rfl (lv_at hl 1 rfl) ?_
    refine lv_iload hx hb dL_law_1565 (lv_at hl 6 rfl) ?_
    refine lv_iconst (v := 2) hx hb dL_law_1567 (by decide) ?_
    refine lv_iadd hx hb dL_law_1568 ?_
    refine lv_topi (fun v61 e62 => ?_)
    obtain rfl : v61 = nI ((6 * k) + 2) := e62.trans (nI_add (6 * k) 2)
    refine va_sld hx hb hX hbl hbA hS (vp_in_nI (by omega) (by omega)) dL_law_1569 ?_
    refine lv_topi (fun v63 e64 => ?_)
    obtain rfl : v7 = v63 := e8.trans e64.symm
    refine lv_aload_n hx hb dL_law_1570 rfl (lv_at hl 1 rfl) ?_
    refine lv_iload hx hb dL_law_1571 (lv_at hl 6 rfl) ?_
    refine lv_iconst (v := 3) hx hb dL_law_1573 (by decide) ?_
    refine lv_iadd hx hb dL_law_1574 ?_
    refine lv_topi (fun v65 e66 => ?_)
    obtain rfl : v65 = nI ((6 * k) + 3) := e66.trans (nI_add (6 * k) 3)
    refine va_sld hx hb hX hbl hbA hS (vp_in_nI (by omega) (by omega)) dL_law_1575 ?_
    refine lv_topi (fun v67 e68 => ?_)
    obtain rfl : v11 = v67 := e12.trans e68.symm
    refine lv_aload_n hx hb dL_law_1576 rfl (lv_at hl 1 rfl) ?_
    refine lv_iload hx hb dL_law_1577 (lv_at hl 6 rfl) ?_
    refine lv_iconst (v := 4) hx hb dL_law_1579 (by decide) ?_
    refine lv_iadd hx hb dL_law_1580 ?_
    refine lv_topi (fun v69 e70 => ?_)
    obtain rfl : v69 = nI ((6 * k) + 4) := e70.trans (nI_add (6 * k) 4)
    refine va_sld hx hb hX hbl hbA hS (vp_in_nI (by omega) (by omega)) dL_law_1581 ?_
    refine lv_topi (fun v71 e72 => ?_)
    obtain rfl : v15 = v71 := e16.trans e72.symm
    refine lv_if_eq (tgt := 1589) hx hb dL_law_1582 (by decide) (fun cx => absurd cx c17) (fun _ => ?_)
    refine lv_iconst (v := 1) hx hb dL_law_1585 (by decide) ?_
    refine lv_goto (tgt := 1590) hx hb dL_law_1586 (by decide) ?_
    obtain ⟨u73, u74, hP, hf⟩ := o_mo (i := 0) (q := mo) hM (by omega)
    refine va_calli (va_runV (As := [.int v3, .int v7, .int v11, .int 1]) (rest := []) ⟨hx, hb, hml, hown, hts⟩ (rmf_plan l dC dI kA eD b g52 mo v3 v7 v11 1 (by omega)) (cwV 4 hts gL_law_X6_plan rfl rfl rfl (by decide +kernel) ⟨Nat.le_of_ble_eq_true rfl, Nat.le_of_ble_eq_true rfl⟩) ⟨fb_CX, va_recv hK hP (ci := 10) (q0 := 0) rfl rfl, fun U hU hW => ⟨rfl, CX.give hb0 hM hK hG hE hS hU hW⟩⟩ rfl rfl hl.1 rfl (lv_room (Nat.le_of_ble_eq_true rfl)) dL_law_1590 ⟨(show C + 1 + 0 ≤ 960594 by omega), (show S + 6 + 0 ≤ 6134452 by omega)⟩) hS (fun q _ h => h) (fun q h => h) (fun r75 g77 t H locs ht hvm hw76 hB hz1 hk1 hS => ?_)
    have hM := hB.back ht
    have hG := hB.2.2.2.1
    have hlx := lx_plan hI hw51 hM1 hG1 hw76 hM hG
    have ht78 : tg g77 o = 1 := hlx.1.2.2.1
    have ht79 : tg g77 mo = 17 := hlx.1.2.2.2.1
    have ht80 : tg g77 q = 34 := hlx.1.2.2.2.2.1
    have ht81 : tg g77 q2 = 35 := hlx.1.2.2.2.2.2.1
    refine lv_istore (lv' := [(7, .int r75), (6, .int r50), (0, .ref b0), (1, .ref o), (2, .ref mo), (3, .ref q), (4, .ref q2), (5, .int (nI (6 * k)))]) hx hb dL_law_1593 hl (by decide) rfl (fun ls hl => ?_)
    refine lv_goto (tgt := 1913) hx hb dL_law_1595 (by decide) ?_
    exact hnext g77 H _ ls _ _ ⟨hM, hG, hlx.1.2.2⟩ (by have h9 := hlx.2.1 C S k hR; unfold RI at h9 ⊢; omega) hS (lv_sub hl [2, 3, 4, 5, 6, 7] rfl)

set_option maxHeartbeats 4000000 in
set_option maxRecDepth 100000 in
/-- the law: a call of carve -/
theorem case_32 {p : Program} {l : Launch} {e : Env} {s : State} {m : MethodId} {below : List Frame} {meth : Method} {c : Code} (hlt : l.stackTraces = false) {b0 L : Nat} {xs : Nat → Int32} (C0 : lw_At p s m meth c b0 L xs) (hL : L ≤ 3072) (dC : Nat → ClassId) (dI : Nat → Nat → Nat) (kA : Nat → ClassId) (eD b o mo q q2 k : Nat) (hb9 : b = s.heap.size) (hb0 : b ≤ s.heap.size) (hk : 6 * k + 6 ≤ L) (hK : va_K (dC, dI) vwCl (TYS kA) s) (hE : EX eD b s) (hnext : ∀ (g : Gh) (H : Heap) (locs : List Loc) (ls : Array Slot) (C S : Nat), LI (dC, dI) kA b eD o mo q q2 g H → RI g mo C S (k + 1) → va_S (fun q => b ≤ q) s.heap H locs → lv_has ls 9 [(0, .ref b0), (1, .ref o), (2, .ref mo), (3, .ref q), (4, .ref q2), (5, .int (nI (6 * k)))] → W p l e room_1 s m #[Value.ref b0] below meth c H locs C S (lw_Z below #[Value.ref b0] s) (F0 m 1913 ls [])) {g : Gh} {H : Heap} {locs : List Loc} {ls : Array Slot} {C S : Nat} (hI : LI (dC, dI) kA b eD o mo q q2 g H) (hR : RI g mo C S k) (hS : va_S (fun q => b ≤ q) s.heap H locs) (hl : lv_has ls 9 [(0, .ref b0), (1, .ref o), (2, .ref mo), (3, .ref q), (4, .ref q2), (5, .int (nI (6 * k)))]) : W p l e room_1 s m #[Value.ref b0] below meth c H locs C S (lw_Z below #[Value.ref b0] s) (F0 m 1598 ls []) := by
  obtain ⟨hx, hb, hr, hml, hown, hts0, hX, hbl, hlocks, hgv⟩ := id C0
  have hts : ∀ w ∈ wzL_law, w.before #[Value.ref b0] s = true := fun w h => hts0 w (wzL_law_in w h)
  have hbA : ¬ (fun q : Nat => b ≤ q) b0 := by show ¬ b ≤ b0; omega
  have hT := hE.1
  have hN := hE.2.2.2.2.2.2.2.1
  obtain ⟨hM, hG, hto, htm, htq, htq2, -, hed⟩ := id hI
  have hRC : C ≤ 430000 := by have h9 := hR; unfold RI at h9; omega
  have hRS : S ≤ 3400000 := by have h9 := hR; unfold RI at h9; omega
  refine lv_aload_n hx hb dL_law_1598 rfl (lv_at hl 1 rfl) ?_
  refine lv_aload_n hx hb dL_law_1599 rfl (lv_at hl 0 rfl) ?_
  refine lv_iload hx hb dL_law_1600 (lv_at hl 5 rfl) ?_
  refine lv_iconst (v := 1) hx hb dL_law_1602 (by decide) ?_
  refine lv_iadd hx hb dL_law_1603 ?_
  refine lv_topi (fun v1 e2 => ?_)
  obtain rfl : v1 = nI ((6 * k) + 1) := e2.trans (nI_add (6 * k) 1)
  refine va_sld hx hb hX hbl hbA hS (vp_in_nI (by omega) (by omega)) dL_law_1604 ?_
  refine lv_topi (fun v3 e4 => ?_)
  refine lv_aload_n hx hb dL_law_1605 rfl (lv_at hl 0 rfl) ?_
  refine lv_iload hx hb dL_law_1606 (lv_at hl 5 rfl) ?_
  refine lv_iconst (v := 2) hx hb dL_law_1608 (by decide) ?_
  refine lv_iadd hx hb dL_law_1609 ?_
  refine lv_topi (fun v5 e6 => ?_)
  obtain rfl : v5 = nI ((6 * k) + 2) := e6.trans (nI_add (6 * k) 2)
  refine va_sld hx hb hX hbl hbA hS (vp_in_nI (by omega) (by omega)) dL_law_1610 ?_
  refine lv_topi (fun v7 e8 => ?_)
  refine lv_aload_n hx hb dL_law_1611 rfl (lv_at hl 0 rfl) ?_
  refine lv_iload hx hb dL_law_1612 (lv_at hl 5 rfl) ?_
  refine lv_iconst (v := 3) hx hb dL_law_1614 (by decide) ?_
  refine lv_iadd hx hb dL_law_1615 ?_
  refine lv_topi (fun v9 e10 => ?_)
  obtain rfl : v9 = nI ((6 * k) + 3) := e10.trans (nI_add (6 * k) 3)
  refine va_sld hx hb hX hbl hbA hS (vp_in_nI (by omega) (by omega)) dL_law_1616 ?_
  refine lv_topi (fun v11 e12 => ?_)
  refine lv_aload_n hx hb dL_law_1617 rfl (lv_at hl 0 rfl) ?_
  refine lv_iload hx hb dL_law_1618 (lv_at hl 5 rfl) ?_
  refine lv_iconst (v := 4) hx hb dL_law_1620 (by decide) ?_
  refine lv_iadd hx hb dL_law_1621 ?_
  refine lv_topi (fun v13 e14 => ?_)
  obtain rfl : v13 = nI ((6 * k) + 4) := e14.trans (nI_add (6 * k) 4)
  refine va_sld hx hb hX hbl hbA hS (vp_in_nI (by omega) (by omega)) dL_law_1622 ?_
  refine lv_topi (fun v15 e16 => ?_)
  refine lv_aload_n hx hb dL_law_1623 rfl (lv_at hl 3 rfl) ?_
  refine va_calli (vx_runSW (As := [.ref o, .int v3, .int v7, .int v11, .int v15, .ref q]) (rest := []) ⟨hx, hb, hml, hown, hts⟩ (rh_carve l hlt dC dI kA eD b g o q v3 v7 v11 v15 (by omega) (by omega)) (vx_cwSW 6 hts gL_law_L_carve rfl rfl rfl (by decide +kernel) ⟨Nat.le_of_ble_eq_true rfl, Nat.le_of_ble_eq_true rfl⟩) ⟨fb_CX, fun U hU hW => ⟨rfl, CX.give hb0 hM hK hG hE hS hU hW⟩⟩ rfl rfl hl.1 rfl (lv_room (Nat.le_of_ble_eq_true rfl)) dL_law_1624 ⟨(show C + 1 ≤ 960594 by omega), (show S + 6 ≤ 6134452 by omega)⟩) hS (fun q _ h => h) (fun q h => h) (fun r17 g19 t H locs ht hvm hw18 hB hz1 hk1 hS => ?_)
  have hM := hB.back ht
  have hG := hB.2.2.2.1
  have hM1 := hM
  have hG1 := hG
  have hkt : ∀ a : Nat, tg g a ≠ 0 → tg g19 a = tg g a := fun a _ => by obtain ⟨f9, h9⟩ := hw18; rw [h9]; rfl
  have ht20 : tg g19 o = 1 := (hkt o (by omega)).trans hto
  have ht21 : tg g19 mo = 17 := (hkt mo (by omega)).trans htm
  have ht22 : tg g19 q = 34 := (hkt q (by omega)).trans htq
  have ht23 : tg g19 q2 = 35 := (hkt q2 (by omega)).trans htq2
  refine lv_istore (lv' := [(6, .int r17), (0, .ref b0), (1, .ref o), (2, .ref mo), (3, .ref q), (4, .ref q2), (5, .int (nI (6 * k)))]) hx hb dL_law_1627 hl (by decide) rfl (fun ls hl => ?_)
  refine lv_aload_n hx hb dL_law_1629 rfl (lv_at hl 3 rfl) ?_
  refine lv_aload_n hx hb dL_law_1630 rfl (lv_at hl 1 rfl) ?_
  refine lv_iload hx hb dL_law_1631 (lv_at hl 6 rfl) ?_
  refine lv_iconst (v := 1) hx hb dL_law_1633 (by decide) ?_
  refine lv_iadd hx hb dL_law_1634 ?_
  refine lv_topi (fun v24 e25 => ?_)
  obtain rfl : v24 = nI ((6 * k) + 1) := e25.trans (nI_add (6 * k) 1)
  refine va_sld hx hb hX hbl hbA hS (vp_in_nI (by omega) (by omega)) dL_law_1635 ?_
  refine lv_topi (fun v26 e27 => ?_)
  obtain rfl : v3 = v26 := e4.trans e27.symm
  refine lv_aload_n hx hb dL_law_1636 rfl (lv_at hl 1 rfl) ?_
  refine lv_iload hx hb dL_law_1637 (lv_at hl 6 rfl) ?_
  refine lv_iconst (v := 2) hx hb dL_law_1639 (by decide) ?_
  refine lv_iadd hx hb dL_law_1640 ?_
  refine lv_topi (fun v28 e29 => ?_)
  obtain rfl : v28 = nI ((6 * k) + 2) := e29.trans (nI_add (6 * k) 2)
  refine va_sld hx hb hX hbl hbA hS (vp_in_nI (by omega) (by omega)) dL_law_1641 ?_
  refine lv_topi (fun v30 e31 => ?_)
  obtain rfl : v7 = v30 := e8.trans e31.symm
  refine lv_aload_n hx hb dL_law_1642 rfl (lv_at hl 1 rfl) ?_
  refine lv_iload hx hb dL_law_1643 (lv_at hl 6 rfl) ?_
  refine lv_iconst (v := 3) hx hb dL_law_1645 (by decide) ?_
  refine lv_iadd hx hb dL_law_1646 ?_
  refine lv_topi (fun v32 e33 => ?_)
  obtain rfl : v32 = nI ((6 * k) + 3) := e33.trans (nI_add (6 * k) 3)
  refine va_sld hx hb hX hbl hbA hS (vp_in_nI (by omega) (by omega)) dL_law_1647 ?_
  refine lv_topi (fun v34 e35 => ?_)
  obtain rfl : v11 = v34 := e12.trans e35.symm
  refine lv_aload_n hx hb dL_law_1648 rfl (lv_at hl 1 rfl) ?_
  refine lv_iload hx hb dL_law_1649 (lv_at hl 6 rfl) ?_
  refine lv_iconst (v := 4) hx hb dL_law_1651 (by decide) ?_
  refine lv_iadd hx hb dL_law_1652 ?_
  refine lv_topi (fun v36 e37 => ?_)
  obtain rfl : v36 = nI ((6 * k) + 4) := e37.trans (nI_add (6 * k) 4)
  refine va_sld hx hb hX hbl hbA hS (vp_in_nI (by omega) (by omega)) dL_law_1653 ?_
  refine lv_topi (fun v38 e39 => ?_)
  obtain rfl : v15 = v38 := e16.trans e39.symm
  obtain ⟨u40, u41, hP, hf⟩ := o_mo (i := 0) (q := mo) hM (by omega)
  refine W.know (fun hkn1 hkn2 => ?_)
  refine va_calli (va_runV (As := [.int v3, .int v7, .int v11, .int v15]) (rest := []) ⟨hx, hb, hml, hown, hts⟩ (rmf_carve l dC dI kA eD b g19 H.size (SH H) mo v3 v7 v11 v15 (by omega)) (cwV 4 hts gL_law_X6_carve rfl rfl rfl (by decide +kernel) ⟨Nat.le_of_ble_eq_true rfl, Nat.le_of_ble_eq_true rfl⟩) ⟨fb_CXs, va_recv hK hP (ci := 10) (q0 := 0) rfl rfl, fun U hU hW => ⟨rfl, CXs.give hb0 hM hK hG hE hS hU hW⟩⟩ rfl rfl hl.1 rfl (lv_room (Nat.le_of_ble_eq_true rfl)) dL_law_1654 ⟨(show C + 1 + 730 ≤ 960594 by omega), (show S + 6 + 5600 ≤ 6134452 by omega)⟩) hS (fun q _ h => h) (fun q h => h) (fun r42 g44 t H locs ht hvm hw43 hB hz1 hk1 hS => ?_)
  have hM := hB.1.back ht
  have hG := hB.1.2.2.2.1
  obtain ⟨g44, d9⟩ := g44
  have hgr := hB.2
  rw [ht] at hgr
  have hgr1 : H.size ≤ _ + (20 + 14 * (1 + d9)) := hgr.1
  have hgr2 : SH H ≤ _ + (120 + 108 * (1 + d9)) := hgr.2
  refine W.shrink (k := C + 1 + 14 * d9 + 40) (n := S + 6 + 108 * d9 + 240) (by omega) (by omega) ?_
  have hlx := lx_G (u2 := g44) (d9 := d9) hI (Or.inl hw18) hM1 hG1 hw43 hM hG
  have ht45 : tg g44 o = 1 := hlx.1.2.2.1
  have ht46 : tg g44 mo = 17 := hlx.1.2.2.2.1
  have ht47 : tg g44 q = 34 := hlx.1.2.2.2.2.1
  have ht48 : tg g44 q2 = 35 := hlx.1.2.2.2.2.2.1
  refine lv_istore (lv' := [(7, .int r42), (6, .int r17), (0, .ref b0), (1, .ref o), (2, .ref mo), (3, .ref q), (4, .ref q2), (5, .int (nI (6 * k)))]) hx hb dL_law_1657 hl (by decide) rfl (fun ls hl => ?_)
  refine lv_goto (tgt := 1913) hx hb dL_law_1659 (by decide) ?_
  exact hnext g44 H _ ls _ _ ⟨hM, hG, hlx.1.2.2⟩ (hlx.2 C S k _ _ hR (by omega) (by omega)) hS (lv_sub hl [2, 3, 4, 5, 6, 7] rfl)

set_option maxHeartbeats 4000000 in
set_option maxRecDepth 100000 in
/-- the law: a call of hours -/
theorem case_33 {p : Program} {l : Launch} {e : Env} {s : State} {m : MethodId} {below : List Frame} {meth : Method} {c : Code} (hlt : l.stackTraces = false) {b0 L : Nat} {xs : Nat → Int32} (C0 : lw_At p s m meth c b0 L xs) (hL : L ≤ 3072) (dC : Nat → ClassId) (dI : Nat → Nat → Nat) (kA : Nat → ClassId) (eD b o mo q q2 k : Nat) (hb9 : b = s.heap.size) (hb0 : b ≤ s.heap.size) (hk : 6 * k + 6 ≤ L) (hK : va_K (dC, dI) vwCl (TYS kA) s) (hE : EX eD b s) (hnext : ∀ (g : Gh) (H : Heap) (locs : List Loc) (ls : Array Slot) (C S : Nat), LI (dC, dI) kA b eD o mo q q2 g H → RI g mo C S (k + 1) → va_S (fun q => b ≤ q) s.heap H locs → lv_has ls 9 [(0, .ref b0), (1, .ref o), (2, .ref mo), (3, .ref q), (4, .ref q2), (5, .int (nI (6 * k)))] → W p l e room_1 s m #[Value.ref b0] below meth c H locs C S (lw_Z below #[Value.ref b0] s) (F0 m 1913 ls [])) {g : Gh} {H : Heap} {locs : List Loc} {ls : Array Slot} {C S : Nat} (hI : LI (dC, dI) kA b eD o mo q q2 g H) (hR : RI g mo C S k) (hS : va_S (fun q => b ≤ q) s.heap H locs) (hl : lv_has ls 9 [(0, .ref b0), (1, .ref o), (2, .ref mo), (3, .ref q), (4, .ref q2), (5, .int (nI (6 * k)))]) : W p l e room_1 s m #[Value.ref b0] below meth c H locs C S (lw_Z below #[Value.ref b0] s) (F0 m 1662 ls []) := by
  obtain ⟨hx, hb, hr, hml, hown, hts0, hX, hbl, hlocks, hgv⟩ := id C0
  have hts : ∀ w ∈ wzL_law, w.before #[Value.ref b0] s = true := fun w h => hts0 w (wzL_law_in w h)
  have hbA : ¬ (fun q : Nat => b ≤ q) b0 := by show ¬ b ≤ b0; omega
  have hT := hE.1
  have hN := hE.2.2.2.2.2.2.2.1
  obtain ⟨hM, hG, hto, htm, htq, htq2, -, hed⟩ := id hI
  have hRC : C ≤ 430000 := by have h9 := hR; unfold RI at h9; omega
  have hRS : S ≤ 3400000 := by have h9 := hR; unfold RI at h9; omega
  refine lv_aload_n hx hb dL_law_1662 rfl (lv_at hl 1 rfl) ?_
  refine lv_aload_n hx hb dL_law_1663 rfl (lv_at hl 0 rfl) ?_
  refine lv_iload hx hb dL_law_1664 (lv_at hl 5 rfl) ?_
  refine lv_iconst (v := 1) hx hb dL_law_1666 (by decide) ?_
  refine lv_iadd hx hb dL_law_1667 ?_
  refine lv_topi (fun v1 e2 => ?_)
  obtain rfl : v1 = nI ((6 * k) + 1) := e2.trans (nI_add (6 * k) 1)
  refine va_sld hx hb hX hbl hbA hS (vp_in_nI (by omega) (by omega)) dL_law_1668 ?_
  refine lv_topi (fun v3 e4 => ?_)
  refine lv_aload_n hx hb dL_law_1669 rfl (lv_at hl 3 rfl) ?_
  refine va_calli (vx_runSW (As := [.ref o, .int v3, .ref q]) (rest := []) ⟨hx, hb, hml, hown, hts⟩ (rh_hours l hlt dC dI kA eD b g o q v3 (by omega) (by omega)) (vx_cwSW 3 hts gL_law_L_hours rfl rfl rfl (by decide +kernel) ⟨Nat.le_of_ble_eq_true rfl, Nat.le_of_ble_eq_true rfl⟩) ⟨fb_CX, fun U hU hW => ⟨rfl, CX.give hb0 hM hK hG hE hS hU hW⟩⟩ rfl rfl hl.1 rfl (lv_room (Nat.le_of_ble_eq_true rfl)) dL_law_1670 ⟨(show C + 1 ≤ 960594 by omega), (show S + 6 ≤ 6134452 by omega)⟩) hS (fun q _ h => h) (fun q h => h) (fun r5 g7 t H locs ht hvm hw6 hB hz1 hk1 hS => ?_)
  have hM := hB.back ht
  have hG := hB.2.2.2.1
  have hM1 := hM
  have hG1 := hG
  have hkt : ∀ a : Nat, tg g a ≠ 0 → tg g7 a = tg g a := fun a _ => by obtain ⟨f9, h9⟩ := hw6; rw [h9]; rfl
  have ht8 : tg g7 o = 1 := (hkt o (by omega)).trans hto
  have ht9 : tg g7 mo = 17 := (hkt mo (by omega)).trans htm
  have ht10 : tg g7 q = 34 := (hkt q (by omega)).trans htq
  have ht11 : tg g7 q2 = 35 := (hkt q2 (by omega)).trans htq2
  refine lv_istore (lv' := [(6, .int r5), (0, .ref b0), (1, .ref o), (2, .ref mo), (3, .ref q), (4, .ref q2), (5, .int (nI (6 * k)))]) hx hb dL_law_1673 hl (by decide) rfl (fun ls hl => ?_)
  refine lv_aload_n hx hb dL_law_1675 rfl (lv_at hl 3 rfl) ?_
  refine lv_aload_n hx hb dL_law_1676 rfl (lv_at hl 1 rfl) ?_
  refine lv_iload hx hb dL_law_1677 (lv_at hl 6 rfl) ?_
  refine lv_iconst (v := 1) hx hb dL_law_1679 (by decide) ?_
  refine lv_iadd hx hb dL_law_1680 ?_
  refine lv_topi (fun v12 e13 => ?_)
  obtain rfl : v12 = nI ((6 * k) + 1) := e13.trans (nI_add (6 * k) 1)
  refine va_sld hx hb hX hbl hbA hS (vp_in_nI (by omega) (by omega)) dL_law_1681 ?_
  refine lv_topi (fun v14 e15 => ?_)
  obtain rfl : v3 = v14 := e4.trans e15.symm
  obtain ⟨u16, u17, hP, hf⟩ := o_mo (i := 0) (q := mo) hM (by omega)
  refine va_calli (va_runV (As := [.int v3]) (rest := []) ⟨hx, hb, hml, hown, hts⟩ (rmf_hours l dC dI kA eD b g7 mo v3 (by omega)) (cwV 1 hts gL_law_X6_hours rfl rfl rfl (by decide +kernel) ⟨Nat.le_of_ble_eq_true rfl, Nat.le_of_ble_eq_true rfl⟩) ⟨fb_CX, va_recv hK hP (ci := 10) (q0 := 0) rfl rfl, fun U hU hW => ⟨rfl, CX.give hb0 hM hK hG hE hS hU hW⟩⟩ rfl rfl hl.1 rfl (lv_room (Nat.le_of_ble_eq_true rfl)) dL_law_1682 ⟨(show C + 1 + 0 ≤ 960594 by omega), (show S + 6 + 0 ≤ 6134452 by omega)⟩) hS (fun q _ h => h) (fun q h => h) (fun r18 g20 t H locs ht hvm hw19 hB hz1 hk1 hS => ?_)
  have hM := hB.back ht
  have hG := hB.2.2.2.1
  have hlx := lx_N hI (Or.inl hw6) hM1 hG1 hw19 hM hG
  have ht21 : tg g20 o = 1 := hlx.1.2.2.1
  have ht22 : tg g20 mo = 17 := hlx.1.2.2.2.1
  have ht23 : tg g20 q = 34 := hlx.1.2.2.2.2.1
  have ht24 : tg g20 q2 = 35 := hlx.1.2.2.2.2.2.1
  refine lv_istore (lv' := [(7, .int r18), (6, .int r5), (0, .ref b0), (1, .ref o), (2, .ref mo), (3, .ref q), (4, .ref q2), (5, .int (nI (6 * k)))]) hx hb dL_law_1685 hl (by decide) rfl (fun ls hl => ?_)
  refine lv_goto (tgt := 1913) hx hb dL_law_1687 (by decide) ?_
  exact hnext g20 H _ ls _ _ ⟨hM, hG, hlx.1.2.2⟩ (by have h9 := hlx.2 C S k hR; unfold RI at h9 ⊢; omega) hS (lv_sub hl [2, 3, 4, 5, 6, 7] rfl)

set_option maxHeartbeats 4000000 in
set_option maxRecDepth 100000 in
/-- the law: a call of judge -/
theorem case_34 {p : Program} {l : Launch} {e : Env} {s : State} {m : MethodId} {below : List Frame} {meth : Method} {c : Code} (hlt : l.stackTraces = false) {b0 L : Nat} {xs : Nat → Int32} (C0 : lw_At p s m meth c b0 L xs) (hL : L ≤ 3072) (dC : Nat → ClassId) (dI : Nat → Nat → Nat) (kA : Nat → ClassId) (eD b o mo q q2 k : Nat) (hb9 : b = s.heap.size) (hb0 : b ≤ s.heap.size) (hk : 6 * k + 6 ≤ L) (hK : va_K (dC, dI) vwCl (TYS kA) s) (hE : EX eD b s) (hnext : ∀ (g : Gh) (H : Heap) (locs : List Loc) (ls : Array Slot) (C S : Nat), LI (dC, dI) kA b eD o mo q q2 g H → RI g mo C S (k + 1) → va_S (fun q => b ≤ q) s.heap H locs → lv_has ls 9 [(0, .ref b0), (1, .ref o), (2, .ref mo), (3, .ref q), (4, .ref q2), (5, .int (nI (6 * k)))] → W p l e room_1 s m #[Value.ref b0] below meth c H locs C S (lw_Z below #[Value.ref b0] s) (F0 m 1913 ls [])) {g : Gh} {H : Heap} {locs : List Loc} {ls : Array Slot} {C S : Nat} (hI : LI (dC, dI) kA b eD o mo q q2 g H) (hR : RI g mo C S k) (hS : va_S (fun q => b ≤ q) s.heap H locs) (hl : lv_has ls 9 [(0, .ref b0), (1, .ref o), (2, .ref mo), (3, .ref q), (4, .ref q2), (5, .int (nI (6 * k)))]) : W p l e room_1 s m #[Value.ref b0] below meth c H locs C S (lw_Z below #[Value.ref b0] s) (F0 m 1690 ls []) := by
  obtain ⟨hx, hb, hr, hml, hown, hts0, hX, hbl, hlocks, hgv⟩ := id C0
  have hts : ∀ w ∈ wzL_law, w.before #[Value.ref b0] s = true := fun w h => hts0 w (wzL_law_in w h)
  have hbA : ¬ (fun q : Nat => b ≤ q) b0 := by show ¬ b ≤ b0; omega
  have hT := hE.1
  have hN := hE.2.2.2.2.2.2.2.1
  obtain ⟨hM, hG, hto, htm, htq, htq2, -, hed⟩ := id hI
  have hRC : C ≤ 430000 := by have h9 := hR; unfold RI at h9; omega
  have hRS : S ≤ 3400000 := by have h9 := hR; unfold RI at h9; omega
  refine lv_aload_n hx hb dL_law_1690 rfl (lv_at hl 1 rfl) ?_
  refine lv_aload_n hx hb dL_law_1691 rfl (lv_at hl 0 rfl) ?_
  refine lv_iload hx hb dL_law_1692 (lv_at hl 5 rfl) ?_
  refine lv_iconst (v := 1) hx hb dL_law_1694 (by decide) ?_
  refine lv_iadd hx hb dL_law_1695 ?_
  refine lv_topi (fun v1 e2 => ?_)
  obtain rfl : v1 = nI ((6 * k) + 1) := e2.trans (nI_add (6 * k) 1)
  refine va_sld hx hb hX hbl hbA hS (vp_in_nI (by omega) (by omega)) dL_law_1696 ?_
  refine lv_topi (fun v3 e4 => ?_)
  refine lv_aload hx hb dL_law_1697 (lv_at hl 4 rfl) ?_
  refine va_calli (vx_runSW (As := [.ref o, .int v3, .ref q2]) (rest := []) ⟨hx, hb, hml, hown, hts⟩ (rh_judge l hlt dC dI kA eD b g o q2 v3 (by omega) (by omega)) (vx_cwSW 3 hts gL_law_L_judge rfl rfl rfl (by decide +kernel) ⟨Nat.le_of_ble_eq_true rfl, Nat.le_of_ble_eq_true rfl⟩) ⟨fb_CX, fun U hU hW => ⟨rfl, CX.give hb0 hM hK hG hE hS hU hW⟩⟩ rfl rfl hl.1 rfl (lv_room (Nat.le_of_ble_eq_true rfl)) dL_law_1699 ⟨(show C + 1 ≤ 960594 by omega), (show S + 6 ≤ 6134452 by omega)⟩) hS (fun q _ h => h) (fun q h => h) (fun r5 g7 t H locs ht hvm hw6 hB hz1 hk1 hS => ?_)
  have hM := hB.back ht
  have hG := hB.2.2.2.1
  have hM1 := hM
  have hG1 := hG
  have hkt : ∀ a : Nat, tg g a ≠ 0 → tg g7 a = tg g a := fun a _ => by rw [hw6]
  have ht8 : tg g7 o = 1 := (hkt o (by omega)).trans hto
  have ht9 : tg g7 mo = 17 := (hkt mo (by omega)).trans htm
  have ht10 : tg g7 q = 34 := (hkt q (by omega)).trans htq
  have ht11 : tg g7 q2 = 35 := (hkt q2 (by omega)).trans htq2
  refine lv_istore (lv' := [(6, .int r5), (0, .ref b0), (1, .ref o), (2, .ref mo), (3, .ref q), (4, .ref q2), (5, .int (nI (6 * k)))]) hx hb dL_law_1702 hl (by decide) rfl (fun ls hl => ?_)
  refine lv_aload_n hx hb dL_law_1704 rfl (lv_at hl 3 rfl) ?_
  refine lv_aload_n hx hb dL_law_1705 rfl (lv_at hl 1 rfl) ?_
  refine lv_iload hx hb dL_law_1706 (lv_at hl 6 rfl) ?_
  refine lv_iconst (v := 1) hx hb dL_law_1708 (by decide) ?_
  refine lv_iadd hx hb dL_law_1709 ?_
  refine lv_topi (fun v12 e13 => ?_)
  obtain rfl : v12 = nI ((6 * k) + 1) := e13.trans (nI_add (6 * k) 1)
  refine va_sld hx hb hX hbl hbA hS (vp_in_nI (by omega) (by omega)) dL_law_1710 ?_
  refine lv_topi (fun v14 e15 => ?_)
  obtain rfl : v3 = v14 := e4.trans e15.symm
  obtain ⟨u16, u17, hP, hf⟩ := o_mo (i := 0) (q := mo) hM (by omega)
  refine va_calld (va_runV (As := [.int v3]) (rest := []) ⟨hx, hb, hml, hown, hts⟩ (rmf_judge l dC dI kA eD b g7 mo v3 (by omega)) (cwV 1 hts gL_law_X6_judge rfl rfl rfl (by decide +kernel) ⟨Nat.le_of_ble_eq_true rfl, Nat.le_of_ble_eq_true rfl⟩) ⟨fb_CX, va_recv hK hP (ci := 10) (q0 := 0) rfl rfl, fun U hU hW => ⟨rfl, CX.give hb0 hM hK hG hE hS hU hW⟩⟩ rfl rfl hl.1 rfl (lv_room (Nat.le_of_ble_eq_true rfl)) dL_law_1711 ⟨(show C + 1 + 0 ≤ 960594 by omega), (show S + 6 + 0 ≤ 6134452 by omega)⟩) hS (fun q _ h => h) (fun q h => h) (fun r18 g20 t H locs ht hvm hw19 hB hz1 hk1 hS => ?_)
  have hM := hB.back ht
  have hG := hB.2.2.2.1
  have hlx := lx_N hI (Or.inr hw6) hM1 hG1 hw19 hM hG
  have ht21 : tg g20 o = 1 := hlx.1.2.2.1
  have ht22 : tg g20 mo = 17 := hlx.1.2.2.2.1
  have ht23 : tg g20 q = 34 := hlx.1.2.2.2.2.1
  have ht24 : tg g20 q2 = 35 := hlx.1.2.2.2.2.2.1
  refine lv_dstore (lv' := [(7, .double r18), (6, .int r5), (0, .ref b0), (1, .ref o), (2, .ref mo), (3, .ref q), (4, .ref q2), (5, .int (nI (6 * k)))]) hx hb dL_law_1714 hl (by decide) rfl (fun ls hl => ?_)
  refine lv_goto (tgt := 1913) hx hb dL_law_1716 (by decide) ?_
  exact hnext g20 H _ ls _ _ ⟨hM, hG, hlx.1.2.2⟩ (by have h9 := hlx.2 C S k hR; unfold RI at h9 ⊢; omega) hS (lv_sub hl [2, 3, 4, 5, 6, 7] rfl)

set_option maxHeartbeats 4000000 in
set_option maxRecDepth 100000 in
/-- the law: a call of mark -/
theorem case_35 {p : Program} {l : Launch} {e : Env} {s : State} {m : MethodId} {below : List Frame} {meth : Method} {c : Code} (hlt : l.stackTraces = false) {b0 L : Nat} {xs : Nat → Int32} (C0 : lw_At p s m meth c b0 L xs) (hL : L ≤ 3072) (dC : Nat → ClassId) (dI : Nat → Nat → Nat) (kA : Nat → ClassId) (eD b o mo q q2 k : Nat) (hb9 : b = s.heap.size) (hb0 : b ≤ s.heap.size) (hk : 6 * k + 6 ≤ L) (hK : va_K (dC, dI) vwCl (TYS kA) s) (hE : EX eD b s) (hnext : ∀ (g : Gh) (H : Heap) (locs : List Loc) (ls : Array Slot) (C S : Nat), LI (dC, dI) kA b eD o mo q q2 g H → RI g mo C S (k + 1) → va_S (fun q => b ≤ q) s.heap H locs → lv_has ls 9 [(0, .ref b0), (1, .ref o), (2, .ref mo), (3, .ref q), (4, .ref q2), (5, .int (nI (6 * k)))] → W p l e room_1 s m #[Value.ref b0] below meth c H locs C S (lw_Z below #[Value.ref b0] s) (F0 m 1913 ls [])) {g : Gh} {H : Heap} {locs : List Loc} {ls : Array Slot} {C S : Nat} (hI : LI (dC, dI) kA b eD o mo q q2 g H) (hR : RI g mo C S k) (hS : va_S (fun q => b ≤ q) s.heap H locs) (hl : lv_has ls 9 [(0, .ref b0), (1, .ref o), (2, .ref mo), (3, .ref q), (4, .ref q2), (5, .int (nI (6 * k)))]) : W p l e room_1 s m #[Value.ref b0] below meth c H locs C S (lw_Z below #[Value.ref b0] s) (F0 m 1719 ls []) := by
  obtain ⟨hx, hb, hr, hml, hown, hts0, hX, hbl, hlocks, hgv⟩ := id C0
  have hts : ∀ w ∈ wzL_law, w.before #[Value.ref b0] s = true := fun w h => hts0 w (wzL_law_in w h)
  have hbA : ¬ (fun q : Nat => b ≤ q) b0 := by show ¬ b ≤ b0; omega
  have hT := hE.1
  have hN := hE.2.2.2.2.2.2.2.1
  obtain ⟨hM, hG, hto, htm, htq, htq2, -, hed⟩ := id hI
  have hRC : C ≤ 430000 := by have h9 := hR; unfold RI at h9; omega
  have hRS : S ≤ 3400000 := by have h9 := hR; unfold RI at h9; omega
  refine lv_aload_n hx hb dL_law_1719 rfl (lv_at hl 1 rfl) ?_
  refine lv_aload_n hx hb dL_law_1720 rfl (lv_at hl 0 rfl) ?_
  refine lv_iload hx hb dL_law_1721 (lv_at hl 5 rfl) ?_
  refine lv_iconst (v := 1) hx hb dL_law_1723 (by decide) ?_
  refine lv_iadd hx hb dL_law_1724 ?_
  refine lv_topi (fun v1 e2 => ?_)
  obtain rfl : v1 = nI ((6 * k) + 1) := e2.trans (nI_add (6 * k) 1)
  refine va_sld hx hb hX hbl hbA hS (vp_in_nI (by omega) (by omega)) dL_law_1725 ?_
  refine lv_topi (fun v3 e4 => ?_)
  refine lv_aload hx hb dL_law_1726 (lv_at hl 4 rfl) ?_
  refine va_calli (vx_runSW (As := [.ref o, .int v3, .ref q2]) (rest := []) ⟨hx, hb, hml, hown, hts⟩ (rh_mark l hlt dC dI kA eD b g o q2 v3 (by omega) (by omega)) (vx_cwSW 3 hts gL_law_L_mark rfl rfl rfl (by decide +kernel) ⟨Nat.le_of_ble_eq_true rfl, Nat.le_of_ble_eq_true rfl⟩) ⟨fb_CX, fun U hU hW => ⟨rfl, CX.give hb0 hM hK hG hE hS hU hW⟩⟩ rfl rfl hl.1 rfl (lv_room (Nat.le_of_ble_eq_true rfl)) dL_law_1728 ⟨(show C + 1 ≤ 960594 by omega), (show S + 6 ≤ 6134452 by omega)⟩) hS (fun q _ h => h) (fun q h => h) (fun r5 g7 t H locs ht hvm hw6 hB hz1 hk1 hS => ?_)
  have hM := hB.back ht
  have hG := hB.2.2.2.1
  have hM1 := hM
  have hG1 := hG
  have hkt : ∀ a : Nat, tg g a ≠ 0 → tg g7 a = tg g a := fun a _ => by rw [hw6]
  have ht8 : tg g7 o = 1 := (hkt o (by omega)).trans hto
  have ht9 : tg g7 mo = 17 := (hkt mo (by omega)).trans htm
  have ht10 : tg g7 q = 34 := (hkt q (by omega)).trans htq
  have ht11 : tg g7 q2 = 35 := (hkt q2 (by omega)).trans htq2
  refine lv_istore (lv' := [(6, .int r5), (0, .ref b0), (1, .ref o), (2, .ref mo), (3, .ref q), (4, .ref q2), (5, .int (nI (6 * k)))]) hx hb dL_law_1731 hl (by decide) rfl (fun ls hl => ?_)
  refine lv_aload_n hx hb dL_law_1733 rfl (lv_at hl 3 rfl) ?_
  refine lv_aload_n hx hb dL_law_1734 rfl (lv_at hl 1 rfl) ?_
  refine lv_iload hx hb dL_law_1735 (lv_at hl 6 rfl) ?_
  refine lv_iconst (v := 1) hx hb dL_law_1737 (by decide) ?_
  refine lv_iadd hx hb dL_law_1738 ?_
  refine lv_topi (fun v12 e13 => ?_)
  obtain rfl : v12 = nI ((6 * k) + 1) := e13.trans (nI_add (6 * k) 1)
  refine va_sld hx hb hX hbl hbA hS (vp_in_nI (by omega) (by omega)) dL_law_1739 ?_
  refine lv_topi (fun v14 e15 => ?_)
  obtain rfl : v3 = v14 := e4.trans e15.symm
  obtain ⟨u16, u17, hP, hf⟩ := o_mo (i := 0) (q := mo) hM (by omega)
  refine va_calld (va_runV (As := [.int v3]) (rest := []) ⟨hx, hb, hml, hown, hts⟩ (rmf_mark l dC dI kA eD b g7 mo v3 (by omega)) (cwV 1 hts gL_law_X6_mark rfl rfl rfl (by decide +kernel) ⟨Nat.le_of_ble_eq_true rfl, Nat.le_of_ble_eq_true rfl⟩) ⟨fb_CX, va_recv hK hP (ci := 10) (q0 := 0) rfl rfl, fun U hU hW => ⟨rfl, CX.give hb0 hM hK hG hE hS hU hW⟩⟩ rfl rfl hl.1 rfl (lv_room (Nat.le_of_ble_eq_true rfl)) dL_law_1740 ⟨(show C + 1 + 0 ≤ 960594 by omega), (show S + 6 + 0 ≤ 6134452 by omega)⟩) hS (fun q _ h => h) (fun q h => h) (fun r18 g20 t H locs ht hvm hw19 hB hz1 hk1 hS => ?_)
  have hM := hB.back ht
  have hG := hB.2.2.2.1
  have hlx := lx_N hI (Or.inr hw6) hM1 hG1 hw19 hM hG
  have ht21 : tg g20 o = 1 := hlx.1.2.2.1
  have ht22 : tg g20 mo = 17 := hlx.1.2.2.2.1
  have ht23 : tg g20 q = 34 := hlx.1.2.2.2.2.1
  have ht24 : tg g20 q2 = 35 := hlx.1.2.2.2.2.2.1
  refine lv_dstore (lv' := [(7, .double r18), (6, .int r5), (0, .ref b0), (1, .ref o), (2, .ref mo), (3, .ref q), (4, .ref q2), (5, .int (nI (6 * k)))]) hx hb dL_law_1743 hl (by decide) rfl (fun ls hl => ?_)
  refine lv_goto (tgt := 1913) hx hb dL_law_1745 (by decide) ?_
  exact hnext g20 H _ ls _ _ ⟨hM, hG, hlx.1.2.2⟩ (by have h9 := hlx.2 C S k hR; unfold RI at h9 ⊢; omega) hS (lv_sub hl [2, 3, 4, 5, 6, 7] rfl)

set_option maxHeartbeats 4000000 in
set_option maxRecDepth 100000 in
/-- the law: a call of take -/
theorem case_36 {p : Program} {l : Launch} {e : Env} {s : State} {m : MethodId} {below : List Frame} {meth : Method} {c : Code} (hlt : l.stackTraces = false) {b0 L : Nat} {xs : Nat → Int32} (C0 : lw_At p s m meth c b0 L xs) (hL : L ≤ 3072) (dC : Nat → ClassId) (dI : Nat → Nat → Nat) (kA : Nat → ClassId) (eD b o mo q q2 k : Nat) (hb9 : b = s.heap.size) (hb0 : b ≤ s.heap.size) (hk : 6 * k + 6 ≤ L) (hK : va_K (dC, dI) vwCl (TYS kA) s) (hE : EX eD b s) (hnext : ∀ (g : Gh) (H : Heap) (locs : List Loc) (ls : Array Slot) (C S : Nat), LI (dC, dI) kA b eD o mo q q2 g H → RI g mo C S (k + 1) → va_S (fun q => b ≤ q) s.heap H locs → lv_has ls 9 [(0, .ref b0), (1, .ref o), (2, .ref mo), (3, .ref q), (4, .ref q2), (5, .int (nI (6 * k)))] → W p l e room_1 s m #[Value.ref b0] below meth c H locs C S (lw_Z below #[Value.ref b0] s) (F0 m 1913 ls [])) {g : Gh} {H : Heap} {locs : List Loc} {ls : Array Slot} {C S : Nat} (hI : LI (dC, dI) kA b eD o mo q q2 g H) (hR : RI g mo C S k) (hS : va_S (fun q => b ≤ q) s.heap H locs) (hl : lv_has ls 9 [(0, .ref b0), (1, .ref o), (2, .ref mo), (3, .ref q), (4, .ref q2), (5, .int (nI (6 * k)))]) : W p l e room_1 s m #[Value.ref b0] below meth c H locs C S (lw_Z below #[Value.ref b0] s) (F0 m 1748 ls []) := by
  obtain ⟨hx, hb, hr, hml, hown, hts0, hX, hbl, hlocks, hgv⟩ := id C0
  have hts : ∀ w ∈ wzL_law, w.before #[Value.ref b0] s = true := fun w h => hts0 w (wzL_law_in w h)
  have hbA : ¬ (fun q : Nat => b ≤ q) b0 := by show ¬ b ≤ b0; omega
  have hT := hE.1
  have hN := hE.2.2.2.2.2.2.2.1
  obtain ⟨hM, hG, hto, htm, htq, htq2, -, hed⟩ := id hI
  have hRC : C ≤ 430000 := by have h9 := hR; unfold RI at h9; omega
  have hRS : S ≤ 3400000 := by have h9 := hR; unfold RI at h9; omega
  refine lv_aload_n hx hb dL_law_1748 rfl (lv_at hl 1 rfl) ?_
  refine lv_aload_n hx hb dL_law_1749 rfl (lv_at hl 0 rfl) ?_
  refine lv_iload hx hb dL_law_1750 (lv_at hl 5 rfl) ?_
  refine lv_iconst (v := 1) hx hb dL_law_1752 (by decide) ?_
  refine lv_iadd hx hb dL_law_1753 ?_
  refine lv_topi (fun v1 e2 => ?_)
  obtain rfl : v1 = nI ((6 * k) + 1) := e2.trans (nI_add (6 * k) 1)
  refine va_sld hx hb hX hbl hbA hS (vp_in_nI (by omega) (by omega)) dL_law_1754 ?_
  refine lv_topi (fun v3 e4 => ?_)
  refine lv_aload_n hx hb dL_law_1755 rfl (lv_at hl 0 rfl) ?_
  refine lv_iload hx hb dL_law_1756 (lv_at hl 5 rfl) ?_
  refine lv_iconst (v := 2) hx hb dL_law_1758 (by decide) ?_
  refine lv_iadd hx hb dL_law_1759 ?_
  refine lv_topi (fun v5 e6 => ?_)
  obtain rfl : v5 = nI ((6 * k) + 2) := e6.trans (nI_add (6 * k) 2)
  refine va_sld hx hb hX hbl hbA hS (vp_in_nI (by omega) (by omega)) dL_law_1760 ?_
  refine lv_topi (fun v7 e8 => ?_)
  refine lv_aload_n hx hb dL_law_1761 rfl (lv_at hl 0 rfl) ?_
  refine lv_iload hx hb dL_law_1762 (lv_at hl 5 rfl) ?_
  refine lv_iconst (v := 3) hx hb dL_law_1764 (by decide) ?_
  refine lv_iadd hx hb dL_law_1765 ?_
  refine lv_topi (fun v9 e10 => ?_)
  obtain rfl : v9 = nI ((6 * k) + 3) := e10.trans (nI_add (6 * k) 3)
  refine va_sld hx hb hX hbl hbA hS (vp_in_nI (by omega) (by omega)) dL_law_1766 ?_
  refine lv_topi (fun v11 e12 => ?_)
  refine lv_aload_n hx hb dL_law_1767 rfl (lv_at hl 3 rfl) ?_
  refine va_calli (vx_runSW (As := [.ref o, .int v3, .int v7, .int v11, .ref q]) (rest := []) ⟨hx, hb, hml, hown, hts⟩ (rh_take l hlt dC dI kA eD b g o q v3 v7 v11 (by omega) (by omega)) (vx_cwSW 5 hts gL_law_L_take rfl rfl rfl (by decide +kernel) ⟨Nat.le_of_ble_eq_true rfl, Nat.le_of_ble_eq_true rfl⟩) ⟨fb_CX, fun U hU hW => ⟨rfl, CX.give hb0 hM hK hG hE hS hU hW⟩⟩ rfl rfl hl.1 rfl (lv_room (Nat.le_of_ble_eq_true rfl)) dL_law_1768 ⟨(show C + 1 ≤ 960594 by omega), (show S + 6 ≤ 6134452 by omega)⟩) hS (fun q _ h => h) (fun q h => h) (fun r13 g15 t H locs ht hvm hw14 hB hz1 hk1 hS => ?_)
  have hM := hB.back ht
  have hG := hB.2.2.2.1
  have hM1 := hM
  have hG1 := hG
  have hkt : ∀ a : Nat, tg g a ≠ 0 → tg g15 a = tg g a := fun a _ => by obtain ⟨f9, h9⟩ := hw14; rw [h9]; rfl
  have ht16 : tg g15 o = 1 := (hkt o (by omega)).trans hto
  have ht17 : tg g15 mo = 17 := (hkt mo (by omega)).trans htm
  have ht18 : tg g15 q = 34 := (hkt q (by omega)).trans htq
  have ht19 : tg g15 q2 = 35 := (hkt q2 (by omega)).trans htq2
  refine lv_istore (lv' := [(6, .int r13), (0, .ref b0), (1, .ref o), (2, .ref mo), (3, .ref q), (4, .ref q2), (5, .int (nI (6 * k)))]) hx hb dL_law_1771 hl (by decide) rfl (fun ls hl => ?_)
  refine lv_aload_n hx hb dL_law_1773 rfl (lv_at hl 3 rfl) ?_
  refine lv_aload_n hx hb dL_law_1774 rfl (lv_at hl 1 rfl) ?_
  refine lv_iload hx hb dL_law_1775 (lv_at hl 6 rfl) ?_
  refine lv_iconst (v := 1) hx hb dL_law_1777 (by decide) ?_
  refine lv_iadd hx hb dL_law_1778 ?_
  refine lv_topi (fun v20 e21 => ?_)
  obtain rfl : v20 = nI ((6 * k) + 1) := e21.trans (nI_add (6 * k) 1)
  refine va_sld hx hb hX hbl hbA hS (vp_in_nI (by omega) (by omega)) dL_law_1779 ?_
  refine lv_topi (fun v22 e23 => ?_)
  obtain rfl : v3 = v22 := e4.trans e23.symm
  refine lv_aload_n hx hb dL_law_1780 rfl (lv_at hl 1 rfl) ?_
  refine lv_iload hx hb dL_law_1781 (lv_at hl 6 rfl) ?_
  refine lv_iconst (v := 2) hx hb dL_law_1783 (by decide) ?_
  refine lv_iadd hx hb dL_law_1784 ?_
  refine lv_topi (fun v24 e25 => ?_)
  obtain rfl : v24 = nI ((6 * k) + 2) := e25.trans (nI_add (6 * k) 2)
  refine va_sld hx hb hX hbl hbA hS (vp_in_nI (by omega) (by omega)) dL_law_1785 ?_
  refine lv_topi (fun v26 e27 => ?_)
  obtain rfl : v7 = v26 := e8.trans e27.symm
  refine lv_aload_n hx hb dL_law_1786 rfl (lv_at hl 1 rfl) ?_
  refine lv_iload hx hb dL_law_1787 (lv_at hl 6 rfl) ?_
  refine lv_iconst (v := 3) hx hb dL_law_1789 (by decide) ?_
  refine lv_iadd hx hb dL_law_1790 ?_
  refine lv_topi (fun v28 e29 => ?_)
  obtain rfl : v28 = nI ((6 * k) + 3) := e29.trans (nI_add (6 * k) 3)
  refine va_sld hx hb hX hbl hbA hS (vp_in_nI (by omega) (by omega)) dL_law_1791 ?_
  refine lv_topi (fun v30 e31 => ?_)
  obtain rfl : v11 = v30 := e12.trans e31.symm
  obtain ⟨u32, u33, hP, hf⟩ := o_mo (i := 0) (q := mo) hM (by omega)
  refine W.know (fun hkn1 hkn2 => ?_)
  refine va_calli (va_runV (As := [.int v3, .int v7, .int v11]) (rest := []) ⟨hx, hb, hml, hown, hts⟩ (rmf_take l dC dI kA eD b g15 H.size (SH H) mo v3 v7 v11 (by omega)) (cwV 3 hts gL_law_X6_take rfl rfl rfl (by decide +kernel) ⟨Nat.le_of_ble_eq_true rfl, Nat.le_of_ble_eq_true rfl⟩) ⟨fb_CXs, va_recv hK hP (ci := 10) (q0 := 0) rfl rfl, fun U hU hW => ⟨rfl, CXs.give hb0 hM hK hG hE hS hU hW⟩⟩ rfl rfl hl.1 rfl (lv_room (Nat.le_of_ble_eq_true rfl)) dL_law_1792 ⟨(show C + 1 + 730 ≤ 960594 by omega), (show S + 6 + 5600 ≤ 6134452 by omega)⟩) hS (fun q _ h => h) (fun q h => h) (fun r34 g36 t H locs ht hvm hw35 hB hz1 hk1 hS => ?_)
  have hM := hB.1.back ht
  have hG := hB.1.2.2.2.1
  obtain ⟨g36, d9⟩ := g36
  have hgr := hB.2
  rw [ht] at hgr
  have hgr1 : H.size ≤ _ + (20 + 14 * (1 + d9)) := hgr.1
  have hgr2 : SH H ≤ _ + (120 + 108 * (1 + d9)) := hgr.2
  refine W.shrink (k := C + 1 + 14 * d9 + 40) (n := S + 6 + 108 * d9 + 240) (by omega) (by omega) ?_
  have hlx := lx_G (u2 := g36) (d9 := d9) hI (Or.inl hw14) hM1 hG1 hw35 hM hG
  have ht37 : tg g36 o = 1 := hlx.1.2.2.1
  have ht38 : tg g36 mo = 17 := hlx.1.2.2.2.1
  have ht39 : tg g36 q = 34 := hlx.1.2.2.2.2.1
  have ht40 : tg g36 q2 = 35 := hlx.1.2.2.2.2.2.1
  refine lv_istore (lv' := [(7, .int r34), (6, .int r13), (0, .ref b0), (1, .ref o), (2, .ref mo), (3, .ref q), (4, .ref q2), (5, .int (nI (6 * k)))]) hx hb dL_law_1795 hl (by decide) rfl (fun ls hl => ?_)
  refine lv_goto (tgt := 1913) hx hb dL_law_1797 (by decide) ?_
  exact hnext g36 H _ ls _ _ ⟨hM, hG, hlx.1.2.2⟩ (hlx.2 C S k _ _ hR (by omega) (by omega)) hS (lv_sub hl [2, 3, 4, 5, 6, 7] rfl)

set_option maxHeartbeats 4000000 in
set_option maxRecDepth 100000 in
/-- the law: a call of money -/
theorem case_37 {p : Program} {l : Launch} {e : Env} {s : State} {m : MethodId} {below : List Frame} {meth : Method} {c : Code} (hlt : l.stackTraces = false) {b0 L : Nat} {xs : Nat → Int32} (C0 : lw_At p s m meth c b0 L xs) (hL : L ≤ 3072) (dC : Nat → ClassId) (dI : Nat → Nat → Nat) (kA : Nat → ClassId) (eD b o mo q q2 k : Nat) (hb9 : b = s.heap.size) (hb0 : b ≤ s.heap.size) (hk : 6 * k + 6 ≤ L) (hK : va_K (dC, dI) vwCl (TYS kA) s) (hE : EX eD b s) (hnext : ∀ (g : Gh) (H : Heap) (locs : List Loc) (ls : Array Slot) (C S : Nat), LI (dC, dI) kA b eD o mo q q2 g H → RI g mo C S (k + 1) → va_S (fun q => b ≤ q) s.heap H locs → lv_has ls 9 [(0, .ref b0), (1, .ref o), (2, .ref mo), (3, .ref q), (4, .ref q2), (5, .int (nI (6 * k)))] → W p l e room_1 s m #[Value.ref b0] below meth c H locs C S (lw_Z below #[Value.ref b0] s) (F0 m 1913 ls [])) {g : Gh} {H : Heap} {locs : List Loc} {ls : Array Slot} {C S : Nat} (hI : LI (dC, dI) kA b eD o mo q q2 g H) (hR : RI g mo C S k) (hS : va_S (fun q => b ≤ q) s.heap H locs) (hl : lv_has ls 9 [(0, .ref b0), (1, .ref o), (2, .ref mo), (3, .ref q), (4, .ref q2), (5, .int (nI (6 * k)))]) : W p l e room_1 s m #[Value.ref b0] below meth c H locs C S (lw_Z below #[Value.ref b0] s) (F0 m 1800 ls []) := by
  obtain ⟨hx, hb, hr, hml, hown, hts0, hX, hbl, hlocks, hgv⟩ := id C0
  have hts : ∀ w ∈ wzL_law, w.before #[Value.ref b0] s = true := fun w h => hts0 w (wzL_law_in w h)
  have hbA : ¬ (fun q : Nat => b ≤ q) b0 := by show ¬ b ≤ b0; omega
  have hT := hE.1
  have hN := hE.2.2.2.2.2.2.2.1
  obtain ⟨hM, hG, hto, htm, htq, htq2, -, hed⟩ := id hI
  have hRC : C ≤ 430000 := by have h9 := hR; unfold RI at h9; omega
  have hRS : S ≤ 3400000 := by have h9 := hR; unfold RI at h9; omega
  refine lv_aload_n hx hb dL_law_1800 rfl (lv_at hl 1 rfl) ?_
  obtain ⟨u1, u2, u3, u4, hP, hf⟩ := o_sno (i := 0) (q := o) hM (by omega)
  refine va_calli (va_runV (As := []) (rest := []) ⟨hx, hb, hml, hown, hts⟩ (rf_money l dC dI kA eD b g o  (by omega)) (cwV 0 hts gL_law_X3_money rfl rfl rfl (by decide +kernel) ⟨Nat.le_of_ble_eq_true rfl, Nat.le_of_ble_eq_true rfl⟩) ⟨fb_CX, va_recv hK hP (ci := 7) (q0 := 0) rfl rfl, fun U hU hW => ⟨rfl, CX.give hb0 hM hK hG hE hS hU hW⟩⟩ rfl rfl hl.1 rfl (lv_room (Nat.le_of_ble_eq_true rfl)) dL_law_1801 ⟨(show C + 0 ≤ 960594 by omega), (show S + 0 ≤ 6134452 by omega)⟩) hS (fun q _ h => h) (fun q h => h) (fun r5 u t H locs ht hvm hw6 hB hz1 hk1 hS => ?_)
  have hM := hB.back ht
  have hG := hB.2.2.2.1
  have hM1 := hM
  have hG1 := hG
  have hu1 : g = g := rfl
  refine lv_pop hx hb dL_law_1804 rfl ?_
  refine lv_aload_n hx hb dL_law_1805 rfl (lv_at hl 2 rfl) ?_
  obtain ⟨u7, u8, hP, hf⟩ := o_mo (i := 0) (q := mo) hM (by omega)
  refine va_calli (va_runV (As := []) (rest := []) ⟨hx, hb, hml, hown, hts⟩ (rmf_money l dC dI kA eD b g mo  (by omega)) (cwV 0 hts gL_law_X6_money rfl rfl rfl (by decide +kernel) ⟨Nat.le_of_ble_eq_true rfl, Nat.le_of_ble_eq_true rfl⟩) ⟨fb_CX, va_recv hK hP (ci := 10) (q0 := 0) rfl rfl, fun U hU hW => ⟨rfl, CX.give hb0 hM hK hG hE hS hU hW⟩⟩ rfl rfl hl.1 rfl (lv_room (Nat.le_of_ble_eq_true rfl)) dL_law_1806 ⟨(show C + 0 ≤ 960594 by omega), (show S + 0 ≤ 6134452 by omega)⟩) hS (fun q _ h => h) (fun q h => h) (fun r9 g11 t H locs ht hvm hw10 hB hz1 hk1 hS => ?_)
  have hM := hB.back ht
  have hG := hB.2.2.2.1
  have hlx := lx_N hI (Or.inr hu1) hM1 hG1 hw10 hM hG
  have ht12 : tg g11 o = 1 := hlx.1.2.2.1
  have ht13 : tg g11 mo = 17 := hlx.1.2.2.2.1
  have ht14 : tg g11 q = 34 := hlx.1.2.2.2.2.1
  have ht15 : tg g11 q2 = 35 := hlx.1.2.2.2.2.2.1
  refine lv_pop hx hb dL_law_1809 rfl ?_
  refine lv_goto (tgt := 1913) hx hb dL_law_1810 (by decide) ?_
  exact hnext g11 H _ ls _ _ ⟨hM, hG, hlx.1.2.2⟩ (by have h9 := hlx.2 C S k hR; unfold RI at h9 ⊢; omega) hS (lv_sub hl [0, 1, 2, 3, 4, 5] rfl)

set_option maxHeartbeats 4000000 in
set_option maxRecDepth 100000 in
/-- the law: a call of count -/
theorem case_38 {p : Program} {l : Launch} {e : Env} {s : State} {m : MethodId} {below : List Frame} {meth : Method} {c : Code} (hlt : l.stackTraces = false) {b0 L : Nat} {xs : Nat → Int32} (C0 : lw_At p s m meth c b0 L xs) (hL : L ≤ 3072) (dC : Nat → ClassId) (dI : Nat → Nat → Nat) (kA : Nat → ClassId) (eD b o mo q q2 k : Nat) (hb9 : b = s.heap.size) (hb0 : b ≤ s.heap.size) (hk : 6 * k + 6 ≤ L) (hK : va_K (dC, dI) vwCl (TYS kA) s) (hE : EX eD b s) (hnext : ∀ (g : Gh) (H : Heap) (locs : List Loc) (ls : Array Slot) (C S : Nat), LI (dC, dI) kA b eD o mo q q2 g H → RI g mo C S (k + 1) → va_S (fun q => b ≤ q) s.heap H locs → lv_has ls 9 [(0, .ref b0), (1, .ref o), (2, .ref mo), (3, .ref q), (4, .ref q2), (5, .int (nI (6 * k)))] → W p l e room_1 s m #[Value.ref b0] below meth c H locs C S (lw_Z below #[Value.ref b0] s) (F0 m 1913 ls [])) {g : Gh} {H : Heap} {locs : List Loc} {ls : Array Slot} {C S : Nat} (hI : LI (dC, dI) kA b eD o mo q q2 g H) (hR : RI g mo C S k) (hS : va_S (fun q => b ≤ q) s.heap H locs) (hl : lv_has ls 9 [(0, .ref b0), (1, .ref o), (2, .ref mo), (3, .ref q), (4, .ref q2), (5, .int (nI (6 * k)))]) : W p l e room_1 s m #[Value.ref b0] below meth c H locs C S (lw_Z below #[Value.ref b0] s) (F0 m 1813 ls []) := by
  obtain ⟨hx, hb, hr, hml, hown, hts0, hX, hbl, hlocks, hgv⟩ := id C0
  have hts : ∀ w ∈ wzL_law, w.before #[Value.ref b0] s = true := fun w h => hts0 w (wzL_law_in w h)
  have hbA : ¬ (fun q : Nat => b ≤ q) b0 := by show ¬ b ≤ b0; omega
  have hT := hE.1
  have hN := hE.2.2.2.2.2.2.2.1
  obtain ⟨hM, hG, hto, htm, htq, htq2, -, hed⟩ := id hI
  have hRC : C ≤ 430000 := by have h9 := hR; unfold RI at h9; omega
  have hRS : S ≤ 3400000 := by have h9 := hR; unfold RI at h9; omega
  refine lv_aload_n hx hb dL_law_1813 rfl (lv_at hl 1 rfl) ?_
  refine lv_aload_n hx hb dL_law_1814 rfl (lv_at hl 0 rfl) ?_
  refine lv_iload hx hb dL_law_1815 (lv_at hl 5 rfl) ?_
  refine lv_iconst (v := 1) hx hb dL_law_1817 (by decide) ?_
  refine lv_iadd hx hb dL_law_1818 ?_
  refine lv_topi (fun v1 e2 => ?_)
  obtain rfl : v1 = nI ((6 * k) + 1) := e2.trans (nI_add (6 * k) 1)
  refine va_sld hx hb hX hbl hbA hS (vp_in_nI (by omega) (by omega)) dL_law_1819 ?_
  refine lv_topi (fun v3 e4 => ?_)
  refine lv_aload_n hx hb dL_law_1820 rfl (lv_at hl 3 rfl) ?_
  refine va_calli (vx_runSW (As := [.ref o, .int v3, .ref q]) (rest := []) ⟨hx, hb, hml, hown, hts⟩ (rh_count l hlt dC dI kA eD b g o q v3 (by omega) (by omega)) (vx_cwSW 3 hts gL_law_L_count rfl rfl rfl (by decide +kernel) ⟨Nat.le_of_ble_eq_true rfl, Nat.le_of_ble_eq_true rfl⟩) ⟨fb_CX, fun U hU hW => ⟨rfl, CX.give hb0 hM hK hG hE hS hU hW⟩⟩ rfl rfl hl.1 rfl (lv_room (Nat.le_of_ble_eq_true rfl)) dL_law_1821 ⟨(show C + 1 ≤ 960594 by omega), (show S + 6 ≤ 6134452 by omega)⟩) hS (fun q _ h => h) (fun q h => h) (fun r5 g7 t H locs ht hvm hw6 hB hz1 hk1 hS => ?_)
  have hM := hB.back ht
  have hG := hB.2.2.2.1
  have hM1 := hM
  have hG1 := hG
  have hkt : ∀ a : Nat, tg g a ≠ 0 → tg g7 a = tg g a := fun a _ => by obtain ⟨f9, h9⟩ := hw6; rw [h9]; rfl
  have ht8 : tg g7 o = 1 := (hkt o (by omega)).trans hto
  have ht9 : tg g7 mo = 17 := (hkt mo (by omega)).trans htm
  have ht10 : tg g7 q = 34 := (hkt q (by omega)).trans htq
  have ht11 : tg g7 q2 = 35 := (hkt q2 (by omega)).trans htq2
  refine lv_istore (lv' := [(6, .int r5), (0, .ref b0), (1, .ref o), (2, .ref mo), (3, .ref q), (4, .ref q2), (5, .int (nI (6 * k)))]) hx hb dL_law_1824 hl (by decide) rfl (fun ls hl => ?_)
  refine lv_aload_n hx hb dL_law_1826 rfl (lv_at hl 3 rfl) ?_
  refine lv_aload_n hx hb dL_law_1827 rfl (lv_at hl 1 rfl) ?_
  refine lv_iload hx hb dL_law_1828 (lv_at hl 6 rfl) ?_
  refine lv_iconst (v := 1) hx hb dL_law_1830 (by decide) ?_
  refine lv_iadd hx hb dL_law_1831 ?_
  refine lv_topi (fun v12 e13 => ?_)
  obtain rfl : v12 = nI ((6 * k) + 1) := e13.trans (nI_add (6 * k) 1)
  refine va_sld hx hb hX hbl hbA hS (vp_in_nI (by omega) (by omega)) dL_law_1832 ?_
  refine lv_topi (fun v14 e15 => ?_)
  obtain rfl : v3 = v14 := e4.trans e15.symm
  obtain ⟨u16, u17, hP, hf⟩ := o_mo (i := 0) (q := mo) hM (by omega)
  refine va_calli (va_runV (As := [.int v3]) (rest := []) ⟨hx, hb, hml, hown, hts⟩ (rmf_count l dC dI kA eD b g7 mo v3 (by omega)) (cwV 1 hts gL_law_X6_count rfl rfl rfl (by decide +kernel) ⟨Nat.le_of_ble_eq_true rfl, Nat.le_of_ble_eq_true rfl⟩) ⟨fb_CX, va_recv hK hP (ci := 10) (q0 := 0) rfl rfl, fun U hU hW => ⟨rfl, CX.give hb0 hM hK hG hE hS hU hW⟩⟩ rfl rfl hl.1 rfl (lv_room (Nat.le_of_ble_eq_true rfl)) dL_law_1833 ⟨(show C + 1 + 0 ≤ 960594 by omega), (show S + 6 + 0 ≤ 6134452 by omega)⟩) hS (fun q _ h => h) (fun q h => h) (fun r18 g20 t H locs ht hvm hw19 hB hz1 hk1 hS => ?_)
  have hM := hB.back ht
  have hG := hB.2.2.2.1
  have hlx := lx_N hI (Or.inl hw6) hM1 hG1 hw19 hM hG
  have ht21 : tg g20 o = 1 := hlx.1.2.2.1
  have ht22 : tg g20 mo = 17 := hlx.1.2.2.2.1
  have ht23 : tg g20 q = 34 := hlx.1.2.2.2.2.1
  have ht24 : tg g20 q2 = 35 := hlx.1.2.2.2.2.2.1
  refine lv_istore (lv' := [(7, .int r18), (6, .int r5), (0, .ref b0), (1, .ref o), (2, .ref mo), (3, .ref q), (4, .ref q2), (5, .int (nI (6 * k)))]) hx hb dL_law_1836 hl (by decide) rfl (fun ls hl => ?_)
  refine lv_goto (tgt := 1913) hx hb dL_law_1838 (by decide) ?_
  exact hnext g20 H _ ls _ _ ⟨hM, hG, hlx.1.2.2⟩ (by have h9 := hlx.2 C S k hR; unfold RI at h9 ⊢; omega) hS (lv_sub hl [2, 3, 4, 5, 6, 7] rfl)

set_option maxHeartbeats 4000000 in
set_option maxRecDepth 100000 in
/-- the law: a call of openShare -/
theorem case_39 {p : Program} {l : Launch} {e : Env} {s : State} {m : MethodId} {below : List Frame} {meth : Method} {c : Code} (hlt : l.stackTraces = false) {b0 L : Nat} {xs : Nat → Int32} (C0 : lw_At p s m meth c b0 L xs) (hL : L ≤ 3072) (dC : Nat → ClassId) (dI : Nat → Nat → Nat) (kA : Nat → ClassId) (eD b o mo q q2 k : Nat) (hb9 : b = s.heap.size) (hb0 : b ≤ s.heap.size) (hk : 6 * k + 6 ≤ L) (hK : va_K (dC, dI) vwCl (TYS kA) s) (hE : EX eD b s) (hnext : ∀ (g : Gh) (H : Heap) (locs : List Loc) (ls : Array Slot) (C S : Nat), LI (dC, dI) kA b eD o mo q q2 g H → RI g mo C S (k + 1) → va_S (fun q => b ≤ q) s.heap H locs → lv_has ls 9 [(0, .ref b0), (1, .ref o), (2, .ref mo), (3, .ref q), (4, .ref q2), (5, .int (nI (6 * k)))] → W p l e room_1 s m #[Value.ref b0] below meth c H locs C S (lw_Z below #[Value.ref b0] s) (F0 m 1913 ls [])) {g : Gh} {H : Heap} {locs : List Loc} {ls : Array Slot} {C S : Nat} (hI : LI (dC, dI) kA b eD o mo q q2 g H) (hR : RI g mo C S k) (hS : va_S (fun q => b ≤ q) s.heap H locs) (hl : lv_has ls 9 [(0, .ref b0), (1, .ref o), (2, .ref mo), (3, .ref q), (4, .ref q2), (5, .int (nI (6 * k)))]) : W p l e room_1 s m #[Value.ref b0] below meth c H locs C S (lw_Z below #[Value.ref b0] s) (F0 m 1841 ls []) := by
  obtain ⟨hx, hb, hr, hml, hown, hts0, hX, hbl, hlocks, hgv⟩ := id C0
  have hts : ∀ w ∈ wzL_law, w.before #[Value.ref b0] s = true := fun w h => hts0 w (wzL_law_in w h)
  have hbA : ¬ (fun q : Nat => b ≤ q) b0 := by show ¬ b ≤ b0; omega
  have hT := hE.1
  have hN := hE.2.2.2.2.2.2.2.1
  obtain ⟨hM, hG, hto, htm, htq, htq2, -, hed⟩ := id hI
  have hRC : C ≤ 430000 := by have h9 := hR; unfold RI at h9; omega
  have hRS : S ≤ 3400000 := by have h9 := hR; unfold RI at h9; omega
  refine lv_aload_n hx hb dL_law_1841 rfl (lv_at hl 1 rfl) ?_
  refine lv_aload hx hb dL_law_1842 (lv_at hl 4 rfl) ?_
  refine va_calli (vx_runSW (As := [.ref o, .ref q2]) (rest := []) ⟨hx, hb, hml, hown, hts⟩ (rh_openShare l hlt dC dI kA eD b g o q2  (by omega) (by omega)) (vx_cwSW 2 hts gL_law_L_openShare rfl rfl rfl (by decide +kernel) ⟨Nat.le_of_ble_eq_true rfl, Nat.le_of_ble_eq_true rfl⟩) ⟨fb_CX, fun U hU hW => ⟨rfl, CX.give hb0 hM hK hG hE hS hU hW⟩⟩ rfl rfl hl.1 rfl (lv_room (Nat.le_of_ble_eq_true rfl)) dL_law_1844 ⟨(show C + 1 ≤ 960594 by omega), (show S + 6 ≤ 6134452 by omega)⟩) hS (fun q _ h => h) (fun q h => h) (fun r1 g3 t H locs ht hvm hw2 hB hz1 hk1 hS => ?_)
  have hM := hB.back ht
  have hG := hB.2.2.2.1
  have hM1 := hM
  have hG1 := hG
  have hkt : ∀ a : Nat, tg g a ≠ 0 → tg g3 a = tg g a := fun a _ => by rw [hw2]
  have ht4 : tg g3 o = 1 := (hkt o (by omega)).trans hto
  have ht5 : tg g3 mo = 17 := (hkt mo (by omega)).trans htm
  have ht6 : tg g3 q = 34 := (hkt q (by omega)).trans htq
  have ht7 : tg g3 q2 = 35 := (hkt q2 (by omega)).trans htq2
  refine lv_istore (lv' := [(6, .int r1), (0, .ref b0), (1, .ref o), (2, .ref mo), (3, .ref q), (4, .ref q2), (5, .int (nI (6 * k)))]) hx hb dL_law_1847 hl (by decide) rfl (fun ls hl => ?_)
  refine lv_aload_n hx hb dL_law_1849 rfl (lv_at hl 3 rfl) ?_
  obtain ⟨u8, u9, hP, hf⟩ := o_mo (i := 0) (q := mo) hM (by omega)
  refine va_callf (va_runV (As := []) (rest := []) ⟨hx, hb, hml, hown, hts⟩ (rmf_openShare l dC dI kA eD b g3 mo  (by omega)) (cwV 0 hts gL_law_X6_openShare rfl rfl rfl (by decide +kernel) ⟨Nat.le_of_ble_eq_true rfl, Nat.le_of_ble_eq_true rfl⟩) ⟨fb_CX, va_recv hK hP (ci := 10) (q0 := 0) rfl rfl, fun U hU hW => ⟨rfl, CX.give hb0 hM hK hG hE hS hU hW⟩⟩ rfl rfl hl.1 rfl (lv_room (Nat.le_of_ble_eq_true rfl)) dL_law_1850 ⟨(show C + 1 + 24 ≤ 960594 by omega), (show S + 6 + 170 ≤ 6134452 by omega)⟩) hS (fun q _ h => h) (fun q h => h) (fun r10 g12 t H locs ht hvm hw11 hB hz1 hk1 hS => ?_)
  have hM := hB.back ht
  have hG := hB.2.2.2.1
  have hlx := lx_N hI (Or.inr hw2) hM1 hG1 hw11 hM hG
  have ht13 : tg g12 o = 1 := hlx.1.2.2.1
  have ht14 : tg g12 mo = 17 := hlx.1.2.2.2.1
  have ht15 : tg g12 q = 34 := hlx.1.2.2.2.2.1
  have ht16 : tg g12 q2 = 35 := hlx.1.2.2.2.2.2.1
  refine lv_fstore (lv' := [(7, .float r10), (6, .int r1), (0, .ref b0), (1, .ref o), (2, .ref mo), (3, .ref q), (4, .ref q2), (5, .int (nI (6 * k)))]) hx hb dL_law_1853 hl (by decide) rfl (fun ls hl => ?_)
  refine lv_goto (tgt := 1913) hx hb dL_law_1855 (by decide) ?_
  exact hnext g12 H _ ls _ _ ⟨hM, hG, hlx.1.2.2⟩ (by have h9 := hlx.2 C S k hR; unfold RI at h9 ⊢; omega) hS (lv_sub hl [2, 3, 4, 5, 6, 7] rfl)

set_option maxHeartbeats 4000000 in
set_option maxRecDepth 100000 in
/-- the law: a call of meanCreep -/
theorem case_40 {p : Program} {l : Launch} {e : Env} {s : State} {m : MethodId} {below : List Frame} {meth : Method} {c : Code} (hlt : l.stackTraces = false) {b0 L : Nat} {xs : Nat → Int32} (C0 : lw_At p s m meth c b0 L xs) (hL : L ≤ 3072) (dC : Nat → ClassId) (dI : Nat → Nat → Nat) (kA : Nat → ClassId) (eD b o mo q q2 k : Nat) (hb9 : b = s.heap.size) (hb0 : b ≤ s.heap.size) (hk : 6 * k + 6 ≤ L) (hK : va_K (dC, dI) vwCl (TYS kA) s) (hE : EX eD b s) (hnext : ∀ (g : Gh) (H : Heap) (locs : List Loc) (ls : Array Slot) (C S : Nat), LI (dC, dI) kA b eD o mo q q2 g H → RI g mo C S (k + 1) → va_S (fun q => b ≤ q) s.heap H locs → lv_has ls 9 [(0, .ref b0), (1, .ref o), (2, .ref mo), (3, .ref q), (4, .ref q2), (5, .int (nI (6 * k)))] → W p l e room_1 s m #[Value.ref b0] below meth c H locs C S (lw_Z below #[Value.ref b0] s) (F0 m 1913 ls [])) {g : Gh} {H : Heap} {locs : List Loc} {ls : Array Slot} {C S : Nat} (hI : LI (dC, dI) kA b eD o mo q q2 g H) (hR : RI g mo C S k) (hS : va_S (fun q => b ≤ q) s.heap H locs) (hl : lv_has ls 9 [(0, .ref b0), (1, .ref o), (2, .ref mo), (3, .ref q), (4, .ref q2), (5, .int (nI (6 * k)))]) : W p l e room_1 s m #[Value.ref b0] below meth c H locs C S (lw_Z below #[Value.ref b0] s) (F0 m 1858 ls []) := by
  obtain ⟨hx, hb, hr, hml, hown, hts0, hX, hbl, hlocks, hgv⟩ := id C0
  have hts : ∀ w ∈ wzL_law, w.before #[Value.ref b0] s = true := fun w h => hts0 w (wzL_law_in w h)
  have hbA : ¬ (fun q : Nat => b ≤ q) b0 := by show ¬ b ≤ b0; omega
  have hT := hE.1
  have hN := hE.2.2.2.2.2.2.2.1
  obtain ⟨hM, hG, hto, htm, htq, htq2, -, hed⟩ := id hI
  have hRC : C ≤ 430000 := by have h9 := hR; unfold RI at h9; omega
  have hRS : S ≤ 3400000 := by have h9 := hR; unfold RI at h9; omega
  refine lv_aload_n hx hb dL_law_1858 rfl (lv_at hl 1 rfl) ?_
  refine lv_aload_n hx hb dL_law_1859 rfl (lv_at hl 0 rfl) ?_
  refine lv_iload hx hb dL_law_1860 (lv_at hl 5 rfl) ?_
  refine lv_iconst (v := 1) hx hb dL_law_1862 (by decide) ?_
  refine lv_iadd hx hb dL_law_1863 ?_
  refine lv_topi (fun v1 e2 => ?_)
  obtain rfl : v1 = nI ((6 * k) + 1) := e2.trans (nI_add (6 * k) 1)
  refine va_sld hx hb hX hbl hbA hS (vp_in_nI (by omega) (by omega)) dL_law_1864 ?_
  refine lv_topi (fun v3 e4 => ?_)
  refine lv_aload hx hb dL_law_1865 (lv_at hl 4 rfl) ?_
  refine va_calli (vx_runSW (As := [.ref o, .int v3, .ref q2]) (rest := []) ⟨hx, hb, hml, hown, hts⟩ (rh_meanCreep l hlt dC dI kA eD b g o q2 v3 (by omega) (by omega)) (vx_cwSW 3 hts gL_law_L_meanCreep rfl rfl rfl (by decide +kernel) ⟨Nat.le_of_ble_eq_true rfl, Nat.le_of_ble_eq_true rfl⟩) ⟨fb_CX, fun U hU hW => ⟨rfl, CX.give hb0 hM hK hG hE hS hU hW⟩⟩ rfl rfl hl.1 rfl (lv_room (Nat.le_of_ble_eq_true rfl)) dL_law_1867 ⟨(show C + 1 ≤ 960594 by omega), (show S + 6 ≤ 6134452 by omega)⟩) hS (fun q _ h => h) (fun q h => h) (fun r5 g7 t H locs ht hvm hw6 hB hz1 hk1 hS => ?_)
  have hM := hB.back ht
  have hG := hB.2.2.2.1
  have hM1 := hM
  have hG1 := hG
  have hkt : ∀ a : Nat, tg g a ≠ 0 → tg g7 a = tg g a := fun a _ => by rw [hw6]
  have ht8 : tg g7 o = 1 := (hkt o (by omega)).trans hto
  have ht9 : tg g7 mo = 17 := (hkt mo (by omega)).trans htm
  have ht10 : tg g7 q = 34 := (hkt q (by omega)).trans htq
  have ht11 : tg g7 q2 = 35 := (hkt q2 (by omega)).trans htq2
  refine lv_istore (lv' := [(6, .int r5), (0, .ref b0), (1, .ref o), (2, .ref mo), (3, .ref q), (4, .ref q2), (5, .int (nI (6 * k)))]) hx hb dL_law_1870 hl (by decide) rfl (fun ls hl => ?_)
  refine lv_aload_n hx hb dL_law_1872 rfl (lv_at hl 3 rfl) ?_
  refine lv_aload_n hx hb dL_law_1873 rfl (lv_at hl 1 rfl) ?_
  refine lv_iload hx hb dL_law_1874 (lv_at hl 6 rfl) ?_
  refine lv_iconst (v := 1) hx hb dL_law_1876 (by decide) ?_
  refine lv_iadd hx hb dL_law_1877 ?_
  refine lv_topi (fun v12 e13 => ?_)
  obtain rfl : v12 = nI ((6 * k) + 1) := e13.trans (nI_add (6 * k) 1)
  refine va_sld hx hb hX hbl hbA hS (vp_in_nI (by omega) (by omega)) dL_law_1878 ?_
  refine lv_topi (fun v14 e15 => ?_)
  obtain rfl : v3 = v14 := e4.trans e15.symm
  obtain ⟨u16, u17, hP, hf⟩ := o_mo (i := 0) (q := mo) hM (by omega)
  refine va_calld (va_runV (As := [.int v3]) (rest := []) ⟨hx, hb, hml, hown, hts⟩ (rmf_meanCreep l dC dI kA eD b g7 mo v3 (by omega)) (cwV 1 hts gL_law_X6_meanCreep rfl rfl rfl (by decide +kernel) ⟨Nat.le_of_ble_eq_true rfl, Nat.le_of_ble_eq_true rfl⟩) ⟨fb_CX, va_recv hK hP (ci := 10) (q0 := 0) rfl rfl, fun U hU hW => ⟨rfl, CX.give hb0 hM hK hG hE hS hU hW⟩⟩ rfl rfl hl.1 rfl (lv_room (Nat.le_of_ble_eq_true rfl)) dL_law_1879 ⟨(show C + 1 + 0 ≤ 960594 by omega), (show S + 6 + 0 ≤ 6134452 by omega)⟩) hS (fun q _ h => h) (fun q h => h) (fun r18 g20 t H locs ht hvm hw19 hB hz1 hk1 hS => ?_)
  have hM := hB.back ht
  have hG := hB.2.2.2.1
  have hlx := lx_N hI (Or.inr hw6) hM1 hG1 hw19 hM hG
  have ht21 : tg g20 o = 1 := hlx.1.2.2.1
  have ht22 : tg g20 mo = 17 := hlx.1.2.2.2.1
  have ht23 : tg g20 q = 34 := hlx.1.2.2.2.2.1
  have ht24 : tg g20 q2 = 35 := hlx.1.2.2.2.2.2.1
  refine lv_dstore (lv' := [(7, .double r18), (6, .int r5), (0, .ref b0), (1, .ref o), (2, .ref mo), (3, .ref q), (4, .ref q2), (5, .int (nI (6 * k)))]) hx hb dL_law_1882 hl (by decide) rfl (fun ls hl => ?_)
  refine lv_goto (tgt := 1913) hx hb dL_law_1884 (by decide) ?_
  exact hnext g20 H _ ls _ _ ⟨hM, hG, hlx.1.2.2⟩ (by have h9 := hlx.2 C S k hR; unfold RI at h9 ⊢; omega) hS (lv_sub hl [2, 3, 4, 5, 6, 7] rfl)

set_option maxHeartbeats 4000000 in
set_option maxRecDepth 100000 in
/-- the law: a call of checksum -/
theorem case_41 {p : Program} {l : Launch} {e : Env} {s : State} {m : MethodId} {below : List Frame} {meth : Method} {c : Code} (hlt : l.stackTraces = false) {b0 L : Nat} {xs : Nat → Int32} (C0 : lw_At p s m meth c b0 L xs) (hL : L ≤ 3072) (dC : Nat → ClassId) (dI : Nat → Nat → Nat) (kA : Nat → ClassId) (eD b o mo q q2 k : Nat) (hb9 : b = s.heap.size) (hb0 : b ≤ s.heap.size) (hk : 6 * k + 6 ≤ L) (hK : va_K (dC, dI) vwCl (TYS kA) s) (hE : EX eD b s) (hnext : ∀ (g : Gh) (H : Heap) (locs : List Loc) (ls : Array Slot) (C S : Nat), LI (dC, dI) kA b eD o mo q q2 g H → RI g mo C S (k + 1) → va_S (fun q => b ≤ q) s.heap H locs → lv_has ls 9 [(0, .ref b0), (1, .ref o), (2, .ref mo), (3, .ref q), (4, .ref q2), (5, .int (nI (6 * k)))] → W p l e room_1 s m #[Value.ref b0] below meth c H locs C S (lw_Z below #[Value.ref b0] s) (F0 m 1913 ls [])) {g : Gh} {H : Heap} {locs : List Loc} {ls : Array Slot} {C S : Nat} (hI : LI (dC, dI) kA b eD o mo q q2 g H) (hR : RI g mo C S k) (hS : va_S (fun q => b ≤ q) s.heap H locs) (hl : lv_has ls 9 [(0, .ref b0), (1, .ref o), (2, .ref mo), (3, .ref q), (4, .ref q2), (5, .int (nI (6 * k)))]) : W p l e room_1 s m #[Value.ref b0] below meth c H locs C S (lw_Z below #[Value.ref b0] s) (F0 m 1887 ls []) := by
  obtain ⟨hx, hb, hr, hml, hown, hts0, hX, hbl, hlocks, hgv⟩ := id C0
  have hts : ∀ w ∈ wzL_law, w.before #[Value.ref b0] s = true := fun w h => hts0 w (wzL_law_in w h)
  have hbA : ¬ (fun q : Nat => b ≤ q) b0 := by show ¬ b ≤ b0; omega
  have hT := hE.1
  have hN := hE.2.2.2.2.2.2.2.1
  obtain ⟨hM, hG, hto, htm, htq, htq2, -, hed⟩ := id hI
  have hRC : C ≤ 430000 := by have h9 := hR; unfold RI at h9; omega
  have hRS : S ≤ 3400000 := by have h9 := hR; unfold RI at h9; omega
  refine lv_aload_n hx hb dL_law_1887 rfl (lv_at hl 1 rfl) ?_
  obtain ⟨u1, u2, u3, u4, hP, hf⟩ := o_sno (i := 0) (q := o) hM (by omega)
  refine va_calll (va_runV (As := []) (rest := []) ⟨hx, hb, hml, hown, hts⟩ (rf_checksum l dC dI kA eD b g o  (by omega)) (cwV 0 hts gL_law_X3_checksum rfl rfl rfl (by decide +kernel) ⟨Nat.le_of_ble_eq_true rfl, Nat.le_of_ble_eq_true rfl⟩) ⟨fb_CX, va_recv hK hP (ci := 7) (q0 := 0) rfl rfl, fun U hU hW => ⟨rfl, CX.give hb0 hM hK hG hE hS hU hW⟩⟩ rfl rfl hl.1 rfl (lv_room (Nat.le_of_ble_eq_true rfl)) dL_law_1888 ⟨(show C + 0 ≤ 960594 by omega), (show S + 0 ≤ 6134452 by omega)⟩) hS (fun q _ h => h) (fun q h => h) (fun r5 u t H locs ht hvm hw6 hB hz1 hk1 hS => ?_)
  have hM := hB.back ht
  have hG := hB.2.2.2.1
  have hM1 := hM
  have hG1 := hG
  have hu1 : g = g := rfl
  refine lv_pop2_2 hx hb dL_law_1891 rfl ?_
  refine lv_aload_n hx hb dL_law_1892 rfl (lv_at hl 2 rfl) ?_
  obtain ⟨u7, u8, hP, hf⟩ := o_mo (i := 0) (q := mo) hM (by omega)
  refine va_calll (va_runV (As := []) (rest := []) ⟨hx, hb, hml, hown, hts⟩ (rmf_checksum l dC dI kA eD b g mo  (by omega)) (cwV 0 hts gL_law_X6_checksum rfl rfl rfl (by decide +kernel) ⟨Nat.le_of_ble_eq_true rfl, Nat.le_of_ble_eq_true rfl⟩) ⟨fb_CX, va_recv hK hP (ci := 10) (q0 := 0) rfl rfl, fun U hU hW => ⟨rfl, CX.give hb0 hM hK hG hE hS hU hW⟩⟩ rfl rfl hl.1 rfl (lv_room (Nat.le_of_ble_eq_true rfl)) dL_law_1893 ⟨(show C + 1 ≤ 960594 by omega), (show S + 4 ≤ 6134452 by omega)⟩) hS (fun q _ h => h) (fun q h => h) (fun r9 g11 t H locs ht hvm hw10 hB hz1 hk1 hS => ?_)
  have hM := hB.back ht
  have hG := hB.2.2.2.1
  have hlx := lx_N hI (Or.inr hu1) hM1 hG1 hw10 hM hG
  have ht12 : tg g11 o = 1 := hlx.1.2.2.1
  have ht13 : tg g11 mo = 17 := hlx.1.2.2.2.1
  have ht14 : tg g11 q = 34 := hlx.1.2.2.2.2.1
  have ht15 : tg g11 q2 = 35 := hlx.1.2.2.2.2.2.1
  refine lv_pop2_2 hx hb dL_law_1896 rfl ?_
  refine lv_goto (tgt := 1913) hx hb dL_law_1897 (by decide) ?_
  exact hnext g11 H _ ls _ _ ⟨hM, hG, hlx.1.2.2⟩ (by have h9 := hlx.2 C S k hR; unfold RI at h9 ⊢; omega) hS (lv_sub hl [0, 1, 2, 3, 4, 5] rfl)

set_option maxHeartbeats 4000000 in
set_option maxRecDepth 100000 in
/-- the law: a call of isSound -/
theorem case_42 {p : Program} {l : Launch} {e : Env} {s : State} {m : MethodId} {below : List Frame} {meth : Method} {c : Code} (hlt : l.stackTraces = false) {b0 L : Nat} {xs : Nat → Int32} (C0 : lw_At p s m meth c b0 L xs) (hL : L ≤ 3072) (dC : Nat → ClassId) (dI : Nat → Nat → Nat) (kA : Nat → ClassId) (eD b o mo q q2 k : Nat) (hb9 : b = s.heap.size) (hb0 : b ≤ s.heap.size) (hk : 6 * k + 6 ≤ L) (hK : va_K (dC, dI) vwCl (TYS kA) s) (hE : EX eD b s) (hnext : ∀ (g : Gh) (H : Heap) (locs : List Loc) (ls : Array Slot) (C S : Nat), LI (dC, dI) kA b eD o mo q q2 g H → RI g mo C S (k + 1) → va_S (fun q => b ≤ q) s.heap H locs → lv_has ls 9 [(0, .ref b0), (1, .ref o), (2, .ref mo), (3, .ref q), (4, .ref q2), (5, .int (nI (6 * k)))] → W p l e room_1 s m #[Value.ref b0] below meth c H locs C S (lw_Z below #[Value.ref b0] s) (F0 m 1913 ls [])) {g : Gh} {H : Heap} {locs : List Loc} {ls : Array Slot} {C S : Nat} (hI : LI (dC, dI) kA b eD o mo q q2 g H) (hR : RI g mo C S k) (hS : va_S (fun q => b ≤ q) s.heap H locs) (hl : lv_has ls 9 [(0, .ref b0), (1, .ref o), (2, .ref mo), (3, .ref q), (4, .ref q2), (5, .int (nI (6 * k)))]) : W p l e room_1 s m #[Value.ref b0] below meth c H locs C S (lw_Z below #[Value.ref b0] s) (F0 m 1900 ls []) := by
  obtain ⟨hx, hb, hr, hml, hown, hts0, hX, hbl, hlocks, hgv⟩ := id C0
  have hts : ∀ w ∈ wzL_law, w.before #[Value.ref b0] s = true := fun w h => hts0 w (wzL_law_in w h)
  have hbA : ¬ (fun q : Nat => b ≤ q) b0 := by show ¬ b ≤ b0; omega
  have hT := hE.1
  have hN := hE.2.2.2.2.2.2.2.1
  obtain ⟨hM, hG, hto, htm, htq, htq2, -, hed⟩ := id hI
  have hRC : C ≤ 430000 := by have h9 := hR; unfold RI at h9; omega
  have hRS : S ≤ 3400000 := by have h9 := hR; unfold RI at h9; omega
  refine lv_aload_n hx hb dL_law_1900 rfl (lv_at hl 1 rfl) ?_
  obtain ⟨u1, u2, u3, u4, hP, hf⟩ := o_sno (i := 0) (q := o) hM (by omega)
  refine va_calli (va_runV (As := []) (rest := []) ⟨hx, hb, hml, hown, hts⟩ (rf_isSound l dC dI kA eD b g o  (by omega)) (cwV 0 hts gL_law_X3_isSound rfl rfl rfl (by decide +kernel) ⟨Nat.le_of_ble_eq_true rfl, Nat.le_of_ble_eq_true rfl⟩) ⟨fb_CX, va_recv hK hP (ci := 7) (q0 := 0) rfl rfl, fun U hU hW => ⟨rfl, CX.give hb0 hM hK hG hE hS hU hW⟩⟩ rfl rfl hl.1 rfl (lv_room (Nat.le_of_ble_eq_true rfl)) dL_law_1901 ⟨(show C + 0 ≤ 960594 by omega), (show S + 0 ≤ 6134452 by omega)⟩) hS (fun q _ h => h) (fun q h => h) (fun r5 u t H locs ht hvm hw6 hB hz1 hk1 hS => ?_)
  have hM := hB.back ht
  have hG := hB.2.2.2.1
  have hM1 := hM
  have hG1 := hG
  have hu1 : g = g := rfl
  refine lv_pop hx hb dL_law_1904 rfl ?_
  refine lv_aload_n hx hb dL_law_1905 rfl (lv_at hl 2 rfl) ?_
  obtain ⟨u7, u8, hP, hf⟩ := o_mo (i := 0) (q := mo) hM (by omega)
  refine va_calli (va_runV (As := []) (rest := []) ⟨hx, hb, hml, hown, hts⟩ (rmf_isSound l dC dI kA eD b g mo  (by omega)) (cwV 0 hts gL_law_X6_isSound rfl rfl rfl (by decide +kernel) ⟨Nat.le_of_ble_eq_true rfl, Nat.le_of_ble_eq_true rfl⟩) ⟨fb_CX, va_recv hK hP (ci := 10) (q0 := 0) rfl rfl, fun U hU hW => ⟨rfl, CX.give hb0 hM hK hG hE hS hU hW⟩⟩ rfl rfl hl.1 rfl (lv_room (Nat.le_of_ble_eq_true rfl)) dL_law_1906 ⟨(show C + 0 ≤ 960594 by omega), (show S + 0 ≤ 6134452 by omega)⟩) hS (fun q _ h => h) (fun q h => h) (fun r9 g11 t H locs ht hvm hw10 hB hz1 hk1 hS => ?_)
  have hM := hB.back ht
  have hG := hB.2.2.2.1
  have hlx := lx_N hI (Or.inr hu1) hM1 hG1 hw10 hM hG
  have ht12 : tg g11 o = 1 := hlx.1.2.2.1
  have ht13 : tg g11 mo = 17 := hlx.1.2.2.2.1
  have ht14 : tg g11 q = 34 := hlx.1.2.2.2.2.1
  have ht15 : tg g11 q2 = 35 := hlx.1.2.2.2.2.2.1
  refine lv_pop hx hb dL_law_1909 rfl ?_
  refine lv_goto (tgt := 1913) hx hb dL_law_1910 (by decide) ?_
  exact hnext g11 H _ ls _ _ ⟨hM, hG, hlx.1.2.2⟩ (by have h9 := hlx.2 C S k hR; unfold RI at h9 ⊢; omega) hS (lv_sub hl [0, 1, 2, 3, 4, 5] rfl)
