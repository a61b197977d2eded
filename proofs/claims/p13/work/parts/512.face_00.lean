set_option maxHeartbeats 4000000 in
set_option maxRecDepth 100000 in
theorem rf_ice (l : Launch) (hlt : l.stackTraces = false) (dC : Nat → ClassId) (dI : Nat → Nat → Nat) (kA : Nat → ClassId) (eD b : Nat) (g : Gh) (o : Nat) (fi : Int32) (hto : tg g o = 1)  : vx_Met l yX3_ice wsX3_ice ({ frames := 6, cells := 1, slots := 6, locals := 82 }) (va_Pc [.ref o, .int fi] (CX (dC, dI) kA eD b g)) (va_Qi (fun (r : Int32) (u : Unit) => True) (fun (u : Unit) t => CX (dC, dI) kA eD b g t) (fun q => b ≤ q)) (vx_X (fun _ : Unit => True) (fun E _ t => (E = "java/lang/IllegalArgumentException") ∧ TM (dC, dI) kA b g t.heap) (fun q => b ≤ q)) 1 6 (fun q => b ≤ q) := by
  refine vx_ofW (cc := cX3_ice) (maxL := 2) (ret := (some .int)) (by decide +kernel) rfl ?_
  intro p e s m args below meth c s₁ B hml hnt hv
  obtain ⟨rfl, hb0, hM, hK, hG, hE⟩ := hv
  have hx := B.exec
  have hb := B.bytes
  have hr := B.returns
  have hts := atoms_spec (ws := wsX3_ice) B.pre
  have hown : s.vm.findClass RX3 = some m.cls := findClass_of_methodNamed B.named
  have hlocks := B.notSynchronized
  have hT := hE.1
  have hN := hE.2.2.2.2.2.2.2.1
  have hS : va_S (fun q => b ≤ q) s.heap s.heap [] := va_S.rf
  have hl := lv_entry ([.ref o, .int fi]) (n := 2) (Nat.le_of_ble_eq_true rfl)
  rw [lg_entry_eq]
  generalize (lg_sl ([.ref o, .int fi]) ++ List.replicate (2 - (lg_sl ([.ref o, .int fi])).length) Slot.unset).toArray = ls at hl ⊢
  have hl : lv_has ls 2 [(0, .ref o), (1, .int fi)] := hl
  generalize ([.ref o, .int fi] : List Value).toArray = args at hts ⊢
  refine lv_iload_n hx hb dX3_ice_0 rfl (lv_at hl 1 rfl) ?_
  refine lv_iconst (v := 0) hx hb dX3_ice_1 (by decide) ?_
  refine lv_iconst (v := 3) hx hb dX3_ice_2 (by decide) ?_
  refine va_calli (va_runS (As := [.int fi, .int 0, .int 3]) (rest := []) ⟨hx, hb, hml, hown, hts⟩ (rk_isWithin l fi 0 3 (0) (3) (by decide) (by decide)) (va_cwS 3 hts gX3_ice_X3_isWithin rfl rfl rfl (by decide +kernel) ⟨Nat.le_of_ble_eq_true rfl, Nat.le_of_ble_eq_true rfl⟩) ⟨fun a U g mk q => q, fun U hU hW => ⟨rfl, trivial⟩⟩ rfl rfl hl.1 rfl (lv_room (Nat.le_of_ble_eq_true rfl)) dX3_ice_3 ⟨(Nat.le_of_ble_eq_true rfl), (Nat.le_of_ble_eq_true rfl)⟩) hS (fun q _ h => h.elim) (fun q h => h.elim) (fun r1 u t H locs ht hvm hw2 hB hz1 hk1 hS => ?_)
  have hM := hM.keep (fun p hp => hk1 p hp (fun z => z))
  have hw2 : r1 = bI ((0 : Int) ≤ fi.toInt ∧ fi.toInt ≤ (3 : Int)) := hw2
  refine lv_if_ne (tgt := 19) hx hb dX3_ice_6 (by decide) (fun c3 => ?_) (fun c3 => ?_)
  · skip
    have g4 : (0 : Int) ≤ fi.toInt ∧ fi.toInt ≤ (3 : Int) := bI_t hw2 c3
    have zg4 : r1 = 1 := bI_t1 hw2 g4
    refine lv_aload_n hx hb dX3_ice_19 rfl (lv_at hl 0 rfl) ?_
    obtain ⟨u5, u6, u7, u8, hP, hf⟩ := o_sno (i := 0) (q := o) hM (by omega)
    refine va_get (D := (dC, dI)) (ci := 7) (v := .ref (pF g o 1)) (C := RX3) (T := TX3) (N := 10) hx hb hts (by decide +kernel) hown hK hP 0 rfl rfl 1 (by decide) (hts (.fieldLink RX3 19 "Snowpalace" "river" "LSnowpalace$River;") (by decide +kernel)) (fun _ h9 => h9) rfl dX3_ice_20 ?_
    have ht9 : tg g (pF g o 1) = 3 := hf.2.1
    obtain ⟨hP, hf⟩ := o_riv (i := 0) (q := (pF g o 1)) hM (by omega)
    refine va_get (D := (dC, dI)) (ci := 4) (v := .ref (pF g (pF g o 1) 0)) (C := RX0) (T := TX0) (N := 3) hx hb hts (by decide +kernel) hown hK hP 0 rfl rfl 0 (by decide) (hts (.fieldLink RX3 102 "Snowpalace$River" "thickness" "[I") (by decide +kernel)) (fun _ h9 => h9) rfl dX3_ice_23 ?_
    have ht10 : tg g (pF g (pF g o 1) 0) = 9 := hf.1
    refine lv_iload_n hx hb dX3_ice_26 rfl (lv_at hl 1 rfl) ?_
    obtain ⟨u11, hP, hf⟩ := o_ri (i := 0) (q := (pF g (pF g o 1) 0)) hM (by omega)
    refine va_iald (D := (dC, dI)) hx hb hK hP 0 0 rfl rfl (inI (by omega) (by omega)) dX3_ice_27 ?_
    refine lv_topi (fun v12 e13 => ?_)
    refine vx_ret ?_
    refine W.widen (k := 1) (n := 6) (Nat.le_of_ble_eq_true rfl) (Nat.le_of_ble_eq_true rfl) ?_
    exact W.iret (v := v12) hx hb hr (fun t ht hW => ⟨⟨v12, (), rfl, trivial, CX.give hb0 hM hK hG hE hS ht hW⟩, hS.F ht⟩) hS.2.2 dX3_ice_28
  · skip
    have g14 : ¬ ((0 : Int) ≤ fi.toInt ∧ fi.toInt ≤ (3 : Int)) := bI_f hw2 c3
    have zg14 : r1 = 0 := bI_f0 hw2 g14
    obtain ⟨sa, hsa⟩ := hT.2.1 (100, "no such field") (by decide +kernel)
    exact vx_throwS (A := (fun q => b ≤ q)) (own := RX3) (cls := "java/lang/IllegalArgumentException") (text := "no such field") (names := exN) hx hb hlt hown (by decide +kernel) (by decide +kernel) (hts (.classLink RX3 56 "java/lang/IllegalArgumentException") (by decide +kernel)) (hts (.initialized "java/lang/IllegalArgumentException") (by decide +kernel)) hsa (th_hat hT (fun w h => hts w (List.mem_cons_of_mem _ (List.mem_append_left _ (List.mem_append_right _ h)))) th_i1) (th_good th_i1) hT.2.2.2.1 hT.2.2.2.2 hS (hl.1.trans hml.symm) dX3_ice_9 dX3_ice_12 dX3_ice_13 dX3_ice_15 dX3_ice_18 (fun x h => (hnt x h).elim) (by decide) (Nat.le_of_ble_eq_true rfl) (Nat.le_of_ble_eq_true rfl) (Nat.le_of_ble_eq_true rfl) hlocks (fun t ha h1 h2 => ⟨(), trivial, ⟨rfl, hM.keep h2⟩, th_F hS h1 h2⟩) hS.2.2 (Nat.le_of_ble_eq_true rfl) (Nat.le_of_ble_eq_true rfl)

set_option maxHeartbeats 4000000 in
set_option maxRecDepth 100000 in
theorem rf_clear (l : Launch) (hlt : l.stackTraces = false) (dC : Nat → ClassId) (dI : Nat → Nat → Nat) (kA : Nat → ClassId) (eD b : Nat) (g : Gh) (o : Nat) (fi : Int32) (hto : tg g o = 1)  : vx_Met l yX3_clear wsX3_clear ({ frames := 6, cells := 1, slots := 6, locals := 82 }) (va_Pc [.ref o, .int fi] (CX (dC, dI) kA eD b g)) (va_Qi (fun (r : Int32) (u : Unit) => True) (fun (u : Unit) t => CX (dC, dI) kA eD b g t) (fun q => b ≤ q)) (vx_X (fun _ : Unit => True) (fun E _ t => (E = "java/lang/IllegalArgumentException") ∧ TM (dC, dI) kA b g t.heap) (fun q => b ≤ q)) 1 6 (fun q => b ≤ q) := by
  refine vx_ofW (cc := cX3_clear) (maxL := 2) (ret := (some .int)) (by decide +kernel) rfl ?_
  intro p e s m args below meth c s₁ B hml hnt hv
  obtain ⟨rfl, hb0, hM, hK, hG, hE⟩ := hv
  have hx := B.exec
  have hb := B.bytes
  have hr := B.returns
  have hts := atoms_spec (ws := wsX3_clear) B.pre
  have hown : s.vm.findClass RX3 = some m.cls := findClass_of_methodNamed B.named
  have hlocks := B.notSynchronized
  have hT := hE.1
  have hN := hE.2.2.2.2.2.2.2.1
  have hS : va_S (fun q => b ≤ q) s.heap s.heap [] := va_S.rf
  have hl := lv_entry ([.ref o, .int fi]) (n := 2) (Nat.le_of_ble_eq_true rfl)
  rw [lg_entry_eq]
  generalize (lg_sl ([.ref o, .int fi]) ++ List.replicate (2 - (lg_sl ([.ref o, .int fi])).length) Slot.unset).toArray = ls at hl ⊢
  have hl : lv_has ls 2 [(0, .ref o), (1, .int fi)] := hl
  generalize ([.ref o, .int fi] : List Value).toArray = args at hts ⊢
  refine lv_iload_n hx hb dX3_clear_0 rfl (lv_at hl 1 rfl) ?_
  refine lv_iconst (v := 0) hx hb dX3_clear_1 (by decide) ?_
  refine lv_iconst (v := 3) hx hb dX3_clear_2 (by decide) ?_
  refine va_calli (va_runS (As := [.int fi, .int 0, .int 3]) (rest := []) ⟨hx, hb, hml, hown, hts⟩ (rk_isWithin l fi 0 3 (0) (3) (by decide) (by decide)) (va_cwS 3 hts gX3_clear_X3_isWithin rfl rfl rfl (by decide +kernel) ⟨Nat.le_of_ble_eq_true rfl, Nat.le_of_ble_eq_true rfl⟩) ⟨fun a U g mk q => q, fun U hU hW => ⟨rfl, trivial⟩⟩ rfl rfl hl.1 rfl (lv_room (Nat.le_of_ble_eq_true rfl)) dX3_clear_3 ⟨(Nat.le_of_ble_eq_true rfl), (Nat.le_of_ble_eq_true rfl)⟩) hS (fun q _ h => h.elim) (fun q h => h.elim) (fun r1 u t H locs ht hvm hw2 hB hz1 hk1 hS => ?_)
  have hM := hM.keep (fun p hp => hk1 p hp (fun z => z))
  have hw2 : r1 = bI ((0 : Int) ≤ fi.toInt ∧ fi.toInt ≤ (3 : Int)) := hw2
  refine lv_if_ne (tgt := 19) hx hb dX3_clear_6 (by decide) (fun c3 => ?_) (fun c3 => ?_)
  · skip
    have g4 : (0 : Int) ≤ fi.toInt ∧ fi.toInt ≤ (3 : Int) := bI_t hw2 c3
    have zg4 : r1 = 1 := bI_t1 hw2 g4
    refine lv_aload_n hx hb dX3_clear_19 rfl (lv_at hl 0 rfl) ?_
    obtain ⟨u5, u6, u7, u8, hP, hf⟩ := o_sno (i := 0) (q := o) hM (by omega)
    refine va_get (D := (dC, dI)) (ci := 7) (v := .ref (pF g o 1)) (C := RX3) (T := TX3) (N := 10) hx hb hts (by decide +kernel) hown hK hP 0 rfl rfl 1 (by decide) (hts (.fieldLink RX3 19 "Snowpalace" "river" "LSnowpalace$River;") (by decide +kernel)) (fun _ h9 => h9) rfl dX3_clear_20 ?_
    have ht9 : tg g (pF g o 1) = 3 := hf.2.1
    obtain ⟨hP, hf⟩ := o_riv (i := 0) (q := (pF g o 1)) hM (by omega)
    refine va_get (D := (dC, dI)) (ci := 4) (v := .ref (pF g (pF g o 1) 1)) (C := RX0) (T := TX0) (N := 3) hx hb hts (by decide +kernel) hown hK hP 0 rfl rfl 1 (by decide) (hts (.fieldLink RX3 105 "Snowpalace$River" "clearPart" "[I") (by decide +kernel)) (fun _ h9 => h9) rfl dX3_clear_23 ?_
    have ht10 : tg g (pF g (pF g o 1) 1) = 9 := hf.2.1
    refine lv_iload_n hx hb dX3_clear_26 rfl (lv_at hl 1 rfl) ?_
    obtain ⟨u11, hP, hf⟩ := o_ri (i := 0) (q := (pF g (pF g o 1) 1)) hM (by omega)
    refine va_iald (D := (dC, dI)) hx hb hK hP 0 0 rfl rfl (inI (by omega) (by omega)) dX3_clear_27 ?_
    refine lv_topi (fun v12 e13 => ?_)
    refine vx_ret ?_
    refine W.widen (k := 1) (n := 6) (Nat.le_of_ble_eq_true rfl) (Nat.le_of_ble_eq_true rfl) ?_
    exact W.iret (v := v12) hx hb hr (fun t ht hW => ⟨⟨v12, (), rfl, trivial, CX.give hb0 hM hK hG hE hS ht hW⟩, hS.F ht⟩) hS.2.2 dX3_clear_28
  · skip
    have g14 : ¬ ((0 : Int) ≤ fi.toInt ∧ fi.toInt ≤ (3 : Int)) := bI_f hw2 c3
    have zg14 : r1 = 0 := bI_f0 hw2 g14
    obtain ⟨sa, hsa⟩ := hT.2.1 (100, "no such field") (by decide +kernel)
    exact vx_throwS (A := (fun q => b ≤ q)) (own := RX3) (cls := "java/lang/IllegalArgumentException") (text := "no such field") (names := exN) hx hb hlt hown (by decide +kernel) (by decide +kernel) (hts (.classLink RX3 56 "java/lang/IllegalArgumentException") (by decide +kernel)) (hts (.initialized "java/lang/IllegalArgumentException") (by decide +kernel)) hsa (th_hat hT (fun w h => hts w (List.mem_cons_of_mem _ (List.mem_append_left _ (List.mem_append_right _ h)))) th_i1) (th_good th_i1) hT.2.2.2.1 hT.2.2.2.2 hS (hl.1.trans hml.symm) dX3_clear_9 dX3_clear_12 dX3_clear_13 dX3_clear_15 dX3_clear_18 (fun x h => (hnt x h).elim) (by decide) (Nat.le_of_ble_eq_true rfl) (Nat.le_of_ble_eq_true rfl) (Nat.le_of_ble_eq_true rfl) hlocks (fun t ha h1 h2 => ⟨(), trivial, ⟨rfl, hM.keep h2⟩, th_F hS h1 h2⟩) hS.2.2 (Nat.le_of_ble_eq_true rfl) (Nat.le_of_ble_eq_true rfl)

set_option maxHeartbeats 4000000 in
set_option maxRecDepth 100000 in
theorem rf_bears (l : Launch) (hlt : l.stackTraces = false) (dC : Nat → ClassId) (dI : Nat → Nat → Nat) (kA : Nat → ClassId) (eD b : Nat) (g : Gh) (o : Nat) (fi : Int32) (hto : tg g o = 1)  : vx_Met l yX3_bears wsX3_bears ({ frames := 6, cells := 1, slots := 6, locals := 82 }) (va_Pc [.ref o, .int fi] (CX (dC, dI) kA eD b g)) (va_Qi (fun (r : Int32) (u : Unit) => r = 0 ∨ r = 1) (fun (u : Unit) t => CX (dC, dI) kA eD b g t) (fun q => b ≤ q)) (vx_X (fun _ : Unit => True) (fun E _ t => (E = "java/lang/IllegalArgumentException") ∧ TM (dC, dI) kA b g t.heap) (fun q => b ≤ q)) 1 6 (fun q => b ≤ q) := by
  refine vx_ofW (cc := cX3_bears) (maxL := 2) (ret := (some .boolean)) (by decide +kernel) rfl ?_
  intro p e s m args below meth c s₁ B hml hnt hv
  obtain ⟨rfl, hb0, hM, hK, hG, hE⟩ := hv
  have hx := B.exec
  have hb := B.bytes
  have hr := B.returns
  have hts := atoms_spec (ws := wsX3_bears) B.pre
  have hown : s.vm.findClass RX3 = some m.cls := findClass_of_methodNamed B.named
  have hlocks := B.notSynchronized
  have hT := hE.1
  have hN := hE.2.2.2.2.2.2.2.1
  have hS : va_S (fun q => b ≤ q) s.heap s.heap [] := va_S.rf
  have hl := lv_entry ([.ref o, .int fi]) (n := 2) (Nat.le_of_ble_eq_true rfl)
  rw [lg_entry_eq]
  generalize (lg_sl ([.ref o, .int fi]) ++ List.replicate (2 - (lg_sl ([.ref o, .int fi])).length) Slot.unset).toArray = ls at hl ⊢
  have hl : lv_has ls 2 [(0, .ref o), (1, .int fi)] := hl
  generalize ([.ref o, .int fi] : List Value).toArray = args at hts ⊢
  refine lv_iload_n hx hb dX3_bears_0 rfl (lv_at hl 1 rfl) ?_
  refine lv_iconst (v := 0) hx hb dX3_bears_1 (by decide) ?_
  refine lv_iconst (v := 3) hx hb dX3_bears_2 (by decide) ?_
  refine va_calli (va_runS (As := [.int fi, .int 0, .int 3]) (rest := []) ⟨hx, hb, hml, hown, hts⟩ (rk_isWithin l fi 0 3 (0) (3) (by decide) (by decide)) (va_cwS 3 hts gX3_bears_X3_isWithin rfl rfl rfl (by decide +kernel) ⟨Nat.le_of_ble_eq_true rfl, Nat.le_of_ble_eq_true rfl⟩) ⟨fun a U g mk q => q, fun U hU hW => ⟨rfl, trivial⟩⟩ rfl rfl hl.1 rfl (lv_room (Nat.le_of_ble_eq_true rfl)) dX3_bears_3 ⟨(Nat.le_of_ble_eq_true rfl), (Nat.le_of_ble_eq_true rfl)⟩) hS (fun q _ h => h.elim) (fun q h => h.elim) (fun r1 u t H locs ht hvm hw2 hB hz1 hk1 hS => ?_)
  have hM := hM.keep (fun p hp => hk1 p hp (fun z => z))
  have hw2 : r1 = bI ((0 : Int) ≤ fi.toInt ∧ fi.toInt ≤ (3 : Int)) := hw2
  refine lv_if_ne (tgt := 19) hx hb dX3_bears_6 (by decide) (fun c3 => ?_) (fun c3 => ?_)
  · skip
    have g4 : (0 : Int) ≤ fi.toInt ∧ fi.toInt ≤ (3 : Int) := bI_t hw2 c3
    have zg4 : r1 = 1 := bI_t1 hw2 g4
    refine lv_aload_n hx hb dX3_bears_19 rfl (lv_at hl 0 rfl) ?_
    obtain ⟨u5, u6, u7, u8, hP, hf⟩ := o_sno (i := 0) (q := o) hM (by omega)
    refine va_get (D := (dC, dI)) (ci := 7) (v := .ref (pF g o 1)) (C := RX3) (T := TX3) (N := 10) hx hb hts (by decide +kernel) hown hK hP 0 rfl rfl 1 (by decide) (hts (.fieldLink RX3 19 "Snowpalace" "river" "LSnowpalace$River;") (by decide +kernel)) (fun _ h9 => h9) rfl dX3_bears_20 ?_
    have ht9 : tg g (pF g o 1) = 3 := hf.2.1
    refine lv_iload_n hx hb dX3_bears_23 rfl (lv_at hl 1 rfl) ?_
    obtain ⟨hP, hf⟩ := o_riv (i := 0) (q := (pF g o 1)) hM (by omega)
    refine va_calli (va_runV (As := [.int fi]) (rest := []) ⟨hx, hb, hml, hown, hts⟩ (rk_bearsLorries l dC dI kA eD b g (pF g o 1) fi (by omega)) (cwV 1 hts gX3_bears_X0_bearsLorries rfl rfl rfl (by decide +kernel) ⟨Nat.le_of_ble_eq_true rfl, Nat.le_of_ble_eq_true rfl⟩) ⟨fb_CX, va_recv hK hP (ci := 4) (q0 := 0) rfl rfl, fun U hU hW => ⟨rfl, CX.give hb0 hM hK hG hE hS hU hW⟩⟩ rfl rfl hl.1 rfl (lv_room (Nat.le_of_ble_eq_true rfl)) dX3_bears_24 ⟨(Nat.le_of_ble_eq_true rfl), (Nat.le_of_ble_eq_true rfl)⟩) hS (fun q _ h => h) (fun q h => h) (fun r10 u t H locs ht hvm hw11 hB hz1 hk1 hS => ?_)
    have hM := hB.back ht
    have hG := hB.2.2.2.1
    refine vx_ret ?_
    refine W.widen (k := 1) (n := 6) (Nat.le_of_ble_eq_true rfl) (Nat.le_of_ble_eq_true rfl) ?_
    exact W.zret (v := r10) (ty := .boolean) hx hb hr (z01n hw11) (fun t ht hW => ⟨⟨r10, (), rfl, hw11, CX.give hb0 hM hK hG hE hS ht hW⟩, hS.F ht⟩) hS.2.2 dX3_bears_27
  · skip
    have g12 : ¬ ((0 : Int) ≤ fi.toInt ∧ fi.toInt ≤ (3 : Int)) := bI_f hw2 c3
    have zg12 : r1 = 0 := bI_f0 hw2 g12
    obtain ⟨sa, hsa⟩ := hT.2.1 (100, "no such field") (by decide +kernel)
    exact vx_throwS (A := (fun q => b ≤ q)) (own := RX3) (cls := "java/lang/IllegalArgumentException") (text := "no such field") (names := exN) hx hb hlt hown (by decide +kernel) (by decide +kernel) (hts (.classLink RX3 56 "java/lang/IllegalArgumentException") (by decide +kernel)) (hts (.initialized "java/lang/IllegalArgumentException") (by decide +kernel)) hsa (th_hat hT (fun w h => hts w (List.mem_cons_of_mem _ (List.mem_append_left _ (List.mem_append_right _ h)))) th_i1) (th_good th_i1) hT.2.2.2.1 hT.2.2.2.2 hS (hl.1.trans hml.symm) dX3_bears_9 dX3_bears_12 dX3_bears_13 dX3_bears_15 dX3_bears_18 (fun x h => (hnt x h).elim) (by decide) (Nat.le_of_ble_eq_true rfl) (Nat.le_of_ble_eq_true rfl) (Nat.le_of_ble_eq_true rfl) hlocks (fun t ha h1 h2 => ⟨(), trivial, ⟨rfl, hM.keep h2⟩, th_F hS h1 h2⟩) hS.2.2 (Nat.le_of_ble_eq_true rfl) (Nat.le_of_ble_eq_true rfl)

set_option maxHeartbeats 4000000 in
set_option maxRecDepth 100000 in
theorem rf_cut (l : Launch) (hlt : l.stackTraces = false) (dC : Nat → ClassId) (dI : Nat → Nat → Nat) (kA : Nat → ClassId) (eD b : Nat) (g : Gh) (o : Nat) (fi : Int32) (ma : Int32) (hto : tg g o = 1)  : vx_Met l yX3_cut wsX3_cut ({ frames := 6, cells := 1, slots := 6, locals := 82 }) (va_Pc [.ref o, .int fi, .int ma] (CX (dC, dI) kA eD b g)) (va_Qi (fun (r : Int32) (u : Unit) => True) (fun (u : Unit) t => CX (dC, dI) kA eD b g t) (fun q => b ≤ q)) (vx_X (fun _ : Unit => True) (fun E _ t => (E = "java/lang/IllegalArgumentException" ∨ E = "java/lang/UnsupportedOperationException" ∨ E = "java/lang/IllegalStateException") ∧ TM (dC, dI) kA b g t.heap) (fun q => b ≤ q)) 1 6 (fun q => b ≤ q) := by
  refine vx_ofW (cc := cX3_cut) (maxL := 3) (ret := (some .int)) (by decide +kernel) rfl ?_
  intro p e s m args below meth c s₁ B hml hnt hv
  obtain ⟨rfl, hb0, hM, hK, hG, hE⟩ := hv
  have hx := B.exec
  have hb := B.bytes
  have hr := B.returns
  have hts := atoms_spec (ws := wsX3_cut) B.pre
  have hown : s.vm.findClass RX3 = some m.cls := findClass_of_methodNamed B.named
  have hlocks := B.notSynchronized
  have hT := hE.1
  have hN := hE.2.2.2.2.2.2.2.1
  have hS : va_S (fun q => b ≤ q) s.heap s.heap [] := va_S.rf
  have hl := lv_entry ([.ref o, .int fi, .int ma]) (n := 3) (Nat.le_of_ble_eq_true rfl)
  rw [lg_entry_eq]
  generalize (lg_sl ([.ref o, .int fi, .int ma]) ++ List.replicate (3 - (lg_sl ([.ref o, .int fi, .int ma])).length) Slot.unset).toArray = ls at hl ⊢
  have hl : lv_has ls 3 [(0, .ref o), (1, .int fi), (2, .int ma)] := hl
  generalize ([.ref o, .int fi, .int ma] : List Value).toArray = args at hts ⊢
  refine W.q (fun Q hQ => ?_)
  refine lv_iload_n hx hb dX3_cut_0 rfl (lv_at hl 1 rfl) ?_
  refine lv_iconst (v := 0) hx hb dX3_cut_1 (by decide) ?_
  refine lv_iconst (v := 3) hx hb dX3_cut_2 (by decide) ?_
  refine va_calli (va_runS (As := [.int fi, .int 0, .int 3]) (rest := []) ⟨hx, hb, hml, hown, hts⟩ (rk_isWithin l fi 0 3 (0) (3) (by decide) (by decide)) (va_cwS 3 hts gX3_cut_X3_isWithin rfl rfl rfl (by decide +kernel) ⟨Nat.le_of_ble_eq_true rfl, Nat.le_of_ble_eq_true rfl⟩) ⟨fun a U g mk q => q, fun U hU hW => ⟨rfl, trivial⟩⟩ rfl rfl hl.1 rfl (lv_room (Nat.le_of_ble_eq_true rfl)) dX3_cut_3 ⟨(Nat.le_of_ble_eq_true rfl), (Nat.le_of_ble_eq_true rfl)⟩) hS (fun q _ h => h.elim) (fun q h => h.elim) (fun r1 u t H locs ht hvm hw2 hB hz1 hk1 hS => ?_)
  have hM := hM.keep (fun p hp => hk1 p hp (fun z => z))
  have hw2 : r1 = bI ((0 : Int) ≤ fi.toInt ∧ fi.toInt ≤ (3 : Int)) := hw2
  have jn3 : ∀  (H : Heap) (locs : List Loc) (ls : Array Slot), TM (dC, dI) kA b g H → va_S (fun q => b ≤ q) s.heap H locs → lv_has ls 3 [(0, .ref o), (1, .int fi), (2, .int ma)] → W p l e (headSpec wsX3_cut ({ frames := 6, cells := 1, slots := 6, locals := 82 })).room s m args below meth c H locs 0 0 Q (F0 m 19 ls []) := by
    intro H locs ls hM hS hl
    obtain ⟨sa, hsa⟩ := hT.2.1 (58, "a number is out of range") (by decide +kernel)
    subst hQ
    exact vx_throwS (A := (fun q => b ≤ q)) (own := RX3) (cls := "java/lang/IllegalArgumentException") (text := "a number is out of range") (names := exN) hx hb hlt hown (by decide +kernel) (by decide +kernel) (hts (.classLink RX3 56 "java/lang/IllegalArgumentException") (by decide +kernel)) (hts (.initialized "java/lang/IllegalArgumentException") (by decide +kernel)) hsa (th_hat hT (fun w h => hts w (List.mem_cons_of_mem _ (List.mem_append_left _ (List.mem_append_left _ (List.mem_append_left _ (List.mem_append_right _ h)))))) th_i1) (th_good th_i1) hT.2.2.2.1 hT.2.2.2.2 hS (hl.1.trans hml.symm) dX3_cut_19 dX3_cut_22 dX3_cut_23 dX3_cut_25 dX3_cut_28 (fun x h => (hnt x h).elim) (by decide) (Nat.le_of_ble_eq_true rfl) (Nat.le_of_ble_eq_true rfl) (Nat.le_of_ble_eq_true rfl) hlocks (fun t ha h1 h2 => ⟨(), trivial, ⟨(Or.inl rfl), hM.keep h2⟩, th_F hS h1 h2⟩) hS.2.2 (Nat.le_of_ble_eq_true rfl) (Nat.le_of_ble_eq_true rfl)
  refine lv_if_eq (tgt := 19) hx hb dX3_cut_6 (by decide) (fun c4 => ?_) (fun c4 => ?_)
  · skip
    have g5 : ¬ ((0 : Int) ≤ fi.toInt ∧ fi.toInt ≤ (3 : Int)) := bI_f hw2 c4
    have zg5 : r1 = 0 := bI_f0 hw2 g5
    exact jn3 H _ ls hM hS (lv_sub hl [0, 1, 2] rfl)
  · skip
    have g6 : (0 : Int) ≤ fi.toInt ∧ fi.toInt ≤ (3 : Int) := bI_t hw2 c4
    have zg6 : r1 = 1 := bI_t1 hw2 g6
    refine lv_iload_n hx hb dX3_cut_9 rfl (lv_at hl 2 rfl) ?_
    refine lv_iconst (v := 1) hx hb dX3_cut_10 (by decide) ?_
    refine lv_bipush (v := 20) hx hb dX3_cut_11 (by decide) ?_
    refine va_calli (va_runS (As := [.int ma, .int 1, .int 20]) (rest := []) ⟨hx, hb, hml, hown, hts⟩ (rk_isWithin l ma 1 20 (1) (20) (by decide) (by decide)) (va_cwS 3 hts gX3_cut_X3_isWithin rfl rfl rfl (by decide +kernel) ⟨Nat.le_of_ble_eq_true rfl, Nat.le_of_ble_eq_true rfl⟩) ⟨fun a U g mk q => q, fun U hU hW => ⟨rfl, trivial⟩⟩ rfl rfl hl.1 rfl (lv_room (Nat.le_of_ble_eq_true rfl)) dX3_cut_13 ⟨(Nat.le_of_ble_eq_true rfl), (Nat.le_of_ble_eq_true rfl)⟩) hS (fun q _ h => h.elim) (fun q h => h.elim) (fun r7 u t H locs ht hvm hw8 hB hz1 hk1 hS => ?_)
    have hM := hM.keep (fun p hp => hk1 p hp (fun z => z))
    have hw8 : r7 = bI ((1 : Int) ≤ ma.toInt ∧ ma.toInt ≤ (20 : Int)) := hw8
    refine lv_if_ne (tgt := 29) hx hb dX3_cut_16 (by decide) (fun c9 => ?_) (fun c9 => ?_)
    · skip
      have g10 : (1 : Int) ≤ ma.toInt ∧ ma.toInt ≤ (20 : Int) := bI_t hw8 c9
      have zg10 : r7 = 1 := bI_t1 hw8 g10
      refine lv_aload_n hx hb dX3_cut_29 rfl (lv_at hl 0 rfl) ?_
      obtain ⟨u11, u12, u13, u14, hP, hf⟩ := o_sno (i := 0) (q := o) hM (by omega)
      refine va_get (D := (dC, dI)) (ci := 7) (v := .ref (pF g o 1)) (C := RX3) (T := TX3) (N := 10) hx hb hts (by decide +kernel) hown hK hP 0 rfl rfl 1 (by decide) (hts (.fieldLink RX3 19 "Snowpalace" "river" "LSnowpalace$River;") (by decide +kernel)) (fun _ h9 => h9) rfl dX3_cut_30 ?_
      have ht15 : tg g (pF g o 1) = 3 := hf.2.1
      obtain ⟨hP, hf⟩ := o_riv (i := 0) (q := (pF g o 1)) hM (by omega)
      refine va_get (D := (dC, dI)) (ci := 4) (v := .ref (pF g (pF g o 1) 0)) (C := RX0) (T := TX0) (N := 3) hx hb hts (by decide +kernel) hown hK hP 0 rfl rfl 0 (by decide) (hts (.fieldLink RX3 102 "Snowpalace$River" "thickness" "[I") (by decide +kernel)) (fun _ h9 => h9) rfl dX3_cut_33 ?_
      have ht16 : tg g (pF g (pF g o 1) 0) = 9 := hf.1
      refine lv_iload_n hx hb dX3_cut_36 rfl (lv_at hl 1 rfl) ?_
      obtain ⟨u17, hP, hf⟩ := o_ri (i := 0) (q := (pF g (pF g o 1) 0)) hM (by omega)
      refine va_iald (D := (dC, dI)) hx hb hK hP 0 0 rfl rfl (inI (by omega) (by omega)) dX3_cut_37 ?_
      refine lv_topi (fun v18 e19 => ?_)
      refine lv_sipush (v := 300) hx hb dX3_cut_38 (by decide) ?_
      have jn20 : ∀  (H : Heap) (locs : List Loc) (ls : Array Slot), TM (dC, dI) kA b g H → va_S (fun q => b ≤ q) s.heap H locs → lv_has ls 3 [(0, .ref o), (1, .int fi), (2, .int ma)] → W p l e (headSpec wsX3_cut ({ frames := 6, cells := 1, slots := 6, locals := 82 })).room s m args below meth c H locs 0 0 Q (F0 m 68 ls []) := by
        intro H locs ls hM hS hl
        obtain ⟨sa, hsa⟩ := hT.2.1 (115, "the field cannot be cut so") (by decide +kernel)
        subst hQ
        exact vx_throwS (A := (fun q => b ≤ q)) (own := RX3) (cls := "java/lang/UnsupportedOperationException") (text := "the field cannot be cut so") (names := exN) hx hb hlt hown (by decide +kernel) (by decide +kernel) (hts (.classLink RX3 63 "java/lang/UnsupportedOperationException") (by decide +kernel)) (hts (.initialized "java/lang/UnsupportedOperationException") (by decide +kernel)) hsa (th_hat hT (fun w h => hts w (List.mem_cons_of_mem _ (List.mem_append_left _ (List.mem_append_right _ h)))) th_i2) (th_good th_i2) hT.2.2.2.1 hT.2.2.2.2 hS (hl.1.trans hml.symm) dX3_cut_68 dX3_cut_71 dX3_cut_72 dX3_cut_74 dX3_cut_77 (fun x h => (hnt x h).elim) (by decide) (Nat.le_of_ble_eq_true rfl) (Nat.le_of_ble_eq_true rfl) (Nat.le_of_ble_eq_true rfl) hlocks (fun t ha h1 h2 => ⟨(), trivial, ⟨(Or.inr (Or.inl rfl)), hM.keep h2⟩, th_F hS h1 h2⟩) hS.2.2 (Nat.le_of_ble_eq_true rfl) (Nat.le_of_ble_eq_true rfl)
      refine lv_icmp_lt (tgt := 68) hx hb dX3_cut_41 (by decide) (fun c21 => ?_) (fun c21 => ?_)
      · skip
        have i22 := (Int32.lt_iff_toInt_lt).mp c21
        have ii22 : (300 : Int32).toInt = 300 := by decide
        have i22 := i22
        exact jn20 H _ ls hM hS (lv_sub hl [0, 1, 2] rfl)
      · skip
        have i23 := fun z => c21 ((Int32.lt_iff_toInt_lt).mpr z)
        have ii23 : (300 : Int32).toInt = 300 := by decide
        have i23 : ¬ ((v18 : Int32).toInt < (300 : Int32).toInt) := i23
        refine lv_aload_n hx hb dX3_cut_44 rfl (lv_at hl 0 rfl) ?_
        obtain ⟨u24, u25, u26, u27, hP, hf⟩ := o_sno (i := 0) (q := o) hM (by omega)
        refine va_get (D := (dC, dI)) (ci := 7) (v := .ref (pF g o 1)) (C := RX3) (T := TX3) (N := 10) hx hb hts (by decide +kernel) hown hK hP 0 rfl rfl 1 (by decide) (hts (.fieldLink RX3 19 "Snowpalace" "river" "LSnowpalace$River;") (by decide +kernel)) (fun _ h9 => h9) rfl dX3_cut_45 ?_
        obtain ⟨hP, hf⟩ := o_riv (i := 0) (q := (pF g o 1)) hM (by omega)
        refine va_get (D := (dC, dI)) (ci := 4) (v := .ref (pF g (pF g o 1) 2)) (C := RX0) (T := TX0) (N := 3) hx hb hts (by decide +kernel) hown hK hP 0 rfl rfl 2 (by decide) (hts (.fieldLink RX3 112 "Snowpalace$River" "places" "[I") (by decide +kernel)) (fun _ h9 => h9) rfl dX3_cut_48 ?_
        have ht28 : tg g (pF g (pF g o 1) 2) = 9 := hf.2.2
        refine lv_iload_n hx hb dX3_cut_51 rfl (lv_at hl 1 rfl) ?_
        obtain ⟨u29, hP, hf⟩ := o_ri (i := 0) (q := (pF g (pF g o 1) 2)) hM (by omega)
        refine va_iald (D := (dC, dI)) hx hb hK hP 0 0 rfl rfl (inI (by omega) (by omega)) dX3_cut_52 ?_
        refine lv_topi (fun v30 e31 => ?_)
        refine lv_iload_n hx hb dX3_cut_53 rfl (lv_at hl 2 rfl) ?_
        refine lv_icmp_lt (tgt := 68) hx hb dX3_cut_54 (by decide) (fun c32 => ?_) (fun c32 => ?_)
        · skip
          have i33 := (Int32.lt_iff_toInt_lt).mp c32
          have i33 := i33
          exact jn20 H _ ls hM hS (lv_sub hl [0, 1, 2] rfl)
        · skip
          have i34 := fun z => c32 ((Int32.lt_iff_toInt_lt).mpr z)
          have i34 : ¬ ((v30 : Int32).toInt < (ma : Int32).toInt) := i34
          refine lv_aload_n hx hb dX3_cut_57 rfl (lv_at hl 0 rfl) ?_
          obtain ⟨u35, u36, u37, u38, hP, hf⟩ := o_sno (i := 0) (q := o) hM (by omega)
          refine va_get (D := (dC, dI)) (ci := 7) (v := .ref (pF g o 1)) (C := RX3) (T := TX3) (N := 10) hx hb hts (by decide +kernel) hown hK hP 0 rfl rfl 1 (by decide) (hts (.fieldLink RX3 19 "Snowpalace" "river" "LSnowpalace$River;") (by decide +kernel)) (fun _ h9 => h9) rfl dX3_cut_58 ?_
          refine lv_iload_n hx hb dX3_cut_61 rfl (lv_at hl 1 rfl) ?_
          obtain ⟨hP, hf⟩ := o_riv (i := 0) (q := (pF g o 1)) hM (by omega)
          refine va_calli (va_runV (As := [.int fi]) (rest := []) ⟨hx, hb, hml, hown, hts⟩ (rk_bearsLorries l dC dI kA eD b g (pF g o 1) fi (by omega)) (cwV 1 hts gX3_cut_X0_bearsLorries rfl rfl rfl (by decide +kernel) ⟨Nat.le_of_ble_eq_true rfl, Nat.le_of_ble_eq_true rfl⟩) ⟨fb_CX, va_recv hK hP (ci := 4) (q0 := 0) rfl rfl, fun U hU hW => ⟨rfl, CX.give hb0 hM hK hG hE hS hU hW⟩⟩ rfl rfl hl.1 rfl (lv_room (Nat.le_of_ble_eq_true rfl)) dX3_cut_62 ⟨(Nat.le_of_ble_eq_true rfl), (Nat.le_of_ble_eq_true rfl)⟩) hS (fun q _ h => h) (fun q h => h) (fun r39 u t H locs ht hvm hw40 hB hz1 hk1 hS => ?_)
          have hM := hB.back ht
          have hG := hB.2.2.2.1
          refine lv_if_ne (tgt := 78) hx hb dX3_cut_65 (by decide) (fun c41 => ?_) (fun c41 => ?_)
          · skip
            refine lv_aload_n hx hb dX3_cut_78 rfl (lv_at hl 0 rfl) ?_
            obtain ⟨u42, u43, u44, u45, hP, hf⟩ := o_sno (i := 0) (q := o) hM (by omega)
            refine va_get (D := (dC, dI)) (ci := 7) (v := .int u42) (C := RX3) (T := TX3) (N := 10) hx hb hts (by decide +kernel) hown hK hP 0 rfl rfl 5 (by decide) (hts (.fieldLink RX3 36 "Snowpalace" "clearBlocks" "I") (by decide +kernel)) (fun _ h9 => h9) rfl dX3_cut_79 ?_
            refine lv_aload_n hx hb dX3_cut_82 rfl (lv_at hl 0 rfl) ?_
            obtain ⟨u46, u47, u48, u49, hP, hf⟩ := o_sno (i := 0) (q := o) hM (by omega)
            refine va_get (D := (dC, dI)) (ci := 7) (v := .int u47) (C := RX3) (T := TX3) (N := 10) hx hb hts (by decide +kernel) hown hK hP 0 rfl rfl 6 (by decide) (hts (.fieldLink RX3 39 "Snowpalace" "otherBlocks" "I") (by decide +kernel)) (fun _ h9 => h9) rfl dX3_cut_83 ?_
            refine lv_iadd hx hb dX3_cut_86 ?_
            refine lv_topi (fun v50 e51 => ?_)
            refine lv_iload_n hx hb dX3_cut_87 rfl (lv_at hl 2 rfl) ?_
            refine lv_iadd hx hb dX3_cut_88 ?_
            refine lv_topi (fun v52 e53 => ?_)
            refine lv_sipush (v := 200) hx hb dX3_cut_89 (by decide) ?_
            refine lv_icmp_le (tgt := 105) hx hb dX3_cut_92 (by decide) (fun c54 => ?_) (fun c54 => ?_)
            · skip
              have i55 := (Int32.le_iff_toInt_le).mp c54
              have ii55 : (200 : Int32).toInt = 200 := by decide
              have i55 := i55
              refine lv_aload_n hx hb dX3_cut_105 rfl (lv_at hl 0 rfl) ?_
              obtain ⟨u56, u57, u58, u59, hP, hf⟩ := o_sno (i := 0) (q := o) hM (by omega)
              refine va_get (D := (dC, dI)) (ci := 7) (v := .ref (pF g o 1)) (C := RX3) (T := TX3) (N := 10) hx hb hts (by decide +kernel) hown hK hP 0 rfl rfl 1 (by decide) (hts (.fieldLink RX3 19 "Snowpalace" "river" "LSnowpalace$River;") (by decide +kernel)) (fun _ h9 => h9) rfl dX3_cut_106 ?_
              refine lv_iload_n hx hb dX3_cut_109 rfl (lv_at hl 1 rfl) ?_
              obtain ⟨hP, hf⟩ := o_riv (i := 0) (q := (pF g o 1)) hM (by omega)
              refine va_calli (va_runV (As := [.int fi]) (rest := []) ⟨hx, hb, hml, hown, hts⟩ (rk_isClear l dC dI kA eD b g (pF g o 1) fi (by omega)) (cwV 1 hts gX3_cut_X0_isClear rfl rfl rfl (by decide +kernel) ⟨Nat.le_of_ble_eq_true rfl, Nat.le_of_ble_eq_true rfl⟩) ⟨fb_CX, va_recv hK hP (ci := 4) (q0 := 0) rfl rfl, fun U hU hW => ⟨rfl, CX.give hb0 hM hK hG hE hS hU hW⟩⟩ rfl rfl hl.1 rfl (lv_room (Nat.le_of_ble_eq_true rfl)) dX3_cut_110 ⟨(Nat.le_of_ble_eq_true rfl), (Nat.le_of_ble_eq_true rfl)⟩) hS (fun q _ h => h) (fun q h => h) (fun r60 u t H locs ht hvm hw61 hB hz1 hk1 hS => ?_)
              have hM := hB.back ht
              have hG := hB.2.2.2.1
              have jn62 : ∀  (H : Heap) (locs : List Loc) (ls : Array Slot), TM (dC, dI) kA b g H → va_S (fun q => b ≤ q) s.heap H locs → lv_has ls 3 [(0, .ref o), (1, .int fi), (2, .int ma)] → W p l e (headSpec wsX3_cut ({ frames := 6, cells := 1, slots := 6, locals := 82 })).room s m args below meth c H locs 0 0 Q (F0 m 139 ls []) := by
                intro H locs ls hM hS hl
                refine lv_aload_n hx hb dX3_cut_139 rfl (lv_at hl 0 rfl) ?_
                obtain ⟨u63, u64, u65, u66, hP, hf⟩ := o_sno (i := 0) (q := o) hM (by omega)
                refine va_get (D := (dC, dI)) (ci := 7) (v := .ref (pF g o 1)) (C := RX3) (T := TX3) (N := 10) hx hb hts (by decide +kernel) hown hK hP 0 rfl rfl 1 (by decide) (hts (.fieldLink RX3 19 "Snowpalace" "river" "LSnowpalace$River;") (by decide +kernel)) (fun _ h9 => h9) rfl dX3_cut_140 ?_
                obtain ⟨hP, hf⟩ := o_riv (i := 0) (q := (pF g o 1)) hM (by omega)
                refine va_get (D := (dC, dI)) (ci := 4) (v := .ref (pF g (pF g o 1) 2)) (C := RX0) (T := TX0) (N := 3) hx hb hts (by decide +kernel) hown hK hP 0 rfl rfl 2 (by decide) (hts (.fieldLink RX3 112 "Snowpalace$River" "places" "[I") (by decide +kernel)) (fun _ h9 => h9) rfl dX3_cut_143 ?_
                refine lv_iload_n hx hb dX3_cut_146 rfl (lv_at hl 1 rfl) ?_
                refine lv_dup2_11 hx hb dX3_cut_147 rfl rfl ?_
                obtain ⟨u67, hP, hf⟩ := o_ri (i := 0) (q := (pF g (pF g o 1) 2)) hM (by omega)
                refine va_iald (D := (dC, dI)) hx hb hK hP 0 0 rfl rfl (inI (by omega) (by omega)) dX3_cut_148 ?_
                refine lv_topi (fun v68 e69 => ?_)
                refine lv_iload_n hx hb dX3_cut_149 rfl (lv_at hl 2 rfl) ?_
                refine lv_isub hx hb dX3_cut_150 ?_
                refine lv_topi (fun v70 e71 => ?_)
                obtain ⟨u72, hP, hf⟩ := o_ri (i := 0) (q := (pF g (pF g o 1) 2)) hM (by omega)
                refine rt_iast (D := (dC, dI)) (t0 := 0) hx hb hK hP (hM.ge (by omega)) hS rfl (inI (by omega) (by omega)) dX3_cut_151 (fun H locs hP hz ho hS => ?_)
                have hM := s_ri (i := 0) hM (by omega) hP ho hf
                refine lv_aload_n hx hb dX3_cut_152 rfl (lv_at hl 0 rfl) ?_
                refine lv_dup hx hb dX3_cut_153 rfl ?_
                obtain ⟨u73, u74, u75, u76, hP, hf⟩ := o_sno (i := 0) (q := o) hM (by omega)
                refine va_get (D := (dC, dI)) (ci := 7) (v := .int u76) (C := RX3) (T := TX3) (N := 10) hx hb hts (by decide +kernel) hown hK hP 0 rfl rfl 9 (by decide) (hts (.fieldLink RX3 49 "Snowpalace" "funds" "I") (by decide +kernel)) (fun _ h9 => h9) rfl dX3_cut_154 ?_
                refine lv_bipush (v := 20) hx hb dX3_cut_157 (by decide) ?_
                refine lv_iload_n hx hb dX3_cut_159 rfl (lv_at hl 2 rfl) ?_
                refine lv_imul hx hb dX3_cut_160 ?_
                refine lv_topi (fun v77 e78 => ?_)
                refine lv_isub hx hb dX3_cut_161 ?_
                refine lv_topi (fun v79 e80 => ?_)
                obtain ⟨u81, u82, u83, u84, hP, hf⟩ := o_sno (i := 0) (q := o) hM (by omega)
                refine rt_put (D := (dC, dI)) (ci := 7) (v := .int v79) (ty := .int) (C := RX3) (T := TX3) (N := 10) hx hb hts (by decide +kernel) tyX3 tyX3_ok nmX3 hown hK hP (hM.ge (by omega)) hS rfl 9 (by decide) (hts (.fieldLink RX3 49 "Snowpalace" "funds" "I") (by decide +kernel)) (fun _ h9 => h9) rfl (by decide +kernel) rfl rfl (Nat.le_of_ble_eq_true rfl) dX3_cut_162 (fun H locs hP hz ho hS => ?_)
                have hM := s_sno (i := 0) hM (by omega) hP ho hf
                refine lv_aload_n hx hb dX3_cut_165 rfl (lv_at hl 0 rfl) ?_
                obtain ⟨u85, u86, u87, u88, hP, hf⟩ := o_sno (i := 0) (q := o) hM (by omega)
                refine va_get (D := (dC, dI)) (ci := 7) (v := .ref (pF g o 1)) (C := RX3) (T := TX3) (N := 10) hx hb hts (by decide +kernel) hown hK hP 0 rfl rfl 1 (by decide) (hts (.fieldLink RX3 19 "Snowpalace" "river" "LSnowpalace$River;") (by decide +kernel)) (fun _ h9 => h9) rfl dX3_cut_166 ?_
                obtain ⟨hP, hf⟩ := o_riv (i := 0) (q := (pF g o 1)) hM (by omega)
                refine va_get (D := (dC, dI)) (ci := 4) (v := .ref (pF g (pF g o 1) 2)) (C := RX0) (T := TX0) (N := 3) hx hb hts (by decide +kernel) hown hK hP 0 rfl rfl 2 (by decide) (hts (.fieldLink RX3 112 "Snowpalace$River" "places" "[I") (by decide +kernel)) (fun _ h9 => h9) rfl dX3_cut_169 ?_
                refine lv_iload_n hx hb dX3_cut_172 rfl (lv_at hl 1 rfl) ?_
                obtain ⟨u89, hP, hf⟩ := o_ri (i := 0) (q := (pF g (pF g o 1) 2)) hM (by omega)
                refine va_iald (D := (dC, dI)) hx hb hK hP 0 0 rfl rfl (inI (by omega) (by omega)) dX3_cut_173 ?_
                refine lv_topi (fun v90 e91 => ?_)
                subst hQ
                refine vx_ret ?_
                refine W.widen (k := 1) (n := 6) (Nat.le_of_ble_eq_true rfl) (Nat.le_of_ble_eq_true rfl) ?_
                exact W.iret (v := v90) hx hb hr (fun t ht hW => ⟨⟨v90, (), rfl, trivial, CX.give hb0 hM hK hG hE hS ht hW⟩, hS.F ht⟩) hS.2.2 dX3_cut_174
              refine lv_if_eq (tgt := 129) hx hb dX3_cut_113 (by decide) (fun c92 => ?_) (fun c92 => ?_)
              · skip
                refine lv_aload_n hx hb dX3_cut_129 rfl (lv_at hl 0 rfl) ?_
                refine lv_dup hx hb dX3_cut_130 rfl ?_
                obtain ⟨u93, u94, u95, u96, hP, hf⟩ := o_sno (i := 0) (q := o) hM (by omega)
                refine va_get (D := (dC, dI)) (ci := 7) (v := .int u94) (C := RX3) (T := TX3) (N := 10) hx hb hts (by decide +kernel) hown hK hP 0 rfl rfl 6 (by decide) (hts (.fieldLink RX3 39 "Snowpalace" "otherBlocks" "I") (by decide +kernel)) (fun _ h9 => h9) rfl dX3_cut_131 ?_
                refine lv_iload_n hx hb dX3_cut_134 rfl (lv_at hl 2 rfl) ?_
                refine lv_iadd hx hb dX3_cut_135 ?_
                refine lv_topi (fun v97 e98 => ?_)
                obtain ⟨u99, u100, u101, u102, hP, hf⟩ := o_sno (i := 0) (q := o) hM (by omega)
                refine rt_put (D := (dC, dI)) (ci := 7) (v := .int v97) (ty := .int) (C := RX3) (T := TX3) (N := 10) hx hb hts (by decide +kernel) tyX3 tyX3_ok nmX3 hown hK hP (hM.ge (by omega)) hS rfl 6 (by decide) (hts (.fieldLink RX3 39 "Snowpalace" "otherBlocks" "I") (by decide +kernel)) (fun _ h9 => h9) rfl (by decide +kernel) rfl rfl (Nat.le_of_ble_eq_true rfl) dX3_cut_136 (fun H locs hP hz ho hS => ?_)
                have hM := s_sno (i := 0) hM (by omega) hP ho hf
                exact jn62 H _ ls hM hS (lv_sub hl [0, 1, 2] rfl)
              · skip
                refine lv_aload_n hx hb dX3_cut_116 rfl (lv_at hl 0 rfl) ?_
                refine lv_dup hx hb dX3_cut_117 rfl ?_
                obtain ⟨u103, u104, u105, u106, hP, hf⟩ := o_sno (i := 0) (q := o) hM (by omega)
                refine va_get (D := (dC, dI)) (ci := 7) (v := .int u103) (C := RX3) (T := TX3) (N := 10) hx hb hts (by decide +kernel) hown hK hP 0 rfl rfl 5 (by decide) (hts (.fieldLink RX3 36 "Snowpalace" "clearBlocks" "I") (by decide +kernel)) (fun _ h9 => h9) rfl dX3_cut_118 ?_
                refine lv_iload_n hx hb dX3_cut_121 rfl (lv_at hl 2 rfl) ?_
                refine lv_iadd hx hb dX3_cut_122 ?_
                refine lv_topi (fun v107 e108 => ?_)
                obtain ⟨u109, u110, u111, u112, hP, hf⟩ := o_sno (i := 0) (q := o) hM (by omega)
                refine rt_put (D := (dC, dI)) (ci := 7) (v := .int v107) (ty := .int) (C := RX3) (T := TX3) (N := 10) hx hb hts (by decide +kernel) tyX3 tyX3_ok nmX3 hown hK hP (hM.ge (by omega)) hS rfl 5 (by decide) (hts (.fieldLink RX3 36 "Snowpalace" "clearBlocks" "I") (by decide +kernel)) (fun _ h9 => h9) rfl (by decide +kernel) rfl rfl (Nat.le_of_ble_eq_true rfl) dX3_cut_123 (fun H locs hP hz ho hS => ?_)
                have hM := s_sno (i := 0) hM (by omega) hP ho hf
                refine lv_goto (tgt := 139) hx hb dX3_cut_126 (by decide) ?_
                exact jn62 H _ ls hM hS (lv_sub hl [0, 1, 2] rfl)
            · skip
              have i113 := fun z => c54 ((Int32.le_iff_toInt_le).mpr z)
              have ii113 : (200 : Int32).toInt = 200 := by decide
              have i113 : ¬ ((v52 : Int32).toInt ≤ (200 : Int32).toInt) := i113
              obtain ⟨sa, hsa⟩ := hT.2.1 (117, "the yard has no room for all") (by decide +kernel)
              subst hQ
              exact vx_throwS (A := (fun q => b ≤ q)) (own := RX3) (cls := "java/lang/IllegalStateException") (text := "the yard has no room for all") (names := exN) hx hb hlt hown (by decide +kernel) (by decide +kernel) (hts (.classLink RX3 92 "java/lang/IllegalStateException") (by decide +kernel)) (hts (.initialized "java/lang/IllegalStateException") (by decide +kernel)) hsa (th_hat hT (fun w h => hts w (List.mem_cons_of_mem _ (List.mem_append_right _ h))) th_i3) (th_good th_i3) hT.2.2.2.1 hT.2.2.2.2 hS (hl.1.trans hml.symm) dX3_cut_95 dX3_cut_98 dX3_cut_99 dX3_cut_101 dX3_cut_104 (fun x h => (hnt x h).elim) (by decide) (Nat.le_of_ble_eq_true rfl) (Nat.le_of_ble_eq_true rfl) (Nat.le_of_ble_eq_true rfl) hlocks (fun t ha h1 h2 => ⟨(), trivial, ⟨(Or.inr (Or.inr rfl)), hM.keep h2⟩, th_F hS h1 h2⟩) hS.2.2 (Nat.le_of_ble_eq_true rfl) (Nat.le_of_ble_eq_true rfl)
          · skip
            exact jn20 H _ ls hM hS (lv_sub hl [0, 1, 2] rfl)
    · skip
      have g114 : ¬ ((1 : Int) ≤ ma.toInt ∧ ma.toInt ≤ (20 : Int)) := bI_f hw8 c9
      have zg114 : r7 = 0 := bI_f0 hw8 g114
      exact jn3 H _ ls hM hS (lv_sub hl [0, 1, 2] rfl)

set_option maxHeartbeats 4000000 in
set_option maxRecDepth 100000 in
theorem rf_yard (l : Launch) (dC : Nat → ClassId) (dI : Nat → Nat → Nat) (kA : Nat → ClassId) (eD b : Nat) (g : Gh) (o : Nat) (ic : Int32) (hto : tg g o = 1)  : Met l yX3_yard wsX3_yard ({ frames := 0, cells := 0, slots := 0, locals := 0 }) (va_Pc [.ref o, .int ic] (CX (dC, dI) kA eD b g)) (va_Qi (fun (r : Int32) (u : Unit) => True) (fun (u : Unit) t => CX (dC, dI) kA eD b g t) (fun q => b ≤ q)) 0 0 (fun q => b ≤ q) := by
  refine Met.ofW (cc := cX3_yard) (maxL := 2) (ret := (some .int)) (by decide +kernel) rfl ?_
  intro p e s m args below meth c s₁ B hml hv
  obtain ⟨rfl, hb0, hM, hK, hG, hE⟩ := hv
  have hx := B.exec
  have hb := B.bytes
  have hr := B.returns
  have hts := atoms_spec (ws := wsX3_yard) B.pre
  have hown : s.vm.findClass RX3 = some m.cls := findClass_of_methodNamed B.named
  have hlocks := B.notSynchronized
  have hT := hE.1
  have hN := hE.2.2.2.2.2.2.2.1
  have hS : va_S (fun q => b ≤ q) s.heap s.heap [] := va_S.rf
  have hl := lv_entry ([.ref o, .int ic]) (n := 2) (Nat.le_of_ble_eq_true rfl)
  rw [lg_entry_eq]
  generalize (lg_sl ([.ref o, .int ic]) ++ List.replicate (2 - (lg_sl ([.ref o, .int ic])).length) Slot.unset).toArray = ls at hl ⊢
  have hl : lv_has ls 2 [(0, .ref o), (1, .int ic)] := hl
  generalize ([.ref o, .int ic] : List Value).toArray = args at hts ⊢
  refine W.q (fun Q hQ => ?_)
  refine lv_iload_n hx hb dX3_yard_0 rfl (lv_at hl 1 rfl) ?_
  have jn2 : ∀ (x1 : Int32) (H : Heap) (locs : List Loc) (ls : Array Slot), TM (dC, dI) kA b g H → va_S (fun q => b ≤ q) s.heap H locs → lv_has ls 2 [(0, .ref o), (1, .int ic)] → W p l e (headSpec wsX3_yard ({ frames := 0, cells := 0, slots := 0, locals := 0 })).room s m args below meth c H locs 0 0 Q (F0 m 15 ls [.int x1]) := by
    intro x1 H locs ls hM hS hl
    subst hQ
    refine W.widen (k := 0) (n := 0) (Nat.le_of_ble_eq_true rfl) (Nat.le_of_ble_eq_true rfl) ?_
    exact W.iret (v := x1) hx hb hr (fun t ht hW => ⟨⟨x1, (), rfl, trivial, CX.give hb0 hM hK hG hE hS ht hW⟩, hS.F ht⟩) hS.2.2 dX3_yard_15
  refine lv_if_eq (tgt := 11) hx hb dX3_yard_1 (by decide) (fun c3 => ?_) (fun c3 => ?_)
  · skip
    refine lv_aload_n hx hb dX3_yard_11 rfl (lv_at hl 0 rfl) ?_
    obtain ⟨u4, u5, u6, u7, hP, hf⟩ := o_sno (i := 0) (q := o) hM (by omega)
    refine va_get (D := (dC, dI)) (ci := 7) (v := .int u5) (C := RX3) (T := TX3) (N := 10) hx hb hts (by decide +kernel) hown hK hP 0 rfl rfl 6 (by decide) (hts (.fieldLink RX3 39 "Snowpalace" "otherBlocks" "I") (by decide +kernel)) (fun _ h9 => h9) rfl dX3_yard_12 ?_
    exact jn2 u5 s.heap _ ls hM hS (lv_sub hl [0, 1] rfl)
  · skip
    refine lv_aload_n hx hb dX3_yard_4 rfl (lv_at hl 0 rfl) ?_
    obtain ⟨u8, u9, u10, u11, hP, hf⟩ := o_sno (i := 0) (q := o) hM (by omega)
    refine va_get (D := (dC, dI)) (ci := 7) (v := .int u8) (C := RX3) (T := TX3) (N := 10) hx hb hts (by decide +kernel) hown hK hP 0 rfl rfl 5 (by decide) (hts (.fieldLink RX3 36 "Snowpalace" "clearBlocks" "I") (by decide +kernel)) (fun _ h9 => h9) rfl dX3_yard_5 ?_
    refine lv_goto (tgt := 15) hx hb dX3_yard_8 (by decide) ?_
    exact jn2 u8 s.heap _ ls hM hS (lv_sub hl [0, 1] rfl)

set_option maxHeartbeats 4000000 in
set_option maxRecDepth 100000 in
theorem rf_lorries (l : Launch) (hlt : l.stackTraces = false) (dC : Nat → ClassId) (dI : Nat → Nat → Nat) (kA : Nat → ClassId) (eD b : Nat) (g : Gh) (o : Nat) (ma : Int32) (hto : tg g o = 1)  : vx_Met l yX3_lorries wsX3_lorries ({ frames := 6, cells := 1, slots := 6, locals := 82 }) (va_Pc [.ref o, .int ma] (CX (dC, dI) kA eD b g)) (va_Qi (fun (r : Int32) (u : Unit) => True) (fun (u : Unit) t => CX (dC, dI) kA eD b g t) (fun q => b ≤ q)) (vx_X (fun _ : Unit => True) (fun E _ t => (E = "java/lang/IllegalArgumentException") ∧ TM (dC, dI) kA b g t.heap) (fun q => b ≤ q)) 1 6 (fun q => b ≤ q) := by
  refine vx_ofW (cc := cX3_lorries) (maxL := 2) (ret := (some .int)) (by decide +kernel) rfl ?_
  intro p e s m args below meth c s₁ B hml hnt hv
  obtain ⟨rfl, hb0, hM, hK, hG, hE⟩ := hv
  have hx := B.exec
  have hb := B.bytes
  have hr := B.returns
  have hts := atoms_spec (ws := wsX3_lorries) B.pre
  have hown : s.vm.findClass RX3 = some m.cls := findClass_of_methodNamed B.named
  have hlocks := B.notSynchronized
  have hT := hE.1
  have hN := hE.2.2.2.2.2.2.2.1
  have hS : va_S (fun q => b ≤ q) s.heap s.heap [] := va_S.rf
  have hl := lv_entry ([.ref o, .int ma]) (n := 2) (Nat.le_of_ble_eq_true rfl)
  rw [lg_entry_eq]
  generalize (lg_sl ([.ref o, .int ma]) ++ List.replicate (2 - (lg_sl ([.ref o, .int ma])).length) Slot.unset).toArray = ls at hl ⊢
  have hl : lv_has ls 2 [(0, .ref o), (1, .int ma)] := hl
  generalize ([.ref o, .int ma] : List Value).toArray = args at hts ⊢
  refine lv_iload_n hx hb dX3_lorries_0 rfl (lv_at hl 1 rfl) ?_
  refine lv_iconst (v := 1) hx hb dX3_lorries_1 (by decide) ?_
  refine lv_bipush (v := 20) hx hb dX3_lorries_2 (by decide) ?_
  refine va_calli (va_runS (As := [.int ma, .int 1, .int 20]) (rest := []) ⟨hx, hb, hml, hown, hts⟩ (rk_isWithin l ma 1 20 (1) (20) (by decide) (by decide)) (va_cwS 3 hts gX3_lorries_X3_isWithin rfl rfl rfl (by decide +kernel) ⟨Nat.le_of_ble_eq_true rfl, Nat.le_of_ble_eq_true rfl⟩) ⟨fun a U g mk q => q, fun U hU hW => ⟨rfl, trivial⟩⟩ rfl rfl hl.1 rfl (lv_room (Nat.le_of_ble_eq_true rfl)) dX3_lorries_4 ⟨(Nat.le_of_ble_eq_true rfl), (Nat.le_of_ble_eq_true rfl)⟩) hS (fun q _ h => h.elim) (fun q h => h.elim) (fun r1 u t H locs ht hvm hw2 hB hz1 hk1 hS => ?_)
  have hM := hM.keep (fun p hp => hk1 p hp (fun z => z))
  have hw2 : r1 = bI ((1 : Int) ≤ ma.toInt ∧ ma.toInt ≤ (20 : Int)) := hw2
  refine lv_if_ne (tgt := 20) hx hb dX3_lorries_7 (by decide) (fun c3 => ?_) (fun c3 => ?_)
  · skip
    have g4 : (1 : Int) ≤ ma.toInt ∧ ma.toInt ≤ (20 : Int) := bI_t hw2 c3
    have zg4 : r1 = 1 := bI_t1 hw2 g4
    refine lv_aload_n hx hb dX3_lorries_20 rfl (lv_at hl 0 rfl) ?_
    refine lv_iconst (v := 5) hx hb dX3_lorries_21 (by decide) ?_
    refine lv_iload_n hx hb dX3_lorries_22 rfl (lv_at hl 1 rfl) ?_
    refine lv_imul hx hb dX3_lorries_23 ?_
    refine lv_topi (fun v5 e6 => ?_)
    obtain ⟨u7, u8, u9, u10, hP, hf⟩ := o_sno (i := 0) (q := o) hM (by omega)
    refine va_callv (va_runV (As := [.int v5]) (rest := []) ⟨hx, hb, hml, hown, hts⟩ (rk_storeSnow l dC dI kA eD b g o v5 (by omega)) (cwV 1 hts gX3_lorries_X3_storeSnow rfl rfl rfl (by decide +kernel) ⟨Nat.le_of_ble_eq_true rfl, Nat.le_of_ble_eq_true rfl⟩) ⟨fb_CX, va_recv hK hP (ci := 7) (q0 := 0) rfl rfl, fun U hU hW => ⟨rfl, CX.give hb0 hM hK hG hE hS hU hW⟩⟩ rfl rfl hl.1 rfl (lv_room (Nat.le_of_ble_eq_true rfl)) dX3_lorries_24 ⟨(Nat.le_of_ble_eq_true rfl), (Nat.le_of_ble_eq_true rfl)⟩) hS (fun q _ h => h) (fun q h => h) (fun u t H locs ht hvm hw12 hB hz1 hk1 hS => ?_)
    have hM := hB.back ht
    have hG := hB.2.2.2.1
    refine lv_aload_n hx hb dX3_lorries_27 rfl (lv_at hl 0 rfl) ?_
    refine lv_dup hx hb dX3_lorries_28 rfl ?_
    obtain ⟨u13, u14, u15, u16, hP, hf⟩ := o_sno (i := 0) (q := o) hM (by omega)
    refine va_get (D := (dC, dI)) (ci := 7) (v := .int u16) (C := RX3) (T := TX3) (N := 10) hx hb hts (by decide +kernel) hown hK hP 0 rfl rfl 9 (by decide) (hts (.fieldLink RX3 49 "Snowpalace" "funds" "I") (by decide +kernel)) (fun _ h9 => h9) rfl dX3_lorries_29 ?_
    refine lv_bipush (v := 100) hx hb dX3_lorries_32 (by decide) ?_
    refine lv_iload_n hx hb dX3_lorries_34 rfl (lv_at hl 1 rfl) ?_
    refine lv_imul hx hb dX3_lorries_35 ?_
    refine lv_topi (fun v17 e18 => ?_)
    refine lv_isub hx hb dX3_lorries_36 ?_
    refine lv_topi (fun v19 e20 => ?_)
    obtain ⟨u21, u22, u23, u24, hP, hf⟩ := o_sno (i := 0) (q := o) hM (by omega)
    refine rt_put (D := (dC, dI)) (ci := 7) (v := .int v19) (ty := .int) (C := RX3) (T := TX3) (N := 10) hx hb hts (by decide +kernel) tyX3 tyX3_ok nmX3 hown hK hP (hM.ge (by omega)) hS rfl 9 (by decide) (hts (.fieldLink RX3 49 "Snowpalace" "funds" "I") (by decide +kernel)) (fun _ h9 => h9) rfl (by decide +kernel) rfl rfl (Nat.le_of_ble_eq_true rfl) dX3_lorries_37 (fun H locs hP hz ho hS => ?_)
    have hM := s_sno (i := 0) hM (by omega) hP ho hf
    refine lv_aload_n hx hb dX3_lorries_40 rfl (lv_at hl 0 rfl) ?_
    obtain ⟨u25, u26, u27, u28, hP, hf⟩ := o_sno (i := 0) (q := o) hM (by omega)
    refine va_get (D := (dC, dI)) (ci := 7) (v := .int u27) (C := RX3) (T := TX3) (N := 10) hx hb hts (by decide +kernel) hown hK hP 0 rfl rfl 7 (by decide) (hts (.fieldLink RX3 42 "Snowpalace" "storedSnow" "I") (by decide +kernel)) (fun _ h9 => h9) rfl dX3_lorries_41 ?_
    refine vx_ret ?_
    refine W.widen (k := 1) (n := 6) (Nat.le_of_ble_eq_true rfl) (Nat.le_of_ble_eq_true rfl) ?_
    exact W.iret (v := u27) hx hb hr (fun t ht hW => ⟨⟨u27, (), rfl, trivial, CX.give hb0 hM hK hG hE hS ht hW⟩, hS.F ht⟩) hS.2.2 dX3_lorries_44
  · skip
    have g29 : ¬ ((1 : Int) ≤ ma.toInt ∧ ma.toInt ≤ (20 : Int)) := bI_f hw2 c3
    have zg29 : r1 = 0 := bI_f0 hw2 g29
    obtain ⟨sa, hsa⟩ := hT.2.1 (122, "so many lorries cannot come") (by decide +kernel)
    exact vx_throwS (A := (fun q => b ≤ q)) (own := RX3) (cls := "java/lang/IllegalArgumentException") (text := "so many lorries cannot come") (names := exN) hx hb hlt hown (by decide +kernel) (by decide +kernel) (hts (.classLink RX3 56 "java/lang/IllegalArgumentException") (by decide +kernel)) (hts (.initialized "java/lang/IllegalArgumentException") (by decide +kernel)) hsa (th_hat hT (fun w h => hts w (List.mem_cons_of_mem _ (List.mem_append_right _ h))) th_i1) (th_good th_i1) hT.2.2.2.1 hT.2.2.2.2 hS (hl.1.trans hml.symm) dX3_lorries_10 dX3_lorries_13 dX3_lorries_14 dX3_lorries_16 dX3_lorries_19 (fun x h => (hnt x h).elim) (by decide) (Nat.le_of_ble_eq_true rfl) (Nat.le_of_ble_eq_true rfl) (Nat.le_of_ble_eq_true rfl) hlocks (fun t ha h1 h2 => ⟨(), trivial, ⟨rfl, hM.keep h2⟩, th_F hS h1 h2⟩) hS.2.2 (Nat.le_of_ble_eq_true rfl) (Nat.le_of_ble_eq_true rfl)

set_option maxHeartbeats 4000000 in
set_option maxRecDepth 100000 in
theorem rf_snow (l : Launch) (dC : Nat → ClassId) (dI : Nat → Nat → Nat) (kA : Nat → ClassId) (eD b : Nat) (g : Gh) (o : Nat)  (hto : tg g o = 1)  : Met l yX3_snow wsX3_snow ({ frames := 0, cells := 0, slots := 0, locals := 0 }) (va_Pc [.ref o] (CX (dC, dI) kA eD b g)) (va_Qi (fun (r : Int32) (u : Unit) => True) (fun (u : Unit) t => CX (dC, dI) kA eD b g t) (fun q => b ≤ q)) 0 0 (fun q => b ≤ q) := by
  refine Met.ofW (cc := cX3_snow) (maxL := 1) (ret := (some .int)) (by decide +kernel) rfl ?_
  intro p e s m args below meth c s₁ B hml hv
  obtain ⟨rfl, hb0, hM, hK, hG, hE⟩ := hv
  have hx := B.exec
  have hb := B.bytes
  have hr := B.returns
  have hts := atoms_spec (ws := wsX3_snow) B.pre
  have hown : s.vm.findClass RX3 = some m.cls := findClass_of_methodNamed B.named
  have hlocks := B.notSynchronized
  have hT := hE.1
  have hN := hE.2.2.2.2.2.2.2.1
  have hS : va_S (fun q => b ≤ q) s.heap s.heap [] := va_S.rf
  have hl := lv_entry ([.ref o]) (n := 1) (Nat.le_of_ble_eq_true rfl)
  rw [lg_entry_eq]
  generalize (lg_sl ([.ref o]) ++ List.replicate (1 - (lg_sl ([.ref o])).length) Slot.unset).toArray = ls at hl ⊢
  have hl : lv_has ls 1 [(0, .ref o)] := hl
  generalize ([.ref o] : List Value).toArray = args at hts ⊢
  refine lv_aload_n hx hb dX3_snow_0 rfl (lv_at hl 0 rfl) ?_
  obtain ⟨u1, u2, u3, u4, hP, hf⟩ := o_sno (i := 0) (q := o) hM (by omega)
  refine va_get (D := (dC, dI)) (ci := 7) (v := .int u3) (C := RX3) (T := TX3) (N := 10) hx hb hts (by decide +kernel) hown hK hP 0 rfl rfl 7 (by decide) (hts (.fieldLink RX3 42 "Snowpalace" "storedSnow" "I") (by decide +kernel)) (fun _ h9 => h9) rfl dX3_snow_1 ?_
  refine W.widen (k := 0) (n := 0) (Nat.le_of_ble_eq_true rfl) (Nat.le_of_ble_eq_true rfl) ?_
  exact W.iret (v := u3) hx hb hr (fun t ht hW => ⟨⟨u3, (), rfl, trivial, CX.give hb0 hM hK hG hE hS ht hW⟩, hS.F ht⟩) hS.2.2 dX3_snow_4

set_option maxHeartbeats 4000000 in
set_option maxRecDepth 100000 in
theorem rf_money (l : Launch) (dC : Nat → ClassId) (dI : Nat → Nat → Nat) (kA : Nat → ClassId) (eD b : Nat) (g : Gh) (o : Nat)  (hto : tg g o = 1)  : Met l yX3_money wsX3_money ({ frames := 0, cells := 0, slots := 0, locals := 0 }) (va_Pc [.ref o] (CX (dC, dI) kA eD b g)) (va_Qi (fun (r : Int32) (u : Unit) => True) (fun (u : Unit) t => CX (dC, dI) kA eD b g t) (fun q => b ≤ q)) 0 0 (fun q => b ≤ q) := by
  refine Met.ofW (cc := cX3_money) (maxL := 1) (ret := (some .int)) (by decide +kernel) rfl ?_
  intro p e s m args below meth c s₁ B hml hv
  obtain ⟨rfl, hb0, hM, hK, hG, hE⟩ := hv
  have hx := B.exec
  have hb := B.bytes
  have hr := B.returns
  have hts := atoms_spec (ws := wsX3_money) B.pre
  have hown : s.vm.findClass RX3 = some m.cls := findClass_of_methodNamed B.named
  have hlocks := B.notSynchronized
  have hT := hE.1
  have hN := hE.2.2.2.2.2.2.2.1
  have hS : va_S (fun q => b ≤ q) s.heap s.heap [] := va_S.rf
  have hl := lv_entry ([.ref o]) (n := 1) (Nat.le_of_ble_eq_true rfl)
  rw [lg_entry_eq]
  generalize (lg_sl ([.ref o]) ++ List.replicate (1 - (lg_sl ([.ref o])).length) Slot.unset).toArray = ls at hl ⊢
  have hl : lv_has ls 1 [(0, .ref o)] := hl
  generalize ([.ref o] : List Value).toArray = args at hts ⊢
  refine lv_aload_n hx hb dX3_money_0 rfl (lv_at hl 0 rfl) ?_
  obtain ⟨u1, u2, u3, u4, hP, hf⟩ := o_sno (i := 0) (q := o) hM (by omega)
  refine va_get (D := (dC, dI)) (ci := 7) (v := .int u4) (C := RX3) (T := TX3) (N := 10) hx hb hts (by decide +kernel) hown hK hP 0 rfl rfl 9 (by decide) (hts (.fieldLink RX3 49 "Snowpalace" "funds" "I") (by decide +kernel)) (fun _ h9 => h9) rfl dX3_money_1 ?_
  refine W.widen (k := 0) (n := 0) (Nat.le_of_ble_eq_true rfl) (Nat.le_of_ble_eq_true rfl) ?_
  exact W.iret (v := u4) hx hb hr (fun t ht hW => ⟨⟨u4, (), rfl, trivial, CX.give hb0 hM hK hG hE hS ht hW⟩, hS.F ht⟩) hS.2.2 dX3_money_4

set_option maxHeartbeats 4000000 in
set_option maxRecDepth 100000 in
theorem rf_put (l : Launch) (hlt : l.stackTraces = false) (dC : Nat → ClassId) (dI : Nat → Nat → Nat) (kA : Nat → ClassId) (eD b : Nat) (g : Gh) (o : Nat) (site : Int32) (x : Int32) (y : Int32) (kd : Int32) (hto : tg g o = 1)  : vx_Met l yX3_put wsX3_put ({ frames := 6, cells := 1, slots := 6, locals := 137 }) (va_Pc [.ref o, .int site, .int x, .int y, .int kd] (CX (dC, dI) kA eD b g)) (va_Qi (fun (r : Int32) (u : Unit) => True) (fun (u : Unit) t => CX (dC, dI) kA eD b g t) (fun q => b ≤ q)) (vx_X (fun _ : Unit => True) (fun E _ t => (E = "java/lang/IndexOutOfBoundsException" ∨ E = "java/lang/IllegalArgumentException" ∨ E = "java/lang/UnsupportedOperationException" ∨ E = "java/lang/IllegalStateException") ∧ TM (dC, dI) kA b g t.heap) (fun q => b ≤ q)) 1 6 (fun q => b ≤ q) := by
  refine vx_ofW (cc := cX3_put) (maxL := 7) (ret := (some .int)) (by decide +kernel) rfl ?_
  intro p e s m args below meth c s₁ B hml hnt hv
  obtain ⟨rfl, hb0, hM, hK, hG, hE⟩ := hv
  have hx := B.exec
  have hb := B.bytes
  have hr := B.returns
  have hts := atoms_spec (ws := wsX3_put) B.pre
  have hown : s.vm.findClass RX3 = some m.cls := findClass_of_methodNamed B.named
  have hlocks := B.notSynchronized
  have hT := hE.1
  have hN := hE.2.2.2.2.2.2.2.1
  have hS : va_S (fun q => b ≤ q) s.heap s.heap [] := va_S.rf
  have hl := lv_entry ([.ref o, .int site, .int x, .int y, .int kd]) (n := 7) (Nat.le_of_ble_eq_true rfl)
  rw [lg_entry_eq]
  generalize (lg_sl ([.ref o, .int site, .int x, .int y, .int kd]) ++ List.replicate (7 - (lg_sl ([.ref o, .int site, .int x, .int y, .int kd])).length) Slot.unset).toArray = ls at hl ⊢
  have hl : lv_has ls 7 [(0, .ref o), (1, .int site), (2, .int x), (3, .int y), (4, .int kd)] := hl
  generalize ([.ref o, .int site, .int x, .int y, .int kd] : List Value).toArray = args at hts ⊢
  refine W.q (fun Q hQ => ?_)
  refine lv_aload_n hx hb dX3_put_0 rfl (lv_at hl 0 rfl) ?_
  refine lv_iload_n hx hb dX3_put_1 rfl (lv_at hl 1 rfl) ?_
  refine lv_iload_n hx hb dX3_put_2 rfl (lv_at hl 2 rfl) ?_
  refine lv_iload_n hx hb dX3_put_3 rfl (lv_at hl 3 rfl) ?_
  obtain ⟨u1, u2, u3, u4, hP, hf⟩ := o_sno (i := 0) (q := o) hM (by omega)
  refine va_callq (va_runV (As := [.int site, .int x, .int y]) (rest := []) ⟨hx, hb, hml, hown, hts⟩ (rk_placedSite l dC dI kA eD b g o site x y (by omega)) (cwV 3 hts gX3_put_X3_placedSite rfl rfl rfl (by decide +kernel) ⟨Nat.le_of_ble_eq_true rfl, Nat.le_of_ble_eq_true rfl⟩) ⟨fb_CX, va_recv hK hP (ci := 7) (q0 := 0) rfl rfl, fun U hU hW => ⟨rfl, CX.give hb0 hM hK hG hE hS hU hW⟩⟩ rfl rfl hl.1 rfl (lv_room (Nat.le_of_ble_eq_true rfl)) dX3_put_4 ⟨(Nat.le_of_ble_eq_true rfl), (Nat.le_of_ble_eq_true rfl)⟩) hS (fun q _ h => h) (fun q h => h) (fun r5 u t H locs ht hvm hw6 hB hz1 hk1 hS => ?_)
  have hM := hB.back ht
  have hG := hB.2.2.2.1
  rcases hw6 with ⟨rfl, hn14⟩ | ⟨j7, a8, jx9, jy10, rfl, rfl, rfl, rfl, hjx9, hjy10, hj13, ho11, ht12⟩
  · skip
    refine lv_astoreN (lv' := [(5, .null), (0, .ref o), (1, .int site), (2, .int x), (3, .int y), (4, .int kd)]) hx hb dX3_put_7 hl (by decide) rfl (fun ls hl => ?_)
    refine lv_aloadN hx hb dX3_put_9 (lv_at hl 0 rfl) ?_
    refine lv_ifnonnullN hx hb dX3_put_11 ?_
    obtain ⟨sa, hsa⟩ := hT.2.1 (137, "no such site or place") (by decide +kernel)
    subst hQ
    exact vx_throwS (A := (fun q => b ≤ q)) (own := RX3) (cls := "java/lang/IndexOutOfBoundsException") (text := "no such site or place") (names := exN) hx hb hlt hown (by decide +kernel) (by decide +kernel) (hts (.classLink RX3 135 "java/lang/IndexOutOfBoundsException") (by decide +kernel)) (hts (.initialized "java/lang/IndexOutOfBoundsException") (by decide +kernel)) hsa (th_hat hT (fun w h => hts w (List.mem_cons_of_mem _ (List.mem_append_left _ (List.mem_append_left _ (List.mem_append_left _ (List.mem_append_left _ (List.mem_append_right _ h))))))) th_i4) (th_good th_i4) hT.2.2.2.1 hT.2.2.2.2 hS (hl.1.trans hml.symm) dX3_put_14 dX3_put_17 dX3_put_18 dX3_put_20 dX3_put_23 (fun x h => (hnt x h).elim) (by decide) (Nat.le_of_ble_eq_true rfl) (Nat.le_of_ble_eq_true rfl) (Nat.le_of_ble_eq_true rfl) hlocks (fun t ha h1 h2 => ⟨(), trivial, ⟨(Or.inl rfl), hM.keep h2⟩, th_F hS h1 h2⟩) hS.2.2 (Nat.le_of_ble_eq_true rfl) (Nat.le_of_ble_eq_true rfl)
  · skip
    have hl : lv_has ls 7 [(0, .ref o), (1, .int (nI j7)), (2, .int (nI jx9)), (3, .int (nI jy10)), (4, .int kd)] := hl
    refine lv_astore (lv' := [(5, .ref a8), (0, .ref o), (1, .int (nI j7)), (2, .int (nI jx9)), (3, .int (nI jy10)), (4, .int kd)]) hx hb dX3_put_7 hl (by decide) rfl (fun ls hl => ?_)
    refine lv_aload hx hb dX3_put_9 (lv_at hl 0 rfl) ?_
    refine lv_ifnonnull (tgt := 24) hx hb dX3_put_11 (by decide) ?_
    refine lv_iload hx hb dX3_put_24 (lv_at hl 5 rfl) ?_
    refine lv_bipush (v := 115) hx hb dX3_put_26 (by decide) ?_
    have jn15 : ∀  (H : Heap) (locs : List Loc) (ls : Array Slot), TM (dC, dI) kA b g H → va_S (fun q => b ≤ q) s.heap H locs → lv_has ls 7 [(5, .ref a8), (0, .ref o), (1, .int (nI j7)), (2, .int (nI jx9)), (3, .int (nI jy10)), (4, .int kd)] → W p l e (headSpec wsX3_put ({ frames := 6, cells := 1, slots := 6, locals := 137 })).room s m args below meth c H locs 0 0 Q (F0 m 55 ls []) := by
      intro H locs ls hM hS hl
      refine lv_iload_n hx hb dX3_put_55 rfl (lv_at hl 3 rfl) ?_
      refine lv_iload_n hx hb dX3_put_56 rfl (lv_at hl 4 rfl) ?_
      refine va_calli (va_runS (As := [.int (nI jx9), .int (nI jy10)]) (rest := []) ⟨hx, hb, hml, hown, hts⟩ (rk_placeOf l (nI jx9) (nI jy10)) (va_cwS 2 hts gX3_put_X3_placeOf rfl rfl rfl (by decide +kernel) ⟨Nat.le_of_ble_eq_true rfl, Nat.le_of_ble_eq_true rfl⟩) ⟨fun a U g mk q => q, fun U hU hW => ⟨rfl, trivial⟩⟩ rfl rfl hl.1 rfl (lv_room (Nat.le_of_ble_eq_true rfl)) dX3_put_57 ⟨(Nat.le_of_ble_eq_true rfl), (Nat.le_of_ble_eq_true rfl)⟩) hS (fun q _ h => h.elim) (fun q h => h.elim) (fun r16 u t H locs ht hvm hw17 hB hz1 hk1 hS => ?_)
      have hM := hM.keep (fun p hp => hk1 p hp (fun z => z))
      obtain rfl : r16 = nI (8 * jy10 + jx9) := hw17.trans (by rw [show (8 : Int32) = nI 8 from rfl]; exact (congrArg (· + nI jx9) (pk_mul 8 jy10)).trans (nI_add _ _))
      refine lv_istore (lv' := [(6, .int (nI (8 * jy10 + jx9))), (5, .ref a8), (0, .ref o), (1, .int (nI j7)), (2, .int (nI jx9)), (3, .int (nI jy10)), (4, .int kd)]) hx hb dX3_put_60 hl (by decide) rfl (fun ls hl => ?_)
      refine lv_aload hx hb dX3_put_62 (lv_at hl 1 rfl) ?_
      refine lv_iload hx hb dX3_put_64 (lv_at hl 0 rfl) ?_
      obtain ⟨u18, u19, u20, u21, u22, u23, hP, hf⟩ := o_st (i := j7) (q := a8) hM (by omega)
      refine va_calli (va_runV (As := [.int (nI (8 * jy10 + jx9))]) (rest := []) ⟨hx, hb, hml, hown, hts⟩ (rk_has l dC dI kA eD b g a8 j7 (nI (8 * jy10 + jx9)) (by omega)) (cwV 1 hts gX3_put_X1_has rfl rfl rfl (by decide +kernel) ⟨Nat.le_of_ble_eq_true rfl, Nat.le_of_ble_eq_true rfl⟩) ⟨fb_CX, va_recv hK hP (ci := 5) (q0 := 0) rfl rfl, fun U hU hW => ⟨rfl, CX.give hb0 hM hK hG hE hS hU hW⟩⟩ rfl rfl hl.1 rfl (lv_room (Nat.le_of_ble_eq_true rfl)) dX3_put_66 ⟨(Nat.le_of_ble_eq_true rfl), (Nat.le_of_ble_eq_true rfl)⟩) hS (fun q _ h => h) (fun q h => h) (fun r24 u t H locs ht hvm hw25 hB hz1 hk1 hS => ?_)
      have hM := hB.back ht
      have hG := hB.2.2.2.1
      have jn26 : ∀  (H : Heap) (locs : List Loc) (ls : Array Slot), TM (dC, dI) kA b g H → va_S (fun q => b ≤ q) s.heap H locs → lv_has ls 7 [(6, .int (nI (8 * jy10 + jx9))), (5, .ref a8), (0, .ref o), (1, .int (nI j7)), (2, .int (nI jx9)), (3, .int (nI jy10)), (4, .int kd)] → W p l e (headSpec wsX3_put ({ frames := 6, cells := 1, slots := 6, locals := 137 })).room s m args below meth c H locs 0 0 Q (F0 m 82 ls []) := by
        intro H locs ls hM hS hl
        obtain ⟨sa, hsa⟩ := hT.2.1 (152, "a cell is there, or it would not stand") (by decide +kernel)
        subst hQ
        exact vx_throwS (A := (fun q => b ≤ q)) (own := RX3) (cls := "java/lang/UnsupportedOperationException") (text := "a cell is there, or it would not stand") (names := exN) hx hb hlt hown (by decide +kernel) (by decide +kernel) (hts (.classLink RX3 63 "java/lang/UnsupportedOperationException") (by decide +kernel)) (hts (.initialized "java/lang/UnsupportedOperationException") (by decide +kernel)) hsa (th_hat hT (fun w h => hts w (List.mem_cons_of_mem _ (List.mem_append_left _ (List.mem_append_left _ (List.mem_append_right _ h))))) th_i2) (th_good th_i2) hT.2.2.2.1 hT.2.2.2.2 hS (hl.1.trans hml.symm) dX3_put_82 dX3_put_85 dX3_put_86 dX3_put_88 dX3_put_91 (fun x h => (hnt x h).elim) (by decide) (Nat.le_of_ble_eq_true rfl) (Nat.le_of_ble_eq_true rfl) (Nat.le_of_ble_eq_true rfl) hlocks (fun t ha h1 h2 => ⟨(), trivial, ⟨(Or.inr (Or.inr (Or.inl rfl))), hM.keep h2⟩, th_F hS h1 h2⟩) hS.2.2 (Nat.le_of_ble_eq_true rfl) (Nat.le_of_ble_eq_true rfl)
      refine lv_if_ne (tgt := 82) hx hb dX3_put_69 (by decide) (fun c27 => ?_) (fun c27 => ?_)
      · skip
        obtain ⟨-, hr1, hr2⟩ := hw25.resolve_left c27
        exact jn26 H _ ls hM hS (lv_sub hl [0, 1, 2, 3, 4, 5, 6] rfl)
      · skip
        refine lv_aload hx hb dX3_put_72 (lv_at hl 1 rfl) ?_
        refine lv_iload hx hb dX3_put_74 (lv_at hl 0 rfl) ?_
        obtain ⟨u28, u29, u30, u31, u32, u33, hP, hf⟩ := o_st (i := j7) (q := a8) hM (by omega)
        refine va_calli (va_runV (As := [.int (nI (8 * jy10 + jx9))]) (rest := []) ⟨hx, hb, hml, hown, hts⟩ (rk_wouldStand l dC dI kA eD b g a8 j7 (8 * jy10 + jx9) (by omega) (by omega)) (cwV 1 hts gX3_put_X1_wouldStand rfl rfl rfl (by decide +kernel) ⟨Nat.le_of_ble_eq_true rfl, Nat.le_of_ble_eq_true rfl⟩) ⟨fb_CX, va_recv hK hP (ci := 5) (q0 := 0) rfl rfl, fun U hU hW => ⟨rfl, CX.give hb0 hM hK hG hE hS hU hW⟩⟩ rfl rfl hl.1 rfl (lv_room (Nat.le_of_ble_eq_true rfl)) dX3_put_76 ⟨(Nat.le_of_ble_eq_true rfl), (Nat.le_of_ble_eq_true rfl)⟩) hS (fun q _ h => h) (fun q h => h) (fun r34 u t H locs ht hvm hw35 hB hz1 hk1 hS => ?_)
        have hM := hB.back ht
        have hG := hB.2.2.2.1
        refine lv_if_ne (tgt := 92) hx hb dX3_put_79 (by decide) (fun c36 => ?_) (fun c36 => ?_)
        · skip
          refine lv_aload_n hx hb dX3_put_92 rfl (lv_at hl 2 rfl) ?_
          refine lv_iload hx hb dX3_put_93 (lv_at hl 6 rfl) ?_
          obtain ⟨u37, u38, u39, u40, hP, hf⟩ := o_sno (i := 0) (q := o) hM (by omega)
          refine va_calli (va_runV (As := [.int kd]) (rest := []) ⟨hx, hb, hml, hown, hts⟩ (rk_hasStuffFor l dC dI kA eD b g o kd (by omega)) (cwV 1 hts gX3_put_X3_hasStuffFor rfl rfl rfl (by decide +kernel) ⟨Nat.le_of_ble_eq_true rfl, Nat.le_of_ble_eq_true rfl⟩) ⟨fb_CX, va_recv hK hP (ci := 7) (q0 := 0) rfl rfl, fun U hU hW => ⟨rfl, CX.give hb0 hM hK hG hE hS hU hW⟩⟩ rfl rfl hl.1 rfl (lv_room (Nat.le_of_ble_eq_true rfl)) dX3_put_95 ⟨(Nat.le_of_ble_eq_true rfl), (Nat.le_of_ble_eq_true rfl)⟩) hS (fun q _ h => h) (fun q h => h) (fun r41 u t H locs ht hvm hw42 hB hz1 hk1 hS => ?_)
          have hM := hB.back ht
          have hG := hB.2.2.2.1
          refine lv_if_ne (tgt := 111) hx hb dX3_put_98 (by decide) (fun c43 => ?_) (fun c43 => ?_)
          · skip
            refine lv_aload_n hx hb dX3_put_111 rfl (lv_at hl 2 rfl) ?_
            refine lv_iload hx hb dX3_put_112 (lv_at hl 6 rfl) ?_
            obtain ⟨u44, u45, u46, u47, hP, hf⟩ := o_sno (i := 0) (q := o) hM (by omega)
            refine va_callv (va_runV (As := [.int kd]) (rest := []) ⟨hx, hb, hml, hown, hts⟩ (rk_useStuffFor l dC dI kA eD b g o kd (by omega)) (cwV 1 hts gX3_put_X3_useStuffFor rfl rfl rfl (by decide +kernel) ⟨Nat.le_of_ble_eq_true rfl, Nat.le_of_ble_eq_true rfl⟩) ⟨fb_CX, va_recv hK hP (ci := 7) (q0 := 0) rfl rfl, fun U hU hW => ⟨rfl, CX.give hb0 hM hK hG hE hS hU hW⟩⟩ rfl rfl hl.1 rfl (lv_room (Nat.le_of_ble_eq_true rfl)) dX3_put_114 ⟨(Nat.le_of_ble_eq_true rfl), (Nat.le_of_ble_eq_true rfl)⟩) hS (fun q _ h => h) (fun q h => h) (fun u t H locs ht hvm hw49 hB hz1 hk1 hS => ?_)
            have hM := hB.back ht
            have hG := hB.2.2.2.1
            refine lv_aload_n hx hb dX3_put_117 rfl (lv_at hl 2 rfl) ?_
            refine lv_dup hx hb dX3_put_118 rfl ?_
            obtain ⟨u50, u51, u52, u53, hP, hf⟩ := o_sno (i := 0) (q := o) hM (by omega)
            refine va_get (D := (dC, dI)) (ci := 7) (v := .int u53) (C := RX3) (T := TX3) (N := 10) hx hb hts (by decide +kernel) hown hK hP 0 rfl rfl 9 (by decide) (hts (.fieldLink RX3 49 "Snowpalace" "funds" "I") (by decide +kernel)) (fun _ h9 => h9) rfl dX3_put_119 ?_
            refine lv_bipush (v := 10) hx hb dX3_put_122 (by decide) ?_
            refine lv_isub hx hb dX3_put_124 ?_
            refine lv_topi (fun v54 e55 => ?_)
            obtain ⟨u56, u57, u58, u59, hP, hf⟩ := o_sno (i := 0) (q := o) hM (by omega)
            refine rt_put (D := (dC, dI)) (ci := 7) (v := .int v54) (ty := .int) (C := RX3) (T := TX3) (N := 10) hx hb hts (by decide +kernel) tyX3 tyX3_ok nmX3 hown hK hP (hM.ge (by omega)) hS rfl 9 (by decide) (hts (.fieldLink RX3 49 "Snowpalace" "funds" "I") (by decide +kernel)) (fun _ h9 => h9) rfl (by decide +kernel) rfl rfl (Nat.le_of_ble_eq_true rfl) dX3_put_125 (fun H locs hP hz ho hS => ?_)
            have hM := s_sno (i := 0) hM (by omega) hP ho hf
            refine lv_aload hx hb dX3_put_128 (lv_at hl 1 rfl) ?_
            refine lv_iload hx hb dX3_put_130 (lv_at hl 0 rfl) ?_
            refine lv_iload hx hb dX3_put_132 (lv_at hl 6 rfl) ?_
            obtain ⟨u60, u61, u62, u63, u64, u65, hP, hf⟩ := o_st (i := j7) (q := a8) hM (by omega)
            refine va_callv (va_runV (As := [.int (nI (8 * jy10 + jx9)), .int kd]) (rest := []) ⟨hx, hb, hml, hown, hts⟩ (rk_setCell l dC dI kA eD b g a8 j7 (nI (8 * jy10 + jx9)) kd (by omega)) (cwV 2 hts gX3_put_X1_setCell rfl rfl rfl (by decide +kernel) ⟨Nat.le_of_ble_eq_true rfl, Nat.le_of_ble_eq_true rfl⟩) ⟨fb_CX, va_recv hK hP (ci := 5) (q0 := 0) rfl rfl, fun U hU hW => ⟨rfl, CX.give hb0 hM hK hG hE hS hU hW⟩⟩ rfl rfl hl.1 rfl (lv_room (Nat.le_of_ble_eq_true rfl)) dX3_put_134 ⟨(Nat.le_of_ble_eq_true rfl), (Nat.le_of_ble_eq_true rfl)⟩) hS (fun q _ h => h) (fun q h => h) (fun u t H locs ht hvm hw67 hB hz1 hk1 hS => ?_)
            have hM := hB.back ht
            have hG := hB.2.2.2.1
            refine lv_aload_n hx hb dX3_put_137 rfl (lv_at hl 2 rfl) ?_
            refine lv_aload hx hb dX3_put_138 (lv_at hl 1 rfl) ?_
            obtain ⟨u68, u69, u70, u71, hP, hf⟩ := o_sno (i := 0) (q := o) hM (by omega)
            refine va_calli (va_runV (As := [.ref a8]) (rest := []) ⟨hx, hb, hml, hown, hts⟩ (rk_letFall l dC dI kA eD b g o a8 j7 (by omega) (by omega)) (cwV 1 hts gX3_put_X3_letFall rfl rfl rfl (by decide +kernel) ⟨Nat.le_of_ble_eq_true rfl, Nat.le_of_ble_eq_true rfl⟩) ⟨fb_CX, va_recv hK hP (ci := 7) (q0 := 0) rfl rfl, fun U hU hW => ⟨rfl, CX.give hb0 hM hK hG hE hS hU hW⟩⟩ rfl rfl hl.1 rfl (lv_room (Nat.le_of_ble_eq_true rfl)) dX3_put_140 ⟨(Nat.le_of_ble_eq_true rfl), (Nat.le_of_ble_eq_true rfl)⟩) hS (fun q _ h => h) (fun q h => h) (fun r72 u t H locs ht hvm hw73 hB hz1 hk1 hS => ?_)
            have hM := hB.back ht
            have hG := hB.2.2.2.1
            refine lv_pop hx hb dX3_put_143 rfl ?_
            refine lv_aload hx hb dX3_put_144 (lv_at hl 1 rfl) ?_
            obtain ⟨u74, u75, u76, u77, u78, u79, hP, hf⟩ := o_st (i := j7) (q := a8) hM (by omega)
            refine va_calli (va_runV (As := []) (rest := []) ⟨hx, hb, hml, hown, hts⟩ (rk_cellCount l dC dI kA eD b g a8 j7 (by omega)) (cwV 0 hts gX3_put_X1_cellCount rfl rfl rfl (by decide +kernel) ⟨Nat.le_of_ble_eq_true rfl, Nat.le_of_ble_eq_true rfl⟩) ⟨fb_CX, va_recv hK hP (ci := 5) (q0 := 0) rfl rfl, fun U hU hW => ⟨rfl, CX.give hb0 hM hK hG hE hS hU hW⟩⟩ rfl rfl hl.1 rfl (lv_room (Nat.le_of_ble_eq_true rfl)) dX3_put_146 ⟨(Nat.le_of_ble_eq_true rfl), (Nat.le_of_ble_eq_true rfl)⟩) hS (fun q _ h => h) (fun q h => h) (fun r80 u t H locs ht hvm hw81 hB hz1 hk1 hS => ?_)
            have hM := hB.back ht
            have hG := hB.2.2.2.1
            obtain ⟨q82, hq83, rfl⟩ := hw81
            subst hQ
            refine vx_ret ?_
            refine W.widen (k := 1) (n := 6) (Nat.le_of_ble_eq_true rfl) (Nat.le_of_ble_eq_true rfl) ?_
            exact W.iret (v := (nI q82)) hx hb hr (fun t ht hW => ⟨⟨(nI q82), (), rfl, trivial, CX.give hb0 hM hK hG hE hS ht hW⟩, hS.F ht⟩) hS.2.2 dX3_put_149
          · skip
            obtain ⟨sa, hsa⟩ := hT.2.1 (158, "no such block, or not as much snow") (by decide +kernel)
            subst hQ
            exact vx_throwS (A := (fun q => b ≤ q)) (own := RX3) (cls := "java/lang/IllegalStateException") (text := "no such block, or not as much snow") (names := exN) hx hb hlt hown (by decide +kernel) (by decide +kernel) (hts (.classLink RX3 92 "java/lang/IllegalStateException") (by decide +kernel)) (hts (.initialized "java/lang/IllegalStateException") (by decide +kernel)) hsa (th_hat hT (fun w h => hts w (List.mem_cons_of_mem _ (List.mem_append_left _ (List.mem_append_right _ h)))) th_i3) (th_good th_i3) hT.2.2.2.1 hT.2.2.2.2 hS (hl.1.trans hml.symm) dX3_put_101 dX3_put_104 dX3_put_105 dX3_put_107 dX3_put_110 (fun x h => (hnt x h).elim) (by decide) (Nat.le_of_ble_eq_true rfl) (Nat.le_of_ble_eq_true rfl) (Nat.le_of_ble_eq_true rfl) hlocks (fun t ha h1 h2 => ⟨(), trivial, ⟨(Or.inr (Or.inr (Or.inr rfl))), hM.keep h2⟩, th_F hS h1 h2⟩) hS.2.2 (Nat.le_of_ble_eq_true rfl) (Nat.le_of_ble_eq_true rfl)
        · skip
          exact jn26 H _ ls hM hS (lv_sub hl [0, 1, 2, 3, 4, 5, 6] rfl)
    refine lv_icmp_eq (tgt := 55) hx hb dX3_put_28 (by decide) (fun c84 => ?_) (fun c84 => ?_)
    · skip
      exact jn15 H _ ls hM hS (lv_sub hl [0, 1, 2, 3, 4, 5] rfl)
    · skip
      refine lv_iload hx hb dX3_put_31 (lv_at hl 5 rfl) ?_
      refine lv_bipush (v := 105) hx hb dX3_put_33 (by decide) ?_
      refine lv_icmp_eq (tgt := 55) hx hb dX3_put_35 (by decide) (fun c85 => ?_) (fun c85 => ?_)
      · skip
        exact jn15 H _ ls hM hS (lv_sub hl [0, 1, 2, 3, 4, 5] rfl)
      · skip
        refine lv_iload hx hb dX3_put_38 (lv_at hl 5 rfl) ?_
        refine lv_bipush (v := 99) hx hb dX3_put_40 (by decide) ?_
        refine lv_icmp_eq (tgt := 55) hx hb dX3_put_42 (by decide) (fun c86 => ?_) (fun c86 => ?_)
        · skip
          exact jn15 H _ ls hM hS (lv_sub hl [0, 1, 2, 3, 4, 5] rfl)
        · skip
          obtain ⟨sa, hsa⟩ := hT.2.1 (140, "no such kind") (by decide +kernel)
          subst hQ
          exact vx_throwS (A := (fun q => b ≤ q)) (own := RX3) (cls := "java/lang/IllegalArgumentException") (text := "no such kind") (names := exN) hx hb hlt hown (by decide +kernel) (by decide +kernel) (hts (.classLink RX3 56 "java/lang/IllegalArgumentException") (by decide +kernel)) (hts (.initialized "java/lang/IllegalArgumentException") (by decide +kernel)) hsa (th_hat hT (fun w h => hts w (List.mem_cons_of_mem _ (List.mem_append_left _ (List.mem_append_left _ (List.mem_append_left _ (List.mem_append_right _ h)))))) th_i1) (th_good th_i1) hT.2.2.2.1 hT.2.2.2.2 hS (hl.1.trans hml.symm) dX3_put_45 dX3_put_48 dX3_put_49 dX3_put_51 dX3_put_54 (fun x h => (hnt x h).elim) (by decide) (Nat.le_of_ble_eq_true rfl) (Nat.le_of_ble_eq_true rfl) (Nat.le_of_ble_eq_true rfl) hlocks (fun t ha h1 h2 => ⟨(), trivial, ⟨(Or.inr (Or.inl rfl)), hM.keep h2⟩, th_F hS h1 h2⟩) hS.2.2 (Nat.le_of_ble_eq_true rfl) (Nat.le_of_ble_eq_true rfl)

set_option maxHeartbeats 4000000 in
set_option maxRecDepth 100000 in
theorem rf_at (l : Launch) (hlt : l.stackTraces = false) (dC : Nat → ClassId) (dI : Nat → Nat → Nat) (kA : Nat → ClassId) (eD b : Nat) (g : Gh) (o : Nat) (site : Int32) (x : Int32) (y : Int32) (hto : tg g o = 1)  : vx_Met l yX3_at wsX3_at ({ frames := 6, cells := 1, slots := 6, locals := 82 }) (va_Pc [.ref o, .int site, .int x, .int y] (CX (dC, dI) kA eD b g)) (va_Qi (fun (r : Int32) (u : Unit) => True) (fun (u : Unit) t => CX (dC, dI) kA eD b g t) (fun q => b ≤ q)) (vx_X (fun _ : Unit => True) (fun E _ t => (E = "java/lang/IndexOutOfBoundsException") ∧ TM (dC, dI) kA b g t.heap) (fun q => b ≤ q)) 1 6 (fun q => b ≤ q) := by
  refine vx_ofW (cc := cX3_at) (maxL := 5) (ret := (some .char)) (by decide +kernel) rfl ?_
  intro p e s m args below meth c s₁ B hml hnt hv
  obtain ⟨rfl, hb0, hM, hK, hG, hE⟩ := hv
  have hx := B.exec
  have hb := B.bytes
  have hr := B.returns
  have hts := atoms_spec (ws := wsX3_at) B.pre
  have hown : s.vm.findClass RX3 = some m.cls := findClass_of_methodNamed B.named
  have hlocks := B.notSynchronized
  have hT := hE.1
  have hN := hE.2.2.2.2.2.2.2.1
  have hS : va_S (fun q => b ≤ q) s.heap s.heap [] := va_S.rf
  have hl := lv_entry ([.ref o, .int site, .int x, .int y]) (n := 5) (Nat.le_of_ble_eq_true rfl)
  rw [lg_entry_eq]
  generalize (lg_sl ([.ref o, .int site, .int x, .int y]) ++ List.replicate (5 - (lg_sl ([.ref o, .int site, .int x, .int y])).length) Slot.unset).toArray = ls at hl ⊢
  have hl : lv_has ls 5 [(0, .ref o), (1, .int site), (2, .int x), (3, .int y)] := hl
  generalize ([.ref o, .int site, .int x, .int y] : List Value).toArray = args at hts ⊢
  refine lv_aload_n hx hb dX3_at_0 rfl (lv_at hl 0 rfl) ?_
  refine lv_iload_n hx hb dX3_at_1 rfl (lv_at hl 1 rfl) ?_
  refine lv_iload_n hx hb dX3_at_2 rfl (lv_at hl 2 rfl) ?_
  refine lv_iload_n hx hb dX3_at_3 rfl (lv_at hl 3 rfl) ?_
  obtain ⟨u1, u2, u3, u4, hP, hf⟩ := o_sno (i := 0) (q := o) hM (by omega)
  refine va_callq (va_runV (As := [.int site, .int x, .int y]) (rest := []) ⟨hx, hb, hml, hown, hts⟩ (rk_placedSite l dC dI kA eD b g o site x y (by omega)) (cwV 3 hts gX3_at_X3_placedSite rfl rfl rfl (by decide +kernel) ⟨Nat.le_of_ble_eq_true rfl, Nat.le_of_ble_eq_true rfl⟩) ⟨fb_CX, va_recv hK hP (ci := 7) (q0 := 0) rfl rfl, fun U hU hW => ⟨rfl, CX.give hb0 hM hK hG hE hS hU hW⟩⟩ rfl rfl hl.1 rfl (lv_room (Nat.le_of_ble_eq_true rfl)) dX3_at_4 ⟨(Nat.le_of_ble_eq_true rfl), (Nat.le_of_ble_eq_true rfl)⟩) hS (fun q _ h => h) (fun q h => h) (fun r5 u t H locs ht hvm hw6 hB hz1 hk1 hS => ?_)
  have hM := hB.back ht
  have hG := hB.2.2.2.1
  rcases hw6 with ⟨rfl, hn14⟩ | ⟨j7, a8, jx9, jy10, rfl, rfl, rfl, rfl, hjx9, hjy10, hj13, ho11, ht12⟩
  · skip
    refine lv_astoreN (lv' := [(4, .null), (0, .ref o), (1, .int site), (2, .int x), (3, .int y)]) hx hb dX3_at_7 hl (by decide) rfl (fun ls hl => ?_)
    refine lv_aloadN hx hb dX3_at_9 (lv_at hl 0 rfl) ?_
    refine lv_ifnonnullN hx hb dX3_at_11 ?_
    obtain ⟨sa, hsa⟩ := hT.2.1 (137, "no such site or place") (by decide +kernel)
    exact vx_throwS (A := (fun q => b ≤ q)) (own := RX3) (cls := "java/lang/IndexOutOfBoundsException") (text := "no such site or place") (names := exN) hx hb hlt hown (by decide +kernel) (by decide +kernel) (hts (.classLink RX3 135 "java/lang/IndexOutOfBoundsException") (by decide +kernel)) (hts (.initialized "java/lang/IndexOutOfBoundsException") (by decide +kernel)) hsa (th_hat hT (fun w h => hts w (List.mem_cons_of_mem _ (List.mem_append_left _ (List.mem_append_right _ h)))) th_i4) (th_good th_i4) hT.2.2.2.1 hT.2.2.2.2 hS (hl.1.trans hml.symm) dX3_at_14 dX3_at_17 dX3_at_18 dX3_at_20 dX3_at_23 (fun x h => (hnt x h).elim) (by decide) (Nat.le_of_ble_eq_true rfl) (Nat.le_of_ble_eq_true rfl) (Nat.le_of_ble_eq_true rfl) hlocks (fun t ha h1 h2 => ⟨(), trivial, ⟨rfl, hM.keep h2⟩, th_F hS h1 h2⟩) hS.2.2 (Nat.le_of_ble_eq_true rfl) (Nat.le_of_ble_eq_true rfl)
  · skip
    have hl : lv_has ls 5 [(0, .ref o), (1, .int (nI j7)), (2, .int (nI jx9)), (3, .int (nI jy10))] := hl
    refine lv_astore (lv' := [(4, .ref a8), (0, .ref o), (1, .int (nI j7)), (2, .int (nI jx9)), (3, .int (nI jy10))]) hx hb dX3_at_7 hl (by decide) rfl (fun ls hl => ?_)
    refine lv_aload hx hb dX3_at_9 (lv_at hl 0 rfl) ?_
    refine lv_ifnonnull (tgt := 24) hx hb dX3_at_11 (by decide) ?_
    refine lv_aload hx hb dX3_at_24 (lv_at hl 0 rfl) ?_
    obtain ⟨u15, u16, u17, u18, u19, u20, hP, hf⟩ := o_st (i := j7) (q := a8) hM (by omega)
    refine va_get (D := (dC, dI)) (ci := 5) (v := .ref (pF g a8 0)) (C := RX1) (T := TX1) (N := 15) hx hb hts (by decide +kernel) hown hK hP 0 rfl rfl 0 (by decide) (hts (.fieldLink RX3 176 "Snowpalace$Site" "kinds" "[C") (by decide +kernel)) (fun _ h9 => h9) rfl dX3_at_26 ?_
    have ht21 : tg g (pF g a8 0) = 13 := hf.1
    refine lv_iload_n hx hb dX3_at_29 rfl (lv_at hl 3 rfl) ?_
    refine lv_iload_n hx hb dX3_at_30 rfl (lv_at hl 4 rfl) ?_
    refine va_calli (va_runS (As := [.int (nI jx9), .int (nI jy10)]) (rest := [.ref (pF g a8 0)]) ⟨hx, hb, hml, hown, hts⟩ (rk_placeOf l (nI jx9) (nI jy10)) (va_cwS 2 hts gX3_at_X3_placeOf rfl rfl rfl (by decide +kernel) ⟨Nat.le_of_ble_eq_true rfl, Nat.le_of_ble_eq_true rfl⟩) ⟨fun a U g mk q => q, fun U hU hW => ⟨rfl, trivial⟩⟩ rfl rfl hl.1 rfl (lv_room (Nat.le_of_ble_eq_true rfl)) dX3_at_31 ⟨(Nat.le_of_ble_eq_true rfl), (Nat.le_of_ble_eq_true rfl)⟩) hS (fun q _ h => h.elim) (fun q h => h.elim) (fun r22 u t H locs ht hvm hw23 hB hz1 hk1 hS => ?_)
    have hM := hM.keep (fun p hp => hk1 p hp (fun z => z))
    obtain rfl : r22 = nI (8 * jy10 + jx9) := hw23.trans (by rw [show (8 : Int32) = nI 8 from rfl]; exact (congrArg (· + nI jx9) (pk_mul 8 jy10)).trans (nI_add _ _))
    obtain ⟨u24, hP, hf⟩ := o_kn (i := 0) (q := (pF g a8 0)) hM (by omega)
    refine va_cald (D := (dC, dI)) hx hb hK hP 0 2 rfl rfl (vp_in_nI (by omega) (by decide)) dX3_at_34 ?_
    refine lv_topi (fun v25 e26 => ?_)
    have ec : ((nI (8 * jy10 + jx9)) : Int32).toNatClampNeg = (8 * jy10 + jx9) := nI_clamp (by omega)
    rw [ec] at e26
    have hu27 := hf (8 * jy10 + jx9) (by omega)
    rw [← e26] at hu27
    refine vx_ret ?_
    refine W.widen (k := 1) (n := 6) (Nat.le_of_ble_eq_true rfl) (Nat.le_of_ble_eq_true rfl) ?_
    exact W.zret (v := v25) (ty := .char) hx hb hr (congrArg Value.int hu27) (fun t ht hW => ⟨⟨v25, (), rfl, trivial, CX.give hb0 hM hK hG hE hS ht hW⟩, hS.F ht⟩) hS.2.2 dX3_at_35

set_option maxHeartbeats 4000000 in
set_option maxRecDepth 100000 in
theorem rf_mass (l : Launch) (hlt : l.stackTraces = false) (dC : Nat → ClassId) (dI : Nat → Nat → Nat) (kA : Nat → ClassId) (eD b : Nat) (g : Gh) (o : Nat) (site : Int32) (x : Int32) (y : Int32) (hto : tg g o = 1)  : vx_Met l yX3_mass wzX3_mass ({ frames := 6, cells := 1, slots := 6, locals := 82 }) (va_Pc [.ref o, .int site, .int x, .int y] (CX (dC, dI) kA eD b g)) (va_Qi (fun (r : Int32) (u : Unit) => True) (fun (u : Unit) t => CX (dC, dI) kA eD b g t) (fun q => b ≤ q)) (vx_X (fun _ : Unit => True) (fun E _ t => (E = "java/lang/IndexOutOfBoundsException" ∨ E = "java/util/NoSuchElementException") ∧ TM (dC, dI) kA b g t.heap) (fun q => b ≤ q)) 1 6 (fun q => b ≤ q) := by
  refine vx_ofW (cc := cX3_mass) (maxL := 5) (ret := (some .int)) (by decide +kernel) rfl ?_
  intro p e s m args below meth c s₁ B hml hnt hv
  obtain ⟨rfl, hb0, hM, hK, hG, hE⟩ := hv
  have hx := B.exec
  have hb := B.bytes
  have hr := B.returns
  have hts := atoms_spec (ws := wzX3_mass) B.pre
  have hown : s.vm.findClass RX3 = some m.cls := findClass_of_methodNamed B.named
  have hlocks := B.notSynchronized
  have hT := hE.1
  have hN := hE.2.2.2.2.2.2.2.1
  have hS : va_S (fun q => b ≤ q) s.heap s.heap [] := va_S.rf
  have hl := lv_entry ([.ref o, .int site, .int x, .int y]) (n := 5) (Nat.le_of_ble_eq_true rfl)
  rw [lg_entry_eq]
  generalize (lg_sl ([.ref o, .int site, .int x, .int y]) ++ List.replicate (5 - (lg_sl ([.ref o, .int site, .int x, .int y])).length) Slot.unset).toArray = ls at hl ⊢
  have hl : lv_has ls 5 [(0, .ref o), (1, .int site), (2, .int x), (3, .int y)] := hl
  generalize ([.ref o, .int site, .int x, .int y] : List Value).toArray = args at hts ⊢
  refine lv_aload_n hx hb dX3_mass_0 rfl (lv_at hl 0 rfl) ?_
  refine lv_iload_n hx hb dX3_mass_1 rfl (lv_at hl 1 rfl) ?_
  refine lv_iload_n hx hb dX3_mass_2 rfl (lv_at hl 2 rfl) ?_
  refine lv_iload_n hx hb dX3_mass_3 rfl (lv_at hl 3 rfl) ?_
  obtain ⟨u1, u2, u3, u4, hP, hf⟩ := o_sno (i := 0) (q := o) hM (by omega)
  refine va_callq (va_runV (As := [.int site, .int x, .int y]) (rest := []) ⟨hx, hb, hml, hown, hts⟩ (rk_placedSite l dC dI kA eD b g o site x y (by omega)) (cwV 3 hts gX3_mass_X3_placedSite rfl rfl rfl (by decide +kernel) ⟨Nat.le_of_ble_eq_true rfl, Nat.le_of_ble_eq_true rfl⟩) ⟨fb_CX, va_recv hK hP (ci := 7) (q0 := 0) rfl rfl, fun U hU hW => ⟨rfl, CX.give hb0 hM hK hG hE hS hU hW⟩⟩ rfl rfl hl.1 rfl (lv_room (Nat.le_of_ble_eq_true rfl)) dX3_mass_4 ⟨(Nat.le_of_ble_eq_true rfl), (Nat.le_of_ble_eq_true rfl)⟩) hS (fun q _ h => h) (fun q h => h) (fun r5 u t H locs ht hvm hw6 hB hz1 hk1 hS => ?_)
  have hM := hB.back ht
  have hG := hB.2.2.2.1
  rcases hw6 with ⟨rfl, hn14⟩ | ⟨j7, a8, jx9, jy10, rfl, rfl, rfl, rfl, hjx9, hjy10, hj13, ho11, ht12⟩
  · skip
    refine lv_astoreN (lv' := [(4, .null), (0, .ref o), (1, .int site), (2, .int x), (3, .int y)]) hx hb dX3_mass_7 hl (by decide) rfl (fun ls hl => ?_)
    refine lv_aloadN hx hb dX3_mass_9 (lv_at hl 0 rfl) ?_
    refine lv_ifnonnullN hx hb dX3_mass_11 ?_
    obtain ⟨sa, hsa⟩ := hT.2.1 (137, "no such site or place") (by decide +kernel)
    exact vx_throwS (A := (fun q => b ≤ q)) (own := RX3) (cls := "java/lang/IndexOutOfBoundsException") (text := "no such site or place") (names := exN) hx hb hlt hown (by decide +kernel) (by decide +kernel) (hts (.classLink RX3 135 "java/lang/IndexOutOfBoundsException") (by decide +kernel)) (hts (.initialized "java/lang/IndexOutOfBoundsException") (by decide +kernel)) hsa (th_hat hT (fun w h => hts w (List.mem_cons_of_mem _ (List.mem_append_left _ (List.mem_append_right _ h)))) th_i4) (th_good th_i4) hT.2.2.2.1 hT.2.2.2.2 hS (hl.1.trans hml.symm) dX3_mass_14 dX3_mass_17 dX3_mass_18 dX3_mass_20 dX3_mass_23 (fun x h => (hnt x h).elim) (by decide) (Nat.le_of_ble_eq_true rfl) (Nat.le_of_ble_eq_true rfl) (Nat.le_of_ble_eq_true rfl) hlocks (fun t ha h1 h2 => ⟨(), trivial, ⟨(Or.inl rfl), hM.keep h2⟩, th_F hS h1 h2⟩) hS.2.2 (Nat.le_of_ble_eq_true rfl) (Nat.le_of_ble_eq_true rfl)
  · skip
    have hl : lv_has ls 5 [(0, .ref o), (1, .int (nI j7)), (2, .int (nI jx9)), (3, .int (nI jy10))] := hl
    refine lv_astore (lv' := [(4, .ref a8), (0, .ref o), (1, .int (nI j7)), (2, .int (nI jx9)), (3, .int (nI jy10))]) hx hb dX3_mass_7 hl (by decide) rfl (fun ls hl => ?_)
    refine lv_aload hx hb dX3_mass_9 (lv_at hl 0 rfl) ?_
    refine lv_ifnonnull (tgt := 24) hx hb dX3_mass_11 (by decide) ?_
    refine lv_aload hx hb dX3_mass_24 (lv_at hl 0 rfl) ?_
    refine lv_iload_n hx hb dX3_mass_26 rfl (lv_at hl 3 rfl) ?_
    refine lv_iload_n hx hb dX3_mass_27 rfl (lv_at hl 4 rfl) ?_
    refine va_calli (va_runS (As := [.int (nI jx9), .int (nI jy10)]) (rest := [.ref a8]) ⟨hx, hb, hml, hown, hts⟩ (rk_placeOf l (nI jx9) (nI jy10)) (va_cwS 2 hts gX3_mass_X3_placeOf rfl rfl rfl (by decide +kernel) ⟨Nat.le_of_ble_eq_true rfl, Nat.le_of_ble_eq_true rfl⟩) ⟨fun a U g mk q => q, fun U hU hW => ⟨rfl, trivial⟩⟩ rfl rfl hl.1 rfl (lv_room (Nat.le_of_ble_eq_true rfl)) dX3_mass_28 ⟨(Nat.le_of_ble_eq_true rfl), (Nat.le_of_ble_eq_true rfl)⟩) hS (fun q _ h => h.elim) (fun q h => h.elim) (fun r15 u t H locs ht hvm hw16 hB hz1 hk1 hS => ?_)
    have hM := hM.keep (fun p hp => hk1 p hp (fun z => z))
    obtain rfl : r15 = nI (8 * jy10 + jx9) := hw16.trans (by rw [show (8 : Int32) = nI 8 from rfl]; exact (congrArg (· + nI jx9) (pk_mul 8 jy10)).trans (nI_add _ _))
    obtain ⟨u17, u18, u19, u20, u21, u22, hP, hf⟩ := o_st (i := j7) (q := a8) hM (by omega)
    refine va_calli (va_runV (As := [.int (nI (8 * jy10 + jx9))]) (rest := []) ⟨hx, hb, hml, hown, hts⟩ (rk_has l dC dI kA eD b g a8 j7 (nI (8 * jy10 + jx9)) (by omega)) (cwV 1 hts gX3_mass_X1_has rfl rfl rfl (by decide +kernel) ⟨Nat.le_of_ble_eq_true rfl, Nat.le_of_ble_eq_true rfl⟩) ⟨fb_CX, va_recv hK hP (ci := 5) (q0 := 0) rfl rfl, fun U hU hW => ⟨rfl, CX.give hb0 hM hK hG hE hS hU hW⟩⟩ rfl rfl hl.1 rfl (lv_room (Nat.le_of_ble_eq_true rfl)) dX3_mass_31 ⟨(Nat.le_of_ble_eq_true rfl), (Nat.le_of_ble_eq_true rfl)⟩) hS (fun q _ h => h) (fun q h => h) (fun r23 u t H locs ht hvm hw24 hB hz1 hk1 hS => ?_)
    have hM := hB.back ht
    have hG := hB.2.2.2.1
    refine lv_if_ne (tgt := 47) hx hb dX3_mass_34 (by decide) (fun c25 => ?_) (fun c25 => ?_)
    · skip
      obtain ⟨-, hr1, hr2⟩ := hw24.resolve_left c25
      refine lv_aload hx hb dX3_mass_47 (lv_at hl 0 rfl) ?_
      obtain ⟨u26, u27, u28, u29, u30, u31, hP, hf⟩ := o_st (i := j7) (q := a8) hM (by omega)
      refine va_get (D := (dC, dI)) (ci := 5) (v := .ref (pF g a8 1)) (C := RX1) (T := TX1) (N := 15) hx hb hts (by decide +kernel) hown hK hP 0 rfl rfl 1 (by decide) (hts (.fieldLink RX3 185 "Snowpalace$Site" "masses" "[I") (by decide +kernel)) (fun _ h9 => h9) rfl dX3_mass_49 ?_
      have ht32 : tg g (pF g a8 1) = 14 := hf.2.1
      refine lv_iload_n hx hb dX3_mass_52 rfl (lv_at hl 3 rfl) ?_
      refine lv_iload_n hx hb dX3_mass_53 rfl (lv_at hl 4 rfl) ?_
      refine va_calli (va_runS (As := [.int (nI jx9), .int (nI jy10)]) (rest := [.ref (pF g a8 1)]) ⟨hx, hb, hml, hown, hts⟩ (rk_placeOf l (nI jx9) (nI jy10)) (va_cwS 2 hts gX3_mass_X3_placeOf rfl rfl rfl (by decide +kernel) ⟨Nat.le_of_ble_eq_true rfl, Nat.le_of_ble_eq_true rfl⟩) ⟨fun a U g mk q => q, fun U hU hW => ⟨rfl, trivial⟩⟩ rfl rfl hl.1 rfl (lv_room (Nat.le_of_ble_eq_true rfl)) dX3_mass_54 ⟨(Nat.le_of_ble_eq_true rfl), (Nat.le_of_ble_eq_true rfl)⟩) hS (fun q _ h => h.elim) (fun q h => h.elim) (fun r33 u t H locs ht hvm hw34 hB hz1 hk1 hS => ?_)
      have hM := hM.keep (fun p hp => hk1 p hp (fun z => z))
      obtain rfl : r33 = nI (8 * jy10 + jx9) := hw34.trans (by rw [show (8 : Int32) = nI 8 from rfl]; exact (congrArg (· + nI jx9) (pk_mul 8 jy10)).trans (nI_add _ _))
      obtain ⟨u35, hP, hf⟩ := o_in (i := 0) (q := (pF g a8 1)) hM (by omega)
      refine va_iald (D := (dC, dI)) hx hb hK hP 0 0 rfl rfl (vp_in_nI (by omega) (by decide)) dX3_mass_57 ?_
      refine lv_topi (fun v36 e37 => ?_)
      have ec : ((nI (8 * jy10 + jx9)) : Int32).toNatClampNeg = (8 * jy10 + jx9) := nI_clamp (by omega)
      rw [ec] at e37
      refine vx_ret ?_
      refine W.widen (k := 1) (n := 6) (Nat.le_of_ble_eq_true rfl) (Nat.le_of_ble_eq_true rfl) ?_
      exact W.iret (v := v36) hx hb hr (fun t ht hW => ⟨⟨v36, (), rfl, trivial, CX.give hb0 hM hK hG hE hS ht hW⟩, hS.F ht⟩) hS.2.2 dX3_mass_58
    · skip
      obtain ⟨sa, hsa⟩ := hT.2.1 (182, "no cell is there") (by decide +kernel)
      exact rt_throwSX (A := (fun q => b ≤ q)) (own := RX3) (cls := "java/util/NoSuchElementException") (text := "no cell is there") (names := exN) (ix := 13) (rx := prog_38_method_4_code) hx hb hlt rx13_0 rx13_1 rx13_2 rx13_5 hown (by decide +kernel) (by decide +kernel) (hts (.classLink RX3 180 "java/util/NoSuchElementException") (by decide +kernel)) hE.2.2.2.2.2.2.2.2.ini hsa hE.2.2.2.2.2.2.2.2.hat nse_good hT.2.2.2.1 hT.2.2.2.2 hS (hl.1.trans hml.symm) dX3_mass_37 dX3_mass_40 dX3_mass_41 dX3_mass_43 dX3_mass_46 (fun x h => (hnt x h).elim) (by decide) (Nat.le_of_ble_eq_true rfl) (Nat.le_of_ble_eq_true rfl) (Nat.le_of_ble_eq_true rfl) hlocks (fun t ha h1 h2 => ⟨(), trivial, ⟨(Or.inr rfl), hM.keep h2⟩, th_F hS h1 h2⟩) hS.2.2 (Nat.le_of_ble_eq_true rfl) (Nat.le_of_ble_eq_true rfl)

set_option maxHeartbeats 4000000 in
set_option maxRecDepth 100000 in
theorem rf_load (l : Launch) (hlt : l.stackTraces = false) (dC : Nat → ClassId) (dI : Nat → Nat → Nat) (kA : Nat → ClassId) (eD b : Nat) (g : Gh) (o : Nat) (site : Int32) (x : Int32) (y : Int32) (hto : tg g o = 1)  : vx_Met l yX3_load wzX3_load ({ frames := 6, cells := 1, slots := 6, locals := 82 }) (va_Pc [.ref o, .int site, .int x, .int y] (CX (dC, dI) kA eD b g)) (va_Qi (fun (r : Int32) (u : Unit) => True) (fun (u : Unit) t => CX (dC, dI) kA eD b g t) (fun q => b ≤ q)) (vx_X (fun _ : Unit => True) (fun E _ t => (E = "java/lang/IndexOutOfBoundsException" ∨ E = "java/util/NoSuchElementException") ∧ TM (dC, dI) kA b g t.heap) (fun q => b ≤ q)) 1 6 (fun q => b ≤ q) := by
  refine vx_ofW (cc := cX3_load) (maxL := 5) (ret := (some .int)) (by decide +kernel) rfl ?_
  intro p e s m args below meth c s₁ B hml hnt hv
  obtain ⟨rfl, hb0, hM, hK, hG, hE⟩ := hv
  have hx := B.exec
  have hb := B.bytes
  have hr := B.returns
  have hts := atoms_spec (ws := wzX3_load) B.pre
  have hown : s.vm.findClass RX3 = some m.cls := findClass_of_methodNamed B.named
  have hlocks := B.notSynchronized
  have hT := hE.1
  have hN := hE.2.2.2.2.2.2.2.1
  have hS : va_S (fun q => b ≤ q) s.heap s.heap [] := va_S.rf
  have hl := lv_entry ([.ref o, .int site, .int x, .int y]) (n := 5) (Nat.le_of_ble_eq_true rfl)
  rw [lg_entry_eq]
  generalize (lg_sl ([.ref o, .int site, .int x, .int y]) ++ List.replicate (5 - (lg_sl ([.ref o, .int site, .int x, .int y])).length) Slot.unset).toArray = ls at hl ⊢
  have hl : lv_has ls 5 [(0, .ref o), (1, .int site), (2, .int x), (3, .int y)] := hl
  generalize ([.ref o, .int site, .int x, .int y] : List Value).toArray = args at hts ⊢
  refine lv_aload_n hx hb dX3_load_0 rfl (lv_at hl 0 rfl) ?_
  refine lv_iload_n hx hb dX3_load_1 rfl (lv_at hl 1 rfl) ?_
  refine lv_iload_n hx hb dX3_load_2 rfl (lv_at hl 2 rfl) ?_
  refine lv_iload_n hx hb dX3_load_3 rfl (lv_at hl 3 rfl) ?_
  obtain ⟨u1, u2, u3, u4, hP, hf⟩ := o_sno (i := 0) (q := o) hM (by omega)
  refine va_callq (va_runV (As := [.int site, .int x, .int y]) (rest := []) ⟨hx, hb, hml, hown, hts⟩ (rk_placedSite l dC dI kA eD b g o site x y (by omega)) (cwV 3 hts gX3_load_X3_placedSite rfl rfl rfl (by decide +kernel) ⟨Nat.le_of_ble_eq_true rfl, Nat.le_of_ble_eq_true rfl⟩) ⟨fb_CX, va_recv hK hP (ci := 7) (q0 := 0) rfl rfl, fun U hU hW => ⟨rfl, CX.give hb0 hM hK hG hE hS hU hW⟩⟩ rfl rfl hl.1 rfl (lv_room (Nat.le_of_ble_eq_true rfl)) dX3_load_4 ⟨(Nat.le_of_ble_eq_true rfl), (Nat.le_of_ble_eq_true rfl)⟩) hS (fun q _ h => h) (fun q h => h) (fun r5 u t H locs ht hvm hw6 hB hz1 hk1 hS => ?_)
  have hM := hB.back ht
  have hG := hB.2.2.2.1
  rcases hw6 with ⟨rfl, hn14⟩ | ⟨j7, a8, jx9, jy10, rfl, rfl, rfl, rfl, hjx9, hjy10, hj13, ho11, ht12⟩
  · skip
    refine lv_astoreN (lv' := [(4, .null), (0, .ref o), (1, .int site), (2, .int x), (3, .int y)]) hx hb dX3_load_7 hl (by decide) rfl (fun ls hl => ?_)
    refine lv_aloadN hx hb dX3_load_9 (lv_at hl 0 rfl) ?_
    refine lv_ifnonnullN hx hb dX3_load_11 ?_
    obtain ⟨sa, hsa⟩ := hT.2.1 (137, "no such site or place") (by decide +kernel)
    exact vx_throwS (A := (fun q => b ≤ q)) (own := RX3) (cls := "java/lang/IndexOutOfBoundsException") (text := "no such site or place") (names := exN) hx hb hlt hown (by decide +kernel) (by decide +kernel) (hts (.classLink RX3 135 "java/lang/IndexOutOfBoundsException") (by decide +kernel)) (hts (.initialized "java/lang/IndexOutOfBoundsException") (by decide +kernel)) hsa (th_hat hT (fun w h => hts w (List.mem_cons_of_mem _ (List.mem_append_left _ (List.mem_append_right _ h)))) th_i4) (th_good th_i4) hT.2.2.2.1 hT.2.2.2.2 hS (hl.1.trans hml.symm) dX3_load_14 dX3_load_17 dX3_load_18 dX3_load_20 dX3_load_23 (fun x h => (hnt x h).elim) (by decide) (Nat.le_of_ble_eq_true rfl) (Nat.le_of_ble_eq_true rfl) (Nat.le_of_ble_eq_true rfl) hlocks (fun t ha h1 h2 => ⟨(), trivial, ⟨(Or.inl rfl), hM.keep h2⟩, th_F hS h1 h2⟩) hS.2.2 (Nat.le_of_ble_eq_true rfl) (Nat.le_of_ble_eq_true rfl)
  · skip
    have hl : lv_has ls 5 [(0, .ref o), (1, .int (nI j7)), (2, .int (nI jx9)), (3, .int (nI jy10))] := hl
    refine lv_astore (lv' := [(4, .ref a8), (0, .ref o), (1, .int (nI j7)), (2, .int (nI jx9)), (3, .int (nI jy10))]) hx hb dX3_load_7 hl (by decide) rfl (fun ls hl => ?_)
    refine lv_aload hx hb dX3_load_9 (lv_at hl 0 rfl) ?_
    refine lv_ifnonnull (tgt := 24) hx hb dX3_load_11 (by decide) ?_
    refine lv_aload hx hb dX3_load_24 (lv_at hl 0 rfl) ?_
    refine lv_iload_n hx hb dX3_load_26 rfl (lv_at hl 3 rfl) ?_
    refine lv_iload_n hx hb dX3_load_27 rfl (lv_at hl 4 rfl) ?_
    refine va_calli (va_runS (As := [.int (nI jx9), .int (nI jy10)]) (rest := [.ref a8]) ⟨hx, hb, hml, hown, hts⟩ (rk_placeOf l (nI jx9) (nI jy10)) (va_cwS 2 hts gX3_load_X3_placeOf rfl rfl rfl (by decide +kernel) ⟨Nat.le_of_ble_eq_true rfl, Nat.le_of_ble_eq_true rfl⟩) ⟨fun a U g mk q => q, fun U hU hW => ⟨rfl, trivial⟩⟩ rfl rfl hl.1 rfl (lv_room (Nat.le_of_ble_eq_true rfl)) dX3_load_28 ⟨(Nat.le_of_ble_eq_true rfl), (Nat.le_of_ble_eq_true rfl)⟩) hS (fun q _ h => h.elim) (fun q h => h.elim) (fun r15 u t H locs ht hvm hw16 hB hz1 hk1 hS => ?_)
    have hM := hM.keep (fun p hp => hk1 p hp (fun z => z))
    obtain rfl : r15 = nI (8 * jy10 + jx9) := hw16.trans (by rw [show (8 : Int32) = nI 8 from rfl]; exact (congrArg (· + nI jx9) (pk_mul 8 jy10)).trans (nI_add _ _))
    obtain ⟨u17, u18, u19, u20, u21, u22, hP, hf⟩ := o_st (i := j7) (q := a8) hM (by omega)
    refine va_calli (va_runV (As := [.int (nI (8 * jy10 + jx9))]) (rest := []) ⟨hx, hb, hml, hown, hts⟩ (rk_has l dC dI kA eD b g a8 j7 (nI (8 * jy10 + jx9)) (by omega)) (cwV 1 hts gX3_load_X1_has rfl rfl rfl (by decide +kernel) ⟨Nat.le_of_ble_eq_true rfl, Nat.le_of_ble_eq_true rfl⟩) ⟨fb_CX, va_recv hK hP (ci := 5) (q0 := 0) rfl rfl, fun U hU hW => ⟨rfl, CX.give hb0 hM hK hG hE hS hU hW⟩⟩ rfl rfl hl.1 rfl (lv_room (Nat.le_of_ble_eq_true rfl)) dX3_load_31 ⟨(Nat.le_of_ble_eq_true rfl), (Nat.le_of_ble_eq_true rfl)⟩) hS (fun q _ h => h) (fun q h => h) (fun r23 u t H locs ht hvm hw24 hB hz1 hk1 hS => ?_)
    have hM := hB.back ht
    have hG := hB.2.2.2.1
    refine lv_if_ne (tgt := 47) hx hb dX3_load_34 (by decide) (fun c25 => ?_) (fun c25 => ?_)
    · skip
      obtain ⟨-, hr1, hr2⟩ := hw24.resolve_left c25
      refine lv_aload hx hb dX3_load_47 (lv_at hl 0 rfl) ?_
      refine lv_iconst (v := (-1)) hx hb dX3_load_49 (by decide) ?_
      refine lv_iconst (v := 0) hx hb dX3_load_50 (by decide) ?_
      obtain ⟨u26, u27, u28, u29, u30, u31, hP, hf⟩ := o_st (i := j7) (q := a8) hM (by omega)
      refine va_callv (va_runV (As := [.int (-1), .int 0]) (rest := []) ⟨hx, hb, hml, hown, hts⟩ (rk_weigh l dC dI kA eD b g a8 j7 (-1) 0 (by omega)) (cwV 2 hts gX3_load_X1_weigh rfl rfl rfl (by decide +kernel) ⟨Nat.le_of_ble_eq_true rfl, Nat.le_of_ble_eq_true rfl⟩) ⟨fb_CX, va_recv hK hP (ci := 5) (q0 := 0) rfl rfl, fun U hU hW => ⟨rfl, CX.give hb0 hM hK hG hE hS hU hW⟩⟩ rfl rfl hl.1 rfl (lv_room (Nat.le_of_ble_eq_true rfl)) dX3_load_51 ⟨(Nat.le_of_ble_eq_true rfl), (Nat.le_of_ble_eq_true rfl)⟩) hS (fun q _ h => h) (fun q h => h) (fun u t H locs ht hvm hw33 hB hz1 hk1 hS => ?_)
      have hM := hB.back ht
      have hG := hB.2.2.2.1
      refine lv_aload hx hb dX3_load_54 (lv_at hl 0 rfl) ?_
      obtain ⟨u34, u35, u36, u37, u38, u39, hP, hf⟩ := o_st (i := j7) (q := a8) hM (by omega)
      refine va_get (D := (dC, dI)) (ci := 5) (v := .ref (pF g a8 6)) (C := RX1) (T := TX1) (N := 15) hx hb hts (by decide +kernel) hown hK hP 0 rfl rfl 6 (by decide) (hts (.fieldLink RX3 192 "Snowpalace$Site" "loads" "[I") (by decide +kernel)) (fun _ h9 => h9) rfl dX3_load_56 ?_
      have ht40 : tg g (pF g a8 6) = 14 := hf.2.2.2.2.2.2.1
      refine lv_iload_n hx hb dX3_load_59 rfl (lv_at hl 3 rfl) ?_
      refine lv_iload_n hx hb dX3_load_60 rfl (lv_at hl 4 rfl) ?_
      refine va_calli (va_runS (As := [.int (nI jx9), .int (nI jy10)]) (rest := [.ref (pF g a8 6)]) ⟨hx, hb, hml, hown, hts⟩ (rk_placeOf l (nI jx9) (nI jy10)) (va_cwS 2 hts gX3_load_X3_placeOf rfl rfl rfl (by decide +kernel) ⟨Nat.le_of_ble_eq_true rfl, Nat.le_of_ble_eq_true rfl⟩) ⟨fun a U g mk q => q, fun U hU hW => ⟨rfl, trivial⟩⟩ rfl rfl hl.1 rfl (lv_room (Nat.le_of_ble_eq_true rfl)) dX3_load_61 ⟨(Nat.le_of_ble_eq_true rfl), (Nat.le_of_ble_eq_true rfl)⟩) hS (fun q _ h => h.elim) (fun q h => h.elim) (fun r41 u t H locs ht hvm hw42 hB hz1 hk1 hS => ?_)
      have hM := hM.keep (fun p hp => hk1 p hp (fun z => z))
      obtain rfl : r41 = nI (8 * jy10 + jx9) := hw42.trans (by rw [show (8 : Int32) = nI 8 from rfl]; exact (congrArg (· + nI jx9) (pk_mul 8 jy10)).trans (nI_add _ _))
      obtain ⟨u43, hP, hf⟩ := o_in (i := 0) (q := (pF g a8 6)) hM (by omega)
      refine va_iald (D := (dC, dI)) hx hb hK hP 0 0 rfl rfl (vp_in_nI (by omega) (by decide)) dX3_load_64 ?_
      refine lv_topi (fun v44 e45 => ?_)
      have ec : ((nI (8 * jy10 + jx9)) : Int32).toNatClampNeg = (8 * jy10 + jx9) := nI_clamp (by omega)
      rw [ec] at e45
      refine vx_ret ?_
      refine W.widen (k := 1) (n := 6) (Nat.le_of_ble_eq_true rfl) (Nat.le_of_ble_eq_true rfl) ?_
      exact W.iret (v := v44) hx hb hr (fun t ht hW => ⟨⟨v44, (), rfl, trivial, CX.give hb0 hM hK hG hE hS ht hW⟩, hS.F ht⟩) hS.2.2 dX3_load_65
    · skip
      obtain ⟨sa, hsa⟩ := hT.2.1 (182, "no cell is there") (by decide +kernel)
      exact rt_throwSX (A := (fun q => b ≤ q)) (own := RX3) (cls := "java/util/NoSuchElementException") (text := "no cell is there") (names := exN) (ix := 13) (rx := prog_38_method_4_code) hx hb hlt rx13_0 rx13_1 rx13_2 rx13_5 hown (by decide +kernel) (by decide +kernel) (hts (.classLink RX3 180 "java/util/NoSuchElementException") (by decide +kernel)) hE.2.2.2.2.2.2.2.2.ini hsa hE.2.2.2.2.2.2.2.2.hat nse_good hT.2.2.2.1 hT.2.2.2.2 hS (hl.1.trans hml.symm) dX3_load_37 dX3_load_40 dX3_load_41 dX3_load_43 dX3_load_46 (fun x h => (hnt x h).elim) (by decide) (Nat.le_of_ble_eq_true rfl) (Nat.le_of_ble_eq_true rfl) (Nat.le_of_ble_eq_true rfl) hlocks (fun t ha h1 h2 => ⟨(), trivial, ⟨(Or.inr rfl), hM.keep h2⟩, th_F hS h1 h2⟩) hS.2.2 (Nat.le_of_ble_eq_true rfl) (Nat.le_of_ble_eq_true rfl)

set_option maxHeartbeats 4000000 in
set_option maxRecDepth 100000 in
theorem rf_strength (l : Launch) (hlt : l.stackTraces = false) (dC : Nat → ClassId) (dI : Nat → Nat → Nat) (kA : Nat → ClassId) (eD b : Nat) (g : Gh) (o : Nat) (site : Int32) (x : Int32) (y : Int32) (hto : tg g o = 1)  : vx_Met l yX3_strength wzX3_strength ({ frames := 6, cells := 1, slots := 6, locals := 82 }) (va_Pc [.ref o, .int site, .int x, .int y] (CX (dC, dI) kA eD b g)) (va_Qi (fun (r : Int32) (u : Unit) => True) (fun (u : Unit) t => CX (dC, dI) kA eD b g t) (fun q => b ≤ q)) (vx_X (fun _ : Unit => True) (fun E _ t => (E = "java/lang/IndexOutOfBoundsException" ∨ E = "java/util/NoSuchElementException") ∧ TM (dC, dI) kA b g t.heap) (fun q => b ≤ q)) 1 6 (fun q => b ≤ q) := by
  refine vx_ofW (cc := cX3_strength) (maxL := 5) (ret := (some .int)) (by decide +kernel) rfl ?_
  intro p e s m args below meth c s₁ B hml hnt hv
  obtain ⟨rfl, hb0, hM, hK, hG, hE⟩ := hv
  have hx := B.exec
  have hb := B.bytes
  have hr := B.returns
  have hts := atoms_spec (ws := wzX3_strength) B.pre
  have hown : s.vm.findClass RX3 = some m.cls := findClass_of_methodNamed B.named
  have hlocks := B.notSynchronized
  have hT := hE.1
  have hN := hE.2.2.2.2.2.2.2.1
  have hS : va_S (fun q => b ≤ q) s.heap s.heap [] := va_S.rf
  have hl := lv_entry ([.ref o, .int site, .int x, .int y]) (n := 5) (Nat.le_of_ble_eq_true rfl)
  rw [lg_entry_eq]
  generalize (lg_sl ([.ref o, .int site, .int x, .int y]) ++ List.replicate (5 - (lg_sl ([.ref o, .int site, .int x, .int y])).length) Slot.unset).toArray = ls at hl ⊢
  have hl : lv_has ls 5 [(0, .ref o), (1, .int site), (2, .int x), (3, .int y)] := hl
  generalize ([.ref o, .int site, .int x, .int y] : List Value).toArray = args at hts ⊢
  refine lv_aload_n hx hb dX3_strength_0 rfl (lv_at hl 0 rfl) ?_
  refine lv_iload_n hx hb dX3_strength_1 rfl (lv_at hl 1 rfl) ?_
  refine lv_iload_n hx hb dX3_strength_2 rfl (lv_at hl 2 rfl) ?_
  refine lv_iload_n hx hb dX3_strength_3 rfl (lv_at hl 3 rfl) ?_
  obtain ⟨u1, u2, u3, u4, hP, hf⟩ := o_sno (i := 0) (q := o) hM (by omega)
  refine va_callq (va_runV (As := [.int site, .int x, .int y]) (rest := []) ⟨hx, hb, hml, hown, hts⟩ (rk_placedSite l dC dI kA eD b g o site x y (by omega)) (cwV 3 hts gX3_strength_X3_placedSite rfl rfl rfl (by decide +kernel) ⟨Nat.le_of_ble_eq_true rfl, Nat.le_of_ble_eq_true rfl⟩) ⟨fb_CX, va_recv hK hP (ci := 7) (q0 := 0) rfl rfl, fun U hU hW => ⟨rfl, CX.give hb0 hM hK hG hE hS hU hW⟩⟩ rfl rfl hl.1 rfl (lv_room (Nat.le_of_ble_eq_true rfl)) dX3_strength_4 ⟨(Nat.le_of_ble_eq_true rfl), (Nat.le_of_ble_eq_true rfl)⟩) hS (fun q _ h => h) (fun q h => h) (fun r5 u t H locs ht hvm hw6 hB hz1 hk1 hS => ?_)
  have hM := hB.back ht
  have hG := hB.2.2.2.1
  rcases hw6 with ⟨rfl, hn14⟩ | ⟨j7, a8, jx9, jy10, rfl, rfl, rfl, rfl, hjx9, hjy10, hj13, ho11, ht12⟩
  · skip
    refine lv_astoreN (lv' := [(4, .null), (0, .ref o), (1, .int site), (2, .int x), (3, .int y)]) hx hb dX3_strength_7 hl (by decide) rfl (fun ls hl => ?_)
    refine lv_aloadN hx hb dX3_strength_9 (lv_at hl 0 rfl) ?_
    refine lv_ifnonnullN hx hb dX3_strength_11 ?_
    obtain ⟨sa, hsa⟩ := hT.2.1 (137, "no such site or place") (by decide +kernel)
    exact vx_throwS (A := (fun q => b ≤ q)) (own := RX3) (cls := "java/lang/IndexOutOfBoundsException") (text := "no such site or place") (names := exN) hx hb hlt hown (by decide +kernel) (by decide +kernel) (hts (.classLink RX3 135 "java/lang/IndexOutOfBoundsException") (by decide +kernel)) (hts (.initialized "java/lang/IndexOutOfBoundsException") (by decide +kernel)) hsa (th_hat hT (fun w h => hts w (List.mem_cons_of_mem _ (List.mem_append_left _ (List.mem_append_right _ h)))) th_i4) (th_good th_i4) hT.2.2.2.1 hT.2.2.2.2 hS (hl.1.trans hml.symm) dX3_strength_14 dX3_strength_17 dX3_strength_18 dX3_strength_20 dX3_strength_23 (fun x h => (hnt x h).elim) (by decide) (Nat.le_of_ble_eq_true rfl) (Nat.le_of_ble_eq_true rfl) (Nat.le_of_ble_eq_true rfl) hlocks (fun t ha h1 h2 => ⟨(), trivial, ⟨(Or.inl rfl), hM.keep h2⟩, th_F hS h1 h2⟩) hS.2.2 (Nat.le_of_ble_eq_true rfl) (Nat.le_of_ble_eq_true rfl)
  · skip
    have hl : lv_has ls 5 [(0, .ref o), (1, .int (nI j7)), (2, .int (nI jx9)), (3, .int (nI jy10))] := hl
    refine lv_astore (lv' := [(4, .ref a8), (0, .ref o), (1, .int (nI j7)), (2, .int (nI jx9)), (3, .int (nI jy10))]) hx hb dX3_strength_7 hl (by decide) rfl (fun ls hl => ?_)
    refine lv_aload hx hb dX3_strength_9 (lv_at hl 0 rfl) ?_
    refine lv_ifnonnull (tgt := 24) hx hb dX3_strength_11 (by decide) ?_
    refine lv_aload hx hb dX3_strength_24 (lv_at hl 0 rfl) ?_
    refine lv_iload_n hx hb dX3_strength_26 rfl (lv_at hl 3 rfl) ?_
    refine lv_iload_n hx hb dX3_strength_27 rfl (lv_at hl 4 rfl) ?_
    refine va_calli (va_runS (As := [.int (nI jx9), .int (nI jy10)]) (rest := [.ref a8]) ⟨hx, hb, hml, hown, hts⟩ (rk_placeOf l (nI jx9) (nI jy10)) (va_cwS 2 hts gX3_strength_X3_placeOf rfl rfl rfl (by decide +kernel) ⟨Nat.le_of_ble_eq_true rfl, Nat.le_of_ble_eq_true rfl⟩) ⟨fun a U g mk q => q, fun U hU hW => ⟨rfl, trivial⟩⟩ rfl rfl hl.1 rfl (lv_room (Nat.le_of_ble_eq_true rfl)) dX3_strength_28 ⟨(Nat.le_of_ble_eq_true rfl), (Nat.le_of_ble_eq_true rfl)⟩) hS (fun q _ h => h.elim) (fun q h => h.elim) (fun r15 u t H locs ht hvm hw16 hB hz1 hk1 hS => ?_)
    have hM := hM.keep (fun p hp => hk1 p hp (fun z => z))
    obtain rfl : r15 = nI (8 * jy10 + jx9) := hw16.trans (by rw [show (8 : Int32) = nI 8 from rfl]; exact (congrArg (· + nI jx9) (pk_mul 8 jy10)).trans (nI_add _ _))
    obtain ⟨u17, u18, u19, u20, u21, u22, hP, hf⟩ := o_st (i := j7) (q := a8) hM (by omega)
    refine va_calli (va_runV (As := [.int (nI (8 * jy10 + jx9))]) (rest := []) ⟨hx, hb, hml, hown, hts⟩ (rk_has l dC dI kA eD b g a8 j7 (nI (8 * jy10 + jx9)) (by omega)) (cwV 1 hts gX3_strength_X1_has rfl rfl rfl (by decide +kernel) ⟨Nat.le_of_ble_eq_true rfl, Nat.le_of_ble_eq_true rfl⟩) ⟨fb_CX, va_recv hK hP (ci := 5) (q0 := 0) rfl rfl, fun U hU hW => ⟨rfl, CX.give hb0 hM hK hG hE hS hU hW⟩⟩ rfl rfl hl.1 rfl (lv_room (Nat.le_of_ble_eq_true rfl)) dX3_strength_31 ⟨(Nat.le_of_ble_eq_true rfl), (Nat.le_of_ble_eq_true rfl)⟩) hS (fun q _ h => h) (fun q h => h) (fun r23 u t H locs ht hvm hw24 hB hz1 hk1 hS => ?_)
    have hM := hB.back ht
    have hG := hB.2.2.2.1
    refine lv_if_ne (tgt := 47) hx hb dX3_strength_34 (by decide) (fun c25 => ?_) (fun c25 => ?_)
    · skip
      obtain ⟨-, hr1, hr2⟩ := hw24.resolve_left c25
      refine lv_aload hx hb dX3_strength_47 (lv_at hl 0 rfl) ?_
      refine lv_iload_n hx hb dX3_strength_49 rfl (lv_at hl 3 rfl) ?_
      refine lv_iload_n hx hb dX3_strength_50 rfl (lv_at hl 4 rfl) ?_
      refine va_calli (va_runS (As := [.int (nI jx9), .int (nI jy10)]) (rest := [.ref a8]) ⟨hx, hb, hml, hown, hts⟩ (rk_placeOf l (nI jx9) (nI jy10)) (va_cwS 2 hts gX3_strength_X3_placeOf rfl rfl rfl (by decide +kernel) ⟨Nat.le_of_ble_eq_true rfl, Nat.le_of_ble_eq_true rfl⟩) ⟨fun a U g mk q => q, fun U hU hW => ⟨rfl, trivial⟩⟩ rfl rfl hl.1 rfl (lv_room (Nat.le_of_ble_eq_true rfl)) dX3_strength_51 ⟨(Nat.le_of_ble_eq_true rfl), (Nat.le_of_ble_eq_true rfl)⟩) hS (fun q _ h => h.elim) (fun q h => h.elim) (fun r26 u t H locs ht hvm hw27 hB hz1 hk1 hS => ?_)
      have hM := hM.keep (fun p hp => hk1 p hp (fun z => z))
      obtain rfl : r26 = nI (8 * jy10 + jx9) := hw27.trans (by rw [show (8 : Int32) = nI 8 from rfl]; exact (congrArg (· + nI jx9) (pk_mul 8 jy10)).trans (nI_add _ _))
      refine lv_aload_n hx hb dX3_strength_54 rfl (lv_at hl 1 rfl) ?_
      obtain ⟨u28, u29, u30, u31, hP, hf⟩ := o_sno (i := 0) (q := o) hM (by omega)
      refine va_get (D := (dC, dI)) (ci := 7) (v := .ref (pF g o 0)) (C := RX3) (T := TX3) (N := 10) hx hb hts (by decide +kernel) hown hK hP 0 rfl rfl 0 (by decide) (hts (.fieldLink RX3 10 "Snowpalace" "sky" "LSnowpalace$Sky;") (by decide +kernel)) (fun _ h9 => h9) rfl dX3_strength_55 ?_
      have ht32 : tg g (pF g o 0) = 2 := hf.1
      refine lv_aload_n hx hb dX3_strength_58 rfl (lv_at hl 1 rfl) ?_
      obtain ⟨u33, u34, u35, u36, hP, hf⟩ := o_sno (i := 0) (q := o) hM (by omega)
      refine va_get (D := (dC, dI)) (ci := 7) (v := .int (pI g o 1)) (C := RX3) (T := TX3) (N := 10) hx hb hts (by decide +kernel) hown hK hP 0 rfl rfl 4 (by decide) (hts (.fieldLink RX3 33 "Snowpalace" "clock" "I") (by decide +kernel)) (fun _ h9 => h9) rfl dX3_strength_59 ?_
      have hv37 := hf.2.2.2.2.1
      obtain ⟨hP, hf⟩ := o_sky (i := 0) (q := (pF g o 0)) hM (by omega)
      refine va_calli (va_runV (As := [.int (pI g o 1)]) (rest := [.int (nI (8 * jy10 + jx9)), .ref a8]) ⟨hx, hb, hml, hown, hts⟩ (rk_warmthOf l dC dI kA eD b g (pF g o 0) (pI g o 1) (by omega)) (cwV 1 hts gX3_strength_X2_warmthOf rfl rfl rfl (by decide +kernel) ⟨Nat.le_of_ble_eq_true rfl, Nat.le_of_ble_eq_true rfl⟩) ⟨fb_CX, va_recv hK hP (ci := 6) (q0 := 0) rfl rfl, fun U hU hW => ⟨rfl, CX.give hb0 hM hK hG hE hS hU hW⟩⟩ rfl rfl hl.1 rfl (lv_room (Nat.le_of_ble_eq_true rfl)) dX3_strength_62 ⟨(Nat.le_of_ble_eq_true rfl), (Nat.le_of_ble_eq_true rfl)⟩) hS (fun q _ h => h) (fun q h => h) (fun r38 u t H locs ht hvm hw39 hB hz1 hk1 hS => ?_)
      have hM := hB.back ht
      have hG := hB.2.2.2.1
      obtain ⟨u40, u41, u42, u43, u44, u45, hP, hf⟩ := o_st (i := j7) (q := a8) hM (by omega)
      refine va_calli (va_runV (As := [.int (nI (8 * jy10 + jx9)), .int r38]) (rest := []) ⟨hx, hb, hml, hown, hts⟩ (rk_strengthOf l dC dI kA eD b g a8 j7 (nI (8 * jy10 + jx9)) r38 (by omega)) (cwV 2 hts gX3_strength_X1_strengthOf rfl rfl rfl (by decide +kernel) ⟨Nat.le_of_ble_eq_true rfl, Nat.le_of_ble_eq_true rfl⟩) ⟨fb_CX, va_recv hK hP (ci := 5) (q0 := 0) rfl rfl, fun U hU hW => ⟨rfl, CX.give hb0 hM hK hG hE hS hU hW⟩⟩ rfl rfl hl.1 rfl (lv_room (Nat.le_of_ble_eq_true rfl)) dX3_strength_65 ⟨(Nat.le_of_ble_eq_true rfl), (Nat.le_of_ble_eq_true rfl)⟩) hS (fun q _ h => h) (fun q h => h) (fun r46 u t H locs ht hvm hw47 hB hz1 hk1 hS => ?_)
      have hM := hB.back ht
      have hG := hB.2.2.2.1
      refine vx_ret ?_
      refine W.widen (k := 1) (n := 6) (Nat.le_of_ble_eq_true rfl) (Nat.le_of_ble_eq_true rfl) ?_
      exact W.iret (v := r46) hx hb hr (fun t ht hW => ⟨⟨r46, (), rfl, trivial, CX.give hb0 hM hK hG hE hS ht hW⟩, hS.F ht⟩) hS.2.2 dX3_strength_68
    · skip
      obtain ⟨sa, hsa⟩ := hT.2.1 (182, "no cell is there") (by decide +kernel)
      exact rt_throwSX (A := (fun q => b ≤ q)) (own := RX3) (cls := "java/util/NoSuchElementException") (text := "no cell is there") (names := exN) (ix := 13) (rx := prog_38_method_4_code) hx hb hlt rx13_0 rx13_1 rx13_2 rx13_5 hown (by decide +kernel) (by decide +kernel) (hts (.classLink RX3 180 "java/util/NoSuchElementException") (by decide +kernel)) hE.2.2.2.2.2.2.2.2.ini hsa hE.2.2.2.2.2.2.2.2.hat nse_good hT.2.2.2.1 hT.2.2.2.2 hS (hl.1.trans hml.symm) dX3_strength_37 dX3_strength_40 dX3_strength_41 dX3_strength_43 dX3_strength_46 (fun x h => (hnt x h).elim) (by decide) (Nat.le_of_ble_eq_true rfl) (Nat.le_of_ble_eq_true rfl) (Nat.le_of_ble_eq_true rfl) hlocks (fun t ha h1 h2 => ⟨(), trivial, ⟨(Or.inr rfl), hM.keep h2⟩, th_F hS h1 h2⟩) hS.2.2 (Nat.le_of_ble_eq_true rfl) (Nat.le_of_ble_eq_true rfl)

set_option maxHeartbeats 4000000 in
set_option maxRecDepth 100000 in
theorem rf_creep (l : Launch) (hlt : l.stackTraces = false) (dC : Nat → ClassId) (dI : Nat → Nat → Nat) (kA : Nat → ClassId) (eD b : Nat) (g : Gh) (o : Nat) (site : Int32) (x : Int32) (y : Int32) (hto : tg g o = 1)  : vx_Met l yX3_creep wzX3_creep ({ frames := 6, cells := 1, slots := 6, locals := 82 }) (va_Pc [.ref o, .int site, .int x, .int y] (CX (dC, dI) kA eD b g)) (va_Qi (fun (r : Int32) (u : Unit) => True) (fun (u : Unit) t => CX (dC, dI) kA eD b g t) (fun q => b ≤ q)) (vx_X (fun _ : Unit => True) (fun E _ t => (E = "java/lang/IndexOutOfBoundsException" ∨ E = "java/util/NoSuchElementException") ∧ TM (dC, dI) kA b g t.heap) (fun q => b ≤ q)) 1 6 (fun q => b ≤ q) := by
  refine vx_ofW (cc := cX3_creep) (maxL := 5) (ret := (some .int)) (by decide +kernel) rfl ?_
  intro p e s m args below meth c s₁ B hml hnt hv
  obtain ⟨rfl, hb0, hM, hK, hG, hE⟩ := hv
  have hx := B.exec
  have hb := B.bytes
  have hr := B.returns
  have hts := atoms_spec (ws := wzX3_creep) B.pre
  have hown : s.vm.findClass RX3 = some m.cls := findClass_of_methodNamed B.named
  have hlocks := B.notSynchronized
  have hT := hE.1
  have hN := hE.2.2.2.2.2.2.2.1
  have hS : va_S (fun q => b ≤ q) s.heap s.heap [] := va_S.rf
  have hl := lv_entry ([.ref o, .int site, .int x, .int y]) (n := 5) (Nat.le_of_ble_eq_true rfl)
  rw [lg_entry_eq]
  generalize (lg_sl ([.ref o, .int site, .int x, .int y]) ++ List.replicate (5 - (lg_sl ([.ref o, .int site, .int x, .int y])).length) Slot.unset).toArray = ls at hl ⊢
  have hl : lv_has ls 5 [(0, .ref o), (1, .int site), (2, .int x), (3, .int y)] := hl
  generalize ([.ref o, .int site, .int x, .int y] : List Value).toArray = args at hts ⊢
  refine lv_aload_n hx hb dX3_creep_0 rfl (lv_at hl 0 rfl) ?_
  refine lv_iload_n hx hb dX3_creep_1 rfl (lv_at hl 1 rfl) ?_
  refine lv_iload_n hx hb dX3_creep_2 rfl (lv_at hl 2 rfl) ?_
  refine lv_iload_n hx hb dX3_creep_3 rfl (lv_at hl 3 rfl) ?_
  obtain ⟨u1, u2, u3, u4, hP, hf⟩ := o_sno (i := 0) (q := o) hM (by omega)
  refine va_callq (va_runV (As := [.int site, .int x, .int y]) (rest := []) ⟨hx, hb, hml, hown, hts⟩ (rk_placedSite l dC dI kA eD b g o site x y (by omega)) (cwV 3 hts gX3_creep_X3_placedSite rfl rfl rfl (by decide +kernel) ⟨Nat.le_of_ble_eq_true rfl, Nat.le_of_ble_eq_true rfl⟩) ⟨fb_CX, va_recv hK hP (ci := 7) (q0 := 0) rfl rfl, fun U hU hW => ⟨rfl, CX.give hb0 hM hK hG hE hS hU hW⟩⟩ rfl rfl hl.1 rfl (lv_room (Nat.le_of_ble_eq_true rfl)) dX3_creep_4 ⟨(Nat.le_of_ble_eq_true rfl), (Nat.le_of_ble_eq_true rfl)⟩) hS (fun q _ h => h) (fun q h => h) (fun r5 u t H locs ht hvm hw6 hB hz1 hk1 hS => ?_)
  have hM := hB.back ht
  have hG := hB.2.2.2.1
  rcases hw6 with ⟨rfl, hn14⟩ | ⟨j7, a8, jx9, jy10, rfl, rfl, rfl, rfl, hjx9, hjy10, hj13, ho11, ht12⟩
  · skip
    refine lv_astoreN (lv' := [(4, .null), (0, .ref o), (1, .int site), (2, .int x), (3, .int y)]) hx hb dX3_creep_7 hl (by decide) rfl (fun ls hl => ?_)
    refine lv_aloadN hx hb dX3_creep_9 (lv_at hl 0 rfl) ?_
    refine lv_ifnonnullN hx hb dX3_creep_11 ?_
    obtain ⟨sa, hsa⟩ := hT.2.1 (137, "no such site or place") (by decide +kernel)
    exact vx_throwS (A := (fun q => b ≤ q)) (own := RX3) (cls := "java/lang/IndexOutOfBoundsException") (text := "no such site or place") (names := exN) hx hb hlt hown (by decide +kernel) (by decide +kernel) (hts (.classLink RX3 135 "java/lang/IndexOutOfBoundsException") (by decide +kernel)) (hts (.initialized "java/lang/IndexOutOfBoundsException") (by decide +kernel)) hsa (th_hat hT (fun w h => hts w (List.mem_cons_of_mem _ (List.mem_append_left _ (List.mem_append_right _ h)))) th_i4) (th_good th_i4) hT.2.2.2.1 hT.2.2.2.2 hS (hl.1.trans hml.symm) dX3_creep_14 dX3_creep_17 dX3_creep_18 dX3_creep_20 dX3_creep_23 (fun x h => (hnt x h).elim) (by decide) (Nat.le_of_ble_eq_true rfl) (Nat.le_of_ble_eq_true rfl) (Nat.le_of_ble_eq_true rfl) hlocks (fun t ha h1 h2 => ⟨(), trivial, ⟨(Or.inl rfl), hM.keep h2⟩, th_F hS h1 h2⟩) hS.2.2 (Nat.le_of_ble_eq_true rfl) (Nat.le_of_ble_eq_true rfl)
  · skip
    have hl : lv_has ls 5 [(0, .ref o), (1, .int (nI j7)), (2, .int (nI jx9)), (3, .int (nI jy10))] := hl
    refine lv_astore (lv' := [(4, .ref a8), (0, .ref o), (1, .int (nI j7)), (2, .int (nI jx9)), (3, .int (nI jy10))]) hx hb dX3_creep_7 hl (by decide) rfl (fun ls hl => ?_)
    refine lv_aload hx hb dX3_creep_9 (lv_at hl 0 rfl) ?_
    refine lv_ifnonnull (tgt := 24) hx hb dX3_creep_11 (by decide) ?_
    refine lv_aload hx hb dX3_creep_24 (lv_at hl 0 rfl) ?_
    refine lv_iload_n hx hb dX3_creep_26 rfl (lv_at hl 3 rfl) ?_
    refine lv_iload_n hx hb dX3_creep_27 rfl (lv_at hl 4 rfl) ?_
    refine va_calli (va_runS (As := [.int (nI jx9), .int (nI jy10)]) (rest := [.ref a8]) ⟨hx, hb, hml, hown, hts⟩ (rk_placeOf l (nI jx9) (nI jy10)) (va_cwS 2 hts gX3_creep_X3_placeOf rfl rfl rfl (by decide +kernel) ⟨Nat.le_of_ble_eq_true rfl, Nat.le_of_ble_eq_true rfl⟩) ⟨fun a U g mk q => q, fun U hU hW => ⟨rfl, trivial⟩⟩ rfl rfl hl.1 rfl (lv_room (Nat.le_of_ble_eq_true rfl)) dX3_creep_28 ⟨(Nat.le_of_ble_eq_true rfl), (Nat.le_of_ble_eq_true rfl)⟩) hS (fun q _ h => h.elim) (fun q h => h.elim) (fun r15 u t H locs ht hvm hw16 hB hz1 hk1 hS => ?_)
    have hM := hM.keep (fun p hp => hk1 p hp (fun z => z))
    obtain rfl : r15 = nI (8 * jy10 + jx9) := hw16.trans (by rw [show (8 : Int32) = nI 8 from rfl]; exact (congrArg (· + nI jx9) (pk_mul 8 jy10)).trans (nI_add _ _))
    obtain ⟨u17, u18, u19, u20, u21, u22, hP, hf⟩ := o_st (i := j7) (q := a8) hM (by omega)
    refine va_calli (va_runV (As := [.int (nI (8 * jy10 + jx9))]) (rest := []) ⟨hx, hb, hml, hown, hts⟩ (rk_has l dC dI kA eD b g a8 j7 (nI (8 * jy10 + jx9)) (by omega)) (cwV 1 hts gX3_creep_X1_has rfl rfl rfl (by decide +kernel) ⟨Nat.le_of_ble_eq_true rfl, Nat.le_of_ble_eq_true rfl⟩) ⟨fb_CX, va_recv hK hP (ci := 5) (q0 := 0) rfl rfl, fun U hU hW => ⟨rfl, CX.give hb0 hM hK hG hE hS hU hW⟩⟩ rfl rfl hl.1 rfl (lv_room (Nat.le_of_ble_eq_true rfl)) dX3_creep_31 ⟨(Nat.le_of_ble_eq_true rfl), (Nat.le_of_ble_eq_true rfl)⟩) hS (fun q _ h => h) (fun q h => h) (fun r23 u t H locs ht hvm hw24 hB hz1 hk1 hS => ?_)
    have hM := hB.back ht
    have hG := hB.2.2.2.1
    refine lv_if_ne (tgt := 47) hx hb dX3_creep_34 (by decide) (fun c25 => ?_) (fun c25 => ?_)
    · skip
      obtain ⟨-, hr1, hr2⟩ := hw24.resolve_left c25
      refine lv_aload hx hb dX3_creep_47 (lv_at hl 0 rfl) ?_
      obtain ⟨u26, u27, u28, u29, u30, u31, hP, hf⟩ := o_st (i := j7) (q := a8) hM (by omega)
      refine va_get (D := (dC, dI)) (ci := 5) (v := .ref (pF g a8 2)) (C := RX1) (T := TX1) (N := 15) hx hb hts (by decide +kernel) hown hK hP 0 rfl rfl 2 (by decide) (hts (.fieldLink RX3 198 "Snowpalace$Site" "creeps" "[I") (by decide +kernel)) (fun _ h9 => h9) rfl dX3_creep_49 ?_
      have ht32 : tg g (pF g a8 2) = 14 := hf.2.2.1
      refine lv_iload_n hx hb dX3_creep_52 rfl (lv_at hl 3 rfl) ?_
      refine lv_iload_n hx hb dX3_creep_53 rfl (lv_at hl 4 rfl) ?_
      refine va_calli (va_runS (As := [.int (nI jx9), .int (nI jy10)]) (rest := [.ref (pF g a8 2)]) ⟨hx, hb, hml, hown, hts⟩ (rk_placeOf l (nI jx9) (nI jy10)) (va_cwS 2 hts gX3_creep_X3_placeOf rfl rfl rfl (by decide +kernel) ⟨Nat.le_of_ble_eq_true rfl, Nat.le_of_ble_eq_true rfl⟩) ⟨fun a U g mk q => q, fun U hU hW => ⟨rfl, trivial⟩⟩ rfl rfl hl.1 rfl (lv_room (Nat.le_of_ble_eq_true rfl)) dX3_creep_54 ⟨(Nat.le_of_ble_eq_true rfl), (Nat.le_of_ble_eq_true rfl)⟩) hS (fun q _ h => h.elim) (fun q h => h.elim) (fun r33 u t H locs ht hvm hw34 hB hz1 hk1 hS => ?_)
      have hM := hM.keep (fun p hp => hk1 p hp (fun z => z))
      obtain rfl : r33 = nI (8 * jy10 + jx9) := hw34.trans (by rw [show (8 : Int32) = nI 8 from rfl]; exact (congrArg (· + nI jx9) (pk_mul 8 jy10)).trans (nI_add _ _))
      obtain ⟨u35, hP, hf⟩ := o_in (i := 0) (q := (pF g a8 2)) hM (by omega)
      refine va_iald (D := (dC, dI)) hx hb hK hP 0 0 rfl rfl (vp_in_nI (by omega) (by decide)) dX3_creep_57 ?_
      refine lv_topi (fun v36 e37 => ?_)
      have ec : ((nI (8 * jy10 + jx9)) : Int32).toNatClampNeg = (8 * jy10 + jx9) := nI_clamp (by omega)
      rw [ec] at e37
      refine vx_ret ?_
      refine W.widen (k := 1) (n := 6) (Nat.le_of_ble_eq_true rfl) (Nat.le_of_ble_eq_true rfl) ?_
      exact W.iret (v := v36) hx hb hr (fun t ht hW => ⟨⟨v36, (), rfl, trivial, CX.give hb0 hM hK hG hE hS ht hW⟩, hS.F ht⟩) hS.2.2 dX3_creep_58
    · skip
      obtain ⟨sa, hsa⟩ := hT.2.1 (182, "no cell is there") (by decide +kernel)
      exact rt_throwSX (A := (fun q => b ≤ q)) (own := RX3) (cls := "java/util/NoSuchElementException") (text := "no cell is there") (names := exN) (ix := 13) (rx := prog_38_method_4_code) hx hb hlt rx13_0 rx13_1 rx13_2 rx13_5 hown (by decide +kernel) (by decide +kernel) (hts (.classLink RX3 180 "java/util/NoSuchElementException") (by decide +kernel)) hE.2.2.2.2.2.2.2.2.ini hsa hE.2.2.2.2.2.2.2.2.hat nse_good hT.2.2.2.1 hT.2.2.2.2 hS (hl.1.trans hml.symm) dX3_creep_37 dX3_creep_40 dX3_creep_41 dX3_creep_43 dX3_creep_46 (fun x h => (hnt x h).elim) (by decide) (Nat.le_of_ble_eq_true rfl) (Nat.le_of_ble_eq_true rfl) (Nat.le_of_ble_eq_true rfl) hlocks (fun t ha h1 h2 => ⟨(), trivial, ⟨(Or.inr rfl), hM.keep h2⟩, th_F hS h1 h2⟩) hS.2.2 (Nat.le_of_ble_eq_true rfl) (Nat.le_of_ble_eq_true rfl)

set_option maxHeartbeats 4000000 in
set_option maxRecDepth 100000 in
theorem rf_age (l : Launch) (hlt : l.stackTraces = false) (dC : Nat → ClassId) (dI : Nat → Nat → Nat) (kA : Nat → ClassId) (eD b : Nat) (g : Gh) (o : Nat) (site : Int32) (x : Int32) (y : Int32) (hto : tg g o = 1)  : vx_Met l yX3_age wzX3_age ({ frames := 6, cells := 1, slots := 6, locals := 82 }) (va_Pc [.ref o, .int site, .int x, .int y] (CX (dC, dI) kA eD b g)) (va_Qi (fun (r : Int32) (u : Unit) => True) (fun (u : Unit) t => CX (dC, dI) kA eD b g t) (fun q => b ≤ q)) (vx_X (fun _ : Unit => True) (fun E _ t => (E = "java/lang/IndexOutOfBoundsException" ∨ E = "java/util/NoSuchElementException") ∧ TM (dC, dI) kA b g t.heap) (fun q => b ≤ q)) 1 6 (fun q => b ≤ q) := by
  refine vx_ofW (cc := cX3_age) (maxL := 5) (ret := (some .int)) (by decide +kernel) rfl ?_
  intro p e s m args below meth c s₁ B hml hnt hv
  obtain ⟨rfl, hb0, hM, hK, hG, hE⟩ := hv
  have hx := B.exec
  have hb := B.bytes
  have hr := B.returns
  have hts := atoms_spec (ws := wzX3_age) B.pre
  have hown : s.vm.findClass RX3 = some m.cls := findClass_of_methodNamed B.named
  have hlocks := B.notSynchronized
  have hT := hE.1
  have hN := hE.2.2.2.2.2.2.2.1
  have hS : va_S (fun q => b ≤ q) s.heap s.heap [] := va_S.rf
  have hl := lv_entry ([.ref o, .int site, .int x, .int y]) (n := 5) (Nat.le_of_ble_eq_true rfl)
  rw [lg_entry_eq]
  generalize (lg_sl ([.ref o, .int site, .int x, .int y]) ++ List.replicate (5 - (lg_sl ([.ref o, .int site, .int x, .int y])).length) Slot.unset).toArray = ls at hl ⊢
  have hl : lv_has ls 5 [(0, .ref o), (1, .int site), (2, .int x), (3, .int y)] := hl
  generalize ([.ref o, .int site, .int x, .int y] : List Value).toArray = args at hts ⊢
  refine lv_aload_n hx hb dX3_age_0 rfl (lv_at hl 0 rfl) ?_
  refine lv_iload_n hx hb dX3_age_1 rfl (lv_at hl 1 rfl) ?_
  refine lv_iload_n hx hb dX3_age_2 rfl (lv_at hl 2 rfl) ?_
  refine lv_iload_n hx hb dX3_age_3 rfl (lv_at hl 3 rfl) ?_
  obtain ⟨u1, u2, u3, u4, hP, hf⟩ := o_sno (i := 0) (q := o) hM (by omega)
  refine va_callq (va_runV (As := [.int site, .int x, .int y]) (rest := []) ⟨hx, hb, hml, hown, hts⟩ (rk_placedSite l dC dI kA eD b g o site x y (by omega)) (cwV 3 hts gX3_age_X3_placedSite rfl rfl rfl (by decide +kernel) ⟨Nat.le_of_ble_eq_true rfl, Nat.le_of_ble_eq_true rfl⟩) ⟨fb_CX, va_recv hK hP (ci := 7) (q0 := 0) rfl rfl, fun U hU hW => ⟨rfl, CX.give hb0 hM hK hG hE hS hU hW⟩⟩ rfl rfl hl.1 rfl (lv_room (Nat.le_of_ble_eq_true rfl)) dX3_age_4 ⟨(Nat.le_of_ble_eq_true rfl), (Nat.le_of_ble_eq_true rfl)⟩) hS (fun q _ h => h) (fun q h => h) (fun r5 u t H locs ht hvm hw6 hB hz1 hk1 hS => ?_)
  have hM := hB.back ht
  have hG := hB.2.2.2.1
  rcases hw6 with ⟨rfl, hn14⟩ | ⟨j7, a8, jx9, jy10, rfl, rfl, rfl, rfl, hjx9, hjy10, hj13, ho11, ht12⟩
  · skip
    refine lv_astoreN (lv' := [(4, .null), (0, .ref o), (1, .int site), (2, .int x), (3, .int y)]) hx hb dX3_age_7 hl (by decide) rfl (fun ls hl => ?_)
    refine lv_aloadN hx hb dX3_age_9 (lv_at hl 0 rfl) ?_
    refine lv_ifnonnullN hx hb dX3_age_11 ?_
    obtain ⟨sa, hsa⟩ := hT.2.1 (137, "no such site or place") (by decide +kernel)
    exact vx_throwS (A := (fun q => b ≤ q)) (own := RX3) (cls := "java/lang/IndexOutOfBoundsException") (text := "no such site or place") (names := exN) hx hb hlt hown (by decide +kernel) (by decide +kernel) (hts (.classLink RX3 135 "java/lang/IndexOutOfBoundsException") (by decide +kernel)) (hts (.initialized "java/lang/IndexOutOfBoundsException") (by decide +kernel)) hsa (th_hat hT (fun w h => hts w (List.mem_cons_of_mem _ (List.mem_append_left _ (List.mem_append_right _ h)))) th_i4) (th_good th_i4) hT.2.2.2.1 hT.2.2.2.2 hS (hl.1.trans hml.symm) dX3_age_14 dX3_age_17 dX3_age_18 dX3_age_20 dX3_age_23 (fun x h => (hnt x h).elim) (by decide) (Nat.le_of_ble_eq_true rfl) (Nat.le_of_ble_eq_true rfl) (Nat.le_of_ble_eq_true rfl) hlocks (fun t ha h1 h2 => ⟨(), trivial, ⟨(Or.inl rfl), hM.keep h2⟩, th_F hS h1 h2⟩) hS.2.2 (Nat.le_of_ble_eq_true rfl) (Nat.le_of_ble_eq_true rfl)
  · skip
    have hl : lv_has ls 5 [(0, .ref o), (1, .int (nI j7)), (2, .int (nI jx9)), (3, .int (nI jy10))] := hl
    refine lv_astore (lv' := [(4, .ref a8), (0, .ref o), (1, .int (nI j7)), (2, .int (nI jx9)), (3, .int (nI jy10))]) hx hb dX3_age_7 hl (by decide) rfl (fun ls hl => ?_)
    refine lv_aload hx hb dX3_age_9 (lv_at hl 0 rfl) ?_
    refine lv_ifnonnull (tgt := 24) hx hb dX3_age_11 (by decide) ?_
    refine lv_aload hx hb dX3_age_24 (lv_at hl 0 rfl) ?_
    refine lv_iload_n hx hb dX3_age_26 rfl (lv_at hl 3 rfl) ?_
    refine lv_iload_n hx hb dX3_age_27 rfl (lv_at hl 4 rfl) ?_
    refine va_calli (va_runS (As := [.int (nI jx9), .int (nI jy10)]) (rest := [.ref a8]) ⟨hx, hb, hml, hown, hts⟩ (rk_placeOf l (nI jx9) (nI jy10)) (va_cwS 2 hts gX3_age_X3_placeOf rfl rfl rfl (by decide +kernel) ⟨Nat.le_of_ble_eq_true rfl, Nat.le_of_ble_eq_true rfl⟩) ⟨fun a U g mk q => q, fun U hU hW => ⟨rfl, trivial⟩⟩ rfl rfl hl.1 rfl (lv_room (Nat.le_of_ble_eq_true rfl)) dX3_age_28 ⟨(Nat.le_of_ble_eq_true rfl), (Nat.le_of_ble_eq_true rfl)⟩) hS (fun q _ h => h.elim) (fun q h => h.elim) (fun r15 u t H locs ht hvm hw16 hB hz1 hk1 hS => ?_)
    have hM := hM.keep (fun p hp => hk1 p hp (fun z => z))
    obtain rfl : r15 = nI (8 * jy10 + jx9) := hw16.trans (by rw [show (8 : Int32) = nI 8 from rfl]; exact (congrArg (· + nI jx9) (pk_mul 8 jy10)).trans (nI_add _ _))
    obtain ⟨u17, u18, u19, u20, u21, u22, hP, hf⟩ := o_st (i := j7) (q := a8) hM (by omega)
    refine va_calli (va_runV (As := [.int (nI (8 * jy10 + jx9))]) (rest := []) ⟨hx, hb, hml, hown, hts⟩ (rk_has l dC dI kA eD b g a8 j7 (nI (8 * jy10 + jx9)) (by omega)) (cwV 1 hts gX3_age_X1_has rfl rfl rfl (by decide +kernel) ⟨Nat.le_of_ble_eq_true rfl, Nat.le_of_ble_eq_true rfl⟩) ⟨fb_CX, va_recv hK hP (ci := 5) (q0 := 0) rfl rfl, fun U hU hW => ⟨rfl, CX.give hb0 hM hK hG hE hS hU hW⟩⟩ rfl rfl hl.1 rfl (lv_room (Nat.le_of_ble_eq_true rfl)) dX3_age_31 ⟨(Nat.le_of_ble_eq_true rfl), (Nat.le_of_ble_eq_true rfl)⟩) hS (fun q _ h => h) (fun q h => h) (fun r23 u t H locs ht hvm hw24 hB hz1 hk1 hS => ?_)
    have hM := hB.back ht
    have hG := hB.2.2.2.1
    refine lv_if_ne (tgt := 47) hx hb dX3_age_34 (by decide) (fun c25 => ?_) (fun c25 => ?_)
    · skip
      obtain ⟨-, hr1, hr2⟩ := hw24.resolve_left c25
      refine lv_aload hx hb dX3_age_47 (lv_at hl 0 rfl) ?_
      obtain ⟨u26, u27, u28, u29, u30, u31, hP, hf⟩ := o_st (i := j7) (q := a8) hM (by omega)
      refine va_get (D := (dC, dI)) (ci := 5) (v := .ref (pF g a8 3)) (C := RX1) (T := TX1) (N := 15) hx hb hts (by decide +kernel) hown hK hP 0 rfl rfl 3 (by decide) (hts (.fieldLink RX3 201 "Snowpalace$Site" "ages" "[I") (by decide +kernel)) (fun _ h9 => h9) rfl dX3_age_49 ?_
      have ht32 : tg g (pF g a8 3) = 14 := hf.2.2.2.1
      refine lv_iload_n hx hb dX3_age_52 rfl (lv_at hl 3 rfl) ?_
      refine lv_iload_n hx hb dX3_age_53 rfl (lv_at hl 4 rfl) ?_
      refine va_calli (va_runS (As := [.int (nI jx9), .int (nI jy10)]) (rest := [.ref (pF g a8 3)]) ⟨hx, hb, hml, hown, hts⟩ (rk_placeOf l (nI jx9) (nI jy10)) (va_cwS 2 hts gX3_age_X3_placeOf rfl rfl rfl (by decide +kernel) ⟨Nat.le_of_ble_eq_true rfl, Nat.le_of_ble_eq_true rfl⟩) ⟨fun a U g mk q => q, fun U hU hW => ⟨rfl, trivial⟩⟩ rfl rfl hl.1 rfl (lv_room (Nat.le_of_ble_eq_true rfl)) dX3_age_54 ⟨(Nat.le_of_ble_eq_true rfl), (Nat.le_of_ble_eq_true rfl)⟩) hS (fun q _ h => h.elim) (fun q h => h.elim) (fun r33 u t H locs ht hvm hw34 hB hz1 hk1 hS => ?_)
      have hM := hM.keep (fun p hp => hk1 p hp (fun z => z))
      obtain rfl : r33 = nI (8 * jy10 + jx9) := hw34.trans (by rw [show (8 : Int32) = nI 8 from rfl]; exact (congrArg (· + nI jx9) (pk_mul 8 jy10)).trans (nI_add _ _))
      obtain ⟨u35, hP, hf⟩ := o_in (i := 0) (q := (pF g a8 3)) hM (by omega)
      refine va_iald (D := (dC, dI)) hx hb hK hP 0 0 rfl rfl (vp_in_nI (by omega) (by decide)) dX3_age_57 ?_
      refine lv_topi (fun v36 e37 => ?_)
      have ec : ((nI (8 * jy10 + jx9)) : Int32).toNatClampNeg = (8 * jy10 + jx9) := nI_clamp (by omega)
      rw [ec] at e37
      refine vx_ret ?_
      refine W.widen (k := 1) (n := 6) (Nat.le_of_ble_eq_true rfl) (Nat.le_of_ble_eq_true rfl) ?_
      exact W.iret (v := v36) hx hb hr (fun t ht hW => ⟨⟨v36, (), rfl, trivial, CX.give hb0 hM hK hG hE hS ht hW⟩, hS.F ht⟩) hS.2.2 dX3_age_58
    · skip
      obtain ⟨sa, hsa⟩ := hT.2.1 (182, "no cell is there") (by decide +kernel)
      exact rt_throwSX (A := (fun q => b ≤ q)) (own := RX3) (cls := "java/util/NoSuchElementException") (text := "no cell is there") (names := exN) (ix := 13) (rx := prog_38_method_4_code) hx hb hlt rx13_0 rx13_1 rx13_2 rx13_5 hown (by decide +kernel) (by decide +kernel) (hts (.classLink RX3 180 "java/util/NoSuchElementException") (by decide +kernel)) hE.2.2.2.2.2.2.2.2.ini hsa hE.2.2.2.2.2.2.2.2.hat nse_good hT.2.2.2.1 hT.2.2.2.2 hS (hl.1.trans hml.symm) dX3_age_37 dX3_age_40 dX3_age_41 dX3_age_43 dX3_age_46 (fun x h => (hnt x h).elim) (by decide) (Nat.le_of_ble_eq_true rfl) (Nat.le_of_ble_eq_true rfl) (Nat.le_of_ble_eq_true rfl) hlocks (fun t ha h1 h2 => ⟨(), trivial, ⟨(Or.inr rfl), hM.keep h2⟩, th_F hS h1 h2⟩) hS.2.2 (Nat.le_of_ble_eq_true rfl) (Nat.le_of_ble_eq_true rfl)

set_option maxHeartbeats 4000000 in
set_option maxRecDepth 100000 in
theorem rf_isArch (l : Launch) (hlt : l.stackTraces = false) (dC : Nat → ClassId) (dI : Nat → Nat → Nat) (kA : Nat → ClassId) (eD b : Nat) (g : Gh) (o : Nat) (site : Int32) (x : Int32) (y : Int32) (hto : tg g o = 1)  : vx_Met l yX3_isArch wzX3_isArch ({ frames := 6, cells := 1, slots := 6, locals := 82 }) (va_Pc [.ref o, .int site, .int x, .int y] (CX (dC, dI) kA eD b g)) (va_Qi (fun (r : Int32) (u : Unit) => r = 0 ∨ r = 1) (fun (u : Unit) t => CX (dC, dI) kA eD b g t) (fun q => b ≤ q)) (vx_X (fun _ : Unit => True) (fun E _ t => (E = "java/lang/IndexOutOfBoundsException" ∨ E = "java/util/NoSuchElementException") ∧ TM (dC, dI) kA b g t.heap) (fun q => b ≤ q)) 1 6 (fun q => b ≤ q) := by
  refine vx_ofW (cc := cX3_isArch) (maxL := 5) (ret := (some .boolean)) (by decide +kernel) rfl ?_
  intro p e s m args below meth c s₁ B hml hnt hv
  obtain ⟨rfl, hb0, hM, hK, hG, hE⟩ := hv
  have hx := B.exec
  have hb := B.bytes
  have hr := B.returns
  have hts := atoms_spec (ws := wzX3_isArch) B.pre
  have hown : s.vm.findClass RX3 = some m.cls := findClass_of_methodNamed B.named
  have hlocks := B.notSynchronized
  have hT := hE.1
  have hN := hE.2.2.2.2.2.2.2.1
  have hS : va_S (fun q => b ≤ q) s.heap s.heap [] := va_S.rf
  have hl := lv_entry ([.ref o, .int site, .int x, .int y]) (n := 5) (Nat.le_of_ble_eq_true rfl)
  rw [lg_entry_eq]
  generalize (lg_sl ([.ref o, .int site, .int x, .int y]) ++ List.replicate (5 - (lg_sl ([.ref o, .int site, .int x, .int y])).length) Slot.unset).toArray = ls at hl ⊢
  have hl : lv_has ls 5 [(0, .ref o), (1, .int site), (2, .int x), (3, .int y)] := hl
  generalize ([.ref o, .int site, .int x, .int y] : List Value).toArray = args at hts ⊢
  refine lv_aload_n hx hb dX3_isArch_0 rfl (lv_at hl 0 rfl) ?_
  refine lv_iload_n hx hb dX3_isArch_1 rfl (lv_at hl 1 rfl) ?_
  refine lv_iload_n hx hb dX3_isArch_2 rfl (lv_at hl 2 rfl) ?_
  refine lv_iload_n hx hb dX3_isArch_3 rfl (lv_at hl 3 rfl) ?_
  obtain ⟨u1, u2, u3, u4, hP, hf⟩ := o_sno (i := 0) (q := o) hM (by omega)
  refine va_callq (va_runV (As := [.int site, .int x, .int y]) (rest := []) ⟨hx, hb, hml, hown, hts⟩ (rk_placedSite l dC dI kA eD b g o site x y (by omega)) (cwV 3 hts gX3_isArch_X3_placedSite rfl rfl rfl (by decide +kernel) ⟨Nat.le_of_ble_eq_true rfl, Nat.le_of_ble_eq_true rfl⟩) ⟨fb_CX, va_recv hK hP (ci := 7) (q0 := 0) rfl rfl, fun U hU hW => ⟨rfl, CX.give hb0 hM hK hG hE hS hU hW⟩⟩ rfl rfl hl.1 rfl (lv_room (Nat.le_of_ble_eq_true rfl)) dX3_isArch_4 ⟨(Nat.le_of_ble_eq_true rfl), (Nat.le_of_ble_eq_true rfl)⟩) hS (fun q _ h => h) (fun q h => h) (fun r5 u t H locs ht hvm hw6 hB hz1 hk1 hS => ?_)
  have hM := hB.back ht
  have hG := hB.2.2.2.1
  rcases hw6 with ⟨rfl, hn14⟩ | ⟨j7, a8, jx9, jy10, rfl, rfl, rfl, rfl, hjx9, hjy10, hj13, ho11, ht12⟩
  · skip
    refine lv_astoreN (lv' := [(4, .null), (0, .ref o), (1, .int site), (2, .int x), (3, .int y)]) hx hb dX3_isArch_7 hl (by decide) rfl (fun ls hl => ?_)
    refine lv_aloadN hx hb dX3_isArch_9 (lv_at hl 0 rfl) ?_
    refine lv_ifnonnullN hx hb dX3_isArch_11 ?_
    obtain ⟨sa, hsa⟩ := hT.2.1 (137, "no such site or place") (by decide +kernel)
    exact vx_throwS (A := (fun q => b ≤ q)) (own := RX3) (cls := "java/lang/IndexOutOfBoundsException") (text := "no such site or place") (names := exN) hx hb hlt hown (by decide +kernel) (by decide +kernel) (hts (.classLink RX3 135 "java/lang/IndexOutOfBoundsException") (by decide +kernel)) (hts (.initialized "java/lang/IndexOutOfBoundsException") (by decide +kernel)) hsa (th_hat hT (fun w h => hts w (List.mem_cons_of_mem _ (List.mem_append_left _ (List.mem_append_right _ h)))) th_i4) (th_good th_i4) hT.2.2.2.1 hT.2.2.2.2 hS (hl.1.trans hml.symm) dX3_isArch_14 dX3_isArch_17 dX3_isArch_18 dX3_isArch_20 dX3_isArch_23 (fun x h => (hnt x h).elim) (by decide) (Nat.le_of_ble_eq_true rfl) (Nat.le_of_ble_eq_true rfl) (Nat.le_of_ble_eq_true rfl) hlocks (fun t ha h1 h2 => ⟨(), trivial, ⟨(Or.inl rfl), hM.keep h2⟩, th_F hS h1 h2⟩) hS.2.2 (Nat.le_of_ble_eq_true rfl) (Nat.le_of_ble_eq_true rfl)
  · skip
    have hl : lv_has ls 5 [(0, .ref o), (1, .int (nI j7)), (2, .int (nI jx9)), (3, .int (nI jy10))] := hl
    refine lv_astore (lv' := [(4, .ref a8), (0, .ref o), (1, .int (nI j7)), (2, .int (nI jx9)), (3, .int (nI jy10))]) hx hb dX3_isArch_7 hl (by decide) rfl (fun ls hl => ?_)
    refine lv_aload hx hb dX3_isArch_9 (lv_at hl 0 rfl) ?_
    refine lv_ifnonnull (tgt := 24) hx hb dX3_isArch_11 (by decide) ?_
    refine lv_aload hx hb dX3_isArch_24 (lv_at hl 0 rfl) ?_
    refine lv_iload_n hx hb dX3_isArch_26 rfl (lv_at hl 3 rfl) ?_
    refine lv_iload_n hx hb dX3_isArch_27 rfl (lv_at hl 4 rfl) ?_
    refine va_calli (va_runS (As := [.int (nI jx9), .int (nI jy10)]) (rest := [.ref a8]) ⟨hx, hb, hml, hown, hts⟩ (rk_placeOf l (nI jx9) (nI jy10)) (va_cwS 2 hts gX3_isArch_X3_placeOf rfl rfl rfl (by decide +kernel) ⟨Nat.le_of_ble_eq_true rfl, Nat.le_of_ble_eq_true rfl⟩) ⟨fun a U g mk q => q, fun U hU hW => ⟨rfl, trivial⟩⟩ rfl rfl hl.1 rfl (lv_room (Nat.le_of_ble_eq_true rfl)) dX3_isArch_28 ⟨(Nat.le_of_ble_eq_true rfl), (Nat.le_of_ble_eq_true rfl)⟩) hS (fun q _ h => h.elim) (fun q h => h.elim) (fun r15 u t H locs ht hvm hw16 hB hz1 hk1 hS => ?_)
    have hM := hM.keep (fun p hp => hk1 p hp (fun z => z))
    obtain rfl : r15 = nI (8 * jy10 + jx9) := hw16.trans (by rw [show (8 : Int32) = nI 8 from rfl]; exact (congrArg (· + nI jx9) (pk_mul 8 jy10)).trans (nI_add _ _))
    obtain ⟨u17, u18, u19, u20, u21, u22, hP, hf⟩ := o_st (i := j7) (q := a8) hM (by omega)
    refine va_calli (va_runV (As := [.int (nI (8 * jy10 + jx9))]) (rest := []) ⟨hx, hb, hml, hown, hts⟩ (rk_has l dC dI kA eD b g a8 j7 (nI (8 * jy10 + jx9)) (by omega)) (cwV 1 hts gX3_isArch_X1_has rfl rfl rfl (by decide +kernel) ⟨Nat.le_of_ble_eq_true rfl, Nat.le_of_ble_eq_true rfl⟩) ⟨fb_CX, va_recv hK hP (ci := 5) (q0 := 0) rfl rfl, fun U hU hW => ⟨rfl, CX.give hb0 hM hK hG hE hS hU hW⟩⟩ rfl rfl hl.1 rfl (lv_room (Nat.le_of_ble_eq_true rfl)) dX3_isArch_31 ⟨(Nat.le_of_ble_eq_true rfl), (Nat.le_of_ble_eq_true rfl)⟩) hS (fun q _ h => h) (fun q h => h) (fun r23 u t H locs ht hvm hw24 hB hz1 hk1 hS => ?_)
    have hM := hB.back ht
    have hG := hB.2.2.2.1
    refine lv_if_ne (tgt := 47) hx hb dX3_isArch_34 (by decide) (fun c25 => ?_) (fun c25 => ?_)
    · skip
      obtain ⟨-, hr1, hr2⟩ := hw24.resolve_left c25
      refine lv_aload hx hb dX3_isArch_47 (lv_at hl 0 rfl) ?_
      refine lv_iload_n hx hb dX3_isArch_49 rfl (lv_at hl 3 rfl) ?_
      refine lv_iload_n hx hb dX3_isArch_50 rfl (lv_at hl 4 rfl) ?_
      refine va_calli (va_runS (As := [.int (nI jx9), .int (nI jy10)]) (rest := [.ref a8]) ⟨hx, hb, hml, hown, hts⟩ (rk_placeOf l (nI jx9) (nI jy10)) (va_cwS 2 hts gX3_isArch_X3_placeOf rfl rfl rfl (by decide +kernel) ⟨Nat.le_of_ble_eq_true rfl, Nat.le_of_ble_eq_true rfl⟩) ⟨fun a U g mk q => q, fun U hU hW => ⟨rfl, trivial⟩⟩ rfl rfl hl.1 rfl (lv_room (Nat.le_of_ble_eq_true rfl)) dX3_isArch_51 ⟨(Nat.le_of_ble_eq_true rfl), (Nat.le_of_ble_eq_true rfl)⟩) hS (fun q _ h => h.elim) (fun q h => h.elim) (fun r26 u t H locs ht hvm hw27 hB hz1 hk1 hS => ?_)
      have hM := hM.keep (fun p hp => hk1 p hp (fun z => z))
      obtain rfl : r26 = nI (8 * jy10 + jx9) := hw27.trans (by rw [show (8 : Int32) = nI 8 from rfl]; exact (congrArg (· + nI jx9) (pk_mul 8 jy10)).trans (nI_add _ _))
      obtain ⟨u28, u29, u30, u31, u32, u33, hP, hf⟩ := o_st (i := j7) (q := a8) hM (by omega)
      refine va_calli (va_runV (As := [.int (nI (8 * jy10 + jx9))]) (rest := []) ⟨hx, hb, hml, hown, hts⟩ (rk_spans l dC dI kA eD b g a8 j7 (8 * jy10 + jx9) (by omega) (by omega)) (cwV 1 hts gX3_isArch_X1_spans rfl rfl rfl (by decide +kernel) ⟨Nat.le_of_ble_eq_true rfl, Nat.le_of_ble_eq_true rfl⟩) ⟨fb_CX, va_recv hK hP (ci := 5) (q0 := 0) rfl rfl, fun U hU hW => ⟨rfl, CX.give hb0 hM hK hG hE hS hU hW⟩⟩ rfl rfl hl.1 rfl (lv_room (Nat.le_of_ble_eq_true rfl)) dX3_isArch_54 ⟨(Nat.le_of_ble_eq_true rfl), (Nat.le_of_ble_eq_true rfl)⟩) hS (fun q _ h => h) (fun q h => h) (fun r34 u t H locs ht hvm hw35 hB hz1 hk1 hS => ?_)
      have hM := hB.back ht
      have hG := hB.2.2.2.1
      refine vx_ret ?_
      refine W.widen (k := 1) (n := 6) (Nat.le_of_ble_eq_true rfl) (Nat.le_of_ble_eq_true rfl) ?_
      exact W.zret (v := r34) (ty := .boolean) hx hb hr (z01n hw35) (fun t ht hW => ⟨⟨r34, (), rfl, hw35, CX.give hb0 hM hK hG hE hS ht hW⟩, hS.F ht⟩) hS.2.2 dX3_isArch_57
    · skip
      obtain ⟨sa, hsa⟩ := hT.2.1 (182, "no cell is there") (by decide +kernel)
      exact rt_throwSX (A := (fun q => b ≤ q)) (own := RX3) (cls := "java/util/NoSuchElementException") (text := "no cell is there") (names := exN) (ix := 13) (rx := prog_38_method_4_code) hx hb hlt rx13_0 rx13_1 rx13_2 rx13_5 hown (by decide +kernel) (by decide +kernel) (hts (.classLink RX3 180 "java/util/NoSuchElementException") (by decide +kernel)) hE.2.2.2.2.2.2.2.2.ini hsa hE.2.2.2.2.2.2.2.2.hat nse_good hT.2.2.2.1 hT.2.2.2.2 hS (hl.1.trans hml.symm) dX3_isArch_37 dX3_isArch_40 dX3_isArch_41 dX3_isArch_43 dX3_isArch_46 (fun x h => (hnt x h).elim) (by decide) (Nat.le_of_ble_eq_true rfl) (Nat.le_of_ble_eq_true rfl) (Nat.le_of_ble_eq_true rfl) hlocks (fun t ha h1 h2 => ⟨(), trivial, ⟨(Or.inr rfl), hM.keep h2⟩, th_F hS h1 h2⟩) hS.2.2 (Nat.le_of_ble_eq_true rfl) (Nat.le_of_ble_eq_true rfl)

set_option maxHeartbeats 4000000 in
set_option maxRecDepth 100000 in
theorem rf_fell (l : Launch) (hlt : l.stackTraces = false) (dC : Nat → ClassId) (dI : Nat → Nat → Nat) (kA : Nat → ClassId) (eD b : Nat) (g : Gh) (o : Nat) (site : Int32) (hto : tg g o = 1)  : vx_Met l yX3_fell wsX3_fell ({ frames := 6, cells := 1, slots := 6, locals := 82 }) (va_Pc [.ref o, .int site] (CX (dC, dI) kA eD b g)) (va_Qi (fun (r : Int32) (u : Unit) => True) (fun (u : Unit) t => CX (dC, dI) kA eD b g t) (fun q => b ≤ q)) (vx_X (fun _ : Unit => True) (fun E _ t => (E = "java/lang/IndexOutOfBoundsException") ∧ TM (dC, dI) kA b g t.heap) (fun q => b ≤ q)) 1 6 (fun q => b ≤ q) := by
  refine vx_ofW (cc := cX3_fell) (maxL := 3) (ret := (some .int)) (by decide +kernel) rfl ?_
  intro p e s m args below meth c s₁ B hml hnt hv
  obtain ⟨rfl, hb0, hM, hK, hG, hE⟩ := hv
  have hx := B.exec
  have hb := B.bytes
  have hr := B.returns
  have hts := atoms_spec (ws := wsX3_fell) B.pre
  have hown : s.vm.findClass RX3 = some m.cls := findClass_of_methodNamed B.named
  have hlocks := B.notSynchronized
  have hT := hE.1
  have hN := hE.2.2.2.2.2.2.2.1
  have hS : va_S (fun q => b ≤ q) s.heap s.heap [] := va_S.rf
  have hl := lv_entry ([.ref o, .int site]) (n := 3) (Nat.le_of_ble_eq_true rfl)
  rw [lg_entry_eq]
  generalize (lg_sl ([.ref o, .int site]) ++ List.replicate (3 - (lg_sl ([.ref o, .int site])).length) Slot.unset).toArray = ls at hl ⊢
  have hl : lv_has ls 3 [(0, .ref o), (1, .int site)] := hl
  generalize ([.ref o, .int site] : List Value).toArray = args at hts ⊢
  refine lv_aload_n hx hb dX3_fell_0 rfl (lv_at hl 0 rfl) ?_
  refine lv_iload_n hx hb dX3_fell_1 rfl (lv_at hl 1 rfl) ?_
  obtain ⟨u1, u2, u3, u4, hP, hf⟩ := o_sno (i := 0) (q := o) hM (by omega)
  refine va_callq (va_runV (As := [.int site]) (rest := []) ⟨hx, hb, hml, hown, hts⟩ (rk_numberedSite l dC dI kA eD b g o site (by omega)) (cwV 1 hts gX3_fell_X3_numberedSite rfl rfl rfl (by decide +kernel) ⟨Nat.le_of_ble_eq_true rfl, Nat.le_of_ble_eq_true rfl⟩) ⟨fb_CX, va_recv hK hP (ci := 7) (q0 := 0) rfl rfl, fun U hU hW => ⟨rfl, CX.give hb0 hM hK hG hE hS hU hW⟩⟩ rfl rfl hl.1 rfl (lv_room (Nat.le_of_ble_eq_true rfl)) dX3_fell_2 ⟨(Nat.le_of_ble_eq_true rfl), (Nat.le_of_ble_eq_true rfl)⟩) hS (fun q _ h => h) (fun q h => h) (fun r5 u t H locs ht hvm hw6 hB hz1 hk1 hS => ?_)
  have hM := hB.back ht
  have hG := hB.2.2.2.1
  rcases hw6 with ⟨rfl, hn12⟩ | ⟨j7, a8, rfl, hs9, hj11, ho9, ht10⟩
  · skip
    refine lv_astore_nN (lv' := [(2, .null), (0, .ref o), (1, .int site)]) hx hb dX3_fell_5 rfl hl (by decide) rfl (fun ls hl => ?_)
    refine lv_aload_nN hx hb dX3_fell_6 rfl (lv_at hl 0 rfl) ?_
    refine lv_ifnonnullN hx hb dX3_fell_7 ?_
    obtain ⟨sa, hsa⟩ := hT.2.1 (211, "no such site") (by decide +kernel)
    exact vx_throwS (A := (fun q => b ≤ q)) (own := RX3) (cls := "java/lang/IndexOutOfBoundsException") (text := "no such site") (names := exN) hx hb hlt hown (by decide +kernel) (by decide +kernel) (hts (.classLink RX3 135 "java/lang/IndexOutOfBoundsException") (by decide +kernel)) (hts (.initialized "java/lang/IndexOutOfBoundsException") (by decide +kernel)) hsa (th_hat hT (fun w h => hts w (List.mem_cons_of_mem _ (List.mem_append_right _ h))) th_i4) (th_good th_i4) hT.2.2.2.1 hT.2.2.2.2 hS (hl.1.trans hml.symm) dX3_fell_10 dX3_fell_13 dX3_fell_14 dX3_fell_16 dX3_fell_19 (fun x h => (hnt x h).elim) (by decide) (Nat.le_of_ble_eq_true rfl) (Nat.le_of_ble_eq_true rfl) (Nat.le_of_ble_eq_true rfl) hlocks (fun t ha h1 h2 => ⟨(), trivial, ⟨rfl, hM.keep h2⟩, th_F hS h1 h2⟩) hS.2.2 (Nat.le_of_ble_eq_true rfl) (Nat.le_of_ble_eq_true rfl)
  · skip
    subst hs9
    have hl : lv_has ls 3 [(0, .ref o), (1, .int (nI j7))] := hl
    refine lv_astore_n (lv' := [(2, .ref a8), (0, .ref o), (1, .int (nI j7))]) hx hb dX3_fell_5 rfl hl (by decide) rfl (fun ls hl => ?_)
    refine lv_aload_n hx hb dX3_fell_6 rfl (lv_at hl 0 rfl) ?_
    refine lv_ifnonnull (tgt := 20) hx hb dX3_fell_7 (by decide) ?_
    refine lv_aload_n hx hb dX3_fell_20 rfl (lv_at hl 0 rfl) ?_
    obtain ⟨u13, u14, u15, u16, u17, u18, hP, hf⟩ := o_st (i := j7) (q := a8) hM (by omega)
    refine va_get (D := (dC, dI)) (ci := 5) (v := .int u13) (C := RX1) (T := TX1) (N := 15) hx hb hts (by decide +kernel) hown hK hP 0 rfl rfl 9 (by decide) (hts (.fieldLink RX3 213 "Snowpalace$Site" "fallen" "I") (by decide +kernel)) (fun _ h9 => h9) rfl dX3_fell_21 ?_
    refine vx_ret ?_
    refine W.widen (k := 1) (n := 6) (Nat.le_of_ble_eq_true rfl) (Nat.le_of_ble_eq_true rfl) ?_
    exact W.iret (v := u13) hx hb hr (fun t ht hW => ⟨⟨u13, (), rfl, trivial, CX.give hb0 hM hK hG hE hS ht hW⟩, hS.F ht⟩) hS.2.2 dX3_fell_24

set_option maxHeartbeats 4000000 in
set_option maxRecDepth 100000 in
theorem rf_lastFell (l : Launch) (hlt : l.stackTraces = false) (dC : Nat → ClassId) (dI : Nat → Nat → Nat) (kA : Nat → ClassId) (eD b : Nat) (g : Gh) (o : Nat) (site : Int32) (hto : tg g o = 1)  : vx_Met l yX3_lastFell wzX3_lastFell ({ frames := 6, cells := 1, slots := 6, locals := 82 }) (va_Pc [.ref o, .int site] (CX (dC, dI) kA eD b g)) (va_Qi (fun (r : Int32) (u : Unit) => True) (fun (u : Unit) t => CX (dC, dI) kA eD b g t) (fun q => b ≤ q)) (vx_X (fun _ : Unit => True) (fun E _ t => (E = "java/lang/IndexOutOfBoundsException" ∨ E = "java/util/NoSuchElementException") ∧ TM (dC, dI) kA b g t.heap) (fun q => b ≤ q)) 1 6 (fun q => b ≤ q) := by
  refine vx_ofW (cc := cX3_lastFell) (maxL := 3) (ret := (some .int)) (by decide +kernel) rfl ?_
  intro p e s m args below meth c s₁ B hml hnt hv
  obtain ⟨rfl, hb0, hM, hK, hG, hE⟩ := hv
  have hx := B.exec
  have hb := B.bytes
  have hr := B.returns
  have hts := atoms_spec (ws := wzX3_lastFell) B.pre
  have hown : s.vm.findClass RX3 = some m.cls := findClass_of_methodNamed B.named
  have hlocks := B.notSynchronized
  have hT := hE.1
  have hN := hE.2.2.2.2.2.2.2.1
  have hS : va_S (fun q => b ≤ q) s.heap s.heap [] := va_S.rf
  have hl := lv_entry ([.ref o, .int site]) (n := 3) (Nat.le_of_ble_eq_true rfl)
  rw [lg_entry_eq]
  generalize (lg_sl ([.ref o, .int site]) ++ List.replicate (3 - (lg_sl ([.ref o, .int site])).length) Slot.unset).toArray = ls at hl ⊢
  have hl : lv_has ls 3 [(0, .ref o), (1, .int site)] := hl
  generalize ([.ref o, .int site] : List Value).toArray = args at hts ⊢
  refine lv_aload_n hx hb dX3_lastFell_0 rfl (lv_at hl 0 rfl) ?_
  refine lv_iload_n hx hb dX3_lastFell_1 rfl (lv_at hl 1 rfl) ?_
  obtain ⟨u1, u2, u3, u4, hP, hf⟩ := o_sno (i := 0) (q := o) hM (by omega)
  refine va_callq (va_runV (As := [.int site]) (rest := []) ⟨hx, hb, hml, hown, hts⟩ (rk_numberedSite l dC dI kA eD b g o site (by omega)) (cwV 1 hts gX3_lastFell_X3_numberedSite rfl rfl rfl (by decide +kernel) ⟨Nat.le_of_ble_eq_true rfl, Nat.le_of_ble_eq_true rfl⟩) ⟨fb_CX, va_recv hK hP (ci := 7) (q0 := 0) rfl rfl, fun U hU hW => ⟨rfl, CX.give hb0 hM hK hG hE hS hU hW⟩⟩ rfl rfl hl.1 rfl (lv_room (Nat.le_of_ble_eq_true rfl)) dX3_lastFell_2 ⟨(Nat.le_of_ble_eq_true rfl), (Nat.le_of_ble_eq_true rfl)⟩) hS (fun q _ h => h) (fun q h => h) (fun r5 u t H locs ht hvm hw6 hB hz1 hk1 hS => ?_)
  have hM := hB.back ht
  have hG := hB.2.2.2.1
  rcases hw6 with ⟨rfl, hn12⟩ | ⟨j7, a8, rfl, hs9, hj11, ho9, ht10⟩
  · skip
    refine lv_astore_nN (lv' := [(2, .null), (0, .ref o), (1, .int site)]) hx hb dX3_lastFell_5 rfl hl (by decide) rfl (fun ls hl => ?_)
    refine lv_aload_nN hx hb dX3_lastFell_6 rfl (lv_at hl 0 rfl) ?_
    refine lv_ifnonnullN hx hb dX3_lastFell_7 ?_
    obtain ⟨sa, hsa⟩ := hT.2.1 (211, "no such site") (by decide +kernel)
    exact vx_throwS (A := (fun q => b ≤ q)) (own := RX3) (cls := "java/lang/IndexOutOfBoundsException") (text := "no such site") (names := exN) hx hb hlt hown (by decide +kernel) (by decide +kernel) (hts (.classLink RX3 135 "java/lang/IndexOutOfBoundsException") (by decide +kernel)) (hts (.initialized "java/lang/IndexOutOfBoundsException") (by decide +kernel)) hsa (th_hat hT (fun w h => hts w (List.mem_cons_of_mem _ (List.mem_append_right _ h))) th_i4) (th_good th_i4) hT.2.2.2.1 hT.2.2.2.2 hS (hl.1.trans hml.symm) dX3_lastFell_10 dX3_lastFell_13 dX3_lastFell_14 dX3_lastFell_16 dX3_lastFell_19 (fun x h => (hnt x h).elim) (by decide) (Nat.le_of_ble_eq_true rfl) (Nat.le_of_ble_eq_true rfl) (Nat.le_of_ble_eq_true rfl) hlocks (fun t ha h1 h2 => ⟨(), trivial, ⟨(Or.inl rfl), hM.keep h2⟩, th_F hS h1 h2⟩) hS.2.2 (Nat.le_of_ble_eq_true rfl) (Nat.le_of_ble_eq_true rfl)
  · skip
    subst hs9
    have hl : lv_has ls 3 [(0, .ref o), (1, .int (nI j7))] := hl
    refine lv_astore_n (lv' := [(2, .ref a8), (0, .ref o), (1, .int (nI j7))]) hx hb dX3_lastFell_5 rfl hl (by decide) rfl (fun ls hl => ?_)
    refine lv_aload_n hx hb dX3_lastFell_6 rfl (lv_at hl 0 rfl) ?_
    refine lv_ifnonnull (tgt := 20) hx hb dX3_lastFell_7 (by decide) ?_
    refine lv_aload_n hx hb dX3_lastFell_20 rfl (lv_at hl 0 rfl) ?_
    obtain ⟨u13, u14, u15, u16, u17, u18, hP, hf⟩ := o_st (i := j7) (q := a8) hM (by omega)
    refine va_get (D := (dC, dI)) (ci := 5) (v := .int u14) (C := RX1) (T := TX1) (N := 15) hx hb hts (by decide +kernel) hown hK hP 0 rfl rfl 10 (by decide) (hts (.fieldLink RX3 216 "Snowpalace$Site" "lastFallen" "I") (by decide +kernel)) (fun _ h9 => h9) rfl dX3_lastFell_21 ?_
    refine lv_iconst (v := (-1)) hx hb dX3_lastFell_24 (by decide) ?_
    refine lv_icmp_ne (tgt := 38) hx hb dX3_lastFell_25 (by decide) (fun c19 => ?_) (fun c19 => ?_)
    · skip
      refine lv_aload_n hx hb dX3_lastFell_38 rfl (lv_at hl 0 rfl) ?_
      obtain ⟨u20, u21, u22, u23, u24, u25, hP, hf⟩ := o_st (i := j7) (q := a8) hM (by omega)
      refine va_get (D := (dC, dI)) (ci := 5) (v := .int u21) (C := RX1) (T := TX1) (N := 15) hx hb hts (by decide +kernel) hown hK hP 0 rfl rfl 10 (by decide) (hts (.fieldLink RX3 216 "Snowpalace$Site" "lastFallen" "I") (by decide +kernel)) (fun _ h9 => h9) rfl dX3_lastFell_39 ?_
      refine vx_ret ?_
      refine W.widen (k := 1) (n := 6) (Nat.le_of_ble_eq_true rfl) (Nat.le_of_ble_eq_true rfl) ?_
      exact W.iret (v := u21) hx hb hr (fun t ht hW => ⟨⟨u21, (), rfl, trivial, CX.give hb0 hM hK hG hE hS ht hW⟩, hS.F ht⟩) hS.2.2 dX3_lastFell_42
    · skip
      obtain ⟨sa, hsa⟩ := hT.2.1 (219, "none fell") (by decide +kernel)
      exact rt_throwSX (A := (fun q => b ≤ q)) (own := RX3) (cls := "java/util/NoSuchElementException") (text := "none fell") (names := exN) (ix := 13) (rx := prog_38_method_4_code) hx hb hlt rx13_0 rx13_1 rx13_2 rx13_5 hown (by decide +kernel) (by decide +kernel) (hts (.classLink RX3 180 "java/util/NoSuchElementException") (by decide +kernel)) hE.2.2.2.2.2.2.2.2.ini hsa hE.2.2.2.2.2.2.2.2.hat nse_good hT.2.2.2.1 hT.2.2.2.2 hS (hl.1.trans hml.symm) dX3_lastFell_28 dX3_lastFell_31 dX3_lastFell_32 dX3_lastFell_34 dX3_lastFell_37 (fun x h => (hnt x h).elim) (by decide) (Nat.le_of_ble_eq_true rfl) (Nat.le_of_ble_eq_true rfl) (Nat.le_of_ble_eq_true rfl) hlocks (fun t ha h1 h2 => ⟨(), trivial, ⟨(Or.inr rfl), hM.keep h2⟩, th_F hS h1 h2⟩) hS.2.2 (Nat.le_of_ble_eq_true rfl) (Nat.le_of_ble_eq_true rfl)

set_option maxHeartbeats 4000000 in
set_option maxRecDepth 100000 in
theorem rf_hours (l : Launch) (hlt : l.stackTraces = false) (dC : Nat → ClassId) (dI : Nat → Nat → Nat) (kA : Nat → ClassId) (eD b : Nat) (g : Gh) (o : Nat) (site : Int32) (hto : tg g o = 1)  : vx_Met l yX3_hours wsX3_hours ({ frames := 6, cells := 1, slots := 6, locals := 82 }) (va_Pc [.ref o, .int site] (CX (dC, dI) kA eD b g)) (va_Qi (fun (r : Int32) (u : Unit) => True) (fun (u : Unit) t => CX (dC, dI) kA eD b g t) (fun q => b ≤ q)) (vx_X (fun _ : Unit => True) (fun E _ t => (E = "java/lang/IndexOutOfBoundsException") ∧ TM (dC, dI) kA b g t.heap) (fun q => b ≤ q)) 1 6 (fun q => b ≤ q) := by
  refine vx_ofW (cc := cX3_hours) (maxL := 3) (ret := (some .int)) (by decide +kernel) rfl ?_
  intro p e s m args below meth c s₁ B hml hnt hv
  obtain ⟨rfl, hb0, hM, hK, hG, hE⟩ := hv
  have hx := B.exec
  have hb := B.bytes
  have hr := B.returns
  have hts := atoms_spec (ws := wsX3_hours) B.pre
  have hown : s.vm.findClass RX3 = some m.cls := findClass_of_methodNamed B.named
  have hlocks := B.notSynchronized
  have hT := hE.1
  have hN := hE.2.2.2.2.2.2.2.1
  have hS : va_S (fun q => b ≤ q) s.heap s.heap [] := va_S.rf
  have hl := lv_entry ([.ref o, .int site]) (n := 3) (Nat.le_of_ble_eq_true rfl)
  rw [lg_entry_eq]
  generalize (lg_sl ([.ref o, .int site]) ++ List.replicate (3 - (lg_sl ([.ref o, .int site])).length) Slot.unset).toArray = ls at hl ⊢
  have hl : lv_has ls 3 [(0, .ref o), (1, .int site)] := hl
  generalize ([.ref o, .int site] : List Value).toArray = args at hts ⊢
  refine lv_aload_n hx hb dX3_hours_0 rfl (lv_at hl 0 rfl) ?_
  refine lv_iload_n hx hb dX3_hours_1 rfl (lv_at hl 1 rfl) ?_
  obtain ⟨u1, u2, u3, u4, hP, hf⟩ := o_sno (i := 0) (q := o) hM (by omega)
  refine va_callq (va_runV (As := [.int site]) (rest := []) ⟨hx, hb, hml, hown, hts⟩ (rk_numberedSite l dC dI kA eD b g o site (by omega)) (cwV 1 hts gX3_hours_X3_numberedSite rfl rfl rfl (by decide +kernel) ⟨Nat.le_of_ble_eq_true rfl, Nat.le_of_ble_eq_true rfl⟩) ⟨fb_CX, va_recv hK hP (ci := 7) (q0 := 0) rfl rfl, fun U hU hW => ⟨rfl, CX.give hb0 hM hK hG hE hS hU hW⟩⟩ rfl rfl hl.1 rfl (lv_room (Nat.le_of_ble_eq_true rfl)) dX3_hours_2 ⟨(Nat.le_of_ble_eq_true rfl), (Nat.le_of_ble_eq_true rfl)⟩) hS (fun q _ h => h) (fun q h => h) (fun r5 u t H locs ht hvm hw6 hB hz1 hk1 hS => ?_)
  have hM := hB.back ht
  have hG := hB.2.2.2.1
  rcases hw6 with ⟨rfl, hn12⟩ | ⟨j7, a8, rfl, hs9, hj11, ho9, ht10⟩
  · skip
    refine lv_astore_nN (lv' := [(2, .null), (0, .ref o), (1, .int site)]) hx hb dX3_hours_5 rfl hl (by decide) rfl (fun ls hl => ?_)
    refine lv_aload_nN hx hb dX3_hours_6 rfl (lv_at hl 0 rfl) ?_
    refine lv_ifnonnullN hx hb dX3_hours_7 ?_
    obtain ⟨sa, hsa⟩ := hT.2.1 (211, "no such site") (by decide +kernel)
    exact vx_throwS (A := (fun q => b ≤ q)) (own := RX3) (cls := "java/lang/IndexOutOfBoundsException") (text := "no such site") (names := exN) hx hb hlt hown (by decide +kernel) (by decide +kernel) (hts (.classLink RX3 135 "java/lang/IndexOutOfBoundsException") (by decide +kernel)) (hts (.initialized "java/lang/IndexOutOfBoundsException") (by decide +kernel)) hsa (th_hat hT (fun w h => hts w (List.mem_cons_of_mem _ (List.mem_append_right _ h))) th_i4) (th_good th_i4) hT.2.2.2.1 hT.2.2.2.2 hS (hl.1.trans hml.symm) dX3_hours_10 dX3_hours_13 dX3_hours_14 dX3_hours_16 dX3_hours_19 (fun x h => (hnt x h).elim) (by decide) (Nat.le_of_ble_eq_true rfl) (Nat.le_of_ble_eq_true rfl) (Nat.le_of_ble_eq_true rfl) hlocks (fun t ha h1 h2 => ⟨(), trivial, ⟨rfl, hM.keep h2⟩, th_F hS h1 h2⟩) hS.2.2 (Nat.le_of_ble_eq_true rfl) (Nat.le_of_ble_eq_true rfl)
  · skip
    subst hs9
    have hl : lv_has ls 3 [(0, .ref o), (1, .int (nI j7))] := hl
    refine lv_astore_n (lv' := [(2, .ref a8), (0, .ref o), (1, .int (nI j7))]) hx hb dX3_hours_5 rfl hl (by decide) rfl (fun ls hl => ?_)
    refine lv_aload_n hx hb dX3_hours_6 rfl (lv_at hl 0 rfl) ?_
    refine lv_ifnonnull (tgt := 20) hx hb dX3_hours_7 (by decide) ?_
    refine lv_bipush (v := 60) hx hb dX3_hours_20 (by decide) ?_
    refine lv_aload_n hx hb dX3_hours_22 rfl (lv_at hl 0 rfl) ?_
    obtain ⟨u13, u14, u15, u16, u17, u18, hP, hf⟩ := o_st (i := j7) (q := a8) hM (by omega)
    refine va_get (D := (dC, dI)) (ci := 5) (v := .int u16) (C := RX1) (T := TX1) (N := 15) hx hb hts (by decide +kernel) hown hK hP 0 rfl rfl 12 (by decide) (hts (.fieldLink RX3 274 "Snowpalace$Site" "carvedHours" "I") (by decide +kernel)) (fun _ h9 => h9) rfl dX3_hours_23 ?_
    refine lv_isub hx hb dX3_hours_26 ?_
    refine lv_topi (fun v19 e20 => ?_)
    refine vx_ret ?_
    refine W.widen (k := 1) (n := 6) (Nat.le_of_ble_eq_true rfl) (Nat.le_of_ble_eq_true rfl) ?_
    exact W.iret (v := v19) hx hb hr (fun t ht hW => ⟨⟨v19, (), rfl, trivial, CX.give hb0 hM hK hG hE hS ht hW⟩, hS.F ht⟩) hS.2.2 dX3_hours_27
