set_option maxHeartbeats 4000000 in
set_option maxRecDepth 100000 in
theorem rf_ice (l : Launch) (hlt : l.stackTraces = false) (dC : Nat → ClassId) (dI : Nat → Nat → Nat) (kA : Nat → ClassId) (eD b : Nat) (g : Gh) (o : Nat) (fi : Int32) (hto : tg g o = 1)  : vx_Met l yX3_ice wsX3_ice ({ frames := 6, cells := 1, slots := 6, locals := 82 }) (va_Pc [.ref o, .int fi] (CX (dC, dI) kA eD b g)) (va_Qi (fun (r : Int32) (u : Unit) => True) (fun (u : Unit) t => CX (dC, dI) kA eD b g t) (fun q => b ≤ q)) (vx_X (fun _ : Unit => True) (fun E _ t => (E = "java/lang/IllegalArgumentException") ∧ TM (dC, dI) kA b g t.heap) (fun q => b ≤ q)) 1 6 (fun q => b ≤ q) := by
  refine vx_ofW (cc := cX3_ice) (maxL := 2) (ret := (some .int)) (by decide +kernel) rfl ?_
  intro p e s m args below meth c s₁ B hml hnt hv
  obtain ⟨rfl, hb0, hM, hK, hG, hE⟩ := hv
  have hx := B.exec
  have hb := B.bytes
  have hr := B.returns
  have hts := atoms_spec (ws := wsX3_ice) B.pre
  have hown : s.vm.findClass RX3 = some m.cls := findClass_of_methodNamed B.named
  have hlocks := B.notSynchronized
  have hT := hE.1
  have hN := hE.2.2.2.2.2.2.2.1
  have hS : va_S (fun q => b ≤ q) s.heap s.heap [] := va_S.rf
  have hl := lv_entry ([.ref o, .int fi]) (n := 2) (Nat.le_of_ble_eq_true rfl)
  rw [lg_entry_eq]
  generalize (lg_sl ([.ref o, .int fi]) ++ List.replicate (2 - (lg_sl ([.ref o, .int fi])).length) Slot.unset).toArray = ls at hl ⊢
  have hl : lv_has ls 2 [(0, .ref o), (1, .int fi)] := hl
  generalize ([.ref o, .int fi] : List Value).toArray = args at hts ⊢
  refine lv_iload_n hx hb dX3_ice_0 rfl (lv_at hl 1 rfl) ?_
  refine lv_iconst (v := 0) hx hb dX3_ice_1 (by decide) ?_
  refine lv_iconst (v := 3) hx hb dX3_ice_2 (by decide) ?_
  refine va_calli (va_runS (As := [.int fi, .int 0, .int 3]) (rest := []) ⟨hx, hb, hml, hown, hts⟩ (rk_isWithin l fi 0 3 (0) (3) (by decide) (by decide)) (va_cwS 3 hts gX3_ice_X3_isWithin rfl rfl rfl (by decide +kernel) ⟨Nat.le_of_ble_eq_true rfl, Nat.le_of_ble_eq_true rfl⟩) ⟨fun a U g mk q => q, fun U hU hW => ⟨rfl, trivial⟩⟩ rfl rfl hl.1 rfl (lv_room (Nat.le_of_ble_eq_true rfl)) dX3_ice_3 ⟨(Nat.le_of_ble_eq_true rfl), (Nat.le_of_ble_eq_true rfl)⟩) hS (fun q _ h => h.elim) (fun q h => h.elim) (fun r1 u t H locs ht hvm hw2 hB hz1 hk1 hS => ?_)
  have hM := hM.keep (fun p hp => hk1 p hp (fun z => z))
  have hw2 : r1 = bI ((0 : Int) ≤ fi.toInt ∧ fi.toInt ≤ (3 : Int)) := hw2
  refine lv_if_ne (tgt := 19) hx hb dX3_ice_6 (by decide) (fun c3 => ?_) (fun c3 => ?_)
  · skip
    have g4 : (0 : Int) ≤ fi.toInt ∧ fi.toInt ≤ (3 : Int) := bI_t hw2 c3
    have zg4 : r1 = 1 := bI_t1 hw2 g4
    refine lv_aload_n hx hb dX3_ice_19 rfl (lv_at hl 0 rfl) ?_
    obtain ⟨u5, u6, u7, u8, hP, hf⟩ := o_sno (i := 0) (q := o) hM (by omega)
    refine va_get (D := (dC, dI)) (ci := 7) (v := .ref (pF g o 1)) (C := RX3) (T := TX3) (N := 10) hx hb hts (by decide +kernel) hown hK hP 0 rfl rfl 1 (by decide) (hts (.fieldLink RX3 19 "Snowpalace" "river" "LSnowpalace$River;") (by decide +kernel)) (fun _ h9 => h9) rfl dX3_ice_20 ?_
    have ht9 : tg g (pF g o 1) = 3 := hf.2.1
    obtain ⟨hP, hf⟩ := o_riv (i := 0) (q := (pF g o 1)) hM (by omega)
    refine va_get (D := (dC, dI)) (ci := 4) (v := .ref (pF g (pF g o 1) 0)) (C := RX0) (T := TX0) (N := 3) hx hb hts (by decide +kernel) hown hK hP 0 rfl rfl 0 (by decide) (hts (.fieldLink RX3 102 "Snowpalace$River" "thickness" "[I") (by decide +kernel)) (fun _ h9 => h9) rfl dX3_ice_23 ?_
    have ht10 : tg g (pF g (pF g o 1) 0) = 9 := hf.1
    refine lv_iload_n hx hb dX3_ice_26 rfl (lv_at hl 1 rfl) ?_
    obtain ⟨hP, hf⟩ := o_rth (i := 0) (q := (pF g (pF g o 1) 0)) hM (by omega)
    refine va_iald (D := (dC, dI)) hx hb hK hP 0 0 rfl rfl (inI (by omega) (by omega)) dX3_ice_27 ?_
    refine lv_topi (fun v11 e12 => ?_)
    subst e12
    refine vx_ret ?_
    refine W.widen (k := 1) (n := 6) (Nat.le_of_ble_eq_true rfl) (Nat.le_of_ble_eq_true rfl) ?_
    exact W.iret (v := (pI g (pF g (pF g o 1) 0) ((fi : Int32).toNatClampNeg))) hx hb hr (fun t ht hW => ⟨⟨(pI g (pF g (pF g o 1) 0) ((fi : Int32).toNatClampNeg)), (), rfl, trivial, CX.give hb0 hM hK hG hE hS ht hW⟩, hS.F ht⟩) hS.2.2 dX3_ice_28
  · skip
    have g13 : ¬ ((0 : Int) ≤ fi.toInt ∧ fi.toInt ≤ (3 : Int)) := bI_f hw2 c3
    have zg13 : r1 = 0 := bI_f0 hw2 g13
    obtain ⟨sa, hsa⟩ := hT.2.1 (100, "no such field") (by decide +kernel)
    exact vx_throwS (A := (fun q => b ≤ q)) (own := RX3) (cls := "java/lang/IllegalArgumentException") (text := "no such field") (names := exN) hx hb hlt hown (by decide +kernel) (by decide +kernel) (hts (.classLink RX3 56 "java/lang/IllegalArgumentException") (by decide +kernel)) (hts (.initialized "java/lang/IllegalArgumentException") (by decide +kernel)) hsa (th_hat hT (fun w h => hts w (List.mem_cons_of_mem _ (List.mem_append_left _ (List.mem_append_right _ h)))) th_i1) (th_good th_i1) hT.2.2.2.1 hT.2.2.2.2 hS (hl.1.trans hml.symm) dX3_ice_9 dX3_ice_12 dX3_ice_13 dX3_ice_15 dX3_ice_18 (fun x h => (hnt x h).elim) (by decide) (Nat.le_of_ble_eq_true rfl) (Nat.le_of_ble_eq_true rfl) (Nat.le_of_ble_eq_true rfl) hlocks (fun t ha h1 h2 => ⟨(), trivial, ⟨rfl, hM.keep h2⟩, th_F hS h1 h2⟩) hS.2.2 (Nat.le_of_ble_eq_true rfl) (Nat.le_of_ble_eq_true rfl)

set_option maxHeartbeats 4000000 in
set_option maxRecDepth 100000 in
theorem rf_clear (l : Launch) (hlt : l.stackTraces = false) (dC : Nat → ClassId) (dI : Nat → Nat → Nat) (kA : Nat → ClassId) (eD b : Nat) (g : Gh) (o : Nat) (fi : Int32) (hto : tg g o = 1)  : vx_Met l yX3_clear wsX3_clear ({ frames := 6, cells := 1, slots := 6, locals := 82 }) (va_Pc [.ref o, .int fi] (CX (dC, dI) kA eD b g)) (va_Qi (fun (r : Int32) (u : Unit) => True) (fun (u : Unit) t => CX (dC, dI) kA eD b g t) (fun q => b ≤ q)) (vx_X (fun _ : Unit => True) (fun E _ t => (E = "java/lang/IllegalArgumentException") ∧ TM (dC, dI) kA b g t.heap) (fun q => b ≤ q)) 1 6 (fun q => b ≤ q) := by
  refine vx_ofW (cc := cX3_clear) (maxL := 2) (ret := (some .int)) (by decide +kernel) rfl ?_
  intro p e s m args below meth c s₁ B hml hnt hv
  obtain ⟨rfl, hb0, hM, hK, hG, hE⟩ := hv
  have hx := B.exec
  have hb := B.bytes
  have hr := B.returns
  have hts := atoms_spec (ws := wsX3_clear) B.pre
  have hown : s.vm.findClass RX3 = some m.cls := findClass_of_methodNamed B.named
  have hlocks := B.notSynchronized
  have hT := hE.1
  have hN := hE.2.2.2.2.2.2.2.1
  have hS : va_S (fun q => b ≤ q) s.heap s.heap [] := va_S.rf
  have hl := lv_entry ([.ref o, .int fi]) (n := 2) (Nat.le_of_ble_eq_true rfl)
  rw [lg_entry_eq]
  generalize (lg_sl ([.ref o, .int fi]) ++ List.replicate (2 - (lg_sl ([.ref o, .int fi])).length) Slot.unset).toArray = ls at hl ⊢
  have hl : lv_has ls 2 [(0, .ref o), (1, .int fi)] := hl
  generalize ([.ref o, .int fi] : List Value).toArray = args at hts ⊢
  refine lv_iload_n hx hb dX3_clear_0 rfl (lv_at hl 1 rfl) ?_
  refine lv_iconst (v := 0) hx hb dX3_clear_1 (by decide) ?_
  refine lv_iconst (v := 3) hx hb dX3_clear_2 (by decide) ?_
  refine va_calli (va_runS (As := [.int fi, .int 0, .int 3]) (rest := []) ⟨hx, hb, hml, hown, hts⟩ (rk_isWithin l fi 0 3 (0) (3) (by decide) (by decide)) (va_cwS 3 hts gX3_clear_X3_isWithin rfl rfl rfl (by decide +kernel) ⟨Nat.le_of_ble_eq_true rfl, Nat.le_of_ble_eq_true rfl⟩) ⟨fun a U g mk q => q, fun U hU hW => ⟨rfl, trivial⟩⟩ rfl rfl hl.1 rfl (lv_room (Nat.le_of_ble_eq_true rfl)) dX3_clear_3 ⟨(Nat.le_of_ble_eq_true rfl), (Nat.le_of_ble_eq_true rfl)⟩) hS (fun q _ h => h.elim) (fun q h => h.elim) (fun r1 u t H locs ht hvm hw2 hB hz1 hk1 hS => ?_)
  have hM := hM.keep (fun p hp => hk1 p hp (fun z => z))
  have hw2 : r1 = bI ((0 : Int) ≤ fi.toInt ∧ fi.toInt ≤ (3 : Int)) := hw2
  refine lv_if_ne (tgt := 19) hx hb dX3_clear_6 (by decide) (fun c3 => ?_) (fun c3 => ?_)
  · skip
    have g4 : (0 : Int) ≤ fi.toInt ∧ fi.toInt ≤ (3 : Int) := bI_t hw2 c3
    have zg4 : r1 = 1 := bI_t1 hw2 g4
    refine lv_aload_n hx hb dX3_clear_19 rfl (lv_at hl 0 rfl) ?_
    obtain ⟨u5, u6, u7, u8, hP, hf⟩ := o_sno (i := 0) (q := o) hM (by omega)
    refine va_get (D := (dC, dI)) (ci := 7) (v := .ref (pF g o 1)) (C := RX3) (T := TX3) (N := 10) hx hb hts (by decide +kernel) hown hK hP 0 rfl rfl 1 (by decide) (hts (.fieldLink RX3 19 "Snowpalace" "river" "LSnowpalace$River;") (by decide +kernel)) (fun _ h9 => h9) rfl dX3_clear_20 ?_
    have ht9 : tg g (pF g o 1) = 3 := hf.2.1
    obtain ⟨hP, hf⟩ := o_riv (i := 0) (q := (pF g o 1)) hM (by omega)
    refine va_get (D := (dC, dI)) (ci := 4) (v := .ref (pF g (pF g o 1) 1)) (C := RX0) (T := TX0) (N := 3) hx hb hts (by decide +kernel) hown hK hP 0 rfl rfl 1 (by decide) (hts (.fieldLink RX3 105 "Snowpalace$River" "clearPart" "[I") (by decide +kernel)) (fun _ h9 => h9) rfl dX3_clear_23 ?_
    have ht10 : tg g (pF g (pF g o 1) 1) = 10 := hf.2.1
    refine lv_iload_n hx hb dX3_clear_26 rfl (lv_at hl 1 rfl) ?_
    obtain ⟨hP, hf⟩ := o_rcl (i := 0) (q := (pF g (pF g o 1) 1)) hM (by omega)
    refine va_iald (D := (dC, dI)) hx hb hK hP 0 0 rfl rfl (inI (by omega) (by omega)) dX3_clear_27 ?_
    refine lv_topi (fun v11 e12 => ?_)
    subst e12
    refine vx_ret ?_
    refine W.widen (k := 1) (n := 6) (Nat.le_of_ble_eq_true rfl) (Nat.le_of_ble_eq_true rfl) ?_
    exact W.iret (v := (pI g (pF g (pF g o 1) 1) ((fi : Int32).toNatClampNeg))) hx hb hr (fun t ht hW => ⟨⟨(pI g (pF g (pF g o 1) 1) ((fi : Int32).toNatClampNeg)), (), rfl, trivial, CX.give hb0 hM hK hG hE hS ht hW⟩, hS.F ht⟩) hS.2.2 dX3_clear_28
  · skip
    have g13 : ¬ ((0 : Int) ≤ fi.toInt ∧ fi.toInt ≤ (3 : Int)) := bI_f hw2 c3
    have zg13 : r1 = 0 := bI_f0 hw2 g13
    obtain ⟨sa, hsa⟩ := hT.2.1 (100, "no such field") (by decide +kernel)
    exact vx_throwS (A := (fun q => b ≤ q)) (own := RX3) (cls := "java/lang/IllegalArgumentException") (text := "no such field") (names := exN) hx hb hlt hown (by decide +kernel) (by decide +kernel) (hts (.classLink RX3 56 "java/lang/IllegalArgumentException") (by decide +kernel)) (hts (.initialized "java/lang/IllegalArgumentException") (by decide +kernel)) hsa (th_hat hT (fun w h => hts w (List.mem_cons_of_mem _ (List.mem_append_left _ (List.mem_append_right _ h)))) th_i1) (th_good th_i1) hT.2.2.2.1 hT.2.2.2.2 hS (hl.1.trans hml.symm) dX3_clear_9 dX3_clear_12 dX3_clear_13 dX3_clear_15 dX3_clear_18 (fun x h => (hnt x h).elim) (by decide) (Nat.le_of_ble_eq_true rfl) (Nat.le_of_ble_eq_true rfl) (Nat.le_of_ble_eq_true rfl) hlocks (fun t ha h1 h2 => ⟨(), trivial, ⟨rfl, hM.keep h2⟩, th_F hS h1 h2⟩) hS.2.2 (Nat.le_of_ble_eq_true rfl) (Nat.le_of_ble_eq_true rfl)

set_option maxHeartbeats 4000000 in
set_option maxRecDepth 100000 in
theorem rf_bears (l : Launch) (hlt : l.stackTraces = false) (dC : Nat → ClassId) (dI : Nat → Nat → Nat) (kA : Nat → ClassId) (eD b : Nat) (g : Gh) (o : Nat) (fi : Int32) (hto : tg g o = 1)  : vx_Met l yX3_bears wsX3_bears ({ frames := 6, cells := 1, slots := 6, locals := 82 }) (va_Pc [.ref o, .int fi] (CX (dC, dI) kA eD b g)) (va_Qi (fun (r : Int32) (u : Unit) => r = 0 ∨ r = 1) (fun (u : Unit) t => CX (dC, dI) kA eD b g t) (fun q => b ≤ q)) (vx_X (fun _ : Unit => True) (fun E _ t => (E = "java/lang/IllegalArgumentException") ∧ TM (dC, dI) kA b g t.heap) (fun q => b ≤ q)) 1 6 (fun q => b ≤ q) := by
  refine vx_ofW (cc := cX3_bears) (maxL := 2) (ret := (some .boolean)) (by decide +kernel) rfl ?_
  intro p e s m args below meth c s₁ B hml hnt hv
  obtain ⟨rfl, hb0, hM, hK, hG, hE⟩ := hv
  have hx := B.exec
  have hb := B.bytes
  have hr := B.returns
  have hts := atoms_spec (ws := wsX3_bears) B.pre
  have hown : s.vm.findClass RX3 = some m.cls := findClass_of_methodNamed B.named
  have hlocks := B.notSynchronized
  have hT := hE.1
  have hN := hE.2.2.2.2.2.2.2.1
  have hS : va_S (fun q => b ≤ q) s.heap s.heap [] := va_S.rf
  have hl := lv_entry ([.ref o, .int fi]) (n := 2) (Nat.le_of_ble_eq_true rfl)
  rw [lg_entry_eq]
  generalize (lg_sl ([.ref o, .int fi]) ++ List.replicate (2 - (lg_sl ([.ref o, .int fi])).length) Slot.unset).toArray = ls at hl ⊢
  have hl : lv_has ls 2 [(0, .ref o), (1, .int fi)] := hl
  generalize ([.ref o, .int fi] : List Value).toArray = args at hts ⊢
  refine lv_iload_n hx hb dX3_bears_0 rfl (lv_at hl 1 rfl) ?_
  refine lv_iconst (v := 0) hx hb dX3_bears_1 (by decide) ?_
  refine lv_iconst (v := 3) hx hb dX3_bears_2 (by decide) ?_
  refine va_calli (va_runS (As := [.int fi, .int 0, .int 3]) (rest := []) ⟨hx, hb, hml, hown, hts⟩ (rk_isWithin l fi 0 3 (0) (3) (by decide) (by decide)) (va_cwS 3 hts gX3_bears_X3_isWithin rfl rfl rfl (by decide +kernel) ⟨Nat.le_of_ble_eq_true rfl, Nat.le_of_ble_eq_true rfl⟩) ⟨fun a U g mk q => q, fun U hU hW => ⟨rfl, trivial⟩⟩ rfl rfl hl.1 rfl (lv_room (Nat.le_of_ble_eq_true rfl)) dX3_bears_3 ⟨(Nat.le_of_ble_eq_true rfl), (Nat.le_of_ble_eq_true rfl)⟩) hS (fun q _ h => h.elim) (fun q h => h.elim) (fun r1 u t H locs ht hvm hw2 hB hz1 hk1 hS => ?_)
  have hM := hM.keep (fun p hp => hk1 p hp (fun z => z))
  have hw2 : r1 = bI ((0 : Int) ≤ fi.toInt ∧ fi.toInt ≤ (3 : Int)) := hw2
  refine lv_if_ne (tgt := 19) hx hb dX3_bears_6 (by decide) (fun c3 => ?_) (fun c3 => ?_)
  · skip
    have g4 : (0 : Int) ≤ fi.toInt ∧ fi.toInt ≤ (3 : Int) := bI_t hw2 c3
    have zg4 : r1 = 1 := bI_t1 hw2 g4
    refine lv_aload_n hx hb dX3_bears_19 rfl (lv_at hl 0 rfl) ?_
    obtain ⟨u5, u6, u7, u8, hP, hf⟩ := o_sno (i := 0) (q := o) hM (by omega)
    refine va_get (D := (dC, dI)) (ci := 7) (v := .ref (pF g o 1)) (C := RX3) (T := TX3) (N := 10) hx hb hts (by decide +kernel) hown hK hP 0 rfl rfl 1 (by decide) (hts (.fieldLink RX3 19 "Snowpalace" "river" "LSnowpalace$River;") (by decide +kernel)) (fun _ h9 => h9) rfl dX3_bears_20 ?_
    have ht9 : tg g (pF g o 1) = 3 := hf.2.1
    refine lv_iload_n hx hb dX3_bears_23 rfl (lv_at hl 1 rfl) ?_
    obtain ⟨hP, hf⟩ := o_riv (i := 0) (q := (pF g o 1)) hM (by omega)
    refine va_calli (va_runV (As := [.int fi]) (rest := []) ⟨hx, hb, hml, hown, hts⟩ (rk_bearsLorries l dC dI kA eD b g (pF g o 1) fi (by omega)) (cwV 1 hts gX3_bears_X0_bearsLorries rfl rfl rfl (by decide +kernel) ⟨Nat.le_of_ble_eq_true rfl, Nat.le_of_ble_eq_true rfl⟩) ⟨fb_CX, va_recv hK hP (ci := 4) (q0 := 0) rfl rfl, fun U hU hW => ⟨rfl, CX.give hb0 hM hK hG hE hS hU hW⟩⟩ rfl rfl hl.1 rfl (lv_room (Nat.le_of_ble_eq_true rfl)) dX3_bears_24 ⟨(Nat.le_of_ble_eq_true rfl), (Nat.le_of_ble_eq_true rfl)⟩) hS (fun q _ h => h) (fun q h => h) (fun r10 u t H locs ht hvm hw11 hB hz1 hk1 hS => ?_)
    have hM := hB.back ht
    have hG := hB.2.2.2.1
    refine vx_ret ?_
    refine W.widen (k := 1) (n := 6) (Nat.le_of_ble_eq_true rfl) (Nat.le_of_ble_eq_true rfl) ?_
    exact W.zret (v := r10) (ty := .boolean) hx hb hr (z01n hw11) (fun t ht hW => ⟨⟨r10, (), rfl, hw11, CX.give hb0 hM hK hG hE hS ht hW⟩, hS.F ht⟩) hS.2.2 dX3_bears_27
  · skip
    have g12 : ¬ ((0 : Int) ≤ fi.toInt ∧ fi.toInt ≤ (3 : Int)) := bI_f hw2 c3
    have zg12 : r1 = 0 := bI_f0 hw2 g12
    obtain ⟨sa, hsa⟩ := hT.2.1 (100, "no such field") (by decide +kernel)
    exact vx_throwS (A := (fun q => b ≤ q)) (own := RX3) (cls := "java/lang/IllegalArgumentException") (text := "no such field") (names := exN) hx hb hlt hown (by decide +kernel) (by decide +kernel) (hts (.classLink RX3 56 "java/lang/IllegalArgumentException") (by decide +kernel)) (hts (.initialized "java/lang/IllegalArgumentException") (by decide +kernel)) hsa (th_hat hT (fun w h => hts w (List.mem_cons_of_mem _ (List.mem_append_left _ (List.mem_append_right _ h)))) th_i1) (th_good th_i1) hT.2.2.2.1 hT.2.2.2.2 hS (hl.1.trans hml.symm) dX3_bears_9 dX3_bears_12 dX3_bears_13 dX3_bears_15 dX3_bears_18 (fun x h => (hnt x h).elim) (by decide) (Nat.le_of_ble_eq_true rfl) (Nat.le_of_ble_eq_true rfl) (Nat.le_of_ble_eq_true rfl) hlocks (fun t ha h1 h2 => ⟨(), trivial, ⟨rfl, hM.keep h2⟩, th_F hS h1 h2⟩) hS.2.2 (Nat.le_of_ble_eq_true rfl) (Nat.le_of_ble_eq_true rfl)

set_option maxHeartbeats 4000000 in
set_option maxRecDepth 100000 in
theorem rf_cut (l : Launch) (hlt : l.stackTraces = false) (dC : Nat → ClassId) (dI : Nat → Nat → Nat) (kA : Nat → ClassId) (eD b : Nat) (g : Gh) (o : Nat) (fi : Int32) (ma : Int32) (hto : tg g o = 1)  : vx_Met l yX3_cut wsX3_cut ({ frames := 6, cells := 1, slots := 6, locals := 82 }) (va_Pc [.ref o, .int fi, .int ma] (CX (dC, dI) kA eD b g)) (va_Qi (fun (r : Int32) (u : Unit) => True) (fun (u : Unit) t => CX (dC, dI) kA eD b g t) (fun q => b ≤ q)) (vx_X (fun _ : Unit => True) (fun E _ t => (E = "java/lang/IllegalArgumentException" ∨ E = "java/lang/UnsupportedOperationException" ∨ E = "java/lang/IllegalStateException") ∧ TM (dC, dI) kA b g t.heap) (fun q => b ≤ q)) 1 6 (fun q => b ≤ q) := by
  refine vx_ofW (cc := cX3_cut) (maxL := 3) (ret := (some .int)) (by decide +kernel) rfl ?_
  intro p e s m args below meth c s₁ B hml hnt hv
  obtain ⟨rfl, hb0, hM, hK, hG, hE⟩ := hv
  have hx := B.exec
  have hb := B.bytes
  have hr := B.returns
  have hts := atoms_spec (ws := wsX3_cut) B.pre
  have hown : s.vm.findClass RX3 = some m.cls := findClass_of_methodNamed B.named
  have hlocks := B.notSynchronized
  have hT := hE.1
  have hN := hE.2.2.2.2.2.2.2.1
  have hS : va_S (fun q => b ≤ q) s.heap s.heap [] := va_S.rf
  have hl := lv_entry ([.ref o, .int fi, .int ma]) (n := 3) (Nat.le_of_ble_eq_true rfl)
  rw [lg_entry_eq]
  generalize (lg_sl ([.ref o, .int fi, .int ma]) ++ List.replicate (3 - (lg_sl ([.ref o, .int fi, .int ma])).length) Slot.unset).toArray = ls at hl ⊢
  have hl : lv_has ls 3 [(0, .ref o), (1, .int fi), (2, .int ma)] := hl
  generalize ([.ref o, .int fi, .int ma] : List Value).toArray = args at hts ⊢
  refine W.q (fun Q hQ => ?_)
  refine lv_iload_n hx hb dX3_cut_0 rfl (lv_at hl 1 rfl) ?_
  refine lv_iconst (v := 0) hx hb dX3_cut_1 (by decide) ?_
  refine lv_iconst (v := 3) hx hb dX3_cut_2 (by decide) ?_
  refine va_calli (va_runS (As := [.int fi, .int 0, .int 3]) (rest := []) ⟨hx, hb, hml, hown, hts⟩ (rk_isWithin l fi 0 3 (0) (3) (by decide) (by decide)) (va_cwS 3 hts gX3_cut_X3_isWithin rfl rfl rfl (by decide +kernel) ⟨Nat.le_of_ble_eq_true rfl, Nat.le_of_ble_eq_true rfl⟩) ⟨fun a U g mk q => q, fun U hU hW => ⟨rfl, trivial⟩⟩ rfl rfl hl.1 rfl (lv_room (Nat.le_of_ble_eq_true rfl)) dX3_cut_3 ⟨(Nat.le_of_ble_eq_true rfl), (Nat.le_of_ble_eq_true rfl)⟩) hS (fun q _ h => h.elim) (fun q h => h.elim) (fun r1 u t H locs ht hvm hw2 hB hz1 hk1 hS => ?_)
  have hM := hM.keep (fun p hp => hk1 p hp (fun z => z))
  have hw2 : r1 = bI ((0 : Int) ≤ fi.toInt ∧ fi.toInt ≤ (3 : Int)) := hw2
  have jn3 : ∀  (H : Heap) (locs : List Loc) (ls : Array Slot), TM (dC, dI) kA b g H → va_S (fun q => b ≤ q) s.heap H locs → lv_has ls 3 [(0, .ref o), (1, .int fi), (2, .int ma)] → W p l e (headSpec wsX3_cut ({ frames := 6, cells := 1, slots := 6, locals := 82 })).room s m args below meth c H locs 0 0 Q (F0 m 19 ls []) := by
    intro H locs ls hM hS hl
    obtain ⟨sa, hsa⟩ := hT.2.1 (58, "a number is out of range") (by decide +kernel)
    subst hQ
    exact vx_throwS (A := (fun q => b ≤ q)) (own := RX3) (cls := "java/lang/IllegalArgumentException") (text := "a number is out of range") (names := exN) hx hb hlt hown (by decide +kernel) (by decide +kernel) (hts (.classLink RX3 56 "java/lang/IllegalArgumentException") (by decide +kernel)) (hts (.initialized "java/lang/IllegalArgumentException") (by decide +kernel)) hsa (th_hat hT (fun w h => hts w (List.mem_cons_of_mem _ (List.mem_append_left _ (List.mem_append_left _ (List.mem_append_left _ (List.mem_append_right _ h)))))) th_i1) (th_good th_i1) hT.2.2.2.1 hT.2.2.2.2 hS (hl.1.trans hml.symm) dX3_cut_19 dX3_cut_22 dX3_cut_23 dX3_cut_25 dX3_cut_28 (fun x h => (hnt x h).elim) (by decide) (Nat.le_of_ble_eq_true rfl) (Nat.le_of_ble_eq_true rfl) (Nat.le_of_ble_eq_true rfl) hlocks (fun t ha h1 h2 => ⟨(), trivial, ⟨(Or.inl rfl), hM.keep h2⟩, th_F hS h1 h2⟩) hS.2.2 (Nat.le_of_ble_eq_true rfl) (Nat.le_of_ble_eq_true rfl)
  refine lv_if_eq (tgt := 19) hx hb dX3_cut_6 (by decide) (fun c4 => ?_) (fun c4 => ?_)
  · skip
    have g5 : ¬ ((0 : Int) ≤ fi.toInt ∧ fi.toInt ≤ (3 : Int)) := bI_f hw2 c4
    have zg5 : r1 = 0 := bI_f0 hw2 g5
    exact jn3 H _ ls hM hS (lv_sub hl [0, 1, 2] rfl)
  · skip
    have g6 : (0 : Int) ≤ fi.toInt ∧ fi.toInt ≤ (3 : Int) := bI_t hw2 c4
    have zg6 : r1 = 1 := bI_t1 hw2 g6
    refine lv_iload_n hx hb dX3_cut_9 rfl (lv_at hl 2 rfl) ?_
    refine lv_iconst (v := 1) hx hb dX3_cut_10 (by decide) ?_
    refine lv_bipush (v := 20) hx hb dX3_cut_11 (by decide) ?_
    refine va_calli (va_runS (As := [.int ma, .int 1, .int 20]) (rest := []) ⟨hx, hb, hml, hown, hts⟩ (rk_isWithin l ma 1 20 (1) (20) (by decide) (by decide)) (va_cwS 3 hts gX3_cut_X3_isWithin rfl rfl rfl (by decide +kernel) ⟨Nat.le_of_ble_eq_true rfl, Nat.le_of_ble_eq_true rfl⟩) ⟨fun a U g mk q => q, fun U hU hW => ⟨rfl, trivial⟩⟩ rfl rfl hl.1 rfl (lv_room (Nat.le_of_ble_eq_true rfl)) dX3_cut_13 ⟨(Nat.le_of_ble_eq_true rfl), (Nat.le_of_ble_eq_true rfl)⟩) hS (fun q _ h => h.elim) (fun q h => h.elim) (fun r7 u t H locs ht hvm hw8 hB hz1 hk1 hS => ?_)
    have hM := hM.keep (fun p hp => hk1 p hp (fun z => z))
    have hw8 : r7 = bI ((1 : Int) ≤ ma.toInt ∧ ma.toInt ≤ (20 : Int)) := hw8
    refine lv_if_ne (tgt := 29) hx hb dX3_cut_16 (by decide) (fun c9 => ?_) (fun c9 => ?_)
    · skip
      have g10 : (1 : Int) ≤ ma.toInt ∧ ma.toInt ≤ (20 : Int) := bI_t hw8 c9
      have zg10 : r7 = 1 := bI_t1 hw8 g10
      refine lv_aload_n hx hb dX3_cut_29 rfl (lv_at hl 0 rfl) ?_
      obtain ⟨u11, u12, u13, u14, hP, hf⟩ := o_sno (i := 0) (q := o) hM (by omega)
      refine va_get (D := (dC, dI)) (ci := 7) (v := .ref (pF g o 1)) (C := RX3) (T := TX3) (N := 10) hx hb hts (by decide +kernel) hown hK hP 0 rfl rfl 1 (by decide) (hts (.fieldLink RX3 19 "Snowpalace" "river" "LSnowpalace$River;") (by decide +kernel)) (fun _ h9 => h9) rfl dX3_cut_30 ?_
      have ht15 : tg g (pF g o 1) = 3 := hf.2.1
      obtain ⟨hP, hf⟩ := o_riv (i := 0) (q := (pF g o 1)) hM (by omega)
      refine va_get (D := (dC, dI)) (ci := 4) (v := .ref (pF g (pF g o 1) 0)) (C := RX0) (T := TX0) (N := 3) hx hb hts (by decide +kernel) hown hK hP 0 rfl rfl 0 (by decide) (hts (.fieldLink RX3 102 "Snowpalace$River" "thickness" "[I") (by decide +kernel)) (fun _ h9 => h9) rfl dX3_cut_33 ?_
      have ht16 : tg g (pF g (pF g o 1) 0) = 9 := hf.1
      refine lv_iload_n hx hb dX3_cut_36 rfl (lv_at hl 1 rfl) ?_
      obtain ⟨hP, hf⟩ := o_rth (i := 0) (q := (pF g (pF g o 1) 0)) hM (by omega)
      refine va_iald (D := (dC, dI)) hx hb hK hP 0 0 rfl rfl (inI (by omega) (by omega)) dX3_cut_37 ?_
      refine lv_topi (fun v17 e18 => ?_)
      subst e18
      refine lv_sipush (v := 300) hx hb dX3_cut_38 (by decide) ?_
      have jn19 : ∀  (H : Heap) (locs : List Loc) (ls : Array Slot), TM (dC, dI) kA b g H → va_S (fun q => b ≤ q) s.heap H locs → lv_has ls 3 [(0, .ref o), (1, .int fi), (2, .int ma)] → W p l e (headSpec wsX3_cut ({ frames := 6, cells := 1, slots := 6, locals := 82 })).room s m args below meth c H locs 0 0 Q (F0 m 68 ls []) := by
        intro H locs ls hM hS hl
        obtain ⟨sa, hsa⟩ := hT.2.1 (115, "the field cannot be cut so") (by decide +kernel)
        subst hQ
        exact vx_throwS (A := (fun q => b ≤ q)) (own := RX3) (cls := "java/lang/UnsupportedOperationException") (text := "the field cannot be cut so") (names := exN) hx hb hlt hown (by decide +kernel) (by decide +kernel) (hts (.classLink RX3 63 "java/lang/UnsupportedOperationException") (by decide +kernel)) (hts (.initialized "java/lang/UnsupportedOperationException") (by decide +kernel)) hsa (th_hat hT (fun w h => hts w (List.mem_cons_of_mem _ (List.mem_append_left _ (List.mem_append_right _ h)))) th_i2) (th_good th_i2) hT.2.2.2.1 hT.2.2.2.2 hS (hl.1.trans hml.symm) dX3_cut_68 dX3_cut_71 dX3_cut_72 dX3_cut_74 dX3_cut_77 (fun x h => (hnt x h).elim) (by decide) (Nat.le_of_ble_eq_true rfl) (Nat.le_of_ble_eq_true rfl) (Nat.le_of_ble_eq_true rfl) hlocks (fun t ha h1 h2 => ⟨(), trivial, ⟨(Or.inr (Or.inl rfl)), hM.keep h2⟩, th_F hS h1 h2⟩) hS.2.2 (Nat.le_of_ble_eq_true rfl) (Nat.le_of_ble_eq_true rfl)
      refine lv_icmp_lt (tgt := 68) hx hb dX3_cut_41 (by decide) (fun c20 => ?_) (fun c20 => ?_)
      · skip
        have i21 := (Int32.lt_iff_toInt_lt).mp c20
        have ii21 : (300 : Int32).toInt = 300 := by decide
        have i21 := i21
        exact jn19 H _ ls hM hS (lv_sub hl [0, 1, 2] rfl)
      · skip
        have i22 := fun z => c20 ((Int32.lt_iff_toInt_lt).mpr z)
        have ii22 : (300 : Int32).toInt = 300 := by decide
        have i22 : ¬ (((pI g (pF g (pF g o 1) 0) ((fi : Int32).toNatClampNeg)) : Int32).toInt < (300 : Int32).toInt) := i22
        refine lv_aload_n hx hb dX3_cut_44 rfl (lv_at hl 0 rfl) ?_
        obtain ⟨u23, u24, u25, u26, hP, hf⟩ := o_sno (i := 0) (q := o) hM (by omega)
        refine va_get (D := (dC, dI)) (ci := 7) (v := .ref (pF g o 1)) (C := RX3) (T := TX3) (N := 10) hx hb hts (by decide +kernel) hown hK hP 0 rfl rfl 1 (by decide) (hts (.fieldLink RX3 19 "Snowpalace" "river" "LSnowpalace$River;") (by decide +kernel)) (fun _ h9 => h9) rfl dX3_cut_45 ?_
        obtain ⟨hP, hf⟩ := o_riv (i := 0) (q := (pF g o 1)) hM (by omega)
        refine va_get (D := (dC, dI)) (ci := 4) (v := .ref (pF g (pF g o 1) 2)) (C := RX0) (T := TX0) (N := 3) hx hb hts (by decide +kernel) hown hK hP 0 rfl rfl 2 (by decide) (hts (.fieldLink RX3 112 "Snowpalace$River" "places" "[I") (by decide +kernel)) (fun _ h9 => h9) rfl dX3_cut_48 ?_
        have ht27 : tg g (pF g (pF g o 1) 2) = 11 := hf.2.2
        refine lv_iload_n hx hb dX3_cut_51 rfl (lv_at hl 1 rfl) ?_
        obtain ⟨u28, hP, hf⟩ := o_rpl (i := 0) (q := (pF g (pF g o 1) 2)) hM (by omega)
        refine va_iald (D := (dC, dI)) hx hb hK hP 0 0 rfl rfl (inI (by omega) (by omega)) dX3_cut_52 ?_
        refine lv_topi (fun v29 e30 => ?_)
        refine lv_iload_n hx hb dX3_cut_53 rfl (lv_at hl 2 rfl) ?_
        refine lv_icmp_lt (tgt := 68) hx hb dX3_cut_54 (by decide) (fun c31 => ?_) (fun c31 => ?_)
        · skip
          have i32 := (Int32.lt_iff_toInt_lt).mp c31
          have i32 := i32
          exact jn19 H _ ls hM hS (lv_sub hl [0, 1, 2] rfl)
        · skip
          have i33 := fun z => c31 ((Int32.lt_iff_toInt_lt).mpr z)
          have i33 : ¬ ((v29 : Int32).toInt < (ma : Int32).toInt) := i33
          refine lv_aload_n hx hb dX3_cut_57 rfl (lv_at hl 0 rfl) ?_
          obtain ⟨u34, u35, u36, u37, hP, hf⟩ := o_sno (i := 0) (q := o) hM (by omega)
          refine va_get (D := (dC, dI)) (ci := 7) (v := .ref (pF g o 1)) (C := RX3) (T := TX3) (N := 10) hx hb hts (by decide +kernel) hown hK hP 0 rfl rfl 1 (by decide) (hts (.fieldLink RX3 19 "Snowpalace" "river" "LSnowpalace$River;") (by decide +kernel)) (fun _ h9 => h9) rfl dX3_cut_58 ?_
          refine lv_iload_n hx hb dX3_cut_61 rfl (lv_at hl 1 rfl) ?_
          obtain ⟨hP, hf⟩ := o_riv (i := 0) (q := (pF g o 1)) hM (by omega)
          refine va_calli (va_runV (As := [.int fi]) (rest := []) ⟨hx, hb, hml, hown, hts⟩ (rk_bearsLorries l dC dI kA eD b g (pF g o 1) fi (by omega)) (cwV 1 hts gX3_cut_X0_bearsLorries rfl rfl rfl (by decide +kernel) ⟨Nat.le_of_ble_eq_true rfl, Nat.le_of_ble_eq_true rfl⟩) ⟨fb_CX, va_recv hK hP (ci := 4) (q0 := 0) rfl rfl, fun U hU hW => ⟨rfl, CX.give hb0 hM hK hG hE hS hU hW⟩⟩ rfl rfl hl.1 rfl (lv_room (Nat.le_of_ble_eq_true rfl)) dX3_cut_62 ⟨(Nat.le_of_ble_eq_true rfl), (Nat.le_of_ble_eq_true rfl)⟩) hS (fun q _ h => h) (fun q h => h) (fun r38 u t H locs ht hvm hw39 hB hz1 hk1 hS => ?_)
          have hM := hB.back ht
          have hG := hB.2.2.2.1
          refine lv_if_ne (tgt := 78) hx hb dX3_cut_65 (by decide) (fun c40 => ?_) (fun c40 => ?_)
          · skip
            refine lv_aload_n hx hb dX3_cut_78 rfl (lv_at hl 0 rfl) ?_
            obtain ⟨u41, u42, u43, u44, hP, hf⟩ := o_sno (i := 0) (q := o) hM (by omega)
            refine va_get (D := (dC, dI)) (ci := 7) (v := .int u41) (C := RX3) (T := TX3) (N := 10) hx hb hts (by decide +kernel) hown hK hP 0 rfl rfl 5 (by decide) (hts (.fieldLink RX3 36 "Snowpalace" "clearBlocks" "I") (by decide +kernel)) (fun _ h9 => h9) rfl dX3_cut_79 ?_
            refine lv_aload_n hx hb dX3_cut_82 rfl (lv_at hl 0 rfl) ?_
            obtain ⟨u45, u46, u47, u48, hP, hf⟩ := o_sno (i := 0) (q := o) hM (by omega)
            refine va_get (D := (dC, dI)) (ci := 7) (v := .int u46) (C := RX3) (T := TX3) (N := 10) hx hb hts (by decide +kernel) hown hK hP 0 rfl rfl 6 (by decide) (hts (.fieldLink RX3 39 "Snowpalace" "otherBlocks" "I") (by decide +kernel)) (fun _ h9 => h9) rfl dX3_cut_83 ?_
            refine lv_iadd hx hb dX3_cut_86 ?_
            refine lv_topi (fun v49 e50 => ?_)
            refine lv_iload_n hx hb dX3_cut_87 rfl (lv_at hl 2 rfl) ?_
            refine lv_iadd hx hb dX3_cut_88 ?_
            refine lv_topi (fun v51 e52 => ?_)
            refine lv_sipush (v := 200) hx hb dX3_cut_89 (by decide) ?_
            refine lv_icmp_le (tgt := 105) hx hb dX3_cut_92 (by decide) (fun c53 => ?_) (fun c53 => ?_)
            · skip
              have i54 := (Int32.le_iff_toInt_le).mp c53
              have ii54 : (200 : Int32).toInt = 200 := by decide
              have i54 := i54
              refine lv_aload_n hx hb dX3_cut_105 rfl (lv_at hl 0 rfl) ?_
              obtain ⟨u55, u56, u57, u58, hP, hf⟩ := o_sno (i := 0) (q := o) hM (by omega)
              refine va_get (D := (dC, dI)) (ci := 7) (v := .ref (pF g o 1)) (C := RX3) (T := TX3) (N := 10) hx hb hts (by decide +kernel) hown hK hP 0 rfl rfl 1 (by decide) (hts (.fieldLink RX3 19 "Snowpalace" "river" "LSnowpalace$River;") (by decide +kernel)) (fun _ h9 => h9) rfl dX3_cut_106 ?_
              refine lv_iload_n hx hb dX3_cut_109 rfl (lv_at hl 1 rfl) ?_
              obtain ⟨hP, hf⟩ := o_riv (i := 0) (q := (pF g o 1)) hM (by omega)
              refine va_calli (va_runV (As := [.int fi]) (rest := []) ⟨hx, hb, hml, hown, hts⟩ (rk_isClear l dC dI kA eD b g (pF g o 1) fi (by omega)) (cwV 1 hts gX3_cut_X0_isClear rfl rfl rfl (by decide +kernel) ⟨Nat.le_of_ble_eq_true rfl, Nat.le_of_ble_eq_true rfl⟩) ⟨fb_CX, va_recv hK hP (ci := 4) (q0 := 0) rfl rfl, fun U hU hW => ⟨rfl, CX.give hb0 hM hK hG hE hS hU hW⟩⟩ rfl rfl hl.1 rfl (lv_room (Nat.le_of_ble_eq_true rfl)) dX3_cut_110 ⟨(Nat.le_of_ble_eq_true rfl), (Nat.le_of_ble_eq_true rfl)⟩) hS (fun q _ h => h) (fun q h => h) (fun r59 u t H locs ht hvm hw60 hB hz1 hk1 hS => ?_)
              have hM := hB.back ht
              have hG := hB.2.2.2.1
              have jn61 : ∀  (H : Heap) (locs : List Loc) (ls : Array Slot), TM (dC, dI) kA b g H → va_S (fun q => b ≤ q) s.heap H locs → lv_has ls 3 [(0, .ref o), (1, .int fi), (2, .int ma)] → W p l e (headSpec wsX3_cut ({ frames := 6, cells := 1, slots := 6, locals := 82 })).room s m args below meth c H locs 0 0 Q (F0 m 139 ls []) := by
                intro H locs ls hM hS hl
                refine lv_aload_n hx hb dX3_cut_139 rfl (lv_at hl 0 rfl) ?_
                obtain ⟨u62, u63, u64, u65, hP, hf⟩ := o_sno (i := 0) (q := o) hM (by omega)
                refine va_get (D := (dC, dI)) (ci := 7) (v := .ref (pF g o 1)) (C := RX3) (T := TX3) (N := 10) hx hb hts (by decide +kernel) hown hK hP 0 rfl rfl 1 (by decide) (hts (.fieldLink RX3 19 "Snowpalace" "river" "LSnowpalace$River;") (by decide +kernel)) (fun _ h9 => h9) rfl dX3_cut_140 ?_
                obtain ⟨hP, hf⟩ := o_riv (i := 0) (q := (pF g o 1)) hM (by omega)
                refine va_get (D := (dC, dI)) (ci := 4) (v := .ref (pF g (pF g o 1) 2)) (C := RX0) (T := TX0) (N := 3) hx hb hts (by decide +kernel) hown hK hP 0 rfl rfl 2 (by decide) (hts (.fieldLink RX3 112 "Snowpalace$River" "places" "[I") (by decide +kernel)) (fun _ h9 => h9) rfl dX3_cut_143 ?_
                refine lv_iload_n hx hb dX3_cut_146 rfl (lv_at hl 1 rfl) ?_
                refine lv_dup2_11 hx hb dX3_cut_147 rfl rfl ?_
                obtain ⟨u66, hP, hf⟩ := o_rpl (i := 0) (q := (pF g (pF g o 1) 2)) hM (by omega)
                refine va_iald (D := (dC, dI)) hx hb hK hP 0 0 rfl rfl (inI (by omega) (by omega)) dX3_cut_148 ?_
                refine lv_topi (fun v67 e68 => ?_)
                refine lv_iload_n hx hb dX3_cut_149 rfl (lv_at hl 2 rfl) ?_
                refine lv_isub hx hb dX3_cut_150 ?_
                refine lv_topi (fun v69 e70 => ?_)
                obtain ⟨u71, hP, hf⟩ := o_rpl (i := 0) (q := (pF g (pF g o 1) 2)) hM (by omega)
                refine rt_iast (D := (dC, dI)) (t0 := 0) hx hb hK hP (hM.ge (by omega)) hS rfl (inI (by omega) (by omega)) dX3_cut_151 (fun H locs hP hz ho hS => ?_)
                have hM := s_rpl (i := 0) hM (by omega) hP ho hf
                refine lv_aload_n hx hb dX3_cut_152 rfl (lv_at hl 0 rfl) ?_
                refine lv_dup hx hb dX3_cut_153 rfl ?_
                obtain ⟨u72, u73, u74, u75, hP, hf⟩ := o_sno (i := 0) (q := o) hM (by omega)
                refine va_get (D := (dC, dI)) (ci := 7) (v := .int u75) (C := RX3) (T := TX3) (N := 10) hx hb hts (by decide +kernel) hown hK hP 0 rfl rfl 9 (by decide) (hts (.fieldLink RX3 49 "Snowpalace" "funds" "I") (by decide +kernel)) (fun _ h9 => h9) rfl dX3_cut_154 ?_
                refine lv_bipush (v := 20) hx hb dX3_cut_157 (by decide) ?_
                refine lv_iload_n hx hb dX3_cut_159 rfl (lv_at hl 2 rfl) ?_
                refine lv_imul hx hb dX3_cut_160 ?_
                refine lv_topi (fun v76 e77 => ?_)
                refine lv_isub hx hb dX3_cut_161 ?_
                refine lv_topi (fun v78 e79 => ?_)
                obtain ⟨u80, u81, u82, u83, hP, hf⟩ := o_sno (i := 0) (q := o) hM (by omega)
                refine rt_put (D := (dC, dI)) (ci := 7) (v := .int v78) (ty := .int) (C := RX3) (T := TX3) (N := 10) hx hb hts (by decide +kernel) tyX3 tyX3_ok nmX3 hown hK hP (hM.ge (by omega)) hS rfl 9 (by decide) (hts (.fieldLink RX3 49 "Snowpalace" "funds" "I") (by decide +kernel)) (fun _ h9 => h9) rfl (by decide +kernel) rfl rfl (Nat.le_of_ble_eq_true rfl) dX3_cut_162 (fun H locs hP hz ho hS => ?_)
                have hM := s_sno (i := 0) hM (by omega) hP ho hf
                refine lv_aload_n hx hb dX3_cut_165 rfl (lv_at hl 0 rfl) ?_
                obtain ⟨u84, u85, u86, u87, hP, hf⟩ := o_sno (i := 0) (q := o) hM (by omega)
                refine va_get (D := (dC, dI)) (ci := 7) (v := .ref (pF g o 1)) (C := RX3) (T := TX3) (N := 10) hx hb hts (by decide +kernel) hown hK hP 0 rfl rfl 1 (by decide) (hts (.fieldLink RX3 19 "Snowpalace" "river" "LSnowpalace$River;") (by decide +kernel)) (fun _ h9 => h9) rfl dX3_cut_166 ?_
                obtain ⟨hP, hf⟩ := o_riv (i := 0) (q := (pF g o 1)) hM (by omega)
                refine va_get (D := (dC, dI)) (ci := 4) (v := .ref (pF g (pF g o 1) 2)) (C := RX0) (T := TX0) (N := 3) hx hb hts (by decide +kernel) hown hK hP 0 rfl rfl 2 (by decide) (hts (.fieldLink RX3 112 "Snowpalace$River" "places" "[I") (by decide +kernel)) (fun _ h9 => h9) rfl dX3_cut_169 ?_
                refine lv_iload_n hx hb dX3_cut_172 rfl (lv_at hl 1 rfl) ?_
                obtain ⟨u88, hP, hf⟩ := o_rpl (i := 0) (q := (pF g (pF g o 1) 2)) hM (by omega)
                refine va_iald (D := (dC, dI)) hx hb hK hP 0 0 rfl rfl (inI (by omega) (by omega)) dX3_cut_173 ?_
                refine lv_topi (fun v89 e90 => ?_)
                subst hQ
                refine vx_ret ?_
                refine W.widen (k := 1) (n := 6) (Nat.le_of_ble_eq_true rfl) (Nat.le_of_ble_eq_true rfl) ?_
                exact W.iret (v := v89) hx hb hr (fun t ht hW => ⟨⟨v89, (), rfl, trivial, CX.give hb0 hM hK hG hE hS ht hW⟩, hS.F ht⟩) hS.2.2 dX3_cut_174
              refine lv_if_eq (tgt := 129) hx hb dX3_cut_113 (by decide) (fun c91 => ?_) (fun c91 => ?_)
              · skip
                refine lv_aload_n hx hb dX3_cut_129 rfl (lv_at hl 0 rfl) ?_
                refine lv_dup hx hb dX3_cut_130 rfl ?_
                obtain ⟨u92, u93, u94, u95, hP, hf⟩ := o_sno (i := 0) (q := o) hM (by omega)
                refine va_get (D := (dC, dI)) (ci := 7) (v := .int u93) (C := RX3) (T := TX3) (N := 10) hx hb hts (by decide +kernel) hown hK hP 0 rfl rfl 6 (by decide) (hts (.fieldLink RX3 39 "Snowpalace" "otherBlocks" "I") (by decide +kernel)) (fun _ h9 => h9) rfl dX3_cut_131 ?_
                refine lv_iload_n hx hb dX3_cut_134 rfl (lv_at hl 2 rfl) ?_
                refine lv_iadd hx hb dX3_cut_135 ?_
                refine lv_topi (fun v96 e97 => ?_)
                obtain ⟨u98, u99, u100, u101, hP, hf⟩ := o_sno (i := 0) (q := o) hM (by omega)
                refine rt_put (D := (dC, dI)) (ci := 7) (v := .int v96) (ty := .int) (C := RX3) (T := TX3) (N := 10) hx hb hts (by decide +kernel) tyX3 tyX3_ok nmX3 hown hK hP (hM.ge (by omega)) hS rfl 6 (by decide) (hts (.fieldLink RX3 39 "Snowpalace" "otherBlocks" "I") (by decide +kernel)) (fun _ h9 => h9) rfl (by decide +kernel) rfl rfl (Nat.le_of_ble_eq_true rfl) dX3_cut_136 (fun H locs hP hz ho hS => ?_)
                have hM := s_sno (i := 0) hM (by omega) hP ho hf
                exact jn61 H _ ls hM hS (lv_sub hl [0, 1, 2] rfl)
              · skip
                refine lv_aload_n hx hb dX3_cut_116 rfl (lv_at hl 0 rfl) ?_
                refine lv_dup hx hb dX3_cut_117 rfl ?_
                obtain ⟨u102, u103, u104, u105, hP, hf⟩ := o_sno (i := 0) (q := o) hM (by omega)
                refine va_get (D := (dC, dI)) (ci := 7) (v := .int u102) (C := RX3) (T := TX3) (N := 10) hx hb hts (by decide +kernel) hown hK hP 0 rfl rfl 5 (by decide) (hts (.fieldLink RX3 36 "Snowpalace" "clearBlocks" "I") (by decide +kernel)) (fun _ h9 => h9) rfl dX3_cut_118 ?_
                refine lv_iload_n hx hb dX3_cut_121 rfl (lv_at hl 2 rfl) ?_
                refine lv_iadd hx hb dX3_cut_122 ?_
                refine lv_topi (fun v106 e107 => ?_)
                obtain ⟨u108, u109, u110, u111, hP, hf⟩ := o_sno (i := 0) (q := o) hM (by omega)
                refine rt_put (D := (dC, dI)) (ci := 7) (v := .int v106) (ty := .int) (C := RX3) (T := TX3) (N := 10) hx hb hts (by decide +kernel) tyX3 tyX3_ok nmX3 hown hK hP (hM.ge (by omega)) hS rfl 5 (by decide) (hts (.fieldLink RX3 36 "Snowpalace" "clearBlocks" "I") (by decide +kernel)) (fun _ h9 => h9) rfl (by decide +kernel) rfl rfl (Nat.le_of_ble_eq_true rfl) dX3_cut_123 (fun H locs hP hz ho hS => ?_)
                have hM := s_sno (i := 0) hM (by omega) hP ho hf
                refine lv_goto (tgt := 139) hx hb dX3_cut_126 (by decide) ?_
                exact jn61 H _ ls hM hS (lv_sub hl [0, 1, 2] rfl)
            · skip
              have i112 := fun z => c53 ((Int32.le_iff_toInt_le).mpr z)
              have ii112 : (200 : Int32).toInt = 200 := by decide
              have i112 : ¬ ((v51 : Int32).toInt ≤ (200 : Int32).toInt) := i112
              obtain ⟨sa, hsa⟩ := hT.2.1 (117, "the yard has no room for all") (by decide +kernel)
              subst hQ
              exact vx_throwS (A := (fun q => b ≤ q)) (own := RX3) (cls := "java/lang/IllegalStateException") (text := "the yard has no room for all") (names := exN) hx hb hlt hown (by decide +kernel) (by decide +kernel) (hts (.classLink RX3 92 "java/lang/IllegalStateException") (by decide +kernel)) (hts (.initialized "java/lang/IllegalStateException") (by decide +kernel)) hsa (th_hat hT (fun w h => hts w (List.mem_cons_of_mem _ (List.mem_append_right _ h))) th_i3) (th_good th_i3) hT.2.2.2.1 hT.2.2.2.2 hS (hl.1.trans hml.symm) dX3_cut_95 dX3_cut_98 dX3_cut_99 dX3_cut_101 dX3_cut_104 (fun x h => (hnt x h).elim) (by decide) (Nat.le_of_ble_eq_true rfl) (Nat.le_of_ble_eq_true rfl) (Nat.le_of_ble_eq_true rfl) hlocks (fun t ha h1 h2 => ⟨(), trivial, ⟨(Or.inr (Or.inr rfl)), hM.keep h2⟩, th_F hS h1 h2⟩) hS.2.2 (Nat.le_of_ble_eq_true rfl) (Nat.le_of_ble_eq_true rfl)
          · skip
            exact jn19 H _ ls hM hS (lv_sub hl [0, 1, 2] rfl)
    · skip
      have g113 : ¬ ((1 : Int) ≤ ma.toInt ∧ ma.toInt ≤ (20 : Int)) := bI_f hw8 c9
      have zg113 : r7 = 0 := bI_f0 hw8 g113
      exact jn3 H _ ls hM hS (lv_sub hl [0, 1, 2] rfl)

set_option maxHeartbeats 4000000 in
set_option maxRecDepth 100000 in
theorem rf_yard (l : Launch) (dC : Nat → ClassId) (dI : Nat → Nat → Nat) (kA : Nat → ClassId) (eD b : Nat) (g : Gh) (o : Nat) (ic : Int32) (hto : tg g o = 1)  : Met l yX3_yard wsX3_yard ({ frames := 0, cells := 0, slots := 0, locals := 0 }) (va_Pc [.ref o, .int ic] (CX (dC, dI) kA eD b g)) (va_Qi (fun (r : Int32) (u : Unit) => True) (fun (u : Unit) t => CX (dC, dI) kA eD b g t) (fun q => b ≤ q)) 0 0 (fun q => b ≤ q) := by
  refine Met.ofW (cc := cX3_yard) (maxL := 2) (ret := (some .int)) (by decide +kernel) rfl ?_
  intro p e s m args below meth c s₁ B hml hv
  obtain ⟨rfl, hb0, hM, hK, hG, hE⟩ := hv
  have hx := B.exec
  have hb := B.bytes
  have hr := B.returns
  have hts := atoms_spec (ws := wsX3_yard) B.pre
  have hown : s.vm.findClass RX3 = some m.cls := findClass_of_methodNamed B.named
  have hlocks := B.notSynchronized
  have hT := hE.1
  have hN := hE.2.2.2.2.2.2.2.1
  have hS : va_S (fun q => b ≤ q) s.heap s.heap [] := va_S.rf
  have hl := lv_entry ([.ref o, .int ic]) (n := 2) (Nat.le_of_ble_eq_true rfl)
  rw [lg_entry_eq]
  generalize (lg_sl ([.ref o, .int ic]) ++ List.replicate (2 - (lg_sl ([.ref o, .int ic])).length) Slot.unset).toArray = ls at hl ⊢
  have hl : lv_has ls 2 [(0, .ref o), (1, .int ic)] := hl
  generalize ([.ref o, .int ic] : List Value).toArray = args at hts ⊢
  refine W.q (fun Q hQ => ?_)
  refine lv_iload_n hx hb dX3_yard_0 rfl (lv_at hl 1 rfl) ?_
  have jn2 : ∀ (x1 : Int32) (H : Heap) (locs : List Loc) (ls : Array Slot), TM (dC, dI) kA b g H → va_S (fun q => b ≤ q) s.heap H locs → lv_has ls 2 [(0, .ref o), (1, .int ic)] → W p l e (headSpec wsX3_yard ({ frames := 0, cells := 0, slots := 0, locals := 0 })).room s m args below meth c H locs 0 0 Q (F0 m 15 ls [.int x1]) := by
    intro x1 H locs ls hM hS hl
    subst hQ
    refine W.widen (k := 0) (n := 0) (Nat.le_of_ble_eq_true rfl) (Nat.le_of_ble_eq_true rfl) ?_
    exact W.iret (v := x1) hx hb hr (fun t ht hW => ⟨⟨x1, (), rfl, trivial, CX.give hb0 hM hK hG hE hS ht hW⟩, hS.F ht⟩) hS.2.2 dX3_yard_15
  refine lv_if_eq (tgt := 11) hx hb dX3_yard_1 (by decide) (fun c3 => ?_) (fun c3 => ?_)
  · skip
    refine lv_aload_n hx hb dX3_yard_11 rfl (lv_at hl 0 rfl) ?_
    obtain ⟨u4, u5, u6, u7, hP, hf⟩ := o_sno (i := 0) (q := o) hM (by omega)
    refine va_get (D := (dC, dI)) (ci := 7) (v := .int u5) (C := RX3) (T := TX3) (N := 10) hx hb hts (by decide +kernel) hown hK hP 0 rfl rfl 6 (by decide) (hts (.fieldLink RX3 39 "Snowpalace" "otherBlocks" "I") (by decide +kernel)) (fun _ h9 => h9) rfl dX3_yard_12 ?_
    exact jn2 u5 s.heap _ ls hM hS (lv_sub hl [0, 1] rfl)
  · skip
    refine lv_aload_n hx hb dX3_yard_4 rfl (lv_at hl 0 rfl) ?_
    obtain ⟨u8, u9, u10, u11, hP, hf⟩ := o_sno (i := 0) (q := o) hM (by omega)
    refine va_get (D := (dC, dI)) (ci := 7) (v := .int u8) (C := RX3) (T := TX3) (N := 10) hx hb hts (by decide +kernel) hown hK hP 0 rfl rfl 5 (by decide) (hts (.fieldLink RX3 36 "Snowpalace" "clearBlocks" "I") (by decide +kernel)) (fun _ h9 => h9) rfl dX3_yard_5 ?_
    refine lv_goto (tgt := 15) hx hb dX3_yard_8 (by decide) ?_
    exact jn2 u8 s.heap _ ls hM hS (lv_sub hl [0, 1] rfl)

set_option maxHeartbeats 4000000 in
set_option maxRecDepth 100000 in
theorem rf_lorries (l : Launch) (hlt : l.stackTraces = false) (dC : Nat → ClassId) (dI : Nat → Nat → Nat) (kA : Nat → ClassId) (eD b : Nat) (g : Gh) (o : Nat) (ma : Int32) (hto : tg g o = 1)  : vx_Met l yX3_lorries wsX3_lorries ({ frames := 6, cells := 1, slots := 6, locals := 82 }) (va_Pc [.ref o, .int ma] (CX (dC, dI) kA eD b g)) (va_Qi (fun (r : Int32) (u : Unit) => True) (fun (u : Unit) t => CX (dC, dI) kA eD b g t) (fun q => b ≤ q)) (vx_X (fun _ : Unit => True) (fun E _ t => (E = "java/lang/IllegalArgumentException") ∧ TM (dC, dI) kA b g t.heap) (fun q => b ≤ q)) 1 6 (fun q => b ≤ q) := by
  refine vx_ofW (cc := cX3_lorries) (maxL := 2) (ret := (some .int)) (by decide +kernel) rfl ?_
  intro p e s m args below meth c s₁ B hml hnt hv
  obtain ⟨rfl, hb0, hM, hK, hG, hE⟩ := hv
  have hx := B.exec
  have hb := B.bytes
  have hr := B.returns
  have hts := atoms_spec (ws := wsX3_lorries) B.pre
  have hown : s.vm.findClass RX3 = some m.cls := findClass_of_methodNamed B.named
  have hlocks := B.notSynchronized
  have hT := hE.1
  have hN := hE.2.2.2.2.2.2.2.1
  have hS : va_S (fun q => b ≤ q) s.heap s.heap [] := va_S.rf
  have hl := lv_entry ([.ref o, .int ma]) (n := 2) (Nat.le_of_ble_eq_true rfl)
  rw [lg_entry_eq]
  generalize (lg_sl ([.ref o, .int ma]) ++ List.replicate (2 - (lg_sl ([.ref o, .int ma])).length) Slot.unset).toArray = ls at hl ⊢
  have hl : lv_has ls 2 [(0, .ref o), (1, .int ma)] := hl
  generalize ([.ref o, .int ma] : List Value).toArray = args at hts ⊢
  refine lv_iload_n hx hb dX3_lorries_0 rfl (lv_at hl 1 rfl) ?_
  refine lv_iconst (v := 1) hx hb dX3_lorries_1 (by decide) ?_
  refine lv_bipush (v := 20) hx hb dX3_lorries_2 (by decide) ?_
  refine va_calli (va_runS (As := [.int ma, .int 1, .int 20]) (rest := []) ⟨hx, hb, hml, hown, hts⟩ (rk_isWithin l ma 1 20 (1) (20) (by decide) (by decide)) (va_cwS 3 hts gX3_lorries_X3_isWithin rfl rfl rfl (by decide +kernel) ⟨Nat.le_of_ble_eq_true rfl, Nat.le_of_ble_eq_true rfl⟩) ⟨fun a U g mk q => q, fun U hU hW => ⟨rfl, trivial⟩⟩ rfl rfl hl.1 rfl (lv_room (Nat.le_of_ble_eq_true rfl)) dX3_lorries_4 ⟨(Nat.le_of_ble_eq_true rfl), (Nat.le_of_ble_eq_true rfl)⟩) hS (fun q _ h => h.elim) (fun q h => h.elim) (fun r1 u t H locs ht hvm hw2 hB hz1 hk1 hS => ?_)
  have hM := hM.keep (fun p hp => hk1 p hp (fun z => z))
  have hw2 : r1 = bI ((1 : Int) ≤ ma.toInt ∧ ma.toInt ≤ (20 : Int)) := hw2
  refine lv_if_ne (tgt := 20) hx hb dX3_lorries_7 (by decide) (fun c3 => ?_) (fun c3 => ?_)
  · skip
    have g4 : (1 : Int) ≤ ma.toInt ∧ ma.toInt ≤ (20 : Int) := bI_t hw2 c3
    have zg4 : r1 = 1 := bI_t1 hw2 g4
    refine lv_aload_n hx hb dX3_lorries_20 rfl (lv_at hl 0 rfl) ?_
    refine lv_iconst (v := 5) hx hb dX3_lorries_21 (by decide) ?_
    refine lv_iload_n hx hb dX3_lorries_22 rfl (lv_at hl 1 rfl) ?_
    refine lv_imul hx hb dX3_lorries_23 ?_
    refine lv_topi (fun v5 e6 => ?_)
    obtain ⟨u7, u8, u9, u10, hP, hf⟩ := o_sno (i := 0) (q := o) hM (by omega)
    refine va_callv (va_runV (As := [.int v5]) (rest := []) ⟨hx, hb, hml, hown, hts⟩ (rk_storeSnow l dC dI kA eD b g o v5 (by omega)) (cwV 1 hts gX3_lorries_X3_storeSnow rfl rfl rfl (by decide +kernel) ⟨Nat.le_of_ble_eq_true rfl, Nat.le_of_ble_eq_true rfl⟩) ⟨fb_CX, va_recv hK hP (ci := 7) (q0 := 0) rfl rfl, fun U hU hW => ⟨rfl, CX.give hb0 hM hK hG hE hS hU hW⟩⟩ rfl rfl hl.1 rfl (lv_room (Nat.le_of_ble_eq_true rfl)) dX3_lorries_24 ⟨(Nat.le_of_ble_eq_true rfl), (Nat.le_of_ble_eq_true rfl)⟩) hS (fun q _ h => h) (fun q h => h) (fun u t H locs ht hvm hw12 hB hz1 hk1 hS => ?_)
    have hM := hB.back ht
    have hG := hB.2.2.2.1
    refine lv_aload_n hx hb dX3_lorries_27 rfl (lv_at hl 0 rfl) ?_
    refine lv_dup hx hb dX3_lorries_28 rfl ?_
    obtain ⟨u13, u14, u15, u16, hP, hf⟩ := o_sno (i := 0) (q := o) hM (by omega)
    refine va_get (D := (dC, dI)) (ci := 7) (v := .int u16) (C := RX3) (T := TX3) (N := 10) hx hb hts (by decide +kernel) hown hK hP 0 rfl rfl 9 (by decide) (hts (.fieldLink RX3 49 "Snowpalace" "funds" "I") (by decide +kernel)) (fun _ h9 => h9) rfl dX3_lorries_29 ?_
    refine lv_bipush (v := 100) hx hb dX3_lorries_32 (by decide) ?_
    refine lv_iload_n hx hb dX3_lorries_34 rfl (lv_at hl 1 rfl) ?_
    refine lv_imul hx hb dX3_lorries_35 ?_
    refine lv_topi (fun v17 e18 => ?_)
    refine lv_isub hx hb dX3_lorries_36 ?_
    refine lv_topi (fun v19 e20 => ?_)
    obtain ⟨u21, u22, u23, u24, hP, hf⟩ := o_sno (i := 0) (q := o) hM (by omega)
    refine rt_put (D := (dC, dI)) (ci := 7) (v := .int v19) (ty := .int) (C := RX3) (T := TX3) (N := 10) hx hb hts (by decide +kernel) tyX3 tyX3_ok nmX3 hown hK hP (hM.ge (by omega)) hS rfl 9 (by decide) (hts (.fieldLink RX3 49 "Snowpalace" "funds" "I") (by decide +kernel)) (fun _ h9 => h9) rfl (by decide +kernel) rfl rfl (Nat.le_of_ble_eq_true rfl) dX3_lorries_37 (fun H locs hP hz ho hS => ?_)
    have hM := s_sno (i := 0) hM (by omega) hP ho hf
    refine lv_aload_n hx hb dX3_lorries_40 rfl (lv_at hl 0 rfl) ?_
    obtain ⟨u25, u26, u27, u28, hP, hf⟩ := o_sno (i := 0) (q := o) hM (by omega)
    refine va_get (D := (dC, dI)) (ci := 7) (v := .int u27) (C := RX3) (T := TX3) (N := 10) hx hb hts (by decide +kernel) hown hK hP 0 rfl rfl 7 (by decide) (hts (.fieldLink RX3 42 "Snowpalace" "storedSnow" "I") (by decide +kernel)) (fun _ h9 => h9) rfl dX3_lorries_41 ?_
    refine vx_ret ?_
    refine W.widen (k := 1) (n := 6) (Nat.le_of_ble_eq_true rfl) (Nat.le_of_ble_eq_true rfl) ?_
    exact W.iret (v := u27) hx hb hr (fun t ht hW => ⟨⟨u27, (), rfl, trivial, CX.give hb0 hM hK hG hE hS ht hW⟩, hS.F ht⟩) hS.2.2 dX3_lorries_44
  · skip
    have g29 : ¬ ((1 : Int) ≤ ma.toInt ∧ ma.toInt ≤ (20 : Int)) := bI_f hw2 c3
    have zg29 : r1 = 0 := bI_f0 hw2 g29
    obtain ⟨sa, hsa⟩ := hT.2.1 (122, "so many lorries cannot come") (by decide +kernel)
    exact vx_throwS (A := (fun q => b ≤ q)) (own := RX3) (cls := "java/lang/IllegalArgumentException") (text := "so many lorries cannot come") (names := exN) hx hb hlt hown (by decide +kernel) (by decide +kernel) (hts (.classLink RX3 56 "java/lang/IllegalArgumentException") (by decide +kernel)) (hts (.initialized "java/lang/IllegalArgumentException") (by decide +kernel)) hsa (th_hat hT (fun w h => hts w (List.mem_cons_of_mem _ (List.mem_append_right _ h))) th_i1) (th_good th_i1) hT.2.2.2.1 hT.2.2.2.2 hS (hl.1.trans hml.symm) dX3_lorries_10 dX3_lorries_13 dX3_lorries_14 dX3_lorries_16 dX3_lorries_19 (fun x h => (hnt x h).elim) (by decide) (Nat.le_of_ble_eq_true rfl) (Nat.le_of_ble_eq_true rfl) (Nat.le_of_ble_eq_true rfl) hlocks (fun t ha h1 h2 => ⟨(), trivial, ⟨rfl, hM.keep h2⟩, th_F hS h1 h2⟩) hS.2.2 (Nat.le_of_ble_eq_true rfl) (Nat.le_of_ble_eq_true rfl)

set_option maxHeartbeats 4000000 in
set_option maxRecDepth 100000 in
theorem rf_snow (l : Launch) (dC : Nat → ClassId) (dI : Nat → Nat → Nat) (kA : Nat → ClassId) (eD b : Nat) (g : Gh) (o : Nat)  (hto : tg g o = 1)  : Met l yX3_snow wsX3_snow ({ frames := 0, cells := 0, slots := 0, locals := 0 }) (va_Pc [.ref o] (CX (dC, dI) kA eD b g)) (va_Qi (fun (r : Int32) (u : Unit) => True) (fun (u : Unit) t => CX (dC, dI) kA eD b g t) (fun q => b ≤ q)) 0 0 (fun q => b ≤ q) := by
  refine Met.ofW (cc := cX3_snow) (maxL := 1) (ret := (some .int)) (by decide +kernel) rfl ?_
  intro p e s m args below meth c s₁ B hml hv
  obtain ⟨rfl, hb0, hM, hK, hG, hE⟩ := hv
  have hx := B.exec
  have hb := B.bytes
  have hr := B.returns
  have hts := atoms_spec (ws := wsX3_snow) B.pre
  have hown : s.vm.findClass RX3 = some m.cls := findClass_of_methodNamed B.named
  have hlocks := B.notSynchronized
  have hT := hE.1
  have hN := hE.2.2.2.2.2.2.2.1
  have hS : va_S (fun q => b ≤ q) s.heap s.heap [] := va_S.rf
  have hl := lv_entry ([.ref o]) (n := 1) (Nat.le_of_ble_eq_true rfl)
  rw [lg_entry_eq]
  generalize (lg_sl ([.ref o]) ++ List.replicate (1 - (lg_sl ([.ref o])).length) Slot.unset).toArray = ls at hl ⊢
  have hl : lv_has ls 1 [(0, .ref o)] := hl
  generalize ([.ref o] : List Value).toArray = args at hts ⊢
  refine lv_aload_n hx hb dX3_snow_0 rfl (lv_at hl 0 rfl) ?_
  obtain ⟨u1, u2, u3, u4, hP, hf⟩ := o_sno (i := 0) (q := o) hM (by omega)
  refine va_get (D := (dC, dI)) (ci := 7) (v := .int u3) (C := RX3) (T := TX3) (N := 10) hx hb hts (by decide +kernel) hown hK hP 0 rfl rfl 7 (by decide) (hts (.fieldLink RX3 42 "Snowpalace" "storedSnow" "I") (by decide +kernel)) (fun _ h9 => h9) rfl dX3_snow_1 ?_
  refine W.widen (k := 0) (n := 0) (Nat.le_of_ble_eq_true rfl) (Nat.le_of_ble_eq_true rfl) ?_
  exact W.iret (v := u3) hx hb hr (fun t ht hW => ⟨⟨u3, (), rfl, trivial, CX.give hb0 hM hK hG hE hS ht hW⟩, hS.F ht⟩) hS.2.2 dX3_snow_4

set_option maxHeartbeats 4000000 in
set_option maxRecDepth 100000 in
theorem rf_money (l : Launch) (dC : Nat → ClassId) (dI : Nat → Nat → Nat) (kA : Nat → ClassId) (eD b : Nat) (g : Gh) (o : Nat)  (hto : tg g o = 1)  : Met l yX3_money wsX3_money ({ frames := 0, cells := 0, slots := 0, locals := 0 }) (va_Pc [.ref o] (CX (dC, dI) kA eD b g)) (va_Qi (fun (r : Int32) (u : Unit) => True) (fun (u : Unit) t => CX (dC, dI) kA eD b g t) (fun q => b ≤ q)) 0 0 (fun q => b ≤ q) := by
  refine Met.ofW (cc := cX3_money) (maxL := 1) (ret := (some .int)) (by decide +kernel) rfl ?_
  intro p e s m args below meth c s₁ B hml hv
  obtain ⟨rfl, hb0, hM, hK, hG, hE⟩ := hv
  have hx := B.exec
  have hb := B.bytes
  have hr := B.returns
  have hts := atoms_spec (ws := wsX3_money) B.pre
  have hown : s.vm.findClass RX3 = some m.cls := findClass_of_methodNamed B.named
  have hlocks := B.notSynchronized
  have hT := hE.1
  have hN := hE.2.2.2.2.2.2.2.1
  have hS : va_S (fun q => b ≤ q) s.heap s.heap [] := va_S.rf
  have hl := lv_entry ([.ref o]) (n := 1) (Nat.le_of_ble_eq_true rfl)
  rw [lg_entry_eq]
  generalize (lg_sl ([.ref o]) ++ List.replicate (1 - (lg_sl ([.ref o])).length) Slot.unset).toArray = ls at hl ⊢
  have hl : lv_has ls 1 [(0, .ref o)] := hl
  generalize ([.ref o] : List Value).toArray = args at hts ⊢
  refine lv_aload_n hx hb dX3_money_0 rfl (lv_at hl 0 rfl) ?_
  obtain ⟨u1, u2, u3, u4, hP, hf⟩ := o_sno (i := 0) (q := o) hM (by omega)
  refine va_get (D := (dC, dI)) (ci := 7) (v := .int u4) (C := RX3) (T := TX3) (N := 10) hx hb hts (by decide +kernel) hown hK hP 0 rfl rfl 9 (by decide) (hts (.fieldLink RX3 49 "Snowpalace" "funds" "I") (by decide +kernel)) (fun _ h9 => h9) rfl dX3_money_1 ?_
  refine W.widen (k := 0) (n := 0) (Nat.le_of_ble_eq_true rfl) (Nat.le_of_ble_eq_true rfl) ?_
  exact W.iret (v := u4) hx hb hr (fun t ht hW => ⟨⟨u4, (), rfl, trivial, CX.give hb0 hM hK hG hE hS ht hW⟩, hS.F ht⟩) hS.2.2 dX3_money_4

set_option maxHeartbeats 4000000 in
set_option maxRecDepth 100000 in
theorem rf_put (l : Launch) (hlt : l.stackTraces = false) (dC : Nat → ClassId) (dI : Nat → Nat → Nat) (kA : Nat → ClassId) (eD b : Nat) (g : Gh) (o : Nat) (site : Int32) (x : Int32) (y : Int32) (kd : Int32) (hto : tg g o = 1) (hkd : vp_nar .char kd = kd) (hs : ST g o) : vx_Met l yX3_put wsX3_put ({ frames := 6, cells := 1, slots := 6, locals := 137 }) (va_Pc [.ref o, .int site, .int x, .int y, .int kd] (CX (dC, dI) kA eD b g)) (va_Qi (fun (r : Int32) (u : Gh) => (∀ a : Nat, tg g a ≠ 0 → tg u a = tg g a) ∧ Sx XC g u ∧ ST u o) (fun (u : Gh) t => CX (dC, dI) kA eD b u t) (fun q => b ≤ q)) (vx_X (fun _ : Unit => True) (fun E _ t => (E = "java/lang/IndexOutOfBoundsException" ∨ E = "java/lang/IllegalArgumentException" ∨ E = "java/lang/UnsupportedOperationException" ∨ E = "java/lang/IllegalStateException") ∧ TM (dC, dI) kA b g t.heap) (fun q => b ≤ q)) 1 6 (fun q => b ≤ q) := by
  refine vx_ofW (cc := cX3_put) (maxL := 7) (ret := (some .int)) (by decide +kernel) rfl ?_
  intro p e s m args below meth c s₁ B hml hnt hv
  obtain ⟨rfl, hb0, hM, hK, hG, hE⟩ := hv
  have hx := B.exec
  have hb := B.bytes
  have hr := B.returns
  have hts := atoms_spec (ws := wsX3_put) B.pre
  have hown : s.vm.findClass RX3 = some m.cls := findClass_of_methodNamed B.named
  have hlocks := B.notSynchronized
  have hT := hE.1
  have hN := hE.2.2.2.2.2.2.2.1
  have hS : va_S (fun q => b ≤ q) s.heap s.heap [] := va_S.rf
  have hl := lv_entry ([.ref o, .int site, .int x, .int y, .int kd]) (n := 7) (Nat.le_of_ble_eq_true rfl)
  rw [lg_entry_eq]
  generalize (lg_sl ([.ref o, .int site, .int x, .int y, .int kd]) ++ List.replicate (7 - (lg_sl ([.ref o, .int site, .int x, .int y, .int kd])).length) Slot.unset).toArray = ls at hl ⊢
  have hl : lv_has ls 7 [(0, .ref o), (1, .int site), (2, .int x), (3, .int y), (4, .int kd)] := hl
  generalize ([.ref o, .int site, .int x, .int y, .int kd] : List Value).toArray = args at hts ⊢
  refine W.q (fun Q hQ => ?_)
  have hMg := hM
  refine lv_aload_n hx hb dX3_put_0 rfl (lv_at hl 0 rfl) ?_
  refine lv_iload_n hx hb dX3_put_1 rfl (lv_at hl 1 rfl) ?_
  refine lv_iload_n hx hb dX3_put_2 rfl (lv_at hl 2 rfl) ?_
  refine lv_iload_n hx hb dX3_put_3 rfl (lv_at hl 3 rfl) ?_
  obtain ⟨u1, u2, u3, u4, hP, hf⟩ := o_sno (i := 0) (q := o) hM (by omega)
  refine va_callq (va_runV (As := [.int site, .int x, .int y]) (rest := []) ⟨hx, hb, hml, hown, hts⟩ (rk_placedSite l dC dI kA eD b g o site x y (by omega)) (cwV 3 hts gX3_put_X3_placedSite rfl rfl rfl (by decide +kernel) ⟨Nat.le_of_ble_eq_true rfl, Nat.le_of_ble_eq_true rfl⟩) ⟨fb_CX, va_recv hK hP (ci := 7) (q0 := 0) rfl rfl, fun U hU hW => ⟨rfl, CX.give hb0 hM hK hG hE hS hU hW⟩⟩ rfl rfl hl.1 rfl (lv_room (Nat.le_of_ble_eq_true rfl)) dX3_put_4 ⟨(Nat.le_of_ble_eq_true rfl), (Nat.le_of_ble_eq_true rfl)⟩) hS (fun q _ h => h) (fun q h => h) (fun r5 u t H locs ht hvm hw6 hB hz1 hk1 hS => ?_)
  have hM := hB.back ht
  have hG := hB.2.2.2.1
  rcases hw6 with ⟨rfl, hn14⟩ | ⟨j7, a8, jx9, jy10, rfl, rfl, rfl, rfl, hjx9, hjy10, hj13, ho11, ht12⟩
  · skip
    refine lv_astoreN (lv' := [(5, .null), (0, .ref o), (1, .int site), (2, .int x), (3, .int y), (4, .int kd)]) hx hb dX3_put_7 hl (by decide) rfl (fun ls hl => ?_)
    refine lv_aloadN hx hb dX3_put_9 (lv_at hl 0 rfl) ?_
    refine lv_ifnonnullN hx hb dX3_put_11 ?_
    obtain ⟨sa, hsa⟩ := hT.2.1 (137, "no such site or place") (by decide +kernel)
    subst hQ
    exact vx_throwS (A := (fun q => b ≤ q)) (own := RX3) (cls := "java/lang/IndexOutOfBoundsException") (text := "no such site or place") (names := exN) hx hb hlt hown (by decide +kernel) (by decide +kernel) (hts (.classLink RX3 135 "java/lang/IndexOutOfBoundsException") (by decide +kernel)) (hts (.initialized "java/lang/IndexOutOfBoundsException") (by decide +kernel)) hsa (th_hat hT (fun w h => hts w (List.mem_cons_of_mem _ (List.mem_append_left _ (List.mem_append_left _ (List.mem_append_left _ (List.mem_append_left _ (List.mem_append_right _ h))))))) th_i4) (th_good th_i4) hT.2.2.2.1 hT.2.2.2.2 hS (hl.1.trans hml.symm) dX3_put_14 dX3_put_17 dX3_put_18 dX3_put_20 dX3_put_23 (fun x h => (hnt x h).elim) (by decide) (Nat.le_of_ble_eq_true rfl) (Nat.le_of_ble_eq_true rfl) (Nat.le_of_ble_eq_true rfl) hlocks (fun t ha h1 h2 => ⟨(), trivial, ⟨(Or.inl rfl), hM.keep h2⟩, th_F hS h1 h2⟩) hS.2.2 (Nat.le_of_ble_eq_true rfl) (Nat.le_of_ble_eq_true rfl)
  · skip
    have hl : lv_has ls 7 [(0, .ref o), (1, .int (nI j7)), (2, .int (nI jx9)), (3, .int (nI jy10)), (4, .int kd)] := hl
    refine lv_astore (lv' := [(5, .ref a8), (0, .ref o), (1, .int (nI j7)), (2, .int (nI jx9)), (3, .int (nI jy10)), (4, .int kd)]) hx hb dX3_put_7 hl (by decide) rfl (fun ls hl => ?_)
    refine lv_aload hx hb dX3_put_9 (lv_at hl 0 rfl) ?_
    refine lv_ifnonnull (tgt := 24) hx hb dX3_put_11 (by decide) ?_
    refine lv_iload hx hb dX3_put_24 (lv_at hl 5 rfl) ?_
    refine lv_bipush (v := 115) hx hb dX3_put_26 (by decide) ?_
    have jn15 : ∀  (H : Heap) (locs : List Loc) (ls : Array Slot), TM (dC, dI) kA b g H → va_S (fun q => b ≤ q) s.heap H locs → lv_has ls 7 [(5, .ref a8), (0, .ref o), (1, .int (nI j7)), (2, .int (nI jx9)), (3, .int (nI jy10)), (4, .int kd)] → W p l e (headSpec wsX3_put ({ frames := 6, cells := 1, slots := 6, locals := 137 })).room s m args below meth c H locs 0 0 Q (F0 m 55 ls []) := by
      intro H locs ls hM hS hl
      refine lv_iload_n hx hb dX3_put_55 rfl (lv_at hl 3 rfl) ?_
      refine lv_iload_n hx hb dX3_put_56 rfl (lv_at hl 4 rfl) ?_
      refine va_calli (va_runS (As := [.int (nI jx9), .int (nI jy10)]) (rest := []) ⟨hx, hb, hml, hown, hts⟩ (rk_placeOf l (nI jx9) (nI jy10)) (va_cwS 2 hts gX3_put_X3_placeOf rfl rfl rfl (by decide +kernel) ⟨Nat.le_of_ble_eq_true rfl, Nat.le_of_ble_eq_true rfl⟩) ⟨fun a U g mk q => q, fun U hU hW => ⟨rfl, trivial⟩⟩ rfl rfl hl.1 rfl (lv_room (Nat.le_of_ble_eq_true rfl)) dX3_put_57 ⟨(Nat.le_of_ble_eq_true rfl), (Nat.le_of_ble_eq_true rfl)⟩) hS (fun q _ h => h.elim) (fun q h => h.elim) (fun r16 u t H locs ht hvm hw17 hB hz1 hk1 hS => ?_)
      have hM := hM.keep (fun p hp => hk1 p hp (fun z => z))
      obtain rfl : r16 = nI (8 * jy10 + jx9) := hw17.trans (by rw [show (8 : Int32) = nI 8 from rfl]; exact (congrArg (· + nI jx9) (pk_mul 8 jy10)).trans (nI_add _ _))
      refine lv_istore (lv' := [(6, .int (nI (8 * jy10 + jx9))), (5, .ref a8), (0, .ref o), (1, .int (nI j7)), (2, .int (nI jx9)), (3, .int (nI jy10)), (4, .int kd)]) hx hb dX3_put_60 hl (by decide) rfl (fun ls hl => ?_)
      refine lv_aload hx hb dX3_put_62 (lv_at hl 1 rfl) ?_
      refine lv_iload hx hb dX3_put_64 (lv_at hl 0 rfl) ?_
      obtain ⟨u18, u19, u20, u21, u22, u23, hP, hf⟩ := o_st (i := j7) (q := a8) hM (by omega)
      refine va_calli (va_runV (As := [.int (nI (8 * jy10 + jx9))]) (rest := []) ⟨hx, hb, hml, hown, hts⟩ (rk_has l dC dI kA eD b g a8 j7 (nI (8 * jy10 + jx9)) (by omega)) (cwV 1 hts gX3_put_X1_has rfl rfl rfl (by decide +kernel) ⟨Nat.le_of_ble_eq_true rfl, Nat.le_of_ble_eq_true rfl⟩) ⟨fb_CX, va_recv hK hP (ci := 5) (q0 := 0) rfl rfl, fun U hU hW => ⟨rfl, CX.give hb0 hM hK hG hE hS hU hW⟩⟩ rfl rfl hl.1 rfl (lv_room (Nat.le_of_ble_eq_true rfl)) dX3_put_66 ⟨(Nat.le_of_ble_eq_true rfl), (Nat.le_of_ble_eq_true rfl)⟩) hS (fun q _ h => h.elim) (fun q h => h.elim) (fun r24 u t H locs ht hvm hw25 hB hz1 hk1 hS => ?_)
      have hM := hB.back ht
      have hG := hB.2.2.2.1
      have jn26 : ∀  (H : Heap) (locs : List Loc) (ls : Array Slot), TM (dC, dI) kA b g H → va_S (fun q => b ≤ q) s.heap H locs → lv_has ls 7 [(6, .int (nI (8 * jy10 + jx9))), (5, .ref a8), (0, .ref o), (1, .int (nI j7)), (2, .int (nI jx9)), (3, .int (nI jy10)), (4, .int kd)] → W p l e (headSpec wsX3_put ({ frames := 6, cells := 1, slots := 6, locals := 137 })).room s m args below meth c H locs 0 0 Q (F0 m 82 ls []) := by
        intro H locs ls hM hS hl
        obtain ⟨sa, hsa⟩ := hT.2.1 (152, "a cell is there, or it would not stand") (by decide +kernel)
        subst hQ
        exact vx_throwS (A := (fun q => b ≤ q)) (own := RX3) (cls := "java/lang/UnsupportedOperationException") (text := "a cell is there, or it would not stand") (names := exN) hx hb hlt hown (by decide +kernel) (by decide +kernel) (hts (.classLink RX3 63 "java/lang/UnsupportedOperationException") (by decide +kernel)) (hts (.initialized "java/lang/UnsupportedOperationException") (by decide +kernel)) hsa (th_hat hT (fun w h => hts w (List.mem_cons_of_mem _ (List.mem_append_left _ (List.mem_append_left _ (List.mem_append_right _ h))))) th_i2) (th_good th_i2) hT.2.2.2.1 hT.2.2.2.2 hS (hl.1.trans hml.symm) dX3_put_82 dX3_put_85 dX3_put_86 dX3_put_88 dX3_put_91 (fun x h => (hnt x h).elim) (by decide) (Nat.le_of_ble_eq_true rfl) (Nat.le_of_ble_eq_true rfl) (Nat.le_of_ble_eq_true rfl) hlocks (fun t ha h1 h2 => ⟨(), trivial, ⟨(Or.inr (Or.inr (Or.inl rfl))), hM.keep h2⟩, th_F hS h1 h2⟩) hS.2.2 (Nat.le_of_ble_eq_true rfl) (Nat.le_of_ble_eq_true rfl)
      refine lv_if_ne (tgt := 82) hx hb dX3_put_69 (by decide) (fun c27 => ?_) (fun c27 => ?_)
      · skip
        have hk28 : ¬ (pI g (pF g a8 0)) (8 * jy10 + jx9) = 46 := by obtain ⟨-, jz9, ez9, hz9, hz8⟩ := hw25.resolve_left (fun z => c27 z.1); rw [(nI_eq (a := (8 * jy10 + jx9)) (b := jz9) (by omega) (by omega)).mp ez9]; exact hz8
        exact jn26 H _ ls hM hS (lv_sub hl [0, 1, 2, 3, 4, 5, 6] rfl)
      · skip
        have hk29 : (pI g (pF g a8 0)) (8 * jy10 + jx9) = 46 := (hw25.resolve_right (fun z => absurd (z.1.symm.trans c27) (by decide))).2 (8 * jy10 + jx9) rfl (by omega)
        refine lv_aload hx hb dX3_put_72 (lv_at hl 1 rfl) ?_
        refine lv_iload hx hb dX3_put_74 (lv_at hl 0 rfl) ?_
        obtain ⟨u30, u31, u32, u33, u34, u35, hP, hf⟩ := o_st (i := j7) (q := a8) hM (by omega)
        refine va_calli (va_runV (As := [.int (nI (8 * jy10 + jx9))]) (rest := []) ⟨hx, hb, hml, hown, hts⟩ (rk_wouldStand l dC dI kA eD b g a8 j7 (8 * jy10 + jx9) (by omega) (by omega)) (cwV 1 hts gX3_put_X1_wouldStand rfl rfl rfl (by decide +kernel) ⟨Nat.le_of_ble_eq_true rfl, Nat.le_of_ble_eq_true rfl⟩) ⟨fb_CX, va_recv hK hP (ci := 5) (q0 := 0) rfl rfl, fun U hU hW => ⟨rfl, CX.give hb0 hM hK hG hE hS hU hW⟩⟩ rfl rfl hl.1 rfl (lv_room (Nat.le_of_ble_eq_true rfl)) dX3_put_76 ⟨(Nat.le_of_ble_eq_true rfl), (Nat.le_of_ble_eq_true rfl)⟩) hS (fun q _ h => h.elim) (fun q h => h.elim) (fun r36 u t H locs ht hvm hw37 hB hz1 hk1 hS => ?_)
        have hM := hB.back ht
        have hG := hB.2.2.2.1
        refine lv_if_ne (tgt := 92) hx hb dX3_put_79 (by decide) (fun c38 => ?_) (fun c38 => ?_)
        · skip
          have hk39 : WS (pI g (pF g a8 0)) (8 * jy10 + jx9) := (hw37.resolve_left (fun z => c38 z.1)).2
          refine lv_aload_n hx hb dX3_put_92 rfl (lv_at hl 2 rfl) ?_
          refine lv_iload hx hb dX3_put_93 (lv_at hl 6 rfl) ?_
          obtain ⟨u40, u41, u42, u43, hP, hf⟩ := o_sno (i := 0) (q := o) hM (by omega)
          refine va_calli (va_runV (As := [.int kd]) (rest := []) ⟨hx, hb, hml, hown, hts⟩ (rk_hasStuffFor l dC dI kA eD b g o kd (by omega)) (cwV 1 hts gX3_put_X3_hasStuffFor rfl rfl rfl (by decide +kernel) ⟨Nat.le_of_ble_eq_true rfl, Nat.le_of_ble_eq_true rfl⟩) ⟨fb_CX, va_recv hK hP (ci := 7) (q0 := 0) rfl rfl, fun U hU hW => ⟨rfl, CX.give hb0 hM hK hG hE hS hU hW⟩⟩ rfl rfl hl.1 rfl (lv_room (Nat.le_of_ble_eq_true rfl)) dX3_put_95 ⟨(Nat.le_of_ble_eq_true rfl), (Nat.le_of_ble_eq_true rfl)⟩) hS (fun q _ h => h) (fun q h => h) (fun r44 u t H locs ht hvm hw45 hB hz1 hk1 hS => ?_)
          have hM := hB.back ht
          have hG := hB.2.2.2.1
          refine lv_if_ne (tgt := 111) hx hb dX3_put_98 (by decide) (fun c46 => ?_) (fun c46 => ?_)
          · skip
            refine lv_aload_n hx hb dX3_put_111 rfl (lv_at hl 2 rfl) ?_
            refine lv_iload hx hb dX3_put_112 (lv_at hl 6 rfl) ?_
            obtain ⟨u47, u48, u49, u50, hP, hf⟩ := o_sno (i := 0) (q := o) hM (by omega)
            refine va_callv (va_runV (As := [.int kd]) (rest := []) ⟨hx, hb, hml, hown, hts⟩ (rk_useStuffFor l dC dI kA eD b g o kd (by omega)) (cwV 1 hts gX3_put_X3_useStuffFor rfl rfl rfl (by decide +kernel) ⟨Nat.le_of_ble_eq_true rfl, Nat.le_of_ble_eq_true rfl⟩) ⟨fb_CX, va_recv hK hP (ci := 7) (q0 := 0) rfl rfl, fun U hU hW => ⟨rfl, CX.give hb0 hM hK hG hE hS hU hW⟩⟩ rfl rfl hl.1 rfl (lv_room (Nat.le_of_ble_eq_true rfl)) dX3_put_114 ⟨(Nat.le_of_ble_eq_true rfl), (Nat.le_of_ble_eq_true rfl)⟩) hS (fun q _ h => h) (fun q h => h) (fun u t H locs ht hvm hw52 hB hz1 hk1 hS => ?_)
            have hM := hB.back ht
            have hG := hB.2.2.2.1
            refine lv_aload_n hx hb dX3_put_117 rfl (lv_at hl 2 rfl) ?_
            refine lv_dup hx hb dX3_put_118 rfl ?_
            obtain ⟨u53, u54, u55, u56, hP, hf⟩ := o_sno (i := 0) (q := o) hM (by omega)
            refine va_get (D := (dC, dI)) (ci := 7) (v := .int u56) (C := RX3) (T := TX3) (N := 10) hx hb hts (by decide +kernel) hown hK hP 0 rfl rfl 9 (by decide) (hts (.fieldLink RX3 49 "Snowpalace" "funds" "I") (by decide +kernel)) (fun _ h9 => h9) rfl dX3_put_119 ?_
            refine lv_bipush (v := 10) hx hb dX3_put_122 (by decide) ?_
            refine lv_isub hx hb dX3_put_124 ?_
            refine lv_topi (fun v57 e58 => ?_)
            obtain ⟨u59, u60, u61, u62, hP, hf⟩ := o_sno (i := 0) (q := o) hM (by omega)
            refine rt_put (D := (dC, dI)) (ci := 7) (v := .int v57) (ty := .int) (C := RX3) (T := TX3) (N := 10) hx hb hts (by decide +kernel) tyX3 tyX3_ok nmX3 hown hK hP (hM.ge (by omega)) hS rfl 9 (by decide) (hts (.fieldLink RX3 49 "Snowpalace" "funds" "I") (by decide +kernel)) (fun _ h9 => h9) rfl (by decide +kernel) rfl rfl (Nat.le_of_ble_eq_true rfl) dX3_put_125 (fun H locs hP hz ho hS => ?_)
            have hM := s_sno (i := 0) hM (by omega) hP ho hf
            refine lv_aload hx hb dX3_put_128 (lv_at hl 1 rfl) ?_
            refine lv_iload hx hb dX3_put_130 (lv_at hl 0 rfl) ?_
            refine lv_iload hx hb dX3_put_132 (lv_at hl 6 rfl) ?_
            obtain ⟨u63, u64, u65, u66, u67, u68, hP, hf⟩ := o_st (i := j7) (q := a8) hM (by omega)
            refine va_callv (va_runV (As := [.int (nI (8 * jy10 + jx9)), .int kd]) (rest := []) ⟨hx, hb, hml, hown, hts⟩ (rk_setCell l dC dI kA eD b g a8 j7 (8 * jy10 + jx9) kd (by omega) (by omega) hkd) (cwV 2 hts gX3_put_X1_setCell rfl rfl rfl (by decide +kernel) ⟨Nat.le_of_ble_eq_true rfl, Nat.le_of_ble_eq_true rfl⟩) ⟨fb_CX, va_recv hK hP (ci := 5) (q0 := 0) rfl rfl, fun U hU hW => ⟨rfl, CX.give hb0 hM hK hG hE hS hU hW⟩⟩ rfl rfl hl.1 rfl (lv_room (Nat.le_of_ble_eq_true rfl)) dX3_put_134 ⟨(Nat.le_of_ble_eq_true rfl), (Nat.le_of_ble_eq_true rfl)⟩) hS (fun q _ h => h) (fun q h => h) (fun g71 t H locs ht hvm hw70 hB hz1 hk1 hS => ?_)
            have hM := hB.back ht
            have hG := hB.2.2.2.1
            have hx72 : Sx (XD j7) g g71 := hw70.1
            have ht73 : tg g71 o = 1 := hx72.tk hto (by omega)
            have ht74 : tg g71 a8 = 12 + 64 * j7 := hx72.tk ht12 (by omega)
            refine lv_aload_n hx hb dX3_put_137 rfl (lv_at hl 2 rfl) ?_
            refine lv_aload hx hb dX3_put_138 (lv_at hl 1 rfl) ?_
            obtain ⟨u75, u76, u77, u78, hP, hf⟩ := o_sno (i := 0) (q := o) hM (by omega)
            refine va_calli (va_runV (As := [.ref a8]) (rest := []) ⟨hx, hb, hml, hown, hts⟩ (rk_letFall l dC dI kA eD b g71 o a8 j7 (by omega) (by omega)) (cwV 1 hts gX3_put_X3_letFall rfl rfl rfl (by decide +kernel) ⟨Nat.le_of_ble_eq_true rfl, Nat.le_of_ble_eq_true rfl⟩) ⟨fb_CX, va_recv hK hP (ci := 7) (q0 := 0) rfl rfl, fun U hU hW => ⟨rfl, CX.give hb0 hM hK hG hE hS hU hW⟩⟩ rfl rfl hl.1 rfl (lv_room (Nat.le_of_ble_eq_true rfl)) dX3_put_140 ⟨(Nat.le_of_ble_eq_true rfl), (Nat.le_of_ble_eq_true rfl)⟩) hS (fun q _ h => h) (fun q h => h) (fun r79 g81 t H locs ht hvm hw80 hB hz1 hk1 hS => ?_)
            have hM := hB.back ht
            have hG := hB.2.2.2.1
            have hx82 : Sx (XK j7) g71 g81 := hw80.1
            have ht83 : tg g81 o = 1 := hx82.tk ht73 (by omega)
            have ht84 : tg g81 a8 = 12 + 64 * j7 := hx82.tk ht74 (by omega)
            refine lv_pop hx hb dX3_put_143 rfl ?_
            refine lv_aload hx hb dX3_put_144 (lv_at hl 1 rfl) ?_
            obtain ⟨u85, u86, u87, u88, u89, u90, hP, hf⟩ := o_st (i := j7) (q := a8) hM (by omega)
            refine va_calli (va_runV (As := []) (rest := []) ⟨hx, hb, hml, hown, hts⟩ (rk_cellCount l dC dI kA eD b g81 a8 j7 (by omega)) (cwV 0 hts gX3_put_X1_cellCount rfl rfl rfl (by decide +kernel) ⟨Nat.le_of_ble_eq_true rfl, Nat.le_of_ble_eq_true rfl⟩) ⟨fb_CX, va_recv hK hP (ci := 5) (q0 := 0) rfl rfl, fun U hU hW => ⟨rfl, CX.give hb0 hM hK hG hE hS hU hW⟩⟩ rfl rfl hl.1 rfl (lv_room (Nat.le_of_ble_eq_true rfl)) dX3_put_146 ⟨(Nat.le_of_ble_eq_true rfl), (Nat.le_of_ble_eq_true rfl)⟩) hS (fun q _ h => h) (fun q h => h) (fun r91 u t H locs ht hvm hw92 hB hz1 hk1 hS => ?_)
            have hM := hB.back ht
            have hG := hB.2.2.2.1
            obtain ⟨q93, hq94, rfl⟩ := hw92
            subst hQ
            refine vx_ret ?_
            refine W.widen (k := 1) (n := 6) (Nat.le_of_ble_eq_true rfl) (Nat.le_of_ble_eq_true rfl) ?_
            exact W.iret (v := (nI q93)) hx hb hr (fun t ht hW => ⟨⟨(nI q93), g81, rfl, ⟨fun _ _ => (((hx72.wide (Y := XC) (fun t9 h9 => by simp only [XF, XD, XK, XC, XR, XG] at h9 ⊢; omega)).trans (hx82.wide (Y := XC) (fun t9 h9 => by simp only [XF, XD, XK, XC, XR, XG] at h9 ⊢; omega)))).T, ((hx72.wide (Y := XC) (fun t9 h9 => by simp only [XF, XD, XK, XC, XR, XG] at h9 ⊢; omega)).trans (hx82.wide (Y := XC) (fun t9 h9 => by simp only [XF, XD, XK, XC, XR, XG] at h9 ⊢; omega))), hs.at hMg hto ((hx72.wide (Y := (XK j7)) (fun t9 h9 => by simp only [XF, XD, XK, XC, XR, XG] at h9 ⊢; omega)).trans hx82) ho11 (by have h9 := hw80.2; rw [((hx72.wide (Y := XC) (fun t9 h9 => by simp only [XF, XD, XK, XC, XR, XG] at h9 ⊢; omega))).F] at h9; exact h9)⟩, CX.give hb0 hM hK hG hE hS ht hW⟩, hS.F ht⟩) hS.2.2 dX3_put_149
          · skip
            obtain ⟨sa, hsa⟩ := hT.2.1 (158, "no such block, or not as much snow") (by decide +kernel)
            subst hQ
            exact vx_throwS (A := (fun q => b ≤ q)) (own := RX3) (cls := "java/lang/IllegalStateException") (text := "no such block, or not as much snow") (names := exN) hx hb hlt hown (by decide +kernel) (by decide +kernel) (hts (.classLink RX3 92 "java/lang/IllegalStateException") (by decide +kernel)) (hts (.initialized "java/lang/IllegalStateException") (by decide +kernel)) hsa (th_hat hT (fun w h => hts w (List.mem_cons_of_mem _ (List.mem_append_left _ (List.mem_append_right _ h)))) th_i3) (th_good th_i3) hT.2.2.2.1 hT.2.2.2.2 hS (hl.1.trans hml.symm) dX3_put_101 dX3_put_104 dX3_put_105 dX3_put_107 dX3_put_110 (fun x h => (hnt x h).elim) (by decide) (Nat.le_of_ble_eq_true rfl) (Nat.le_of_ble_eq_true rfl) (Nat.le_of_ble_eq_true rfl) hlocks (fun t ha h1 h2 => ⟨(), trivial, ⟨(Or.inr (Or.inr (Or.inr rfl))), hM.keep h2⟩, th_F hS h1 h2⟩) hS.2.2 (Nat.le_of_ble_eq_true rfl) (Nat.le_of_ble_eq_true rfl)
        · skip
          have hk95 : ¬ WS (pI g (pF g a8 0)) (8 * jy10 + jx9) := (hw37.resolve_right (fun z => absurd (z.1.symm.trans c38) (by decide))).2
          exact jn26 H _ ls hM hS (lv_sub hl [0, 1, 2, 3, 4, 5, 6] rfl)
    refine lv_icmp_eq (tgt := 55) hx hb dX3_put_28 (by decide) (fun c96 => ?_) (fun c96 => ?_)
    · skip
      exact jn15 H _ ls hM hS (lv_sub hl [0, 1, 2, 3, 4, 5] rfl)
    · skip
      refine lv_iload hx hb dX3_put_31 (lv_at hl 5 rfl) ?_
      refine lv_bipush (v := 105) hx hb dX3_put_33 (by decide) ?_
      refine lv_icmp_eq (tgt := 55) hx hb dX3_put_35 (by decide) (fun c97 => ?_) (fun c97 => ?_)
      · skip
        exact jn15 H _ ls hM hS (lv_sub hl [0, 1, 2, 3, 4, 5] rfl)
      · skip
        refine lv_iload hx hb dX3_put_38 (lv_at hl 5 rfl) ?_
        refine lv_bipush (v := 99) hx hb dX3_put_40 (by decide) ?_
        refine lv_icmp_eq (tgt := 55) hx hb dX3_put_42 (by decide) (fun c98 => ?_) (fun c98 => ?_)
        · skip
          exact jn15 H _ ls hM hS (lv_sub hl [0, 1, 2, 3, 4, 5] rfl)
        · skip
          obtain ⟨sa, hsa⟩ := hT.2.1 (140, "no such kind") (by decide +kernel)
          subst hQ
          exact vx_throwS (A := (fun q => b ≤ q)) (own := RX3) (cls := "java/lang/IllegalArgumentException") (text := "no such kind") (names := exN) hx hb hlt hown (by decide +kernel) (by decide +kernel) (hts (.classLink RX3 56 "java/lang/IllegalArgumentException") (by decide +kernel)) (hts (.initialized "java/lang/IllegalArgumentException") (by decide +kernel)) hsa (th_hat hT (fun w h => hts w (List.mem_cons_of_mem _ (List.mem_append_left _ (List.mem_append_left _ (List.mem_append_left _ (List.mem_append_right _ h)))))) th_i1) (th_good th_i1) hT.2.2.2.1 hT.2.2.2.2 hS (hl.1.trans hml.symm) dX3_put_45 dX3_put_48 dX3_put_49 dX3_put_51 dX3_put_54 (fun x h => (hnt x h).elim) (by decide) (Nat.le_of_ble_eq_true rfl) (Nat.le_of_ble_eq_true rfl) (Nat.le_of_ble_eq_true rfl) hlocks (fun t ha h1 h2 => ⟨(), trivial, ⟨(Or.inr (Or.inl rfl)), hM.keep h2⟩, th_F hS h1 h2⟩) hS.2.2 (Nat.le_of_ble_eq_true rfl) (Nat.le_of_ble_eq_true rfl)

set_option maxHeartbeats 4000000 in
set_option maxRecDepth 100000 in
theorem rf_carve (l : Launch) (hlt : l.stackTraces = false) (dC : Nat → ClassId) (dI : Nat → Nat → Nat) (kA : Nat → ClassId) (eD b : Nat) (g : Gh) (o : Nat) (site : Int32) (x : Int32) (y : Int32) (ms : Int32) (hto : tg g o = 1) (hs : ST g o) : vx_Met l yX3_carve wzX3_carve ({ frames := 6, cells := 1, slots := 6, locals := 137 }) (va_Pc [.ref o, .int site, .int x, .int y, .int ms] (CX (dC, dI) kA eD b g)) (va_Qi (fun (r : Int32) (u : Gh) => (∀ a : Nat, tg g a ≠ 0 → tg u a = tg g a) ∧ Sx XC g u ∧ ST u o) (fun (u : Gh) t => CX (dC, dI) kA eD b u t) (fun q => b ≤ q)) (vx_X (fun _ : Unit => True) (fun E _ t => (E = "java/lang/IndexOutOfBoundsException" ∨ E = "java/lang/IllegalArgumentException" ∨ E = "java/util/NoSuchElementException" ∨ E = "java/lang/IllegalStateException" ∨ E = "java/lang/UnsupportedOperationException") ∧ TM (dC, dI) kA b g t.heap) (fun q => b ≤ q)) 1 6 (fun q => b ≤ q) := by
  refine vx_ofW (cc := cX3_carve) (maxL := 7) (ret := (some .int)) (by decide +kernel) rfl ?_
  intro p e s m args below meth c s₁ B hml hnt hv
  obtain ⟨rfl, hb0, hM, hK, hG, hE⟩ := hv
  have hx := B.exec
  have hb := B.bytes
  have hr := B.returns
  have hts := atoms_spec (ws := wzX3_carve) B.pre
  have hown : s.vm.findClass RX3 = some m.cls := findClass_of_methodNamed B.named
  have hlocks := B.notSynchronized
  have hT := hE.1
  have hN := hE.2.2.2.2.2.2.2.1
  have hS : va_S (fun q => b ≤ q) s.heap s.heap [] := va_S.rf
  have hl := lv_entry ([.ref o, .int site, .int x, .int y, .int ms]) (n := 7) (Nat.le_of_ble_eq_true rfl)
  rw [lg_entry_eq]
  generalize (lg_sl ([.ref o, .int site, .int x, .int y, .int ms]) ++ List.replicate (7 - (lg_sl ([.ref o, .int site, .int x, .int y, .int ms])).length) Slot.unset).toArray = ls at hl ⊢
  have hl : lv_has ls 7 [(0, .ref o), (1, .int site), (2, .int x), (3, .int y), (4, .int ms)] := hl
  generalize ([.ref o, .int site, .int x, .int y, .int ms] : List Value).toArray = args at hts ⊢
  refine W.q (fun Q hQ => ?_)
  have hMg := hM
  refine lv_aload_n hx hb dX3_carve_0 rfl (lv_at hl 0 rfl) ?_
  refine lv_iload_n hx hb dX3_carve_1 rfl (lv_at hl 1 rfl) ?_
  refine lv_iload_n hx hb dX3_carve_2 rfl (lv_at hl 2 rfl) ?_
  refine lv_iload_n hx hb dX3_carve_3 rfl (lv_at hl 3 rfl) ?_
  obtain ⟨u1, u2, u3, u4, hP, hf⟩ := o_sno (i := 0) (q := o) hM (by omega)
  refine va_callq (va_runV (As := [.int site, .int x, .int y]) (rest := []) ⟨hx, hb, hml, hown, hts⟩ (rk_placedSite l dC dI kA eD b g o site x y (by omega)) (cwV 3 hts gX3_carve_X3_placedSite rfl rfl rfl (by decide +kernel) ⟨Nat.le_of_ble_eq_true rfl, Nat.le_of_ble_eq_true rfl⟩) ⟨fb_CX, va_recv hK hP (ci := 7) (q0 := 0) rfl rfl, fun U hU hW => ⟨rfl, CX.give hb0 hM hK hG hE hS hU hW⟩⟩ rfl rfl hl.1 rfl (lv_room (Nat.le_of_ble_eq_true rfl)) dX3_carve_4 ⟨(Nat.le_of_ble_eq_true rfl), (Nat.le_of_ble_eq_true rfl)⟩) hS (fun q _ h => h) (fun q h => h) (fun r5 u t H locs ht hvm hw6 hB hz1 hk1 hS => ?_)
  have hM := hB.back ht
  have hG := hB.2.2.2.1
  rcases hw6 with ⟨rfl, hn14⟩ | ⟨j7, a8, jx9, jy10, rfl, rfl, rfl, rfl, hjx9, hjy10, hj13, ho11, ht12⟩
  · skip
    refine lv_astoreN (lv' := [(5, .null), (0, .ref o), (1, .int site), (2, .int x), (3, .int y), (4, .int ms)]) hx hb dX3_carve_7 hl (by decide) rfl (fun ls hl => ?_)
    refine lv_aloadN hx hb dX3_carve_9 (lv_at hl 0 rfl) ?_
    refine lv_ifnonnullN hx hb dX3_carve_11 ?_
    obtain ⟨sa, hsa⟩ := hT.2.1 (137, "no such site or place") (by decide +kernel)
    subst hQ
    exact vx_throwS (A := (fun q => b ≤ q)) (own := RX3) (cls := "java/lang/IndexOutOfBoundsException") (text := "no such site or place") (names := exN) hx hb hlt hown (by decide +kernel) (by decide +kernel) (hts (.classLink RX3 135 "java/lang/IndexOutOfBoundsException") (by decide +kernel)) (hts (.initialized "java/lang/IndexOutOfBoundsException") (by decide +kernel)) hsa (th_hat hT (fun w h => hts w (List.mem_cons_of_mem _ (List.mem_append_left _ (List.mem_append_left _ (List.mem_append_left _ (List.mem_append_left _ (List.mem_append_right _ h))))))) th_i4) (th_good th_i4) hT.2.2.2.1 hT.2.2.2.2 hS (hl.1.trans hml.symm) dX3_carve_14 dX3_carve_17 dX3_carve_18 dX3_carve_20 dX3_carve_23 (fun x h => (hnt x h).elim) (by decide) (Nat.le_of_ble_eq_true rfl) (Nat.le_of_ble_eq_true rfl) (Nat.le_of_ble_eq_true rfl) hlocks (fun t ha h1 h2 => ⟨(), trivial, ⟨(Or.inl rfl), hM.keep h2⟩, th_F hS h1 h2⟩) hS.2.2 (Nat.le_of_ble_eq_true rfl) (Nat.le_of_ble_eq_true rfl)
  · skip
    have hl : lv_has ls 7 [(0, .ref o), (1, .int (nI j7)), (2, .int (nI jx9)), (3, .int (nI jy10)), (4, .int ms)] := hl
    refine lv_astore (lv' := [(5, .ref a8), (0, .ref o), (1, .int (nI j7)), (2, .int (nI jx9)), (3, .int (nI jy10)), (4, .int ms)]) hx hb dX3_carve_7 hl (by decide) rfl (fun ls hl => ?_)
    refine lv_aload hx hb dX3_carve_9 (lv_at hl 0 rfl) ?_
    refine lv_ifnonnull (tgt := 24) hx hb dX3_carve_11 (by decide) ?_
    refine lv_iload hx hb dX3_carve_24 (lv_at hl 5 rfl) ?_
    refine lv_iconst (v := 0) hx hb dX3_carve_26 (by decide) ?_
    refine lv_sipush (v := 200) hx hb dX3_carve_27 (by decide) ?_
    refine va_calli (va_runS (As := [.int ms, .int 0, .int 200]) (rest := []) ⟨hx, hb, hml, hown, hts⟩ (rk_isWithin l ms 0 200 (0) (200) (by decide) (by decide)) (va_cwS 3 hts gX3_carve_X3_isWithin rfl rfl rfl (by decide +kernel) ⟨Nat.le_of_ble_eq_true rfl, Nat.le_of_ble_eq_true rfl⟩) ⟨fun a U g mk q => q, fun U hU hW => ⟨rfl, trivial⟩⟩ rfl rfl hl.1 rfl (lv_room (Nat.le_of_ble_eq_true rfl)) dX3_carve_30 ⟨(Nat.le_of_ble_eq_true rfl), (Nat.le_of_ble_eq_true rfl)⟩) hS (fun q _ h => h.elim) (fun q h => h.elim) (fun r15 u t H locs ht hvm hw16 hB hz1 hk1 hS => ?_)
    have hM := hM.keep (fun p hp => hk1 p hp (fun z => z))
    have hw16 : r15 = bI ((0 : Int) ≤ ms.toInt ∧ ms.toInt ≤ (200 : Int)) := hw16
    refine lv_if_ne (tgt := 47) hx hb dX3_carve_33 (by decide) (fun c17 => ?_) (fun c17 => ?_)
    · skip
      have g18 : (0 : Int) ≤ ms.toInt ∧ ms.toInt ≤ (200 : Int) := bI_t hw16 c17
      have zg18 : r15 = 1 := bI_t1 hw16 g18
      refine lv_iload_n hx hb dX3_carve_47 rfl (lv_at hl 3 rfl) ?_
      refine lv_iload_n hx hb dX3_carve_48 rfl (lv_at hl 4 rfl) ?_
      refine va_calli (va_runS (As := [.int (nI jx9), .int (nI jy10)]) (rest := []) ⟨hx, hb, hml, hown, hts⟩ (rk_placeOf l (nI jx9) (nI jy10)) (va_cwS 2 hts gX3_carve_X3_placeOf rfl rfl rfl (by decide +kernel) ⟨Nat.le_of_ble_eq_true rfl, Nat.le_of_ble_eq_true rfl⟩) ⟨fun a U g mk q => q, fun U hU hW => ⟨rfl, trivial⟩⟩ rfl rfl hl.1 rfl (lv_room (Nat.le_of_ble_eq_true rfl)) dX3_carve_49 ⟨(Nat.le_of_ble_eq_true rfl), (Nat.le_of_ble_eq_true rfl)⟩) hS (fun q _ h => h.elim) (fun q h => h.elim) (fun r19 u t H locs ht hvm hw20 hB hz1 hk1 hS => ?_)
      have hM := hM.keep (fun p hp => hk1 p hp (fun z => z))
      obtain rfl : r19 = nI (8 * jy10 + jx9) := hw20.trans (by rw [show (8 : Int32) = nI 8 from rfl]; exact (congrArg (· + nI jx9) (pk_mul 8 jy10)).trans (nI_add _ _))
      refine lv_istore (lv' := [(6, .int (nI (8 * jy10 + jx9))), (5, .ref a8), (0, .ref o), (1, .int (nI j7)), (2, .int (nI jx9)), (3, .int (nI jy10)), (4, .int ms)]) hx hb dX3_carve_52 hl (by decide) rfl (fun ls hl => ?_)
      refine lv_aload hx hb dX3_carve_54 (lv_at hl 1 rfl) ?_
      refine lv_iload hx hb dX3_carve_56 (lv_at hl 0 rfl) ?_
      obtain ⟨u21, u22, u23, u24, u25, u26, hP, hf⟩ := o_st (i := j7) (q := a8) hM (by omega)
      refine va_calli (va_runV (As := [.int (nI (8 * jy10 + jx9))]) (rest := []) ⟨hx, hb, hml, hown, hts⟩ (rk_has l dC dI kA eD b g a8 j7 (nI (8 * jy10 + jx9)) (by omega)) (cwV 1 hts gX3_carve_X1_has rfl rfl rfl (by decide +kernel) ⟨Nat.le_of_ble_eq_true rfl, Nat.le_of_ble_eq_true rfl⟩) ⟨fb_CX, va_recv hK hP (ci := 5) (q0 := 0) rfl rfl, fun U hU hW => ⟨rfl, CX.give hb0 hM hK hG hE hS hU hW⟩⟩ rfl rfl hl.1 rfl (lv_room (Nat.le_of_ble_eq_true rfl)) dX3_carve_58 ⟨(Nat.le_of_ble_eq_true rfl), (Nat.le_of_ble_eq_true rfl)⟩) hS (fun q _ h => h.elim) (fun q h => h.elim) (fun r27 u t H locs ht hvm hw28 hB hz1 hk1 hS => ?_)
      have hM := hB.back ht
      have hG := hB.2.2.2.1
      refine lv_if_ne (tgt := 74) hx hb dX3_carve_61 (by decide) (fun c29 => ?_) (fun c29 => ?_)
      · skip
        have hk30 : ¬ (pI g (pF g a8 0)) (8 * jy10 + jx9) = 46 := by obtain ⟨-, jz9, ez9, hz9, hz8⟩ := hw28.resolve_left (fun z => c29 z.1); rw [(nI_eq (a := (8 * jy10 + jx9)) (b := jz9) (by omega) (by omega)).mp ez9]; exact hz8
        refine lv_aload hx hb dX3_carve_74 (lv_at hl 1 rfl) ?_
        obtain ⟨u31, u32, u33, u34, u35, u36, hP, hf⟩ := o_st (i := j7) (q := a8) hM (by omega)
        refine va_get (D := (dC, dI)) (ci := 5) (v := .int u34) (C := RX1) (T := TX1) (N := 15) hx hb hts (by decide +kernel) hown hK hP 0 rfl rfl 12 (by decide) (hts (.fieldLink RX3 274 "Snowpalace$Site" "carvedHours" "I") (by decide +kernel)) (fun _ h9 => h9) rfl dX3_carve_76 ?_
        refine lv_bipush (v := 60) hx hb dX3_carve_79 (by decide) ?_
        refine lv_icmp_lt (tgt := 95) hx hb dX3_carve_81 (by decide) (fun c37 => ?_) (fun c37 => ?_)
        · skip
          have i38 := (Int32.lt_iff_toInt_lt).mp c37
          have ii38 : (60 : Int32).toInt = 60 := by decide
          have i38 := i38
          refine lv_iload hx hb dX3_carve_95 (lv_at hl 6 rfl) ?_
          have jn39 : ∀  (H : Heap) (locs : List Loc) (ls : Array Slot), TM (dC, dI) kA b g H → va_S (fun q => b ≤ q) s.heap H locs → lv_has ls 7 [(6, .int (nI (8 * jy10 + jx9))), (5, .ref a8), (0, .ref o), (1, .int (nI j7)), (2, .int (nI jx9)), (3, .int (nI jy10)), (4, .int ms)] → W p l e (headSpec wzX3_carve ({ frames := 6, cells := 1, slots := 6, locals := 137 })).room s m args below meth c H locs 0 0 Q (F0 m 127 ls []) := by
            intro H locs ls hM hS hl
            refine lv_aload hx hb dX3_carve_127 (lv_at hl 1 rfl) ?_
            refine lv_dup hx hb dX3_carve_129 rfl ?_
            obtain ⟨u40, u41, u42, u43, u44, u45, hP, hf⟩ := o_st (i := j7) (q := a8) hM (by omega)
            refine va_get (D := (dC, dI)) (ci := 5) (v := .int u43) (C := RX1) (T := TX1) (N := 15) hx hb hts (by decide +kernel) hown hK hP 0 rfl rfl 12 (by decide) (hts (.fieldLink RX3 274 "Snowpalace$Site" "carvedHours" "I") (by decide +kernel)) (fun _ h9 => h9) rfl dX3_carve_130 ?_
            refine lv_iconst (v := 1) hx hb dX3_carve_133 (by decide) ?_
            refine lv_iadd hx hb dX3_carve_134 ?_
            refine lv_topi (fun v46 e47 => ?_)
            obtain ⟨u48, u49, u50, u51, u52, u53, hP, hf⟩ := o_st (i := j7) (q := a8) hM (by omega)
            refine rt_put (D := (dC, dI)) (ci := 5) (v := .int v46) (ty := .int) (C := RX1) (T := TX1) (N := 15) hx hb hts (by decide +kernel) tyX1 tyX1_ok nmX1 hown hK hP (hM.ge (by omega)) hS rfl 12 (by decide) (hts (.fieldLink RX3 274 "Snowpalace$Site" "carvedHours" "I") (by decide +kernel)) (fun _ h9 => h9) rfl (by decide +kernel) rfl rfl (Nat.le_of_ble_eq_true rfl) dX3_carve_135 (fun H locs hP hz ho hS => ?_)
            have hM := s_st (i := j7) hM (by omega) hP ho hf
            refine lv_iload hx hb dX3_carve_138 (lv_at hl 6 rfl) ?_
            refine lv_if_le (tgt := 159) hx hb dX3_carve_140 (by decide) (fun c54 => ?_) (fun c54 => ?_)
            · skip
              have i55 := (Int32.le_iff_toInt_le).mp c54
              have ii55 : (0 : Int32).toInt = 0 := by decide
              have i55 := i55
              refine lv_aload hx hb dX3_carve_159 (lv_at hl 1 rfl) ?_
              refine lv_iload hx hb dX3_carve_161 (lv_at hl 0 rfl) ?_
              obtain ⟨u56, u57, u58, u59, u60, u61, hP, hf⟩ := o_st (i := j7) (q := a8) hM (by omega)
              refine va_callv (va_runV (As := [.int (nI (8 * jy10 + jx9))]) (rest := []) ⟨hx, hb, hml, hown, hts⟩ (rk_removeCell l dC dI kA eD b g a8 j7 (8 * jy10 + jx9) (by omega) (by omega)) (cwV 1 hts gX3_carve_X1_removeCell rfl rfl rfl (by decide +kernel) ⟨Nat.le_of_ble_eq_true rfl, Nat.le_of_ble_eq_true rfl⟩) ⟨fb_CX, va_recv hK hP (ci := 5) (q0 := 0) rfl rfl, fun U hU hW => ⟨rfl, CX.give hb0 hM hK hG hE hS hU hW⟩⟩ rfl rfl hl.1 rfl (lv_room (Nat.le_of_ble_eq_true rfl)) dX3_carve_163 ⟨(Nat.le_of_ble_eq_true rfl), (Nat.le_of_ble_eq_true rfl)⟩) hS (fun q _ h => h) (fun q h => h) (fun g64 t H locs ht hvm hw63 hB hz1 hk1 hS => ?_)
              have hM := hB.back ht
              have hG := hB.2.2.2.1
              have hx65 : Sx (XD j7) g g64 := hw63.1
              have ht66 : tg g64 o = 1 := hx65.tk hto (by omega)
              have ht67 : tg g64 a8 = 12 + 64 * j7 := hx65.tk ht12 (by omega)
              refine lv_aload_n hx hb dX3_carve_166 rfl (lv_at hl 2 rfl) ?_
              refine lv_aload hx hb dX3_carve_167 (lv_at hl 1 rfl) ?_
              obtain ⟨u68, u69, u70, u71, hP, hf⟩ := o_sno (i := 0) (q := o) hM (by omega)
              refine va_calli (va_runV (As := [.ref a8]) (rest := []) ⟨hx, hb, hml, hown, hts⟩ (rk_letFall l dC dI kA eD b g64 o a8 j7 (by omega) (by omega)) (cwV 1 hts gX3_carve_X3_letFall rfl rfl rfl (by decide +kernel) ⟨Nat.le_of_ble_eq_true rfl, Nat.le_of_ble_eq_true rfl⟩) ⟨fb_CX, va_recv hK hP (ci := 7) (q0 := 0) rfl rfl, fun U hU hW => ⟨rfl, CX.give hb0 hM hK hG hE hS hU hW⟩⟩ rfl rfl hl.1 rfl (lv_room (Nat.le_of_ble_eq_true rfl)) dX3_carve_169 ⟨(Nat.le_of_ble_eq_true rfl), (Nat.le_of_ble_eq_true rfl)⟩) hS (fun q _ h => h) (fun q h => h) (fun r72 g74 t H locs ht hvm hw73 hB hz1 hk1 hS => ?_)
              have hM := hB.back ht
              have hG := hB.2.2.2.1
              have hx75 : Sx (XK j7) g64 g74 := hw73.1
              have ht76 : tg g74 o = 1 := hx75.tk ht66 (by omega)
              have ht77 : tg g74 a8 = 12 + 64 * j7 := hx75.tk ht67 (by omega)
              subst hQ
              refine vx_ret ?_
              refine W.widen (k := 1) (n := 6) (Nat.le_of_ble_eq_true rfl) (Nat.le_of_ble_eq_true rfl) ?_
              exact W.iret (v := r72) hx hb hr (fun t ht hW => ⟨⟨r72, g74, rfl, ⟨fun _ _ => (((hx65.wide (Y := XC) (fun t9 h9 => by simp only [XF, XD, XK, XC, XR, XG] at h9 ⊢; omega)).trans (hx75.wide (Y := XC) (fun t9 h9 => by simp only [XF, XD, XK, XC, XR, XG] at h9 ⊢; omega)))).T, ((hx65.wide (Y := XC) (fun t9 h9 => by simp only [XF, XD, XK, XC, XR, XG] at h9 ⊢; omega)).trans (hx75.wide (Y := XC) (fun t9 h9 => by simp only [XF, XD, XK, XC, XR, XG] at h9 ⊢; omega))), hs.at hMg hto ((hx65.wide (Y := (XK j7)) (fun t9 h9 => by simp only [XF, XD, XK, XC, XR, XG] at h9 ⊢; omega)).trans hx75) ho11 (by have h9 := hw73.2; rw [((hx65.wide (Y := XC) (fun t9 h9 => by simp only [XF, XD, XK, XC, XR, XG] at h9 ⊢; omega))).F] at h9; exact h9)⟩, CX.give hb0 hM hK hG hE hS ht hW⟩, hS.F ht⟩) hS.2.2 dX3_carve_172
            · skip
              have i78 := fun z => c54 ((Int32.le_iff_toInt_le).mpr z)
              have ii78 : (0 : Int32).toInt = 0 := by decide
              have i78 : ¬ ((ms : Int32).toInt ≤ (0 : Int32).toInt) := i78
              refine lv_aload hx hb dX3_carve_143 (lv_at hl 1 rfl) ?_
              obtain ⟨u79, u80, u81, u82, u83, u84, hP, hf⟩ := o_st (i := j7) (q := a8) hM (by omega)
              refine va_get (D := (dC, dI)) (ci := 5) (v := .ref (pF g a8 1)) (C := RX1) (T := TX1) (N := 15) hx hb hts (by decide +kernel) hown hK hP 0 rfl rfl 1 (by decide) (hts (.fieldLink RX3 185 "Snowpalace$Site" "masses" "[I") (by decide +kernel)) (fun _ h9 => h9) rfl dX3_carve_145 ?_
              have ht85 : tg g (pF g a8 1) = 21 := hf.2.1
              refine lv_iload hx hb dX3_carve_148 (lv_at hl 0 rfl) ?_
              refine lv_dup2_11 hx hb dX3_carve_150 rfl rfl ?_
              obtain ⟨u86, hP, hf⟩ := o_ma (i := 0) (q := (pF g a8 1)) hM (by omega)
              refine va_iald (D := (dC, dI)) hx hb hK hP 0 0 rfl rfl (vp_in_nI (by omega) (by decide)) dX3_carve_151 ?_
              refine lv_topi (fun v87 e88 => ?_)
              have ec : ((nI (8 * jy10 + jx9)) : Int32).toNatClampNeg = (8 * jy10 + jx9) := nI_clamp (by omega)
              rw [ec] at e88
              refine lv_iload hx hb dX3_carve_152 (lv_at hl 6 rfl) ?_
              refine lv_isub hx hb dX3_carve_154 ?_
              refine lv_topi (fun v89 e90 => ?_)
              obtain ⟨u91, hP, hf⟩ := o_ma (i := 0) (q := (pF g a8 1)) hM (by omega)
              refine rt_iast (D := (dC, dI)) (t0 := 0) hx hb hK hP (hM.ge (by omega)) hS rfl (vp_in_nI (by omega) (by decide)) dX3_carve_155 (fun H locs hP hz ho hS => ?_)
              have ec : ((nI (8 * jy10 + jx9)) : Int32).toNatClampNeg = (8 * jy10 + jx9) := nI_clamp (by omega)
              rw [ec] at hP
              have hM := s_ma (i := 0) hM (by omega) hP ho hf
              refine lv_goto (tgt := 166) hx hb dX3_carve_156 (by decide) ?_
              refine lv_aload_n hx hb dX3_carve_166 rfl (lv_at hl 2 rfl) ?_
              refine lv_aload hx hb dX3_carve_167 (lv_at hl 1 rfl) ?_
              obtain ⟨u92, u93, u94, u95, hP, hf⟩ := o_sno (i := 0) (q := o) hM (by omega)
              refine va_calli (va_runV (As := [.ref a8]) (rest := []) ⟨hx, hb, hml, hown, hts⟩ (rk_letFall l dC dI kA eD b g o a8 j7 (by omega) (by omega)) (cwV 1 hts gX3_carve_X3_letFall rfl rfl rfl (by decide +kernel) ⟨Nat.le_of_ble_eq_true rfl, Nat.le_of_ble_eq_true rfl⟩) ⟨fb_CX, va_recv hK hP (ci := 7) (q0 := 0) rfl rfl, fun U hU hW => ⟨rfl, CX.give hb0 hM hK hG hE hS hU hW⟩⟩ rfl rfl hl.1 rfl (lv_room (Nat.le_of_ble_eq_true rfl)) dX3_carve_169 ⟨(Nat.le_of_ble_eq_true rfl), (Nat.le_of_ble_eq_true rfl)⟩) hS (fun q _ h => h) (fun q h => h) (fun r96 g98 t H locs ht hvm hw97 hB hz1 hk1 hS => ?_)
              have hM := hB.back ht
              have hG := hB.2.2.2.1
              have hx99 : Sx (XK j7) g g98 := hw97.1
              have ht100 : tg g98 o = 1 := hx99.tk hto (by omega)
              have ht101 : tg g98 a8 = 12 + 64 * j7 := hx99.tk ht12 (by omega)
              have ht102 : tg g98 (pF g a8 1) = 21 := hx99.tk ht85 (by omega)
              subst hQ
              refine vx_ret ?_
              refine W.widen (k := 1) (n := 6) (Nat.le_of_ble_eq_true rfl) (Nat.le_of_ble_eq_true rfl) ?_
              exact W.iret (v := r96) hx hb hr (fun t ht hW => ⟨⟨r96, g98, rfl, ⟨fun _ _ => ((hx99.wide (Y := XC) (fun t9 h9 => by simp only [XF, XD, XK, XC, XR, XG] at h9 ⊢; omega))).T, (hx99.wide (Y := XC) (fun t9 h9 => by simp only [XF, XD, XK, XC, XR, XG] at h9 ⊢; omega)), hs.at hMg hto hx99 ho11 (by have h9 := hw97.2; exact h9)⟩, CX.give hb0 hM hK hG hE hS ht hW⟩, hS.F ht⟩) hS.2.2 dX3_carve_172
          refine lv_if_le (tgt := 127) hx hb dX3_carve_97 (by decide) (fun c103 => ?_) (fun c103 => ?_)
          · skip
            have i104 := (Int32.le_iff_toInt_le).mp c103
            have ii104 : (0 : Int32).toInt = 0 := by decide
            have i104 := i104
            exact jn39 H _ ls hM hS (lv_sub hl [0, 1, 2, 3, 4, 5, 6] rfl)
          · skip
            have i105 := fun z => c103 ((Int32.le_iff_toInt_le).mpr z)
            have ii105 : (0 : Int32).toInt = 0 := by decide
            have i105 : ¬ ((ms : Int32).toInt ≤ (0 : Int32).toInt) := i105
            refine lv_aload hx hb dX3_carve_100 (lv_at hl 1 rfl) ?_
            obtain ⟨u106, u107, u108, u109, u110, u111, hP, hf⟩ := o_st (i := j7) (q := a8) hM (by omega)
            refine va_get (D := (dC, dI)) (ci := 5) (v := .ref (pF g a8 1)) (C := RX1) (T := TX1) (N := 15) hx hb hts (by decide +kernel) hown hK hP 0 rfl rfl 1 (by decide) (hts (.fieldLink RX3 185 "Snowpalace$Site" "masses" "[I") (by decide +kernel)) (fun _ h9 => h9) rfl dX3_carve_102 ?_
            have ht112 : tg g (pF g a8 1) = 21 := hf.2.1
            refine lv_iload hx hb dX3_carve_105 (lv_at hl 0 rfl) ?_
            obtain ⟨u113, hP, hf⟩ := o_ma (i := 0) (q := (pF g a8 1)) hM (by omega)
            refine va_iald (D := (dC, dI)) hx hb hK hP 0 0 rfl rfl (vp_in_nI (by omega) (by decide)) dX3_carve_107 ?_
            refine lv_topi (fun v114 e115 => ?_)
            have ec : ((nI (8 * jy10 + jx9)) : Int32).toNatClampNeg = (8 * jy10 + jx9) := nI_clamp (by omega)
            rw [ec] at e115
            refine lv_iload hx hb dX3_carve_108 (lv_at hl 6 rfl) ?_
            refine lv_isub hx hb dX3_carve_110 ?_
            refine lv_topi (fun v116 e117 => ?_)
            refine lv_bipush (v := 100) hx hb dX3_carve_111 (by decide) ?_
            refine lv_icmp_gt (tgt := 127) hx hb dX3_carve_113 (by decide) (fun c118 => ?_) (fun c118 => ?_)
            · skip
              have i119 := (Int32.lt_iff_toInt_lt).mp c118
              have ii119 : (100 : Int32).toInt = 100 := by decide
              have i119 := i119
              exact jn39 H _ ls hM hS (lv_sub hl [0, 1, 2, 3, 4, 5, 6] rfl)
            · skip
              have i120 := fun z => c118 ((Int32.lt_iff_toInt_lt).mpr z)
              have ii120 : (100 : Int32).toInt = 100 := by decide
              have i120 : ¬ ((100 : Int32).toInt < (v116 : Int32).toInt) := i120
              obtain ⟨sa, hsa⟩ := hT.2.1 (279, "too little would be left") (by decide +kernel)
              subst hQ
              exact vx_throwSW (A := (fun q => b ≤ q)) (own := RX3) (cls := "java/lang/UnsupportedOperationException") (text := "too little would be left") (names := exN) hx hb hlt hown (by decide +kernel) (by decide +kernel) (hts (.classLink RX3 63 "java/lang/UnsupportedOperationException") (by decide +kernel)) (hts (.initialized "java/lang/UnsupportedOperationException") (by decide +kernel)) hsa (th_hat hT (fun w h => hts w (List.mem_cons_of_mem _ (List.mem_append_right _ h))) th_i2) (th_good th_i2) hT.2.2.2.1 hT.2.2.2.2 hS (hl.1.trans hml.symm) dX3_carve_116 dX3_carve_119 dX3_carve_120 dX3_carve_123 dX3_carve_126 (fun x h => (hnt x h).elim) (by decide) (Nat.le_of_ble_eq_true rfl) (Nat.le_of_ble_eq_true rfl) (Nat.le_of_ble_eq_true rfl) hlocks (fun t ha h1 h2 => ⟨(), trivial, ⟨(Or.inr (Or.inr (Or.inr (Or.inr rfl)))), hM.keep h2⟩, th_F hS h1 h2⟩) hS.2.2 (Nat.le_of_ble_eq_true rfl) (Nat.le_of_ble_eq_true rfl)
        · skip
          have i121 := fun z => c37 ((Int32.lt_iff_toInt_lt).mpr z)
          have ii121 : (60 : Int32).toInt = 60 := by decide
          have i121 : ¬ ((u34 : Int32).toInt < (60 : Int32).toInt) := i121
          obtain ⟨sa, hsa⟩ := hT.2.1 (277, "60 hours were carved") (by decide +kernel)
          subst hQ
          exact vx_throwSW (A := (fun q => b ≤ q)) (own := RX3) (cls := "java/lang/IllegalStateException") (text := "60 hours were carved") (names := exN) hx hb hlt hown (by decide +kernel) (by decide +kernel) (hts (.classLink RX3 92 "java/lang/IllegalStateException") (by decide +kernel)) (hts (.initialized "java/lang/IllegalStateException") (by decide +kernel)) hsa (th_hat hT (fun w h => hts w (List.mem_cons_of_mem _ (List.mem_append_left _ (List.mem_append_left _ (List.mem_append_right _ h))))) th_i3) (th_good th_i3) hT.2.2.2.1 hT.2.2.2.2 hS (hl.1.trans hml.symm) dX3_carve_84 dX3_carve_87 dX3_carve_88 dX3_carve_91 dX3_carve_94 (fun x h => (hnt x h).elim) (by decide) (Nat.le_of_ble_eq_true rfl) (Nat.le_of_ble_eq_true rfl) (Nat.le_of_ble_eq_true rfl) hlocks (fun t ha h1 h2 => ⟨(), trivial, ⟨(Or.inr (Or.inr (Or.inr (Or.inl rfl)))), hM.keep h2⟩, th_F hS h1 h2⟩) hS.2.2 (Nat.le_of_ble_eq_true rfl) (Nat.le_of_ble_eq_true rfl)
      · skip
        have hk122 : (pI g (pF g a8 0)) (8 * jy10 + jx9) = 46 := (hw28.resolve_right (fun z => absurd (z.1.symm.trans c29) (by decide))).2 (8 * jy10 + jx9) rfl (by omega)
        obtain ⟨sa, hsa⟩ := hT.2.1 (182, "no cell is there") (by decide +kernel)
        subst hQ
        exact rt_throwSX (A := (fun q => b ≤ q)) (own := RX3) (cls := "java/util/NoSuchElementException") (text := "no cell is there") (names := exN) (ix := 13) (rx := prog_38_method_4_code) hx hb hlt rx13_0 rx13_1 rx13_2 rx13_5 hown (by decide +kernel) (by decide +kernel) (hts (.classLink RX3 180 "java/util/NoSuchElementException") (by decide +kernel)) hE.2.2.2.2.2.2.2.2.ini hsa hE.2.2.2.2.2.2.2.2.hat nse_good hT.2.2.2.1 hT.2.2.2.2 hS (hl.1.trans hml.symm) dX3_carve_64 dX3_carve_67 dX3_carve_68 dX3_carve_70 dX3_carve_73 (fun x h => (hnt x h).elim) (by decide) (Nat.le_of_ble_eq_true rfl) (Nat.le_of_ble_eq_true rfl) (Nat.le_of_ble_eq_true rfl) hlocks (fun t ha h1 h2 => ⟨(), trivial, ⟨(Or.inr (Or.inr (Or.inl rfl))), hM.keep h2⟩, th_F hS h1 h2⟩) hS.2.2 (Nat.le_of_ble_eq_true rfl) (Nat.le_of_ble_eq_true rfl)
    · skip
      have g123 : ¬ ((0 : Int) ≤ ms.toInt ∧ ms.toInt ≤ (200 : Int)) := bI_f hw16 c17
      have zg123 : r15 = 0 := bI_f0 hw16 g123
      obtain ⟨sa, hsa⟩ := hT.2.1 (272, "the mass is out of range") (by decide +kernel)
      subst hQ
      exact vx_throwSW (A := (fun q => b ≤ q)) (own := RX3) (cls := "java/lang/IllegalArgumentException") (text := "the mass is out of range") (names := exN) hx hb hlt hown (by decide +kernel) (by decide +kernel) (hts (.classLink RX3 56 "java/lang/IllegalArgumentException") (by decide +kernel)) (hts (.initialized "java/lang/IllegalArgumentException") (by decide +kernel)) hsa (th_hat hT (fun w h => hts w (List.mem_cons_of_mem _ (List.mem_append_left _ (List.mem_append_left _ (List.mem_append_left _ (List.mem_append_right _ h)))))) th_i1) (th_good th_i1) hT.2.2.2.1 hT.2.2.2.2 hS (hl.1.trans hml.symm) dX3_carve_36 dX3_carve_39 dX3_carve_40 dX3_carve_43 dX3_carve_46 (fun x h => (hnt x h).elim) (by decide) (Nat.le_of_ble_eq_true rfl) (Nat.le_of_ble_eq_true rfl) (Nat.le_of_ble_eq_true rfl) hlocks (fun t ha h1 h2 => ⟨(), trivial, ⟨(Or.inr (Or.inl rfl)), hM.keep h2⟩, th_F hS h1 h2⟩) hS.2.2 (Nat.le_of_ble_eq_true rfl) (Nat.le_of_ble_eq_true rfl)

set_option maxHeartbeats 4000000 in
set_option maxRecDepth 100000 in
theorem rf_take (l : Launch) (hlt : l.stackTraces = false) (dC : Nat → ClassId) (dI : Nat → Nat → Nat) (kA : Nat → ClassId) (eD b : Nat) (g : Gh) (o : Nat) (site : Int32) (x : Int32) (y : Int32) (hto : tg g o = 1) (hs : ST g o) : vx_Met l yX3_take wzX3_take ({ frames := 6, cells := 1, slots := 6, locals := 116 }) (va_Pc [.ref o, .int site, .int x, .int y] (CX (dC, dI) kA eD b g)) (va_Qi (fun (r : Int32) (u : Gh) => (∀ a : Nat, tg g a ≠ 0 → tg u a = tg g a) ∧ Sx XC g u ∧ ST u o) (fun (u : Gh) t => CX (dC, dI) kA eD b u t) (fun q => b ≤ q)) (vx_X (fun u : Gh => Sx XC g u ∧ ST u o ∧ GOK u) (fun E u t => (E = "java/lang/IndexOutOfBoundsException" ∨ E = "java/util/NoSuchElementException" ∨ E = "java/lang/UnsupportedOperationException") ∧ TM (dC, dI) kA b u t.heap) (fun q => b ≤ q)) 1 6 (fun q => b ≤ q) := by
  refine vx_ofW (cc := cX3_take) (maxL := 7) (ret := (some .int)) (by decide +kernel) rfl ?_
  intro p e s m args below meth c s₁ B hml hnt hv
  obtain ⟨rfl, hb0, hM, hK, hG, hE⟩ := hv
  have hx := B.exec
  have hb := B.bytes
  have hr := B.returns
  have hts := atoms_spec (ws := wzX3_take) B.pre
  have hown : s.vm.findClass RX3 = some m.cls := findClass_of_methodNamed B.named
  have hlocks := B.notSynchronized
  have hT := hE.1
  have hN := hE.2.2.2.2.2.2.2.1
  have hS : va_S (fun q => b ≤ q) s.heap s.heap [] := va_S.rf
  have hl := lv_entry ([.ref o, .int site, .int x, .int y]) (n := 7) (Nat.le_of_ble_eq_true rfl)
  rw [lg_entry_eq]
  generalize (lg_sl ([.ref o, .int site, .int x, .int y]) ++ List.replicate (7 - (lg_sl ([.ref o, .int site, .int x, .int y])).length) Slot.unset).toArray = ls at hl ⊢
  have hl : lv_has ls 7 [(0, .ref o), (1, .int site), (2, .int x), (3, .int y)] := hl
  generalize ([.ref o, .int site, .int x, .int y] : List Value).toArray = args at hts ⊢
  have hMg := hM
  refine lv_aload_n hx hb dX3_take_0 rfl (lv_at hl 0 rfl) ?_
  refine lv_iload_n hx hb dX3_take_1 rfl (lv_at hl 1 rfl) ?_
  refine lv_iload_n hx hb dX3_take_2 rfl (lv_at hl 2 rfl) ?_
  refine lv_iload_n hx hb dX3_take_3 rfl (lv_at hl 3 rfl) ?_
  obtain ⟨u1, u2, u3, u4, hP, hf⟩ := o_sno (i := 0) (q := o) hM (by omega)
  refine va_callq (va_runV (As := [.int site, .int x, .int y]) (rest := []) ⟨hx, hb, hml, hown, hts⟩ (rk_placedSite l dC dI kA eD b g o site x y (by omega)) (cwV 3 hts gX3_take_X3_placedSite rfl rfl rfl (by decide +kernel) ⟨Nat.le_of_ble_eq_true rfl, Nat.le_of_ble_eq_true rfl⟩) ⟨fb_CX, va_recv hK hP (ci := 7) (q0 := 0) rfl rfl, fun U hU hW => ⟨rfl, CX.give hb0 hM hK hG hE hS hU hW⟩⟩ rfl rfl hl.1 rfl (lv_room (Nat.le_of_ble_eq_true rfl)) dX3_take_4 ⟨(Nat.le_of_ble_eq_true rfl), (Nat.le_of_ble_eq_true rfl)⟩) hS (fun q _ h => h) (fun q h => h) (fun r5 u t H locs ht hvm hw6 hB hz1 hk1 hS => ?_)
  have hM := hB.back ht
  have hG := hB.2.2.2.1
  rcases hw6 with ⟨rfl, hn14⟩ | ⟨j7, a8, jx9, jy10, rfl, rfl, rfl, rfl, hjx9, hjy10, hj13, ho11, ht12⟩
  · skip
    refine lv_astoreN (lv' := [(4, .null), (0, .ref o), (1, .int site), (2, .int x), (3, .int y)]) hx hb dX3_take_7 hl (by decide) rfl (fun ls hl => ?_)
    refine lv_aloadN hx hb dX3_take_9 (lv_at hl 0 rfl) ?_
    refine lv_ifnonnullN hx hb dX3_take_11 ?_
    obtain ⟨sa, hsa⟩ := hT.2.1 (137, "no such site or place") (by decide +kernel)
    exact vx_throwS (A := (fun q => b ≤ q)) (own := RX3) (cls := "java/lang/IndexOutOfBoundsException") (text := "no such site or place") (names := exN) hx hb hlt hown (by decide +kernel) (by decide +kernel) (hts (.classLink RX3 135 "java/lang/IndexOutOfBoundsException") (by decide +kernel)) (hts (.initialized "java/lang/IndexOutOfBoundsException") (by decide +kernel)) hsa (th_hat hT (fun w h => hts w (List.mem_cons_of_mem _ (List.mem_append_left _ (List.mem_append_left _ (List.mem_append_right _ h))))) th_i4) (th_good th_i4) hT.2.2.2.1 hT.2.2.2.2 hS (hl.1.trans hml.symm) dX3_take_14 dX3_take_17 dX3_take_18 dX3_take_20 dX3_take_23 (fun x h => (hnt x h).elim) (by decide) (Nat.le_of_ble_eq_true rfl) (Nat.le_of_ble_eq_true rfl) (Nat.le_of_ble_eq_true rfl) hlocks (fun t ha h1 h2 => ⟨g, ⟨Sx.refl, hs, hG⟩, ⟨(Or.inl rfl), hM.keep h2⟩, th_F hS h1 h2⟩) hS.2.2 (Nat.le_of_ble_eq_true rfl) (Nat.le_of_ble_eq_true rfl)
  · skip
    have hl : lv_has ls 7 [(0, .ref o), (1, .int (nI j7)), (2, .int (nI jx9)), (3, .int (nI jy10))] := hl
    refine lv_astore (lv' := [(4, .ref a8), (0, .ref o), (1, .int (nI j7)), (2, .int (nI jx9)), (3, .int (nI jy10))]) hx hb dX3_take_7 hl (by decide) rfl (fun ls hl => ?_)
    refine lv_aload hx hb dX3_take_9 (lv_at hl 0 rfl) ?_
    refine lv_ifnonnull (tgt := 24) hx hb dX3_take_11 (by decide) ?_
    refine lv_iload_n hx hb dX3_take_24 rfl (lv_at hl 3 rfl) ?_
    refine lv_iload_n hx hb dX3_take_25 rfl (lv_at hl 4 rfl) ?_
    refine va_calli (va_runS (As := [.int (nI jx9), .int (nI jy10)]) (rest := []) ⟨hx, hb, hml, hown, hts⟩ (rk_placeOf l (nI jx9) (nI jy10)) (va_cwS 2 hts gX3_take_X3_placeOf rfl rfl rfl (by decide +kernel) ⟨Nat.le_of_ble_eq_true rfl, Nat.le_of_ble_eq_true rfl⟩) ⟨fun a U g mk q => q, fun U hU hW => ⟨rfl, trivial⟩⟩ rfl rfl hl.1 rfl (lv_room (Nat.le_of_ble_eq_true rfl)) dX3_take_26 ⟨(Nat.le_of_ble_eq_true rfl), (Nat.le_of_ble_eq_true rfl)⟩) hS (fun q _ h => h.elim) (fun q h => h.elim) (fun r15 u t H locs ht hvm hw16 hB hz1 hk1 hS => ?_)
    have hM := hM.keep (fun p hp => hk1 p hp (fun z => z))
    obtain rfl : r15 = nI (8 * jy10 + jx9) := hw16.trans (by rw [show (8 : Int32) = nI 8 from rfl]; exact (congrArg (· + nI jx9) (pk_mul 8 jy10)).trans (nI_add _ _))
    refine lv_istore (lv' := [(5, .int (nI (8 * jy10 + jx9))), (4, .ref a8), (0, .ref o), (1, .int (nI j7)), (2, .int (nI jx9)), (3, .int (nI jy10))]) hx hb dX3_take_29 hl (by decide) rfl (fun ls hl => ?_)
    refine lv_aload hx hb dX3_take_31 (lv_at hl 1 rfl) ?_
    refine lv_iload hx hb dX3_take_33 (lv_at hl 0 rfl) ?_
    obtain ⟨u17, u18, u19, u20, u21, u22, hP, hf⟩ := o_st (i := j7) (q := a8) hM (by omega)
    refine va_calli (va_runV (As := [.int (nI (8 * jy10 + jx9))]) (rest := []) ⟨hx, hb, hml, hown, hts⟩ (rk_has l dC dI kA eD b g a8 j7 (nI (8 * jy10 + jx9)) (by omega)) (cwV 1 hts gX3_take_X1_has rfl rfl rfl (by decide +kernel) ⟨Nat.le_of_ble_eq_true rfl, Nat.le_of_ble_eq_true rfl⟩) ⟨fb_CX, va_recv hK hP (ci := 5) (q0 := 0) rfl rfl, fun U hU hW => ⟨rfl, CX.give hb0 hM hK hG hE hS hU hW⟩⟩ rfl rfl hl.1 rfl (lv_room (Nat.le_of_ble_eq_true rfl)) dX3_take_35 ⟨(Nat.le_of_ble_eq_true rfl), (Nat.le_of_ble_eq_true rfl)⟩) hS (fun q _ h => h.elim) (fun q h => h.elim) (fun r23 u t H locs ht hvm hw24 hB hz1 hk1 hS => ?_)
    have hM := hB.back ht
    have hG := hB.2.2.2.1
    refine lv_if_ne (tgt := 51) hx hb dX3_take_38 (by decide) (fun c25 => ?_) (fun c25 => ?_)
    · skip
      have hk26 : ¬ (pI g (pF g a8 0)) (8 * jy10 + jx9) = 46 := by obtain ⟨-, jz9, ez9, hz9, hz8⟩ := hw24.resolve_left (fun z => c25 z.1); rw [(nI_eq (a := (8 * jy10 + jx9)) (b := jz9) (by omega) (by omega)).mp ez9]; exact hz8
      refine lv_aload hx hb dX3_take_51 (lv_at hl 1 rfl) ?_
      refine lv_iload hx hb dX3_take_53 (lv_at hl 0 rfl) ?_
      refine lv_aload_n hx hb dX3_take_55 rfl (lv_at hl 2 rfl) ?_
      obtain ⟨u27, u28, u29, u30, hP, hf⟩ := o_sno (i := 0) (q := o) hM (by omega)
      refine va_get (D := (dC, dI)) (ci := 7) (v := .ref (pF g o 0)) (C := RX3) (T := TX3) (N := 10) hx hb hts (by decide +kernel) hown hK hP 0 rfl rfl 0 (by decide) (hts (.fieldLink RX3 10 "Snowpalace" "sky" "LSnowpalace$Sky;") (by decide +kernel)) (fun _ h9 => h9) rfl dX3_take_56 ?_
      have ht31 : tg g (pF g o 0) = 2 := hf.1
      refine lv_aload_n hx hb dX3_take_59 rfl (lv_at hl 2 rfl) ?_
      obtain ⟨u32, u33, u34, u35, hP, hf⟩ := o_sno (i := 0) (q := o) hM (by omega)
      refine va_get (D := (dC, dI)) (ci := 7) (v := .int (pI g o 1)) (C := RX3) (T := TX3) (N := 10) hx hb hts (by decide +kernel) hown hK hP 0 rfl rfl 4 (by decide) (hts (.fieldLink RX3 33 "Snowpalace" "clock" "I") (by decide +kernel)) (fun _ h9 => h9) rfl dX3_take_60 ?_
      have hv36 := hf.2.2.2.2.1
      obtain ⟨hP, hf⟩ := o_sky (i := 0) (q := (pF g o 0)) hM (by omega)
      refine va_calli (va_runV (As := [.int (pI g o 1)]) (rest := [.int (nI (8 * jy10 + jx9)), .ref a8]) ⟨hx, hb, hml, hown, hts⟩ (rk_warmthOf l dC dI kA eD b g (pF g o 0) (pI g o 1) (by omega)) (cwV 1 hts gX3_take_X2_warmthOf rfl rfl rfl (by decide +kernel) ⟨Nat.le_of_ble_eq_true rfl, Nat.le_of_ble_eq_true rfl⟩) ⟨fb_CX, va_recv hK hP (ci := 6) (q0 := 0) rfl rfl, fun U hU hW => ⟨rfl, CX.give hb0 hM hK hG hE hS hU hW⟩⟩ rfl rfl hl.1 rfl (lv_room (Nat.le_of_ble_eq_true rfl)) dX3_take_63 ⟨(Nat.le_of_ble_eq_true rfl), (Nat.le_of_ble_eq_true rfl)⟩) hS (fun q _ h => h) (fun q h => h) (fun r37 u t H locs ht hvm hw38 hB hz1 hk1 hS => ?_)
      have hM := hB.back ht
      have hG := hB.2.2.2.1
      obtain ⟨u39, u40, u41, u42, u43, u44, hP, hf⟩ := o_st (i := j7) (q := a8) hM (by omega)
      refine va_calli (va_runV (As := [.int (nI (8 * jy10 + jx9)), .int r37]) (rest := []) ⟨hx, hb, hml, hown, hts⟩ (rk_wouldFallWithout l dC dI kA eD b g a8 j7 (8 * jy10 + jx9) r37 (by omega) (by omega)) (cwV 2 hts gX3_take_X1_wouldFallWithout rfl rfl rfl (by decide +kernel) ⟨Nat.le_of_ble_eq_true rfl, Nat.le_of_ble_eq_true rfl⟩) ⟨fb_CX, va_recv hK hP (ci := 5) (q0 := 0) rfl rfl, fun U hU hW => ⟨rfl, CX.give hb0 hM hK hG hE hS hU hW⟩⟩ rfl rfl hl.1 rfl (lv_room (Nat.le_of_ble_eq_true rfl)) dX3_take_66 ⟨(Nat.le_of_ble_eq_true rfl), (Nat.le_of_ble_eq_true rfl)⟩) hS (fun q _ h => h) (fun q h => h) (fun r45 g47 t H locs ht hvm hw46 hB hz1 hk1 hS => ?_)
      have hM := hB.back ht
      have hG := hB.2.2.2.1
      have hx48 : Sx (XK j7) g g47 := hw46.1
      have ht49 : tg g47 o = 1 := hx48.tk hto (by omega)
      have ht50 : tg g47 a8 = 12 + 64 * j7 := hx48.tk ht12 (by omega)
      have ht51 : tg g47 (pF g o 0) = 2 := hx48.tk ht31 (by omega)
      refine lv_if_eq (tgt := 83) hx hb dX3_take_69 (by decide) (fun c52 => ?_) (fun c52 => ?_)
      · skip
        have hst53 : STF (upd (pI g (pF g a8 0)) (8 * jy10 + jx9) 46) := (hw46.2.2.resolve_right (fun z => absurd (z.1.symm.trans c52) (by decide))).2 (by assumption)
        refine lv_aload hx hb dX3_take_83 (lv_at hl 1 rfl) ?_
        obtain ⟨u54, u55, u56, u57, u58, u59, hP, hf⟩ := o_st (i := j7) (q := a8) hM (by omega)
        refine va_get (D := (dC, dI)) (ci := 5) (v := .ref (pF g47 a8 1)) (C := RX1) (T := TX1) (N := 15) hx hb hts (by decide +kernel) hown hK hP 0 rfl rfl 1 (by decide) (hts (.fieldLink RX3 185 "Snowpalace$Site" "masses" "[I") (by decide +kernel)) (fun _ h9 => h9) rfl dX3_take_85 ?_
        have ht60 : tg g47 (pF g47 a8 1) = 21 := hf.2.1
        refine lv_iload hx hb dX3_take_88 (lv_at hl 0 rfl) ?_
        obtain ⟨u61, hP, hf⟩ := o_ma (i := 0) (q := (pF g47 a8 1)) hM (by omega)
        refine va_iald (D := (dC, dI)) hx hb hK hP 0 0 rfl rfl (vp_in_nI (by omega) (by decide)) dX3_take_90 ?_
        refine lv_topi (fun v62 e63 => ?_)
        have ec : ((nI (8 * jy10 + jx9)) : Int32).toNatClampNeg = (8 * jy10 + jx9) := nI_clamp (by omega)
        rw [ec] at e63
        refine lv_istore (lv' := [(6, .int v62), (5, .int (nI (8 * jy10 + jx9))), (4, .ref a8), (0, .ref o), (1, .int (nI j7)), (2, .int (nI jx9)), (3, .int (nI jy10))]) hx hb dX3_take_91 hl (by decide) rfl (fun ls hl => ?_)
        refine lv_aload hx hb dX3_take_93 (lv_at hl 2 rfl) ?_
        refine lv_iload hx hb dX3_take_95 (lv_at hl 1 rfl) ?_
        obtain ⟨u64, u65, u66, u67, u68, u69, hP, hf⟩ := o_st (i := j7) (q := a8) hM (by omega)
        refine va_callv (va_runV (As := [.int (nI (8 * jy10 + jx9))]) (rest := []) ⟨hx, hb, hml, hown, hts⟩ (rk_removeCell l dC dI kA eD b g47 a8 j7 (8 * jy10 + jx9) (by omega) (by omega)) (cwV 1 hts gX3_take_X1_removeCell rfl rfl rfl (by decide +kernel) ⟨Nat.le_of_ble_eq_true rfl, Nat.le_of_ble_eq_true rfl⟩) ⟨fb_CX, va_recv hK hP (ci := 5) (q0 := 0) rfl rfl, fun U hU hW => ⟨rfl, CX.give hb0 hM hK hG hE hS hU hW⟩⟩ rfl rfl hl.1 rfl (lv_room (Nat.le_of_ble_eq_true rfl)) dX3_take_97 ⟨(Nat.le_of_ble_eq_true rfl), (Nat.le_of_ble_eq_true rfl)⟩) hS (fun q _ h => h) (fun q h => h) (fun g72 t H locs ht hvm hw71 hB hz1 hk1 hS => ?_)
        have hM := hB.back ht
        have hG := hB.2.2.2.1
        have hx73 : Sx (XD j7) g47 g72 := hw71.1
        have ht74 : tg g72 o = 1 := hx73.tk ht49 (by omega)
        have ht75 : tg g72 a8 = 12 + 64 * j7 := hx73.tk ht50 (by omega)
        have ht76 : tg g72 (pF g o 0) = 2 := hx73.tk ht51 (by omega)
        have ht77 : tg g72 (pF g47 a8 1) = 21 := hx73.tk ht60 (by omega)
        refine lv_iload hx hb dX3_take_100 (lv_at hl 0 rfl) ?_
        refine vx_ret ?_
        refine W.widen (k := 1) (n := 6) (Nat.le_of_ble_eq_true rfl) (Nat.le_of_ble_eq_true rfl) ?_
        exact W.iret (v := v62) hx hb hr (fun t ht hW => ⟨⟨v62, g72, rfl, ⟨fun _ _ => (((hx48.wide (Y := XC) (fun t9 h9 => by simp only [XF, XD, XK, XC, XR, XG] at h9 ⊢; omega)).trans (hx73.wide (Y := XC) (fun t9 h9 => by simp only [XF, XD, XK, XC, XR, XG] at h9 ⊢; omega)))).T, ((hx48.wide (Y := XC) (fun t9 h9 => by simp only [XF, XD, XK, XC, XR, XG] at h9 ⊢; omega)).trans (hx73.wide (Y := XC) (fun t9 h9 => by simp only [XF, XD, XK, XC, XR, XG] at h9 ⊢; omega))), hs.at hMg hto (hx48.trans (hx73.wide (Y := (XK j7)) (fun t9 h9 => by simp only [XF, XD, XK, XC, XR, XG] at h9 ⊢; omega))) ho11 (by have h9 := hw71.2; rw [((hx48.wide (Y := XC) (fun t9 h9 => by simp only [XF, XD, XK, XC, XR, XG] at h9 ⊢; omega))).F] at h9; rw [h9, hw46.2.1]; exact hst53)⟩, CX.give hb0 hM hK hG hE hS ht hW⟩, hS.F ht⟩) hS.2.2 dX3_take_102
      · skip
        obtain ⟨sa, hsa⟩ := hT.2.1 (302, "something else would fall") (by decide +kernel)
        exact vx_throwSW (A := (fun q => b ≤ q)) (own := RX3) (cls := "java/lang/UnsupportedOperationException") (text := "something else would fall") (names := exN) hx hb hlt hown (by decide +kernel) (by decide +kernel) (hts (.classLink RX3 63 "java/lang/UnsupportedOperationException") (by decide +kernel)) (hts (.initialized "java/lang/UnsupportedOperationException") (by decide +kernel)) hsa (th_hat hT (fun w h => hts w (List.mem_cons_of_mem _ (List.mem_append_left _ (List.mem_append_right _ h)))) th_i2) (th_good th_i2) hT.2.2.2.1 hT.2.2.2.2 hS (hl.1.trans hml.symm) dX3_take_72 dX3_take_75 dX3_take_76 dX3_take_79 dX3_take_82 (fun x h => (hnt x h).elim) (by decide) (Nat.le_of_ble_eq_true rfl) (Nat.le_of_ble_eq_true rfl) (Nat.le_of_ble_eq_true rfl) hlocks (fun t ha h1 h2 => ⟨g47, ⟨(hx48.wide (Y := XC) (fun t9 h9 => by simp only [XF, XD, XK, XC, XR, XG] at h9 ⊢; omega)), hs.at hMg hto hx48 ho11 (by rw [hw46.2.1]; exact hs _ (by omega) _ ho11), hG⟩, ⟨(Or.inr (Or.inr rfl)), hM.keep h2⟩, th_F hS h1 h2⟩) hS.2.2 (Nat.le_of_ble_eq_true rfl) (Nat.le_of_ble_eq_true rfl)
    · skip
      have hk78 : (pI g (pF g a8 0)) (8 * jy10 + jx9) = 46 := (hw24.resolve_right (fun z => absurd (z.1.symm.trans c25) (by decide))).2 (8 * jy10 + jx9) rfl (by omega)
      obtain ⟨sa, hsa⟩ := hT.2.1 (182, "no cell is there") (by decide +kernel)
      exact rt_throwSX (A := (fun q => b ≤ q)) (own := RX3) (cls := "java/util/NoSuchElementException") (text := "no cell is there") (names := exN) (ix := 13) (rx := prog_38_method_4_code) hx hb hlt rx13_0 rx13_1 rx13_2 rx13_5 hown (by decide +kernel) (by decide +kernel) (hts (.classLink RX3 180 "java/util/NoSuchElementException") (by decide +kernel)) hE.2.2.2.2.2.2.2.2.ini hsa hE.2.2.2.2.2.2.2.2.hat nse_good hT.2.2.2.1 hT.2.2.2.2 hS (hl.1.trans hml.symm) dX3_take_41 dX3_take_44 dX3_take_45 dX3_take_47 dX3_take_50 (fun x h => (hnt x h).elim) (by decide) (Nat.le_of_ble_eq_true rfl) (Nat.le_of_ble_eq_true rfl) (Nat.le_of_ble_eq_true rfl) hlocks (fun t ha h1 h2 => ⟨g, ⟨Sx.refl, hs, hG⟩, ⟨(Or.inr (Or.inl rfl)), hM.keep h2⟩, th_F hS h1 h2⟩) hS.2.2 (Nat.le_of_ble_eq_true rfl) (Nat.le_of_ble_eq_true rfl)

set_option maxHeartbeats 4000000 in
set_option maxRecDepth 100000 in
theorem rf_at (l : Launch) (hlt : l.stackTraces = false) (dC : Nat → ClassId) (dI : Nat → Nat → Nat) (kA : Nat → ClassId) (eD b : Nat) (g : Gh) (o : Nat) (site : Int32) (x : Int32) (y : Int32) (hto : tg g o = 1)  : vx_Met l yX3_at wsX3_at ({ frames := 6, cells := 1, slots := 6, locals := 82 }) (va_Pc [.ref o, .int site, .int x, .int y] (CX (dC, dI) kA eD b g)) (va_Qi (fun (r : Int32) (u : Unit) => True) (fun (u : Unit) t => CX (dC, dI) kA eD b g t) (fun q => b ≤ q)) (vx_X (fun _ : Unit => True) (fun E _ t => (E = "java/lang/IndexOutOfBoundsException") ∧ TM (dC, dI) kA b g t.heap) (fun q => b ≤ q)) 1 6 (fun q => b ≤ q) := by
  refine vx_ofW (cc := cX3_at) (maxL := 5) (ret := (some .char)) (by decide +kernel) rfl ?_
  intro p e s m args below meth c s₁ B hml hnt hv
  obtain ⟨rfl, hb0, hM, hK, hG, hE⟩ := hv
  have hx := B.exec
  have hb := B.bytes
  have hr := B.returns
  have hts := atoms_spec (ws := wsX3_at) B.pre
  have hown : s.vm.findClass RX3 = some m.cls := findClass_of_methodNamed B.named
  have hlocks := B.notSynchronized
  have hT := hE.1
  have hN := hE.2.2.2.2.2.2.2.1
  have hS : va_S (fun q => b ≤ q) s.heap s.heap [] := va_S.rf
  have hl := lv_entry ([.ref o, .int site, .int x, .int y]) (n := 5) (Nat.le_of_ble_eq_true rfl)
  rw [lg_entry_eq]
  generalize (lg_sl ([.ref o, .int site, .int x, .int y]) ++ List.replicate (5 - (lg_sl ([.ref o, .int site, .int x, .int y])).length) Slot.unset).toArray = ls at hl ⊢
  have hl : lv_has ls 5 [(0, .ref o), (1, .int site), (2, .int x), (3, .int y)] := hl
  generalize ([.ref o, .int site, .int x, .int y] : List Value).toArray = args at hts ⊢
  refine lv_aload_n hx hb dX3_at_0 rfl (lv_at hl 0 rfl) ?_
  refine lv_iload_n hx hb dX3_at_1 rfl (lv_at hl 1 rfl) ?_
  refine lv_iload_n hx hb dX3_at_2 rfl (lv_at hl 2 rfl) ?_
  refine lv_iload_n hx hb dX3_at_3 rfl (lv_at hl 3 rfl) ?_
  obtain ⟨u1, u2, u3, u4, hP, hf⟩ := o_sno (i := 0) (q := o) hM (by omega)
  refine va_callq (va_runV (As := [.int site, .int x, .int y]) (rest := []) ⟨hx, hb, hml, hown, hts⟩ (rk_placedSite l dC dI kA eD b g o site x y (by omega)) (cwV 3 hts gX3_at_X3_placedSite rfl rfl rfl (by decide +kernel) ⟨Nat.le_of_ble_eq_true rfl, Nat.le_of_ble_eq_true rfl⟩) ⟨fb_CX, va_recv hK hP (ci := 7) (q0 := 0) rfl rfl, fun U hU hW => ⟨rfl, CX.give hb0 hM hK hG hE hS hU hW⟩⟩ rfl rfl hl.1 rfl (lv_room (Nat.le_of_ble_eq_true rfl)) dX3_at_4 ⟨(Nat.le_of_ble_eq_true rfl), (Nat.le_of_ble_eq_true rfl)⟩) hS (fun q _ h => h) (fun q h => h) (fun r5 u t H locs ht hvm hw6 hB hz1 hk1 hS => ?_)
  have hM := hB.back ht
  have hG := hB.2.2.2.1
  rcases hw6 with ⟨rfl, hn14⟩ | ⟨j7, a8, jx9, jy10, rfl, rfl, rfl, rfl, hjx9, hjy10, hj13, ho11, ht12⟩
  · skip
    refine lv_astoreN (lv' := [(4, .null), (0, .ref o), (1, .int site), (2, .int x), (3, .int y)]) hx hb dX3_at_7 hl (by decide) rfl (fun ls hl => ?_)
    refine lv_aloadN hx hb dX3_at_9 (lv_at hl 0 rfl) ?_
    refine lv_ifnonnullN hx hb dX3_at_11 ?_
    obtain ⟨sa, hsa⟩ := hT.2.1 (137, "no such site or place") (by decide +kernel)
    exact vx_throwS (A := (fun q => b ≤ q)) (own := RX3) (cls := "java/lang/IndexOutOfBoundsException") (text := "no such site or place") (names := exN) hx hb hlt hown (by decide +kernel) (by decide +kernel) (hts (.classLink RX3 135 "java/lang/IndexOutOfBoundsException") (by decide +kernel)) (hts (.initialized "java/lang/IndexOutOfBoundsException") (by decide +kernel)) hsa (th_hat hT (fun w h => hts w (List.mem_cons_of_mem _ (List.mem_append_left _ (List.mem_append_right _ h)))) th_i4) (th_good th_i4) hT.2.2.2.1 hT.2.2.2.2 hS (hl.1.trans hml.symm) dX3_at_14 dX3_at_17 dX3_at_18 dX3_at_20 dX3_at_23 (fun x h => (hnt x h).elim) (by decide) (Nat.le_of_ble_eq_true rfl) (Nat.le_of_ble_eq_true rfl) (Nat.le_of_ble_eq_true rfl) hlocks (fun t ha h1 h2 => ⟨(), trivial, ⟨rfl, hM.keep h2⟩, th_F hS h1 h2⟩) hS.2.2 (Nat.le_of_ble_eq_true rfl) (Nat.le_of_ble_eq_true rfl)
  · skip
    have hl : lv_has ls 5 [(0, .ref o), (1, .int (nI j7)), (2, .int (nI jx9)), (3, .int (nI jy10))] := hl
    refine lv_astore (lv' := [(4, .ref a8), (0, .ref o), (1, .int (nI j7)), (2, .int (nI jx9)), (3, .int (nI jy10))]) hx hb dX3_at_7 hl (by decide) rfl (fun ls hl => ?_)
    refine lv_aload hx hb dX3_at_9 (lv_at hl 0 rfl) ?_
    refine lv_ifnonnull (tgt := 24) hx hb dX3_at_11 (by decide) ?_
    refine lv_aload hx hb dX3_at_24 (lv_at hl 0 rfl) ?_
    obtain ⟨u15, u16, u17, u18, u19, u20, hP, hf⟩ := o_st (i := j7) (q := a8) hM (by omega)
    refine va_get (D := (dC, dI)) (ci := 5) (v := .ref (pF g a8 0)) (C := RX1) (T := TX1) (N := 15) hx hb hts (by decide +kernel) hown hK hP 0 rfl rfl 0 (by decide) (hts (.fieldLink RX3 176 "Snowpalace$Site" "kinds" "[C") (by decide +kernel)) (fun _ h9 => h9) rfl dX3_at_26 ?_
    have ht21 : tg g (pF g a8 0) = 13 + 64 * j7 := hf.1
    refine lv_iload_n hx hb dX3_at_29 rfl (lv_at hl 3 rfl) ?_
    refine lv_iload_n hx hb dX3_at_30 rfl (lv_at hl 4 rfl) ?_
    refine va_calli (va_runS (As := [.int (nI jx9), .int (nI jy10)]) (rest := [.ref (pF g a8 0)]) ⟨hx, hb, hml, hown, hts⟩ (rk_placeOf l (nI jx9) (nI jy10)) (va_cwS 2 hts gX3_at_X3_placeOf rfl rfl rfl (by decide +kernel) ⟨Nat.le_of_ble_eq_true rfl, Nat.le_of_ble_eq_true rfl⟩) ⟨fun a U g mk q => q, fun U hU hW => ⟨rfl, trivial⟩⟩ rfl rfl hl.1 rfl (lv_room (Nat.le_of_ble_eq_true rfl)) dX3_at_31 ⟨(Nat.le_of_ble_eq_true rfl), (Nat.le_of_ble_eq_true rfl)⟩) hS (fun q _ h => h.elim) (fun q h => h.elim) (fun r22 u t H locs ht hvm hw23 hB hz1 hk1 hS => ?_)
    have hM := hM.keep (fun p hp => hk1 p hp (fun z => z))
    obtain rfl : r22 = nI (8 * jy10 + jx9) := hw23.trans (by rw [show (8 : Int32) = nI 8 from rfl]; exact (congrArg (· + nI jx9) (pk_mul 8 jy10)).trans (nI_add _ _))
    obtain ⟨hP, hf⟩ := o_kn (i := j7) (q := (pF g a8 0)) hM (by omega)
    refine va_cald (D := (dC, dI)) hx hb hK hP 0 2 rfl rfl (vp_in_nI (by omega) (by decide)) dX3_at_34 ?_
    refine lv_topi (fun v24 e25 => ?_)
    have ec : ((nI (8 * jy10 + jx9)) : Int32).toNatClampNeg = (8 * jy10 + jx9) := nI_clamp (by omega)
    rw [ec] at e25
    subst e25
    have hu26 := hf (8 * jy10 + jx9) (by omega)
    refine vx_ret ?_
    refine W.widen (k := 1) (n := 6) (Nat.le_of_ble_eq_true rfl) (Nat.le_of_ble_eq_true rfl) ?_
    exact W.zret (v := (pI g (pF g a8 0) (8 * jy10 + jx9))) (ty := .char) hx hb hr (congrArg Value.int hu26) (fun t ht hW => ⟨⟨(pI g (pF g a8 0) (8 * jy10 + jx9)), (), rfl, trivial, CX.give hb0 hM hK hG hE hS ht hW⟩, hS.F ht⟩) hS.2.2 dX3_at_35

set_option maxHeartbeats 4000000 in
set_option maxRecDepth 100000 in
theorem rf_mass (l : Launch) (hlt : l.stackTraces = false) (dC : Nat → ClassId) (dI : Nat → Nat → Nat) (kA : Nat → ClassId) (eD b : Nat) (g : Gh) (o : Nat) (site : Int32) (x : Int32) (y : Int32) (hto : tg g o = 1)  : vx_Met l yX3_mass wzX3_mass ({ frames := 6, cells := 1, slots := 6, locals := 82 }) (va_Pc [.ref o, .int site, .int x, .int y] (CX (dC, dI) kA eD b g)) (va_Qi (fun (r : Int32) (u : Unit) => True) (fun (u : Unit) t => CX (dC, dI) kA eD b g t) (fun q => b ≤ q)) (vx_X (fun _ : Unit => True) (fun E _ t => (E = "java/lang/IndexOutOfBoundsException" ∨ E = "java/util/NoSuchElementException") ∧ TM (dC, dI) kA b g t.heap) (fun q => b ≤ q)) 1 6 (fun q => b ≤ q) := by
  refine vx_ofW (cc := cX3_mass) (maxL := 5) (ret := (some .int)) (by decide +kernel) rfl ?_
  intro p e s m args below meth c s₁ B hml hnt hv
  obtain ⟨rfl, hb0, hM, hK, hG, hE⟩ := hv
  have hx := B.exec
  have hb := B.bytes
  have hr := B.returns
  have hts := atoms_spec (ws := wzX3_mass) B.pre
  have hown : s.vm.findClass RX3 = some m.cls := findClass_of_methodNamed B.named
  have hlocks := B.notSynchronized
  have hT := hE.1
  have hN := hE.2.2.2.2.2.2.2.1
  have hS : va_S (fun q => b ≤ q) s.heap s.heap [] := va_S.rf
  have hl := lv_entry ([.ref o, .int site, .int x, .int y]) (n := 5) (Nat.le_of_ble_eq_true rfl)
  rw [lg_entry_eq]
  generalize (lg_sl ([.ref o, .int site, .int x, .int y]) ++ List.replicate (5 - (lg_sl ([.ref o, .int site, .int x, .int y])).length) Slot.unset).toArray = ls at hl ⊢
  have hl : lv_has ls 5 [(0, .ref o), (1, .int site), (2, .int x), (3, .int y)] := hl
  generalize ([.ref o, .int site, .int x, .int y] : List Value).toArray = args at hts ⊢
  refine lv_aload_n hx hb dX3_mass_0 rfl (lv_at hl 0 rfl) ?_
  refine lv_iload_n hx hb dX3_mass_1 rfl (lv_at hl 1 rfl) ?_
  refine lv_iload_n hx hb dX3_mass_2 rfl (lv_at hl 2 rfl) ?_
  refine lv_iload_n hx hb dX3_mass_3 rfl (lv_at hl 3 rfl) ?_
  obtain ⟨u1, u2, u3, u4, hP, hf⟩ := o_sno (i := 0) (q := o) hM (by omega)
  refine va_callq (va_runV (As := [.int site, .int x, .int y]) (rest := []) ⟨hx, hb, hml, hown, hts⟩ (rk_placedSite l dC dI kA eD b g o site x y (by omega)) (cwV 3 hts gX3_mass_X3_placedSite rfl rfl rfl (by decide +kernel) ⟨Nat.le_of_ble_eq_true rfl, Nat.le_of_ble_eq_true rfl⟩) ⟨fb_CX, va_recv hK hP (ci := 7) (q0 := 0) rfl rfl, fun U hU hW => ⟨rfl, CX.give hb0 hM hK hG hE hS hU hW⟩⟩ rfl rfl hl.1 rfl (lv_room (Nat.le_of_ble_eq_true rfl)) dX3_mass_4 ⟨(Nat.le_of_ble_eq_true rfl), (Nat.le_of_ble_eq_true rfl)⟩) hS (fun q _ h => h) (fun q h => h) (fun r5 u t H locs ht hvm hw6 hB hz1 hk1 hS => ?_)
  have hM := hB.back ht
  have hG := hB.2.2.2.1
  rcases hw6 with ⟨rfl, hn14⟩ | ⟨j7, a8, jx9, jy10, rfl, rfl, rfl, rfl, hjx9, hjy10, hj13, ho11, ht12⟩
  · skip
    refine lv_astoreN (lv' := [(4, .null), (0, .ref o), (1, .int site), (2, .int x), (3, .int y)]) hx hb dX3_mass_7 hl (by decide) rfl (fun ls hl => ?_)
    refine lv_aloadN hx hb dX3_mass_9 (lv_at hl 0 rfl) ?_
    refine lv_ifnonnullN hx hb dX3_mass_11 ?_
    obtain ⟨sa, hsa⟩ := hT.2.1 (137, "no such site or place") (by decide +kernel)
    exact vx_throwS (A := (fun q => b ≤ q)) (own := RX3) (cls := "java/lang/IndexOutOfBoundsException") (text := "no such site or place") (names := exN) hx hb hlt hown (by decide +kernel) (by decide +kernel) (hts (.classLink RX3 135 "java/lang/IndexOutOfBoundsException") (by decide +kernel)) (hts (.initialized "java/lang/IndexOutOfBoundsException") (by decide +kernel)) hsa (th_hat hT (fun w h => hts w (List.mem_cons_of_mem _ (List.mem_append_left _ (List.mem_append_right _ h)))) th_i4) (th_good th_i4) hT.2.2.2.1 hT.2.2.2.2 hS (hl.1.trans hml.symm) dX3_mass_14 dX3_mass_17 dX3_mass_18 dX3_mass_20 dX3_mass_23 (fun x h => (hnt x h).elim) (by decide) (Nat.le_of_ble_eq_true rfl) (Nat.le_of_ble_eq_true rfl) (Nat.le_of_ble_eq_true rfl) hlocks (fun t ha h1 h2 => ⟨(), trivial, ⟨(Or.inl rfl), hM.keep h2⟩, th_F hS h1 h2⟩) hS.2.2 (Nat.le_of_ble_eq_true rfl) (Nat.le_of_ble_eq_true rfl)
  · skip
    have hl : lv_has ls 5 [(0, .ref o), (1, .int (nI j7)), (2, .int (nI jx9)), (3, .int (nI jy10))] := hl
    refine lv_astore (lv' := [(4, .ref a8), (0, .ref o), (1, .int (nI j7)), (2, .int (nI jx9)), (3, .int (nI jy10))]) hx hb dX3_mass_7 hl (by decide) rfl (fun ls hl => ?_)
    refine lv_aload hx hb dX3_mass_9 (lv_at hl 0 rfl) ?_
    refine lv_ifnonnull (tgt := 24) hx hb dX3_mass_11 (by decide) ?_
    refine lv_aload hx hb dX3_mass_24 (lv_at hl 0 rfl) ?_
    refine lv_iload_n hx hb dX3_mass_26 rfl (lv_at hl 3 rfl) ?_
    refine lv_iload_n hx hb dX3_mass_27 rfl (lv_at hl 4 rfl) ?_
    refine va_calli (va_runS (As := [.int (nI jx9), .int (nI jy10)]) (rest := [.ref a8]) ⟨hx, hb, hml, hown, hts⟩ (rk_placeOf l (nI jx9) (nI jy10)) (va_cwS 2 hts gX3_mass_X3_placeOf rfl rfl rfl (by decide +kernel) ⟨Nat.le_of_ble_eq_true rfl, Nat.le_of_ble_eq_true rfl⟩) ⟨fun a U g mk q => q, fun U hU hW => ⟨rfl, trivial⟩⟩ rfl rfl hl.1 rfl (lv_room (Nat.le_of_ble_eq_true rfl)) dX3_mass_28 ⟨(Nat.le_of_ble_eq_true rfl), (Nat.le_of_ble_eq_true rfl)⟩) hS (fun q _ h => h.elim) (fun q h => h.elim) (fun r15 u t H locs ht hvm hw16 hB hz1 hk1 hS => ?_)
    have hM := hM.keep (fun p hp => hk1 p hp (fun z => z))
    obtain rfl : r15 = nI (8 * jy10 + jx9) := hw16.trans (by rw [show (8 : Int32) = nI 8 from rfl]; exact (congrArg (· + nI jx9) (pk_mul 8 jy10)).trans (nI_add _ _))
    obtain ⟨u17, u18, u19, u20, u21, u22, hP, hf⟩ := o_st (i := j7) (q := a8) hM (by omega)
    refine va_calli (va_runV (As := [.int (nI (8 * jy10 + jx9))]) (rest := []) ⟨hx, hb, hml, hown, hts⟩ (rk_has l dC dI kA eD b g a8 j7 (nI (8 * jy10 + jx9)) (by omega)) (cwV 1 hts gX3_mass_X1_has rfl rfl rfl (by decide +kernel) ⟨Nat.le_of_ble_eq_true rfl, Nat.le_of_ble_eq_true rfl⟩) ⟨fb_CX, va_recv hK hP (ci := 5) (q0 := 0) rfl rfl, fun U hU hW => ⟨rfl, CX.give hb0 hM hK hG hE hS hU hW⟩⟩ rfl rfl hl.1 rfl (lv_room (Nat.le_of_ble_eq_true rfl)) dX3_mass_31 ⟨(Nat.le_of_ble_eq_true rfl), (Nat.le_of_ble_eq_true rfl)⟩) hS (fun q _ h => h.elim) (fun q h => h.elim) (fun r23 u t H locs ht hvm hw24 hB hz1 hk1 hS => ?_)
    have hM := hB.back ht
    have hG := hB.2.2.2.1
    refine lv_if_ne (tgt := 47) hx hb dX3_mass_34 (by decide) (fun c25 => ?_) (fun c25 => ?_)
    · skip
      have hk26 : ¬ (pI g (pF g a8 0)) (8 * jy10 + jx9) = 46 := by obtain ⟨-, jz9, ez9, hz9, hz8⟩ := hw24.resolve_left (fun z => c25 z.1); rw [(nI_eq (a := (8 * jy10 + jx9)) (b := jz9) (by omega) (by omega)).mp ez9]; exact hz8
      refine lv_aload hx hb dX3_mass_47 (lv_at hl 0 rfl) ?_
      obtain ⟨u27, u28, u29, u30, u31, u32, hP, hf⟩ := o_st (i := j7) (q := a8) hM (by omega)
      refine va_get (D := (dC, dI)) (ci := 5) (v := .ref (pF g a8 1)) (C := RX1) (T := TX1) (N := 15) hx hb hts (by decide +kernel) hown hK hP 0 rfl rfl 1 (by decide) (hts (.fieldLink RX3 185 "Snowpalace$Site" "masses" "[I") (by decide +kernel)) (fun _ h9 => h9) rfl dX3_mass_49 ?_
      have ht33 : tg g (pF g a8 1) = 21 := hf.2.1
      refine lv_iload_n hx hb dX3_mass_52 rfl (lv_at hl 3 rfl) ?_
      refine lv_iload_n hx hb dX3_mass_53 rfl (lv_at hl 4 rfl) ?_
      refine va_calli (va_runS (As := [.int (nI jx9), .int (nI jy10)]) (rest := [.ref (pF g a8 1)]) ⟨hx, hb, hml, hown, hts⟩ (rk_placeOf l (nI jx9) (nI jy10)) (va_cwS 2 hts gX3_mass_X3_placeOf rfl rfl rfl (by decide +kernel) ⟨Nat.le_of_ble_eq_true rfl, Nat.le_of_ble_eq_true rfl⟩) ⟨fun a U g mk q => q, fun U hU hW => ⟨rfl, trivial⟩⟩ rfl rfl hl.1 rfl (lv_room (Nat.le_of_ble_eq_true rfl)) dX3_mass_54 ⟨(Nat.le_of_ble_eq_true rfl), (Nat.le_of_ble_eq_true rfl)⟩) hS (fun q _ h => h.elim) (fun q h => h.elim) (fun r34 u t H locs ht hvm hw35 hB hz1 hk1 hS => ?_)
      have hM := hM.keep (fun p hp => hk1 p hp (fun z => z))
      obtain rfl : r34 = nI (8 * jy10 + jx9) := hw35.trans (by rw [show (8 : Int32) = nI 8 from rfl]; exact (congrArg (· + nI jx9) (pk_mul 8 jy10)).trans (nI_add _ _))
      obtain ⟨u36, hP, hf⟩ := o_ma (i := 0) (q := (pF g a8 1)) hM (by omega)
      refine va_iald (D := (dC, dI)) hx hb hK hP 0 0 rfl rfl (vp_in_nI (by omega) (by decide)) dX3_mass_57 ?_
      refine lv_topi (fun v37 e38 => ?_)
      have ec : ((nI (8 * jy10 + jx9)) : Int32).toNatClampNeg = (8 * jy10 + jx9) := nI_clamp (by omega)
      rw [ec] at e38
      refine vx_ret ?_
      refine W.widen (k := 1) (n := 6) (Nat.le_of_ble_eq_true rfl) (Nat.le_of_ble_eq_true rfl) ?_
      exact W.iret (v := v37) hx hb hr (fun t ht hW => ⟨⟨v37, (), rfl, trivial, CX.give hb0 hM hK hG hE hS ht hW⟩, hS.F ht⟩) hS.2.2 dX3_mass_58
    · skip
      have hk39 : (pI g (pF g a8 0)) (8 * jy10 + jx9) = 46 := (hw24.resolve_right (fun z => absurd (z.1.symm.trans c25) (by decide))).2 (8 * jy10 + jx9) rfl (by omega)
      obtain ⟨sa, hsa⟩ := hT.2.1 (182, "no cell is there") (by decide +kernel)
      exact rt_throwSX (A := (fun q => b ≤ q)) (own := RX3) (cls := "java/util/NoSuchElementException") (text := "no cell is there") (names := exN) (ix := 13) (rx := prog_38_method_4_code) hx hb hlt rx13_0 rx13_1 rx13_2 rx13_5 hown (by decide +kernel) (by decide +kernel) (hts (.classLink RX3 180 "java/util/NoSuchElementException") (by decide +kernel)) hE.2.2.2.2.2.2.2.2.ini hsa hE.2.2.2.2.2.2.2.2.hat nse_good hT.2.2.2.1 hT.2.2.2.2 hS (hl.1.trans hml.symm) dX3_mass_37 dX3_mass_40 dX3_mass_41 dX3_mass_43 dX3_mass_46 (fun x h => (hnt x h).elim) (by decide) (Nat.le_of_ble_eq_true rfl) (Nat.le_of_ble_eq_true rfl) (Nat.le_of_ble_eq_true rfl) hlocks (fun t ha h1 h2 => ⟨(), trivial, ⟨(Or.inr rfl), hM.keep h2⟩, th_F hS h1 h2⟩) hS.2.2 (Nat.le_of_ble_eq_true rfl) (Nat.le_of_ble_eq_true rfl)

set_option maxHeartbeats 4000000 in
set_option maxRecDepth 100000 in
theorem rf_load (l : Launch) (hlt : l.stackTraces = false) (dC : Nat → ClassId) (dI : Nat → Nat → Nat) (kA : Nat → ClassId) (eD b : Nat) (g : Gh) (o : Nat) (site : Int32) (x : Int32) (y : Int32) (hto : tg g o = 1)  : vx_Met l yX3_load wzX3_load ({ frames := 6, cells := 1, slots := 6, locals := 82 }) (va_Pc [.ref o, .int site, .int x, .int y] (CX (dC, dI) kA eD b g)) (va_Qi (fun (r : Int32) (u : Unit) => True) (fun (u : Unit) t => CX (dC, dI) kA eD b g t) (fun q => b ≤ q)) (vx_X (fun _ : Unit => True) (fun E _ t => (E = "java/lang/IndexOutOfBoundsException" ∨ E = "java/util/NoSuchElementException") ∧ TM (dC, dI) kA b g t.heap) (fun q => b ≤ q)) 1 6 (fun q => b ≤ q) := by
  refine vx_ofW (cc := cX3_load) (maxL := 5) (ret := (some .int)) (by decide +kernel) rfl ?_
  intro p e s m args below meth c s₁ B hml hnt hv
  obtain ⟨rfl, hb0, hM, hK, hG, hE⟩ := hv
  have hx := B.exec
  have hb := B.bytes
  have hr := B.returns
  have hts := atoms_spec (ws := wzX3_load) B.pre
  have hown : s.vm.findClass RX3 = some m.cls := findClass_of_methodNamed B.named
  have hlocks := B.notSynchronized
  have hT := hE.1
  have hN := hE.2.2.2.2.2.2.2.1
  have hS : va_S (fun q => b ≤ q) s.heap s.heap [] := va_S.rf
  have hl := lv_entry ([.ref o, .int site, .int x, .int y]) (n := 5) (Nat.le_of_ble_eq_true rfl)
  rw [lg_entry_eq]
  generalize (lg_sl ([.ref o, .int site, .int x, .int y]) ++ List.replicate (5 - (lg_sl ([.ref o, .int site, .int x, .int y])).length) Slot.unset).toArray = ls at hl ⊢
  have hl : lv_has ls 5 [(0, .ref o), (1, .int site), (2, .int x), (3, .int y)] := hl
  generalize ([.ref o, .int site, .int x, .int y] : List Value).toArray = args at hts ⊢
  refine lv_aload_n hx hb dX3_load_0 rfl (lv_at hl 0 rfl) ?_
  refine lv_iload_n hx hb dX3_load_1 rfl (lv_at hl 1 rfl) ?_
  refine lv_iload_n hx hb dX3_load_2 rfl (lv_at hl 2 rfl) ?_
  refine lv_iload_n hx hb dX3_load_3 rfl (lv_at hl 3 rfl) ?_
  obtain ⟨u1, u2, u3, u4, hP, hf⟩ := o_sno (i := 0) (q := o) hM (by omega)
  refine va_callq (va_runV (As := [.int site, .int x, .int y]) (rest := []) ⟨hx, hb, hml, hown, hts⟩ (rk_placedSite l dC dI kA eD b g o site x y (by omega)) (cwV 3 hts gX3_load_X3_placedSite rfl rfl rfl (by decide +kernel) ⟨Nat.le_of_ble_eq_true rfl, Nat.le_of_ble_eq_true rfl⟩) ⟨fb_CX, va_recv hK hP (ci := 7) (q0 := 0) rfl rfl, fun U hU hW => ⟨rfl, CX.give hb0 hM hK hG hE hS hU hW⟩⟩ rfl rfl hl.1 rfl (lv_room (Nat.le_of_ble_eq_true rfl)) dX3_load_4 ⟨(Nat.le_of_ble_eq_true rfl), (Nat.le_of_ble_eq_true rfl)⟩) hS (fun q _ h => h) (fun q h => h) (fun r5 u t H locs ht hvm hw6 hB hz1 hk1 hS => ?_)
  have hM := hB.back ht
  have hG := hB.2.2.2.1
  rcases hw6 with ⟨rfl, hn14⟩ | ⟨j7, a8, jx9, jy10, rfl, rfl, rfl, rfl, hjx9, hjy10, hj13, ho11, ht12⟩
  · skip
    refine lv_astoreN (lv' := [(4, .null), (0, .ref o), (1, .int site), (2, .int x), (3, .int y)]) hx hb dX3_load_7 hl (by decide) rfl (fun ls hl => ?_)
    refine lv_aloadN hx hb dX3_load_9 (lv_at hl 0 rfl) ?_
    refine lv_ifnonnullN hx hb dX3_load_11 ?_
    obtain ⟨sa, hsa⟩ := hT.2.1 (137, "no such site or place") (by decide +kernel)
    exact vx_throwS (A := (fun q => b ≤ q)) (own := RX3) (cls := "java/lang/IndexOutOfBoundsException") (text := "no such site or place") (names := exN) hx hb hlt hown (by decide +kernel) (by decide +kernel) (hts (.classLink RX3 135 "java/lang/IndexOutOfBoundsException") (by decide +kernel)) (hts (.initialized "java/lang/IndexOutOfBoundsException") (by decide +kernel)) hsa (th_hat hT (fun w h => hts w (List.mem_cons_of_mem _ (List.mem_append_left _ (List.mem_append_right _ h)))) th_i4) (th_good th_i4) hT.2.2.2.1 hT.2.2.2.2 hS (hl.1.trans hml.symm) dX3_load_14 dX3_load_17 dX3_load_18 dX3_load_20 dX3_load_23 (fun x h => (hnt x h).elim) (by decide) (Nat.le_of_ble_eq_true rfl) (Nat.le_of_ble_eq_true rfl) (Nat.le_of_ble_eq_true rfl) hlocks (fun t ha h1 h2 => ⟨(), trivial, ⟨(Or.inl rfl), hM.keep h2⟩, th_F hS h1 h2⟩) hS.2.2 (Nat.le_of_ble_eq_true rfl) (Nat.le_of_ble_eq_true rfl)
  · skip
    have hl : lv_has ls 5 [(0, .ref o), (1, .int (nI j7)), (2, .int (nI jx9)), (3, .int (nI jy10))] := hl
    refine lv_astore (lv' := [(4, .ref a8), (0, .ref o), (1, .int (nI j7)), (2, .int (nI jx9)), (3, .int (nI jy10))]) hx hb dX3_load_7 hl (by decide) rfl (fun ls hl => ?_)
    refine lv_aload hx hb dX3_load_9 (lv_at hl 0 rfl) ?_
    refine lv_ifnonnull (tgt := 24) hx hb dX3_load_11 (by decide) ?_
    refine lv_aload hx hb dX3_load_24 (lv_at hl 0 rfl) ?_
    refine lv_iload_n hx hb dX3_load_26 rfl (lv_at hl 3 rfl) ?_
    refine lv_iload_n hx hb dX3_load_27 rfl (lv_at hl 4 rfl) ?_
    refine va_calli (va_runS (As := [.int (nI jx9), .int (nI jy10)]) (rest := [.ref a8]) ⟨hx, hb, hml, hown, hts⟩ (rk_placeOf l (nI jx9) (nI jy10)) (va_cwS 2 hts gX3_load_X3_placeOf rfl rfl rfl (by decide +kernel) ⟨Nat.le_of_ble_eq_true rfl, Nat.le_of_ble_eq_true rfl⟩) ⟨fun a U g mk q => q, fun U hU hW => ⟨rfl, trivial⟩⟩ rfl rfl hl.1 rfl (lv_room (Nat.le_of_ble_eq_true rfl)) dX3_load_28 ⟨(Nat.le_of_ble_eq_true rfl), (Nat.le_of_ble_eq_true rfl)⟩) hS (fun q _ h => h.elim) (fun q h => h.elim) (fun r15 u t H locs ht hvm hw16 hB hz1 hk1 hS => ?_)
    have hM := hM.keep (fun p hp => hk1 p hp (fun z => z))
    obtain rfl : r15 = nI (8 * jy10 + jx9) := hw16.trans (by rw [show (8 : Int32) = nI 8 from rfl]; exact (congrArg (· + nI jx9) (pk_mul 8 jy10)).trans (nI_add _ _))
    obtain ⟨u17, u18, u19, u20, u21, u22, hP, hf⟩ := o_st (i := j7) (q := a8) hM (by omega)
    refine va_calli (va_runV (As := [.int (nI (8 * jy10 + jx9))]) (rest := []) ⟨hx, hb, hml, hown, hts⟩ (rk_has l dC dI kA eD b g a8 j7 (nI (8 * jy10 + jx9)) (by omega)) (cwV 1 hts gX3_load_X1_has rfl rfl rfl (by decide +kernel) ⟨Nat.le_of_ble_eq_true rfl, Nat.le_of_ble_eq_true rfl⟩) ⟨fb_CX, va_recv hK hP (ci := 5) (q0 := 0) rfl rfl, fun U hU hW => ⟨rfl, CX.give hb0 hM hK hG hE hS hU hW⟩⟩ rfl rfl hl.1 rfl (lv_room (Nat.le_of_ble_eq_true rfl)) dX3_load_31 ⟨(Nat.le_of_ble_eq_true rfl), (Nat.le_of_ble_eq_true rfl)⟩) hS (fun q _ h => h.elim) (fun q h => h.elim) (fun r23 u t H locs ht hvm hw24 hB hz1 hk1 hS => ?_)
    have hM := hB.back ht
    have hG := hB.2.2.2.1
    refine lv_if_ne (tgt := 47) hx hb dX3_load_34 (by decide) (fun c25 => ?_) (fun c25 => ?_)
    · skip
      have hk26 : ¬ (pI g (pF g a8 0)) (8 * jy10 + jx9) = 46 := by obtain ⟨-, jz9, ez9, hz9, hz8⟩ := hw24.resolve_left (fun z => c25 z.1); rw [(nI_eq (a := (8 * jy10 + jx9)) (b := jz9) (by omega) (by omega)).mp ez9]; exact hz8
      refine lv_aload hx hb dX3_load_47 (lv_at hl 0 rfl) ?_
      refine lv_iconst (v := (-1)) hx hb dX3_load_49 (by decide) ?_
      refine lv_iconst (v := 0) hx hb dX3_load_50 (by decide) ?_
      obtain ⟨u27, u28, u29, u30, u31, u32, hP, hf⟩ := o_st (i := j7) (q := a8) hM (by omega)
      refine va_callv (va_runV (As := [.int (-1), .int 0]) (rest := []) ⟨hx, hb, hml, hown, hts⟩ (rk_weigh l dC dI kA eD b g a8 j7 (-1) 0 (by omega)) (cwV 2 hts gX3_load_X1_weigh rfl rfl rfl (by decide +kernel) ⟨Nat.le_of_ble_eq_true rfl, Nat.le_of_ble_eq_true rfl⟩) ⟨fb_CX, va_recv hK hP (ci := 5) (q0 := 0) rfl rfl, fun U hU hW => ⟨rfl, CX.give hb0 hM hK hG hE hS hU hW⟩⟩ rfl rfl hl.1 rfl (lv_room (Nat.le_of_ble_eq_true rfl)) dX3_load_51 ⟨(Nat.le_of_ble_eq_true rfl), (Nat.le_of_ble_eq_true rfl)⟩) hS (fun q _ h => h) (fun q h => h) (fun u t H locs ht hvm hw34 hB hz1 hk1 hS => ?_)
      have hM := hB.back ht
      have hG := hB.2.2.2.1
      refine lv_aload hx hb dX3_load_54 (lv_at hl 0 rfl) ?_
      obtain ⟨u35, u36, u37, u38, u39, u40, hP, hf⟩ := o_st (i := j7) (q := a8) hM (by omega)
      refine va_get (D := (dC, dI)) (ci := 5) (v := .ref (pF g a8 6)) (C := RX1) (T := TX1) (N := 15) hx hb hts (by decide +kernel) hown hK hP 0 rfl rfl 6 (by decide) (hts (.fieldLink RX3 192 "Snowpalace$Site" "loads" "[I") (by decide +kernel)) (fun _ h9 => h9) rfl dX3_load_56 ?_
      have ht41 : tg g (pF g a8 6) = 23 := hf.2.2.2.2.2.2.1
      refine lv_iload_n hx hb dX3_load_59 rfl (lv_at hl 3 rfl) ?_
      refine lv_iload_n hx hb dX3_load_60 rfl (lv_at hl 4 rfl) ?_
      refine va_calli (va_runS (As := [.int (nI jx9), .int (nI jy10)]) (rest := [.ref (pF g a8 6)]) ⟨hx, hb, hml, hown, hts⟩ (rk_placeOf l (nI jx9) (nI jy10)) (va_cwS 2 hts gX3_load_X3_placeOf rfl rfl rfl (by decide +kernel) ⟨Nat.le_of_ble_eq_true rfl, Nat.le_of_ble_eq_true rfl⟩) ⟨fun a U g mk q => q, fun U hU hW => ⟨rfl, trivial⟩⟩ rfl rfl hl.1 rfl (lv_room (Nat.le_of_ble_eq_true rfl)) dX3_load_61 ⟨(Nat.le_of_ble_eq_true rfl), (Nat.le_of_ble_eq_true rfl)⟩) hS (fun q _ h => h.elim) (fun q h => h.elim) (fun r42 u t H locs ht hvm hw43 hB hz1 hk1 hS => ?_)
      have hM := hM.keep (fun p hp => hk1 p hp (fun z => z))
      obtain rfl : r42 = nI (8 * jy10 + jx9) := hw43.trans (by rw [show (8 : Int32) = nI 8 from rfl]; exact (congrArg (· + nI jx9) (pk_mul 8 jy10)).trans (nI_add _ _))
      obtain ⟨u44, hP, hf⟩ := o_ld (i := 0) (q := (pF g a8 6)) hM (by omega)
      refine va_iald (D := (dC, dI)) hx hb hK hP 0 0 rfl rfl (vp_in_nI (by omega) (by decide)) dX3_load_64 ?_
      refine lv_topi (fun v45 e46 => ?_)
      have ec : ((nI (8 * jy10 + jx9)) : Int32).toNatClampNeg = (8 * jy10 + jx9) := nI_clamp (by omega)
      rw [ec] at e46
      refine vx_ret ?_
      refine W.widen (k := 1) (n := 6) (Nat.le_of_ble_eq_true rfl) (Nat.le_of_ble_eq_true rfl) ?_
      exact W.iret (v := v45) hx hb hr (fun t ht hW => ⟨⟨v45, (), rfl, trivial, CX.give hb0 hM hK hG hE hS ht hW⟩, hS.F ht⟩) hS.2.2 dX3_load_65
    · skip
      have hk47 : (pI g (pF g a8 0)) (8 * jy10 + jx9) = 46 := (hw24.resolve_right (fun z => absurd (z.1.symm.trans c25) (by decide))).2 (8 * jy10 + jx9) rfl (by omega)
      obtain ⟨sa, hsa⟩ := hT.2.1 (182, "no cell is there") (by decide +kernel)
      exact rt_throwSX (A := (fun q => b ≤ q)) (own := RX3) (cls := "java/util/NoSuchElementException") (text := "no cell is there") (names := exN) (ix := 13) (rx := prog_38_method_4_code) hx hb hlt rx13_0 rx13_1 rx13_2 rx13_5 hown (by decide +kernel) (by decide +kernel) (hts (.classLink RX3 180 "java/util/NoSuchElementException") (by decide +kernel)) hE.2.2.2.2.2.2.2.2.ini hsa hE.2.2.2.2.2.2.2.2.hat nse_good hT.2.2.2.1 hT.2.2.2.2 hS (hl.1.trans hml.symm) dX3_load_37 dX3_load_40 dX3_load_41 dX3_load_43 dX3_load_46 (fun x h => (hnt x h).elim) (by decide) (Nat.le_of_ble_eq_true rfl) (Nat.le_of_ble_eq_true rfl) (Nat.le_of_ble_eq_true rfl) hlocks (fun t ha h1 h2 => ⟨(), trivial, ⟨(Or.inr rfl), hM.keep h2⟩, th_F hS h1 h2⟩) hS.2.2 (Nat.le_of_ble_eq_true rfl) (Nat.le_of_ble_eq_true rfl)

set_option maxHeartbeats 4000000 in
set_option maxRecDepth 100000 in
theorem rf_strength (l : Launch) (hlt : l.stackTraces = false) (dC : Nat → ClassId) (dI : Nat → Nat → Nat) (kA : Nat → ClassId) (eD b : Nat) (g : Gh) (o : Nat) (site : Int32) (x : Int32) (y : Int32) (hto : tg g o = 1)  : vx_Met l yX3_strength wzX3_strength ({ frames := 6, cells := 1, slots := 6, locals := 82 }) (va_Pc [.ref o, .int site, .int x, .int y] (CX (dC, dI) kA eD b g)) (va_Qi (fun (r : Int32) (u : Unit) => True) (fun (u : Unit) t => CX (dC, dI) kA eD b g t) (fun q => b ≤ q)) (vx_X (fun _ : Unit => True) (fun E _ t => (E = "java/lang/IndexOutOfBoundsException" ∨ E = "java/util/NoSuchElementException") ∧ TM (dC, dI) kA b g t.heap) (fun q => b ≤ q)) 1 6 (fun q => b ≤ q) := by
  refine vx_ofW (cc := cX3_strength) (maxL := 5) (ret := (some .int)) (by decide +kernel) rfl ?_
  intro p e s m args below meth c s₁ B hml hnt hv
  obtain ⟨rfl, hb0, hM, hK, hG, hE⟩ := hv
  have hx := B.exec
  have hb := B.bytes
  have hr := B.returns
  have hts := atoms_spec (ws := wzX3_strength) B.pre
  have hown : s.vm.findClass RX3 = some m.cls := findClass_of_methodNamed B.named
  have hlocks := B.notSynchronized
  have hT := hE.1
  have hN := hE.2.2.2.2.2.2.2.1
  have hS : va_S (fun q => b ≤ q) s.heap s.heap [] := va_S.rf
  have hl := lv_entry ([.ref o, .int site, .int x, .int y]) (n := 5) (Nat.le_of_ble_eq_true rfl)
  rw [lg_entry_eq]
  generalize (lg_sl ([.ref o, .int site, .int x, .int y]) ++ List.replicate (5 - (lg_sl ([.ref o, .int site, .int x, .int y])).length) Slot.unset).toArray = ls at hl ⊢
  have hl : lv_has ls 5 [(0, .ref o), (1, .int site), (2, .int x), (3, .int y)] := hl
  generalize ([.ref o, .int site, .int x, .int y] : List Value).toArray = args at hts ⊢
  refine lv_aload_n hx hb dX3_strength_0 rfl (lv_at hl 0 rfl) ?_
  refine lv_iload_n hx hb dX3_strength_1 rfl (lv_at hl 1 rfl) ?_
  refine lv_iload_n hx hb dX3_strength_2 rfl (lv_at hl 2 rfl) ?_
  refine lv_iload_n hx hb dX3_strength_3 rfl (lv_at hl 3 rfl) ?_
  obtain ⟨u1, u2, u3, u4, hP, hf⟩ := o_sno (i := 0) (q := o) hM (by omega)
  refine va_callq (va_runV (As := [.int site, .int x, .int y]) (rest := []) ⟨hx, hb, hml, hown, hts⟩ (rk_placedSite l dC dI kA eD b g o site x y (by omega)) (cwV 3 hts gX3_strength_X3_placedSite rfl rfl rfl (by decide +kernel) ⟨Nat.le_of_ble_eq_true rfl, Nat.le_of_ble_eq_true rfl⟩) ⟨fb_CX, va_recv hK hP (ci := 7) (q0 := 0) rfl rfl, fun U hU hW => ⟨rfl, CX.give hb0 hM hK hG hE hS hU hW⟩⟩ rfl rfl hl.1 rfl (lv_room (Nat.le_of_ble_eq_true rfl)) dX3_strength_4 ⟨(Nat.le_of_ble_eq_true rfl), (Nat.le_of_ble_eq_true rfl)⟩) hS (fun q _ h => h) (fun q h => h) (fun r5 u t H locs ht hvm hw6 hB hz1 hk1 hS => ?_)
  have hM := hB.back ht
  have hG := hB.2.2.2.1
  rcases hw6 with ⟨rfl, hn14⟩ | ⟨j7, a8, jx9, jy10, rfl, rfl, rfl, rfl, hjx9, hjy10, hj13, ho11, ht12⟩
  · skip
    refine lv_astoreN (lv' := [(4, .null), (0, .ref o), (1, .int site), (2, .int x), (3, .int y)]) hx hb dX3_strength_7 hl (by decide) rfl (fun ls hl => ?_)
    refine lv_aloadN hx hb dX3_strength_9 (lv_at hl 0 rfl) ?_
    refine lv_ifnonnullN hx hb dX3_strength_11 ?_
    obtain ⟨sa, hsa⟩ := hT.2.1 (137, "no such site or place") (by decide +kernel)
    exact vx_throwS (A := (fun q => b ≤ q)) (own := RX3) (cls := "java/lang/IndexOutOfBoundsException") (text := "no such site or place") (names := exN) hx hb hlt hown (by decide +kernel) (by decide +kernel) (hts (.classLink RX3 135 "java/lang/IndexOutOfBoundsException") (by decide +kernel)) (hts (.initialized "java/lang/IndexOutOfBoundsException") (by decide +kernel)) hsa (th_hat hT (fun w h => hts w (List.mem_cons_of_mem _ (List.mem_append_left _ (List.mem_append_right _ h)))) th_i4) (th_good th_i4) hT.2.2.2.1 hT.2.2.2.2 hS (hl.1.trans hml.symm) dX3_strength_14 dX3_strength_17 dX3_strength_18 dX3_strength_20 dX3_strength_23 (fun x h => (hnt x h).elim) (by decide) (Nat.le_of_ble_eq_true rfl) (Nat.le_of_ble_eq_true rfl) (Nat.le_of_ble_eq_true rfl) hlocks (fun t ha h1 h2 => ⟨(), trivial, ⟨(Or.inl rfl), hM.keep h2⟩, th_F hS h1 h2⟩) hS.2.2 (Nat.le_of_ble_eq_true rfl) (Nat.le_of_ble_eq_true rfl)
  · skip
    have hl : lv_has ls 5 [(0, .ref o), (1, .int (nI j7)), (2, .int (nI jx9)), (3, .int (nI jy10))] := hl
    refine lv_astore (lv' := [(4, .ref a8), (0, .ref o), (1, .int (nI j7)), (2, .int (nI jx9)), (3, .int (nI jy10))]) hx hb dX3_strength_7 hl (by decide) rfl (fun ls hl => ?_)
    refine lv_aload hx hb dX3_strength_9 (lv_at hl 0 rfl) ?_
    refine lv_ifnonnull (tgt := 24) hx hb dX3_strength_11 (by decide) ?_
    refine lv_aload hx hb dX3_strength_24 (lv_at hl 0 rfl) ?_
    refine lv_iload_n hx hb dX3_strength_26 rfl (lv_at hl 3 rfl) ?_
    refine lv_iload_n hx hb dX3_strength_27 rfl (lv_at hl 4 rfl) ?_
    refine va_calli (va_runS (As := [.int (nI jx9), .int (nI jy10)]) (rest := [.ref a8]) ⟨hx, hb, hml, hown, hts⟩ (rk_placeOf l (nI jx9) (nI jy10)) (va_cwS 2 hts gX3_strength_X3_placeOf rfl rfl rfl (by decide +kernel) ⟨Nat.le_of_ble_eq_true rfl, Nat.le_of_ble_eq_true rfl⟩) ⟨fun a U g mk q => q, fun U hU hW => ⟨rfl, trivial⟩⟩ rfl rfl hl.1 rfl (lv_room (Nat.le_of_ble_eq_true rfl)) dX3_strength_28 ⟨(Nat.le_of_ble_eq_true rfl), (Nat.le_of_ble_eq_true rfl)⟩) hS (fun q _ h => h.elim) (fun q h => h.elim) (fun r15 u t H locs ht hvm hw16 hB hz1 hk1 hS => ?_)
    have hM := hM.keep (fun p hp => hk1 p hp (fun z => z))
    obtain rfl : r15 = nI (8 * jy10 + jx9) := hw16.trans (by rw [show (8 : Int32) = nI 8 from rfl]; exact (congrArg (· + nI jx9) (pk_mul 8 jy10)).trans (nI_add _ _))
    obtain ⟨u17, u18, u19, u20, u21, u22, hP, hf⟩ := o_st (i := j7) (q := a8) hM (by omega)
    refine va_calli (va_runV (As := [.int (nI (8 * jy10 + jx9))]) (rest := []) ⟨hx, hb, hml, hown, hts⟩ (rk_has l dC dI kA eD b g a8 j7 (nI (8 * jy10 + jx9)) (by omega)) (cwV 1 hts gX3_strength_X1_has rfl rfl rfl (by decide +kernel) ⟨Nat.le_of_ble_eq_true rfl, Nat.le_of_ble_eq_true rfl⟩) ⟨fb_CX, va_recv hK hP (ci := 5) (q0 := 0) rfl rfl, fun U hU hW => ⟨rfl, CX.give hb0 hM hK hG hE hS hU hW⟩⟩ rfl rfl hl.1 rfl (lv_room (Nat.le_of_ble_eq_true rfl)) dX3_strength_31 ⟨(Nat.le_of_ble_eq_true rfl), (Nat.le_of_ble_eq_true rfl)⟩) hS (fun q _ h => h.elim) (fun q h => h.elim) (fun r23 u t H locs ht hvm hw24 hB hz1 hk1 hS => ?_)
    have hM := hB.back ht
    have hG := hB.2.2.2.1
    refine lv_if_ne (tgt := 47) hx hb dX3_strength_34 (by decide) (fun c25 => ?_) (fun c25 => ?_)
    · skip
      have hk26 : ¬ (pI g (pF g a8 0)) (8 * jy10 + jx9) = 46 := by obtain ⟨-, jz9, ez9, hz9, hz8⟩ := hw24.resolve_left (fun z => c25 z.1); rw [(nI_eq (a := (8 * jy10 + jx9)) (b := jz9) (by omega) (by omega)).mp ez9]; exact hz8
      refine lv_aload hx hb dX3_strength_47 (lv_at hl 0 rfl) ?_
      refine lv_iload_n hx hb dX3_strength_49 rfl (lv_at hl 3 rfl) ?_
      refine lv_iload_n hx hb dX3_strength_50 rfl (lv_at hl 4 rfl) ?_
      refine va_calli (va_runS (As := [.int (nI jx9), .int (nI jy10)]) (rest := [.ref a8]) ⟨hx, hb, hml, hown, hts⟩ (rk_placeOf l (nI jx9) (nI jy10)) (va_cwS 2 hts gX3_strength_X3_placeOf rfl rfl rfl (by decide +kernel) ⟨Nat.le_of_ble_eq_true rfl, Nat.le_of_ble_eq_true rfl⟩) ⟨fun a U g mk q => q, fun U hU hW => ⟨rfl, trivial⟩⟩ rfl rfl hl.1 rfl (lv_room (Nat.le_of_ble_eq_true rfl)) dX3_strength_51 ⟨(Nat.le_of_ble_eq_true rfl), (Nat.le_of_ble_eq_true rfl)⟩) hS (fun q _ h => h.elim) (fun q h => h.elim) (fun r27 u t H locs ht hvm hw28 hB hz1 hk1 hS => ?_)
      have hM := hM.keep (fun p hp => hk1 p hp (fun z => z))
      obtain rfl : r27 = nI (8 * jy10 + jx9) := hw28.trans (by rw [show (8 : Int32) = nI 8 from rfl]; exact (congrArg (· + nI jx9) (pk_mul 8 jy10)).trans (nI_add _ _))
      refine lv_aload_n hx hb dX3_strength_54 rfl (lv_at hl 1 rfl) ?_
      obtain ⟨u29, u30, u31, u32, hP, hf⟩ := o_sno (i := 0) (q := o) hM (by omega)
      refine va_get (D := (dC, dI)) (ci := 7) (v := .ref (pF g o 0)) (C := RX3) (T := TX3) (N := 10) hx hb hts (by decide +kernel) hown hK hP 0 rfl rfl 0 (by decide) (hts (.fieldLink RX3 10 "Snowpalace" "sky" "LSnowpalace$Sky;") (by decide +kernel)) (fun _ h9 => h9) rfl dX3_strength_55 ?_
      have ht33 : tg g (pF g o 0) = 2 := hf.1
      refine lv_aload_n hx hb dX3_strength_58 rfl (lv_at hl 1 rfl) ?_
      obtain ⟨u34, u35, u36, u37, hP, hf⟩ := o_sno (i := 0) (q := o) hM (by omega)
      refine va_get (D := (dC, dI)) (ci := 7) (v := .int (pI g o 1)) (C := RX3) (T := TX3) (N := 10) hx hb hts (by decide +kernel) hown hK hP 0 rfl rfl 4 (by decide) (hts (.fieldLink RX3 33 "Snowpalace" "clock" "I") (by decide +kernel)) (fun _ h9 => h9) rfl dX3_strength_59 ?_
      have hv38 := hf.2.2.2.2.1
      obtain ⟨hP, hf⟩ := o_sky (i := 0) (q := (pF g o 0)) hM (by omega)
      refine va_calli (va_runV (As := [.int (pI g o 1)]) (rest := [.int (nI (8 * jy10 + jx9)), .ref a8]) ⟨hx, hb, hml, hown, hts⟩ (rk_warmthOf l dC dI kA eD b g (pF g o 0) (pI g o 1) (by omega)) (cwV 1 hts gX3_strength_X2_warmthOf rfl rfl rfl (by decide +kernel) ⟨Nat.le_of_ble_eq_true rfl, Nat.le_of_ble_eq_true rfl⟩) ⟨fb_CX, va_recv hK hP (ci := 6) (q0 := 0) rfl rfl, fun U hU hW => ⟨rfl, CX.give hb0 hM hK hG hE hS hU hW⟩⟩ rfl rfl hl.1 rfl (lv_room (Nat.le_of_ble_eq_true rfl)) dX3_strength_62 ⟨(Nat.le_of_ble_eq_true rfl), (Nat.le_of_ble_eq_true rfl)⟩) hS (fun q _ h => h) (fun q h => h) (fun r39 u t H locs ht hvm hw40 hB hz1 hk1 hS => ?_)
      have hM := hB.back ht
      have hG := hB.2.2.2.1
      obtain ⟨u41, u42, u43, u44, u45, u46, hP, hf⟩ := o_st (i := j7) (q := a8) hM (by omega)
      refine va_calli (va_runV (As := [.int (nI (8 * jy10 + jx9)), .int r39]) (rest := []) ⟨hx, hb, hml, hown, hts⟩ (rk_strengthOf l dC dI kA eD b g a8 j7 (nI (8 * jy10 + jx9)) r39 (by omega)) (cwV 2 hts gX3_strength_X1_strengthOf rfl rfl rfl (by decide +kernel) ⟨Nat.le_of_ble_eq_true rfl, Nat.le_of_ble_eq_true rfl⟩) ⟨fb_CX, va_recv hK hP (ci := 5) (q0 := 0) rfl rfl, fun U hU hW => ⟨rfl, CX.give hb0 hM hK hG hE hS hU hW⟩⟩ rfl rfl hl.1 rfl (lv_room (Nat.le_of_ble_eq_true rfl)) dX3_strength_65 ⟨(Nat.le_of_ble_eq_true rfl), (Nat.le_of_ble_eq_true rfl)⟩) hS (fun q _ h => h) (fun q h => h) (fun r47 u t H locs ht hvm hw48 hB hz1 hk1 hS => ?_)
      have hM := hB.back ht
      have hG := hB.2.2.2.1
      refine vx_ret ?_
      refine W.widen (k := 1) (n := 6) (Nat.le_of_ble_eq_true rfl) (Nat.le_of_ble_eq_true rfl) ?_
      exact W.iret (v := r47) hx hb hr (fun t ht hW => ⟨⟨r47, (), rfl, trivial, CX.give hb0 hM hK hG hE hS ht hW⟩, hS.F ht⟩) hS.2.2 dX3_strength_68
    · skip
      have hk49 : (pI g (pF g a8 0)) (8 * jy10 + jx9) = 46 := (hw24.resolve_right (fun z => absurd (z.1.symm.trans c25) (by decide))).2 (8 * jy10 + jx9) rfl (by omega)
      obtain ⟨sa, hsa⟩ := hT.2.1 (182, "no cell is there") (by decide +kernel)
      exact rt_throwSX (A := (fun q => b ≤ q)) (own := RX3) (cls := "java/util/NoSuchElementException") (text := "no cell is there") (names := exN) (ix := 13) (rx := prog_38_method_4_code) hx hb hlt rx13_0 rx13_1 rx13_2 rx13_5 hown (by decide +kernel) (by decide +kernel) (hts (.classLink RX3 180 "java/util/NoSuchElementException") (by decide +kernel)) hE.2.2.2.2.2.2.2.2.ini hsa hE.2.2.2.2.2.2.2.2.hat nse_good hT.2.2.2.1 hT.2.2.2.2 hS (hl.1.trans hml.symm) dX3_strength_37 dX3_strength_40 dX3_strength_41 dX3_strength_43 dX3_strength_46 (fun x h => (hnt x h).elim) (by decide) (Nat.le_of_ble_eq_true rfl) (Nat.le_of_ble_eq_true rfl) (Nat.le_of_ble_eq_true rfl) hlocks (fun t ha h1 h2 => ⟨(), trivial, ⟨(Or.inr rfl), hM.keep h2⟩, th_F hS h1 h2⟩) hS.2.2 (Nat.le_of_ble_eq_true rfl) (Nat.le_of_ble_eq_true rfl)
