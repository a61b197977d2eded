set_option maxHeartbeats 4000000 in
set_option maxRecDepth 100000 in
theorem rmf_ice (l : Launch) (dC : Nat → ClassId) (dI : Nat → Nat → Nat) (kA : Nat → ClassId) (eD b : Nat) (g : Gh) (o : Nat) (fi : Int32) (hto : tg g o = 17)  : Met l yX6_ice wsX6_ice ({ frames := 2, cells := 0, slots := 0, locals := 46 }) (va_Pc [.ref o, .int fi] (CX (dC, dI) kA eD b g)) (va_Qi (fun (r : Int32) (u : Gh) => Ext o X0 g u) (fun (u : Gh) t => CX (dC, dI) kA eD b u t) (fun q => b ≤ q)) 0 0 (fun q => b ≤ q) := by
  refine Met.ofW (cc := cX6_ice) (maxL := 2) (ret := (some .int)) (by decide +kernel) rfl ?_
  intro p e s m args below meth c s₁ B hml hv
  obtain ⟨rfl, hb0, hM, hK, hG, hE⟩ := hv
  have hx := B.exec
  have hb := B.bytes
  have hr := B.returns
  have hts := atoms_spec (ws := wsX6_ice) B.pre
  have hown : s.vm.findClass RX6 = some m.cls := findClass_of_methodNamed B.named
  have hlocks := B.notSynchronized
  have hT := hE.1
  have hN := hE.2.2.2.2.2.2.2.1
  have hS : va_S (fun q => b ≤ q) s.heap s.heap [] := va_S.rf
  have hl := lv_entry ([.ref o, .int fi]) (n := 2) (Nat.le_of_ble_eq_true rfl)
  rw [lg_entry_eq]
  generalize (lg_sl ([.ref o, .int fi]) ++ List.replicate (2 - (lg_sl ([.ref o, .int fi])).length) Slot.unset).toArray = ls at hl ⊢
  have hl : lv_has ls 2 [(0, .ref o), (1, .int fi)] := hl
  generalize ([.ref o, .int fi] : List Value).toArray = args at hts ⊢
  refine lv_aload_n hx hb dX6_ice_0 rfl (lv_at hl 0 rfl) ?_
  refine lv_iload_n hx hb dX6_ice_1 rfl (lv_at hl 1 rfl) ?_
  obtain ⟨u1, u2, hP, hf⟩ := o_mo (i := 0) (q := o) hM (by omega)
  refine va_calli (va_runV (As := [.int fi]) (rest := []) ⟨hx, hb, hml, hown, hts⟩ (rm_isNoField l dC dI kA eD b g o fi (by omega)) (cwV 1 hts gX6_ice_X6_isNoField rfl rfl rfl (by decide +kernel) ⟨Nat.le_of_ble_eq_true rfl, Nat.le_of_ble_eq_true rfl⟩) ⟨fb_CX, va_recv hK hP (ci := 10) (q0 := 0) rfl rfl, fun U hU hW => ⟨rfl, CX.give hb0 hM hK hG hE hS hU hW⟩⟩ rfl rfl hl.1 rfl (lv_room (Nat.le_of_ble_eq_true rfl)) dX6_ice_2 ⟨(Nat.le_of_ble_eq_true rfl), (Nat.le_of_ble_eq_true rfl)⟩) hS (fun q _ h => h) (fun q h => h) (fun r3 g5 t H locs ht hvm hw4 hB hz1 hk1 hS => ?_)
  have hM := hB.back ht
  have hG := hB.2.2.2.1
  have hx6 : Ext o X0 g g5 := hw4.1
  have ht7 : tg g5 o = 17 := hx6.tk hto (by omega)
  have hth8 := hw4.2.1
  refine lv_if_eq (tgt := 12) hx hb dX6_ice_5 (by decide) (fun c9 => ?_) (fun c9 => ?_)
  · skip
    have hv10 := vr0 (vr01 hw4.2.2) c9
    obtain ⟨j, hj, rfl⟩ := toN (p := fi) (k := 3) (by omega) (by omega) (by decide)
    have hl : lv_has ls 2 [(0, .ref o), (1, .int (nI j))] := hl
    have ej : (nI j).toInt = (j : Int) := nI_toInt (by omega)
    refine lv_aload_n hx hb dX6_ice_12 rfl (lv_at hl 0 rfl) ?_
    obtain ⟨u11, u12, hP, hf⟩ := o_mo (i := 0) (q := o) hM (by omega)
    refine va_get (D := (dC, dI)) (ci := 10) (v := .ref (pF g5 o 1)) (C := RX6) (T := TX6) (N := 11) hx hb hts (by decide +kernel) hown hK hP 0 rfl rfl 4 (by decide) (hts (.fieldLink RX6 19 "SnowpalaceModel" "ice" "[I") (by decide +kernel)) (fun _ h9 => h9) rfl dX6_ice_13 ?_
    have ht13 : tg g5 (pF g5 o 1) = 19 := hf.2.1
    refine lv_iload_n hx hb dX6_ice_16 rfl (lv_at hl 1 rfl) ?_
    obtain ⟨u14, hP, hf⟩ := o_ic (i := 0) (q := (pF g5 o 1)) hM (by omega)
    refine va_iald (D := (dC, dI)) hx hb hK hP 0 0 rfl rfl (vp_in_nI (by omega) (by decide)) dX6_ice_17 ?_
    refine lv_topi (fun v15 e16 => ?_)
    have ec : ((nI j) : Int32).toNatClampNeg = j := nI_clamp (by omega)
    rw [ec] at e16
    have hu17 := hf j (by omega)
    rw [← e16] at hu17
    refine W.widen (k := 0) (n := 0) (Nat.le_of_ble_eq_true rfl) (Nat.le_of_ble_eq_true rfl) ?_
    exact W.iret (v := v15) hx hb hr (fun t ht hW => ⟨⟨v15, g5, rfl, hx6, CX.give hb0 hM hK hG hE hS ht hW⟩, hS.F ht⟩) hS.2.2 dX6_ice_18
  · skip
    have hv18 := vr1 (vr01 hw4.2.2) c9
    refine lv_iconst (v := 0) hx hb dX6_ice_8 (by decide) ?_
    refine lv_goto (tgt := 18) hx hb dX6_ice_9 (by decide) ?_
    refine W.widen (k := 0) (n := 0) (Nat.le_of_ble_eq_true rfl) (Nat.le_of_ble_eq_true rfl) ?_
    exact W.iret (v := 0) hx hb hr (fun t ht hW => ⟨⟨0, g5, rfl, hx6, CX.give hb0 hM hK hG hE hS ht hW⟩, hS.F ht⟩) hS.2.2 dX6_ice_18

set_option maxHeartbeats 4000000 in
set_option maxRecDepth 100000 in
theorem rmf_clear (l : Launch) (dC : Nat → ClassId) (dI : Nat → Nat → Nat) (kA : Nat → ClassId) (eD b : Nat) (g : Gh) (o : Nat) (fi : Int32) (hto : tg g o = 17)  : Met l yX6_clear wsX6_clear ({ frames := 2, cells := 0, slots := 0, locals := 46 }) (va_Pc [.ref o, .int fi] (CX (dC, dI) kA eD b g)) (va_Qi (fun (r : Int32) (u : Gh) => Ext o X0 g u) (fun (u : Gh) t => CX (dC, dI) kA eD b u t) (fun q => b ≤ q)) 0 0 (fun q => b ≤ q) := by
  refine Met.ofW (cc := cX6_clear) (maxL := 2) (ret := (some .int)) (by decide +kernel) rfl ?_
  intro p e s m args below meth c s₁ B hml hv
  obtain ⟨rfl, hb0, hM, hK, hG, hE⟩ := hv
  have hx := B.exec
  have hb := B.bytes
  have hr := B.returns
  have hts := atoms_spec (ws := wsX6_clear) B.pre
  have hown : s.vm.findClass RX6 = some m.cls := findClass_of_methodNamed B.named
  have hlocks := B.notSynchronized
  have hT := hE.1
  have hN := hE.2.2.2.2.2.2.2.1
  have hS : va_S (fun q => b ≤ q) s.heap s.heap [] := va_S.rf
  have hl := lv_entry ([.ref o, .int fi]) (n := 2) (Nat.le_of_ble_eq_true rfl)
  rw [lg_entry_eq]
  generalize (lg_sl ([.ref o, .int fi]) ++ List.replicate (2 - (lg_sl ([.ref o, .int fi])).length) Slot.unset).toArray = ls at hl ⊢
  have hl : lv_has ls 2 [(0, .ref o), (1, .int fi)] := hl
  generalize ([.ref o, .int fi] : List Value).toArray = args at hts ⊢
  refine lv_aload_n hx hb dX6_clear_0 rfl (lv_at hl 0 rfl) ?_
  refine lv_iload_n hx hb dX6_clear_1 rfl (lv_at hl 1 rfl) ?_
  obtain ⟨u1, u2, hP, hf⟩ := o_mo (i := 0) (q := o) hM (by omega)
  refine va_calli (va_runV (As := [.int fi]) (rest := []) ⟨hx, hb, hml, hown, hts⟩ (rm_isNoField l dC dI kA eD b g o fi (by omega)) (cwV 1 hts gX6_clear_X6_isNoField rfl rfl rfl (by decide +kernel) ⟨Nat.le_of_ble_eq_true rfl, Nat.le_of_ble_eq_true rfl⟩) ⟨fb_CX, va_recv hK hP (ci := 10) (q0 := 0) rfl rfl, fun U hU hW => ⟨rfl, CX.give hb0 hM hK hG hE hS hU hW⟩⟩ rfl rfl hl.1 rfl (lv_room (Nat.le_of_ble_eq_true rfl)) dX6_clear_2 ⟨(Nat.le_of_ble_eq_true rfl), (Nat.le_of_ble_eq_true rfl)⟩) hS (fun q _ h => h) (fun q h => h) (fun r3 g5 t H locs ht hvm hw4 hB hz1 hk1 hS => ?_)
  have hM := hB.back ht
  have hG := hB.2.2.2.1
  have hx6 : Ext o X0 g g5 := hw4.1
  have ht7 : tg g5 o = 17 := hx6.tk hto (by omega)
  have hth8 := hw4.2.1
  refine lv_if_eq (tgt := 12) hx hb dX6_clear_5 (by decide) (fun c9 => ?_) (fun c9 => ?_)
  · skip
    have hv10 := vr0 (vr01 hw4.2.2) c9
    obtain ⟨j, hj, rfl⟩ := toN (p := fi) (k := 3) (by omega) (by omega) (by decide)
    have hl : lv_has ls 2 [(0, .ref o), (1, .int (nI j))] := hl
    have ej : (nI j).toInt = (j : Int) := nI_toInt (by omega)
    refine lv_aload_n hx hb dX6_clear_12 rfl (lv_at hl 0 rfl) ?_
    obtain ⟨u11, u12, hP, hf⟩ := o_mo (i := 0) (q := o) hM (by omega)
    refine va_get (D := (dC, dI)) (ci := 10) (v := .ref (pF g5 o 2)) (C := RX6) (T := TX6) (N := 11) hx hb hts (by decide +kernel) hown hK hP 0 rfl rfl 5 (by decide) (hts (.fieldLink RX6 22 "SnowpalaceModel" "clear" "[I") (by decide +kernel)) (fun _ h9 => h9) rfl dX6_clear_13 ?_
    have ht13 : tg g5 (pF g5 o 2) = 24 := hf.2.2.1
    refine lv_iload_n hx hb dX6_clear_16 rfl (lv_at hl 1 rfl) ?_
    obtain ⟨u14, hP, hf⟩ := o_fl (i := 0) (q := (pF g5 o 2)) hM (by omega)
    refine va_iald (D := (dC, dI)) hx hb hK hP 0 0 rfl rfl (vp_in_nI (by omega) (by decide)) dX6_clear_17 ?_
    refine lv_topi (fun v15 e16 => ?_)
    have ec : ((nI j) : Int32).toNatClampNeg = j := nI_clamp (by omega)
    rw [ec] at e16
    refine W.widen (k := 0) (n := 0) (Nat.le_of_ble_eq_true rfl) (Nat.le_of_ble_eq_true rfl) ?_
    exact W.iret (v := v15) hx hb hr (fun t ht hW => ⟨⟨v15, g5, rfl, hx6, CX.give hb0 hM hK hG hE hS ht hW⟩, hS.F ht⟩) hS.2.2 dX6_clear_18
  · skip
    have hv17 := vr1 (vr01 hw4.2.2) c9
    refine lv_iconst (v := 0) hx hb dX6_clear_8 (by decide) ?_
    refine lv_goto (tgt := 18) hx hb dX6_clear_9 (by decide) ?_
    refine W.widen (k := 0) (n := 0) (Nat.le_of_ble_eq_true rfl) (Nat.le_of_ble_eq_true rfl) ?_
    exact W.iret (v := 0) hx hb hr (fun t ht hW => ⟨⟨0, g5, rfl, hx6, CX.give hb0 hM hK hG hE hS ht hW⟩, hS.F ht⟩) hS.2.2 dX6_clear_18

set_option maxHeartbeats 4000000 in
set_option maxRecDepth 100000 in
theorem rmf_yard (l : Launch) (dC : Nat → ClassId) (dI : Nat → Nat → Nat) (kA : Nat → ClassId) (eD b : Nat) (g : Gh) (o : Nat) (ic : Int32) (hto : tg g o = 17)  : Met l yX6_yard wsX6_yard ({ frames := 0, cells := 0, slots := 0, locals := 0 }) (va_Pc [.ref o, .int ic] (CX (dC, dI) kA eD b g)) (va_Qi (fun (r : Int32) (u : Gh) => Ext o X0 g u) (fun (u : Gh) t => CX (dC, dI) kA eD b u t) (fun q => b ≤ q)) 0 0 (fun q => b ≤ q) := by
  refine Met.ofW (cc := cX6_yard) (maxL := 2) (ret := (some .int)) (by decide +kernel) rfl ?_
  intro p e s m args below meth c s₁ B hml hv
  obtain ⟨rfl, hb0, hM, hK, hG, hE⟩ := hv
  have hx := B.exec
  have hb := B.bytes
  have hr := B.returns
  have hts := atoms_spec (ws := wsX6_yard) B.pre
  have hown : s.vm.findClass RX6 = some m.cls := findClass_of_methodNamed B.named
  have hlocks := B.notSynchronized
  have hT := hE.1
  have hN := hE.2.2.2.2.2.2.2.1
  have hS : va_S (fun q => b ≤ q) s.heap s.heap [] := va_S.rf
  have hl := lv_entry ([.ref o, .int ic]) (n := 2) (Nat.le_of_ble_eq_true rfl)
  rw [lg_entry_eq]
  generalize (lg_sl ([.ref o, .int ic]) ++ List.replicate (2 - (lg_sl ([.ref o, .int ic])).length) Slot.unset).toArray = ls at hl ⊢
  have hl : lv_has ls 2 [(0, .ref o), (1, .int ic)] := hl
  generalize ([.ref o, .int ic] : List Value).toArray = args at hts ⊢
  refine lv_aload_n hx hb dX6_yard_0 rfl (lv_at hl 0 rfl) ?_
  refine lv_iconst (v := 0) hx hb dX6_yard_1 (by decide) ?_
  obtain ⟨u1, u2, hP, hf⟩ := o_mo (i := 0) (q := o) hM (by omega)
  refine rt_put (D := (dC, dI)) (ci := 10) (v := .int 0) (ty := .int) (C := RX6) (T := TX6) (N := 11) hx hb hts (by decide +kernel) tyX6 tyX6_ok nmX6 hown hK hP (hM.ge (by omega)) hS rfl 0 (by decide) (hts (.fieldLink RX6 1 "SnowpalaceModel" "thrown" "I") (by decide +kernel)) (fun _ h9 => h9) rfl (by decide +kernel) rfl rfl (Nat.le_of_ble_eq_true rfl) dX6_yard_2 (fun H locs hP hz ho hS => ?_)
  have hM0 := hM
  have hM := p_mo (i := 0) (f := upd (pI g o) 2 0) hM (by omega) hP ho hf
  obtain ⟨g4, hg4⟩ : ∃ z, z = uI g o (upd (pI g o) 2 0) := ⟨_, rfl⟩
  rw [← hg4] at hM
  have ht5 : tg g4 o = 17 := by rw [hg4]; exact hto
  have hG : GOK g4 := by rw [hg4]; exact (hG.uI hM0 (Or.inl (by omega)))
  have hx7 : Ext o X0 g g4 := by rw [hg4]; exact (Ext.thr (fun j9 hj9 => if_neg hj9))
  refine lv_aload_n hx hb dX6_yard_5 rfl (lv_at hl 0 rfl) ?_
  obtain ⟨u8, u9, hP, hf⟩ := o_mo (i := 0) (q := o) hM (by omega)
  refine va_get (D := (dC, dI)) (ci := 10) (v := .ref (pF g4 o 4)) (C := RX6) (T := TX6) (N := 11) hx hb hts (by decide +kernel) hown hK hP 0 rfl rfl 7 (by decide) (hts (.fieldLink RX6 28 "SnowpalaceModel" "yard" "[I") (by decide +kernel)) (fun _ h9 => h9) rfl dX6_yard_6 ?_
  have ht10 : tg g4 (pF g4 o 4) = 25 := hf.2.2.2.2.1
  refine lv_iload_n hx hb dX6_yard_9 rfl (lv_at hl 1 rfl) ?_
  refine lv_if_eq (tgt := 17) hx hb dX6_yard_10 (by decide) (fun c11 => ?_) (fun c11 => ?_)
  · skip
    refine lv_iconst (v := 0) hx hb dX6_yard_17 (by decide) ?_
    obtain ⟨u12, hP, hf⟩ := o_ya (i := 0) (q := (pF g4 o 4)) hM (by omega)
    refine va_iald (D := (dC, dI)) hx hb hK hP 0 0 rfl rfl (by unfold vp_in; decide) dX6_yard_18 ?_
    refine lv_topi (fun v13 e14 => ?_)
    have ec : (0 : Int32).toNatClampNeg = 0 := by decide
    rw [ec] at e14
    refine W.widen (k := 0) (n := 0) (Nat.le_of_ble_eq_true rfl) (Nat.le_of_ble_eq_true rfl) ?_
    exact W.iret (v := v13) hx hb hr (fun t ht hW => ⟨⟨v13, g4, rfl, hx7, CX.give hb0 hM hK hG hE hS ht hW⟩, hS.F ht⟩) hS.2.2 dX6_yard_19
  · skip
    refine lv_iconst (v := 1) hx hb dX6_yard_13 (by decide) ?_
    refine lv_goto (tgt := 18) hx hb dX6_yard_14 (by decide) ?_
    obtain ⟨u15, hP, hf⟩ := o_ya (i := 0) (q := (pF g4 o 4)) hM (by omega)
    refine va_iald (D := (dC, dI)) hx hb hK hP 0 0 rfl rfl (by unfold vp_in; decide) dX6_yard_18 ?_
    refine lv_topi (fun v16 e17 => ?_)
    have ec : (1 : Int32).toNatClampNeg = 1 := by decide
    rw [ec] at e17
    refine W.widen (k := 0) (n := 0) (Nat.le_of_ble_eq_true rfl) (Nat.le_of_ble_eq_true rfl) ?_
    exact W.iret (v := v16) hx hb hr (fun t ht hW => ⟨⟨v16, g4, rfl, hx7, CX.give hb0 hM hK hG hE hS ht hW⟩, hS.F ht⟩) hS.2.2 dX6_yard_19

set_option maxHeartbeats 4000000 in
set_option maxRecDepth 100000 in
theorem rmf_snow (l : Launch) (dC : Nat → ClassId) (dI : Nat → Nat → Nat) (kA : Nat → ClassId) (eD b : Nat) (g : Gh) (o : Nat)  (hto : tg g o = 17)  : Met l yX6_snow wsX6_snow ({ frames := 0, cells := 0, slots := 0, locals := 0 }) (va_Pc [.ref o] (CX (dC, dI) kA eD b g)) (va_Qi (fun (r : Int32) (u : Gh) => Ext o X0 g u) (fun (u : Gh) t => CX (dC, dI) kA eD b u t) (fun q => b ≤ q)) 0 0 (fun q => b ≤ q) := by
  refine Met.ofW (cc := cX6_snow) (maxL := 1) (ret := (some .int)) (by decide +kernel) rfl ?_
  intro p e s m args below meth c s₁ B hml hv
  obtain ⟨rfl, hb0, hM, hK, hG, hE⟩ := hv
  have hx := B.exec
  have hb := B.bytes
  have hr := B.returns
  have hts := atoms_spec (ws := wsX6_snow) B.pre
  have hown : s.vm.findClass RX6 = some m.cls := findClass_of_methodNamed B.named
  have hlocks := B.notSynchronized
  have hT := hE.1
  have hN := hE.2.2.2.2.2.2.2.1
  have hS : va_S (fun q => b ≤ q) s.heap s.heap [] := va_S.rf
  have hl := lv_entry ([.ref o]) (n := 1) (Nat.le_of_ble_eq_true rfl)
  rw [lg_entry_eq]
  generalize (lg_sl ([.ref o]) ++ List.replicate (1 - (lg_sl ([.ref o])).length) Slot.unset).toArray = ls at hl ⊢
  have hl : lv_has ls 1 [(0, .ref o)] := hl
  generalize ([.ref o] : List Value).toArray = args at hts ⊢
  refine lv_aload_n hx hb dX6_snow_0 rfl (lv_at hl 0 rfl) ?_
  refine lv_iconst (v := 0) hx hb dX6_snow_1 (by decide) ?_
  obtain ⟨u1, u2, hP, hf⟩ := o_mo (i := 0) (q := o) hM (by omega)
  refine rt_put (D := (dC, dI)) (ci := 10) (v := .int 0) (ty := .int) (C := RX6) (T := TX6) (N := 11) hx hb hts (by decide +kernel) tyX6 tyX6_ok nmX6 hown hK hP (hM.ge (by omega)) hS rfl 0 (by decide) (hts (.fieldLink RX6 1 "SnowpalaceModel" "thrown" "I") (by decide +kernel)) (fun _ h9 => h9) rfl (by decide +kernel) rfl rfl (Nat.le_of_ble_eq_true rfl) dX6_snow_2 (fun H locs hP hz ho hS => ?_)
  have hM0 := hM
  have hM := p_mo (i := 0) (f := upd (pI g o) 2 0) hM (by omega) hP ho hf
  obtain ⟨g4, hg4⟩ : ∃ z, z = uI g o (upd (pI g o) 2 0) := ⟨_, rfl⟩
  rw [← hg4] at hM
  have ht5 : tg g4 o = 17 := by rw [hg4]; exact hto
  have hG : GOK g4 := by rw [hg4]; exact (hG.uI hM0 (Or.inl (by omega)))
  have hx7 : Ext o X0 g g4 := by rw [hg4]; exact (Ext.thr (fun j9 hj9 => if_neg hj9))
  refine lv_aload_n hx hb dX6_snow_5 rfl (lv_at hl 0 rfl) ?_
  obtain ⟨u8, u9, hP, hf⟩ := o_mo (i := 0) (q := o) hM (by omega)
  refine va_get (D := (dC, dI)) (ci := 10) (v := .int u9) (C := RX6) (T := TX6) (N := 11) hx hb hts (by decide +kernel) hown hK hP 0 rfl rfl 8 (by decide) (hts (.fieldLink RX6 89 "SnowpalaceModel" "stored" "I") (by decide +kernel)) (fun _ h9 => h9) rfl dX6_snow_6 ?_
  refine W.widen (k := 0) (n := 0) (Nat.le_of_ble_eq_true rfl) (Nat.le_of_ble_eq_true rfl) ?_
  exact W.iret (v := u9) hx hb hr (fun t ht hW => ⟨⟨u9, g4, rfl, hx7, CX.give hb0 hM hK hG hE hS ht hW⟩, hS.F ht⟩) hS.2.2 dX6_snow_9

set_option maxHeartbeats 4000000 in
set_option maxRecDepth 100000 in
theorem rmf_money (l : Launch) (dC : Nat → ClassId) (dI : Nat → Nat → Nat) (kA : Nat → ClassId) (eD b : Nat) (g : Gh) (o : Nat)  (hto : tg g o = 17)  : Met l yX6_money wsX6_money ({ frames := 0, cells := 0, slots := 0, locals := 0 }) (va_Pc [.ref o] (CX (dC, dI) kA eD b g)) (va_Qi (fun (r : Int32) (u : Gh) => Ext o X0 g u) (fun (u : Gh) t => CX (dC, dI) kA eD b u t) (fun q => b ≤ q)) 0 0 (fun q => b ≤ q) := by
  refine Met.ofW (cc := cX6_money) (maxL := 1) (ret := (some .int)) (by decide +kernel) rfl ?_
  intro p e s m args below meth c s₁ B hml hv
  obtain ⟨rfl, hb0, hM, hK, hG, hE⟩ := hv
  have hx := B.exec
  have hb := B.bytes
  have hr := B.returns
  have hts := atoms_spec (ws := wsX6_money) B.pre
  have hown : s.vm.findClass RX6 = some m.cls := findClass_of_methodNamed B.named
  have hlocks := B.notSynchronized
  have hT := hE.1
  have hN := hE.2.2.2.2.2.2.2.1
  have hS : va_S (fun q => b ≤ q) s.heap s.heap [] := va_S.rf
  have hl := lv_entry ([.ref o]) (n := 1) (Nat.le_of_ble_eq_true rfl)
  rw [lg_entry_eq]
  generalize (lg_sl ([.ref o]) ++ List.replicate (1 - (lg_sl ([.ref o])).length) Slot.unset).toArray = ls at hl ⊢
  have hl : lv_has ls 1 [(0, .ref o)] := hl
  generalize ([.ref o] : List Value).toArray = args at hts ⊢
  refine lv_aload_n hx hb dX6_money_0 rfl (lv_at hl 0 rfl) ?_
  refine lv_iconst (v := 0) hx hb dX6_money_1 (by decide) ?_
  obtain ⟨u1, u2, hP, hf⟩ := o_mo (i := 0) (q := o) hM (by omega)
  refine rt_put (D := (dC, dI)) (ci := 10) (v := .int 0) (ty := .int) (C := RX6) (T := TX6) (N := 11) hx hb hts (by decide +kernel) tyX6 tyX6_ok nmX6 hown hK hP (hM.ge (by omega)) hS rfl 0 (by decide) (hts (.fieldLink RX6 1 "SnowpalaceModel" "thrown" "I") (by decide +kernel)) (fun _ h9 => h9) rfl (by decide +kernel) rfl rfl (Nat.le_of_ble_eq_true rfl) dX6_money_2 (fun H locs hP hz ho hS => ?_)
  have hM0 := hM
  have hM := p_mo (i := 0) (f := upd (pI g o) 2 0) hM (by omega) hP ho hf
  obtain ⟨g4, hg4⟩ : ∃ z, z = uI g o (upd (pI g o) 2 0) := ⟨_, rfl⟩
  rw [← hg4] at hM
  have ht5 : tg g4 o = 17 := by rw [hg4]; exact hto
  have hG : GOK g4 := by rw [hg4]; exact (hG.uI hM0 (Or.inl (by omega)))
  have hx7 : Ext o X0 g g4 := by rw [hg4]; exact (Ext.thr (fun j9 hj9 => if_neg hj9))
  refine lv_aload_n hx hb dX6_money_5 rfl (lv_at hl 0 rfl) ?_
  obtain ⟨u8, u9, hP, hf⟩ := o_mo (i := 0) (q := o) hM (by omega)
  refine va_get (D := (dC, dI)) (ci := 10) (v := .int u8) (C := RX6) (T := TX6) (N := 11) hx hb hts (by decide +kernel) hown hK hP 0 rfl rfl 3 (by decide) (hts (.fieldLink RX6 100 "SnowpalaceModel" "money" "I") (by decide +kernel)) (fun _ h9 => h9) rfl dX6_money_6 ?_
  refine W.widen (k := 0) (n := 0) (Nat.le_of_ble_eq_true rfl) (Nat.le_of_ble_eq_true rfl) ?_
  exact W.iret (v := u8) hx hb hr (fun t ht hW => ⟨⟨u8, g4, rfl, hx7, CX.give hb0 hM hK hG hE hS ht hW⟩, hS.F ht⟩) hS.2.2 dX6_money_9

set_option maxHeartbeats 4000000 in
set_option maxRecDepth 100000 in
theorem rmf_isSound (l : Launch) (dC : Nat → ClassId) (dI : Nat → Nat → Nat) (kA : Nat → ClassId) (eD b : Nat) (g : Gh) (o : Nat)  (hto : tg g o = 17)  : Met l yX6_isSound wsX6_isSound ({ frames := 0, cells := 0, slots := 0, locals := 0 }) (va_Pc [.ref o] (CX (dC, dI) kA eD b g)) (va_Qi (fun (r : Int32) (u : Gh) => Ext o X0 g u) (fun (u : Gh) t => CX (dC, dI) kA eD b u t) (fun q => b ≤ q)) 0 0 (fun q => b ≤ q) := by
  refine Met.ofW (cc := cX6_isSound) (maxL := 1) (ret := (some .boolean)) (by decide +kernel) rfl ?_
  intro p e s m args below meth c s₁ B hml hv
  obtain ⟨rfl, hb0, hM, hK, hG, hE⟩ := hv
  have hx := B.exec
  have hb := B.bytes
  have hr := B.returns
  have hts := atoms_spec (ws := wsX6_isSound) B.pre
  have hown : s.vm.findClass RX6 = some m.cls := findClass_of_methodNamed B.named
  have hlocks := B.notSynchronized
  have hT := hE.1
  have hN := hE.2.2.2.2.2.2.2.1
  have hS : va_S (fun q => b ≤ q) s.heap s.heap [] := va_S.rf
  have hl := lv_entry ([.ref o]) (n := 1) (Nat.le_of_ble_eq_true rfl)
  rw [lg_entry_eq]
  generalize (lg_sl ([.ref o]) ++ List.replicate (1 - (lg_sl ([.ref o])).length) Slot.unset).toArray = ls at hl ⊢
  have hl : lv_has ls 1 [(0, .ref o)] := hl
  generalize ([.ref o] : List Value).toArray = args at hts ⊢
  refine lv_aload_n hx hb dX6_isSound_0 rfl (lv_at hl 0 rfl) ?_
  refine lv_iconst (v := 0) hx hb dX6_isSound_1 (by decide) ?_
  obtain ⟨u1, u2, hP, hf⟩ := o_mo (i := 0) (q := o) hM (by omega)
  refine rt_put (D := (dC, dI)) (ci := 10) (v := .int 0) (ty := .int) (C := RX6) (T := TX6) (N := 11) hx hb hts (by decide +kernel) tyX6 tyX6_ok nmX6 hown hK hP (hM.ge (by omega)) hS rfl 0 (by decide) (hts (.fieldLink RX6 1 "SnowpalaceModel" "thrown" "I") (by decide +kernel)) (fun _ h9 => h9) rfl (by decide +kernel) rfl rfl (Nat.le_of_ble_eq_true rfl) dX6_isSound_2 (fun H locs hP hz ho hS => ?_)
  have hM0 := hM
  have hM := p_mo (i := 0) (f := upd (pI g o) 2 0) hM (by omega) hP ho hf
  obtain ⟨g4, hg4⟩ : ∃ z, z = uI g o (upd (pI g o) 2 0) := ⟨_, rfl⟩
  rw [← hg4] at hM
  have ht5 : tg g4 o = 17 := by rw [hg4]; exact hto
  have hG : GOK g4 := by rw [hg4]; exact (hG.uI hM0 (Or.inl (by omega)))
  have hx7 : Ext o X0 g g4 := by rw [hg4]; exact (Ext.thr (fun j9 hj9 => if_neg hj9))
  refine lv_iconst (v := 1) hx hb dX6_isSound_5 (by decide) ?_
  refine W.widen (k := 0) (n := 0) (Nat.le_of_ble_eq_true rfl) (Nat.le_of_ble_eq_true rfl) ?_
  exact W.zret (v := 1) (ty := .boolean) hx hb hr rfl (fun t ht hW => ⟨⟨1, g4, rfl, hx7, CX.give hb0 hM hK hG hE hS ht hW⟩, hS.F ht⟩) hS.2.2 dX6_isSound_6

set_option maxHeartbeats 4000000 in
set_option maxRecDepth 100000 in
theorem rmf_lorries (l : Launch) (dC : Nat → ClassId) (dI : Nat → Nat → Nat) (kA : Nat → ClassId) (eD b : Nat) (g : Gh) (o : Nat) (ma : Int32) (hto : tg g o = 17)  : Met l yX6_lorries wsX6_lorries ({ frames := 1, cells := 0, slots := 0, locals := 25 }) (va_Pc [.ref o, .int ma] (CX (dC, dI) kA eD b g)) (va_Qi (fun (r : Int32) (u : Gh) => Ext o X0 g u) (fun (u : Gh) t => CX (dC, dI) kA eD b u t) (fun q => b ≤ q)) 0 0 (fun q => b ≤ q) := by
  refine Met.ofW (cc := cX6_lorries) (maxL := 2) (ret := (some .int)) (by decide +kernel) rfl ?_
  intro p e s m args below meth c s₁ B hml hv
  obtain ⟨rfl, hb0, hM, hK, hG, hE⟩ := hv
  have hx := B.exec
  have hb := B.bytes
  have hr := B.returns
  have hts := atoms_spec (ws := wsX6_lorries) B.pre
  have hown : s.vm.findClass RX6 = some m.cls := findClass_of_methodNamed B.named
  have hlocks := B.notSynchronized
  have hT := hE.1
  have hN := hE.2.2.2.2.2.2.2.1
  have hS : va_S (fun q => b ≤ q) s.heap s.heap [] := va_S.rf
  have hl := lv_entry ([.ref o, .int ma]) (n := 2) (Nat.le_of_ble_eq_true rfl)
  rw [lg_entry_eq]
  generalize (lg_sl ([.ref o, .int ma]) ++ List.replicate (2 - (lg_sl ([.ref o, .int ma])).length) Slot.unset).toArray = ls at hl ⊢
  have hl : lv_has ls 2 [(0, .ref o), (1, .int ma)] := hl
  generalize ([.ref o, .int ma] : List Value).toArray = args at hts ⊢
  refine lv_aload_n hx hb dX6_lorries_0 rfl (lv_at hl 0 rfl) ?_
  refine lv_iload_n hx hb dX6_lorries_1 rfl (lv_at hl 1 rfl) ?_
  refine lv_i2l hx hb dX6_lorries_2 rfl ?_
  refine lv_lconst (v := 1) hx hb dX6_lorries_3 (by decide) ?_
  refine lv_ldc2 hx hb hown (hts (.constantLong RX6 44 20) (by decide +kernel)) dX6_lorries_4 ?_
  refine va_calli (va_runS (As := [.long ma.toInt64, .long 1, .long 20]) (rest := [.ref o]) ⟨hx, hb, hml, hown, hts⟩ (rm_isBetween l ma.toInt64 1 20 ((ma : Int32).toInt) (1) (20) (Int32.toInt_toInt64 _) (by decide) (by decide)) (va_cwS 3 hts gX6_lorries_X6_isBetween rfl rfl rfl (by decide +kernel) ⟨Nat.le_of_ble_eq_true rfl, Nat.le_of_ble_eq_true rfl⟩) ⟨fun a U g mk q => q, fun U hU hW => ⟨rfl, trivial⟩⟩ rfl rfl hl.1 rfl (lv_room (Nat.le_of_ble_eq_true rfl)) dX6_lorries_7 ⟨(Nat.le_of_ble_eq_true rfl), (Nat.le_of_ble_eq_true rfl)⟩) hS (fun q _ h => h.elim) (fun q h => h.elim) (fun r1 u t H locs ht hvm hw2 hB hz1 hk1 hS => ?_)
  have hM := hM.keep (fun p hp => hk1 p hp (fun z => z))
  have hw2 : r1 = bI ((1 : Int) ≤ (ma : Int32).toInt ∧ (ma : Int32).toInt ≤ (20 : Int)) := hw2
  refine lv_if_eq (tgt := 17) hx hb dX6_lorries_10 (by decide) (fun c3 => ?_) (fun c3 => ?_)
  · skip
    have g4 : ¬ ((1 : Int) ≤ (ma : Int32).toInt ∧ (ma : Int32).toInt ≤ (20 : Int)) := bI_f hw2 c3
    have zg4 : r1 = 0 := bI_f0 hw2 g4
    refine lv_iconst (v := 1) hx hb dX6_lorries_17 (by decide) ?_
    obtain ⟨u5, u6, hP, hf⟩ := o_mo (i := 0) (q := o) hM (by omega)
    refine va_calli (va_runV (As := [.int 1]) (rest := []) ⟨hx, hb, hml, hown, hts⟩ (rm_isWrong l dC dI kA eD b g o 1 (by omega)) (cwV 1 hts gX6_lorries_X6_isWrong rfl rfl rfl (by decide +kernel) ⟨Nat.le_of_ble_eq_true rfl, Nat.le_of_ble_eq_true rfl⟩) ⟨fb_CX, va_recv hK hP (ci := 10) (q0 := 0) rfl rfl, fun U hU hW => ⟨rfl, CX.give hb0 hM hK hG hE hS hU hW⟩⟩ rfl rfl hl.1 rfl (lv_room (Nat.le_of_ble_eq_true rfl)) dX6_lorries_18 ⟨(Nat.le_of_ble_eq_true rfl), (Nat.le_of_ble_eq_true rfl)⟩) hS (fun q _ h => h) (fun q h => h) (fun r7 g9 t H locs ht hvm hw8 hB hz1 hk1 hS => ?_)
    have hM := hB.back ht
    have hG := hB.2.2.2.1
    have hx10 : Ext o X0 g g9 := hw8.1
    have ht11 : tg g9 o = 17 := hx10.tk hto (by omega)
    obtain rfl : r7 = 1 := hw8.2.2.trans (by decide)
    have hth12 : pI g9 o 2 = 1 := by rw [hw8.2.1]; exact sI_at
    refine lv_if_eq (tgt := 26) hx hb dX6_lorries_21 (by decide) (fun cx => by first | exact absurd cx (by decide) | exact absurd (by decide) cx) (fun _ => ?_)
    refine lv_iconst (v := 0) hx hb dX6_lorries_24 (by decide) ?_
    refine W.widen (k := 0) (n := 0) (Nat.le_of_ble_eq_true rfl) (Nat.le_of_ble_eq_true rfl) ?_
    exact W.iret (v := 0) hx hb hr (fun t ht hW => ⟨⟨0, g9, rfl, hx10, CX.give hb0 hM hK hG hE hS ht hW⟩, hS.F ht⟩) hS.2.2 dX6_lorries_25
  · skip
    have g13 : (1 : Int) ≤ (ma : Int32).toInt ∧ (ma : Int32).toInt ≤ (20 : Int) := bI_t hw2 c3
    have zg13 : r1 = 1 := bI_t1 hw2 g13
    refine lv_iconst (v := 0) hx hb dX6_lorries_13 (by decide) ?_
    refine lv_goto (tgt := 18) hx hb dX6_lorries_14 (by decide) ?_
    obtain ⟨u14, u15, hP, hf⟩ := o_mo (i := 0) (q := o) hM (by omega)
    refine va_calli (va_runV (As := [.int 0]) (rest := []) ⟨hx, hb, hml, hown, hts⟩ (rm_isWrong l dC dI kA eD b g o 0 (by omega)) (cwV 1 hts gX6_lorries_X6_isWrong rfl rfl rfl (by decide +kernel) ⟨Nat.le_of_ble_eq_true rfl, Nat.le_of_ble_eq_true rfl⟩) ⟨fb_CX, va_recv hK hP (ci := 10) (q0 := 0) rfl rfl, fun U hU hW => ⟨rfl, CX.give hb0 hM hK hG hE hS hU hW⟩⟩ rfl rfl hl.1 rfl (lv_room (Nat.le_of_ble_eq_true rfl)) dX6_lorries_18 ⟨(Nat.le_of_ble_eq_true rfl), (Nat.le_of_ble_eq_true rfl)⟩) hS (fun q _ h => h) (fun q h => h) (fun r16 g18 t H locs ht hvm hw17 hB hz1 hk1 hS => ?_)
    have hM := hB.back ht
    have hG := hB.2.2.2.1
    have hx19 : Ext o X0 g g18 := hw17.1
    have ht20 : tg g18 o = 17 := hx19.tk hto (by omega)
    obtain rfl : r16 = 0 := hw17.2.2.trans (by decide)
    have hth21 : pI g18 o 2 = 0 := by rw [hw17.2.1]; exact sI_at
    refine lv_if_eq (tgt := 26) hx hb dX6_lorries_21 (by decide) (fun _ => ?_) (fun cx => by first | exact absurd (by decide) cx | exact absurd cx (by decide))
    refine lv_aload_n hx hb dX6_lorries_26 rfl (lv_at hl 0 rfl) ?_
    refine lv_sipush (v := 500) hx hb dX6_lorries_27 (by decide) ?_
    refine lv_aload_n hx hb dX6_lorries_30 rfl (lv_at hl 0 rfl) ?_
    obtain ⟨u22, u23, hP, hf⟩ := o_mo (i := 0) (q := o) hM (by omega)
    refine va_get (D := (dC, dI)) (ci := 10) (v := .int u23) (C := RX6) (T := TX6) (N := 11) hx hb hts (by decide +kernel) hown hK hP 0 rfl rfl 8 (by decide) (hts (.fieldLink RX6 89 "SnowpalaceModel" "stored" "I") (by decide +kernel)) (fun _ h9 => h9) rfl dX6_lorries_31 ?_
    refine lv_iconst (v := 5) hx hb dX6_lorries_34 (by decide) ?_
    refine lv_iload_n hx hb dX6_lorries_35 rfl (lv_at hl 1 rfl) ?_
    refine lv_imul hx hb dX6_lorries_36 ?_
    refine lv_topi (fun v24 e25 => ?_)
    refine lv_iadd hx hb dX6_lorries_37 ?_
    refine lv_topi (fun v26 e27 => ?_)
    refine va_mmin hx hb (hml.trans hl.1.symm) hown (hts (.methodLink RX6 76 Lib.Math.min.name) (by decide +kernel)) (hts (.static Lib.Math.min.name) (by decide +kernel)) (hts (.initialized "java/lang/Math") (by decide +kernel)) (hts (.code Lib.Math.min.name Lib.Math.min.code 2 (some .int)) (by decide +kernel)) (Nat.le_of_ble_eq_true rfl) (Nat.le_of_ble_eq_true rfl) (Nat.le_of_ble_eq_true rfl) (Nat.le_of_ble_eq_true rfl) dX6_lorries_38 ?_
    refine lv_topi (fun v28 e29 => ?_)
    obtain ⟨u30, u31, hP, hf⟩ := o_mo (i := 0) (q := o) hM (by omega)
    refine rt_put (D := (dC, dI)) (ci := 10) (v := .int v28) (ty := .int) (C := RX6) (T := TX6) (N := 11) hx hb hts (by decide +kernel) tyX6 tyX6_ok nmX6 hown hK hP (hM.ge (by omega)) hS rfl 8 (by decide) (hts (.fieldLink RX6 89 "SnowpalaceModel" "stored" "I") (by decide +kernel)) (fun _ h9 => h9) rfl (by decide +kernel) rfl rfl (Nat.le_of_ble_eq_true rfl) dX6_lorries_41 (fun H locs hP hz ho hS => ?_)
    have hM := s_mo (i := 0) hM (by omega) hP ho hf
    refine lv_aload_n hx hb dX6_lorries_44 rfl (lv_at hl 0 rfl) ?_
    refine lv_dup hx hb dX6_lorries_45 rfl ?_
    obtain ⟨u32, u33, hP, hf⟩ := o_mo (i := 0) (q := o) hM (by omega)
    refine va_get (D := (dC, dI)) (ci := 10) (v := .int u32) (C := RX6) (T := TX6) (N := 11) hx hb hts (by decide +kernel) hown hK hP 0 rfl rfl 3 (by decide) (hts (.fieldLink RX6 100 "SnowpalaceModel" "money" "I") (by decide +kernel)) (fun _ h9 => h9) rfl dX6_lorries_46 ?_
    refine lv_bipush (v := 100) hx hb dX6_lorries_49 (by decide) ?_
    refine lv_iload_n hx hb dX6_lorries_51 rfl (lv_at hl 1 rfl) ?_
    refine lv_imul hx hb dX6_lorries_52 ?_
    refine lv_topi (fun v34 e35 => ?_)
    refine lv_isub hx hb dX6_lorries_53 ?_
    refine lv_topi (fun v36 e37 => ?_)
    obtain ⟨u38, u39, hP, hf⟩ := o_mo (i := 0) (q := o) hM (by omega)
    refine rt_put (D := (dC, dI)) (ci := 10) (v := .int v36) (ty := .int) (C := RX6) (T := TX6) (N := 11) hx hb hts (by decide +kernel) tyX6 tyX6_ok nmX6 hown hK hP (hM.ge (by omega)) hS rfl 3 (by decide) (hts (.fieldLink RX6 100 "SnowpalaceModel" "money" "I") (by decide +kernel)) (fun _ h9 => h9) rfl (by decide +kernel) rfl rfl (Nat.le_of_ble_eq_true rfl) dX6_lorries_54 (fun H locs hP hz ho hS => ?_)
    have hM := s_mo (i := 0) hM (by omega) hP ho hf
    refine lv_aload_n hx hb dX6_lorries_57 rfl (lv_at hl 0 rfl) ?_
    obtain ⟨u40, u41, hP, hf⟩ := o_mo (i := 0) (q := o) hM (by omega)
    refine va_get (D := (dC, dI)) (ci := 10) (v := .int u41) (C := RX6) (T := TX6) (N := 11) hx hb hts (by decide +kernel) hown hK hP 0 rfl rfl 8 (by decide) (hts (.fieldLink RX6 89 "SnowpalaceModel" "stored" "I") (by decide +kernel)) (fun _ h9 => h9) rfl dX6_lorries_58 ?_
    refine W.widen (k := 0) (n := 0) (Nat.le_of_ble_eq_true rfl) (Nat.le_of_ble_eq_true rfl) ?_
    exact W.iret (v := u41) hx hb hr (fun t ht hW => ⟨⟨u41, g18, rfl, hx19, CX.give hb0 hM hK hG hE hS ht hW⟩, hS.F ht⟩) hS.2.2 dX6_lorries_61

set_option maxHeartbeats 4000000 in
set_option maxRecDepth 100000 in
theorem rmf_fell (l : Launch) (dC : Nat → ClassId) (dI : Nat → Nat → Nat) (kA : Nat → ClassId) (eD b : Nat) (g : Gh) (o : Nat) (site : Int32) (hto : tg g o = 17)  : Met l yX6_fell wsX6_fell ({ frames := 3, cells := 0, slots := 0, locals := 64 }) (va_Pc [.ref o, .int site] (CX (dC, dI) kA eD b g)) (va_Qi (fun (r : Int32) (u : Gh) => Ext o X0 g u) (fun (u : Gh) t => CX (dC, dI) kA eD b u t) (fun q => b ≤ q)) 0 0 (fun q => b ≤ q) := by
  refine Met.ofW (cc := cX6_fell) (maxL := 2) (ret := (some .int)) (by decide +kernel) rfl ?_
  intro p e s m args below meth c s₁ B hml hv
  obtain ⟨rfl, hb0, hM, hK, hG, hE⟩ := hv
  have hx := B.exec
  have hb := B.bytes
  have hr := B.returns
  have hts := atoms_spec (ws := wsX6_fell) B.pre
  have hown : s.vm.findClass RX6 = some m.cls := findClass_of_methodNamed B.named
  have hlocks := B.notSynchronized
  have hT := hE.1
  have hN := hE.2.2.2.2.2.2.2.1
  have hS : va_S (fun q => b ≤ q) s.heap s.heap [] := va_S.rf
  have hl := lv_entry ([.ref o, .int site]) (n := 2) (Nat.le_of_ble_eq_true rfl)
  rw [lg_entry_eq]
  generalize (lg_sl ([.ref o, .int site]) ++ List.replicate (2 - (lg_sl ([.ref o, .int site])).length) Slot.unset).toArray = ls at hl ⊢
  have hl : lv_has ls 2 [(0, .ref o), (1, .int site)] := hl
  generalize ([.ref o, .int site] : List Value).toArray = args at hts ⊢
  refine lv_aload_n hx hb dX6_fell_0 rfl (lv_at hl 0 rfl) ?_
  refine lv_iload_n hx hb dX6_fell_1 rfl (lv_at hl 1 rfl) ?_
  obtain ⟨u1, u2, hP, hf⟩ := o_mo (i := 0) (q := o) hM (by omega)
  refine va_calli (va_runV (As := [.int site]) (rest := []) ⟨hx, hb, hml, hown, hts⟩ (rm_isNoSite l dC dI kA eD b g o site (by omega)) (cwV 1 hts gX6_fell_X6_isNoSite rfl rfl rfl (by decide +kernel) ⟨Nat.le_of_ble_eq_true rfl, Nat.le_of_ble_eq_true rfl⟩) ⟨fb_CX, va_recv hK hP (ci := 10) (q0 := 0) rfl rfl, fun U hU hW => ⟨rfl, CX.give hb0 hM hK hG hE hS hU hW⟩⟩ rfl rfl hl.1 rfl (lv_room (Nat.le_of_ble_eq_true rfl)) dX6_fell_2 ⟨(Nat.le_of_ble_eq_true rfl), (Nat.le_of_ble_eq_true rfl)⟩) hS (fun q _ h => h) (fun q h => h) (fun r3 g5 t H locs ht hvm hw4 hB hz1 hk1 hS => ?_)
  have hM := hB.back ht
  have hG := hB.2.2.2.1
  have hx6 : Ext o X0 g g5 := hw4.1
  have ht7 : tg g5 o = 17 := hx6.tk hto (by omega)
  have hth8 := hw4.2.1
  refine lv_if_eq (tgt := 12) hx hb dX6_fell_5 (by decide) (fun c9 => ?_) (fun c9 => ?_)
  · skip
    have hv10 := vr0 (vr01 hw4.2.2) c9
    have hfm := (mo_list hM ht7).1
    have hls := (mo_list hM ht7).2
    obtain ⟨j, hj, rfl⟩ := toN (p := site) (k := 2) (by omega) (by omega) (by decide)
    have hl : lv_has ls 2 [(0, .ref o), (1, .int (nI j))] := hl
    have ej : (nI j).toInt = (j : Int) := nI_toInt (by omega)
    have hjs : (j : Int) < (pI g5 (pF g5 o 5) 0).toInt := by omega
    refine lv_aload_n hx hb dX6_fell_12 rfl (lv_at hl 0 rfl) ?_
    obtain ⟨u11, u12, hP, hf⟩ := o_mo (i := 0) (q := o) hM (by omega)
    refine va_get (D := (dC, dI)) (ci := 10) (v := .ref (pF g5 o 5)) (C := RX6) (T := TX6) (N := 11) hx hb hts (by decide +kernel) hown hK hP 0 rfl rfl 10 (by decide) (hts (.fieldLink RX6 34 "SnowpalaceModel" "sites" "Ljava/util/List;") (by decide +kernel)) (fun _ h9 => h9) rfl dX6_fell_13 ?_
    refine lv_iload_n hx hb dX6_fell_16 rfl (lv_at hl 1 rfl) ?_
    obtain ⟨hP, hf⟩ := o_al (i := 0) (q := (pF g5 o 5)) hM (by omega)
    refine va_callFr (va_runF (hK.1 3 _ rfl).2 (As := [.int (nI j)]) (rest := []) ⟨hx, hb, hml, hown, hts⟩ (rj_get l dC dI kA eD b g5 (pF g5 o 5) j (by omega) hjs) (va_cwF 1 hts gX6_fell_Jx4a65c_get_915e3_f149Jx4a65c rfl rfl rfl hE.2.2.2.2.1 (by decide +kernel) ⟨Nat.le_of_ble_eq_true rfl, Nat.le_of_ble_eq_true rfl⟩) ⟨fb_CX, va_recv hK hP (ci := 3) (q0 := 0) rfl rfl, fun U hU hW => ⟨rfl, CX.give hb0 hM hK hG hE hS hU hW⟩⟩ rfl rfl hl.1 rfl (lv_room (Nat.le_of_ble_eq_true rfl)) dX6_fell_17 ⟨(Nat.le_of_ble_eq_true rfl), (Nat.le_of_ble_eq_true rfl)⟩) hS (fun q _ h => h) (fun q h => h) (fun u r13 t H locs ht hvm hw14 hB hz1 hk1 hS => ?_)
    have hM := hB.1.back ht
    have hG := hB.1.2.2.2.1
    have ht15 : tg g5 r13 = 28 + 64 * j := hB.2.1
    have hg16 : pO g5 (pF g5 (pF g5 o 5) 0) j = some r13 := hB.2.2
    obtain ⟨u17, u18, u19, u20, u21, u22, hP, hf⟩ := o_ms (i := j) (q := r13) hM (by omega)
    refine va_castY hx hb hown (hts (.classLink RX6 125 "SnowpalaceModel$Site") (by decide +kernel)) hE.2.2.2.2.2.2.1 (va_recv hK hP (ci := 9) (q0 := 0) rfl rfl) dX6_fell_22 ?_
    obtain ⟨u23, u24, u25, u26, u27, u28, hP, hf⟩ := o_ms (i := j) (q := r13) hM (by omega)
    refine va_getN (D := (dC, dI)) (ci := 9) (v := .int u24) (C := RX5) (T := TX5) (N := 10) hx hb hts (by decide +kernel) hown hK hP 0 rfl rfl 4 (by decide) (hN (.fieldLinkNest RX6 205 "SnowpalaceModel$Site" "fell" "I" RX6) (by decide +kernel)) (fun _ h9 => h9) rfl dX6_fell_25 ?_
    refine W.widen (k := 0) (n := 0) (Nat.le_of_ble_eq_true rfl) (Nat.le_of_ble_eq_true rfl) ?_
    exact W.iret (v := u24) hx hb hr (fun t ht hW => ⟨⟨u24, g5, rfl, hx6, CX.give hb0 hM hK hG hE hS ht hW⟩, hS.F ht⟩) hS.2.2 dX6_fell_28
  · skip
    have hv29 := vr1 (vr01 hw4.2.2) c9
    refine lv_iconst (v := 0) hx hb dX6_fell_8 (by decide) ?_
    refine lv_goto (tgt := 28) hx hb dX6_fell_9 (by decide) ?_
    refine W.widen (k := 0) (n := 0) (Nat.le_of_ble_eq_true rfl) (Nat.le_of_ble_eq_true rfl) ?_
    exact W.iret (v := 0) hx hb hr (fun t ht hW => ⟨⟨0, g5, rfl, hx6, CX.give hb0 hM hK hG hE hS ht hW⟩, hS.F ht⟩) hS.2.2 dX6_fell_28

set_option maxHeartbeats 4000000 in
set_option maxRecDepth 100000 in
theorem rmf_lastFell (l : Launch) (dC : Nat → ClassId) (dI : Nat → Nat → Nat) (kA : Nat → ClassId) (eD b : Nat) (g : Gh) (o : Nat) (site : Int32) (hto : tg g o = 17)  : Met l yX6_lastFell wsX6_lastFell ({ frames := 3, cells := 0, slots := 0, locals := 64 }) (va_Pc [.ref o, .int site] (CX (dC, dI) kA eD b g)) (va_Qi (fun (r : Int32) (u : Gh) => Ext o X0 g u) (fun (u : Gh) t => CX (dC, dI) kA eD b u t) (fun q => b ≤ q)) 0 0 (fun q => b ≤ q) := by
  refine Met.ofW (cc := cX6_lastFell) (maxL := 2) (ret := (some .int)) (by decide +kernel) rfl ?_
  intro p e s m args below meth c s₁ B hml hv
  obtain ⟨rfl, hb0, hM, hK, hG, hE⟩ := hv
  have hx := B.exec
  have hb := B.bytes
  have hr := B.returns
  have hts := atoms_spec (ws := wsX6_lastFell) B.pre
  have hown : s.vm.findClass RX6 = some m.cls := findClass_of_methodNamed B.named
  have hlocks := B.notSynchronized
  have hT := hE.1
  have hN := hE.2.2.2.2.2.2.2.1
  have hS : va_S (fun q => b ≤ q) s.heap s.heap [] := va_S.rf
  have hl := lv_entry ([.ref o, .int site]) (n := 2) (Nat.le_of_ble_eq_true rfl)
  rw [lg_entry_eq]
  generalize (lg_sl ([.ref o, .int site]) ++ List.replicate (2 - (lg_sl ([.ref o, .int site])).length) Slot.unset).toArray = ls at hl ⊢
  have hl : lv_has ls 2 [(0, .ref o), (1, .int site)] := hl
  generalize ([.ref o, .int site] : List Value).toArray = args at hts ⊢
  refine lv_aload_n hx hb dX6_lastFell_0 rfl (lv_at hl 0 rfl) ?_
  refine lv_iload_n hx hb dX6_lastFell_1 rfl (lv_at hl 1 rfl) ?_
  obtain ⟨u1, u2, hP, hf⟩ := o_mo (i := 0) (q := o) hM (by omega)
  refine va_calli (va_runV (As := [.int site]) (rest := []) ⟨hx, hb, hml, hown, hts⟩ (rm_isNoSite l dC dI kA eD b g o site (by omega)) (cwV 1 hts gX6_lastFell_X6_isNoSite rfl rfl rfl (by decide +kernel) ⟨Nat.le_of_ble_eq_true rfl, Nat.le_of_ble_eq_true rfl⟩) ⟨fb_CX, va_recv hK hP (ci := 10) (q0 := 0) rfl rfl, fun U hU hW => ⟨rfl, CX.give hb0 hM hK hG hE hS hU hW⟩⟩ rfl rfl hl.1 rfl (lv_room (Nat.le_of_ble_eq_true rfl)) dX6_lastFell_2 ⟨(Nat.le_of_ble_eq_true rfl), (Nat.le_of_ble_eq_true rfl)⟩) hS (fun q _ h => h) (fun q h => h) (fun r3 g5 t H locs ht hvm hw4 hB hz1 hk1 hS => ?_)
  have hM := hB.back ht
  have hG := hB.2.2.2.1
  have hx6 : Ext o X0 g g5 := hw4.1
  have ht7 : tg g5 o = 17 := hx6.tk hto (by omega)
  have hth8 := hw4.2.1
  refine lv_if_ne (tgt := 40) hx hb dX6_lastFell_5 (by decide) (fun c9 => ?_) (fun c9 => ?_)
  · skip
    have hv10 := vr1 (vr01 hw4.2.2) c9
    refine lv_iconst (v := 0) hx hb dX6_lastFell_40 (by decide) ?_
    refine lv_goto (tgt := 60) hx hb dX6_lastFell_41 (by decide) ?_
    refine W.widen (k := 0) (n := 0) (Nat.le_of_ble_eq_true rfl) (Nat.le_of_ble_eq_true rfl) ?_
    exact W.iret (v := 0) hx hb hr (fun t ht hW => ⟨⟨0, g5, rfl, hx6, CX.give hb0 hM hK hG hE hS ht hW⟩, hS.F ht⟩) hS.2.2 dX6_lastFell_60
  · skip
    have hv11 := vr0 (vr01 hw4.2.2) c9
    have hfm := (mo_list hM ht7).1
    have hls := (mo_list hM ht7).2
    obtain ⟨j, hj, rfl⟩ := toN (p := site) (k := 2) (by omega) (by omega) (by decide)
    have hl : lv_has ls 2 [(0, .ref o), (1, .int (nI j))] := hl
    have ej : (nI j).toInt = (j : Int) := nI_toInt (by omega)
    have hjs : (j : Int) < (pI g5 (pF g5 o 5) 0).toInt := by omega
    refine lv_aload_n hx hb dX6_lastFell_8 rfl (lv_at hl 0 rfl) ?_
    refine lv_aload_n hx hb dX6_lastFell_9 rfl (lv_at hl 0 rfl) ?_
    obtain ⟨u12, u13, hP, hf⟩ := o_mo (i := 0) (q := o) hM (by omega)
    refine va_get (D := (dC, dI)) (ci := 10) (v := .ref (pF g5 o 5)) (C := RX6) (T := TX6) (N := 11) hx hb hts (by decide +kernel) hown hK hP 0 rfl rfl 10 (by decide) (hts (.fieldLink RX6 34 "SnowpalaceModel" "sites" "Ljava/util/List;") (by decide +kernel)) (fun _ h9 => h9) rfl dX6_lastFell_10 ?_
    refine lv_iload_n hx hb dX6_lastFell_13 rfl (lv_at hl 1 rfl) ?_
    obtain ⟨hP, hf⟩ := o_al (i := 0) (q := (pF g5 o 5)) hM (by omega)
    refine va_callFr (va_runF (hK.1 3 _ rfl).2 (As := [.int (nI j)]) (rest := [.ref o]) ⟨hx, hb, hml, hown, hts⟩ (rj_get l dC dI kA eD b g5 (pF g5 o 5) j (by omega) hjs) (va_cwF 1 hts gX6_lastFell_Jx4a65c_get_915e3_f149Jx4a65c rfl rfl rfl hE.2.2.2.2.1 (by decide +kernel) ⟨Nat.le_of_ble_eq_true rfl, Nat.le_of_ble_eq_true rfl⟩) ⟨fb_CX, va_recv hK hP (ci := 3) (q0 := 0) rfl rfl, fun U hU hW => ⟨rfl, CX.give hb0 hM hK hG hE hS hU hW⟩⟩ rfl rfl hl.1 rfl (lv_room (Nat.le_of_ble_eq_true rfl)) dX6_lastFell_14 ⟨(Nat.le_of_ble_eq_true rfl), (Nat.le_of_ble_eq_true rfl)⟩) hS (fun q _ h => h) (fun q h => h) (fun u r14 t H locs ht hvm hw15 hB hz1 hk1 hS => ?_)
    have hM := hB.1.back ht
    have hG := hB.1.2.2.2.1
    have ht16 : tg g5 r14 = 28 + 64 * j := hB.2.1
    have hg17 : pO g5 (pF g5 (pF g5 o 5) 0) j = some r14 := hB.2.2
    obtain ⟨u18, u19, u20, u21, u22, u23, hP, hf⟩ := o_ms (i := j) (q := r14) hM (by omega)
    refine va_castY hx hb hown (hts (.classLink RX6 125 "SnowpalaceModel$Site") (by decide +kernel)) hE.2.2.2.2.2.2.1 (va_recv hK hP (ci := 9) (q0 := 0) rfl rfl) dX6_lastFell_19 ?_
    obtain ⟨u24, u25, u26, u27, u28, u29, hP, hf⟩ := o_ms (i := j) (q := r14) hM (by omega)
    refine va_getN (D := (dC, dI)) (ci := 9) (v := .int u26) (C := RX5) (T := TX5) (N := 10) hx hb hts (by decide +kernel) hown hK hP 0 rfl rfl 5 (by decide) (hN (.fieldLinkNest RX6 208 "SnowpalaceModel$Site" "last" "I" RX6) (by decide +kernel)) (fun _ h9 => h9) rfl dX6_lastFell_22 ?_
    refine lv_iconst (v := (-1)) hx hb dX6_lastFell_25 (by decide) ?_
    refine lv_icmp_ne (tgt := 33) hx hb dX6_lastFell_26 (by decide) (fun c30 => ?_) (fun c30 => ?_)
    · skip
      refine lv_iconst (v := 0) hx hb dX6_lastFell_33 (by decide) ?_
      obtain ⟨u31, u32, hP, hf⟩ := o_mo (i := 0) (q := o) hM (by omega)
      refine va_calli (va_runV (As := [.int 0]) (rest := []) ⟨hx, hb, hml, hown, hts⟩ (rm_isWrong l dC dI kA eD b g5 o 0 (by omega)) (cwV 1 hts gX6_lastFell_X6_isWrong rfl rfl rfl (by decide +kernel) ⟨Nat.le_of_ble_eq_true rfl, Nat.le_of_ble_eq_true rfl⟩) ⟨fb_CX, va_recv hK hP (ci := 10) (q0 := 0) rfl rfl, fun U hU hW => ⟨rfl, CX.give hb0 hM hK hG hE hS hU hW⟩⟩ rfl rfl hl.1 rfl (lv_room (Nat.le_of_ble_eq_true rfl)) dX6_lastFell_34 ⟨(Nat.le_of_ble_eq_true rfl), (Nat.le_of_ble_eq_true rfl)⟩) hS (fun q _ h => h) (fun q h => h) (fun r33 g35 t H locs ht hvm hw34 hB hz1 hk1 hS => ?_)
      have hM := hB.back ht
      have hG := hB.2.2.2.1
      have hx36 : Ext o X0 g5 g35 := hw34.1
      have ht37 : tg g35 o = 17 := hx36.tk ht7 (by omega)
      have ht38 : tg g35 (pF g5 o 5) = 26 := hx36.tk hfm (by omega)
      have ht39 : tg g35 r14 = 28 + 64 * j := hx36.tk ht16 (by omega)
      obtain rfl : r33 = 0 := hw34.2.2.trans (by decide)
      have hth40 : pI g35 o 2 = 0 := by rw [hw34.2.1]; exact sI_at
      refine lv_if_eq (tgt := 44) hx hb dX6_lastFell_37 (by decide) (fun _ => ?_) (fun cx => by first | exact absurd (by decide) cx | exact absurd cx (by decide))
      refine lv_aload_n hx hb dX6_lastFell_44 rfl (lv_at hl 0 rfl) ?_
      obtain ⟨u41, u42, hP, hf⟩ := o_mo (i := 0) (q := o) hM (by omega)
      refine va_get (D := (dC, dI)) (ci := 10) (v := .ref (pF g35 o 5)) (C := RX6) (T := TX6) (N := 11) hx hb hts (by decide +kernel) hown hK hP 0 rfl rfl 10 (by decide) (hts (.fieldLink RX6 34 "SnowpalaceModel" "sites" "Ljava/util/List;") (by decide +kernel)) (fun _ h9 => h9) rfl dX6_lastFell_45 ?_
      have ht43 : tg g35 (pF g35 o 5) = 26 := hf.2.2.2.2.2.1
      refine lv_iload_n hx hb dX6_lastFell_48 rfl (lv_at hl 1 rfl) ?_
      obtain ⟨hP, hf⟩ := o_al (i := 0) (q := (pF g35 o 5)) hM (by omega)
      refine va_callFr (va_runF (hK.1 3 _ rfl).2 (As := [.int (nI j)]) (rest := []) ⟨hx, hb, hml, hown, hts⟩ (rj_get l dC dI kA eD b g35 (pF g35 o 5) j (by omega) (by rw [(hx36 : Ext o X0 g5 g35).f (q := o) (by omega), (hx36 : Ext o X0 g5 g35).i (q := pF g5 o 5) (j := 0) (by omega) (Or.inr (by decide))]; exact hjs)) (va_cwF 1 hts gX6_lastFell_Jx4a65c_get_915e3_f149Jx4a65c rfl rfl rfl hE.2.2.2.2.1 (by decide +kernel) ⟨Nat.le_of_ble_eq_true rfl, Nat.le_of_ble_eq_true rfl⟩) ⟨fb_CX, va_recv hK hP (ci := 3) (q0 := 0) rfl rfl, fun U hU hW => ⟨rfl, CX.give hb0 hM hK hG hE hS hU hW⟩⟩ rfl rfl hl.1 rfl (lv_room (Nat.le_of_ble_eq_true rfl)) dX6_lastFell_49 ⟨(Nat.le_of_ble_eq_true rfl), (Nat.le_of_ble_eq_true rfl)⟩) hS (fun q _ h => h) (fun q h => h) (fun u r44 t H locs ht hvm hw45 hB hz1 hk1 hS => ?_)
      have hM := hB.1.back ht
      have hG := hB.1.2.2.2.1
      have ht46 : tg g35 r44 = 28 + 64 * j := hB.2.1
      have hg47 : pO g35 (pF g35 (pF g35 o 5) 0) j = some r44 := hB.2.2
      obtain ⟨u48, u49, u50, u51, u52, u53, hP, hf⟩ := o_ms (i := j) (q := r44) hM (by omega)
      refine va_castY hx hb hown (hts (.classLink RX6 125 "SnowpalaceModel$Site") (by decide +kernel)) hE.2.2.2.2.2.2.1 (va_recv hK hP (ci := 9) (q0 := 0) rfl rfl) dX6_lastFell_54 ?_
      obtain ⟨u54, u55, u56, u57, u58, u59, hP, hf⟩ := o_ms (i := j) (q := r44) hM (by omega)
      refine va_getN (D := (dC, dI)) (ci := 9) (v := .int u56) (C := RX5) (T := TX5) (N := 10) hx hb hts (by decide +kernel) hown hK hP 0 rfl rfl 5 (by decide) (hN (.fieldLinkNest RX6 208 "SnowpalaceModel$Site" "last" "I" RX6) (by decide +kernel)) (fun _ h9 => h9) rfl dX6_lastFell_57 ?_
      refine W.widen (k := 0) (n := 0) (Nat.le_of_ble_eq_true rfl) (Nat.le_of_ble_eq_true rfl) ?_
      exact W.iret (v := u56) hx hb hr (fun t ht hW => ⟨⟨u56, g35, rfl, (hx6.trans hx36), CX.give hb0 hM hK hG hE hS ht hW⟩, hS.F ht⟩) hS.2.2 dX6_lastFell_60
    · skip
      refine lv_iconst (v := 2) hx hb dX6_lastFell_29 (by decide) ?_
      refine lv_goto (tgt := 34) hx hb dX6_lastFell_30 (by decide) ?_
      obtain ⟨u60, u61, hP, hf⟩ := o_mo (i := 0) (q := o) hM (by omega)
      refine va_calli (va_runV (As := [.int 2]) (rest := []) ⟨hx, hb, hml, hown, hts⟩ (rm_isWrong l dC dI kA eD b g5 o 2 (by omega)) (cwV 1 hts gX6_lastFell_X6_isWrong rfl rfl rfl (by decide +kernel) ⟨Nat.le_of_ble_eq_true rfl, Nat.le_of_ble_eq_true rfl⟩) ⟨fb_CX, va_recv hK hP (ci := 10) (q0 := 0) rfl rfl, fun U hU hW => ⟨rfl, CX.give hb0 hM hK hG hE hS hU hW⟩⟩ rfl rfl hl.1 rfl (lv_room (Nat.le_of_ble_eq_true rfl)) dX6_lastFell_34 ⟨(Nat.le_of_ble_eq_true rfl), (Nat.le_of_ble_eq_true rfl)⟩) hS (fun q _ h => h) (fun q h => h) (fun r62 g64 t H locs ht hvm hw63 hB hz1 hk1 hS => ?_)
      have hM := hB.back ht
      have hG := hB.2.2.2.1
      have hx65 : Ext o X0 g5 g64 := hw63.1
      have ht66 : tg g64 o = 17 := hx65.tk ht7 (by omega)
      have ht67 : tg g64 (pF g5 o 5) = 26 := hx65.tk hfm (by omega)
      have ht68 : tg g64 r14 = 28 + 64 * j := hx65.tk ht16 (by omega)
      obtain rfl : r62 = 1 := hw63.2.2.trans (by decide)
      have hth69 : pI g64 o 2 = 2 := by rw [hw63.2.1]; exact sI_at
      refine lv_if_eq (tgt := 44) hx hb dX6_lastFell_37 (by decide) (fun cx => by first | exact absurd cx (by decide) | exact absurd (by decide) cx) (fun _ => ?_)
      refine lv_iconst (v := 0) hx hb dX6_lastFell_40 (by decide) ?_
      refine lv_goto (tgt := 60) hx hb dX6_lastFell_41 (by decide) ?_
      refine W.widen (k := 0) (n := 0) (Nat.le_of_ble_eq_true rfl) (Nat.le_of_ble_eq_true rfl) ?_
      exact W.iret (v := 0) hx hb hr (fun t ht hW => ⟨⟨0, g64, rfl, (hx6.trans hx65), CX.give hb0 hM hK hG hE hS ht hW⟩, hS.F ht⟩) hS.2.2 dX6_lastFell_60

set_option maxHeartbeats 4000000 in
set_option maxRecDepth 100000 in
theorem rmf_hours (l : Launch) (dC : Nat → ClassId) (dI : Nat → Nat → Nat) (kA : Nat → ClassId) (eD b : Nat) (g : Gh) (o : Nat) (site : Int32) (hto : tg g o = 17)  : Met l yX6_hours wsX6_hours ({ frames := 3, cells := 0, slots := 0, locals := 64 }) (va_Pc [.ref o, .int site] (CX (dC, dI) kA eD b g)) (va_Qi (fun (r : Int32) (u : Gh) => Ext o X0 g u) (fun (u : Gh) t => CX (dC, dI) kA eD b u t) (fun q => b ≤ q)) 0 0 (fun q => b ≤ q) := by
  refine Met.ofW (cc := cX6_hours) (maxL := 2) (ret := (some .int)) (by decide +kernel) rfl ?_
  intro p e s m args below meth c s₁ B hml hv
  obtain ⟨rfl, hb0, hM, hK, hG, hE⟩ := hv
  have hx := B.exec
  have hb := B.bytes
  have hr := B.returns
  have hts := atoms_spec (ws := wsX6_hours) B.pre
  have hown : s.vm.findClass RX6 = some m.cls := findClass_of_methodNamed B.named
  have hlocks := B.notSynchronized
  have hT := hE.1
  have hN := hE.2.2.2.2.2.2.2.1
  have hS : va_S (fun q => b ≤ q) s.heap s.heap [] := va_S.rf
  have hl := lv_entry ([.ref o, .int site]) (n := 2) (Nat.le_of_ble_eq_true rfl)
  rw [lg_entry_eq]
  generalize (lg_sl ([.ref o, .int site]) ++ List.replicate (2 - (lg_sl ([.ref o, .int site])).length) Slot.unset).toArray = ls at hl ⊢
  have hl : lv_has ls 2 [(0, .ref o), (1, .int site)] := hl
  generalize ([.ref o, .int site] : List Value).toArray = args at hts ⊢
  refine lv_aload_n hx hb dX6_hours_0 rfl (lv_at hl 0 rfl) ?_
  refine lv_iload_n hx hb dX6_hours_1 rfl (lv_at hl 1 rfl) ?_
  obtain ⟨u1, u2, hP, hf⟩ := o_mo (i := 0) (q := o) hM (by omega)
  refine va_calli (va_runV (As := [.int site]) (rest := []) ⟨hx, hb, hml, hown, hts⟩ (rm_isNoSite l dC dI kA eD b g o site (by omega)) (cwV 1 hts gX6_hours_X6_isNoSite rfl rfl rfl (by decide +kernel) ⟨Nat.le_of_ble_eq_true rfl, Nat.le_of_ble_eq_true rfl⟩) ⟨fb_CX, va_recv hK hP (ci := 10) (q0 := 0) rfl rfl, fun U hU hW => ⟨rfl, CX.give hb0 hM hK hG hE hS hU hW⟩⟩ rfl rfl hl.1 rfl (lv_room (Nat.le_of_ble_eq_true rfl)) dX6_hours_2 ⟨(Nat.le_of_ble_eq_true rfl), (Nat.le_of_ble_eq_true rfl)⟩) hS (fun q _ h => h) (fun q h => h) (fun r3 g5 t H locs ht hvm hw4 hB hz1 hk1 hS => ?_)
  have hM := hB.back ht
  have hG := hB.2.2.2.1
  have hx6 : Ext o X0 g g5 := hw4.1
  have ht7 : tg g5 o = 17 := hx6.tk hto (by omega)
  have hth8 := hw4.2.1
  refine lv_if_eq (tgt := 12) hx hb dX6_hours_5 (by decide) (fun c9 => ?_) (fun c9 => ?_)
  · skip
    have hv10 := vr0 (vr01 hw4.2.2) c9
    have hfm := (mo_list hM ht7).1
    have hls := (mo_list hM ht7).2
    obtain ⟨j, hj, rfl⟩ := toN (p := site) (k := 2) (by omega) (by omega) (by decide)
    have hl : lv_has ls 2 [(0, .ref o), (1, .int (nI j))] := hl
    have ej : (nI j).toInt = (j : Int) := nI_toInt (by omega)
    have hjs : (j : Int) < (pI g5 (pF g5 o 5) 0).toInt := by omega
    refine lv_bipush (v := 60) hx hb dX6_hours_12 (by decide) ?_
    refine lv_aload_n hx hb dX6_hours_14 rfl (lv_at hl 0 rfl) ?_
    obtain ⟨u11, u12, hP, hf⟩ := o_mo (i := 0) (q := o) hM (by omega)
    refine va_get (D := (dC, dI)) (ci := 10) (v := .ref (pF g5 o 5)) (C := RX6) (T := TX6) (N := 11) hx hb hts (by decide +kernel) hown hK hP 0 rfl rfl 10 (by decide) (hts (.fieldLink RX6 34 "SnowpalaceModel" "sites" "Ljava/util/List;") (by decide +kernel)) (fun _ h9 => h9) rfl dX6_hours_15 ?_
    refine lv_iload_n hx hb dX6_hours_18 rfl (lv_at hl 1 rfl) ?_
    obtain ⟨hP, hf⟩ := o_al (i := 0) (q := (pF g5 o 5)) hM (by omega)
    refine va_callFr (va_runF (hK.1 3 _ rfl).2 (As := [.int (nI j)]) (rest := [.int 60]) ⟨hx, hb, hml, hown, hts⟩ (rj_get l dC dI kA eD b g5 (pF g5 o 5) j (by omega) hjs) (va_cwF 1 hts gX6_hours_Jx4a65c_get_915e3_f149Jx4a65c rfl rfl rfl hE.2.2.2.2.1 (by decide +kernel) ⟨Nat.le_of_ble_eq_true rfl, Nat.le_of_ble_eq_true rfl⟩) ⟨fb_CX, va_recv hK hP (ci := 3) (q0 := 0) rfl rfl, fun U hU hW => ⟨rfl, CX.give hb0 hM hK hG hE hS hU hW⟩⟩ rfl rfl hl.1 rfl (lv_room (Nat.le_of_ble_eq_true rfl)) dX6_hours_19 ⟨(Nat.le_of_ble_eq_true rfl), (Nat.le_of_ble_eq_true rfl)⟩) hS (fun q _ h => h) (fun q h => h) (fun u r13 t H locs ht hvm hw14 hB hz1 hk1 hS => ?_)
    have hM := hB.1.back ht
    have hG := hB.1.2.2.2.1
    have ht15 : tg g5 r13 = 28 + 64 * j := hB.2.1
    have hg16 : pO g5 (pF g5 (pF g5 o 5) 0) j = some r13 := hB.2.2
    obtain ⟨u17, u18, u19, u20, u21, u22, hP, hf⟩ := o_ms (i := j) (q := r13) hM (by omega)
    refine va_castY hx hb hown (hts (.classLink RX6 125 "SnowpalaceModel$Site") (by decide +kernel)) hE.2.2.2.2.2.2.1 (va_recv hK hP (ci := 9) (q0 := 0) rfl rfl) dX6_hours_24 ?_
    obtain ⟨u23, u24, u25, u26, u27, u28, hP, hf⟩ := o_ms (i := j) (q := r13) hM (by omega)
    refine va_getN (D := (dC, dI)) (ci := 9) (v := .int u26) (C := RX5) (T := TX5) (N := 10) hx hb hts (by decide +kernel) hown hK hP 0 rfl rfl 6 (by decide) (hN (.fieldLinkNest RX6 256 "SnowpalaceModel$Site" "carved" "I" RX6) (by decide +kernel)) (fun _ h9 => h9) rfl dX6_hours_27 ?_
    refine lv_isub hx hb dX6_hours_30 ?_
    refine lv_topi (fun v29 e30 => ?_)
    refine W.widen (k := 0) (n := 0) (Nat.le_of_ble_eq_true rfl) (Nat.le_of_ble_eq_true rfl) ?_
    exact W.iret (v := v29) hx hb hr (fun t ht hW => ⟨⟨v29, g5, rfl, hx6, CX.give hb0 hM hK hG hE hS ht hW⟩, hS.F ht⟩) hS.2.2 dX6_hours_31
  · skip
    have hv31 := vr1 (vr01 hw4.2.2) c9
    refine lv_iconst (v := 0) hx hb dX6_hours_8 (by decide) ?_
    refine lv_goto (tgt := 31) hx hb dX6_hours_9 (by decide) ?_
    refine W.widen (k := 0) (n := 0) (Nat.le_of_ble_eq_true rfl) (Nat.le_of_ble_eq_true rfl) ?_
    exact W.iret (v := 0) hx hb hr (fun t ht hW => ⟨⟨0, g5, rfl, hx6, CX.give hb0 hM hK hG hE hS ht hW⟩, hS.F ht⟩) hS.2.2 dX6_hours_31

set_option maxHeartbeats 4000000 in
set_option maxRecDepth 100000 in
theorem rmf_count (l : Launch) (dC : Nat → ClassId) (dI : Nat → Nat → Nat) (kA : Nat → ClassId) (eD b : Nat) (g : Gh) (o : Nat) (site : Int32) (hto : tg g o = 17)  : Met l yX6_count wsX6_count ({ frames := 3, cells := 0, slots := 0, locals := 64 }) (va_Pc [.ref o, .int site] (CX (dC, dI) kA eD b g)) (va_Qi (fun (r : Int32) (u : Gh) => Ext o X0 g u) (fun (u : Gh) t => CX (dC, dI) kA eD b u t) (fun q => b ≤ q)) 0 0 (fun q => b ≤ q) := by
  refine Met.ofW (cc := cX6_count) (maxL := 2) (ret := (some .int)) (by decide +kernel) rfl ?_
  intro p e s m args below meth c s₁ B hml hv
  obtain ⟨rfl, hb0, hM, hK, hG, hE⟩ := hv
  have hx := B.exec
  have hb := B.bytes
  have hr := B.returns
  have hts := atoms_spec (ws := wsX6_count) B.pre
  have hown : s.vm.findClass RX6 = some m.cls := findClass_of_methodNamed B.named
  have hlocks := B.notSynchronized
  have hT := hE.1
  have hN := hE.2.2.2.2.2.2.2.1
  have hS : va_S (fun q => b ≤ q) s.heap s.heap [] := va_S.rf
  have hl := lv_entry ([.ref o, .int site]) (n := 2) (Nat.le_of_ble_eq_true rfl)
  rw [lg_entry_eq]
  generalize (lg_sl ([.ref o, .int site]) ++ List.replicate (2 - (lg_sl ([.ref o, .int site])).length) Slot.unset).toArray = ls at hl ⊢
  have hl : lv_has ls 2 [(0, .ref o), (1, .int site)] := hl
  generalize ([.ref o, .int site] : List Value).toArray = args at hts ⊢
  refine lv_aload_n hx hb dX6_count_0 rfl (lv_at hl 0 rfl) ?_
  refine lv_iload_n hx hb dX6_count_1 rfl (lv_at hl 1 rfl) ?_
  obtain ⟨u1, u2, hP, hf⟩ := o_mo (i := 0) (q := o) hM (by omega)
  refine va_calli (va_runV (As := [.int site]) (rest := []) ⟨hx, hb, hml, hown, hts⟩ (rm_isNoSite l dC dI kA eD b g o site (by omega)) (cwV 1 hts gX6_count_X6_isNoSite rfl rfl rfl (by decide +kernel) ⟨Nat.le_of_ble_eq_true rfl, Nat.le_of_ble_eq_true rfl⟩) ⟨fb_CX, va_recv hK hP (ci := 10) (q0 := 0) rfl rfl, fun U hU hW => ⟨rfl, CX.give hb0 hM hK hG hE hS hU hW⟩⟩ rfl rfl hl.1 rfl (lv_room (Nat.le_of_ble_eq_true rfl)) dX6_count_2 ⟨(Nat.le_of_ble_eq_true rfl), (Nat.le_of_ble_eq_true rfl)⟩) hS (fun q _ h => h) (fun q h => h) (fun r3 g5 t H locs ht hvm hw4 hB hz1 hk1 hS => ?_)
  have hM := hB.back ht
  have hG := hB.2.2.2.1
  have hx6 : Ext o X0 g g5 := hw4.1
  have ht7 : tg g5 o = 17 := hx6.tk hto (by omega)
  have hth8 := hw4.2.1
  refine lv_if_eq (tgt := 12) hx hb dX6_count_5 (by decide) (fun c9 => ?_) (fun c9 => ?_)
  · skip
    have hv10 := vr0 (vr01 hw4.2.2) c9
    have hfm := (mo_list hM ht7).1
    have hls := (mo_list hM ht7).2
    obtain ⟨j, hj, rfl⟩ := toN (p := site) (k := 2) (by omega) (by omega) (by decide)
    have hl : lv_has ls 2 [(0, .ref o), (1, .int (nI j))] := hl
    have ej : (nI j).toInt = (j : Int) := nI_toInt (by omega)
    have hjs : (j : Int) < (pI g5 (pF g5 o 5) 0).toInt := by omega
    refine lv_aload_n hx hb dX6_count_12 rfl (lv_at hl 0 rfl) ?_
    obtain ⟨u11, u12, hP, hf⟩ := o_mo (i := 0) (q := o) hM (by omega)
    refine va_get (D := (dC, dI)) (ci := 10) (v := .ref (pF g5 o 5)) (C := RX6) (T := TX6) (N := 11) hx hb hts (by decide +kernel) hown hK hP 0 rfl rfl 10 (by decide) (hts (.fieldLink RX6 34 "SnowpalaceModel" "sites" "Ljava/util/List;") (by decide +kernel)) (fun _ h9 => h9) rfl dX6_count_13 ?_
    refine lv_iload_n hx hb dX6_count_16 rfl (lv_at hl 1 rfl) ?_
    obtain ⟨hP, hf⟩ := o_al (i := 0) (q := (pF g5 o 5)) hM (by omega)
    refine va_callFr (va_runF (hK.1 3 _ rfl).2 (As := [.int (nI j)]) (rest := []) ⟨hx, hb, hml, hown, hts⟩ (rj_get l dC dI kA eD b g5 (pF g5 o 5) j (by omega) hjs) (va_cwF 1 hts gX6_count_Jx4a65c_get_915e3_f149Jx4a65c rfl rfl rfl hE.2.2.2.2.1 (by decide +kernel) ⟨Nat.le_of_ble_eq_true rfl, Nat.le_of_ble_eq_true rfl⟩) ⟨fb_CX, va_recv hK hP (ci := 3) (q0 := 0) rfl rfl, fun U hU hW => ⟨rfl, CX.give hb0 hM hK hG hE hS hU hW⟩⟩ rfl rfl hl.1 rfl (lv_room (Nat.le_of_ble_eq_true rfl)) dX6_count_17 ⟨(Nat.le_of_ble_eq_true rfl), (Nat.le_of_ble_eq_true rfl)⟩) hS (fun q _ h => h) (fun q h => h) (fun u r13 t H locs ht hvm hw14 hB hz1 hk1 hS => ?_)
    have hM := hB.1.back ht
    have hG := hB.1.2.2.2.1
    have ht15 : tg g5 r13 = 28 + 64 * j := hB.2.1
    have hg16 : pO g5 (pF g5 (pF g5 o 5) 0) j = some r13 := hB.2.2
    obtain ⟨u17, u18, u19, u20, u21, u22, hP, hf⟩ := o_ms (i := j) (q := r13) hM (by omega)
    refine va_castY hx hb hown (hts (.classLink RX6 125 "SnowpalaceModel$Site") (by decide +kernel)) hE.2.2.2.2.2.2.1 (va_recv hK hP (ci := 9) (q0 := 0) rfl rfl) dX6_count_22 ?_
    obtain ⟨u23, u24, u25, u26, u27, u28, hP, hf⟩ := o_ms (i := j) (q := r13) hM (by omega)
    refine va_calli (va_runV (As := []) (rest := []) ⟨hx, hb, hml, hown, hts⟩ (rm_many l dC dI kA eD b g5 r13 j (by omega)) (cwV 0 hts gX6_count_X5_many rfl rfl rfl (by decide +kernel) ⟨Nat.le_of_ble_eq_true rfl, Nat.le_of_ble_eq_true rfl⟩) ⟨fb_CX, va_recv hK hP (ci := 9) (q0 := 0) rfl rfl, fun U hU hW => ⟨rfl, CX.give hb0 hM hK hG hE hS hU hW⟩⟩ rfl rfl hl.1 rfl (lv_room (Nat.le_of_ble_eq_true rfl)) dX6_count_25 ⟨(Nat.le_of_ble_eq_true rfl), (Nat.le_of_ble_eq_true rfl)⟩) hS (fun q _ h => h) (fun q h => h) (fun r29 u t H locs ht hvm hw30 hB hz1 hk1 hS => ?_)
    have hM := hB.back ht
    have hG := hB.2.2.2.1
    obtain ⟨q31, hq32, rfl⟩ := hw30
    refine W.widen (k := 0) (n := 0) (Nat.le_of_ble_eq_true rfl) (Nat.le_of_ble_eq_true rfl) ?_
    exact W.iret (v := (nI q31)) hx hb hr (fun t ht hW => ⟨⟨(nI q31), g5, rfl, hx6, CX.give hb0 hM hK hG hE hS ht hW⟩, hS.F ht⟩) hS.2.2 dX6_count_28
  · skip
    have hv33 := vr1 (vr01 hw4.2.2) c9
    refine lv_iconst (v := 0) hx hb dX6_count_8 (by decide) ?_
    refine lv_goto (tgt := 28) hx hb dX6_count_9 (by decide) ?_
    refine W.widen (k := 0) (n := 0) (Nat.le_of_ble_eq_true rfl) (Nat.le_of_ble_eq_true rfl) ?_
    exact W.iret (v := 0) hx hb hr (fun t ht hW => ⟨⟨0, g5, rfl, hx6, CX.give hb0 hM hK hG hE hS ht hW⟩, hS.F ht⟩) hS.2.2 dX6_count_28

set_option maxHeartbeats 4000000 in
set_option maxRecDepth 100000 in
theorem rmf_mark (l : Launch) (dC : Nat → ClassId) (dI : Nat → Nat → Nat) (kA : Nat → ClassId) (eD b : Nat) (g : Gh) (o : Nat) (site : Int32) (hto : tg g o = 17)  : Met l yX6_mark wsX6_mark ({ frames := 3, cells := 0, slots := 0, locals := 64 }) (va_Pc [.ref o, .int site] (CX (dC, dI) kA eD b g)) (va_Qd (fun (r : UInt64) (u : Gh) => Ext o X0 g u) (fun (u : Gh) t => CX (dC, dI) kA eD b u t) (fun q => b ≤ q)) 0 0 (fun q => b ≤ q) := by
  refine Met.ofW (cc := cX6_mark) (maxL := 2) (ret := (some .double)) (by decide +kernel) rfl ?_
  intro p e s m args below meth c s₁ B hml hv
  obtain ⟨rfl, hb0, hM, hK, hG, hE⟩ := hv
  have hx := B.exec
  have hb := B.bytes
  have hr := B.returns
  have hts := atoms_spec (ws := wsX6_mark) B.pre
  have hown : s.vm.findClass RX6 = some m.cls := findClass_of_methodNamed B.named
  have hlocks := B.notSynchronized
  have hT := hE.1
  have hN := hE.2.2.2.2.2.2.2.1
  have hS : va_S (fun q => b ≤ q) s.heap s.heap [] := va_S.rf
  have hl := lv_entry ([.ref o, .int site]) (n := 2) (Nat.le_of_ble_eq_true rfl)
  rw [lg_entry_eq]
  generalize (lg_sl ([.ref o, .int site]) ++ List.replicate (2 - (lg_sl ([.ref o, .int site])).length) Slot.unset).toArray = ls at hl ⊢
  have hl : lv_has ls 2 [(0, .ref o), (1, .int site)] := hl
  generalize ([.ref o, .int site] : List Value).toArray = args at hts ⊢
  refine lv_aload_n hx hb dX6_mark_0 rfl (lv_at hl 0 rfl) ?_
  refine lv_iload_n hx hb dX6_mark_1 rfl (lv_at hl 1 rfl) ?_
  obtain ⟨u1, u2, hP, hf⟩ := o_mo (i := 0) (q := o) hM (by omega)
  refine va_calli (va_runV (As := [.int site]) (rest := []) ⟨hx, hb, hml, hown, hts⟩ (rm_isNoSite l dC dI kA eD b g o site (by omega)) (cwV 1 hts gX6_mark_X6_isNoSite rfl rfl rfl (by decide +kernel) ⟨Nat.le_of_ble_eq_true rfl, Nat.le_of_ble_eq_true rfl⟩) ⟨fb_CX, va_recv hK hP (ci := 10) (q0 := 0) rfl rfl, fun U hU hW => ⟨rfl, CX.give hb0 hM hK hG hE hS hU hW⟩⟩ rfl rfl hl.1 rfl (lv_room (Nat.le_of_ble_eq_true rfl)) dX6_mark_2 ⟨(Nat.le_of_ble_eq_true rfl), (Nat.le_of_ble_eq_true rfl)⟩) hS (fun q _ h => h) (fun q h => h) (fun r3 g5 t H locs ht hvm hw4 hB hz1 hk1 hS => ?_)
  have hM := hB.back ht
  have hG := hB.2.2.2.1
  have hx6 : Ext o X0 g g5 := hw4.1
  have ht7 : tg g5 o = 17 := hx6.tk hto (by omega)
  have hth8 := hw4.2.1
  refine lv_if_ne (tgt := 39) hx hb dX6_mark_5 (by decide) (fun c9 => ?_) (fun c9 => ?_)
  · skip
    have hv10 := vr1 (vr01 hw4.2.2) c9
    refine lv_dconst0 hx hb dX6_mark_39 ?_
    refine lv_goto (tgt := 59) hx hb dX6_mark_40 (by decide) ?_
    refine W.widen (k := 0) (n := 0) (Nat.le_of_ble_eq_true rfl) (Nat.le_of_ble_eq_true rfl) ?_
    exact W.dret (v := FP.dconst0) hx hb hr (fun t ht hW => ⟨⟨FP.dconst0, g5, rfl, hx6, CX.give hb0 hM hK hG hE hS ht hW⟩, hS.F ht⟩) hS.2.2 dX6_mark_59
  · skip
    have hv11 := vr0 (vr01 hw4.2.2) c9
    have hfm := (mo_list hM ht7).1
    have hls := (mo_list hM ht7).2
    obtain ⟨j, hj, rfl⟩ := toN (p := site) (k := 2) (by omega) (by omega) (by decide)
    have hl : lv_has ls 2 [(0, .ref o), (1, .int (nI j))] := hl
    have ej : (nI j).toInt = (j : Int) := nI_toInt (by omega)
    have hjs : (j : Int) < (pI g5 (pF g5 o 5) 0).toInt := by omega
    refine lv_aload_n hx hb dX6_mark_8 rfl (lv_at hl 0 rfl) ?_
    refine lv_aload_n hx hb dX6_mark_9 rfl (lv_at hl 0 rfl) ?_
    obtain ⟨u12, u13, hP, hf⟩ := o_mo (i := 0) (q := o) hM (by omega)
    refine va_get (D := (dC, dI)) (ci := 10) (v := .ref (pF g5 o 5)) (C := RX6) (T := TX6) (N := 11) hx hb hts (by decide +kernel) hown hK hP 0 rfl rfl 10 (by decide) (hts (.fieldLink RX6 34 "SnowpalaceModel" "sites" "Ljava/util/List;") (by decide +kernel)) (fun _ h9 => h9) rfl dX6_mark_10 ?_
    refine lv_iload_n hx hb dX6_mark_13 rfl (lv_at hl 1 rfl) ?_
    obtain ⟨hP, hf⟩ := o_al (i := 0) (q := (pF g5 o 5)) hM (by omega)
    refine va_callFr (va_runF (hK.1 3 _ rfl).2 (As := [.int (nI j)]) (rest := [.ref o]) ⟨hx, hb, hml, hown, hts⟩ (rj_get l dC dI kA eD b g5 (pF g5 o 5) j (by omega) hjs) (va_cwF 1 hts gX6_mark_Jx4a65c_get_915e3_f149Jx4a65c rfl rfl rfl hE.2.2.2.2.1 (by decide +kernel) ⟨Nat.le_of_ble_eq_true rfl, Nat.le_of_ble_eq_true rfl⟩) ⟨fb_CX, va_recv hK hP (ci := 3) (q0 := 0) rfl rfl, fun U hU hW => ⟨rfl, CX.give hb0 hM hK hG hE hS hU hW⟩⟩ rfl rfl hl.1 rfl (lv_room (Nat.le_of_ble_eq_true rfl)) dX6_mark_14 ⟨(Nat.le_of_ble_eq_true rfl), (Nat.le_of_ble_eq_true rfl)⟩) hS (fun q _ h => h) (fun q h => h) (fun u r14 t H locs ht hvm hw15 hB hz1 hk1 hS => ?_)
    have hM := hB.1.back ht
    have hG := hB.1.2.2.2.1
    have ht16 : tg g5 r14 = 28 + 64 * j := hB.2.1
    have hg17 : pO g5 (pF g5 (pF g5 o 5) 0) j = some r14 := hB.2.2
    obtain ⟨u18, u19, u20, u21, u22, u23, hP, hf⟩ := o_ms (i := j) (q := r14) hM (by omega)
    refine va_castY hx hb hown (hts (.classLink RX6 125 "SnowpalaceModel$Site") (by decide +kernel)) hE.2.2.2.2.2.2.1 (va_recv hK hP (ci := 9) (q0 := 0) rfl rfl) dX6_mark_19 ?_
    obtain ⟨u24, u25, u26, u27, u28, u29, hP, hf⟩ := o_ms (i := j) (q := r14) hM (by omega)
    refine va_getN (D := (dC, dI)) (ci := 9) (v := .int u24) (C := RX5) (T := TX5) (N := 10) hx hb hts (by decide +kernel) hown hK hP 0 rfl rfl 3 (by decide) (hN (.fieldLinkNest RX6 265 "SnowpalaceModel$Site" "isJudged" "Z" RX6) (by decide +kernel)) (fun _ h9 => h9) rfl dX6_mark_22 ?_
    refine lv_if_eq (tgt := 32) hx hb dX6_mark_25 (by decide) (fun c30 => ?_) (fun c30 => ?_)
    · skip
      refine lv_iconst (v := 2) hx hb dX6_mark_32 (by decide) ?_
      obtain ⟨u31, u32, hP, hf⟩ := o_mo (i := 0) (q := o) hM (by omega)
      refine va_calli (va_runV (As := [.int 2]) (rest := []) ⟨hx, hb, hml, hown, hts⟩ (rm_isWrong l dC dI kA eD b g5 o 2 (by omega)) (cwV 1 hts gX6_mark_X6_isWrong rfl rfl rfl (by decide +kernel) ⟨Nat.le_of_ble_eq_true rfl, Nat.le_of_ble_eq_true rfl⟩) ⟨fb_CX, va_recv hK hP (ci := 10) (q0 := 0) rfl rfl, fun U hU hW => ⟨rfl, CX.give hb0 hM hK hG hE hS hU hW⟩⟩ rfl rfl hl.1 rfl (lv_room (Nat.le_of_ble_eq_true rfl)) dX6_mark_33 ⟨(Nat.le_of_ble_eq_true rfl), (Nat.le_of_ble_eq_true rfl)⟩) hS (fun q _ h => h) (fun q h => h) (fun r33 g35 t H locs ht hvm hw34 hB hz1 hk1 hS => ?_)
      have hM := hB.back ht
      have hG := hB.2.2.2.1
      have hx36 : Ext o X0 g5 g35 := hw34.1
      have ht37 : tg g35 o = 17 := hx36.tk ht7 (by omega)
      have ht38 : tg g35 (pF g5 o 5) = 26 := hx36.tk hfm (by omega)
      have ht39 : tg g35 r14 = 28 + 64 * j := hx36.tk ht16 (by omega)
      obtain rfl : r33 = 1 := hw34.2.2.trans (by decide)
      have hth40 : pI g35 o 2 = 2 := by rw [hw34.2.1]; exact sI_at
      refine lv_if_eq (tgt := 43) hx hb dX6_mark_36 (by decide) (fun cx => by first | exact absurd cx (by decide) | exact absurd (by decide) cx) (fun _ => ?_)
      refine lv_dconst0 hx hb dX6_mark_39 ?_
      refine lv_goto (tgt := 59) hx hb dX6_mark_40 (by decide) ?_
      refine W.widen (k := 0) (n := 0) (Nat.le_of_ble_eq_true rfl) (Nat.le_of_ble_eq_true rfl) ?_
      exact W.dret (v := FP.dconst0) hx hb hr (fun t ht hW => ⟨⟨FP.dconst0, g35, rfl, (hx6.trans hx36), CX.give hb0 hM hK hG hE hS ht hW⟩, hS.F ht⟩) hS.2.2 dX6_mark_59
    · skip
      refine lv_iconst (v := 0) hx hb dX6_mark_28 (by decide) ?_
      refine lv_goto (tgt := 33) hx hb dX6_mark_29 (by decide) ?_
      obtain ⟨u41, u42, hP, hf⟩ := o_mo (i := 0) (q := o) hM (by omega)
      refine va_calli (va_runV (As := [.int 0]) (rest := []) ⟨hx, hb, hml, hown, hts⟩ (rm_isWrong l dC dI kA eD b g5 o 0 (by omega)) (cwV 1 hts gX6_mark_X6_isWrong rfl rfl rfl (by decide +kernel) ⟨Nat.le_of_ble_eq_true rfl, Nat.le_of_ble_eq_true rfl⟩) ⟨fb_CX, va_recv hK hP (ci := 10) (q0 := 0) rfl rfl, fun U hU hW => ⟨rfl, CX.give hb0 hM hK hG hE hS hU hW⟩⟩ rfl rfl hl.1 rfl (lv_room (Nat.le_of_ble_eq_true rfl)) dX6_mark_33 ⟨(Nat.le_of_ble_eq_true rfl), (Nat.le_of_ble_eq_true rfl)⟩) hS (fun q _ h => h) (fun q h => h) (fun r43 g45 t H locs ht hvm hw44 hB hz1 hk1 hS => ?_)
      have hM := hB.back ht
      have hG := hB.2.2.2.1
      have hx46 : Ext o X0 g5 g45 := hw44.1
      have ht47 : tg g45 o = 17 := hx46.tk ht7 (by omega)
      have ht48 : tg g45 (pF g5 o 5) = 26 := hx46.tk hfm (by omega)
      have ht49 : tg g45 r14 = 28 + 64 * j := hx46.tk ht16 (by omega)
      obtain rfl : r43 = 0 := hw44.2.2.trans (by decide)
      have hth50 : pI g45 o 2 = 0 := by rw [hw44.2.1]; exact sI_at
      refine lv_if_eq (tgt := 43) hx hb dX6_mark_36 (by decide) (fun _ => ?_) (fun cx => by first | exact absurd (by decide) cx | exact absurd cx (by decide))
      refine lv_aload_n hx hb dX6_mark_43 rfl (lv_at hl 0 rfl) ?_
      obtain ⟨u51, u52, hP, hf⟩ := o_mo (i := 0) (q := o) hM (by omega)
      refine va_get (D := (dC, dI)) (ci := 10) (v := .ref (pF g45 o 5)) (C := RX6) (T := TX6) (N := 11) hx hb hts (by decide +kernel) hown hK hP 0 rfl rfl 10 (by decide) (hts (.fieldLink RX6 34 "SnowpalaceModel" "sites" "Ljava/util/List;") (by decide +kernel)) (fun _ h9 => h9) rfl dX6_mark_44 ?_
      have ht53 : tg g45 (pF g45 o 5) = 26 := hf.2.2.2.2.2.1
      refine lv_iload_n hx hb dX6_mark_47 rfl (lv_at hl 1 rfl) ?_
      obtain ⟨hP, hf⟩ := o_al (i := 0) (q := (pF g45 o 5)) hM (by omega)
      refine va_callFr (va_runF (hK.1 3 _ rfl).2 (As := [.int (nI j)]) (rest := []) ⟨hx, hb, hml, hown, hts⟩ (rj_get l dC dI kA eD b g45 (pF g45 o 5) j (by omega) (by rw [(hx46 : Ext o X0 g5 g45).f (q := o) (by omega), (hx46 : Ext o X0 g5 g45).i (q := pF g5 o 5) (j := 0) (by omega) (Or.inr (by decide))]; exact hjs)) (va_cwF 1 hts gX6_mark_Jx4a65c_get_915e3_f149Jx4a65c rfl rfl rfl hE.2.2.2.2.1 (by decide +kernel) ⟨Nat.le_of_ble_eq_true rfl, Nat.le_of_ble_eq_true rfl⟩) ⟨fb_CX, va_recv hK hP (ci := 3) (q0 := 0) rfl rfl, fun U hU hW => ⟨rfl, CX.give hb0 hM hK hG hE hS hU hW⟩⟩ rfl rfl hl.1 rfl (lv_room (Nat.le_of_ble_eq_true rfl)) dX6_mark_48 ⟨(Nat.le_of_ble_eq_true rfl), (Nat.le_of_ble_eq_true rfl)⟩) hS (fun q _ h => h) (fun q h => h) (fun u r54 t H locs ht hvm hw55 hB hz1 hk1 hS => ?_)
      have hM := hB.1.back ht
      have hG := hB.1.2.2.2.1
      have ht56 : tg g45 r54 = 28 + 64 * j := hB.2.1
      have hg57 : pO g45 (pF g45 (pF g45 o 5) 0) j = some r54 := hB.2.2
      obtain ⟨u58, u59, u60, u61, u62, u63, hP, hf⟩ := o_ms (i := j) (q := r54) hM (by omega)
      refine va_castY hx hb hown (hts (.classLink RX6 125 "SnowpalaceModel$Site") (by decide +kernel)) hE.2.2.2.2.2.2.1 (va_recv hK hP (ci := 9) (q0 := 0) rfl rfl) dX6_mark_53 ?_
      obtain ⟨u64, u65, u66, u67, u68, u69, hP, hf⟩ := o_ms (i := j) (q := r54) hM (by omega)
      refine va_getN (D := (dC, dI)) (ci := 9) (v := .double u69) (C := RX5) (T := TX5) (N := 10) hx hb hts (by decide +kernel) hown hK hP 0 rfl rfl 8 (by decide) (hN (.fieldLinkNest RX6 261 "SnowpalaceModel$Site" "mark" "D" RX6) (by decide +kernel)) (fun _ h9 => h9) rfl dX6_mark_56 ?_
      refine W.widen (k := 0) (n := 0) (Nat.le_of_ble_eq_true rfl) (Nat.le_of_ble_eq_true rfl) ?_
      exact W.dret (v := u69) hx hb hr (fun t ht hW => ⟨⟨u69, g45, rfl, (hx6.trans hx46), CX.give hb0 hM hK hG hE hS ht hW⟩, hS.F ht⟩) hS.2.2 dX6_mark_59

set_option maxHeartbeats 4000000 in
set_option maxRecDepth 100000 in
theorem rmf_mass (l : Launch) (dC : Nat → ClassId) (dI : Nat → Nat → Nat) (kA : Nat → ClassId) (eD b : Nat) (g : Gh) (o : Nat) (site : Int32) (x : Int32) (y : Int32) (hto : tg g o = 17)  : Met l yX6_mass wsX6_mass ({ frames := 4, cells := 0, slots := 0, locals := 87 }) (va_Pc [.ref o, .int site, .int x, .int y] (CX (dC, dI) kA eD b g)) (va_Qi (fun (r : Int32) (u : Gh) => Ext o X0 g u) (fun (u : Gh) t => CX (dC, dI) kA eD b u t) (fun q => b ≤ q)) 0 0 (fun q => b ≤ q) := by
  refine Met.ofW (cc := cX6_mass) (maxL := 4) (ret := (some .int)) (by decide +kernel) rfl ?_
  intro p e s m args below meth c s₁ B hml hv
  obtain ⟨rfl, hb0, hM, hK, hG, hE⟩ := hv
  have hx := B.exec
  have hb := B.bytes
  have hr := B.returns
  have hts := atoms_spec (ws := wsX6_mass) B.pre
  have hown : s.vm.findClass RX6 = some m.cls := findClass_of_methodNamed B.named
  have hlocks := B.notSynchronized
  have hT := hE.1
  have hN := hE.2.2.2.2.2.2.2.1
  have hS : va_S (fun q => b ≤ q) s.heap s.heap [] := va_S.rf
  have hl := lv_entry ([.ref o, .int site, .int x, .int y]) (n := 4) (Nat.le_of_ble_eq_true rfl)
  rw [lg_entry_eq]
  generalize (lg_sl ([.ref o, .int site, .int x, .int y]) ++ List.replicate (4 - (lg_sl ([.ref o, .int site, .int x, .int y])).length) Slot.unset).toArray = ls at hl ⊢
  have hl : lv_has ls 4 [(0, .ref o), (1, .int site), (2, .int x), (3, .int y)] := hl
  generalize ([.ref o, .int site, .int x, .int y] : List Value).toArray = args at hts ⊢
  refine lv_aload_n hx hb dX6_mass_0 rfl (lv_at hl 0 rfl) ?_
  refine lv_iload_n hx hb dX6_mass_1 rfl (lv_at hl 1 rfl) ?_
  refine lv_iload_n hx hb dX6_mass_2 rfl (lv_at hl 2 rfl) ?_
  refine lv_iload_n hx hb dX6_mass_3 rfl (lv_at hl 3 rfl) ?_
  obtain ⟨u1, u2, hP, hf⟩ := o_mo (i := 0) (q := o) hM (by omega)
  refine va_calli (va_runV (As := [.int site, .int x, .int y]) (rest := []) ⟨hx, hb, hml, hown, hts⟩ (rm_isNoCell l dC dI kA eD b g o site x y (by omega)) (cwV 3 hts gX6_mass_X6_isNoCell rfl rfl rfl (by decide +kernel) ⟨Nat.le_of_ble_eq_true rfl, Nat.le_of_ble_eq_true rfl⟩) ⟨fb_CX, va_recv hK hP (ci := 10) (q0 := 0) rfl rfl, fun U hU hW => ⟨rfl, CX.give hb0 hM hK hG hE hS hU hW⟩⟩ rfl rfl hl.1 rfl (lv_room (Nat.le_of_ble_eq_true rfl)) dX6_mass_4 ⟨(Nat.le_of_ble_eq_true rfl), (Nat.le_of_ble_eq_true rfl)⟩) hS (fun q _ h => h) (fun q h => h) (fun r3 g5 t H locs ht hvm hw4 hB hz1 hk1 hS => ?_)
  have hM := hB.back ht
  have hG := hB.2.2.2.1
  have hx6 : Ext o X0 g g5 := hw4.1
  have ht7 : tg g5 o = 17 := hx6.tk hto (by omega)
  refine lv_if_eq (tgt := 14) hx hb dX6_mass_7 (by decide) (fun c8 => ?_) (fun c8 => ?_)
  · skip
    have hv9 := vr0 (nc01 hw4.2) c8
    obtain ⟨j, a0, jx, jy, cl, rfl, rfl, rfl, hjx, hjy, hjs, hta, hga, hcl⟩ := hv9
    have hl : lv_has ls 4 [(0, .ref o), (1, .int (nI j)), (2, .int (nI jx)), (3, .int (nI jy))] := hl
    have hfm := (mo_list hM ht7).1
    have hls := (mo_list hM ht7).2
    have ej : (nI j).toInt = (j : Int) := nI_toInt (by omega)
    refine lv_aload_n hx hb dX6_mass_14 rfl (lv_at hl 0 rfl) ?_
    obtain ⟨u10, u11, hP, hf⟩ := o_mo (i := 0) (q := o) hM (by omega)
    refine va_get (D := (dC, dI)) (ci := 10) (v := .ref (pF g5 o 5)) (C := RX6) (T := TX6) (N := 11) hx hb hts (by decide +kernel) hown hK hP 0 rfl rfl 10 (by decide) (hts (.fieldLink RX6 34 "SnowpalaceModel" "sites" "Ljava/util/List;") (by decide +kernel)) (fun _ h9 => h9) rfl dX6_mass_15 ?_
    refine lv_iload_n hx hb dX6_mass_18 rfl (lv_at hl 1 rfl) ?_
    obtain ⟨hP, hf⟩ := o_al (i := 0) (q := (pF g5 o 5)) hM (by omega)
    refine va_callFr (va_runF (hK.1 3 _ rfl).2 (As := [.int (nI j)]) (rest := []) ⟨hx, hb, hml, hown, hts⟩ (rj_get l dC dI kA eD b g5 (pF g5 o 5) j (by omega) hjs) (va_cwF 1 hts gX6_mass_Jx4a65c_get_915e3_f149Jx4a65c rfl rfl rfl hE.2.2.2.2.1 (by decide +kernel) ⟨Nat.le_of_ble_eq_true rfl, Nat.le_of_ble_eq_true rfl⟩) ⟨fb_CX, va_recv hK hP (ci := 3) (q0 := 0) rfl rfl, fun U hU hW => ⟨rfl, CX.give hb0 hM hK hG hE hS hU hW⟩⟩ rfl rfl hl.1 rfl (lv_room (Nat.le_of_ble_eq_true rfl)) dX6_mass_19 ⟨(Nat.le_of_ble_eq_true rfl), (Nat.le_of_ble_eq_true rfl)⟩) hS (fun q _ h => h) (fun q h => h) (fun u r12 t H locs ht hvm hw13 hB hz1 hk1 hS => ?_)
    have hM := hB.1.back ht
    have hG := hB.1.2.2.2.1
    have ht14 : tg g5 r12 = 28 + 64 * j := hB.2.1
    have hg15 : pO g5 (pF g5 (pF g5 o 5) 0) j = some r12 := hB.2.2
    obtain rfl : a0 = r12 := Option.some.inj (hga.symm.trans hg15)
    obtain ⟨u16, u17, u18, u19, u20, u21, hP, hf⟩ := o_ms (i := j) (q := a0) hM (by omega)
    refine va_castY hx hb hown (hts (.classLink RX6 125 "SnowpalaceModel$Site") (by decide +kernel)) hE.2.2.2.2.2.2.1 (va_recv hK hP (ci := 9) (q0 := 0) rfl rfl) dX6_mass_24 ?_
    obtain ⟨u22, u23, u24, u25, u26, u27, hP, hf⟩ := o_ms (i := j) (q := a0) hM (by omega)
    refine va_getN (D := (dC, dI)) (ci := 9) (v := .ref (pF g5 a0 0)) (C := RX5) (T := TX5) (N := 10) hx hb hts (by decide +kernel) hown hK hP 0 rfl rfl 0 (by decide) (hN (.fieldLinkNest RX6 160 "SnowpalaceModel$Site" "cells" "[[LSnowpalaceModel$Cell;" RX6) (by decide +kernel)) (fun _ h9 => h9) rfl dX6_mass_27 ?_
    have ht28 : tg g5 (pF g5 a0 0) = 29 + 64 * j := hf.1
    refine lv_iload_n hx hb dX6_mass_30 rfl (lv_at hl 3 rfl) ?_
    obtain ⟨hP, hf⟩ := o_co (i := j) (q := (pF g5 a0 0)) hM (by omega)
    have ec : ((nI jy) : Int32).toNatClampNeg = jy := nI_clamp (by omega)
    refine rt_aldA (D := (dC, dI)) (t0 := 9) hx hb hK hP rfl (vp_in_nI (by omega) (by decide)) (y := (pF g5 (pF g5 a0 0) jy)) ((congrArg (fun z => if z < 6 then some (pF g5 (pF g5 a0 0) z) else none) ec).trans (if_pos (by omega))) dX6_mass_31 ?_
    have ht29 : tg g5 (pF g5 (pF g5 a0 0) jy) = 30 + 64 * (8 * j + jy) := (hf jy (by omega))
    refine lv_iload_n hx hb dX6_mass_32 rfl (lv_at hl 2 rfl) ?_
    obtain ⟨hP, hf⟩ := o_cr (i := (8 * j + jy)) (q := (pF g5 (pF g5 a0 0) jy)) hM (by omega)
    refine va_aldq (D := (dC, dI)) hx hb hK hP 0 8 rfl rfl (vp_in_nI (by omega) (by decide)) dX6_mass_33 ?_
    have ec : ((nI jx) : Int32).toNatClampNeg = jx := nI_clamp (by omega)
    rw [ec]
    have hq30 := hf jx (by omega)
    rw [hcl]
    have ht31 : tg g5 cl = 31 := hq30 cl hcl
    obtain ⟨u32, u33, u34, u35, u36, hP, hf⟩ := o_ce (i := 0) (q := cl) hM (by omega)
    refine va_getN (D := (dC, dI)) (ci := 8) (v := .int u33) (C := RX4) (T := TX4) (N := 5) hx hb hts (by decide +kernel) hown hK hP 0 rfl rfl 1 (by decide) (hN (.fieldLinkNest RX6 182 "SnowpalaceModel$Cell" "mass" "I" RX6) (by decide +kernel)) (fun _ h9 => h9) rfl dX6_mass_34 ?_
    refine W.widen (k := 0) (n := 0) (Nat.le_of_ble_eq_true rfl) (Nat.le_of_ble_eq_true rfl) ?_
    exact W.iret (v := u33) hx hb hr (fun t ht hW => ⟨⟨u33, g5, rfl, hx6, CX.give hb0 hM hK hG hE hS ht hW⟩, hS.F ht⟩) hS.2.2 dX6_mass_37
  · skip
    have hv37 := vr1 (nc01 hw4.2) c8
    refine lv_iconst (v := 0) hx hb dX6_mass_10 (by decide) ?_
    refine lv_goto (tgt := 37) hx hb dX6_mass_11 (by decide) ?_
    refine W.widen (k := 0) (n := 0) (Nat.le_of_ble_eq_true rfl) (Nat.le_of_ble_eq_true rfl) ?_
    exact W.iret (v := 0) hx hb hr (fun t ht hW => ⟨⟨0, g5, rfl, hx6, CX.give hb0 hM hK hG hE hS ht hW⟩, hS.F ht⟩) hS.2.2 dX6_mass_37

set_option maxHeartbeats 4000000 in
set_option maxRecDepth 100000 in
theorem rmf_creep (l : Launch) (dC : Nat → ClassId) (dI : Nat → Nat → Nat) (kA : Nat → ClassId) (eD b : Nat) (g : Gh) (o : Nat) (site : Int32) (x : Int32) (y : Int32) (hto : tg g o = 17)  : Met l yX6_creep wsX6_creep ({ frames := 4, cells := 0, slots := 0, locals := 87 }) (va_Pc [.ref o, .int site, .int x, .int y] (CX (dC, dI) kA eD b g)) (va_Qi (fun (r : Int32) (u : Gh) => Ext o X0 g u) (fun (u : Gh) t => CX (dC, dI) kA eD b u t) (fun q => b ≤ q)) 0 0 (fun q => b ≤ q) := by
  refine Met.ofW (cc := cX6_creep) (maxL := 4) (ret := (some .int)) (by decide +kernel) rfl ?_
  intro p e s m args below meth c s₁ B hml hv
  obtain ⟨rfl, hb0, hM, hK, hG, hE⟩ := hv
  have hx := B.exec
  have hb := B.bytes
  have hr := B.returns
  have hts := atoms_spec (ws := wsX6_creep) B.pre
  have hown : s.vm.findClass RX6 = some m.cls := findClass_of_methodNamed B.named
  have hlocks := B.notSynchronized
  have hT := hE.1
  have hN := hE.2.2.2.2.2.2.2.1
  have hS : va_S (fun q => b ≤ q) s.heap s.heap [] := va_S.rf
  have hl := lv_entry ([.ref o, .int site, .int x, .int y]) (n := 4) (Nat.le_of_ble_eq_true rfl)
  rw [lg_entry_eq]
  generalize (lg_sl ([.ref o, .int site, .int x, .int y]) ++ List.replicate (4 - (lg_sl ([.ref o, .int site, .int x, .int y])).length) Slot.unset).toArray = ls at hl ⊢
  have hl : lv_has ls 4 [(0, .ref o), (1, .int site), (2, .int x), (3, .int y)] := hl
  generalize ([.ref o, .int site, .int x, .int y] : List Value).toArray = args at hts ⊢
  refine lv_aload_n hx hb dX6_creep_0 rfl (lv_at hl 0 rfl) ?_
  refine lv_iload_n hx hb dX6_creep_1 rfl (lv_at hl 1 rfl) ?_
  refine lv_iload_n hx hb dX6_creep_2 rfl (lv_at hl 2 rfl) ?_
  refine lv_iload_n hx hb dX6_creep_3 rfl (lv_at hl 3 rfl) ?_
  obtain ⟨u1, u2, hP, hf⟩ := o_mo (i := 0) (q := o) hM (by omega)
  refine va_calli (va_runV (As := [.int site, .int x, .int y]) (rest := []) ⟨hx, hb, hml, hown, hts⟩ (rm_isNoCell l dC dI kA eD b g o site x y (by omega)) (cwV 3 hts gX6_creep_X6_isNoCell rfl rfl rfl (by decide +kernel) ⟨Nat.le_of_ble_eq_true rfl, Nat.le_of_ble_eq_true rfl⟩) ⟨fb_CX, va_recv hK hP (ci := 10) (q0 := 0) rfl rfl, fun U hU hW => ⟨rfl, CX.give hb0 hM hK hG hE hS hU hW⟩⟩ rfl rfl hl.1 rfl (lv_room (Nat.le_of_ble_eq_true rfl)) dX6_creep_4 ⟨(Nat.le_of_ble_eq_true rfl), (Nat.le_of_ble_eq_true rfl)⟩) hS (fun q _ h => h) (fun q h => h) (fun r3 g5 t H locs ht hvm hw4 hB hz1 hk1 hS => ?_)
  have hM := hB.back ht
  have hG := hB.2.2.2.1
  have hx6 : Ext o X0 g g5 := hw4.1
  have ht7 : tg g5 o = 17 := hx6.tk hto (by omega)
  refine lv_if_eq (tgt := 14) hx hb dX6_creep_7 (by decide) (fun c8 => ?_) (fun c8 => ?_)
  · skip
    have hv9 := vr0 (nc01 hw4.2) c8
    obtain ⟨j, a0, jx, jy, cl, rfl, rfl, rfl, hjx, hjy, hjs, hta, hga, hcl⟩ := hv9
    have hl : lv_has ls 4 [(0, .ref o), (1, .int (nI j)), (2, .int (nI jx)), (3, .int (nI jy))] := hl
    have hfm := (mo_list hM ht7).1
    have hls := (mo_list hM ht7).2
    have ej : (nI j).toInt = (j : Int) := nI_toInt (by omega)
    refine lv_aload_n hx hb dX6_creep_14 rfl (lv_at hl 0 rfl) ?_
    obtain ⟨u10, u11, hP, hf⟩ := o_mo (i := 0) (q := o) hM (by omega)
    refine va_get (D := (dC, dI)) (ci := 10) (v := .ref (pF g5 o 5)) (C := RX6) (T := TX6) (N := 11) hx hb hts (by decide +kernel) hown hK hP 0 rfl rfl 10 (by decide) (hts (.fieldLink RX6 34 "SnowpalaceModel" "sites" "Ljava/util/List;") (by decide +kernel)) (fun _ h9 => h9) rfl dX6_creep_15 ?_
    refine lv_iload_n hx hb dX6_creep_18 rfl (lv_at hl 1 rfl) ?_
    obtain ⟨hP, hf⟩ := o_al (i := 0) (q := (pF g5 o 5)) hM (by omega)
    refine va_callFr (va_runF (hK.1 3 _ rfl).2 (As := [.int (nI j)]) (rest := []) ⟨hx, hb, hml, hown, hts⟩ (rj_get l dC dI kA eD b g5 (pF g5 o 5) j (by omega) hjs) (va_cwF 1 hts gX6_creep_Jx4a65c_get_915e3_f149Jx4a65c rfl rfl rfl hE.2.2.2.2.1 (by decide +kernel) ⟨Nat.le_of_ble_eq_true rfl, Nat.le_of_ble_eq_true rfl⟩) ⟨fb_CX, va_recv hK hP (ci := 3) (q0 := 0) rfl rfl, fun U hU hW => ⟨rfl, CX.give hb0 hM hK hG hE hS hU hW⟩⟩ rfl rfl hl.1 rfl (lv_room (Nat.le_of_ble_eq_true rfl)) dX6_creep_19 ⟨(Nat.le_of_ble_eq_true rfl), (Nat.le_of_ble_eq_true rfl)⟩) hS (fun q _ h => h) (fun q h => h) (fun u r12 t H locs ht hvm hw13 hB hz1 hk1 hS => ?_)
    have hM := hB.1.back ht
    have hG := hB.1.2.2.2.1
    have ht14 : tg g5 r12 = 28 + 64 * j := hB.2.1
    have hg15 : pO g5 (pF g5 (pF g5 o 5) 0) j = some r12 := hB.2.2
    obtain rfl : a0 = r12 := Option.some.inj (hga.symm.trans hg15)
    obtain ⟨u16, u17, u18, u19, u20, u21, hP, hf⟩ := o_ms (i := j) (q := a0) hM (by omega)
    refine va_castY hx hb hown (hts (.classLink RX6 125 "SnowpalaceModel$Site") (by decide +kernel)) hE.2.2.2.2.2.2.1 (va_recv hK hP (ci := 9) (q0 := 0) rfl rfl) dX6_creep_24 ?_
    obtain ⟨u22, u23, u24, u25, u26, u27, hP, hf⟩ := o_ms (i := j) (q := a0) hM (by omega)
    refine va_getN (D := (dC, dI)) (ci := 9) (v := .ref (pF g5 a0 0)) (C := RX5) (T := TX5) (N := 10) hx hb hts (by decide +kernel) hown hK hP 0 rfl rfl 0 (by decide) (hN (.fieldLinkNest RX6 160 "SnowpalaceModel$Site" "cells" "[[LSnowpalaceModel$Cell;" RX6) (by decide +kernel)) (fun _ h9 => h9) rfl dX6_creep_27 ?_
    have ht28 : tg g5 (pF g5 a0 0) = 29 + 64 * j := hf.1
    refine lv_iload_n hx hb dX6_creep_30 rfl (lv_at hl 3 rfl) ?_
    obtain ⟨hP, hf⟩ := o_co (i := j) (q := (pF g5 a0 0)) hM (by omega)
    have ec : ((nI jy) : Int32).toNatClampNeg = jy := nI_clamp (by omega)
    refine rt_aldA (D := (dC, dI)) (t0 := 9) hx hb hK hP rfl (vp_in_nI (by omega) (by decide)) (y := (pF g5 (pF g5 a0 0) jy)) ((congrArg (fun z => if z < 6 then some (pF g5 (pF g5 a0 0) z) else none) ec).trans (if_pos (by omega))) dX6_creep_31 ?_
    have ht29 : tg g5 (pF g5 (pF g5 a0 0) jy) = 30 + 64 * (8 * j + jy) := (hf jy (by omega))
    refine lv_iload_n hx hb dX6_creep_32 rfl (lv_at hl 2 rfl) ?_
    obtain ⟨hP, hf⟩ := o_cr (i := (8 * j + jy)) (q := (pF g5 (pF g5 a0 0) jy)) hM (by omega)
    refine va_aldq (D := (dC, dI)) hx hb hK hP 0 8 rfl rfl (vp_in_nI (by omega) (by decide)) dX6_creep_33 ?_
    have ec : ((nI jx) : Int32).toNatClampNeg = jx := nI_clamp (by omega)
    rw [ec]
    have hq30 := hf jx (by omega)
    rw [hcl]
    have ht31 : tg g5 cl = 31 := hq30 cl hcl
    obtain ⟨u32, u33, u34, u35, u36, hP, hf⟩ := o_ce (i := 0) (q := cl) hM (by omega)
    refine va_getN (D := (dC, dI)) (ci := 8) (v := .int u35) (C := RX4) (T := TX4) (N := 5) hx hb hts (by decide +kernel) hown hK hP 0 rfl rfl 3 (by decide) (hN (.fieldLinkNest RX6 193 "SnowpalaceModel$Cell" "creep" "I" RX6) (by decide +kernel)) (fun _ h9 => h9) rfl dX6_creep_34 ?_
    refine W.widen (k := 0) (n := 0) (Nat.le_of_ble_eq_true rfl) (Nat.le_of_ble_eq_true rfl) ?_
    exact W.iret (v := u35) hx hb hr (fun t ht hW => ⟨⟨u35, g5, rfl, hx6, CX.give hb0 hM hK hG hE hS ht hW⟩, hS.F ht⟩) hS.2.2 dX6_creep_37
  · skip
    have hv37 := vr1 (nc01 hw4.2) c8
    refine lv_iconst (v := 0) hx hb dX6_creep_10 (by decide) ?_
    refine lv_goto (tgt := 37) hx hb dX6_creep_11 (by decide) ?_
    refine W.widen (k := 0) (n := 0) (Nat.le_of_ble_eq_true rfl) (Nat.le_of_ble_eq_true rfl) ?_
    exact W.iret (v := 0) hx hb hr (fun t ht hW => ⟨⟨0, g5, rfl, hx6, CX.give hb0 hM hK hG hE hS ht hW⟩, hS.F ht⟩) hS.2.2 dX6_creep_37

set_option maxHeartbeats 4000000 in
set_option maxRecDepth 100000 in
theorem rmf_age (l : Launch) (dC : Nat → ClassId) (dI : Nat → Nat → Nat) (kA : Nat → ClassId) (eD b : Nat) (g : Gh) (o : Nat) (site : Int32) (x : Int32) (y : Int32) (hto : tg g o = 17)  : Met l yX6_age wsX6_age ({ frames := 4, cells := 0, slots := 0, locals := 87 }) (va_Pc [.ref o, .int site, .int x, .int y] (CX (dC, dI) kA eD b g)) (va_Qi (fun (r : Int32) (u : Gh) => Ext o X0 g u) (fun (u : Gh) t => CX (dC, dI) kA eD b u t) (fun q => b ≤ q)) 0 0 (fun q => b ≤ q) := by
  refine Met.ofW (cc := cX6_age) (maxL := 4) (ret := (some .int)) (by decide +kernel) rfl ?_
  intro p e s m args below meth c s₁ B hml hv
  obtain ⟨rfl, hb0, hM, hK, hG, hE⟩ := hv
  have hx := B.exec
  have hb := B.bytes
  have hr := B.returns
  have hts := atoms_spec (ws := wsX6_age) B.pre
  have hown : s.vm.findClass RX6 = some m.cls := findClass_of_methodNamed B.named
  have hlocks := B.notSynchronized
  have hT := hE.1
  have hN := hE.2.2.2.2.2.2.2.1
  have hS : va_S (fun q => b ≤ q) s.heap s.heap [] := va_S.rf
  have hl := lv_entry ([.ref o, .int site, .int x, .int y]) (n := 4) (Nat.le_of_ble_eq_true rfl)
  rw [lg_entry_eq]
  generalize (lg_sl ([.ref o, .int site, .int x, .int y]) ++ List.replicate (4 - (lg_sl ([.ref o, .int site, .int x, .int y])).length) Slot.unset).toArray = ls at hl ⊢
  have hl : lv_has ls 4 [(0, .ref o), (1, .int site), (2, .int x), (3, .int y)] := hl
  generalize ([.ref o, .int site, .int x, .int y] : List Value).toArray = args at hts ⊢
  refine lv_aload_n hx hb dX6_age_0 rfl (lv_at hl 0 rfl) ?_
  refine lv_iload_n hx hb dX6_age_1 rfl (lv_at hl 1 rfl) ?_
  refine lv_iload_n hx hb dX6_age_2 rfl (lv_at hl 2 rfl) ?_
  refine lv_iload_n hx hb dX6_age_3 rfl (lv_at hl 3 rfl) ?_
  obtain ⟨u1, u2, hP, hf⟩ := o_mo (i := 0) (q := o) hM (by omega)
  refine va_calli (va_runV (As := [.int site, .int x, .int y]) (rest := []) ⟨hx, hb, hml, hown, hts⟩ (rm_isNoCell l dC dI kA eD b g o site x y (by omega)) (cwV 3 hts gX6_age_X6_isNoCell rfl rfl rfl (by decide +kernel) ⟨Nat.le_of_ble_eq_true rfl, Nat.le_of_ble_eq_true rfl⟩) ⟨fb_CX, va_recv hK hP (ci := 10) (q0 := 0) rfl rfl, fun U hU hW => ⟨rfl, CX.give hb0 hM hK hG hE hS hU hW⟩⟩ rfl rfl hl.1 rfl (lv_room (Nat.le_of_ble_eq_true rfl)) dX6_age_4 ⟨(Nat.le_of_ble_eq_true rfl), (Nat.le_of_ble_eq_true rfl)⟩) hS (fun q _ h => h) (fun q h => h) (fun r3 g5 t H locs ht hvm hw4 hB hz1 hk1 hS => ?_)
  have hM := hB.back ht
  have hG := hB.2.2.2.1
  have hx6 : Ext o X0 g g5 := hw4.1
  have ht7 : tg g5 o = 17 := hx6.tk hto (by omega)
  refine lv_if_eq (tgt := 14) hx hb dX6_age_7 (by decide) (fun c8 => ?_) (fun c8 => ?_)
  · skip
    have hv9 := vr0 (nc01 hw4.2) c8
    obtain ⟨j, a0, jx, jy, cl, rfl, rfl, rfl, hjx, hjy, hjs, hta, hga, hcl⟩ := hv9
    have hl : lv_has ls 4 [(0, .ref o), (1, .int (nI j)), (2, .int (nI jx)), (3, .int (nI jy))] := hl
    have hfm := (mo_list hM ht7).1
    have hls := (mo_list hM ht7).2
    have ej : (nI j).toInt = (j : Int) := nI_toInt (by omega)
    refine lv_aload_n hx hb dX6_age_14 rfl (lv_at hl 0 rfl) ?_
    obtain ⟨u10, u11, hP, hf⟩ := o_mo (i := 0) (q := o) hM (by omega)
    refine va_get (D := (dC, dI)) (ci := 10) (v := .ref (pF g5 o 5)) (C := RX6) (T := TX6) (N := 11) hx hb hts (by decide +kernel) hown hK hP 0 rfl rfl 10 (by decide) (hts (.fieldLink RX6 34 "SnowpalaceModel" "sites" "Ljava/util/List;") (by decide +kernel)) (fun _ h9 => h9) rfl dX6_age_15 ?_
    refine lv_iload_n hx hb dX6_age_18 rfl (lv_at hl 1 rfl) ?_
    obtain ⟨hP, hf⟩ := o_al (i := 0) (q := (pF g5 o 5)) hM (by omega)
    refine va_callFr (va_runF (hK.1 3 _ rfl).2 (As := [.int (nI j)]) (rest := []) ⟨hx, hb, hml, hown, hts⟩ (rj_get l dC dI kA eD b g5 (pF g5 o 5) j (by omega) hjs) (va_cwF 1 hts gX6_age_Jx4a65c_get_915e3_f149Jx4a65c rfl rfl rfl hE.2.2.2.2.1 (by decide +kernel) ⟨Nat.le_of_ble_eq_true rfl, Nat.le_of_ble_eq_true rfl⟩) ⟨fb_CX, va_recv hK hP (ci := 3) (q0 := 0) rfl rfl, fun U hU hW => ⟨rfl, CX.give hb0 hM hK hG hE hS hU hW⟩⟩ rfl rfl hl.1 rfl (lv_room (Nat.le_of_ble_eq_true rfl)) dX6_age_19 ⟨(Nat.le_of_ble_eq_true rfl), (Nat.le_of_ble_eq_true rfl)⟩) hS (fun q _ h => h) (fun q h => h) (fun u r12 t H locs ht hvm hw13 hB hz1 hk1 hS => ?_)
    have hM := hB.1.back ht
    have hG := hB.1.2.2.2.1
    have ht14 : tg g5 r12 = 28 + 64 * j := hB.2.1
    have hg15 : pO g5 (pF g5 (pF g5 o 5) 0) j = some r12 := hB.2.2
    obtain rfl : a0 = r12 := Option.some.inj (hga.symm.trans hg15)
    obtain ⟨u16, u17, u18, u19, u20, u21, hP, hf⟩ := o_ms (i := j) (q := a0) hM (by omega)
    refine va_castY hx hb hown (hts (.classLink RX6 125 "SnowpalaceModel$Site") (by decide +kernel)) hE.2.2.2.2.2.2.1 (va_recv hK hP (ci := 9) (q0 := 0) rfl rfl) dX6_age_24 ?_
    obtain ⟨u22, u23, u24, u25, u26, u27, hP, hf⟩ := o_ms (i := j) (q := a0) hM (by omega)
    refine va_getN (D := (dC, dI)) (ci := 9) (v := .ref (pF g5 a0 0)) (C := RX5) (T := TX5) (N := 10) hx hb hts (by decide +kernel) hown hK hP 0 rfl rfl 0 (by decide) (hN (.fieldLinkNest RX6 160 "SnowpalaceModel$Site" "cells" "[[LSnowpalaceModel$Cell;" RX6) (by decide +kernel)) (fun _ h9 => h9) rfl dX6_age_27 ?_
    have ht28 : tg g5 (pF g5 a0 0) = 29 + 64 * j := hf.1
    refine lv_iload_n hx hb dX6_age_30 rfl (lv_at hl 3 rfl) ?_
    obtain ⟨hP, hf⟩ := o_co (i := j) (q := (pF g5 a0 0)) hM (by omega)
    have ec : ((nI jy) : Int32).toNatClampNeg = jy := nI_clamp (by omega)
    refine rt_aldA (D := (dC, dI)) (t0 := 9) hx hb hK hP rfl (vp_in_nI (by omega) (by decide)) (y := (pF g5 (pF g5 a0 0) jy)) ((congrArg (fun z => if z < 6 then some (pF g5 (pF g5 a0 0) z) else none) ec).trans (if_pos (by omega))) dX6_age_31 ?_
    have ht29 : tg g5 (pF g5 (pF g5 a0 0) jy) = 30 + 64 * (8 * j + jy) := (hf jy (by omega))
    refine lv_iload_n hx hb dX6_age_32 rfl (lv_at hl 2 rfl) ?_
    obtain ⟨hP, hf⟩ := o_cr (i := (8 * j + jy)) (q := (pF g5 (pF g5 a0 0) jy)) hM (by omega)
    refine va_aldq (D := (dC, dI)) hx hb hK hP 0 8 rfl rfl (vp_in_nI (by omega) (by decide)) dX6_age_33 ?_
    have ec : ((nI jx) : Int32).toNatClampNeg = jx := nI_clamp (by omega)
    rw [ec]
    have hq30 := hf jx (by omega)
    rw [hcl]
    have ht31 : tg g5 cl = 31 := hq30 cl hcl
    obtain ⟨u32, u33, u34, u35, u36, hP, hf⟩ := o_ce (i := 0) (q := cl) hM (by omega)
    refine va_getN (D := (dC, dI)) (ci := 8) (v := .int u34) (C := RX4) (T := TX4) (N := 5) hx hb hts (by decide +kernel) hown hK hP 0 rfl rfl 2 (by decide) (hN (.fieldLinkNest RX6 196 "SnowpalaceModel$Cell" "age" "I" RX6) (by decide +kernel)) (fun _ h9 => h9) rfl dX6_age_34 ?_
    refine W.widen (k := 0) (n := 0) (Nat.le_of_ble_eq_true rfl) (Nat.le_of_ble_eq_true rfl) ?_
    exact W.iret (v := u34) hx hb hr (fun t ht hW => ⟨⟨u34, g5, rfl, hx6, CX.give hb0 hM hK hG hE hS ht hW⟩, hS.F ht⟩) hS.2.2 dX6_age_37
  · skip
    have hv37 := vr1 (nc01 hw4.2) c8
    refine lv_iconst (v := 0) hx hb dX6_age_10 (by decide) ?_
    refine lv_goto (tgt := 37) hx hb dX6_age_11 (by decide) ?_
    refine W.widen (k := 0) (n := 0) (Nat.le_of_ble_eq_true rfl) (Nat.le_of_ble_eq_true rfl) ?_
    exact W.iret (v := 0) hx hb hr (fun t ht hW => ⟨⟨0, g5, rfl, hx6, CX.give hb0 hM hK hG hE hS ht hW⟩, hS.F ht⟩) hS.2.2 dX6_age_37

set_option maxHeartbeats 4000000 in
set_option maxRecDepth 100000 in
theorem rmf_isArch (l : Launch) (dC : Nat → ClassId) (dI : Nat → Nat → Nat) (kA : Nat → ClassId) (eD b : Nat) (g : Gh) (o : Nat) (site : Int32) (x : Int32) (y : Int32) (hto : tg g o = 17)  : Met l yX6_isArch wsX6_isArch ({ frames := 4, cells := 0, slots := 0, locals := 91 }) (va_Pc [.ref o, .int site, .int x, .int y] (CX (dC, dI) kA eD b g)) (va_Qi (fun (r : Int32) (u : Gh) => Ext o X0 g u) (fun (u : Gh) t => CX (dC, dI) kA eD b u t) (fun q => b ≤ q)) 0 0 (fun q => b ≤ q) := by
  refine Met.ofW (cc := cX6_isArch) (maxL := 4) (ret := (some .boolean)) (by decide +kernel) rfl ?_
  intro p e s m args below meth c s₁ B hml hv
  obtain ⟨rfl, hb0, hM, hK, hG, hE⟩ := hv
  have hx := B.exec
  have hb := B.bytes
  have hr := B.returns
  have hts := atoms_spec (ws := wsX6_isArch) B.pre
  have hown : s.vm.findClass RX6 = some m.cls := findClass_of_methodNamed B.named
  have hlocks := B.notSynchronized
  have hT := hE.1
  have hN := hE.2.2.2.2.2.2.2.1
  have hS : va_S (fun q => b ≤ q) s.heap s.heap [] := va_S.rf
  have hl := lv_entry ([.ref o, .int site, .int x, .int y]) (n := 4) (Nat.le_of_ble_eq_true rfl)
  rw [lg_entry_eq]
  generalize (lg_sl ([.ref o, .int site, .int x, .int y]) ++ List.replicate (4 - (lg_sl ([.ref o, .int site, .int x, .int y])).length) Slot.unset).toArray = ls at hl ⊢
  have hl : lv_has ls 4 [(0, .ref o), (1, .int site), (2, .int x), (3, .int y)] := hl
  generalize ([.ref o, .int site, .int x, .int y] : List Value).toArray = args at hts ⊢
  refine lv_aload_n hx hb dX6_isArch_0 rfl (lv_at hl 0 rfl) ?_
  refine lv_iload_n hx hb dX6_isArch_1 rfl (lv_at hl 1 rfl) ?_
  refine lv_iload_n hx hb dX6_isArch_2 rfl (lv_at hl 2 rfl) ?_
  refine lv_iload_n hx hb dX6_isArch_3 rfl (lv_at hl 3 rfl) ?_
  obtain ⟨u1, u2, hP, hf⟩ := o_mo (i := 0) (q := o) hM (by omega)
  refine va_calli (va_runV (As := [.int site, .int x, .int y]) (rest := []) ⟨hx, hb, hml, hown, hts⟩ (rm_isNoCell l dC dI kA eD b g o site x y (by omega)) (cwV 3 hts gX6_isArch_X6_isNoCell rfl rfl rfl (by decide +kernel) ⟨Nat.le_of_ble_eq_true rfl, Nat.le_of_ble_eq_true rfl⟩) ⟨fb_CX, va_recv hK hP (ci := 10) (q0 := 0) rfl rfl, fun U hU hW => ⟨rfl, CX.give hb0 hM hK hG hE hS hU hW⟩⟩ rfl rfl hl.1 rfl (lv_room (Nat.le_of_ble_eq_true rfl)) dX6_isArch_4 ⟨(Nat.le_of_ble_eq_true rfl), (Nat.le_of_ble_eq_true rfl)⟩) hS (fun q _ h => h) (fun q h => h) (fun r3 g5 t H locs ht hvm hw4 hB hz1 hk1 hS => ?_)
  have hM := hB.back ht
  have hG := hB.2.2.2.1
  have hx6 : Ext o X0 g g5 := hw4.1
  have ht7 : tg g5 o = 17 := hx6.tk hto (by omega)
  refine lv_if_ne (tgt := 35) hx hb dX6_isArch_7 (by decide) (fun c8 => ?_) (fun c8 => ?_)
  · skip
    have hv9 := vr1 (nc01 hw4.2) c8
    refine lv_iconst (v := 0) hx hb dX6_isArch_35 (by decide) ?_
    refine W.widen (k := 0) (n := 0) (Nat.le_of_ble_eq_true rfl) (Nat.le_of_ble_eq_true rfl) ?_
    exact W.zret (v := 0) (ty := .boolean) hx hb hr rfl (fun t ht hW => ⟨⟨0, g5, rfl, hx6, CX.give hb0 hM hK hG hE hS ht hW⟩, hS.F ht⟩) hS.2.2 dX6_isArch_36
  · skip
    have hv10 := vr0 (nc01 hw4.2) c8
    obtain ⟨j, a0, jx, jy, cl, rfl, rfl, rfl, hjx, hjy, hjs, hta, hga, hcl⟩ := hv10
    have hl : lv_has ls 4 [(0, .ref o), (1, .int (nI j)), (2, .int (nI jx)), (3, .int (nI jy))] := hl
    have hfm := (mo_list hM ht7).1
    have hls := (mo_list hM ht7).2
    have ej : (nI j).toInt = (j : Int) := nI_toInt (by omega)
    refine lv_aload_n hx hb dX6_isArch_10 rfl (lv_at hl 0 rfl) ?_
    obtain ⟨u11, u12, hP, hf⟩ := o_mo (i := 0) (q := o) hM (by omega)
    refine va_get (D := (dC, dI)) (ci := 10) (v := .ref (pF g5 o 5)) (C := RX6) (T := TX6) (N := 11) hx hb hts (by decide +kernel) hown hK hP 0 rfl rfl 10 (by decide) (hts (.fieldLink RX6 34 "SnowpalaceModel" "sites" "Ljava/util/List;") (by decide +kernel)) (fun _ h9 => h9) rfl dX6_isArch_11 ?_
    refine lv_iload_n hx hb dX6_isArch_14 rfl (lv_at hl 1 rfl) ?_
    obtain ⟨hP, hf⟩ := o_al (i := 0) (q := (pF g5 o 5)) hM (by omega)
    refine va_callFr (va_runF (hK.1 3 _ rfl).2 (As := [.int (nI j)]) (rest := []) ⟨hx, hb, hml, hown, hts⟩ (rj_get l dC dI kA eD b g5 (pF g5 o 5) j (by omega) hjs) (va_cwF 1 hts gX6_isArch_Jx4a65c_get_915e3_f149Jx4a65c rfl rfl rfl hE.2.2.2.2.1 (by decide +kernel) ⟨Nat.le_of_ble_eq_true rfl, Nat.le_of_ble_eq_true rfl⟩) ⟨fb_CX, va_recv hK hP (ci := 3) (q0 := 0) rfl rfl, fun U hU hW => ⟨rfl, CX.give hb0 hM hK hG hE hS hU hW⟩⟩ rfl rfl hl.1 rfl (lv_room (Nat.le_of_ble_eq_true rfl)) dX6_isArch_15 ⟨(Nat.le_of_ble_eq_true rfl), (Nat.le_of_ble_eq_true rfl)⟩) hS (fun q _ h => h) (fun q h => h) (fun u r13 t H locs ht hvm hw14 hB hz1 hk1 hS => ?_)
    have hM := hB.1.back ht
    have hG := hB.1.2.2.2.1
    have ht15 : tg g5 r13 = 28 + 64 * j := hB.2.1
    have hg16 : pO g5 (pF g5 (pF g5 o 5) 0) j = some r13 := hB.2.2
    obtain rfl : a0 = r13 := Option.some.inj (hga.symm.trans hg16)
    obtain ⟨u17, u18, u19, u20, u21, u22, hP, hf⟩ := o_ms (i := j) (q := a0) hM (by omega)
    refine va_castY hx hb hown (hts (.classLink RX6 125 "SnowpalaceModel$Site") (by decide +kernel)) hE.2.2.2.2.2.2.1 (va_recv hK hP (ci := 9) (q0 := 0) rfl rfl) dX6_isArch_20 ?_
    refine lv_iload_n hx hb dX6_isArch_23 rfl (lv_at hl 2 rfl) ?_
    refine lv_iload_n hx hb dX6_isArch_24 rfl (lv_at hl 3 rfl) ?_
    obtain ⟨u23, u24, u25, u26, u27, u28, hP, hf⟩ := o_ms (i := j) (q := a0) hM (by omega)
    refine va_calli (va_runV (As := [.int (nI jx), .int (nI jy)]) (rest := []) ⟨hx, hb, hml, hown, hts⟩ (rm_isArch l dC dI kA eD b g5 a0 j jx jy (by omega) (by omega) (by omega)) (cwV 2 hts gX6_isArch_X5_isArch rfl rfl rfl (by decide +kernel) ⟨Nat.le_of_ble_eq_true rfl, Nat.le_of_ble_eq_true rfl⟩) ⟨fb_CX, va_recv hK hP (ci := 9) (q0 := 0) rfl rfl, fun U hU hW => ⟨rfl, CX.give hb0 hM hK hG hE hS hU hW⟩⟩ rfl rfl hl.1 rfl (lv_room (Nat.le_of_ble_eq_true rfl)) dX6_isArch_25 ⟨(Nat.le_of_ble_eq_true rfl), (Nat.le_of_ble_eq_true rfl)⟩) hS (fun q _ h => h) (fun q h => h) (fun r29 u t H locs ht hvm hw30 hB hz1 hk1 hS => ?_)
    have hM := hB.back ht
    have hG := hB.2.2.2.1
    refine lv_if_eq (tgt := 35) hx hb dX6_isArch_28 (by decide) (fun c31 => ?_) (fun c31 => ?_)
    · skip
      refine lv_iconst (v := 0) hx hb dX6_isArch_35 (by decide) ?_
      refine W.widen (k := 0) (n := 0) (Nat.le_of_ble_eq_true rfl) (Nat.le_of_ble_eq_true rfl) ?_
      exact W.zret (v := 0) (ty := .boolean) hx hb hr rfl (fun t ht hW => ⟨⟨0, g5, rfl, hx6, CX.give hb0 hM hK hG hE hS ht hW⟩, hS.F ht⟩) hS.2.2 dX6_isArch_36
    · skip
      obtain ⟨-, hr1, hr2⟩ := hw30.resolve_left c31
      refine lv_iconst (v := 1) hx hb dX6_isArch_31 (by decide) ?_
      refine lv_goto (tgt := 36) hx hb dX6_isArch_32 (by decide) ?_
      refine W.widen (k := 0) (n := 0) (Nat.le_of_ble_eq_true rfl) (Nat.le_of_ble_eq_true rfl) ?_
      exact W.zret (v := 1) (ty := .boolean) hx hb hr rfl (fun t ht hW => ⟨⟨1, g5, rfl, hx6, CX.give hb0 hM hK hG hE hS ht hW⟩, hS.F ht⟩) hS.2.2 dX6_isArch_36

set_option maxHeartbeats 4000000 in
set_option maxRecDepth 100000 in
theorem rmf_bears (l : Launch) (dC : Nat → ClassId) (dI : Nat → Nat → Nat) (kA : Nat → ClassId) (eD b : Nat) (g : Gh) (o : Nat) (fi : Int32) (hto : tg g o = 17)  : Met l yX6_bears wsX6_bears ({ frames := 2, cells := 0, slots := 0, locals := 46 }) (va_Pc [.ref o, .int fi] (CX (dC, dI) kA eD b g)) (va_Qi (fun (r : Int32) (u : Gh) => Ext o X0 g u) (fun (u : Gh) t => CX (dC, dI) kA eD b u t) (fun q => b ≤ q)) 0 0 (fun q => b ≤ q) := by
  refine Met.ofW (cc := cX6_bears) (maxL := 2) (ret := (some .boolean)) (by decide +kernel) rfl ?_
  intro p e s m args below meth c s₁ B hml hv
  obtain ⟨rfl, hb0, hM, hK, hG, hE⟩ := hv
  have hx := B.exec
  have hb := B.bytes
  have hr := B.returns
  have hts := atoms_spec (ws := wsX6_bears) B.pre
  have hown : s.vm.findClass RX6 = some m.cls := findClass_of_methodNamed B.named
  have hlocks := B.notSynchronized
  have hT := hE.1
  have hN := hE.2.2.2.2.2.2.2.1
  have hS : va_S (fun q => b ≤ q) s.heap s.heap [] := va_S.rf
  have hl := lv_entry ([.ref o, .int fi]) (n := 2) (Nat.le_of_ble_eq_true rfl)
  rw [lg_entry_eq]
  generalize (lg_sl ([.ref o, .int fi]) ++ List.replicate (2 - (lg_sl ([.ref o, .int fi])).length) Slot.unset).toArray = ls at hl ⊢
  have hl : lv_has ls 2 [(0, .ref o), (1, .int fi)] := hl
  generalize ([.ref o, .int fi] : List Value).toArray = args at hts ⊢
  refine lv_aload_n hx hb dX6_bears_0 rfl (lv_at hl 0 rfl) ?_
  refine lv_iload_n hx hb dX6_bears_1 rfl (lv_at hl 1 rfl) ?_
  obtain ⟨u1, u2, hP, hf⟩ := o_mo (i := 0) (q := o) hM (by omega)
  refine va_calli (va_runV (As := [.int fi]) (rest := []) ⟨hx, hb, hml, hown, hts⟩ (rm_isNoField l dC dI kA eD b g o fi (by omega)) (cwV 1 hts gX6_bears_X6_isNoField rfl rfl rfl (by decide +kernel) ⟨Nat.le_of_ble_eq_true rfl, Nat.le_of_ble_eq_true rfl⟩) ⟨fb_CX, va_recv hK hP (ci := 10) (q0 := 0) rfl rfl, fun U hU hW => ⟨rfl, CX.give hb0 hM hK hG hE hS hU hW⟩⟩ rfl rfl hl.1 rfl (lv_room (Nat.le_of_ble_eq_true rfl)) dX6_bears_2 ⟨(Nat.le_of_ble_eq_true rfl), (Nat.le_of_ble_eq_true rfl)⟩) hS (fun q _ h => h) (fun q h => h) (fun r3 g5 t H locs ht hvm hw4 hB hz1 hk1 hS => ?_)
  have hM := hB.back ht
  have hG := hB.2.2.2.1
  have hx6 : Ext o X0 g g5 := hw4.1
  have ht7 : tg g5 o = 17 := hx6.tk hto (by omega)
  have hth8 := hw4.2.1
  refine lv_if_ne (tgt := 20) hx hb dX6_bears_5 (by decide) (fun c9 => ?_) (fun c9 => ?_)
  · skip
    have hv10 := vr1 (vr01 hw4.2.2) c9
    refine lv_iconst (v := 0) hx hb dX6_bears_20 (by decide) ?_
    refine W.widen (k := 0) (n := 0) (Nat.le_of_ble_eq_true rfl) (Nat.le_of_ble_eq_true rfl) ?_
    exact W.zret (v := 0) (ty := .boolean) hx hb hr rfl (fun t ht hW => ⟨⟨0, g5, rfl, hx6, CX.give hb0 hM hK hG hE hS ht hW⟩, hS.F ht⟩) hS.2.2 dX6_bears_21
  · skip
    have hv11 := vr0 (vr01 hw4.2.2) c9
    obtain ⟨j, hj, rfl⟩ := toN (p := fi) (k := 3) (by omega) (by omega) (by decide)
    have hl : lv_has ls 2 [(0, .ref o), (1, .int (nI j))] := hl
    have ej : (nI j).toInt = (j : Int) := nI_toInt (by omega)
    refine lv_aload_n hx hb dX6_bears_8 rfl (lv_at hl 0 rfl) ?_
    refine lv_iload_n hx hb dX6_bears_9 rfl (lv_at hl 1 rfl) ?_
    obtain ⟨u12, u13, hP, hf⟩ := o_mo (i := 0) (q := o) hM (by omega)
    refine va_calli (va_runV (As := [.int (nI j)]) (rest := []) ⟨hx, hb, hml, hown, hts⟩ (rm_hasRoad l dC dI kA eD b g5 o j (by omega) (by omega)) (cwV 1 hts gX6_bears_X6_hasRoad rfl rfl rfl (by decide +kernel) ⟨Nat.le_of_ble_eq_true rfl, Nat.le_of_ble_eq_true rfl⟩) ⟨fb_CX, va_recv hK hP (ci := 10) (q0 := 0) rfl rfl, fun U hU hW => ⟨rfl, CX.give hb0 hM hK hG hE hS hU hW⟩⟩ rfl rfl hl.1 rfl (lv_room (Nat.le_of_ble_eq_true rfl)) dX6_bears_10 ⟨(Nat.le_of_ble_eq_true rfl), (Nat.le_of_ble_eq_true rfl)⟩) hS (fun q _ h => h) (fun q h => h) (fun r14 u t H locs ht hvm hw15 hB hz1 hk1 hS => ?_)
    have hM := hB.back ht
    have hG := hB.2.2.2.1
    refine lv_if_eq (tgt := 20) hx hb dX6_bears_13 (by decide) (fun c16 => ?_) (fun c16 => ?_)
    · skip
      refine lv_iconst (v := 0) hx hb dX6_bears_20 (by decide) ?_
      refine W.widen (k := 0) (n := 0) (Nat.le_of_ble_eq_true rfl) (Nat.le_of_ble_eq_true rfl) ?_
      exact W.zret (v := 0) (ty := .boolean) hx hb hr rfl (fun t ht hW => ⟨⟨0, g5, rfl, hx6, CX.give hb0 hM hK hG hE hS ht hW⟩, hS.F ht⟩) hS.2.2 dX6_bears_21
    · skip
      refine lv_iconst (v := 1) hx hb dX6_bears_16 (by decide) ?_
      refine lv_goto (tgt := 21) hx hb dX6_bears_17 (by decide) ?_
      refine W.widen (k := 0) (n := 0) (Nat.le_of_ble_eq_true rfl) (Nat.le_of_ble_eq_true rfl) ?_
      exact W.zret (v := 1) (ty := .boolean) hx hb hr rfl (fun t ht hW => ⟨⟨1, g5, rfl, hx6, CX.give hb0 hM hK hG hE hS ht hW⟩, hS.F ht⟩) hS.2.2 dX6_bears_21

set_option maxHeartbeats 4000000 in
set_option maxRecDepth 100000 in
theorem rmf_cut (l : Launch) (dC : Nat → ClassId) (dI : Nat → Nat → Nat) (kA : Nat → ClassId) (eD b : Nat) (g : Gh) (o : Nat) (fi : Int32) (ma : Int32) (hto : tg g o = 17)  : Met l yX6_cut wsX6_cut ({ frames := 2, cells := 0, slots := 0, locals := 46 }) (va_Pc [.ref o, .int fi, .int ma] (CX (dC, dI) kA eD b g)) (va_Qi (fun (r : Int32) (u : Gh) => Ext o X0 g u) (fun (u : Gh) t => CX (dC, dI) kA eD b u t) (fun q => b ≤ q)) 0 0 (fun q => b ≤ q) := by
  refine Met.ofW (cc := cX6_cut) (maxL := 3) (ret := (some .int)) (by decide +kernel) rfl ?_
  intro p e s m args below meth c s₁ B hml hv
  obtain ⟨rfl, hb0, hM, hK, hG, hE⟩ := hv
  have hx := B.exec
  have hb := B.bytes
  have hr := B.returns
  have hts := atoms_spec (ws := wsX6_cut) B.pre
  have hown : s.vm.findClass RX6 = some m.cls := findClass_of_methodNamed B.named
  have hlocks := B.notSynchronized
  have hT := hE.1
  have hN := hE.2.2.2.2.2.2.2.1
  have hS : va_S (fun q => b ≤ q) s.heap s.heap [] := va_S.rf
  have hl := lv_entry ([.ref o, .int fi, .int ma]) (n := 3) (Nat.le_of_ble_eq_true rfl)
  rw [lg_entry_eq]
  generalize (lg_sl ([.ref o, .int fi, .int ma]) ++ List.replicate (3 - (lg_sl ([.ref o, .int fi, .int ma])).length) Slot.unset).toArray = ls at hl ⊢
  have hl : lv_has ls 3 [(0, .ref o), (1, .int fi), (2, .int ma)] := hl
  generalize ([.ref o, .int fi, .int ma] : List Value).toArray = args at hts ⊢
  refine lv_aload_n hx hb dX6_cut_0 rfl (lv_at hl 0 rfl) ?_
  refine lv_iload_n hx hb dX6_cut_1 rfl (lv_at hl 1 rfl) ?_
  obtain ⟨u1, u2, hP, hf⟩ := o_mo (i := 0) (q := o) hM (by omega)
  refine va_calli (va_runV (As := [.int fi]) (rest := []) ⟨hx, hb, hml, hown, hts⟩ (rm_isNoField l dC dI kA eD b g o fi (by omega)) (cwV 1 hts gX6_cut_X6_isNoField rfl rfl rfl (by decide +kernel) ⟨Nat.le_of_ble_eq_true rfl, Nat.le_of_ble_eq_true rfl⟩) ⟨fb_CX, va_recv hK hP (ci := 10) (q0 := 0) rfl rfl, fun U hU hW => ⟨rfl, CX.give hb0 hM hK hG hE hS hU hW⟩⟩ rfl rfl hl.1 rfl (lv_room (Nat.le_of_ble_eq_true rfl)) dX6_cut_2 ⟨(Nat.le_of_ble_eq_true rfl), (Nat.le_of_ble_eq_true rfl)⟩) hS (fun q _ h => h) (fun q h => h) (fun r3 g5 t H locs ht hvm hw4 hB hz1 hk1 hS => ?_)
  have hM := hB.back ht
  have hG := hB.2.2.2.1
  have hx6 : Ext o X0 g g5 := hw4.1
  have ht7 : tg g5 o = 17 := hx6.tk hto (by omega)
  have hth8 := hw4.2.1
  refine lv_if_ne (tgt := 91) hx hb dX6_cut_5 (by decide) (fun c9 => ?_) (fun c9 => ?_)
  · skip
    have hv10 := vr1 (vr01 hw4.2.2) c9
    refine lv_iconst (v := 0) hx hb dX6_cut_91 (by decide) ?_
    refine W.widen (k := 0) (n := 0) (Nat.le_of_ble_eq_true rfl) (Nat.le_of_ble_eq_true rfl) ?_
    exact W.iret (v := 0) hx hb hr (fun t ht hW => ⟨⟨0, g5, rfl, hx6, CX.give hb0 hM hK hG hE hS ht hW⟩, hS.F ht⟩) hS.2.2 dX6_cut_92
  · skip
    have hv11 := vr0 (vr01 hw4.2.2) c9
    obtain ⟨j, hj, rfl⟩ := toN (p := fi) (k := 3) (by omega) (by omega) (by decide)
    have hl : lv_has ls 3 [(0, .ref o), (1, .int (nI j)), (2, .int ma)] := hl
    have ej : (nI j).toInt = (j : Int) := nI_toInt (by omega)
    refine lv_aload_n hx hb dX6_cut_8 rfl (lv_at hl 0 rfl) ?_
    refine lv_iload_n hx hb dX6_cut_9 rfl (lv_at hl 2 rfl) ?_
    refine lv_i2l hx hb dX6_cut_10 rfl ?_
    refine lv_lconst (v := 1) hx hb dX6_cut_11 (by decide) ?_
    refine lv_ldc2 hx hb hown (hts (.constantLong RX6 44 20) (by decide +kernel)) dX6_cut_12 ?_
    refine va_calli (va_runS (As := [.long ma.toInt64, .long 1, .long 20]) (rest := [.ref o]) ⟨hx, hb, hml, hown, hts⟩ (rm_isBetween l ma.toInt64 1 20 ((ma : Int32).toInt) (1) (20) (Int32.toInt_toInt64 _) (by decide) (by decide)) (va_cwS 3 hts gX6_cut_X6_isBetween rfl rfl rfl (by decide +kernel) ⟨Nat.le_of_ble_eq_true rfl, Nat.le_of_ble_eq_true rfl⟩) ⟨fun a U g mk q => q, fun U hU hW => ⟨rfl, trivial⟩⟩ rfl rfl hl.1 rfl (lv_room (Nat.le_of_ble_eq_true rfl)) dX6_cut_15 ⟨(Nat.le_of_ble_eq_true rfl), (Nat.le_of_ble_eq_true rfl)⟩) hS (fun q _ h => h.elim) (fun q h => h.elim) (fun r12 u t H locs ht hvm hw13 hB hz1 hk1 hS => ?_)
    have hM := hM.keep (fun p hp => hk1 p hp (fun z => z))
    have hw13 : r12 = bI ((1 : Int) ≤ (ma : Int32).toInt ∧ (ma : Int32).toInt ≤ (20 : Int)) := hw13
    refine lv_if_ne (tgt := 25) hx hb dX6_cut_18 (by decide) (fun c14 => ?_) (fun c14 => ?_)
    · skip
      have g15 : (1 : Int) ≤ (ma : Int32).toInt ∧ (ma : Int32).toInt ≤ (20 : Int) := bI_t hw13 c14
      have zg15 : r12 = 1 := bI_t1 hw13 g15
      refine lv_aload_n hx hb dX6_cut_25 rfl (lv_at hl 0 rfl) ?_
      obtain ⟨u16, u17, hP, hf⟩ := o_mo (i := 0) (q := o) hM (by omega)
      refine va_get (D := (dC, dI)) (ci := 10) (v := .ref (pF g5 o 1)) (C := RX6) (T := TX6) (N := 11) hx hb hts (by decide +kernel) hown hK hP 0 rfl rfl 4 (by decide) (hts (.fieldLink RX6 19 "SnowpalaceModel" "ice" "[I") (by decide +kernel)) (fun _ h9 => h9) rfl dX6_cut_26 ?_
      have ht18 : tg g5 (pF g5 o 1) = 19 := hf.2.1
      refine lv_iload_n hx hb dX6_cut_29 rfl (lv_at hl 1 rfl) ?_
      obtain ⟨u19, hP, hf⟩ := o_ic (i := 0) (q := (pF g5 o 1)) hM (by omega)
      refine va_iald (D := (dC, dI)) hx hb hK hP 0 0 rfl rfl (vp_in_nI (by omega) (by decide)) dX6_cut_30 ?_
      refine lv_topi (fun v20 e21 => ?_)
      have ec : ((nI j) : Int32).toNatClampNeg = j := nI_clamp (by omega)
      rw [ec] at e21
      have hu22 := hf j (by omega)
      rw [← e21] at hu22
      refine lv_sipush (v := 300) hx hb dX6_cut_31 (by decide) ?_
      refine lv_icmp_lt (tgt := 55) hx hb dX6_cut_34 (by decide) (fun c23 => ?_) (fun c23 => ?_)
      · skip
        have i24 := (Int32.lt_iff_toInt_lt).mp c23
        have ii24 : (300 : Int32).toInt = 300 := by decide
        have i24 := i24
        refine lv_iconst (v := 2) hx hb dX6_cut_55 (by decide) ?_
        refine lv_goto (tgt := 85) hx hb dX6_cut_56 (by decide) ?_
        obtain ⟨u25, u26, hP, hf⟩ := o_mo (i := 0) (q := o) hM (by omega)
        refine va_calli (va_runV (As := [.int 2]) (rest := []) ⟨hx, hb, hml, hown, hts⟩ (rm_isWrong l dC dI kA eD b g5 o 2 (by omega)) (cwV 1 hts gX6_cut_X6_isWrong rfl rfl rfl (by decide +kernel) ⟨Nat.le_of_ble_eq_true rfl, Nat.le_of_ble_eq_true rfl⟩) ⟨fb_CX, va_recv hK hP (ci := 10) (q0 := 0) rfl rfl, fun U hU hW => ⟨rfl, CX.give hb0 hM hK hG hE hS hU hW⟩⟩ rfl rfl hl.1 rfl (lv_room (Nat.le_of_ble_eq_true rfl)) dX6_cut_85 ⟨(Nat.le_of_ble_eq_true rfl), (Nat.le_of_ble_eq_true rfl)⟩) hS (fun q _ h => h) (fun q h => h) (fun r27 g29 t H locs ht hvm hw28 hB hz1 hk1 hS => ?_)
        have hM := hB.back ht
        have hG := hB.2.2.2.1
        have hx30 : Ext o X0 g5 g29 := hw28.1
        have ht31 : tg g29 o = 17 := hx30.tk ht7 (by omega)
        have ht32 : tg g29 (pF g5 o 1) = 19 := hx30.tk ht18 (by omega)
        obtain rfl : r27 = 1 := hw28.2.2.trans (by decide)
        have hth33 : pI g29 o 2 = 2 := by rw [hw28.2.1]; exact sI_at
        refine lv_if_eq (tgt := 93) hx hb dX6_cut_88 (by decide) (fun cx => by first | exact absurd cx (by decide) | exact absurd (by decide) cx) (fun _ => ?_)
        refine lv_iconst (v := 0) hx hb dX6_cut_91 (by decide) ?_
        refine W.widen (k := 0) (n := 0) (Nat.le_of_ble_eq_true rfl) (Nat.le_of_ble_eq_true rfl) ?_
        exact W.iret (v := 0) hx hb hr (fun t ht hW => ⟨⟨0, g29, rfl, (hx6.trans hx30), CX.give hb0 hM hK hG hE hS ht hW⟩, hS.F ht⟩) hS.2.2 dX6_cut_92
      · skip
        have i34 := fun z => c23 ((Int32.lt_iff_toInt_lt).mpr z)
        have ii34 : (300 : Int32).toInt = 300 := by decide
        have i34 : ¬ ((v20 : Int32).toInt < (300 : Int32).toInt) := i34
        refine lv_aload_n hx hb dX6_cut_37 rfl (lv_at hl 0 rfl) ?_
        obtain ⟨u35, u36, hP, hf⟩ := o_mo (i := 0) (q := o) hM (by omega)
        refine va_get (D := (dC, dI)) (ci := 10) (v := .ref (pF g5 o 3)) (C := RX6) (T := TX6) (N := 11) hx hb hts (by decide +kernel) hown hK hP 0 rfl rfl 6 (by decide) (hts (.fieldLink RX6 25 "SnowpalaceModel" "left" "[I") (by decide +kernel)) (fun _ h9 => h9) rfl dX6_cut_38 ?_
        have ht37 : tg g5 (pF g5 o 3) = 24 := hf.2.2.2.1
        refine lv_iload_n hx hb dX6_cut_41 rfl (lv_at hl 1 rfl) ?_
        obtain ⟨u38, hP, hf⟩ := o_fl (i := 0) (q := (pF g5 o 3)) hM (by omega)
        refine va_iald (D := (dC, dI)) hx hb hK hP 0 0 rfl rfl (vp_in_nI (by omega) (by decide)) dX6_cut_42 ?_
        refine lv_topi (fun v39 e40 => ?_)
        have ec : ((nI j) : Int32).toNatClampNeg = j := nI_clamp (by omega)
        rw [ec] at e40
        refine lv_iload_n hx hb dX6_cut_43 rfl (lv_at hl 2 rfl) ?_
        refine lv_icmp_lt (tgt := 55) hx hb dX6_cut_44 (by decide) (fun c41 => ?_) (fun c41 => ?_)
        · skip
          have i42 := (Int32.lt_iff_toInt_lt).mp c41
          have i42 := i42
          refine lv_iconst (v := 2) hx hb dX6_cut_55 (by decide) ?_
          refine lv_goto (tgt := 85) hx hb dX6_cut_56 (by decide) ?_
          obtain ⟨u43, u44, hP, hf⟩ := o_mo (i := 0) (q := o) hM (by omega)
          refine va_calli (va_runV (As := [.int 2]) (rest := []) ⟨hx, hb, hml, hown, hts⟩ (rm_isWrong l dC dI kA eD b g5 o 2 (by omega)) (cwV 1 hts gX6_cut_X6_isWrong rfl rfl rfl (by decide +kernel) ⟨Nat.le_of_ble_eq_true rfl, Nat.le_of_ble_eq_true rfl⟩) ⟨fb_CX, va_recv hK hP (ci := 10) (q0 := 0) rfl rfl, fun U hU hW => ⟨rfl, CX.give hb0 hM hK hG hE hS hU hW⟩⟩ rfl rfl hl.1 rfl (lv_room (Nat.le_of_ble_eq_true rfl)) dX6_cut_85 ⟨(Nat.le_of_ble_eq_true rfl), (Nat.le_of_ble_eq_true rfl)⟩) hS (fun q _ h => h) (fun q h => h) (fun r45 g47 t H locs ht hvm hw46 hB hz1 hk1 hS => ?_)
          have hM := hB.back ht
          have hG := hB.2.2.2.1
          have hx48 : Ext o X0 g5 g47 := hw46.1
          have ht49 : tg g47 o = 17 := hx48.tk ht7 (by omega)
          have ht50 : tg g47 (pF g5 o 1) = 19 := hx48.tk ht18 (by omega)
          have ht51 : tg g47 (pF g5 o 3) = 24 := hx48.tk ht37 (by omega)
          obtain rfl : r45 = 1 := hw46.2.2.trans (by decide)
          have hth52 : pI g47 o 2 = 2 := by rw [hw46.2.1]; exact sI_at
          refine lv_if_eq (tgt := 93) hx hb dX6_cut_88 (by decide) (fun cx => by first | exact absurd cx (by decide) | exact absurd (by decide) cx) (fun _ => ?_)
          refine lv_iconst (v := 0) hx hb dX6_cut_91 (by decide) ?_
          refine W.widen (k := 0) (n := 0) (Nat.le_of_ble_eq_true rfl) (Nat.le_of_ble_eq_true rfl) ?_
          exact W.iret (v := 0) hx hb hr (fun t ht hW => ⟨⟨0, g47, rfl, (hx6.trans hx48), CX.give hb0 hM hK hG hE hS ht hW⟩, hS.F ht⟩) hS.2.2 dX6_cut_92
        · skip
          have i53 := fun z => c41 ((Int32.lt_iff_toInt_lt).mpr z)
          have i53 : ¬ ((v39 : Int32).toInt < (ma : Int32).toInt) := i53
          refine lv_aload_n hx hb dX6_cut_47 rfl (lv_at hl 0 rfl) ?_
          refine lv_iload_n hx hb dX6_cut_48 rfl (lv_at hl 1 rfl) ?_
          obtain ⟨u54, u55, hP, hf⟩ := o_mo (i := 0) (q := o) hM (by omega)
          refine va_calli (va_runV (As := [.int (nI j)]) (rest := [.ref o]) ⟨hx, hb, hml, hown, hts⟩ (rm_hasRoad l dC dI kA eD b g5 o j (by omega) (by omega)) (cwV 1 hts gX6_cut_X6_hasRoad rfl rfl rfl (by decide +kernel) ⟨Nat.le_of_ble_eq_true rfl, Nat.le_of_ble_eq_true rfl⟩) ⟨fb_CX, va_recv hK hP (ci := 10) (q0 := 0) rfl rfl, fun U hU hW => ⟨rfl, CX.give hb0 hM hK hG hE hS hU hW⟩⟩ rfl rfl hl.1 rfl (lv_room (Nat.le_of_ble_eq_true rfl)) dX6_cut_49 ⟨(Nat.le_of_ble_eq_true rfl), (Nat.le_of_ble_eq_true rfl)⟩) hS (fun q _ h => h) (fun q h => h) (fun r56 u t H locs ht hvm hw57 hB hz1 hk1 hS => ?_)
          have hM := hB.back ht
          have hG := hB.2.2.2.1
          refine lv_if_ne (tgt := 59) hx hb dX6_cut_52 (by decide) (fun c58 => ?_) (fun c58 => ?_)
          · skip
            refine lv_aload_n hx hb dX6_cut_59 rfl (lv_at hl 0 rfl) ?_
            obtain ⟨u59, u60, hP, hf⟩ := o_mo (i := 0) (q := o) hM (by omega)
            refine va_get (D := (dC, dI)) (ci := 10) (v := .ref (pF g5 o 4)) (C := RX6) (T := TX6) (N := 11) hx hb hts (by decide +kernel) hown hK hP 0 rfl rfl 7 (by decide) (hts (.fieldLink RX6 28 "SnowpalaceModel" "yard" "[I") (by decide +kernel)) (fun _ h9 => h9) rfl dX6_cut_60 ?_
            have ht61 : tg g5 (pF g5 o 4) = 25 := hf.2.2.2.2.1
            refine lv_iconst (v := 0) hx hb dX6_cut_63 (by decide) ?_
            obtain ⟨u62, hP, hf⟩ := o_ya (i := 0) (q := (pF g5 o 4)) hM (by omega)
            refine va_iald (D := (dC, dI)) hx hb hK hP 0 0 rfl rfl (by unfold vp_in; decide) dX6_cut_64 ?_
            refine lv_topi (fun v63 e64 => ?_)
            have ec : (0 : Int32).toNatClampNeg = 0 := by decide
            rw [ec] at e64
            refine lv_aload_n hx hb dX6_cut_65 rfl (lv_at hl 0 rfl) ?_
            obtain ⟨u65, u66, hP, hf⟩ := o_mo (i := 0) (q := o) hM (by omega)
            refine va_get (D := (dC, dI)) (ci := 10) (v := .ref (pF g5 o 4)) (C := RX6) (T := TX6) (N := 11) hx hb hts (by decide +kernel) hown hK hP 0 rfl rfl 7 (by decide) (hts (.fieldLink RX6 28 "SnowpalaceModel" "yard" "[I") (by decide +kernel)) (fun _ h9 => h9) rfl dX6_cut_66 ?_
            refine lv_iconst (v := 1) hx hb dX6_cut_69 (by decide) ?_
            obtain ⟨u67, hP, hf⟩ := o_ya (i := 0) (q := (pF g5 o 4)) hM (by omega)
            refine va_iald (D := (dC, dI)) hx hb hK hP 0 0 rfl rfl (by unfold vp_in; decide) dX6_cut_70 ?_
            refine lv_topi (fun v68 e69 => ?_)
            have ec : (1 : Int32).toNatClampNeg = 1 := by decide
            rw [ec] at e69
            refine lv_iadd hx hb dX6_cut_71 ?_
            refine lv_topi (fun v70 e71 => ?_)
            refine lv_iload_n hx hb dX6_cut_72 rfl (lv_at hl 2 rfl) ?_
            refine lv_iadd hx hb dX6_cut_73 ?_
            refine lv_topi (fun v72 e73 => ?_)
            refine lv_sipush (v := 200) hx hb dX6_cut_74 (by decide) ?_
            refine lv_icmp_le (tgt := 84) hx hb dX6_cut_77 (by decide) (fun c74 => ?_) (fun c74 => ?_)
            · skip
              have i75 := (Int32.le_iff_toInt_le).mp c74
              have ii75 : (200 : Int32).toInt = 200 := by decide
              have i75 := i75
              refine lv_iconst (v := 0) hx hb dX6_cut_84 (by decide) ?_
              obtain ⟨u76, u77, hP, hf⟩ := o_mo (i := 0) (q := o) hM (by omega)
              refine va_calli (va_runV (As := [.int 0]) (rest := []) ⟨hx, hb, hml, hown, hts⟩ (rm_isWrong l dC dI kA eD b g5 o 0 (by omega)) (cwV 1 hts gX6_cut_X6_isWrong rfl rfl rfl (by decide +kernel) ⟨Nat.le_of_ble_eq_true rfl, Nat.le_of_ble_eq_true rfl⟩) ⟨fb_CX, va_recv hK hP (ci := 10) (q0 := 0) rfl rfl, fun U hU hW => ⟨rfl, CX.give hb0 hM hK hG hE hS hU hW⟩⟩ rfl rfl hl.1 rfl (lv_room (Nat.le_of_ble_eq_true rfl)) dX6_cut_85 ⟨(Nat.le_of_ble_eq_true rfl), (Nat.le_of_ble_eq_true rfl)⟩) hS (fun q _ h => h) (fun q h => h) (fun r78 g80 t H locs ht hvm hw79 hB hz1 hk1 hS => ?_)
              have hM := hB.back ht
              have hG := hB.2.2.2.1
              have hx81 : Ext o X0 g5 g80 := hw79.1
              have ht82 : tg g80 o = 17 := hx81.tk ht7 (by omega)
              have ht83 : tg g80 (pF g5 o 1) = 19 := hx81.tk ht18 (by omega)
              have ht84 : tg g80 (pF g5 o 3) = 24 := hx81.tk ht37 (by omega)
              have ht85 : tg g80 (pF g5 o 4) = 25 := hx81.tk ht61 (by omega)
              obtain rfl : r78 = 0 := hw79.2.2.trans (by decide)
              have hth86 : pI g80 o 2 = 0 := by rw [hw79.2.1]; exact sI_at
              refine lv_if_eq (tgt := 93) hx hb dX6_cut_88 (by decide) (fun _ => ?_) (fun cx => by first | exact absurd (by decide) cx | exact absurd cx (by decide))
              refine lv_aload_n hx hb dX6_cut_93 rfl (lv_at hl 0 rfl) ?_
              obtain ⟨u87, u88, hP, hf⟩ := o_mo (i := 0) (q := o) hM (by omega)
              refine va_get (D := (dC, dI)) (ci := 10) (v := .ref (pF g80 o 3)) (C := RX6) (T := TX6) (N := 11) hx hb hts (by decide +kernel) hown hK hP 0 rfl rfl 6 (by decide) (hts (.fieldLink RX6 25 "SnowpalaceModel" "left" "[I") (by decide +kernel)) (fun _ h9 => h9) rfl dX6_cut_94 ?_
              have ht89 : tg g80 (pF g80 o 3) = 24 := hf.2.2.2.1
              refine lv_iload_n hx hb dX6_cut_97 rfl (lv_at hl 1 rfl) ?_
              refine lv_dup2_11 hx hb dX6_cut_98 rfl rfl ?_
              obtain ⟨u90, hP, hf⟩ := o_fl (i := 0) (q := (pF g80 o 3)) hM (by omega)
              refine va_iald (D := (dC, dI)) hx hb hK hP 0 0 rfl rfl (vp_in_nI (by omega) (by decide)) dX6_cut_99 ?_
              refine lv_topi (fun v91 e92 => ?_)
              have ec : ((nI j) : Int32).toNatClampNeg = j := nI_clamp (by omega)
              rw [ec] at e92
              refine lv_iload_n hx hb dX6_cut_100 rfl (lv_at hl 2 rfl) ?_
              refine lv_isub hx hb dX6_cut_101 ?_
              refine lv_topi (fun v93 e94 => ?_)
              obtain ⟨u95, hP, hf⟩ := o_fl (i := 0) (q := (pF g80 o 3)) hM (by omega)
              refine rt_iast (D := (dC, dI)) (t0 := 0) hx hb hK hP (hM.ge (by omega)) hS rfl (vp_in_nI (by omega) (by decide)) dX6_cut_102 (fun H locs hP hz ho hS => ?_)
              have ec : ((nI j) : Int32).toNatClampNeg = j := nI_clamp (by omega)
              rw [ec] at hP
              have hM := s_fl (i := 0) hM (by omega) hP ho hf
              refine lv_aload_n hx hb dX6_cut_103 rfl (lv_at hl 0 rfl) ?_
              obtain ⟨u96, u97, hP, hf⟩ := o_mo (i := 0) (q := o) hM (by omega)
              refine va_get (D := (dC, dI)) (ci := 10) (v := .ref (pF g80 o 4)) (C := RX6) (T := TX6) (N := 11) hx hb hts (by decide +kernel) hown hK hP 0 rfl rfl 7 (by decide) (hts (.fieldLink RX6 28 "SnowpalaceModel" "yard" "[I") (by decide +kernel)) (fun _ h9 => h9) rfl dX6_cut_104 ?_
              have ht98 : tg g80 (pF g80 o 4) = 25 := hf.2.2.2.2.1
              refine lv_iconst (v := 3) hx hb dX6_cut_107 (by decide) ?_
              refine lv_aload_n hx hb dX6_cut_108 rfl (lv_at hl 0 rfl) ?_
              obtain ⟨u99, u100, hP, hf⟩ := o_mo (i := 0) (q := o) hM (by omega)
              refine va_get (D := (dC, dI)) (ci := 10) (v := .ref (pF g80 o 2)) (C := RX6) (T := TX6) (N := 11) hx hb hts (by decide +kernel) hown hK hP 0 rfl rfl 5 (by decide) (hts (.fieldLink RX6 22 "SnowpalaceModel" "clear" "[I") (by decide +kernel)) (fun _ h9 => h9) rfl dX6_cut_109 ?_
              have ht101 : tg g80 (pF g80 o 2) = 24 := hf.2.2.1
              refine lv_iload_n hx hb dX6_cut_112 rfl (lv_at hl 1 rfl) ?_
              obtain ⟨u102, hP, hf⟩ := o_fl (i := 0) (q := (pF g80 o 2)) hM (by omega)
              refine va_iald (D := (dC, dI)) hx hb hK hP 0 0 rfl rfl (vp_in_nI (by omega) (by decide)) dX6_cut_113 ?_
              refine lv_topi (fun v103 e104 => ?_)
              have ec : ((nI j) : Int32).toNatClampNeg = j := nI_clamp (by omega)
              rw [ec] at e104
              refine lv_imul hx hb dX6_cut_114 ?_
              refine lv_topi (fun v105 e106 => ?_)
              refine lv_iconst (v := 2) hx hb dX6_cut_115 (by decide) ?_
              refine lv_aload_n hx hb dX6_cut_116 rfl (lv_at hl 0 rfl) ?_
              obtain ⟨u107, u108, hP, hf⟩ := o_mo (i := 0) (q := o) hM (by omega)
              refine va_get (D := (dC, dI)) (ci := 10) (v := .ref (pF g80 o 1)) (C := RX6) (T := TX6) (N := 11) hx hb hts (by decide +kernel) hown hK hP 0 rfl rfl 4 (by decide) (hts (.fieldLink RX6 19 "SnowpalaceModel" "ice" "[I") (by decide +kernel)) (fun _ h9 => h9) rfl dX6_cut_117 ?_
              have ht109 : tg g80 (pF g80 o 1) = 19 := hf.2.1
              refine lv_iload_n hx hb dX6_cut_120 rfl (lv_at hl 1 rfl) ?_
              obtain ⟨u110, hP, hf⟩ := o_ic (i := 0) (q := (pF g80 o 1)) hM (by omega)
              refine va_iald (D := (dC, dI)) hx hb hK hP 0 0 rfl rfl (vp_in_nI (by omega) (by decide)) dX6_cut_121 ?_
              refine lv_topi (fun v111 e112 => ?_)
              have ec : ((nI j) : Int32).toNatClampNeg = j := nI_clamp (by omega)
              rw [ec] at e112
              have hu113 := hf j (by omega)
              rw [← e112] at hu113
              refine lv_imul hx hb dX6_cut_122 ?_
              refine lv_topi (fun v114 e115 => ?_)
              refine lv_icmp_lt (tgt := 130) hx hb dX6_cut_123 (by decide) (fun c116 => ?_) (fun c116 => ?_)
              · skip
                have i117 := (Int32.lt_iff_toInt_lt).mp c116
                have i117 := i117
                refine lv_iconst (v := 0) hx hb dX6_cut_130 (by decide) ?_
                refine lv_dup2_11 hx hb dX6_cut_131 rfl rfl ?_
                obtain ⟨u118, hP, hf⟩ := o_ya (i := 0) (q := (pF g80 o 4)) hM (by omega)
                refine va_iald (D := (dC, dI)) hx hb hK hP 0 0 rfl rfl (by unfold vp_in; decide) dX6_cut_132 ?_
                refine lv_topi (fun v119 e120 => ?_)
                have ec : (0 : Int32).toNatClampNeg = 0 := by decide
                rw [ec] at e120
                refine lv_iload_n hx hb dX6_cut_133 rfl (lv_at hl 2 rfl) ?_
                refine lv_iadd hx hb dX6_cut_134 ?_
                refine lv_topi (fun v121 e122 => ?_)
                obtain ⟨u123, hP, hf⟩ := o_ya (i := 0) (q := (pF g80 o 4)) hM (by omega)
                refine rt_iast (D := (dC, dI)) (t0 := 0) hx hb hK hP (hM.ge (by omega)) hS rfl (by unfold vp_in; decide) dX6_cut_135 (fun H locs hP hz ho hS => ?_)
                have ec : (0 : Int32).toNatClampNeg = 0 := by decide
                rw [ec] at hP
                have hM := s_ya (i := 0) hM (by omega) hP ho hf
                refine lv_aload_n hx hb dX6_cut_136 rfl (lv_at hl 0 rfl) ?_
                refine lv_dup hx hb dX6_cut_137 rfl ?_
                obtain ⟨u124, u125, hP, hf⟩ := o_mo (i := 0) (q := o) hM (by omega)
                refine va_get (D := (dC, dI)) (ci := 10) (v := .int u124) (C := RX6) (T := TX6) (N := 11) hx hb hts (by decide +kernel) hown hK hP 0 rfl rfl 3 (by decide) (hts (.fieldLink RX6 100 "SnowpalaceModel" "money" "I") (by decide +kernel)) (fun _ h9 => h9) rfl dX6_cut_138 ?_
                refine lv_bipush (v := 20) hx hb dX6_cut_141 (by decide) ?_
                refine lv_iload_n hx hb dX6_cut_143 rfl (lv_at hl 2 rfl) ?_
                refine lv_imul hx hb dX6_cut_144 ?_
                refine lv_topi (fun v126 e127 => ?_)
                refine lv_isub hx hb dX6_cut_145 ?_
                refine lv_topi (fun v128 e129 => ?_)
                obtain ⟨u130, u131, hP, hf⟩ := o_mo (i := 0) (q := o) hM (by omega)
                refine rt_put (D := (dC, dI)) (ci := 10) (v := .int v128) (ty := .int) (C := RX6) (T := TX6) (N := 11) hx hb hts (by decide +kernel) tyX6 tyX6_ok nmX6 hown hK hP (hM.ge (by omega)) hS rfl 3 (by decide) (hts (.fieldLink RX6 100 "SnowpalaceModel" "money" "I") (by decide +kernel)) (fun _ h9 => h9) rfl (by decide +kernel) rfl rfl (Nat.le_of_ble_eq_true rfl) dX6_cut_146 (fun H locs hP hz ho hS => ?_)
                have hM := s_mo (i := 0) hM (by omega) hP ho hf
                refine lv_aload_n hx hb dX6_cut_149 rfl (lv_at hl 0 rfl) ?_
                obtain ⟨u132, u133, hP, hf⟩ := o_mo (i := 0) (q := o) hM (by omega)
                refine va_get (D := (dC, dI)) (ci := 10) (v := .ref (pF g80 o 3)) (C := RX6) (T := TX6) (N := 11) hx hb hts (by decide +kernel) hown hK hP 0 rfl rfl 6 (by decide) (hts (.fieldLink RX6 25 "SnowpalaceModel" "left" "[I") (by decide +kernel)) (fun _ h9 => h9) rfl dX6_cut_150 ?_
                refine lv_iload_n hx hb dX6_cut_153 rfl (lv_at hl 1 rfl) ?_
                obtain ⟨u134, hP, hf⟩ := o_fl (i := 0) (q := (pF g80 o 3)) hM (by omega)
                refine va_iald (D := (dC, dI)) hx hb hK hP 0 0 rfl rfl (vp_in_nI (by omega) (by decide)) dX6_cut_154 ?_
                refine lv_topi (fun v135 e136 => ?_)
                have ec : ((nI j) : Int32).toNatClampNeg = j := nI_clamp (by omega)
                rw [ec] at e136
                refine W.widen (k := 0) (n := 0) (Nat.le_of_ble_eq_true rfl) (Nat.le_of_ble_eq_true rfl) ?_
                exact W.iret (v := v135) hx hb hr (fun t ht hW => ⟨⟨v135, g80, rfl, (hx6.trans hx81), CX.give hb0 hM hK hG hE hS ht hW⟩, hS.F ht⟩) hS.2.2 dX6_cut_155
              · skip
                have i137 := fun z => c116 ((Int32.lt_iff_toInt_lt).mpr z)
                have i137 : ¬ ((v105 : Int32).toInt < (v114 : Int32).toInt) := i137
                refine lv_iconst (v := 1) hx hb dX6_cut_126 (by decide) ?_
                refine lv_goto (tgt := 131) hx hb dX6_cut_127 (by decide) ?_
                refine lv_dup2_11 hx hb dX6_cut_131 rfl rfl ?_
                obtain ⟨u138, hP, hf⟩ := o_ya (i := 0) (q := (pF g80 o 4)) hM (by omega)
                refine va_iald (D := (dC, dI)) hx hb hK hP 0 0 rfl rfl (by unfold vp_in; decide) dX6_cut_132 ?_
                refine lv_topi (fun v139 e140 => ?_)
                have ec : (1 : Int32).toNatClampNeg = 1 := by decide
                rw [ec] at e140
                refine lv_iload_n hx hb dX6_cut_133 rfl (lv_at hl 2 rfl) ?_
                refine lv_iadd hx hb dX6_cut_134 ?_
                refine lv_topi (fun v141 e142 => ?_)
                obtain ⟨u143, hP, hf⟩ := o_ya (i := 0) (q := (pF g80 o 4)) hM (by omega)
                refine rt_iast (D := (dC, dI)) (t0 := 0) hx hb hK hP (hM.ge (by omega)) hS rfl (by unfold vp_in; decide) dX6_cut_135 (fun H locs hP hz ho hS => ?_)
                have ec : (1 : Int32).toNatClampNeg = 1 := by decide
                rw [ec] at hP
                have hM := s_ya (i := 0) hM (by omega) hP ho hf
                refine lv_aload_n hx hb dX6_cut_136 rfl (lv_at hl 0 rfl) ?_
                refine lv_dup hx hb dX6_cut_137 rfl ?_
                obtain ⟨u144, u145, hP, hf⟩ := o_mo (i := 0) (q := o) hM (by omega)
                refine va_get (D := (dC, dI)) (ci := 10) (v := .int u144) (C := RX6) (T := TX6) (N := 11) hx hb hts (by decide +kernel) hown hK hP 0 rfl rfl 3 (by decide) (hts (.fieldLink RX6 100 "SnowpalaceModel" "money" "I") (by decide +kernel)) (fun _ h9 => h9) rfl dX6_cut_138 ?_
                refine lv_bipush (v := 20) hx hb dX6_cut_141 (by decide) ?_
                refine lv_iload_n hx hb dX6_cut_143 rfl (lv_at hl 2 rfl) ?_
                refine lv_imul hx hb dX6_cut_144 ?_
                refine lv_topi (fun v146 e147 => ?_)
                refine lv_isub hx hb dX6_cut_145 ?_
                refine lv_topi (fun v148 e149 => ?_)
                obtain ⟨u150, u151, hP, hf⟩ := o_mo (i := 0) (q := o) hM (by omega)
                refine rt_put (D := (dC, dI)) (ci := 10) (v := .int v148) (ty := .int) (C := RX6) (T := TX6) (N := 11) hx hb hts (by decide +kernel) tyX6 tyX6_ok nmX6 hown hK hP (hM.ge (by omega)) hS rfl 3 (by decide) (hts (.fieldLink RX6 100 "SnowpalaceModel" "money" "I") (by decide +kernel)) (fun _ h9 => h9) rfl (by decide +kernel) rfl rfl (Nat.le_of_ble_eq_true rfl) dX6_cut_146 (fun H locs hP hz ho hS => ?_)
                have hM := s_mo (i := 0) hM (by omega) hP ho hf
                refine lv_aload_n hx hb dX6_cut_149 rfl (lv_at hl 0 rfl) ?_
                obtain ⟨u152, u153, hP, hf⟩ := o_mo (i := 0) (q := o) hM (by omega)
                refine va_get (D := (dC, dI)) (ci := 10) (v := .ref (pF g80 o 3)) (C := RX6) (T := TX6) (N := 11) hx hb hts (by decide +kernel) hown hK hP 0 rfl rfl 6 (by decide) (hts (.fieldLink RX6 25 "SnowpalaceModel" "left" "[I") (by decide +kernel)) (fun _ h9 => h9) rfl dX6_cut_150 ?_
                refine lv_iload_n hx hb dX6_cut_153 rfl (lv_at hl 1 rfl) ?_
                obtain ⟨u154, hP, hf⟩ := o_fl (i := 0) (q := (pF g80 o 3)) hM (by omega)
                refine va_iald (D := (dC, dI)) hx hb hK hP 0 0 rfl rfl (vp_in_nI (by omega) (by decide)) dX6_cut_154 ?_
                refine lv_topi (fun v155 e156 => ?_)
                have ec : ((nI j) : Int32).toNatClampNeg = j := nI_clamp (by omega)
                rw [ec] at e156
                refine W.widen (k := 0) (n := 0) (Nat.le_of_ble_eq_true rfl) (Nat.le_of_ble_eq_true rfl) ?_
                exact W.iret (v := v155) hx hb hr (fun t ht hW => ⟨⟨v155, g80, rfl, (hx6.trans hx81), CX.give hb0 hM hK hG hE hS ht hW⟩, hS.F ht⟩) hS.2.2 dX6_cut_155
            · skip
              have i157 := fun z => c74 ((Int32.le_iff_toInt_le).mpr z)
              have ii157 : (200 : Int32).toInt = 200 := by decide
              have i157 : ¬ ((v72 : Int32).toInt ≤ (200 : Int32).toInt) := i157
              refine lv_iconst (v := 3) hx hb dX6_cut_80 (by decide) ?_
              refine lv_goto (tgt := 85) hx hb dX6_cut_81 (by decide) ?_
              obtain ⟨u158, u159, hP, hf⟩ := o_mo (i := 0) (q := o) hM (by omega)
              refine va_calli (va_runV (As := [.int 3]) (rest := []) ⟨hx, hb, hml, hown, hts⟩ (rm_isWrong l dC dI kA eD b g5 o 3 (by omega)) (cwV 1 hts gX6_cut_X6_isWrong rfl rfl rfl (by decide +kernel) ⟨Nat.le_of_ble_eq_true rfl, Nat.le_of_ble_eq_true rfl⟩) ⟨fb_CX, va_recv hK hP (ci := 10) (q0 := 0) rfl rfl, fun U hU hW => ⟨rfl, CX.give hb0 hM hK hG hE hS hU hW⟩⟩ rfl rfl hl.1 rfl (lv_room (Nat.le_of_ble_eq_true rfl)) dX6_cut_85 ⟨(Nat.le_of_ble_eq_true rfl), (Nat.le_of_ble_eq_true rfl)⟩) hS (fun q _ h => h) (fun q h => h) (fun r160 g162 t H locs ht hvm hw161 hB hz1 hk1 hS => ?_)
              have hM := hB.back ht
              have hG := hB.2.2.2.1
              have hx163 : Ext o X0 g5 g162 := hw161.1
              have ht164 : tg g162 o = 17 := hx163.tk ht7 (by omega)
              have ht165 : tg g162 (pF g5 o 1) = 19 := hx163.tk ht18 (by omega)
              have ht166 : tg g162 (pF g5 o 3) = 24 := hx163.tk ht37 (by omega)
              have ht167 : tg g162 (pF g5 o 4) = 25 := hx163.tk ht61 (by omega)
              obtain rfl : r160 = 1 := hw161.2.2.trans (by decide)
              have hth168 : pI g162 o 2 = 3 := by rw [hw161.2.1]; exact sI_at
              refine lv_if_eq (tgt := 93) hx hb dX6_cut_88 (by decide) (fun cx => by first | exact absurd cx (by decide) | exact absurd (by decide) cx) (fun _ => ?_)
              refine lv_iconst (v := 0) hx hb dX6_cut_91 (by decide) ?_
              refine W.widen (k := 0) (n := 0) (Nat.le_of_ble_eq_true rfl) (Nat.le_of_ble_eq_true rfl) ?_
              exact W.iret (v := 0) hx hb hr (fun t ht hW => ⟨⟨0, g162, rfl, (hx6.trans hx163), CX.give hb0 hM hK hG hE hS ht hW⟩, hS.F ht⟩) hS.2.2 dX6_cut_92
          · skip
            refine lv_iconst (v := 2) hx hb dX6_cut_55 (by decide) ?_
            refine lv_goto (tgt := 85) hx hb dX6_cut_56 (by decide) ?_
            obtain ⟨u169, u170, hP, hf⟩ := o_mo (i := 0) (q := o) hM (by omega)
            refine va_calli (va_runV (As := [.int 2]) (rest := []) ⟨hx, hb, hml, hown, hts⟩ (rm_isWrong l dC dI kA eD b g5 o 2 (by omega)) (cwV 1 hts gX6_cut_X6_isWrong rfl rfl rfl (by decide +kernel) ⟨Nat.le_of_ble_eq_true rfl, Nat.le_of_ble_eq_true rfl⟩) ⟨fb_CX, va_recv hK hP (ci := 10) (q0 := 0) rfl rfl, fun U hU hW => ⟨rfl, CX.give hb0 hM hK hG hE hS hU hW⟩⟩ rfl rfl hl.1 rfl (lv_room (Nat.le_of_ble_eq_true rfl)) dX6_cut_85 ⟨(Nat.le_of_ble_eq_true rfl), (Nat.le_of_ble_eq_true rfl)⟩) hS (fun q _ h => h) (fun q h => h) (fun r171 g173 t H locs ht hvm hw172 hB hz1 hk1 hS => ?_)
            have hM := hB.back ht
            have hG := hB.2.2.2.1
            have hx174 : Ext o X0 g5 g173 := hw172.1
            have ht175 : tg g173 o = 17 := hx174.tk ht7 (by omega)
            have ht176 : tg g173 (pF g5 o 1) = 19 := hx174.tk ht18 (by omega)
            have ht177 : tg g173 (pF g5 o 3) = 24 := hx174.tk ht37 (by omega)
            obtain rfl : r171 = 1 := hw172.2.2.trans (by decide)
            have hth178 : pI g173 o 2 = 2 := by rw [hw172.2.1]; exact sI_at
            refine lv_if_eq (tgt := 93) hx hb dX6_cut_88 (by decide) (fun cx => by first | exact absurd cx (by decide) | exact absurd (by decide) cx) (fun _ => ?_)
            refine lv_iconst (v := 0) hx hb dX6_cut_91 (by decide) ?_
            refine W.widen (k := 0) (n := 0) (Nat.le_of_ble_eq_true rfl) (Nat.le_of_ble_eq_true rfl) ?_
            exact W.iret (v := 0) hx hb hr (fun t ht hW => ⟨⟨0, g173, rfl, (hx6.trans hx174), CX.give hb0 hM hK hG hE hS ht hW⟩, hS.F ht⟩) hS.2.2 dX6_cut_92
    · skip
      have g179 : ¬ ((1 : Int) ≤ (ma : Int32).toInt ∧ (ma : Int32).toInt ≤ (20 : Int)) := bI_f hw13 c14
      have zg179 : r12 = 0 := bI_f0 hw13 g179
      refine lv_iconst (v := 1) hx hb dX6_cut_21 (by decide) ?_
      refine lv_goto (tgt := 85) hx hb dX6_cut_22 (by decide) ?_
      obtain ⟨u180, u181, hP, hf⟩ := o_mo (i := 0) (q := o) hM (by omega)
      refine va_calli (va_runV (As := [.int 1]) (rest := []) ⟨hx, hb, hml, hown, hts⟩ (rm_isWrong l dC dI kA eD b g5 o 1 (by omega)) (cwV 1 hts gX6_cut_X6_isWrong rfl rfl rfl (by decide +kernel) ⟨Nat.le_of_ble_eq_true rfl, Nat.le_of_ble_eq_true rfl⟩) ⟨fb_CX, va_recv hK hP (ci := 10) (q0 := 0) rfl rfl, fun U hU hW => ⟨rfl, CX.give hb0 hM hK hG hE hS hU hW⟩⟩ rfl rfl hl.1 rfl (lv_room (Nat.le_of_ble_eq_true rfl)) dX6_cut_85 ⟨(Nat.le_of_ble_eq_true rfl), (Nat.le_of_ble_eq_true rfl)⟩) hS (fun q _ h => h) (fun q h => h) (fun r182 g184 t H locs ht hvm hw183 hB hz1 hk1 hS => ?_)
      have hM := hB.back ht
      have hG := hB.2.2.2.1
      have hx185 : Ext o X0 g5 g184 := hw183.1
      have ht186 : tg g184 o = 17 := hx185.tk ht7 (by omega)
      obtain rfl : r182 = 1 := hw183.2.2.trans (by decide)
      have hth187 : pI g184 o 2 = 1 := by rw [hw183.2.1]; exact sI_at
      refine lv_if_eq (tgt := 93) hx hb dX6_cut_88 (by decide) (fun cx => by first | exact absurd cx (by decide) | exact absurd (by decide) cx) (fun _ => ?_)
      refine lv_iconst (v := 0) hx hb dX6_cut_91 (by decide) ?_
      refine W.widen (k := 0) (n := 0) (Nat.le_of_ble_eq_true rfl) (Nat.le_of_ble_eq_true rfl) ?_
      exact W.iret (v := 0) hx hb hr (fun t ht hW => ⟨⟨0, g184, rfl, (hx6.trans hx185), CX.give hb0 hM hK hG hE hS ht hW⟩, hS.F ht⟩) hS.2.2 dX6_cut_92

set_option maxHeartbeats 4000000 in
set_option maxRecDepth 100000 in
theorem rmf_at (l : Launch) (dC : Nat → ClassId) (dI : Nat → Nat → Nat) (kA : Nat → ClassId) (eD b : Nat) (g : Gh) (o : Nat) (site : Int32) (x : Int32) (y : Int32) (hto : tg g o = 17)  : Met l yX6_at wsX6_at ({ frames := 3, cells := 0, slots := 0, locals := 64 }) (va_Pc [.ref o, .int site, .int x, .int y] (CX (dC, dI) kA eD b g)) (va_Qi (fun (r : Int32) (u : Gh) => Ext o X0 g u) (fun (u : Gh) t => CX (dC, dI) kA eD b u t) (fun q => b ≤ q)) 0 0 (fun q => b ≤ q) := by
  refine Met.ofW (cc := cX6_at) (maxL := 4) (ret := (some .char)) (by decide +kernel) rfl ?_
  intro p e s m args below meth c s₁ B hml hv
  obtain ⟨rfl, hb0, hM, hK, hG, hE⟩ := hv
  have hx := B.exec
  have hb := B.bytes
  have hr := B.returns
  have hts := atoms_spec (ws := wsX6_at) B.pre
  have hown : s.vm.findClass RX6 = some m.cls := findClass_of_methodNamed B.named
  have hlocks := B.notSynchronized
  have hT := hE.1
  have hN := hE.2.2.2.2.2.2.2.1
  have hS : va_S (fun q => b ≤ q) s.heap s.heap [] := va_S.rf
  have hl := lv_entry ([.ref o, .int site, .int x, .int y]) (n := 4) (Nat.le_of_ble_eq_true rfl)
  rw [lg_entry_eq]
  generalize (lg_sl ([.ref o, .int site, .int x, .int y]) ++ List.replicate (4 - (lg_sl ([.ref o, .int site, .int x, .int y])).length) Slot.unset).toArray = ls at hl ⊢
  have hl : lv_has ls 4 [(0, .ref o), (1, .int site), (2, .int x), (3, .int y)] := hl
  generalize ([.ref o, .int site, .int x, .int y] : List Value).toArray = args at hts ⊢
  refine lv_aload_n hx hb dX6_at_0 rfl (lv_at hl 0 rfl) ?_
  refine lv_iload_n hx hb dX6_at_1 rfl (lv_at hl 1 rfl) ?_
  refine lv_iload_n hx hb dX6_at_2 rfl (lv_at hl 2 rfl) ?_
  refine lv_iload_n hx hb dX6_at_3 rfl (lv_at hl 3 rfl) ?_
  obtain ⟨u1, u2, hP, hf⟩ := o_mo (i := 0) (q := o) hM (by omega)
  refine va_calli (va_runV (As := [.int site, .int x, .int y]) (rest := []) ⟨hx, hb, hml, hown, hts⟩ (rm_isNoPlace l dC dI kA eD b g o site x y (by omega)) (cwV 3 hts gX6_at_X6_isNoPlace rfl rfl rfl (by decide +kernel) ⟨Nat.le_of_ble_eq_true rfl, Nat.le_of_ble_eq_true rfl⟩) ⟨fb_CX, va_recv hK hP (ci := 10) (q0 := 0) rfl rfl, fun U hU hW => ⟨rfl, CX.give hb0 hM hK hG hE hS hU hW⟩⟩ rfl rfl hl.1 rfl (lv_room (Nat.le_of_ble_eq_true rfl)) dX6_at_4 ⟨(Nat.le_of_ble_eq_true rfl), (Nat.le_of_ble_eq_true rfl)⟩) hS (fun q _ h => h) (fun q h => h) (fun r3 g5 t H locs ht hvm hw4 hB hz1 hk1 hS => ?_)
  have hM := hB.back ht
  have hG := hB.2.2.2.1
  have hx6 : Ext o X0 g g5 := hw4.1
  have ht7 : tg g5 o = 17 := hx6.tk hto (by omega)
  have hth8 := hw4.2.1
  refine lv_if_eq (tgt := 14) hx hb dX6_at_7 (by decide) (fun c9 => ?_) (fun c9 => ?_)
  · skip
    have hv10 := vr0 (vr01 hw4.2.2) c9
    have hfm := (mo_list hM ht7).1
    have hls := (mo_list hM ht7).2
    obtain ⟨j, hj, rfl⟩ := toN (p := site) (k := 2) (by omega) (by omega) (by decide)
    have hl : lv_has ls 4 [(0, .ref o), (1, .int (nI j)), (2, .int x), (3, .int y)] := hl
    have ej : (nI j).toInt = (j : Int) := nI_toInt (by omega)
    obtain ⟨jx, hjx, rfl⟩ := toN (p := x) (k := 7) (by omega) (by omega) (by decide)
    have hl : lv_has ls 4 [(0, .ref o), (1, .int (nI j)), (2, .int (nI jx)), (3, .int y)] := hl
    have ejx : (nI jx).toInt = (jx : Int) := nI_toInt (by omega)
    obtain ⟨jy, hjy, rfl⟩ := toN (p := y) (k := 5) (by omega) (by omega) (by decide)
    have hl : lv_has ls 4 [(0, .ref o), (1, .int (nI j)), (2, .int (nI jx)), (3, .int (nI jy))] := hl
    have ejy : (nI jy).toInt = (jy : Int) := nI_toInt (by omega)
    have hjs : (j : Int) < (pI g5 (pF g5 o 5) 0).toInt := by omega
    refine lv_aload_n hx hb dX6_at_14 rfl (lv_at hl 0 rfl) ?_
    obtain ⟨u11, u12, hP, hf⟩ := o_mo (i := 0) (q := o) hM (by omega)
    refine va_get (D := (dC, dI)) (ci := 10) (v := .ref (pF g5 o 5)) (C := RX6) (T := TX6) (N := 11) hx hb hts (by decide +kernel) hown hK hP 0 rfl rfl 10 (by decide) (hts (.fieldLink RX6 34 "SnowpalaceModel" "sites" "Ljava/util/List;") (by decide +kernel)) (fun _ h9 => h9) rfl dX6_at_15 ?_
    refine lv_iload_n hx hb dX6_at_18 rfl (lv_at hl 1 rfl) ?_
    obtain ⟨hP, hf⟩ := o_al (i := 0) (q := (pF g5 o 5)) hM (by omega)
    refine va_callFr (va_runF (hK.1 3 _ rfl).2 (As := [.int (nI j)]) (rest := []) ⟨hx, hb, hml, hown, hts⟩ (rj_get l dC dI kA eD b g5 (pF g5 o 5) j (by omega) hjs) (va_cwF 1 hts gX6_at_Jx4a65c_get_915e3_f149Jx4a65c rfl rfl rfl hE.2.2.2.2.1 (by decide +kernel) ⟨Nat.le_of_ble_eq_true rfl, Nat.le_of_ble_eq_true rfl⟩) ⟨fb_CX, va_recv hK hP (ci := 3) (q0 := 0) rfl rfl, fun U hU hW => ⟨rfl, CX.give hb0 hM hK hG hE hS hU hW⟩⟩ rfl rfl hl.1 rfl (lv_room (Nat.le_of_ble_eq_true rfl)) dX6_at_19 ⟨(Nat.le_of_ble_eq_true rfl), (Nat.le_of_ble_eq_true rfl)⟩) hS (fun q _ h => h) (fun q h => h) (fun u r13 t H locs ht hvm hw14 hB hz1 hk1 hS => ?_)
    have hM := hB.1.back ht
    have hG := hB.1.2.2.2.1
    have ht15 : tg g5 r13 = 28 + 64 * j := hB.2.1
    have hg16 : pO g5 (pF g5 (pF g5 o 5) 0) j = some r13 := hB.2.2
    obtain ⟨u17, u18, u19, u20, u21, u22, hP, hf⟩ := o_ms (i := j) (q := r13) hM (by omega)
    refine va_castY hx hb hown (hts (.classLink RX6 125 "SnowpalaceModel$Site") (by decide +kernel)) hE.2.2.2.2.2.2.1 (va_recv hK hP (ci := 9) (q0 := 0) rfl rfl) dX6_at_24 ?_
    refine lv_iload_n hx hb dX6_at_27 rfl (lv_at hl 2 rfl) ?_
    refine lv_iload_n hx hb dX6_at_28 rfl (lv_at hl 3 rfl) ?_
    obtain ⟨u23, u24, u25, u26, u27, u28, hP, hf⟩ := o_ms (i := j) (q := r13) hM (by omega)
    refine va_calli (va_runV (As := [.int (nI jx), .int (nI jy)]) (rest := []) ⟨hx, hb, hml, hown, hts⟩ (rm_has l dC dI kA eD b g5 r13 j (nI jx) (nI jy) (by omega)) (cwV 2 hts gX6_at_X5_has rfl rfl rfl (by decide +kernel) ⟨Nat.le_of_ble_eq_true rfl, Nat.le_of_ble_eq_true rfl⟩) ⟨fb_CX, va_recv hK hP (ci := 9) (q0 := 0) rfl rfl, fun U hU hW => ⟨rfl, CX.give hb0 hM hK hG hE hS hU hW⟩⟩ rfl rfl hl.1 rfl (lv_room (Nat.le_of_ble_eq_true rfl)) dX6_at_29 ⟨(Nat.le_of_ble_eq_true rfl), (Nat.le_of_ble_eq_true rfl)⟩) hS (fun q _ h => h) (fun q h => h) (fun r29 u t H locs ht hvm hw30 hB hz1 hk1 hS => ?_)
    have hM := hB.back ht
    have hG := hB.2.2.2.1
    refine lv_if_eq (tgt := 61) hx hb dX6_at_32 (by decide) (fun c31 => ?_) (fun c31 => ?_)
    · skip
      refine lv_bipush (v := 46) hx hb dX6_at_61 (by decide) ?_
      refine W.widen (k := 0) (n := 0) (Nat.le_of_ble_eq_true rfl) (Nat.le_of_ble_eq_true rfl) ?_
      exact W.zret (v := 46) (ty := .char) hx hb hr rfl (fun t ht hW => ⟨⟨46, g5, rfl, hx6, CX.give hb0 hM hK hG hE hS ht hW⟩, hS.F ht⟩) hS.2.2 dX6_at_63
    · skip
      obtain ⟨-, jx32, jy33, cl34, hp35, hp36, hj37, hj38, hc39⟩ := hw30.resolve_left c31
      have ej40 : jx32 = jx := ((nI_eq (a := jx) (b := jx32) (by omega) (by omega)).mp hp35).symm
      rw [ej40] at hc39
      have ej41 : jy33 = jy := ((nI_eq (a := jy) (b := jy33) (by omega) (by omega)).mp hp36).symm
      rw [ej41] at hc39
      refine lv_aload_n hx hb dX6_at_35 rfl (lv_at hl 0 rfl) ?_
      obtain ⟨u42, u43, hP, hf⟩ := o_mo (i := 0) (q := o) hM (by omega)
      refine va_get (D := (dC, dI)) (ci := 10) (v := .ref (pF g5 o 5)) (C := RX6) (T := TX6) (N := 11) hx hb hts (by decide +kernel) hown hK hP 0 rfl rfl 10 (by decide) (hts (.fieldLink RX6 34 "SnowpalaceModel" "sites" "Ljava/util/List;") (by decide +kernel)) (fun _ h9 => h9) rfl dX6_at_36 ?_
      refine lv_iload_n hx hb dX6_at_39 rfl (lv_at hl 1 rfl) ?_
      obtain ⟨hP, hf⟩ := o_al (i := 0) (q := (pF g5 o 5)) hM (by omega)
      refine va_callFr (va_runF (hK.1 3 _ rfl).2 (As := [.int (nI j)]) (rest := []) ⟨hx, hb, hml, hown, hts⟩ (rj_get l dC dI kA eD b g5 (pF g5 o 5) j (by omega) hjs) (va_cwF 1 hts gX6_at_Jx4a65c_get_915e3_f149Jx4a65c rfl rfl rfl hE.2.2.2.2.1 (by decide +kernel) ⟨Nat.le_of_ble_eq_true rfl, Nat.le_of_ble_eq_true rfl⟩) ⟨fb_CX, va_recv hK hP (ci := 3) (q0 := 0) rfl rfl, fun U hU hW => ⟨rfl, CX.give hb0 hM hK hG hE hS hU hW⟩⟩ rfl rfl hl.1 rfl (lv_room (Nat.le_of_ble_eq_true rfl)) dX6_at_40 ⟨(Nat.le_of_ble_eq_true rfl), (Nat.le_of_ble_eq_true rfl)⟩) hS (fun q _ h => h) (fun q h => h) (fun u r44 t H locs ht hvm hw45 hB hz1 hk1 hS => ?_)
      have hM := hB.1.back ht
      have hG := hB.1.2.2.2.1
      have ht46 : tg g5 r44 = 28 + 64 * j := hB.2.1
      have hg47 : pO g5 (pF g5 (pF g5 o 5) 0) j = some r44 := hB.2.2
      obtain rfl : r13 = r44 := Option.some.inj (hg16.symm.trans hg47)
      obtain ⟨u48, u49, u50, u51, u52, u53, hP, hf⟩ := o_ms (i := j) (q := r13) hM (by omega)
      refine va_castY hx hb hown (hts (.classLink RX6 125 "SnowpalaceModel$Site") (by decide +kernel)) hE.2.2.2.2.2.2.1 (va_recv hK hP (ci := 9) (q0 := 0) rfl rfl) dX6_at_45 ?_
      obtain ⟨u54, u55, u56, u57, u58, u59, hP, hf⟩ := o_ms (i := j) (q := r13) hM (by omega)
      refine va_getN (D := (dC, dI)) (ci := 9) (v := .ref (pF g5 r13 0)) (C := RX5) (T := TX5) (N := 10) hx hb hts (by decide +kernel) hown hK hP 0 rfl rfl 0 (by decide) (hN (.fieldLinkNest RX6 160 "SnowpalaceModel$Site" "cells" "[[LSnowpalaceModel$Cell;" RX6) (by decide +kernel)) (fun _ h9 => h9) rfl dX6_at_48 ?_
      have ht60 : tg g5 (pF g5 r13 0) = 29 + 64 * j := hf.1
      refine lv_iload_n hx hb dX6_at_51 rfl (lv_at hl 3 rfl) ?_
      obtain ⟨hP, hf⟩ := o_co (i := j) (q := (pF g5 r13 0)) hM (by omega)
      have ec : ((nI jy) : Int32).toNatClampNeg = jy := nI_clamp (by omega)
      refine rt_aldA (D := (dC, dI)) (t0 := 9) hx hb hK hP rfl (vp_in_nI (by omega) (by decide)) (y := (pF g5 (pF g5 r13 0) jy)) ((congrArg (fun z => if z < 6 then some (pF g5 (pF g5 r13 0) z) else none) ec).trans (if_pos (by omega))) dX6_at_52 ?_
      have ht61 : tg g5 (pF g5 (pF g5 r13 0) jy) = 30 + 64 * (8 * j + jy) := (hf jy (by omega))
      refine lv_iload_n hx hb dX6_at_53 rfl (lv_at hl 2 rfl) ?_
      obtain ⟨hP, hf⟩ := o_cr (i := (8 * j + jy)) (q := (pF g5 (pF g5 r13 0) jy)) hM (by omega)
      refine va_aldq (D := (dC, dI)) hx hb hK hP 0 8 rfl rfl (vp_in_nI (by omega) (by decide)) dX6_at_54 ?_
      have ec : ((nI jx) : Int32).toNatClampNeg = jx := nI_clamp (by omega)
      rw [ec]
      have hq62 := hf jx (by omega)
      rw [hc39]
      have ht63 : tg g5 cl34 = 31 := hq62 cl34 hc39
      obtain ⟨u64, u65, u66, u67, u68, hP, hf⟩ := o_ce (i := 0) (q := cl34) hM (by omega)
      refine va_getN (D := (dC, dI)) (ci := 8) (v := .int u64) (C := RX4) (T := TX4) (N := 5) hx hb hts (by decide +kernel) hown hK hP 0 rfl rfl 0 (by decide) (hN (.fieldLinkNest RX6 175 "SnowpalaceModel$Cell" "kind" "C" RX6) (by decide +kernel)) (fun _ h9 => h9) rfl dX6_at_55 ?_
      have hb69 := hf.1
      refine lv_goto (tgt := 63) hx hb dX6_at_58 (by decide) ?_
      refine W.widen (k := 0) (n := 0) (Nat.le_of_ble_eq_true rfl) (Nat.le_of_ble_eq_true rfl) ?_
      exact W.zret (v := u64) (ty := .char) hx hb hr (congrArg Value.int hb69) (fun t ht hW => ⟨⟨u64, g5, rfl, hx6, CX.give hb0 hM hK hG hE hS ht hW⟩, hS.F ht⟩) hS.2.2 dX6_at_63
  · skip
    have hv70 := vr1 (vr01 hw4.2.2) c9
    refine lv_iconst (v := 0) hx hb dX6_at_10 (by decide) ?_
    refine lv_goto (tgt := 63) hx hb dX6_at_11 (by decide) ?_
    refine W.widen (k := 0) (n := 0) (Nat.le_of_ble_eq_true rfl) (Nat.le_of_ble_eq_true rfl) ?_
    exact W.zret (v := 0) (ty := .char) hx hb hr rfl (fun t ht hW => ⟨⟨0, g5, rfl, hx6, CX.give hb0 hM hK hG hE hS ht hW⟩, hS.F ht⟩) hS.2.2 dX6_at_63

set_option maxHeartbeats 4000000 in
set_option maxRecDepth 100000 in
theorem rmf_load (l : Launch) (dC : Nat → ClassId) (dI : Nat → Nat → Nat) (kA : Nat → ClassId) (eD b : Nat) (g : Gh) (o : Nat) (site : Int32) (x : Int32) (y : Int32) (hto : tg g o = 17)  : Met l yX6_load wsX6_load ({ frames := 5, cells := 7, slots := 54, locals := 117 }) (va_Pc [.ref o, .int site, .int x, .int y] (CX (dC, dI) kA eD b g)) (va_Qi (fun (r : Int32) (u : Gh) => Ext o X0 g u) (fun (u : Gh) t => CX (dC, dI) kA eD b u t) (fun q => b ≤ q)) 7 54 (fun q => b ≤ q) := by
  refine Met.ofW (cc := cX6_load) (maxL := 4) (ret := (some .int)) (by decide +kernel) rfl ?_
  intro p e s m args below meth c s₁ B hml hv
  obtain ⟨rfl, hb0, hM, hK, hG, hE⟩ := hv
  have hx := B.exec
  have hb := B.bytes
  have hr := B.returns
  have hts := atoms_spec (ws := wsX6_load) B.pre
  have hown : s.vm.findClass RX6 = some m.cls := findClass_of_methodNamed B.named
  have hlocks := B.notSynchronized
  have hT := hE.1
  have hN := hE.2.2.2.2.2.2.2.1
  have hS : va_S (fun q => b ≤ q) s.heap s.heap [] := va_S.rf
  have hl := lv_entry ([.ref o, .int site, .int x, .int y]) (n := 4) (Nat.le_of_ble_eq_true rfl)
  rw [lg_entry_eq]
  generalize (lg_sl ([.ref o, .int site, .int x, .int y]) ++ List.replicate (4 - (lg_sl ([.ref o, .int site, .int x, .int y])).length) Slot.unset).toArray = ls at hl ⊢
  have hl : lv_has ls 4 [(0, .ref o), (1, .int site), (2, .int x), (3, .int y)] := hl
  generalize ([.ref o, .int site, .int x, .int y] : List Value).toArray = args at hts ⊢
  refine lv_aload_n hx hb dX6_load_0 rfl (lv_at hl 0 rfl) ?_
  refine lv_iload_n hx hb dX6_load_1 rfl (lv_at hl 1 rfl) ?_
  refine lv_iload_n hx hb dX6_load_2 rfl (lv_at hl 2 rfl) ?_
  refine lv_iload_n hx hb dX6_load_3 rfl (lv_at hl 3 rfl) ?_
  obtain ⟨u1, u2, hP, hf⟩ := o_mo (i := 0) (q := o) hM (by omega)
  refine va_calli (va_runV (As := [.int site, .int x, .int y]) (rest := []) ⟨hx, hb, hml, hown, hts⟩ (rm_isNoCell l dC dI kA eD b g o site x y (by omega)) (cwV 3 hts gX6_load_X6_isNoCell rfl rfl rfl (by decide +kernel) ⟨Nat.le_of_ble_eq_true rfl, Nat.le_of_ble_eq_true rfl⟩) ⟨fb_CX, va_recv hK hP (ci := 10) (q0 := 0) rfl rfl, fun U hU hW => ⟨rfl, CX.give hb0 hM hK hG hE hS hU hW⟩⟩ rfl rfl hl.1 rfl (lv_room (Nat.le_of_ble_eq_true rfl)) dX6_load_4 ⟨(Nat.le_of_ble_eq_true rfl), (Nat.le_of_ble_eq_true rfl)⟩) hS (fun q _ h => h) (fun q h => h) (fun r3 g5 t H locs ht hvm hw4 hB hz1 hk1 hS => ?_)
  have hM := hB.back ht
  have hG := hB.2.2.2.1
  have hx6 : Ext o X0 g g5 := hw4.1
  have ht7 : tg g5 o = 17 := hx6.tk hto (by omega)
  refine lv_if_eq (tgt := 14) hx hb dX6_load_7 (by decide) (fun c8 => ?_) (fun c8 => ?_)
  · skip
    have hv9 := vr0 (nc01 hw4.2) c8
    obtain ⟨j, a0, jx, jy, cl, rfl, rfl, rfl, hjx, hjy, hjs, hta, hga, hcl⟩ := hv9
    have hl : lv_has ls 4 [(0, .ref o), (1, .int (nI j)), (2, .int (nI jx)), (3, .int (nI jy))] := hl
    have hfm := (mo_list hM ht7).1
    have hls := (mo_list hM ht7).2
    have ej : (nI j).toInt = (j : Int) := nI_toInt (by omega)
    refine lv_aload_n hx hb dX6_load_14 rfl (lv_at hl 0 rfl) ?_
    obtain ⟨u10, u11, hP, hf⟩ := o_mo (i := 0) (q := o) hM (by omega)
    refine va_get (D := (dC, dI)) (ci := 10) (v := .ref (pF g5 o 5)) (C := RX6) (T := TX6) (N := 11) hx hb hts (by decide +kernel) hown hK hP 0 rfl rfl 10 (by decide) (hts (.fieldLink RX6 34 "SnowpalaceModel" "sites" "Ljava/util/List;") (by decide +kernel)) (fun _ h9 => h9) rfl dX6_load_15 ?_
    refine lv_iload_n hx hb dX6_load_18 rfl (lv_at hl 1 rfl) ?_
    obtain ⟨hP, hf⟩ := o_al (i := 0) (q := (pF g5 o 5)) hM (by omega)
    refine va_callFr (va_runF (hK.1 3 _ rfl).2 (As := [.int (nI j)]) (rest := []) ⟨hx, hb, hml, hown, hts⟩ (rj_get l dC dI kA eD b g5 (pF g5 o 5) j (by omega) hjs) (va_cwF 1 hts gX6_load_Jx4a65c_get_915e3_f149Jx4a65c rfl rfl rfl hE.2.2.2.2.1 (by decide +kernel) ⟨Nat.le_of_ble_eq_true rfl, Nat.le_of_ble_eq_true rfl⟩) ⟨fb_CX, va_recv hK hP (ci := 3) (q0 := 0) rfl rfl, fun U hU hW => ⟨rfl, CX.give hb0 hM hK hG hE hS hU hW⟩⟩ rfl rfl hl.1 rfl (lv_room (Nat.le_of_ble_eq_true rfl)) dX6_load_19 ⟨(Nat.le_of_ble_eq_true rfl), (Nat.le_of_ble_eq_true rfl)⟩) hS (fun q _ h => h) (fun q h => h) (fun u r12 t H locs ht hvm hw13 hB hz1 hk1 hS => ?_)
    have hM := hB.1.back ht
    have hG := hB.1.2.2.2.1
    have ht14 : tg g5 r12 = 28 + 64 * j := hB.2.1
    have hg15 : pO g5 (pF g5 (pF g5 o 5) 0) j = some r12 := hB.2.2
    obtain rfl : a0 = r12 := Option.some.inj (hga.symm.trans hg15)
    obtain ⟨u16, u17, u18, u19, u20, u21, hP, hf⟩ := o_ms (i := j) (q := a0) hM (by omega)
    refine va_castY hx hb hown (hts (.classLink RX6 125 "SnowpalaceModel$Site") (by decide +kernel)) hE.2.2.2.2.2.2.1 (va_recv hK hP (ci := 9) (q0 := 0) rfl rfl) dX6_load_24 ?_
    refine lv_iconst (v := (-1)) hx hb dX6_load_27 (by decide) ?_
    refine lv_iconst (v := 0) hx hb dX6_load_28 (by decide) ?_
    obtain ⟨u22, u23, u24, u25, u26, u27, hP, hf⟩ := o_ms (i := j) (q := a0) hM (by omega)
    refine va_callr (va_runV (As := [.int (-1), .int 0]) (rest := []) ⟨hx, hb, hml, hown, hts⟩ (rm_loads l dC dI kA eD b g5 a0 j o o (-1) 0 (by omega) (by omega) (Or.inr ht7)) (cwV 2 hts gX6_load_X5_loads rfl rfl rfl (by decide +kernel) ⟨Nat.le_of_ble_eq_true rfl, Nat.le_of_ble_eq_true rfl⟩) ⟨fb_CX, va_recv hK hP (ci := 9) (q0 := 0) rfl rfl, fun U hU hW => ⟨rfl, CX.give hb0 hM hK hG hE hS hU hW⟩⟩ rfl rfl hl.1 rfl (lv_room (Nat.le_of_ble_eq_true rfl)) dX6_load_29 ⟨(Nat.le_of_ble_eq_true rfl), (Nat.le_of_ble_eq_true rfl)⟩) hS (fun q _ h => h) (fun q h => h) (fun g30 r28 t H locs ht hvm hw29 hB hz1 hk1 hS => ?_)
    have hM := hB.1.back ht
    have hG := hB.1.2.2.2.1
    have hx31 : Ext o X0 g5 g30 := hw29
    have ht32 : tg g30 o = 17 := hx31.tk ht7 (by omega)
    have ht33 : tg g30 (pF g5 o 5) = 26 := hx31.tk hfm (by omega)
    have ht34 : tg g30 a0 = 28 + 64 * j := hx31.tk hta (by omega)
    have ht35 : tg g30 r28 = 36 := hB.2
    refine lv_iload_n hx hb dX6_load_32 rfl (lv_at hl 3 rfl) ?_
    obtain ⟨hP, hf⟩ := o_lt (i := 0) (q := r28) hM (by omega)
    have ec : ((nI jy) : Int32).toNatClampNeg = jy := nI_clamp (by omega)
    refine rt_aldA (D := (dC, dI)) (t0 := 6) hx hb hK hP rfl (vp_in_nI (by omega) (by decide)) (y := (pF g30 r28 jy)) ((congrArg (fun z => if z < 6 then some (pF g30 r28 z) else none) ec).trans (if_pos (by omega))) dX6_load_33 ?_
    have ht36 : tg g30 (pF g30 r28 jy) = 37 := hf jy (by omega)
    refine lv_iload_n hx hb dX6_load_34 rfl (lv_at hl 2 rfl) ?_
    obtain ⟨u37, hP, hf⟩ := o_lr (i := 0) (q := (pF g30 r28 jy)) hM (by omega)
    refine va_iald (D := (dC, dI)) hx hb hK hP 0 0 rfl rfl (vp_in_nI (by omega) (by decide)) dX6_load_35 ?_
    refine lv_topi (fun v38 e39 => ?_)
    have ec : ((nI jx) : Int32).toNatClampNeg = jx := nI_clamp (by omega)
    rw [ec] at e39
    refine W.widen (k := 7) (n := 54) (Nat.le_of_ble_eq_true rfl) (Nat.le_of_ble_eq_true rfl) ?_
    exact W.iret (v := v38) hx hb hr (fun t ht hW => ⟨⟨v38, g30, rfl, (hx6.trans hx31), CX.give hb0 hM hK hG hE hS ht hW⟩, hS.F ht⟩) hS.2.2 dX6_load_36
  · skip
    have hv40 := vr1 (nc01 hw4.2) c8
    refine lv_iconst (v := 0) hx hb dX6_load_10 (by decide) ?_
    refine lv_goto (tgt := 36) hx hb dX6_load_11 (by decide) ?_
    refine W.widen (k := 7) (n := 54) (Nat.le_of_ble_eq_true rfl) (Nat.le_of_ble_eq_true rfl) ?_
    exact W.iret (v := 0) hx hb hr (fun t ht hW => ⟨⟨0, g5, rfl, hx6, CX.give hb0 hM hK hG hE hS ht hW⟩, hS.F ht⟩) hS.2.2 dX6_load_36
