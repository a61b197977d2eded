set_option maxHeartbeats 4000000 in
set_option maxRecDepth 100000 in
theorem rmf_warmth (l : Launch) (dC : Nat → ClassId) (dI : Nat → Nat → Nat) (kA : Nat → ClassId) (eD b : Nat) (g : Gh) (o : Nat) (hou : Int32) (hto : tg g o = 17)  : Met l yX6_warmth wsX6_warmth ({ frames := 1, cells := 0, slots := 0, locals := 25 }) (va_Pc [.ref o, .int hou] (CX (dC, dI) kA eD b g)) (va_Qi (fun (r : Int32) (u : Gh) => Ext o X0 g u ∧ (((0 ≤ hou.toInt ∧ hou.toInt ≤ 504) ∧ pI u o 2 = 0 ∧ r = wOf (fun d => pI u ((pO u (pF u o 0) d).getD 0) 0) (fun d => pI u ((pO u (pF u o 0) d).getD 0) 1) hou) ∨ (¬ (0 ≤ hou.toInt ∧ hou.toInt ≤ 504) ∧ pI u o 2 = 1))) (fun (u : Gh) t => CX (dC, dI) kA eD b u t) (fun q => b ≤ q)) 0 0 (fun q => b ≤ q) := by
  refine Met.ofW (cc := cX6_warmth) (maxL := 2) (ret := (some .int)) (by decide +kernel) rfl ?_
  intro p e s m args below meth c s₁ B hml hv
  obtain ⟨rfl, hb0, hM, hK, hG, hE⟩ := hv
  have hx := B.exec
  have hb := B.bytes
  have hr := B.returns
  have hts := atoms_spec (ws := wsX6_warmth) B.pre
  have hown : s.vm.findClass RX6 = some m.cls := findClass_of_methodNamed B.named
  have hlocks := B.notSynchronized
  have hT := hE.1
  have hN := hE.2.2.2.2.2.2.2.1
  have hS : va_S (fun q => b ≤ q) s.heap s.heap [] := va_S.rf
  have hl := lv_entry ([.ref o, .int hou]) (n := 2) (Nat.le_of_ble_eq_true rfl)
  rw [lg_entry_eq]
  generalize (lg_sl ([.ref o, .int hou]) ++ List.replicate (2 - (lg_sl ([.ref o, .int hou])).length) Slot.unset).toArray = ls at hl ⊢
  have hl : lv_has ls 2 [(0, .ref o), (1, .int hou)] := hl
  generalize ([.ref o, .int hou] : List Value).toArray = args at hts ⊢
  refine lv_aload_n hx hb dX6_warmth_0 rfl (lv_at hl 0 rfl) ?_
  refine lv_iload_n hx hb dX6_warmth_1 rfl (lv_at hl 1 rfl) ?_
  refine lv_i2l hx hb dX6_warmth_2 rfl ?_
  refine lv_lconst (v := 0) hx hb dX6_warmth_3 (by decide) ?_
  refine lv_ldc2 hx hb hown (hts (.constantLong RX6 65 504) (by decide +kernel)) dX6_warmth_4 ?_
  refine va_calli (va_runS (As := [.long hou.toInt64, .long 0, .long 504]) (rest := [.ref o]) ⟨hx, hb, hml, hown, hts⟩ (rm_isBetween l hou.toInt64 0 504 ((hou : Int32).toInt) (0) (504) (Int32.toInt_toInt64 _) (by decide) (by decide)) (va_cwS 3 hts gX6_warmth_X6_isBetween rfl rfl rfl (by decide +kernel) ⟨Nat.le_of_ble_eq_true rfl, Nat.le_of_ble_eq_true rfl⟩) ⟨fun a U g mk q => q, fun U hU hW => ⟨rfl, trivial⟩⟩ rfl rfl hl.1 rfl (lv_room (Nat.le_of_ble_eq_true rfl)) dX6_warmth_7 ⟨(Nat.le_of_ble_eq_true rfl), (Nat.le_of_ble_eq_true rfl)⟩) hS (fun q _ h => h.elim) (fun q h => h.elim) (fun r1 u t H locs ht hvm hw2 hB hz1 hk1 hS => ?_)
  have hM := hM.keep (fun p hp => hk1 p hp (fun z => z))
  have hw2 : r1 = bI ((0 : Int) ≤ (hou : Int32).toInt ∧ (hou : Int32).toInt ≤ (504 : Int)) := hw2
  refine lv_if_eq (tgt := 17) hx hb dX6_warmth_10 (by decide) (fun c3 => ?_) (fun c3 => ?_)
  · skip
    have g4 : ¬ ((0 : Int) ≤ (hou : Int32).toInt ∧ (hou : Int32).toInt ≤ (504 : Int)) := bI_f hw2 c3
    have zg4 : r1 = 0 := bI_f0 hw2 g4
    refine lv_iconst (v := 1) hx hb dX6_warmth_17 (by decide) ?_
    obtain ⟨u5, u6, hP, hf⟩ := o_mo (i := 0) (q := o) hM (by omega)
    refine va_calli (va_runV (As := [.int 1]) (rest := []) ⟨hx, hb, hml, hown, hts⟩ (rm_isWrong l dC dI kA eD b g o 1 (by omega)) (cwV 1 hts gX6_warmth_X6_isWrong rfl rfl rfl (by decide +kernel) ⟨Nat.le_of_ble_eq_true rfl, Nat.le_of_ble_eq_true rfl⟩) ⟨fb_CX, va_recv hK hP (ci := 10) (q0 := 0) rfl rfl, fun U hU hW => ⟨rfl, CX.give hb0 hM hK hG hE hS hU hW⟩⟩ rfl rfl hl.1 rfl (lv_room (Nat.le_of_ble_eq_true rfl)) dX6_warmth_18 ⟨(Nat.le_of_ble_eq_true rfl), (Nat.le_of_ble_eq_true rfl)⟩) hS (fun q _ h => h) (fun q h => h) (fun r7 g9 t H locs ht hvm hw8 hB hz1 hk1 hS => ?_)
    have hM := hB.back ht
    have hG := hB.2.2.2.1
    have hx10 : Ext o X0 g g9 := hw8.1
    have ht11 : tg g9 o = 17 := hx10.tk hto (by omega)
    obtain rfl : r7 = 1 := hw8.2.2.trans (by decide)
    have hth12 : pI g9 o 2 = 1 := by rw [hw8.2.1]; exact sI_at
    refine lv_if_eq (tgt := 28) hx hb dX6_warmth_21 (by decide) (fun cx => by first | exact absurd cx (by decide) | exact absurd (by decide) cx) (fun _ => ?_)
    refine lv_iconst (v := 0) hx hb dX6_warmth_24 (by decide) ?_
    refine lv_goto (tgt := 33) hx hb dX6_warmth_25 (by decide) ?_
    refine W.widen (k := 0) (n := 0) (Nat.le_of_ble_eq_true rfl) (Nat.le_of_ble_eq_true rfl) ?_
    exact W.iret (v := 0) hx hb hr (fun t ht hW => ⟨⟨0, g9, rfl, ⟨hx10, Or.inr ⟨by omega, hth12⟩⟩, CX.give hb0 hM hK hG hE hS ht hW⟩, hS.F ht⟩) hS.2.2 dX6_warmth_33
  · skip
    have g13 : (0 : Int) ≤ (hou : Int32).toInt ∧ (hou : Int32).toInt ≤ (504 : Int) := bI_t hw2 c3
    have zg13 : r1 = 1 := bI_t1 hw2 g13
    refine lv_iconst (v := 0) hx hb dX6_warmth_13 (by decide) ?_
    refine lv_goto (tgt := 18) hx hb dX6_warmth_14 (by decide) ?_
    obtain ⟨u14, u15, hP, hf⟩ := o_mo (i := 0) (q := o) hM (by omega)
    refine va_calli (va_runV (As := [.int 0]) (rest := []) ⟨hx, hb, hml, hown, hts⟩ (rm_isWrong l dC dI kA eD b g o 0 (by omega)) (cwV 1 hts gX6_warmth_X6_isWrong rfl rfl rfl (by decide +kernel) ⟨Nat.le_of_ble_eq_true rfl, Nat.le_of_ble_eq_true rfl⟩) ⟨fb_CX, va_recv hK hP (ci := 10) (q0 := 0) rfl rfl, fun U hU hW => ⟨rfl, CX.give hb0 hM hK hG hE hS hU hW⟩⟩ rfl rfl hl.1 rfl (lv_room (Nat.le_of_ble_eq_true rfl)) dX6_warmth_18 ⟨(Nat.le_of_ble_eq_true rfl), (Nat.le_of_ble_eq_true rfl)⟩) hS (fun q _ h => h) (fun q h => h) (fun r16 g18 t H locs ht hvm hw17 hB hz1 hk1 hS => ?_)
    have hM := hB.back ht
    have hG := hB.2.2.2.1
    have hx19 : Ext o X0 g g18 := hw17.1
    have ht20 : tg g18 o = 17 := hx19.tk hto (by omega)
    obtain rfl : r16 = 0 := hw17.2.2.trans (by decide)
    have hth21 : pI g18 o 2 = 0 := by rw [hw17.2.1]; exact sI_at
    refine lv_if_eq (tgt := 28) hx hb dX6_warmth_21 (by decide) (fun _ => ?_) (fun cx => by first | exact absurd (by decide) cx | exact absurd cx (by decide))
    obtain ⟨j, hj, rfl⟩ := toN (p := hou) (k := 504) (by omega) (by omega) (by decide)
    have hl : lv_has ls 2 [(0, .ref o), (1, .int (nI j))] := hl
    refine lv_aload_n hx hb dX6_warmth_28 rfl (lv_at hl 0 rfl) ?_
    refine lv_iload_n hx hb dX6_warmth_29 rfl (lv_at hl 1 rfl) ?_
    obtain ⟨u22, u23, hP, hf⟩ := o_mo (i := 0) (q := o) hM (by omega)
    refine va_calli (va_runV (As := [.int (nI j)]) (rest := []) ⟨hx, hb, hml, hown, hts⟩ (rm_warmthOf l dC dI kA eD b g18 o j (by omega) (by omega)) (cwV 1 hts gX6_warmth_X6_warmthOf rfl rfl rfl (by decide +kernel) ⟨Nat.le_of_ble_eq_true rfl, Nat.le_of_ble_eq_true rfl⟩) ⟨fb_CX, va_recv hK hP (ci := 10) (q0 := 0) rfl rfl, fun U hU hW => ⟨rfl, CX.give hb0 hM hK hG hE hS hU hW⟩⟩ rfl rfl hl.1 rfl (lv_room (Nat.le_of_ble_eq_true rfl)) dX6_warmth_30 ⟨(Nat.le_of_ble_eq_true rfl), (Nat.le_of_ble_eq_true rfl)⟩) hS (fun q _ h => h) (fun q h => h) (fun r24 u t H locs ht hvm hw25 hB hz1 hk1 hS => ?_)
    have hM := hB.back ht
    have hG := hB.2.2.2.1
    refine W.widen (k := 0) (n := 0) (Nat.le_of_ble_eq_true rfl) (Nat.le_of_ble_eq_true rfl) ?_
    exact W.iret (v := r24) hx hb hr (fun t ht hW => ⟨⟨r24, g18, rfl, ⟨hx19, Or.inl ⟨⟨by have := nI_toInt (n := j) (by omega); omega, by have := nI_toInt (n := j) (by omega); omega⟩, hth21, hw25⟩⟩, CX.give hb0 hM hK hG hE hS ht hW⟩, hS.F ht⟩) hS.2.2 dX6_warmth_33

set_option maxHeartbeats 4000000 in
set_option maxRecDepth 100000 in
theorem rmf_wet (l : Launch) (dC : Nat → ClassId) (dI : Nat → Nat → Nat) (kA : Nat → ClassId) (eD b : Nat) (g : Gh) (o : Nat) (hou : Int32) (hto : tg g o = 17)  : Met l yX6_wet wsX6_wet ({ frames := 2, cells := 0, slots := 0, locals := 44 }) (va_Pc [.ref o, .int hou] (CX (dC, dI) kA eD b g)) (va_Qi (fun (r : Int32) (u : Gh) => Ext o X0 g u ∧ (((0 ≤ hou.toInt ∧ hou.toInt ≤ 503) ∧ pI u o 2 = 0 ∧ r = xOf (fun d => pI u ((pO u (pF u o 0) d).getD 0) 0) (fun d => pI u ((pO u (pF u o 0) d).getD 0) 1) (fun d => pI u ((pO u (pF u o 0) d).getD 0) 3) hou) ∨ (¬ (0 ≤ hou.toInt ∧ hou.toInt ≤ 503) ∧ pI u o 2 = 1))) (fun (u : Gh) t => CX (dC, dI) kA eD b u t) (fun q => b ≤ q)) 0 0 (fun q => b ≤ q) := by
  refine Met.ofW (cc := cX6_wet) (maxL := 2) (ret := (some .int)) (by decide +kernel) rfl ?_
  intro p e s m args below meth c s₁ B hml hv
  obtain ⟨rfl, hb0, hM, hK, hG, hE⟩ := hv
  have hx := B.exec
  have hb := B.bytes
  have hr := B.returns
  have hts := atoms_spec (ws := wsX6_wet) B.pre
  have hown : s.vm.findClass RX6 = some m.cls := findClass_of_methodNamed B.named
  have hlocks := B.notSynchronized
  have hT := hE.1
  have hN := hE.2.2.2.2.2.2.2.1
  have hS : va_S (fun q => b ≤ q) s.heap s.heap [] := va_S.rf
  have hl := lv_entry ([.ref o, .int hou]) (n := 2) (Nat.le_of_ble_eq_true rfl)
  rw [lg_entry_eq]
  generalize (lg_sl ([.ref o, .int hou]) ++ List.replicate (2 - (lg_sl ([.ref o, .int hou])).length) Slot.unset).toArray = ls at hl ⊢
  have hl : lv_has ls 2 [(0, .ref o), (1, .int hou)] := hl
  generalize ([.ref o, .int hou] : List Value).toArray = args at hts ⊢
  refine lv_aload_n hx hb dX6_wet_0 rfl (lv_at hl 0 rfl) ?_
  refine lv_iload_n hx hb dX6_wet_1 rfl (lv_at hl 1 rfl) ?_
  refine lv_i2l hx hb dX6_wet_2 rfl ?_
  refine lv_lconst (v := 0) hx hb dX6_wet_3 (by decide) ?_
  refine lv_ldc2 hx hb hown (hts (.constantLong RX6 71 503) (by decide +kernel)) dX6_wet_4 ?_
  refine va_calli (va_runS (As := [.long hou.toInt64, .long 0, .long 503]) (rest := [.ref o]) ⟨hx, hb, hml, hown, hts⟩ (rm_isBetween l hou.toInt64 0 503 ((hou : Int32).toInt) (0) (503) (Int32.toInt_toInt64 _) (by decide) (by decide)) (va_cwS 3 hts gX6_wet_X6_isBetween rfl rfl rfl (by decide +kernel) ⟨Nat.le_of_ble_eq_true rfl, Nat.le_of_ble_eq_true rfl⟩) ⟨fun a U g mk q => q, fun U hU hW => ⟨rfl, trivial⟩⟩ rfl rfl hl.1 rfl (lv_room (Nat.le_of_ble_eq_true rfl)) dX6_wet_7 ⟨(Nat.le_of_ble_eq_true rfl), (Nat.le_of_ble_eq_true rfl)⟩) hS (fun q _ h => h.elim) (fun q h => h.elim) (fun r1 u t H locs ht hvm hw2 hB hz1 hk1 hS => ?_)
  have hM := hM.keep (fun p hp => hk1 p hp (fun z => z))
  have hw2 : r1 = bI ((0 : Int) ≤ (hou : Int32).toInt ∧ (hou : Int32).toInt ≤ (503 : Int)) := hw2
  refine lv_if_eq (tgt := 17) hx hb dX6_wet_10 (by decide) (fun c3 => ?_) (fun c3 => ?_)
  · skip
    have g4 : ¬ ((0 : Int) ≤ (hou : Int32).toInt ∧ (hou : Int32).toInt ≤ (503 : Int)) := bI_f hw2 c3
    have zg4 : r1 = 0 := bI_f0 hw2 g4
    refine lv_iconst (v := 1) hx hb dX6_wet_17 (by decide) ?_
    obtain ⟨u5, u6, hP, hf⟩ := o_mo (i := 0) (q := o) hM (by omega)
    refine va_calli (va_runV (As := [.int 1]) (rest := []) ⟨hx, hb, hml, hown, hts⟩ (rm_isWrong l dC dI kA eD b g o 1 (by omega)) (cwV 1 hts gX6_wet_X6_isWrong rfl rfl rfl (by decide +kernel) ⟨Nat.le_of_ble_eq_true rfl, Nat.le_of_ble_eq_true rfl⟩) ⟨fb_CX, va_recv hK hP (ci := 10) (q0 := 0) rfl rfl, fun U hU hW => ⟨rfl, CX.give hb0 hM hK hG hE hS hU hW⟩⟩ rfl rfl hl.1 rfl (lv_room (Nat.le_of_ble_eq_true rfl)) dX6_wet_18 ⟨(Nat.le_of_ble_eq_true rfl), (Nat.le_of_ble_eq_true rfl)⟩) hS (fun q _ h => h) (fun q h => h) (fun r7 g9 t H locs ht hvm hw8 hB hz1 hk1 hS => ?_)
    have hM := hB.back ht
    have hG := hB.2.2.2.1
    have hx10 : Ext o X0 g g9 := hw8.1
    have ht11 : tg g9 o = 17 := hx10.tk hto (by omega)
    obtain rfl : r7 = 1 := hw8.2.2.trans (by decide)
    have hth12 : pI g9 o 2 = 1 := by rw [hw8.2.1]; exact sI_at
    refine lv_if_eq (tgt := 28) hx hb dX6_wet_21 (by decide) (fun cx => by first | exact absurd cx (by decide) | exact absurd (by decide) cx) (fun _ => ?_)
    refine lv_iconst (v := 0) hx hb dX6_wet_24 (by decide) ?_
    refine lv_goto (tgt := 33) hx hb dX6_wet_25 (by decide) ?_
    refine W.widen (k := 0) (n := 0) (Nat.le_of_ble_eq_true rfl) (Nat.le_of_ble_eq_true rfl) ?_
    exact W.iret (v := 0) hx hb hr (fun t ht hW => ⟨⟨0, g9, rfl, ⟨hx10, Or.inr ⟨by omega, hth12⟩⟩, CX.give hb0 hM hK hG hE hS ht hW⟩, hS.F ht⟩) hS.2.2 dX6_wet_33
  · skip
    have g13 : (0 : Int) ≤ (hou : Int32).toInt ∧ (hou : Int32).toInt ≤ (503 : Int) := bI_t hw2 c3
    have zg13 : r1 = 1 := bI_t1 hw2 g13
    refine lv_iconst (v := 0) hx hb dX6_wet_13 (by decide) ?_
    refine lv_goto (tgt := 18) hx hb dX6_wet_14 (by decide) ?_
    obtain ⟨u14, u15, hP, hf⟩ := o_mo (i := 0) (q := o) hM (by omega)
    refine va_calli (va_runV (As := [.int 0]) (rest := []) ⟨hx, hb, hml, hown, hts⟩ (rm_isWrong l dC dI kA eD b g o 0 (by omega)) (cwV 1 hts gX6_wet_X6_isWrong rfl rfl rfl (by decide +kernel) ⟨Nat.le_of_ble_eq_true rfl, Nat.le_of_ble_eq_true rfl⟩) ⟨fb_CX, va_recv hK hP (ci := 10) (q0 := 0) rfl rfl, fun U hU hW => ⟨rfl, CX.give hb0 hM hK hG hE hS hU hW⟩⟩ rfl rfl hl.1 rfl (lv_room (Nat.le_of_ble_eq_true rfl)) dX6_wet_18 ⟨(Nat.le_of_ble_eq_true rfl), (Nat.le_of_ble_eq_true rfl)⟩) hS (fun q _ h => h) (fun q h => h) (fun r16 g18 t H locs ht hvm hw17 hB hz1 hk1 hS => ?_)
    have hM := hB.back ht
    have hG := hB.2.2.2.1
    have hx19 : Ext o X0 g g18 := hw17.1
    have ht20 : tg g18 o = 17 := hx19.tk hto (by omega)
    obtain rfl : r16 = 0 := hw17.2.2.trans (by decide)
    have hth21 : pI g18 o 2 = 0 := by rw [hw17.2.1]; exact sI_at
    refine lv_if_eq (tgt := 28) hx hb dX6_wet_21 (by decide) (fun _ => ?_) (fun cx => by first | exact absurd (by decide) cx | exact absurd cx (by decide))
    obtain ⟨j, hj, rfl⟩ := toN (p := hou) (k := 503) (by omega) (by omega) (by decide)
    have hl : lv_has ls 2 [(0, .ref o), (1, .int (nI j))] := hl
    refine lv_aload_n hx hb dX6_wet_28 rfl (lv_at hl 0 rfl) ?_
    refine lv_iload_n hx hb dX6_wet_29 rfl (lv_at hl 1 rfl) ?_
    obtain ⟨u22, u23, hP, hf⟩ := o_mo (i := 0) (q := o) hM (by omega)
    refine va_calli (va_runV (As := [.int (nI j)]) (rest := []) ⟨hx, hb, hml, hown, hts⟩ (rm_wetOf l dC dI kA eD b g18 o j (by omega) (by omega)) (cwV 1 hts gX6_wet_X6_wetOf rfl rfl rfl (by decide +kernel) ⟨Nat.le_of_ble_eq_true rfl, Nat.le_of_ble_eq_true rfl⟩) ⟨fb_CX, va_recv hK hP (ci := 10) (q0 := 0) rfl rfl, fun U hU hW => ⟨rfl, CX.give hb0 hM hK hG hE hS hU hW⟩⟩ rfl rfl hl.1 rfl (lv_room (Nat.le_of_ble_eq_true rfl)) dX6_wet_30 ⟨(Nat.le_of_ble_eq_true rfl), (Nat.le_of_ble_eq_true rfl)⟩) hS (fun q _ h => h) (fun q h => h) (fun r24 u t H locs ht hvm hw25 hB hz1 hk1 hS => ?_)
    have hM := hB.back ht
    have hG := hB.2.2.2.1
    refine W.widen (k := 0) (n := 0) (Nat.le_of_ble_eq_true rfl) (Nat.le_of_ble_eq_true rfl) ?_
    exact W.iret (v := r24) hx hb hr (fun t ht hW => ⟨⟨r24, g18, rfl, ⟨hx19, Or.inl ⟨⟨by have := nI_toInt (n := j) (by omega); omega, by have := nI_toInt (n := j) (by omega); omega⟩, hth21, hw25⟩⟩, CX.give hb0 hM hK hG hE hS ht hW⟩, hS.F ht⟩) hS.2.2 dX6_wet_33

set_option maxHeartbeats 4000000 in
set_option maxRecDepth 100000 in
theorem rmf_now (l : Launch) (dC : Nat → ClassId) (dI : Nat → Nat → Nat) (kA : Nat → ClassId) (eD b : Nat) (g : Gh) (o : Nat)  (hto : tg g o = 17)  : Met l yX6_now wsX6_now ({ frames := 0, cells := 0, slots := 0, locals := 0 }) (va_Pc [.ref o] (CX (dC, dI) kA eD b g)) (va_Qi (fun (r : Int32) (u : Gh) => Ext o X0 g u ∧ pI u o 2 = 0 ∧ r = pI g o 0) (fun (u : Gh) t => CX (dC, dI) kA eD b u t) (fun q => b ≤ q)) 0 0 (fun q => b ≤ q) := by
  refine Met.ofW (cc := cX6_now) (maxL := 1) (ret := (some .int)) (by decide +kernel) rfl ?_
  intro p e s m args below meth c s₁ B hml hv
  obtain ⟨rfl, hb0, hM, hK, hG, hE⟩ := hv
  have hx := B.exec
  have hb := B.bytes
  have hr := B.returns
  have hts := atoms_spec (ws := wsX6_now) B.pre
  have hown : s.vm.findClass RX6 = some m.cls := findClass_of_methodNamed B.named
  have hlocks := B.notSynchronized
  have hT := hE.1
  have hN := hE.2.2.2.2.2.2.2.1
  have hS : va_S (fun q => b ≤ q) s.heap s.heap [] := va_S.rf
  have hl := lv_entry ([.ref o]) (n := 1) (Nat.le_of_ble_eq_true rfl)
  rw [lg_entry_eq]
  generalize (lg_sl ([.ref o]) ++ List.replicate (1 - (lg_sl ([.ref o])).length) Slot.unset).toArray = ls at hl ⊢
  have hl : lv_has ls 1 [(0, .ref o)] := hl
  generalize ([.ref o] : List Value).toArray = args at hts ⊢
  refine lv_aload_n hx hb dX6_now_0 rfl (lv_at hl 0 rfl) ?_
  refine lv_iconst (v := 0) hx hb dX6_now_1 (by decide) ?_
  obtain ⟨u1, u2, hP, hf⟩ := o_mo (i := 0) (q := o) hM (by omega)
  refine rt_put (D := (dC, dI)) (ci := 10) (v := .int 0) (ty := .int) (C := RX6) (T := TX6) (N := 11) hx hb hts (by decide +kernel) tyX6 tyX6_ok nmX6 hown hK hP (hM.ge (by omega)) hS rfl 0 (by decide) (hts (.fieldLink RX6 1 "SnowpalaceModel" "thrown" "I") (by decide +kernel)) (fun _ h9 => h9) rfl (by decide +kernel) rfl rfl (Nat.le_of_ble_eq_true rfl) dX6_now_2 (fun H locs hP hz ho hS => ?_)
  have hM0 := hM
  have hM := p_mo (i := 0) (f := upd (pI g o) 2 0) hM (by omega) hP ho hf
  obtain ⟨g4, hg4⟩ : ∃ z, z = uI g o (upd (pI g o) 2 0) := ⟨_, rfl⟩
  rw [← hg4] at hM
  have ht5 : tg g4 o = 17 := by rw [hg4]; exact hto
  have hG : GOK g4 := by rw [hg4]; exact (hG.uI hM0 (Or.inl (by omega)))
  have hx7 : Ext o X0 g g4 := by rw [hg4]; exact (Ext.thr (fun j9 hj9 => if_neg hj9))
  refine lv_aload_n hx hb dX6_now_5 rfl (lv_at hl 0 rfl) ?_
  obtain ⟨u8, u9, hP, hf⟩ := o_mo (i := 0) (q := o) hM (by omega)
  refine va_get (D := (dC, dI)) (ci := 10) (v := .int (pI g4 o 0)) (C := RX6) (T := TX6) (N := 11) hx hb hts (by decide +kernel) hown hK hP 0 rfl rfl 2 (by decide) (hts (.fieldLink RX6 58 "SnowpalaceModel" "hour" "I") (by decide +kernel)) (fun _ h9 => h9) rfl dX6_now_6 ?_
  have hv10 := hf.2.2.2.2.2.2.1
  refine W.widen (k := 0) (n := 0) (Nat.le_of_ble_eq_true rfl) (Nat.le_of_ble_eq_true rfl) ?_
  exact W.iret (v := (pI g4 o 0)) hx hb hr (fun t ht hW => ⟨⟨(pI g4 o 0), g4, rfl, ⟨hx7, by rw [hg4]; exact sI_at, by rw [hg4]; exact sI_ne (Or.inr (by decide))⟩, CX.give hb0 hM hK hG hE hS ht hW⟩, hS.F ht⟩) hS.2.2 dX6_now_9

set_option maxHeartbeats 4000000 in
set_option maxRecDepth 100000 in
theorem rmf_machine (l : Launch) (dC : Nat → ClassId) (dI : Nat → Nat → Nat) (kA : Nat → ClassId) (eD b : Nat) (g : Gh) (o : Nat) (is : Int32) (hto : tg g o = 17) (his : is = 0 ∨ is = 1) : Met l yX6_machine wsX6_machine ({ frames := 0, cells := 0, slots := 0, locals := 0 }) (va_Pc [.ref o, .int is] (CX (dC, dI) kA eD b g)) (va_Qi (fun (r : Int32) (u : Gh) => u = sI (sI g o 2 0) o 1 is ∧ r = pI g o 1) (fun (u : Gh) t => CX (dC, dI) kA eD b u t) (fun q => b ≤ q)) 0 0 (fun q => b ≤ q) := by
  refine Met.ofW (cc := cX6_machine) (maxL := 3) (ret := (some .boolean)) (by decide +kernel) rfl ?_
  intro p e s m args below meth c s₁ B hml hv
  obtain ⟨rfl, hb0, hM, hK, hG, hE⟩ := hv
  have hx := B.exec
  have hb := B.bytes
  have hr := B.returns
  have hts := atoms_spec (ws := wsX6_machine) B.pre
  have hown : s.vm.findClass RX6 = some m.cls := findClass_of_methodNamed B.named
  have hlocks := B.notSynchronized
  have hT := hE.1
  have hN := hE.2.2.2.2.2.2.2.1
  have hS : va_S (fun q => b ≤ q) s.heap s.heap [] := va_S.rf
  have hl := lv_entry ([.ref o, .int is]) (n := 3) (Nat.le_of_ble_eq_true rfl)
  rw [lg_entry_eq]
  generalize (lg_sl ([.ref o, .int is]) ++ List.replicate (3 - (lg_sl ([.ref o, .int is])).length) Slot.unset).toArray = ls at hl ⊢
  have hl : lv_has ls 3 [(0, .ref o), (1, .int is)] := hl
  generalize ([.ref o, .int is] : List Value).toArray = args at hts ⊢
  refine lv_aload_n hx hb dX6_machine_0 rfl (lv_at hl 0 rfl) ?_
  refine lv_iconst (v := 0) hx hb dX6_machine_1 (by decide) ?_
  obtain ⟨u1, u2, hP, hf⟩ := o_mo (i := 0) (q := o) hM (by omega)
  refine rt_put (D := (dC, dI)) (ci := 10) (v := .int 0) (ty := .int) (C := RX6) (T := TX6) (N := 11) hx hb hts (by decide +kernel) tyX6 tyX6_ok nmX6 hown hK hP (hM.ge (by omega)) hS rfl 0 (by decide) (hts (.fieldLink RX6 1 "SnowpalaceModel" "thrown" "I") (by decide +kernel)) (fun _ h9 => h9) rfl (by decide +kernel) rfl rfl (Nat.le_of_ble_eq_true rfl) dX6_machine_2 (fun H locs hP hz ho hS => ?_)
  have hM0 := hM
  have hM := p_mo (i := 0) (f := upd (pI g o) 2 0) hM (by omega) hP ho hf
  obtain ⟨g4, hg4⟩ : ∃ z, z = uI g o (upd (pI g o) 2 0) := ⟨_, rfl⟩
  rw [← hg4] at hM
  have ht5 : tg g4 o = 17 := by rw [hg4]; exact hto
  have hG : GOK g4 := by rw [hg4]; exact (hG.uI hM0 (Or.inl (by omega)))
  have hx7 : Ext o X0 g g4 := by rw [hg4]; exact (Ext.thr (fun j9 hj9 => if_neg hj9))
  refine lv_aload_n hx hb dX6_machine_5 rfl (lv_at hl 0 rfl) ?_
  obtain ⟨u8, u9, hP, hf⟩ := o_mo (i := 0) (q := o) hM (by omega)
  refine va_get (D := (dC, dI)) (ci := 10) (v := .int (pI g4 o 1)) (C := RX6) (T := TX6) (N := 11) hx hb hts (by decide +kernel) hown hK hP 0 rfl rfl 9 (by decide) (hts (.fieldLink RX6 85 "SnowpalaceModel" "isOn" "Z") (by decide +kernel)) (fun _ h9 => h9) rfl dX6_machine_6 ?_
  have hv10 := hf.2.2.2.2.2.2.2
  refine lv_istore_n (lv' := [(2, .int (pI g4 o 1)), (0, .ref o), (1, .int is)]) hx hb dX6_machine_9 rfl hl (by decide) rfl (fun ls hl => ?_)
  refine lv_aload_n hx hb dX6_machine_10 rfl (lv_at hl 1 rfl) ?_
  refine lv_iload_n hx hb dX6_machine_11 rfl (lv_at hl 2 rfl) ?_
  obtain ⟨u11, u12, hP, hf⟩ := o_mo (i := 0) (q := o) hM (by omega)
  refine rt_put (D := (dC, dI)) (ci := 10) (v := .int is) (ty := .boolean) (C := RX6) (T := TX6) (N := 11) hx hb hts (by decide +kernel) tyX6 tyX6_ok nmX6 hown hK hP (hM.ge (by omega)) hS rfl 9 (by decide) (hts (.fieldLink RX6 85 "SnowpalaceModel" "isOn" "Z") (by decide +kernel)) (fun _ h9 => h9) rfl (by decide +kernel) (z01n his) (z01f his) (Nat.le_of_ble_eq_true rfl) dX6_machine_12 (fun H locs hP hz ho hS => ?_)
  have hM0 := hM
  have hM := p_mo (i := 0) (f := upd (pI g4 o) 1 is) hM (by omega) hP ho ⟨hf.1, hf.2.1, hf.2.2.1, hf.2.2.2.1, hf.2.2.2.2.1, hf.2.2.2.2.2.1, hf.2.2.2.2.2.2.1, his⟩
  obtain ⟨g14, hg14⟩ : ∃ z, z = uI g4 o (upd (pI g4 o) 1 is) := ⟨_, rfl⟩
  rw [← hg14] at hM
  have ht15 : tg g14 o = 17 := by rw [hg14]; exact ht5
  have hG : GOK g14 := by rw [hg14]; exact (hG.uI hM0 (Or.inl (by omega)))
  refine lv_iload_n hx hb dX6_machine_15 rfl (lv_at hl 0 rfl) ?_
  refine W.widen (k := 0) (n := 0) (Nat.le_of_ble_eq_true rfl) (Nat.le_of_ble_eq_true rfl) ?_
  exact W.zret (v := (pI g4 o 1)) (ty := .boolean) hx hb hr (z01n hv10) (fun t ht hW => ⟨⟨(pI g4 o 1), g14, rfl, ⟨(by subst hg14 hg4; rfl), by rw [hg4]; exact sI_ne (Or.inr (by decide))⟩, CX.give hb0 hM hK hG hE hS ht hW⟩, hS.F ht⟩) hS.2.2 dX6_machine_16

set_option maxHeartbeats 4000000 in
set_option maxRecDepth 100000 in
theorem rmf_cover (l : Launch) (dC : Nat → ClassId) (dI : Nat → Nat → Nat) (kA : Nat → ClassId) (eD b : Nat) (g : Gh) (o : Nat) (site : Int32) (is : Int32) (hto : tg g o = 17) (his : is = 0 ∨ is = 1) : Met l yX6_cover wsX6_cover ({ frames := 3, cells := 0, slots := 0, locals := 64 }) (va_Pc [.ref o, .int site, .int is] (CX (dC, dI) kA eD b g)) (va_Qi (fun (r : Int32) (u : Gh) => ∃ v, Ext o X0 g v ∧ ((pI v o 2 = 0 ∧ ∃ j a, site = nI j ∧ (j : Int) < (pI v (pF v o 5) 0).toInt ∧ tg v a = 28 + 64 * j ∧ pO v (pF v (pF v o 5) 0) j = some a ∧ r = pI v a 0 ∧ u = sI v a 0 is) ∨ (¬ (0 ≤ site.toInt ∧ site.toInt < (pI v (pF v o 5) 0).toInt) ∧ pI v o 2 = 1 ∧ u = v))) (fun (u : Gh) t => CX (dC, dI) kA eD b u t) (fun q => b ≤ q)) 0 0 (fun q => b ≤ q) := by
  refine Met.ofW (cc := cX6_cover) (maxL := 4) (ret := (some .boolean)) (by decide +kernel) rfl ?_
  intro p e s m args below meth c s₁ B hml hv
  obtain ⟨rfl, hb0, hM, hK, hG, hE⟩ := hv
  have hx := B.exec
  have hb := B.bytes
  have hr := B.returns
  have hts := atoms_spec (ws := wsX6_cover) B.pre
  have hown : s.vm.findClass RX6 = some m.cls := findClass_of_methodNamed B.named
  have hlocks := B.notSynchronized
  have hT := hE.1
  have hN := hE.2.2.2.2.2.2.2.1
  have hS : va_S (fun q => b ≤ q) s.heap s.heap [] := va_S.rf
  have hl := lv_entry ([.ref o, .int site, .int is]) (n := 4) (Nat.le_of_ble_eq_true rfl)
  rw [lg_entry_eq]
  generalize (lg_sl ([.ref o, .int site, .int is]) ++ List.replicate (4 - (lg_sl ([.ref o, .int site, .int is])).length) Slot.unset).toArray = ls at hl ⊢
  have hl : lv_has ls 4 [(0, .ref o), (1, .int site), (2, .int is)] := hl
  generalize ([.ref o, .int site, .int is] : List Value).toArray = args at hts ⊢
  refine lv_aload_n hx hb dX6_cover_0 rfl (lv_at hl 0 rfl) ?_
  refine lv_iload_n hx hb dX6_cover_1 rfl (lv_at hl 1 rfl) ?_
  obtain ⟨u1, u2, hP, hf⟩ := o_mo (i := 0) (q := o) hM (by omega)
  refine va_calli (va_runV (As := [.int site]) (rest := []) ⟨hx, hb, hml, hown, hts⟩ (rm_isNoSite l dC dI kA eD b g o site (by omega)) (cwV 1 hts gX6_cover_X6_isNoSite rfl rfl rfl (by decide +kernel) ⟨Nat.le_of_ble_eq_true rfl, Nat.le_of_ble_eq_true rfl⟩) ⟨fb_CX, va_recv hK hP (ci := 10) (q0 := 0) rfl rfl, fun U hU hW => ⟨rfl, CX.give hb0 hM hK hG hE hS hU hW⟩⟩ rfl rfl hl.1 rfl (lv_room (Nat.le_of_ble_eq_true rfl)) dX6_cover_2 ⟨(Nat.le_of_ble_eq_true rfl), (Nat.le_of_ble_eq_true rfl)⟩) hS (fun q _ h => h) (fun q h => h) (fun r3 g5 t H locs ht hvm hw4 hB hz1 hk1 hS => ?_)
  have hM := hB.back ht
  have hG := hB.2.2.2.1
  have hx6 : Ext o X0 g g5 := hw4.1
  have ht7 : tg g5 o = 17 := hx6.tk hto (by omega)
  have hth8 := hw4.2.1
  refine lv_if_eq (tgt := 10) hx hb dX6_cover_5 (by decide) (fun c9 => ?_) (fun c9 => ?_)
  · skip
    have hv10 := vr0 (vr01 hw4.2.2) c9
    have hfm := (mo_list hM ht7).1
    have hls := (mo_list hM ht7).2
    obtain ⟨j, hj, rfl⟩ := toN (p := site) (k := 2) (by omega) (by omega) (by decide)
    have hl : lv_has ls 4 [(0, .ref o), (1, .int (nI j)), (2, .int is)] := hl
    have ej : (nI j).toInt = (j : Int) := nI_toInt (by omega)
    have hjs : (j : Int) < (pI g5 (pF g5 o 5) 0).toInt := by omega
    refine lv_aload_n hx hb dX6_cover_10 rfl (lv_at hl 0 rfl) ?_
    obtain ⟨u11, u12, hP, hf⟩ := o_mo (i := 0) (q := o) hM (by omega)
    refine va_get (D := (dC, dI)) (ci := 10) (v := .ref (pF g5 o 5)) (C := RX6) (T := TX6) (N := 11) hx hb hts (by decide +kernel) hown hK hP 0 rfl rfl 10 (by decide) (hts (.fieldLink RX6 34 "SnowpalaceModel" "sites" "Ljava/util/List;") (by decide +kernel)) (fun _ h9 => h9) rfl dX6_cover_11 ?_
    refine lv_iload_n hx hb dX6_cover_14 rfl (lv_at hl 1 rfl) ?_
    obtain ⟨hP, hf⟩ := o_al (i := 0) (q := (pF g5 o 5)) hM (by omega)
    refine va_callFr (va_runF (hK.1 3 _ rfl).2 (As := [.int (nI j)]) (rest := []) ⟨hx, hb, hml, hown, hts⟩ (rj_get l dC dI kA eD b g5 (pF g5 o 5) j (by omega) hjs) (va_cwF 1 hts gX6_cover_Jx4a65c_get_915e3_f149Jx4a65c rfl rfl rfl hE.2.2.2.2.1 (by decide +kernel) ⟨Nat.le_of_ble_eq_true rfl, Nat.le_of_ble_eq_true rfl⟩) ⟨fb_CX, va_recv hK hP (ci := 3) (q0 := 0) rfl rfl, fun U hU hW => ⟨rfl, CX.give hb0 hM hK hG hE hS hU hW⟩⟩ rfl rfl hl.1 rfl (lv_room (Nat.le_of_ble_eq_true rfl)) dX6_cover_15 ⟨(Nat.le_of_ble_eq_true rfl), (Nat.le_of_ble_eq_true rfl)⟩) hS (fun q _ h => h) (fun q h => h) (fun u r13 t H locs ht hvm hw14 hB hz1 hk1 hS => ?_)
    have hM := hB.1.back ht
    have hG := hB.1.2.2.2.1
    have ht15 : tg g5 r13 = 28 + 64 * j := hB.2.1
    have hg16 : pO g5 (pF g5 (pF g5 o 5) 0) j = some r13 := hB.2.2
    obtain ⟨u17, u18, u19, u20, u21, u22, hP, hf⟩ := o_ms (i := j) (q := r13) hM (by omega)
    refine va_castY hx hb hown (hts (.classLink RX6 125 "SnowpalaceModel$Site") (by decide +kernel)) hE.2.2.2.2.2.2.1 (va_recv hK hP (ci := 9) (q0 := 0) rfl rfl) dX6_cover_20 ?_
    obtain ⟨u23, u24, u25, u26, u27, u28, hP, hf⟩ := o_ms (i := j) (q := r13) hM (by omega)
    refine va_getN (D := (dC, dI)) (ci := 9) (v := .int (pI g5 r13 0)) (C := RX5) (T := TX5) (N := 10) hx hb hts (by decide +kernel) hown hK hP 0 rfl rfl 2 (by decide) (hN (.fieldLinkNest RX6 211 "SnowpalaceModel$Site" "hasCover" "Z" RX6) (by decide +kernel)) (fun _ h9 => h9) rfl dX6_cover_23 ?_
    have hv29 := hf.2.2.2
    refine lv_istore_n (lv' := [(3, .int (pI g5 r13 0)), (0, .ref o), (1, .int (nI j)), (2, .int is)]) hx hb dX6_cover_26 rfl hl (by decide) rfl (fun ls hl => ?_)
    refine lv_aload_n hx hb dX6_cover_27 rfl (lv_at hl 1 rfl) ?_
    refine lv_dup hx hb dX6_cover_28 rfl ?_
    obtain ⟨u30, u31, hP, hf⟩ := o_mo (i := 0) (q := o) hM (by omega)
    refine va_get (D := (dC, dI)) (ci := 10) (v := .int u30) (C := RX6) (T := TX6) (N := 11) hx hb hts (by decide +kernel) hown hK hP 0 rfl rfl 3 (by decide) (hts (.fieldLink RX6 100 "SnowpalaceModel" "money" "I") (by decide +kernel)) (fun _ h9 => h9) rfl dX6_cover_29 ?_
    refine lv_iload_n hx hb dX6_cover_32 rfl (lv_at hl 3 rfl) ?_
    refine lv_if_eq (tgt := 46) hx hb dX6_cover_33 (by decide) (fun c32 => ?_) (fun c32 => ?_)
    · skip
      refine lv_iconst (v := 0) hx hb dX6_cover_46 (by decide) ?_
      refine lv_isub hx hb dX6_cover_47 ?_
      refine lv_topi (fun v33 e34 => ?_)
      obtain ⟨u35, u36, hP, hf⟩ := o_mo (i := 0) (q := o) hM (by omega)
      refine rt_put (D := (dC, dI)) (ci := 10) (v := .int v33) (ty := .int) (C := RX6) (T := TX6) (N := 11) hx hb hts (by decide +kernel) tyX6 tyX6_ok nmX6 hown hK hP (hM.ge (by omega)) hS rfl 3 (by decide) (hts (.fieldLink RX6 100 "SnowpalaceModel" "money" "I") (by decide +kernel)) (fun _ h9 => h9) rfl (by decide +kernel) rfl rfl (Nat.le_of_ble_eq_true rfl) dX6_cover_48 (fun H locs hP hz ho hS => ?_)
      have hM := s_mo (i := 0) hM (by omega) hP ho hf
      refine lv_aload_n hx hb dX6_cover_51 rfl (lv_at hl 1 rfl) ?_
      obtain ⟨u37, u38, hP, hf⟩ := o_mo (i := 0) (q := o) hM (by omega)
      refine va_get (D := (dC, dI)) (ci := 10) (v := .ref (pF g5 o 5)) (C := RX6) (T := TX6) (N := 11) hx hb hts (by decide +kernel) hown hK hP 0 rfl rfl 10 (by decide) (hts (.fieldLink RX6 34 "SnowpalaceModel" "sites" "Ljava/util/List;") (by decide +kernel)) (fun _ h9 => h9) rfl dX6_cover_52 ?_
      refine lv_iload_n hx hb dX6_cover_55 rfl (lv_at hl 2 rfl) ?_
      obtain ⟨hP, hf⟩ := o_al (i := 0) (q := (pF g5 o 5)) hM (by omega)
      refine va_callFr (va_runF (hK.1 3 _ rfl).2 (As := [.int (nI j)]) (rest := []) ⟨hx, hb, hml, hown, hts⟩ (rj_get l dC dI kA eD b g5 (pF g5 o 5) j (by omega) hjs) (va_cwF 1 hts gX6_cover_Jx4a65c_get_915e3_f149Jx4a65c rfl rfl rfl hE.2.2.2.2.1 (by decide +kernel) ⟨Nat.le_of_ble_eq_true rfl, Nat.le_of_ble_eq_true rfl⟩) ⟨fb_CX, va_recv hK hP (ci := 3) (q0 := 0) rfl rfl, fun U hU hW => ⟨rfl, CX.give hb0 hM hK hG hE hS hU hW⟩⟩ rfl rfl hl.1 rfl (lv_room (Nat.le_of_ble_eq_true rfl)) dX6_cover_56 ⟨(Nat.le_of_ble_eq_true rfl), (Nat.le_of_ble_eq_true rfl)⟩) hS (fun q _ h => h) (fun q h => h) (fun u r39 t H locs ht hvm hw40 hB hz1 hk1 hS => ?_)
      have hM := hB.1.back ht
      have hG := hB.1.2.2.2.1
      have ht41 : tg g5 r39 = 28 + 64 * j := hB.2.1
      have hg42 : pO g5 (pF g5 (pF g5 o 5) 0) j = some r39 := hB.2.2
      obtain rfl : r13 = r39 := Option.some.inj (hg16.symm.trans hg42)
      obtain ⟨u43, u44, u45, u46, u47, u48, hP, hf⟩ := o_ms (i := j) (q := r13) hM (by omega)
      refine va_castY hx hb hown (hts (.classLink RX6 125 "SnowpalaceModel$Site") (by decide +kernel)) hE.2.2.2.2.2.2.1 (va_recv hK hP (ci := 9) (q0 := 0) rfl rfl) dX6_cover_61 ?_
      refine lv_iload_n hx hb dX6_cover_64 rfl (lv_at hl 3 rfl) ?_
      obtain ⟨u49, u50, u51, u52, u53, u54, hP, hf⟩ := o_ms (i := j) (q := r13) hM (by omega)
      refine rt_putN (D := (dC, dI)) (ci := 9) (v := .int is) (ty := .boolean) (C := RX5) (T := TX5) (N := 10) hx hb hts (by decide +kernel) tyX5 tyX5_ok nmX5 hown hK hP (hM.ge (by omega)) hS rfl 2 (by decide) (hN (.fieldLinkNest RX6 211 "SnowpalaceModel$Site" "hasCover" "Z" RX6) (by decide +kernel)) (fun _ h9 => h9) rfl (by decide +kernel) (z01n his) (z01f his) (Nat.le_of_ble_eq_true rfl) dX6_cover_65 (fun H locs hP hz ho hS => ?_)
      have hM0 := hM
      have hM := p_ms (i := j) (f := upd (pI g5 r13) 0 is) hM (by omega) hP ho ⟨hf.1, hf.2.1, hf.2.2.1, his⟩
      obtain ⟨g56, hg56⟩ : ∃ z, z = uI g5 r13 (upd (pI g5 r13) 0 is) := ⟨_, rfl⟩
      rw [← hg56] at hM
      have ht57 : tg g56 o = 17 := by rw [hg56]; exact ht7
      have ht58 : tg g56 (pF g5 o 5) = 26 := by rw [hg56]; exact hfm
      have ht59 : tg g56 r13 = 28 + 64 * j := by rw [hg56]; exact ht15
      have hG : GOK g56 := by rw [hg56]; exact (hG.uI hM0 (Or.inl (by omega)))
      refine lv_iload_n hx hb dX6_cover_68 rfl (lv_at hl 0 rfl) ?_
      refine W.widen (k := 0) (n := 0) (Nat.le_of_ble_eq_true rfl) (Nat.le_of_ble_eq_true rfl) ?_
      exact W.zret (v := (pI g5 r13 0)) (ty := .boolean) hx hb hr (z01n hv29) (fun t ht hW => ⟨⟨(pI g5 r13 0), g56, rfl, ⟨g5, hx6, Or.inl ⟨hth8.trans c9, j, r13, rfl, hjs, ht15, hg16, rfl, (by subst hg56; rfl)⟩⟩, CX.give hb0 hM hK hG hE hS ht hW⟩, hS.F ht⟩) hS.2.2 dX6_cover_69
    · skip
      refine lv_iload_n hx hb dX6_cover_36 rfl (lv_at hl 0 rfl) ?_
      refine lv_if_ne (tgt := 46) hx hb dX6_cover_37 (by decide) (fun c61 => ?_) (fun c61 => ?_)
      · skip
        refine lv_iconst (v := 0) hx hb dX6_cover_46 (by decide) ?_
        refine lv_isub hx hb dX6_cover_47 ?_
        refine lv_topi (fun v62 e63 => ?_)
        obtain ⟨u64, u65, hP, hf⟩ := o_mo (i := 0) (q := o) hM (by omega)
        refine rt_put (D := (dC, dI)) (ci := 10) (v := .int v62) (ty := .int) (C := RX6) (T := TX6) (N := 11) hx hb hts (by decide +kernel) tyX6 tyX6_ok nmX6 hown hK hP (hM.ge (by omega)) hS rfl 3 (by decide) (hts (.fieldLink RX6 100 "SnowpalaceModel" "money" "I") (by decide +kernel)) (fun _ h9 => h9) rfl (by decide +kernel) rfl rfl (Nat.le_of_ble_eq_true rfl) dX6_cover_48 (fun H locs hP hz ho hS => ?_)
        have hM := s_mo (i := 0) hM (by omega) hP ho hf
        refine lv_aload_n hx hb dX6_cover_51 rfl (lv_at hl 1 rfl) ?_
        obtain ⟨u66, u67, hP, hf⟩ := o_mo (i := 0) (q := o) hM (by omega)
        refine va_get (D := (dC, dI)) (ci := 10) (v := .ref (pF g5 o 5)) (C := RX6) (T := TX6) (N := 11) hx hb hts (by decide +kernel) hown hK hP 0 rfl rfl 10 (by decide) (hts (.fieldLink RX6 34 "SnowpalaceModel" "sites" "Ljava/util/List;") (by decide +kernel)) (fun _ h9 => h9) rfl dX6_cover_52 ?_
        refine lv_iload_n hx hb dX6_cover_55 rfl (lv_at hl 2 rfl) ?_
        obtain ⟨hP, hf⟩ := o_al (i := 0) (q := (pF g5 o 5)) hM (by omega)
        refine va_callFr (va_runF (hK.1 3 _ rfl).2 (As := [.int (nI j)]) (rest := []) ⟨hx, hb, hml, hown, hts⟩ (rj_get l dC dI kA eD b g5 (pF g5 o 5) j (by omega) hjs) (va_cwF 1 hts gX6_cover_Jx4a65c_get_915e3_f149Jx4a65c rfl rfl rfl hE.2.2.2.2.1 (by decide +kernel) ⟨Nat.le_of_ble_eq_true rfl, Nat.le_of_ble_eq_true rfl⟩) ⟨fb_CX, va_recv hK hP (ci := 3) (q0 := 0) rfl rfl, fun U hU hW => ⟨rfl, CX.give hb0 hM hK hG hE hS hU hW⟩⟩ rfl rfl hl.1 rfl (lv_room (Nat.le_of_ble_eq_true rfl)) dX6_cover_56 ⟨(Nat.le_of_ble_eq_true rfl), (Nat.le_of_ble_eq_true rfl)⟩) hS (fun q _ h => h) (fun q h => h) (fun u r68 t H locs ht hvm hw69 hB hz1 hk1 hS => ?_)
        have hM := hB.1.back ht
        have hG := hB.1.2.2.2.1
        have ht70 : tg g5 r68 = 28 + 64 * j := hB.2.1
        have hg71 : pO g5 (pF g5 (pF g5 o 5) 0) j = some r68 := hB.2.2
        obtain rfl : r13 = r68 := Option.some.inj (hg16.symm.trans hg71)
        obtain ⟨u72, u73, u74, u75, u76, u77, hP, hf⟩ := o_ms (i := j) (q := r13) hM (by omega)
        refine va_castY hx hb hown (hts (.classLink RX6 125 "SnowpalaceModel$Site") (by decide +kernel)) hE.2.2.2.2.2.2.1 (va_recv hK hP (ci := 9) (q0 := 0) rfl rfl) dX6_cover_61 ?_
        refine lv_iload_n hx hb dX6_cover_64 rfl (lv_at hl 3 rfl) ?_
        obtain ⟨u78, u79, u80, u81, u82, u83, hP, hf⟩ := o_ms (i := j) (q := r13) hM (by omega)
        refine rt_putN (D := (dC, dI)) (ci := 9) (v := .int is) (ty := .boolean) (C := RX5) (T := TX5) (N := 10) hx hb hts (by decide +kernel) tyX5 tyX5_ok nmX5 hown hK hP (hM.ge (by omega)) hS rfl 2 (by decide) (hN (.fieldLinkNest RX6 211 "SnowpalaceModel$Site" "hasCover" "Z" RX6) (by decide +kernel)) (fun _ h9 => h9) rfl (by decide +kernel) (z01n his) (z01f his) (Nat.le_of_ble_eq_true rfl) dX6_cover_65 (fun H locs hP hz ho hS => ?_)
        have hM0 := hM
        have hM := p_ms (i := j) (f := upd (pI g5 r13) 0 is) hM (by omega) hP ho ⟨hf.1, hf.2.1, hf.2.2.1, his⟩
        obtain ⟨g85, hg85⟩ : ∃ z, z = uI g5 r13 (upd (pI g5 r13) 0 is) := ⟨_, rfl⟩
        rw [← hg85] at hM
        have ht86 : tg g85 o = 17 := by rw [hg85]; exact ht7
        have ht87 : tg g85 (pF g5 o 5) = 26 := by rw [hg85]; exact hfm
        have ht88 : tg g85 r13 = 28 + 64 * j := by rw [hg85]; exact ht15
        have hG : GOK g85 := by rw [hg85]; exact (hG.uI hM0 (Or.inl (by omega)))
        refine lv_iload_n hx hb dX6_cover_68 rfl (lv_at hl 0 rfl) ?_
        refine W.widen (k := 0) (n := 0) (Nat.le_of_ble_eq_true rfl) (Nat.le_of_ble_eq_true rfl) ?_
        exact W.zret (v := (pI g5 r13 0)) (ty := .boolean) hx hb hr (z01n hv29) (fun t ht hW => ⟨⟨(pI g5 r13 0), g85, rfl, ⟨g5, hx6, Or.inl ⟨hth8.trans c9, j, r13, rfl, hjs, ht15, hg16, rfl, (by subst hg85; rfl)⟩⟩, CX.give hb0 hM hK hG hE hS ht hW⟩, hS.F ht⟩) hS.2.2 dX6_cover_69
      · skip
        refine lv_sipush (v := 300) hx hb dX6_cover_40 (by decide) ?_
        refine lv_goto (tgt := 47) hx hb dX6_cover_43 (by decide) ?_
        refine lv_isub hx hb dX6_cover_47 ?_
        refine lv_topi (fun v90 e91 => ?_)
        obtain ⟨u92, u93, hP, hf⟩ := o_mo (i := 0) (q := o) hM (by omega)
        refine rt_put (D := (dC, dI)) (ci := 10) (v := .int v90) (ty := .int) (C := RX6) (T := TX6) (N := 11) hx hb hts (by decide +kernel) tyX6 tyX6_ok nmX6 hown hK hP (hM.ge (by omega)) hS rfl 3 (by decide) (hts (.fieldLink RX6 100 "SnowpalaceModel" "money" "I") (by decide +kernel)) (fun _ h9 => h9) rfl (by decide +kernel) rfl rfl (Nat.le_of_ble_eq_true rfl) dX6_cover_48 (fun H locs hP hz ho hS => ?_)
        have hM := s_mo (i := 0) hM (by omega) hP ho hf
        refine lv_aload_n hx hb dX6_cover_51 rfl (lv_at hl 1 rfl) ?_
        obtain ⟨u94, u95, hP, hf⟩ := o_mo (i := 0) (q := o) hM (by omega)
        refine va_get (D := (dC, dI)) (ci := 10) (v := .ref (pF g5 o 5)) (C := RX6) (T := TX6) (N := 11) hx hb hts (by decide +kernel) hown hK hP 0 rfl rfl 10 (by decide) (hts (.fieldLink RX6 34 "SnowpalaceModel" "sites" "Ljava/util/List;") (by decide +kernel)) (fun _ h9 => h9) rfl dX6_cover_52 ?_
        refine lv_iload_n hx hb dX6_cover_55 rfl (lv_at hl 2 rfl) ?_
        obtain ⟨hP, hf⟩ := o_al (i := 0) (q := (pF g5 o 5)) hM (by omega)
        refine va_callFr (va_runF (hK.1 3 _ rfl).2 (As := [.int (nI j)]) (rest := []) ⟨hx, hb, hml, hown, hts⟩ (rj_get l dC dI kA eD b g5 (pF g5 o 5) j (by omega) hjs) (va_cwF 1 hts gX6_cover_Jx4a65c_get_915e3_f149Jx4a65c rfl rfl rfl hE.2.2.2.2.1 (by decide +kernel) ⟨Nat.le_of_ble_eq_true rfl, Nat.le_of_ble_eq_true rfl⟩) ⟨fb_CX, va_recv hK hP (ci := 3) (q0 := 0) rfl rfl, fun U hU hW => ⟨rfl, CX.give hb0 hM hK hG hE hS hU hW⟩⟩ rfl rfl hl.1 rfl (lv_room (Nat.le_of_ble_eq_true rfl)) dX6_cover_56 ⟨(Nat.le_of_ble_eq_true rfl), (Nat.le_of_ble_eq_true rfl)⟩) hS (fun q _ h => h) (fun q h => h) (fun u r96 t H locs ht hvm hw97 hB hz1 hk1 hS => ?_)
        have hM := hB.1.back ht
        have hG := hB.1.2.2.2.1
        have ht98 : tg g5 r96 = 28 + 64 * j := hB.2.1
        have hg99 : pO g5 (pF g5 (pF g5 o 5) 0) j = some r96 := hB.2.2
        obtain rfl : r13 = r96 := Option.some.inj (hg16.symm.trans hg99)
        obtain ⟨u100, u101, u102, u103, u104, u105, hP, hf⟩ := o_ms (i := j) (q := r13) hM (by omega)
        refine va_castY hx hb hown (hts (.classLink RX6 125 "SnowpalaceModel$Site") (by decide +kernel)) hE.2.2.2.2.2.2.1 (va_recv hK hP (ci := 9) (q0 := 0) rfl rfl) dX6_cover_61 ?_
        refine lv_iload_n hx hb dX6_cover_64 rfl (lv_at hl 3 rfl) ?_
        obtain ⟨u106, u107, u108, u109, u110, u111, hP, hf⟩ := o_ms (i := j) (q := r13) hM (by omega)
        refine rt_putN (D := (dC, dI)) (ci := 9) (v := .int is) (ty := .boolean) (C := RX5) (T := TX5) (N := 10) hx hb hts (by decide +kernel) tyX5 tyX5_ok nmX5 hown hK hP (hM.ge (by omega)) hS rfl 2 (by decide) (hN (.fieldLinkNest RX6 211 "SnowpalaceModel$Site" "hasCover" "Z" RX6) (by decide +kernel)) (fun _ h9 => h9) rfl (by decide +kernel) (z01n his) (z01f his) (Nat.le_of_ble_eq_true rfl) dX6_cover_65 (fun H locs hP hz ho hS => ?_)
        have hM0 := hM
        have hM := p_ms (i := j) (f := upd (pI g5 r13) 0 is) hM (by omega) hP ho ⟨hf.1, hf.2.1, hf.2.2.1, his⟩
        obtain ⟨g113, hg113⟩ : ∃ z, z = uI g5 r13 (upd (pI g5 r13) 0 is) := ⟨_, rfl⟩
        rw [← hg113] at hM
        have ht114 : tg g113 o = 17 := by rw [hg113]; exact ht7
        have ht115 : tg g113 (pF g5 o 5) = 26 := by rw [hg113]; exact hfm
        have ht116 : tg g113 r13 = 28 + 64 * j := by rw [hg113]; exact ht15
        have hG : GOK g113 := by rw [hg113]; exact (hG.uI hM0 (Or.inl (by omega)))
        refine lv_iload_n hx hb dX6_cover_68 rfl (lv_at hl 0 rfl) ?_
        refine W.widen (k := 0) (n := 0) (Nat.le_of_ble_eq_true rfl) (Nat.le_of_ble_eq_true rfl) ?_
        exact W.zret (v := (pI g5 r13 0)) (ty := .boolean) hx hb hr (z01n hv29) (fun t ht hW => ⟨⟨(pI g5 r13 0), g113, rfl, ⟨g5, hx6, Or.inl ⟨hth8.trans c9, j, r13, rfl, hjs, ht15, hg16, rfl, (by subst hg113; rfl)⟩⟩, CX.give hb0 hM hK hG hE hS ht hW⟩, hS.F ht⟩) hS.2.2 dX6_cover_69
  · skip
    have hv118 := vr1 (vr01 hw4.2.2) c9
    refine lv_iconst (v := 0) hx hb dX6_cover_8 (by decide) ?_
    refine W.widen (k := 0) (n := 0) (Nat.le_of_ble_eq_true rfl) (Nat.le_of_ble_eq_true rfl) ?_
    exact W.zret (v := 0) (ty := .boolean) hx hb hr rfl (fun t ht hW => ⟨⟨0, g5, rfl, ⟨g5, hx6, Or.inr ⟨hv118, by rw [hth8]; exact (vr01b hw4.2.2 c9), rfl⟩⟩, CX.give hb0 hM hK hG hE hS ht hW⟩, hS.F ht⟩) hS.2.2 dX6_cover_9

set_option maxHeartbeats 4000000 in
set_option maxRecDepth 100000 in
theorem rmf_squareBits (l : Launch) (dC : Nat → ClassId) (dI : Nat → Nat → Nat) (kA : Nat → ClassId) (eD b : Nat) (g : Gh) (o : Nat) (dr : Int32) (le : Int32) (mat : Int32) (hto : tg g o = 17)  : Met l yX6_squareBits wsX6_squareBits ({ frames := 2, cells := 0, slots := 0, locals := 42 }) (va_Pc [.ref o, .int dr, .int le, .int mat] (CX (dC, dI) kA eD b g)) (va_Ql (fun (r : Int64) (u : Gh) => Ext o X0 g u ∧ ((pI u o 2 = 0 ∧ ∃ j k, dr = nI j ∧ le = nI k ∧ (1 ≤ j ∧ j ≤ 20) ∧ (5 ≤ k ∧ k ≤ 60) ∧ r = sqR (sqw mat (wOf (fun d => pI u ((pO u (pF u o 0) d).getD 0) 0) (fun d => pI u ((pO u (pF u o 0) d).getD 0) 1) (pI u o 0))) j k) ∨ (¬ ((1 ≤ dr.toInt ∧ dr.toInt ≤ 20) ∧ 5 ≤ le.toInt ∧ le.toInt ≤ 60) ∧ pI u o 2 = 1))) (fun (u : Gh) t => CX (dC, dI) kA eD b u t) (fun q => b ≤ q)) 0 0 (fun q => b ≤ q) := by
  refine Met.ofW (cc := cX6_squareBits) (maxL := 8) (ret := (some .long)) (by decide +kernel) rfl ?_
  intro p e s m args below meth c s₁ B hml hv
  obtain ⟨rfl, hb0, hM, hK, hG, hE⟩ := hv
  have hx := B.exec
  have hb := B.bytes
  have hr := B.returns
  have hts := atoms_spec (ws := wsX6_squareBits) B.pre
  have hown : s.vm.findClass RX6 = some m.cls := findClass_of_methodNamed B.named
  have hlocks := B.notSynchronized
  have hT := hE.1
  have hN := hE.2.2.2.2.2.2.2.1
  have hS : va_S (fun q => b ≤ q) s.heap s.heap [] := va_S.rf
  have hl := lv_entry ([.ref o, .int dr, .int le, .int mat]) (n := 8) (Nat.le_of_ble_eq_true rfl)
  rw [lg_entry_eq]
  generalize (lg_sl ([.ref o, .int dr, .int le, .int mat]) ++ List.replicate (8 - (lg_sl ([.ref o, .int dr, .int le, .int mat])).length) Slot.unset).toArray = ls at hl ⊢
  have hl : lv_has ls 8 [(0, .ref o), (1, .int dr), (2, .int le), (3, .int mat)] := hl
  generalize ([.ref o, .int dr, .int le, .int mat] : List Value).toArray = args at hts ⊢
  refine lv_aload_n hx hb dX6_squareBits_0 rfl (lv_at hl 0 rfl) ?_
  refine lv_iload_n hx hb dX6_squareBits_1 rfl (lv_at hl 1 rfl) ?_
  refine lv_i2l hx hb dX6_squareBits_2 rfl ?_
  refine lv_lconst (v := 1) hx hb dX6_squareBits_3 (by decide) ?_
  refine lv_ldc2 hx hb hown (hts (.constantLong RX6 44 20) (by decide +kernel)) dX6_squareBits_4 ?_
  refine va_calli (va_runS (As := [.long dr.toInt64, .long 1, .long 20]) (rest := [.ref o]) ⟨hx, hb, hml, hown, hts⟩ (rm_isBetween l dr.toInt64 1 20 ((dr : Int32).toInt) (1) (20) (Int32.toInt_toInt64 _) (by decide) (by decide)) (va_cwS 3 hts gX6_squareBits_X6_isBetween rfl rfl rfl (by decide +kernel) ⟨Nat.le_of_ble_eq_true rfl, Nat.le_of_ble_eq_true rfl⟩) ⟨fun a U g mk q => q, fun U hU hW => ⟨rfl, trivial⟩⟩ rfl rfl hl.1 rfl (lv_room (Nat.le_of_ble_eq_true rfl)) dX6_squareBits_7 ⟨(Nat.le_of_ble_eq_true rfl), (Nat.le_of_ble_eq_true rfl)⟩) hS (fun q _ h => h.elim) (fun q h => h.elim) (fun r1 u t H locs ht hvm hw2 hB hz1 hk1 hS => ?_)
  have hM := hM.keep (fun p hp => hk1 p hp (fun z => z))
  have hw2 : r1 = bI ((1 : Int) ≤ (dr : Int32).toInt ∧ (dr : Int32).toInt ≤ (20 : Int)) := hw2
  refine lv_if_eq (tgt := 27) hx hb dX6_squareBits_10 (by decide) (fun c3 => ?_) (fun c3 => ?_)
  · skip
    have g4 : ¬ ((1 : Int) ≤ (dr : Int32).toInt ∧ (dr : Int32).toInt ≤ (20 : Int)) := bI_f hw2 c3
    have zg4 : r1 = 0 := bI_f0 hw2 g4
    refine lv_iconst (v := 1) hx hb dX6_squareBits_27 (by decide) ?_
    refine lv_goto (tgt := 32) hx hb dX6_squareBits_28 (by decide) ?_
    obtain ⟨u5, u6, hP, hf⟩ := o_mo (i := 0) (q := o) hM (by omega)
    refine va_calli (va_runV (As := [.int 1]) (rest := []) ⟨hx, hb, hml, hown, hts⟩ (rm_isWrong l dC dI kA eD b g o 1 (by omega)) (cwV 1 hts gX6_squareBits_X6_isWrong rfl rfl rfl (by decide +kernel) ⟨Nat.le_of_ble_eq_true rfl, Nat.le_of_ble_eq_true rfl⟩) ⟨fb_CX, va_recv hK hP (ci := 10) (q0 := 0) rfl rfl, fun U hU hW => ⟨rfl, CX.give hb0 hM hK hG hE hS hU hW⟩⟩ rfl rfl hl.1 rfl (lv_room (Nat.le_of_ble_eq_true rfl)) dX6_squareBits_32 ⟨(Nat.le_of_ble_eq_true rfl), (Nat.le_of_ble_eq_true rfl)⟩) hS (fun q _ h => h) (fun q h => h) (fun r7 g9 t H locs ht hvm hw8 hB hz1 hk1 hS => ?_)
    have hM := hB.back ht
    have hG := hB.2.2.2.1
    have hx10 : Ext o X0 g g9 := hw8.1
    have ht11 : tg g9 o = 17 := hx10.tk hto (by omega)
    obtain rfl : r7 = 1 := hw8.2.2.trans (by decide)
    have hth12 : pI g9 o 2 = 1 := by rw [hw8.2.1]; exact sI_at
    refine lv_if_eq (tgt := 40) hx hb dX6_squareBits_35 (by decide) (fun cx => by first | exact absurd cx (by decide) | exact absurd (by decide) cx) (fun _ => ?_)
    refine lv_lconst (v := 0) hx hb dX6_squareBits_38 (by decide) ?_
    refine W.widen (k := 0) (n := 0) (Nat.le_of_ble_eq_true rfl) (Nat.le_of_ble_eq_true rfl) ?_
    exact W.lret (v := 0) hx hb hr (fun t ht hW => ⟨⟨0, g9, rfl, ⟨hx10, Or.inr ⟨by omega, hth12⟩⟩, CX.give hb0 hM hK hG hE hS ht hW⟩, hS.F ht⟩) hS.2.2 dX6_squareBits_39
  · skip
    have g13 : (1 : Int) ≤ (dr : Int32).toInt ∧ (dr : Int32).toInt ≤ (20 : Int) := bI_t hw2 c3
    have zg13 : r1 = 1 := bI_t1 hw2 g13
    refine lv_iload_n hx hb dX6_squareBits_13 rfl (lv_at hl 2 rfl) ?_
    refine lv_i2l hx hb dX6_squareBits_14 rfl ?_
    refine lv_ldc2 hx hb hown (hts (.constantLong RX6 143 5) (by decide +kernel)) dX6_squareBits_15 ?_
    refine lv_ldc2 hx hb hown (hts (.constantLong RX6 238 60) (by decide +kernel)) dX6_squareBits_18 ?_
    refine va_calli (va_runS (As := [.long le.toInt64, .long 5, .long 60]) (rest := [.ref o]) ⟨hx, hb, hml, hown, hts⟩ (rm_isBetween l le.toInt64 5 60 ((le : Int32).toInt) (5) (60) (Int32.toInt_toInt64 _) (by decide) (by decide)) (va_cwS 3 hts gX6_squareBits_X6_isBetween rfl rfl rfl (by decide +kernel) ⟨Nat.le_of_ble_eq_true rfl, Nat.le_of_ble_eq_true rfl⟩) ⟨fun a U g mk q => q, fun U hU hW => ⟨rfl, trivial⟩⟩ rfl rfl hl.1 rfl (lv_room (Nat.le_of_ble_eq_true rfl)) dX6_squareBits_21 ⟨(Nat.le_of_ble_eq_true rfl), (Nat.le_of_ble_eq_true rfl)⟩) hS (fun q _ h => h.elim) (fun q h => h.elim) (fun r14 u t H locs ht hvm hw15 hB hz1 hk1 hS => ?_)
    have hM := hM.keep (fun p hp => hk1 p hp (fun z => z))
    have hw15 : r14 = bI ((5 : Int) ≤ (le : Int32).toInt ∧ (le : Int32).toInt ≤ (60 : Int)) := hw15
    refine lv_if_ne (tgt := 31) hx hb dX6_squareBits_24 (by decide) (fun c16 => ?_) (fun c16 => ?_)
    · skip
      have g17 : (5 : Int) ≤ (le : Int32).toInt ∧ (le : Int32).toInt ≤ (60 : Int) := bI_t hw15 c16
      have zg17 : r14 = 1 := bI_t1 hw15 g17
      refine lv_iconst (v := 0) hx hb dX6_squareBits_31 (by decide) ?_
      obtain ⟨u18, u19, hP, hf⟩ := o_mo (i := 0) (q := o) hM (by omega)
      refine va_calli (va_runV (As := [.int 0]) (rest := []) ⟨hx, hb, hml, hown, hts⟩ (rm_isWrong l dC dI kA eD b g o 0 (by omega)) (cwV 1 hts gX6_squareBits_X6_isWrong rfl rfl rfl (by decide +kernel) ⟨Nat.le_of_ble_eq_true rfl, Nat.le_of_ble_eq_true rfl⟩) ⟨fb_CX, va_recv hK hP (ci := 10) (q0 := 0) rfl rfl, fun U hU hW => ⟨rfl, CX.give hb0 hM hK hG hE hS hU hW⟩⟩ rfl rfl hl.1 rfl (lv_room (Nat.le_of_ble_eq_true rfl)) dX6_squareBits_32 ⟨(Nat.le_of_ble_eq_true rfl), (Nat.le_of_ble_eq_true rfl)⟩) hS (fun q _ h => h) (fun q h => h) (fun r20 g22 t H locs ht hvm hw21 hB hz1 hk1 hS => ?_)
      have hM := hB.back ht
      have hG := hB.2.2.2.1
      have hx23 : Ext o X0 g g22 := hw21.1
      have ht24 : tg g22 o = 17 := hx23.tk hto (by omega)
      obtain rfl : r20 = 0 := hw21.2.2.trans (by decide)
      have hth25 : pI g22 o 2 = 0 := by rw [hw21.2.1]; exact sI_at
      refine lv_if_eq (tgt := 40) hx hb dX6_squareBits_35 (by decide) (fun _ => ?_) (fun cx => by first | exact absurd (by decide) cx | exact absurd cx (by decide))
      obtain ⟨j, hj, rfl⟩ := toN (p := dr) (k := 20) (by omega) (by omega) (by decide)
      have hl : lv_has ls 8 [(0, .ref o), (1, .int (nI j)), (2, .int le), (3, .int mat)] := hl
      obtain ⟨k, hk, rfl⟩ := toN (p := le) (k := 60) (by omega) (by omega) (by decide)
      have hl : lv_has ls 8 [(0, .ref o), (1, .int (nI j)), (2, .int (nI k)), (3, .int mat)] := hl
      have ej : (nI j).toInt = (j : Int) := nI_toInt (by omega)
      have ek : (nI k).toInt = (k : Int) := nI_toInt (by omega)
      refine lv_iload_n hx hb dX6_squareBits_40 rfl (lv_at hl 3 rfl) ?_
      refine lv_if_eq (tgt := 50) hx hb dX6_squareBits_41 (by decide) (fun c26 => ?_) (fun c26 => ?_)
      · skip
        refine lv_ldc2d hx hb hown (hts (.constantDouble RX6 242 4587366580439587226) (by decide +kernel)) dX6_squareBits_50 ?_
        refine lv_aload_n hx hb dX6_squareBits_53 rfl (lv_at hl 0 rfl) ?_
        refine lv_aload_n hx hb dX6_squareBits_54 rfl (lv_at hl 0 rfl) ?_
        obtain ⟨u27, u28, hP, hf⟩ := o_mo (i := 0) (q := o) hM (by omega)
        refine va_get (D := (dC, dI)) (ci := 10) (v := .int (pI g22 o 0)) (C := RX6) (T := TX6) (N := 11) hx hb hts (by decide +kernel) hown hK hP 0 rfl rfl 2 (by decide) (hts (.fieldLink RX6 58 "SnowpalaceModel" "hour" "I") (by decide +kernel)) (fun _ h9 => h9) rfl dX6_squareBits_55 ?_
        have hv29 := hf.2.2.2.2.2.2.1
        obtain ⟨j30, hj30, en31⟩ := toN (p := (pI g22 o 0)) (k := 504) (by omega) (by omega) (by decide)
        rw [en31]
        try rw [en31] at hl
        have hl : lv_has ls 8 [(0, .ref o), (1, .int (nI j)), (2, .int (nI k)), (3, .int mat)] := hl
        obtain ⟨u32, u33, hP, hf⟩ := o_mo (i := 0) (q := o) hM (by omega)
        refine va_calli (va_runV (As := [.int (nI j30)]) (rest := [.double 4587366580439587226]) ⟨hx, hb, hml, hown, hts⟩ (rm_warmthOf l dC dI kA eD b g22 o j30 (by omega) (by omega)) (cwV 1 hts gX6_squareBits_X6_warmthOf rfl rfl rfl (by decide +kernel) ⟨Nat.le_of_ble_eq_true rfl, Nat.le_of_ble_eq_true rfl⟩) ⟨fb_CX, va_recv hK hP (ci := 10) (q0 := 0) rfl rfl, fun U hU hW => ⟨rfl, CX.give hb0 hM hK hG hE hS hU hW⟩⟩ rfl rfl hl.1 rfl (lv_room (Nat.le_of_ble_eq_true rfl)) dX6_squareBits_58 ⟨(Nat.le_of_ble_eq_true rfl), (Nat.le_of_ble_eq_true rfl)⟩) hS (fun q _ h => h) (fun q h => h) (fun r34 u t H locs ht hvm hw35 hB hz1 hk1 hS => ?_)
        have hM := hB.back ht
        have hG := hB.2.2.2.1
        have hwm36 : r34 = wOf (fun d => pI g22 ((pO g22 (pF g22 o 0) d).getD 0) 0) (fun d => pI g22 ((pO g22 (pF g22 o 0) d).getD 0) 1) (pI g22 o 0) := by rw [en31]; exact hw35
        refine lv_if_le (tgt := 70) hx hb dX6_squareBits_61 (by decide) (fun c37 => ?_) (fun c37 => ?_)
        · skip
          have i38 := (Int32.le_iff_toInt_le).mp c37
          have ii38 : (0 : Int32).toInt = 0 := by decide
          have i38 := i38
          refine lv_dconst0 hx hb dX6_squareBits_70 ?_
          refine lv_dadd hx hb dX6_squareBits_71 (by rw [sq_d0]; exact n64b_of (by decide +kernel)) ?_
          rw [sq_d0]
          refine lv_dstore (lv' := [(4, .double 4587366580439587226), (0, .ref o), (1, .int (nI j)), (2, .int (nI k)), (3, .int mat)]) hx hb dX6_squareBits_72 hl (by decide) rfl (fun ls hl => ?_)
          obtain ⟨ht1, ht2, ht3, ht4, ht5, ht6⟩ := sq_tab 0 (by decide) hj hk
          refine lv_ldc2d hx hb hown (hts (.constantDouble RX6 244 4626215756725191967) (by decide +kernel)) dX6_squareBits_74 ?_
          refine lv_iload_n hx hb dX6_squareBits_77 rfl (lv_at hl 2 rfl) ?_
          refine lv_i2d hx hb dX6_squareBits_78 ?_
          refine lv_dload hx hb dX6_squareBits_79 (lv_at hl 0 rfl) ?_
          refine lv_iload_n hx hb dX6_squareBits_81 rfl (lv_at hl 3 rfl) ?_
          refine lv_i2d hx hb dX6_squareBits_82 ?_
          refine lv_dmul hx hb dX6_squareBits_83 (n64b_of ht1) ?_
          refine lv_dsub hx hb dX6_squareBits_84 (n64b_of ht2) ?_
          refine lv_dmul hx hb dX6_squareBits_85 (n64b_of ht3) ?_
          refine lv_dstore (lv' := [(6, .double (FP.dmul 4626215756725191967 (FP.dsub (FP.i2d (nI j)) (FP.dmul 4587366580439587226 (FP.i2d (nI k)))))), (4, .double 4587366580439587226), (0, .ref o), (1, .int (nI j)), (2, .int (nI k)), (3, .int mat)]) hx hb dX6_squareBits_86 hl (by decide) rfl (fun ls hl => ?_)
          refine lv_dload hx hb dX6_squareBits_88 (lv_at hl 0 rfl) ?_
          refine lv_dconst0 hx hb dX6_squareBits_90 ?_
          refine lv_dcmp hx hb dX6_squareBits_91 ?_
          refine lv_if_le (tgt := 100) hx hb dX6_squareBits_92 (by decide) (fun c39 => ?_) (fun c39 => ?_)
          · skip
            have i40 := (Int32.le_iff_toInt_le).mp c39
            have ii40 : (0 : Int32).toInt = 0 := by decide
            have i40 := i40
            have hnp : ¬ pos (sqx 0 j k) = true := fun z => pos_le.mp (ht4 ▸ z) c39
            refine lv_dconst0 hx hb dX6_squareBits_100 ?_
            refine va_calll (va_runS (As := [.double FP.dconst0]) (rest := []) ⟨hx, hb, hml, hown, hts⟩ (j_d2l l FP.dconst0 sq_zn) (va_cwS 1 hts gX6_squareBits_Jxe99ae_doubleToLongBits_ccdee rfl rfl rfl (by decide +kernel) ⟨Nat.le_of_ble_eq_true rfl, Nat.le_of_ble_eq_true rfl⟩) ⟨fun a U g mk q => q, fun U hU hW => ⟨rfl, trivial⟩⟩ rfl rfl hl.1 rfl (lv_room (Nat.le_of_ble_eq_true rfl)) dX6_squareBits_101 ⟨(Nat.le_of_ble_eq_true rfl), (Nat.le_of_ble_eq_true rfl)⟩) hS (fun q _ h => h.elim) (fun q h => h.elim) (fun r41 u t H locs ht hvm hw42 hB hz1 hk1 hS => ?_)
            have hM := hM.keep (fun p hp => hk1 p hp (fun z => z))
            have hsw43 : sqw mat (wOf (fun d => pI g22 ((pO g22 (pF g22 o 0) d).getD 0) 0) (fun d => pI g22 ((pO g22 (pF g22 o 0) d).getD 0) 1) (pI g22 o 0)) = 0 := by unfold sqw; rw [← hwm36, if_pos c26, if_neg (fun z9 => absurd c37 (Int32.not_le.mpr z9))]
            refine W.widen (k := 0) (n := 0) (Nat.le_of_ble_eq_true rfl) (Nat.le_of_ble_eq_true rfl) ?_
            exact W.lret (v := r41) hx hb hr (fun t ht hW => ⟨⟨r41, g22, rfl, ⟨hx23, Or.inl ⟨hth25, j, k, rfl, rfl, by omega, by omega, by rw [hsw43]; rw [show r41 = _ from hw42]; unfold sqR; rw [if_neg hnp]; decide +kernel⟩⟩, CX.give hb0 hM hK hG hE hS ht hW⟩, hS.F ht⟩) hS.2.2 dX6_squareBits_104
          · skip
            have i44 := fun z => c39 ((Int32.le_iff_toInt_le).mpr z)
            have ii44 : (0 : Int32).toInt = 0 := by decide
            have i44 : ¬ ((Op.cmpValue (FP.dcmp (FP.dmul 4626215756725191967 (FP.dsub (FP.i2d (nI j)) (FP.dmul 4587366580439587226 (FP.i2d (nI k))))) FP.dconst0) .l : Int32).toInt ≤ (0 : Int32).toInt) := i44
            have hpp : pos (sqx 0 j k) = true := ht4.trans (pos_le.mpr c39)
            refine lv_dload hx hb dX6_squareBits_95 (lv_at hl 0 rfl) ?_
            refine lv_goto (tgt := 101) hx hb dX6_squareBits_97 (by decide) ?_
            refine va_calll (va_runS (As := [.double (FP.dmul 4626215756725191967 (FP.dsub (FP.i2d (nI j)) (FP.dmul 4587366580439587226 (FP.i2d (nI k)))))]) (rest := []) ⟨hx, hb, hml, hown, hts⟩ (j_d2l l (FP.dmul 4626215756725191967 (FP.dsub (FP.i2d (nI j)) (FP.dmul 4587366580439587226 (FP.i2d (nI k))))) ht5) (va_cwS 1 hts gX6_squareBits_Jxe99ae_doubleToLongBits_ccdee rfl rfl rfl (by decide +kernel) ⟨Nat.le_of_ble_eq_true rfl, Nat.le_of_ble_eq_true rfl⟩) ⟨fun a U g mk q => q, fun U hU hW => ⟨rfl, trivial⟩⟩ rfl rfl hl.1 rfl (lv_room (Nat.le_of_ble_eq_true rfl)) dX6_squareBits_101 ⟨(Nat.le_of_ble_eq_true rfl), (Nat.le_of_ble_eq_true rfl)⟩) hS (fun q _ h => h.elim) (fun q h => h.elim) (fun r45 u t H locs ht hvm hw46 hB hz1 hk1 hS => ?_)
            have hM := hM.keep (fun p hp => hk1 p hp (fun z => z))
            have hsw47 : sqw mat (wOf (fun d => pI g22 ((pO g22 (pF g22 o 0) d).getD 0) 0) (fun d => pI g22 ((pO g22 (pF g22 o 0) d).getD 0) 1) (pI g22 o 0)) = 0 := by unfold sqw; rw [← hwm36, if_pos c26, if_neg (fun z9 => absurd c37 (Int32.not_le.mpr z9))]
            refine W.widen (k := 0) (n := 0) (Nat.le_of_ble_eq_true rfl) (Nat.le_of_ble_eq_true rfl) ?_
            exact W.lret (v := r45) hx hb hr (fun t ht hW => ⟨⟨r45, g22, rfl, ⟨hx23, Or.inl ⟨hth25, j, k, rfl, rfl, by omega, by omega, by rw [hsw47]; rw [show r45 = _ from hw46]; unfold sqR; rw [if_pos hpp]; rfl⟩⟩, CX.give hb0 hM hK hG hE hS ht hW⟩, hS.F ht⟩) hS.2.2 dX6_squareBits_104
        · skip
          have i48 := fun z => c37 ((Int32.le_iff_toInt_le).mpr z)
          have ii48 : (0 : Int32).toInt = 0 := by decide
          have i48 : ¬ ((r34 : Int32).toInt ≤ (0 : Int32).toInt) := i48
          refine lv_ldc2d hx hb hown (hts (.constantDouble RX6 242 4587366580439587226) (by decide +kernel)) dX6_squareBits_64 ?_
          refine lv_goto (tgt := 71) hx hb dX6_squareBits_67 (by decide) ?_
          refine lv_dadd hx hb dX6_squareBits_71 (by rw [sq_a0]; exact n64b_of (by decide +kernel)) ?_
          rw [sq_a0]
          refine lv_dstore (lv' := [(4, .double (sqk 1)), (0, .ref o), (1, .int (nI j)), (2, .int (nI k)), (3, .int mat)]) hx hb dX6_squareBits_72 hl (by decide) rfl (fun ls hl => ?_)
          obtain ⟨ht1, ht2, ht3, ht4, ht5, ht6⟩ := sq_tab 1 (by decide) hj hk
          refine lv_ldc2d hx hb hown (hts (.constantDouble RX6 244 4626215756725191967) (by decide +kernel)) dX6_squareBits_74 ?_
          refine lv_iload_n hx hb dX6_squareBits_77 rfl (lv_at hl 2 rfl) ?_
          refine lv_i2d hx hb dX6_squareBits_78 ?_
          refine lv_dload hx hb dX6_squareBits_79 (lv_at hl 0 rfl) ?_
          refine lv_iload_n hx hb dX6_squareBits_81 rfl (lv_at hl 3 rfl) ?_
          refine lv_i2d hx hb dX6_squareBits_82 ?_
          refine lv_dmul hx hb dX6_squareBits_83 (n64b_of ht1) ?_
          refine lv_dsub hx hb dX6_squareBits_84 (n64b_of ht2) ?_
          refine lv_dmul hx hb dX6_squareBits_85 (n64b_of ht3) ?_
          refine lv_dstore (lv' := [(6, .double (FP.dmul 4626215756725191967 (FP.dsub (FP.i2d (nI j)) (FP.dmul (sqk 1) (FP.i2d (nI k)))))), (4, .double (sqk 1)), (0, .ref o), (1, .int (nI j)), (2, .int (nI k)), (3, .int mat)]) hx hb dX6_squareBits_86 hl (by decide) rfl (fun ls hl => ?_)
          refine lv_dload hx hb dX6_squareBits_88 (lv_at hl 0 rfl) ?_
          refine lv_dconst0 hx hb dX6_squareBits_90 ?_
          refine lv_dcmp hx hb dX6_squareBits_91 ?_
          refine lv_if_le (tgt := 100) hx hb dX6_squareBits_92 (by decide) (fun c49 => ?_) (fun c49 => ?_)
          · skip
            have i50 := (Int32.le_iff_toInt_le).mp c49
            have ii50 : (0 : Int32).toInt = 0 := by decide
            have i50 := i50
            have hnp : ¬ pos (sqx 1 j k) = true := fun z => pos_le.mp (ht4 ▸ z) c49
            refine lv_dconst0 hx hb dX6_squareBits_100 ?_
            refine va_calll (va_runS (As := [.double FP.dconst0]) (rest := []) ⟨hx, hb, hml, hown, hts⟩ (j_d2l l FP.dconst0 sq_zn) (va_cwS 1 hts gX6_squareBits_Jxe99ae_doubleToLongBits_ccdee rfl rfl rfl (by decide +kernel) ⟨Nat.le_of_ble_eq_true rfl, Nat.le_of_ble_eq_true rfl⟩) ⟨fun a U g mk q => q, fun U hU hW => ⟨rfl, trivial⟩⟩ rfl rfl hl.1 rfl (lv_room (Nat.le_of_ble_eq_true rfl)) dX6_squareBits_101 ⟨(Nat.le_of_ble_eq_true rfl), (Nat.le_of_ble_eq_true rfl)⟩) hS (fun q _ h => h.elim) (fun q h => h.elim) (fun r51 u t H locs ht hvm hw52 hB hz1 hk1 hS => ?_)
            have hM := hM.keep (fun p hp => hk1 p hp (fun z => z))
            have hsw53 : sqw mat (wOf (fun d => pI g22 ((pO g22 (pF g22 o 0) d).getD 0) 0) (fun d => pI g22 ((pO g22 (pF g22 o 0) d).getD 0) 1) (pI g22 o 0)) = 1 := by unfold sqw; rw [← hwm36, if_pos c26, if_pos (Int32.not_le.mp c37)]
            refine W.widen (k := 0) (n := 0) (Nat.le_of_ble_eq_true rfl) (Nat.le_of_ble_eq_true rfl) ?_
            exact W.lret (v := r51) hx hb hr (fun t ht hW => ⟨⟨r51, g22, rfl, ⟨hx23, Or.inl ⟨hth25, j, k, rfl, rfl, by omega, by omega, by rw [hsw53]; rw [show r51 = _ from hw52]; unfold sqR; rw [if_neg hnp]; decide +kernel⟩⟩, CX.give hb0 hM hK hG hE hS ht hW⟩, hS.F ht⟩) hS.2.2 dX6_squareBits_104
          · skip
            have i54 := fun z => c49 ((Int32.le_iff_toInt_le).mpr z)
            have ii54 : (0 : Int32).toInt = 0 := by decide
            have i54 : ¬ ((Op.cmpValue (FP.dcmp (FP.dmul 4626215756725191967 (FP.dsub (FP.i2d (nI j)) (FP.dmul (sqk 1) (FP.i2d (nI k))))) FP.dconst0) .l : Int32).toInt ≤ (0 : Int32).toInt) := i54
            have hpp : pos (sqx 1 j k) = true := ht4.trans (pos_le.mpr c49)
            refine lv_dload hx hb dX6_squareBits_95 (lv_at hl 0 rfl) ?_
            refine lv_goto (tgt := 101) hx hb dX6_squareBits_97 (by decide) ?_
            refine va_calll (va_runS (As := [.double (FP.dmul 4626215756725191967 (FP.dsub (FP.i2d (nI j)) (FP.dmul (sqk 1) (FP.i2d (nI k)))))]) (rest := []) ⟨hx, hb, hml, hown, hts⟩ (j_d2l l (FP.dmul 4626215756725191967 (FP.dsub (FP.i2d (nI j)) (FP.dmul (sqk 1) (FP.i2d (nI k))))) ht5) (va_cwS 1 hts gX6_squareBits_Jxe99ae_doubleToLongBits_ccdee rfl rfl rfl (by decide +kernel) ⟨Nat.le_of_ble_eq_true rfl, Nat.le_of_ble_eq_true rfl⟩) ⟨fun a U g mk q => q, fun U hU hW => ⟨rfl, trivial⟩⟩ rfl rfl hl.1 rfl (lv_room (Nat.le_of_ble_eq_true rfl)) dX6_squareBits_101 ⟨(Nat.le_of_ble_eq_true rfl), (Nat.le_of_ble_eq_true rfl)⟩) hS (fun q _ h => h.elim) (fun q h => h.elim) (fun r55 u t H locs ht hvm hw56 hB hz1 hk1 hS => ?_)
            have hM := hM.keep (fun p hp => hk1 p hp (fun z => z))
            have hsw57 : sqw mat (wOf (fun d => pI g22 ((pO g22 (pF g22 o 0) d).getD 0) 0) (fun d => pI g22 ((pO g22 (pF g22 o 0) d).getD 0) 1) (pI g22 o 0)) = 1 := by unfold sqw; rw [← hwm36, if_pos c26, if_pos (Int32.not_le.mp c37)]
            refine W.widen (k := 0) (n := 0) (Nat.le_of_ble_eq_true rfl) (Nat.le_of_ble_eq_true rfl) ?_
            exact W.lret (v := r55) hx hb hr (fun t ht hW => ⟨⟨r55, g22, rfl, ⟨hx23, Or.inl ⟨hth25, j, k, rfl, rfl, by omega, by omega, by rw [hsw57]; rw [show r55 = _ from hw56]; unfold sqR; rw [if_pos hpp]; rfl⟩⟩, CX.give hb0 hM hK hG hE hS ht hW⟩, hS.F ht⟩) hS.2.2 dX6_squareBits_104
      · skip
        refine lv_ldc2d hx hb hown (hts (.constantDouble RX6 240 4591870180066957722) (by decide +kernel)) dX6_squareBits_44 ?_
        refine lv_goto (tgt := 53) hx hb dX6_squareBits_47 (by decide) ?_
        refine lv_aload_n hx hb dX6_squareBits_53 rfl (lv_at hl 0 rfl) ?_
        refine lv_aload_n hx hb dX6_squareBits_54 rfl (lv_at hl 0 rfl) ?_
        obtain ⟨u58, u59, hP, hf⟩ := o_mo (i := 0) (q := o) hM (by omega)
        refine va_get (D := (dC, dI)) (ci := 10) (v := .int (pI g22 o 0)) (C := RX6) (T := TX6) (N := 11) hx hb hts (by decide +kernel) hown hK hP 0 rfl rfl 2 (by decide) (hts (.fieldLink RX6 58 "SnowpalaceModel" "hour" "I") (by decide +kernel)) (fun _ h9 => h9) rfl dX6_squareBits_55 ?_
        have hv60 := hf.2.2.2.2.2.2.1
        obtain ⟨j61, hj61, en62⟩ := toN (p := (pI g22 o 0)) (k := 504) (by omega) (by omega) (by decide)
        rw [en62]
        try rw [en62] at hl
        have hl : lv_has ls 8 [(0, .ref o), (1, .int (nI j)), (2, .int (nI k)), (3, .int mat)] := hl
        obtain ⟨u63, u64, hP, hf⟩ := o_mo (i := 0) (q := o) hM (by omega)
        refine va_calli (va_runV (As := [.int (nI j61)]) (rest := [.double 4591870180066957722]) ⟨hx, hb, hml, hown, hts⟩ (rm_warmthOf l dC dI kA eD b g22 o j61 (by omega) (by omega)) (cwV 1 hts gX6_squareBits_X6_warmthOf rfl rfl rfl (by decide +kernel) ⟨Nat.le_of_ble_eq_true rfl, Nat.le_of_ble_eq_true rfl⟩) ⟨fb_CX, va_recv hK hP (ci := 10) (q0 := 0) rfl rfl, fun U hU hW => ⟨rfl, CX.give hb0 hM hK hG hE hS hU hW⟩⟩ rfl rfl hl.1 rfl (lv_room (Nat.le_of_ble_eq_true rfl)) dX6_squareBits_58 ⟨(Nat.le_of_ble_eq_true rfl), (Nat.le_of_ble_eq_true rfl)⟩) hS (fun q _ h => h) (fun q h => h) (fun r65 u t H locs ht hvm hw66 hB hz1 hk1 hS => ?_)
        have hM := hB.back ht
        have hG := hB.2.2.2.1
        have hwm67 : r65 = wOf (fun d => pI g22 ((pO g22 (pF g22 o 0) d).getD 0) 0) (fun d => pI g22 ((pO g22 (pF g22 o 0) d).getD 0) 1) (pI g22 o 0) := by rw [en62]; exact hw66
        refine lv_if_le (tgt := 70) hx hb dX6_squareBits_61 (by decide) (fun c68 => ?_) (fun c68 => ?_)
        · skip
          have i69 := (Int32.le_iff_toInt_le).mp c68
          have ii69 : (0 : Int32).toInt = 0 := by decide
          have i69 := i69
          refine lv_dconst0 hx hb dX6_squareBits_70 ?_
          refine lv_dadd hx hb dX6_squareBits_71 (by rw [sq_d1]; exact n64b_of (by decide +kernel)) ?_
          rw [sq_d1]
          refine lv_dstore (lv' := [(4, .double 4591870180066957722), (0, .ref o), (1, .int (nI j)), (2, .int (nI k)), (3, .int mat)]) hx hb dX6_squareBits_72 hl (by decide) rfl (fun ls hl => ?_)
          obtain ⟨ht1, ht2, ht3, ht4, ht5, ht6⟩ := sq_tab 1 (by decide) hj hk
          refine lv_ldc2d hx hb hown (hts (.constantDouble RX6 244 4626215756725191967) (by decide +kernel)) dX6_squareBits_74 ?_
          refine lv_iload_n hx hb dX6_squareBits_77 rfl (lv_at hl 2 rfl) ?_
          refine lv_i2d hx hb dX6_squareBits_78 ?_
          refine lv_dload hx hb dX6_squareBits_79 (lv_at hl 0 rfl) ?_
          refine lv_iload_n hx hb dX6_squareBits_81 rfl (lv_at hl 3 rfl) ?_
          refine lv_i2d hx hb dX6_squareBits_82 ?_
          refine lv_dmul hx hb dX6_squareBits_83 (n64b_of ht1) ?_
          refine lv_dsub hx hb dX6_squareBits_84 (n64b_of ht2) ?_
          refine lv_dmul hx hb dX6_squareBits_85 (n64b_of ht3) ?_
          refine lv_dstore (lv' := [(6, .double (FP.dmul 4626215756725191967 (FP.dsub (FP.i2d (nI j)) (FP.dmul 4591870180066957722 (FP.i2d (nI k)))))), (4, .double 4591870180066957722), (0, .ref o), (1, .int (nI j)), (2, .int (nI k)), (3, .int mat)]) hx hb dX6_squareBits_86 hl (by decide) rfl (fun ls hl => ?_)
          refine lv_dload hx hb dX6_squareBits_88 (lv_at hl 0 rfl) ?_
          refine lv_dconst0 hx hb dX6_squareBits_90 ?_
          refine lv_dcmp hx hb dX6_squareBits_91 ?_
          refine lv_if_le (tgt := 100) hx hb dX6_squareBits_92 (by decide) (fun c70 => ?_) (fun c70 => ?_)
          · skip
            have i71 := (Int32.le_iff_toInt_le).mp c70
            have ii71 : (0 : Int32).toInt = 0 := by decide
            have i71 := i71
            have hnp : ¬ pos (sqx 1 j k) = true := fun z => pos_le.mp (ht4 ▸ z) c70
            refine lv_dconst0 hx hb dX6_squareBits_100 ?_
            refine va_calll (va_runS (As := [.double FP.dconst0]) (rest := []) ⟨hx, hb, hml, hown, hts⟩ (j_d2l l FP.dconst0 sq_zn) (va_cwS 1 hts gX6_squareBits_Jxe99ae_doubleToLongBits_ccdee rfl rfl rfl (by decide +kernel) ⟨Nat.le_of_ble_eq_true rfl, Nat.le_of_ble_eq_true rfl⟩) ⟨fun a U g mk q => q, fun U hU hW => ⟨rfl, trivial⟩⟩ rfl rfl hl.1 rfl (lv_room (Nat.le_of_ble_eq_true rfl)) dX6_squareBits_101 ⟨(Nat.le_of_ble_eq_true rfl), (Nat.le_of_ble_eq_true rfl)⟩) hS (fun q _ h => h.elim) (fun q h => h.elim) (fun r72 u t H locs ht hvm hw73 hB hz1 hk1 hS => ?_)
            have hM := hM.keep (fun p hp => hk1 p hp (fun z => z))
            have hsw74 : sqw mat (wOf (fun d => pI g22 ((pO g22 (pF g22 o 0) d).getD 0) 0) (fun d => pI g22 ((pO g22 (pF g22 o 0) d).getD 0) 1) (pI g22 o 0)) = 1 := by unfold sqw; rw [← hwm67, if_neg c26, if_neg (fun z9 => absurd c68 (Int32.not_le.mpr z9))]
            refine W.widen (k := 0) (n := 0) (Nat.le_of_ble_eq_true rfl) (Nat.le_of_ble_eq_true rfl) ?_
            exact W.lret (v := r72) hx hb hr (fun t ht hW => ⟨⟨r72, g22, rfl, ⟨hx23, Or.inl ⟨hth25, j, k, rfl, rfl, by omega, by omega, by rw [hsw74]; rw [show r72 = _ from hw73]; unfold sqR; rw [if_neg hnp]; decide +kernel⟩⟩, CX.give hb0 hM hK hG hE hS ht hW⟩, hS.F ht⟩) hS.2.2 dX6_squareBits_104
          · skip
            have i75 := fun z => c70 ((Int32.le_iff_toInt_le).mpr z)
            have ii75 : (0 : Int32).toInt = 0 := by decide
            have i75 : ¬ ((Op.cmpValue (FP.dcmp (FP.dmul 4626215756725191967 (FP.dsub (FP.i2d (nI j)) (FP.dmul 4591870180066957722 (FP.i2d (nI k))))) FP.dconst0) .l : Int32).toInt ≤ (0 : Int32).toInt) := i75
            have hpp : pos (sqx 1 j k) = true := ht4.trans (pos_le.mpr c70)
            refine lv_dload hx hb dX6_squareBits_95 (lv_at hl 0 rfl) ?_
            refine lv_goto (tgt := 101) hx hb dX6_squareBits_97 (by decide) ?_
            refine va_calll (va_runS (As := [.double (FP.dmul 4626215756725191967 (FP.dsub (FP.i2d (nI j)) (FP.dmul 4591870180066957722 (FP.i2d (nI k)))))]) (rest := []) ⟨hx, hb, hml, hown, hts⟩ (j_d2l l (FP.dmul 4626215756725191967 (FP.dsub (FP.i2d (nI j)) (FP.dmul 4591870180066957722 (FP.i2d (nI k))))) ht5) (va_cwS 1 hts gX6_squareBits_Jxe99ae_doubleToLongBits_ccdee rfl rfl rfl (by decide +kernel) ⟨Nat.le_of_ble_eq_true rfl, Nat.le_of_ble_eq_true rfl⟩) ⟨fun a U g mk q => q, fun U hU hW => ⟨rfl, trivial⟩⟩ rfl rfl hl.1 rfl (lv_room (Nat.le_of_ble_eq_true rfl)) dX6_squareBits_101 ⟨(Nat.le_of_ble_eq_true rfl), (Nat.le_of_ble_eq_true rfl)⟩) hS (fun q _ h => h.elim) (fun q h => h.elim) (fun r76 u t H locs ht hvm hw77 hB hz1 hk1 hS => ?_)
            have hM := hM.keep (fun p hp => hk1 p hp (fun z => z))
            have hsw78 : sqw mat (wOf (fun d => pI g22 ((pO g22 (pF g22 o 0) d).getD 0) 0) (fun d => pI g22 ((pO g22 (pF g22 o 0) d).getD 0) 1) (pI g22 o 0)) = 1 := by unfold sqw; rw [← hwm67, if_neg c26, if_neg (fun z9 => absurd c68 (Int32.not_le.mpr z9))]
            refine W.widen (k := 0) (n := 0) (Nat.le_of_ble_eq_true rfl) (Nat.le_of_ble_eq_true rfl) ?_
            exact W.lret (v := r76) hx hb hr (fun t ht hW => ⟨⟨r76, g22, rfl, ⟨hx23, Or.inl ⟨hth25, j, k, rfl, rfl, by omega, by omega, by rw [hsw78]; rw [show r76 = _ from hw77]; unfold sqR; rw [if_pos hpp]; rfl⟩⟩, CX.give hb0 hM hK hG hE hS ht hW⟩, hS.F ht⟩) hS.2.2 dX6_squareBits_104
        · skip
          have i79 := fun z => c68 ((Int32.le_iff_toInt_le).mpr z)
          have ii79 : (0 : Int32).toInt = 0 := by decide
          have i79 : ¬ ((r65 : Int32).toInt ≤ (0 : Int32).toInt) := i79
          refine lv_ldc2d hx hb hown (hts (.constantDouble RX6 242 4587366580439587226) (by decide +kernel)) dX6_squareBits_64 ?_
          refine lv_goto (tgt := 71) hx hb dX6_squareBits_67 (by decide) ?_
          refine lv_dadd hx hb dX6_squareBits_71 (by rw [sq_a1]; exact n64b_of (by decide +kernel)) ?_
          rw [sq_a1]
          refine lv_dstore (lv' := [(4, .double (sqk 2)), (0, .ref o), (1, .int (nI j)), (2, .int (nI k)), (3, .int mat)]) hx hb dX6_squareBits_72 hl (by decide) rfl (fun ls hl => ?_)
          obtain ⟨ht1, ht2, ht3, ht4, ht5, ht6⟩ := sq_tab 2 (by decide) hj hk
          refine lv_ldc2d hx hb hown (hts (.constantDouble RX6 244 4626215756725191967) (by decide +kernel)) dX6_squareBits_74 ?_
          refine lv_iload_n hx hb dX6_squareBits_77 rfl (lv_at hl 2 rfl) ?_
          refine lv_i2d hx hb dX6_squareBits_78 ?_
          refine lv_dload hx hb dX6_squareBits_79 (lv_at hl 0 rfl) ?_
          refine lv_iload_n hx hb dX6_squareBits_81 rfl (lv_at hl 3 rfl) ?_
          refine lv_i2d hx hb dX6_squareBits_82 ?_
          refine lv_dmul hx hb dX6_squareBits_83 (n64b_of ht1) ?_
          refine lv_dsub hx hb dX6_squareBits_84 (n64b_of ht2) ?_
          refine lv_dmul hx hb dX6_squareBits_85 (n64b_of ht3) ?_
          refine lv_dstore (lv' := [(6, .double (FP.dmul 4626215756725191967 (FP.dsub (FP.i2d (nI j)) (FP.dmul (sqk 2) (FP.i2d (nI k)))))), (4, .double (sqk 2)), (0, .ref o), (1, .int (nI j)), (2, .int (nI k)), (3, .int mat)]) hx hb dX6_squareBits_86 hl (by decide) rfl (fun ls hl => ?_)
          refine lv_dload hx hb dX6_squareBits_88 (lv_at hl 0 rfl) ?_
          refine lv_dconst0 hx hb dX6_squareBits_90 ?_
          refine lv_dcmp hx hb dX6_squareBits_91 ?_
          refine lv_if_le (tgt := 100) hx hb dX6_squareBits_92 (by decide) (fun c80 => ?_) (fun c80 => ?_)
          · skip
            have i81 := (Int32.le_iff_toInt_le).mp c80
            have ii81 : (0 : Int32).toInt = 0 := by decide
            have i81 := i81
            have hnp : ¬ pos (sqx 2 j k) = true := fun z => pos_le.mp (ht4 ▸ z) c80
            refine lv_dconst0 hx hb dX6_squareBits_100 ?_
            refine va_calll (va_runS (As := [.double FP.dconst0]) (rest := []) ⟨hx, hb, hml, hown, hts⟩ (j_d2l l FP.dconst0 sq_zn) (va_cwS 1 hts gX6_squareBits_Jxe99ae_doubleToLongBits_ccdee rfl rfl rfl (by decide +kernel) ⟨Nat.le_of_ble_eq_true rfl, Nat.le_of_ble_eq_true rfl⟩) ⟨fun a U g mk q => q, fun U hU hW => ⟨rfl, trivial⟩⟩ rfl rfl hl.1 rfl (lv_room (Nat.le_of_ble_eq_true rfl)) dX6_squareBits_101 ⟨(Nat.le_of_ble_eq_true rfl), (Nat.le_of_ble_eq_true rfl)⟩) hS (fun q _ h => h.elim) (fun q h => h.elim) (fun r82 u t H locs ht hvm hw83 hB hz1 hk1 hS => ?_)
            have hM := hM.keep (fun p hp => hk1 p hp (fun z => z))
            have hsw84 : sqw mat (wOf (fun d => pI g22 ((pO g22 (pF g22 o 0) d).getD 0) 0) (fun d => pI g22 ((pO g22 (pF g22 o 0) d).getD 0) 1) (pI g22 o 0)) = 2 := by unfold sqw; rw [← hwm67, if_neg c26, if_pos (Int32.not_le.mp c68)]
            refine W.widen (k := 0) (n := 0) (Nat.le_of_ble_eq_true rfl) (Nat.le_of_ble_eq_true rfl) ?_
            exact W.lret (v := r82) hx hb hr (fun t ht hW => ⟨⟨r82, g22, rfl, ⟨hx23, Or.inl ⟨hth25, j, k, rfl, rfl, by omega, by omega, by rw [hsw84]; rw [show r82 = _ from hw83]; unfold sqR; rw [if_neg hnp]; decide +kernel⟩⟩, CX.give hb0 hM hK hG hE hS ht hW⟩, hS.F ht⟩) hS.2.2 dX6_squareBits_104
          · skip
            have i85 := fun z => c80 ((Int32.le_iff_toInt_le).mpr z)
            have ii85 : (0 : Int32).toInt = 0 := by decide
            have i85 : ¬ ((Op.cmpValue (FP.dcmp (FP.dmul 4626215756725191967 (FP.dsub (FP.i2d (nI j)) (FP.dmul (sqk 2) (FP.i2d (nI k))))) FP.dconst0) .l : Int32).toInt ≤ (0 : Int32).toInt) := i85
            have hpp : pos (sqx 2 j k) = true := ht4.trans (pos_le.mpr c80)
            refine lv_dload hx hb dX6_squareBits_95 (lv_at hl 0 rfl) ?_
            refine lv_goto (tgt := 101) hx hb dX6_squareBits_97 (by decide) ?_
            refine va_calll (va_runS (As := [.double (FP.dmul 4626215756725191967 (FP.dsub (FP.i2d (nI j)) (FP.dmul (sqk 2) (FP.i2d (nI k)))))]) (rest := []) ⟨hx, hb, hml, hown, hts⟩ (j_d2l l (FP.dmul 4626215756725191967 (FP.dsub (FP.i2d (nI j)) (FP.dmul (sqk 2) (FP.i2d (nI k))))) ht5) (va_cwS 1 hts gX6_squareBits_Jxe99ae_doubleToLongBits_ccdee rfl rfl rfl (by decide +kernel) ⟨Nat.le_of_ble_eq_true rfl, Nat.le_of_ble_eq_true rfl⟩) ⟨fun a U g mk q => q, fun U hU hW => ⟨rfl, trivial⟩⟩ rfl rfl hl.1 rfl (lv_room (Nat.le_of_ble_eq_true rfl)) dX6_squareBits_101 ⟨(Nat.le_of_ble_eq_true rfl), (Nat.le_of_ble_eq_true rfl)⟩) hS (fun q _ h => h.elim) (fun q h => h.elim) (fun r86 u t H locs ht hvm hw87 hB hz1 hk1 hS => ?_)
            have hM := hM.keep (fun p hp => hk1 p hp (fun z => z))
            have hsw88 : sqw mat (wOf (fun d => pI g22 ((pO g22 (pF g22 o 0) d).getD 0) 0) (fun d => pI g22 ((pO g22 (pF g22 o 0) d).getD 0) 1) (pI g22 o 0)) = 2 := by unfold sqw; rw [← hwm67, if_neg c26, if_pos (Int32.not_le.mp c68)]
            refine W.widen (k := 0) (n := 0) (Nat.le_of_ble_eq_true rfl) (Nat.le_of_ble_eq_true rfl) ?_
            exact W.lret (v := r86) hx hb hr (fun t ht hW => ⟨⟨r86, g22, rfl, ⟨hx23, Or.inl ⟨hth25, j, k, rfl, rfl, by omega, by omega, by rw [hsw88]; rw [show r86 = _ from hw87]; unfold sqR; rw [if_pos hpp]; rfl⟩⟩, CX.give hb0 hM hK hG hE hS ht hW⟩, hS.F ht⟩) hS.2.2 dX6_squareBits_104
    · skip
      have g89 : ¬ ((5 : Int) ≤ (le : Int32).toInt ∧ (le : Int32).toInt ≤ (60 : Int)) := bI_f hw15 c16
      have zg89 : r14 = 0 := bI_f0 hw15 g89
      refine lv_iconst (v := 1) hx hb dX6_squareBits_27 (by decide) ?_
      refine lv_goto (tgt := 32) hx hb dX6_squareBits_28 (by decide) ?_
      obtain ⟨u90, u91, hP, hf⟩ := o_mo (i := 0) (q := o) hM (by omega)
      refine va_calli (va_runV (As := [.int 1]) (rest := []) ⟨hx, hb, hml, hown, hts⟩ (rm_isWrong l dC dI kA eD b g o 1 (by omega)) (cwV 1 hts gX6_squareBits_X6_isWrong rfl rfl rfl (by decide +kernel) ⟨Nat.le_of_ble_eq_true rfl, Nat.le_of_ble_eq_true rfl⟩) ⟨fb_CX, va_recv hK hP (ci := 10) (q0 := 0) rfl rfl, fun U hU hW => ⟨rfl, CX.give hb0 hM hK hG hE hS hU hW⟩⟩ rfl rfl hl.1 rfl (lv_room (Nat.le_of_ble_eq_true rfl)) dX6_squareBits_32 ⟨(Nat.le_of_ble_eq_true rfl), (Nat.le_of_ble_eq_true rfl)⟩) hS (fun q _ h => h) (fun q h => h) (fun r92 g94 t H locs ht hvm hw93 hB hz1 hk1 hS => ?_)
      have hM := hB.back ht
      have hG := hB.2.2.2.1
      have hx95 : Ext o X0 g g94 := hw93.1
      have ht96 : tg g94 o = 17 := hx95.tk hto (by omega)
      obtain rfl : r92 = 1 := hw93.2.2.trans (by decide)
      have hth97 : pI g94 o 2 = 1 := by rw [hw93.2.1]; exact sI_at
      refine lv_if_eq (tgt := 40) hx hb dX6_squareBits_35 (by decide) (fun cx => by first | exact absurd cx (by decide) | exact absurd (by decide) cx) (fun _ => ?_)
      refine lv_lconst (v := 0) hx hb dX6_squareBits_38 (by decide) ?_
      refine W.widen (k := 0) (n := 0) (Nat.le_of_ble_eq_true rfl) (Nat.le_of_ble_eq_true rfl) ?_
      exact W.lret (v := 0) hx hb hr (fun t ht hW => ⟨⟨0, g94, rfl, ⟨hx95, Or.inr ⟨by omega, hth97⟩⟩, CX.give hb0 hM hK hG hE hS ht hW⟩, hS.F ht⟩) hS.2.2 dX6_squareBits_39

set_option maxHeartbeats 4000000 in
set_option maxRecDepth 100000 in
theorem rmf_plan (l : Launch) (dC : Nat → ClassId) (dI : Nat → Nat → Nat) (kA : Nat → ClassId) (eD b : Nat) (g : Gh) (o : Nat) (site : Int32) (x : Int32) (y : Int32) (is : Int32) (hto : tg g o = 17)  : Met l yX6_plan wsX6_plan ({ frames := 3, cells := 0, slots := 0, locals := 64 }) (va_Pc [.ref o, .int site, .int x, .int y, .int is] (CX (dC, dI) kA eD b g)) (va_Qi (fun (r : Int32) (u : Gh) => ∃ v, Ext o X0 g v ∧ ((pI v o 2 = 0 ∧ ∃ j a jx jy, site = nI j ∧ x = nI jx ∧ y = nI jy ∧ jx < 8 ∧ jy < 6 ∧ (j : Int) < (pI v (pF v o 5) 0).toInt ∧ tg v a = 28 + 64 * j ∧ pO v (pF v (pF v o 5) 0) j = some a ∧ u = sI v (pF v (pF v a 1) jy) jx (vp_nar .boolean is) ∧ r = pn (fun k9 => pI u (pF u (pF u a 1) (k9 / 8)) (k9 % 8)) 48) ∨ (¬ ((0 ≤ site.toInt ∧ site.toInt < (pI v (pF v o 5) 0).toInt) ∧ (0 ≤ x.toInt ∧ x.toInt ≤ 7) ∧ 0 ≤ y.toInt ∧ y.toInt ≤ 5) ∧ pI v o 2 = 1 ∧ u = v))) (fun (u : Gh) t => CX (dC, dI) kA eD b u t) (fun q => b ≤ q)) 0 0 (fun q => b ≤ q) := by
  refine Met.ofW (cc := cX6_plan) (maxL := 14) (ret := (some .int)) (by decide +kernel) rfl ?_
  intro p e s m args below meth c s₁ B hml hv
  obtain ⟨rfl, hb0, hM, hK, hG, hE⟩ := hv
  have hx := B.exec
  have hb := B.bytes
  have hr := B.returns
  have hts := atoms_spec (ws := wsX6_plan) B.pre
  have hown : s.vm.findClass RX6 = some m.cls := findClass_of_methodNamed B.named
  have hlocks := B.notSynchronized
  have hT := hE.1
  have hN := hE.2.2.2.2.2.2.2.1
  have hS : va_S (fun q => b ≤ q) s.heap s.heap [] := va_S.rf
  have hl := lv_entry ([.ref o, .int site, .int x, .int y, .int is]) (n := 14) (Nat.le_of_ble_eq_true rfl)
  rw [lg_entry_eq]
  generalize (lg_sl ([.ref o, .int site, .int x, .int y, .int is]) ++ List.replicate (14 - (lg_sl ([.ref o, .int site, .int x, .int y, .int is])).length) Slot.unset).toArray = ls at hl ⊢
  have hl : lv_has ls 14 [(0, .ref o), (1, .int site), (2, .int x), (3, .int y), (4, .int is)] := hl
  generalize ([.ref o, .int site, .int x, .int y, .int is] : List Value).toArray = args at hts ⊢
  refine W.q (fun Q hQ => ?_)
  refine lv_aload_n hx hb dX6_plan_0 rfl (lv_at hl 0 rfl) ?_
  refine lv_iload_n hx hb dX6_plan_1 rfl (lv_at hl 1 rfl) ?_
  refine lv_iload_n hx hb dX6_plan_2 rfl (lv_at hl 2 rfl) ?_
  refine lv_iload_n hx hb dX6_plan_3 rfl (lv_at hl 3 rfl) ?_
  obtain ⟨u1, u2, hP, hf⟩ := o_mo (i := 0) (q := o) hM (by omega)
  refine va_calli (va_runV (As := [.int site, .int x, .int y]) (rest := []) ⟨hx, hb, hml, hown, hts⟩ (rm_isNoPlace l dC dI kA eD b g o site x y (by omega)) (cwV 3 hts gX6_plan_X6_isNoPlace rfl rfl rfl (by decide +kernel) ⟨Nat.le_of_ble_eq_true rfl, Nat.le_of_ble_eq_true rfl⟩) ⟨fb_CX, va_recv hK hP (ci := 10) (q0 := 0) rfl rfl, fun U hU hW => ⟨rfl, CX.give hb0 hM hK hG hE hS hU hW⟩⟩ rfl rfl hl.1 rfl (lv_room (Nat.le_of_ble_eq_true rfl)) dX6_plan_4 ⟨(Nat.le_of_ble_eq_true rfl), (Nat.le_of_ble_eq_true rfl)⟩) hS (fun q _ h => h) (fun q h => h) (fun r3 g5 t H locs ht hvm hw4 hB hz1 hk1 hS => ?_)
  have hM := hB.back ht
  have hG := hB.2.2.2.1
  have hx6 : Ext o X0 g g5 := hw4.1
  have ht7 : tg g5 o = 17 := hx6.tk hto (by omega)
  have hth8 := hw4.2.1
  refine lv_if_eq (tgt := 12) hx hb dX6_plan_7 (by decide) (fun c9 => ?_) (fun c9 => ?_)
  · skip
    have hv10 := vr0 (vr01 hw4.2.2) c9
    have hfm := (mo_list hM ht7).1
    have hls := (mo_list hM ht7).2
    obtain ⟨j, hj, rfl⟩ := toN (p := site) (k := 2) (by omega) (by omega) (by decide)
    have hl : lv_has ls 14 [(0, .ref o), (1, .int (nI j)), (2, .int x), (3, .int y), (4, .int is)] := hl
    have ej : (nI j).toInt = (j : Int) := nI_toInt (by omega)
    obtain ⟨jx, hjx, rfl⟩ := toN (p := x) (k := 7) (by omega) (by omega) (by decide)
    have hl : lv_has ls 14 [(0, .ref o), (1, .int (nI j)), (2, .int (nI jx)), (3, .int y), (4, .int is)] := hl
    have ejx : (nI jx).toInt = (jx : Int) := nI_toInt (by omega)
    obtain ⟨jy, hjy, rfl⟩ := toN (p := y) (k := 5) (by omega) (by omega) (by decide)
    have hl : lv_has ls 14 [(0, .ref o), (1, .int (nI j)), (2, .int (nI jx)), (3, .int (nI jy)), (4, .int is)] := hl
    have ejy : (nI jy).toInt = (jy : Int) := nI_toInt (by omega)
    have hjs : (j : Int) < (pI g5 (pF g5 o 5) 0).toInt := by omega
    refine lv_aload_n hx hb dX6_plan_12 rfl (lv_at hl 0 rfl) ?_
    obtain ⟨u11, u12, hP, hf⟩ := o_mo (i := 0) (q := o) hM (by omega)
    refine va_get (D := (dC, dI)) (ci := 10) (v := .ref (pF g5 o 5)) (C := RX6) (T := TX6) (N := 11) hx hb hts (by decide +kernel) hown hK hP 0 rfl rfl 10 (by decide) (hts (.fieldLink RX6 34 "SnowpalaceModel" "sites" "Ljava/util/List;") (by decide +kernel)) (fun _ h9 => h9) rfl dX6_plan_13 ?_
    refine lv_iload_n hx hb dX6_plan_16 rfl (lv_at hl 1 rfl) ?_
    obtain ⟨hP, hf⟩ := o_al (i := 0) (q := (pF g5 o 5)) hM (by omega)
    refine va_callFr (va_runF (hK.1 3 _ rfl).2 (As := [.int (nI j)]) (rest := []) ⟨hx, hb, hml, hown, hts⟩ (rj_get l dC dI kA eD b g5 (pF g5 o 5) j (by omega) hjs) (va_cwF 1 hts gX6_plan_Jx4a65c_get_915e3_f149Jx4a65c rfl rfl rfl hE.2.2.2.2.1 (by decide +kernel) ⟨Nat.le_of_ble_eq_true rfl, Nat.le_of_ble_eq_true rfl⟩) ⟨fb_CX, va_recv hK hP (ci := 3) (q0 := 0) rfl rfl, fun U hU hW => ⟨rfl, CX.give hb0 hM hK hG hE hS hU hW⟩⟩ rfl rfl hl.1 rfl (lv_room (Nat.le_of_ble_eq_true rfl)) dX6_plan_17 ⟨(Nat.le_of_ble_eq_true rfl), (Nat.le_of_ble_eq_true rfl)⟩) hS (fun q _ h => h) (fun q h => h) (fun u r13 t H locs ht hvm hw14 hB hz1 hk1 hS => ?_)
    have hM := hB.1.back ht
    have hG := hB.1.2.2.2.1
    have ht15 : tg g5 r13 = 28 + 64 * j := hB.2.1
    have hg16 : pO g5 (pF g5 (pF g5 o 5) 0) j = some r13 := hB.2.2
    obtain ⟨u17, u18, u19, u20, u21, u22, hP, hf⟩ := o_ms (i := j) (q := r13) hM (by omega)
    refine va_castY hx hb hown (hts (.classLink RX6 125 "SnowpalaceModel$Site") (by decide +kernel)) hE.2.2.2.2.2.2.1 (va_recv hK hP (ci := 9) (q0 := 0) rfl rfl) dX6_plan_22 ?_
    obtain ⟨u23, u24, u25, u26, u27, u28, hP, hf⟩ := o_ms (i := j) (q := r13) hM (by omega)
    refine va_getN (D := (dC, dI)) (ci := 9) (v := .ref (pF g5 r13 1)) (C := RX5) (T := TX5) (N := 10) hx hb hts (by decide +kernel) hown hK hP 0 rfl rfl 1 (by decide) (hN (.fieldLinkNest RX6 252 "SnowpalaceModel$Site" "plan" "[[Z" RX6) (by decide +kernel)) (fun _ h9 => h9) rfl dX6_plan_25 ?_
    have ht29 : tg g5 (pF g5 r13 1) = 32 + 64 * j := hf.2.1
    refine lv_iload_n hx hb dX6_plan_28 rfl (lv_at hl 3 rfl) ?_
    obtain ⟨hP, hf⟩ := o_po (i := j) (q := (pF g5 r13 1)) hM (by omega)
    have ec : ((nI jy) : Int32).toNatClampNeg = jy := nI_clamp (by omega)
    refine rt_aldA (D := (dC, dI)) (t0 := 7) hx hb hK hP rfl (vp_in_nI (by omega) (by decide)) (y := (pF g5 (pF g5 r13 1) jy)) ((congrArg (fun z => if z < 6 then some (pF g5 (pF g5 r13 1) z) else none) ec).trans (if_pos (by omega))) dX6_plan_29 ?_
    have ht30 : tg g5 (pF g5 (pF g5 r13 1) jy) = 33 + 64 * (8 * j + jy) := (hf jy (by omega))
    refine lv_iload_n hx hb dX6_plan_30 rfl (lv_at hl 2 rfl) ?_
    refine lv_iload hx hb dX6_plan_31 (lv_at hl 4 rfl) ?_
    obtain ⟨hP, hf⟩ := o_pr (i := (8 * j + jy)) (q := (pF g5 (pF g5 r13 1) jy)) hM (by omega)
    refine rt_zast (D := (dC, dI)) (t0 := 1) hx hb hK hP (hM.ge (by omega)) hS rfl (vp_in_nI (by omega) (by decide)) dX6_plan_33 (fun H locs hP hz ho hS => ?_)
    have ec : ((nI jx) : Int32).toNatClampNeg = jx := nI_clamp (by omega)
    rw [ec] at hP
    have hM0 := hM
    have hM := p_pr (i := (8 * j + jy)) (f := upd (pI g5 (pF g5 (pF g5 r13 1) jy)) jx (vp_nar .boolean is)) hM (by omega) hP ho (fun j9 hj9 => (Decidable.em (j9 = jx)).elim (fun e9 => by show (if j9 = jx then (vp_nar .boolean is) else pI g5 (pF g5 (pF g5 r13 1) jy) j9) = 0 ∨ (if j9 = jx then (vp_nar .boolean is) else pI g5 (pF g5 (pF g5 r13 1) jy) j9) = 1; rw [if_pos e9]; exact nar01 _) (fun e9 => by show (if j9 = jx then (vp_nar .boolean is) else pI g5 (pF g5 (pF g5 r13 1) jy) j9) = 0 ∨ (if j9 = jx then (vp_nar .boolean is) else pI g5 (pF g5 (pF g5 r13 1) jy) j9) = 1; rw [if_neg e9]; exact hf j9 hj9))
    obtain ⟨g31, hg31⟩ : ∃ z, z = uI g5 (pF g5 (pF g5 r13 1) jy) (upd (pI g5 (pF g5 (pF g5 r13 1) jy)) jx (vp_nar .boolean is)) := ⟨_, rfl⟩
    rw [← hg31] at hM
    have ht32 : tg g31 o = 17 := by rw [hg31]; exact ht7
    have ht33 : tg g31 (pF g5 o 5) = 26 := by rw [hg31]; exact hfm
    have ht34 : tg g31 r13 = 28 + 64 * j := by rw [hg31]; exact ht15
    have ht35 : tg g31 (pF g5 r13 1) = 32 + 64 * j := by rw [hg31]; exact ht29
    have ht36 : tg g31 (pF g5 (pF g5 r13 1) jy) = 33 + 64 * (8 * j + jy) := by rw [hg31]; exact ht30
    have hG : GOK g31 := by rw [hg31]; exact (hG.uI hM0 (Or.inl (by omega)))
    refine lv_iconst (v := 0) hx hb dX6_plan_34 (by decide) ?_
    refine lv_istore (lv' := [(5, .int 0), (0, .ref o), (1, .int (nI j)), (2, .int (nI jx)), (3, .int (nI jy)), (4, .int is)]) hx hb dX6_plan_35 hl (by decide) rfl (fun ls hl => ?_)
    refine lv_aload_n hx hb dX6_plan_37 rfl (lv_at hl 1 rfl) ?_
    obtain ⟨u38, u39, hP, hf⟩ := o_mo (i := 0) (q := o) hM (by omega)
    refine va_get (D := (dC, dI)) (ci := 10) (v := .ref (pF g31 o 5)) (C := RX6) (T := TX6) (N := 11) hx hb hts (by decide +kernel) hown hK hP 0 rfl rfl 10 (by decide) (hts (.fieldLink RX6 34 "SnowpalaceModel" "sites" "Ljava/util/List;") (by decide +kernel)) (fun _ h9 => h9) rfl dX6_plan_38 ?_
    have ht40 : tg g31 (pF g31 o 5) = 26 := hf.2.2.2.2.2.1
    refine lv_iload_n hx hb dX6_plan_41 rfl (lv_at hl 2 rfl) ?_
    obtain ⟨hP, hf⟩ := o_al (i := 0) (q := (pF g31 o 5)) hM (by omega)
    refine va_callFr (va_runF (hK.1 3 _ rfl).2 (As := [.int (nI j)]) (rest := []) ⟨hx, hb, hml, hown, hts⟩ (rj_get l dC dI kA eD b g31 (pF g31 o 5) j (by omega) (by rw [hg31]; exact (congrArg (fun z => (j : Int) < z) (congrArg Int32.toInt (congrFun (uI_n (fun e9 => by have h9 := hfm; have h8 := ht30; have e8 : (pF g5 o 5) = (pF g5 (pF g5 r13 1) jy) := e9; rw [e8] at h9; omega)) 0))).mpr hjs)) (va_cwF 1 hts gX6_plan_Jx4a65c_get_915e3_f149Jx4a65c rfl rfl rfl hE.2.2.2.2.1 (by decide +kernel) ⟨Nat.le_of_ble_eq_true rfl, Nat.le_of_ble_eq_true rfl⟩) ⟨fb_CX, va_recv hK hP (ci := 3) (q0 := 0) rfl rfl, fun U hU hW => ⟨rfl, CX.give hb0 hM hK hG hE hS hU hW⟩⟩ rfl rfl hl.1 rfl (lv_room (Nat.le_of_ble_eq_true rfl)) dX6_plan_42 ⟨(Nat.le_of_ble_eq_true rfl), (Nat.le_of_ble_eq_true rfl)⟩) hS (fun q _ h => h) (fun q h => h) (fun u r41 t H locs ht hvm hw42 hB hz1 hk1 hS => ?_)
    have hM := hB.1.back ht
    have hG := hB.1.2.2.2.1
    have ht43 : tg g31 r41 = 28 + 64 * j := hB.2.1
    have hg44 : pO g31 (pF g31 (pF g31 o 5) 0) j = some r41 := hB.2.2
    have hz9 := hg44
    rw [hg31] at hz9
    obtain rfl : r13 = r41 := Option.some.inj (hg16.symm.trans hz9)
    obtain ⟨u45, u46, u47, u48, u49, u50, hP, hf⟩ := o_ms (i := j) (q := r13) hM (by omega)
    refine va_castY hx hb hown (hts (.classLink RX6 125 "SnowpalaceModel$Site") (by decide +kernel)) hE.2.2.2.2.2.2.1 (va_recv hK hP (ci := 9) (q0 := 0) rfl rfl) dX6_plan_47 ?_
    obtain ⟨u51, u52, u53, u54, u55, u56, hP, hf⟩ := o_ms (i := j) (q := r13) hM (by omega)
    refine va_getN (D := (dC, dI)) (ci := 9) (v := .ref (pF g31 r13 1)) (C := RX5) (T := TX5) (N := 10) hx hb hts (by decide +kernel) hown hK hP 0 rfl rfl 1 (by decide) (hN (.fieldLinkNest RX6 252 "SnowpalaceModel$Site" "plan" "[[Z" RX6) (by decide +kernel)) (fun _ h9 => h9) rfl dX6_plan_50 ?_
    have ht57 : tg g31 (pF g31 r13 1) = 32 + 64 * j := hf.2.1
    refine lv_astore (lv' := [(6, .ref (pF g31 r13 1)), (5, .int 0), (0, .ref o), (1, .int (nI j)), (2, .int (nI jx)), (3, .int (nI jy)), (4, .int is)]) hx hb dX6_plan_53 hl (by decide) rfl (fun ls hl => ?_)
    refine lv_aload hx hb dX6_plan_55 (lv_at hl 0 rfl) ?_
    obtain ⟨hP, hf⟩ := o_po (i := j) (q := (pF g31 r13 1)) hM (by omega)
    refine va_alen (D := (dC, dI)) hx hb hK hP 0 7 rfl rfl (v := 6) (by rfl) dX6_plan_57 ?_
    refine lv_istore (lv' := [(7, .int 6), (6, .ref (pF g31 r13 1)), (5, .int 0), (0, .ref o), (1, .int (nI j)), (2, .int (nI jx)), (3, .int (nI jy)), (4, .int is)]) hx hb dX6_plan_58 hl (by decide) rfl (fun ls hl => ?_)
    refine lv_iconst (v := 0) hx hb dX6_plan_60 (by decide) ?_
    refine lv_istore (lv' := [(8, .int 0), (7, .int 6), (6, .ref (pF g31 r13 1)), (5, .int 0), (0, .ref o), (1, .int (nI j)), (2, .int (nI jx)), (3, .int (nI jy)), (4, .int is)]) hx hb dX6_plan_61 hl (by decide) rfl (fun ls hl => ?_)
    have lp60 : ∀ (n61 j58 : Nat) (x59 : Int32), 0 ≤ j58 → j58 ≤ 6 → 6 < j58 + n61 → ∀ (H : Heap) (locs : List Loc) (ls : Array Slot), x59 = pn (fun k9 => pI g31 (pF g31 (pF g31 r13 1) (k9 / 8)) (k9 % 8)) (8 * j58) → TM (dC, dI) kA b g31 H → va_S (fun q => b ≤ q) s.heap H locs → lv_has ls 14 [(8, .int (nI j58)), (7, .int 6), (6, .ref (pF g31 r13 1)), (5, .int x59), (0, .ref o), (1, .int (nI j)), (2, .int (nI jx)), (3, .int (nI jy)), (4, .int is)] → W p l e (headSpec wsX6_plan ({ frames := 3, cells := 0, slots := 0, locals := 64 })).room s m args below meth c H locs 0 0 Q (F0 m 63 ls []) := by
      intro n61
      induction n61 with
      | zero => intro j58 x59 h0 h1 h2; omega
      | succ n61 ih62 =>
        intro j58 x59 lj58 hj58 hn61 H locs ls hf63 hM hS hl
        refine lv_iload hx hb dX6_plan_63 (lv_at hl 0 rfl) ?_
        refine lv_iload hx hb dX6_plan_65 (lv_at hl 1 rfl) ?_
        refine lv_icmp_ge (tgt := 130) hx hb dX6_plan_67 (by decide) (fun c64 => ?_) (fun c64 => ?_)
        · skip
          have k65 : 6 ≤ j58 := (nI_leI (a := 6) (b := j58) (by omega) (by omega)).mp c64
          refine lv_iload hx hb dX6_plan_130 (lv_at hl 3 rfl) ?_
          subst hQ
          refine W.widen (k := 0) (n := 0) (Nat.le_of_ble_eq_true rfl) (Nat.le_of_ble_eq_true rfl) ?_
          exact W.iret (v := x59) hx hb hr (fun t ht hW => ⟨⟨x59, g31, rfl, ⟨g5, hx6, Or.inl ⟨hth8.trans c9, j, r13, jx, jy, rfl, rfl, rfl, by omega, by omega, hjs, ht15, hg16, (by subst hg31; rfl), ((hf63).trans (congrArg (pn _) (show 8 * j58 = 48 by omega)))⟩⟩, CX.give hb0 hM hK hG hE hS ht hW⟩, hS.F ht⟩) hS.2.2 dX6_plan_132
        · skip
          have k66 : ¬ (6 ≤ j58) := fun z => c64 ((nI_leI (a := 6) (b := j58) (by omega) (by omega)).mpr z)
          refine lv_aload hx hb dX6_plan_70 (lv_at hl 2 rfl) ?_
          refine lv_iload hx hb dX6_plan_72 (lv_at hl 0 rfl) ?_
          obtain ⟨hP, hf⟩ := o_po (i := j) (q := (pF g31 r13 1)) hM (by omega)
          have ec : ((nI j58) : Int32).toNatClampNeg = j58 := nI_clamp (by omega)
          refine rt_aldA (D := (dC, dI)) (t0 := 7) hx hb hK hP rfl (vp_in_nI (by omega) (by decide)) (y := (pF g31 (pF g31 r13 1) j58)) ((congrArg (fun z => if z < 6 then some (pF g31 (pF g31 r13 1) z) else none) ec).trans (if_pos (by omega))) dX6_plan_74 ?_
          have ht67 : tg g31 (pF g31 (pF g31 r13 1) j58) = 33 + 64 * (8 * j + j58) := (hf j58 (by omega))
          refine lv_astore (lv' := [(9, .ref (pF g31 (pF g31 r13 1) j58)), (8, .int (nI j58)), (7, .int 6), (6, .ref (pF g31 r13 1)), (5, .int x59), (0, .ref o), (1, .int (nI j)), (2, .int (nI jx)), (3, .int (nI jy)), (4, .int is)]) hx hb dX6_plan_75 hl (by decide) rfl (fun ls hl => ?_)
          refine lv_aload hx hb dX6_plan_77 (lv_at hl 0 rfl) ?_
          refine lv_astore (lv' := [(10, .ref (pF g31 (pF g31 r13 1) j58)), (9, .ref (pF g31 (pF g31 r13 1) j58)), (8, .int (nI j58)), (7, .int 6), (6, .ref (pF g31 r13 1)), (5, .int x59), (0, .ref o), (1, .int (nI j)), (2, .int (nI jx)), (3, .int (nI jy)), (4, .int is)]) hx hb dX6_plan_79 hl (by decide) rfl (fun ls hl => ?_)
          refine lv_aload hx hb dX6_plan_81 (lv_at hl 0 rfl) ?_
          obtain ⟨hP, hf⟩ := o_pr (i := (8 * j + j58)) (q := (pF g31 (pF g31 r13 1) j58)) hM (by omega)
          refine va_alen (D := (dC, dI)) hx hb hK hP 0 1 rfl rfl (v := 8) (by rfl) dX6_plan_83 ?_
          refine lv_istore (lv' := [(11, .int 8), (10, .ref (pF g31 (pF g31 r13 1) j58)), (9, .ref (pF g31 (pF g31 r13 1) j58)), (8, .int (nI j58)), (7, .int 6), (6, .ref (pF g31 r13 1)), (5, .int x59), (0, .ref o), (1, .int (nI j)), (2, .int (nI jx)), (3, .int (nI jy)), (4, .int is)]) hx hb dX6_plan_84 hl (by decide) rfl (fun ls hl => ?_)
          refine lv_iconst (v := 0) hx hb dX6_plan_86 (by decide) ?_
          refine lv_istore (lv' := [(12, .int 0), (11, .int 8), (10, .ref (pF g31 (pF g31 r13 1) j58)), (9, .ref (pF g31 (pF g31 r13 1) j58)), (8, .int (nI j58)), (7, .int 6), (6, .ref (pF g31 r13 1)), (5, .int x59), (0, .ref o), (1, .int (nI j)), (2, .int (nI jx)), (3, .int (nI jy)), (4, .int is)]) hx hb dX6_plan_87 hl (by decide) rfl (fun ls hl => ?_)
          have lp70 : ∀ (n71 j68 : Nat) (x69 : Int32), 0 ≤ j68 → j68 ≤ 8 → 8 < j68 + n71 → ∀ (H : Heap) (locs : List Loc) (ls : Array Slot), x69 = pn (fun k9 => pI g31 (pF g31 (pF g31 r13 1) (k9 / 8)) (k9 % 8)) (8 * j58 + j68) → TM (dC, dI) kA b g31 H → va_S (fun q => b ≤ q) s.heap H locs → lv_has ls 14 [(12, .int (nI j68)), (11, .int 8), (10, .ref (pF g31 (pF g31 r13 1) j58)), (9, .ref (pF g31 (pF g31 r13 1) j58)), (8, .int (nI j58)), (7, .int 6), (6, .ref (pF g31 r13 1)), (5, .int x69), (0, .ref o), (1, .int (nI j)), (2, .int (nI jx)), (3, .int (nI jy)), (4, .int is)] → W p l e (headSpec wsX6_plan ({ frames := 3, cells := 0, slots := 0, locals := 64 })).room s m args below meth c H locs 0 0 Q (F0 m 89 ls []) := by
            intro n71
            induction n71 with
            | zero => intro j68 x69 h0 h1 h2; omega
            | succ n71 ih72 =>
              intro j68 x69 lj68 hj68 hn71 H locs ls hf73 hM hS hl
              refine lv_iload hx hb dX6_plan_89 (lv_at hl 0 rfl) ?_
              refine lv_iload hx hb dX6_plan_91 (lv_at hl 1 rfl) ?_
              refine lv_icmp_ge (tgt := 124) hx hb dX6_plan_93 (by decide) (fun c74 => ?_) (fun c74 => ?_)
              · skip
                have k75 : 8 ≤ j68 := (nI_leI (a := 8) (b := j68) (by omega) (by omega)).mp c74
                refine lv_iinc (v := (nI (j58 + 1))) (lv' := [(8, .int (nI (j58 + 1))), (12, .int (nI j68)), (11, .int 8), (10, .ref (pF g31 (pF g31 r13 1) j58)), (9, .ref (pF g31 (pF g31 r13 1) j58)), (7, .int 6), (6, .ref (pF g31 r13 1)), (5, .int x69), (0, .ref o), (1, .int (nI j)), (2, .int (nI jx)), (3, .int (nI jy)), (4, .int is)]) hx hb dX6_plan_124 hl (k := 4) rfl (nI_add j58 1) (by decide) rfl (fun ls hl => ?_)
                refine lv_goto (tgt := 63) hx hb dX6_plan_127 (by decide) ?_
                exact ih62 ((j58 + 1)) x69 (by omega) (by omega) (by omega) H _ ls ((hf73).trans (congrArg (pn _) (show 8 * j58 + j68 = 8 * (j58 + 1) by omega))) hM hS (lv_sub hl [0, 5, 6, 7, 8, 9, 10, 11, 12] rfl)
              · skip
                have k76 : ¬ (8 ≤ j68) := fun z => c74 ((nI_leI (a := 8) (b := j68) (by omega) (by omega)).mpr z)
                refine lv_aload hx hb dX6_plan_96 (lv_at hl 2 rfl) ?_
                refine lv_iload hx hb dX6_plan_98 (lv_at hl 0 rfl) ?_
                obtain ⟨hP, hf⟩ := o_pr (i := (8 * j + j58)) (q := (pF g31 (pF g31 r13 1) j58)) hM (by omega)
                refine va_zald (D := (dC, dI)) hx hb hK hP 0 1 rfl rfl (vp_in_nI (by omega) (by decide)) dX6_plan_100 ?_
                refine lv_topi (fun v77 e78 => ?_)
                have ec : ((nI j68) : Int32).toNatClampNeg = j68 := nI_clamp (by omega)
                rw [ec] at e78
                subst e78
                have hu79 := hf j68 (by omega)
                refine lv_istore (lv' := [(13, .int (pI g31 (pF g31 (pF g31 r13 1) j58) j68)), (12, .int (nI j68)), (11, .int 8), (10, .ref (pF g31 (pF g31 r13 1) j58)), (9, .ref (pF g31 (pF g31 r13 1) j58)), (8, .int (nI j58)), (7, .int 6), (6, .ref (pF g31 r13 1)), (5, .int x69), (0, .ref o), (1, .int (nI j)), (2, .int (nI jx)), (3, .int (nI jy)), (4, .int is)]) hx hb dX6_plan_101 hl (by decide) rfl (fun ls hl => ?_)
                refine lv_iload hx hb dX6_plan_103 (lv_at hl 8 rfl) ?_
                refine lv_iload hx hb dX6_plan_105 (lv_at hl 0 rfl) ?_
                refine lv_if_eq (tgt := 114) hx hb dX6_plan_107 (by decide) (fun c80 => ?_) (fun c80 => ?_)
                · skip
                  refine lv_iconst (v := 0) hx hb dX6_plan_114 (by decide) ?_
                  refine lv_iadd hx hb dX6_plan_115 ?_
                  refine lv_topi (fun v81 e82 => ?_)
                  have hF9 : (fun k9 => pI g31 (pF g31 (pF g31 r13 1) (k9 / 8)) (k9 % 8)) (8 * j58 + j68) = (pI g31 (pF g31 (pF g31 r13 1) j58) j68) := by show pI g31 (pF g31 (pF g31 r13 1) ((8 * j58 + j68) / 8)) ((8 * j58 + j68) % 8) = _; rw [show (8 * j58 + j68) / 8 = j58 by omega, show (8 * j58 + j68) % 8 = j68 by omega]
                  have hp83 : v81 = pn (fun k9 => pI g31 (pF g31 (pF g31 r13 1) (k9 / 8)) (k9 % 8)) (8 * j58 + (j68 + 1)) := by rw [e82, hf73]; show _ = (if (fun k9 => pI g31 (pF g31 (pF g31 r13 1) (k9 / 8)) (k9 % 8)) (8 * j58 + j68) = 0 then 0 else 1) + pn (fun k9 => pI g31 (pF g31 (pF g31 r13 1) (k9 / 8)) (k9 % 8)) (8 * j58 + j68); rw [hF9, if_pos c80, Int32.add_comm]
                  refine lv_istore (lv' := [(5, .int v81), (13, .int (pI g31 (pF g31 (pF g31 r13 1) j58) j68)), (12, .int (nI j68)), (11, .int 8), (10, .ref (pF g31 (pF g31 r13 1) j58)), (9, .ref (pF g31 (pF g31 r13 1) j58)), (8, .int (nI j58)), (7, .int 6), (6, .ref (pF g31 r13 1)), (0, .ref o), (1, .int (nI j)), (2, .int (nI jx)), (3, .int (nI jy)), (4, .int is)]) hx hb dX6_plan_116 hl (by decide) rfl (fun ls hl => ?_)
                  refine lv_iinc (v := (nI (j68 + 1))) (lv' := [(12, .int (nI (j68 + 1))), (5, .int v81), (13, .int (pI g31 (pF g31 (pF g31 r13 1) j58) j68)), (11, .int 8), (10, .ref (pF g31 (pF g31 r13 1) j58)), (9, .ref (pF g31 (pF g31 r13 1) j58)), (8, .int (nI j58)), (7, .int 6), (6, .ref (pF g31 r13 1)), (0, .ref o), (1, .int (nI j)), (2, .int (nI jx)), (3, .int (nI jy)), (4, .int is)]) hx hb dX6_plan_118 hl (k := 2) rfl (nI_add j68 1) (by decide) rfl (fun ls hl => ?_)
                  refine lv_goto (tgt := 89) hx hb dX6_plan_121 (by decide) ?_
                  exact ih72 ((j68 + 1)) v81 (by omega) (by omega) (by omega) H _ ls hp83 hM hS (lv_sub hl [0, 3, 4, 5, 6, 7, 8, 1, 9, 10, 11, 12, 13] rfl)
                · skip
                  refine lv_iconst (v := 1) hx hb dX6_plan_110 (by decide) ?_
                  refine lv_goto (tgt := 115) hx hb dX6_plan_111 (by decide) ?_
                  refine lv_iadd hx hb dX6_plan_115 ?_
                  refine lv_topi (fun v84 e85 => ?_)
                  have hF9 : (fun k9 => pI g31 (pF g31 (pF g31 r13 1) (k9 / 8)) (k9 % 8)) (8 * j58 + j68) = (pI g31 (pF g31 (pF g31 r13 1) j58) j68) := by show pI g31 (pF g31 (pF g31 r13 1) ((8 * j58 + j68) / 8)) ((8 * j58 + j68) % 8) = _; rw [show (8 * j58 + j68) / 8 = j58 by omega, show (8 * j58 + j68) % 8 = j68 by omega]
                  have hp86 : v84 = pn (fun k9 => pI g31 (pF g31 (pF g31 r13 1) (k9 / 8)) (k9 % 8)) (8 * j58 + (j68 + 1)) := by rw [e85, hf73]; show _ = (if (fun k9 => pI g31 (pF g31 (pF g31 r13 1) (k9 / 8)) (k9 % 8)) (8 * j58 + j68) = 0 then 0 else 1) + pn (fun k9 => pI g31 (pF g31 (pF g31 r13 1) (k9 / 8)) (k9 % 8)) (8 * j58 + j68); rw [hF9, if_neg c80, Int32.add_comm]
                  refine lv_istore (lv' := [(5, .int v84), (13, .int (pI g31 (pF g31 (pF g31 r13 1) j58) j68)), (12, .int (nI j68)), (11, .int 8), (10, .ref (pF g31 (pF g31 r13 1) j58)), (9, .ref (pF g31 (pF g31 r13 1) j58)), (8, .int (nI j58)), (7, .int 6), (6, .ref (pF g31 r13 1)), (0, .ref o), (1, .int (nI j)), (2, .int (nI jx)), (3, .int (nI jy)), (4, .int is)]) hx hb dX6_plan_116 hl (by decide) rfl (fun ls hl => ?_)
                  refine lv_iinc (v := (nI (j68 + 1))) (lv' := [(12, .int (nI (j68 + 1))), (5, .int v84), (13, .int (pI g31 (pF g31 (pF g31 r13 1) j58) j68)), (11, .int 8), (10, .ref (pF g31 (pF g31 r13 1) j58)), (9, .ref (pF g31 (pF g31 r13 1) j58)), (8, .int (nI j58)), (7, .int 6), (6, .ref (pF g31 r13 1)), (0, .ref o), (1, .int (nI j)), (2, .int (nI jx)), (3, .int (nI jy)), (4, .int is)]) hx hb dX6_plan_118 hl (k := 2) rfl (nI_add j68 1) (by decide) rfl (fun ls hl => ?_)
                  refine lv_goto (tgt := 89) hx hb dX6_plan_121 (by decide) ?_
                  exact ih72 ((j68 + 1)) v84 (by omega) (by omega) (by omega) H _ ls hp86 hM hS (lv_sub hl [0, 3, 4, 5, 6, 7, 8, 1, 9, 10, 11, 12, 13] rfl)
          exact lp70 (8 + 1) 0 x59 (by omega) (by omega) (by omega) H _ ls hf63 hM hS (lv_sub hl [0, 1, 2, 3, 4, 5, 6, 7, 8, 9, 10, 11, 12] rfl)
    exact lp60 (6 + 1) 0 0 (by omega) (by omega) (by omega) H _ ls rfl hM hS (lv_sub hl [0, 1, 2, 3, 4, 5, 6, 7, 8] rfl)
  · skip
    have hv87 := vr1 (vr01 hw4.2.2) c9
    refine lv_iconst (v := 0) hx hb dX6_plan_10 (by decide) ?_
    subst hQ
    refine W.widen (k := 0) (n := 0) (Nat.le_of_ble_eq_true rfl) (Nat.le_of_ble_eq_true rfl) ?_
    exact W.iret (v := 0) hx hb hr (fun t ht hW => ⟨⟨0, g5, rfl, ⟨g5, hx6, Or.inr ⟨hv87, by rw [hth8]; exact (vr01b hw4.2.2 c9), rfl⟩⟩, CX.give hb0 hM hK hG hE hS ht hW⟩, hS.F ht⟩) hS.2.2 dX6_plan_11
