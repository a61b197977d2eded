set_option maxHeartbeats 4000000 in
set_option maxRecDepth 100000 in
theorem rk_warmthOf (l : Launch) (dC : Nat → ClassId) (dI : Nat → Nat → Nat) (kA : Nat → ClassId) (eD b : Nat) (g : Gh) (o : Nat) (hou : Int32) (hto : tg g o = 2)  : Met l yX2_warmthOf wsX2_warmthOf ({ frames := 1, cells := 0, slots := 0, locals := 22 }) (va_Pc [.ref o, .int hou] (CX (dC, dI) kA eD b g)) (va_Qi (fun (r : Int32) (u : Unit) => r = wOf (pI g (pF g o 0)) (pI g (pF g o 1)) hou) (fun (u : Unit) t => CX (dC, dI) kA eD b g t) (fun q => b ≤ q)) 0 0 (fun q => b ≤ q) := by
  refine Met.ofW (cc := cX2_warmthOf) (maxL := 5) (ret := (some .int)) (by decide +kernel) rfl ?_
  intro p e s m args below meth c s₁ B hml hv
  obtain ⟨rfl, hb0, hM, hK, hG, hE⟩ := hv
  have hx := B.exec
  have hb := B.bytes
  have hr := B.returns
  have hts := atoms_spec (ws := wsX2_warmthOf) B.pre
  have hown : s.vm.findClass RX2 = some m.cls := findClass_of_methodNamed B.named
  have hlocks := B.notSynchronized
  have hT := hE.1
  have hN := hE.2.2.2.2.2.2.2.1
  have hS : va_S (fun q => b ≤ q) s.heap s.heap [] := va_S.rf
  have hl := lv_entry ([.ref o, .int hou]) (n := 5) (Nat.le_of_ble_eq_true rfl)
  rw [lg_entry_eq]
  generalize (lg_sl ([.ref o, .int hou]) ++ List.replicate (5 - (lg_sl ([.ref o, .int hou])).length) Slot.unset).toArray = ls at hl ⊢
  have hl : lv_has ls 5 [(0, .ref o), (1, .int hou)] := hl
  generalize ([.ref o, .int hou] : List Value).toArray = args at hts ⊢
  refine lv_iload_n hx hb dX2_warmthOf_0 rfl (lv_at hl 1 rfl) ?_
  refine lv_iconst (v := 0) hx hb dX2_warmthOf_1 (by decide) ?_
  refine lv_sipush (v := 503) hx hb dX2_warmthOf_2 (by decide) ?_
  refine va_calli (va_runSN (As := [.int hou, .int 0, .int 503]) (rest := []) ⟨hx, hb, hml, hown, hts⟩ (rk_isWithin l hou 0 503 (0) (503) (by decide) (by decide)) (⟨va_cnB 3 hts gX2_warmthOf_X3_isWithin_n24 rfl rfl rfl (hN (.methodLinkNest RX2 24 yX3_isWithin RX3) (by decide +kernel)) (hts (.initialized RX3) (by decide +kernel)) (by decide +kernel) ⟨Nat.le_of_ble_eq_true rfl, Nat.le_of_ble_eq_true rfl⟩, hts (.static yX3_isWithin) (by decide +kernel), trivial⟩) ⟨fun a U g mk q => q, fun U hU hW => ⟨rfl, trivial⟩⟩ rfl rfl hl.1 rfl (lv_room (Nat.le_of_ble_eq_true rfl)) dX2_warmthOf_5 ⟨(Nat.le_of_ble_eq_true rfl), (Nat.le_of_ble_eq_true rfl)⟩) hS (fun q _ h => h.elim) (fun q h => h.elim) (fun r1 u t H locs ht hvm hw2 hB hz1 hk1 hS => ?_)
  have hM := hM.keep (fun p hp => hk1 p hp (fun z => z))
  have hw2 : r1 = bI ((0 : Int) ≤ hou.toInt ∧ hou.toInt ≤ (503 : Int)) := hw2
  refine lv_if_ne (tgt := 15) hx hb dX2_warmthOf_8 (by decide) (fun c3 => ?_) (fun c3 => ?_)
  · skip
    have g4 : (0 : Int) ≤ hou.toInt ∧ hou.toInt ≤ (503 : Int) := bI_t hw2 c3
    have zg4 : r1 = 1 := bI_t1 hw2 g4
    obtain ⟨j, hj, rfl⟩ := toN (p := hou) (k := 503) (by omega) (by omega) (by decide)
    have hl : lv_has ls 5 [(0, .ref o), (1, .int (nI j))] := hl
    refine lv_iload_n hx hb dX2_warmthOf_15 rfl (lv_at hl 1 rfl) ?_
    refine lv_bipush (v := 24) hx hb dX2_warmthOf_16 (by decide) ?_
    refine lv_idiv hx hb dX2_warmthOf_18 (by decide) ?_
    refine lv_topi (fun v5 e6 => ?_)
    obtain rfl : v5 = nI (j / 24) := e6.trans (pk_div (a := j) (d := 24) (by omega) (by decide) (by decide))
    refine lv_istore_n (lv' := [(2, .int (nI (j / 24))), (0, .ref o), (1, .int (nI j))]) hx hb dX2_warmthOf_19 rfl hl (by decide) rfl (fun ls hl => ?_)
    refine lv_iload_n hx hb dX2_warmthOf_20 rfl (lv_at hl 2 rfl) ?_
    refine lv_bipush (v := 24) hx hb dX2_warmthOf_21 (by decide) ?_
    refine lv_irem hx hb dX2_warmthOf_23 (by decide) ?_
    refine lv_topi (fun v7 e8 => ?_)
    obtain rfl : v7 = nI (j % 24) := e8.trans (pk_rem (a := j) (d := 24) (by omega) (by decide) (by decide))
    refine lv_istore_n (lv' := [(3, .int (nI (j % 24))), (2, .int (nI (j / 24))), (0, .ref o), (1, .int (nI j))]) hx hb dX2_warmthOf_24 rfl hl (by decide) rfl (fun ls hl => ?_)
    refine lv_iload_n hx hb dX2_warmthOf_25 rfl (lv_at hl 0 rfl) ?_
    refine lv_bipush (v := 12) hx hb dX2_warmthOf_26 (by decide) ?_
    refine lv_icmp_gt (tgt := 35) hx hb dX2_warmthOf_28 (by decide) (fun c9 => ?_) (fun c9 => ?_)
    · skip
      have k10 : 12 < (j % 24) := (nI_ltI (a := 12) (b := (j % 24)) (by omega) (by omega)).mp c9
      refine lv_bipush (v := 24) hx hb dX2_warmthOf_35 (by decide) ?_
      refine lv_iload_n hx hb dX2_warmthOf_37 rfl (lv_at hl 0 rfl) ?_
      refine lv_isub hx hb dX2_warmthOf_38 ?_
      refine lv_topi (fun v11 e12 => ?_)
      have tv11 : (v11 : Int32).toInt = ((24 : Nat) : Int) - (((j % 24) : Nat) : Int) := by rw [e12]; exact pk_sub_toInt (a := 24) (b := (j % 24)) (by omega) (by omega)
      refine lv_istore (lv' := [(4, .int v11), (3, .int (nI (j % 24))), (2, .int (nI (j / 24))), (0, .ref o), (1, .int (nI j))]) hx hb dX2_warmthOf_39 hl (by decide) rfl (fun ls hl => ?_)
      refine lv_aload_n hx hb dX2_warmthOf_41 rfl (lv_at hl 3 rfl) ?_
      obtain ⟨hP, hf⟩ := o_sky (i := 0) (q := o) hM (by omega)
      refine va_get (D := (dC, dI)) (ci := 6) (v := .ref (pF g o 0)) (C := RX2) (T := TX2) (N := 4) hx hb hts (by decide +kernel) hown hK hP 0 rfl rfl 0 (by decide) (hts (.fieldLink RX2 9 "Snowpalace$Sky" "lows" "[I") (by decide +kernel)) (fun _ h9 => h9) rfl dX2_warmthOf_42 ?_
      have ht13 : tg g (pF g o 0) = 5 := hf.1
      refine lv_iload_n hx hb dX2_warmthOf_45 rfl (lv_at hl 2 rfl) ?_
      obtain ⟨hP, hf⟩ := o_lo (i := 0) (q := (pF g o 0)) hM (by omega)
      refine va_iald (D := (dC, dI)) hx hb hK hP 0 0 rfl rfl (vp_in_nI (by omega) (by decide)) dX2_warmthOf_46 ?_
      refine lv_topi (fun v14 e15 => ?_)
      have ec : ((nI (j / 24)) : Int32).toNatClampNeg = (j / 24) := nI_clamp (by omega)
      rw [ec] at e15
      subst e15
      refine lv_aload_n hx hb dX2_warmthOf_47 rfl (lv_at hl 3 rfl) ?_
      obtain ⟨hP, hf⟩ := o_sky (i := 0) (q := o) hM (by omega)
      refine va_get (D := (dC, dI)) (ci := 6) (v := .ref (pF g o 1)) (C := RX2) (T := TX2) (N := 4) hx hb hts (by decide +kernel) hown hK hP 0 rfl rfl 1 (by decide) (hts (.fieldLink RX2 15 "Snowpalace$Sky" "highs" "[I") (by decide +kernel)) (fun _ h9 => h9) rfl dX2_warmthOf_48 ?_
      have ht16 : tg g (pF g o 1) = 6 := hf.2.1
      refine lv_iload_n hx hb dX2_warmthOf_51 rfl (lv_at hl 2 rfl) ?_
      obtain ⟨hP, hf⟩ := o_hi (i := 0) (q := (pF g o 1)) hM (by omega)
      refine va_iald (D := (dC, dI)) hx hb hK hP 0 0 rfl rfl (vp_in_nI (by omega) (by decide)) dX2_warmthOf_52 ?_
      refine lv_topi (fun v17 e18 => ?_)
      have ec : ((nI (j / 24)) : Int32).toNatClampNeg = (j / 24) := nI_clamp (by omega)
      rw [ec] at e18
      subst e18
      refine lv_aload_n hx hb dX2_warmthOf_53 rfl (lv_at hl 3 rfl) ?_
      obtain ⟨hP, hf⟩ := o_sky (i := 0) (q := o) hM (by omega)
      refine va_get (D := (dC, dI)) (ci := 6) (v := .ref (pF g o 0)) (C := RX2) (T := TX2) (N := 4) hx hb hts (by decide +kernel) hown hK hP 0 rfl rfl 0 (by decide) (hts (.fieldLink RX2 9 "Snowpalace$Sky" "lows" "[I") (by decide +kernel)) (fun _ h9 => h9) rfl dX2_warmthOf_54 ?_
      refine lv_iload_n hx hb dX2_warmthOf_57 rfl (lv_at hl 2 rfl) ?_
      obtain ⟨hP, hf⟩ := o_lo (i := 0) (q := (pF g o 0)) hM (by omega)
      refine va_iald (D := (dC, dI)) hx hb hK hP 0 0 rfl rfl (vp_in_nI (by omega) (by decide)) dX2_warmthOf_58 ?_
      refine lv_topi (fun v19 e20 => ?_)
      have ec : ((nI (j / 24)) : Int32).toNatClampNeg = (j / 24) := nI_clamp (by omega)
      rw [ec] at e20
      subst e20
      refine lv_isub hx hb dX2_warmthOf_59 ?_
      refine lv_topi (fun v21 e22 => ?_)
      subst e22
      refine lv_iload hx hb dX2_warmthOf_60 (lv_at hl 0 rfl) ?_
      refine lv_imul hx hb dX2_warmthOf_62 ?_
      refine lv_topi (fun v23 e24 => ?_)
      subst e24
      refine lv_bipush (v := 12) hx hb dX2_warmthOf_63 (by decide) ?_
      refine lv_idiv hx hb dX2_warmthOf_65 (by decide) ?_
      refine lv_topi (fun v25 e26 => ?_)
      subst e26
      refine lv_iadd hx hb dX2_warmthOf_66 ?_
      refine lv_topi (fun v27 e28 => ?_)
      subst e28
      refine W.widen (k := 0) (n := 0) (Nat.le_of_ble_eq_true rfl) (Nat.le_of_ble_eq_true rfl) ?_
      exact W.iret (v := ((pI g (pF g o 0) (j / 24)) + ((((pI g (pF g o 1) (j / 24)) - (pI g (pF g o 0) (j / 24))) * v11) / 12))) hx hb hr (fun t ht hW => ⟨⟨((pI g (pF g o 0) (j / 24)) + ((((pI g (pF g o 1) (j / 24)) - (pI g (pF g o 0) (j / 24))) * v11) / 12)), (), rfl, (by rw [e12]; exact wOf_2 (lo := (pI g (pF g o 0))) (hi := (pI g (pF g o 1))) (j := j) (by omega) (by omega)), CX.give hb0 hM hK hG hE hS ht hW⟩, hS.F ht⟩) hS.2.2 dX2_warmthOf_67
    · skip
      have k29 : ¬ (12 < (j % 24)) := fun z => c9 ((nI_ltI (a := 12) (b := (j % 24)) (by omega) (by omega)).mpr z)
      refine lv_iload_n hx hb dX2_warmthOf_31 rfl (lv_at hl 0 rfl) ?_
      refine lv_goto (tgt := 39) hx hb dX2_warmthOf_32 (by decide) ?_
      refine lv_istore (lv' := [(4, .int (nI (j % 24))), (3, .int (nI (j % 24))), (2, .int (nI (j / 24))), (0, .ref o), (1, .int (nI j))]) hx hb dX2_warmthOf_39 hl (by decide) rfl (fun ls hl => ?_)
      refine lv_aload_n hx hb dX2_warmthOf_41 rfl (lv_at hl 3 rfl) ?_
      obtain ⟨hP, hf⟩ := o_sky (i := 0) (q := o) hM (by omega)
      refine va_get (D := (dC, dI)) (ci := 6) (v := .ref (pF g o 0)) (C := RX2) (T := TX2) (N := 4) hx hb hts (by decide +kernel) hown hK hP 0 rfl rfl 0 (by decide) (hts (.fieldLink RX2 9 "Snowpalace$Sky" "lows" "[I") (by decide +kernel)) (fun _ h9 => h9) rfl dX2_warmthOf_42 ?_
      have ht30 : tg g (pF g o 0) = 5 := hf.1
      refine lv_iload_n hx hb dX2_warmthOf_45 rfl (lv_at hl 2 rfl) ?_
      obtain ⟨hP, hf⟩ := o_lo (i := 0) (q := (pF g o 0)) hM (by omega)
      refine va_iald (D := (dC, dI)) hx hb hK hP 0 0 rfl rfl (vp_in_nI (by omega) (by decide)) dX2_warmthOf_46 ?_
      refine lv_topi (fun v31 e32 => ?_)
      have ec : ((nI (j / 24)) : Int32).toNatClampNeg = (j / 24) := nI_clamp (by omega)
      rw [ec] at e32
      subst e32
      refine lv_aload_n hx hb dX2_warmthOf_47 rfl (lv_at hl 3 rfl) ?_
      obtain ⟨hP, hf⟩ := o_sky (i := 0) (q := o) hM (by omega)
      refine va_get (D := (dC, dI)) (ci := 6) (v := .ref (pF g o 1)) (C := RX2) (T := TX2) (N := 4) hx hb hts (by decide +kernel) hown hK hP 0 rfl rfl 1 (by decide) (hts (.fieldLink RX2 15 "Snowpalace$Sky" "highs" "[I") (by decide +kernel)) (fun _ h9 => h9) rfl dX2_warmthOf_48 ?_
      have ht33 : tg g (pF g o 1) = 6 := hf.2.1
      refine lv_iload_n hx hb dX2_warmthOf_51 rfl (lv_at hl 2 rfl) ?_
      obtain ⟨hP, hf⟩ := o_hi (i := 0) (q := (pF g o 1)) hM (by omega)
      refine va_iald (D := (dC, dI)) hx hb hK hP 0 0 rfl rfl (vp_in_nI (by omega) (by decide)) dX2_warmthOf_52 ?_
      refine lv_topi (fun v34 e35 => ?_)
      have ec : ((nI (j / 24)) : Int32).toNatClampNeg = (j / 24) := nI_clamp (by omega)
      rw [ec] at e35
      subst e35
      refine lv_aload_n hx hb dX2_warmthOf_53 rfl (lv_at hl 3 rfl) ?_
      obtain ⟨hP, hf⟩ := o_sky (i := 0) (q := o) hM (by omega)
      refine va_get (D := (dC, dI)) (ci := 6) (v := .ref (pF g o 0)) (C := RX2) (T := TX2) (N := 4) hx hb hts (by decide +kernel) hown hK hP 0 rfl rfl 0 (by decide) (hts (.fieldLink RX2 9 "Snowpalace$Sky" "lows" "[I") (by decide +kernel)) (fun _ h9 => h9) rfl dX2_warmthOf_54 ?_
      refine lv_iload_n hx hb dX2_warmthOf_57 rfl (lv_at hl 2 rfl) ?_
      obtain ⟨hP, hf⟩ := o_lo (i := 0) (q := (pF g o 0)) hM (by omega)
      refine va_iald (D := (dC, dI)) hx hb hK hP 0 0 rfl rfl (vp_in_nI (by omega) (by decide)) dX2_warmthOf_58 ?_
      refine lv_topi (fun v36 e37 => ?_)
      have ec : ((nI (j / 24)) : Int32).toNatClampNeg = (j / 24) := nI_clamp (by omega)
      rw [ec] at e37
      subst e37
      refine lv_isub hx hb dX2_warmthOf_59 ?_
      refine lv_topi (fun v38 e39 => ?_)
      subst e39
      refine lv_iload hx hb dX2_warmthOf_60 (lv_at hl 0 rfl) ?_
      refine lv_imul hx hb dX2_warmthOf_62 ?_
      refine lv_topi (fun v40 e41 => ?_)
      subst e41
      refine lv_bipush (v := 12) hx hb dX2_warmthOf_63 (by decide) ?_
      refine lv_idiv hx hb dX2_warmthOf_65 (by decide) ?_
      refine lv_topi (fun v42 e43 => ?_)
      subst e43
      refine lv_iadd hx hb dX2_warmthOf_66 ?_
      refine lv_topi (fun v44 e45 => ?_)
      subst e45
      refine W.widen (k := 0) (n := 0) (Nat.le_of_ble_eq_true rfl) (Nat.le_of_ble_eq_true rfl) ?_
      exact W.iret (v := ((pI g (pF g o 0) (j / 24)) + ((((pI g (pF g o 1) (j / 24)) - (pI g (pF g o 0) (j / 24))) * (nI (j % 24))) / 12))) hx hb hr (fun t ht hW => ⟨⟨((pI g (pF g o 0) (j / 24)) + ((((pI g (pF g o 1) (j / 24)) - (pI g (pF g o 0) (j / 24))) * (nI (j % 24))) / 12)), (), rfl, (wOf_1 (lo := (pI g (pF g o 0))) (hi := (pI g (pF g o 1))) (j := j) (by omega) (by omega)), CX.give hb0 hM hK hG hE hS ht hW⟩, hS.F ht⟩) hS.2.2 dX2_warmthOf_67
  · skip
    have g46 : ¬ ((0 : Int) ≤ hou.toInt ∧ hou.toInt ≤ (503 : Int)) := bI_f hw2 c3
    have zg46 : r1 = 0 := bI_f0 hw2 g46
    refine lv_sipush (v := (-150)) hx hb dX2_warmthOf_11 (by decide) ?_
    refine W.widen (k := 0) (n := 0) (Nat.le_of_ble_eq_true rfl) (Nat.le_of_ble_eq_true rfl) ?_
    exact W.iret (v := (-150)) hx hb hr (fun t ht hW => ⟨⟨(-150), (), rfl, (wOf_out (by omega)), CX.give hb0 hM hK hG hE hS ht hW⟩, hS.F ht⟩) hS.2.2 dX2_warmthOf_14

set_option maxHeartbeats 4000000 in
set_option maxRecDepth 100000 in
theorem rk_wetWarmthOf (l : Launch) (dC : Nat → ClassId) (dI : Nat → Nat → Nat) (kA : Nat → ClassId) (eD b : Nat) (g : Gh) (o : Nat) (hou : Int32) (hto : tg g o = 2)  : Met l yX2_wetWarmthOf wsX2_wetWarmthOf ({ frames := 2, cells := 0, slots := 0, locals := 46 }) (va_Pc [.ref o, .int hou] (CX (dC, dI) kA eD b g)) (va_Qi (fun (r : Int32) (u : Unit) => r = xOf (pI g (pF g o 0)) (pI g (pF g o 1)) (pI g (pF g o 3)) hou) (fun (u : Unit) t => CX (dC, dI) kA eD b g t) (fun q => b ≤ q)) 0 0 (fun q => b ≤ q) := by
  refine Met.ofW (cc := cX2_wetWarmthOf) (maxL := 2) (ret := (some .int)) (by decide +kernel) rfl ?_
  intro p e s m args below meth c s₁ B hml hv
  obtain ⟨rfl, hb0, hM, hK, hG, hE⟩ := hv
  have hx := B.exec
  have hb := B.bytes
  have hr := B.returns
  have hts := atoms_spec (ws := wsX2_wetWarmthOf) B.pre
  have hown : s.vm.findClass RX2 = some m.cls := findClass_of_methodNamed B.named
  have hlocks := B.notSynchronized
  have hT := hE.1
  have hN := hE.2.2.2.2.2.2.2.1
  have hS : va_S (fun q => b ≤ q) s.heap s.heap [] := va_S.rf
  have hl := lv_entry ([.ref o, .int hou]) (n := 2) (Nat.le_of_ble_eq_true rfl)
  rw [lg_entry_eq]
  generalize (lg_sl ([.ref o, .int hou]) ++ List.replicate (2 - (lg_sl ([.ref o, .int hou])).length) Slot.unset).toArray = ls at hl ⊢
  have hl : lv_has ls 2 [(0, .ref o), (1, .int hou)] := hl
  generalize ([.ref o, .int hou] : List Value).toArray = args at hts ⊢
  refine lv_iload_n hx hb dX2_wetWarmthOf_0 rfl (lv_at hl 1 rfl) ?_
  refine lv_iconst (v := 0) hx hb dX2_wetWarmthOf_1 (by decide) ?_
  refine lv_sipush (v := 503) hx hb dX2_wetWarmthOf_2 (by decide) ?_
  refine va_calli (va_runSN (As := [.int hou, .int 0, .int 503]) (rest := []) ⟨hx, hb, hml, hown, hts⟩ (rk_isWithin l hou 0 503 (0) (503) (by decide) (by decide)) (⟨va_cnB 3 hts gX2_wetWarmthOf_X3_isWithin_n24 rfl rfl rfl (hN (.methodLinkNest RX2 24 yX3_isWithin RX3) (by decide +kernel)) (hts (.initialized RX3) (by decide +kernel)) (by decide +kernel) ⟨Nat.le_of_ble_eq_true rfl, Nat.le_of_ble_eq_true rfl⟩, hts (.static yX3_isWithin) (by decide +kernel), trivial⟩) ⟨fun a U g mk q => q, fun U hU hW => ⟨rfl, trivial⟩⟩ rfl rfl hl.1 rfl (lv_room (Nat.le_of_ble_eq_true rfl)) dX2_wetWarmthOf_5 ⟨(Nat.le_of_ble_eq_true rfl), (Nat.le_of_ble_eq_true rfl)⟩) hS (fun q _ h => h.elim) (fun q h => h.elim) (fun r1 u t H locs ht hvm hw2 hB hz1 hk1 hS => ?_)
  have hM := hM.keep (fun p hp => hk1 p hp (fun z => z))
  have hw2 : r1 = bI ((0 : Int) ≤ hou.toInt ∧ hou.toInt ≤ (503 : Int)) := hw2
  refine lv_if_ne (tgt := 15) hx hb dX2_wetWarmthOf_8 (by decide) (fun c3 => ?_) (fun c3 => ?_)
  · skip
    have g4 : (0 : Int) ≤ hou.toInt ∧ hou.toInt ≤ (503 : Int) := bI_t hw2 c3
    have zg4 : r1 = 1 := bI_t1 hw2 g4
    obtain ⟨j, hj, rfl⟩ := toN (p := hou) (k := 503) (by omega) (by omega) (by decide)
    have hl : lv_has ls 2 [(0, .ref o), (1, .int (nI j))] := hl
    refine lv_aload_n hx hb dX2_wetWarmthOf_15 rfl (lv_at hl 0 rfl) ?_
    refine lv_iload_n hx hb dX2_wetWarmthOf_16 rfl (lv_at hl 1 rfl) ?_
    obtain ⟨hP, hf⟩ := o_sky (i := 0) (q := o) hM (by omega)
    refine va_calli (va_runV (As := [.int (nI j)]) (rest := []) ⟨hx, hb, hml, hown, hts⟩ (rk_warmthOf l dC dI kA eD b g o (nI j) (by omega)) (cwV 1 hts gX2_wetWarmthOf_X2_warmthOf rfl rfl rfl (by decide +kernel) ⟨Nat.le_of_ble_eq_true rfl, Nat.le_of_ble_eq_true rfl⟩) ⟨fb_CX, va_recv hK hP (ci := 6) (q0 := 0) rfl rfl, fun U hU hW => ⟨rfl, CX.give hb0 hM hK hG hE hS hU hW⟩⟩ rfl rfl hl.1 rfl (lv_room (Nat.le_of_ble_eq_true rfl)) dX2_wetWarmthOf_17 ⟨(Nat.le_of_ble_eq_true rfl), (Nat.le_of_ble_eq_true rfl)⟩) hS (fun q _ h => h) (fun q h => h) (fun r5 u t H locs ht hvm hw6 hB hz1 hk1 hS => ?_)
    have hM := hB.back ht
    have hG := hB.2.2.2.1
    refine lv_bipush (v := 100) hx hb dX2_wetWarmthOf_20 (by decide) ?_
    refine lv_aload_n hx hb dX2_wetWarmthOf_22 rfl (lv_at hl 0 rfl) ?_
    obtain ⟨hP, hf⟩ := o_sky (i := 0) (q := o) hM (by omega)
    refine va_get (D := (dC, dI)) (ci := 6) (v := .ref (pF g o 3)) (C := RX2) (T := TX2) (N := 4) hx hb hts (by decide +kernel) hown hK hP 0 rfl rfl 3 (by decide) (hts (.fieldLink RX2 21 "Snowpalace$Sky" "humidities" "[I") (by decide +kernel)) (fun _ h9 => h9) rfl dX2_wetWarmthOf_23 ?_
    have ht7 : tg g (pF g o 3) = 8 := hf.2.2.2
    refine lv_iload_n hx hb dX2_wetWarmthOf_26 rfl (lv_at hl 1 rfl) ?_
    refine lv_bipush (v := 24) hx hb dX2_wetWarmthOf_27 (by decide) ?_
    refine lv_idiv hx hb dX2_wetWarmthOf_29 (by decide) ?_
    refine lv_topi (fun v8 e9 => ?_)
    obtain rfl : v8 = nI (j / 24) := e9.trans (pk_div (a := j) (d := 24) (by omega) (by decide) (by decide))
    obtain ⟨hP, hf⟩ := o_hu (i := 0) (q := (pF g o 3)) hM (by omega)
    refine va_iald (D := (dC, dI)) hx hb hK hP 0 0 rfl rfl (vp_in_nI (by omega) (by decide)) dX2_wetWarmthOf_30 ?_
    refine lv_topi (fun v10 e11 => ?_)
    have ec : ((nI (j / 24)) : Int32).toNatClampNeg = (j / 24) := nI_clamp (by omega)
    rw [ec] at e11
    subst e11
    refine lv_isub hx hb dX2_wetWarmthOf_31 ?_
    refine lv_topi (fun v12 e13 => ?_)
    subst e13
    refine lv_iconst (v := 2) hx hb dX2_wetWarmthOf_32 (by decide) ?_
    refine lv_idiv hx hb dX2_wetWarmthOf_33 (by decide) ?_
    refine lv_topi (fun v14 e15 => ?_)
    subst e15
    refine lv_isub hx hb dX2_wetWarmthOf_34 ?_
    refine lv_topi (fun v16 e17 => ?_)
    subst e17
    refine W.widen (k := 0) (n := 0) (Nat.le_of_ble_eq_true rfl) (Nat.le_of_ble_eq_true rfl) ?_
    exact W.iret (v := (r5 - ((100 - (pI g (pF g o 3) (j / 24))) / 2))) hx hb hr (fun t ht hW => ⟨⟨(r5 - ((100 - (pI g (pF g o 3) (j / 24))) / 2)), (), rfl, (by rw [hw6]; exact xOf_in (lo := pI g (pF g o 0)) (hi := pI g (pF g o 1)) (hu := pI g (pF g o 3)) (j := j) (by omega)), CX.give hb0 hM hK hG hE hS ht hW⟩, hS.F ht⟩) hS.2.2 dX2_wetWarmthOf_35
  · skip
    have g18 : ¬ ((0 : Int) ≤ hou.toInt ∧ hou.toInt ≤ (503 : Int)) := bI_f hw2 c3
    have zg18 : r1 = 0 := bI_f0 hw2 g18
    refine lv_sipush (v := (-150)) hx hb dX2_wetWarmthOf_11 (by decide) ?_
    refine W.widen (k := 0) (n := 0) (Nat.le_of_ble_eq_true rfl) (Nat.le_of_ble_eq_true rfl) ?_
    exact W.iret (v := (-150)) hx hb hr (fun t ht hW => ⟨⟨(-150), (), rfl, (xOf_out (by omega)), CX.give hb0 hM hK hG hE hS ht hW⟩, hS.F ht⟩) hS.2.2 dX2_wetWarmthOf_14

set_option maxHeartbeats 4000000 in
set_option maxRecDepth 100000 in
theorem rk_windOf (l : Launch) (dC : Nat → ClassId) (dI : Nat → Nat → Nat) (kA : Nat → ClassId) (eD b : Nat) (g : Gh) (o : Nat) (hou : Int32) (hto : tg g o = 2)  : Met l yX2_windOf wsX2_windOf ({ frames := 1, cells := 0, slots := 0, locals := 22 }) (va_Pc [.ref o, .int hou] (CX (dC, dI) kA eD b g)) (va_Qi (fun (r : Int32) (u : Unit) => True) (fun (u : Unit) t => CX (dC, dI) kA eD b g t) (fun q => b ≤ q)) 0 0 (fun q => b ≤ q) := by
  refine Met.ofW (cc := cX2_windOf) (maxL := 2) (ret := (some .int)) (by decide +kernel) rfl ?_
  intro p e s m args below meth c s₁ B hml hv
  obtain ⟨rfl, hb0, hM, hK, hG, hE⟩ := hv
  have hx := B.exec
  have hb := B.bytes
  have hr := B.returns
  have hts := atoms_spec (ws := wsX2_windOf) B.pre
  have hown : s.vm.findClass RX2 = some m.cls := findClass_of_methodNamed B.named
  have hlocks := B.notSynchronized
  have hT := hE.1
  have hN := hE.2.2.2.2.2.2.2.1
  have hS : va_S (fun q => b ≤ q) s.heap s.heap [] := va_S.rf
  have hl := lv_entry ([.ref o, .int hou]) (n := 2) (Nat.le_of_ble_eq_true rfl)
  rw [lg_entry_eq]
  generalize (lg_sl ([.ref o, .int hou]) ++ List.replicate (2 - (lg_sl ([.ref o, .int hou])).length) Slot.unset).toArray = ls at hl ⊢
  have hl : lv_has ls 2 [(0, .ref o), (1, .int hou)] := hl
  generalize ([.ref o, .int hou] : List Value).toArray = args at hts ⊢
  refine lv_iload_n hx hb dX2_windOf_0 rfl (lv_at hl 1 rfl) ?_
  refine lv_iconst (v := 0) hx hb dX2_windOf_1 (by decide) ?_
  refine lv_sipush (v := 503) hx hb dX2_windOf_2 (by decide) ?_
  refine va_calli (va_runSN (As := [.int hou, .int 0, .int 503]) (rest := []) ⟨hx, hb, hml, hown, hts⟩ (rk_isWithin l hou 0 503 (0) (503) (by decide) (by decide)) (⟨va_cnB 3 hts gX2_windOf_X3_isWithin_n24 rfl rfl rfl (hN (.methodLinkNest RX2 24 yX3_isWithin RX3) (by decide +kernel)) (hts (.initialized RX3) (by decide +kernel)) (by decide +kernel) ⟨Nat.le_of_ble_eq_true rfl, Nat.le_of_ble_eq_true rfl⟩, hts (.static yX3_isWithin) (by decide +kernel), trivial⟩) ⟨fun a U g mk q => q, fun U hU hW => ⟨rfl, trivial⟩⟩ rfl rfl hl.1 rfl (lv_room (Nat.le_of_ble_eq_true rfl)) dX2_windOf_5 ⟨(Nat.le_of_ble_eq_true rfl), (Nat.le_of_ble_eq_true rfl)⟩) hS (fun q _ h => h.elim) (fun q h => h.elim) (fun r1 u t H locs ht hvm hw2 hB hz1 hk1 hS => ?_)
  have hM := hM.keep (fun p hp => hk1 p hp (fun z => z))
  have hw2 : r1 = bI ((0 : Int) ≤ hou.toInt ∧ hou.toInt ≤ (503 : Int)) := hw2
  refine lv_if_eq (tgt := 23) hx hb dX2_windOf_8 (by decide) (fun c3 => ?_) (fun c3 => ?_)
  · skip
    have g4 : ¬ ((0 : Int) ≤ hou.toInt ∧ hou.toInt ≤ (503 : Int)) := bI_f hw2 c3
    have zg4 : r1 = 0 := bI_f0 hw2 g4
    refine lv_iconst (v := 5) hx hb dX2_windOf_23 (by decide) ?_
    refine W.widen (k := 0) (n := 0) (Nat.le_of_ble_eq_true rfl) (Nat.le_of_ble_eq_true rfl) ?_
    exact W.iret (v := 5) hx hb hr (fun t ht hW => ⟨⟨5, (), rfl, trivial, CX.give hb0 hM hK hG hE hS ht hW⟩, hS.F ht⟩) hS.2.2 dX2_windOf_24
  · skip
    have g5 : (0 : Int) ≤ hou.toInt ∧ hou.toInt ≤ (503 : Int) := bI_t hw2 c3
    have zg5 : r1 = 1 := bI_t1 hw2 g5
    obtain ⟨j, hj, rfl⟩ := toN (p := hou) (k := 503) (by omega) (by omega) (by decide)
    have hl : lv_has ls 2 [(0, .ref o), (1, .int (nI j))] := hl
    refine lv_aload_n hx hb dX2_windOf_11 rfl (lv_at hl 0 rfl) ?_
    obtain ⟨hP, hf⟩ := o_sky (i := 0) (q := o) hM (by omega)
    refine va_get (D := (dC, dI)) (ci := 6) (v := .ref (pF g o 2)) (C := RX2) (T := TX2) (N := 4) hx hb hts (by decide +kernel) hown hK hP 0 rfl rfl 2 (by decide) (hts (.fieldLink RX2 18 "Snowpalace$Sky" "winds" "[I") (by decide +kernel)) (fun _ h9 => h9) rfl dX2_windOf_12 ?_
    have ht6 : tg g (pF g o 2) = 7 := hf.2.2.1
    refine lv_iload_n hx hb dX2_windOf_15 rfl (lv_at hl 1 rfl) ?_
    refine lv_bipush (v := 24) hx hb dX2_windOf_16 (by decide) ?_
    refine lv_idiv hx hb dX2_windOf_18 (by decide) ?_
    refine lv_topi (fun v7 e8 => ?_)
    obtain rfl : v7 = nI (j / 24) := e8.trans (pk_div (a := j) (d := 24) (by omega) (by decide) (by decide))
    obtain ⟨hP, hf⟩ := o_wi (i := 0) (q := (pF g o 2)) hM (by omega)
    refine va_iald (D := (dC, dI)) hx hb hK hP 0 0 rfl rfl (vp_in_nI (by omega) (by decide)) dX2_windOf_19 ?_
    refine lv_topi (fun v9 e10 => ?_)
    have ec : ((nI (j / 24)) : Int32).toNatClampNeg = (j / 24) := nI_clamp (by omega)
    rw [ec] at e10
    subst e10
    refine lv_goto (tgt := 24) hx hb dX2_windOf_20 (by decide) ?_
    refine W.widen (k := 0) (n := 0) (Nat.le_of_ble_eq_true rfl) (Nat.le_of_ble_eq_true rfl) ?_
    exact W.iret (v := (pI g (pF g o 2) (j / 24))) hx hb hr (fun t ht hW => ⟨⟨(pI g (pF g o 2) (j / 24)), (), rfl, trivial, CX.give hb0 hM hK hG hE hS ht hW⟩, hS.F ht⟩) hS.2.2 dX2_windOf_24

set_option maxHeartbeats 4000000 in
set_option maxRecDepth 100000 in
theorem rk_bearsLorries (l : Launch) (dC : Nat → ClassId) (dI : Nat → Nat → Nat) (kA : Nat → ClassId) (eD b : Nat) (g : Gh) (o : Nat) (fi : Int32) (hto : tg g o = 3)  : Met l yX0_bearsLorries wsX0_bearsLorries ({ frames := 1, cells := 0, slots := 0, locals := 22 }) (va_Pc [.ref o, .int fi] (CX (dC, dI) kA eD b g)) (va_Qi (fun (r : Int32) (u : Unit) => r = 0 ∨ r = 1) (fun (u : Unit) t => CX (dC, dI) kA eD b g t) (fun q => b ≤ q)) 0 0 (fun q => b ≤ q) := by
  refine Met.ofW (cc := cX0_bearsLorries) (maxL := 2) (ret := (some .boolean)) (by decide +kernel) rfl ?_
  intro p e s m args below meth c s₁ B hml hv
  obtain ⟨rfl, hb0, hM, hK, hG, hE⟩ := hv
  have hx := B.exec
  have hb := B.bytes
  have hr := B.returns
  have hts := atoms_spec (ws := wsX0_bearsLorries) B.pre
  have hown : s.vm.findClass RX0 = some m.cls := findClass_of_methodNamed B.named
  have hlocks := B.notSynchronized
  have hT := hE.1
  have hN := hE.2.2.2.2.2.2.2.1
  have hS : va_S (fun q => b ≤ q) s.heap s.heap [] := va_S.rf
  have hl := lv_entry ([.ref o, .int fi]) (n := 2) (Nat.le_of_ble_eq_true rfl)
  rw [lg_entry_eq]
  generalize (lg_sl ([.ref o, .int fi]) ++ List.replicate (2 - (lg_sl ([.ref o, .int fi])).length) Slot.unset).toArray = ls at hl ⊢
  have hl : lv_has ls 2 [(0, .ref o), (1, .int fi)] := hl
  generalize ([.ref o, .int fi] : List Value).toArray = args at hts ⊢
  refine W.q (fun Q hQ => ?_)
  refine lv_iload_n hx hb dX0_bearsLorries_0 rfl (lv_at hl 1 rfl) ?_
  refine lv_iconst (v := 0) hx hb dX0_bearsLorries_1 (by decide) ?_
  refine lv_iconst (v := 3) hx hb dX0_bearsLorries_2 (by decide) ?_
  refine va_calli (va_runSN (As := [.int fi, .int 0, .int 3]) (rest := []) ⟨hx, hb, hml, hown, hts⟩ (rk_isWithin l fi 0 3 (0) (3) (by decide) (by decide)) (⟨va_cnB 3 hts gX0_bearsLorries_X3_isWithin_n21 rfl rfl rfl (hN (.methodLinkNest RX0 21 yX3_isWithin RX3) (by decide +kernel)) (hts (.initialized RX3) (by decide +kernel)) (by decide +kernel) ⟨Nat.le_of_ble_eq_true rfl, Nat.le_of_ble_eq_true rfl⟩, hts (.static yX3_isWithin) (by decide +kernel), trivial⟩) ⟨fun a U g mk q => q, fun U hU hW => ⟨rfl, trivial⟩⟩ rfl rfl hl.1 rfl (lv_room (Nat.le_of_ble_eq_true rfl)) dX0_bearsLorries_3 ⟨(Nat.le_of_ble_eq_true rfl), (Nat.le_of_ble_eq_true rfl)⟩) hS (fun q _ h => h.elim) (fun q h => h.elim) (fun r1 u t H locs ht hvm hw2 hB hz1 hk1 hS => ?_)
  have hM := hM.keep (fun p hp => hk1 p hp (fun z => z))
  have hw2 : r1 = bI ((0 : Int) ≤ fi.toInt ∧ fi.toInt ≤ (3 : Int)) := hw2
  have jn4 : ∀ (x3 : Int32) (H : Heap) (locs : List Loc) (ls : Array Slot), (x3 = 0 ∨ x3 = 1) → TM (dC, dI) kA b g H → va_S (fun q => b ≤ q) s.heap H locs → lv_has ls 2 [(0, .ref o), (1, .int fi)] → W p l e (headSpec wsX0_bearsLorries ({ frames := 1, cells := 0, slots := 0, locals := 22 })).room s m args below meth c H locs 0 0 Q (F0 m 37 ls [.int x3]) := by
    intro x3 H locs ls hj5 hM hS hl
    subst hQ
    refine W.widen (k := 0) (n := 0) (Nat.le_of_ble_eq_true rfl) (Nat.le_of_ble_eq_true rfl) ?_
    exact W.zret (v := x3) (ty := .boolean) hx hb hr (z01n hj5) (fun t ht hW => ⟨⟨x3, (), rfl, hj5, CX.give hb0 hM hK hG hE hS ht hW⟩, hS.F ht⟩) hS.2.2 dX0_bearsLorries_37
  refine lv_if_eq (tgt := 36) hx hb dX0_bearsLorries_6 (by decide) (fun c6 => ?_) (fun c6 => ?_)
  · skip
    have g7 : ¬ ((0 : Int) ≤ fi.toInt ∧ fi.toInt ≤ (3 : Int)) := bI_f hw2 c6
    have zg7 : r1 = 0 := bI_f0 hw2 g7
    refine lv_iconst (v := 0) hx hb dX0_bearsLorries_36 (by decide) ?_
    exact jn4 0 H _ ls (Or.inl rfl) hM hS (lv_sub hl [0, 1] rfl)
  · skip
    have g8 : (0 : Int) ≤ fi.toInt ∧ fi.toInt ≤ (3 : Int) := bI_t hw2 c6
    have zg8 : r1 = 1 := bI_t1 hw2 g8
    refine lv_aload_n hx hb dX0_bearsLorries_9 rfl (lv_at hl 0 rfl) ?_
    obtain ⟨hP, hf⟩ := o_riv (i := 0) (q := o) hM (by omega)
    refine va_get (D := (dC, dI)) (ci := 4) (v := .ref (pF g o 0)) (C := RX0) (T := TX0) (N := 3) hx hb hts (by decide +kernel) hown hK hP 0 rfl rfl 0 (by decide) (hts (.fieldLink RX0 9 "Snowpalace$River" "thickness" "[I") (by decide +kernel)) (fun _ h9 => h9) rfl dX0_bearsLorries_10 ?_
    have ht9 : tg g (pF g o 0) = 9 := hf.1
    refine lv_iload_n hx hb dX0_bearsLorries_13 rfl (lv_at hl 1 rfl) ?_
    obtain ⟨u10, hP, hf⟩ := o_ri (i := 0) (q := (pF g o 0)) hM (by omega)
    refine va_iald (D := (dC, dI)) hx hb hK hP 0 0 rfl rfl (inI (by omega) (by omega)) dX0_bearsLorries_14 ?_
    refine lv_topi (fun v11 e12 => ?_)
    refine lv_sipush (v := 250) hx hb dX0_bearsLorries_15 (by decide) ?_
    have jn13 : ∀  (H : Heap) (locs : List Loc) (ls : Array Slot), TM (dC, dI) kA b g H → va_S (fun q => b ≤ q) s.heap H locs → lv_has ls 2 [(0, .ref o), (1, .int fi)] → W p l e (headSpec wsX0_bearsLorries ({ frames := 1, cells := 0, slots := 0, locals := 22 })).room s m args below meth c H locs 0 0 Q (F0 m 36 ls []) := by
      intro H locs ls hM hS hl
      refine lv_iconst (v := 0) hx hb dX0_bearsLorries_36 (by decide) ?_
      exact jn4 0 H _ ls (Or.inl rfl) hM hS (lv_sub hl [0, 1] rfl)
    refine lv_icmp_lt (tgt := 36) hx hb dX0_bearsLorries_18 (by decide) (fun c14 => ?_) (fun c14 => ?_)
    · skip
      have i15 := (Int32.lt_iff_toInt_lt).mp c14
      have ii15 : (250 : Int32).toInt = 250 := by decide
      have i15 := i15
      exact jn13 H _ ls hM hS (lv_sub hl [0, 1] rfl)
    · skip
      have i16 := fun z => c14 ((Int32.lt_iff_toInt_lt).mpr z)
      have ii16 : (250 : Int32).toInt = 250 := by decide
      have i16 : ¬ ((v11 : Int32).toInt < (250 : Int32).toInt) := i16
      refine lv_aload_n hx hb dX0_bearsLorries_21 rfl (lv_at hl 0 rfl) ?_
      obtain ⟨hP, hf⟩ := o_riv (i := 0) (q := o) hM (by omega)
      refine va_get (D := (dC, dI)) (ci := 4) (v := .ref (pF g o 2)) (C := RX0) (T := TX0) (N := 3) hx hb hts (by decide +kernel) hown hK hP 0 rfl rfl 2 (by decide) (hts (.fieldLink RX0 18 "Snowpalace$River" "places" "[I") (by decide +kernel)) (fun _ h9 => h9) rfl dX0_bearsLorries_22 ?_
      have ht17 : tg g (pF g o 2) = 9 := hf.2.2
      refine lv_iload_n hx hb dX0_bearsLorries_25 rfl (lv_at hl 1 rfl) ?_
      obtain ⟨u18, hP, hf⟩ := o_ri (i := 0) (q := (pF g o 2)) hM (by omega)
      refine va_iald (D := (dC, dI)) hx hb hK hP 0 0 rfl rfl (inI (by omega) (by omega)) dX0_bearsLorries_26 ?_
      refine lv_topi (fun v19 e20 => ?_)
      refine lv_bipush (v := 20) hx hb dX0_bearsLorries_27 (by decide) ?_
      refine lv_icmp_lt (tgt := 36) hx hb dX0_bearsLorries_29 (by decide) (fun c21 => ?_) (fun c21 => ?_)
      · skip
        have i22 := (Int32.lt_iff_toInt_lt).mp c21
        have ii22 : (20 : Int32).toInt = 20 := by decide
        have i22 := i22
        exact jn13 H _ ls hM hS (lv_sub hl [0, 1] rfl)
      · skip
        have i23 := fun z => c21 ((Int32.lt_iff_toInt_lt).mpr z)
        have ii23 : (20 : Int32).toInt = 20 := by decide
        have i23 : ¬ ((v19 : Int32).toInt < (20 : Int32).toInt) := i23
        refine lv_iconst (v := 1) hx hb dX0_bearsLorries_32 (by decide) ?_
        refine lv_goto (tgt := 37) hx hb dX0_bearsLorries_33 (by decide) ?_
        exact jn4 1 H _ ls (Or.inr rfl) hM hS (lv_sub hl [0, 1] rfl)

set_option maxHeartbeats 4000000 in
set_option maxRecDepth 100000 in
theorem rk_isClear (l : Launch) (dC : Nat → ClassId) (dI : Nat → Nat → Nat) (kA : Nat → ClassId) (eD b : Nat) (g : Gh) (o : Nat) (fi : Int32) (hto : tg g o = 3)  : Met l yX0_isClear wsX0_isClear ({ frames := 1, cells := 0, slots := 0, locals := 22 }) (va_Pc [.ref o, .int fi] (CX (dC, dI) kA eD b g)) (va_Qi (fun (r : Int32) (u : Unit) => r = 0 ∨ r = 1) (fun (u : Unit) t => CX (dC, dI) kA eD b g t) (fun q => b ≤ q)) 0 0 (fun q => b ≤ q) := by
  refine Met.ofW (cc := cX0_isClear) (maxL := 2) (ret := (some .boolean)) (by decide +kernel) rfl ?_
  intro p e s m args below meth c s₁ B hml hv
  obtain ⟨rfl, hb0, hM, hK, hG, hE⟩ := hv
  have hx := B.exec
  have hb := B.bytes
  have hr := B.returns
  have hts := atoms_spec (ws := wsX0_isClear) B.pre
  have hown : s.vm.findClass RX0 = some m.cls := findClass_of_methodNamed B.named
  have hlocks := B.notSynchronized
  have hT := hE.1
  have hN := hE.2.2.2.2.2.2.2.1
  have hS : va_S (fun q => b ≤ q) s.heap s.heap [] := va_S.rf
  have hl := lv_entry ([.ref o, .int fi]) (n := 2) (Nat.le_of_ble_eq_true rfl)
  rw [lg_entry_eq]
  generalize (lg_sl ([.ref o, .int fi]) ++ List.replicate (2 - (lg_sl ([.ref o, .int fi])).length) Slot.unset).toArray = ls at hl ⊢
  have hl : lv_has ls 2 [(0, .ref o), (1, .int fi)] := hl
  generalize ([.ref o, .int fi] : List Value).toArray = args at hts ⊢
  refine W.q (fun Q hQ => ?_)
  refine lv_iload_n hx hb dX0_isClear_0 rfl (lv_at hl 1 rfl) ?_
  refine lv_iconst (v := 0) hx hb dX0_isClear_1 (by decide) ?_
  refine lv_iconst (v := 3) hx hb dX0_isClear_2 (by decide) ?_
  refine va_calli (va_runSN (As := [.int fi, .int 0, .int 3]) (rest := []) ⟨hx, hb, hml, hown, hts⟩ (rk_isWithin l fi 0 3 (0) (3) (by decide) (by decide)) (⟨va_cnB 3 hts gX0_isClear_X3_isWithin_n21 rfl rfl rfl (hN (.methodLinkNest RX0 21 yX3_isWithin RX3) (by decide +kernel)) (hts (.initialized RX3) (by decide +kernel)) (by decide +kernel) ⟨Nat.le_of_ble_eq_true rfl, Nat.le_of_ble_eq_true rfl⟩, hts (.static yX3_isWithin) (by decide +kernel), trivial⟩) ⟨fun a U g mk q => q, fun U hU hW => ⟨rfl, trivial⟩⟩ rfl rfl hl.1 rfl (lv_room (Nat.le_of_ble_eq_true rfl)) dX0_isClear_3 ⟨(Nat.le_of_ble_eq_true rfl), (Nat.le_of_ble_eq_true rfl)⟩) hS (fun q _ h => h.elim) (fun q h => h.elim) (fun r1 u t H locs ht hvm hw2 hB hz1 hk1 hS => ?_)
  have hM := hM.keep (fun p hp => hk1 p hp (fun z => z))
  have hw2 : r1 = bI ((0 : Int) ≤ fi.toInt ∧ fi.toInt ≤ (3 : Int)) := hw2
  have jn4 : ∀ (x3 : Int32) (H : Heap) (locs : List Loc) (ls : Array Slot), (x3 = 0 ∨ x3 = 1) → TM (dC, dI) kA b g H → va_S (fun q => b ≤ q) s.heap H locs → lv_has ls 2 [(0, .ref o), (1, .int fi)] → W p l e (headSpec wsX0_isClear ({ frames := 1, cells := 0, slots := 0, locals := 22 })).room s m args below meth c H locs 0 0 Q (F0 m 33 ls [.int x3]) := by
    intro x3 H locs ls hj5 hM hS hl
    subst hQ
    refine W.widen (k := 0) (n := 0) (Nat.le_of_ble_eq_true rfl) (Nat.le_of_ble_eq_true rfl) ?_
    exact W.zret (v := x3) (ty := .boolean) hx hb hr (z01n hj5) (fun t ht hW => ⟨⟨x3, (), rfl, hj5, CX.give hb0 hM hK hG hE hS ht hW⟩, hS.F ht⟩) hS.2.2 dX0_isClear_33
  refine lv_if_eq (tgt := 32) hx hb dX0_isClear_6 (by decide) (fun c6 => ?_) (fun c6 => ?_)
  · skip
    have g7 : ¬ ((0 : Int) ≤ fi.toInt ∧ fi.toInt ≤ (3 : Int)) := bI_f hw2 c6
    have zg7 : r1 = 0 := bI_f0 hw2 g7
    refine lv_iconst (v := 0) hx hb dX0_isClear_32 (by decide) ?_
    exact jn4 0 H _ ls (Or.inl rfl) hM hS (lv_sub hl [0, 1] rfl)
  · skip
    have g8 : (0 : Int) ≤ fi.toInt ∧ fi.toInt ≤ (3 : Int) := bI_t hw2 c6
    have zg8 : r1 = 1 := bI_t1 hw2 g8
    refine lv_aload_n hx hb dX0_isClear_9 rfl (lv_at hl 0 rfl) ?_
    obtain ⟨hP, hf⟩ := o_riv (i := 0) (q := o) hM (by omega)
    refine va_get (D := (dC, dI)) (ci := 4) (v := .ref (pF g o 1)) (C := RX0) (T := TX0) (N := 3) hx hb hts (by decide +kernel) hown hK hP 0 rfl rfl 1 (by decide) (hts (.fieldLink RX0 15 "Snowpalace$River" "clearPart" "[I") (by decide +kernel)) (fun _ h9 => h9) rfl dX0_isClear_10 ?_
    have ht9 : tg g (pF g o 1) = 9 := hf.2.1
    refine lv_iload_n hx hb dX0_isClear_13 rfl (lv_at hl 1 rfl) ?_
    obtain ⟨u10, hP, hf⟩ := o_ri (i := 0) (q := (pF g o 1)) hM (by omega)
    refine va_iald (D := (dC, dI)) hx hb hK hP 0 0 rfl rfl (inI (by omega) (by omega)) dX0_isClear_14 ?_
    refine lv_topi (fun v11 e12 => ?_)
    refine lv_iconst (v := 3) hx hb dX0_isClear_15 (by decide) ?_
    refine lv_imul hx hb dX0_isClear_16 ?_
    refine lv_topi (fun v13 e14 => ?_)
    refine lv_aload_n hx hb dX0_isClear_17 rfl (lv_at hl 0 rfl) ?_
    obtain ⟨hP, hf⟩ := o_riv (i := 0) (q := o) hM (by omega)
    refine va_get (D := (dC, dI)) (ci := 4) (v := .ref (pF g o 0)) (C := RX0) (T := TX0) (N := 3) hx hb hts (by decide +kernel) hown hK hP 0 rfl rfl 0 (by decide) (hts (.fieldLink RX0 9 "Snowpalace$River" "thickness" "[I") (by decide +kernel)) (fun _ h9 => h9) rfl dX0_isClear_18 ?_
    have ht15 : tg g (pF g o 0) = 9 := hf.1
    refine lv_iload_n hx hb dX0_isClear_21 rfl (lv_at hl 1 rfl) ?_
    obtain ⟨u16, hP, hf⟩ := o_ri (i := 0) (q := (pF g o 0)) hM (by omega)
    refine va_iald (D := (dC, dI)) hx hb hK hP 0 0 rfl rfl (inI (by omega) (by omega)) dX0_isClear_22 ?_
    refine lv_topi (fun v17 e18 => ?_)
    refine lv_iconst (v := 2) hx hb dX0_isClear_23 (by decide) ?_
    refine lv_imul hx hb dX0_isClear_24 ?_
    refine lv_topi (fun v19 e20 => ?_)
    refine lv_icmp_lt (tgt := 32) hx hb dX0_isClear_25 (by decide) (fun c21 => ?_) (fun c21 => ?_)
    · skip
      have i22 := (Int32.lt_iff_toInt_lt).mp c21
      have i22 := i22
      refine lv_iconst (v := 0) hx hb dX0_isClear_32 (by decide) ?_
      exact jn4 0 H _ ls (Or.inl rfl) hM hS (lv_sub hl [0, 1] rfl)
    · skip
      have i23 := fun z => c21 ((Int32.lt_iff_toInt_lt).mpr z)
      have i23 : ¬ ((v13 : Int32).toInt < (v19 : Int32).toInt) := i23
      refine lv_iconst (v := 1) hx hb dX0_isClear_28 (by decide) ?_
      refine lv_goto (tgt := 33) hx hb dX0_isClear_29 (by decide) ?_
      exact jn4 1 H _ ls (Or.inr rfl) hM hS (lv_sub hl [0, 1] rfl)

set_option maxHeartbeats 4000000 in
set_option maxRecDepth 100000 in
theorem rk_riverHour (l : Launch) (dC : Nat → ClassId) (dI : Nat → Nat → Nat) (kA : Nat → ClassId) (eD b : Nat) (g : Gh) (o : Nat) (wm : Int32) (hto : tg g o = 3)  : Met l yX0_passHour wsX0_passHour ({ frames := 1, cells := 0, slots := 0, locals := 15 }) (va_Pc [.ref o, .int wm] (CX (dC, dI) kA eD b g)) (va_Qv (fun (u : Unit) => True) (fun (u : Unit) t => CX (dC, dI) kA eD b g t) (fun q => b ≤ q)) 0 0 (fun q => b ≤ q) := by
  refine Met.ofW (cc := cX0_passHour) (maxL := 4) (ret := none) (by decide +kernel) rfl ?_
  intro p e s m args below meth c s₁ B hml hv
  obtain ⟨rfl, hb0, hM, hK, hG, hE⟩ := hv
  have hx := B.exec
  have hb := B.bytes
  have hr := B.returns
  have hts := atoms_spec (ws := wsX0_passHour) B.pre
  have hown : s.vm.findClass RX0 = some m.cls := findClass_of_methodNamed B.named
  have hlocks := B.notSynchronized
  have hT := hE.1
  have hN := hE.2.2.2.2.2.2.2.1
  have hS : va_S (fun q => b ≤ q) s.heap s.heap [] := va_S.rf
  have hl := lv_entry ([.ref o, .int wm]) (n := 4) (Nat.le_of_ble_eq_true rfl)
  rw [lg_entry_eq]
  generalize (lg_sl ([.ref o, .int wm]) ++ List.replicate (4 - (lg_sl ([.ref o, .int wm])).length) Slot.unset).toArray = ls at hl ⊢
  have hl : lv_has ls 4 [(0, .ref o), (1, .int wm)] := hl
  generalize ([.ref o, .int wm] : List Value).toArray = args at hts ⊢
  refine W.q (fun Q hQ => ?_)
  refine lv_iconst (v := 0) hx hb dX0_passHour_0 (by decide) ?_
  refine lv_istore_n (lv' := [(2, .int 0), (0, .ref o), (1, .int wm)]) hx hb dX0_passHour_1 rfl hl (by decide) rfl (fun ls hl => ?_)
  have lp2 : ∀ (n3 j1 : Nat) , 0 ≤ j1 → j1 ≤ 4 → 4 < j1 + n3 → ∀ (H : Heap) (locs : List Loc) (ls : Array Slot), TM (dC, dI) kA b g H → va_S (fun q => b ≤ q) s.heap H locs → lv_has ls 4 [(2, .int (nI j1)), (0, .ref o), (1, .int wm)] → W p l e (headSpec wsX0_passHour ({ frames := 1, cells := 0, slots := 0, locals := 15 })).room s m args below meth c H locs 0 0 Q (F0 m 2 ls []) := by
    intro n3
    induction n3 with
    | zero => intro j1 h0 h1 h2; omega
    | succ n3 ih4 =>
      intro j1 lj1 hj1 hn3 H locs ls hM hS hl
      refine lv_iload_n hx hb dX0_passHour_2 rfl (lv_at hl 0 rfl) ?_
      refine lv_iconst (v := 4) hx hb dX0_passHour_3 (by decide) ?_
      refine lv_icmp_ge (tgt := 112) hx hb dX0_passHour_4 (by decide) (fun c5 => ?_) (fun c5 => ?_)
      · skip
        have k6 : 4 ≤ j1 := (nI_leI (a := 4) (b := j1) (by omega) (by omega)).mp c5
        subst hQ
        refine W.widen (k := 0) (n := 0) (Nat.le_of_ble_eq_true rfl) (Nat.le_of_ble_eq_true rfl) ?_
        exact W.vret hx hb hr (fun t ht hW => ⟨⟨(), rfl, trivial, CX.give hb0 hM hK hG hE hS ht hW⟩, hS.F ht⟩) hS.2.2 dX0_passHour_112
      · skip
        have k7 : ¬ (4 ≤ j1) := fun z => c5 ((nI_leI (a := 4) (b := j1) (by omega) (by omega)).mpr z)
        refine lv_iload_n hx hb dX0_passHour_7 rfl (lv_at hl 2 rfl) ?_
        have jn8 : ∀  (H : Heap) (locs : List Loc) (ls : Array Slot), TM (dC, dI) kA b g H → va_S (fun q => b ≤ q) s.heap H locs → lv_has ls 4 [(2, .int (nI j1)), (0, .ref o), (1, .int wm)] → W p l e (headSpec wsX0_passHour ({ frames := 1, cells := 0, slots := 0, locals := 15 })).room s m args below meth c H locs 0 0 Q (F0 m 106 ls []) := by
          intro H locs ls hM hS hl
          refine lv_iinc (v := (nI (j1 + 1))) (lv' := [(2, .int (nI (j1 + 1))), (0, .ref o), (1, .int wm)]) hx hb dX0_passHour_106 hl (k := 0) rfl (nI_add j1 1) (by decide) rfl (fun ls hl => ?_)
          refine lv_goto (tgt := 2) hx hb dX0_passHour_109 (by decide) ?_
          exact ih4 ((j1 + 1)) (by omega) (by omega) (by omega) H _ ls  hM hS (lv_sub hl [0, 1, 2] rfl)
        refine lv_if_ge (tgt := 64) hx hb dX0_passHour_8 (by decide) (fun c9 => ?_) (fun c9 => ?_)
        · skip
          have i10 := (Int32.le_iff_toInt_le).mp c9
          have ii10 : (0 : Int32).toInt = 0 := by decide
          have i10 := i10
          refine lv_aload_n hx hb dX0_passHour_64 rfl (lv_at hl 1 rfl) ?_
          obtain ⟨hP, hf⟩ := o_riv (i := 0) (q := o) hM (by omega)
          refine va_get (D := (dC, dI)) (ci := 4) (v := .ref (pF g o 0)) (C := RX0) (T := TX0) (N := 3) hx hb hts (by decide +kernel) hown hK hP 0 rfl rfl 0 (by decide) (hts (.fieldLink RX0 9 "Snowpalace$River" "thickness" "[I") (by decide +kernel)) (fun _ h9 => h9) rfl dX0_passHour_65 ?_
          have ht11 : tg g (pF g o 0) = 9 := hf.1
          refine lv_iload_n hx hb dX0_passHour_68 rfl (lv_at hl 0 rfl) ?_
          refine lv_iconst (v := 0) hx hb dX0_passHour_69 (by decide) ?_
          refine lv_aload_n hx hb dX0_passHour_70 rfl (lv_at hl 1 rfl) ?_
          obtain ⟨hP, hf⟩ := o_riv (i := 0) (q := o) hM (by omega)
          refine va_get (D := (dC, dI)) (ci := 4) (v := .ref (pF g o 0)) (C := RX0) (T := TX0) (N := 3) hx hb hts (by decide +kernel) hown hK hP 0 rfl rfl 0 (by decide) (hts (.fieldLink RX0 9 "Snowpalace$River" "thickness" "[I") (by decide +kernel)) (fun _ h9 => h9) rfl dX0_passHour_71 ?_
          refine lv_iload_n hx hb dX0_passHour_74 rfl (lv_at hl 0 rfl) ?_
          obtain ⟨u12, hP, hf⟩ := o_ri (i := 0) (q := (pF g o 0)) hM (by omega)
          refine va_iald (D := (dC, dI)) hx hb hK hP 0 0 rfl rfl (vp_in_nI (by omega) (by decide)) dX0_passHour_75 ?_
          refine lv_topi (fun v13 e14 => ?_)
          have ec : ((nI j1) : Int32).toNatClampNeg = j1 := nI_clamp (by omega)
          rw [ec] at e14
          refine lv_iload_n hx hb dX0_passHour_76 rfl (lv_at hl 2 rfl) ?_
          refine lv_bipush (v := 10) hx hb dX0_passHour_77 (by decide) ?_
          refine lv_idiv hx hb dX0_passHour_79 (by decide) ?_
          refine lv_topi (fun v15 e16 => ?_)
          subst e16
          refine lv_isub hx hb dX0_passHour_80 ?_
          refine lv_topi (fun v17 e18 => ?_)
          subst e18
          refine va_mmax hx hb (hml.trans hl.1.symm) hown (hts (.methodLink RX0 25 Lib.Math.max.name) (by decide +kernel)) (hts (.static Lib.Math.max.name) (by decide +kernel)) (hts (.initialized "java/lang/Math") (by decide +kernel)) (hts (.code Lib.Math.max.name Lib.Math.max.code 2 (some .int)) (by decide +kernel)) (Nat.le_of_ble_eq_true rfl) (Nat.le_of_ble_eq_true rfl) (Nat.le_of_ble_eq_true rfl) (Nat.le_of_ble_eq_true rfl) dX0_passHour_81 ?_
          refine lv_topi (fun v19 e20 => ?_)
          subst e20
          obtain ⟨u21, hP, hf⟩ := o_ri (i := 0) (q := (pF g o 0)) hM (by omega)
          refine rt_iast (D := (dC, dI)) (t0 := 0) hx hb hK hP (hM.ge (by omega)) hS rfl (vp_in_nI (by omega) (by decide)) dX0_passHour_84 (fun H locs hP hz ho hS => ?_)
          have ec : ((nI j1) : Int32).toNatClampNeg = j1 := nI_clamp (by omega)
          rw [ec] at hP
          have hM := s_ri (i := 0) hM (by omega) hP ho hf
          refine lv_aload_n hx hb dX0_passHour_85 rfl (lv_at hl 1 rfl) ?_
          obtain ⟨hP, hf⟩ := o_riv (i := 0) (q := o) hM (by omega)
          refine va_get (D := (dC, dI)) (ci := 4) (v := .ref (pF g o 1)) (C := RX0) (T := TX0) (N := 3) hx hb hts (by decide +kernel) hown hK hP 0 rfl rfl 1 (by decide) (hts (.fieldLink RX0 15 "Snowpalace$River" "clearPart" "[I") (by decide +kernel)) (fun _ h9 => h9) rfl dX0_passHour_86 ?_
          have ht22 : tg g (pF g o 1) = 9 := hf.2.1
          refine lv_iload_n hx hb dX0_passHour_89 rfl (lv_at hl 0 rfl) ?_
          refine lv_aload_n hx hb dX0_passHour_90 rfl (lv_at hl 1 rfl) ?_
          obtain ⟨hP, hf⟩ := o_riv (i := 0) (q := o) hM (by omega)
          refine va_get (D := (dC, dI)) (ci := 4) (v := .ref (pF g o 1)) (C := RX0) (T := TX0) (N := 3) hx hb hts (by decide +kernel) hown hK hP 0 rfl rfl 1 (by decide) (hts (.fieldLink RX0 15 "Snowpalace$River" "clearPart" "[I") (by decide +kernel)) (fun _ h9 => h9) rfl dX0_passHour_91 ?_
          refine lv_iload_n hx hb dX0_passHour_94 rfl (lv_at hl 0 rfl) ?_
          obtain ⟨u23, hP, hf⟩ := o_ri (i := 0) (q := (pF g o 1)) hM (by omega)
          refine va_iald (D := (dC, dI)) hx hb hK hP 0 0 rfl rfl (vp_in_nI (by omega) (by decide)) dX0_passHour_95 ?_
          refine lv_topi (fun v24 e25 => ?_)
          have ec : ((nI j1) : Int32).toNatClampNeg = j1 := nI_clamp (by omega)
          rw [ec] at e25
          refine lv_aload_n hx hb dX0_passHour_96 rfl (lv_at hl 1 rfl) ?_
          obtain ⟨hP, hf⟩ := o_riv (i := 0) (q := o) hM (by omega)
          refine va_get (D := (dC, dI)) (ci := 4) (v := .ref (pF g o 0)) (C := RX0) (T := TX0) (N := 3) hx hb hts (by decide +kernel) hown hK hP 0 rfl rfl 0 (by decide) (hts (.fieldLink RX0 9 "Snowpalace$River" "thickness" "[I") (by decide +kernel)) (fun _ h9 => h9) rfl dX0_passHour_97 ?_
          refine lv_iload_n hx hb dX0_passHour_100 rfl (lv_at hl 0 rfl) ?_
          obtain ⟨u26, hP, hf⟩ := o_ri (i := 0) (q := (pF g o 0)) hM (by omega)
          refine va_iald (D := (dC, dI)) hx hb hK hP 0 0 rfl rfl (vp_in_nI (by omega) (by decide)) dX0_passHour_101 ?_
          refine lv_topi (fun v27 e28 => ?_)
          have ec : ((nI j1) : Int32).toNatClampNeg = j1 := nI_clamp (by omega)
          rw [ec] at e28
          refine va_mmin hx hb (hml.trans hl.1.symm) hown (hts (.methodLink RX0 31 Lib.Math.min.name) (by decide +kernel)) (hts (.static Lib.Math.min.name) (by decide +kernel)) (hts (.initialized "java/lang/Math") (by decide +kernel)) (hts (.code Lib.Math.min.name Lib.Math.min.code 2 (some .int)) (by decide +kernel)) (Nat.le_of_ble_eq_true rfl) (Nat.le_of_ble_eq_true rfl) (Nat.le_of_ble_eq_true rfl) (Nat.le_of_ble_eq_true rfl) dX0_passHour_102 ?_
          refine lv_topi (fun v29 e30 => ?_)
          subst e30
          obtain ⟨u31, hP, hf⟩ := o_ri (i := 0) (q := (pF g o 1)) hM (by omega)
          refine rt_iast (D := (dC, dI)) (t0 := 0) hx hb hK hP (hM.ge (by omega)) hS rfl (vp_in_nI (by omega) (by decide)) dX0_passHour_105 (fun H locs hP hz ho hS => ?_)
          have ec : ((nI j1) : Int32).toNatClampNeg = j1 := nI_clamp (by omega)
          rw [ec] at hP
          have hM := s_ri (i := 0) hM (by omega) hP ho hf
          exact jn8 H _ ls hM hS (lv_sub hl [0, 1, 2] rfl)
        · skip
          have i32 := fun z => c9 ((Int32.le_iff_toInt_le).mpr z)
          have ii32 : (0 : Int32).toInt = 0 := by decide
          have i32 : ¬ ((0 : Int32).toInt ≤ (wm : Int32).toInt) := i32
          refine lv_iload_n hx hb dX0_passHour_11 rfl (lv_at hl 2 rfl) ?_
          refine lv_ineg hx hb dX0_passHour_12 ?_
          refine lv_topi (fun v33 e34 => ?_)
          subst e34
          refine lv_bipush (v := 10) hx hb dX0_passHour_13 (by decide) ?_
          refine lv_iconst (v := 0) hx hb dX0_passHour_15 (by decide) ?_
          refine lv_aload_n hx hb dX0_passHour_16 rfl (lv_at hl 1 rfl) ?_
          obtain ⟨hP, hf⟩ := o_riv (i := 0) (q := o) hM (by omega)
          refine va_get (D := (dC, dI)) (ci := 4) (v := .ref (pF g o 0)) (C := RX0) (T := TX0) (N := 3) hx hb hts (by decide +kernel) hown hK hP 0 rfl rfl 0 (by decide) (hts (.fieldLink RX0 9 "Snowpalace$River" "thickness" "[I") (by decide +kernel)) (fun _ h9 => h9) rfl dX0_passHour_17 ?_
          have ht35 : tg g (pF g o 0) = 9 := hf.1
          refine lv_iload_n hx hb dX0_passHour_20 rfl (lv_at hl 0 rfl) ?_
          obtain ⟨u36, hP, hf⟩ := o_ri (i := 0) (q := (pF g o 0)) hM (by omega)
          refine va_iald (D := (dC, dI)) hx hb hK hP 0 0 rfl rfl (vp_in_nI (by omega) (by decide)) dX0_passHour_21 ?_
          refine lv_topi (fun v37 e38 => ?_)
          have ec : ((nI j1) : Int32).toNatClampNeg = j1 := nI_clamp (by omega)
          rw [ec] at e38
          refine va_mmax hx hb (hml.trans hl.1.symm) hown (hts (.methodLink RX0 25 Lib.Math.max.name) (by decide +kernel)) (hts (.static Lib.Math.max.name) (by decide +kernel)) (hts (.initialized "java/lang/Math") (by decide +kernel)) (hts (.code Lib.Math.max.name Lib.Math.max.code 2 (some .int)) (by decide +kernel)) (Nat.le_of_ble_eq_true rfl) (Nat.le_of_ble_eq_true rfl) (Nat.le_of_ble_eq_true rfl) (Nat.le_of_ble_eq_true rfl) dX0_passHour_22 ?_
          refine lv_topi (fun v39 e40 => ?_)
          subst e40
          refine lv_bipush (v := 20) hx hb dX0_passHour_25 (by decide) ?_
          refine lv_idiv hx hb dX0_passHour_27 (by decide) ?_
          refine lv_topi (fun v41 e42 => ?_)
          subst e42
          refine lv_iadd hx hb dX0_passHour_28 ?_
          refine lv_topi (fun v43 e44 => ?_)
          subst e44
          refine lv_idiv hx hb dX0_passHour_29 (div10 rfl) ?_
          refine lv_topi (fun v45 e46 => ?_)
          subst e46
          refine lv_istore_n (lv' := [(3, .int ((-wm) / (10 + ((if 0 < v37 then v37 else 0) / 20)))), (2, .int (nI j1)), (0, .ref o), (1, .int wm)]) hx hb dX0_passHour_30 rfl hl (by decide) rfl (fun ls hl => ?_)
          refine lv_aload_n hx hb dX0_passHour_31 rfl (lv_at hl 2 rfl) ?_
          obtain ⟨hP, hf⟩ := o_riv (i := 0) (q := o) hM (by omega)
          refine va_get (D := (dC, dI)) (ci := 4) (v := .ref (pF g o 0)) (C := RX0) (T := TX0) (N := 3) hx hb hts (by decide +kernel) hown hK hP 0 rfl rfl 0 (by decide) (hts (.fieldLink RX0 9 "Snowpalace$River" "thickness" "[I") (by decide +kernel)) (fun _ h9 => h9) rfl dX0_passHour_32 ?_
          refine lv_iload_n hx hb dX0_passHour_35 rfl (lv_at hl 1 rfl) ?_
          refine lv_dup2_11 hx hb dX0_passHour_36 rfl rfl ?_
          obtain ⟨u47, hP, hf⟩ := o_ri (i := 0) (q := (pF g o 0)) hM (by omega)
          refine va_iald (D := (dC, dI)) hx hb hK hP 0 0 rfl rfl (vp_in_nI (by omega) (by decide)) dX0_passHour_37 ?_
          refine lv_topi (fun v48 e49 => ?_)
          have ec : ((nI j1) : Int32).toNatClampNeg = j1 := nI_clamp (by omega)
          rw [ec] at e49
          refine lv_iload_n hx hb dX0_passHour_38 rfl (lv_at hl 0 rfl) ?_
          refine lv_iadd hx hb dX0_passHour_39 ?_
          refine lv_topi (fun v50 e51 => ?_)
          subst e51
          obtain ⟨u52, hP, hf⟩ := o_ri (i := 0) (q := (pF g o 0)) hM (by omega)
          refine rt_iast (D := (dC, dI)) (t0 := 0) hx hb hK hP (hM.ge (by omega)) hS rfl (vp_in_nI (by omega) (by decide)) dX0_passHour_40 (fun H locs hP hz ho hS => ?_)
          have ec : ((nI j1) : Int32).toNatClampNeg = j1 := nI_clamp (by omega)
          rw [ec] at hP
          have hM := s_ri (i := 0) hM (by omega) hP ho hf
          refine lv_aload_n hx hb dX0_passHour_41 rfl (lv_at hl 2 rfl) ?_
          obtain ⟨hP, hf⟩ := o_riv (i := 0) (q := o) hM (by omega)
          refine va_get (D := (dC, dI)) (ci := 4) (v := .ref (pF g o 1)) (C := RX0) (T := TX0) (N := 3) hx hb hts (by decide +kernel) hown hK hP 0 rfl rfl 1 (by decide) (hts (.fieldLink RX0 15 "Snowpalace$River" "clearPart" "[I") (by decide +kernel)) (fun _ h9 => h9) rfl dX0_passHour_42 ?_
          have ht53 : tg g (pF g o 1) = 9 := hf.2.1
          refine lv_iload_n hx hb dX0_passHour_45 rfl (lv_at hl 1 rfl) ?_
          refine lv_dup2_11 hx hb dX0_passHour_46 rfl rfl ?_
          obtain ⟨u54, hP, hf⟩ := o_ri (i := 0) (q := (pF g o 1)) hM (by omega)
          refine va_iald (D := (dC, dI)) hx hb hK hP 0 0 rfl rfl (vp_in_nI (by omega) (by decide)) dX0_passHour_47 ?_
          refine lv_topi (fun v55 e56 => ?_)
          have ec : ((nI j1) : Int32).toNatClampNeg = j1 := nI_clamp (by omega)
          rw [ec] at e56
          refine lv_iload_n hx hb dX0_passHour_48 rfl (lv_at hl 3 rfl) ?_
          refine lv_bipush (v := (-100)) hx hb dX0_passHour_49 (by decide) ?_
          have jn58 : ∀ (x57 : Int32) (H : Heap) (locs : List Loc) (ls : Array Slot), TM (dC, dI) kA b g H → va_S (fun q => b ≤ q) s.heap H locs → lv_has ls 4 [(3, .int ((-wm) / (10 + ((if 0 < v37 then v37 else 0) / 20)))), (2, .int (nI j1)), (0, .ref o), (1, .int wm)] → W p l e (headSpec wsX0_passHour ({ frames := 1, cells := 0, slots := 0, locals := 15 })).room s m args below meth c H locs 0 0 Q (F0 m 59 ls [.int x57, .int v55, .int (nI j1), .ref (pF g o 1)]) := by
            intro x57 H locs ls hM hS hl
            refine lv_iadd hx hb dX0_passHour_59 ?_
            refine lv_topi (fun v59 e60 => ?_)
            subst e60
            obtain ⟨u61, hP, hf⟩ := o_ri (i := 0) (q := (pF g o 1)) hM (by omega)
            refine rt_iast (D := (dC, dI)) (t0 := 0) hx hb hK hP (hM.ge (by omega)) hS rfl (vp_in_nI (by omega) (by decide)) dX0_passHour_60 (fun H locs hP hz ho hS => ?_)
            have ec : ((nI j1) : Int32).toNatClampNeg = j1 := nI_clamp (by omega)
            rw [ec] at hP
            have hM := s_ri (i := 0) hM (by omega) hP ho hf
            refine lv_goto (tgt := 106) hx hb dX0_passHour_61 (by decide) ?_
            exact jn8 H _ ls hM hS (lv_sub hl [1, 2, 3] rfl)
          refine lv_icmp_gt (tgt := 58) hx hb dX0_passHour_51 (by decide) (fun c62 => ?_) (fun c62 => ?_)
          · skip
            have i63 := (Int32.lt_iff_toInt_lt).mp c62
            have ii63 : ((-100) : Int32).toInt = -100 := by decide
            have i63 := i63
            refine lv_iconst (v := 0) hx hb dX0_passHour_58 (by decide) ?_
            exact jn58 0 H _ ls hM hS (lv_sub hl [0, 1, 2, 3] rfl)
          · skip
            have i64 := fun z => c62 ((Int32.lt_iff_toInt_lt).mpr z)
            have ii64 : ((-100) : Int32).toInt = -100 := by decide
            have i64 : ¬ (((-100) : Int32).toInt < (wm : Int32).toInt) := i64
            refine lv_iload_n hx hb dX0_passHour_54 rfl (lv_at hl 0 rfl) ?_
            refine lv_goto (tgt := 59) hx hb dX0_passHour_55 (by decide) ?_
            exact jn58 ((-wm) / (10 + ((if 0 < v37 then v37 else 0) / 20))) H _ ls hM hS (lv_sub hl [0, 1, 2, 3] rfl)
  exact lp2 (4 + 1) 0 (by omega) (by omega) (by omega) s.heap _ ls  hM hS (lv_sub hl [0, 1, 2] rfl)
