set_option maxHeartbeats 4000000 in
set_option maxRecDepth 100000 in
/-- the warmth of an hour of a fresh city -/
theorem k_warmthOf (l : Launch) (dC : Nat → ClassId) (dI : Nat → Nat → Nat) (sz : Nat) (a : Nat → Nat) (cI : ClassId) (f : Nat → Nat → Int32) (hF : FX f) (n : Nat) (hn : n ≤ 504)   : Met l yX2_warmthOf wsX2_warmthOf ({ frames := 1, cells := 0, slots := 0, locals := 22 }) (va_Pc [.ref (a 1), .int (nI n)] (PN dC dI ([((a 1), .inr (6, [.ref (a 4), .ref (a 5), .ref (a 6), .ref (a 7)])), ((a 4), .inl (cI, 21, .inl (f 0))), ((a 5), .inl (cI, 21, .inl (f 1)))]) [(cI, .int)] sz)) (va_Qi (fun (r : Int32) (u : Unit) => r = w0 n) (fun (u : Unit) t => True) (fun _ => False)) 0 0 (fun _ => False) := by
  refine Met.ofW (cc := cX2_warmthOf) (maxL := 5) (ret := (some .int)) (by decide +kernel) rfl ?_
  intro p e s m args below meth c s₁ B hml hv
  obtain ⟨rfl, ⟨hsz, hP, hK, hD0⟩, hN⟩ := hv
  have hx := B.exec
  have hb := B.bytes
  have hr := B.returns
  have hts := atoms_spec (ws := wsX2_warmthOf) B.pre
  have hown : s.vm.findClass RX2 = some m.cls := findClass_of_methodNamed B.named
  have hlocks := B.notSynchronized
  subst hsz
  have hD := hD0
  have hS : va_S (fun _ => False) s.heap s.heap [] := va_S.rf
  have hl := lv_entry ([.ref (a 1), .int (nI n)]) (n := 5) (Nat.le_of_ble_eq_true rfl)
  rw [lg_entry_eq]
  generalize (lg_sl ([.ref (a 1), .int (nI n)]) ++ List.replicate (5 - (lg_sl ([.ref (a 1), .int (nI n)])).length) Slot.unset).toArray = ls at hl ⊢
  have hl : lv_has ls 5 [(0, .ref (a 1)), (1, .int (nI n))] := hl
  refine lv_iload_n hx hb dX2_warmthOf_0 rfl (lv_at hl 1 rfl) ?_
  refine lv_iconst (v := 0) hx hb dX2_warmthOf_1 (by decide) ?_
  refine lv_sipush (v := 503) hx hb dX2_warmthOf_2 (by decide) ?_
  refine va_calli (va_runSN (As := [.int (nI n), .int 0, .int 503]) (rest := []) ⟨hx, hb, hml, hown, hts⟩ (k_isWithin l (nI n) 0 503 (0) (503) (by decide) (by decide)) (⟨va_cnB 3 hts gX2_warmthOf_X3_isWithin_n24 rfl rfl rfl (hN (.methodLinkNest RX2 24 yX3_isWithin RX3) (by decide +kernel)) (hts (.initialized RX3) (by decide +kernel)) (by decide +kernel) ⟨Nat.le_of_ble_eq_true rfl, Nat.le_of_ble_eq_true rfl⟩, hts (.static yX3_isWithin) (by decide +kernel), trivial⟩) ⟨fun a U g mk q => q, fun U hU hW => ⟨rfl, trivial⟩⟩ rfl rfl hl.1 rfl (lv_room (Nat.le_of_ble_eq_true rfl)) dX2_warmthOf_5 ⟨(Nat.le_of_ble_eq_true rfl), (Nat.le_of_ble_eq_true rfl)⟩) hS (fun q _ h => h.elim) (fun q h => h.elim) (fun r1 u t H locs ht hvm hw2 hB hz1 hk1 hS => ?_)
  have hP := kp_P hP hk1
  have hP : va_P (dC, dI) vwCl ([((a 1), .inr (6, [.ref (a 4), .ref (a 5), .ref (a 6), .ref (a 7)])), ((a 4), .inl (cI, 21, .inl (f 0))), ((a 5), .inl (cI, 21, .inl (f 1)))]) H := hP
  have hD : va_D (fun _ => True) ([((a 1), .inr (6, [.ref (a 4), .ref (a 5), .ref (a 6), .ref (a 7)])), ((a 4), .inl (cI, 21, .inl (f 0))), ((a 5), .inl (cI, 21, .inl (f 1)))]) := hD
  have hw2 : r1 = bI ((0 : Int) ≤ (nI n).toInt ∧ (nI n).toInt ≤ (503 : Int)) := hw2
  refine lv_if_ne (tgt := 15) hx hb dX2_warmthOf_8 (by decide) (fun c3 => ?_) (fun c3 => ?_)
  · skip
    have g4 : (0 : Int) ≤ (nI n).toInt ∧ (nI n).toInt ≤ (503 : Int) := bI_t hw2 c3
    have zg4 : r1 = 1 := bI_t1 hw2 g4
    have hn3 : n ≠ 504 := ne504 (n := n) (by omega) (‹_ ∧ _›).2
    refine lv_iload_n hx hb dX2_warmthOf_15 rfl (lv_at hl 1 rfl) ?_
    refine lv_bipush (v := 24) hx hb dX2_warmthOf_16 (by decide) ?_
    refine lv_idiv hx hb dX2_warmthOf_18 (by decide) ?_
    refine lv_topi (fun v5 e6 => ?_)
    obtain rfl : v5 = (nI (n / 24) : Int32) := e6.trans (dv24 hn)
    refine lv_istore_n (lv' := [(2, .int (nI (n / 24))), (0, .ref (a 1)), (1, .int (nI n))]) hx hb dX2_warmthOf_19 rfl hl (by decide) rfl (fun ls hl => ?_)
    refine lv_iload_n hx hb dX2_warmthOf_20 rfl (lv_at hl 2 rfl) ?_
    refine lv_bipush (v := 24) hx hb dX2_warmthOf_21 (by decide) ?_
    refine lv_irem hx hb dX2_warmthOf_23 (by decide) ?_
    refine lv_topi (fun v7 e8 => ?_)
    obtain rfl : v7 = (nI (n % 24) : Int32) := e8.trans (rm24 hn)
    refine lv_istore_n (lv' := [(3, .int (nI (n % 24))), (2, .int (nI (n / 24))), (0, .ref (a 1)), (1, .int (nI n))]) hx hb dX2_warmthOf_24 rfl hl (by decide) rfl (fun ls hl => ?_)
    refine lv_iload_n hx hb dX2_warmthOf_25 rfl (lv_at hl 0 rfl) ?_
    refine lv_bipush (v := 12) hx hb dX2_warmthOf_26 (by decide) ?_
    refine lv_icmp_gt (tgt := 35) hx hb dX2_warmthOf_28 (by decide) (fun c9 => ?_) (fun c9 => ?_)
    · skip
      have hk : ¬ n % 24 ≤ 12 := by rw [lt12 (by omega)] at c9; omega
      refine lv_bipush (v := 24) hx hb dX2_warmthOf_35 (by decide) ?_
      refine lv_iload_n hx hb dX2_warmthOf_37 rfl (lv_at hl 0 rfl) ?_
      refine lv_isub hx hb dX2_warmthOf_38 ?_
      refine lv_topi (fun v10 e11 => ?_)
      refine lv_istore (lv' := [(4, .int v10), (3, .int (nI (n % 24))), (2, .int (nI (n / 24))), (0, .ref (a 1)), (1, .int (nI n))]) hx hb dX2_warmthOf_39 hl (by decide) rfl (fun ls hl => ?_)
      refine lv_aload_n hx hb dX2_warmthOf_41 rfl (lv_at hl 3 rfl) ?_
      refine va_get (D := (dC, dI)) (ci := 6) (v := .ref (a 4)) (C := RX2) (T := TX2) (N := 4) hx hb hts (by decide +kernel) hown hK hP 0 rfl rfl 0 (by decide) (hts (.fieldLink RX2 9 "Snowpalace$Sky" "lows" "[I") (by decide +kernel)) (fun _ h9 => h9) rfl dX2_warmthOf_42 ?_
      refine lv_iload_n hx hb dX2_warmthOf_45 rfl (lv_at hl 2 rfl) ?_
      refine va_iald (D := (dC, dI)) hx hb hK hP 1 0 rfl rfl (vp_in_nI (by omega) (by decide)) dX2_warmthOf_46 ?_
      refine lv_topi (fun v12 e13 => ?_)
      obtain rfl : v12 = ((-150) : Int32) := e13.trans (by rw [nI_clamp (by omega)]; exact hF.1 _ (by omega))
      refine lv_aload_n hx hb dX2_warmthOf_47 rfl (lv_at hl 3 rfl) ?_
      refine va_get (D := (dC, dI)) (ci := 6) (v := .ref (a 5)) (C := RX2) (T := TX2) (N := 4) hx hb hts (by decide +kernel) hown hK hP 0 rfl rfl 1 (by decide) (hts (.fieldLink RX2 15 "Snowpalace$Sky" "highs" "[I") (by decide +kernel)) (fun _ h9 => h9) rfl dX2_warmthOf_48 ?_
      refine lv_iload_n hx hb dX2_warmthOf_51 rfl (lv_at hl 2 rfl) ?_
      refine va_iald (D := (dC, dI)) hx hb hK hP 2 0 rfl rfl (vp_in_nI (by omega) (by decide)) dX2_warmthOf_52 ?_
      refine lv_topi (fun v14 e15 => ?_)
      obtain rfl : v14 = ((-50) : Int32) := e15.trans (by rw [nI_clamp (by omega)]; exact hF.2.1 _ (by omega))
      refine lv_aload_n hx hb dX2_warmthOf_53 rfl (lv_at hl 3 rfl) ?_
      refine va_get (D := (dC, dI)) (ci := 6) (v := .ref (a 4)) (C := RX2) (T := TX2) (N := 4) hx hb hts (by decide +kernel) hown hK hP 0 rfl rfl 0 (by decide) (hts (.fieldLink RX2 9 "Snowpalace$Sky" "lows" "[I") (by decide +kernel)) (fun _ h9 => h9) rfl dX2_warmthOf_54 ?_
      refine lv_iload_n hx hb dX2_warmthOf_57 rfl (lv_at hl 2 rfl) ?_
      refine va_iald (D := (dC, dI)) hx hb hK hP 1 0 rfl rfl (vp_in_nI (by omega) (by decide)) dX2_warmthOf_58 ?_
      refine lv_topi (fun v16 e17 => ?_)
      obtain rfl : v16 = ((-150) : Int32) := e17.trans (by rw [nI_clamp (by omega)]; exact hF.1 _ (by omega))
      refine lv_isub hx hb dX2_warmthOf_59 ?_
      refine lv_topi (fun v18 e19 => ?_)
      obtain rfl : v18 = (100 : Int32) := e19.trans (by decide)
      refine lv_iload hx hb dX2_warmthOf_60 (lv_at hl 0 rfl) ?_
      refine lv_imul hx hb dX2_warmthOf_62 ?_
      refine lv_topi (fun v20 e21 => ?_)
      refine lv_bipush (v := 12) hx hb dX2_warmthOf_63 (by decide) ?_
      refine lv_idiv hx hb dX2_warmthOf_65 (by decide) ?_
      refine lv_topi (fun v22 e23 => ?_)
      refine lv_iadd hx hb dX2_warmthOf_66 ?_
      refine lv_topi (fun v24 e25 => ?_)
      refine W.widen (k := 0) (n := 0) (Nat.le_of_ble_eq_true rfl) (Nat.le_of_ble_eq_true rfl) ?_
      exact W.iret (v := v24) hx hb hr (fun t ht hW => ⟨⟨v24, (), rfl, (by rw [e25, e23, e21, e11]; first | exact (w0_1 hn3 hk).symm | exact (w0_2 hn3 hk).symm), trivial⟩, hS.F ht⟩) hS.2.2 dX2_warmthOf_67
    · skip
      have hk : n % 24 ≤ 12 := by rw [lt12 (by omega)] at c9; omega
      refine lv_iload_n hx hb dX2_warmthOf_31 rfl (lv_at hl 0 rfl) ?_
      refine lv_goto (tgt := 39) hx hb dX2_warmthOf_32 (by decide) ?_
      refine lv_istore (lv' := [(4, .int (nI (n % 24))), (3, .int (nI (n % 24))), (2, .int (nI (n / 24))), (0, .ref (a 1)), (1, .int (nI n))]) hx hb dX2_warmthOf_39 hl (by decide) rfl (fun ls hl => ?_)
      refine lv_aload_n hx hb dX2_warmthOf_41 rfl (lv_at hl 3 rfl) ?_
      refine va_get (D := (dC, dI)) (ci := 6) (v := .ref (a 4)) (C := RX2) (T := TX2) (N := 4) hx hb hts (by decide +kernel) hown hK hP 0 rfl rfl 0 (by decide) (hts (.fieldLink RX2 9 "Snowpalace$Sky" "lows" "[I") (by decide +kernel)) (fun _ h9 => h9) rfl dX2_warmthOf_42 ?_
      refine lv_iload_n hx hb dX2_warmthOf_45 rfl (lv_at hl 2 rfl) ?_
      refine va_iald (D := (dC, dI)) hx hb hK hP 1 0 rfl rfl (vp_in_nI (by omega) (by decide)) dX2_warmthOf_46 ?_
      refine lv_topi (fun v26 e27 => ?_)
      obtain rfl : v26 = ((-150) : Int32) := e27.trans (by rw [nI_clamp (by omega)]; exact hF.1 _ (by omega))
      refine lv_aload_n hx hb dX2_warmthOf_47 rfl (lv_at hl 3 rfl) ?_
      refine va_get (D := (dC, dI)) (ci := 6) (v := .ref (a 5)) (C := RX2) (T := TX2) (N := 4) hx hb hts (by decide +kernel) hown hK hP 0 rfl rfl 1 (by decide) (hts (.fieldLink RX2 15 "Snowpalace$Sky" "highs" "[I") (by decide +kernel)) (fun _ h9 => h9) rfl dX2_warmthOf_48 ?_
      refine lv_iload_n hx hb dX2_warmthOf_51 rfl (lv_at hl 2 rfl) ?_
      refine va_iald (D := (dC, dI)) hx hb hK hP 2 0 rfl rfl (vp_in_nI (by omega) (by decide)) dX2_warmthOf_52 ?_
      refine lv_topi (fun v28 e29 => ?_)
      obtain rfl : v28 = ((-50) : Int32) := e29.trans (by rw [nI_clamp (by omega)]; exact hF.2.1 _ (by omega))
      refine lv_aload_n hx hb dX2_warmthOf_53 rfl (lv_at hl 3 rfl) ?_
      refine va_get (D := (dC, dI)) (ci := 6) (v := .ref (a 4)) (C := RX2) (T := TX2) (N := 4) hx hb hts (by decide +kernel) hown hK hP 0 rfl rfl 0 (by decide) (hts (.fieldLink RX2 9 "Snowpalace$Sky" "lows" "[I") (by decide +kernel)) (fun _ h9 => h9) rfl dX2_warmthOf_54 ?_
      refine lv_iload_n hx hb dX2_warmthOf_57 rfl (lv_at hl 2 rfl) ?_
      refine va_iald (D := (dC, dI)) hx hb hK hP 1 0 rfl rfl (vp_in_nI (by omega) (by decide)) dX2_warmthOf_58 ?_
      refine lv_topi (fun v30 e31 => ?_)
      obtain rfl : v30 = ((-150) : Int32) := e31.trans (by rw [nI_clamp (by omega)]; exact hF.1 _ (by omega))
      refine lv_isub hx hb dX2_warmthOf_59 ?_
      refine lv_topi (fun v32 e33 => ?_)
      obtain rfl : v32 = (100 : Int32) := e33.trans (by decide)
      refine lv_iload hx hb dX2_warmthOf_60 (lv_at hl 0 rfl) ?_
      refine lv_imul hx hb dX2_warmthOf_62 ?_
      refine lv_topi (fun v34 e35 => ?_)
      refine lv_bipush (v := 12) hx hb dX2_warmthOf_63 (by decide) ?_
      refine lv_idiv hx hb dX2_warmthOf_65 (by decide) ?_
      refine lv_topi (fun v36 e37 => ?_)
      refine lv_iadd hx hb dX2_warmthOf_66 ?_
      refine lv_topi (fun v38 e39 => ?_)
      refine W.widen (k := 0) (n := 0) (Nat.le_of_ble_eq_true rfl) (Nat.le_of_ble_eq_true rfl) ?_
      exact W.iret (v := v38) hx hb hr (fun t ht hW => ⟨⟨v38, (), rfl, (by rw [e39, e37, e35]; first | exact (w0_1 hn3 hk).symm | exact (w0_2 hn3 hk).symm), trivial⟩, hS.F ht⟩) hS.2.2 dX2_warmthOf_67
  · skip
    have g40 : ¬ ((0 : Int) ≤ (nI n).toInt ∧ (nI n).toInt ≤ (503 : Int)) := bI_f hw2 c3
    have zg40 : r1 = 0 := bI_f0 hw2 g40
    have h504 : n = 504 := is504 (n := n) (by omega) (by assumption)
    refine lv_sipush (v := (-150)) hx hb dX2_warmthOf_11 (by decide) ?_
    refine W.widen (k := 0) (n := 0) (Nat.le_of_ble_eq_true rfl) (Nat.le_of_ble_eq_true rfl) ?_
    exact W.iret (v := (-150)) hx hb hr (fun t ht hW => ⟨⟨(-150), (), rfl, (by rw [h504]; exact w0_4.symm), trivial⟩, hS.F ht⟩) hS.2.2 dX2_warmthOf_14

set_option maxHeartbeats 4000000 in
set_option maxRecDepth 100000 in
theorem k_wetOf (l : Launch) (dC : Nat → ClassId) (dI : Nat → Nat → Nat) (sz : Nat) (a : Nat → Nat) (cI : ClassId) (f : Nat → Nat → Int32) (hF : FX f) (n : Nat) (hn : n ≤ 503)   : Met l yX2_wetWarmthOf wsX2_wetWarmthOf ({ frames := 2, cells := 0, slots := 0, locals := 46 }) (va_Pc [.ref (a 1), .int (nI n)] (PN dC dI ([((a 1), .inr (6, [.ref (a 4), .ref (a 5), .ref (a 6), .ref (a 7)])), ((a 4), .inl (cI, 21, .inl (f 0))), ((a 5), .inl (cI, 21, .inl (f 1))), ((a 7), .inl (cI, 21, .inl (f 3)))]) [(cI, .int)] sz)) (va_Qi (fun (r : Int32) (u : Unit) => r = w0 n - 10) (fun (u : Unit) t => True) (fun _ => False)) 0 0 (fun _ => False) := by
  refine Met.ofW (cc := cX2_wetWarmthOf) (maxL := 2) (ret := (some .int)) (by decide +kernel) rfl ?_
  intro p e s m args below meth c s₁ B hml hv
  obtain ⟨rfl, ⟨hsz, hP, hK, hD0⟩, hN⟩ := hv
  have hx := B.exec
  have hb := B.bytes
  have hr := B.returns
  have hts := atoms_spec (ws := wsX2_wetWarmthOf) B.pre
  have hown : s.vm.findClass RX2 = some m.cls := findClass_of_methodNamed B.named
  have hlocks := B.notSynchronized
  subst hsz
  have hD := hD0
  have hS : va_S (fun _ => False) s.heap s.heap [] := va_S.rf
  have hl := lv_entry ([.ref (a 1), .int (nI n)]) (n := 2) (Nat.le_of_ble_eq_true rfl)
  rw [lg_entry_eq]
  generalize (lg_sl ([.ref (a 1), .int (nI n)]) ++ List.replicate (2 - (lg_sl ([.ref (a 1), .int (nI n)])).length) Slot.unset).toArray = ls at hl ⊢
  have hl : lv_has ls 2 [(0, .ref (a 1)), (1, .int (nI n))] := hl
  refine lv_iload_n hx hb dX2_wetWarmthOf_0 rfl (lv_at hl 1 rfl) ?_
  refine lv_iconst (v := 0) hx hb dX2_wetWarmthOf_1 (by decide) ?_
  refine lv_sipush (v := 503) hx hb dX2_wetWarmthOf_2 (by decide) ?_
  refine va_calli (va_runSN (As := [.int (nI n), .int 0, .int 503]) (rest := []) ⟨hx, hb, hml, hown, hts⟩ (k_isWithin l (nI n) 0 503 (0) (503) (by decide) (by decide)) (⟨va_cnB 3 hts gX2_wetWarmthOf_X3_isWithin_n24 rfl rfl rfl (hN (.methodLinkNest RX2 24 yX3_isWithin RX3) (by decide +kernel)) (hts (.initialized RX3) (by decide +kernel)) (by decide +kernel) ⟨Nat.le_of_ble_eq_true rfl, Nat.le_of_ble_eq_true rfl⟩, hts (.static yX3_isWithin) (by decide +kernel), trivial⟩) ⟨fun a U g mk q => q, fun U hU hW => ⟨rfl, trivial⟩⟩ rfl rfl hl.1 rfl (lv_room (Nat.le_of_ble_eq_true rfl)) dX2_wetWarmthOf_5 ⟨(Nat.le_of_ble_eq_true rfl), (Nat.le_of_ble_eq_true rfl)⟩) hS (fun q _ h => h.elim) (fun q h => h.elim) (fun r1 u t H locs ht hvm hw2 hB hz1 hk1 hS => ?_)
  have hP := kp_P hP hk1
  have hP : va_P (dC, dI) vwCl ([((a 1), .inr (6, [.ref (a 4), .ref (a 5), .ref (a 6), .ref (a 7)])), ((a 4), .inl (cI, 21, .inl (f 0))), ((a 5), .inl (cI, 21, .inl (f 1))), ((a 7), .inl (cI, 21, .inl (f 3)))]) H := hP
  have hD : va_D (fun _ => True) ([((a 1), .inr (6, [.ref (a 4), .ref (a 5), .ref (a 6), .ref (a 7)])), ((a 4), .inl (cI, 21, .inl (f 0))), ((a 5), .inl (cI, 21, .inl (f 1))), ((a 7), .inl (cI, 21, .inl (f 3)))]) := hD
  have hw2 : r1 = bI ((0 : Int) ≤ (nI n).toInt ∧ (nI n).toInt ≤ (503 : Int)) := hw2
  refine lv_if_ne (tgt := 15) hx hb dX2_wetWarmthOf_8 (by decide) (fun c3 => ?_) (fun c3 => ?_)
  · skip
    have g4 : (0 : Int) ≤ (nI n).toInt ∧ (nI n).toInt ≤ (503 : Int) := bI_t hw2 c3
    have zg4 : r1 = 1 := bI_t1 hw2 g4
    have hn3 : n ≠ 504 := ne504 (n := n) (by omega) (‹_ ∧ _›).2
    refine lv_aload_n hx hb dX2_wetWarmthOf_15 rfl (lv_at hl 0 rfl) ?_
    refine lv_iload_n hx hb dX2_wetWarmthOf_16 rfl (lv_at hl 1 rfl) ?_
    refine va_calli (va_runV (As := [.int (nI n)]) (rest := []) ⟨hx, hb, hml, hown, hts⟩ (k_warmthOf l dC dI _ a cI f hF n (by omega)) (cwV 1 hts gX2_wetWarmthOf_X2_warmthOf rfl rfl rfl (by decide +kernel) ⟨Nat.le_of_ble_eq_true rfl, Nat.le_of_ble_eq_true rfl⟩) ⟨fb_PN, va_recv hK hP (ci := 6) (q0 := 0) rfl rfl, fun U hU hW => ⟨rfl, PN.give hP hK hD hN [0, 1, 2] [0] rfl rfl rfl rfl hU hW⟩⟩ rfl rfl hl.1 rfl (lv_room (Nat.le_of_ble_eq_true rfl)) dX2_wetWarmthOf_17 ⟨(Nat.le_of_ble_eq_true rfl), (Nat.le_of_ble_eq_true rfl)⟩) hS (fun q _ h => h.elim) (fun q h => h.elim) (fun r5 u t H locs ht hvm hw6 hB hz1 hk1 hS => ?_)
    have hP := kp_P hP hk1
    have hP : va_P (dC, dI) vwCl ([((a 1), .inr (6, [.ref (a 4), .ref (a 5), .ref (a 6), .ref (a 7)])), ((a 4), .inl (cI, 21, .inl (f 0))), ((a 5), .inl (cI, 21, .inl (f 1))), ((a 7), .inl (cI, 21, .inl (f 3)))]) H := hP
    have hD : va_D (fun _ => True) ([((a 1), .inr (6, [.ref (a 4), .ref (a 5), .ref (a 6), .ref (a 7)])), ((a 4), .inl (cI, 21, .inl (f 0))), ((a 5), .inl (cI, 21, .inl (f 1))), ((a 7), .inl (cI, 21, .inl (f 3)))]) := hD
    have hw6 : r5 = w0 n := hw6
    refine lv_bipush (v := 100) hx hb dX2_wetWarmthOf_20 (by decide) ?_
    refine lv_aload_n hx hb dX2_wetWarmthOf_22 rfl (lv_at hl 0 rfl) ?_
    refine va_get (D := (dC, dI)) (ci := 6) (v := .ref (a 7)) (C := RX2) (T := TX2) (N := 4) hx hb hts (by decide +kernel) hown hK hP 0 rfl rfl 3 (by decide) (hts (.fieldLink RX2 21 "Snowpalace$Sky" "humidities" "[I") (by decide +kernel)) (fun _ h9 => h9) rfl dX2_wetWarmthOf_23 ?_
    refine lv_iload_n hx hb dX2_wetWarmthOf_26 rfl (lv_at hl 1 rfl) ?_
    refine lv_bipush (v := 24) hx hb dX2_wetWarmthOf_27 (by decide) ?_
    refine lv_idiv hx hb dX2_wetWarmthOf_29 (by decide) ?_
    refine lv_topi (fun v7 e8 => ?_)
    obtain rfl : v7 = (nI (n / 24) : Int32) := e8.trans (dv24 (by omega))
    refine va_iald (D := (dC, dI)) hx hb hK hP 3 0 rfl rfl (vp_in_nI (by omega) (by decide)) dX2_wetWarmthOf_30 ?_
    refine lv_topi (fun v9 e10 => ?_)
    obtain rfl : v9 = (80 : Int32) := e10.trans (by rw [nI_clamp (by omega)]; exact hF.2.2.2.1 _ (by omega))
    refine lv_isub hx hb dX2_wetWarmthOf_31 ?_
    refine lv_topi (fun v11 e12 => ?_)
    obtain rfl : v11 = (20 : Int32) := e12.trans (by decide)
    refine lv_iconst (v := 2) hx hb dX2_wetWarmthOf_32 (by decide) ?_
    refine lv_idiv hx hb dX2_wetWarmthOf_33 (by decide) ?_
    refine lv_topi (fun v13 e14 => ?_)
    obtain rfl : v13 = (10 : Int32) := e14.trans (by decide)
    refine lv_isub hx hb dX2_wetWarmthOf_34 ?_
    refine lv_topi (fun v15 e16 => ?_)
    refine W.widen (k := 0) (n := 0) (Nat.le_of_ble_eq_true rfl) (Nat.le_of_ble_eq_true rfl) ?_
    exact W.iret (v := v15) hx hb hr (fun t ht hW => ⟨⟨v15, (), rfl, (by rw [e16, hw6]), trivial⟩, hS.F ht⟩) hS.2.2 dX2_wetWarmthOf_35
  · skip
    have g17 : ¬ ((0 : Int) ≤ (nI n).toInt ∧ (nI n).toInt ≤ (503 : Int)) := bI_f hw2 c3
    have zg17 : r1 = 0 := bI_f0 hw2 g17
    exact absurd (is504 (n := n) (by omega) (by assumption)) (by omega)

