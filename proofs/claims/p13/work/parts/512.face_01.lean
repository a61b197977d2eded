set_option maxHeartbeats 4000000 in
set_option maxRecDepth 100000 in
theorem rf_count (l : Launch) (hlt : l.stackTraces = false) (dC : Nat → ClassId) (dI : Nat → Nat → Nat) (kA : Nat → ClassId) (eD b : Nat) (g : Gh) (o : Nat) (site : Int32) (hto : tg g o = 1)  : vx_Met l yX3_count wsX3_count ({ frames := 6, cells := 1, slots := 6, locals := 82 }) (va_Pc [.ref o, .int site] (CX (dC, dI) kA eD b g)) (va_Qi (fun (r : Int32) (u : Unit) => True) (fun (u : Unit) t => CX (dC, dI) kA eD b g t) (fun q => b ≤ q)) (vx_X (fun _ : Unit => True) (fun E _ t => (E = "java/lang/IndexOutOfBoundsException") ∧ TM (dC, dI) kA b g t.heap) (fun q => b ≤ q)) 1 6 (fun q => b ≤ q) := by
  refine vx_ofW (cc := cX3_count) (maxL := 3) (ret := (some .int)) (by decide +kernel) rfl ?_
  intro p e s m args below meth c s₁ B hml hnt hv
  obtain ⟨rfl, hb0, hM, hK, hG, hE⟩ := hv
  have hx := B.exec
  have hb := B.bytes
  have hr := B.returns
  have hts := atoms_spec (ws := wsX3_count) B.pre
  have hown : s.vm.findClass RX3 = some m.cls := findClass_of_methodNamed B.named
  have hlocks := B.notSynchronized
  have hT := hE.1
  have hN := hE.2.2.2.2.2.2.2.1
  have hS : va_S (fun q => b ≤ q) s.heap s.heap [] := va_S.rf
  have hl := lv_entry ([.ref o, .int site]) (n := 3) (Nat.le_of_ble_eq_true rfl)
  rw [lg_entry_eq]
  generalize (lg_sl ([.ref o, .int site]) ++ List.replicate (3 - (lg_sl ([.ref o, .int site])).length) Slot.unset).toArray = ls at hl ⊢
  have hl : lv_has ls 3 [(0, .ref o), (1, .int site)] := hl
  generalize ([.ref o, .int site] : List Value).toArray = args at hts ⊢
  refine lv_aload_n hx hb dX3_count_0 rfl (lv_at hl 0 rfl) ?_
  refine lv_iload_n hx hb dX3_count_1 rfl (lv_at hl 1 rfl) ?_
  obtain ⟨u1, u2, u3, u4, hP, hf⟩ := o_sno (i := 0) (q := o) hM (by omega)
  refine va_callq (va_runV (As := [.int site]) (rest := []) ⟨hx, hb, hml, hown, hts⟩ (rk_numberedSite l dC dI kA eD b g o site (by omega)) (cwV 1 hts gX3_count_X3_numberedSite rfl rfl rfl (by decide +kernel) ⟨Nat.le_of_ble_eq_true rfl, Nat.le_of_ble_eq_true rfl⟩) ⟨fb_CX, va_recv hK hP (ci := 7) (q0 := 0) rfl rfl, fun U hU hW => ⟨rfl, CX.give hb0 hM hK hG hE hS hU hW⟩⟩ rfl rfl hl.1 rfl (lv_room (Nat.le_of_ble_eq_true rfl)) dX3_count_2 ⟨(Nat.le_of_ble_eq_true rfl), (Nat.le_of_ble_eq_true rfl)⟩) hS (fun q _ h => h) (fun q h => h) (fun r5 u t H locs ht hvm hw6 hB hz1 hk1 hS => ?_)
  have hM := hB.back ht
  have hG := hB.2.2.2.1
  rcases hw6 with ⟨rfl, hn12⟩ | ⟨j7, a8, rfl, hs9, hj11, ho9, ht10⟩
  · skip
    refine lv_astore_nN (lv' := [(2, .null), (0, .ref o), (1, .int site)]) hx hb dX3_count_5 rfl hl (by decide) rfl (fun ls hl => ?_)
    refine lv_aload_nN hx hb dX3_count_6 rfl (lv_at hl 0 rfl) ?_
    refine lv_ifnonnullN hx hb dX3_count_7 ?_
    obtain ⟨sa, hsa⟩ := hT.2.1 (211, "no such site") (by decide +kernel)
    exact vx_throwS (A := (fun q => b ≤ q)) (own := RX3) (cls := "java/lang/IndexOutOfBoundsException") (text := "no such site") (names := exN) hx hb hlt hown (by decide +kernel) (by decide +kernel) (hts (.classLink RX3 135 "java/lang/IndexOutOfBoundsException") (by decide +kernel)) (hts (.initialized "java/lang/IndexOutOfBoundsException") (by decide +kernel)) hsa (th_hat hT (fun w h => hts w (List.mem_cons_of_mem _ (List.mem_append_left _ (List.mem_append_right _ h)))) th_i4) (th_good th_i4) hT.2.2.2.1 hT.2.2.2.2 hS (hl.1.trans hml.symm) dX3_count_10 dX3_count_13 dX3_count_14 dX3_count_16 dX3_count_19 (fun x h => (hnt x h).elim) (by decide) (Nat.le_of_ble_eq_true rfl) (Nat.le_of_ble_eq_true rfl) (Nat.le_of_ble_eq_true rfl) hlocks (fun t ha h1 h2 => ⟨(), trivial, ⟨rfl, hM.keep h2⟩, th_F hS h1 h2⟩) hS.2.2 (Nat.le_of_ble_eq_true rfl) (Nat.le_of_ble_eq_true rfl)
  · skip
    subst hs9
    have hl : lv_has ls 3 [(0, .ref o), (1, .int (nI j7))] := hl
    refine lv_astore_n (lv' := [(2, .ref a8), (0, .ref o), (1, .int (nI j7))]) hx hb dX3_count_5 rfl hl (by decide) rfl (fun ls hl => ?_)
    refine lv_aload_n hx hb dX3_count_6 rfl (lv_at hl 0 rfl) ?_
    refine lv_ifnonnull (tgt := 20) hx hb dX3_count_7 (by decide) ?_
    refine lv_aload_n hx hb dX3_count_20 rfl (lv_at hl 0 rfl) ?_
    obtain ⟨u13, u14, u15, u16, u17, u18, hP, hf⟩ := o_st (i := j7) (q := a8) hM (by omega)
    refine va_calli (va_runV (As := []) (rest := []) ⟨hx, hb, hml, hown, hts⟩ (rk_cellCount l dC dI kA eD b g a8 j7 (by omega)) (cwV 0 hts gX3_count_X1_cellCount rfl rfl rfl (by decide +kernel) ⟨Nat.le_of_ble_eq_true rfl, Nat.le_of_ble_eq_true rfl⟩) ⟨fb_CX, va_recv hK hP (ci := 5) (q0 := 0) rfl rfl, fun U hU hW => ⟨rfl, CX.give hb0 hM hK hG hE hS hU hW⟩⟩ rfl rfl hl.1 rfl (lv_room (Nat.le_of_ble_eq_true rfl)) dX3_count_21 ⟨(Nat.le_of_ble_eq_true rfl), (Nat.le_of_ble_eq_true rfl)⟩) hS (fun q _ h => h) (fun q h => h) (fun r19 u t H locs ht hvm hw20 hB hz1 hk1 hS => ?_)
    have hM := hB.back ht
    have hG := hB.2.2.2.1
    obtain ⟨q21, hq22, rfl⟩ := hw20
    refine vx_ret ?_
    refine W.widen (k := 1) (n := 6) (Nat.le_of_ble_eq_true rfl) (Nat.le_of_ble_eq_true rfl) ?_
    exact W.iret (v := (nI q21)) hx hb hr (fun t ht hW => ⟨⟨(nI q21), (), rfl, trivial, CX.give hb0 hM hK hG hE hS ht hW⟩, hS.F ht⟩) hS.2.2 dX3_count_24

set_option maxHeartbeats 4000000 in
set_option maxRecDepth 100000 in
theorem rf_lamp (l : Launch) (hlt : l.stackTraces = false) (dC : Nat → ClassId) (dI : Nat → Nat → Nat) (kA : Nat → ClassId) (eD b : Nat) (g : Gh) (o : Nat) (site : Int32) (x : Int32) (y : Int32) (is : Int32) (hto : tg g o = 1)  : vx_Met l yX3_lamp wzX3_lamp ({ frames := 6, cells := 1, slots := 6, locals := 82 }) (va_Pc [.ref o, .int site, .int x, .int y, .int is] (CX (dC, dI) kA eD b g)) (va_Qi (fun (r : Int32) (u : Unit) => r = 0 ∨ r = 1) (fun (u : Unit) t => CX (dC, dI) kA eD b g t) (fun q => b ≤ q)) (vx_X (fun _ : Unit => True) (fun E _ t => (E = "java/lang/IndexOutOfBoundsException" ∨ E = "java/util/NoSuchElementException" ∨ E = "java/lang/UnsupportedOperationException") ∧ TM (dC, dI) kA b g t.heap) (fun q => b ≤ q)) 1 6 (fun q => b ≤ q) := by
  refine vx_ofW (cc := cX3_lamp) (maxL := 8) (ret := (some .boolean)) (by decide +kernel) rfl ?_
  intro p e s m args below meth c s₁ B hml hnt hv
  obtain ⟨rfl, hb0, hM, hK, hG, hE⟩ := hv
  have hx := B.exec
  have hb := B.bytes
  have hr := B.returns
  have hts := atoms_spec (ws := wzX3_lamp) B.pre
  have hown : s.vm.findClass RX3 = some m.cls := findClass_of_methodNamed B.named
  have hlocks := B.notSynchronized
  have hT := hE.1
  have hN := hE.2.2.2.2.2.2.2.1
  have hS : va_S (fun q => b ≤ q) s.heap s.heap [] := va_S.rf
  have hl := lv_entry ([.ref o, .int site, .int x, .int y, .int is]) (n := 8) (Nat.le_of_ble_eq_true rfl)
  rw [lg_entry_eq]
  generalize (lg_sl ([.ref o, .int site, .int x, .int y, .int is]) ++ List.replicate (8 - (lg_sl ([.ref o, .int site, .int x, .int y, .int is])).length) Slot.unset).toArray = ls at hl ⊢
  have hl : lv_has ls 8 [(0, .ref o), (1, .int site), (2, .int x), (3, .int y), (4, .int is)] := hl
  generalize ([.ref o, .int site, .int x, .int y, .int is] : List Value).toArray = args at hts ⊢
  refine W.q (fun Q hQ => ?_)
  refine lv_aload_n hx hb dX3_lamp_0 rfl (lv_at hl 0 rfl) ?_
  refine lv_iload_n hx hb dX3_lamp_1 rfl (lv_at hl 1 rfl) ?_
  refine lv_iload_n hx hb dX3_lamp_2 rfl (lv_at hl 2 rfl) ?_
  refine lv_iload_n hx hb dX3_lamp_3 rfl (lv_at hl 3 rfl) ?_
  obtain ⟨u1, u2, u3, u4, hP, hf⟩ := o_sno (i := 0) (q := o) hM (by omega)
  refine va_callq (va_runV (As := [.int site, .int x, .int y]) (rest := []) ⟨hx, hb, hml, hown, hts⟩ (rk_placedSite l dC dI kA eD b g o site x y (by omega)) (cwV 3 hts gX3_lamp_X3_placedSite rfl rfl rfl (by decide +kernel) ⟨Nat.le_of_ble_eq_true rfl, Nat.le_of_ble_eq_true rfl⟩) ⟨fb_CX, va_recv hK hP (ci := 7) (q0 := 0) rfl rfl, fun U hU hW => ⟨rfl, CX.give hb0 hM hK hG hE hS hU hW⟩⟩ rfl rfl hl.1 rfl (lv_room (Nat.le_of_ble_eq_true rfl)) dX3_lamp_4 ⟨(Nat.le_of_ble_eq_true rfl), (Nat.le_of_ble_eq_true rfl)⟩) hS (fun q _ h => h) (fun q h => h) (fun r5 u t H locs ht hvm hw6 hB hz1 hk1 hS => ?_)
  have hM := hB.back ht
  have hG := hB.2.2.2.1
  rcases hw6 with ⟨rfl, hn14⟩ | ⟨j7, a8, jx9, jy10, rfl, rfl, rfl, rfl, hjx9, hjy10, hj13, ho11, ht12⟩
  · skip
    refine lv_astoreN (lv' := [(5, .null), (0, .ref o), (1, .int site), (2, .int x), (3, .int y), (4, .int is)]) hx hb dX3_lamp_7 hl (by decide) rfl (fun ls hl => ?_)
    refine lv_aloadN hx hb dX3_lamp_9 (lv_at hl 0 rfl) ?_
    refine lv_ifnonnullN hx hb dX3_lamp_11 ?_
    obtain ⟨sa, hsa⟩ := hT.2.1 (137, "no such site or place") (by decide +kernel)
    subst hQ
    exact vx_throwS (A := (fun q => b ≤ q)) (own := RX3) (cls := "java/lang/IndexOutOfBoundsException") (text := "no such site or place") (names := exN) hx hb hlt hown (by decide +kernel) (by decide +kernel) (hts (.classLink RX3 135 "java/lang/IndexOutOfBoundsException") (by decide +kernel)) (hts (.initialized "java/lang/IndexOutOfBoundsException") (by decide +kernel)) hsa (th_hat hT (fun w h => hts w (List.mem_cons_of_mem _ (List.mem_append_left _ (List.mem_append_left _ (List.mem_append_right _ h))))) th_i4) (th_good th_i4) hT.2.2.2.1 hT.2.2.2.2 hS (hl.1.trans hml.symm) dX3_lamp_14 dX3_lamp_17 dX3_lamp_18 dX3_lamp_20 dX3_lamp_23 (fun x h => (hnt x h).elim) (by decide) (Nat.le_of_ble_eq_true rfl) (Nat.le_of_ble_eq_true rfl) (Nat.le_of_ble_eq_true rfl) hlocks (fun t ha h1 h2 => ⟨(), trivial, ⟨(Or.inl rfl), hM.keep h2⟩, th_F hS h1 h2⟩) hS.2.2 (Nat.le_of_ble_eq_true rfl) (Nat.le_of_ble_eq_true rfl)
  · skip
    have hl : lv_has ls 8 [(0, .ref o), (1, .int (nI j7)), (2, .int (nI jx9)), (3, .int (nI jy10)), (4, .int is)] := hl
    refine lv_astore (lv' := [(5, .ref a8), (0, .ref o), (1, .int (nI j7)), (2, .int (nI jx9)), (3, .int (nI jy10)), (4, .int is)]) hx hb dX3_lamp_7 hl (by decide) rfl (fun ls hl => ?_)
    refine lv_aload hx hb dX3_lamp_9 (lv_at hl 0 rfl) ?_
    refine lv_ifnonnull (tgt := 24) hx hb dX3_lamp_11 (by decide) ?_
    refine lv_iload_n hx hb dX3_lamp_24 rfl (lv_at hl 3 rfl) ?_
    refine lv_iload_n hx hb dX3_lamp_25 rfl (lv_at hl 4 rfl) ?_
    refine va_calli (va_runS (As := [.int (nI jx9), .int (nI jy10)]) (rest := []) ⟨hx, hb, hml, hown, hts⟩ (rk_placeOf l (nI jx9) (nI jy10)) (va_cwS 2 hts gX3_lamp_X3_placeOf rfl rfl rfl (by decide +kernel) ⟨Nat.le_of_ble_eq_true rfl, Nat.le_of_ble_eq_true rfl⟩) ⟨fun a U g mk q => q, fun U hU hW => ⟨rfl, trivial⟩⟩ rfl rfl hl.1 rfl (lv_room (Nat.le_of_ble_eq_true rfl)) dX3_lamp_26 ⟨(Nat.le_of_ble_eq_true rfl), (Nat.le_of_ble_eq_true rfl)⟩) hS (fun q _ h => h.elim) (fun q h => h.elim) (fun r15 u t H locs ht hvm hw16 hB hz1 hk1 hS => ?_)
    have hM := hM.keep (fun p hp => hk1 p hp (fun z => z))
    obtain rfl : r15 = nI (8 * jy10 + jx9) := hw16.trans (by rw [show (8 : Int32) = nI 8 from rfl]; exact (congrArg (· + nI jx9) (pk_mul 8 jy10)).trans (nI_add _ _))
    refine lv_istore (lv' := [(6, .int (nI (8 * jy10 + jx9))), (5, .ref a8), (0, .ref o), (1, .int (nI j7)), (2, .int (nI jx9)), (3, .int (nI jy10)), (4, .int is)]) hx hb dX3_lamp_29 hl (by decide) rfl (fun ls hl => ?_)
    refine lv_aload hx hb dX3_lamp_31 (lv_at hl 1 rfl) ?_
    refine lv_iload hx hb dX3_lamp_33 (lv_at hl 0 rfl) ?_
    obtain ⟨u17, u18, u19, u20, u21, u22, hP, hf⟩ := o_st (i := j7) (q := a8) hM (by omega)
    refine va_calli (va_runV (As := [.int (nI (8 * jy10 + jx9))]) (rest := []) ⟨hx, hb, hml, hown, hts⟩ (rk_has l dC dI kA eD b g a8 j7 (nI (8 * jy10 + jx9)) (by omega)) (cwV 1 hts gX3_lamp_X1_has rfl rfl rfl (by decide +kernel) ⟨Nat.le_of_ble_eq_true rfl, Nat.le_of_ble_eq_true rfl⟩) ⟨fb_CX, va_recv hK hP (ci := 5) (q0 := 0) rfl rfl, fun U hU hW => ⟨rfl, CX.give hb0 hM hK hG hE hS hU hW⟩⟩ rfl rfl hl.1 rfl (lv_room (Nat.le_of_ble_eq_true rfl)) dX3_lamp_35 ⟨(Nat.le_of_ble_eq_true rfl), (Nat.le_of_ble_eq_true rfl)⟩) hS (fun q _ h => h) (fun q h => h) (fun r23 u t H locs ht hvm hw24 hB hz1 hk1 hS => ?_)
    have hM := hB.back ht
    have hG := hB.2.2.2.1
    refine lv_if_ne (tgt := 51) hx hb dX3_lamp_38 (by decide) (fun c25 => ?_) (fun c25 => ?_)
    · skip
      obtain ⟨-, hr1, hr2⟩ := hw24.resolve_left c25
      refine lv_iload hx hb dX3_lamp_51 (lv_at hl 6 rfl) ?_
      have jn26 : ∀  (H : Heap) (locs : List Loc) (ls : Array Slot), TM (dC, dI) kA b g H → va_S (fun q => b ≤ q) s.heap H locs → lv_has ls 8 [(6, .int (nI (8 * jy10 + jx9))), (5, .ref a8), (0, .ref o), (1, .int (nI j7)), (2, .int (nI jx9)), (3, .int (nI jy10)), (4, .int is)] → W p l e (headSpec wzX3_lamp ({ frames := 6, cells := 1, slots := 6, locals := 82 })).room s m args below meth c H locs 0 0 Q (F0 m 79 ls []) := by
        intro H locs ls hM hS hl
        refine lv_aload hx hb dX3_lamp_79 (lv_at hl 1 rfl) ?_
        obtain ⟨u27, u28, u29, u30, u31, u32, hP, hf⟩ := o_st (i := j7) (q := a8) hM (by omega)
        refine va_get (D := (dC, dI)) (ci := 5) (v := .ref (pF g a8 4)) (C := RX1) (T := TX1) (N := 15) hx hb hts (by decide +kernel) hown hK hP 0 rfl rfl 4 (by decide) (hts (.fieldLink RX3 226 "Snowpalace$Site" "lamps" "[Z") (by decide +kernel)) (fun _ h9 => h9) rfl dX3_lamp_81 ?_
        have ht33 : tg g (pF g a8 4) = 15 := hf.2.2.2.2.1
        refine lv_iload hx hb dX3_lamp_84 (lv_at hl 0 rfl) ?_
        obtain ⟨u34, hP, hf⟩ := o_bo (i := 0) (q := (pF g a8 4)) hM (by omega)
        refine va_zald (D := (dC, dI)) hx hb hK hP 0 1 rfl rfl (vp_in_nI (by omega) (by decide)) dX3_lamp_86 ?_
        refine lv_topi (fun v35 e36 => ?_)
        have ec : ((nI (8 * jy10 + jx9)) : Int32).toNatClampNeg = (8 * jy10 + jx9) := nI_clamp (by omega)
        rw [ec] at e36
        have hu37 := hf (8 * jy10 + jx9) (by omega)
        rw [← e36] at hu37
        refine lv_istore (lv' := [(7, .int v35), (6, .int (nI (8 * jy10 + jx9))), (5, .ref a8), (0, .ref o), (1, .int (nI j7)), (2, .int (nI jx9)), (3, .int (nI jy10)), (4, .int is)]) hx hb dX3_lamp_87 hl (by decide) rfl (fun ls hl => ?_)
        refine lv_aload hx hb dX3_lamp_89 (lv_at hl 2 rfl) ?_
        obtain ⟨u38, u39, u40, u41, u42, u43, hP, hf⟩ := o_st (i := j7) (q := a8) hM (by omega)
        refine va_get (D := (dC, dI)) (ci := 5) (v := .ref (pF g a8 4)) (C := RX1) (T := TX1) (N := 15) hx hb hts (by decide +kernel) hown hK hP 0 rfl rfl 4 (by decide) (hts (.fieldLink RX3 226 "Snowpalace$Site" "lamps" "[Z") (by decide +kernel)) (fun _ h9 => h9) rfl dX3_lamp_91 ?_
        refine lv_iload hx hb dX3_lamp_94 (lv_at hl 1 rfl) ?_
        refine lv_iload hx hb dX3_lamp_96 (lv_at hl 7 rfl) ?_
        obtain ⟨u44, hP, hf⟩ := o_bo (i := 0) (q := (pF g a8 4)) hM (by omega)
        refine rt_zast (D := (dC, dI)) (t0 := 1) hx hb hK hP (hM.ge (by omega)) hS rfl (vp_in_nI (by omega) (by decide)) dX3_lamp_98 (fun H locs hP hz ho hS => ?_)
        have ec : ((nI (8 * jy10 + jx9)) : Int32).toNatClampNeg = (8 * jy10 + jx9) := nI_clamp (by omega)
        rw [ec] at hP
        have hM := s_bo (i := 0) hM (by omega) hP ho (isZ_upd hf)
        refine lv_iload hx hb dX3_lamp_99 (lv_at hl 7 rfl) ?_
        have jn45 : ∀  (H : Heap) (locs : List Loc) (ls : Array Slot), TM (dC, dI) kA b g H → va_S (fun q => b ≤ q) s.heap H locs → lv_has ls 8 [(7, .int v35), (6, .int (nI (8 * jy10 + jx9))), (5, .ref a8), (0, .ref o), (1, .int (nI j7)), (2, .int (nI jx9)), (3, .int (nI jy10)), (4, .int is)] → W p l e (headSpec wzX3_lamp ({ frames := 6, cells := 1, slots := 6, locals := 82 })).room s m args below meth c H locs 0 0 Q (F0 m 120 ls []) := by
          intro H locs ls hM hS hl
          refine lv_iload hx hb dX3_lamp_120 (lv_at hl 0 rfl) ?_
          subst hQ
          refine vx_ret ?_
          refine W.widen (k := 1) (n := 6) (Nat.le_of_ble_eq_true rfl) (Nat.le_of_ble_eq_true rfl) ?_
          exact W.zret (v := v35) (ty := .boolean) hx hb hr (z01n hu37) (fun t ht hW => ⟨⟨v35, (), rfl, hu37, CX.give hb0 hM hK hG hE hS ht hW⟩, hS.F ht⟩) hS.2.2 dX3_lamp_122
        refine lv_if_eq (tgt := 120) hx hb dX3_lamp_101 (by decide) (fun c46 => ?_) (fun c46 => ?_)
        · skip
          exact jn45 H _ ls hM hS (lv_sub hl [0, 1, 2, 3, 4, 5, 6, 7] rfl)
        · skip
          refine lv_iload hx hb dX3_lamp_104 (lv_at hl 0 rfl) ?_
          refine lv_if_ne (tgt := 120) hx hb dX3_lamp_106 (by decide) (fun c47 => ?_) (fun c47 => ?_)
          · skip
            exact jn45 H _ ls hM hS (lv_sub hl [0, 1, 2, 3, 4, 5, 6, 7] rfl)
          · skip
            refine lv_aload_n hx hb dX3_lamp_109 rfl (lv_at hl 3 rfl) ?_
            refine lv_dup hx hb dX3_lamp_110 rfl ?_
            obtain ⟨u48, u49, u50, u51, hP, hf⟩ := o_sno (i := 0) (q := o) hM (by omega)
            refine va_get (D := (dC, dI)) (ci := 7) (v := .int u51) (C := RX3) (T := TX3) (N := 10) hx hb hts (by decide +kernel) hown hK hP 0 rfl rfl 9 (by decide) (hts (.fieldLink RX3 49 "Snowpalace" "funds" "I") (by decide +kernel)) (fun _ h9 => h9) rfl dX3_lamp_111 ?_
            refine lv_bipush (v := 50) hx hb dX3_lamp_114 (by decide) ?_
            refine lv_isub hx hb dX3_lamp_116 ?_
            refine lv_topi (fun v52 e53 => ?_)
            obtain ⟨u54, u55, u56, u57, hP, hf⟩ := o_sno (i := 0) (q := o) hM (by omega)
            refine rt_put (D := (dC, dI)) (ci := 7) (v := .int v52) (ty := .int) (C := RX3) (T := TX3) (N := 10) hx hb hts (by decide +kernel) tyX3 tyX3_ok nmX3 hown hK hP (hM.ge (by omega)) hS rfl 9 (by decide) (hts (.fieldLink RX3 49 "Snowpalace" "funds" "I") (by decide +kernel)) (fun _ h9 => h9) rfl (by decide +kernel) rfl rfl (Nat.le_of_ble_eq_true rfl) dX3_lamp_117 (fun H locs hP hz ho hS => ?_)
            have hM := s_sno (i := 0) hM (by omega) hP ho hf
            exact jn45 H _ ls hM hS (lv_sub hl [0, 1, 2, 3, 4, 5, 6, 7] rfl)
      refine lv_if_eq (tgt := 79) hx hb dX3_lamp_53 (by decide) (fun c58 => ?_) (fun c58 => ?_)
      · skip
        exact jn26 H _ ls hM hS (lv_sub hl [0, 1, 2, 3, 4, 5, 6] rfl)
      · skip
        refine lv_aload hx hb dX3_lamp_56 (lv_at hl 1 rfl) ?_
        obtain ⟨u59, u60, u61, u62, u63, u64, hP, hf⟩ := o_st (i := j7) (q := a8) hM (by omega)
        refine va_get (D := (dC, dI)) (ci := 5) (v := .ref (pF g a8 0)) (C := RX1) (T := TX1) (N := 15) hx hb hts (by decide +kernel) hown hK hP 0 rfl rfl 0 (by decide) (hts (.fieldLink RX3 176 "Snowpalace$Site" "kinds" "[C") (by decide +kernel)) (fun _ h9 => h9) rfl dX3_lamp_58 ?_
        have ht65 : tg g (pF g a8 0) = 13 := hf.1
        refine lv_iload hx hb dX3_lamp_61 (lv_at hl 0 rfl) ?_
        obtain ⟨u66, hP, hf⟩ := o_kn (i := 0) (q := (pF g a8 0)) hM (by omega)
        refine va_cald (D := (dC, dI)) hx hb hK hP 0 2 rfl rfl (vp_in_nI (by omega) (by decide)) dX3_lamp_63 ?_
        refine lv_topi (fun v67 e68 => ?_)
        have ec : ((nI (8 * jy10 + jx9)) : Int32).toNatClampNeg = (8 * jy10 + jx9) := nI_clamp (by omega)
        rw [ec] at e68
        have hu69 := hf (8 * jy10 + jx9) (by omega)
        rw [← e68] at hu69
        refine lv_bipush (v := 115) hx hb dX3_lamp_64 (by decide) ?_
        refine lv_icmp_ne (tgt := 79) hx hb dX3_lamp_66 (by decide) (fun c70 => ?_) (fun c70 => ?_)
        · skip
          exact jn26 H _ ls hM hS (lv_sub hl [0, 1, 2, 3, 4, 5, 6] rfl)
        · skip
          obtain ⟨sa, hsa⟩ := hT.2.1 (224, "no lamp is in snow") (by decide +kernel)
          subst hQ
          exact vx_throwS (A := (fun q => b ≤ q)) (own := RX3) (cls := "java/lang/UnsupportedOperationException") (text := "no lamp is in snow") (names := exN) hx hb hlt hown (by decide +kernel) (by decide +kernel) (hts (.classLink RX3 63 "java/lang/UnsupportedOperationException") (by decide +kernel)) (hts (.initialized "java/lang/UnsupportedOperationException") (by decide +kernel)) hsa (th_hat hT (fun w h => hts w (List.mem_cons_of_mem _ (List.mem_append_right _ h))) th_i2) (th_good th_i2) hT.2.2.2.1 hT.2.2.2.2 hS (hl.1.trans hml.symm) dX3_lamp_69 dX3_lamp_72 dX3_lamp_73 dX3_lamp_75 dX3_lamp_78 (fun x h => (hnt x h).elim) (by decide) (Nat.le_of_ble_eq_true rfl) (Nat.le_of_ble_eq_true rfl) (Nat.le_of_ble_eq_true rfl) hlocks (fun t ha h1 h2 => ⟨(), trivial, ⟨(Or.inr (Or.inr rfl)), hM.keep h2⟩, th_F hS h1 h2⟩) hS.2.2 (Nat.le_of_ble_eq_true rfl) (Nat.le_of_ble_eq_true rfl)
    · skip
      obtain ⟨sa, hsa⟩ := hT.2.1 (182, "no cell is there") (by decide +kernel)
      subst hQ
      exact rt_throwSX (A := (fun q => b ≤ q)) (own := RX3) (cls := "java/util/NoSuchElementException") (text := "no cell is there") (names := exN) (ix := 13) (rx := prog_38_method_4_code) hx hb hlt rx13_0 rx13_1 rx13_2 rx13_5 hown (by decide +kernel) (by decide +kernel) (hts (.classLink RX3 180 "java/util/NoSuchElementException") (by decide +kernel)) hE.2.2.2.2.2.2.2.2.ini hsa hE.2.2.2.2.2.2.2.2.hat nse_good hT.2.2.2.1 hT.2.2.2.2 hS (hl.1.trans hml.symm) dX3_lamp_41 dX3_lamp_44 dX3_lamp_45 dX3_lamp_47 dX3_lamp_50 (fun x h => (hnt x h).elim) (by decide) (Nat.le_of_ble_eq_true rfl) (Nat.le_of_ble_eq_true rfl) (Nat.le_of_ble_eq_true rfl) hlocks (fun t ha h1 h2 => ⟨(), trivial, ⟨(Or.inr (Or.inl rfl)), hM.keep h2⟩, th_F hS h1 h2⟩) hS.2.2 (Nat.le_of_ble_eq_true rfl) (Nat.le_of_ble_eq_true rfl)

set_option maxHeartbeats 4000000 in
set_option maxRecDepth 100000 in
theorem rf_isOpen (l : Launch) (hlt : l.stackTraces = false) (dC : Nat → ClassId) (dI : Nat → Nat → Nat) (kA : Nat → ClassId) (eD b : Nat) (g : Gh) (o : Nat) (site : Int32) (hto : tg g o = 1)  : vx_Met l yX3_isOpen wsX3_isOpen ({ frames := 6, cells := 1, slots := 6, locals := 94 }) (va_Pc [.ref o, .int site] (CX (dC, dI) kA eD b g)) (va_Qi (fun (r : Int32) (u : Unit) => r = 0 ∨ r = 1) (fun (u : Unit) t => CX (dC, dI) kA eD b g t) (fun q => b ≤ q)) (vx_X (fun _ : Unit => True) (fun E _ t => (E = "java/lang/IndexOutOfBoundsException") ∧ TM (dC, dI) kA b g t.heap) (fun q => b ≤ q)) 1 6 (fun q => b ≤ q) := by
  refine vx_ofW (cc := cX3_isOpen) (maxL := 3) (ret := (some .boolean)) (by decide +kernel) rfl ?_
  intro p e s m args below meth c s₁ B hml hnt hv
  obtain ⟨rfl, hb0, hM, hK, hG, hE⟩ := hv
  have hx := B.exec
  have hb := B.bytes
  have hr := B.returns
  have hts := atoms_spec (ws := wsX3_isOpen) B.pre
  have hown : s.vm.findClass RX3 = some m.cls := findClass_of_methodNamed B.named
  have hlocks := B.notSynchronized
  have hT := hE.1
  have hN := hE.2.2.2.2.2.2.2.1
  have hS : va_S (fun q => b ≤ q) s.heap s.heap [] := va_S.rf
  have hl := lv_entry ([.ref o, .int site]) (n := 3) (Nat.le_of_ble_eq_true rfl)
  rw [lg_entry_eq]
  generalize (lg_sl ([.ref o, .int site]) ++ List.replicate (3 - (lg_sl ([.ref o, .int site])).length) Slot.unset).toArray = ls at hl ⊢
  have hl : lv_has ls 3 [(0, .ref o), (1, .int site)] := hl
  generalize ([.ref o, .int site] : List Value).toArray = args at hts ⊢
  refine lv_aload_n hx hb dX3_isOpen_0 rfl (lv_at hl 0 rfl) ?_
  refine lv_iload_n hx hb dX3_isOpen_1 rfl (lv_at hl 1 rfl) ?_
  obtain ⟨u1, u2, u3, u4, hP, hf⟩ := o_sno (i := 0) (q := o) hM (by omega)
  refine va_callq (va_runV (As := [.int site]) (rest := []) ⟨hx, hb, hml, hown, hts⟩ (rk_numberedSite l dC dI kA eD b g o site (by omega)) (cwV 1 hts gX3_isOpen_X3_numberedSite rfl rfl rfl (by decide +kernel) ⟨Nat.le_of_ble_eq_true rfl, Nat.le_of_ble_eq_true rfl⟩) ⟨fb_CX, va_recv hK hP (ci := 7) (q0 := 0) rfl rfl, fun U hU hW => ⟨rfl, CX.give hb0 hM hK hG hE hS hU hW⟩⟩ rfl rfl hl.1 rfl (lv_room (Nat.le_of_ble_eq_true rfl)) dX3_isOpen_2 ⟨(Nat.le_of_ble_eq_true rfl), (Nat.le_of_ble_eq_true rfl)⟩) hS (fun q _ h => h) (fun q h => h) (fun r5 u t H locs ht hvm hw6 hB hz1 hk1 hS => ?_)
  have hM := hB.back ht
  have hG := hB.2.2.2.1
  rcases hw6 with ⟨rfl, hn12⟩ | ⟨j7, a8, rfl, hs9, hj11, ho9, ht10⟩
  · skip
    refine lv_astore_nN (lv' := [(2, .null), (0, .ref o), (1, .int site)]) hx hb dX3_isOpen_5 rfl hl (by decide) rfl (fun ls hl => ?_)
    refine lv_aload_nN hx hb dX3_isOpen_6 rfl (lv_at hl 0 rfl) ?_
    refine lv_ifnonnullN hx hb dX3_isOpen_7 ?_
    obtain ⟨sa, hsa⟩ := hT.2.1 (211, "no such site") (by decide +kernel)
    exact vx_throwS (A := (fun q => b ≤ q)) (own := RX3) (cls := "java/lang/IndexOutOfBoundsException") (text := "no such site") (names := exN) hx hb hlt hown (by decide +kernel) (by decide +kernel) (hts (.classLink RX3 135 "java/lang/IndexOutOfBoundsException") (by decide +kernel)) (hts (.initialized "java/lang/IndexOutOfBoundsException") (by decide +kernel)) hsa (th_hat hT (fun w h => hts w (List.mem_cons_of_mem _ (List.mem_append_left _ (List.mem_append_right _ h)))) th_i4) (th_good th_i4) hT.2.2.2.1 hT.2.2.2.2 hS (hl.1.trans hml.symm) dX3_isOpen_10 dX3_isOpen_13 dX3_isOpen_14 dX3_isOpen_16 dX3_isOpen_19 (fun x h => (hnt x h).elim) (by decide) (Nat.le_of_ble_eq_true rfl) (Nat.le_of_ble_eq_true rfl) (Nat.le_of_ble_eq_true rfl) hlocks (fun t ha h1 h2 => ⟨(), trivial, ⟨rfl, hM.keep h2⟩, th_F hS h1 h2⟩) hS.2.2 (Nat.le_of_ble_eq_true rfl) (Nat.le_of_ble_eq_true rfl)
  · skip
    subst hs9
    have hl : lv_has ls 3 [(0, .ref o), (1, .int (nI j7))] := hl
    refine lv_astore_n (lv' := [(2, .ref a8), (0, .ref o), (1, .int (nI j7))]) hx hb dX3_isOpen_5 rfl hl (by decide) rfl (fun ls hl => ?_)
    refine lv_aload_n hx hb dX3_isOpen_6 rfl (lv_at hl 0 rfl) ?_
    refine lv_ifnonnull (tgt := 20) hx hb dX3_isOpen_7 (by decide) ?_
    refine lv_aload_n hx hb dX3_isOpen_20 rfl (lv_at hl 0 rfl) ?_
    refine lv_iconst (v := (-1)) hx hb dX3_isOpen_21 (by decide) ?_
    refine lv_iconst (v := 0) hx hb dX3_isOpen_22 (by decide) ?_
    refine lv_aload_n hx hb dX3_isOpen_23 rfl (lv_at hl 1 rfl) ?_
    obtain ⟨u13, u14, u15, u16, hP, hf⟩ := o_sno (i := 0) (q := o) hM (by omega)
    refine va_get (D := (dC, dI)) (ci := 7) (v := .ref (pF g o 0)) (C := RX3) (T := TX3) (N := 10) hx hb hts (by decide +kernel) hown hK hP 0 rfl rfl 0 (by decide) (hts (.fieldLink RX3 10 "Snowpalace" "sky" "LSnowpalace$Sky;") (by decide +kernel)) (fun _ h9 => h9) rfl dX3_isOpen_24 ?_
    have ht17 : tg g (pF g o 0) = 2 := hf.1
    refine lv_aload_n hx hb dX3_isOpen_27 rfl (lv_at hl 1 rfl) ?_
    obtain ⟨u18, u19, u20, u21, hP, hf⟩ := o_sno (i := 0) (q := o) hM (by omega)
    refine va_get (D := (dC, dI)) (ci := 7) (v := .int (pI g o 1)) (C := RX3) (T := TX3) (N := 10) hx hb hts (by decide +kernel) hown hK hP 0 rfl rfl 4 (by decide) (hts (.fieldLink RX3 33 "Snowpalace" "clock" "I") (by decide +kernel)) (fun _ h9 => h9) rfl dX3_isOpen_28 ?_
    have hv22 := hf.2.2.2.2.1
    obtain ⟨hP, hf⟩ := o_sky (i := 0) (q := (pF g o 0)) hM (by omega)
    refine va_calli (va_runV (As := [.int (pI g o 1)]) (rest := [.int 0, .int (-1), .ref a8]) ⟨hx, hb, hml, hown, hts⟩ (rk_warmthOf l dC dI kA eD b g (pF g o 0) (pI g o 1) (by omega)) (cwV 1 hts gX3_isOpen_X2_warmthOf rfl rfl rfl (by decide +kernel) ⟨Nat.le_of_ble_eq_true rfl, Nat.le_of_ble_eq_true rfl⟩) ⟨fb_CX, va_recv hK hP (ci := 6) (q0 := 0) rfl rfl, fun U hU hW => ⟨rfl, CX.give hb0 hM hK hG hE hS hU hW⟩⟩ rfl rfl hl.1 rfl (lv_room (Nat.le_of_ble_eq_true rfl)) dX3_isOpen_31 ⟨(Nat.le_of_ble_eq_true rfl), (Nat.le_of_ble_eq_true rfl)⟩) hS (fun q _ h => h) (fun q h => h) (fun r23 u t H locs ht hvm hw24 hB hz1 hk1 hS => ?_)
    have hM := hB.back ht
    have hG := hB.2.2.2.1
    obtain ⟨u25, u26, u27, u28, u29, u30, hP, hf⟩ := o_st (i := j7) (q := a8) hM (by omega)
    refine va_calli (va_runV (As := [.int (-1), .int 0, .int r23]) (rest := []) ⟨hx, hb, hml, hown, hts⟩ (rk_isOpenWith l dC dI kA eD b g a8 j7 (-1) 0 r23 (by omega)) (cwV 3 hts gX3_isOpen_X1_isOpenWith rfl rfl rfl (by decide +kernel) ⟨Nat.le_of_ble_eq_true rfl, Nat.le_of_ble_eq_true rfl⟩) ⟨fb_CX, va_recv hK hP (ci := 5) (q0 := 0) rfl rfl, fun U hU hW => ⟨rfl, CX.give hb0 hM hK hG hE hS hU hW⟩⟩ rfl rfl hl.1 rfl (lv_room (Nat.le_of_ble_eq_true rfl)) dX3_isOpen_34 ⟨(Nat.le_of_ble_eq_true rfl), (Nat.le_of_ble_eq_true rfl)⟩) hS (fun q _ h => h) (fun q h => h) (fun r31 u t H locs ht hvm hw32 hB hz1 hk1 hS => ?_)
    have hM := hB.back ht
    have hG := hB.2.2.2.1
    refine vx_ret ?_
    refine W.widen (k := 1) (n := 6) (Nat.le_of_ble_eq_true rfl) (Nat.le_of_ble_eq_true rfl) ?_
    exact W.zret (v := r31) (ty := .boolean) hx hb hr (z01n hw32) (fun t ht hW => ⟨⟨r31, (), rfl, hw32, CX.give hb0 hM hK hG hE hS ht hW⟩, hS.F ht⟩) hS.2.2 dX3_isOpen_37

set_option maxHeartbeats 4000000 in
set_option maxRecDepth 100000 in
theorem rf_visit (l : Launch) (hlt : l.stackTraces = false) (dC : Nat → ClassId) (dI : Nat → Nat → Nat) (kA : Nat → ClassId) (eD b : Nat) (g : Gh) (o : Nat) (site : Int32) (pe : Int32) (hto : tg g o = 1)  : vx_Met l yX3_visit wsX3_visit ({ frames := 6, cells := 1, slots := 6, locals := 94 }) (va_Pc [.ref o, .int site, .int pe] (CX (dC, dI) kA eD b g)) (va_Qi (fun (r : Int32) (u : Unit) => True) (fun (u : Unit) t => CX (dC, dI) kA eD b g t) (fun q => b ≤ q)) (vx_X (fun _ : Unit => True) (fun E _ t => (E = "java/lang/IndexOutOfBoundsException" ∨ E = "java/lang/IllegalArgumentException" ∨ E = "java/lang/UnsupportedOperationException") ∧ TM (dC, dI) kA b g t.heap) (fun q => b ≤ q)) 1 6 (fun q => b ≤ q) := by
  refine vx_ofW (cc := cX3_visit) (maxL := 4) (ret := (some .int)) (by decide +kernel) rfl ?_
  intro p e s m args below meth c s₁ B hml hnt hv
  obtain ⟨rfl, hb0, hM, hK, hG, hE⟩ := hv
  have hx := B.exec
  have hb := B.bytes
  have hr := B.returns
  have hts := atoms_spec (ws := wsX3_visit) B.pre
  have hown : s.vm.findClass RX3 = some m.cls := findClass_of_methodNamed B.named
  have hlocks := B.notSynchronized
  have hT := hE.1
  have hN := hE.2.2.2.2.2.2.2.1
  have hS : va_S (fun q => b ≤ q) s.heap s.heap [] := va_S.rf
  have hl := lv_entry ([.ref o, .int site, .int pe]) (n := 4) (Nat.le_of_ble_eq_true rfl)
  rw [lg_entry_eq]
  generalize (lg_sl ([.ref o, .int site, .int pe]) ++ List.replicate (4 - (lg_sl ([.ref o, .int site, .int pe])).length) Slot.unset).toArray = ls at hl ⊢
  have hl : lv_has ls 4 [(0, .ref o), (1, .int site), (2, .int pe)] := hl
  generalize ([.ref o, .int site, .int pe] : List Value).toArray = args at hts ⊢
  refine lv_aload_n hx hb dX3_visit_0 rfl (lv_at hl 0 rfl) ?_
  refine lv_iload_n hx hb dX3_visit_1 rfl (lv_at hl 1 rfl) ?_
  obtain ⟨u1, u2, u3, u4, hP, hf⟩ := o_sno (i := 0) (q := o) hM (by omega)
  refine va_callq (va_runV (As := [.int site]) (rest := []) ⟨hx, hb, hml, hown, hts⟩ (rk_numberedSite l dC dI kA eD b g o site (by omega)) (cwV 1 hts gX3_visit_X3_numberedSite rfl rfl rfl (by decide +kernel) ⟨Nat.le_of_ble_eq_true rfl, Nat.le_of_ble_eq_true rfl⟩) ⟨fb_CX, va_recv hK hP (ci := 7) (q0 := 0) rfl rfl, fun U hU hW => ⟨rfl, CX.give hb0 hM hK hG hE hS hU hW⟩⟩ rfl rfl hl.1 rfl (lv_room (Nat.le_of_ble_eq_true rfl)) dX3_visit_2 ⟨(Nat.le_of_ble_eq_true rfl), (Nat.le_of_ble_eq_true rfl)⟩) hS (fun q _ h => h) (fun q h => h) (fun r5 u t H locs ht hvm hw6 hB hz1 hk1 hS => ?_)
  have hM := hB.back ht
  have hG := hB.2.2.2.1
  rcases hw6 with ⟨rfl, hn12⟩ | ⟨j7, a8, rfl, hs9, hj11, ho9, ht10⟩
  · skip
    refine lv_astore_nN (lv' := [(3, .null), (0, .ref o), (1, .int site), (2, .int pe)]) hx hb dX3_visit_5 rfl hl (by decide) rfl (fun ls hl => ?_)
    refine lv_aload_nN hx hb dX3_visit_6 rfl (lv_at hl 0 rfl) ?_
    refine lv_ifnonnullN hx hb dX3_visit_7 ?_
    obtain ⟨sa, hsa⟩ := hT.2.1 (211, "no such site") (by decide +kernel)
    exact vx_throwS (A := (fun q => b ≤ q)) (own := RX3) (cls := "java/lang/IndexOutOfBoundsException") (text := "no such site") (names := exN) hx hb hlt hown (by decide +kernel) (by decide +kernel) (hts (.classLink RX3 135 "java/lang/IndexOutOfBoundsException") (by decide +kernel)) (hts (.initialized "java/lang/IndexOutOfBoundsException") (by decide +kernel)) hsa (th_hat hT (fun w h => hts w (List.mem_cons_of_mem _ (List.mem_append_left _ (List.mem_append_left _ (List.mem_append_left _ (List.mem_append_right _ h)))))) th_i4) (th_good th_i4) hT.2.2.2.1 hT.2.2.2.2 hS (hl.1.trans hml.symm) dX3_visit_10 dX3_visit_13 dX3_visit_14 dX3_visit_16 dX3_visit_19 (fun x h => (hnt x h).elim) (by decide) (Nat.le_of_ble_eq_true rfl) (Nat.le_of_ble_eq_true rfl) (Nat.le_of_ble_eq_true rfl) hlocks (fun t ha h1 h2 => ⟨(), trivial, ⟨(Or.inl rfl), hM.keep h2⟩, th_F hS h1 h2⟩) hS.2.2 (Nat.le_of_ble_eq_true rfl) (Nat.le_of_ble_eq_true rfl)
  · skip
    subst hs9
    have hl : lv_has ls 4 [(0, .ref o), (1, .int (nI j7)), (2, .int pe)] := hl
    refine lv_astore_n (lv' := [(3, .ref a8), (0, .ref o), (1, .int (nI j7)), (2, .int pe)]) hx hb dX3_visit_5 rfl hl (by decide) rfl (fun ls hl => ?_)
    refine lv_aload_n hx hb dX3_visit_6 rfl (lv_at hl 0 rfl) ?_
    refine lv_ifnonnull (tgt := 20) hx hb dX3_visit_7 (by decide) ?_
    refine lv_iload_n hx hb dX3_visit_20 rfl (lv_at hl 3 rfl) ?_
    refine lv_iconst (v := 1) hx hb dX3_visit_21 (by decide) ?_
    refine lv_sipush (v := 500) hx hb dX3_visit_22 (by decide) ?_
    refine va_calli (va_runS (As := [.int pe, .int 1, .int 500]) (rest := []) ⟨hx, hb, hml, hown, hts⟩ (rk_isWithin l pe 1 500 (1) (500) (by decide) (by decide)) (va_cwS 3 hts gX3_visit_X3_isWithin rfl rfl rfl (by decide +kernel) ⟨Nat.le_of_ble_eq_true rfl, Nat.le_of_ble_eq_true rfl⟩) ⟨fun a U g mk q => q, fun U hU hW => ⟨rfl, trivial⟩⟩ rfl rfl hl.1 rfl (lv_room (Nat.le_of_ble_eq_true rfl)) dX3_visit_25 ⟨(Nat.le_of_ble_eq_true rfl), (Nat.le_of_ble_eq_true rfl)⟩) hS (fun q _ h => h.elim) (fun q h => h.elim) (fun r13 u t H locs ht hvm hw14 hB hz1 hk1 hS => ?_)
    have hM := hM.keep (fun p hp => hk1 p hp (fun z => z))
    have hw14 : r13 = bI ((1 : Int) ≤ pe.toInt ∧ pe.toInt ≤ (500 : Int)) := hw14
    refine lv_if_ne (tgt := 41) hx hb dX3_visit_28 (by decide) (fun c15 => ?_) (fun c15 => ?_)
    · skip
      have g16 : (1 : Int) ≤ pe.toInt ∧ pe.toInt ≤ (500 : Int) := bI_t hw14 c15
      have zg16 : r13 = 1 := bI_t1 hw14 g16
      refine lv_aload_n hx hb dX3_visit_41 rfl (lv_at hl 0 rfl) ?_
      refine lv_iconst (v := (-1)) hx hb dX3_visit_42 (by decide) ?_
      refine lv_iconst (v := 0) hx hb dX3_visit_43 (by decide) ?_
      refine lv_aload_n hx hb dX3_visit_44 rfl (lv_at hl 1 rfl) ?_
      obtain ⟨u17, u18, u19, u20, hP, hf⟩ := o_sno (i := 0) (q := o) hM (by omega)
      refine va_get (D := (dC, dI)) (ci := 7) (v := .ref (pF g o 0)) (C := RX3) (T := TX3) (N := 10) hx hb hts (by decide +kernel) hown hK hP 0 rfl rfl 0 (by decide) (hts (.fieldLink RX3 10 "Snowpalace" "sky" "LSnowpalace$Sky;") (by decide +kernel)) (fun _ h9 => h9) rfl dX3_visit_45 ?_
      have ht21 : tg g (pF g o 0) = 2 := hf.1
      refine lv_aload_n hx hb dX3_visit_48 rfl (lv_at hl 1 rfl) ?_
      obtain ⟨u22, u23, u24, u25, hP, hf⟩ := o_sno (i := 0) (q := o) hM (by omega)
      refine va_get (D := (dC, dI)) (ci := 7) (v := .int (pI g o 1)) (C := RX3) (T := TX3) (N := 10) hx hb hts (by decide +kernel) hown hK hP 0 rfl rfl 4 (by decide) (hts (.fieldLink RX3 33 "Snowpalace" "clock" "I") (by decide +kernel)) (fun _ h9 => h9) rfl dX3_visit_49 ?_
      have hv26 := hf.2.2.2.2.1
      obtain ⟨hP, hf⟩ := o_sky (i := 0) (q := (pF g o 0)) hM (by omega)
      refine va_calli (va_runV (As := [.int (pI g o 1)]) (rest := [.int 0, .int (-1), .ref a8]) ⟨hx, hb, hml, hown, hts⟩ (rk_warmthOf l dC dI kA eD b g (pF g o 0) (pI g o 1) (by omega)) (cwV 1 hts gX3_visit_X2_warmthOf rfl rfl rfl (by decide +kernel) ⟨Nat.le_of_ble_eq_true rfl, Nat.le_of_ble_eq_true rfl⟩) ⟨fb_CX, va_recv hK hP (ci := 6) (q0 := 0) rfl rfl, fun U hU hW => ⟨rfl, CX.give hb0 hM hK hG hE hS hU hW⟩⟩ rfl rfl hl.1 rfl (lv_room (Nat.le_of_ble_eq_true rfl)) dX3_visit_52 ⟨(Nat.le_of_ble_eq_true rfl), (Nat.le_of_ble_eq_true rfl)⟩) hS (fun q _ h => h) (fun q h => h) (fun r27 u t H locs ht hvm hw28 hB hz1 hk1 hS => ?_)
      have hM := hB.back ht
      have hG := hB.2.2.2.1
      obtain ⟨u29, u30, u31, u32, u33, u34, hP, hf⟩ := o_st (i := j7) (q := a8) hM (by omega)
      refine va_calli (va_runV (As := [.int (-1), .int 0, .int r27]) (rest := []) ⟨hx, hb, hml, hown, hts⟩ (rk_isOpenWith l dC dI kA eD b g a8 j7 (-1) 0 r27 (by omega)) (cwV 3 hts gX3_visit_X1_isOpenWith rfl rfl rfl (by decide +kernel) ⟨Nat.le_of_ble_eq_true rfl, Nat.le_of_ble_eq_true rfl⟩) ⟨fb_CX, va_recv hK hP (ci := 5) (q0 := 0) rfl rfl, fun U hU hW => ⟨rfl, CX.give hb0 hM hK hG hE hS hU hW⟩⟩ rfl rfl hl.1 rfl (lv_room (Nat.le_of_ble_eq_true rfl)) dX3_visit_55 ⟨(Nat.le_of_ble_eq_true rfl), (Nat.le_of_ble_eq_true rfl)⟩) hS (fun q _ h => h) (fun q h => h) (fun r35 u t H locs ht hvm hw36 hB hz1 hk1 hS => ?_)
      have hM := hB.back ht
      have hG := hB.2.2.2.1
      refine lv_if_ne (tgt := 71) hx hb dX3_visit_58 (by decide) (fun c37 => ?_) (fun c37 => ?_)
      · skip
        refine lv_aload_n hx hb dX3_visit_71 rfl (lv_at hl 0 rfl) ?_
        refine lv_dup hx hb dX3_visit_72 rfl ?_
        obtain ⟨u38, u39, u40, u41, u42, u43, hP, hf⟩ := o_st (i := j7) (q := a8) hM (by omega)
        refine va_get (D := (dC, dI)) (ci := 5) (v := .int u40) (C := RX1) (T := TX1) (N := 15) hx hb hts (by decide +kernel) hown hK hP 0 rfl rfl 11 (by decide) (hts (.fieldLink RX3 253 "Snowpalace$Site" "visitors" "I") (by decide +kernel)) (fun _ h9 => h9) rfl dX3_visit_73 ?_
        refine lv_iload_n hx hb dX3_visit_76 rfl (lv_at hl 3 rfl) ?_
        refine lv_iadd hx hb dX3_visit_77 ?_
        refine lv_topi (fun v44 e45 => ?_)
        obtain ⟨u46, u47, u48, u49, u50, u51, hP, hf⟩ := o_st (i := j7) (q := a8) hM (by omega)
        refine rt_put (D := (dC, dI)) (ci := 5) (v := .int v44) (ty := .int) (C := RX1) (T := TX1) (N := 15) hx hb hts (by decide +kernel) tyX1 tyX1_ok nmX1 hown hK hP (hM.ge (by omega)) hS rfl 11 (by decide) (hts (.fieldLink RX3 253 "Snowpalace$Site" "visitors" "I") (by decide +kernel)) (fun _ h9 => h9) rfl (by decide +kernel) rfl rfl (Nat.le_of_ble_eq_true rfl) dX3_visit_78 (fun H locs hP hz ho hS => ?_)
        have hM := s_st (i := j7) hM (by omega) hP ho hf
        refine lv_aload_n hx hb dX3_visit_81 rfl (lv_at hl 1 rfl) ?_
        refine lv_dup hx hb dX3_visit_82 rfl ?_
        obtain ⟨u52, u53, u54, u55, hP, hf⟩ := o_sno (i := 0) (q := o) hM (by omega)
        refine va_get (D := (dC, dI)) (ci := 7) (v := .int u55) (C := RX3) (T := TX3) (N := 10) hx hb hts (by decide +kernel) hown hK hP 0 rfl rfl 9 (by decide) (hts (.fieldLink RX3 49 "Snowpalace" "funds" "I") (by decide +kernel)) (fun _ h9 => h9) rfl dX3_visit_83 ?_
        refine lv_iconst (v := 5) hx hb dX3_visit_86 (by decide) ?_
        refine lv_iload_n hx hb dX3_visit_87 rfl (lv_at hl 3 rfl) ?_
        refine lv_imul hx hb dX3_visit_88 ?_
        refine lv_topi (fun v56 e57 => ?_)
        refine lv_iadd hx hb dX3_visit_89 ?_
        refine lv_topi (fun v58 e59 => ?_)
        obtain ⟨u60, u61, u62, u63, hP, hf⟩ := o_sno (i := 0) (q := o) hM (by omega)
        refine rt_put (D := (dC, dI)) (ci := 7) (v := .int v58) (ty := .int) (C := RX3) (T := TX3) (N := 10) hx hb hts (by decide +kernel) tyX3 tyX3_ok nmX3 hown hK hP (hM.ge (by omega)) hS rfl 9 (by decide) (hts (.fieldLink RX3 49 "Snowpalace" "funds" "I") (by decide +kernel)) (fun _ h9 => h9) rfl (by decide +kernel) rfl rfl (Nat.le_of_ble_eq_true rfl) dX3_visit_90 (fun H locs hP hz ho hS => ?_)
        have hM := s_sno (i := 0) hM (by omega) hP ho hf
        refine lv_aload_n hx hb dX3_visit_93 rfl (lv_at hl 0 rfl) ?_
        obtain ⟨u64, u65, u66, u67, u68, u69, hP, hf⟩ := o_st (i := j7) (q := a8) hM (by omega)
        refine va_get (D := (dC, dI)) (ci := 5) (v := .int u66) (C := RX1) (T := TX1) (N := 15) hx hb hts (by decide +kernel) hown hK hP 0 rfl rfl 11 (by decide) (hts (.fieldLink RX3 253 "Snowpalace$Site" "visitors" "I") (by decide +kernel)) (fun _ h9 => h9) rfl dX3_visit_94 ?_
        refine vx_ret ?_
        refine W.widen (k := 1) (n := 6) (Nat.le_of_ble_eq_true rfl) (Nat.le_of_ble_eq_true rfl) ?_
        exact W.iret (v := u66) hx hb hr (fun t ht hW => ⟨⟨u66, (), rfl, trivial, CX.give hb0 hM hK hG hE hS ht hW⟩, hS.F ht⟩) hS.2.2 dX3_visit_97
      · skip
        obtain ⟨sa, hsa⟩ := hT.2.1 (251, "the site is not open") (by decide +kernel)
        exact vx_throwS (A := (fun q => b ≤ q)) (own := RX3) (cls := "java/lang/UnsupportedOperationException") (text := "the site is not open") (names := exN) hx hb hlt hown (by decide +kernel) (by decide +kernel) (hts (.classLink RX3 63 "java/lang/UnsupportedOperationException") (by decide +kernel)) (hts (.initialized "java/lang/UnsupportedOperationException") (by decide +kernel)) hsa (th_hat hT (fun w h => hts w (List.mem_cons_of_mem _ (List.mem_append_left _ (List.mem_append_right _ h)))) th_i2) (th_good th_i2) hT.2.2.2.1 hT.2.2.2.2 hS (hl.1.trans hml.symm) dX3_visit_61 dX3_visit_64 dX3_visit_65 dX3_visit_67 dX3_visit_70 (fun x h => (hnt x h).elim) (by decide) (Nat.le_of_ble_eq_true rfl) (Nat.le_of_ble_eq_true rfl) (Nat.le_of_ble_eq_true rfl) hlocks (fun t ha h1 h2 => ⟨(), trivial, ⟨(Or.inr (Or.inr rfl)), hM.keep h2⟩, th_F hS h1 h2⟩) hS.2.2 (Nat.le_of_ble_eq_true rfl) (Nat.le_of_ble_eq_true rfl)
    · skip
      have g70 : ¬ ((1 : Int) ≤ pe.toInt ∧ pe.toInt ≤ (500 : Int)) := bI_f hw14 c15
      have zg70 : r13 = 0 := bI_f0 hw14 g70
      obtain ⟨sa, hsa⟩ := hT.2.1 (249, "so many cannot come") (by decide +kernel)
      exact vx_throwS (A := (fun q => b ≤ q)) (own := RX3) (cls := "java/lang/IllegalArgumentException") (text := "so many cannot come") (names := exN) hx hb hlt hown (by decide +kernel) (by decide +kernel) (hts (.classLink RX3 56 "java/lang/IllegalArgumentException") (by decide +kernel)) (hts (.initialized "java/lang/IllegalArgumentException") (by decide +kernel)) hsa (th_hat hT (fun w h => hts w (List.mem_cons_of_mem _ (List.mem_append_left _ (List.mem_append_left _ (List.mem_append_right _ h))))) th_i1) (th_good th_i1) hT.2.2.2.1 hT.2.2.2.2 hS (hl.1.trans hml.symm) dX3_visit_31 dX3_visit_34 dX3_visit_35 dX3_visit_37 dX3_visit_40 (fun x h => (hnt x h).elim) (by decide) (Nat.le_of_ble_eq_true rfl) (Nat.le_of_ble_eq_true rfl) (Nat.le_of_ble_eq_true rfl) hlocks (fun t ha h1 h2 => ⟨(), trivial, ⟨(Or.inr (Or.inl rfl)), hM.keep h2⟩, th_F hS h1 h2⟩) hS.2.2 (Nat.le_of_ble_eq_true rfl) (Nat.le_of_ble_eq_true rfl)

set_option maxHeartbeats 4000000 in
set_option maxRecDepth 100000 in
theorem rf_carve (l : Launch) (hlt : l.stackTraces = false) (dC : Nat → ClassId) (dI : Nat → Nat → Nat) (kA : Nat → ClassId) (eD b : Nat) (g : Gh) (o : Nat) (site : Int32) (x : Int32) (y : Int32) (ms : Int32) (hto : tg g o = 1)  : vx_Met l yX3_carve wzX3_carve ({ frames := 6, cells := 1, slots := 6, locals := 137 }) (va_Pc [.ref o, .int site, .int x, .int y, .int ms] (CX (dC, dI) kA eD b g)) (va_Qi (fun (r : Int32) (u : Unit) => True) (fun (u : Unit) t => CX (dC, dI) kA eD b g t) (fun q => b ≤ q)) (vx_X (fun _ : Unit => True) (fun E _ t => (E = "java/lang/IndexOutOfBoundsException" ∨ E = "java/lang/IllegalArgumentException" ∨ E = "java/util/NoSuchElementException" ∨ E = "java/lang/IllegalStateException" ∨ E = "java/lang/UnsupportedOperationException") ∧ TM (dC, dI) kA b g t.heap) (fun q => b ≤ q)) 1 6 (fun q => b ≤ q) := by
  refine vx_ofW (cc := cX3_carve) (maxL := 7) (ret := (some .int)) (by decide +kernel) rfl ?_
  intro p e s m args below meth c s₁ B hml hnt hv
  obtain ⟨rfl, hb0, hM, hK, hG, hE⟩ := hv
  have hx := B.exec
  have hb := B.bytes
  have hr := B.returns
  have hts := atoms_spec (ws := wzX3_carve) B.pre
  have hown : s.vm.findClass RX3 = some m.cls := findClass_of_methodNamed B.named
  have hlocks := B.notSynchronized
  have hT := hE.1
  have hN := hE.2.2.2.2.2.2.2.1
  have hS : va_S (fun q => b ≤ q) s.heap s.heap [] := va_S.rf
  have hl := lv_entry ([.ref o, .int site, .int x, .int y, .int ms]) (n := 7) (Nat.le_of_ble_eq_true rfl)
  rw [lg_entry_eq]
  generalize (lg_sl ([.ref o, .int site, .int x, .int y, .int ms]) ++ List.replicate (7 - (lg_sl ([.ref o, .int site, .int x, .int y, .int ms])).length) Slot.unset).toArray = ls at hl ⊢
  have hl : lv_has ls 7 [(0, .ref o), (1, .int site), (2, .int x), (3, .int y), (4, .int ms)] := hl
  generalize ([.ref o, .int site, .int x, .int y, .int ms] : List Value).toArray = args at hts ⊢
  refine W.q (fun Q hQ => ?_)
  refine lv_aload_n hx hb dX3_carve_0 rfl (lv_at hl 0 rfl) ?_
  refine lv_iload_n hx hb dX3_carve_1 rfl (lv_at hl 1 rfl) ?_
  refine lv_iload_n hx hb dX3_carve_2 rfl (lv_at hl 2 rfl) ?_
  refine lv_iload_n hx hb dX3_carve_3 rfl (lv_at hl 3 rfl) ?_
  obtain ⟨u1, u2, u3, u4, hP, hf⟩ := o_sno (i := 0) (q := o) hM (by omega)
  refine va_callq (va_runV (As := [.int site, .int x, .int y]) (rest := []) ⟨hx, hb, hml, hown, hts⟩ (rk_placedSite l dC dI kA eD b g o site x y (by omega)) (cwV 3 hts gX3_carve_X3_placedSite rfl rfl rfl (by decide +kernel) ⟨Nat.le_of_ble_eq_true rfl, Nat.le_of_ble_eq_true rfl⟩) ⟨fb_CX, va_recv hK hP (ci := 7) (q0 := 0) rfl rfl, fun U hU hW => ⟨rfl, CX.give hb0 hM hK hG hE hS hU hW⟩⟩ rfl rfl hl.1 rfl (lv_room (Nat.le_of_ble_eq_true rfl)) dX3_carve_4 ⟨(Nat.le_of_ble_eq_true rfl), (Nat.le_of_ble_eq_true rfl)⟩) hS (fun q _ h => h) (fun q h => h) (fun r5 u t H locs ht hvm hw6 hB hz1 hk1 hS => ?_)
  have hM := hB.back ht
  have hG := hB.2.2.2.1
  rcases hw6 with ⟨rfl, hn14⟩ | ⟨j7, a8, jx9, jy10, rfl, rfl, rfl, rfl, hjx9, hjy10, hj13, ho11, ht12⟩
  · skip
    refine lv_astoreN (lv' := [(5, .null), (0, .ref o), (1, .int site), (2, .int x), (3, .int y), (4, .int ms)]) hx hb dX3_carve_7 hl (by decide) rfl (fun ls hl => ?_)
    refine lv_aloadN hx hb dX3_carve_9 (lv_at hl 0 rfl) ?_
    refine lv_ifnonnullN hx hb dX3_carve_11 ?_
    obtain ⟨sa, hsa⟩ := hT.2.1 (137, "no such site or place") (by decide +kernel)
    subst hQ
    exact vx_throwS (A := (fun q => b ≤ q)) (own := RX3) (cls := "java/lang/IndexOutOfBoundsException") (text := "no such site or place") (names := exN) hx hb hlt hown (by decide +kernel) (by decide +kernel) (hts (.classLink RX3 135 "java/lang/IndexOutOfBoundsException") (by decide +kernel)) (hts (.initialized "java/lang/IndexOutOfBoundsException") (by decide +kernel)) hsa (th_hat hT (fun w h => hts w (List.mem_cons_of_mem _ (List.mem_append_left _ (List.mem_append_left _ (List.mem_append_left _ (List.mem_append_left _ (List.mem_append_right _ h))))))) th_i4) (th_good th_i4) hT.2.2.2.1 hT.2.2.2.2 hS (hl.1.trans hml.symm) dX3_carve_14 dX3_carve_17 dX3_carve_18 dX3_carve_20 dX3_carve_23 (fun x h => (hnt x h).elim) (by decide) (Nat.le_of_ble_eq_true rfl) (Nat.le_of_ble_eq_true rfl) (Nat.le_of_ble_eq_true rfl) hlocks (fun t ha h1 h2 => ⟨(), trivial, ⟨(Or.inl rfl), hM.keep h2⟩, th_F hS h1 h2⟩) hS.2.2 (Nat.le_of_ble_eq_true rfl) (Nat.le_of_ble_eq_true rfl)
  · skip
    have hl : lv_has ls 7 [(0, .ref o), (1, .int (nI j7)), (2, .int (nI jx9)), (3, .int (nI jy10)), (4, .int ms)] := hl
    refine lv_astore (lv' := [(5, .ref a8), (0, .ref o), (1, .int (nI j7)), (2, .int (nI jx9)), (3, .int (nI jy10)), (4, .int ms)]) hx hb dX3_carve_7 hl (by decide) rfl (fun ls hl => ?_)
    refine lv_aload hx hb dX3_carve_9 (lv_at hl 0 rfl) ?_
    refine lv_ifnonnull (tgt := 24) hx hb dX3_carve_11 (by decide) ?_
    refine lv_iload hx hb dX3_carve_24 (lv_at hl 5 rfl) ?_
    refine lv_iconst (v := 0) hx hb dX3_carve_26 (by decide) ?_
    refine lv_sipush (v := 200) hx hb dX3_carve_27 (by decide) ?_
    refine va_calli (va_runS (As := [.int ms, .int 0, .int 200]) (rest := []) ⟨hx, hb, hml, hown, hts⟩ (rk_isWithin l ms 0 200 (0) (200) (by decide) (by decide)) (va_cwS 3 hts gX3_carve_X3_isWithin rfl rfl rfl (by decide +kernel) ⟨Nat.le_of_ble_eq_true rfl, Nat.le_of_ble_eq_true rfl⟩) ⟨fun a U g mk q => q, fun U hU hW => ⟨rfl, trivial⟩⟩ rfl rfl hl.1 rfl (lv_room (Nat.le_of_ble_eq_true rfl)) dX3_carve_30 ⟨(Nat.le_of_ble_eq_true rfl), (Nat.le_of_ble_eq_true rfl)⟩) hS (fun q _ h => h.elim) (fun q h => h.elim) (fun r15 u t H locs ht hvm hw16 hB hz1 hk1 hS => ?_)
    have hM := hM.keep (fun p hp => hk1 p hp (fun z => z))
    have hw16 : r15 = bI ((0 : Int) ≤ ms.toInt ∧ ms.toInt ≤ (200 : Int)) := hw16
    refine lv_if_ne (tgt := 47) hx hb dX3_carve_33 (by decide) (fun c17 => ?_) (fun c17 => ?_)
    · skip
      have g18 : (0 : Int) ≤ ms.toInt ∧ ms.toInt ≤ (200 : Int) := bI_t hw16 c17
      have zg18 : r15 = 1 := bI_t1 hw16 g18
      refine lv_iload_n hx hb dX3_carve_47 rfl (lv_at hl 3 rfl) ?_
      refine lv_iload_n hx hb dX3_carve_48 rfl (lv_at hl 4 rfl) ?_
      refine va_calli (va_runS (As := [.int (nI jx9), .int (nI jy10)]) (rest := []) ⟨hx, hb, hml, hown, hts⟩ (rk_placeOf l (nI jx9) (nI jy10)) (va_cwS 2 hts gX3_carve_X3_placeOf rfl rfl rfl (by decide +kernel) ⟨Nat.le_of_ble_eq_true rfl, Nat.le_of_ble_eq_true rfl⟩) ⟨fun a U g mk q => q, fun U hU hW => ⟨rfl, trivial⟩⟩ rfl rfl hl.1 rfl (lv_room (Nat.le_of_ble_eq_true rfl)) dX3_carve_49 ⟨(Nat.le_of_ble_eq_true rfl), (Nat.le_of_ble_eq_true rfl)⟩) hS (fun q _ h => h.elim) (fun q h => h.elim) (fun r19 u t H locs ht hvm hw20 hB hz1 hk1 hS => ?_)
      have hM := hM.keep (fun p hp => hk1 p hp (fun z => z))
      obtain rfl : r19 = nI (8 * jy10 + jx9) := hw20.trans (by rw [show (8 : Int32) = nI 8 from rfl]; exact (congrArg (· + nI jx9) (pk_mul 8 jy10)).trans (nI_add _ _))
      refine lv_istore (lv' := [(6, .int (nI (8 * jy10 + jx9))), (5, .ref a8), (0, .ref o), (1, .int (nI j7)), (2, .int (nI jx9)), (3, .int (nI jy10)), (4, .int ms)]) hx hb dX3_carve_52 hl (by decide) rfl (fun ls hl => ?_)
      refine lv_aload hx hb dX3_carve_54 (lv_at hl 1 rfl) ?_
      refine lv_iload hx hb dX3_carve_56 (lv_at hl 0 rfl) ?_
      obtain ⟨u21, u22, u23, u24, u25, u26, hP, hf⟩ := o_st (i := j7) (q := a8) hM (by omega)
      refine va_calli (va_runV (As := [.int (nI (8 * jy10 + jx9))]) (rest := []) ⟨hx, hb, hml, hown, hts⟩ (rk_has l dC dI kA eD b g a8 j7 (nI (8 * jy10 + jx9)) (by omega)) (cwV 1 hts gX3_carve_X1_has rfl rfl rfl (by decide +kernel) ⟨Nat.le_of_ble_eq_true rfl, Nat.le_of_ble_eq_true rfl⟩) ⟨fb_CX, va_recv hK hP (ci := 5) (q0 := 0) rfl rfl, fun U hU hW => ⟨rfl, CX.give hb0 hM hK hG hE hS hU hW⟩⟩ rfl rfl hl.1 rfl (lv_room (Nat.le_of_ble_eq_true rfl)) dX3_carve_58 ⟨(Nat.le_of_ble_eq_true rfl), (Nat.le_of_ble_eq_true rfl)⟩) hS (fun q _ h => h) (fun q h => h) (fun r27 u t H locs ht hvm hw28 hB hz1 hk1 hS => ?_)
      have hM := hB.back ht
      have hG := hB.2.2.2.1
      refine lv_if_ne (tgt := 74) hx hb dX3_carve_61 (by decide) (fun c29 => ?_) (fun c29 => ?_)
      · skip
        obtain ⟨-, hr1, hr2⟩ := hw28.resolve_left c29
        refine lv_aload hx hb dX3_carve_74 (lv_at hl 1 rfl) ?_
        obtain ⟨u30, u31, u32, u33, u34, u35, hP, hf⟩ := o_st (i := j7) (q := a8) hM (by omega)
        refine va_get (D := (dC, dI)) (ci := 5) (v := .int u33) (C := RX1) (T := TX1) (N := 15) hx hb hts (by decide +kernel) hown hK hP 0 rfl rfl 12 (by decide) (hts (.fieldLink RX3 274 "Snowpalace$Site" "carvedHours" "I") (by decide +kernel)) (fun _ h9 => h9) rfl dX3_carve_76 ?_
        refine lv_bipush (v := 60) hx hb dX3_carve_79 (by decide) ?_
        refine lv_icmp_lt (tgt := 95) hx hb dX3_carve_81 (by decide) (fun c36 => ?_) (fun c36 => ?_)
        · skip
          have i37 := (Int32.lt_iff_toInt_lt).mp c36
          have ii37 : (60 : Int32).toInt = 60 := by decide
          have i37 := i37
          refine lv_iload hx hb dX3_carve_95 (lv_at hl 6 rfl) ?_
          have jn38 : ∀  (H : Heap) (locs : List Loc) (ls : Array Slot), TM (dC, dI) kA b g H → va_S (fun q => b ≤ q) s.heap H locs → lv_has ls 7 [(6, .int (nI (8 * jy10 + jx9))), (5, .ref a8), (0, .ref o), (1, .int (nI j7)), (2, .int (nI jx9)), (3, .int (nI jy10)), (4, .int ms)] → W p l e (headSpec wzX3_carve ({ frames := 6, cells := 1, slots := 6, locals := 137 })).room s m args below meth c H locs 0 0 Q (F0 m 127 ls []) := by
            intro H locs ls hM hS hl
            refine lv_aload hx hb dX3_carve_127 (lv_at hl 1 rfl) ?_
            refine lv_dup hx hb dX3_carve_129 rfl ?_
            obtain ⟨u39, u40, u41, u42, u43, u44, hP, hf⟩ := o_st (i := j7) (q := a8) hM (by omega)
            refine va_get (D := (dC, dI)) (ci := 5) (v := .int u42) (C := RX1) (T := TX1) (N := 15) hx hb hts (by decide +kernel) hown hK hP 0 rfl rfl 12 (by decide) (hts (.fieldLink RX3 274 "Snowpalace$Site" "carvedHours" "I") (by decide +kernel)) (fun _ h9 => h9) rfl dX3_carve_130 ?_
            refine lv_iconst (v := 1) hx hb dX3_carve_133 (by decide) ?_
            refine lv_iadd hx hb dX3_carve_134 ?_
            refine lv_topi (fun v45 e46 => ?_)
            obtain ⟨u47, u48, u49, u50, u51, u52, hP, hf⟩ := o_st (i := j7) (q := a8) hM (by omega)
            refine rt_put (D := (dC, dI)) (ci := 5) (v := .int v45) (ty := .int) (C := RX1) (T := TX1) (N := 15) hx hb hts (by decide +kernel) tyX1 tyX1_ok nmX1 hown hK hP (hM.ge (by omega)) hS rfl 12 (by decide) (hts (.fieldLink RX3 274 "Snowpalace$Site" "carvedHours" "I") (by decide +kernel)) (fun _ h9 => h9) rfl (by decide +kernel) rfl rfl (Nat.le_of_ble_eq_true rfl) dX3_carve_135 (fun H locs hP hz ho hS => ?_)
            have hM := s_st (i := j7) hM (by omega) hP ho hf
            refine lv_iload hx hb dX3_carve_138 (lv_at hl 6 rfl) ?_
            have jn53 : ∀  (H : Heap) (locs : List Loc) (ls : Array Slot), TM (dC, dI) kA b g H → va_S (fun q => b ≤ q) s.heap H locs → lv_has ls 7 [(6, .int (nI (8 * jy10 + jx9))), (5, .ref a8), (0, .ref o), (1, .int (nI j7)), (2, .int (nI jx9)), (3, .int (nI jy10)), (4, .int ms)] → W p l e (headSpec wzX3_carve ({ frames := 6, cells := 1, slots := 6, locals := 137 })).room s m args below meth c H locs 0 0 Q (F0 m 166 ls []) := by
              intro H locs ls hM hS hl
              refine lv_aload_n hx hb dX3_carve_166 rfl (lv_at hl 2 rfl) ?_
              refine lv_aload hx hb dX3_carve_167 (lv_at hl 1 rfl) ?_
              obtain ⟨u54, u55, u56, u57, hP, hf⟩ := o_sno (i := 0) (q := o) hM (by omega)
              refine va_calli (va_runV (As := [.ref a8]) (rest := []) ⟨hx, hb, hml, hown, hts⟩ (rk_letFall l dC dI kA eD b g o a8 j7 (by omega) (by omega)) (cwV 1 hts gX3_carve_X3_letFall rfl rfl rfl (by decide +kernel) ⟨Nat.le_of_ble_eq_true rfl, Nat.le_of_ble_eq_true rfl⟩) ⟨fb_CX, va_recv hK hP (ci := 7) (q0 := 0) rfl rfl, fun U hU hW => ⟨rfl, CX.give hb0 hM hK hG hE hS hU hW⟩⟩ rfl rfl hl.1 rfl (lv_room (Nat.le_of_ble_eq_true rfl)) dX3_carve_169 ⟨(Nat.le_of_ble_eq_true rfl), (Nat.le_of_ble_eq_true rfl)⟩) hS (fun q _ h => h) (fun q h => h) (fun r58 u t H locs ht hvm hw59 hB hz1 hk1 hS => ?_)
              have hM := hB.back ht
              have hG := hB.2.2.2.1
              subst hQ
              refine vx_ret ?_
              refine W.widen (k := 1) (n := 6) (Nat.le_of_ble_eq_true rfl) (Nat.le_of_ble_eq_true rfl) ?_
              exact W.iret (v := r58) hx hb hr (fun t ht hW => ⟨⟨r58, (), rfl, trivial, CX.give hb0 hM hK hG hE hS ht hW⟩, hS.F ht⟩) hS.2.2 dX3_carve_172
            refine lv_if_le (tgt := 159) hx hb dX3_carve_140 (by decide) (fun c60 => ?_) (fun c60 => ?_)
            · skip
              have i61 := (Int32.le_iff_toInt_le).mp c60
              have ii61 : (0 : Int32).toInt = 0 := by decide
              have i61 := i61
              refine lv_aload hx hb dX3_carve_159 (lv_at hl 1 rfl) ?_
              refine lv_iload hx hb dX3_carve_161 (lv_at hl 0 rfl) ?_
              obtain ⟨u62, u63, u64, u65, u66, u67, hP, hf⟩ := o_st (i := j7) (q := a8) hM (by omega)
              refine va_callv (va_runV (As := [.int (nI (8 * jy10 + jx9))]) (rest := []) ⟨hx, hb, hml, hown, hts⟩ (rk_removeCell l dC dI kA eD b g a8 j7 (nI (8 * jy10 + jx9)) (by omega)) (cwV 1 hts gX3_carve_X1_removeCell rfl rfl rfl (by decide +kernel) ⟨Nat.le_of_ble_eq_true rfl, Nat.le_of_ble_eq_true rfl⟩) ⟨fb_CX, va_recv hK hP (ci := 5) (q0 := 0) rfl rfl, fun U hU hW => ⟨rfl, CX.give hb0 hM hK hG hE hS hU hW⟩⟩ rfl rfl hl.1 rfl (lv_room (Nat.le_of_ble_eq_true rfl)) dX3_carve_163 ⟨(Nat.le_of_ble_eq_true rfl), (Nat.le_of_ble_eq_true rfl)⟩) hS (fun q _ h => h) (fun q h => h) (fun u t H locs ht hvm hw69 hB hz1 hk1 hS => ?_)
              have hM := hB.back ht
              have hG := hB.2.2.2.1
              exact jn53 H _ ls hM hS (lv_sub hl [0, 1, 2, 3, 4, 5, 6] rfl)
            · skip
              have i70 := fun z => c60 ((Int32.le_iff_toInt_le).mpr z)
              have ii70 : (0 : Int32).toInt = 0 := by decide
              have i70 : ¬ ((ms : Int32).toInt ≤ (0 : Int32).toInt) := i70
              refine lv_aload hx hb dX3_carve_143 (lv_at hl 1 rfl) ?_
              obtain ⟨u71, u72, u73, u74, u75, u76, hP, hf⟩ := o_st (i := j7) (q := a8) hM (by omega)
              refine va_get (D := (dC, dI)) (ci := 5) (v := .ref (pF g a8 1)) (C := RX1) (T := TX1) (N := 15) hx hb hts (by decide +kernel) hown hK hP 0 rfl rfl 1 (by decide) (hts (.fieldLink RX3 185 "Snowpalace$Site" "masses" "[I") (by decide +kernel)) (fun _ h9 => h9) rfl dX3_carve_145 ?_
              have ht77 : tg g (pF g a8 1) = 14 := hf.2.1
              refine lv_iload hx hb dX3_carve_148 (lv_at hl 0 rfl) ?_
              refine lv_dup2_11 hx hb dX3_carve_150 rfl rfl ?_
              obtain ⟨u78, hP, hf⟩ := o_in (i := 0) (q := (pF g a8 1)) hM (by omega)
              refine va_iald (D := (dC, dI)) hx hb hK hP 0 0 rfl rfl (vp_in_nI (by omega) (by decide)) dX3_carve_151 ?_
              refine lv_topi (fun v79 e80 => ?_)
              have ec : ((nI (8 * jy10 + jx9)) : Int32).toNatClampNeg = (8 * jy10 + jx9) := nI_clamp (by omega)
              rw [ec] at e80
              refine lv_iload hx hb dX3_carve_152 (lv_at hl 6 rfl) ?_
              refine lv_isub hx hb dX3_carve_154 ?_
              refine lv_topi (fun v81 e82 => ?_)
              obtain ⟨u83, hP, hf⟩ := o_in (i := 0) (q := (pF g a8 1)) hM (by omega)
              refine rt_iast (D := (dC, dI)) (t0 := 0) hx hb hK hP (hM.ge (by omega)) hS rfl (vp_in_nI (by omega) (by decide)) dX3_carve_155 (fun H locs hP hz ho hS => ?_)
              have ec : ((nI (8 * jy10 + jx9)) : Int32).toNatClampNeg = (8 * jy10 + jx9) := nI_clamp (by omega)
              rw [ec] at hP
              have hM := s_in (i := 0) hM (by omega) hP ho hf
              refine lv_goto (tgt := 166) hx hb dX3_carve_156 (by decide) ?_
              exact jn53 H _ ls hM hS (lv_sub hl [0, 1, 2, 3, 4, 5, 6] rfl)
          refine lv_if_le (tgt := 127) hx hb dX3_carve_97 (by decide) (fun c84 => ?_) (fun c84 => ?_)
          · skip
            have i85 := (Int32.le_iff_toInt_le).mp c84
            have ii85 : (0 : Int32).toInt = 0 := by decide
            have i85 := i85
            exact jn38 H _ ls hM hS (lv_sub hl [0, 1, 2, 3, 4, 5, 6] rfl)
          · skip
            have i86 := fun z => c84 ((Int32.le_iff_toInt_le).mpr z)
            have ii86 : (0 : Int32).toInt = 0 := by decide
            have i86 : ¬ ((ms : Int32).toInt ≤ (0 : Int32).toInt) := i86
            refine lv_aload hx hb dX3_carve_100 (lv_at hl 1 rfl) ?_
            obtain ⟨u87, u88, u89, u90, u91, u92, hP, hf⟩ := o_st (i := j7) (q := a8) hM (by omega)
            refine va_get (D := (dC, dI)) (ci := 5) (v := .ref (pF g a8 1)) (C := RX1) (T := TX1) (N := 15) hx hb hts (by decide +kernel) hown hK hP 0 rfl rfl 1 (by decide) (hts (.fieldLink RX3 185 "Snowpalace$Site" "masses" "[I") (by decide +kernel)) (fun _ h9 => h9) rfl dX3_carve_102 ?_
            have ht93 : tg g (pF g a8 1) = 14 := hf.2.1
            refine lv_iload hx hb dX3_carve_105 (lv_at hl 0 rfl) ?_
            obtain ⟨u94, hP, hf⟩ := o_in (i := 0) (q := (pF g a8 1)) hM (by omega)
            refine va_iald (D := (dC, dI)) hx hb hK hP 0 0 rfl rfl (vp_in_nI (by omega) (by decide)) dX3_carve_107 ?_
            refine lv_topi (fun v95 e96 => ?_)
            have ec : ((nI (8 * jy10 + jx9)) : Int32).toNatClampNeg = (8 * jy10 + jx9) := nI_clamp (by omega)
            rw [ec] at e96
            refine lv_iload hx hb dX3_carve_108 (lv_at hl 6 rfl) ?_
            refine lv_isub hx hb dX3_carve_110 ?_
            refine lv_topi (fun v97 e98 => ?_)
            refine lv_bipush (v := 100) hx hb dX3_carve_111 (by decide) ?_
            refine lv_icmp_gt (tgt := 127) hx hb dX3_carve_113 (by decide) (fun c99 => ?_) (fun c99 => ?_)
            · skip
              have i100 := (Int32.lt_iff_toInt_lt).mp c99
              have ii100 : (100 : Int32).toInt = 100 := by decide
              have i100 := i100
              exact jn38 H _ ls hM hS (lv_sub hl [0, 1, 2, 3, 4, 5, 6] rfl)
            · skip
              have i101 := fun z => c99 ((Int32.lt_iff_toInt_lt).mpr z)
              have ii101 : (100 : Int32).toInt = 100 := by decide
              have i101 : ¬ ((100 : Int32).toInt < (v97 : Int32).toInt) := i101
              obtain ⟨sa, hsa⟩ := hT.2.1 (279, "too little would be left") (by decide +kernel)
              subst hQ
              exact vx_throwSW (A := (fun q => b ≤ q)) (own := RX3) (cls := "java/lang/UnsupportedOperationException") (text := "too little would be left") (names := exN) hx hb hlt hown (by decide +kernel) (by decide +kernel) (hts (.classLink RX3 63 "java/lang/UnsupportedOperationException") (by decide +kernel)) (hts (.initialized "java/lang/UnsupportedOperationException") (by decide +kernel)) hsa (th_hat hT (fun w h => hts w (List.mem_cons_of_mem _ (List.mem_append_right _ h))) th_i2) (th_good th_i2) hT.2.2.2.1 hT.2.2.2.2 hS (hl.1.trans hml.symm) dX3_carve_116 dX3_carve_119 dX3_carve_120 dX3_carve_123 dX3_carve_126 (fun x h => (hnt x h).elim) (by decide) (Nat.le_of_ble_eq_true rfl) (Nat.le_of_ble_eq_true rfl) (Nat.le_of_ble_eq_true rfl) hlocks (fun t ha h1 h2 => ⟨(), trivial, ⟨(Or.inr (Or.inr (Or.inr (Or.inr rfl)))), hM.keep h2⟩, th_F hS h1 h2⟩) hS.2.2 (Nat.le_of_ble_eq_true rfl) (Nat.le_of_ble_eq_true rfl)
        · skip
          have i102 := fun z => c36 ((Int32.lt_iff_toInt_lt).mpr z)
          have ii102 : (60 : Int32).toInt = 60 := by decide
          have i102 : ¬ ((u33 : Int32).toInt < (60 : Int32).toInt) := i102
          obtain ⟨sa, hsa⟩ := hT.2.1 (277, "60 hours were carved") (by decide +kernel)
          subst hQ
          exact vx_throwSW (A := (fun q => b ≤ q)) (own := RX3) (cls := "java/lang/IllegalStateException") (text := "60 hours were carved") (names := exN) hx hb hlt hown (by decide +kernel) (by decide +kernel) (hts (.classLink RX3 92 "java/lang/IllegalStateException") (by decide +kernel)) (hts (.initialized "java/lang/IllegalStateException") (by decide +kernel)) hsa (th_hat hT (fun w h => hts w (List.mem_cons_of_mem _ (List.mem_append_left _ (List.mem_append_left _ (List.mem_append_right _ h))))) th_i3) (th_good th_i3) hT.2.2.2.1 hT.2.2.2.2 hS (hl.1.trans hml.symm) dX3_carve_84 dX3_carve_87 dX3_carve_88 dX3_carve_91 dX3_carve_94 (fun x h => (hnt x h).elim) (by decide) (Nat.le_of_ble_eq_true rfl) (Nat.le_of_ble_eq_true rfl) (Nat.le_of_ble_eq_true rfl) hlocks (fun t ha h1 h2 => ⟨(), trivial, ⟨(Or.inr (Or.inr (Or.inr (Or.inl rfl)))), hM.keep h2⟩, th_F hS h1 h2⟩) hS.2.2 (Nat.le_of_ble_eq_true rfl) (Nat.le_of_ble_eq_true rfl)
      · skip
        obtain ⟨sa, hsa⟩ := hT.2.1 (182, "no cell is there") (by decide +kernel)
        subst hQ
        exact rt_throwSX (A := (fun q => b ≤ q)) (own := RX3) (cls := "java/util/NoSuchElementException") (text := "no cell is there") (names := exN) (ix := 13) (rx := prog_38_method_4_code) hx hb hlt rx13_0 rx13_1 rx13_2 rx13_5 hown (by decide +kernel) (by decide +kernel) (hts (.classLink RX3 180 "java/util/NoSuchElementException") (by decide +kernel)) hE.2.2.2.2.2.2.2.2.ini hsa hE.2.2.2.2.2.2.2.2.hat nse_good hT.2.2.2.1 hT.2.2.2.2 hS (hl.1.trans hml.symm) dX3_carve_64 dX3_carve_67 dX3_carve_68 dX3_carve_70 dX3_carve_73 (fun x h => (hnt x h).elim) (by decide) (Nat.le_of_ble_eq_true rfl) (Nat.le_of_ble_eq_true rfl) (Nat.le_of_ble_eq_true rfl) hlocks (fun t ha h1 h2 => ⟨(), trivial, ⟨(Or.inr (Or.inr (Or.inl rfl))), hM.keep h2⟩, th_F hS h1 h2⟩) hS.2.2 (Nat.le_of_ble_eq_true rfl) (Nat.le_of_ble_eq_true rfl)
    · skip
      have g103 : ¬ ((0 : Int) ≤ ms.toInt ∧ ms.toInt ≤ (200 : Int)) := bI_f hw16 c17
      have zg103 : r15 = 0 := bI_f0 hw16 g103
      obtain ⟨sa, hsa⟩ := hT.2.1 (272, "the mass is out of range") (by decide +kernel)
      subst hQ
      exact vx_throwSW (A := (fun q => b ≤ q)) (own := RX3) (cls := "java/lang/IllegalArgumentException") (text := "the mass is out of range") (names := exN) hx hb hlt hown (by decide +kernel) (by decide +kernel) (hts (.classLink RX3 56 "java/lang/IllegalArgumentException") (by decide +kernel)) (hts (.initialized "java/lang/IllegalArgumentException") (by decide +kernel)) hsa (th_hat hT (fun w h => hts w (List.mem_cons_of_mem _ (List.mem_append_left _ (List.mem_append_left _ (List.mem_append_left _ (List.mem_append_right _ h)))))) th_i1) (th_good th_i1) hT.2.2.2.1 hT.2.2.2.2 hS (hl.1.trans hml.symm) dX3_carve_36 dX3_carve_39 dX3_carve_40 dX3_carve_43 dX3_carve_46 (fun x h => (hnt x h).elim) (by decide) (Nat.le_of_ble_eq_true rfl) (Nat.le_of_ble_eq_true rfl) (Nat.le_of_ble_eq_true rfl) hlocks (fun t ha h1 h2 => ⟨(), trivial, ⟨(Or.inr (Or.inl rfl)), hM.keep h2⟩, th_F hS h1 h2⟩) hS.2.2 (Nat.le_of_ble_eq_true rfl) (Nat.le_of_ble_eq_true rfl)

set_option maxHeartbeats 4000000 in
set_option maxRecDepth 100000 in
theorem rf_mark (l : Launch) (hlt : l.stackTraces = false) (dC : Nat → ClassId) (dI : Nat → Nat → Nat) (kA : Nat → ClassId) (eD b : Nat) (g : Gh) (o : Nat) (site : Int32) (hto : tg g o = 1)  : vx_Met l yX3_mark wzX3_mark ({ frames := 6, cells := 1, slots := 6, locals := 82 }) (va_Pc [.ref o, .int site] (CX (dC, dI) kA eD b g)) (va_Qd (fun (r : UInt64) (u : Unit) => True) (fun (u : Unit) t => CX (dC, dI) kA eD b g t) (fun q => b ≤ q)) (vx_X (fun _ : Unit => True) (fun E _ t => (E = "java/lang/IndexOutOfBoundsException" ∨ E = "java/util/NoSuchElementException") ∧ TM (dC, dI) kA b g t.heap) (fun q => b ≤ q)) 1 6 (fun q => b ≤ q) := by
  refine vx_ofW (cc := cX3_mark) (maxL := 3) (ret := (some .double)) (by decide +kernel) rfl ?_
  intro p e s m args below meth c s₁ B hml hnt hv
  obtain ⟨rfl, hb0, hM, hK, hG, hE⟩ := hv
  have hx := B.exec
  have hb := B.bytes
  have hr := B.returns
  have hts := atoms_spec (ws := wzX3_mark) B.pre
  have hown : s.vm.findClass RX3 = some m.cls := findClass_of_methodNamed B.named
  have hlocks := B.notSynchronized
  have hT := hE.1
  have hN := hE.2.2.2.2.2.2.2.1
  have hS : va_S (fun q => b ≤ q) s.heap s.heap [] := va_S.rf
  have hl := lv_entry ([.ref o, .int site]) (n := 3) (Nat.le_of_ble_eq_true rfl)
  rw [lg_entry_eq]
  generalize (lg_sl ([.ref o, .int site]) ++ List.replicate (3 - (lg_sl ([.ref o, .int site])).length) Slot.unset).toArray = ls at hl ⊢
  have hl : lv_has ls 3 [(0, .ref o), (1, .int site)] := hl
  generalize ([.ref o, .int site] : List Value).toArray = args at hts ⊢
  refine lv_aload_n hx hb dX3_mark_0 rfl (lv_at hl 0 rfl) ?_
  refine lv_iload_n hx hb dX3_mark_1 rfl (lv_at hl 1 rfl) ?_
  obtain ⟨u1, u2, u3, u4, hP, hf⟩ := o_sno (i := 0) (q := o) hM (by omega)
  refine va_callq (va_runV (As := [.int site]) (rest := []) ⟨hx, hb, hml, hown, hts⟩ (rk_numberedSite l dC dI kA eD b g o site (by omega)) (cwV 1 hts gX3_mark_X3_numberedSite rfl rfl rfl (by decide +kernel) ⟨Nat.le_of_ble_eq_true rfl, Nat.le_of_ble_eq_true rfl⟩) ⟨fb_CX, va_recv hK hP (ci := 7) (q0 := 0) rfl rfl, fun U hU hW => ⟨rfl, CX.give hb0 hM hK hG hE hS hU hW⟩⟩ rfl rfl hl.1 rfl (lv_room (Nat.le_of_ble_eq_true rfl)) dX3_mark_2 ⟨(Nat.le_of_ble_eq_true rfl), (Nat.le_of_ble_eq_true rfl)⟩) hS (fun q _ h => h) (fun q h => h) (fun r5 u t H locs ht hvm hw6 hB hz1 hk1 hS => ?_)
  have hM := hB.back ht
  have hG := hB.2.2.2.1
  rcases hw6 with ⟨rfl, hn12⟩ | ⟨j7, a8, rfl, hs9, hj11, ho9, ht10⟩
  · skip
    refine lv_astore_nN (lv' := [(2, .null), (0, .ref o), (1, .int site)]) hx hb dX3_mark_5 rfl hl (by decide) rfl (fun ls hl => ?_)
    refine lv_aload_nN hx hb dX3_mark_6 rfl (lv_at hl 0 rfl) ?_
    refine lv_ifnonnullN hx hb dX3_mark_7 ?_
    obtain ⟨sa, hsa⟩ := hT.2.1 (211, "no such site") (by decide +kernel)
    exact vx_throwS (A := (fun q => b ≤ q)) (own := RX3) (cls := "java/lang/IndexOutOfBoundsException") (text := "no such site") (names := exN) hx hb hlt hown (by decide +kernel) (by decide +kernel) (hts (.classLink RX3 135 "java/lang/IndexOutOfBoundsException") (by decide +kernel)) (hts (.initialized "java/lang/IndexOutOfBoundsException") (by decide +kernel)) hsa (th_hat hT (fun w h => hts w (List.mem_cons_of_mem _ (List.mem_append_right _ h))) th_i4) (th_good th_i4) hT.2.2.2.1 hT.2.2.2.2 hS (hl.1.trans hml.symm) dX3_mark_10 dX3_mark_13 dX3_mark_14 dX3_mark_16 dX3_mark_19 (fun x h => (hnt x h).elim) (by decide) (Nat.le_of_ble_eq_true rfl) (Nat.le_of_ble_eq_true rfl) (Nat.le_of_ble_eq_true rfl) hlocks (fun t ha h1 h2 => ⟨(), trivial, ⟨(Or.inl rfl), hM.keep h2⟩, th_F hS h1 h2⟩) hS.2.2 (Nat.le_of_ble_eq_true rfl) (Nat.le_of_ble_eq_true rfl)
  · skip
    subst hs9
    have hl : lv_has ls 3 [(0, .ref o), (1, .int (nI j7))] := hl
    refine lv_astore_n (lv' := [(2, .ref a8), (0, .ref o), (1, .int (nI j7))]) hx hb dX3_mark_5 rfl hl (by decide) rfl (fun ls hl => ?_)
    refine lv_aload_n hx hb dX3_mark_6 rfl (lv_at hl 0 rfl) ?_
    refine lv_ifnonnull (tgt := 20) hx hb dX3_mark_7 (by decide) ?_
    refine lv_aload_n hx hb dX3_mark_20 rfl (lv_at hl 0 rfl) ?_
    obtain ⟨u13, u14, u15, u16, u17, u18, hP, hf⟩ := o_st (i := j7) (q := a8) hM (by omega)
    refine va_get (D := (dC, dI)) (ci := 5) (v := .int u17) (C := RX1) (T := TX1) (N := 15) hx hb hts (by decide +kernel) hown hK hP 0 rfl rfl 13 (by decide) (hts (.fieldLink RX3 293 "Snowpalace$Site" "judged" "Z") (by decide +kernel)) (fun _ h9 => h9) rfl dX3_mark_21 ?_
    refine lv_if_ne (tgt := 38) hx hb dX3_mark_24 (by decide) (fun c19 => ?_) (fun c19 => ?_)
    · skip
      refine lv_aload_n hx hb dX3_mark_38 rfl (lv_at hl 0 rfl) ?_
      obtain ⟨u20, u21, u22, u23, u24, u25, hP, hf⟩ := o_st (i := j7) (q := a8) hM (by omega)
      refine va_get (D := (dC, dI)) (ci := 5) (v := .double u25) (C := RX1) (T := TX1) (N := 15) hx hb hts (by decide +kernel) hown hK hP 0 rfl rfl 14 (by decide) (hts (.fieldLink RX3 289 "Snowpalace$Site" "lastMark" "D") (by decide +kernel)) (fun _ h9 => h9) rfl dX3_mark_39 ?_
      refine vx_ret ?_
      refine W.widen (k := 1) (n := 6) (Nat.le_of_ble_eq_true rfl) (Nat.le_of_ble_eq_true rfl) ?_
      exact W.dret (v := u25) hx hb hr (fun t ht hW => ⟨⟨u25, (), rfl, trivial, CX.give hb0 hM hK hG hE hS ht hW⟩, hS.F ht⟩) hS.2.2 dX3_mark_42
    · skip
      obtain ⟨sa, hsa⟩ := hT.2.1 (296, "it was not judged") (by decide +kernel)
      exact rt_throwSWX (A := (fun q => b ≤ q)) (own := RX3) (cls := "java/util/NoSuchElementException") (text := "it was not judged") (names := exN) (ix := 13) (rx := prog_38_method_4_code) hx hb hlt rx13_0 rx13_1 rx13_2 rx13_5 hown (by decide +kernel) (by decide +kernel) (hts (.classLink RX3 180 "java/util/NoSuchElementException") (by decide +kernel)) hE.2.2.2.2.2.2.2.2.ini hsa hE.2.2.2.2.2.2.2.2.hat nse_good hT.2.2.2.1 hT.2.2.2.2 hS (hl.1.trans hml.symm) dX3_mark_27 dX3_mark_30 dX3_mark_31 dX3_mark_34 dX3_mark_37 (fun x h => (hnt x h).elim) (by decide) (Nat.le_of_ble_eq_true rfl) (Nat.le_of_ble_eq_true rfl) (Nat.le_of_ble_eq_true rfl) hlocks (fun t ha h1 h2 => ⟨(), trivial, ⟨(Or.inr rfl), hM.keep h2⟩, th_F hS h1 h2⟩) hS.2.2 (Nat.le_of_ble_eq_true rfl) (Nat.le_of_ble_eq_true rfl)

set_option maxHeartbeats 4000000 in
set_option maxRecDepth 100000 in
theorem rf_take (l : Launch) (hlt : l.stackTraces = false) (dC : Nat → ClassId) (dI : Nat → Nat → Nat) (kA : Nat → ClassId) (eD b : Nat) (g : Gh) (o : Nat) (site : Int32) (x : Int32) (y : Int32) (hto : tg g o = 1)  : vx_Met l yX3_take wzX3_take ({ frames := 6, cells := 1, slots := 6, locals := 116 }) (va_Pc [.ref o, .int site, .int x, .int y] (CX (dC, dI) kA eD b g)) (va_Qi (fun (r : Int32) (u : Unit) => True) (fun (u : Unit) t => CX (dC, dI) kA eD b g t) (fun q => b ≤ q)) (vx_X (fun _ : Unit => True) (fun E _ t => (E = "java/lang/IndexOutOfBoundsException" ∨ E = "java/util/NoSuchElementException" ∨ E = "java/lang/UnsupportedOperationException") ∧ TM (dC, dI) kA b g t.heap) (fun q => b ≤ q)) 1 6 (fun q => b ≤ q) := by
  refine vx_ofW (cc := cX3_take) (maxL := 7) (ret := (some .int)) (by decide +kernel) rfl ?_
  intro p e s m args below meth c s₁ B hml hnt hv
  obtain ⟨rfl, hb0, hM, hK, hG, hE⟩ := hv
  have hx := B.exec
  have hb := B.bytes
  have hr := B.returns
  have hts := atoms_spec (ws := wzX3_take) B.pre
  have hown : s.vm.findClass RX3 = some m.cls := findClass_of_methodNamed B.named
  have hlocks := B.notSynchronized
  have hT := hE.1
  have hN := hE.2.2.2.2.2.2.2.1
  have hS : va_S (fun q => b ≤ q) s.heap s.heap [] := va_S.rf
  have hl := lv_entry ([.ref o, .int site, .int x, .int y]) (n := 7) (Nat.le_of_ble_eq_true rfl)
  rw [lg_entry_eq]
  generalize (lg_sl ([.ref o, .int site, .int x, .int y]) ++ List.replicate (7 - (lg_sl ([.ref o, .int site, .int x, .int y])).length) Slot.unset).toArray = ls at hl ⊢
  have hl : lv_has ls 7 [(0, .ref o), (1, .int site), (2, .int x), (3, .int y)] := hl
  generalize ([.ref o, .int site, .int x, .int y] : List Value).toArray = args at hts ⊢
  refine lv_aload_n hx hb dX3_take_0 rfl (lv_at hl 0 rfl) ?_
  refine lv_iload_n hx hb dX3_take_1 rfl (lv_at hl 1 rfl) ?_
  refine lv_iload_n hx hb dX3_take_2 rfl (lv_at hl 2 rfl) ?_
  refine lv_iload_n hx hb dX3_take_3 rfl (lv_at hl 3 rfl) ?_
  obtain ⟨u1, u2, u3, u4, hP, hf⟩ := o_sno (i := 0) (q := o) hM (by omega)
  refine va_callq (va_runV (As := [.int site, .int x, .int y]) (rest := []) ⟨hx, hb, hml, hown, hts⟩ (rk_placedSite l dC dI kA eD b g o site x y (by omega)) (cwV 3 hts gX3_take_X3_placedSite rfl rfl rfl (by decide +kernel) ⟨Nat.le_of_ble_eq_true rfl, Nat.le_of_ble_eq_true rfl⟩) ⟨fb_CX, va_recv hK hP (ci := 7) (q0 := 0) rfl rfl, fun U hU hW => ⟨rfl, CX.give hb0 hM hK hG hE hS hU hW⟩⟩ rfl rfl hl.1 rfl (lv_room (Nat.le_of_ble_eq_true rfl)) dX3_take_4 ⟨(Nat.le_of_ble_eq_true rfl), (Nat.le_of_ble_eq_true rfl)⟩) hS (fun q _ h => h) (fun q h => h) (fun r5 u t H locs ht hvm hw6 hB hz1 hk1 hS => ?_)
  have hM := hB.back ht
  have hG := hB.2.2.2.1
  rcases hw6 with ⟨rfl, hn14⟩ | ⟨j7, a8, jx9, jy10, rfl, rfl, rfl, rfl, hjx9, hjy10, hj13, ho11, ht12⟩
  · skip
    refine lv_astoreN (lv' := [(4, .null), (0, .ref o), (1, .int site), (2, .int x), (3, .int y)]) hx hb dX3_take_7 hl (by decide) rfl (fun ls hl => ?_)
    refine lv_aloadN hx hb dX3_take_9 (lv_at hl 0 rfl) ?_
    refine lv_ifnonnullN hx hb dX3_take_11 ?_
    obtain ⟨sa, hsa⟩ := hT.2.1 (137, "no such site or place") (by decide +kernel)
    exact vx_throwS (A := (fun q => b ≤ q)) (own := RX3) (cls := "java/lang/IndexOutOfBoundsException") (text := "no such site or place") (names := exN) hx hb hlt hown (by decide +kernel) (by decide +kernel) (hts (.classLink RX3 135 "java/lang/IndexOutOfBoundsException") (by decide +kernel)) (hts (.initialized "java/lang/IndexOutOfBoundsException") (by decide +kernel)) hsa (th_hat hT (fun w h => hts w (List.mem_cons_of_mem _ (List.mem_append_left _ (List.mem_append_left _ (List.mem_append_right _ h))))) th_i4) (th_good th_i4) hT.2.2.2.1 hT.2.2.2.2 hS (hl.1.trans hml.symm) dX3_take_14 dX3_take_17 dX3_take_18 dX3_take_20 dX3_take_23 (fun x h => (hnt x h).elim) (by decide) (Nat.le_of_ble_eq_true rfl) (Nat.le_of_ble_eq_true rfl) (Nat.le_of_ble_eq_true rfl) hlocks (fun t ha h1 h2 => ⟨(), trivial, ⟨(Or.inl rfl), hM.keep h2⟩, th_F hS h1 h2⟩) hS.2.2 (Nat.le_of_ble_eq_true rfl) (Nat.le_of_ble_eq_true rfl)
  · skip
    have hl : lv_has ls 7 [(0, .ref o), (1, .int (nI j7)), (2, .int (nI jx9)), (3, .int (nI jy10))] := hl
    refine lv_astore (lv' := [(4, .ref a8), (0, .ref o), (1, .int (nI j7)), (2, .int (nI jx9)), (3, .int (nI jy10))]) hx hb dX3_take_7 hl (by decide) rfl (fun ls hl => ?_)
    refine lv_aload hx hb dX3_take_9 (lv_at hl 0 rfl) ?_
    refine lv_ifnonnull (tgt := 24) hx hb dX3_take_11 (by decide) ?_
    refine lv_iload_n hx hb dX3_take_24 rfl (lv_at hl 3 rfl) ?_
    refine lv_iload_n hx hb dX3_take_25 rfl (lv_at hl 4 rfl) ?_
    refine va_calli (va_runS (As := [.int (nI jx9), .int (nI jy10)]) (rest := []) ⟨hx, hb, hml, hown, hts⟩ (rk_placeOf l (nI jx9) (nI jy10)) (va_cwS 2 hts gX3_take_X3_placeOf rfl rfl rfl (by decide +kernel) ⟨Nat.le_of_ble_eq_true rfl, Nat.le_of_ble_eq_true rfl⟩) ⟨fun a U g mk q => q, fun U hU hW => ⟨rfl, trivial⟩⟩ rfl rfl hl.1 rfl (lv_room (Nat.le_of_ble_eq_true rfl)) dX3_take_26 ⟨(Nat.le_of_ble_eq_true rfl), (Nat.le_of_ble_eq_true rfl)⟩) hS (fun q _ h => h.elim) (fun q h => h.elim) (fun r15 u t H locs ht hvm hw16 hB hz1 hk1 hS => ?_)
    have hM := hM.keep (fun p hp => hk1 p hp (fun z => z))
    obtain rfl : r15 = nI (8 * jy10 + jx9) := hw16.trans (by rw [show (8 : Int32) = nI 8 from rfl]; exact (congrArg (· + nI jx9) (pk_mul 8 jy10)).trans (nI_add _ _))
    refine lv_istore (lv' := [(5, .int (nI (8 * jy10 + jx9))), (4, .ref a8), (0, .ref o), (1, .int (nI j7)), (2, .int (nI jx9)), (3, .int (nI jy10))]) hx hb dX3_take_29 hl (by decide) rfl (fun ls hl => ?_)
    refine lv_aload hx hb dX3_take_31 (lv_at hl 1 rfl) ?_
    refine lv_iload hx hb dX3_take_33 (lv_at hl 0 rfl) ?_
    obtain ⟨u17, u18, u19, u20, u21, u22, hP, hf⟩ := o_st (i := j7) (q := a8) hM (by omega)
    refine va_calli (va_runV (As := [.int (nI (8 * jy10 + jx9))]) (rest := []) ⟨hx, hb, hml, hown, hts⟩ (rk_has l dC dI kA eD b g a8 j7 (nI (8 * jy10 + jx9)) (by omega)) (cwV 1 hts gX3_take_X1_has rfl rfl rfl (by decide +kernel) ⟨Nat.le_of_ble_eq_true rfl, Nat.le_of_ble_eq_true rfl⟩) ⟨fb_CX, va_recv hK hP (ci := 5) (q0 := 0) rfl rfl, fun U hU hW => ⟨rfl, CX.give hb0 hM hK hG hE hS hU hW⟩⟩ rfl rfl hl.1 rfl (lv_room (Nat.le_of_ble_eq_true rfl)) dX3_take_35 ⟨(Nat.le_of_ble_eq_true rfl), (Nat.le_of_ble_eq_true rfl)⟩) hS (fun q _ h => h) (fun q h => h) (fun r23 u t H locs ht hvm hw24 hB hz1 hk1 hS => ?_)
    have hM := hB.back ht
    have hG := hB.2.2.2.1
    refine lv_if_ne (tgt := 51) hx hb dX3_take_38 (by decide) (fun c25 => ?_) (fun c25 => ?_)
    · skip
      obtain ⟨-, hr1, hr2⟩ := hw24.resolve_left c25
      refine lv_aload hx hb dX3_take_51 (lv_at hl 1 rfl) ?_
      refine lv_iload hx hb dX3_take_53 (lv_at hl 0 rfl) ?_
      refine lv_aload_n hx hb dX3_take_55 rfl (lv_at hl 2 rfl) ?_
      obtain ⟨u26, u27, u28, u29, hP, hf⟩ := o_sno (i := 0) (q := o) hM (by omega)
      refine va_get (D := (dC, dI)) (ci := 7) (v := .ref (pF g o 0)) (C := RX3) (T := TX3) (N := 10) hx hb hts (by decide +kernel) hown hK hP 0 rfl rfl 0 (by decide) (hts (.fieldLink RX3 10 "Snowpalace" "sky" "LSnowpalace$Sky;") (by decide +kernel)) (fun _ h9 => h9) rfl dX3_take_56 ?_
      have ht30 : tg g (pF g o 0) = 2 := hf.1
      refine lv_aload_n hx hb dX3_take_59 rfl (lv_at hl 2 rfl) ?_
      obtain ⟨u31, u32, u33, u34, hP, hf⟩ := o_sno (i := 0) (q := o) hM (by omega)
      refine va_get (D := (dC, dI)) (ci := 7) (v := .int (pI g o 1)) (C := RX3) (T := TX3) (N := 10) hx hb hts (by decide +kernel) hown hK hP 0 rfl rfl 4 (by decide) (hts (.fieldLink RX3 33 "Snowpalace" "clock" "I") (by decide +kernel)) (fun _ h9 => h9) rfl dX3_take_60 ?_
      have hv35 := hf.2.2.2.2.1
      obtain ⟨hP, hf⟩ := o_sky (i := 0) (q := (pF g o 0)) hM (by omega)
      refine va_calli (va_runV (As := [.int (pI g o 1)]) (rest := [.int (nI (8 * jy10 + jx9)), .ref a8]) ⟨hx, hb, hml, hown, hts⟩ (rk_warmthOf l dC dI kA eD b g (pF g o 0) (pI g o 1) (by omega)) (cwV 1 hts gX3_take_X2_warmthOf rfl rfl rfl (by decide +kernel) ⟨Nat.le_of_ble_eq_true rfl, Nat.le_of_ble_eq_true rfl⟩) ⟨fb_CX, va_recv hK hP (ci := 6) (q0 := 0) rfl rfl, fun U hU hW => ⟨rfl, CX.give hb0 hM hK hG hE hS hU hW⟩⟩ rfl rfl hl.1 rfl (lv_room (Nat.le_of_ble_eq_true rfl)) dX3_take_63 ⟨(Nat.le_of_ble_eq_true rfl), (Nat.le_of_ble_eq_true rfl)⟩) hS (fun q _ h => h) (fun q h => h) (fun r36 u t H locs ht hvm hw37 hB hz1 hk1 hS => ?_)
      have hM := hB.back ht
      have hG := hB.2.2.2.1
      obtain ⟨u38, u39, u40, u41, u42, u43, hP, hf⟩ := o_st (i := j7) (q := a8) hM (by omega)
      refine va_calli (va_runV (As := [.int (nI (8 * jy10 + jx9)), .int r36]) (rest := []) ⟨hx, hb, hml, hown, hts⟩ (rk_wouldFallWithout l dC dI kA eD b g a8 j7 (nI (8 * jy10 + jx9)) r36 (by omega)) (cwV 2 hts gX3_take_X1_wouldFallWithout rfl rfl rfl (by decide +kernel) ⟨Nat.le_of_ble_eq_true rfl, Nat.le_of_ble_eq_true rfl⟩) ⟨fb_CX, va_recv hK hP (ci := 5) (q0 := 0) rfl rfl, fun U hU hW => ⟨rfl, CX.give hb0 hM hK hG hE hS hU hW⟩⟩ rfl rfl hl.1 rfl (lv_room (Nat.le_of_ble_eq_true rfl)) dX3_take_66 ⟨(Nat.le_of_ble_eq_true rfl), (Nat.le_of_ble_eq_true rfl)⟩) hS (fun q _ h => h) (fun q h => h) (fun r44 u t H locs ht hvm hw45 hB hz1 hk1 hS => ?_)
      have hM := hB.back ht
      have hG := hB.2.2.2.1
      refine lv_if_eq (tgt := 83) hx hb dX3_take_69 (by decide) (fun c46 => ?_) (fun c46 => ?_)
      · skip
        refine lv_aload hx hb dX3_take_83 (lv_at hl 1 rfl) ?_
        obtain ⟨u47, u48, u49, u50, u51, u52, hP, hf⟩ := o_st (i := j7) (q := a8) hM (by omega)
        refine va_get (D := (dC, dI)) (ci := 5) (v := .ref (pF g a8 1)) (C := RX1) (T := TX1) (N := 15) hx hb hts (by decide +kernel) hown hK hP 0 rfl rfl 1 (by decide) (hts (.fieldLink RX3 185 "Snowpalace$Site" "masses" "[I") (by decide +kernel)) (fun _ h9 => h9) rfl dX3_take_85 ?_
        have ht53 : tg g (pF g a8 1) = 14 := hf.2.1
        refine lv_iload hx hb dX3_take_88 (lv_at hl 0 rfl) ?_
        obtain ⟨u54, hP, hf⟩ := o_in (i := 0) (q := (pF g a8 1)) hM (by omega)
        refine va_iald (D := (dC, dI)) hx hb hK hP 0 0 rfl rfl (vp_in_nI (by omega) (by decide)) dX3_take_90 ?_
        refine lv_topi (fun v55 e56 => ?_)
        have ec : ((nI (8 * jy10 + jx9)) : Int32).toNatClampNeg = (8 * jy10 + jx9) := nI_clamp (by omega)
        rw [ec] at e56
        refine lv_istore (lv' := [(6, .int v55), (5, .int (nI (8 * jy10 + jx9))), (4, .ref a8), (0, .ref o), (1, .int (nI j7)), (2, .int (nI jx9)), (3, .int (nI jy10))]) hx hb dX3_take_91 hl (by decide) rfl (fun ls hl => ?_)
        refine lv_aload hx hb dX3_take_93 (lv_at hl 2 rfl) ?_
        refine lv_iload hx hb dX3_take_95 (lv_at hl 1 rfl) ?_
        obtain ⟨u57, u58, u59, u60, u61, u62, hP, hf⟩ := o_st (i := j7) (q := a8) hM (by omega)
        refine va_callv (va_runV (As := [.int (nI (8 * jy10 + jx9))]) (rest := []) ⟨hx, hb, hml, hown, hts⟩ (rk_removeCell l dC dI kA eD b g a8 j7 (nI (8 * jy10 + jx9)) (by omega)) (cwV 1 hts gX3_take_X1_removeCell rfl rfl rfl (by decide +kernel) ⟨Nat.le_of_ble_eq_true rfl, Nat.le_of_ble_eq_true rfl⟩) ⟨fb_CX, va_recv hK hP (ci := 5) (q0 := 0) rfl rfl, fun U hU hW => ⟨rfl, CX.give hb0 hM hK hG hE hS hU hW⟩⟩ rfl rfl hl.1 rfl (lv_room (Nat.le_of_ble_eq_true rfl)) dX3_take_97 ⟨(Nat.le_of_ble_eq_true rfl), (Nat.le_of_ble_eq_true rfl)⟩) hS (fun q _ h => h) (fun q h => h) (fun u t H locs ht hvm hw64 hB hz1 hk1 hS => ?_)
        have hM := hB.back ht
        have hG := hB.2.2.2.1
        refine lv_iload hx hb dX3_take_100 (lv_at hl 0 rfl) ?_
        refine vx_ret ?_
        refine W.widen (k := 1) (n := 6) (Nat.le_of_ble_eq_true rfl) (Nat.le_of_ble_eq_true rfl) ?_
        exact W.iret (v := v55) hx hb hr (fun t ht hW => ⟨⟨v55, (), rfl, trivial, CX.give hb0 hM hK hG hE hS ht hW⟩, hS.F ht⟩) hS.2.2 dX3_take_102
      · skip
        obtain ⟨sa, hsa⟩ := hT.2.1 (302, "something else would fall") (by decide +kernel)
        exact vx_throwSW (A := (fun q => b ≤ q)) (own := RX3) (cls := "java/lang/UnsupportedOperationException") (text := "something else would fall") (names := exN) hx hb hlt hown (by decide +kernel) (by decide +kernel) (hts (.classLink RX3 63 "java/lang/UnsupportedOperationException") (by decide +kernel)) (hts (.initialized "java/lang/UnsupportedOperationException") (by decide +kernel)) hsa (th_hat hT (fun w h => hts w (List.mem_cons_of_mem _ (List.mem_append_left _ (List.mem_append_right _ h)))) th_i2) (th_good th_i2) hT.2.2.2.1 hT.2.2.2.2 hS (hl.1.trans hml.symm) dX3_take_72 dX3_take_75 dX3_take_76 dX3_take_79 dX3_take_82 (fun x h => (hnt x h).elim) (by decide) (Nat.le_of_ble_eq_true rfl) (Nat.le_of_ble_eq_true rfl) (Nat.le_of_ble_eq_true rfl) hlocks (fun t ha h1 h2 => ⟨(), trivial, ⟨(Or.inr (Or.inr rfl)), hM.keep h2⟩, th_F hS h1 h2⟩) hS.2.2 (Nat.le_of_ble_eq_true rfl) (Nat.le_of_ble_eq_true rfl)
    · skip
      obtain ⟨sa, hsa⟩ := hT.2.1 (182, "no cell is there") (by decide +kernel)
      exact rt_throwSX (A := (fun q => b ≤ q)) (own := RX3) (cls := "java/util/NoSuchElementException") (text := "no cell is there") (names := exN) (ix := 13) (rx := prog_38_method_4_code) hx hb hlt rx13_0 rx13_1 rx13_2 rx13_5 hown (by decide +kernel) (by decide +kernel) (hts (.classLink RX3 180 "java/util/NoSuchElementException") (by decide +kernel)) hE.2.2.2.2.2.2.2.2.ini hsa hE.2.2.2.2.2.2.2.2.hat nse_good hT.2.2.2.1 hT.2.2.2.2 hS (hl.1.trans hml.symm) dX3_take_41 dX3_take_44 dX3_take_45 dX3_take_47 dX3_take_50 (fun x h => (hnt x h).elim) (by decide) (Nat.le_of_ble_eq_true rfl) (Nat.le_of_ble_eq_true rfl) (Nat.le_of_ble_eq_true rfl) hlocks (fun t ha h1 h2 => ⟨(), trivial, ⟨(Or.inr (Or.inl rfl)), hM.keep h2⟩, th_F hS h1 h2⟩) hS.2.2 (Nat.le_of_ble_eq_true rfl) (Nat.le_of_ble_eq_true rfl)
