set_option maxHeartbeats 4000000 in
set_option maxRecDepth 100000 in
theorem rf_creep (l : Launch) (hlt : l.stackTraces = false) (dC : Nat → ClassId) (dI : Nat → Nat → Nat) (kA : Nat → ClassId) (eD b : Nat) (g : Gh) (o : Nat) (site : Int32) (x : Int32) (y : Int32) (hto : tg g o = 1)  : vx_Met l yX3_creep wzX3_creep ({ frames := 6, cells := 1, slots := 6, locals := 82 }) (va_Pc [.ref o, .int site, .int x, .int y] (CX (dC, dI) kA eD b g)) (va_Qi (fun (r : Int32) (u : Unit) => True) (fun (u : Unit) t => CX (dC, dI) kA eD b g t) (fun q => b ≤ q)) (vx_X (fun _ : Unit => True) (fun E _ t => (E = "java/lang/IndexOutOfBoundsException" ∨ E = "java/util/NoSuchElementException") ∧ TM (dC, dI) kA b g t.heap) (fun q => b ≤ q)) 1 6 (fun q => b ≤ q) := by
  refine vx_ofW (cc := cX3_creep) (maxL := 5) (ret := (some .int)) (by decide +kernel) rfl ?_
  intro p e s m args below meth c s₁ B hml hnt hv
  obtain ⟨rfl, hb0, hM, hK, hG, hE⟩ := hv
  have hx := B.exec
  have hb := B.bytes
  have hr := B.returns
  have hts := atoms_spec (ws := wzX3_creep) B.pre
  have hown : s.vm.findClass RX3 = some m.cls := findClass_of_methodNamed B.named
  have hlocks := B.notSynchronized
  have hT := hE.1
  have hN := hE.2.2.2.2.2.2.2.1
  have hS : va_S (fun q => b ≤ q) s.heap s.heap [] := va_S.rf
  have hl := lv_entry ([.ref o, .int site, .int x, .int y]) (n := 5) (Nat.le_of_ble_eq_true rfl)
  rw [lg_entry_eq]
  generalize (lg_sl ([.ref o, .int site, .int x, .int y]) ++ List.replicate (5 - (lg_sl ([.ref o, .int site, .int x, .int y])).length) Slot.unset).toArray = ls at hl ⊢
  have hl : lv_has ls 5 [(0, .ref o), (1, .int site), (2, .int x), (3, .int y)] := hl
  generalize ([.ref o, .int site, .int x, .int y] : List Value).toArray = args at hts ⊢
  refine lv_aload_n hx hb dX3_creep_0 rfl (lv_at hl 0 rfl) ?_
  refine lv_iload_n hx hb dX3_creep_1 rfl (lv_at hl 1 rfl) ?_
  refine lv_iload_n hx hb dX3_creep_2 rfl (lv_at hl 2 rfl) ?_
  refine lv_iload_n hx hb dX3_creep_3 rfl (lv_at hl 3 rfl) ?_
  obtain ⟨u1, u2, u3, u4, hP, hf⟩ := o_sno (i := 0) (q := o) hM (by omega)
  refine va_callq (va_runV (As := [.int site, .int x, .int y]) (rest := []) ⟨hx, hb, hml, hown, hts⟩ (rk_placedSite l dC dI kA eD b g o site x y (by omega)) (cwV 3 hts gX3_creep_X3_placedSite rfl rfl rfl (by decide +kernel) ⟨Nat.le_of_ble_eq_true rfl, Nat.le_of_ble_eq_true rfl⟩) ⟨fb_CX, va_recv hK hP (ci := 7) (q0 := 0) rfl rfl, fun U hU hW => ⟨rfl, CX.give hb0 hM hK hG hE hS hU hW⟩⟩ rfl rfl hl.1 rfl (lv_room (Nat.le_of_ble_eq_true rfl)) dX3_creep_4 ⟨(Nat.le_of_ble_eq_true rfl), (Nat.le_of_ble_eq_true rfl)⟩) hS (fun q _ h => h) (fun q h => h) (fun r5 u t H locs ht hvm hw6 hB hz1 hk1 hS => ?_)
  have hM := hB.back ht
  have hG := hB.2.2.2.1
  rcases hw6 with ⟨rfl, hn14⟩ | ⟨j7, a8, jx9, jy10, rfl, rfl, rfl, rfl, hjx9, hjy10, hj13, ho11, ht12⟩
  · skip
    refine lv_astoreN (lv' := [(4, .null), (0, .ref o), (1, .int site), (2, .int x), (3, .int y)]) hx hb dX3_creep_7 hl (by decide) rfl (fun ls hl => ?_)
    refine lv_aloadN hx hb dX3_creep_9 (lv_at hl 0 rfl) ?_
    refine lv_ifnonnullN hx hb dX3_creep_11 ?_
    obtain ⟨sa, hsa⟩ := hT.2.1 (137, "no such site or place") (by decide +kernel)
    exact vx_throwS (A := (fun q => b ≤ q)) (own := RX3) (cls := "java/lang/IndexOutOfBoundsException") (text := "no such site or place") (names := exN) hx hb hlt hown (by decide +kernel) (by decide +kernel) (hts (.classLink RX3 135 "java/lang/IndexOutOfBoundsException") (by decide +kernel)) (hts (.initialized "java/lang/IndexOutOfBoundsException") (by decide +kernel)) hsa (th_hat hT (fun w h => hts w (List.mem_cons_of_mem _ (List.mem_append_left _ (List.mem_append_right _ h)))) th_i4) (th_good th_i4) hT.2.2.2.1 hT.2.2.2.2 hS (hl.1.trans hml.symm) dX3_creep_14 dX3_creep_17 dX3_creep_18 dX3_creep_20 dX3_creep_23 (fun x h => (hnt x h).elim) (by decide) (Nat.le_of_ble_eq_true rfl) (Nat.le_of_ble_eq_true rfl) (Nat.le_of_ble_eq_true rfl) hlocks (fun t ha h1 h2 => ⟨(), trivial, ⟨(Or.inl rfl), hM.keep h2⟩, th_F hS h1 h2⟩) hS.2.2 (Nat.le_of_ble_eq_true rfl) (Nat.le_of_ble_eq_true rfl)
  · skip
    have hl : lv_has ls 5 [(0, .ref o), (1, .int (nI j7)), (2, .int (nI jx9)), (3, .int (nI jy10))] := hl
    refine lv_astore (lv' := [(4, .ref a8), (0, .ref o), (1, .int (nI j7)), (2, .int (nI jx9)), (3, .int (nI jy10))]) hx hb dX3_creep_7 hl (by decide) rfl (fun ls hl => ?_)
    refine lv_aload hx hb dX3_creep_9 (lv_at hl 0 rfl) ?_
    refine lv_ifnonnull (tgt := 24) hx hb dX3_creep_11 (by decide) ?_
    refine lv_aload hx hb dX3_creep_24 (lv_at hl 0 rfl) ?_
    refine lv_iload_n hx hb dX3_creep_26 rfl (lv_at hl 3 rfl) ?_
    refine lv_iload_n hx hb dX3_creep_27 rfl (lv_at hl 4 rfl) ?_
    refine va_calli (va_runS (As := [.int (nI jx9), .int (nI jy10)]) (rest := [.ref a8]) ⟨hx, hb, hml, hown, hts⟩ (rk_placeOf l (nI jx9) (nI jy10)) (va_cwS 2 hts gX3_creep_X3_placeOf rfl rfl rfl (by decide +kernel) ⟨Nat.le_of_ble_eq_true rfl, Nat.le_of_ble_eq_true rfl⟩) ⟨fun a U g mk q => q, fun U hU hW => ⟨rfl, trivial⟩⟩ rfl rfl hl.1 rfl (lv_room (Nat.le_of_ble_eq_true rfl)) dX3_creep_28 ⟨(Nat.le_of_ble_eq_true rfl), (Nat.le_of_ble_eq_true rfl)⟩) hS (fun q _ h => h.elim) (fun q h => h.elim) (fun r15 u t H locs ht hvm hw16 hB hz1 hk1 hS => ?_)
    have hM := hM.keep (fun p hp => hk1 p hp (fun z => z))
    obtain rfl : r15 = nI (8 * jy10 + jx9) := hw16.trans (by rw [show (8 : Int32) = nI 8 from rfl]; exact (congrArg (· + nI jx9) (pk_mul 8 jy10)).trans (nI_add _ _))
    obtain ⟨u17, u18, u19, u20, u21, u22, hP, hf⟩ := o_st (i := j7) (q := a8) hM (by omega)
    refine va_calli (va_runV (As := [.int (nI (8 * jy10 + jx9))]) (rest := []) ⟨hx, hb, hml, hown, hts⟩ (rk_has l dC dI kA eD b g a8 j7 (nI (8 * jy10 + jx9)) (by omega)) (cwV 1 hts gX3_creep_X1_has rfl rfl rfl (by decide +kernel) ⟨Nat.le_of_ble_eq_true rfl, Nat.le_of_ble_eq_true rfl⟩) ⟨fb_CX, va_recv hK hP (ci := 5) (q0 := 0) rfl rfl, fun U hU hW => ⟨rfl, CX.give hb0 hM hK hG hE hS hU hW⟩⟩ rfl rfl hl.1 rfl (lv_room (Nat.le_of_ble_eq_true rfl)) dX3_creep_31 ⟨(Nat.le_of_ble_eq_true rfl), (Nat.le_of_ble_eq_true rfl)⟩) hS (fun q _ h => h.elim) (fun q h => h.elim) (fun r23 u t H locs ht hvm hw24 hB hz1 hk1 hS => ?_)
    have hM := hB.back ht
    have hG := hB.2.2.2.1
    refine lv_if_ne (tgt := 47) hx hb dX3_creep_34 (by decide) (fun c25 => ?_) (fun c25 => ?_)
    · skip
      have hk26 : ¬ (pI g (pF g a8 0)) (8 * jy10 + jx9) = 46 := by obtain ⟨-, jz9, ez9, hz9, hz8⟩ := hw24.resolve_left (fun z => c25 z.1); rw [(nI_eq (a := (8 * jy10 + jx9)) (b := jz9) (by omega) (by omega)).mp ez9]; exact hz8
      refine lv_aload hx hb dX3_creep_47 (lv_at hl 0 rfl) ?_
      obtain ⟨u27, u28, u29, u30, u31, u32, hP, hf⟩ := o_st (i := j7) (q := a8) hM (by omega)
      refine va_get (D := (dC, dI)) (ci := 5) (v := .ref (pF g a8 2)) (C := RX1) (T := TX1) (N := 15) hx hb hts (by decide +kernel) hown hK hP 0 rfl rfl 2 (by decide) (hts (.fieldLink RX3 198 "Snowpalace$Site" "creeps" "[I") (by decide +kernel)) (fun _ h9 => h9) rfl dX3_creep_49 ?_
      have ht33 : tg g (pF g a8 2) = 14 := hf.2.2.1
      refine lv_iload_n hx hb dX3_creep_52 rfl (lv_at hl 3 rfl) ?_
      refine lv_iload_n hx hb dX3_creep_53 rfl (lv_at hl 4 rfl) ?_
      refine va_calli (va_runS (As := [.int (nI jx9), .int (nI jy10)]) (rest := [.ref (pF g a8 2)]) ⟨hx, hb, hml, hown, hts⟩ (rk_placeOf l (nI jx9) (nI jy10)) (va_cwS 2 hts gX3_creep_X3_placeOf rfl rfl rfl (by decide +kernel) ⟨Nat.le_of_ble_eq_true rfl, Nat.le_of_ble_eq_true rfl⟩) ⟨fun a U g mk q => q, fun U hU hW => ⟨rfl, trivial⟩⟩ rfl rfl hl.1 rfl (lv_room (Nat.le_of_ble_eq_true rfl)) dX3_creep_54 ⟨(Nat.le_of_ble_eq_true rfl), (Nat.le_of_ble_eq_true rfl)⟩) hS (fun q _ h => h.elim) (fun q h => h.elim) (fun r34 u t H locs ht hvm hw35 hB hz1 hk1 hS => ?_)
      have hM := hM.keep (fun p hp => hk1 p hp (fun z => z))
      obtain rfl : r34 = nI (8 * jy10 + jx9) := hw35.trans (by rw [show (8 : Int32) = nI 8 from rfl]; exact (congrArg (· + nI jx9) (pk_mul 8 jy10)).trans (nI_add _ _))
      obtain ⟨u36, hP, hf⟩ := o_in (i := 0) (q := (pF g a8 2)) hM (by omega)
      refine va_iald (D := (dC, dI)) hx hb hK hP 0 0 rfl rfl (vp_in_nI (by omega) (by decide)) dX3_creep_57 ?_
      refine lv_topi (fun v37 e38 => ?_)
      have ec : ((nI (8 * jy10 + jx9)) : Int32).toNatClampNeg = (8 * jy10 + jx9) := nI_clamp (by omega)
      rw [ec] at e38
      refine vx_ret ?_
      refine W.widen (k := 1) (n := 6) (Nat.le_of_ble_eq_true rfl) (Nat.le_of_ble_eq_true rfl) ?_
      exact W.iret (v := v37) hx hb hr (fun t ht hW => ⟨⟨v37, (), rfl, trivial, CX.give hb0 hM hK hG hE hS ht hW⟩, hS.F ht⟩) hS.2.2 dX3_creep_58
    · skip
      have hk39 : (pI g (pF g a8 0)) (8 * jy10 + jx9) = 46 := (hw24.resolve_right (fun z => absurd (z.1.symm.trans c25) (by decide))).2 (8 * jy10 + jx9) rfl (by omega)
      obtain ⟨sa, hsa⟩ := hT.2.1 (182, "no cell is there") (by decide +kernel)
      exact rt_throwSX (A := (fun q => b ≤ q)) (own := RX3) (cls := "java/util/NoSuchElementException") (text := "no cell is there") (names := exN) (ix := 13) (rx := prog_38_method_4_code) hx hb hlt rx13_0 rx13_1 rx13_2 rx13_5 hown (by decide +kernel) (by decide +kernel) (hts (.classLink RX3 180 "java/util/NoSuchElementException") (by decide +kernel)) hE.2.2.2.2.2.2.2.2.ini hsa hE.2.2.2.2.2.2.2.2.hat nse_good hT.2.2.2.1 hT.2.2.2.2 hS (hl.1.trans hml.symm) dX3_creep_37 dX3_creep_40 dX3_creep_41 dX3_creep_43 dX3_creep_46 (fun x h => (hnt x h).elim) (by decide) (Nat.le_of_ble_eq_true rfl) (Nat.le_of_ble_eq_true rfl) (Nat.le_of_ble_eq_true rfl) hlocks (fun t ha h1 h2 => ⟨(), trivial, ⟨(Or.inr rfl), hM.keep h2⟩, th_F hS h1 h2⟩) hS.2.2 (Nat.le_of_ble_eq_true rfl) (Nat.le_of_ble_eq_true rfl)

set_option maxHeartbeats 4000000 in
set_option maxRecDepth 100000 in
theorem rf_age (l : Launch) (hlt : l.stackTraces = false) (dC : Nat → ClassId) (dI : Nat → Nat → Nat) (kA : Nat → ClassId) (eD b : Nat) (g : Gh) (o : Nat) (site : Int32) (x : Int32) (y : Int32) (hto : tg g o = 1)  : vx_Met l yX3_age wzX3_age ({ frames := 6, cells := 1, slots := 6, locals := 82 }) (va_Pc [.ref o, .int site, .int x, .int y] (CX (dC, dI) kA eD b g)) (va_Qi (fun (r : Int32) (u : Unit) => True) (fun (u : Unit) t => CX (dC, dI) kA eD b g t) (fun q => b ≤ q)) (vx_X (fun _ : Unit => True) (fun E _ t => (E = "java/lang/IndexOutOfBoundsException" ∨ E = "java/util/NoSuchElementException") ∧ TM (dC, dI) kA b g t.heap) (fun q => b ≤ q)) 1 6 (fun q => b ≤ q) := by
  refine vx_ofW (cc := cX3_age) (maxL := 5) (ret := (some .int)) (by decide +kernel) rfl ?_
  intro p e s m args below meth c s₁ B hml hnt hv
  obtain ⟨rfl, hb0, hM, hK, hG, hE⟩ := hv
  have hx := B.exec
  have hb := B.bytes
  have hr := B.returns
  have hts := atoms_spec (ws := wzX3_age) B.pre
  have hown : s.vm.findClass RX3 = some m.cls := findClass_of_methodNamed B.named
  have hlocks := B.notSynchronized
  have hT := hE.1
  have hN := hE.2.2.2.2.2.2.2.1
  have hS : va_S (fun q => b ≤ q) s.heap s.heap [] := va_S.rf
  have hl := lv_entry ([.ref o, .int site, .int x, .int y]) (n := 5) (Nat.le_of_ble_eq_true rfl)
  rw [lg_entry_eq]
  generalize (lg_sl ([.ref o, .int site, .int x, .int y]) ++ List.replicate (5 - (lg_sl ([.ref o, .int site, .int x, .int y])).length) Slot.unset).toArray = ls at hl ⊢
  have hl : lv_has ls 5 [(0, .ref o), (1, .int site), (2, .int x), (3, .int y)] := hl
  generalize ([.ref o, .int site, .int x, .int y] : List Value).toArray = args at hts ⊢
  refine lv_aload_n hx hb dX3_age_0 rfl (lv_at hl 0 rfl) ?_
  refine lv_iload_n hx hb dX3_age_1 rfl (lv_at hl 1 rfl) ?_
  refine lv_iload_n hx hb dX3_age_2 rfl (lv_at hl 2 rfl) ?_
  refine lv_iload_n hx hb dX3_age_3 rfl (lv_at hl 3 rfl) ?_
  obtain ⟨u1, u2, u3, u4, hP, hf⟩ := o_sno (i := 0) (q := o) hM (by omega)
  refine va_callq (va_runV (As := [.int site, .int x, .int y]) (rest := []) ⟨hx, hb, hml, hown, hts⟩ (rk_placedSite l dC dI kA eD b g o site x y (by omega)) (cwV 3 hts gX3_age_X3_placedSite rfl rfl rfl (by decide +kernel) ⟨Nat.le_of_ble_eq_true rfl, Nat.le_of_ble_eq_true rfl⟩) ⟨fb_CX, va_recv hK hP (ci := 7) (q0 := 0) rfl rfl, fun U hU hW => ⟨rfl, CX.give hb0 hM hK hG hE hS hU hW⟩⟩ rfl rfl hl.1 rfl (lv_room (Nat.le_of_ble_eq_true rfl)) dX3_age_4 ⟨(Nat.le_of_ble_eq_true rfl), (Nat.le_of_ble_eq_true rfl)⟩) hS (fun q _ h => h) (fun q h => h) (fun r5 u t H locs ht hvm hw6 hB hz1 hk1 hS => ?_)
  have hM := hB.back ht
  have hG := hB.2.2.2.1
  rcases hw6 with ⟨rfl, hn14⟩ | ⟨j7, a8, jx9, jy10, rfl, rfl, rfl, rfl, hjx9, hjy10, hj13, ho11, ht12⟩
  · skip
    refine lv_astoreN (lv' := [(4, .null), (0, .ref o), (1, .int site), (2, .int x), (3, .int y)]) hx hb dX3_age_7 hl (by decide) rfl (fun ls hl => ?_)
    refine lv_aloadN hx hb dX3_age_9 (lv_at hl 0 rfl) ?_
    refine lv_ifnonnullN hx hb dX3_age_11 ?_
    obtain ⟨sa, hsa⟩ := hT.2.1 (137, "no such site or place") (by decide +kernel)
    exact vx_throwS (A := (fun q => b ≤ q)) (own := RX3) (cls := "java/lang/IndexOutOfBoundsException") (text := "no such site or place") (names := exN) hx hb hlt hown (by decide +kernel) (by decide +kernel) (hts (.classLink RX3 135 "java/lang/IndexOutOfBoundsException") (by decide +kernel)) (hts (.initialized "java/lang/IndexOutOfBoundsException") (by decide +kernel)) hsa (th_hat hT (fun w h => hts w (List.mem_cons_of_mem _ (List.mem_append_left _ (List.mem_append_right _ h)))) th_i4) (th_good th_i4) hT.2.2.2.1 hT.2.2.2.2 hS (hl.1.trans hml.symm) dX3_age_14 dX3_age_17 dX3_age_18 dX3_age_20 dX3_age_23 (fun x h => (hnt x h).elim) (by decide) (Nat.le_of_ble_eq_true rfl) (Nat.le_of_ble_eq_true rfl) (Nat.le_of_ble_eq_true rfl) hlocks (fun t ha h1 h2 => ⟨(), trivial, ⟨(Or.inl rfl), hM.keep h2⟩, th_F hS h1 h2⟩) hS.2.2 (Nat.le_of_ble_eq_true rfl) (Nat.le_of_ble_eq_true rfl)
  · skip
    have hl : lv_has ls 5 [(0, .ref o), (1, .int (nI j7)), (2, .int (nI jx9)), (3, .int (nI jy10))] := hl
    refine lv_astore (lv' := [(4, .ref a8), (0, .ref o), (1, .int (nI j7)), (2, .int (nI jx9)), (3, .int (nI jy10))]) hx hb dX3_age_7 hl (by decide) rfl (fun ls hl => ?_)
    refine lv_aload hx hb dX3_age_9 (lv_at hl 0 rfl) ?_
    refine lv_ifnonnull (tgt := 24) hx hb dX3_age_11 (by decide) ?_
    refine lv_aload hx hb dX3_age_24 (lv_at hl 0 rfl) ?_
    refine lv_iload_n hx hb dX3_age_26 rfl (lv_at hl 3 rfl) ?_
    refine lv_iload_n hx hb dX3_age_27 rfl (lv_at hl 4 rfl) ?_
    refine va_calli (va_runS (As := [.int (nI jx9), .int (nI jy10)]) (rest := [.ref a8]) ⟨hx, hb, hml, hown, hts⟩ (rk_placeOf l (nI jx9) (nI jy10)) (va_cwS 2 hts gX3_age_X3_placeOf rfl rfl rfl (by decide +kernel) ⟨Nat.le_of_ble_eq_true rfl, Nat.le_of_ble_eq_true rfl⟩) ⟨fun a U g mk q => q, fun U hU hW => ⟨rfl, trivial⟩⟩ rfl rfl hl.1 rfl (lv_room (Nat.le_of_ble_eq_true rfl)) dX3_age_28 ⟨(Nat.le_of_ble_eq_true rfl), (Nat.le_of_ble_eq_true rfl)⟩) hS (fun q _ h => h.elim) (fun q h => h.elim) (fun r15 u t H locs ht hvm hw16 hB hz1 hk1 hS => ?_)
    have hM := hM.keep (fun p hp => hk1 p hp (fun z => z))
    obtain rfl : r15 = nI (8 * jy10 + jx9) := hw16.trans (by rw [show (8 : Int32) = nI 8 from rfl]; exact (congrArg (· + nI jx9) (pk_mul 8 jy10)).trans (nI_add _ _))
    obtain ⟨u17, u18, u19, u20, u21, u22, hP, hf⟩ := o_st (i := j7) (q := a8) hM (by omega)
    refine va_calli (va_runV (As := [.int (nI (8 * jy10 + jx9))]) (rest := []) ⟨hx, hb, hml, hown, hts⟩ (rk_has l dC dI kA eD b g a8 j7 (nI (8 * jy10 + jx9)) (by omega)) (cwV 1 hts gX3_age_X1_has rfl rfl rfl (by decide +kernel) ⟨Nat.le_of_ble_eq_true rfl, Nat.le_of_ble_eq_true rfl⟩) ⟨fb_CX, va_recv hK hP (ci := 5) (q0 := 0) rfl rfl, fun U hU hW => ⟨rfl, CX.give hb0 hM hK hG hE hS hU hW⟩⟩ rfl rfl hl.1 rfl (lv_room (Nat.le_of_ble_eq_true rfl)) dX3_age_31 ⟨(Nat.le_of_ble_eq_true rfl), (Nat.le_of_ble_eq_true rfl)⟩) hS (fun q _ h => h.elim) (fun q h => h.elim) (fun r23 u t H locs ht hvm hw24 hB hz1 hk1 hS => ?_)
    have hM := hB.back ht
    have hG := hB.2.2.2.1
    refine lv_if_ne (tgt := 47) hx hb dX3_age_34 (by decide) (fun c25 => ?_) (fun c25 => ?_)
    · skip
      have hk26 : ¬ (pI g (pF g a8 0)) (8 * jy10 + jx9) = 46 := by obtain ⟨-, jz9, ez9, hz9, hz8⟩ := hw24.resolve_left (fun z => c25 z.1); rw [(nI_eq (a := (8 * jy10 + jx9)) (b := jz9) (by omega) (by omega)).mp ez9]; exact hz8
      refine lv_aload hx hb dX3_age_47 (lv_at hl 0 rfl) ?_
      obtain ⟨u27, u28, u29, u30, u31, u32, hP, hf⟩ := o_st (i := j7) (q := a8) hM (by omega)
      refine va_get (D := (dC, dI)) (ci := 5) (v := .ref (pF g a8 3)) (C := RX1) (T := TX1) (N := 15) hx hb hts (by decide +kernel) hown hK hP 0 rfl rfl 3 (by decide) (hts (.fieldLink RX3 201 "Snowpalace$Site" "ages" "[I") (by decide +kernel)) (fun _ h9 => h9) rfl dX3_age_49 ?_
      have ht33 : tg g (pF g a8 3) = 14 := hf.2.2.2.1
      refine lv_iload_n hx hb dX3_age_52 rfl (lv_at hl 3 rfl) ?_
      refine lv_iload_n hx hb dX3_age_53 rfl (lv_at hl 4 rfl) ?_
      refine va_calli (va_runS (As := [.int (nI jx9), .int (nI jy10)]) (rest := [.ref (pF g a8 3)]) ⟨hx, hb, hml, hown, hts⟩ (rk_placeOf l (nI jx9) (nI jy10)) (va_cwS 2 hts gX3_age_X3_placeOf rfl rfl rfl (by decide +kernel) ⟨Nat.le_of_ble_eq_true rfl, Nat.le_of_ble_eq_true rfl⟩) ⟨fun a U g mk q => q, fun U hU hW => ⟨rfl, trivial⟩⟩ rfl rfl hl.1 rfl (lv_room (Nat.le_of_ble_eq_true rfl)) dX3_age_54 ⟨(Nat.le_of_ble_eq_true rfl), (Nat.le_of_ble_eq_true rfl)⟩) hS (fun q _ h => h.elim) (fun q h => h.elim) (fun r34 u t H locs ht hvm hw35 hB hz1 hk1 hS => ?_)
      have hM := hM.keep (fun p hp => hk1 p hp (fun z => z))
      obtain rfl : r34 = nI (8 * jy10 + jx9) := hw35.trans (by rw [show (8 : Int32) = nI 8 from rfl]; exact (congrArg (· + nI jx9) (pk_mul 8 jy10)).trans (nI_add _ _))
      obtain ⟨u36, hP, hf⟩ := o_in (i := 0) (q := (pF g a8 3)) hM (by omega)
      refine va_iald (D := (dC, dI)) hx hb hK hP 0 0 rfl rfl (vp_in_nI (by omega) (by decide)) dX3_age_57 ?_
      refine lv_topi (fun v37 e38 => ?_)
      have ec : ((nI (8 * jy10 + jx9)) : Int32).toNatClampNeg = (8 * jy10 + jx9) := nI_clamp (by omega)
      rw [ec] at e38
      refine vx_ret ?_
      refine W.widen (k := 1) (n := 6) (Nat.le_of_ble_eq_true rfl) (Nat.le_of_ble_eq_true rfl) ?_
      exact W.iret (v := v37) hx hb hr (fun t ht hW => ⟨⟨v37, (), rfl, trivial, CX.give hb0 hM hK hG hE hS ht hW⟩, hS.F ht⟩) hS.2.2 dX3_age_58
    · skip
      have hk39 : (pI g (pF g a8 0)) (8 * jy10 + jx9) = 46 := (hw24.resolve_right (fun z => absurd (z.1.symm.trans c25) (by decide))).2 (8 * jy10 + jx9) rfl (by omega)
      obtain ⟨sa, hsa⟩ := hT.2.1 (182, "no cell is there") (by decide +kernel)
      exact rt_throwSX (A := (fun q => b ≤ q)) (own := RX3) (cls := "java/util/NoSuchElementException") (text := "no cell is there") (names := exN) (ix := 13) (rx := prog_38_method_4_code) hx hb hlt rx13_0 rx13_1 rx13_2 rx13_5 hown (by decide +kernel) (by decide +kernel) (hts (.classLink RX3 180 "java/util/NoSuchElementException") (by decide +kernel)) hE.2.2.2.2.2.2.2.2.ini hsa hE.2.2.2.2.2.2.2.2.hat nse_good hT.2.2.2.1 hT.2.2.2.2 hS (hl.1.trans hml.symm) dX3_age_37 dX3_age_40 dX3_age_41 dX3_age_43 dX3_age_46 (fun x h => (hnt x h).elim) (by decide) (Nat.le_of_ble_eq_true rfl) (Nat.le_of_ble_eq_true rfl) (Nat.le_of_ble_eq_true rfl) hlocks (fun t ha h1 h2 => ⟨(), trivial, ⟨(Or.inr rfl), hM.keep h2⟩, th_F hS h1 h2⟩) hS.2.2 (Nat.le_of_ble_eq_true rfl) (Nat.le_of_ble_eq_true rfl)

set_option maxHeartbeats 4000000 in
set_option maxRecDepth 100000 in
theorem rf_isArch (l : Launch) (hlt : l.stackTraces = false) (dC : Nat → ClassId) (dI : Nat → Nat → Nat) (kA : Nat → ClassId) (eD b : Nat) (g : Gh) (o : Nat) (site : Int32) (x : Int32) (y : Int32) (hto : tg g o = 1)  : vx_Met l yX3_isArch wzX3_isArch ({ frames := 6, cells := 1, slots := 6, locals := 82 }) (va_Pc [.ref o, .int site, .int x, .int y] (CX (dC, dI) kA eD b g)) (va_Qi (fun (r : Int32) (u : Unit) => r = 0 ∨ r = 1) (fun (u : Unit) t => CX (dC, dI) kA eD b g t) (fun q => b ≤ q)) (vx_X (fun _ : Unit => True) (fun E _ t => (E = "java/lang/IndexOutOfBoundsException" ∨ E = "java/util/NoSuchElementException") ∧ TM (dC, dI) kA b g t.heap) (fun q => b ≤ q)) 1 6 (fun q => b ≤ q) := by
  refine vx_ofW (cc := cX3_isArch) (maxL := 5) (ret := (some .boolean)) (by decide +kernel) rfl ?_
  intro p e s m args below meth c s₁ B hml hnt hv
  obtain ⟨rfl, hb0, hM, hK, hG, hE⟩ := hv
  have hx := B.exec
  have hb := B.bytes
  have hr := B.returns
  have hts := atoms_spec (ws := wzX3_isArch) B.pre
  have hown : s.vm.findClass RX3 = some m.cls := findClass_of_methodNamed B.named
  have hlocks := B.notSynchronized
  have hT := hE.1
  have hN := hE.2.2.2.2.2.2.2.1
  have hS : va_S (fun q => b ≤ q) s.heap s.heap [] := va_S.rf
  have hl := lv_entry ([.ref o, .int site, .int x, .int y]) (n := 5) (Nat.le_of_ble_eq_true rfl)
  rw [lg_entry_eq]
  generalize (lg_sl ([.ref o, .int site, .int x, .int y]) ++ List.replicate (5 - (lg_sl ([.ref o, .int site, .int x, .int y])).length) Slot.unset).toArray = ls at hl ⊢
  have hl : lv_has ls 5 [(0, .ref o), (1, .int site), (2, .int x), (3, .int y)] := hl
  generalize ([.ref o, .int site, .int x, .int y] : List Value).toArray = args at hts ⊢
  refine lv_aload_n hx hb dX3_isArch_0 rfl (lv_at hl 0 rfl) ?_
  refine lv_iload_n hx hb dX3_isArch_1 rfl (lv_at hl 1 rfl) ?_
  refine lv_iload_n hx hb dX3_isArch_2 rfl (lv_at hl 2 rfl) ?_
  refine lv_iload_n hx hb dX3_isArch_3 rfl (lv_at hl 3 rfl) ?_
  obtain ⟨u1, u2, u3, u4, hP, hf⟩ := o_sno (i := 0) (q := o) hM (by omega)
  refine va_callq (va_runV (As := [.int site, .int x, .int y]) (rest := []) ⟨hx, hb, hml, hown, hts⟩ (rk_placedSite l dC dI kA eD b g o site x y (by omega)) (cwV 3 hts gX3_isArch_X3_placedSite rfl rfl rfl (by decide +kernel) ⟨Nat.le_of_ble_eq_true rfl, Nat.le_of_ble_eq_true rfl⟩) ⟨fb_CX, va_recv hK hP (ci := 7) (q0 := 0) rfl rfl, fun U hU hW => ⟨rfl, CX.give hb0 hM hK hG hE hS hU hW⟩⟩ rfl rfl hl.1 rfl (lv_room (Nat.le_of_ble_eq_true rfl)) dX3_isArch_4 ⟨(Nat.le_of_ble_eq_true rfl), (Nat.le_of_ble_eq_true rfl)⟩) hS (fun q _ h => h) (fun q h => h) (fun r5 u t H locs ht hvm hw6 hB hz1 hk1 hS => ?_)
  have hM := hB.back ht
  have hG := hB.2.2.2.1
  rcases hw6 with ⟨rfl, hn14⟩ | ⟨j7, a8, jx9, jy10, rfl, rfl, rfl, rfl, hjx9, hjy10, hj13, ho11, ht12⟩
  · skip
    refine lv_astoreN (lv' := [(4, .null), (0, .ref o), (1, .int site), (2, .int x), (3, .int y)]) hx hb dX3_isArch_7 hl (by decide) rfl (fun ls hl => ?_)
    refine lv_aloadN hx hb dX3_isArch_9 (lv_at hl 0 rfl) ?_
    refine lv_ifnonnullN hx hb dX3_isArch_11 ?_
    obtain ⟨sa, hsa⟩ := hT.2.1 (137, "no such site or place") (by decide +kernel)
    exact vx_throwS (A := (fun q => b ≤ q)) (own := RX3) (cls := "java/lang/IndexOutOfBoundsException") (text := "no such site or place") (names := exN) hx hb hlt hown (by decide +kernel) (by decide +kernel) (hts (.classLink RX3 135 "java/lang/IndexOutOfBoundsException") (by decide +kernel)) (hts (.initialized "java/lang/IndexOutOfBoundsException") (by decide +kernel)) hsa (th_hat hT (fun w h => hts w (List.mem_cons_of_mem _ (List.mem_append_left _ (List.mem_append_right _ h)))) th_i4) (th_good th_i4) hT.2.2.2.1 hT.2.2.2.2 hS (hl.1.trans hml.symm) dX3_isArch_14 dX3_isArch_17 dX3_isArch_18 dX3_isArch_20 dX3_isArch_23 (fun x h => (hnt x h).elim) (by decide) (Nat.le_of_ble_eq_true rfl) (Nat.le_of_ble_eq_true rfl) (Nat.le_of_ble_eq_true rfl) hlocks (fun t ha h1 h2 => ⟨(), trivial, ⟨(Or.inl rfl), hM.keep h2⟩, th_F hS h1 h2⟩) hS.2.2 (Nat.le_of_ble_eq_true rfl) (Nat.le_of_ble_eq_true rfl)
  · skip
    have hl : lv_has ls 5 [(0, .ref o), (1, .int (nI j7)), (2, .int (nI jx9)), (3, .int (nI jy10))] := hl
    refine lv_astore (lv' := [(4, .ref a8), (0, .ref o), (1, .int (nI j7)), (2, .int (nI jx9)), (3, .int (nI jy10))]) hx hb dX3_isArch_7 hl (by decide) rfl (fun ls hl => ?_)
    refine lv_aload hx hb dX3_isArch_9 (lv_at hl 0 rfl) ?_
    refine lv_ifnonnull (tgt := 24) hx hb dX3_isArch_11 (by decide) ?_
    refine lv_aload hx hb dX3_isArch_24 (lv_at hl 0 rfl) ?_
    refine lv_iload_n hx hb dX3_isArch_26 rfl (lv_at hl 3 rfl) ?_
    refine lv_iload_n hx hb dX3_isArch_27 rfl (lv_at hl 4 rfl) ?_
    refine va_calli (va_runS (As := [.int (nI jx9), .int (nI jy10)]) (rest := [.ref a8]) ⟨hx, hb, hml, hown, hts⟩ (rk_placeOf l (nI jx9) (nI jy10)) (va_cwS 2 hts gX3_isArch_X3_placeOf rfl rfl rfl (by decide +kernel) ⟨Nat.le_of_ble_eq_true rfl, Nat.le_of_ble_eq_true rfl⟩) ⟨fun a U g mk q => q, fun U hU hW => ⟨rfl, trivial⟩⟩ rfl rfl hl.1 rfl (lv_room (Nat.le_of_ble_eq_true rfl)) dX3_isArch_28 ⟨(Nat.le_of_ble_eq_true rfl), (Nat.le_of_ble_eq_true rfl)⟩) hS (fun q _ h => h.elim) (fun q h => h.elim) (fun r15 u t H locs ht hvm hw16 hB hz1 hk1 hS => ?_)
    have hM := hM.keep (fun p hp => hk1 p hp (fun z => z))
    obtain rfl : r15 = nI (8 * jy10 + jx9) := hw16.trans (by rw [show (8 : Int32) = nI 8 from rfl]; exact (congrArg (· + nI jx9) (pk_mul 8 jy10)).trans (nI_add _ _))
    obtain ⟨u17, u18, u19, u20, u21, u22, hP, hf⟩ := o_st (i := j7) (q := a8) hM (by omega)
    refine va_calli (va_runV (As := [.int (nI (8 * jy10 + jx9))]) (rest := []) ⟨hx, hb, hml, hown, hts⟩ (rk_has l dC dI kA eD b g a8 j7 (nI (8 * jy10 + jx9)) (by omega)) (cwV 1 hts gX3_isArch_X1_has rfl rfl rfl (by decide +kernel) ⟨Nat.le_of_ble_eq_true rfl, Nat.le_of_ble_eq_true rfl⟩) ⟨fb_CX, va_recv hK hP (ci := 5) (q0 := 0) rfl rfl, fun U hU hW => ⟨rfl, CX.give hb0 hM hK hG hE hS hU hW⟩⟩ rfl rfl hl.1 rfl (lv_room (Nat.le_of_ble_eq_true rfl)) dX3_isArch_31 ⟨(Nat.le_of_ble_eq_true rfl), (Nat.le_of_ble_eq_true rfl)⟩) hS (fun q _ h => h.elim) (fun q h => h.elim) (fun r23 u t H locs ht hvm hw24 hB hz1 hk1 hS => ?_)
    have hM := hB.back ht
    have hG := hB.2.2.2.1
    refine lv_if_ne (tgt := 47) hx hb dX3_isArch_34 (by decide) (fun c25 => ?_) (fun c25 => ?_)
    · skip
      have hk26 : ¬ (pI g (pF g a8 0)) (8 * jy10 + jx9) = 46 := by obtain ⟨-, jz9, ez9, hz9, hz8⟩ := hw24.resolve_left (fun z => c25 z.1); rw [(nI_eq (a := (8 * jy10 + jx9)) (b := jz9) (by omega) (by omega)).mp ez9]; exact hz8
      refine lv_aload hx hb dX3_isArch_47 (lv_at hl 0 rfl) ?_
      refine lv_iload_n hx hb dX3_isArch_49 rfl (lv_at hl 3 rfl) ?_
      refine lv_iload_n hx hb dX3_isArch_50 rfl (lv_at hl 4 rfl) ?_
      refine va_calli (va_runS (As := [.int (nI jx9), .int (nI jy10)]) (rest := [.ref a8]) ⟨hx, hb, hml, hown, hts⟩ (rk_placeOf l (nI jx9) (nI jy10)) (va_cwS 2 hts gX3_isArch_X3_placeOf rfl rfl rfl (by decide +kernel) ⟨Nat.le_of_ble_eq_true rfl, Nat.le_of_ble_eq_true rfl⟩) ⟨fun a U g mk q => q, fun U hU hW => ⟨rfl, trivial⟩⟩ rfl rfl hl.1 rfl (lv_room (Nat.le_of_ble_eq_true rfl)) dX3_isArch_51 ⟨(Nat.le_of_ble_eq_true rfl), (Nat.le_of_ble_eq_true rfl)⟩) hS (fun q _ h => h.elim) (fun q h => h.elim) (fun r27 u t H locs ht hvm hw28 hB hz1 hk1 hS => ?_)
      have hM := hM.keep (fun p hp => hk1 p hp (fun z => z))
      obtain rfl : r27 = nI (8 * jy10 + jx9) := hw28.trans (by rw [show (8 : Int32) = nI 8 from rfl]; exact (congrArg (· + nI jx9) (pk_mul 8 jy10)).trans (nI_add _ _))
      obtain ⟨u29, u30, u31, u32, u33, u34, hP, hf⟩ := o_st (i := j7) (q := a8) hM (by omega)
      refine va_calli (va_runV (As := [.int (nI (8 * jy10 + jx9))]) (rest := []) ⟨hx, hb, hml, hown, hts⟩ (rk_spans l dC dI kA eD b g a8 j7 (8 * jy10 + jx9) (by omega) (by omega)) (cwV 1 hts gX3_isArch_X1_spans rfl rfl rfl (by decide +kernel) ⟨Nat.le_of_ble_eq_true rfl, Nat.le_of_ble_eq_true rfl⟩) ⟨fb_CX, va_recv hK hP (ci := 5) (q0 := 0) rfl rfl, fun U hU hW => ⟨rfl, CX.give hb0 hM hK hG hE hS hU hW⟩⟩ rfl rfl hl.1 rfl (lv_room (Nat.le_of_ble_eq_true rfl)) dX3_isArch_54 ⟨(Nat.le_of_ble_eq_true rfl), (Nat.le_of_ble_eq_true rfl)⟩) hS (fun q _ h => h.elim) (fun q h => h.elim) (fun r35 u t H locs ht hvm hw36 hB hz1 hk1 hS => ?_)
      have hM := hB.back ht
      have hG := hB.2.2.2.1
      refine vx_ret ?_
      refine W.widen (k := 1) (n := 6) (Nat.le_of_ble_eq_true rfl) (Nat.le_of_ble_eq_true rfl) ?_
      exact W.zret (v := r35) (ty := .boolean) hx hb hr (z01n (fn01 hw36)) (fun t ht hW => ⟨⟨r35, (), rfl, (fn01 hw36), CX.give hb0 hM hK hG hE hS ht hW⟩, hS.F ht⟩) hS.2.2 dX3_isArch_57
    · skip
      have hk37 : (pI g (pF g a8 0)) (8 * jy10 + jx9) = 46 := (hw24.resolve_right (fun z => absurd (z.1.symm.trans c25) (by decide))).2 (8 * jy10 + jx9) rfl (by omega)
      obtain ⟨sa, hsa⟩ := hT.2.1 (182, "no cell is there") (by decide +kernel)
      exact rt_throwSX (A := (fun q => b ≤ q)) (own := RX3) (cls := "java/util/NoSuchElementException") (text := "no cell is there") (names := exN) (ix := 13) (rx := prog_38_method_4_code) hx hb hlt rx13_0 rx13_1 rx13_2 rx13_5 hown (by decide +kernel) (by decide +kernel) (hts (.classLink RX3 180 "java/util/NoSuchElementException") (by decide +kernel)) hE.2.2.2.2.2.2.2.2.ini hsa hE.2.2.2.2.2.2.2.2.hat nse_good hT.2.2.2.1 hT.2.2.2.2 hS (hl.1.trans hml.symm) dX3_isArch_37 dX3_isArch_40 dX3_isArch_41 dX3_isArch_43 dX3_isArch_46 (fun x h => (hnt x h).elim) (by decide) (Nat.le_of_ble_eq_true rfl) (Nat.le_of_ble_eq_true rfl) (Nat.le_of_ble_eq_true rfl) hlocks (fun t ha h1 h2 => ⟨(), trivial, ⟨(Or.inr rfl), hM.keep h2⟩, th_F hS h1 h2⟩) hS.2.2 (Nat.le_of_ble_eq_true rfl) (Nat.le_of_ble_eq_true rfl)

set_option maxHeartbeats 4000000 in
set_option maxRecDepth 100000 in
theorem rf_fell (l : Launch) (hlt : l.stackTraces = false) (dC : Nat → ClassId) (dI : Nat → Nat → Nat) (kA : Nat → ClassId) (eD b : Nat) (g : Gh) (o : Nat) (site : Int32) (hto : tg g o = 1)  : vx_Met l yX3_fell wsX3_fell ({ frames := 6, cells := 1, slots := 6, locals := 82 }) (va_Pc [.ref o, .int site] (CX (dC, dI) kA eD b g)) (va_Qi (fun (r : Int32) (u : Unit) => True) (fun (u : Unit) t => CX (dC, dI) kA eD b g t) (fun q => b ≤ q)) (vx_X (fun _ : Unit => True) (fun E _ t => (E = "java/lang/IndexOutOfBoundsException") ∧ TM (dC, dI) kA b g t.heap) (fun q => b ≤ q)) 1 6 (fun q => b ≤ q) := by
  refine vx_ofW (cc := cX3_fell) (maxL := 3) (ret := (some .int)) (by decide +kernel) rfl ?_
  intro p e s m args below meth c s₁ B hml hnt hv
  obtain ⟨rfl, hb0, hM, hK, hG, hE⟩ := hv
  have hx := B.exec
  have hb := B.bytes
  have hr := B.returns
  have hts := atoms_spec (ws := wsX3_fell) B.pre
  have hown : s.vm.findClass RX3 = some m.cls := findClass_of_methodNamed B.named
  have hlocks := B.notSynchronized
  have hT := hE.1
  have hN := hE.2.2.2.2.2.2.2.1
  have hS : va_S (fun q => b ≤ q) s.heap s.heap [] := va_S.rf
  have hl := lv_entry ([.ref o, .int site]) (n := 3) (Nat.le_of_ble_eq_true rfl)
  rw [lg_entry_eq]
  generalize (lg_sl ([.ref o, .int site]) ++ List.replicate (3 - (lg_sl ([.ref o, .int site])).length) Slot.unset).toArray = ls at hl ⊢
  have hl : lv_has ls 3 [(0, .ref o), (1, .int site)] := hl
  generalize ([.ref o, .int site] : List Value).toArray = args at hts ⊢
  refine lv_aload_n hx hb dX3_fell_0 rfl (lv_at hl 0 rfl) ?_
  refine lv_iload_n hx hb dX3_fell_1 rfl (lv_at hl 1 rfl) ?_
  obtain ⟨u1, u2, u3, u4, hP, hf⟩ := o_sno (i := 0) (q := o) hM (by omega)
  refine va_callq (va_runV (As := [.int site]) (rest := []) ⟨hx, hb, hml, hown, hts⟩ (rk_numberedSite l dC dI kA eD b g o site (by omega)) (cwV 1 hts gX3_fell_X3_numberedSite rfl rfl rfl (by decide +kernel) ⟨Nat.le_of_ble_eq_true rfl, Nat.le_of_ble_eq_true rfl⟩) ⟨fb_CX, va_recv hK hP (ci := 7) (q0 := 0) rfl rfl, fun U hU hW => ⟨rfl, CX.give hb0 hM hK hG hE hS hU hW⟩⟩ rfl rfl hl.1 rfl (lv_room (Nat.le_of_ble_eq_true rfl)) dX3_fell_2 ⟨(Nat.le_of_ble_eq_true rfl), (Nat.le_of_ble_eq_true rfl)⟩) hS (fun q _ h => h) (fun q h => h) (fun r5 u t H locs ht hvm hw6 hB hz1 hk1 hS => ?_)
  have hM := hB.back ht
  have hG := hB.2.2.2.1
  rcases hw6 with ⟨rfl, hn12⟩ | ⟨j7, a8, rfl, hs9, hj11, ho9, ht10⟩
  · skip
    refine lv_astore_nN (lv' := [(2, .null), (0, .ref o), (1, .int site)]) hx hb dX3_fell_5 rfl hl (by decide) rfl (fun ls hl => ?_)
    refine lv_aload_nN hx hb dX3_fell_6 rfl (lv_at hl 0 rfl) ?_
    refine lv_ifnonnullN hx hb dX3_fell_7 ?_
    obtain ⟨sa, hsa⟩ := hT.2.1 (211, "no such site") (by decide +kernel)
    exact vx_throwS (A := (fun q => b ≤ q)) (own := RX3) (cls := "java/lang/IndexOutOfBoundsException") (text := "no such site") (names := exN) hx hb hlt hown (by decide +kernel) (by decide +kernel) (hts (.classLink RX3 135 "java/lang/IndexOutOfBoundsException") (by decide +kernel)) (hts (.initialized "java/lang/IndexOutOfBoundsException") (by decide +kernel)) hsa (th_hat hT (fun w h => hts w (List.mem_cons_of_mem _ (List.mem_append_right _ h))) th_i4) (th_good th_i4) hT.2.2.2.1 hT.2.2.2.2 hS (hl.1.trans hml.symm) dX3_fell_10 dX3_fell_13 dX3_fell_14 dX3_fell_16 dX3_fell_19 (fun x h => (hnt x h).elim) (by decide) (Nat.le_of_ble_eq_true rfl) (Nat.le_of_ble_eq_true rfl) (Nat.le_of_ble_eq_true rfl) hlocks (fun t ha h1 h2 => ⟨(), trivial, ⟨rfl, hM.keep h2⟩, th_F hS h1 h2⟩) hS.2.2 (Nat.le_of_ble_eq_true rfl) (Nat.le_of_ble_eq_true rfl)
  · skip
    subst hs9
    have hl : lv_has ls 3 [(0, .ref o), (1, .int (nI j7))] := hl
    refine lv_astore_n (lv' := [(2, .ref a8), (0, .ref o), (1, .int (nI j7))]) hx hb dX3_fell_5 rfl hl (by decide) rfl (fun ls hl => ?_)
    refine lv_aload_n hx hb dX3_fell_6 rfl (lv_at hl 0 rfl) ?_
    refine lv_ifnonnull (tgt := 20) hx hb dX3_fell_7 (by decide) ?_
    refine lv_aload_n hx hb dX3_fell_20 rfl (lv_at hl 0 rfl) ?_
    obtain ⟨u13, u14, u15, u16, u17, u18, hP, hf⟩ := o_st (i := j7) (q := a8) hM (by omega)
    refine va_get (D := (dC, dI)) (ci := 5) (v := .int u13) (C := RX1) (T := TX1) (N := 15) hx hb hts (by decide +kernel) hown hK hP 0 rfl rfl 9 (by decide) (hts (.fieldLink RX3 213 "Snowpalace$Site" "fallen" "I") (by decide +kernel)) (fun _ h9 => h9) rfl dX3_fell_21 ?_
    refine vx_ret ?_
    refine W.widen (k := 1) (n := 6) (Nat.le_of_ble_eq_true rfl) (Nat.le_of_ble_eq_true rfl) ?_
    exact W.iret (v := u13) hx hb hr (fun t ht hW => ⟨⟨u13, (), rfl, trivial, CX.give hb0 hM hK hG hE hS ht hW⟩, hS.F ht⟩) hS.2.2 dX3_fell_24

set_option maxHeartbeats 4000000 in
set_option maxRecDepth 100000 in
theorem rf_lastFell (l : Launch) (hlt : l.stackTraces = false) (dC : Nat → ClassId) (dI : Nat → Nat → Nat) (kA : Nat → ClassId) (eD b : Nat) (g : Gh) (o : Nat) (site : Int32) (hto : tg g o = 1)  : vx_Met l yX3_lastFell wzX3_lastFell ({ frames := 6, cells := 1, slots := 6, locals := 82 }) (va_Pc [.ref o, .int site] (CX (dC, dI) kA eD b g)) (va_Qi (fun (r : Int32) (u : Unit) => True) (fun (u : Unit) t => CX (dC, dI) kA eD b g t) (fun q => b ≤ q)) (vx_X (fun _ : Unit => True) (fun E _ t => (E = "java/lang/IndexOutOfBoundsException" ∨ E = "java/util/NoSuchElementException") ∧ TM (dC, dI) kA b g t.heap) (fun q => b ≤ q)) 1 6 (fun q => b ≤ q) := by
  refine vx_ofW (cc := cX3_lastFell) (maxL := 3) (ret := (some .int)) (by decide +kernel) rfl ?_
  intro p e s m args below meth c s₁ B hml hnt hv
  obtain ⟨rfl, hb0, hM, hK, hG, hE⟩ := hv
  have hx := B.exec
  have hb := B.bytes
  have hr := B.returns
  have hts := atoms_spec (ws := wzX3_lastFell) B.pre
  have hown : s.vm.findClass RX3 = some m.cls := findClass_of_methodNamed B.named
  have hlocks := B.notSynchronized
  have hT := hE.1
  have hN := hE.2.2.2.2.2.2.2.1
  have hS : va_S (fun q => b ≤ q) s.heap s.heap [] := va_S.rf
  have hl := lv_entry ([.ref o, .int site]) (n := 3) (Nat.le_of_ble_eq_true rfl)
  rw [lg_entry_eq]
  generalize (lg_sl ([.ref o, .int site]) ++ List.replicate (3 - (lg_sl ([.ref o, .int site])).length) Slot.unset).toArray = ls at hl ⊢
  have hl : lv_has ls 3 [(0, .ref o), (1, .int site)] := hl
  generalize ([.ref o, .int site] : List Value).toArray = args at hts ⊢
  refine lv_aload_n hx hb dX3_lastFell_0 rfl (lv_at hl 0 rfl) ?_
  refine lv_iload_n hx hb dX3_lastFell_1 rfl (lv_at hl 1 rfl) ?_
  obtain ⟨u1, u2, u3, u4, hP, hf⟩ := o_sno (i := 0) (q := o) hM (by omega)
  refine va_callq (va_runV (As := [.int site]) (rest := []) ⟨hx, hb, hml, hown, hts⟩ (rk_numberedSite l dC dI kA eD b g o site (by omega)) (cwV 1 hts gX3_lastFell_X3_numberedSite rfl rfl rfl (by decide +kernel) ⟨Nat.le_of_ble_eq_true rfl, Nat.le_of_ble_eq_true rfl⟩) ⟨fb_CX, va_recv hK hP (ci := 7) (q0 := 0) rfl rfl, fun U hU hW => ⟨rfl, CX.give hb0 hM hK hG hE hS hU hW⟩⟩ rfl rfl hl.1 rfl (lv_room (Nat.le_of_ble_eq_true rfl)) dX3_lastFell_2 ⟨(Nat.le_of_ble_eq_true rfl), (Nat.le_of_ble_eq_true rfl)⟩) hS (fun q _ h => h) (fun q h => h) (fun r5 u t H locs ht hvm hw6 hB hz1 hk1 hS => ?_)
  have hM := hB.back ht
  have hG := hB.2.2.2.1
  rcases hw6 with ⟨rfl, hn12⟩ | ⟨j7, a8, rfl, hs9, hj11, ho9, ht10⟩
  · skip
    refine lv_astore_nN (lv' := [(2, .null), (0, .ref o), (1, .int site)]) hx hb dX3_lastFell_5 rfl hl (by decide) rfl (fun ls hl => ?_)
    refine lv_aload_nN hx hb dX3_lastFell_6 rfl (lv_at hl 0 rfl) ?_
    refine lv_ifnonnullN hx hb dX3_lastFell_7 ?_
    obtain ⟨sa, hsa⟩ := hT.2.1 (211, "no such site") (by decide +kernel)
    exact vx_throwS (A := (fun q => b ≤ q)) (own := RX3) (cls := "java/lang/IndexOutOfBoundsException") (text := "no such site") (names := exN) hx hb hlt hown (by decide +kernel) (by decide +kernel) (hts (.classLink RX3 135 "java/lang/IndexOutOfBoundsException") (by decide +kernel)) (hts (.initialized "java/lang/IndexOutOfBoundsException") (by decide +kernel)) hsa (th_hat hT (fun w h => hts w (List.mem_cons_of_mem _ (List.mem_append_right _ h))) th_i4) (th_good th_i4) hT.2.2.2.1 hT.2.2.2.2 hS (hl.1.trans hml.symm) dX3_lastFell_10 dX3_lastFell_13 dX3_lastFell_14 dX3_lastFell_16 dX3_lastFell_19 (fun x h => (hnt x h).elim) (by decide) (Nat.le_of_ble_eq_true rfl) (Nat.le_of_ble_eq_true rfl) (Nat.le_of_ble_eq_true rfl) hlocks (fun t ha h1 h2 => ⟨(), trivial, ⟨(Or.inl rfl), hM.keep h2⟩, th_F hS h1 h2⟩) hS.2.2 (Nat.le_of_ble_eq_true rfl) (Nat.le_of_ble_eq_true rfl)
  · skip
    subst hs9
    have hl : lv_has ls 3 [(0, .ref o), (1, .int (nI j7))] := hl
    refine lv_astore_n (lv' := [(2, .ref a8), (0, .ref o), (1, .int (nI j7))]) hx hb dX3_lastFell_5 rfl hl (by decide) rfl (fun ls hl => ?_)
    refine lv_aload_n hx hb dX3_lastFell_6 rfl (lv_at hl 0 rfl) ?_
    refine lv_ifnonnull (tgt := 20) hx hb dX3_lastFell_7 (by decide) ?_
    refine lv_aload_n hx hb dX3_lastFell_20 rfl (lv_at hl 0 rfl) ?_
    obtain ⟨u13, u14, u15, u16, u17, u18, hP, hf⟩ := o_st (i := j7) (q := a8) hM (by omega)
    refine va_get (D := (dC, dI)) (ci := 5) (v := .int u14) (C := RX1) (T := TX1) (N := 15) hx hb hts (by decide +kernel) hown hK hP 0 rfl rfl 10 (by decide) (hts (.fieldLink RX3 216 "Snowpalace$Site" "lastFallen" "I") (by decide +kernel)) (fun _ h9 => h9) rfl dX3_lastFell_21 ?_
    refine lv_iconst (v := (-1)) hx hb dX3_lastFell_24 (by decide) ?_
    refine lv_icmp_ne (tgt := 38) hx hb dX3_lastFell_25 (by decide) (fun c19 => ?_) (fun c19 => ?_)
    · skip
      refine lv_aload_n hx hb dX3_lastFell_38 rfl (lv_at hl 0 rfl) ?_
      obtain ⟨u20, u21, u22, u23, u24, u25, hP, hf⟩ := o_st (i := j7) (q := a8) hM (by omega)
      refine va_get (D := (dC, dI)) (ci := 5) (v := .int u21) (C := RX1) (T := TX1) (N := 15) hx hb hts (by decide +kernel) hown hK hP 0 rfl rfl 10 (by decide) (hts (.fieldLink RX3 216 "Snowpalace$Site" "lastFallen" "I") (by decide +kernel)) (fun _ h9 => h9) rfl dX3_lastFell_39 ?_
      refine vx_ret ?_
      refine W.widen (k := 1) (n := 6) (Nat.le_of_ble_eq_true rfl) (Nat.le_of_ble_eq_true rfl) ?_
      exact W.iret (v := u21) hx hb hr (fun t ht hW => ⟨⟨u21, (), rfl, trivial, CX.give hb0 hM hK hG hE hS ht hW⟩, hS.F ht⟩) hS.2.2 dX3_lastFell_42
    · skip
      obtain ⟨sa, hsa⟩ := hT.2.1 (219, "none fell") (by decide +kernel)
      exact rt_throwSX (A := (fun q => b ≤ q)) (own := RX3) (cls := "java/util/NoSuchElementException") (text := "none fell") (names := exN) (ix := 13) (rx := prog_38_method_4_code) hx hb hlt rx13_0 rx13_1 rx13_2 rx13_5 hown (by decide +kernel) (by decide +kernel) (hts (.classLink RX3 180 "java/util/NoSuchElementException") (by decide +kernel)) hE.2.2.2.2.2.2.2.2.ini hsa hE.2.2.2.2.2.2.2.2.hat nse_good hT.2.2.2.1 hT.2.2.2.2 hS (hl.1.trans hml.symm) dX3_lastFell_28 dX3_lastFell_31 dX3_lastFell_32 dX3_lastFell_34 dX3_lastFell_37 (fun x h => (hnt x h).elim) (by decide) (Nat.le_of_ble_eq_true rfl) (Nat.le_of_ble_eq_true rfl) (Nat.le_of_ble_eq_true rfl) hlocks (fun t ha h1 h2 => ⟨(), trivial, ⟨(Or.inr rfl), hM.keep h2⟩, th_F hS h1 h2⟩) hS.2.2 (Nat.le_of_ble_eq_true rfl) (Nat.le_of_ble_eq_true rfl)

set_option maxHeartbeats 4000000 in
set_option maxRecDepth 100000 in
theorem rf_hours (l : Launch) (hlt : l.stackTraces = false) (dC : Nat → ClassId) (dI : Nat → Nat → Nat) (kA : Nat → ClassId) (eD b : Nat) (g : Gh) (o : Nat) (site : Int32) (hto : tg g o = 1)  : vx_Met l yX3_hours wsX3_hours ({ frames := 6, cells := 1, slots := 6, locals := 82 }) (va_Pc [.ref o, .int site] (CX (dC, dI) kA eD b g)) (va_Qi (fun (r : Int32) (u : Unit) => True) (fun (u : Unit) t => CX (dC, dI) kA eD b g t) (fun q => b ≤ q)) (vx_X (fun _ : Unit => True) (fun E _ t => (E = "java/lang/IndexOutOfBoundsException") ∧ TM (dC, dI) kA b g t.heap) (fun q => b ≤ q)) 1 6 (fun q => b ≤ q) := by
  refine vx_ofW (cc := cX3_hours) (maxL := 3) (ret := (some .int)) (by decide +kernel) rfl ?_
  intro p e s m args below meth c s₁ B hml hnt hv
  obtain ⟨rfl, hb0, hM, hK, hG, hE⟩ := hv
  have hx := B.exec
  have hb := B.bytes
  have hr := B.returns
  have hts := atoms_spec (ws := wsX3_hours) B.pre
  have hown : s.vm.findClass RX3 = some m.cls := findClass_of_methodNamed B.named
  have hlocks := B.notSynchronized
  have hT := hE.1
  have hN := hE.2.2.2.2.2.2.2.1
  have hS : va_S (fun q => b ≤ q) s.heap s.heap [] := va_S.rf
  have hl := lv_entry ([.ref o, .int site]) (n := 3) (Nat.le_of_ble_eq_true rfl)
  rw [lg_entry_eq]
  generalize (lg_sl ([.ref o, .int site]) ++ List.replicate (3 - (lg_sl ([.ref o, .int site])).length) Slot.unset).toArray = ls at hl ⊢
  have hl : lv_has ls 3 [(0, .ref o), (1, .int site)] := hl
  generalize ([.ref o, .int site] : List Value).toArray = args at hts ⊢
  refine lv_aload_n hx hb dX3_hours_0 rfl (lv_at hl 0 rfl) ?_
  refine lv_iload_n hx hb dX3_hours_1 rfl (lv_at hl 1 rfl) ?_
  obtain ⟨u1, u2, u3, u4, hP, hf⟩ := o_sno (i := 0) (q := o) hM (by omega)
  refine va_callq (va_runV (As := [.int site]) (rest := []) ⟨hx, hb, hml, hown, hts⟩ (rk_numberedSite l dC dI kA eD b g o site (by omega)) (cwV 1 hts gX3_hours_X3_numberedSite rfl rfl rfl (by decide +kernel) ⟨Nat.le_of_ble_eq_true rfl, Nat.le_of_ble_eq_true rfl⟩) ⟨fb_CX, va_recv hK hP (ci := 7) (q0 := 0) rfl rfl, fun U hU hW => ⟨rfl, CX.give hb0 hM hK hG hE hS hU hW⟩⟩ rfl rfl hl.1 rfl (lv_room (Nat.le_of_ble_eq_true rfl)) dX3_hours_2 ⟨(Nat.le_of_ble_eq_true rfl), (Nat.le_of_ble_eq_true rfl)⟩) hS (fun q _ h => h) (fun q h => h) (fun r5 u t H locs ht hvm hw6 hB hz1 hk1 hS => ?_)
  have hM := hB.back ht
  have hG := hB.2.2.2.1
  rcases hw6 with ⟨rfl, hn12⟩ | ⟨j7, a8, rfl, hs9, hj11, ho9, ht10⟩
  · skip
    refine lv_astore_nN (lv' := [(2, .null), (0, .ref o), (1, .int site)]) hx hb dX3_hours_5 rfl hl (by decide) rfl (fun ls hl => ?_)
    refine lv_aload_nN hx hb dX3_hours_6 rfl (lv_at hl 0 rfl) ?_
    refine lv_ifnonnullN hx hb dX3_hours_7 ?_
    obtain ⟨sa, hsa⟩ := hT.2.1 (211, "no such site") (by decide +kernel)
    exact vx_throwS (A := (fun q => b ≤ q)) (own := RX3) (cls := "java/lang/IndexOutOfBoundsException") (text := "no such site") (names := exN) hx hb hlt hown (by decide +kernel) (by decide +kernel) (hts (.classLink RX3 135 "java/lang/IndexOutOfBoundsException") (by decide +kernel)) (hts (.initialized "java/lang/IndexOutOfBoundsException") (by decide +kernel)) hsa (th_hat hT (fun w h => hts w (List.mem_cons_of_mem _ (List.mem_append_right _ h))) th_i4) (th_good th_i4) hT.2.2.2.1 hT.2.2.2.2 hS (hl.1.trans hml.symm) dX3_hours_10 dX3_hours_13 dX3_hours_14 dX3_hours_16 dX3_hours_19 (fun x h => (hnt x h).elim) (by decide) (Nat.le_of_ble_eq_true rfl) (Nat.le_of_ble_eq_true rfl) (Nat.le_of_ble_eq_true rfl) hlocks (fun t ha h1 h2 => ⟨(), trivial, ⟨rfl, hM.keep h2⟩, th_F hS h1 h2⟩) hS.2.2 (Nat.le_of_ble_eq_true rfl) (Nat.le_of_ble_eq_true rfl)
  · skip
    subst hs9
    have hl : lv_has ls 3 [(0, .ref o), (1, .int (nI j7))] := hl
    refine lv_astore_n (lv' := [(2, .ref a8), (0, .ref o), (1, .int (nI j7))]) hx hb dX3_hours_5 rfl hl (by decide) rfl (fun ls hl => ?_)
    refine lv_aload_n hx hb dX3_hours_6 rfl (lv_at hl 0 rfl) ?_
    refine lv_ifnonnull (tgt := 20) hx hb dX3_hours_7 (by decide) ?_
    refine lv_bipush (v := 60) hx hb dX3_hours_20 (by decide) ?_
    refine lv_aload_n hx hb dX3_hours_22 rfl (lv_at hl 0 rfl) ?_
    obtain ⟨u13, u14, u15, u16, u17, u18, hP, hf⟩ := o_st (i := j7) (q := a8) hM (by omega)
    refine va_get (D := (dC, dI)) (ci := 5) (v := .int u16) (C := RX1) (T := TX1) (N := 15) hx hb hts (by decide +kernel) hown hK hP 0 rfl rfl 12 (by decide) (hts (.fieldLink RX3 274 "Snowpalace$Site" "carvedHours" "I") (by decide +kernel)) (fun _ h9 => h9) rfl dX3_hours_23 ?_
    refine lv_isub hx hb dX3_hours_26 ?_
    refine lv_topi (fun v19 e20 => ?_)
    refine vx_ret ?_
    refine W.widen (k := 1) (n := 6) (Nat.le_of_ble_eq_true rfl) (Nat.le_of_ble_eq_true rfl) ?_
    exact W.iret (v := v19) hx hb hr (fun t ht hW => ⟨⟨v19, (), rfl, trivial, CX.give hb0 hM hK hG hE hS ht hW⟩, hS.F ht⟩) hS.2.2 dX3_hours_27

set_option maxHeartbeats 4000000 in
set_option maxRecDepth 100000 in
theorem rf_count (l : Launch) (hlt : l.stackTraces = false) (dC : Nat → ClassId) (dI : Nat → Nat → Nat) (kA : Nat → ClassId) (eD b : Nat) (g : Gh) (o : Nat) (site : Int32) (hto : tg g o = 1)  : vx_Met l yX3_count wsX3_count ({ frames := 6, cells := 1, slots := 6, locals := 82 }) (va_Pc [.ref o, .int site] (CX (dC, dI) kA eD b g)) (va_Qi (fun (r : Int32) (u : Unit) => True) (fun (u : Unit) t => CX (dC, dI) kA eD b g t) (fun q => b ≤ q)) (vx_X (fun _ : Unit => True) (fun E _ t => (E = "java/lang/IndexOutOfBoundsException") ∧ TM (dC, dI) kA b g t.heap) (fun q => b ≤ q)) 1 6 (fun q => b ≤ q) := by
  refine vx_ofW (cc := cX3_count) (maxL := 3) (ret := (some .int)) (by decide +kernel) rfl ?_
  intro p e s m args below meth c s₁ B hml hnt hv
  obtain ⟨rfl, hb0, hM, hK, hG, hE⟩ := hv
  have hx := B.exec
  have hb := B.bytes
  have hr := B.returns
  have hts := atoms_spec (ws := wsX3_count) B.pre
  have hown : s.vm.findClass RX3 = some m.cls := findClass_of_methodNamed B.named
  have hlocks := B.notSynchronized
  have hT := hE.1
  have hN := hE.2.2.2.2.2.2.2.1
  have hS : va_S (fun q => b ≤ q) s.heap s.heap [] := va_S.rf
  have hl := lv_entry ([.ref o, .int site]) (n := 3) (Nat.le_of_ble_eq_true rfl)
  rw [lg_entry_eq]
  generalize (lg_sl ([.ref o, .int site]) ++ List.replicate (3 - (lg_sl ([.ref o, .int site])).length) Slot.unset).toArray = ls at hl ⊢
  have hl : lv_has ls 3 [(0, .ref o), (1, .int site)] := hl
  generalize ([.ref o, .int site] : List Value).toArray = args at hts ⊢
  refine lv_aload_n hx hb dX3_count_0 rfl (lv_at hl 0 rfl) ?_
  refine lv_iload_n hx hb dX3_count_1 rfl (lv_at hl 1 rfl) ?_
  obtain ⟨u1, u2, u3, u4, hP, hf⟩ := o_sno (i := 0) (q := o) hM (by omega)
  refine va_callq (va_runV (As := [.int site]) (rest := []) ⟨hx, hb, hml, hown, hts⟩ (rk_numberedSite l dC dI kA eD b g o site (by omega)) (cwV 1 hts gX3_count_X3_numberedSite rfl rfl rfl (by decide +kernel) ⟨Nat.le_of_ble_eq_true rfl, Nat.le_of_ble_eq_true rfl⟩) ⟨fb_CX, va_recv hK hP (ci := 7) (q0 := 0) rfl rfl, fun U hU hW => ⟨rfl, CX.give hb0 hM hK hG hE hS hU hW⟩⟩ rfl rfl hl.1 rfl (lv_room (Nat.le_of_ble_eq_true rfl)) dX3_count_2 ⟨(Nat.le_of_ble_eq_true rfl), (Nat.le_of_ble_eq_true rfl)⟩) hS (fun q _ h => h) (fun q h => h) (fun r5 u t H locs ht hvm hw6 hB hz1 hk1 hS => ?_)
  have hM := hB.back ht
  have hG := hB.2.2.2.1
  rcases hw6 with ⟨rfl, hn12⟩ | ⟨j7, a8, rfl, hs9, hj11, ho9, ht10⟩
  · skip
    refine lv_astore_nN (lv' := [(2, .null), (0, .ref o), (1, .int site)]) hx hb dX3_count_5 rfl hl (by decide) rfl (fun ls hl => ?_)
    refine lv_aload_nN hx hb dX3_count_6 rfl (lv_at hl 0 rfl) ?_
    refine lv_ifnonnullN hx hb dX3_count_7 ?_
    obtain ⟨sa, hsa⟩ := hT.2.1 (211, "no such site") (by decide +kernel)
    exact vx_throwS (A := (fun q => b ≤ q)) (own := RX3) (cls := "java/lang/IndexOutOfBoundsException") (text := "no such site") (names := exN) hx hb hlt hown (by decide +kernel) (by decide +kernel) (hts (.classLink RX3 135 "java/lang/IndexOutOfBoundsException") (by decide +kernel)) (hts (.initialized "java/lang/IndexOutOfBoundsException") (by decide +kernel)) hsa (th_hat hT (fun w h => hts w (List.mem_cons_of_mem _ (List.mem_append_left _ (List.mem_append_right _ h)))) th_i4) (th_good th_i4) hT.2.2.2.1 hT.2.2.2.2 hS (hl.1.trans hml.symm) dX3_count_10 dX3_count_13 dX3_count_14 dX3_count_16 dX3_count_19 (fun x h => (hnt x h).elim) (by decide) (Nat.le_of_ble_eq_true rfl) (Nat.le_of_ble_eq_true rfl) (Nat.le_of_ble_eq_true rfl) hlocks (fun t ha h1 h2 => ⟨(), trivial, ⟨rfl, hM.keep h2⟩, th_F hS h1 h2⟩) hS.2.2 (Nat.le_of_ble_eq_true rfl) (Nat.le_of_ble_eq_true rfl)
  · skip
    subst hs9
    have hl : lv_has ls 3 [(0, .ref o), (1, .int (nI j7))] := hl
    refine lv_astore_n (lv' := [(2, .ref a8), (0, .ref o), (1, .int (nI j7))]) hx hb dX3_count_5 rfl hl (by decide) rfl (fun ls hl => ?_)
    refine lv_aload_n hx hb dX3_count_6 rfl (lv_at hl 0 rfl) ?_
    refine lv_ifnonnull (tgt := 20) hx hb dX3_count_7 (by decide) ?_
    refine lv_aload_n hx hb dX3_count_20 rfl (lv_at hl 0 rfl) ?_
    obtain ⟨u13, u14, u15, u16, u17, u18, hP, hf⟩ := o_st (i := j7) (q := a8) hM (by omega)
    refine va_calli (va_runV (As := []) (rest := []) ⟨hx, hb, hml, hown, hts⟩ (rk_cellCount l dC dI kA eD b g a8 j7 (by omega)) (cwV 0 hts gX3_count_X1_cellCount rfl rfl rfl (by decide +kernel) ⟨Nat.le_of_ble_eq_true rfl, Nat.le_of_ble_eq_true rfl⟩) ⟨fb_CX, va_recv hK hP (ci := 5) (q0 := 0) rfl rfl, fun U hU hW => ⟨rfl, CX.give hb0 hM hK hG hE hS hU hW⟩⟩ rfl rfl hl.1 rfl (lv_room (Nat.le_of_ble_eq_true rfl)) dX3_count_21 ⟨(Nat.le_of_ble_eq_true rfl), (Nat.le_of_ble_eq_true rfl)⟩) hS (fun q _ h => h) (fun q h => h) (fun r19 u t H locs ht hvm hw20 hB hz1 hk1 hS => ?_)
    have hM := hB.back ht
    have hG := hB.2.2.2.1
    obtain ⟨q21, hq22, rfl⟩ := hw20
    refine vx_ret ?_
    refine W.widen (k := 1) (n := 6) (Nat.le_of_ble_eq_true rfl) (Nat.le_of_ble_eq_true rfl) ?_
    exact W.iret (v := (nI q21)) hx hb hr (fun t ht hW => ⟨⟨(nI q21), (), rfl, trivial, CX.give hb0 hM hK hG hE hS ht hW⟩, hS.F ht⟩) hS.2.2 dX3_count_24

set_option maxHeartbeats 4000000 in
set_option maxRecDepth 100000 in
theorem rf_lamp (l : Launch) (hlt : l.stackTraces = false) (dC : Nat → ClassId) (dI : Nat → Nat → Nat) (kA : Nat → ClassId) (eD b : Nat) (g : Gh) (o : Nat) (site : Int32) (x : Int32) (y : Int32) (is : Int32) (hto : tg g o = 1)  : vx_Met l yX3_lamp wzX3_lamp ({ frames := 6, cells := 1, slots := 6, locals := 82 }) (va_Pc [.ref o, .int site, .int x, .int y, .int is] (CX (dC, dI) kA eD b g)) (va_Qi (fun (r : Int32) (u : Unit) => r = 0 ∨ r = 1) (fun (u : Unit) t => CX (dC, dI) kA eD b g t) (fun q => b ≤ q)) (vx_X (fun _ : Unit => True) (fun E _ t => (E = "java/lang/IndexOutOfBoundsException" ∨ E = "java/util/NoSuchElementException" ∨ E = "java/lang/UnsupportedOperationException") ∧ TM (dC, dI) kA b g t.heap) (fun q => b ≤ q)) 1 6 (fun q => b ≤ q) := by
  refine vx_ofW (cc := cX3_lamp) (maxL := 8) (ret := (some .boolean)) (by decide +kernel) rfl ?_
  intro p e s m args below meth c s₁ B hml hnt hv
  obtain ⟨rfl, hb0, hM, hK, hG, hE⟩ := hv
  have hx := B.exec
  have hb := B.bytes
  have hr := B.returns
  have hts := atoms_spec (ws := wzX3_lamp) B.pre
  have hown : s.vm.findClass RX3 = some m.cls := findClass_of_methodNamed B.named
  have hlocks := B.notSynchronized
  have hT := hE.1
  have hN := hE.2.2.2.2.2.2.2.1
  have hS : va_S (fun q => b ≤ q) s.heap s.heap [] := va_S.rf
  have hl := lv_entry ([.ref o, .int site, .int x, .int y, .int is]) (n := 8) (Nat.le_of_ble_eq_true rfl)
  rw [lg_entry_eq]
  generalize (lg_sl ([.ref o, .int site, .int x, .int y, .int is]) ++ List.replicate (8 - (lg_sl ([.ref o, .int site, .int x, .int y, .int is])).length) Slot.unset).toArray = ls at hl ⊢
  have hl : lv_has ls 8 [(0, .ref o), (1, .int site), (2, .int x), (3, .int y), (4, .int is)] := hl
  generalize ([.ref o, .int site, .int x, .int y, .int is] : List Value).toArray = args at hts ⊢
  refine W.q (fun Q hQ => ?_)
  refine lv_aload_n hx hb dX3_lamp_0 rfl (lv_at hl 0 rfl) ?_
  refine lv_iload_n hx hb dX3_lamp_1 rfl (lv_at hl 1 rfl) ?_
  refine lv_iload_n hx hb dX3_lamp_2 rfl (lv_at hl 2 rfl) ?_
  refine lv_iload_n hx hb dX3_lamp_3 rfl (lv_at hl 3 rfl) ?_
  obtain ⟨u1, u2, u3, u4, hP, hf⟩ := o_sno (i := 0) (q := o) hM (by omega)
  refine va_callq (va_runV (As := [.int site, .int x, .int y]) (rest := []) ⟨hx, hb, hml, hown, hts⟩ (rk_placedSite l dC dI kA eD b g o site x y (by omega)) (cwV 3 hts gX3_lamp_X3_placedSite rfl rfl rfl (by decide +kernel) ⟨Nat.le_of_ble_eq_true rfl, Nat.le_of_ble_eq_true rfl⟩) ⟨fb_CX, va_recv hK hP (ci := 7) (q0 := 0) rfl rfl, fun U hU hW => ⟨rfl, CX.give hb0 hM hK hG hE hS hU hW⟩⟩ rfl rfl hl.1 rfl (lv_room (Nat.le_of_ble_eq_true rfl)) dX3_lamp_4 ⟨(Nat.le_of_ble_eq_true rfl), (Nat.le_of_ble_eq_true rfl)⟩) hS (fun q _ h => h) (fun q h => h) (fun r5 u t H locs ht hvm hw6 hB hz1 hk1 hS => ?_)
  have hM := hB.back ht
  have hG := hB.2.2.2.1
  rcases hw6 with ⟨rfl, hn14⟩ | ⟨j7, a8, jx9, jy10, rfl, rfl, rfl, rfl, hjx9, hjy10, hj13, ho11, ht12⟩
  · skip
    refine lv_astoreN (lv' := [(5, .null), (0, .ref o), (1, .int site), (2, .int x), (3, .int y), (4, .int is)]) hx hb dX3_lamp_7 hl (by decide) rfl (fun ls hl => ?_)
    refine lv_aloadN hx hb dX3_lamp_9 (lv_at hl 0 rfl) ?_
    refine lv_ifnonnullN hx hb dX3_lamp_11 ?_
    obtain ⟨sa, hsa⟩ := hT.2.1 (137, "no such site or place") (by decide +kernel)
    subst hQ
    exact vx_throwS (A := (fun q => b ≤ q)) (own := RX3) (cls := "java/lang/IndexOutOfBoundsException") (text := "no such site or place") (names := exN) hx hb hlt hown (by decide +kernel) (by decide +kernel) (hts (.classLink RX3 135 "java/lang/IndexOutOfBoundsException") (by decide +kernel)) (hts (.initialized "java/lang/IndexOutOfBoundsException") (by decide +kernel)) hsa (th_hat hT (fun w h => hts w (List.mem_cons_of_mem _ (List.mem_append_left _ (List.mem_append_left _ (List.mem_append_right _ h))))) th_i4) (th_good th_i4) hT.2.2.2.1 hT.2.2.2.2 hS (hl.1.trans hml.symm) dX3_lamp_14 dX3_lamp_17 dX3_lamp_18 dX3_lamp_20 dX3_lamp_23 (fun x h => (hnt x h).elim) (by decide) (Nat.le_of_ble_eq_true rfl) (Nat.le_of_ble_eq_true rfl) (Nat.le_of_ble_eq_true rfl) hlocks (fun t ha h1 h2 => ⟨(), trivial, ⟨(Or.inl rfl), hM.keep h2⟩, th_F hS h1 h2⟩) hS.2.2 (Nat.le_of_ble_eq_true rfl) (Nat.le_of_ble_eq_true rfl)
  · skip
    have hl : lv_has ls 8 [(0, .ref o), (1, .int (nI j7)), (2, .int (nI jx9)), (3, .int (nI jy10)), (4, .int is)] := hl
    refine lv_astore (lv' := [(5, .ref a8), (0, .ref o), (1, .int (nI j7)), (2, .int (nI jx9)), (3, .int (nI jy10)), (4, .int is)]) hx hb dX3_lamp_7 hl (by decide) rfl (fun ls hl => ?_)
    refine lv_aload hx hb dX3_lamp_9 (lv_at hl 0 rfl) ?_
    refine lv_ifnonnull (tgt := 24) hx hb dX3_lamp_11 (by decide) ?_
    refine lv_iload_n hx hb dX3_lamp_24 rfl (lv_at hl 3 rfl) ?_
    refine lv_iload_n hx hb dX3_lamp_25 rfl (lv_at hl 4 rfl) ?_
    refine va_calli (va_runS (As := [.int (nI jx9), .int (nI jy10)]) (rest := []) ⟨hx, hb, hml, hown, hts⟩ (rk_placeOf l (nI jx9) (nI jy10)) (va_cwS 2 hts gX3_lamp_X3_placeOf rfl rfl rfl (by decide +kernel) ⟨Nat.le_of_ble_eq_true rfl, Nat.le_of_ble_eq_true rfl⟩) ⟨fun a U g mk q => q, fun U hU hW => ⟨rfl, trivial⟩⟩ rfl rfl hl.1 rfl (lv_room (Nat.le_of_ble_eq_true rfl)) dX3_lamp_26 ⟨(Nat.le_of_ble_eq_true rfl), (Nat.le_of_ble_eq_true rfl)⟩) hS (fun q _ h => h.elim) (fun q h => h.elim) (fun r15 u t H locs ht hvm hw16 hB hz1 hk1 hS => ?_)
    have hM := hM.keep (fun p hp => hk1 p hp (fun z => z))
    obtain rfl : r15 = nI (8 * jy10 + jx9) := hw16.trans (by rw [show (8 : Int32) = nI 8 from rfl]; exact (congrArg (· + nI jx9) (pk_mul 8 jy10)).trans (nI_add _ _))
    refine lv_istore (lv' := [(6, .int (nI (8 * jy10 + jx9))), (5, .ref a8), (0, .ref o), (1, .int (nI j7)), (2, .int (nI jx9)), (3, .int (nI jy10)), (4, .int is)]) hx hb dX3_lamp_29 hl (by decide) rfl (fun ls hl => ?_)
    refine lv_aload hx hb dX3_lamp_31 (lv_at hl 1 rfl) ?_
    refine lv_iload hx hb dX3_lamp_33 (lv_at hl 0 rfl) ?_
    obtain ⟨u17, u18, u19, u20, u21, u22, hP, hf⟩ := o_st (i := j7) (q := a8) hM (by omega)
    refine va_calli (va_runV (As := [.int (nI (8 * jy10 + jx9))]) (rest := []) ⟨hx, hb, hml, hown, hts⟩ (rk_has l dC dI kA eD b g a8 j7 (nI (8 * jy10 + jx9)) (by omega)) (cwV 1 hts gX3_lamp_X1_has rfl rfl rfl (by decide +kernel) ⟨Nat.le_of_ble_eq_true rfl, Nat.le_of_ble_eq_true rfl⟩) ⟨fb_CX, va_recv hK hP (ci := 5) (q0 := 0) rfl rfl, fun U hU hW => ⟨rfl, CX.give hb0 hM hK hG hE hS hU hW⟩⟩ rfl rfl hl.1 rfl (lv_room (Nat.le_of_ble_eq_true rfl)) dX3_lamp_35 ⟨(Nat.le_of_ble_eq_true rfl), (Nat.le_of_ble_eq_true rfl)⟩) hS (fun q _ h => h.elim) (fun q h => h.elim) (fun r23 u t H locs ht hvm hw24 hB hz1 hk1 hS => ?_)
    have hM := hB.back ht
    have hG := hB.2.2.2.1
    refine lv_if_ne (tgt := 51) hx hb dX3_lamp_38 (by decide) (fun c25 => ?_) (fun c25 => ?_)
    · skip
      have hk26 : ¬ (pI g (pF g a8 0)) (8 * jy10 + jx9) = 46 := by obtain ⟨-, jz9, ez9, hz9, hz8⟩ := hw24.resolve_left (fun z => c25 z.1); rw [(nI_eq (a := (8 * jy10 + jx9)) (b := jz9) (by omega) (by omega)).mp ez9]; exact hz8
      refine lv_iload hx hb dX3_lamp_51 (lv_at hl 6 rfl) ?_
      have jn27 : ∀  (H : Heap) (locs : List Loc) (ls : Array Slot), TM (dC, dI) kA b g H → va_S (fun q => b ≤ q) s.heap H locs → lv_has ls 8 [(6, .int (nI (8 * jy10 + jx9))), (5, .ref a8), (0, .ref o), (1, .int (nI j7)), (2, .int (nI jx9)), (3, .int (nI jy10)), (4, .int is)] → W p l e (headSpec wzX3_lamp ({ frames := 6, cells := 1, slots := 6, locals := 82 })).room s m args below meth c H locs 0 0 Q (F0 m 79 ls []) := by
        intro H locs ls hM hS hl
        refine lv_aload hx hb dX3_lamp_79 (lv_at hl 1 rfl) ?_
        obtain ⟨u28, u29, u30, u31, u32, u33, hP, hf⟩ := o_st (i := j7) (q := a8) hM (by omega)
        refine va_get (D := (dC, dI)) (ci := 5) (v := .ref (pF g a8 4)) (C := RX1) (T := TX1) (N := 15) hx hb hts (by decide +kernel) hown hK hP 0 rfl rfl 4 (by decide) (hts (.fieldLink RX3 226 "Snowpalace$Site" "lamps" "[Z") (by decide +kernel)) (fun _ h9 => h9) rfl dX3_lamp_81 ?_
        have ht34 : tg g (pF g a8 4) = 15 := hf.2.2.2.2.1
        refine lv_iload hx hb dX3_lamp_84 (lv_at hl 0 rfl) ?_
        obtain ⟨u35, hP, hf⟩ := o_bo (i := 0) (q := (pF g a8 4)) hM (by omega)
        refine va_zald (D := (dC, dI)) hx hb hK hP 0 1 rfl rfl (vp_in_nI (by omega) (by decide)) dX3_lamp_86 ?_
        refine lv_topi (fun v36 e37 => ?_)
        have ec : ((nI (8 * jy10 + jx9)) : Int32).toNatClampNeg = (8 * jy10 + jx9) := nI_clamp (by omega)
        rw [ec] at e37
        have hu38 := hf (8 * jy10 + jx9) (by omega)
        rw [← e37] at hu38
        refine lv_istore (lv' := [(7, .int v36), (6, .int (nI (8 * jy10 + jx9))), (5, .ref a8), (0, .ref o), (1, .int (nI j7)), (2, .int (nI jx9)), (3, .int (nI jy10)), (4, .int is)]) hx hb dX3_lamp_87 hl (by decide) rfl (fun ls hl => ?_)
        refine lv_aload hx hb dX3_lamp_89 (lv_at hl 2 rfl) ?_
        obtain ⟨u39, u40, u41, u42, u43, u44, hP, hf⟩ := o_st (i := j7) (q := a8) hM (by omega)
        refine va_get (D := (dC, dI)) (ci := 5) (v := .ref (pF g a8 4)) (C := RX1) (T := TX1) (N := 15) hx hb hts (by decide +kernel) hown hK hP 0 rfl rfl 4 (by decide) (hts (.fieldLink RX3 226 "Snowpalace$Site" "lamps" "[Z") (by decide +kernel)) (fun _ h9 => h9) rfl dX3_lamp_91 ?_
        refine lv_iload hx hb dX3_lamp_94 (lv_at hl 1 rfl) ?_
        refine lv_iload hx hb dX3_lamp_96 (lv_at hl 7 rfl) ?_
        obtain ⟨u45, hP, hf⟩ := o_bo (i := 0) (q := (pF g a8 4)) hM (by omega)
        refine rt_zast (D := (dC, dI)) (t0 := 1) hx hb hK hP (hM.ge (by omega)) hS rfl (vp_in_nI (by omega) (by decide)) dX3_lamp_98 (fun H locs hP hz ho hS => ?_)
        have ec : ((nI (8 * jy10 + jx9)) : Int32).toNatClampNeg = (8 * jy10 + jx9) := nI_clamp (by omega)
        rw [ec] at hP
        have hM := s_bo (i := 0) hM (by omega) hP ho (isZ_upd hf)
        refine lv_iload hx hb dX3_lamp_99 (lv_at hl 7 rfl) ?_
        have jn46 : ∀  (H : Heap) (locs : List Loc) (ls : Array Slot), TM (dC, dI) kA b g H → va_S (fun q => b ≤ q) s.heap H locs → lv_has ls 8 [(7, .int v36), (6, .int (nI (8 * jy10 + jx9))), (5, .ref a8), (0, .ref o), (1, .int (nI j7)), (2, .int (nI jx9)), (3, .int (nI jy10)), (4, .int is)] → W p l e (headSpec wzX3_lamp ({ frames := 6, cells := 1, slots := 6, locals := 82 })).room s m args below meth c H locs 0 0 Q (F0 m 120 ls []) := by
          intro H locs ls hM hS hl
          refine lv_iload hx hb dX3_lamp_120 (lv_at hl 0 rfl) ?_
          subst hQ
          refine vx_ret ?_
          refine W.widen (k := 1) (n := 6) (Nat.le_of_ble_eq_true rfl) (Nat.le_of_ble_eq_true rfl) ?_
          exact W.zret (v := v36) (ty := .boolean) hx hb hr (z01n hu38) (fun t ht hW => ⟨⟨v36, (), rfl, hu38, CX.give hb0 hM hK hG hE hS ht hW⟩, hS.F ht⟩) hS.2.2 dX3_lamp_122
        refine lv_if_eq (tgt := 120) hx hb dX3_lamp_101 (by decide) (fun c47 => ?_) (fun c47 => ?_)
        · skip
          exact jn46 H _ ls hM hS (lv_sub hl [0, 1, 2, 3, 4, 5, 6, 7] rfl)
        · skip
          refine lv_iload hx hb dX3_lamp_104 (lv_at hl 0 rfl) ?_
          refine lv_if_ne (tgt := 120) hx hb dX3_lamp_106 (by decide) (fun c48 => ?_) (fun c48 => ?_)
          · skip
            exact jn46 H _ ls hM hS (lv_sub hl [0, 1, 2, 3, 4, 5, 6, 7] rfl)
          · skip
            refine lv_aload_n hx hb dX3_lamp_109 rfl (lv_at hl 3 rfl) ?_
            refine lv_dup hx hb dX3_lamp_110 rfl ?_
            obtain ⟨u49, u50, u51, u52, hP, hf⟩ := o_sno (i := 0) (q := o) hM (by omega)
            refine va_get (D := (dC, dI)) (ci := 7) (v := .int u52) (C := RX3) (T := TX3) (N := 10) hx hb hts (by decide +kernel) hown hK hP 0 rfl rfl 9 (by decide) (hts (.fieldLink RX3 49 "Snowpalace" "funds" "I") (by decide +kernel)) (fun _ h9 => h9) rfl dX3_lamp_111 ?_
            refine lv_bipush (v := 50) hx hb dX3_lamp_114 (by decide) ?_
            refine lv_isub hx hb dX3_lamp_116 ?_
            refine lv_topi (fun v53 e54 => ?_)
            obtain ⟨u55, u56, u57, u58, hP, hf⟩ := o_sno (i := 0) (q := o) hM (by omega)
            refine rt_put (D := (dC, dI)) (ci := 7) (v := .int v53) (ty := .int) (C := RX3) (T := TX3) (N := 10) hx hb hts (by decide +kernel) tyX3 tyX3_ok nmX3 hown hK hP (hM.ge (by omega)) hS rfl 9 (by decide) (hts (.fieldLink RX3 49 "Snowpalace" "funds" "I") (by decide +kernel)) (fun _ h9 => h9) rfl (by decide +kernel) rfl rfl (Nat.le_of_ble_eq_true rfl) dX3_lamp_117 (fun H locs hP hz ho hS => ?_)
            have hM := s_sno (i := 0) hM (by omega) hP ho hf
            exact jn46 H _ ls hM hS (lv_sub hl [0, 1, 2, 3, 4, 5, 6, 7] rfl)
      refine lv_if_eq (tgt := 79) hx hb dX3_lamp_53 (by decide) (fun c59 => ?_) (fun c59 => ?_)
      · skip
        exact jn27 H _ ls hM hS (lv_sub hl [0, 1, 2, 3, 4, 5, 6] rfl)
      · skip
        refine lv_aload hx hb dX3_lamp_56 (lv_at hl 1 rfl) ?_
        obtain ⟨u60, u61, u62, u63, u64, u65, hP, hf⟩ := o_st (i := j7) (q := a8) hM (by omega)
        refine va_get (D := (dC, dI)) (ci := 5) (v := .ref (pF g a8 0)) (C := RX1) (T := TX1) (N := 15) hx hb hts (by decide +kernel) hown hK hP 0 rfl rfl 0 (by decide) (hts (.fieldLink RX3 176 "Snowpalace$Site" "kinds" "[C") (by decide +kernel)) (fun _ h9 => h9) rfl dX3_lamp_58 ?_
        have ht66 : tg g (pF g a8 0) = 13 + 64 * j7 := hf.1
        refine lv_iload hx hb dX3_lamp_61 (lv_at hl 0 rfl) ?_
        obtain ⟨hP, hf⟩ := o_kn (i := j7) (q := (pF g a8 0)) hM (by omega)
        refine va_cald (D := (dC, dI)) hx hb hK hP 0 2 rfl rfl (vp_in_nI (by omega) (by decide)) dX3_lamp_63 ?_
        refine lv_topi (fun v67 e68 => ?_)
        have ec : ((nI (8 * jy10 + jx9)) : Int32).toNatClampNeg = (8 * jy10 + jx9) := nI_clamp (by omega)
        rw [ec] at e68
        subst e68
        have hu69 := hf (8 * jy10 + jx9) (by omega)
        refine lv_bipush (v := 115) hx hb dX3_lamp_64 (by decide) ?_
        refine lv_icmp_ne (tgt := 79) hx hb dX3_lamp_66 (by decide) (fun c70 => ?_) (fun c70 => ?_)
        · skip
          exact jn27 H _ ls hM hS (lv_sub hl [0, 1, 2, 3, 4, 5, 6] rfl)
        · skip
          obtain ⟨sa, hsa⟩ := hT.2.1 (224, "no lamp is in snow") (by decide +kernel)
          subst hQ
          exact vx_throwS (A := (fun q => b ≤ q)) (own := RX3) (cls := "java/lang/UnsupportedOperationException") (text := "no lamp is in snow") (names := exN) hx hb hlt hown (by decide +kernel) (by decide +kernel) (hts (.classLink RX3 63 "java/lang/UnsupportedOperationException") (by decide +kernel)) (hts (.initialized "java/lang/UnsupportedOperationException") (by decide +kernel)) hsa (th_hat hT (fun w h => hts w (List.mem_cons_of_mem _ (List.mem_append_right _ h))) th_i2) (th_good th_i2) hT.2.2.2.1 hT.2.2.2.2 hS (hl.1.trans hml.symm) dX3_lamp_69 dX3_lamp_72 dX3_lamp_73 dX3_lamp_75 dX3_lamp_78 (fun x h => (hnt x h).elim) (by decide) (Nat.le_of_ble_eq_true rfl) (Nat.le_of_ble_eq_true rfl) (Nat.le_of_ble_eq_true rfl) hlocks (fun t ha h1 h2 => ⟨(), trivial, ⟨(Or.inr (Or.inr rfl)), hM.keep h2⟩, th_F hS h1 h2⟩) hS.2.2 (Nat.le_of_ble_eq_true rfl) (Nat.le_of_ble_eq_true rfl)
    · skip
      have hk71 : (pI g (pF g a8 0)) (8 * jy10 + jx9) = 46 := (hw24.resolve_right (fun z => absurd (z.1.symm.trans c25) (by decide))).2 (8 * jy10 + jx9) rfl (by omega)
      obtain ⟨sa, hsa⟩ := hT.2.1 (182, "no cell is there") (by decide +kernel)
      subst hQ
      exact rt_throwSX (A := (fun q => b ≤ q)) (own := RX3) (cls := "java/util/NoSuchElementException") (text := "no cell is there") (names := exN) (ix := 13) (rx := prog_38_method_4_code) hx hb hlt rx13_0 rx13_1 rx13_2 rx13_5 hown (by decide +kernel) (by decide +kernel) (hts (.classLink RX3 180 "java/util/NoSuchElementException") (by decide +kernel)) hE.2.2.2.2.2.2.2.2.ini hsa hE.2.2.2.2.2.2.2.2.hat nse_good hT.2.2.2.1 hT.2.2.2.2 hS (hl.1.trans hml.symm) dX3_lamp_41 dX3_lamp_44 dX3_lamp_45 dX3_lamp_47 dX3_lamp_50 (fun x h => (hnt x h).elim) (by decide) (Nat.le_of_ble_eq_true rfl) (Nat.le_of_ble_eq_true rfl) (Nat.le_of_ble_eq_true rfl) hlocks (fun t ha h1 h2 => ⟨(), trivial, ⟨(Or.inr (Or.inl rfl)), hM.keep h2⟩, th_F hS h1 h2⟩) hS.2.2 (Nat.le_of_ble_eq_true rfl) (Nat.le_of_ble_eq_true rfl)

set_option maxHeartbeats 4000000 in
set_option maxRecDepth 100000 in
theorem rf_isOpen (l : Launch) (hlt : l.stackTraces = false) (dC : Nat → ClassId) (dI : Nat → Nat → Nat) (kA : Nat → ClassId) (eD b : Nat) (g : Gh) (o : Nat) (site : Int32) (hto : tg g o = 1)  : vx_Met l yX3_isOpen wsX3_isOpen ({ frames := 6, cells := 1, slots := 6, locals := 94 }) (va_Pc [.ref o, .int site] (CX (dC, dI) kA eD b g)) (va_Qi (fun (r : Int32) (u : Unit) => r = 0 ∨ r = 1) (fun (u : Unit) t => CX (dC, dI) kA eD b g t) (fun q => b ≤ q)) (vx_X (fun _ : Unit => True) (fun E _ t => (E = "java/lang/IndexOutOfBoundsException") ∧ TM (dC, dI) kA b g t.heap) (fun q => b ≤ q)) 1 6 (fun q => b ≤ q) := by
  refine vx_ofW (cc := cX3_isOpen) (maxL := 3) (ret := (some .boolean)) (by decide +kernel) rfl ?_
  intro p e s m args below meth c s₁ B hml hnt hv
  obtain ⟨rfl, hb0, hM, hK, hG, hE⟩ := hv
  have hx := B.exec
  have hb := B.bytes
  have hr := B.returns
  have hts := atoms_spec (ws := wsX3_isOpen) B.pre
  have hown : s.vm.findClass RX3 = some m.cls := findClass_of_methodNamed B.named
  have hlocks := B.notSynchronized
  have hT := hE.1
  have hN := hE.2.2.2.2.2.2.2.1
  have hS : va_S (fun q => b ≤ q) s.heap s.heap [] := va_S.rf
  have hl := lv_entry ([.ref o, .int site]) (n := 3) (Nat.le_of_ble_eq_true rfl)
  rw [lg_entry_eq]
  generalize (lg_sl ([.ref o, .int site]) ++ List.replicate (3 - (lg_sl ([.ref o, .int site])).length) Slot.unset).toArray = ls at hl ⊢
  have hl : lv_has ls 3 [(0, .ref o), (1, .int site)] := hl
  generalize ([.ref o, .int site] : List Value).toArray = args at hts ⊢
  refine lv_aload_n hx hb dX3_isOpen_0 rfl (lv_at hl 0 rfl) ?_
  refine lv_iload_n hx hb dX3_isOpen_1 rfl (lv_at hl 1 rfl) ?_
  obtain ⟨u1, u2, u3, u4, hP, hf⟩ := o_sno (i := 0) (q := o) hM (by omega)
  refine va_callq (va_runV (As := [.int site]) (rest := []) ⟨hx, hb, hml, hown, hts⟩ (rk_numberedSite l dC dI kA eD b g o site (by omega)) (cwV 1 hts gX3_isOpen_X3_numberedSite rfl rfl rfl (by decide +kernel) ⟨Nat.le_of_ble_eq_true rfl, Nat.le_of_ble_eq_true rfl⟩) ⟨fb_CX, va_recv hK hP (ci := 7) (q0 := 0) rfl rfl, fun U hU hW => ⟨rfl, CX.give hb0 hM hK hG hE hS hU hW⟩⟩ rfl rfl hl.1 rfl (lv_room (Nat.le_of_ble_eq_true rfl)) dX3_isOpen_2 ⟨(Nat.le_of_ble_eq_true rfl), (Nat.le_of_ble_eq_true rfl)⟩) hS (fun q _ h => h) (fun q h => h) (fun r5 u t H locs ht hvm hw6 hB hz1 hk1 hS => ?_)
  have hM := hB.back ht
  have hG := hB.2.2.2.1
  rcases hw6 with ⟨rfl, hn12⟩ | ⟨j7, a8, rfl, hs9, hj11, ho9, ht10⟩
  · skip
    refine lv_astore_nN (lv' := [(2, .null), (0, .ref o), (1, .int site)]) hx hb dX3_isOpen_5 rfl hl (by decide) rfl (fun ls hl => ?_)
    refine lv_aload_nN hx hb dX3_isOpen_6 rfl (lv_at hl 0 rfl) ?_
    refine lv_ifnonnullN hx hb dX3_isOpen_7 ?_
    obtain ⟨sa, hsa⟩ := hT.2.1 (211, "no such site") (by decide +kernel)
    exact vx_throwS (A := (fun q => b ≤ q)) (own := RX3) (cls := "java/lang/IndexOutOfBoundsException") (text := "no such site") (names := exN) hx hb hlt hown (by decide +kernel) (by decide +kernel) (hts (.classLink RX3 135 "java/lang/IndexOutOfBoundsException") (by decide +kernel)) (hts (.initialized "java/lang/IndexOutOfBoundsException") (by decide +kernel)) hsa (th_hat hT (fun w h => hts w (List.mem_cons_of_mem _ (List.mem_append_left _ (List.mem_append_right _ h)))) th_i4) (th_good th_i4) hT.2.2.2.1 hT.2.2.2.2 hS (hl.1.trans hml.symm) dX3_isOpen_10 dX3_isOpen_13 dX3_isOpen_14 dX3_isOpen_16 dX3_isOpen_19 (fun x h => (hnt x h).elim) (by decide) (Nat.le_of_ble_eq_true rfl) (Nat.le_of_ble_eq_true rfl) (Nat.le_of_ble_eq_true rfl) hlocks (fun t ha h1 h2 => ⟨(), trivial, ⟨rfl, hM.keep h2⟩, th_F hS h1 h2⟩) hS.2.2 (Nat.le_of_ble_eq_true rfl) (Nat.le_of_ble_eq_true rfl)
  · skip
    subst hs9
    have hl : lv_has ls 3 [(0, .ref o), (1, .int (nI j7))] := hl
    refine lv_astore_n (lv' := [(2, .ref a8), (0, .ref o), (1, .int (nI j7))]) hx hb dX3_isOpen_5 rfl hl (by decide) rfl (fun ls hl => ?_)
    refine lv_aload_n hx hb dX3_isOpen_6 rfl (lv_at hl 0 rfl) ?_
    refine lv_ifnonnull (tgt := 20) hx hb dX3_isOpen_7 (by decide) ?_
    refine lv_aload_n hx hb dX3_isOpen_20 rfl (lv_at hl 0 rfl) ?_
    refine lv_iconst (v := (-1)) hx hb dX3_isOpen_21 (by decide) ?_
    refine lv_iconst (v := 0) hx hb dX3_isOpen_22 (by decide) ?_
    refine lv_aload_n hx hb dX3_isOpen_23 rfl (lv_at hl 1 rfl) ?_
    obtain ⟨u13, u14, u15, u16, hP, hf⟩ := o_sno (i := 0) (q := o) hM (by omega)
    refine va_get (D := (dC, dI)) (ci := 7) (v := .ref (pF g o 0)) (C := RX3) (T := TX3) (N := 10) hx hb hts (by decide +kernel) hown hK hP 0 rfl rfl 0 (by decide) (hts (.fieldLink RX3 10 "Snowpalace" "sky" "LSnowpalace$Sky;") (by decide +kernel)) (fun _ h9 => h9) rfl dX3_isOpen_24 ?_
    have ht17 : tg g (pF g o 0) = 2 := hf.1
    refine lv_aload_n hx hb dX3_isOpen_27 rfl (lv_at hl 1 rfl) ?_
    obtain ⟨u18, u19, u20, u21, hP, hf⟩ := o_sno (i := 0) (q := o) hM (by omega)
    refine va_get (D := (dC, dI)) (ci := 7) (v := .int (pI g o 1)) (C := RX3) (T := TX3) (N := 10) hx hb hts (by decide +kernel) hown hK hP 0 rfl rfl 4 (by decide) (hts (.fieldLink RX3 33 "Snowpalace" "clock" "I") (by decide +kernel)) (fun _ h9 => h9) rfl dX3_isOpen_28 ?_
    have hv22 := hf.2.2.2.2.1
    obtain ⟨hP, hf⟩ := o_sky (i := 0) (q := (pF g o 0)) hM (by omega)
    refine va_calli (va_runV (As := [.int (pI g o 1)]) (rest := [.int 0, .int (-1), .ref a8]) ⟨hx, hb, hml, hown, hts⟩ (rk_warmthOf l dC dI kA eD b g (pF g o 0) (pI g o 1) (by omega)) (cwV 1 hts gX3_isOpen_X2_warmthOf rfl rfl rfl (by decide +kernel) ⟨Nat.le_of_ble_eq_true rfl, Nat.le_of_ble_eq_true rfl⟩) ⟨fb_CX, va_recv hK hP (ci := 6) (q0 := 0) rfl rfl, fun U hU hW => ⟨rfl, CX.give hb0 hM hK hG hE hS hU hW⟩⟩ rfl rfl hl.1 rfl (lv_room (Nat.le_of_ble_eq_true rfl)) dX3_isOpen_31 ⟨(Nat.le_of_ble_eq_true rfl), (Nat.le_of_ble_eq_true rfl)⟩) hS (fun q _ h => h) (fun q h => h) (fun r23 u t H locs ht hvm hw24 hB hz1 hk1 hS => ?_)
    have hM := hB.back ht
    have hG := hB.2.2.2.1
    obtain ⟨u25, u26, u27, u28, u29, u30, hP, hf⟩ := o_st (i := j7) (q := a8) hM (by omega)
    refine va_calli (va_runV (As := [.int (-1), .int 0, .int r23]) (rest := []) ⟨hx, hb, hml, hown, hts⟩ (rk_isOpenWith l dC dI kA eD b g a8 j7 (-1) 0 r23 (by omega)) (cwV 3 hts gX3_isOpen_X1_isOpenWith rfl rfl rfl (by decide +kernel) ⟨Nat.le_of_ble_eq_true rfl, Nat.le_of_ble_eq_true rfl⟩) ⟨fb_CX, va_recv hK hP (ci := 5) (q0 := 0) rfl rfl, fun U hU hW => ⟨rfl, CX.give hb0 hM hK hG hE hS hU hW⟩⟩ rfl rfl hl.1 rfl (lv_room (Nat.le_of_ble_eq_true rfl)) dX3_isOpen_34 ⟨(Nat.le_of_ble_eq_true rfl), (Nat.le_of_ble_eq_true rfl)⟩) hS (fun q _ h => h) (fun q h => h) (fun r31 u t H locs ht hvm hw32 hB hz1 hk1 hS => ?_)
    have hM := hB.back ht
    have hG := hB.2.2.2.1
    refine vx_ret ?_
    refine W.widen (k := 1) (n := 6) (Nat.le_of_ble_eq_true rfl) (Nat.le_of_ble_eq_true rfl) ?_
    exact W.zret (v := r31) (ty := .boolean) hx hb hr (z01n hw32) (fun t ht hW => ⟨⟨r31, (), rfl, hw32, CX.give hb0 hM hK hG hE hS ht hW⟩, hS.F ht⟩) hS.2.2 dX3_isOpen_37

set_option maxHeartbeats 4000000 in
set_option maxRecDepth 100000 in
theorem rf_visit (l : Launch) (hlt : l.stackTraces = false) (dC : Nat → ClassId) (dI : Nat → Nat → Nat) (kA : Nat → ClassId) (eD b : Nat) (g : Gh) (o : Nat) (site : Int32) (pe : Int32) (hto : tg g o = 1)  : vx_Met l yX3_visit wsX3_visit ({ frames := 6, cells := 1, slots := 6, locals := 94 }) (va_Pc [.ref o, .int site, .int pe] (CX (dC, dI) kA eD b g)) (va_Qi (fun (r : Int32) (u : Unit) => True) (fun (u : Unit) t => CX (dC, dI) kA eD b g t) (fun q => b ≤ q)) (vx_X (fun _ : Unit => True) (fun E _ t => (E = "java/lang/IndexOutOfBoundsException" ∨ E = "java/lang/IllegalArgumentException" ∨ E = "java/lang/UnsupportedOperationException") ∧ TM (dC, dI) kA b g t.heap) (fun q => b ≤ q)) 1 6 (fun q => b ≤ q) := by
  refine vx_ofW (cc := cX3_visit) (maxL := 4) (ret := (some .int)) (by decide +kernel) rfl ?_
  intro p e s m args below meth c s₁ B hml hnt hv
  obtain ⟨rfl, hb0, hM, hK, hG, hE⟩ := hv
  have hx := B.exec
  have hb := B.bytes
  have hr := B.returns
  have hts := atoms_spec (ws := wsX3_visit) B.pre
  have hown : s.vm.findClass RX3 = some m.cls := findClass_of_methodNamed B.named
  have hlocks := B.notSynchronized
  have hT := hE.1
  have hN := hE.2.2.2.2.2.2.2.1
  have hS : va_S (fun q => b ≤ q) s.heap s.heap [] := va_S.rf
  have hl := lv_entry ([.ref o, .int site, .int pe]) (n := 4) (Nat.le_of_ble_eq_true rfl)
  rw [lg_entry_eq]
  generalize (lg_sl ([.ref o, .int site, .int pe]) ++ List.replicate (4 - (lg_sl ([.ref o, .int site, .int pe])).length) Slot.unset).toArray = ls at hl ⊢
  have hl : lv_has ls 4 [(0, .ref o), (1, .int site), (2, .int pe)] := hl
  generalize ([.ref o, .int site, .int pe] : List Value).toArray = args at hts ⊢
  refine lv_aload_n hx hb dX3_visit_0 rfl (lv_at hl 0 rfl) ?_
  refine lv_iload_n hx hb dX3_visit_1 rfl (lv_at hl 1 rfl) ?_
  obtain ⟨u1, u2, u3, u4, hP, hf⟩ := o_sno (i := 0) (q := o) hM (by omega)
  refine va_callq (va_runV (As := [.int site]) (rest := []) ⟨hx, hb, hml, hown, hts⟩ (rk_numberedSite l dC dI kA eD b g o site (by omega)) (cwV 1 hts gX3_visit_X3_numberedSite rfl rfl rfl (by decide +kernel) ⟨Nat.le_of_ble_eq_true rfl, Nat.le_of_ble_eq_true rfl⟩) ⟨fb_CX, va_recv hK hP (ci := 7) (q0 := 0) rfl rfl, fun U hU hW => ⟨rfl, CX.give hb0 hM hK hG hE hS hU hW⟩⟩ rfl rfl hl.1 rfl (lv_room (Nat.le_of_ble_eq_true rfl)) dX3_visit_2 ⟨(Nat.le_of_ble_eq_true rfl), (Nat.le_of_ble_eq_true rfl)⟩) hS (fun q _ h => h) (fun q h => h) (fun r5 u t H locs ht hvm hw6 hB hz1 hk1 hS => ?_)
  have hM := hB.back ht
  have hG := hB.2.2.2.1
  rcases hw6 with ⟨rfl, hn12⟩ | ⟨j7, a8, rfl, hs9, hj11, ho9, ht10⟩
  · skip
    refine lv_astore_nN (lv' := [(3, .null), (0, .ref o), (1, .int site), (2, .int pe)]) hx hb dX3_visit_5 rfl hl (by decide) rfl (fun ls hl => ?_)
    refine lv_aload_nN hx hb dX3_visit_6 rfl (lv_at hl 0 rfl) ?_
    refine lv_ifnonnullN hx hb dX3_visit_7 ?_
    obtain ⟨sa, hsa⟩ := hT.2.1 (211, "no such site") (by decide +kernel)
    exact vx_throwS (A := (fun q => b ≤ q)) (own := RX3) (cls := "java/lang/IndexOutOfBoundsException") (text := "no such site") (names := exN) hx hb hlt hown (by decide +kernel) (by decide +kernel) (hts (.classLink RX3 135 "java/lang/IndexOutOfBoundsException") (by decide +kernel)) (hts (.initialized "java/lang/IndexOutOfBoundsException") (by decide +kernel)) hsa (th_hat hT (fun w h => hts w (List.mem_cons_of_mem _ (List.mem_append_left _ (List.mem_append_left _ (List.mem_append_left _ (List.mem_append_right _ h)))))) th_i4) (th_good th_i4) hT.2.2.2.1 hT.2.2.2.2 hS (hl.1.trans hml.symm) dX3_visit_10 dX3_visit_13 dX3_visit_14 dX3_visit_16 dX3_visit_19 (fun x h => (hnt x h).elim) (by decide) (Nat.le_of_ble_eq_true rfl) (Nat.le_of_ble_eq_true rfl) (Nat.le_of_ble_eq_true rfl) hlocks (fun t ha h1 h2 => ⟨(), trivial, ⟨(Or.inl rfl), hM.keep h2⟩, th_F hS h1 h2⟩) hS.2.2 (Nat.le_of_ble_eq_true rfl) (Nat.le_of_ble_eq_true rfl)
  · skip
    subst hs9
    have hl : lv_has ls 4 [(0, .ref o), (1, .int (nI j7)), (2, .int pe)] := hl
    refine lv_astore_n (lv' := [(3, .ref a8), (0, .ref o), (1, .int (nI j7)), (2, .int pe)]) hx hb dX3_visit_5 rfl hl (by decide) rfl (fun ls hl => ?_)
    refine lv_aload_n hx hb dX3_visit_6 rfl (lv_at hl 0 rfl) ?_
    refine lv_ifnonnull (tgt := 20) hx hb dX3_visit_7 (by decide) ?_
    refine lv_iload_n hx hb dX3_visit_20 rfl (lv_at hl 3 rfl) ?_
    refine lv_iconst (v := 1) hx hb dX3_visit_21 (by decide) ?_
    refine lv_sipush (v := 500) hx hb dX3_visit_22 (by decide) ?_
    refine va_calli (va_runS (As := [.int pe, .int 1, .int 500]) (rest := []) ⟨hx, hb, hml, hown, hts⟩ (rk_isWithin l pe 1 500 (1) (500) (by decide) (by decide)) (va_cwS 3 hts gX3_visit_X3_isWithin rfl rfl rfl (by decide +kernel) ⟨Nat.le_of_ble_eq_true rfl, Nat.le_of_ble_eq_true rfl⟩) ⟨fun a U g mk q => q, fun U hU hW => ⟨rfl, trivial⟩⟩ rfl rfl hl.1 rfl (lv_room (Nat.le_of_ble_eq_true rfl)) dX3_visit_25 ⟨(Nat.le_of_ble_eq_true rfl), (Nat.le_of_ble_eq_true rfl)⟩) hS (fun q _ h => h.elim) (fun q h => h.elim) (fun r13 u t H locs ht hvm hw14 hB hz1 hk1 hS => ?_)
    have hM := hM.keep (fun p hp => hk1 p hp (fun z => z))
    have hw14 : r13 = bI ((1 : Int) ≤ pe.toInt ∧ pe.toInt ≤ (500 : Int)) := hw14
    refine lv_if_ne (tgt := 41) hx hb dX3_visit_28 (by decide) (fun c15 => ?_) (fun c15 => ?_)
    · skip
      have g16 : (1 : Int) ≤ pe.toInt ∧ pe.toInt ≤ (500 : Int) := bI_t hw14 c15
      have zg16 : r13 = 1 := bI_t1 hw14 g16
      refine lv_aload_n hx hb dX3_visit_41 rfl (lv_at hl 0 rfl) ?_
      refine lv_iconst (v := (-1)) hx hb dX3_visit_42 (by decide) ?_
      refine lv_iconst (v := 0) hx hb dX3_visit_43 (by decide) ?_
      refine lv_aload_n hx hb dX3_visit_44 rfl (lv_at hl 1 rfl) ?_
      obtain ⟨u17, u18, u19, u20, hP, hf⟩ := o_sno (i := 0) (q := o) hM (by omega)
      refine va_get (D := (dC, dI)) (ci := 7) (v := .ref (pF g o 0)) (C := RX3) (T := TX3) (N := 10) hx hb hts (by decide +kernel) hown hK hP 0 rfl rfl 0 (by decide) (hts (.fieldLink RX3 10 "Snowpalace" "sky" "LSnowpalace$Sky;") (by decide +kernel)) (fun _ h9 => h9) rfl dX3_visit_45 ?_
      have ht21 : tg g (pF g o 0) = 2 := hf.1
      refine lv_aload_n hx hb dX3_visit_48 rfl (lv_at hl 1 rfl) ?_
      obtain ⟨u22, u23, u24, u25, hP, hf⟩ := o_sno (i := 0) (q := o) hM (by omega)
      refine va_get (D := (dC, dI)) (ci := 7) (v := .int (pI g o 1)) (C := RX3) (T := TX3) (N := 10) hx hb hts (by decide +kernel) hown hK hP 0 rfl rfl 4 (by decide) (hts (.fieldLink RX3 33 "Snowpalace" "clock" "I") (by decide +kernel)) (fun _ h9 => h9) rfl dX3_visit_49 ?_
      have hv26 := hf.2.2.2.2.1
      obtain ⟨hP, hf⟩ := o_sky (i := 0) (q := (pF g o 0)) hM (by omega)
      refine va_calli (va_runV (As := [.int (pI g o 1)]) (rest := [.int 0, .int (-1), .ref a8]) ⟨hx, hb, hml, hown, hts⟩ (rk_warmthOf l dC dI kA eD b g (pF g o 0) (pI g o 1) (by omega)) (cwV 1 hts gX3_visit_X2_warmthOf rfl rfl rfl (by decide +kernel) ⟨Nat.le_of_ble_eq_true rfl, Nat.le_of_ble_eq_true rfl⟩) ⟨fb_CX, va_recv hK hP (ci := 6) (q0 := 0) rfl rfl, fun U hU hW => ⟨rfl, CX.give hb0 hM hK hG hE hS hU hW⟩⟩ rfl rfl hl.1 rfl (lv_room (Nat.le_of_ble_eq_true rfl)) dX3_visit_52 ⟨(Nat.le_of_ble_eq_true rfl), (Nat.le_of_ble_eq_true rfl)⟩) hS (fun q _ h => h) (fun q h => h) (fun r27 u t H locs ht hvm hw28 hB hz1 hk1 hS => ?_)
      have hM := hB.back ht
      have hG := hB.2.2.2.1
      obtain ⟨u29, u30, u31, u32, u33, u34, hP, hf⟩ := o_st (i := j7) (q := a8) hM (by omega)
      refine va_calli (va_runV (As := [.int (-1), .int 0, .int r27]) (rest := []) ⟨hx, hb, hml, hown, hts⟩ (rk_isOpenWith l dC dI kA eD b g a8 j7 (-1) 0 r27 (by omega)) (cwV 3 hts gX3_visit_X1_isOpenWith rfl rfl rfl (by decide +kernel) ⟨Nat.le_of_ble_eq_true rfl, Nat.le_of_ble_eq_true rfl⟩) ⟨fb_CX, va_recv hK hP (ci := 5) (q0 := 0) rfl rfl, fun U hU hW => ⟨rfl, CX.give hb0 hM hK hG hE hS hU hW⟩⟩ rfl rfl hl.1 rfl (lv_room (Nat.le_of_ble_eq_true rfl)) dX3_visit_55 ⟨(Nat.le_of_ble_eq_true rfl), (Nat.le_of_ble_eq_true rfl)⟩) hS (fun q _ h => h) (fun q h => h) (fun r35 u t H locs ht hvm hw36 hB hz1 hk1 hS => ?_)
      have hM := hB.back ht
      have hG := hB.2.2.2.1
      refine lv_if_ne (tgt := 71) hx hb dX3_visit_58 (by decide) (fun c37 => ?_) (fun c37 => ?_)
      · skip
        refine lv_aload_n hx hb dX3_visit_71 rfl (lv_at hl 0 rfl) ?_
        refine lv_dup hx hb dX3_visit_72 rfl ?_
        obtain ⟨u38, u39, u40, u41, u42, u43, hP, hf⟩ := o_st (i := j7) (q := a8) hM (by omega)
        refine va_get (D := (dC, dI)) (ci := 5) (v := .int u40) (C := RX1) (T := TX1) (N := 15) hx hb hts (by decide +kernel) hown hK hP 0 rfl rfl 11 (by decide) (hts (.fieldLink RX3 253 "Snowpalace$Site" "visitors" "I") (by decide +kernel)) (fun _ h9 => h9) rfl dX3_visit_73 ?_
        refine lv_iload_n hx hb dX3_visit_76 rfl (lv_at hl 3 rfl) ?_
        refine lv_iadd hx hb dX3_visit_77 ?_
        refine lv_topi (fun v44 e45 => ?_)
        obtain ⟨u46, u47, u48, u49, u50, u51, hP, hf⟩ := o_st (i := j7) (q := a8) hM (by omega)
        refine rt_put (D := (dC, dI)) (ci := 5) (v := .int v44) (ty := .int) (C := RX1) (T := TX1) (N := 15) hx hb hts (by decide +kernel) tyX1 tyX1_ok nmX1 hown hK hP (hM.ge (by omega)) hS rfl 11 (by decide) (hts (.fieldLink RX3 253 "Snowpalace$Site" "visitors" "I") (by decide +kernel)) (fun _ h9 => h9) rfl (by decide +kernel) rfl rfl (Nat.le_of_ble_eq_true rfl) dX3_visit_78 (fun H locs hP hz ho hS => ?_)
        have hM := s_st (i := j7) hM (by omega) hP ho hf
        refine lv_aload_n hx hb dX3_visit_81 rfl (lv_at hl 1 rfl) ?_
        refine lv_dup hx hb dX3_visit_82 rfl ?_
        obtain ⟨u52, u53, u54, u55, hP, hf⟩ := o_sno (i := 0) (q := o) hM (by omega)
        refine va_get (D := (dC, dI)) (ci := 7) (v := .int u55) (C := RX3) (T := TX3) (N := 10) hx hb hts (by decide +kernel) hown hK hP 0 rfl rfl 9 (by decide) (hts (.fieldLink RX3 49 "Snowpalace" "funds" "I") (by decide +kernel)) (fun _ h9 => h9) rfl dX3_visit_83 ?_
        refine lv_iconst (v := 5) hx hb dX3_visit_86 (by decide) ?_
        refine lv_iload_n hx hb dX3_visit_87 rfl (lv_at hl 3 rfl) ?_
        refine lv_imul hx hb dX3_visit_88 ?_
        refine lv_topi (fun v56 e57 => ?_)
        refine lv_iadd hx hb dX3_visit_89 ?_
        refine lv_topi (fun v58 e59 => ?_)
        obtain ⟨u60, u61, u62, u63, hP, hf⟩ := o_sno (i := 0) (q := o) hM (by omega)
        refine rt_put (D := (dC, dI)) (ci := 7) (v := .int v58) (ty := .int) (C := RX3) (T := TX3) (N := 10) hx hb hts (by decide +kernel) tyX3 tyX3_ok nmX3 hown hK hP (hM.ge (by omega)) hS rfl 9 (by decide) (hts (.fieldLink RX3 49 "Snowpalace" "funds" "I") (by decide +kernel)) (fun _ h9 => h9) rfl (by decide +kernel) rfl rfl (Nat.le_of_ble_eq_true rfl) dX3_visit_90 (fun H locs hP hz ho hS => ?_)
        have hM := s_sno (i := 0) hM (by omega) hP ho hf
        refine lv_aload_n hx hb dX3_visit_93 rfl (lv_at hl 0 rfl) ?_
        obtain ⟨u64, u65, u66, u67, u68, u69, hP, hf⟩ := o_st (i := j7) (q := a8) hM (by omega)
        refine va_get (D := (dC, dI)) (ci := 5) (v := .int u66) (C := RX1) (T := TX1) (N := 15) hx hb hts (by decide +kernel) hown hK hP 0 rfl rfl 11 (by decide) (hts (.fieldLink RX3 253 "Snowpalace$Site" "visitors" "I") (by decide +kernel)) (fun _ h9 => h9) rfl dX3_visit_94 ?_
        refine vx_ret ?_
        refine W.widen (k := 1) (n := 6) (Nat.le_of_ble_eq_true rfl) (Nat.le_of_ble_eq_true rfl) ?_
        exact W.iret (v := u66) hx hb hr (fun t ht hW => ⟨⟨u66, (), rfl, trivial, CX.give hb0 hM hK hG hE hS ht hW⟩, hS.F ht⟩) hS.2.2 dX3_visit_97
      · skip
        obtain ⟨sa, hsa⟩ := hT.2.1 (251, "the site is not open") (by decide +kernel)
        exact vx_throwS (A := (fun q => b ≤ q)) (own := RX3) (cls := "java/lang/UnsupportedOperationException") (text := "the site is not open") (names := exN) hx hb hlt hown (by decide +kernel) (by decide +kernel) (hts (.classLink RX3 63 "java/lang/UnsupportedOperationException") (by decide +kernel)) (hts (.initialized "java/lang/UnsupportedOperationException") (by decide +kernel)) hsa (th_hat hT (fun w h => hts w (List.mem_cons_of_mem _ (List.mem_append_left _ (List.mem_append_right _ h)))) th_i2) (th_good th_i2) hT.2.2.2.1 hT.2.2.2.2 hS (hl.1.trans hml.symm) dX3_visit_61 dX3_visit_64 dX3_visit_65 dX3_visit_67 dX3_visit_70 (fun x h => (hnt x h).elim) (by decide) (Nat.le_of_ble_eq_true rfl) (Nat.le_of_ble_eq_true rfl) (Nat.le_of_ble_eq_true rfl) hlocks (fun t ha h1 h2 => ⟨(), trivial, ⟨(Or.inr (Or.inr rfl)), hM.keep h2⟩, th_F hS h1 h2⟩) hS.2.2 (Nat.le_of_ble_eq_true rfl) (Nat.le_of_ble_eq_true rfl)
    · skip
      have g70 : ¬ ((1 : Int) ≤ pe.toInt ∧ pe.toInt ≤ (500 : Int)) := bI_f hw14 c15
      have zg70 : r13 = 0 := bI_f0 hw14 g70
      obtain ⟨sa, hsa⟩ := hT.2.1 (249, "so many cannot come") (by decide +kernel)
      exact vx_throwS (A := (fun q => b ≤ q)) (own := RX3) (cls := "java/lang/IllegalArgumentException") (text := "so many cannot come") (names := exN) hx hb hlt hown (by decide +kernel) (by decide +kernel) (hts (.classLink RX3 56 "java/lang/IllegalArgumentException") (by decide +kernel)) (hts (.initialized "java/lang/IllegalArgumentException") (by decide +kernel)) hsa (th_hat hT (fun w h => hts w (List.mem_cons_of_mem _ (List.mem_append_left _ (List.mem_append_left _ (List.mem_append_right _ h))))) th_i1) (th_good th_i1) hT.2.2.2.1 hT.2.2.2.2 hS (hl.1.trans hml.symm) dX3_visit_31 dX3_visit_34 dX3_visit_35 dX3_visit_37 dX3_visit_40 (fun x h => (hnt x h).elim) (by decide) (Nat.le_of_ble_eq_true rfl) (Nat.le_of_ble_eq_true rfl) (Nat.le_of_ble_eq_true rfl) hlocks (fun t ha h1 h2 => ⟨(), trivial, ⟨(Or.inr (Or.inl rfl)), hM.keep h2⟩, th_F hS h1 h2⟩) hS.2.2 (Nat.le_of_ble_eq_true rfl) (Nat.le_of_ble_eq_true rfl)

set_option maxHeartbeats 4000000 in
set_option maxRecDepth 100000 in
theorem rf_mark (l : Launch) (hlt : l.stackTraces = false) (dC : Nat → ClassId) (dI : Nat → Nat → Nat) (kA : Nat → ClassId) (eD b : Nat) (g : Gh) (o : Nat) (site : Int32) (hto : tg g o = 1)  : vx_Met l yX3_mark wzX3_mark ({ frames := 6, cells := 1, slots := 6, locals := 82 }) (va_Pc [.ref o, .int site] (CX (dC, dI) kA eD b g)) (va_Qd (fun (r : UInt64) (u : Unit) => True) (fun (u : Unit) t => CX (dC, dI) kA eD b g t) (fun q => b ≤ q)) (vx_X (fun _ : Unit => True) (fun E _ t => (E = "java/lang/IndexOutOfBoundsException" ∨ E = "java/util/NoSuchElementException") ∧ TM (dC, dI) kA b g t.heap) (fun q => b ≤ q)) 1 6 (fun q => b ≤ q) := by
  refine vx_ofW (cc := cX3_mark) (maxL := 3) (ret := (some .double)) (by decide +kernel) rfl ?_
  intro p e s m args below meth c s₁ B hml hnt hv
  obtain ⟨rfl, hb0, hM, hK, hG, hE⟩ := hv
  have hx := B.exec
  have hb := B.bytes
  have hr := B.returns
  have hts := atoms_spec (ws := wzX3_mark) B.pre
  have hown : s.vm.findClass RX3 = some m.cls := findClass_of_methodNamed B.named
  have hlocks := B.notSynchronized
  have hT := hE.1
  have hN := hE.2.2.2.2.2.2.2.1
  have hS : va_S (fun q => b ≤ q) s.heap s.heap [] := va_S.rf
  have hl := lv_entry ([.ref o, .int site]) (n := 3) (Nat.le_of_ble_eq_true rfl)
  rw [lg_entry_eq]
  generalize (lg_sl ([.ref o, .int site]) ++ List.replicate (3 - (lg_sl ([.ref o, .int site])).length) Slot.unset).toArray = ls at hl ⊢
  have hl : lv_has ls 3 [(0, .ref o), (1, .int site)] := hl
  generalize ([.ref o, .int site] : List Value).toArray = args at hts ⊢
  refine lv_aload_n hx hb dX3_mark_0 rfl (lv_at hl 0 rfl) ?_
  refine lv_iload_n hx hb dX3_mark_1 rfl (lv_at hl 1 rfl) ?_
  obtain ⟨u1, u2, u3, u4, hP, hf⟩ := o_sno (i := 0) (q := o) hM (by omega)
  refine va_callq (va_runV (As := [.int site]) (rest := []) ⟨hx, hb, hml, hown, hts⟩ (rk_numberedSite l dC dI kA eD b g o site (by omega)) (cwV 1 hts gX3_mark_X3_numberedSite rfl rfl rfl (by decide +kernel) ⟨Nat.le_of_ble_eq_true rfl, Nat.le_of_ble_eq_true rfl⟩) ⟨fb_CX, va_recv hK hP (ci := 7) (q0 := 0) rfl rfl, fun U hU hW => ⟨rfl, CX.give hb0 hM hK hG hE hS hU hW⟩⟩ rfl rfl hl.1 rfl (lv_room (Nat.le_of_ble_eq_true rfl)) dX3_mark_2 ⟨(Nat.le_of_ble_eq_true rfl), (Nat.le_of_ble_eq_true rfl)⟩) hS (fun q _ h => h) (fun q h => h) (fun r5 u t H locs ht hvm hw6 hB hz1 hk1 hS => ?_)
  have hM := hB.back ht
  have hG := hB.2.2.2.1
  rcases hw6 with ⟨rfl, hn12⟩ | ⟨j7, a8, rfl, hs9, hj11, ho9, ht10⟩
  · skip
    refine lv_astore_nN (lv' := [(2, .null), (0, .ref o), (1, .int site)]) hx hb dX3_mark_5 rfl hl (by decide) rfl (fun ls hl => ?_)
    refine lv_aload_nN hx hb dX3_mark_6 rfl (lv_at hl 0 rfl) ?_
    refine lv_ifnonnullN hx hb dX3_mark_7 ?_
    obtain ⟨sa, hsa⟩ := hT.2.1 (211, "no such site") (by decide +kernel)
    exact vx_throwS (A := (fun q => b ≤ q)) (own := RX3) (cls := "java/lang/IndexOutOfBoundsException") (text := "no such site") (names := exN) hx hb hlt hown (by decide +kernel) (by decide +kernel) (hts (.classLink RX3 135 "java/lang/IndexOutOfBoundsException") (by decide +kernel)) (hts (.initialized "java/lang/IndexOutOfBoundsException") (by decide +kernel)) hsa (th_hat hT (fun w h => hts w (List.mem_cons_of_mem _ (List.mem_append_right _ h))) th_i4) (th_good th_i4) hT.2.2.2.1 hT.2.2.2.2 hS (hl.1.trans hml.symm) dX3_mark_10 dX3_mark_13 dX3_mark_14 dX3_mark_16 dX3_mark_19 (fun x h => (hnt x h).elim) (by decide) (Nat.le_of_ble_eq_true rfl) (Nat.le_of_ble_eq_true rfl) (Nat.le_of_ble_eq_true rfl) hlocks (fun t ha h1 h2 => ⟨(), trivial, ⟨(Or.inl rfl), hM.keep h2⟩, th_F hS h1 h2⟩) hS.2.2 (Nat.le_of_ble_eq_true rfl) (Nat.le_of_ble_eq_true rfl)
  · skip
    subst hs9
    have hl : lv_has ls 3 [(0, .ref o), (1, .int (nI j7))] := hl
    refine lv_astore_n (lv' := [(2, .ref a8), (0, .ref o), (1, .int (nI j7))]) hx hb dX3_mark_5 rfl hl (by decide) rfl (fun ls hl => ?_)
    refine lv_aload_n hx hb dX3_mark_6 rfl (lv_at hl 0 rfl) ?_
    refine lv_ifnonnull (tgt := 20) hx hb dX3_mark_7 (by decide) ?_
    refine lv_aload_n hx hb dX3_mark_20 rfl (lv_at hl 0 rfl) ?_
    obtain ⟨u13, u14, u15, u16, u17, u18, hP, hf⟩ := o_st (i := j7) (q := a8) hM (by omega)
    refine va_get (D := (dC, dI)) (ci := 5) (v := .int u17) (C := RX1) (T := TX1) (N := 15) hx hb hts (by decide +kernel) hown hK hP 0 rfl rfl 13 (by decide) (hts (.fieldLink RX3 293 "Snowpalace$Site" "judged" "Z") (by decide +kernel)) (fun _ h9 => h9) rfl dX3_mark_21 ?_
    refine lv_if_ne (tgt := 38) hx hb dX3_mark_24 (by decide) (fun c19 => ?_) (fun c19 => ?_)
    · skip
      refine lv_aload_n hx hb dX3_mark_38 rfl (lv_at hl 0 rfl) ?_
      obtain ⟨u20, u21, u22, u23, u24, u25, hP, hf⟩ := o_st (i := j7) (q := a8) hM (by omega)
      refine va_get (D := (dC, dI)) (ci := 5) (v := .double u25) (C := RX1) (T := TX1) (N := 15) hx hb hts (by decide +kernel) hown hK hP 0 rfl rfl 14 (by decide) (hts (.fieldLink RX3 289 "Snowpalace$Site" "lastMark" "D") (by decide +kernel)) (fun _ h9 => h9) rfl dX3_mark_39 ?_
      refine vx_ret ?_
      refine W.widen (k := 1) (n := 6) (Nat.le_of_ble_eq_true rfl) (Nat.le_of_ble_eq_true rfl) ?_
      exact W.dret (v := u25) hx hb hr (fun t ht hW => ⟨⟨u25, (), rfl, trivial, CX.give hb0 hM hK hG hE hS ht hW⟩, hS.F ht⟩) hS.2.2 dX3_mark_42
    · skip
      obtain ⟨sa, hsa⟩ := hT.2.1 (296, "it was not judged") (by decide +kernel)
      exact rt_throwSWX (A := (fun q => b ≤ q)) (own := RX3) (cls := "java/util/NoSuchElementException") (text := "it was not judged") (names := exN) (ix := 13) (rx := prog_38_method_4_code) hx hb hlt rx13_0 rx13_1 rx13_2 rx13_5 hown (by decide +kernel) (by decide +kernel) (hts (.classLink RX3 180 "java/util/NoSuchElementException") (by decide +kernel)) hE.2.2.2.2.2.2.2.2.ini hsa hE.2.2.2.2.2.2.2.2.hat nse_good hT.2.2.2.1 hT.2.2.2.2 hS (hl.1.trans hml.symm) dX3_mark_27 dX3_mark_30 dX3_mark_31 dX3_mark_34 dX3_mark_37 (fun x h => (hnt x h).elim) (by decide) (Nat.le_of_ble_eq_true rfl) (Nat.le_of_ble_eq_true rfl) (Nat.le_of_ble_eq_true rfl) hlocks (fun t ha h1 h2 => ⟨(), trivial, ⟨(Or.inr rfl), hM.keep h2⟩, th_F hS h1 h2⟩) hS.2.2 (Nat.le_of_ble_eq_true rfl) (Nat.le_of_ble_eq_true rfl)
