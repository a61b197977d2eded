set_option maxHeartbeats 4000000 in
set_option maxRecDepth 100000 in
theorem rmf_strength (l : Launch) (dC : Nat → ClassId) (dI : Nat → Nat → Nat) (kA : Nat → ClassId) (eD b : Nat) (g : Gh) (o : Nat) (site : Int32) (x : Int32) (y : Int32) (hto : tg g o = 17)  : Met l yX6_strength wsX6_strength ({ frames := 4, cells := 0, slots := 0, locals := 87 }) (va_Pc [.ref o, .int site, .int x, .int y] (CX (dC, dI) kA eD b g)) (va_Qi (fun (r : Int32) (u : Gh) => Ext o X0 g u) (fun (u : Gh) t => CX (dC, dI) kA eD b u t) (fun q => b ≤ q)) 0 0 (fun q => b ≤ q) := by
  refine Met.ofW (cc := cX6_strength) (maxL := 4) (ret := (some .int)) (by decide +kernel) rfl ?_
  intro p e s m args below meth c s₁ B hml hv
  obtain ⟨rfl, hb0, hM, hK, hG, hE⟩ := hv
  have hx := B.exec
  have hb := B.bytes
  have hr := B.returns
  have hts := atoms_spec (ws := wsX6_strength) B.pre
  have hown : s.vm.findClass RX6 = some m.cls := findClass_of_methodNamed B.named
  have hlocks := B.notSynchronized
  have hT := hE.1
  have hN := hE.2.2.2.2.2.2.2.1
  have hS : va_S (fun q => b ≤ q) s.heap s.heap [] := va_S.rf
  have hl := lv_entry ([.ref o, .int site, .int x, .int y]) (n := 4) (Nat.le_of_ble_eq_true rfl)
  rw [lg_entry_eq]
  generalize (lg_sl ([.ref o, .int site, .int x, .int y]) ++ List.replicate (4 - (lg_sl ([.ref o, .int site, .int x, .int y])).length) Slot.unset).toArray = ls at hl ⊢
  have hl : lv_has ls 4 [(0, .ref o), (1, .int site), (2, .int x), (3, .int y)] := hl
  generalize ([.ref o, .int site, .int x, .int y] : List Value).toArray = args at hts ⊢
  refine lv_aload_n hx hb dX6_strength_0 rfl (lv_at hl 0 rfl) ?_
  refine lv_iload_n hx hb dX6_strength_1 rfl (lv_at hl 1 rfl) ?_
  refine lv_iload_n hx hb dX6_strength_2 rfl (lv_at hl 2 rfl) ?_
  refine lv_iload_n hx hb dX6_strength_3 rfl (lv_at hl 3 rfl) ?_
  obtain ⟨u1, u2, hP, hf⟩ := o_mo (i := 0) (q := o) hM (by omega)
  refine va_calli (va_runV (As := [.int site, .int x, .int y]) (rest := []) ⟨hx, hb, hml, hown, hts⟩ (rm_isNoCell l dC dI kA eD b g o site x y (by omega)) (cwV 3 hts gX6_strength_X6_isNoCell rfl rfl rfl (by decide +kernel) ⟨Nat.le_of_ble_eq_true rfl, Nat.le_of_ble_eq_true rfl⟩) ⟨fb_CX, va_recv hK hP (ci := 10) (q0 := 0) rfl rfl, fun U hU hW => ⟨rfl, CX.give hb0 hM hK hG hE hS hU hW⟩⟩ rfl rfl hl.1 rfl (lv_room (Nat.le_of_ble_eq_true rfl)) dX6_strength_4 ⟨(Nat.le_of_ble_eq_true rfl), (Nat.le_of_ble_eq_true rfl)⟩) hS (fun q _ h => h) (fun q h => h) (fun r3 g5 t H locs ht hvm hw4 hB hz1 hk1 hS => ?_)
  have hM := hB.back ht
  have hG := hB.2.2.2.1
  have hx6 : Ext o X0 g g5 := hw4.1
  have ht7 : tg g5 o = 17 := hx6.tk hto (by omega)
  refine lv_if_eq (tgt := 14) hx hb dX6_strength_7 (by decide) (fun c8 => ?_) (fun c8 => ?_)
  · skip
    have hv9 := vr0 (nc01 hw4.2) c8
    obtain ⟨j, a0, jx, jy, cl, rfl, rfl, rfl, hjx, hjy, hjs, hta, hga, hcl⟩ := hv9
    have hl : lv_has ls 4 [(0, .ref o), (1, .int (nI j)), (2, .int (nI jx)), (3, .int (nI jy))] := hl
    have hfm := (mo_list hM ht7).1
    have hls := (mo_list hM ht7).2
    have ej : (nI j).toInt = (j : Int) := nI_toInt (by omega)
    refine lv_aload_n hx hb dX6_strength_14 rfl (lv_at hl 0 rfl) ?_
    obtain ⟨u10, u11, hP, hf⟩ := o_mo (i := 0) (q := o) hM (by omega)
    refine va_get (D := (dC, dI)) (ci := 10) (v := .ref (pF g5 o 5)) (C := RX6) (T := TX6) (N := 11) hx hb hts (by decide +kernel) hown hK hP 0 rfl rfl 10 (by decide) (hts (.fieldLink RX6 34 "SnowpalaceModel" "sites" "Ljava/util/List;") (by decide +kernel)) (fun _ h9 => h9) rfl dX6_strength_15 ?_
    refine lv_iload_n hx hb dX6_strength_18 rfl (lv_at hl 1 rfl) ?_
    obtain ⟨hP, hf⟩ := o_al (i := 0) (q := (pF g5 o 5)) hM (by omega)
    refine va_callFr (va_runF (hK.1 3 _ rfl).2 (As := [.int (nI j)]) (rest := []) ⟨hx, hb, hml, hown, hts⟩ (rj_get l dC dI kA eD b g5 (pF g5 o 5) j (by omega) hjs) (va_cwF 1 hts gX6_strength_Jx4a65c_get_915e3_f149Jx4a65c rfl rfl rfl hE.2.2.2.2.1 (by decide +kernel) ⟨Nat.le_of_ble_eq_true rfl, Nat.le_of_ble_eq_true rfl⟩) ⟨fb_CX, va_recv hK hP (ci := 3) (q0 := 0) rfl rfl, fun U hU hW => ⟨rfl, CX.give hb0 hM hK hG hE hS hU hW⟩⟩ rfl rfl hl.1 rfl (lv_room (Nat.le_of_ble_eq_true rfl)) dX6_strength_19 ⟨(Nat.le_of_ble_eq_true rfl), (Nat.le_of_ble_eq_true rfl)⟩) hS (fun q _ h => h) (fun q h => h) (fun u r12 t H locs ht hvm hw13 hB hz1 hk1 hS => ?_)
    have hM := hB.1.back ht
    have hG := hB.1.2.2.2.1
    have ht14 : tg g5 r12 = 28 + 64 * j := hB.2.1
    have hg15 : pO g5 (pF g5 (pF g5 o 5) 0) j = some r12 := hB.2.2
    obtain rfl : a0 = r12 := Option.some.inj (hga.symm.trans hg15)
    obtain ⟨u16, u17, u18, u19, u20, u21, hP, hf⟩ := o_ms (i := j) (q := a0) hM (by omega)
    refine va_castY hx hb hown (hts (.classLink RX6 125 "SnowpalaceModel$Site") (by decide +kernel)) hE.2.2.2.2.2.2.1 (va_recv hK hP (ci := 9) (q0 := 0) rfl rfl) dX6_strength_24 ?_
    refine lv_iload_n hx hb dX6_strength_27 rfl (lv_at hl 2 rfl) ?_
    refine lv_iload_n hx hb dX6_strength_28 rfl (lv_at hl 3 rfl) ?_
    refine lv_aload_n hx hb dX6_strength_29 rfl (lv_at hl 0 rfl) ?_
    refine lv_aload_n hx hb dX6_strength_30 rfl (lv_at hl 0 rfl) ?_
    obtain ⟨u22, u23, hP, hf⟩ := o_mo (i := 0) (q := o) hM (by omega)
    refine va_get (D := (dC, dI)) (ci := 10) (v := .int (pI g5 o 0)) (C := RX6) (T := TX6) (N := 11) hx hb hts (by decide +kernel) hown hK hP 0 rfl rfl 2 (by decide) (hts (.fieldLink RX6 58 "SnowpalaceModel" "hour" "I") (by decide +kernel)) (fun _ h9 => h9) rfl dX6_strength_31 ?_
    have hv24 := hf.2.2.2.2.2.2.1
    obtain ⟨j25, hj25, en26⟩ := toN (p := (pI g5 o 0)) (k := 504) (by omega) (by omega) (by decide)
    rw [en26]
    try rw [en26] at hl
    have hl : lv_has ls 4 [(0, .ref o), (1, .int (nI j)), (2, .int (nI jx)), (3, .int (nI jy))] := hl
    obtain ⟨u27, u28, hP, hf⟩ := o_mo (i := 0) (q := o) hM (by omega)
    refine va_calli (va_runV (As := [.int (nI j25)]) (rest := [.int (nI jy), .int (nI jx), .ref a0]) ⟨hx, hb, hml, hown, hts⟩ (rm_warmthOf l dC dI kA eD b g5 o j25 (by omega) (by omega)) (cwV 1 hts gX6_strength_X6_warmthOf rfl rfl rfl (by decide +kernel) ⟨Nat.le_of_ble_eq_true rfl, Nat.le_of_ble_eq_true rfl⟩) ⟨fb_CX, va_recv hK hP (ci := 10) (q0 := 0) rfl rfl, fun U hU hW => ⟨rfl, CX.give hb0 hM hK hG hE hS hU hW⟩⟩ rfl rfl hl.1 rfl (lv_room (Nat.le_of_ble_eq_true rfl)) dX6_strength_34 ⟨(Nat.le_of_ble_eq_true rfl), (Nat.le_of_ble_eq_true rfl)⟩) hS (fun q _ h => h) (fun q h => h) (fun r29 u t H locs ht hvm hw30 hB hz1 hk1 hS => ?_)
    have hM := hB.back ht
    have hG := hB.2.2.2.1
    obtain ⟨u31, u32, u33, u34, u35, u36, hP, hf⟩ := o_ms (i := j) (q := a0) hM (by omega)
    refine va_calli (va_runV (As := [.int (nI jx), .int (nI jy), .int r29]) (rest := []) ⟨hx, hb, hml, hown, hts⟩ (rm_strength l dC dI kA eD b g5 a0 j jx jy cl r29 (by omega) (by omega) (by omega) hcl) (cwV 3 hts gX6_strength_X5_strength rfl rfl rfl (by decide +kernel) ⟨Nat.le_of_ble_eq_true rfl, Nat.le_of_ble_eq_true rfl⟩) ⟨fb_CX, va_recv hK hP (ci := 9) (q0 := 0) rfl rfl, fun U hU hW => ⟨rfl, CX.give hb0 hM hK hG hE hS hU hW⟩⟩ rfl rfl hl.1 rfl (lv_room (Nat.le_of_ble_eq_true rfl)) dX6_strength_37 ⟨(Nat.le_of_ble_eq_true rfl), (Nat.le_of_ble_eq_true rfl)⟩) hS (fun q _ h => h) (fun q h => h) (fun r37 u t H locs ht hvm hw38 hB hz1 hk1 hS => ?_)
    have hM := hB.back ht
    have hG := hB.2.2.2.1
    refine W.widen (k := 0) (n := 0) (Nat.le_of_ble_eq_true rfl) (Nat.le_of_ble_eq_true rfl) ?_
    exact W.iret (v := r37) hx hb hr (fun t ht hW => ⟨⟨r37, g5, rfl, hx6, CX.give hb0 hM hK hG hE hS ht hW⟩, hS.F ht⟩) hS.2.2 dX6_strength_40
  · skip
    have hv39 := vr1 (nc01 hw4.2) c8
    refine lv_iconst (v := 0) hx hb dX6_strength_10 (by decide) ?_
    refine lv_goto (tgt := 40) hx hb dX6_strength_11 (by decide) ?_
    refine W.widen (k := 0) (n := 0) (Nat.le_of_ble_eq_true rfl) (Nat.le_of_ble_eq_true rfl) ?_
    exact W.iret (v := 0) hx hb hr (fun t ht hW => ⟨⟨0, g5, rfl, hx6, CX.give hb0 hM hK hG hE hS ht hW⟩, hS.F ht⟩) hS.2.2 dX6_strength_40

set_option maxHeartbeats 4000000 in
set_option maxRecDepth 100000 in
theorem rmf_isOpen (l : Launch) (dC : Nat → ClassId) (dI : Nat → Nat → Nat) (kA : Nat → ClassId) (eD b : Nat) (g : Gh) (o : Nat) (site : Int32) (hto : tg g o = 17)  : Met l yX6_isOpen wsX6_isOpen ({ frames := 6, cells := 7, slots := 54, locals := 144 }) (va_Pc [.ref o, .int site] (CX (dC, dI) kA eD b g)) (va_Qi (fun (r : Int32) (u : Gh) => Ext o X0 g u) (fun (u : Gh) t => CX (dC, dI) kA eD b u t) (fun q => b ≤ q)) 7 54 (fun q => b ≤ q) := by
  refine Met.ofW (cc := cX6_isOpen) (maxL := 2) (ret := (some .boolean)) (by decide +kernel) rfl ?_
  intro p e s m args below meth c s₁ B hml hv
  obtain ⟨rfl, hb0, hM, hK, hG, hE⟩ := hv
  have hx := B.exec
  have hb := B.bytes
  have hr := B.returns
  have hts := atoms_spec (ws := wsX6_isOpen) B.pre
  have hown : s.vm.findClass RX6 = some m.cls := findClass_of_methodNamed B.named
  have hlocks := B.notSynchronized
  have hT := hE.1
  have hN := hE.2.2.2.2.2.2.2.1
  have hS : va_S (fun q => b ≤ q) s.heap s.heap [] := va_S.rf
  have hl := lv_entry ([.ref o, .int site]) (n := 2) (Nat.le_of_ble_eq_true rfl)
  rw [lg_entry_eq]
  generalize (lg_sl ([.ref o, .int site]) ++ List.replicate (2 - (lg_sl ([.ref o, .int site])).length) Slot.unset).toArray = ls at hl ⊢
  have hl : lv_has ls 2 [(0, .ref o), (1, .int site)] := hl
  generalize ([.ref o, .int site] : List Value).toArray = args at hts ⊢
  refine lv_aload_n hx hb dX6_isOpen_0 rfl (lv_at hl 0 rfl) ?_
  refine lv_iload_n hx hb dX6_isOpen_1 rfl (lv_at hl 1 rfl) ?_
  obtain ⟨u1, u2, hP, hf⟩ := o_mo (i := 0) (q := o) hM (by omega)
  refine va_calli (va_runV (As := [.int site]) (rest := []) ⟨hx, hb, hml, hown, hts⟩ (rm_isNoSite l dC dI kA eD b g o site (by omega)) (cwV 1 hts gX6_isOpen_X6_isNoSite rfl rfl rfl (by decide +kernel) ⟨Nat.le_of_ble_eq_true rfl, Nat.le_of_ble_eq_true rfl⟩) ⟨fb_CX, va_recv hK hP (ci := 10) (q0 := 0) rfl rfl, fun U hU hW => ⟨rfl, CX.give hb0 hM hK hG hE hS hU hW⟩⟩ rfl rfl hl.1 rfl (lv_room (Nat.le_of_ble_eq_true rfl)) dX6_isOpen_2 ⟨(Nat.le_of_ble_eq_true rfl), (Nat.le_of_ble_eq_true rfl)⟩) hS (fun q _ h => h) (fun q h => h) (fun r3 g5 t H locs ht hvm hw4 hB hz1 hk1 hS => ?_)
  have hM := hB.back ht
  have hG := hB.2.2.2.1
  have hx6 : Ext o X0 g g5 := hw4.1
  have ht7 : tg g5 o = 17 := hx6.tk hto (by omega)
  have hth8 := hw4.2.1
  refine lv_if_ne (tgt := 33) hx hb dX6_isOpen_5 (by decide) (fun c9 => ?_) (fun c9 => ?_)
  · skip
    have hv10 := vr1 (vr01 hw4.2.2) c9
    refine lv_iconst (v := 0) hx hb dX6_isOpen_33 (by decide) ?_
    refine W.widen (k := 7) (n := 54) (Nat.le_of_ble_eq_true rfl) (Nat.le_of_ble_eq_true rfl) ?_
    exact W.zret (v := 0) (ty := .boolean) hx hb hr rfl (fun t ht hW => ⟨⟨0, g5, rfl, hx6, CX.give hb0 hM hK hG hE hS ht hW⟩, hS.F ht⟩) hS.2.2 dX6_isOpen_34
  · skip
    have hv11 := vr0 (vr01 hw4.2.2) c9
    have hfm := (mo_list hM ht7).1
    have hls := (mo_list hM ht7).2
    obtain ⟨j, hj, rfl⟩ := toN (p := site) (k := 2) (by omega) (by omega) (by decide)
    have hl : lv_has ls 2 [(0, .ref o), (1, .int (nI j))] := hl
    have ej : (nI j).toInt = (j : Int) := nI_toInt (by omega)
    have hjs : (j : Int) < (pI g5 (pF g5 o 5) 0).toInt := by omega
    refine lv_aload_n hx hb dX6_isOpen_8 rfl (lv_at hl 0 rfl) ?_
    obtain ⟨u12, u13, hP, hf⟩ := o_mo (i := 0) (q := o) hM (by omega)
    refine va_get (D := (dC, dI)) (ci := 10) (v := .ref (pF g5 o 5)) (C := RX6) (T := TX6) (N := 11) hx hb hts (by decide +kernel) hown hK hP 0 rfl rfl 10 (by decide) (hts (.fieldLink RX6 34 "SnowpalaceModel" "sites" "Ljava/util/List;") (by decide +kernel)) (fun _ h9 => h9) rfl dX6_isOpen_9 ?_
    refine lv_iload_n hx hb dX6_isOpen_12 rfl (lv_at hl 1 rfl) ?_
    obtain ⟨hP, hf⟩ := o_al (i := 0) (q := (pF g5 o 5)) hM (by omega)
    refine va_callFr (va_runF (hK.1 3 _ rfl).2 (As := [.int (nI j)]) (rest := []) ⟨hx, hb, hml, hown, hts⟩ (rj_get l dC dI kA eD b g5 (pF g5 o 5) j (by omega) hjs) (va_cwF 1 hts gX6_isOpen_Jx4a65c_get_915e3_f149Jx4a65c rfl rfl rfl hE.2.2.2.2.1 (by decide +kernel) ⟨Nat.le_of_ble_eq_true rfl, Nat.le_of_ble_eq_true rfl⟩) ⟨fb_CX, va_recv hK hP (ci := 3) (q0 := 0) rfl rfl, fun U hU hW => ⟨rfl, CX.give hb0 hM hK hG hE hS hU hW⟩⟩ rfl rfl hl.1 rfl (lv_room (Nat.le_of_ble_eq_true rfl)) dX6_isOpen_13 ⟨(Nat.le_of_ble_eq_true rfl), (Nat.le_of_ble_eq_true rfl)⟩) hS (fun q _ h => h) (fun q h => h) (fun u r14 t H locs ht hvm hw15 hB hz1 hk1 hS => ?_)
    have hM := hB.1.back ht
    have hG := hB.1.2.2.2.1
    have ht16 : tg g5 r14 = 28 + 64 * j := hB.2.1
    have hg17 : pO g5 (pF g5 (pF g5 o 5) 0) j = some r14 := hB.2.2
    obtain ⟨u18, u19, u20, u21, u22, u23, hP, hf⟩ := o_ms (i := j) (q := r14) hM (by omega)
    refine va_castY hx hb hown (hts (.classLink RX6 125 "SnowpalaceModel$Site") (by decide +kernel)) hE.2.2.2.2.2.2.1 (va_recv hK hP (ci := 9) (q0 := 0) rfl rfl) dX6_isOpen_18 ?_
    refine lv_iconst (v := (-1)) hx hb dX6_isOpen_21 (by decide) ?_
    refine lv_iconst (v := 0) hx hb dX6_isOpen_22 (by decide) ?_
    obtain ⟨u24, u25, u26, u27, u28, u29, hP, hf⟩ := o_ms (i := j) (q := r14) hM (by omega)
    refine va_calli (va_runV (As := [.int (-1), .int 0]) (rest := []) ⟨hx, hb, hml, hown, hts⟩ (rm_isOpen l dC dI kA eD b g5 r14 j o o (-1) 0 (by omega) (by omega) (Or.inr ht7)) (cwV 2 hts gX6_isOpen_X5_isOpen rfl rfl rfl (by decide +kernel) ⟨Nat.le_of_ble_eq_true rfl, Nat.le_of_ble_eq_true rfl⟩) ⟨fb_CX, va_recv hK hP (ci := 9) (q0 := 0) rfl rfl, fun U hU hW => ⟨rfl, CX.give hb0 hM hK hG hE hS hU hW⟩⟩ rfl rfl hl.1 rfl (lv_room (Nat.le_of_ble_eq_true rfl)) dX6_isOpen_23 ⟨(Nat.le_of_ble_eq_true rfl), (Nat.le_of_ble_eq_true rfl)⟩) hS (fun q _ h => h) (fun q h => h) (fun r30 g32 t H locs ht hvm hw31 hB hz1 hk1 hS => ?_)
    have hM := hB.back ht
    have hG := hB.2.2.2.1
    have hx33 : Ext o X0 g5 g32 := hw31.1
    have ht34 : tg g32 o = 17 := hx33.tk ht7 (by omega)
    have ht35 : tg g32 (pF g5 o 5) = 26 := hx33.tk hfm (by omega)
    have ht36 : tg g32 r14 = 28 + 64 * j := hx33.tk ht16 (by omega)
    refine lv_if_eq (tgt := 33) hx hb dX6_isOpen_26 (by decide) (fun c37 => ?_) (fun c37 => ?_)
    · skip
      refine lv_iconst (v := 0) hx hb dX6_isOpen_33 (by decide) ?_
      refine W.widen (k := 7) (n := 54) (Nat.le_of_ble_eq_true rfl) (Nat.le_of_ble_eq_true rfl) ?_
      exact W.zret (v := 0) (ty := .boolean) hx hb hr rfl (fun t ht hW => ⟨⟨0, g32, rfl, (hx6.trans hx33), CX.give hb0 hM hK hG hE hS ht hW⟩, hS.F ht⟩) hS.2.2 dX6_isOpen_34
    · skip
      refine lv_iconst (v := 1) hx hb dX6_isOpen_29 (by decide) ?_
      refine lv_goto (tgt := 34) hx hb dX6_isOpen_30 (by decide) ?_
      refine W.widen (k := 7) (n := 54) (Nat.le_of_ble_eq_true rfl) (Nat.le_of_ble_eq_true rfl) ?_
      exact W.zret (v := 1) (ty := .boolean) hx hb hr rfl (fun t ht hW => ⟨⟨1, g32, rfl, (hx6.trans hx33), CX.give hb0 hM hK hG hE hS ht hW⟩, hS.F ht⟩) hS.2.2 dX6_isOpen_34

set_option maxHeartbeats 4000000 in
set_option maxRecDepth 100000 in
theorem rmf_visit (l : Launch) (dC : Nat → ClassId) (dI : Nat → Nat → Nat) (kA : Nat → ClassId) (eD b : Nat) (g : Gh) (o : Nat) (site : Int32) (pe : Int32) (hto : tg g o = 17)  : Met l yX6_visit wsX6_visit ({ frames := 6, cells := 7, slots := 54, locals := 144 }) (va_Pc [.ref o, .int site, .int pe] (CX (dC, dI) kA eD b g)) (va_Qi (fun (r : Int32) (u : Gh) => Ext o X0 g u) (fun (u : Gh) t => CX (dC, dI) kA eD b u t) (fun q => b ≤ q)) 7 54 (fun q => b ≤ q) := by
  refine Met.ofW (cc := cX6_visit) (maxL := 3) (ret := (some .int)) (by decide +kernel) rfl ?_
  intro p e s m args below meth c s₁ B hml hv
  obtain ⟨rfl, hb0, hM, hK, hG, hE⟩ := hv
  have hx := B.exec
  have hb := B.bytes
  have hr := B.returns
  have hts := atoms_spec (ws := wsX6_visit) B.pre
  have hown : s.vm.findClass RX6 = some m.cls := findClass_of_methodNamed B.named
  have hlocks := B.notSynchronized
  have hT := hE.1
  have hN := hE.2.2.2.2.2.2.2.1
  have hS : va_S (fun q => b ≤ q) s.heap s.heap [] := va_S.rf
  have hl := lv_entry ([.ref o, .int site, .int pe]) (n := 3) (Nat.le_of_ble_eq_true rfl)
  rw [lg_entry_eq]
  generalize (lg_sl ([.ref o, .int site, .int pe]) ++ List.replicate (3 - (lg_sl ([.ref o, .int site, .int pe])).length) Slot.unset).toArray = ls at hl ⊢
  have hl : lv_has ls 3 [(0, .ref o), (1, .int site), (2, .int pe)] := hl
  generalize ([.ref o, .int site, .int pe] : List Value).toArray = args at hts ⊢
  refine lv_aload_n hx hb dX6_visit_0 rfl (lv_at hl 0 rfl) ?_
  refine lv_iload_n hx hb dX6_visit_1 rfl (lv_at hl 1 rfl) ?_
  obtain ⟨u1, u2, hP, hf⟩ := o_mo (i := 0) (q := o) hM (by omega)
  refine va_calli (va_runV (As := [.int site]) (rest := []) ⟨hx, hb, hml, hown, hts⟩ (rm_isNoSite l dC dI kA eD b g o site (by omega)) (cwV 1 hts gX6_visit_X6_isNoSite rfl rfl rfl (by decide +kernel) ⟨Nat.le_of_ble_eq_true rfl, Nat.le_of_ble_eq_true rfl⟩) ⟨fb_CX, va_recv hK hP (ci := 10) (q0 := 0) rfl rfl, fun U hU hW => ⟨rfl, CX.give hb0 hM hK hG hE hS hU hW⟩⟩ rfl rfl hl.1 rfl (lv_room (Nat.le_of_ble_eq_true rfl)) dX6_visit_2 ⟨(Nat.le_of_ble_eq_true rfl), (Nat.le_of_ble_eq_true rfl)⟩) hS (fun q _ h => h) (fun q h => h) (fun r3 g5 t H locs ht hvm hw4 hB hz1 hk1 hS => ?_)
  have hM := hB.back ht
  have hG := hB.2.2.2.1
  have hx6 : Ext o X0 g g5 := hw4.1
  have ht7 : tg g5 o = 17 := hx6.tk hto (by omega)
  have hth8 := hw4.2.1
  refine lv_if_ne (tgt := 57) hx hb dX6_visit_5 (by decide) (fun c9 => ?_) (fun c9 => ?_)
  · skip
    have hv10 := vr1 (vr01 hw4.2.2) c9
    refine lv_iconst (v := 0) hx hb dX6_visit_57 (by decide) ?_
    refine W.widen (k := 7) (n := 54) (Nat.le_of_ble_eq_true rfl) (Nat.le_of_ble_eq_true rfl) ?_
    exact W.iret (v := 0) hx hb hr (fun t ht hW => ⟨⟨0, g5, rfl, hx6, CX.give hb0 hM hK hG hE hS ht hW⟩, hS.F ht⟩) hS.2.2 dX6_visit_58
  · skip
    have hv11 := vr0 (vr01 hw4.2.2) c9
    have hfm := (mo_list hM ht7).1
    have hls := (mo_list hM ht7).2
    obtain ⟨j, hj, rfl⟩ := toN (p := site) (k := 2) (by omega) (by omega) (by decide)
    have hl : lv_has ls 3 [(0, .ref o), (1, .int (nI j)), (2, .int pe)] := hl
    have ej : (nI j).toInt = (j : Int) := nI_toInt (by omega)
    have hjs : (j : Int) < (pI g5 (pF g5 o 5) 0).toInt := by omega
    refine lv_aload_n hx hb dX6_visit_8 rfl (lv_at hl 0 rfl) ?_
    refine lv_iload_n hx hb dX6_visit_9 rfl (lv_at hl 2 rfl) ?_
    refine lv_i2l hx hb dX6_visit_10 rfl ?_
    refine lv_lconst (v := 1) hx hb dX6_visit_11 (by decide) ?_
    refine lv_ldc2 hx hb hown (hts (.constantLong RX6 233 500) (by decide +kernel)) dX6_visit_12 ?_
    refine va_calli (va_runS (As := [.long pe.toInt64, .long 1, .long 500]) (rest := [.ref o]) ⟨hx, hb, hml, hown, hts⟩ (rm_isBetween l pe.toInt64 1 500 ((pe : Int32).toInt) (1) (500) (Int32.toInt_toInt64 _) (by decide) (by decide)) (va_cwS 3 hts gX6_visit_X6_isBetween rfl rfl rfl (by decide +kernel) ⟨Nat.le_of_ble_eq_true rfl, Nat.le_of_ble_eq_true rfl⟩) ⟨fun a U g mk q => q, fun U hU hW => ⟨rfl, trivial⟩⟩ rfl rfl hl.1 rfl (lv_room (Nat.le_of_ble_eq_true rfl)) dX6_visit_15 ⟨(Nat.le_of_ble_eq_true rfl), (Nat.le_of_ble_eq_true rfl)⟩) hS (fun q _ h => h.elim) (fun q h => h.elim) (fun r12 u t H locs ht hvm hw13 hB hz1 hk1 hS => ?_)
    have hM := hM.keep (fun p hp => hk1 p hp (fun z => z))
    have hw13 : r12 = bI ((1 : Int) ≤ (pe : Int32).toInt ∧ (pe : Int32).toInt ≤ (500 : Int)) := hw13
    refine lv_if_ne (tgt := 25) hx hb dX6_visit_18 (by decide) (fun c14 => ?_) (fun c14 => ?_)
    · skip
      have g15 : (1 : Int) ≤ (pe : Int32).toInt ∧ (pe : Int32).toInt ≤ (500 : Int) := bI_t hw13 c14
      have zg15 : r12 = 1 := bI_t1 hw13 g15
      refine lv_aload_n hx hb dX6_visit_25 rfl (lv_at hl 0 rfl) ?_
      obtain ⟨u16, u17, hP, hf⟩ := o_mo (i := 0) (q := o) hM (by omega)
      refine va_get (D := (dC, dI)) (ci := 10) (v := .ref (pF g5 o 5)) (C := RX6) (T := TX6) (N := 11) hx hb hts (by decide +kernel) hown hK hP 0 rfl rfl 10 (by decide) (hts (.fieldLink RX6 34 "SnowpalaceModel" "sites" "Ljava/util/List;") (by decide +kernel)) (fun _ h9 => h9) rfl dX6_visit_26 ?_
      refine lv_iload_n hx hb dX6_visit_29 rfl (lv_at hl 1 rfl) ?_
      obtain ⟨hP, hf⟩ := o_al (i := 0) (q := (pF g5 o 5)) hM (by omega)
      refine va_callFr (va_runF (hK.1 3 _ rfl).2 (As := [.int (nI j)]) (rest := [.ref o]) ⟨hx, hb, hml, hown, hts⟩ (rj_get l dC dI kA eD b g5 (pF g5 o 5) j (by omega) hjs) (va_cwF 1 hts gX6_visit_Jx4a65c_get_915e3_f149Jx4a65c rfl rfl rfl hE.2.2.2.2.1 (by decide +kernel) ⟨Nat.le_of_ble_eq_true rfl, Nat.le_of_ble_eq_true rfl⟩) ⟨fb_CX, va_recv hK hP (ci := 3) (q0 := 0) rfl rfl, fun U hU hW => ⟨rfl, CX.give hb0 hM hK hG hE hS hU hW⟩⟩ rfl rfl hl.1 rfl (lv_room (Nat.le_of_ble_eq_true rfl)) dX6_visit_30 ⟨(Nat.le_of_ble_eq_true rfl), (Nat.le_of_ble_eq_true rfl)⟩) hS (fun q _ h => h) (fun q h => h) (fun u r18 t H locs ht hvm hw19 hB hz1 hk1 hS => ?_)
      have hM := hB.1.back ht
      have hG := hB.1.2.2.2.1
      have ht20 : tg g5 r18 = 28 + 64 * j := hB.2.1
      have hg21 : pO g5 (pF g5 (pF g5 o 5) 0) j = some r18 := hB.2.2
      obtain ⟨u22, u23, u24, u25, u26, u27, hP, hf⟩ := o_ms (i := j) (q := r18) hM (by omega)
      refine va_castY hx hb hown (hts (.classLink RX6 125 "SnowpalaceModel$Site") (by decide +kernel)) hE.2.2.2.2.2.2.1 (va_recv hK hP (ci := 9) (q0 := 0) rfl rfl) dX6_visit_35 ?_
      refine lv_iconst (v := (-1)) hx hb dX6_visit_38 (by decide) ?_
      refine lv_iconst (v := 0) hx hb dX6_visit_39 (by decide) ?_
      obtain ⟨u28, u29, u30, u31, u32, u33, hP, hf⟩ := o_ms (i := j) (q := r18) hM (by omega)
      refine va_calli (va_runV (As := [.int (-1), .int 0]) (rest := [.ref o]) ⟨hx, hb, hml, hown, hts⟩ (rm_isOpen l dC dI kA eD b g5 r18 j o o (-1) 0 (by omega) (by omega) (Or.inr ht7)) (cwV 2 hts gX6_visit_X5_isOpen rfl rfl rfl (by decide +kernel) ⟨Nat.le_of_ble_eq_true rfl, Nat.le_of_ble_eq_true rfl⟩) ⟨fb_CX, va_recv hK hP (ci := 9) (q0 := 0) rfl rfl, fun U hU hW => ⟨rfl, CX.give hb0 hM hK hG hE hS hU hW⟩⟩ rfl rfl hl.1 rfl (lv_room (Nat.le_of_ble_eq_true rfl)) dX6_visit_40 ⟨(Nat.le_of_ble_eq_true rfl), (Nat.le_of_ble_eq_true rfl)⟩) hS (fun q _ h => h) (fun q h => h) (fun r34 g36 t H locs ht hvm hw35 hB hz1 hk1 hS => ?_)
      have hM := hB.back ht
      have hG := hB.2.2.2.1
      have hx37 : Ext o X0 g5 g36 := hw35.1
      have ht38 : tg g36 o = 17 := hx37.tk ht7 (by omega)
      have ht39 : tg g36 (pF g5 o 5) = 26 := hx37.tk hfm (by omega)
      have ht40 : tg g36 r18 = 28 + 64 * j := hx37.tk ht20 (by omega)
      refine lv_if_ne (tgt := 50) hx hb dX6_visit_43 (by decide) (fun c41 => ?_) (fun c41 => ?_)
      · skip
        refine lv_iconst (v := 0) hx hb dX6_visit_50 (by decide) ?_
        obtain ⟨u42, u43, hP, hf⟩ := o_mo (i := 0) (q := o) hM (by omega)
        refine va_calli (va_runV (As := [.int 0]) (rest := []) ⟨hx, hb, hml, hown, hts⟩ (rm_isWrong l dC dI kA eD b g36 o 0 (by omega)) (cwV 1 hts gX6_visit_X6_isWrong rfl rfl rfl (by decide +kernel) ⟨Nat.le_of_ble_eq_true rfl, Nat.le_of_ble_eq_true rfl⟩) ⟨fb_CX, va_recv hK hP (ci := 10) (q0 := 0) rfl rfl, fun U hU hW => ⟨rfl, CX.give hb0 hM hK hG hE hS hU hW⟩⟩ rfl rfl hl.1 rfl (lv_room (Nat.le_of_ble_eq_true rfl)) dX6_visit_51 ⟨(Nat.le_of_ble_eq_true rfl), (Nat.le_of_ble_eq_true rfl)⟩) hS (fun q _ h => h) (fun q h => h) (fun r44 g46 t H locs ht hvm hw45 hB hz1 hk1 hS => ?_)
        have hM := hB.back ht
        have hG := hB.2.2.2.1
        have hx47 : Ext o X0 g36 g46 := hw45.1
        have ht48 : tg g46 o = 17 := hx47.tk ht38 (by omega)
        have ht49 : tg g46 (pF g5 o 5) = 26 := hx47.tk ht39 (by omega)
        have ht50 : tg g46 r18 = 28 + 64 * j := hx47.tk ht40 (by omega)
        obtain rfl : r44 = 0 := hw45.2.2.trans (by decide)
        have hth51 : pI g46 o 2 = 0 := by rw [hw45.2.1]; exact sI_at
        refine lv_if_eq (tgt := 59) hx hb dX6_visit_54 (by decide) (fun _ => ?_) (fun cx => by first | exact absurd (by decide) cx | exact absurd cx (by decide))
        refine lv_aload_n hx hb dX6_visit_59 rfl (lv_at hl 0 rfl) ?_
        refine lv_dup hx hb dX6_visit_60 rfl ?_
        obtain ⟨u52, u53, hP, hf⟩ := o_mo (i := 0) (q := o) hM (by omega)
        refine va_get (D := (dC, dI)) (ci := 10) (v := .int u52) (C := RX6) (T := TX6) (N := 11) hx hb hts (by decide +kernel) hown hK hP 0 rfl rfl 3 (by decide) (hts (.fieldLink RX6 100 "SnowpalaceModel" "money" "I") (by decide +kernel)) (fun _ h9 => h9) rfl dX6_visit_61 ?_
        refine lv_iconst (v := 5) hx hb dX6_visit_64 (by decide) ?_
        refine lv_iload_n hx hb dX6_visit_65 rfl (lv_at hl 2 rfl) ?_
        refine lv_imul hx hb dX6_visit_66 ?_
        refine lv_topi (fun v54 e55 => ?_)
        refine lv_iadd hx hb dX6_visit_67 ?_
        refine lv_topi (fun v56 e57 => ?_)
        obtain ⟨u58, u59, hP, hf⟩ := o_mo (i := 0) (q := o) hM (by omega)
        refine rt_put (D := (dC, dI)) (ci := 10) (v := .int v56) (ty := .int) (C := RX6) (T := TX6) (N := 11) hx hb hts (by decide +kernel) tyX6 tyX6_ok nmX6 hown hK hP (hM.ge (by omega)) hS rfl 3 (by decide) (hts (.fieldLink RX6 100 "SnowpalaceModel" "money" "I") (by decide +kernel)) (fun _ h9 => h9) rfl (by decide +kernel) rfl rfl (Nat.le_of_ble_eq_true rfl) dX6_visit_68 (fun H locs hP hz ho hS => ?_)
        have hM := s_mo (i := 0) hM (by omega) hP ho hf
        refine lv_aload_n hx hb dX6_visit_71 rfl (lv_at hl 0 rfl) ?_
        obtain ⟨u60, u61, hP, hf⟩ := o_mo (i := 0) (q := o) hM (by omega)
        refine va_get (D := (dC, dI)) (ci := 10) (v := .ref (pF g46 o 5)) (C := RX6) (T := TX6) (N := 11) hx hb hts (by decide +kernel) hown hK hP 0 rfl rfl 10 (by decide) (hts (.fieldLink RX6 34 "SnowpalaceModel" "sites" "Ljava/util/List;") (by decide +kernel)) (fun _ h9 => h9) rfl dX6_visit_72 ?_
        have ht62 : tg g46 (pF g46 o 5) = 26 := hf.2.2.2.2.2.1
        refine lv_iload_n hx hb dX6_visit_75 rfl (lv_at hl 1 rfl) ?_
        obtain ⟨hP, hf⟩ := o_al (i := 0) (q := (pF g46 o 5)) hM (by omega)
        refine va_callFr (va_runF (hK.1 3 _ rfl).2 (As := [.int (nI j)]) (rest := []) ⟨hx, hb, hml, hown, hts⟩ (rj_get l dC dI kA eD b g46 (pF g46 o 5) j (by omega) (by rw [((hx37.trans hx47) : Ext o X0 g5 g46).f (q := o) (by omega), ((hx37.trans hx47) : Ext o X0 g5 g46).i (q := pF g5 o 5) (j := 0) (by omega) (Or.inr (by decide))]; exact hjs)) (va_cwF 1 hts gX6_visit_Jx4a65c_get_915e3_f149Jx4a65c rfl rfl rfl hE.2.2.2.2.1 (by decide +kernel) ⟨Nat.le_of_ble_eq_true rfl, Nat.le_of_ble_eq_true rfl⟩) ⟨fb_CX, va_recv hK hP (ci := 3) (q0 := 0) rfl rfl, fun U hU hW => ⟨rfl, CX.give hb0 hM hK hG hE hS hU hW⟩⟩ rfl rfl hl.1 rfl (lv_room (Nat.le_of_ble_eq_true rfl)) dX6_visit_76 ⟨(Nat.le_of_ble_eq_true rfl), (Nat.le_of_ble_eq_true rfl)⟩) hS (fun q _ h => h) (fun q h => h) (fun u r63 t H locs ht hvm hw64 hB hz1 hk1 hS => ?_)
        have hM := hB.1.back ht
        have hG := hB.1.2.2.2.1
        have ht65 : tg g46 r63 = 28 + 64 * j := hB.2.1
        have hg66 : pO g46 (pF g46 (pF g46 o 5) 0) j = some r63 := hB.2.2
        obtain ⟨u67, u68, u69, u70, u71, u72, hP, hf⟩ := o_ms (i := j) (q := r63) hM (by omega)
        refine va_castY hx hb hown (hts (.classLink RX6 125 "SnowpalaceModel$Site") (by decide +kernel)) hE.2.2.2.2.2.2.1 (va_recv hK hP (ci := 9) (q0 := 0) rfl rfl) dX6_visit_81 ?_
        refine lv_dup hx hb dX6_visit_84 rfl ?_
        obtain ⟨u73, u74, u75, u76, u77, u78, hP, hf⟩ := o_ms (i := j) (q := r63) hM (by omega)
        refine va_getN (D := (dC, dI)) (ci := 9) (v := .int u77) (C := RX5) (T := TX5) (N := 10) hx hb hts (by decide +kernel) hown hK hP 0 rfl rfl 7 (by decide) (hN (.fieldLinkNest RX6 235 "SnowpalaceModel$Site" "visitors" "I" RX6) (by decide +kernel)) (fun _ h9 => h9) rfl dX6_visit_85 ?_
        refine lv_iload_n hx hb dX6_visit_88 rfl (lv_at hl 2 rfl) ?_
        refine lv_iadd hx hb dX6_visit_89 ?_
        refine lv_topi (fun v79 e80 => ?_)
        obtain ⟨u81, u82, u83, u84, u85, u86, hP, hf⟩ := o_ms (i := j) (q := r63) hM (by omega)
        refine rt_putN (D := (dC, dI)) (ci := 9) (v := .int v79) (ty := .int) (C := RX5) (T := TX5) (N := 10) hx hb hts (by decide +kernel) tyX5 tyX5_ok nmX5 hown hK hP (hM.ge (by omega)) hS rfl 7 (by decide) (hN (.fieldLinkNest RX6 235 "SnowpalaceModel$Site" "visitors" "I" RX6) (by decide +kernel)) (fun _ h9 => h9) rfl (by decide +kernel) rfl rfl (Nat.le_of_ble_eq_true rfl) dX6_visit_90 (fun H locs hP hz ho hS => ?_)
        have hM := s_ms (i := j) hM (by omega) hP ho hf
        refine lv_aload_n hx hb dX6_visit_93 rfl (lv_at hl 0 rfl) ?_
        obtain ⟨u87, u88, hP, hf⟩ := o_mo (i := 0) (q := o) hM (by omega)
        refine va_get (D := (dC, dI)) (ci := 10) (v := .ref (pF g46 o 5)) (C := RX6) (T := TX6) (N := 11) hx hb hts (by decide +kernel) hown hK hP 0 rfl rfl 10 (by decide) (hts (.fieldLink RX6 34 "SnowpalaceModel" "sites" "Ljava/util/List;") (by decide +kernel)) (fun _ h9 => h9) rfl dX6_visit_94 ?_
        refine lv_iload_n hx hb dX6_visit_97 rfl (lv_at hl 1 rfl) ?_
        obtain ⟨hP, hf⟩ := o_al (i := 0) (q := (pF g46 o 5)) hM (by omega)
        refine va_callFr (va_runF (hK.1 3 _ rfl).2 (As := [.int (nI j)]) (rest := []) ⟨hx, hb, hml, hown, hts⟩ (rj_get l dC dI kA eD b g46 (pF g46 o 5) j (by omega) (by rw [((hx37.trans hx47) : Ext o X0 g5 g46).f (q := o) (by omega), ((hx37.trans hx47) : Ext o X0 g5 g46).i (q := pF g5 o 5) (j := 0) (by omega) (Or.inr (by decide))]; exact hjs)) (va_cwF 1 hts gX6_visit_Jx4a65c_get_915e3_f149Jx4a65c rfl rfl rfl hE.2.2.2.2.1 (by decide +kernel) ⟨Nat.le_of_ble_eq_true rfl, Nat.le_of_ble_eq_true rfl⟩) ⟨fb_CX, va_recv hK hP (ci := 3) (q0 := 0) rfl rfl, fun U hU hW => ⟨rfl, CX.give hb0 hM hK hG hE hS hU hW⟩⟩ rfl rfl hl.1 rfl (lv_room (Nat.le_of_ble_eq_true rfl)) dX6_visit_98 ⟨(Nat.le_of_ble_eq_true rfl), (Nat.le_of_ble_eq_true rfl)⟩) hS (fun q _ h => h) (fun q h => h) (fun u r89 t H locs ht hvm hw90 hB hz1 hk1 hS => ?_)
        have hM := hB.1.back ht
        have hG := hB.1.2.2.2.1
        have ht91 : tg g46 r89 = 28 + 64 * j := hB.2.1
        have hg92 : pO g46 (pF g46 (pF g46 o 5) 0) j = some r89 := hB.2.2
        obtain rfl : r63 = r89 := Option.some.inj (hg66.symm.trans hg92)
        obtain ⟨u93, u94, u95, u96, u97, u98, hP, hf⟩ := o_ms (i := j) (q := r63) hM (by omega)
        refine va_castY hx hb hown (hts (.classLink RX6 125 "SnowpalaceModel$Site") (by decide +kernel)) hE.2.2.2.2.2.2.1 (va_recv hK hP (ci := 9) (q0 := 0) rfl rfl) dX6_visit_103 ?_
        obtain ⟨u99, u100, u101, u102, u103, u104, hP, hf⟩ := o_ms (i := j) (q := r63) hM (by omega)
        refine va_getN (D := (dC, dI)) (ci := 9) (v := .int u103) (C := RX5) (T := TX5) (N := 10) hx hb hts (by decide +kernel) hown hK hP 0 rfl rfl 7 (by decide) (hN (.fieldLinkNest RX6 235 "SnowpalaceModel$Site" "visitors" "I" RX6) (by decide +kernel)) (fun _ h9 => h9) rfl dX6_visit_106 ?_
        refine W.widen (k := 7) (n := 54) (Nat.le_of_ble_eq_true rfl) (Nat.le_of_ble_eq_true rfl) ?_
        exact W.iret (v := u103) hx hb hr (fun t ht hW => ⟨⟨u103, g46, rfl, ((hx6.trans hx37).trans hx47), CX.give hb0 hM hK hG hE hS ht hW⟩, hS.F ht⟩) hS.2.2 dX6_visit_109
      · skip
        refine lv_iconst (v := 3) hx hb dX6_visit_46 (by decide) ?_
        refine lv_goto (tgt := 51) hx hb dX6_visit_47 (by decide) ?_
        obtain ⟨u105, u106, hP, hf⟩ := o_mo (i := 0) (q := o) hM (by omega)
        refine va_calli (va_runV (As := [.int 3]) (rest := []) ⟨hx, hb, hml, hown, hts⟩ (rm_isWrong l dC dI kA eD b g36 o 3 (by omega)) (cwV 1 hts gX6_visit_X6_isWrong rfl rfl rfl (by decide +kernel) ⟨Nat.le_of_ble_eq_true rfl, Nat.le_of_ble_eq_true rfl⟩) ⟨fb_CX, va_recv hK hP (ci := 10) (q0 := 0) rfl rfl, fun U hU hW => ⟨rfl, CX.give hb0 hM hK hG hE hS hU hW⟩⟩ rfl rfl hl.1 rfl (lv_room (Nat.le_of_ble_eq_true rfl)) dX6_visit_51 ⟨(Nat.le_of_ble_eq_true rfl), (Nat.le_of_ble_eq_true rfl)⟩) hS (fun q _ h => h) (fun q h => h) (fun r107 g109 t H locs ht hvm hw108 hB hz1 hk1 hS => ?_)
        have hM := hB.back ht
        have hG := hB.2.2.2.1
        have hx110 : Ext o X0 g36 g109 := hw108.1
        have ht111 : tg g109 o = 17 := hx110.tk ht38 (by omega)
        have ht112 : tg g109 (pF g5 o 5) = 26 := hx110.tk ht39 (by omega)
        have ht113 : tg g109 r18 = 28 + 64 * j := hx110.tk ht40 (by omega)
        obtain rfl : r107 = 1 := hw108.2.2.trans (by decide)
        have hth114 : pI g109 o 2 = 3 := by rw [hw108.2.1]; exact sI_at
        refine lv_if_eq (tgt := 59) hx hb dX6_visit_54 (by decide) (fun cx => by first | exact absurd cx (by decide) | exact absurd (by decide) cx) (fun _ => ?_)
        refine lv_iconst (v := 0) hx hb dX6_visit_57 (by decide) ?_
        refine W.widen (k := 7) (n := 54) (Nat.le_of_ble_eq_true rfl) (Nat.le_of_ble_eq_true rfl) ?_
        exact W.iret (v := 0) hx hb hr (fun t ht hW => ⟨⟨0, g109, rfl, ((hx6.trans hx37).trans hx110), CX.give hb0 hM hK hG hE hS ht hW⟩, hS.F ht⟩) hS.2.2 dX6_visit_58
    · skip
      have g115 : ¬ ((1 : Int) ≤ (pe : Int32).toInt ∧ (pe : Int32).toInt ≤ (500 : Int)) := bI_f hw13 c14
      have zg115 : r12 = 0 := bI_f0 hw13 g115
      refine lv_iconst (v := 2) hx hb dX6_visit_21 (by decide) ?_
      refine lv_goto (tgt := 51) hx hb dX6_visit_22 (by decide) ?_
      obtain ⟨u116, u117, hP, hf⟩ := o_mo (i := 0) (q := o) hM (by omega)
      refine va_calli (va_runV (As := [.int 2]) (rest := []) ⟨hx, hb, hml, hown, hts⟩ (rm_isWrong l dC dI kA eD b g5 o 2 (by omega)) (cwV 1 hts gX6_visit_X6_isWrong rfl rfl rfl (by decide +kernel) ⟨Nat.le_of_ble_eq_true rfl, Nat.le_of_ble_eq_true rfl⟩) ⟨fb_CX, va_recv hK hP (ci := 10) (q0 := 0) rfl rfl, fun U hU hW => ⟨rfl, CX.give hb0 hM hK hG hE hS hU hW⟩⟩ rfl rfl hl.1 rfl (lv_room (Nat.le_of_ble_eq_true rfl)) dX6_visit_51 ⟨(Nat.le_of_ble_eq_true rfl), (Nat.le_of_ble_eq_true rfl)⟩) hS (fun q _ h => h) (fun q h => h) (fun r118 g120 t H locs ht hvm hw119 hB hz1 hk1 hS => ?_)
      have hM := hB.back ht
      have hG := hB.2.2.2.1
      have hx121 : Ext o X0 g5 g120 := hw119.1
      have ht122 : tg g120 o = 17 := hx121.tk ht7 (by omega)
      have ht123 : tg g120 (pF g5 o 5) = 26 := hx121.tk hfm (by omega)
      obtain rfl : r118 = 1 := hw119.2.2.trans (by decide)
      have hth124 : pI g120 o 2 = 2 := by rw [hw119.2.1]; exact sI_at
      refine lv_if_eq (tgt := 59) hx hb dX6_visit_54 (by decide) (fun cx => by first | exact absurd cx (by decide) | exact absurd (by decide) cx) (fun _ => ?_)
      refine lv_iconst (v := 0) hx hb dX6_visit_57 (by decide) ?_
      refine W.widen (k := 7) (n := 54) (Nat.le_of_ble_eq_true rfl) (Nat.le_of_ble_eq_true rfl) ?_
      exact W.iret (v := 0) hx hb hr (fun t ht hW => ⟨⟨0, g120, rfl, (hx6.trans hx121), CX.give hb0 hM hK hG hE hS ht hW⟩, hS.F ht⟩) hS.2.2 dX6_visit_58

set_option maxHeartbeats 4000000 in
set_option maxRecDepth 100000 in
theorem rmf_lamp (l : Launch) (dC : Nat → ClassId) (dI : Nat → Nat → Nat) (kA : Nat → ClassId) (eD b : Nat) (g : Gh) (o : Nat) (site : Int32) (x : Int32) (y : Int32) (is : Int32) (hto : tg g o = 17) (his : is = 0 ∨ is = 1) : Met l yX6_lamp wsX6_lamp ({ frames := 4, cells := 0, slots := 0, locals := 87 }) (va_Pc [.ref o, .int site, .int x, .int y, .int is] (CX (dC, dI) kA eD b g)) (va_Qi (fun (r : Int32) (u : Gh) => Ext o X0 g u) (fun (u : Gh) t => CX (dC, dI) kA eD b u t) (fun q => b ≤ q)) 0 0 (fun q => b ≤ q) := by
  refine Met.ofW (cc := cX6_lamp) (maxL := 7) (ret := (some .boolean)) (by decide +kernel) rfl ?_
  intro p e s m args below meth c s₁ B hml hv
  obtain ⟨rfl, hb0, hM, hK, hG, hE⟩ := hv
  have hx := B.exec
  have hb := B.bytes
  have hr := B.returns
  have hts := atoms_spec (ws := wsX6_lamp) B.pre
  have hown : s.vm.findClass RX6 = some m.cls := findClass_of_methodNamed B.named
  have hlocks := B.notSynchronized
  have hT := hE.1
  have hN := hE.2.2.2.2.2.2.2.1
  have hS : va_S (fun q => b ≤ q) s.heap s.heap [] := va_S.rf
  have hl := lv_entry ([.ref o, .int site, .int x, .int y, .int is]) (n := 7) (Nat.le_of_ble_eq_true rfl)
  rw [lg_entry_eq]
  generalize (lg_sl ([.ref o, .int site, .int x, .int y, .int is]) ++ List.replicate (7 - (lg_sl ([.ref o, .int site, .int x, .int y, .int is])).length) Slot.unset).toArray = ls at hl ⊢
  have hl : lv_has ls 7 [(0, .ref o), (1, .int site), (2, .int x), (3, .int y), (4, .int is)] := hl
  generalize ([.ref o, .int site, .int x, .int y, .int is] : List Value).toArray = args at hts ⊢
  refine lv_aload_n hx hb dX6_lamp_0 rfl (lv_at hl 0 rfl) ?_
  refine lv_iload_n hx hb dX6_lamp_1 rfl (lv_at hl 1 rfl) ?_
  refine lv_iload_n hx hb dX6_lamp_2 rfl (lv_at hl 2 rfl) ?_
  refine lv_iload_n hx hb dX6_lamp_3 rfl (lv_at hl 3 rfl) ?_
  obtain ⟨u1, u2, hP, hf⟩ := o_mo (i := 0) (q := o) hM (by omega)
  refine va_calli (va_runV (As := [.int site, .int x, .int y]) (rest := []) ⟨hx, hb, hml, hown, hts⟩ (rm_isNoCell l dC dI kA eD b g o site x y (by omega)) (cwV 3 hts gX6_lamp_X6_isNoCell rfl rfl rfl (by decide +kernel) ⟨Nat.le_of_ble_eq_true rfl, Nat.le_of_ble_eq_true rfl⟩) ⟨fb_CX, va_recv hK hP (ci := 10) (q0 := 0) rfl rfl, fun U hU hW => ⟨rfl, CX.give hb0 hM hK hG hE hS hU hW⟩⟩ rfl rfl hl.1 rfl (lv_room (Nat.le_of_ble_eq_true rfl)) dX6_lamp_4 ⟨(Nat.le_of_ble_eq_true rfl), (Nat.le_of_ble_eq_true rfl)⟩) hS (fun q _ h => h) (fun q h => h) (fun r3 g5 t H locs ht hvm hw4 hB hz1 hk1 hS => ?_)
  have hM := hB.back ht
  have hG := hB.2.2.2.1
  have hx6 : Ext o X0 g g5 := hw4.1
  have ht7 : tg g5 o = 17 := hx6.tk hto (by omega)
  refine lv_if_eq (tgt := 12) hx hb dX6_lamp_7 (by decide) (fun c8 => ?_) (fun c8 => ?_)
  · skip
    have hv9 := vr0 (nc01 hw4.2) c8
    obtain ⟨j, a0, jx, jy, cl, rfl, rfl, rfl, hjx, hjy, hjs, hta, hga, hcl⟩ := hv9
    have hl : lv_has ls 7 [(0, .ref o), (1, .int (nI j)), (2, .int (nI jx)), (3, .int (nI jy)), (4, .int is)] := hl
    have hfm := (mo_list hM ht7).1
    have hls := (mo_list hM ht7).2
    have ej : (nI j).toInt = (j : Int) := nI_toInt (by omega)
    refine lv_aload_n hx hb dX6_lamp_12 rfl (lv_at hl 0 rfl) ?_
    obtain ⟨u10, u11, hP, hf⟩ := o_mo (i := 0) (q := o) hM (by omega)
    refine va_get (D := (dC, dI)) (ci := 10) (v := .ref (pF g5 o 5)) (C := RX6) (T := TX6) (N := 11) hx hb hts (by decide +kernel) hown hK hP 0 rfl rfl 10 (by decide) (hts (.fieldLink RX6 34 "SnowpalaceModel" "sites" "Ljava/util/List;") (by decide +kernel)) (fun _ h9 => h9) rfl dX6_lamp_13 ?_
    refine lv_iload_n hx hb dX6_lamp_16 rfl (lv_at hl 1 rfl) ?_
    obtain ⟨hP, hf⟩ := o_al (i := 0) (q := (pF g5 o 5)) hM (by omega)
    refine va_callFr (va_runF (hK.1 3 _ rfl).2 (As := [.int (nI j)]) (rest := []) ⟨hx, hb, hml, hown, hts⟩ (rj_get l dC dI kA eD b g5 (pF g5 o 5) j (by omega) hjs) (va_cwF 1 hts gX6_lamp_Jx4a65c_get_915e3_f149Jx4a65c rfl rfl rfl hE.2.2.2.2.1 (by decide +kernel) ⟨Nat.le_of_ble_eq_true rfl, Nat.le_of_ble_eq_true rfl⟩) ⟨fb_CX, va_recv hK hP (ci := 3) (q0 := 0) rfl rfl, fun U hU hW => ⟨rfl, CX.give hb0 hM hK hG hE hS hU hW⟩⟩ rfl rfl hl.1 rfl (lv_room (Nat.le_of_ble_eq_true rfl)) dX6_lamp_17 ⟨(Nat.le_of_ble_eq_true rfl), (Nat.le_of_ble_eq_true rfl)⟩) hS (fun q _ h => h) (fun q h => h) (fun u r12 t H locs ht hvm hw13 hB hz1 hk1 hS => ?_)
    have hM := hB.1.back ht
    have hG := hB.1.2.2.2.1
    have ht14 : tg g5 r12 = 28 + 64 * j := hB.2.1
    have hg15 : pO g5 (pF g5 (pF g5 o 5) 0) j = some r12 := hB.2.2
    obtain rfl : a0 = r12 := Option.some.inj (hga.symm.trans hg15)
    obtain ⟨u16, u17, u18, u19, u20, u21, hP, hf⟩ := o_ms (i := j) (q := a0) hM (by omega)
    refine va_castY hx hb hown (hts (.classLink RX6 125 "SnowpalaceModel$Site") (by decide +kernel)) hE.2.2.2.2.2.2.1 (va_recv hK hP (ci := 9) (q0 := 0) rfl rfl) dX6_lamp_22 ?_
    obtain ⟨u22, u23, u24, u25, u26, u27, hP, hf⟩ := o_ms (i := j) (q := a0) hM (by omega)
    refine va_getN (D := (dC, dI)) (ci := 9) (v := .ref (pF g5 a0 0)) (C := RX5) (T := TX5) (N := 10) hx hb hts (by decide +kernel) hown hK hP 0 rfl rfl 0 (by decide) (hN (.fieldLinkNest RX6 160 "SnowpalaceModel$Site" "cells" "[[LSnowpalaceModel$Cell;" RX6) (by decide +kernel)) (fun _ h9 => h9) rfl dX6_lamp_25 ?_
    have ht28 : tg g5 (pF g5 a0 0) = 29 + 64 * j := hf.1
    refine lv_iload_n hx hb dX6_lamp_28 rfl (lv_at hl 3 rfl) ?_
    obtain ⟨hP, hf⟩ := o_co (i := j) (q := (pF g5 a0 0)) hM (by omega)
    have ec : ((nI jy) : Int32).toNatClampNeg = jy := nI_clamp (by omega)
    refine rt_aldA (D := (dC, dI)) (t0 := 9) hx hb hK hP rfl (vp_in_nI (by omega) (by decide)) (y := (pF g5 (pF g5 a0 0) jy)) ((congrArg (fun z => if z < 6 then some (pF g5 (pF g5 a0 0) z) else none) ec).trans (if_pos (by omega))) dX6_lamp_29 ?_
    have ht29 : tg g5 (pF g5 (pF g5 a0 0) jy) = 30 + 64 * (8 * j + jy) := (hf jy (by omega))
    refine lv_iload_n hx hb dX6_lamp_30 rfl (lv_at hl 2 rfl) ?_
    obtain ⟨hP, hf⟩ := o_cr (i := (8 * j + jy)) (q := (pF g5 (pF g5 a0 0) jy)) hM (by omega)
    refine va_aldq (D := (dC, dI)) hx hb hK hP 0 8 rfl rfl (vp_in_nI (by omega) (by decide)) dX6_lamp_31 ?_
    have ec : ((nI jx) : Int32).toNatClampNeg = jx := nI_clamp (by omega)
    rw [ec]
    have hq30 := hf jx (by omega)
    rw [hcl]
    have ht31 : tg g5 cl = 31 := hq30 cl hcl
    refine lv_astore (lv' := [(5, .ref cl), (0, .ref o), (1, .int (nI j)), (2, .int (nI jx)), (3, .int (nI jy)), (4, .int is)]) hx hb dX6_lamp_32 hl (by decide) rfl (fun ls hl => ?_)
    refine lv_aload_n hx hb dX6_lamp_34 rfl (lv_at hl 1 rfl) ?_
    refine lv_iload hx hb dX6_lamp_35 (lv_at hl 5 rfl) ?_
    refine lv_if_eq (tgt := 54) hx hb dX6_lamp_37 (by decide) (fun c32 => ?_) (fun c32 => ?_)
    · skip
      refine lv_iconst (v := 0) hx hb dX6_lamp_54 (by decide) ?_
      obtain ⟨u33, u34, hP, hf⟩ := o_mo (i := 0) (q := o) hM (by omega)
      refine va_calli (va_runV (As := [.int 0]) (rest := []) ⟨hx, hb, hml, hown, hts⟩ (rm_isWrong l dC dI kA eD b g5 o 0 (by omega)) (cwV 1 hts gX6_lamp_X6_isWrong rfl rfl rfl (by decide +kernel) ⟨Nat.le_of_ble_eq_true rfl, Nat.le_of_ble_eq_true rfl⟩) ⟨fb_CX, va_recv hK hP (ci := 10) (q0 := 0) rfl rfl, fun U hU hW => ⟨rfl, CX.give hb0 hM hK hG hE hS hU hW⟩⟩ rfl rfl hl.1 rfl (lv_room (Nat.le_of_ble_eq_true rfl)) dX6_lamp_55 ⟨(Nat.le_of_ble_eq_true rfl), (Nat.le_of_ble_eq_true rfl)⟩) hS (fun q _ h => h) (fun q h => h) (fun r35 g37 t H locs ht hvm hw36 hB hz1 hk1 hS => ?_)
      have hM := hB.back ht
      have hG := hB.2.2.2.1
      have hx38 : Ext o X0 g5 g37 := hw36.1
      have ht39 : tg g37 o = 17 := hx38.tk ht7 (by omega)
      have ht40 : tg g37 (pF g5 o 5) = 26 := hx38.tk hfm (by omega)
      have ht41 : tg g37 a0 = 28 + 64 * j := hx38.tk hta (by omega)
      have ht42 : tg g37 (pF g5 a0 0) = 29 + 64 * j := hx38.tk ht28 (by omega)
      have ht43 : tg g37 (pF g5 (pF g5 a0 0) jy) = 30 + 64 * (8 * j + jy) := hx38.tk ht29 (by omega)
      have ht44 : tg g37 cl = 31 := hx38.tk ht31 (by omega)
      obtain rfl : r35 = 0 := hw36.2.2.trans (by decide)
      have hth45 : pI g37 o 2 = 0 := by rw [hw36.2.1]; exact sI_at
      refine lv_if_eq (tgt := 63) hx hb dX6_lamp_58 (by decide) (fun _ => ?_) (fun cx => by first | exact absurd (by decide) cx | exact absurd cx (by decide))
      refine lv_aload hx hb dX6_lamp_63 (lv_at hl 0 rfl) ?_
      obtain ⟨u46, u47, u48, u49, u50, hP, hf⟩ := o_ce (i := 0) (q := cl) hM (by omega)
      refine va_getN (D := (dC, dI)) (ci := 8) (v := .int u50) (C := RX4) (T := TX4) (N := 5) hx hb hts (by decide +kernel) hown hK hP 0 rfl rfl 4 (by decide) (hN (.fieldLinkNest RX6 214 "SnowpalaceModel$Cell" "hasLamp" "Z" RX6) (by decide +kernel)) (fun _ h9 => h9) rfl dX6_lamp_65 ?_
      have hb51 := hf.2
      refine lv_istore (lv' := [(6, .int u50), (5, .ref cl), (0, .ref o), (1, .int (nI j)), (2, .int (nI jx)), (3, .int (nI jy)), (4, .int is)]) hx hb dX6_lamp_68 hl (by decide) rfl (fun ls hl => ?_)
      refine lv_aload_n hx hb dX6_lamp_70 rfl (lv_at hl 2 rfl) ?_
      refine lv_dup hx hb dX6_lamp_71 rfl ?_
      obtain ⟨u52, u53, hP, hf⟩ := o_mo (i := 0) (q := o) hM (by omega)
      refine va_get (D := (dC, dI)) (ci := 10) (v := .int u52) (C := RX6) (T := TX6) (N := 11) hx hb hts (by decide +kernel) hown hK hP 0 rfl rfl 3 (by decide) (hts (.fieldLink RX6 100 "SnowpalaceModel" "money" "I") (by decide +kernel)) (fun _ h9 => h9) rfl dX6_lamp_72 ?_
      refine lv_iload hx hb dX6_lamp_75 (lv_at hl 6 rfl) ?_
      refine lv_if_eq (tgt := 90) hx hb dX6_lamp_77 (by decide) (fun _ => ?_) (fun cx => absurd c32 cx)
      refine lv_iconst (v := 0) hx hb dX6_lamp_90 (by decide) ?_
      refine lv_isub hx hb dX6_lamp_91 ?_
      refine lv_topi (fun v54 e55 => ?_)
      obtain ⟨u56, u57, hP, hf⟩ := o_mo (i := 0) (q := o) hM (by omega)
      refine rt_put (D := (dC, dI)) (ci := 10) (v := .int v54) (ty := .int) (C := RX6) (T := TX6) (N := 11) hx hb hts (by decide +kernel) tyX6 tyX6_ok nmX6 hown hK hP (hM.ge (by omega)) hS rfl 3 (by decide) (hts (.fieldLink RX6 100 "SnowpalaceModel" "money" "I") (by decide +kernel)) (fun _ h9 => h9) rfl (by decide +kernel) rfl rfl (Nat.le_of_ble_eq_true rfl) dX6_lamp_92 (fun H locs hP hz ho hS => ?_)
      have hM := s_mo (i := 0) hM (by omega) hP ho hf
      refine lv_aload hx hb dX6_lamp_95 (lv_at hl 1 rfl) ?_
      refine lv_iload hx hb dX6_lamp_97 (lv_at hl 6 rfl) ?_
      obtain ⟨u58, u59, u60, u61, u62, hP, hf⟩ := o_ce (i := 0) (q := cl) hM (by omega)
      refine rt_putN (D := (dC, dI)) (ci := 8) (v := .int is) (ty := .boolean) (C := RX4) (T := TX4) (N := 5) hx hb hts (by decide +kernel) tyX4 tyX4_ok nmX4 hown hK hP (hM.ge (by omega)) hS rfl 4 (by decide) (hN (.fieldLinkNest RX6 214 "SnowpalaceModel$Cell" "hasLamp" "Z" RX6) (by decide +kernel)) (fun _ h9 => h9) rfl (by decide +kernel) (z01n his) (z01f his) (Nat.le_of_ble_eq_true rfl) dX6_lamp_99 (fun H locs hP hz ho hS => ?_)
      have hM := s_ce (i := 0) hM (by omega) hP ho ⟨hf.1, his⟩
      refine lv_iload hx hb dX6_lamp_102 (lv_at hl 0 rfl) ?_
      refine W.widen (k := 0) (n := 0) (Nat.le_of_ble_eq_true rfl) (Nat.le_of_ble_eq_true rfl) ?_
      exact W.zret (v := u50) (ty := .boolean) hx hb hr (z01n hb51) (fun t ht hW => ⟨⟨u50, g37, rfl, (hx6.trans hx38), CX.give hb0 hM hK hG hE hS ht hW⟩, hS.F ht⟩) hS.2.2 dX6_lamp_104
    · skip
      refine lv_aload hx hb dX6_lamp_40 (lv_at hl 0 rfl) ?_
      obtain ⟨u63, u64, u65, u66, u67, hP, hf⟩ := o_ce (i := 0) (q := cl) hM (by omega)
      refine va_getN (D := (dC, dI)) (ci := 8) (v := .int u63) (C := RX4) (T := TX4) (N := 5) hx hb hts (by decide +kernel) hown hK hP 0 rfl rfl 0 (by decide) (hN (.fieldLinkNest RX6 175 "SnowpalaceModel$Cell" "kind" "C" RX6) (by decide +kernel)) (fun _ h9 => h9) rfl dX6_lamp_42 ?_
      have hb68 := hf.1
      refine lv_bipush (v := 115) hx hb dX6_lamp_45 (by decide) ?_
      refine lv_icmp_ne (tgt := 54) hx hb dX6_lamp_47 (by decide) (fun c69 => ?_) (fun c69 => ?_)
      · skip
        refine lv_iconst (v := 0) hx hb dX6_lamp_54 (by decide) ?_
        obtain ⟨u70, u71, hP, hf⟩ := o_mo (i := 0) (q := o) hM (by omega)
        refine va_calli (va_runV (As := [.int 0]) (rest := []) ⟨hx, hb, hml, hown, hts⟩ (rm_isWrong l dC dI kA eD b g5 o 0 (by omega)) (cwV 1 hts gX6_lamp_X6_isWrong rfl rfl rfl (by decide +kernel) ⟨Nat.le_of_ble_eq_true rfl, Nat.le_of_ble_eq_true rfl⟩) ⟨fb_CX, va_recv hK hP (ci := 10) (q0 := 0) rfl rfl, fun U hU hW => ⟨rfl, CX.give hb0 hM hK hG hE hS hU hW⟩⟩ rfl rfl hl.1 rfl (lv_room (Nat.le_of_ble_eq_true rfl)) dX6_lamp_55 ⟨(Nat.le_of_ble_eq_true rfl), (Nat.le_of_ble_eq_true rfl)⟩) hS (fun q _ h => h) (fun q h => h) (fun r72 g74 t H locs ht hvm hw73 hB hz1 hk1 hS => ?_)
        have hM := hB.back ht
        have hG := hB.2.2.2.1
        have hx75 : Ext o X0 g5 g74 := hw73.1
        have ht76 : tg g74 o = 17 := hx75.tk ht7 (by omega)
        have ht77 : tg g74 (pF g5 o 5) = 26 := hx75.tk hfm (by omega)
        have ht78 : tg g74 a0 = 28 + 64 * j := hx75.tk hta (by omega)
        have ht79 : tg g74 (pF g5 a0 0) = 29 + 64 * j := hx75.tk ht28 (by omega)
        have ht80 : tg g74 (pF g5 (pF g5 a0 0) jy) = 30 + 64 * (8 * j + jy) := hx75.tk ht29 (by omega)
        have ht81 : tg g74 cl = 31 := hx75.tk ht31 (by omega)
        obtain rfl : r72 = 0 := hw73.2.2.trans (by decide)
        have hth82 : pI g74 o 2 = 0 := by rw [hw73.2.1]; exact sI_at
        refine lv_if_eq (tgt := 63) hx hb dX6_lamp_58 (by decide) (fun _ => ?_) (fun cx => by first | exact absurd (by decide) cx | exact absurd cx (by decide))
        refine lv_aload hx hb dX6_lamp_63 (lv_at hl 0 rfl) ?_
        obtain ⟨u83, u84, u85, u86, u87, hP, hf⟩ := o_ce (i := 0) (q := cl) hM (by omega)
        refine va_getN (D := (dC, dI)) (ci := 8) (v := .int u87) (C := RX4) (T := TX4) (N := 5) hx hb hts (by decide +kernel) hown hK hP 0 rfl rfl 4 (by decide) (hN (.fieldLinkNest RX6 214 "SnowpalaceModel$Cell" "hasLamp" "Z" RX6) (by decide +kernel)) (fun _ h9 => h9) rfl dX6_lamp_65 ?_
        have hb88 := hf.2
        refine lv_istore (lv' := [(6, .int u87), (5, .ref cl), (0, .ref o), (1, .int (nI j)), (2, .int (nI jx)), (3, .int (nI jy)), (4, .int is)]) hx hb dX6_lamp_68 hl (by decide) rfl (fun ls hl => ?_)
        refine lv_aload_n hx hb dX6_lamp_70 rfl (lv_at hl 2 rfl) ?_
        refine lv_dup hx hb dX6_lamp_71 rfl ?_
        obtain ⟨u89, u90, hP, hf⟩ := o_mo (i := 0) (q := o) hM (by omega)
        refine va_get (D := (dC, dI)) (ci := 10) (v := .int u89) (C := RX6) (T := TX6) (N := 11) hx hb hts (by decide +kernel) hown hK hP 0 rfl rfl 3 (by decide) (hts (.fieldLink RX6 100 "SnowpalaceModel" "money" "I") (by decide +kernel)) (fun _ h9 => h9) rfl dX6_lamp_72 ?_
        refine lv_iload hx hb dX6_lamp_75 (lv_at hl 6 rfl) ?_
        refine lv_if_eq (tgt := 90) hx hb dX6_lamp_77 (by decide) (fun cx => absurd cx c32) (fun _ => ?_)
        refine lv_iload hx hb dX6_lamp_80 (lv_at hl 0 rfl) ?_
        refine lv_if_ne (tgt := 90) hx hb dX6_lamp_82 (by decide) (fun c91 => ?_) (fun c91 => ?_)
        · skip
          refine lv_iconst (v := 0) hx hb dX6_lamp_90 (by decide) ?_
          refine lv_isub hx hb dX6_lamp_91 ?_
          refine lv_topi (fun v92 e93 => ?_)
          obtain ⟨u94, u95, hP, hf⟩ := o_mo (i := 0) (q := o) hM (by omega)
          refine rt_put (D := (dC, dI)) (ci := 10) (v := .int v92) (ty := .int) (C := RX6) (T := TX6) (N := 11) hx hb hts (by decide +kernel) tyX6 tyX6_ok nmX6 hown hK hP (hM.ge (by omega)) hS rfl 3 (by decide) (hts (.fieldLink RX6 100 "SnowpalaceModel" "money" "I") (by decide +kernel)) (fun _ h9 => h9) rfl (by decide +kernel) rfl rfl (Nat.le_of_ble_eq_true rfl) dX6_lamp_92 (fun H locs hP hz ho hS => ?_)
          have hM := s_mo (i := 0) hM (by omega) hP ho hf
          refine lv_aload hx hb dX6_lamp_95 (lv_at hl 1 rfl) ?_
          refine lv_iload hx hb dX6_lamp_97 (lv_at hl 6 rfl) ?_
          obtain ⟨u96, u97, u98, u99, u100, hP, hf⟩ := o_ce (i := 0) (q := cl) hM (by omega)
          refine rt_putN (D := (dC, dI)) (ci := 8) (v := .int is) (ty := .boolean) (C := RX4) (T := TX4) (N := 5) hx hb hts (by decide +kernel) tyX4 tyX4_ok nmX4 hown hK hP (hM.ge (by omega)) hS rfl 4 (by decide) (hN (.fieldLinkNest RX6 214 "SnowpalaceModel$Cell" "hasLamp" "Z" RX6) (by decide +kernel)) (fun _ h9 => h9) rfl (by decide +kernel) (z01n his) (z01f his) (Nat.le_of_ble_eq_true rfl) dX6_lamp_99 (fun H locs hP hz ho hS => ?_)
          have hM := s_ce (i := 0) hM (by omega) hP ho ⟨hf.1, his⟩
          refine lv_iload hx hb dX6_lamp_102 (lv_at hl 0 rfl) ?_
          refine W.widen (k := 0) (n := 0) (Nat.le_of_ble_eq_true rfl) (Nat.le_of_ble_eq_true rfl) ?_
          exact W.zret (v := u87) (ty := .boolean) hx hb hr (z01n hb88) (fun t ht hW => ⟨⟨u87, g74, rfl, (hx6.trans hx75), CX.give hb0 hM hK hG hE hS ht hW⟩, hS.F ht⟩) hS.2.2 dX6_lamp_104
        · skip
          refine lv_bipush (v := 50) hx hb dX6_lamp_85 (by decide) ?_
          refine lv_goto (tgt := 91) hx hb dX6_lamp_87 (by decide) ?_
          refine lv_isub hx hb dX6_lamp_91 ?_
          refine lv_topi (fun v101 e102 => ?_)
          obtain ⟨u103, u104, hP, hf⟩ := o_mo (i := 0) (q := o) hM (by omega)
          refine rt_put (D := (dC, dI)) (ci := 10) (v := .int v101) (ty := .int) (C := RX6) (T := TX6) (N := 11) hx hb hts (by decide +kernel) tyX6 tyX6_ok nmX6 hown hK hP (hM.ge (by omega)) hS rfl 3 (by decide) (hts (.fieldLink RX6 100 "SnowpalaceModel" "money" "I") (by decide +kernel)) (fun _ h9 => h9) rfl (by decide +kernel) rfl rfl (Nat.le_of_ble_eq_true rfl) dX6_lamp_92 (fun H locs hP hz ho hS => ?_)
          have hM := s_mo (i := 0) hM (by omega) hP ho hf
          refine lv_aload hx hb dX6_lamp_95 (lv_at hl 1 rfl) ?_
          refine lv_iload hx hb dX6_lamp_97 (lv_at hl 6 rfl) ?_
          obtain ⟨u105, u106, u107, u108, u109, hP, hf⟩ := o_ce (i := 0) (q := cl) hM (by omega)
          refine rt_putN (D := (dC, dI)) (ci := 8) (v := .int is) (ty := .boolean) (C := RX4) (T := TX4) (N := 5) hx hb hts (by decide +kernel) tyX4 tyX4_ok nmX4 hown hK hP (hM.ge (by omega)) hS rfl 4 (by decide) (hN (.fieldLinkNest RX6 214 "SnowpalaceModel$Cell" "hasLamp" "Z" RX6) (by decide +kernel)) (fun _ h9 => h9) rfl (by decide +kernel) (z01n his) (z01f his) (Nat.le_of_ble_eq_true rfl) dX6_lamp_99 (fun H locs hP hz ho hS => ?_)
          have hM := s_ce (i := 0) hM (by omega) hP ho ⟨hf.1, his⟩
          refine lv_iload hx hb dX6_lamp_102 (lv_at hl 0 rfl) ?_
          refine W.widen (k := 0) (n := 0) (Nat.le_of_ble_eq_true rfl) (Nat.le_of_ble_eq_true rfl) ?_
          exact W.zret (v := u87) (ty := .boolean) hx hb hr (z01n hb88) (fun t ht hW => ⟨⟨u87, g74, rfl, (hx6.trans hx75), CX.give hb0 hM hK hG hE hS ht hW⟩, hS.F ht⟩) hS.2.2 dX6_lamp_104
      · skip
        refine lv_iconst (v := 3) hx hb dX6_lamp_50 (by decide) ?_
        refine lv_goto (tgt := 55) hx hb dX6_lamp_51 (by decide) ?_
        obtain ⟨u110, u111, hP, hf⟩ := o_mo (i := 0) (q := o) hM (by omega)
        refine va_calli (va_runV (As := [.int 3]) (rest := []) ⟨hx, hb, hml, hown, hts⟩ (rm_isWrong l dC dI kA eD b g5 o 3 (by omega)) (cwV 1 hts gX6_lamp_X6_isWrong rfl rfl rfl (by decide +kernel) ⟨Nat.le_of_ble_eq_true rfl, Nat.le_of_ble_eq_true rfl⟩) ⟨fb_CX, va_recv hK hP (ci := 10) (q0 := 0) rfl rfl, fun U hU hW => ⟨rfl, CX.give hb0 hM hK hG hE hS hU hW⟩⟩ rfl rfl hl.1 rfl (lv_room (Nat.le_of_ble_eq_true rfl)) dX6_lamp_55 ⟨(Nat.le_of_ble_eq_true rfl), (Nat.le_of_ble_eq_true rfl)⟩) hS (fun q _ h => h) (fun q h => h) (fun r112 g114 t H locs ht hvm hw113 hB hz1 hk1 hS => ?_)
        have hM := hB.back ht
        have hG := hB.2.2.2.1
        have hx115 : Ext o X0 g5 g114 := hw113.1
        have ht116 : tg g114 o = 17 := hx115.tk ht7 (by omega)
        have ht117 : tg g114 (pF g5 o 5) = 26 := hx115.tk hfm (by omega)
        have ht118 : tg g114 a0 = 28 + 64 * j := hx115.tk hta (by omega)
        have ht119 : tg g114 (pF g5 a0 0) = 29 + 64 * j := hx115.tk ht28 (by omega)
        have ht120 : tg g114 (pF g5 (pF g5 a0 0) jy) = 30 + 64 * (8 * j + jy) := hx115.tk ht29 (by omega)
        have ht121 : tg g114 cl = 31 := hx115.tk ht31 (by omega)
        obtain rfl : r112 = 1 := hw113.2.2.trans (by decide)
        have hth122 : pI g114 o 2 = 3 := by rw [hw113.2.1]; exact sI_at
        refine lv_if_eq (tgt := 63) hx hb dX6_lamp_58 (by decide) (fun cx => by first | exact absurd cx (by decide) | exact absurd (by decide) cx) (fun _ => ?_)
        refine lv_iconst (v := 0) hx hb dX6_lamp_61 (by decide) ?_
        refine W.widen (k := 0) (n := 0) (Nat.le_of_ble_eq_true rfl) (Nat.le_of_ble_eq_true rfl) ?_
        exact W.zret (v := 0) (ty := .boolean) hx hb hr rfl (fun t ht hW => ⟨⟨0, g114, rfl, (hx6.trans hx115), CX.give hb0 hM hK hG hE hS ht hW⟩, hS.F ht⟩) hS.2.2 dX6_lamp_62
  · skip
    have hv123 := vr1 (nc01 hw4.2) c8
    refine lv_iconst (v := 0) hx hb dX6_lamp_10 (by decide) ?_
    refine W.widen (k := 0) (n := 0) (Nat.le_of_ble_eq_true rfl) (Nat.le_of_ble_eq_true rfl) ?_
    exact W.zret (v := 0) (ty := .boolean) hx hb hr rfl (fun t ht hW => ⟨⟨0, g5, rfl, hx6, CX.give hb0 hM hK hG hE hS ht hW⟩, hS.F ht⟩) hS.2.2 dX6_lamp_11

set_option maxHeartbeats 4000000 in
set_option maxRecDepth 100000 in
theorem rmf_meanCreep (l : Launch) (dC : Nat → ClassId) (dI : Nat → Nat → Nat) (kA : Nat → ClassId) (eD b : Nat) (g : Gh) (o : Nat) (site : Int32) (hto : tg g o = 17)  : Met l yX6_meanCreep wsX6_meanCreep ({ frames := 3, cells := 0, slots := 0, locals := 64 }) (va_Pc [.ref o, .int site] (CX (dC, dI) kA eD b g)) (va_Qd (fun (r : UInt64) (u : Gh) => Ext o X0 g u) (fun (u : Gh) t => CX (dC, dI) kA eD b u t) (fun q => b ≤ q)) 0 0 (fun q => b ≤ q) := by
  refine Met.ofW (cc := cX6_meanCreep) (maxL := 11) (ret := (some .double)) (by decide +kernel) rfl ?_
  intro p e s m args below meth c s₁ B hml hv
  obtain ⟨rfl, hb0, hM, hK, hG, hE⟩ := hv
  have hx := B.exec
  have hb := B.bytes
  have hr := B.returns
  have hts := atoms_spec (ws := wsX6_meanCreep) B.pre
  have hown : s.vm.findClass RX6 = some m.cls := findClass_of_methodNamed B.named
  have hlocks := B.notSynchronized
  have hT := hE.1
  have hN := hE.2.2.2.2.2.2.2.1
  have hS : va_S (fun q => b ≤ q) s.heap s.heap [] := va_S.rf
  have hl := lv_entry ([.ref o, .int site]) (n := 11) (Nat.le_of_ble_eq_true rfl)
  rw [lg_entry_eq]
  generalize (lg_sl ([.ref o, .int site]) ++ List.replicate (11 - (lg_sl ([.ref o, .int site])).length) Slot.unset).toArray = ls at hl ⊢
  have hl : lv_has ls 11 [(0, .ref o), (1, .int site)] := hl
  generalize ([.ref o, .int site] : List Value).toArray = args at hts ⊢
  refine W.q (fun Q hQ => ?_)
  refine lv_aload_n hx hb dX6_meanCreep_0 rfl (lv_at hl 0 rfl) ?_
  refine lv_iload_n hx hb dX6_meanCreep_1 rfl (lv_at hl 1 rfl) ?_
  obtain ⟨u1, u2, hP, hf⟩ := o_mo (i := 0) (q := o) hM (by omega)
  refine va_calli (va_runV (As := [.int site]) (rest := []) ⟨hx, hb, hml, hown, hts⟩ (rm_isNoSite l dC dI kA eD b g o site (by omega)) (cwV 1 hts gX6_meanCreep_X6_isNoSite rfl rfl rfl (by decide +kernel) ⟨Nat.le_of_ble_eq_true rfl, Nat.le_of_ble_eq_true rfl⟩) ⟨fb_CX, va_recv hK hP (ci := 10) (q0 := 0) rfl rfl, fun U hU hW => ⟨rfl, CX.give hb0 hM hK hG hE hS hU hW⟩⟩ rfl rfl hl.1 rfl (lv_room (Nat.le_of_ble_eq_true rfl)) dX6_meanCreep_2 ⟨(Nat.le_of_ble_eq_true rfl), (Nat.le_of_ble_eq_true rfl)⟩) hS (fun q _ h => h) (fun q h => h) (fun r3 g5 t H locs ht hvm hw4 hB hz1 hk1 hS => ?_)
  have hM := hB.back ht
  have hG := hB.2.2.2.1
  have hx6 : Ext o X0 g g5 := hw4.1
  have ht7 : tg g5 o = 17 := hx6.tk hto (by omega)
  have hth8 := hw4.2.1
  refine lv_if_eq (tgt := 10) hx hb dX6_meanCreep_5 (by decide) (fun c9 => ?_) (fun c9 => ?_)
  · skip
    have hv10 := vr0 (vr01 hw4.2.2) c9
    have hfm := (mo_list hM ht7).1
    have hls := (mo_list hM ht7).2
    obtain ⟨j, hj, rfl⟩ := toN (p := site) (k := 2) (by omega) (by omega) (by decide)
    have hl : lv_has ls 11 [(0, .ref o), (1, .int (nI j))] := hl
    have ej : (nI j).toInt = (j : Int) := nI_toInt (by omega)
    have hjs : (j : Int) < (pI g5 (pF g5 o 5) 0).toInt := by omega
    refine lv_iconst (v := 0) hx hb dX6_meanCreep_10 (by decide) ?_
    refine lv_istore_n (lv' := [(2, .int 0), (0, .ref o), (1, .int (nI j))]) hx hb dX6_meanCreep_11 rfl hl (by decide) rfl (fun ls hl => ?_)
    refine lv_aload_n hx hb dX6_meanCreep_12 rfl (lv_at hl 1 rfl) ?_
    obtain ⟨u11, u12, hP, hf⟩ := o_mo (i := 0) (q := o) hM (by omega)
    refine va_get (D := (dC, dI)) (ci := 10) (v := .ref (pF g5 o 5)) (C := RX6) (T := TX6) (N := 11) hx hb hts (by decide +kernel) hown hK hP 0 rfl rfl 10 (by decide) (hts (.fieldLink RX6 34 "SnowpalaceModel" "sites" "Ljava/util/List;") (by decide +kernel)) (fun _ h9 => h9) rfl dX6_meanCreep_13 ?_
    refine lv_iload_n hx hb dX6_meanCreep_16 rfl (lv_at hl 2 rfl) ?_
    obtain ⟨hP, hf⟩ := o_al (i := 0) (q := (pF g5 o 5)) hM (by omega)
    refine va_callFr (va_runF (hK.1 3 _ rfl).2 (As := [.int (nI j)]) (rest := []) ⟨hx, hb, hml, hown, hts⟩ (rj_get l dC dI kA eD b g5 (pF g5 o 5) j (by omega) hjs) (va_cwF 1 hts gX6_meanCreep_Jx4a65c_get_915e3_f149Jx4a65c rfl rfl rfl hE.2.2.2.2.1 (by decide +kernel) ⟨Nat.le_of_ble_eq_true rfl, Nat.le_of_ble_eq_true rfl⟩) ⟨fb_CX, va_recv hK hP (ci := 3) (q0 := 0) rfl rfl, fun U hU hW => ⟨rfl, CX.give hb0 hM hK hG hE hS hU hW⟩⟩ rfl rfl hl.1 rfl (lv_room (Nat.le_of_ble_eq_true rfl)) dX6_meanCreep_17 ⟨(Nat.le_of_ble_eq_true rfl), (Nat.le_of_ble_eq_true rfl)⟩) hS (fun q _ h => h) (fun q h => h) (fun u r13 t H locs ht hvm hw14 hB hz1 hk1 hS => ?_)
    have hM := hB.1.back ht
    have hG := hB.1.2.2.2.1
    have ht15 : tg g5 r13 = 28 + 64 * j := hB.2.1
    have hg16 : pO g5 (pF g5 (pF g5 o 5) 0) j = some r13 := hB.2.2
    obtain ⟨u17, u18, u19, u20, u21, u22, hP, hf⟩ := o_ms (i := j) (q := r13) hM (by omega)
    refine va_castY hx hb hown (hts (.classLink RX6 125 "SnowpalaceModel$Site") (by decide +kernel)) hE.2.2.2.2.2.2.1 (va_recv hK hP (ci := 9) (q0 := 0) rfl rfl) dX6_meanCreep_22 ?_
    obtain ⟨u23, u24, u25, u26, u27, u28, hP, hf⟩ := o_ms (i := j) (q := r13) hM (by omega)
    refine va_getN (D := (dC, dI)) (ci := 9) (v := .ref (pF g5 r13 0)) (C := RX5) (T := TX5) (N := 10) hx hb hts (by decide +kernel) hown hK hP 0 rfl rfl 0 (by decide) (hN (.fieldLinkNest RX6 160 "SnowpalaceModel$Site" "cells" "[[LSnowpalaceModel$Cell;" RX6) (by decide +kernel)) (fun _ h9 => h9) rfl dX6_meanCreep_25 ?_
    have ht29 : tg g5 (pF g5 r13 0) = 29 + 64 * j := hf.1
    refine lv_astore_n (lv' := [(3, .ref (pF g5 r13 0)), (2, .int 0), (0, .ref o), (1, .int (nI j))]) hx hb dX6_meanCreep_28 rfl hl (by decide) rfl (fun ls hl => ?_)
    refine lv_aload_n hx hb dX6_meanCreep_29 rfl (lv_at hl 0 rfl) ?_
    obtain ⟨hP, hf⟩ := o_co (i := j) (q := (pF g5 r13 0)) hM (by omega)
    refine va_alen (D := (dC, dI)) hx hb hK hP 0 9 rfl rfl (v := 6) (by rfl) dX6_meanCreep_30 ?_
    refine lv_istore (lv' := [(4, .int 6), (3, .ref (pF g5 r13 0)), (2, .int 0), (0, .ref o), (1, .int (nI j))]) hx hb dX6_meanCreep_31 hl (by decide) rfl (fun ls hl => ?_)
    refine lv_iconst (v := 0) hx hb dX6_meanCreep_33 (by decide) ?_
    refine lv_istore (lv' := [(5, .int 0), (4, .int 6), (3, .ref (pF g5 r13 0)), (2, .int 0), (0, .ref o), (1, .int (nI j))]) hx hb dX6_meanCreep_34 hl (by decide) rfl (fun ls hl => ?_)
    have lp32 : ∀ (n33 j30 : Nat) (x31 : Int32), 0 ≤ j30 → j30 ≤ 6 → 6 < j30 + n33 → ∀ (H : Heap) (locs : List Loc) (ls : Array Slot), TM (dC, dI) kA b g5 H → va_S (fun q => b ≤ q) s.heap H locs → lv_has ls 11 [(5, .int (nI j30)), (4, .int 6), (3, .ref (pF g5 r13 0)), (2, .int x31), (0, .ref o), (1, .int (nI j))] → W p l e (headSpec wsX6_meanCreep ({ frames := 3, cells := 0, slots := 0, locals := 64 })).room s m args below meth c H locs 0 0 Q (F0 m 36 ls []) := by
      intro n33
      induction n33 with
      | zero => intro j30 x31 h0 h1 h2; omega
      | succ n33 ih34 =>
        intro j30 x31 lj30 hj30 hn33 H locs ls hM hS hl
        refine lv_iload hx hb dX6_meanCreep_36 (lv_at hl 0 rfl) ?_
        refine lv_iload hx hb dX6_meanCreep_38 (lv_at hl 1 rfl) ?_
        refine lv_icmp_ge (tgt := 104) hx hb dX6_meanCreep_40 (by decide) (fun c35 => ?_) (fun c35 => ?_)
        · skip
          have k36 : 6 ≤ j30 := (nI_leI (a := 6) (b := j30) (by omega) (by omega)).mp c35
          refine lv_aload_n hx hb dX6_meanCreep_104 rfl (lv_at hl 4 rfl) ?_
          obtain ⟨u37, u38, hP, hf⟩ := o_mo (i := 0) (q := o) hM (by omega)
          refine va_get (D := (dC, dI)) (ci := 10) (v := .ref (pF g5 o 5)) (C := RX6) (T := TX6) (N := 11) hx hb hts (by decide +kernel) hown hK hP 0 rfl rfl 10 (by decide) (hts (.fieldLink RX6 34 "SnowpalaceModel" "sites" "Ljava/util/List;") (by decide +kernel)) (fun _ h9 => h9) rfl dX6_meanCreep_105 ?_
          refine lv_iload_n hx hb dX6_meanCreep_108 rfl (lv_at hl 5 rfl) ?_
          obtain ⟨hP, hf⟩ := o_al (i := 0) (q := (pF g5 o 5)) hM (by omega)
          refine va_callFr (va_runF (hK.1 3 _ rfl).2 (As := [.int (nI j)]) (rest := []) ⟨hx, hb, hml, hown, hts⟩ (rj_get l dC dI kA eD b g5 (pF g5 o 5) j (by omega) hjs) (va_cwF 1 hts gX6_meanCreep_Jx4a65c_get_915e3_f149Jx4a65c rfl rfl rfl hE.2.2.2.2.1 (by decide +kernel) ⟨Nat.le_of_ble_eq_true rfl, Nat.le_of_ble_eq_true rfl⟩) ⟨fb_CX, va_recv hK hP (ci := 3) (q0 := 0) rfl rfl, fun U hU hW => ⟨rfl, CX.give hb0 hM hK hG hE hS hU hW⟩⟩ rfl rfl hl.1 rfl (lv_room (Nat.le_of_ble_eq_true rfl)) dX6_meanCreep_109 ⟨(Nat.le_of_ble_eq_true rfl), (Nat.le_of_ble_eq_true rfl)⟩) hS (fun q _ h => h) (fun q h => h) (fun u r39 t H locs ht hvm hw40 hB hz1 hk1 hS => ?_)
          have hM := hB.1.back ht
          have hG := hB.1.2.2.2.1
          have ht41 : tg g5 r39 = 28 + 64 * j := hB.2.1
          have hg42 : pO g5 (pF g5 (pF g5 o 5) 0) j = some r39 := hB.2.2
          obtain rfl : r13 = r39 := Option.some.inj (hg16.symm.trans hg42)
          obtain ⟨u43, u44, u45, u46, u47, u48, hP, hf⟩ := o_ms (i := j) (q := r13) hM (by omega)
          refine va_castY hx hb hown (hts (.classLink RX6 125 "SnowpalaceModel$Site") (by decide +kernel)) hE.2.2.2.2.2.2.1 (va_recv hK hP (ci := 9) (q0 := 0) rfl rfl) dX6_meanCreep_114 ?_
          obtain ⟨u49, u50, u51, u52, u53, u54, hP, hf⟩ := o_ms (i := j) (q := r13) hM (by omega)
          refine va_calli (va_runV (As := []) (rest := []) ⟨hx, hb, hml, hown, hts⟩ (rm_many l dC dI kA eD b g5 r13 j (by omega)) (cwV 0 hts gX6_meanCreep_X5_many rfl rfl rfl (by decide +kernel) ⟨Nat.le_of_ble_eq_true rfl, Nat.le_of_ble_eq_true rfl⟩) ⟨fb_CX, va_recv hK hP (ci := 9) (q0 := 0) rfl rfl, fun U hU hW => ⟨rfl, CX.give hb0 hM hK hG hE hS hU hW⟩⟩ rfl rfl hl.1 rfl (lv_room (Nat.le_of_ble_eq_true rfl)) dX6_meanCreep_117 ⟨(Nat.le_of_ble_eq_true rfl), (Nat.le_of_ble_eq_true rfl)⟩) hS (fun q _ h => h) (fun q h => h) (fun r55 u t H locs ht hvm hw56 hB hz1 hk1 hS => ?_)
          have hM := hB.back ht
          have hG := hB.2.2.2.1
          obtain ⟨q57, hq58, rfl⟩ := hw56
          refine lv_istore_n (lv' := [(3, .int (nI q57)), (5, .int (nI j30)), (4, .int 6), (2, .int x31), (0, .ref o), (1, .int (nI j))]) hx hb dX6_meanCreep_120 rfl hl (by decide) rfl (fun ls hl => ?_)
          refine lv_aload_n hx hb dX6_meanCreep_121 rfl (lv_at hl 4 rfl) ?_
          refine lv_iload_n hx hb dX6_meanCreep_122 rfl (lv_at hl 0 rfl) ?_
          refine lv_if_ne (tgt := 130) hx hb dX6_meanCreep_123 (by decide) (fun c59 => ?_) (fun c59 => ?_)
          · skip
            have k60 : ¬ (q57 = 0) := fun z => c59 ((nI_eq (a := q57) (b := 0) (by omega) (by omega)).mpr z)
            refine lv_iconst (v := 0) hx hb dX6_meanCreep_130 (by decide) ?_
            obtain ⟨u61, u62, hP, hf⟩ := o_mo (i := 0) (q := o) hM (by omega)
            refine va_calli (va_runV (As := [.int 0]) (rest := []) ⟨hx, hb, hml, hown, hts⟩ (rm_isWrong l dC dI kA eD b g5 o 0 (by omega)) (cwV 1 hts gX6_meanCreep_X6_isWrong rfl rfl rfl (by decide +kernel) ⟨Nat.le_of_ble_eq_true rfl, Nat.le_of_ble_eq_true rfl⟩) ⟨fb_CX, va_recv hK hP (ci := 10) (q0 := 0) rfl rfl, fun U hU hW => ⟨rfl, CX.give hb0 hM hK hG hE hS hU hW⟩⟩ rfl rfl hl.1 rfl (lv_room (Nat.le_of_ble_eq_true rfl)) dX6_meanCreep_131 ⟨(Nat.le_of_ble_eq_true rfl), (Nat.le_of_ble_eq_true rfl)⟩) hS (fun q _ h => h) (fun q h => h) (fun r63 g65 t H locs ht hvm hw64 hB hz1 hk1 hS => ?_)
            have hM := hB.back ht
            have hG := hB.2.2.2.1
            have hx66 : Ext o X0 g5 g65 := hw64.1
            have ht67 : tg g65 o = 17 := hx66.tk ht7 (by omega)
            have ht68 : tg g65 (pF g5 o 5) = 26 := hx66.tk hfm (by omega)
            have ht69 : tg g65 r13 = 28 + 64 * j := hx66.tk ht15 (by omega)
            have ht70 : tg g65 (pF g5 r13 0) = 29 + 64 * j := hx66.tk ht29 (by omega)
            obtain rfl : r63 = 0 := hw64.2.2.trans (by decide)
            have hth71 : pI g65 o 2 = 0 := by rw [hw64.2.1]; exact sI_at
            refine lv_if_eq (tgt := 141) hx hb dX6_meanCreep_134 (by decide) (fun _ => ?_) (fun cx => by first | exact absurd (by decide) cx | exact absurd cx (by decide))
            refine lv_iload_n hx hb dX6_meanCreep_141 rfl (lv_at hl 3 rfl) ?_
            refine lv_i2d hx hb dX6_meanCreep_142 ?_
            refine lv_iload_n hx hb dX6_meanCreep_143 rfl (lv_at hl 0 rfl) ?_
            refine lv_i2d hx hb dX6_meanCreep_144 ?_
            refine lv_ddiv hx hb dX6_meanCreep_145 (nn64 (FP.Core.ddiv_out (FP.Core.i2d_fin _).notNaN (FP.Core.i2d_fin _) (i2d_nz ⟨i32_pos ⟨by rw [nI_toInt (by omega)]; omega, (by rw [nI_toInt (by omega)]; omega : (nI q57).toInt ≤ 48)⟩ c59, by rw [nI_toInt (by omega)]; omega⟩))) ?_
            subst hQ
            refine W.widen (k := 0) (n := 0) (Nat.le_of_ble_eq_true rfl) (Nat.le_of_ble_eq_true rfl) ?_
            exact W.dret (v := (FP.ddiv (FP.i2d x31) (FP.i2d (nI q57)))) hx hb hr (fun t ht hW => ⟨⟨(FP.ddiv (FP.i2d x31) (FP.i2d (nI q57))), g65, rfl, (hx6.trans hx66), CX.give hb0 hM hK hG hE hS ht hW⟩, hS.F ht⟩) hS.2.2 dX6_meanCreep_146
          · skip
            have k72 : q57 = 0 := (nI_eq (a := q57) (b := 0) (by omega) (by omega)).mp c59
            refine lv_iconst (v := 2) hx hb dX6_meanCreep_126 (by decide) ?_
            refine lv_goto (tgt := 131) hx hb dX6_meanCreep_127 (by decide) ?_
            obtain ⟨u73, u74, hP, hf⟩ := o_mo (i := 0) (q := o) hM (by omega)
            refine va_calli (va_runV (As := [.int 2]) (rest := []) ⟨hx, hb, hml, hown, hts⟩ (rm_isWrong l dC dI kA eD b g5 o 2 (by omega)) (cwV 1 hts gX6_meanCreep_X6_isWrong rfl rfl rfl (by decide +kernel) ⟨Nat.le_of_ble_eq_true rfl, Nat.le_of_ble_eq_true rfl⟩) ⟨fb_CX, va_recv hK hP (ci := 10) (q0 := 0) rfl rfl, fun U hU hW => ⟨rfl, CX.give hb0 hM hK hG hE hS hU hW⟩⟩ rfl rfl hl.1 rfl (lv_room (Nat.le_of_ble_eq_true rfl)) dX6_meanCreep_131 ⟨(Nat.le_of_ble_eq_true rfl), (Nat.le_of_ble_eq_true rfl)⟩) hS (fun q _ h => h) (fun q h => h) (fun r75 g77 t H locs ht hvm hw76 hB hz1 hk1 hS => ?_)
            have hM := hB.back ht
            have hG := hB.2.2.2.1
            have hx78 : Ext o X0 g5 g77 := hw76.1
            have ht79 : tg g77 o = 17 := hx78.tk ht7 (by omega)
            have ht80 : tg g77 (pF g5 o 5) = 26 := hx78.tk hfm (by omega)
            have ht81 : tg g77 r13 = 28 + 64 * j := hx78.tk ht15 (by omega)
            have ht82 : tg g77 (pF g5 r13 0) = 29 + 64 * j := hx78.tk ht29 (by omega)
            obtain rfl : r75 = 1 := hw76.2.2.trans (by decide)
            have hth83 : pI g77 o 2 = 2 := by rw [hw76.2.1]; exact sI_at
            refine lv_if_eq (tgt := 141) hx hb dX6_meanCreep_134 (by decide) (fun cx => by first | exact absurd cx (by decide) | exact absurd (by decide) cx) (fun _ => ?_)
            refine lv_dconst0 hx hb dX6_meanCreep_137 ?_
            refine lv_goto (tgt := 146) hx hb dX6_meanCreep_138 (by decide) ?_
            subst hQ
            refine W.widen (k := 0) (n := 0) (Nat.le_of_ble_eq_true rfl) (Nat.le_of_ble_eq_true rfl) ?_
            exact W.dret (v := FP.dconst0) hx hb hr (fun t ht hW => ⟨⟨FP.dconst0, g77, rfl, (hx6.trans hx78), CX.give hb0 hM hK hG hE hS ht hW⟩, hS.F ht⟩) hS.2.2 dX6_meanCreep_146
        · skip
          have k84 : ¬ (6 ≤ j30) := fun z => c35 ((nI_leI (a := 6) (b := j30) (by omega) (by omega)).mpr z)
          refine lv_aload_n hx hb dX6_meanCreep_43 rfl (lv_at hl 2 rfl) ?_
          refine lv_iload hx hb dX6_meanCreep_44 (lv_at hl 0 rfl) ?_
          obtain ⟨hP, hf⟩ := o_co (i := j) (q := (pF g5 r13 0)) hM (by omega)
          have ec : ((nI j30) : Int32).toNatClampNeg = j30 := nI_clamp (by omega)
          refine rt_aldA (D := (dC, dI)) (t0 := 9) hx hb hK hP rfl (vp_in_nI (by omega) (by decide)) (y := (pF g5 (pF g5 r13 0) j30)) ((congrArg (fun z => if z < 6 then some (pF g5 (pF g5 r13 0) z) else none) ec).trans (if_pos (by omega))) dX6_meanCreep_46 ?_
          have ht85 : tg g5 (pF g5 (pF g5 r13 0) j30) = 30 + 64 * (8 * j + j30) := (hf j30 (by omega))
          refine lv_astore (lv' := [(6, .ref (pF g5 (pF g5 r13 0) j30)), (5, .int (nI j30)), (4, .int 6), (3, .ref (pF g5 r13 0)), (2, .int x31), (0, .ref o), (1, .int (nI j))]) hx hb dX6_meanCreep_47 hl (by decide) rfl (fun ls hl => ?_)
          refine lv_aload hx hb dX6_meanCreep_49 (lv_at hl 0 rfl) ?_
          refine lv_astore (lv' := [(7, .ref (pF g5 (pF g5 r13 0) j30)), (6, .ref (pF g5 (pF g5 r13 0) j30)), (5, .int (nI j30)), (4, .int 6), (3, .ref (pF g5 r13 0)), (2, .int x31), (0, .ref o), (1, .int (nI j))]) hx hb dX6_meanCreep_51 hl (by decide) rfl (fun ls hl => ?_)
          refine lv_aload hx hb dX6_meanCreep_53 (lv_at hl 0 rfl) ?_
          obtain ⟨hP, hf⟩ := o_cr (i := (8 * j + j30)) (q := (pF g5 (pF g5 r13 0) j30)) hM (by omega)
          refine va_alen (D := (dC, dI)) hx hb hK hP 0 8 rfl rfl (v := 8) (by rfl) dX6_meanCreep_55 ?_
          refine lv_istore (lv' := [(8, .int 8), (7, .ref (pF g5 (pF g5 r13 0) j30)), (6, .ref (pF g5 (pF g5 r13 0) j30)), (5, .int (nI j30)), (4, .int 6), (3, .ref (pF g5 r13 0)), (2, .int x31), (0, .ref o), (1, .int (nI j))]) hx hb dX6_meanCreep_56 hl (by decide) rfl (fun ls hl => ?_)
          refine lv_iconst (v := 0) hx hb dX6_meanCreep_58 (by decide) ?_
          refine lv_istore (lv' := [(9, .int 0), (8, .int 8), (7, .ref (pF g5 (pF g5 r13 0) j30)), (6, .ref (pF g5 (pF g5 r13 0) j30)), (5, .int (nI j30)), (4, .int 6), (3, .ref (pF g5 r13 0)), (2, .int x31), (0, .ref o), (1, .int (nI j))]) hx hb dX6_meanCreep_59 hl (by decide) rfl (fun ls hl => ?_)
          have lp88 : ∀ (n89 j86 : Nat) (x87 : Int32), 0 ≤ j86 → j86 ≤ 8 → 8 < j86 + n89 → ∀ (H : Heap) (locs : List Loc) (ls : Array Slot), TM (dC, dI) kA b g5 H → va_S (fun q => b ≤ q) s.heap H locs → lv_has ls 11 [(9, .int (nI j86)), (8, .int 8), (7, .ref (pF g5 (pF g5 r13 0) j30)), (6, .ref (pF g5 (pF g5 r13 0) j30)), (5, .int (nI j30)), (4, .int 6), (3, .ref (pF g5 r13 0)), (2, .int x87), (0, .ref o), (1, .int (nI j))] → W p l e (headSpec wsX6_meanCreep ({ frames := 3, cells := 0, slots := 0, locals := 64 })).room s m args below meth c H locs 0 0 Q (F0 m 61 ls []) := by
            intro n89
            induction n89 with
            | zero => intro j86 x87 h0 h1 h2; omega
            | succ n89 ih90 =>
              intro j86 x87 lj86 hj86 hn89 H locs ls hM hS hl
              refine lv_iload hx hb dX6_meanCreep_61 (lv_at hl 0 rfl) ?_
              refine lv_iload hx hb dX6_meanCreep_63 (lv_at hl 1 rfl) ?_
              refine lv_icmp_ge (tgt := 98) hx hb dX6_meanCreep_65 (by decide) (fun c91 => ?_) (fun c91 => ?_)
              · skip
                have k92 : 8 ≤ j86 := (nI_leI (a := 8) (b := j86) (by omega) (by omega)).mp c91
                refine lv_iinc (v := (nI (j30 + 1))) (lv' := [(5, .int (nI (j30 + 1))), (9, .int (nI j86)), (8, .int 8), (7, .ref (pF g5 (pF g5 r13 0) j30)), (6, .ref (pF g5 (pF g5 r13 0) j30)), (4, .int 6), (3, .ref (pF g5 r13 0)), (2, .int x87), (0, .ref o), (1, .int (nI j))]) hx hb dX6_meanCreep_98 hl (k := 4) rfl (nI_add j30 1) (by decide) rfl (fun ls hl => ?_)
                refine lv_goto (tgt := 36) hx hb dX6_meanCreep_101 (by decide) ?_
                exact ih34 ((j30 + 1)) x87 (by omega) (by omega) (by omega) H _ ls  hM hS (lv_sub hl [0, 5, 6, 7, 8, 9] rfl)
              · skip
                have k93 : ¬ (8 ≤ j86) := fun z => c91 ((nI_leI (a := 8) (b := j86) (by omega) (by omega)).mpr z)
                refine lv_aload hx hb dX6_meanCreep_68 (lv_at hl 2 rfl) ?_
                refine lv_iload hx hb dX6_meanCreep_70 (lv_at hl 0 rfl) ?_
                obtain ⟨hP, hf⟩ := o_cr (i := (8 * j + j30)) (q := (pF g5 (pF g5 r13 0) j30)) hM (by omega)
                refine va_aldq (D := (dC, dI)) hx hb hK hP 0 8 rfl rfl (vp_in_nI (by omega) (by decide)) dX6_meanCreep_72 ?_
                have ec : ((nI j86) : Int32).toNatClampNeg = j86 := nI_clamp (by omega)
                rw [ec]
                have hq94 := hf j86 (by omega)
                refine rt_astore (lv' := [(10, va_rf (pO g5 (pF g5 (pF g5 r13 0) j30) j86)), (9, .int (nI j86)), (8, .int 8), (7, .ref (pF g5 (pF g5 r13 0) j30)), (6, .ref (pF g5 (pF g5 r13 0) j30)), (5, .int (nI j30)), (4, .int 6), (3, .ref (pF g5 r13 0)), (2, .int x87), (0, .ref o), (1, .int (nI j))]) hx hb dX6_meanCreep_73 hl (by decide) rfl (fun ls hl => ?_)
                refine lv_iload_n hx hb dX6_meanCreep_75 rfl (lv_at hl 8 rfl) ?_
                refine rt_aload hx hb dX6_meanCreep_76 (lv_at hl 0 rfl) ?_
                rcases hy96 : (pO g5 (pF g5 (pF g5 r13 0) j30) j86) with _ | y95
                · skip
                  try rw [hy96] at hl
                  have hl : lv_has ls 11 [(10, .null), (9, .int (nI j86)), (8, .int 8), (7, .ref (pF g5 (pF g5 r13 0) j30)), (6, .ref (pF g5 (pF g5 r13 0) j30)), (5, .int (nI j30)), (4, .int 6), (3, .ref (pF g5 r13 0)), (2, .int x87), (0, .ref o), (1, .int (nI j))] := hl
                  refine lv_ifnonnullN hx hb dX6_meanCreep_78 ?_
                  refine lv_iconst (v := 0) hx hb dX6_meanCreep_81 (by decide) ?_
                  refine lv_goto (tgt := 90) hx hb dX6_meanCreep_82 (by decide) ?_
                  refine lv_iadd hx hb dX6_meanCreep_90 ?_
                  refine lv_topi (fun v97 e98 => ?_)
                  refine lv_istore_n (lv' := [(2, .int v97), (10, .null), (9, .int (nI j86)), (8, .int 8), (7, .ref (pF g5 (pF g5 r13 0) j30)), (6, .ref (pF g5 (pF g5 r13 0) j30)), (5, .int (nI j30)), (4, .int 6), (3, .ref (pF g5 r13 0)), (0, .ref o), (1, .int (nI j))]) hx hb dX6_meanCreep_91 rfl hl (by decide) rfl (fun ls hl => ?_)
                  refine lv_iinc (v := (nI (j86 + 1))) (lv' := [(9, .int (nI (j86 + 1))), (2, .int v97), (10, .null), (8, .int 8), (7, .ref (pF g5 (pF g5 r13 0) j30)), (6, .ref (pF g5 (pF g5 r13 0) j30)), (5, .int (nI j30)), (4, .int 6), (3, .ref (pF g5 r13 0)), (0, .ref o), (1, .int (nI j))]) hx hb dX6_meanCreep_92 hl (k := 2) rfl (nI_add j86 1) (by decide) rfl (fun ls hl => ?_)
                  refine lv_goto (tgt := 61) hx hb dX6_meanCreep_95 (by decide) ?_
                  exact ih90 ((j86 + 1)) v97 (by omega) (by omega) (by omega) H _ ls  hM hS (lv_sub hl [0, 3, 4, 5, 6, 7, 8, 1, 9, 10] rfl)
                · skip
                  try rw [hy96] at hl
                  have hl : lv_has ls 11 [(10, .ref y95), (9, .int (nI j86)), (8, .int 8), (7, .ref (pF g5 (pF g5 r13 0) j30)), (6, .ref (pF g5 (pF g5 r13 0) j30)), (5, .int (nI j30)), (4, .int 6), (3, .ref (pF g5 r13 0)), (2, .int x87), (0, .ref o), (1, .int (nI j))] := hl
                  have ht99 : tg g5 y95 = 31 := hq94 y95 hy96
                  refine lv_ifnonnull (tgt := 85) hx hb dX6_meanCreep_78 (by decide) ?_
                  refine lv_aload hx hb dX6_meanCreep_85 (lv_at hl 0 rfl) ?_
                  obtain ⟨u100, u101, u102, u103, u104, hP, hf⟩ := o_ce (i := 0) (q := y95) hM (by omega)
                  refine va_getN (D := (dC, dI)) (ci := 8) (v := .int u103) (C := RX4) (T := TX4) (N := 5) hx hb hts (by decide +kernel) hown hK hP 0 rfl rfl 3 (by decide) (hN (.fieldLinkNest RX6 193 "SnowpalaceModel$Cell" "creep" "I" RX6) (by decide +kernel)) (fun _ h9 => h9) rfl dX6_meanCreep_87 ?_
                  refine lv_iadd hx hb dX6_meanCreep_90 ?_
                  refine lv_topi (fun v105 e106 => ?_)
                  refine lv_istore_n (lv' := [(2, .int v105), (10, .ref y95), (9, .int (nI j86)), (8, .int 8), (7, .ref (pF g5 (pF g5 r13 0) j30)), (6, .ref (pF g5 (pF g5 r13 0) j30)), (5, .int (nI j30)), (4, .int 6), (3, .ref (pF g5 r13 0)), (0, .ref o), (1, .int (nI j))]) hx hb dX6_meanCreep_91 rfl hl (by decide) rfl (fun ls hl => ?_)
                  refine lv_iinc (v := (nI (j86 + 1))) (lv' := [(9, .int (nI (j86 + 1))), (2, .int v105), (10, .ref y95), (8, .int 8), (7, .ref (pF g5 (pF g5 r13 0) j30)), (6, .ref (pF g5 (pF g5 r13 0) j30)), (5, .int (nI j30)), (4, .int 6), (3, .ref (pF g5 r13 0)), (0, .ref o), (1, .int (nI j))]) hx hb dX6_meanCreep_92 hl (k := 2) rfl (nI_add j86 1) (by decide) rfl (fun ls hl => ?_)
                  refine lv_goto (tgt := 61) hx hb dX6_meanCreep_95 (by decide) ?_
                  exact ih90 ((j86 + 1)) v105 (by omega) (by omega) (by omega) H _ ls  hM hS (lv_sub hl [0, 3, 4, 5, 6, 7, 8, 1, 9, 10] rfl)
          exact lp88 (8 + 1) 0 x31 (by omega) (by omega) (by omega) H _ ls  hM hS (lv_sub hl [0, 1, 2, 3, 4, 5, 6, 7, 8, 9] rfl)
    exact lp32 (6 + 1) 0 0 (by omega) (by omega) (by omega) H _ ls  hM hS (lv_sub hl [0, 1, 2, 3, 4, 5] rfl)
  · skip
    have hv107 := vr1 (vr01 hw4.2.2) c9
    refine lv_dconst0 hx hb dX6_meanCreep_8 ?_
    subst hQ
    refine W.widen (k := 0) (n := 0) (Nat.le_of_ble_eq_true rfl) (Nat.le_of_ble_eq_true rfl) ?_
    exact W.dret (v := FP.dconst0) hx hb hr (fun t ht hW => ⟨⟨FP.dconst0, g5, rfl, hx6, CX.give hb0 hM hK hG hE hS ht hW⟩, hS.F ht⟩) hS.2.2 dX6_meanCreep_9

set_option maxHeartbeats 4000000 in
set_option maxRecDepth 100000 in
theorem rmf_checksum (l : Launch) (dC : Nat → ClassId) (dI : Nat → Nat → Nat) (kA : Nat → ClassId) (eD b : Nat) (g : Gh) (o : Nat)  (hto : tg g o = 17)  : Met l yX6_checksum wsX6_checksum ({ frames := 3, cells := 1, slots := 4, locals := 53 }) (va_Pc [.ref o] (CX (dC, dI) kA eD b g)) (va_Ql (fun (r : Int64) (u : Gh) => Ext o X0 g u) (fun (u : Gh) t => CX (dC, dI) kA eD b u t) (fun q => b ≤ q)) 1 4 (fun q => b ≤ q) := by
  refine Met.ofW (cc := cX6_checksum) (maxL := 13) (ret := (some .long)) (by decide +kernel) rfl ?_
  intro p e s m args below meth c s₁ B hml hv
  obtain ⟨rfl, hb0, hM, hK, hG, hE⟩ := hv
  have hx := B.exec
  have hb := B.bytes
  have hr := B.returns
  have hts := atoms_spec (ws := wsX6_checksum) B.pre
  have hown : s.vm.findClass RX6 = some m.cls := findClass_of_methodNamed B.named
  have hlocks := B.notSynchronized
  have hT := hE.1
  have hN := hE.2.2.2.2.2.2.2.1
  have hS : va_S (fun q => b ≤ q) s.heap s.heap [] := va_S.rf
  have hl := lv_entry ([.ref o]) (n := 13) (Nat.le_of_ble_eq_true rfl)
  rw [lg_entry_eq]
  generalize (lg_sl ([.ref o]) ++ List.replicate (13 - (lg_sl ([.ref o])).length) Slot.unset).toArray = ls at hl ⊢
  have hl : lv_has ls 13 [(0, .ref o)] := hl
  generalize ([.ref o] : List Value).toArray = args at hts ⊢
  refine W.q (fun Q hQ => ?_)
  refine lv_aload_n hx hb dX6_checksum_0 rfl (lv_at hl 0 rfl) ?_
  refine lv_iconst (v := 0) hx hb dX6_checksum_1 (by decide) ?_
  obtain ⟨u1, u2, hP, hf⟩ := o_mo (i := 0) (q := o) hM (by omega)
  refine rt_put (D := (dC, dI)) (ci := 10) (v := .int 0) (ty := .int) (C := RX6) (T := TX6) (N := 11) hx hb hts (by decide +kernel) tyX6 tyX6_ok nmX6 hown hK hP (hM.ge (by omega)) hS rfl 0 (by decide) (hts (.fieldLink RX6 1 "SnowpalaceModel" "thrown" "I") (by decide +kernel)) (fun _ h9 => h9) rfl (by decide +kernel) rfl rfl (Nat.le_of_ble_eq_true rfl) dX6_checksum_2 (fun H locs hP hz ho hS => ?_)
  have hM0 := hM
  have hM := p_mo (i := 0) (f := upd (pI g o) 2 0) hM (by omega) hP ho hf
  obtain ⟨g4, hg4⟩ : ∃ z, z = uI g o (upd (pI g o) 2 0) := ⟨_, rfl⟩
  rw [← hg4] at hM
  have ht5 : tg g4 o = 17 := by rw [hg4]; exact hto
  have hG : GOK g4 := by rw [hg4]; exact (hG.uI hM0 (Or.inl (by omega)))
  have hx7 : Ext o X0 g g4 := by rw [hg4]; exact (Ext.thr (fun j9 hj9 => if_neg hj9))
  refine lv_ldc2 hx hb hown (hts (.constantLong RX6 141 7) (by decide +kernel)) dX6_checksum_5 ?_
  refine lv_lstore_n (lv' := [(1, .long 7), (0, .ref o)]) hx hb dX6_checksum_8 rfl hl (by decide) rfl (fun ls hl => ?_)
  have hls := (mo_list hM ht5).2
  refine lv_aload_n hx hb dX6_checksum_9 rfl (lv_at hl 1 rfl) ?_
  obtain ⟨u8, u9, hP, hf⟩ := o_mo (i := 0) (q := o) hM (by omega)
  refine va_get (D := (dC, dI)) (ci := 10) (v := .ref (pF g4 o 5)) (C := RX6) (T := TX6) (N := 11) hx hb hts (by decide +kernel) hown hK hP 0 rfl rfl 10 (by decide) (hts (.fieldLink RX6 34 "SnowpalaceModel" "sites" "Ljava/util/List;") (by decide +kernel)) (fun _ h9 => h9) rfl dX6_checksum_10 ?_
  have ht10 : tg g4 (pF g4 o 5) = 26 := hf.2.2.2.2.2.1
  obtain ⟨hP, hf⟩ := o_al (i := 0) (q := (pF g4 o 5)) hM (by omega)
  refine va_callFr (va_runF (hK.1 3 _ rfl).2 (As := []) (rest := []) ⟨hx, hb, hml, hown, hts⟩ (rj_iter l dC dI kA eD b g4 (pF g4 o 5) o (by omega)) (va_cwF 0 hts gX6_checksum_Jx4a65c_iterator_32c93_f109Jx4a65c rfl rfl rfl hE.2.1.2.1 (by decide +kernel) ⟨Nat.le_of_ble_eq_true rfl, Nat.le_of_ble_eq_true rfl⟩) ⟨fb_CX, va_recv hK hP (ci := 3) (q0 := 0) rfl rfl, fun U hU hW => ⟨rfl, CX.give hb0 hM hK hG hE hS hU hW⟩⟩ rfl rfl hl.1 rfl (lv_room (Nat.le_of_ble_eq_true rfl)) dX6_checksum_13 ⟨(Nat.le_of_ble_eq_true rfl), (Nat.le_of_ble_eq_true rfl)⟩) hS (fun q _ h => h) (fun q h => h) (fun g13 r11 t H locs ht hvm hw12 hB hz1 hk1 hS => ?_)
  have hM := hB.1.back ht
  have hG := hB.1.2.2.2.1
  have hx14 : Ext o X0 g4 g13 := hw12.1
  have ht15 : tg g13 o = 17 := hx14.tk ht5 (by omega)
  have ht16 : tg g13 (pF g4 o 5) = 26 := hx14.tk ht10 (by omega)
  have ht17 : tg g13 r11 = 40 := hB.2.1
  have hit18 := hB.2.2
  refine lv_astore_n (lv' := [(3, .ref r11), (1, .long 7), (0, .ref o)]) hx hb dX6_checksum_18 rfl hl (by decide) rfl (fun ls hl => ?_)
  obtain ⟨n20, hn20, en20⟩ := toN (p := pI g4 (pF g4 o 5) 0) (k := 3) hls.1 hls.2 (by decide)
  have lp23 : ∀ (m21 k19 : Nat) (g22 : Gh) (x25 : Int64), k19 ≤ n20 → n20 < k19 + m21 → ∀ (H : Heap) (locs : List Loc) (ls : Array Slot), (Ext o X0 g4 g22) → (GOK g22) → (tg g22 r11 = 40) → (pI g22 r11 0 = nI k19) → (pI g22 r11 1 = pI g22 (pF g4 o 5) 1) → (pF g22 r11 0 = (pF g4 o 5)) → TM (dC, dI) kA b g22 H → va_S (fun q => b ≤ q) s.heap H locs → lv_has ls 13 [(3, .ref r11), (1, .long x25), (0, .ref o)] → W p l e (headSpec wsX6_checksum ({ frames := 3, cells := 1, slots := 4, locals := 53 })).room s m args below meth c H locs 1 4 Q (F0 m 19 ls []) := by
    intro m21
    induction m21 with
    | zero => intro k19 g22 x25 h8 h9; omega
    | succ m21 ih24 =>
      intro k19 g22 x25 hk19 hm21 H locs ls hx26 hG ht27 hc28 hm29 hL30 hM hS hl
      have ht31 : tg g22 o = 17 := hx26.tk ht5 (by omega)
      have ht32 : tg g22 (pF g4 o 5) = 26 := hx26.tk ht10 (by omega)
      have eng22 : pI g22 (pF g4 o 5) 0 = nI n20 := (hx26.i (by have := ht10; omega) (Or.inr (by decide))).trans en20
      have etg22 : (pI g22 (pF g4 o 5) 0).toInt = (n20 : Int) := by rw [eng22]; exact nI_toInt (by omega)
      refine lv_aload_n hx hb dX6_checksum_19 rfl (lv_at hl 0 rfl) ?_
      obtain ⟨u33, hP, hf⟩ := o_it (i := 0) (q := r11) hM (by omega)
      refine va_callFi (va_runF (hK.1 2 _ rfl).2 (As := []) (rest := []) ⟨hx, hb, hml, hown, hts⟩ (rj_hasNext l dC dI kA eD b g22 r11 (by omega)) (va_cwF 0 hts gX6_checksum_Jx35411_hasNext_aae02_f115Jx35411 rfl rfl rfl hE.2.1.2.2.1 (by decide +kernel) ⟨Nat.le_of_ble_eq_true rfl, Nat.le_of_ble_eq_true rfl⟩) ⟨fb_CX, va_recv hK hP (ci := 2) (q0 := 0) rfl rfl, fun U hU hW => ⟨rfl, CX.give hb0 hM hK hG hE hS hU hW⟩⟩ rfl rfl hl.1 rfl (lv_room (Nat.le_of_ble_eq_true rfl)) dX6_checksum_20 ⟨(Nat.le_of_ble_eq_true rfl), (Nat.le_of_ble_eq_true rfl)⟩) hS (fun q _ h => h) (fun q h => h) (fun r34 u t H locs ht hvm hw35 hB hz1 hk1 hS => ?_)
      have hM := hB.back ht
      have hG := hB.2.2.2.1
      refine lv_if_eq (tgt := 137) hx hb dX6_checksum_25 (by decide) (fun c36 => ?_) (fun c36 => ?_)
      · skip
        have hv37 := vr0 hw35 c36
        refine lv_ldc2 hx hb hown (hts (.constantLong RX6 275 31) (by decide +kernel)) dX6_checksum_137 ?_
        refine lv_ldc2 hx hb hown (hts (.constantLong RX6 275 31) (by decide +kernel)) dX6_checksum_140 ?_
        refine lv_lload_n hx hb dX6_checksum_143 rfl (lv_at hl 1 rfl) ?_
        refine lv_lmul hx hb dX6_checksum_144 ?_
        refine lv_topl (fun v38 e39 => ?_)
        refine lv_aload_n hx hb dX6_checksum_145 rfl (lv_at hl 2 rfl) ?_
        obtain ⟨u40, u41, hP, hf⟩ := o_mo (i := 0) (q := o) hM (by omega)
        refine va_get (D := (dC, dI)) (ci := 10) (v := .int u40) (C := RX6) (T := TX6) (N := 11) hx hb hts (by decide +kernel) hown hK hP 0 rfl rfl 3 (by decide) (hts (.fieldLink RX6 100 "SnowpalaceModel" "money" "I") (by decide +kernel)) (fun _ h9 => h9) rfl dX6_checksum_146 ?_
        refine lv_i2l hx hb dX6_checksum_149 rfl ?_
        refine lv_ladd hx hb dX6_checksum_150 ?_
        refine lv_topl (fun v42 e43 => ?_)
        refine lv_lmul hx hb dX6_checksum_151 ?_
        refine lv_topl (fun v44 e45 => ?_)
        refine lv_aload_n hx hb dX6_checksum_152 rfl (lv_at hl 2 rfl) ?_
        obtain ⟨u46, u47, hP, hf⟩ := o_mo (i := 0) (q := o) hM (by omega)
        refine va_get (D := (dC, dI)) (ci := 10) (v := .int u47) (C := RX6) (T := TX6) (N := 11) hx hb hts (by decide +kernel) hown hK hP 0 rfl rfl 8 (by decide) (hts (.fieldLink RX6 89 "SnowpalaceModel" "stored" "I") (by decide +kernel)) (fun _ h9 => h9) rfl dX6_checksum_153 ?_
        refine lv_i2l hx hb dX6_checksum_156 rfl ?_
        refine lv_ladd hx hb dX6_checksum_157 ?_
        refine lv_topl (fun v48 e49 => ?_)
        refine lv_lstore_n (lv' := [(1, .long v48), (3, .ref r11), (0, .ref o)]) hx hb dX6_checksum_158 rfl hl (by decide) rfl (fun ls hl => ?_)
        refine lv_aload_n hx hb dX6_checksum_159 rfl (lv_at hl 2 rfl) ?_
        obtain ⟨u50, u51, hP, hf⟩ := o_mo (i := 0) (q := o) hM (by omega)
        refine va_get (D := (dC, dI)) (ci := 10) (v := .ref (pF g22 o 1)) (C := RX6) (T := TX6) (N := 11) hx hb hts (by decide +kernel) hown hK hP 0 rfl rfl 4 (by decide) (hts (.fieldLink RX6 19 "SnowpalaceModel" "ice" "[I") (by decide +kernel)) (fun _ h9 => h9) rfl dX6_checksum_160 ?_
        have ht52 : tg g22 (pF g22 o 1) = 19 := hf.2.1
        refine lv_astore_n (lv' := [(3, .ref (pF g22 o 1)), (1, .long v48), (0, .ref o)]) hx hb dX6_checksum_163 rfl hl (by decide) rfl (fun ls hl => ?_)
        refine lv_aload_n hx hb dX6_checksum_164 rfl (lv_at hl 0 rfl) ?_
        obtain ⟨u53, hP, hf⟩ := o_ic (i := 0) (q := (pF g22 o 1)) hM (by omega)
        refine va_alen (D := (dC, dI)) hx hb hK hP 0 0 rfl rfl (v := 4) (by rfl) dX6_checksum_165 ?_
        refine lv_istore (lv' := [(4, .int 4), (3, .ref (pF g22 o 1)), (1, .long v48), (0, .ref o)]) hx hb dX6_checksum_166 hl (by decide) rfl (fun ls hl => ?_)
        refine lv_iconst (v := 0) hx hb dX6_checksum_168 (by decide) ?_
        refine lv_istore (lv' := [(5, .int 0), (4, .int 4), (3, .ref (pF g22 o 1)), (1, .long v48), (0, .ref o)]) hx hb dX6_checksum_169 hl (by decide) rfl (fun ls hl => ?_)
        have lp56 : ∀ (n57 j54 : Nat) (x55 : Int64), 0 ≤ j54 → j54 ≤ 4 → 4 < j54 + n57 → ∀ (H : Heap) (locs : List Loc) (ls : Array Slot), TM (dC, dI) kA b g22 H → va_S (fun q => b ≤ q) s.heap H locs → lv_has ls 13 [(5, .int (nI j54)), (4, .int 4), (3, .ref (pF g22 o 1)), (1, .long x55), (0, .ref o)] → W p l e (headSpec wsX6_checksum ({ frames := 3, cells := 1, slots := 4, locals := 53 })).room s m args below meth c H locs 1 4 Q (F0 m 171 ls []) := by
          intro n57
          induction n57 with
          | zero => intro j54 x55 h0 h1 h2; omega
          | succ n57 ih58 =>
            intro j54 x55 lj54 hj54 hn57 H locs ls hM hS hl
            refine lv_iload hx hb dX6_checksum_171 (lv_at hl 0 rfl) ?_
            refine lv_iload hx hb dX6_checksum_173 (lv_at hl 1 rfl) ?_
            refine lv_icmp_ge (tgt := 200) hx hb dX6_checksum_175 (by decide) (fun c59 => ?_) (fun c59 => ?_)
            · skip
              have k60 : 4 ≤ j54 := (nI_leI (a := 4) (b := j54) (by omega) (by omega)).mp c59
              refine lv_lload_n hx hb dX6_checksum_200 rfl (lv_at hl 3 rfl) ?_
              subst hQ
              refine W.widen (k := 1) (n := 4) (Nat.le_of_ble_eq_true rfl) (Nat.le_of_ble_eq_true rfl) ?_
              exact W.lret (v := x55) hx hb hr (fun t ht hW => ⟨⟨x55, g22, rfl, (hx7.trans hx26), CX.give hb0 hM hK hG hE hS ht hW⟩, hS.F ht⟩) hS.2.2 dX6_checksum_201
            · skip
              have k61 : ¬ (4 ≤ j54) := fun z => c59 ((nI_leI (a := 4) (b := j54) (by omega) (by omega)).mpr z)
              refine lv_aload_n hx hb dX6_checksum_178 rfl (lv_at hl 2 rfl) ?_
              refine lv_iload hx hb dX6_checksum_179 (lv_at hl 0 rfl) ?_
              obtain ⟨u62, hP, hf⟩ := o_ic (i := 0) (q := (pF g22 o 1)) hM (by omega)
              refine va_iald (D := (dC, dI)) hx hb hK hP 0 0 rfl rfl (vp_in_nI (by omega) (by decide)) dX6_checksum_181 ?_
              refine lv_topi (fun v63 e64 => ?_)
              have ec : ((nI j54) : Int32).toNatClampNeg = j54 := nI_clamp (by omega)
              rw [ec] at e64
              have hu65 := hf j54 (by omega)
              rw [← e64] at hu65
              refine lv_istore (lv' := [(6, .int v63), (5, .int (nI j54)), (4, .int 4), (3, .ref (pF g22 o 1)), (1, .long x55), (0, .ref o)]) hx hb dX6_checksum_182 hl (by decide) rfl (fun ls hl => ?_)
              refine lv_ldc2 hx hb hown (hts (.constantLong RX6 275 31) (by decide +kernel)) dX6_checksum_184 ?_
              refine lv_lload_n hx hb dX6_checksum_187 rfl (lv_at hl 4 rfl) ?_
              refine lv_lmul hx hb dX6_checksum_188 ?_
              refine lv_topl (fun v66 e67 => ?_)
              refine lv_iload hx hb dX6_checksum_189 (lv_at hl 0 rfl) ?_
              refine lv_i2l hx hb dX6_checksum_191 rfl ?_
              refine lv_ladd hx hb dX6_checksum_192 ?_
              refine lv_topl (fun v68 e69 => ?_)
              refine lv_lstore_n (lv' := [(1, .long v68), (6, .int v63), (5, .int (nI j54)), (4, .int 4), (3, .ref (pF g22 o 1)), (0, .ref o)]) hx hb dX6_checksum_193 rfl hl (by decide) rfl (fun ls hl => ?_)
              refine lv_iinc (v := (nI (j54 + 1))) (lv' := [(5, .int (nI (j54 + 1))), (1, .long v68), (6, .int v63), (4, .int 4), (3, .ref (pF g22 o 1)), (0, .ref o)]) hx hb dX6_checksum_194 hl (k := 2) rfl (nI_add j54 1) (by decide) rfl (fun ls hl => ?_)
              refine lv_goto (tgt := 171) hx hb dX6_checksum_197 (by decide) ?_
              exact ih58 ((j54 + 1)) v68 (by omega) (by omega) (by omega) H _ ls  hM hS (lv_sub hl [0, 3, 4, 1, 5] rfl)
        exact lp56 (4 + 1) 0 v48 (by omega) (by omega) (by omega) H _ ls  hM hS (lv_sub hl [0, 1, 2, 3, 4] rfl)
      · skip
        have hv70 := vr1 hw35 c36
        have hkn : k19 < n20 := (Nat.lt_or_ge k19 n20).elim id (fun z => absurd (((hc28).trans (by rw [show k19 = n20 by omega])).trans (by rw [hL30, eng22])) hv70)
        refine lv_aload_n hx hb dX6_checksum_28 rfl (lv_at hl 0 rfl) ?_
        obtain ⟨u71, hP, hf⟩ := o_it (i := 0) (q := r11) hM (by omega)
        refine va_callFr (va_runF (hK.1 2 _ rfl).2 (As := []) (rest := []) ⟨hx, hb, hml, hown, hts⟩ (rj_next l dC dI kA eD b g22 r11 k19 (by omega) hc28 (by rw [hL30]; omega) (by rw [hL30]; exact hm29.symm)) (va_cwF 0 hts gX6_checksum_Jx35411_next_0502b_f121Jx35411 rfl rfl rfl hE.2.2.2.2.2.1 (by decide +kernel) ⟨Nat.le_of_ble_eq_true rfl, Nat.le_of_ble_eq_true rfl⟩) ⟨fb_CX, va_recv hK hP (ci := 2) (q0 := 0) rfl rfl, fun U hU hW => ⟨rfl, CX.give hb0 hM hK hG hE hS hU hW⟩⟩ rfl rfl hl.1 rfl (lv_room (Nat.le_of_ble_eq_true rfl)) dX6_checksum_29 ⟨(Nat.le_of_ble_eq_true rfl), (Nat.le_of_ble_eq_true rfl)⟩) hS (fun q _ h => h) (fun q h => h) (fun g74 r72 t H locs ht hvm hw73 hB hz1 hk1 hS => ?_)
        have hM := hB.1.back ht
        have hG := hB.1.2.2.2.1
        have ht76 : tg g74 o = 17 := by rw [hw73.1]; exact ht31
        have ht77 : tg g74 (pF g4 o 5) = 26 := by rw [hw73.1]; exact ht32
        have ht78 : tg g74 r11 = 40 := by rw [hw73.1]; exact ht27
        have hx75 : Ext o X0 g4 g74 := by rw [hw73.1]; exact (hx26).newI hit18.2.2.2
        have ht79 : tg g74 r72 = 28 + 64 * k19 := hB.2.1
        obtain ⟨u80, u81, u82, u83, u84, u85, hP, hf⟩ := o_ms (i := k19) (q := r72) hM (by omega)
        refine va_castY hx hb hown (hts (.classLink RX6 125 "SnowpalaceModel$Site") (by decide +kernel)) hE.2.2.2.2.2.2.1 (va_recv hK hP (ci := 9) (q0 := 0) rfl rfl) dX6_checksum_34 ?_
        refine lv_astore (lv' := [(4, .ref r72), (3, .ref r11), (1, .long x25), (0, .ref o)]) hx hb dX6_checksum_37 hl (by decide) rfl (fun ls hl => ?_)
        refine lv_aload hx hb dX6_checksum_39 (lv_at hl 0 rfl) ?_
        obtain ⟨u86, u87, u88, u89, u90, u91, hP, hf⟩ := o_ms (i := k19) (q := r72) hM (by omega)
        refine va_getN (D := (dC, dI)) (ci := 9) (v := .ref (pF g74 r72 0)) (C := RX5) (T := TX5) (N := 10) hx hb hts (by decide +kernel) hown hK hP 0 rfl rfl 0 (by decide) (hN (.fieldLinkNest RX6 160 "SnowpalaceModel$Site" "cells" "[[LSnowpalaceModel$Cell;" RX6) (by decide +kernel)) (fun _ h9 => h9) rfl dX6_checksum_41 ?_
        have ht92 : tg g74 (pF g74 r72 0) = 29 + 64 * k19 := hf.1
        refine lv_astore (lv' := [(5, .ref (pF g74 r72 0)), (4, .ref r72), (3, .ref r11), (1, .long x25), (0, .ref o)]) hx hb dX6_checksum_44 hl (by decide) rfl (fun ls hl => ?_)
        refine lv_aload hx hb dX6_checksum_46 (lv_at hl 0 rfl) ?_
        obtain ⟨hP, hf⟩ := o_co (i := k19) (q := (pF g74 r72 0)) hM (by omega)
        refine va_alen (D := (dC, dI)) hx hb hK hP 0 9 rfl rfl (v := 6) (by rfl) dX6_checksum_48 ?_
        refine lv_istore (lv' := [(6, .int 6), (5, .ref (pF g74 r72 0)), (4, .ref r72), (3, .ref r11), (1, .long x25), (0, .ref o)]) hx hb dX6_checksum_49 hl (by decide) rfl (fun ls hl => ?_)
        refine lv_iconst (v := 0) hx hb dX6_checksum_51 (by decide) ?_
        refine lv_istore (lv' := [(7, .int 0), (6, .int 6), (5, .ref (pF g74 r72 0)), (4, .ref r72), (3, .ref r11), (1, .long x25), (0, .ref o)]) hx hb dX6_checksum_52 hl (by decide) rfl (fun ls hl => ?_)
        have lp95 : ∀ (n96 j93 : Nat) (x94 : Int64), 0 ≤ j93 → j93 ≤ 6 → 6 < j93 + n96 → ∀ (H : Heap) (locs : List Loc) (ls : Array Slot), TM (dC, dI) kA b g74 H → va_S (fun q => b ≤ q) s.heap H locs → lv_has ls 13 [(7, .int (nI j93)), (6, .int 6), (5, .ref (pF g74 r72 0)), (4, .ref r72), (3, .ref r11), (1, .long x94), (0, .ref o)] → W p l e (headSpec wsX6_checksum ({ frames := 3, cells := 1, slots := 4, locals := 53 })).room s m args below meth c H locs 1 4 Q (F0 m 54 ls []) := by
          intro n96
          induction n96 with
          | zero => intro j93 x94 h0 h1 h2; omega
          | succ n96 ih97 =>
            intro j93 x94 lj93 hj93 hn96 H locs ls hM hS hl
            refine lv_iload hx hb dX6_checksum_54 (lv_at hl 0 rfl) ?_
            refine lv_iload hx hb dX6_checksum_56 (lv_at hl 1 rfl) ?_
            refine lv_icmp_ge (tgt := 134) hx hb dX6_checksum_58 (by decide) (fun c98 => ?_) (fun c98 => ?_)
            · skip
              have k99 : 6 ≤ j93 := (nI_leI (a := 6) (b := j93) (by omega) (by omega)).mp c98
              refine lv_goto (tgt := 19) hx hb dX6_checksum_134 (by decide) ?_
              have a0 : pI g74 r11 0 = nI (k19 + 1) := ((Ext.refl : Ext o X0 g74 g74).i (by have := ht78; omega) (Or.inr (by decide))).trans (by rw [hw73.1]; exact sI_at)
              have a1 : pI g74 r11 1 = pI g74 r11 1 := (Ext.refl : Ext o X0 g74 g74).i (by have := ht78; omega) (Or.inr (by decide))
              have a2 : pI g74 r11 1 = pI g22 r11 1 := by rw [hw73.1]; exact sI_ne (Or.inr (by decide))
              have a3 : pI g74 (pF g4 o 5) 1 = pI g74 (pF g4 o 5) 1 := (Ext.refl : Ext o X0 g74 g74).i (by have := ht77; omega) (Or.inr (by decide))
              have a4 : pI g74 (pF g4 o 5) 1 = pI g22 (pF g4 o 5) 1 := by rw [hw73.1]; exact sI_ne (Or.inr (by decide))
              have a5 : pF g74 r11 0 = (pF g4 o 5) := (congrFun ((Ext.refl : Ext o X0 g74 g74).f (by have := ht78; omega)) 0).trans (by rw [hw73.1]; exact hL30)
              exact ih24 (k19 + 1) g74 x94 (by omega) (by omega) H _ ls hx75 hG ht78 a0 (a1.trans (a2.trans (hm29.trans (a4.symm.trans a3.symm)))) a5 hM hS (lv_sub hl [4, 5, 6] rfl)
            · skip
              have k100 : ¬ (6 ≤ j93) := fun z => c98 ((nI_leI (a := 6) (b := j93) (by omega) (by omega)).mpr z)
              refine lv_aload hx hb dX6_checksum_61 (lv_at hl 2 rfl) ?_
              refine lv_iload hx hb dX6_checksum_63 (lv_at hl 0 rfl) ?_
              obtain ⟨hP, hf⟩ := o_co (i := k19) (q := (pF g74 r72 0)) hM (by omega)
              have ec : ((nI j93) : Int32).toNatClampNeg = j93 := nI_clamp (by omega)
              refine rt_aldA (D := (dC, dI)) (t0 := 9) hx hb hK hP rfl (vp_in_nI (by omega) (by decide)) (y := (pF g74 (pF g74 r72 0) j93)) ((congrArg (fun z => if z < 6 then some (pF g74 (pF g74 r72 0) z) else none) ec).trans (if_pos (by omega))) dX6_checksum_65 ?_
              have ht101 : tg g74 (pF g74 (pF g74 r72 0) j93) = 30 + 64 * (8 * k19 + j93) := (hf j93 (by omega))
              refine lv_astore (lv' := [(8, .ref (pF g74 (pF g74 r72 0) j93)), (7, .int (nI j93)), (6, .int 6), (5, .ref (pF g74 r72 0)), (4, .ref r72), (3, .ref r11), (1, .long x94), (0, .ref o)]) hx hb dX6_checksum_66 hl (by decide) rfl (fun ls hl => ?_)
              refine lv_aload hx hb dX6_checksum_68 (lv_at hl 0 rfl) ?_
              refine lv_astore (lv' := [(9, .ref (pF g74 (pF g74 r72 0) j93)), (8, .ref (pF g74 (pF g74 r72 0) j93)), (7, .int (nI j93)), (6, .int 6), (5, .ref (pF g74 r72 0)), (4, .ref r72), (3, .ref r11), (1, .long x94), (0, .ref o)]) hx hb dX6_checksum_70 hl (by decide) rfl (fun ls hl => ?_)
              refine lv_aload hx hb dX6_checksum_72 (lv_at hl 0 rfl) ?_
              obtain ⟨hP, hf⟩ := o_cr (i := (8 * k19 + j93)) (q := (pF g74 (pF g74 r72 0) j93)) hM (by omega)
              refine va_alen (D := (dC, dI)) hx hb hK hP 0 8 rfl rfl (v := 8) (by rfl) dX6_checksum_74 ?_
              refine lv_istore (lv' := [(10, .int 8), (9, .ref (pF g74 (pF g74 r72 0) j93)), (8, .ref (pF g74 (pF g74 r72 0) j93)), (7, .int (nI j93)), (6, .int 6), (5, .ref (pF g74 r72 0)), (4, .ref r72), (3, .ref r11), (1, .long x94), (0, .ref o)]) hx hb dX6_checksum_75 hl (by decide) rfl (fun ls hl => ?_)
              refine lv_iconst (v := 0) hx hb dX6_checksum_77 (by decide) ?_
              refine lv_istore (lv' := [(11, .int 0), (10, .int 8), (9, .ref (pF g74 (pF g74 r72 0) j93)), (8, .ref (pF g74 (pF g74 r72 0) j93)), (7, .int (nI j93)), (6, .int 6), (5, .ref (pF g74 r72 0)), (4, .ref r72), (3, .ref r11), (1, .long x94), (0, .ref o)]) hx hb dX6_checksum_78 hl (by decide) rfl (fun ls hl => ?_)
              have lp104 : ∀ (n105 j102 : Nat) (x103 : Int64), 0 ≤ j102 → j102 ≤ 8 → 8 < j102 + n105 → ∀ (H : Heap) (locs : List Loc) (ls : Array Slot), TM (dC, dI) kA b g74 H → va_S (fun q => b ≤ q) s.heap H locs → lv_has ls 13 [(11, .int (nI j102)), (10, .int 8), (9, .ref (pF g74 (pF g74 r72 0) j93)), (8, .ref (pF g74 (pF g74 r72 0) j93)), (7, .int (nI j93)), (6, .int 6), (5, .ref (pF g74 r72 0)), (4, .ref r72), (3, .ref r11), (1, .long x103), (0, .ref o)] → W p l e (headSpec wsX6_checksum ({ frames := 3, cells := 1, slots := 4, locals := 53 })).room s m args below meth c H locs 1 4 Q (F0 m 80 ls []) := by
                intro n105
                induction n105 with
                | zero => intro j102 x103 h0 h1 h2; omega
                | succ n105 ih106 =>
                  intro j102 x103 lj102 hj102 hn105 H locs ls hM hS hl
                  refine lv_iload hx hb dX6_checksum_80 (lv_at hl 0 rfl) ?_
                  refine lv_iload hx hb dX6_checksum_82 (lv_at hl 1 rfl) ?_
                  refine lv_icmp_ge (tgt := 128) hx hb dX6_checksum_84 (by decide) (fun c107 => ?_) (fun c107 => ?_)
                  · skip
                    have k108 : 8 ≤ j102 := (nI_leI (a := 8) (b := j102) (by omega) (by omega)).mp c107
                    refine lv_iinc (v := (nI (j93 + 1))) (lv' := [(7, .int (nI (j93 + 1))), (11, .int (nI j102)), (10, .int 8), (9, .ref (pF g74 (pF g74 r72 0) j93)), (8, .ref (pF g74 (pF g74 r72 0) j93)), (6, .int 6), (5, .ref (pF g74 r72 0)), (4, .ref r72), (3, .ref r11), (1, .long x103), (0, .ref o)]) hx hb dX6_checksum_128 hl (k := 4) rfl (nI_add j93 1) (by decide) rfl (fun ls hl => ?_)
                    refine lv_goto (tgt := 54) hx hb dX6_checksum_131 (by decide) ?_
                    exact ih97 ((j93 + 1)) x103 (by omega) (by omega) (by omega) H _ ls  hM hS (lv_sub hl [0, 5, 6, 7, 8, 9, 10] rfl)
                  · skip
                    have k109 : ¬ (8 ≤ j102) := fun z => c107 ((nI_leI (a := 8) (b := j102) (by omega) (by omega)).mpr z)
                    refine lv_aload hx hb dX6_checksum_87 (lv_at hl 2 rfl) ?_
                    refine lv_iload hx hb dX6_checksum_89 (lv_at hl 0 rfl) ?_
                    obtain ⟨hP, hf⟩ := o_cr (i := (8 * k19 + j93)) (q := (pF g74 (pF g74 r72 0) j93)) hM (by omega)
                    refine va_aldq (D := (dC, dI)) hx hb hK hP 0 8 rfl rfl (vp_in_nI (by omega) (by decide)) dX6_checksum_91 ?_
                    have ec : ((nI j102) : Int32).toNatClampNeg = j102 := nI_clamp (by omega)
                    rw [ec]
                    have hq110 := hf j102 (by omega)
                    refine rt_astore (lv' := [(12, va_rf (pO g74 (pF g74 (pF g74 r72 0) j93) j102)), (11, .int (nI j102)), (10, .int 8), (9, .ref (pF g74 (pF g74 r72 0) j93)), (8, .ref (pF g74 (pF g74 r72 0) j93)), (7, .int (nI j93)), (6, .int 6), (5, .ref (pF g74 r72 0)), (4, .ref r72), (3, .ref r11), (1, .long x103), (0, .ref o)]) hx hb dX6_checksum_92 hl (by decide) rfl (fun ls hl => ?_)
                    refine lv_ldc2 hx hb hown (hts (.constantLong RX6 275 31) (by decide +kernel)) dX6_checksum_94 ?_
                    refine lv_lload_n hx hb dX6_checksum_97 rfl (lv_at hl 10 rfl) ?_
                    refine lv_lmul hx hb dX6_checksum_98 ?_
                    refine lv_topl (fun v111 e112 => ?_)
                    refine rt_aload hx hb dX6_checksum_99 (lv_at hl 0 rfl) ?_
                    rcases hy114 : (pO g74 (pF g74 (pF g74 r72 0) j93) j102) with _ | y113
                    · skip
                      try rw [hy114] at hl
                      have hl : lv_has ls 13 [(12, .null), (11, .int (nI j102)), (10, .int 8), (9, .ref (pF g74 (pF g74 r72 0) j93)), (8, .ref (pF g74 (pF g74 r72 0) j93)), (7, .int (nI j93)), (6, .int 6), (5, .ref (pF g74 r72 0)), (4, .ref r72), (3, .ref r11), (1, .long x103), (0, .ref o)] := hl
                      refine lv_ifnonnullN hx hb dX6_checksum_101 ?_
                      refine lv_iconst (v := 0) hx hb dX6_checksum_104 (by decide) ?_
                      refine lv_goto (tgt := 119) hx hb dX6_checksum_105 (by decide) ?_
                      refine lv_i2l (v := 0) hx hb dX6_checksum_119 (by decide) ?_
                      refine lv_ladd hx hb dX6_checksum_120 ?_
                      refine lv_topl (fun v115 e116 => ?_)
                      refine lv_lstore_n (lv' := [(1, .long v115), (12, .null), (11, .int (nI j102)), (10, .int 8), (9, .ref (pF g74 (pF g74 r72 0) j93)), (8, .ref (pF g74 (pF g74 r72 0) j93)), (7, .int (nI j93)), (6, .int 6), (5, .ref (pF g74 r72 0)), (4, .ref r72), (3, .ref r11), (0, .ref o)]) hx hb dX6_checksum_121 rfl hl (by decide) rfl (fun ls hl => ?_)
                      refine lv_iinc (v := (nI (j102 + 1))) (lv' := [(11, .int (nI (j102 + 1))), (1, .long v115), (12, .null), (10, .int 8), (9, .ref (pF g74 (pF g74 r72 0) j93)), (8, .ref (pF g74 (pF g74 r72 0) j93)), (7, .int (nI j93)), (6, .int 6), (5, .ref (pF g74 r72 0)), (4, .ref r72), (3, .ref r11), (0, .ref o)]) hx hb dX6_checksum_122 hl (k := 2) rfl (nI_add j102 1) (by decide) rfl (fun ls hl => ?_)
                      refine lv_goto (tgt := 80) hx hb dX6_checksum_125 (by decide) ?_
                      exact ih106 ((j102 + 1)) v115 (by omega) (by omega) (by omega) H _ ls  hM hS (lv_sub hl [0, 3, 4, 5, 6, 7, 8, 9, 10, 1, 11] rfl)
                    · skip
                      try rw [hy114] at hl
                      have hl : lv_has ls 13 [(12, .ref y113), (11, .int (nI j102)), (10, .int 8), (9, .ref (pF g74 (pF g74 r72 0) j93)), (8, .ref (pF g74 (pF g74 r72 0) j93)), (7, .int (nI j93)), (6, .int 6), (5, .ref (pF g74 r72 0)), (4, .ref r72), (3, .ref r11), (1, .long x103), (0, .ref o)] := hl
                      have ht117 : tg g74 y113 = 31 := hq110 y113 hy114
                      refine lv_ifnonnull (tgt := 108) hx hb dX6_checksum_101 (by decide) ?_
                      refine lv_aload hx hb dX6_checksum_108 (lv_at hl 0 rfl) ?_
                      obtain ⟨u118, u119, u120, u121, u122, hP, hf⟩ := o_ce (i := 0) (q := y113) hM (by omega)
                      refine va_getN (D := (dC, dI)) (ci := 8) (v := .int u119) (C := RX4) (T := TX4) (N := 5) hx hb hts (by decide +kernel) hown hK hP 0 rfl rfl 1 (by decide) (hN (.fieldLinkNest RX6 182 "SnowpalaceModel$Cell" "mass" "I" RX6) (by decide +kernel)) (fun _ h9 => h9) rfl dX6_checksum_110 ?_
                      refine lv_aload hx hb dX6_checksum_113 (lv_at hl 0 rfl) ?_
                      obtain ⟨u123, u124, u125, u126, u127, hP, hf⟩ := o_ce (i := 0) (q := y113) hM (by omega)
                      refine va_getN (D := (dC, dI)) (ci := 8) (v := .int u126) (C := RX4) (T := TX4) (N := 5) hx hb hts (by decide +kernel) hown hK hP 0 rfl rfl 3 (by decide) (hN (.fieldLinkNest RX6 193 "SnowpalaceModel$Cell" "creep" "I" RX6) (by decide +kernel)) (fun _ h9 => h9) rfl dX6_checksum_115 ?_
                      refine lv_iadd hx hb dX6_checksum_118 ?_
                      refine lv_topi (fun v128 e129 => ?_)
                      refine lv_i2l hx hb dX6_checksum_119 rfl ?_
                      refine lv_ladd hx hb dX6_checksum_120 ?_
                      refine lv_topl (fun v130 e131 => ?_)
                      refine lv_lstore_n (lv' := [(1, .long v130), (12, .ref y113), (11, .int (nI j102)), (10, .int 8), (9, .ref (pF g74 (pF g74 r72 0) j93)), (8, .ref (pF g74 (pF g74 r72 0) j93)), (7, .int (nI j93)), (6, .int 6), (5, .ref (pF g74 r72 0)), (4, .ref r72), (3, .ref r11), (0, .ref o)]) hx hb dX6_checksum_121 rfl hl (by decide) rfl (fun ls hl => ?_)
                      refine lv_iinc (v := (nI (j102 + 1))) (lv' := [(11, .int (nI (j102 + 1))), (1, .long v130), (12, .ref y113), (10, .int 8), (9, .ref (pF g74 (pF g74 r72 0) j93)), (8, .ref (pF g74 (pF g74 r72 0) j93)), (7, .int (nI j93)), (6, .int 6), (5, .ref (pF g74 r72 0)), (4, .ref r72), (3, .ref r11), (0, .ref o)]) hx hb dX6_checksum_122 hl (k := 2) rfl (nI_add j102 1) (by decide) rfl (fun ls hl => ?_)
                      refine lv_goto (tgt := 80) hx hb dX6_checksum_125 (by decide) ?_
                      exact ih106 ((j102 + 1)) v130 (by omega) (by omega) (by omega) H _ ls  hM hS (lv_sub hl [0, 3, 4, 5, 6, 7, 8, 9, 10, 1, 11] rfl)
              exact lp104 (8 + 1) 0 x94 (by omega) (by omega) (by omega) H _ ls  hM hS (lv_sub hl [0, 1, 2, 3, 4, 5, 6, 7, 8, 9, 10] rfl)
        exact lp95 (6 + 1) 0 x25 (by omega) (by omega) (by omega) H _ ls  hM hS (lv_sub hl [0, 1, 2, 3, 4, 5, 6] rfl)
  have b1 : pI g13 r11 1 = pI g13 (pF g4 o 5) 1 := hit18.2.1.trans ((hx14 : Ext o X0 g4 g13).i (by have := ht10; omega) (Or.inr (by decide))).symm
  exact lp23 (n20 + 1) 0 g13 7 (by omega) (by omega) H _ ls hx14 hG ht17 hit18.1 b1 hit18.2.2.1 hM hS (lv_sub hl [0, 1, 2] rfl)
