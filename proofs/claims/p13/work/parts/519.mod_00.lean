set_option maxHeartbeats 4000000 in
set_option maxRecDepth 100000 in
theorem rm_isWrong (l : Launch) (dC : Nat → ClassId) (dI : Nat → Nat → Nat) (kA : Nat → ClassId) (eD b : Nat) (g : Gh) (o : Nat) (code : Int32) (hto : tg g o = 17)  : Met l yX6_isWrong wsX6_isWrong ({ frames := 0, cells := 0, slots := 0, locals := 0 }) (va_Pc [.ref o, .int code] (CX (dC, dI) kA eD b g)) (va_Qi (fun (r : Int32) (u : Gh) => Ext o X0 g u ∧ u = sI g o 2 code ∧ r = bI (0 < code)) (fun (u : Gh) t => CX (dC, dI) kA eD b u t) (fun q => b ≤ q)) 0 0 (fun q => b ≤ q) := by
  refine Met.ofW (cc := cX6_isWrong) (maxL := 2) (ret := (some .boolean)) (by decide +kernel) rfl ?_
  intro p e s m args below meth c s₁ B hml hv
  obtain ⟨rfl, hb0, hM, hK, hG, hE⟩ := hv
  have hx := B.exec
  have hb := B.bytes
  have hr := B.returns
  have hts := atoms_spec (ws := wsX6_isWrong) B.pre
  have hown : s.vm.findClass RX6 = some m.cls := findClass_of_methodNamed B.named
  have hlocks := B.notSynchronized
  have hT := hE.1
  have hN := hE.2.2.2.2.2.2.2.1
  have hS : va_S (fun q => b ≤ q) s.heap s.heap [] := va_S.rf
  have hl := lv_entry ([.ref o, .int code]) (n := 2) (Nat.le_of_ble_eq_true rfl)
  rw [lg_entry_eq]
  generalize (lg_sl ([.ref o, .int code]) ++ List.replicate (2 - (lg_sl ([.ref o, .int code])).length) Slot.unset).toArray = ls at hl ⊢
  have hl : lv_has ls 2 [(0, .ref o), (1, .int code)] := hl
  generalize ([.ref o, .int code] : List Value).toArray = args at hts ⊢
  refine lv_aload_n hx hb dX6_isWrong_0 rfl (lv_at hl 0 rfl) ?_
  refine lv_iload_n hx hb dX6_isWrong_1 rfl (lv_at hl 1 rfl) ?_
  obtain ⟨u1, u2, hP, hf⟩ := o_mo (i := 0) (q := o) hM (by omega)
  refine rt_put (D := (dC, dI)) (ci := 10) (v := .int code) (ty := .int) (C := RX6) (T := TX6) (N := 11) hx hb hts (by decide +kernel) tyX6 tyX6_ok nmX6 hown hK hP (hM.ge (by omega)) hS rfl 0 (by decide) (hts (.fieldLink RX6 1 "SnowpalaceModel" "thrown" "I") (by decide +kernel)) (fun _ h9 => h9) rfl (by decide +kernel) rfl rfl (Nat.le_of_ble_eq_true rfl) dX6_isWrong_2 (fun H locs hP hz ho hS => ?_)
  have hM0 := hM
  have hM := p_mo (i := 0) (f := upd (pI g o) 2 code) hM (by omega) hP ho hf
  obtain ⟨g4, hg4⟩ : ∃ z, z = uI g o (upd (pI g o) 2 code) := ⟨_, rfl⟩
  rw [← hg4] at hM
  have ht5 : tg g4 o = 17 := by rw [hg4]; exact hto
  have hG : GOK g4 := by rw [hg4]; exact (hG.uI hM0 (Or.inl (by omega)))
  have hx7 : Ext o X0 g g4 := by rw [hg4]; exact (Ext.thr (fun j9 hj9 => if_neg hj9))
  refine lv_iload_n hx hb dX6_isWrong_5 rfl (lv_at hl 1 rfl) ?_
  refine lv_if_le (tgt := 13) hx hb dX6_isWrong_6 (by decide) (fun c8 => ?_) (fun c8 => ?_)
  · skip
    have i9 := (Int32.le_iff_toInt_le).mp c8
    have ii9 : (0 : Int32).toInt = 0 := by decide
    have i9 := i9
    refine lv_iconst (v := 0) hx hb dX6_isWrong_13 (by decide) ?_
    refine W.widen (k := 0) (n := 0) (Nat.le_of_ble_eq_true rfl) (Nat.le_of_ble_eq_true rfl) ?_
    exact W.zret (v := 0) (ty := .boolean) hx hb hr rfl (fun t ht hW => ⟨⟨0, g4, rfl, ⟨hx7, (by subst hg4; rfl), iw_0 c8⟩, CX.give hb0 hM hK hG hE hS ht hW⟩, hS.F ht⟩) hS.2.2 dX6_isWrong_14
  · skip
    have i10 := fun z => c8 ((Int32.le_iff_toInt_le).mpr z)
    have ii10 : (0 : Int32).toInt = 0 := by decide
    have i10 : ¬ ((code : Int32).toInt ≤ (0 : Int32).toInt) := i10
    refine lv_iconst (v := 1) hx hb dX6_isWrong_9 (by decide) ?_
    refine lv_goto (tgt := 14) hx hb dX6_isWrong_10 (by decide) ?_
    refine W.widen (k := 0) (n := 0) (Nat.le_of_ble_eq_true rfl) (Nat.le_of_ble_eq_true rfl) ?_
    exact W.zret (v := 1) (ty := .boolean) hx hb hr rfl (fun t ht hW => ⟨⟨1, g4, rfl, ⟨hx7, (by subst hg4; rfl), iw_1 c8⟩, CX.give hb0 hM hK hG hE hS ht hW⟩, hS.F ht⟩) hS.2.2 dX6_isWrong_14

set_option maxHeartbeats 4000000 in
set_option maxRecDepth 100000 in
theorem rm_isNoSite (l : Launch) (dC : Nat → ClassId) (dI : Nat → Nat → Nat) (kA : Nat → ClassId) (eD b : Nat) (g : Gh) (o : Nat) (site : Int32) (hto : tg g o = 17)  : Met l yX6_isNoSite wsX6_isNoSite ({ frames := 1, cells := 0, slots := 0, locals := 25 }) (va_Pc [.ref o, .int site] (CX (dC, dI) kA eD b g)) (va_Qi (fun (r : Int32) (u : Gh) => Ext o X0 g u ∧ pI u o 2 = r ∧ ((r = 0 ∧ (0 ≤ site.toInt ∧ site.toInt < (pI u (pF u o 5) 0).toInt)) ∨ (r = 1 ∧ ¬ (0 ≤ site.toInt ∧ site.toInt < (pI u (pF u o 5) 0).toInt)))) (fun (u : Gh) t => CX (dC, dI) kA eD b u t) (fun q => b ≤ q)) 0 0 (fun q => b ≤ q) := by
  refine Met.ofW (cc := cX6_isNoSite) (maxL := 2) (ret := (some .boolean)) (by decide +kernel) rfl ?_
  intro p e s m args below meth c s₁ B hml hv
  obtain ⟨rfl, hb0, hM, hK, hG, hE⟩ := hv
  have hx := B.exec
  have hb := B.bytes
  have hr := B.returns
  have hts := atoms_spec (ws := wsX6_isNoSite) B.pre
  have hown : s.vm.findClass RX6 = some m.cls := findClass_of_methodNamed B.named
  have hlocks := B.notSynchronized
  have hT := hE.1
  have hN := hE.2.2.2.2.2.2.2.1
  have hS : va_S (fun q => b ≤ q) s.heap s.heap [] := va_S.rf
  have hl := lv_entry ([.ref o, .int site]) (n := 2) (Nat.le_of_ble_eq_true rfl)
  rw [lg_entry_eq]
  generalize (lg_sl ([.ref o, .int site]) ++ List.replicate (2 - (lg_sl ([.ref o, .int site])).length) Slot.unset).toArray = ls at hl ⊢
  have hl : lv_has ls 2 [(0, .ref o), (1, .int site)] := hl
  generalize ([.ref o, .int site] : List Value).toArray = args at hts ⊢
  have hfm := (mo_list hM hto).1
  have hls := (mo_list hM hto).2
  refine lv_aload_n hx hb dX6_isNoSite_0 rfl (lv_at hl 0 rfl) ?_
  refine lv_iload_n hx hb dX6_isNoSite_1 rfl (lv_at hl 1 rfl) ?_
  refine lv_i2l hx hb dX6_isNoSite_2 rfl ?_
  refine lv_lconst (v := 0) hx hb dX6_isNoSite_3 (by decide) ?_
  refine lv_aload_n hx hb dX6_isNoSite_4 rfl (lv_at hl 0 rfl) ?_
  obtain ⟨u1, u2, hP, hf⟩ := o_mo (i := 0) (q := o) hM (by omega)
  refine va_get (D := (dC, dI)) (ci := 10) (v := .ref (pF g o 5)) (C := RX6) (T := TX6) (N := 11) hx hb hts (by decide +kernel) hown hK hP 0 rfl rfl 10 (by decide) (hts (.fieldLink RX6 34 "SnowpalaceModel" "sites" "Ljava/util/List;") (by decide +kernel)) (fun _ h9 => h9) rfl dX6_isNoSite_5 ?_
  have ht3 : tg g (pF g o 5) = 26 := hf.2.2.2.2.2.1
  obtain ⟨hP, hf⟩ := o_al (i := 0) (q := (pF g o 5)) hM (by omega)
  refine va_callFi (va_runF (hK.1 3 _ rfl).2 (As := []) (rest := [.long 0, .long site.toInt64, .ref o]) ⟨hx, hb, hml, hown, hts⟩ (rj_size l dC dI kA eD b g (pF g o 5) (by omega)) (va_cwF 0 hts gX6_isNoSite_Jx4a65c_size_8abf5_f130Jx4a65c rfl rfl rfl hE.2.1.1 (by decide +kernel) ⟨Nat.le_of_ble_eq_true rfl, Nat.le_of_ble_eq_true rfl⟩) ⟨fb_CX, va_recv hK hP (ci := 3) (q0 := 0) rfl rfl, fun U hU hW => ⟨rfl, CX.give hb0 hM hK hG hE hS hU hW⟩⟩ rfl rfl hl.1 rfl (lv_room (Nat.le_of_ble_eq_true rfl)) dX6_isNoSite_8 ⟨(Nat.le_of_ble_eq_true rfl), (Nat.le_of_ble_eq_true rfl)⟩) hS (fun q _ h => h) (fun q h => h) (fun r4 u t H locs ht hvm hw5 hB hz1 hk1 hS => ?_)
  have hM := hB.back ht
  have hG := hB.2.2.2.1
  obtain rfl : r4 = (pI g (pF g o 5) 0) := hw5
  have hsz6 := hf.1
  refine lv_iconst (v := 1) hx hb dX6_isNoSite_13 (by decide) ?_
  refine lv_isub hx hb dX6_isNoSite_14 ?_
  refine lv_topi (fun v7 e8 => ?_)
  have hm1 : (v7 : Int32).toInt = (pI g (pF g o 5) 0).toInt - 1 := by rw [e8]; exact m1_3 hls
  refine lv_i2l hx hb dX6_isNoSite_15 rfl ?_
  refine va_calli (va_runS (As := [.long site.toInt64, .long 0, .long v7.toInt64]) (rest := [.ref o]) ⟨hx, hb, hml, hown, hts⟩ (rm_isBetween l site.toInt64 0 v7.toInt64 ((site : Int32).toInt) (0) ((v7 : Int32).toInt) (Int32.toInt_toInt64 _) (by decide) (Int32.toInt_toInt64 _)) (va_cwS 3 hts gX6_isNoSite_X6_isBetween rfl rfl rfl (by decide +kernel) ⟨Nat.le_of_ble_eq_true rfl, Nat.le_of_ble_eq_true rfl⟩) ⟨fun a U g mk q => q, fun U hU hW => ⟨rfl, trivial⟩⟩ rfl rfl hl.1 rfl (lv_room (Nat.le_of_ble_eq_true rfl)) dX6_isNoSite_16 ⟨(Nat.le_of_ble_eq_true rfl), (Nat.le_of_ble_eq_true rfl)⟩) hS (fun q _ h => h.elim) (fun q h => h.elim) (fun r9 u t H locs ht hvm hw10 hB hz1 hk1 hS => ?_)
  have hM := hM.keep (fun p hp => hk1 p hp (fun z => z))
  have hw10 : r9 = bI ((0 : Int) ≤ (site : Int32).toInt ∧ (site : Int32).toInt ≤ (v7 : Int32).toInt) := hw10
  refine lv_if_eq (tgt := 26) hx hb dX6_isNoSite_19 (by decide) (fun c11 => ?_) (fun c11 => ?_)
  · skip
    have g12 : ¬ ((0 : Int) ≤ (site : Int32).toInt ∧ (site : Int32).toInt ≤ (v7 : Int32).toInt) := bI_f hw10 c11
    have zg12 : r9 = 0 := bI_f0 hw10 g12
    refine lv_iconst (v := 1) hx hb dX6_isNoSite_26 (by decide) ?_
    obtain ⟨u13, u14, hP, hf⟩ := o_mo (i := 0) (q := o) hM (by omega)
    refine va_calli (va_runV (As := [.int 1]) (rest := []) ⟨hx, hb, hml, hown, hts⟩ (rm_isWrong l dC dI kA eD b g o 1 (by omega)) (cwV 1 hts gX6_isNoSite_X6_isWrong rfl rfl rfl (by decide +kernel) ⟨Nat.le_of_ble_eq_true rfl, Nat.le_of_ble_eq_true rfl⟩) ⟨fb_CX, va_recv hK hP (ci := 10) (q0 := 0) rfl rfl, fun U hU hW => ⟨rfl, CX.give hb0 hM hK hG hE hS hU hW⟩⟩ rfl rfl hl.1 rfl (lv_room (Nat.le_of_ble_eq_true rfl)) dX6_isNoSite_27 ⟨(Nat.le_of_ble_eq_true rfl), (Nat.le_of_ble_eq_true rfl)⟩) hS (fun q _ h => h) (fun q h => h) (fun r15 g17 t H locs ht hvm hw16 hB hz1 hk1 hS => ?_)
    have hM := hB.back ht
    have hG := hB.2.2.2.1
    have hx18 : Ext o X0 g g17 := hw16.1
    have ht19 : tg g17 o = 17 := hx18.tk hto (by omega)
    have ht20 : tg g17 (pF g o 5) = 26 := hx18.tk ht3 (by omega)
    obtain rfl : r15 = 1 := hw16.2.2.trans (by decide)
    have hth21 : pI g17 o 2 = 1 := by rw [hw16.2.1]; exact sI_at
    have hsu : (pI g17 (pF g17 o 5) 0).toInt = (pI g (pF g o 5) 0).toInt := by rw [hw16.2.1]; exact congrArg Int32.toInt (sI_ne (Or.inl (fun e9 => by have e8 : pF g o 5 = o := e9; rw [e8] at hfm; omega)))
    refine W.widen (k := 0) (n := 0) (Nat.le_of_ble_eq_true rfl) (Nat.le_of_ble_eq_true rfl) ?_
    exact W.zret (v := 1) (ty := .boolean) hx hb hr rfl (fun t ht hW => ⟨⟨1, g17, rfl, ⟨hx18, hth21, Or.inr ⟨rfl, by rw [hsu]; omega⟩⟩, CX.give hb0 hM hK hG hE hS ht hW⟩, hS.F ht⟩) hS.2.2 dX6_isNoSite_30
  · skip
    have g22 : (0 : Int) ≤ (site : Int32).toInt ∧ (site : Int32).toInt ≤ (v7 : Int32).toInt := bI_t hw10 c11
    have zg22 : r9 = 1 := bI_t1 hw10 g22
    refine lv_iconst (v := 0) hx hb dX6_isNoSite_22 (by decide) ?_
    refine lv_goto (tgt := 27) hx hb dX6_isNoSite_23 (by decide) ?_
    obtain ⟨u23, u24, hP, hf⟩ := o_mo (i := 0) (q := o) hM (by omega)
    refine va_calli (va_runV (As := [.int 0]) (rest := []) ⟨hx, hb, hml, hown, hts⟩ (rm_isWrong l dC dI kA eD b g o 0 (by omega)) (cwV 1 hts gX6_isNoSite_X6_isWrong rfl rfl rfl (by decide +kernel) ⟨Nat.le_of_ble_eq_true rfl, Nat.le_of_ble_eq_true rfl⟩) ⟨fb_CX, va_recv hK hP (ci := 10) (q0 := 0) rfl rfl, fun U hU hW => ⟨rfl, CX.give hb0 hM hK hG hE hS hU hW⟩⟩ rfl rfl hl.1 rfl (lv_room (Nat.le_of_ble_eq_true rfl)) dX6_isNoSite_27 ⟨(Nat.le_of_ble_eq_true rfl), (Nat.le_of_ble_eq_true rfl)⟩) hS (fun q _ h => h) (fun q h => h) (fun r25 g27 t H locs ht hvm hw26 hB hz1 hk1 hS => ?_)
    have hM := hB.back ht
    have hG := hB.2.2.2.1
    have hx28 : Ext o X0 g g27 := hw26.1
    have ht29 : tg g27 o = 17 := hx28.tk hto (by omega)
    have ht30 : tg g27 (pF g o 5) = 26 := hx28.tk ht3 (by omega)
    obtain rfl : r25 = 0 := hw26.2.2.trans (by decide)
    have hth31 : pI g27 o 2 = 0 := by rw [hw26.2.1]; exact sI_at
    have hsu : (pI g27 (pF g27 o 5) 0).toInt = (pI g (pF g o 5) 0).toInt := by rw [hw26.2.1]; exact congrArg Int32.toInt (sI_ne (Or.inl (fun e9 => by have e8 : pF g o 5 = o := e9; rw [e8] at hfm; omega)))
    refine W.widen (k := 0) (n := 0) (Nat.le_of_ble_eq_true rfl) (Nat.le_of_ble_eq_true rfl) ?_
    exact W.zret (v := 0) (ty := .boolean) hx hb hr rfl (fun t ht hW => ⟨⟨0, g27, rfl, ⟨hx28, hth31, Or.inl ⟨rfl, by rw [hsu]; omega⟩⟩, CX.give hb0 hM hK hG hE hS ht hW⟩, hS.F ht⟩) hS.2.2 dX6_isNoSite_30

set_option maxHeartbeats 4000000 in
set_option maxRecDepth 100000 in
theorem rm_isNoPlace (l : Launch) (dC : Nat → ClassId) (dI : Nat → Nat → Nat) (kA : Nat → ClassId) (eD b : Nat) (g : Gh) (o : Nat) (site x y : Int32) (hto : tg g o = 17)  : Met l yX6_isNoPlace wsX6_isNoPlace ({ frames := 1, cells := 0, slots := 0, locals := 25 }) (va_Pc [.ref o, .int site, .int x, .int y] (CX (dC, dI) kA eD b g)) (va_Qi (fun (r : Int32) (u : Gh) => Ext o X0 g u ∧ pI u o 2 = r ∧ ((r = 0 ∧ ((0 ≤ site.toInt ∧ site.toInt < (pI u (pF u o 5) 0).toInt) ∧ (0 ≤ x.toInt ∧ x.toInt ≤ 7) ∧ 0 ≤ y.toInt ∧ y.toInt ≤ 5)) ∨ (r = 1 ∧ ¬ ((0 ≤ site.toInt ∧ site.toInt < (pI u (pF u o 5) 0).toInt) ∧ (0 ≤ x.toInt ∧ x.toInt ≤ 7) ∧ 0 ≤ y.toInt ∧ y.toInt ≤ 5)))) (fun (u : Gh) t => CX (dC, dI) kA eD b u t) (fun q => b ≤ q)) 0 0 (fun q => b ≤ q) := by
  refine Met.ofW (cc := cX6_isNoPlace) (maxL := 4) (ret := (some .boolean)) (by decide +kernel) rfl ?_
  intro p e s m args below meth c s₁ B hml hv
  obtain ⟨rfl, hb0, hM, hK, hG, hE⟩ := hv
  have hx := B.exec
  have hb := B.bytes
  have hr := B.returns
  have hts := atoms_spec (ws := wsX6_isNoPlace) B.pre
  have hown : s.vm.findClass RX6 = some m.cls := findClass_of_methodNamed B.named
  have hlocks := B.notSynchronized
  have hT := hE.1
  have hN := hE.2.2.2.2.2.2.2.1
  have hS : va_S (fun q => b ≤ q) s.heap s.heap [] := va_S.rf
  have hl := lv_entry ([.ref o, .int site, .int x, .int y]) (n := 4) (Nat.le_of_ble_eq_true rfl)
  rw [lg_entry_eq]
  generalize (lg_sl ([.ref o, .int site, .int x, .int y]) ++ List.replicate (4 - (lg_sl ([.ref o, .int site, .int x, .int y])).length) Slot.unset).toArray = ls at hl ⊢
  have hl : lv_has ls 4 [(0, .ref o), (1, .int site), (2, .int x), (3, .int y)] := hl
  generalize ([.ref o, .int site, .int x, .int y] : List Value).toArray = args at hts ⊢
  have hfm := (mo_list hM hto).1
  have hls := (mo_list hM hto).2
  refine lv_aload_n hx hb dX6_isNoPlace_0 rfl (lv_at hl 0 rfl) ?_
  refine lv_iload_n hx hb dX6_isNoPlace_1 rfl (lv_at hl 1 rfl) ?_
  refine lv_i2l hx hb dX6_isNoPlace_2 rfl ?_
  refine lv_lconst (v := 0) hx hb dX6_isNoPlace_3 (by decide) ?_
  refine lv_aload_n hx hb dX6_isNoPlace_4 rfl (lv_at hl 0 rfl) ?_
  obtain ⟨u1, u2, hP, hf⟩ := o_mo (i := 0) (q := o) hM (by omega)
  refine va_get (D := (dC, dI)) (ci := 10) (v := .ref (pF g o 5)) (C := RX6) (T := TX6) (N := 11) hx hb hts (by decide +kernel) hown hK hP 0 rfl rfl 10 (by decide) (hts (.fieldLink RX6 34 "SnowpalaceModel" "sites" "Ljava/util/List;") (by decide +kernel)) (fun _ h9 => h9) rfl dX6_isNoPlace_5 ?_
  have ht3 : tg g (pF g o 5) = 26 := hf.2.2.2.2.2.1
  obtain ⟨hP, hf⟩ := o_al (i := 0) (q := (pF g o 5)) hM (by omega)
  refine va_callFi (va_runF (hK.1 3 _ rfl).2 (As := []) (rest := [.long 0, .long site.toInt64, .ref o]) ⟨hx, hb, hml, hown, hts⟩ (rj_size l dC dI kA eD b g (pF g o 5) (by omega)) (va_cwF 0 hts gX6_isNoPlace_Jx4a65c_size_8abf5_f130Jx4a65c rfl rfl rfl hE.2.1.1 (by decide +kernel) ⟨Nat.le_of_ble_eq_true rfl, Nat.le_of_ble_eq_true rfl⟩) ⟨fb_CX, va_recv hK hP (ci := 3) (q0 := 0) rfl rfl, fun U hU hW => ⟨rfl, CX.give hb0 hM hK hG hE hS hU hW⟩⟩ rfl rfl hl.1 rfl (lv_room (Nat.le_of_ble_eq_true rfl)) dX6_isNoPlace_8 ⟨(Nat.le_of_ble_eq_true rfl), (Nat.le_of_ble_eq_true rfl)⟩) hS (fun q _ h => h) (fun q h => h) (fun r4 u t H locs ht hvm hw5 hB hz1 hk1 hS => ?_)
  have hM := hB.back ht
  have hG := hB.2.2.2.1
  obtain rfl : r4 = (pI g (pF g o 5) 0) := hw5
  have hsz6 := hf.1
  refine lv_iconst (v := 1) hx hb dX6_isNoPlace_13 (by decide) ?_
  refine lv_isub hx hb dX6_isNoPlace_14 ?_
  refine lv_topi (fun v7 e8 => ?_)
  have hm1 : (v7 : Int32).toInt = (pI g (pF g o 5) 0).toInt - 1 := by rw [e8]; exact m1_3 hls
  refine lv_i2l hx hb dX6_isNoPlace_15 rfl ?_
  refine va_calli (va_runS (As := [.long site.toInt64, .long 0, .long v7.toInt64]) (rest := [.ref o]) ⟨hx, hb, hml, hown, hts⟩ (rm_isBetween l site.toInt64 0 v7.toInt64 ((site : Int32).toInt) (0) ((v7 : Int32).toInt) (Int32.toInt_toInt64 _) (by decide) (Int32.toInt_toInt64 _)) (va_cwS 3 hts gX6_isNoPlace_X6_isBetween rfl rfl rfl (by decide +kernel) ⟨Nat.le_of_ble_eq_true rfl, Nat.le_of_ble_eq_true rfl⟩) ⟨fun a U g mk q => q, fun U hU hW => ⟨rfl, trivial⟩⟩ rfl rfl hl.1 rfl (lv_room (Nat.le_of_ble_eq_true rfl)) dX6_isNoPlace_16 ⟨(Nat.le_of_ble_eq_true rfl), (Nat.le_of_ble_eq_true rfl)⟩) hS (fun q _ h => h.elim) (fun q h => h.elim) (fun r9 u t H locs ht hvm hw10 hB hz1 hk1 hS => ?_)
  have hM := hM.keep (fun p hp => hk1 p hp (fun z => z))
  have hw10 : r9 = bI ((0 : Int) ≤ (site : Int32).toInt ∧ (site : Int32).toInt ≤ (v7 : Int32).toInt) := hw10
  refine lv_if_eq (tgt := 50) hx hb dX6_isNoPlace_19 (by decide) (fun c11 => ?_) (fun c11 => ?_)
  · skip
    have g12 : ¬ ((0 : Int) ≤ (site : Int32).toInt ∧ (site : Int32).toInt ≤ (v7 : Int32).toInt) := bI_f hw10 c11
    have zg12 : r9 = 0 := bI_f0 hw10 g12
    refine lv_iconst (v := 1) hx hb dX6_isNoPlace_50 (by decide) ?_
    obtain ⟨u13, u14, hP, hf⟩ := o_mo (i := 0) (q := o) hM (by omega)
    refine va_calli (va_runV (As := [.int 1]) (rest := []) ⟨hx, hb, hml, hown, hts⟩ (rm_isWrong l dC dI kA eD b g o 1 (by omega)) (cwV 1 hts gX6_isNoPlace_X6_isWrong rfl rfl rfl (by decide +kernel) ⟨Nat.le_of_ble_eq_true rfl, Nat.le_of_ble_eq_true rfl⟩) ⟨fb_CX, va_recv hK hP (ci := 10) (q0 := 0) rfl rfl, fun U hU hW => ⟨rfl, CX.give hb0 hM hK hG hE hS hU hW⟩⟩ rfl rfl hl.1 rfl (lv_room (Nat.le_of_ble_eq_true rfl)) dX6_isNoPlace_51 ⟨(Nat.le_of_ble_eq_true rfl), (Nat.le_of_ble_eq_true rfl)⟩) hS (fun q _ h => h) (fun q h => h) (fun r15 g17 t H locs ht hvm hw16 hB hz1 hk1 hS => ?_)
    have hM := hB.back ht
    have hG := hB.2.2.2.1
    have hx18 : Ext o X0 g g17 := hw16.1
    have ht19 : tg g17 o = 17 := hx18.tk hto (by omega)
    have ht20 : tg g17 (pF g o 5) = 26 := hx18.tk ht3 (by omega)
    obtain rfl : r15 = 1 := hw16.2.2.trans (by decide)
    have hth21 : pI g17 o 2 = 1 := by rw [hw16.2.1]; exact sI_at
    have hsu : (pI g17 (pF g17 o 5) 0).toInt = (pI g (pF g o 5) 0).toInt := by rw [hw16.2.1]; exact congrArg Int32.toInt (sI_ne (Or.inl (fun e9 => by have e8 : pF g o 5 = o := e9; rw [e8] at hfm; omega)))
    refine W.widen (k := 0) (n := 0) (Nat.le_of_ble_eq_true rfl) (Nat.le_of_ble_eq_true rfl) ?_
    exact W.zret (v := 1) (ty := .boolean) hx hb hr rfl (fun t ht hW => ⟨⟨1, g17, rfl, ⟨hx18, hth21, Or.inr ⟨rfl, by rw [hsu]; omega⟩⟩, CX.give hb0 hM hK hG hE hS ht hW⟩, hS.F ht⟩) hS.2.2 dX6_isNoPlace_54
  · skip
    have g22 : (0 : Int) ≤ (site : Int32).toInt ∧ (site : Int32).toInt ≤ (v7 : Int32).toInt := bI_t hw10 c11
    have zg22 : r9 = 1 := bI_t1 hw10 g22
    refine lv_iload_n hx hb dX6_isNoPlace_22 rfl (lv_at hl 2 rfl) ?_
    refine lv_i2l hx hb dX6_isNoPlace_23 rfl ?_
    refine lv_lconst (v := 0) hx hb dX6_isNoPlace_24 (by decide) ?_
    refine lv_ldc2 hx hb hown (hts (.constantLong RX6 141 7) (by decide +kernel)) dX6_isNoPlace_25 ?_
    refine va_calli (va_runS (As := [.long x.toInt64, .long 0, .long 7]) (rest := [.ref o]) ⟨hx, hb, hml, hown, hts⟩ (rm_isBetween l x.toInt64 0 7 ((x : Int32).toInt) (0) (7) (Int32.toInt_toInt64 _) (by decide) (by decide)) (va_cwS 3 hts gX6_isNoPlace_X6_isBetween rfl rfl rfl (by decide +kernel) ⟨Nat.le_of_ble_eq_true rfl, Nat.le_of_ble_eq_true rfl⟩) ⟨fun a U g mk q => q, fun U hU hW => ⟨rfl, trivial⟩⟩ rfl rfl hl.1 rfl (lv_room (Nat.le_of_ble_eq_true rfl)) dX6_isNoPlace_28 ⟨(Nat.le_of_ble_eq_true rfl), (Nat.le_of_ble_eq_true rfl)⟩) hS (fun q _ h => h.elim) (fun q h => h.elim) (fun r23 u t H locs ht hvm hw24 hB hz1 hk1 hS => ?_)
    have hM := hM.keep (fun p hp => hk1 p hp (fun z => z))
    have hw24 : r23 = bI ((0 : Int) ≤ (x : Int32).toInt ∧ (x : Int32).toInt ≤ (7 : Int)) := hw24
    refine lv_if_eq (tgt := 50) hx hb dX6_isNoPlace_31 (by decide) (fun c25 => ?_) (fun c25 => ?_)
    · skip
      have g26 : ¬ ((0 : Int) ≤ (x : Int32).toInt ∧ (x : Int32).toInt ≤ (7 : Int)) := bI_f hw24 c25
      have zg26 : r23 = 0 := bI_f0 hw24 g26
      refine lv_iconst (v := 1) hx hb dX6_isNoPlace_50 (by decide) ?_
      obtain ⟨u27, u28, hP, hf⟩ := o_mo (i := 0) (q := o) hM (by omega)
      refine va_calli (va_runV (As := [.int 1]) (rest := []) ⟨hx, hb, hml, hown, hts⟩ (rm_isWrong l dC dI kA eD b g o 1 (by omega)) (cwV 1 hts gX6_isNoPlace_X6_isWrong rfl rfl rfl (by decide +kernel) ⟨Nat.le_of_ble_eq_true rfl, Nat.le_of_ble_eq_true rfl⟩) ⟨fb_CX, va_recv hK hP (ci := 10) (q0 := 0) rfl rfl, fun U hU hW => ⟨rfl, CX.give hb0 hM hK hG hE hS hU hW⟩⟩ rfl rfl hl.1 rfl (lv_room (Nat.le_of_ble_eq_true rfl)) dX6_isNoPlace_51 ⟨(Nat.le_of_ble_eq_true rfl), (Nat.le_of_ble_eq_true rfl)⟩) hS (fun q _ h => h) (fun q h => h) (fun r29 g31 t H locs ht hvm hw30 hB hz1 hk1 hS => ?_)
      have hM := hB.back ht
      have hG := hB.2.2.2.1
      have hx32 : Ext o X0 g g31 := hw30.1
      have ht33 : tg g31 o = 17 := hx32.tk hto (by omega)
      have ht34 : tg g31 (pF g o 5) = 26 := hx32.tk ht3 (by omega)
      obtain rfl : r29 = 1 := hw30.2.2.trans (by decide)
      have hth35 : pI g31 o 2 = 1 := by rw [hw30.2.1]; exact sI_at
      have hsu : (pI g31 (pF g31 o 5) 0).toInt = (pI g (pF g o 5) 0).toInt := by rw [hw30.2.1]; exact congrArg Int32.toInt (sI_ne (Or.inl (fun e9 => by have e8 : pF g o 5 = o := e9; rw [e8] at hfm; omega)))
      refine W.widen (k := 0) (n := 0) (Nat.le_of_ble_eq_true rfl) (Nat.le_of_ble_eq_true rfl) ?_
      exact W.zret (v := 1) (ty := .boolean) hx hb hr rfl (fun t ht hW => ⟨⟨1, g31, rfl, ⟨hx32, hth35, Or.inr ⟨rfl, by rw [hsu]; omega⟩⟩, CX.give hb0 hM hK hG hE hS ht hW⟩, hS.F ht⟩) hS.2.2 dX6_isNoPlace_54
    · skip
      have g36 : (0 : Int) ≤ (x : Int32).toInt ∧ (x : Int32).toInt ≤ (7 : Int) := bI_t hw24 c25
      have zg36 : r23 = 1 := bI_t1 hw24 g36
      refine lv_iload_n hx hb dX6_isNoPlace_34 rfl (lv_at hl 3 rfl) ?_
      refine lv_i2l hx hb dX6_isNoPlace_35 rfl ?_
      refine lv_lconst (v := 0) hx hb dX6_isNoPlace_36 (by decide) ?_
      refine lv_ldc2 hx hb hown (hts (.constantLong RX6 143 5) (by decide +kernel)) dX6_isNoPlace_37 ?_
      refine va_calli (va_runS (As := [.long y.toInt64, .long 0, .long 5]) (rest := [.ref o]) ⟨hx, hb, hml, hown, hts⟩ (rm_isBetween l y.toInt64 0 5 ((y : Int32).toInt) (0) (5) (Int32.toInt_toInt64 _) (by decide) (by decide)) (va_cwS 3 hts gX6_isNoPlace_X6_isBetween rfl rfl rfl (by decide +kernel) ⟨Nat.le_of_ble_eq_true rfl, Nat.le_of_ble_eq_true rfl⟩) ⟨fun a U g mk q => q, fun U hU hW => ⟨rfl, trivial⟩⟩ rfl rfl hl.1 rfl (lv_room (Nat.le_of_ble_eq_true rfl)) dX6_isNoPlace_40 ⟨(Nat.le_of_ble_eq_true rfl), (Nat.le_of_ble_eq_true rfl)⟩) hS (fun q _ h => h.elim) (fun q h => h.elim) (fun r37 u t H locs ht hvm hw38 hB hz1 hk1 hS => ?_)
      have hM := hM.keep (fun p hp => hk1 p hp (fun z => z))
      have hw38 : r37 = bI ((0 : Int) ≤ (y : Int32).toInt ∧ (y : Int32).toInt ≤ (5 : Int)) := hw38
      refine lv_if_eq (tgt := 50) hx hb dX6_isNoPlace_43 (by decide) (fun c39 => ?_) (fun c39 => ?_)
      · skip
        have g40 : ¬ ((0 : Int) ≤ (y : Int32).toInt ∧ (y : Int32).toInt ≤ (5 : Int)) := bI_f hw38 c39
        have zg40 : r37 = 0 := bI_f0 hw38 g40
        refine lv_iconst (v := 1) hx hb dX6_isNoPlace_50 (by decide) ?_
        obtain ⟨u41, u42, hP, hf⟩ := o_mo (i := 0) (q := o) hM (by omega)
        refine va_calli (va_runV (As := [.int 1]) (rest := []) ⟨hx, hb, hml, hown, hts⟩ (rm_isWrong l dC dI kA eD b g o 1 (by omega)) (cwV 1 hts gX6_isNoPlace_X6_isWrong rfl rfl rfl (by decide +kernel) ⟨Nat.le_of_ble_eq_true rfl, Nat.le_of_ble_eq_true rfl⟩) ⟨fb_CX, va_recv hK hP (ci := 10) (q0 := 0) rfl rfl, fun U hU hW => ⟨rfl, CX.give hb0 hM hK hG hE hS hU hW⟩⟩ rfl rfl hl.1 rfl (lv_room (Nat.le_of_ble_eq_true rfl)) dX6_isNoPlace_51 ⟨(Nat.le_of_ble_eq_true rfl), (Nat.le_of_ble_eq_true rfl)⟩) hS (fun q _ h => h) (fun q h => h) (fun r43 g45 t H locs ht hvm hw44 hB hz1 hk1 hS => ?_)
        have hM := hB.back ht
        have hG := hB.2.2.2.1
        have hx46 : Ext o X0 g g45 := hw44.1
        have ht47 : tg g45 o = 17 := hx46.tk hto (by omega)
        have ht48 : tg g45 (pF g o 5) = 26 := hx46.tk ht3 (by omega)
        obtain rfl : r43 = 1 := hw44.2.2.trans (by decide)
        have hth49 : pI g45 o 2 = 1 := by rw [hw44.2.1]; exact sI_at
        have hsu : (pI g45 (pF g45 o 5) 0).toInt = (pI g (pF g o 5) 0).toInt := by rw [hw44.2.1]; exact congrArg Int32.toInt (sI_ne (Or.inl (fun e9 => by have e8 : pF g o 5 = o := e9; rw [e8] at hfm; omega)))
        refine W.widen (k := 0) (n := 0) (Nat.le_of_ble_eq_true rfl) (Nat.le_of_ble_eq_true rfl) ?_
        exact W.zret (v := 1) (ty := .boolean) hx hb hr rfl (fun t ht hW => ⟨⟨1, g45, rfl, ⟨hx46, hth49, Or.inr ⟨rfl, by rw [hsu]; omega⟩⟩, CX.give hb0 hM hK hG hE hS ht hW⟩, hS.F ht⟩) hS.2.2 dX6_isNoPlace_54
      · skip
        have g50 : (0 : Int) ≤ (y : Int32).toInt ∧ (y : Int32).toInt ≤ (5 : Int) := bI_t hw38 c39
        have zg50 : r37 = 1 := bI_t1 hw38 g50
        refine lv_iconst (v := 0) hx hb dX6_isNoPlace_46 (by decide) ?_
        refine lv_goto (tgt := 51) hx hb dX6_isNoPlace_47 (by decide) ?_
        obtain ⟨u51, u52, hP, hf⟩ := o_mo (i := 0) (q := o) hM (by omega)
        refine va_calli (va_runV (As := [.int 0]) (rest := []) ⟨hx, hb, hml, hown, hts⟩ (rm_isWrong l dC dI kA eD b g o 0 (by omega)) (cwV 1 hts gX6_isNoPlace_X6_isWrong rfl rfl rfl (by decide +kernel) ⟨Nat.le_of_ble_eq_true rfl, Nat.le_of_ble_eq_true rfl⟩) ⟨fb_CX, va_recv hK hP (ci := 10) (q0 := 0) rfl rfl, fun U hU hW => ⟨rfl, CX.give hb0 hM hK hG hE hS hU hW⟩⟩ rfl rfl hl.1 rfl (lv_room (Nat.le_of_ble_eq_true rfl)) dX6_isNoPlace_51 ⟨(Nat.le_of_ble_eq_true rfl), (Nat.le_of_ble_eq_true rfl)⟩) hS (fun q _ h => h) (fun q h => h) (fun r53 g55 t H locs ht hvm hw54 hB hz1 hk1 hS => ?_)
        have hM := hB.back ht
        have hG := hB.2.2.2.1
        have hx56 : Ext o X0 g g55 := hw54.1
        have ht57 : tg g55 o = 17 := hx56.tk hto (by omega)
        have ht58 : tg g55 (pF g o 5) = 26 := hx56.tk ht3 (by omega)
        obtain rfl : r53 = 0 := hw54.2.2.trans (by decide)
        have hth59 : pI g55 o 2 = 0 := by rw [hw54.2.1]; exact sI_at
        have hsu : (pI g55 (pF g55 o 5) 0).toInt = (pI g (pF g o 5) 0).toInt := by rw [hw54.2.1]; exact congrArg Int32.toInt (sI_ne (Or.inl (fun e9 => by have e8 : pF g o 5 = o := e9; rw [e8] at hfm; omega)))
        refine W.widen (k := 0) (n := 0) (Nat.le_of_ble_eq_true rfl) (Nat.le_of_ble_eq_true rfl) ?_
        exact W.zret (v := 0) (ty := .boolean) hx hb hr rfl (fun t ht hW => ⟨⟨0, g55, rfl, ⟨hx56, hth59, Or.inl ⟨rfl, by rw [hsu]; omega⟩⟩, CX.give hb0 hM hK hG hE hS ht hW⟩, hS.F ht⟩) hS.2.2 dX6_isNoPlace_54

set_option maxHeartbeats 4000000 in
set_option maxRecDepth 100000 in
theorem rm_isNoField (l : Launch) (dC : Nat → ClassId) (dI : Nat → Nat → Nat) (kA : Nat → ClassId) (eD b : Nat) (g : Gh) (o : Nat) (fi : Int32) (hto : tg g o = 17)  : Met l yX6_isNoField wsX6_isNoField ({ frames := 1, cells := 0, slots := 0, locals := 25 }) (va_Pc [.ref o, .int fi] (CX (dC, dI) kA eD b g)) (va_Qi (fun (r : Int32) (u : Gh) => Ext o X0 g u ∧ pI u o 2 = r ∧ ((r = 0 ∧ (0 ≤ fi.toInt ∧ fi.toInt ≤ 3)) ∨ (r = 1 ∧ ¬ (0 ≤ fi.toInt ∧ fi.toInt ≤ 3)))) (fun (u : Gh) t => CX (dC, dI) kA eD b u t) (fun q => b ≤ q)) 0 0 (fun q => b ≤ q) := by
  refine Met.ofW (cc := cX6_isNoField) (maxL := 2) (ret := (some .boolean)) (by decide +kernel) rfl ?_
  intro p e s m args below meth c s₁ B hml hv
  obtain ⟨rfl, hb0, hM, hK, hG, hE⟩ := hv
  have hx := B.exec
  have hb := B.bytes
  have hr := B.returns
  have hts := atoms_spec (ws := wsX6_isNoField) B.pre
  have hown : s.vm.findClass RX6 = some m.cls := findClass_of_methodNamed B.named
  have hlocks := B.notSynchronized
  have hT := hE.1
  have hN := hE.2.2.2.2.2.2.2.1
  have hS : va_S (fun q => b ≤ q) s.heap s.heap [] := va_S.rf
  have hl := lv_entry ([.ref o, .int fi]) (n := 2) (Nat.le_of_ble_eq_true rfl)
  rw [lg_entry_eq]
  generalize (lg_sl ([.ref o, .int fi]) ++ List.replicate (2 - (lg_sl ([.ref o, .int fi])).length) Slot.unset).toArray = ls at hl ⊢
  have hl : lv_has ls 2 [(0, .ref o), (1, .int fi)] := hl
  generalize ([.ref o, .int fi] : List Value).toArray = args at hts ⊢
  have hfm := (mo_list hM hto).1
  have hls := (mo_list hM hto).2
  refine lv_aload_n hx hb dX6_isNoField_0 rfl (lv_at hl 0 rfl) ?_
  refine lv_iload_n hx hb dX6_isNoField_1 rfl (lv_at hl 1 rfl) ?_
  refine lv_i2l hx hb dX6_isNoField_2 rfl ?_
  refine lv_lconst (v := 0) hx hb dX6_isNoField_3 (by decide) ?_
  refine lv_ldc2 hx hb hown (hts (.constantLong RX6 92 3) (by decide +kernel)) dX6_isNoField_4 ?_
  refine va_calli (va_runS (As := [.long fi.toInt64, .long 0, .long 3]) (rest := [.ref o]) ⟨hx, hb, hml, hown, hts⟩ (rm_isBetween l fi.toInt64 0 3 ((fi : Int32).toInt) (0) (3) (Int32.toInt_toInt64 _) (by decide) (by decide)) (va_cwS 3 hts gX6_isNoField_X6_isBetween rfl rfl rfl (by decide +kernel) ⟨Nat.le_of_ble_eq_true rfl, Nat.le_of_ble_eq_true rfl⟩) ⟨fun a U g mk q => q, fun U hU hW => ⟨rfl, trivial⟩⟩ rfl rfl hl.1 rfl (lv_room (Nat.le_of_ble_eq_true rfl)) dX6_isNoField_7 ⟨(Nat.le_of_ble_eq_true rfl), (Nat.le_of_ble_eq_true rfl)⟩) hS (fun q _ h => h.elim) (fun q h => h.elim) (fun r1 u t H locs ht hvm hw2 hB hz1 hk1 hS => ?_)
  have hM := hM.keep (fun p hp => hk1 p hp (fun z => z))
  have hw2 : r1 = bI ((0 : Int) ≤ (fi : Int32).toInt ∧ (fi : Int32).toInt ≤ (3 : Int)) := hw2
  refine lv_if_eq (tgt := 17) hx hb dX6_isNoField_10 (by decide) (fun c3 => ?_) (fun c3 => ?_)
  · skip
    have g4 : ¬ ((0 : Int) ≤ (fi : Int32).toInt ∧ (fi : Int32).toInt ≤ (3 : Int)) := bI_f hw2 c3
    have zg4 : r1 = 0 := bI_f0 hw2 g4
    refine lv_iconst (v := 1) hx hb dX6_isNoField_17 (by decide) ?_
    obtain ⟨u5, u6, hP, hf⟩ := o_mo (i := 0) (q := o) hM (by omega)
    refine va_calli (va_runV (As := [.int 1]) (rest := []) ⟨hx, hb, hml, hown, hts⟩ (rm_isWrong l dC dI kA eD b g o 1 (by omega)) (cwV 1 hts gX6_isNoField_X6_isWrong rfl rfl rfl (by decide +kernel) ⟨Nat.le_of_ble_eq_true rfl, Nat.le_of_ble_eq_true rfl⟩) ⟨fb_CX, va_recv hK hP (ci := 10) (q0 := 0) rfl rfl, fun U hU hW => ⟨rfl, CX.give hb0 hM hK hG hE hS hU hW⟩⟩ rfl rfl hl.1 rfl (lv_room (Nat.le_of_ble_eq_true rfl)) dX6_isNoField_18 ⟨(Nat.le_of_ble_eq_true rfl), (Nat.le_of_ble_eq_true rfl)⟩) hS (fun q _ h => h) (fun q h => h) (fun r7 g9 t H locs ht hvm hw8 hB hz1 hk1 hS => ?_)
    have hM := hB.back ht
    have hG := hB.2.2.2.1
    have hx10 : Ext o X0 g g9 := hw8.1
    have ht11 : tg g9 o = 17 := hx10.tk hto (by omega)
    obtain rfl : r7 = 1 := hw8.2.2.trans (by decide)
    have hth12 : pI g9 o 2 = 1 := by rw [hw8.2.1]; exact sI_at
    refine W.widen (k := 0) (n := 0) (Nat.le_of_ble_eq_true rfl) (Nat.le_of_ble_eq_true rfl) ?_
    exact W.zret (v := 1) (ty := .boolean) hx hb hr rfl (fun t ht hW => ⟨⟨1, g9, rfl, ⟨hx10, hth12, Or.inr ⟨rfl, by omega⟩⟩, CX.give hb0 hM hK hG hE hS ht hW⟩, hS.F ht⟩) hS.2.2 dX6_isNoField_21
  · skip
    have g13 : (0 : Int) ≤ (fi : Int32).toInt ∧ (fi : Int32).toInt ≤ (3 : Int) := bI_t hw2 c3
    have zg13 : r1 = 1 := bI_t1 hw2 g13
    refine lv_iconst (v := 0) hx hb dX6_isNoField_13 (by decide) ?_
    refine lv_goto (tgt := 18) hx hb dX6_isNoField_14 (by decide) ?_
    obtain ⟨u14, u15, hP, hf⟩ := o_mo (i := 0) (q := o) hM (by omega)
    refine va_calli (va_runV (As := [.int 0]) (rest := []) ⟨hx, hb, hml, hown, hts⟩ (rm_isWrong l dC dI kA eD b g o 0 (by omega)) (cwV 1 hts gX6_isNoField_X6_isWrong rfl rfl rfl (by decide +kernel) ⟨Nat.le_of_ble_eq_true rfl, Nat.le_of_ble_eq_true rfl⟩) ⟨fb_CX, va_recv hK hP (ci := 10) (q0 := 0) rfl rfl, fun U hU hW => ⟨rfl, CX.give hb0 hM hK hG hE hS hU hW⟩⟩ rfl rfl hl.1 rfl (lv_room (Nat.le_of_ble_eq_true rfl)) dX6_isNoField_18 ⟨(Nat.le_of_ble_eq_true rfl), (Nat.le_of_ble_eq_true rfl)⟩) hS (fun q _ h => h) (fun q h => h) (fun r16 g18 t H locs ht hvm hw17 hB hz1 hk1 hS => ?_)
    have hM := hB.back ht
    have hG := hB.2.2.2.1
    have hx19 : Ext o X0 g g18 := hw17.1
    have ht20 : tg g18 o = 17 := hx19.tk hto (by omega)
    obtain rfl : r16 = 0 := hw17.2.2.trans (by decide)
    have hth21 : pI g18 o 2 = 0 := by rw [hw17.2.1]; exact sI_at
    refine W.widen (k := 0) (n := 0) (Nat.le_of_ble_eq_true rfl) (Nat.le_of_ble_eq_true rfl) ?_
    exact W.zret (v := 0) (ty := .boolean) hx hb hr rfl (fun t ht hW => ⟨⟨0, g18, rfl, ⟨hx19, hth21, Or.inl ⟨rfl, by omega⟩⟩, CX.give hb0 hM hK hG hE hS ht hW⟩, hS.F ht⟩) hS.2.2 dX6_isNoField_21

set_option maxHeartbeats 4000000 in
set_option maxRecDepth 100000 in
theorem rm_isNoCell (l : Launch) (dC : Nat → ClassId) (dI : Nat → Nat → Nat) (kA : Nat → ClassId) (eD b : Nat) (g : Gh) (o : Nat) (site x y : Int32) (hto : tg g o = 17)  : Met l yX6_isNoCell wsX6_isNoCell ({ frames := 3, cells := 0, slots := 0, locals := 64 }) (va_Pc [.ref o, .int site, .int x, .int y] (CX (dC, dI) kA eD b g)) (va_Qi (fun (r : Int32) (u : Gh) => Ext o X0 g u ∧ ((r = 0 ∧ ∃ j a jx jy cl, site = nI j ∧ x = nI jx ∧ y = nI jy ∧ jx < 8 ∧ jy < 6 ∧ (j : Int) < (pI u (pF u o 5) 0).toInt ∧ tg u a = 28 + 64 * j ∧ pO u (pF u (pF u o 5) 0) j = some a ∧ pO u (pF u (pF u a 0) jy) jx = some cl) ∨ r = 1)) (fun (u : Gh) t => CX (dC, dI) kA eD b u t) (fun q => b ≤ q)) 0 0 (fun q => b ≤ q) := by
  refine Met.ofW (cc := cX6_isNoCell) (maxL := 4) (ret := (some .boolean)) (by decide +kernel) rfl ?_
  intro p e s m args below meth c s₁ B hml hv
  obtain ⟨rfl, hb0, hM, hK, hG, hE⟩ := hv
  have hx := B.exec
  have hb := B.bytes
  have hr := B.returns
  have hts := atoms_spec (ws := wsX6_isNoCell) B.pre
  have hown : s.vm.findClass RX6 = some m.cls := findClass_of_methodNamed B.named
  have hlocks := B.notSynchronized
  have hT := hE.1
  have hN := hE.2.2.2.2.2.2.2.1
  have hS : va_S (fun q => b ≤ q) s.heap s.heap [] := va_S.rf
  have hl := lv_entry ([.ref o, .int site, .int x, .int y]) (n := 4) (Nat.le_of_ble_eq_true rfl)
  rw [lg_entry_eq]
  generalize (lg_sl ([.ref o, .int site, .int x, .int y]) ++ List.replicate (4 - (lg_sl ([.ref o, .int site, .int x, .int y])).length) Slot.unset).toArray = ls at hl ⊢
  have hl : lv_has ls 4 [(0, .ref o), (1, .int site), (2, .int x), (3, .int y)] := hl
  generalize ([.ref o, .int site, .int x, .int y] : List Value).toArray = args at hts ⊢
  refine lv_aload_n hx hb dX6_isNoCell_0 rfl (lv_at hl 0 rfl) ?_
  refine lv_iload_n hx hb dX6_isNoCell_1 rfl (lv_at hl 1 rfl) ?_
  refine lv_iload_n hx hb dX6_isNoCell_2 rfl (lv_at hl 2 rfl) ?_
  refine lv_iload_n hx hb dX6_isNoCell_3 rfl (lv_at hl 3 rfl) ?_
  obtain ⟨u1, u2, hP, hf⟩ := o_mo (i := 0) (q := o) hM (by omega)
  refine va_calli (va_runV (As := [.int site, .int x, .int y]) (rest := []) ⟨hx, hb, hml, hown, hts⟩ (rm_isNoPlace l dC dI kA eD b g o site x y (by omega)) (cwV 3 hts gX6_isNoCell_X6_isNoPlace rfl rfl rfl (by decide +kernel) ⟨Nat.le_of_ble_eq_true rfl, Nat.le_of_ble_eq_true rfl⟩) ⟨fb_CX, va_recv hK hP (ci := 10) (q0 := 0) rfl rfl, fun U hU hW => ⟨rfl, CX.give hb0 hM hK hG hE hS hU hW⟩⟩ rfl rfl hl.1 rfl (lv_room (Nat.le_of_ble_eq_true rfl)) dX6_isNoCell_4 ⟨(Nat.le_of_ble_eq_true rfl), (Nat.le_of_ble_eq_true rfl)⟩) hS (fun q _ h => h) (fun q h => h) (fun r3 g5 t H locs ht hvm hw4 hB hz1 hk1 hS => ?_)
  have hM := hB.back ht
  have hG := hB.2.2.2.1
  have hx6 : Ext o X0 g g5 := hw4.1
  have ht7 : tg g5 o = 17 := hx6.tk hto (by omega)
  have hth8 := hw4.2.1
  refine lv_if_ne (tgt := 43) hx hb dX6_isNoCell_7 (by decide) (fun c9 => ?_) (fun c9 => ?_)
  · skip
    have hv10 := vr1 (vr01 hw4.2.2) c9
    refine lv_iconst (v := 1) hx hb dX6_isNoCell_43 (by decide) ?_
    refine lv_goto (tgt := 48) hx hb dX6_isNoCell_44 (by decide) ?_
    refine W.widen (k := 0) (n := 0) (Nat.le_of_ble_eq_true rfl) (Nat.le_of_ble_eq_true rfl) ?_
    exact W.zret (v := 1) (ty := .boolean) hx hb hr rfl (fun t ht hW => ⟨⟨1, g5, rfl, ⟨hx6, Or.inr rfl⟩, CX.give hb0 hM hK hG hE hS ht hW⟩, hS.F ht⟩) hS.2.2 dX6_isNoCell_48
  · skip
    have hv11 := vr0 (vr01 hw4.2.2) c9
    have hfm := (mo_list hM ht7).1
    have hls := (mo_list hM ht7).2
    obtain ⟨j, hj, rfl⟩ := toN (p := site) (k := 2) (by omega) (by omega) (by decide)
    have hl : lv_has ls 4 [(0, .ref o), (1, .int (nI j)), (2, .int x), (3, .int y)] := hl
    have ej : (nI j).toInt = (j : Int) := nI_toInt (by omega)
    obtain ⟨jx, hjx, rfl⟩ := toN (p := x) (k := 7) (by omega) (by omega) (by decide)
    have hl : lv_has ls 4 [(0, .ref o), (1, .int (nI j)), (2, .int (nI jx)), (3, .int y)] := hl
    have ejx : (nI jx).toInt = (jx : Int) := nI_toInt (by omega)
    obtain ⟨jy, hjy, rfl⟩ := toN (p := y) (k := 5) (by omega) (by omega) (by decide)
    have hl : lv_has ls 4 [(0, .ref o), (1, .int (nI j)), (2, .int (nI jx)), (3, .int (nI jy))] := hl
    have ejy : (nI jy).toInt = (jy : Int) := nI_toInt (by omega)
    have hjs : (j : Int) < (pI g5 (pF g5 o 5) 0).toInt := by omega
    refine lv_aload_n hx hb dX6_isNoCell_10 rfl (lv_at hl 0 rfl) ?_
    refine lv_aload_n hx hb dX6_isNoCell_11 rfl (lv_at hl 0 rfl) ?_
    obtain ⟨u12, u13, hP, hf⟩ := o_mo (i := 0) (q := o) hM (by omega)
    refine va_get (D := (dC, dI)) (ci := 10) (v := .ref (pF g5 o 5)) (C := RX6) (T := TX6) (N := 11) hx hb hts (by decide +kernel) hown hK hP 0 rfl rfl 10 (by decide) (hts (.fieldLink RX6 34 "SnowpalaceModel" "sites" "Ljava/util/List;") (by decide +kernel)) (fun _ h9 => h9) rfl dX6_isNoCell_12 ?_
    refine lv_iload_n hx hb dX6_isNoCell_15 rfl (lv_at hl 1 rfl) ?_
    obtain ⟨hP, hf⟩ := o_al (i := 0) (q := (pF g5 o 5)) hM (by omega)
    refine va_callFr (va_runF (hK.1 3 _ rfl).2 (As := [.int (nI j)]) (rest := [.ref o]) ⟨hx, hb, hml, hown, hts⟩ (rj_get l dC dI kA eD b g5 (pF g5 o 5) j (by omega) hjs) (va_cwF 1 hts gX6_isNoCell_Jx4a65c_get_915e3_f149Jx4a65c rfl rfl rfl hE.2.2.2.2.1 (by decide +kernel) ⟨Nat.le_of_ble_eq_true rfl, Nat.le_of_ble_eq_true rfl⟩) ⟨fb_CX, va_recv hK hP (ci := 3) (q0 := 0) rfl rfl, fun U hU hW => ⟨rfl, CX.give hb0 hM hK hG hE hS hU hW⟩⟩ rfl rfl hl.1 rfl (lv_room (Nat.le_of_ble_eq_true rfl)) dX6_isNoCell_16 ⟨(Nat.le_of_ble_eq_true rfl), (Nat.le_of_ble_eq_true rfl)⟩) hS (fun q _ h => h) (fun q h => h) (fun u r14 t H locs ht hvm hw15 hB hz1 hk1 hS => ?_)
    have hM := hB.1.back ht
    have hG := hB.1.2.2.2.1
    have ht16 : tg g5 r14 = 28 + 64 * j := hB.2.1
    have hg17 : pO g5 (pF g5 (pF g5 o 5) 0) j = some r14 := hB.2.2
    obtain ⟨u18, u19, u20, u21, u22, u23, hP, hf⟩ := o_ms (i := j) (q := r14) hM (by omega)
    refine va_castY hx hb hown (hts (.classLink RX6 125 "SnowpalaceModel$Site") (by decide +kernel)) hE.2.2.2.2.2.2.1 (va_recv hK hP (ci := 9) (q0 := 0) rfl rfl) dX6_isNoCell_21 ?_
    refine lv_iload_n hx hb dX6_isNoCell_24 rfl (lv_at hl 2 rfl) ?_
    refine lv_iload_n hx hb dX6_isNoCell_25 rfl (lv_at hl 3 rfl) ?_
    obtain ⟨u24, u25, u26, u27, u28, u29, hP, hf⟩ := o_ms (i := j) (q := r14) hM (by omega)
    refine va_calli (va_runV (As := [.int (nI jx), .int (nI jy)]) (rest := [.ref o]) ⟨hx, hb, hml, hown, hts⟩ (rm_has l dC dI kA eD b g5 r14 j (nI jx) (nI jy) (by omega)) (cwV 2 hts gX6_isNoCell_X5_has rfl rfl rfl (by decide +kernel) ⟨Nat.le_of_ble_eq_true rfl, Nat.le_of_ble_eq_true rfl⟩) ⟨fb_CX, va_recv hK hP (ci := 9) (q0 := 0) rfl rfl, fun U hU hW => ⟨rfl, CX.give hb0 hM hK hG hE hS hU hW⟩⟩ rfl rfl hl.1 rfl (lv_room (Nat.le_of_ble_eq_true rfl)) dX6_isNoCell_26 ⟨(Nat.le_of_ble_eq_true rfl), (Nat.le_of_ble_eq_true rfl)⟩) hS (fun q _ h => h) (fun q h => h) (fun r30 u t H locs ht hvm hw31 hB hz1 hk1 hS => ?_)
    have hM := hB.back ht
    have hG := hB.2.2.2.1
    refine lv_if_eq (tgt := 36) hx hb dX6_isNoCell_29 (by decide) (fun c32 => ?_) (fun c32 => ?_)
    · skip
      refine lv_iconst (v := 2) hx hb dX6_isNoCell_36 (by decide) ?_
      obtain ⟨u33, u34, hP, hf⟩ := o_mo (i := 0) (q := o) hM (by omega)
      refine va_calli (va_runV (As := [.int 2]) (rest := []) ⟨hx, hb, hml, hown, hts⟩ (rm_isWrong l dC dI kA eD b g5 o 2 (by omega)) (cwV 1 hts gX6_isNoCell_X6_isWrong rfl rfl rfl (by decide +kernel) ⟨Nat.le_of_ble_eq_true rfl, Nat.le_of_ble_eq_true rfl⟩) ⟨fb_CX, va_recv hK hP (ci := 10) (q0 := 0) rfl rfl, fun U hU hW => ⟨rfl, CX.give hb0 hM hK hG hE hS hU hW⟩⟩ rfl rfl hl.1 rfl (lv_room (Nat.le_of_ble_eq_true rfl)) dX6_isNoCell_37 ⟨(Nat.le_of_ble_eq_true rfl), (Nat.le_of_ble_eq_true rfl)⟩) hS (fun q _ h => h) (fun q h => h) (fun r35 g37 t H locs ht hvm hw36 hB hz1 hk1 hS => ?_)
      have hM := hB.back ht
      have hG := hB.2.2.2.1
      have hx38 : Ext o X0 g5 g37 := hw36.1
      have ht39 : tg g37 o = 17 := hx38.tk ht7 (by omega)
      have ht40 : tg g37 (pF g5 o 5) = 26 := hx38.tk hfm (by omega)
      have ht41 : tg g37 r14 = 28 + 64 * j := hx38.tk ht16 (by omega)
      obtain rfl : r35 = 1 := hw36.2.2.trans (by decide)
      have hth42 : pI g37 o 2 = 2 := by rw [hw36.2.1]; exact sI_at
      refine lv_if_eq (tgt := 47) hx hb dX6_isNoCell_40 (by decide) (fun cx => by first | exact absurd cx (by decide) | exact absurd (by decide) cx) (fun _ => ?_)
      refine lv_iconst (v := 1) hx hb dX6_isNoCell_43 (by decide) ?_
      refine lv_goto (tgt := 48) hx hb dX6_isNoCell_44 (by decide) ?_
      refine W.widen (k := 0) (n := 0) (Nat.le_of_ble_eq_true rfl) (Nat.le_of_ble_eq_true rfl) ?_
      exact W.zret (v := 1) (ty := .boolean) hx hb hr rfl (fun t ht hW => ⟨⟨1, g37, rfl, ⟨(hx6.trans hx38), Or.inr rfl⟩, CX.give hb0 hM hK hG hE hS ht hW⟩, hS.F ht⟩) hS.2.2 dX6_isNoCell_48
    · skip
      obtain ⟨-, jx43, jy44, cl45, hp46, hp47, hj48, hj49, hc50⟩ := hw31.resolve_left c32
      have ej51 : jx43 = jx := ((nI_eq (a := jx) (b := jx43) (by omega) (by omega)).mp hp46).symm
      rw [ej51] at hc50
      have ej52 : jy44 = jy := ((nI_eq (a := jy) (b := jy44) (by omega) (by omega)).mp hp47).symm
      rw [ej52] at hc50
      refine lv_iconst (v := 0) hx hb dX6_isNoCell_32 (by decide) ?_
      refine lv_goto (tgt := 37) hx hb dX6_isNoCell_33 (by decide) ?_
      obtain ⟨u53, u54, hP, hf⟩ := o_mo (i := 0) (q := o) hM (by omega)
      refine va_calli (va_runV (As := [.int 0]) (rest := []) ⟨hx, hb, hml, hown, hts⟩ (rm_isWrong l dC dI kA eD b g5 o 0 (by omega)) (cwV 1 hts gX6_isNoCell_X6_isWrong rfl rfl rfl (by decide +kernel) ⟨Nat.le_of_ble_eq_true rfl, Nat.le_of_ble_eq_true rfl⟩) ⟨fb_CX, va_recv hK hP (ci := 10) (q0 := 0) rfl rfl, fun U hU hW => ⟨rfl, CX.give hb0 hM hK hG hE hS hU hW⟩⟩ rfl rfl hl.1 rfl (lv_room (Nat.le_of_ble_eq_true rfl)) dX6_isNoCell_37 ⟨(Nat.le_of_ble_eq_true rfl), (Nat.le_of_ble_eq_true rfl)⟩) hS (fun q _ h => h) (fun q h => h) (fun r55 g57 t H locs ht hvm hw56 hB hz1 hk1 hS => ?_)
      have hM := hB.back ht
      have hG := hB.2.2.2.1
      have hx58 : Ext o X0 g5 g57 := hw56.1
      have ht59 : tg g57 o = 17 := hx58.tk ht7 (by omega)
      have ht60 : tg g57 (pF g5 o 5) = 26 := hx58.tk hfm (by omega)
      have ht61 : tg g57 r14 = 28 + 64 * j := hx58.tk ht16 (by omega)
      obtain rfl : r55 = 0 := hw56.2.2.trans (by decide)
      have hth62 : pI g57 o 2 = 0 := by rw [hw56.2.1]; exact sI_at
      refine lv_if_eq (tgt := 47) hx hb dX6_isNoCell_40 (by decide) (fun _ => ?_) (fun cx => by first | exact absurd (by decide) cx | exact absurd cx (by decide))
      refine lv_iconst (v := 0) hx hb dX6_isNoCell_47 (by decide) ?_
      refine W.widen (k := 0) (n := 0) (Nat.le_of_ble_eq_true rfl) (Nat.le_of_ble_eq_true rfl) ?_
      exact W.zret (v := 0) (ty := .boolean) hx hb hr rfl (fun t ht hW => ⟨⟨0, g57, rfl, ⟨(hx6.trans hx58), Or.inl ⟨rfl, j, r14, jx, jy, cl45, rfl, rfl, rfl, by omega, by omega, by rw [hw56.2.1]; exact (congrArg (fun z => (j : Int) < z) (congrArg Int32.toInt (sI_ne (Or.inl (fun e9 => by have e8 : pF g5 o 5 = o := e9; rw [e8] at hfm; have h7 := ht7; omega))))).mpr hjs, ht61, by rw [hw56.2.1]; exact hg17, by rw [hw56.2.1]; exact hc50⟩⟩, CX.give hb0 hM hK hG hE hS ht hW⟩, hS.F ht⟩) hS.2.2 dX6_isNoCell_48

set_option maxHeartbeats 4000000 in
set_option maxRecDepth 100000 in
theorem rm_hasRoad (l : Launch) (dC : Nat → ClassId) (dI : Nat → Nat → Nat) (kA : Nat → ClassId) (eD b : Nat) (g : Gh) (o : Nat) (j : Nat) (hto : tg g o = 17) (hj : j ≤ 3) : Met l yX6_hasRoad wsX6_hasRoad ({ frames := 0, cells := 0, slots := 0, locals := 0 }) (va_Pc [.ref o, .int (nI j)] (CX (dC, dI) kA eD b g)) (va_Qi (fun (r : Int32) (u : Unit) => r = 0 ∨ r = 1) (fun (u : Unit) t => CX (dC, dI) kA eD b g t) (fun q => b ≤ q)) 0 0 (fun q => b ≤ q) := by
  refine Met.ofW (cc := cX6_hasRoad) (maxL := 2) (ret := (some .boolean)) (by decide +kernel) rfl ?_
  intro p e s m args below meth c s₁ B hml hv
  obtain ⟨rfl, hb0, hM, hK, hG, hE⟩ := hv
  have hx := B.exec
  have hb := B.bytes
  have hr := B.returns
  have hts := atoms_spec (ws := wsX6_hasRoad) B.pre
  have hown : s.vm.findClass RX6 = some m.cls := findClass_of_methodNamed B.named
  have hlocks := B.notSynchronized
  have hT := hE.1
  have hN := hE.2.2.2.2.2.2.2.1
  have hS : va_S (fun q => b ≤ q) s.heap s.heap [] := va_S.rf
  have hl := lv_entry ([.ref o, .int (nI j)]) (n := 2) (Nat.le_of_ble_eq_true rfl)
  rw [lg_entry_eq]
  generalize (lg_sl ([.ref o, .int (nI j)]) ++ List.replicate (2 - (lg_sl ([.ref o, .int (nI j)])).length) Slot.unset).toArray = ls at hl ⊢
  have hl : lv_has ls 2 [(0, .ref o), (1, .int (nI j))] := hl
  generalize ([.ref o, .int (nI j)] : List Value).toArray = args at hts ⊢
  refine lv_aload_n hx hb dX6_hasRoad_0 rfl (lv_at hl 0 rfl) ?_
  obtain ⟨u1, u2, hP, hf⟩ := o_mo (i := 0) (q := o) hM (by omega)
  refine va_get (D := (dC, dI)) (ci := 10) (v := .ref (pF g o 1)) (C := RX6) (T := TX6) (N := 11) hx hb hts (by decide +kernel) hown hK hP 0 rfl rfl 4 (by decide) (hts (.fieldLink RX6 19 "SnowpalaceModel" "ice" "[I") (by decide +kernel)) (fun _ h9 => h9) rfl dX6_hasRoad_1 ?_
  have ht3 : tg g (pF g o 1) = 19 := hf.2.1
  refine lv_iload_n hx hb dX6_hasRoad_4 rfl (lv_at hl 1 rfl) ?_
  obtain ⟨u4, hP, hf⟩ := o_ic (i := 0) (q := (pF g o 1)) hM (by omega)
  refine va_iald (D := (dC, dI)) hx hb hK hP 0 0 rfl rfl (vp_in_nI (by omega) (by decide)) dX6_hasRoad_5 ?_
  refine lv_topi (fun v5 e6 => ?_)
  have ec : ((nI j) : Int32).toNatClampNeg = j := nI_clamp (by omega)
  rw [ec] at e6
  have hu7 := hf j (by omega)
  rw [← e6] at hu7
  refine lv_sipush (v := 250) hx hb dX6_hasRoad_6 (by decide) ?_
  refine lv_icmp_lt (tgt := 27) hx hb dX6_hasRoad_9 (by decide) (fun c8 => ?_) (fun c8 => ?_)
  · skip
    have i9 := (Int32.lt_iff_toInt_lt).mp c8
    have ii9 : (250 : Int32).toInt = 250 := by decide
    have i9 := i9
    refine lv_iconst (v := 0) hx hb dX6_hasRoad_27 (by decide) ?_
    refine W.widen (k := 0) (n := 0) (Nat.le_of_ble_eq_true rfl) (Nat.le_of_ble_eq_true rfl) ?_
    exact W.zret (v := 0) (ty := .boolean) hx hb hr rfl (fun t ht hW => ⟨⟨0, (), rfl, (Or.inl rfl), CX.give hb0 hM hK hG hE hS ht hW⟩, hS.F ht⟩) hS.2.2 dX6_hasRoad_28
  · skip
    have i10 := fun z => c8 ((Int32.lt_iff_toInt_lt).mpr z)
    have ii10 : (250 : Int32).toInt = 250 := by decide
    have i10 : ¬ ((v5 : Int32).toInt < (250 : Int32).toInt) := i10
    refine lv_aload_n hx hb dX6_hasRoad_12 rfl (lv_at hl 0 rfl) ?_
    obtain ⟨u11, u12, hP, hf⟩ := o_mo (i := 0) (q := o) hM (by omega)
    refine va_get (D := (dC, dI)) (ci := 10) (v := .ref (pF g o 3)) (C := RX6) (T := TX6) (N := 11) hx hb hts (by decide +kernel) hown hK hP 0 rfl rfl 6 (by decide) (hts (.fieldLink RX6 25 "SnowpalaceModel" "left" "[I") (by decide +kernel)) (fun _ h9 => h9) rfl dX6_hasRoad_13 ?_
    have ht13 : tg g (pF g o 3) = 24 := hf.2.2.2.1
    refine lv_iload_n hx hb dX6_hasRoad_16 rfl (lv_at hl 1 rfl) ?_
    obtain ⟨u14, hP, hf⟩ := o_fl (i := 0) (q := (pF g o 3)) hM (by omega)
    refine va_iald (D := (dC, dI)) hx hb hK hP 0 0 rfl rfl (vp_in_nI (by omega) (by decide)) dX6_hasRoad_17 ?_
    refine lv_topi (fun v15 e16 => ?_)
    have ec : ((nI j) : Int32).toNatClampNeg = j := nI_clamp (by omega)
    rw [ec] at e16
    refine lv_bipush (v := 20) hx hb dX6_hasRoad_18 (by decide) ?_
    refine lv_icmp_lt (tgt := 27) hx hb dX6_hasRoad_20 (by decide) (fun c17 => ?_) (fun c17 => ?_)
    · skip
      have i18 := (Int32.lt_iff_toInt_lt).mp c17
      have ii18 : (20 : Int32).toInt = 20 := by decide
      have i18 := i18
      refine lv_iconst (v := 0) hx hb dX6_hasRoad_27 (by decide) ?_
      refine W.widen (k := 0) (n := 0) (Nat.le_of_ble_eq_true rfl) (Nat.le_of_ble_eq_true rfl) ?_
      exact W.zret (v := 0) (ty := .boolean) hx hb hr rfl (fun t ht hW => ⟨⟨0, (), rfl, (Or.inl rfl), CX.give hb0 hM hK hG hE hS ht hW⟩, hS.F ht⟩) hS.2.2 dX6_hasRoad_28
    · skip
      have i19 := fun z => c17 ((Int32.lt_iff_toInt_lt).mpr z)
      have ii19 : (20 : Int32).toInt = 20 := by decide
      have i19 : ¬ ((v15 : Int32).toInt < (20 : Int32).toInt) := i19
      refine lv_iconst (v := 1) hx hb dX6_hasRoad_23 (by decide) ?_
      refine lv_goto (tgt := 28) hx hb dX6_hasRoad_24 (by decide) ?_
      refine W.widen (k := 0) (n := 0) (Nat.le_of_ble_eq_true rfl) (Nat.le_of_ble_eq_true rfl) ?_
      exact W.zret (v := 1) (ty := .boolean) hx hb hr rfl (fun t ht hW => ⟨⟨1, (), rfl, (Or.inr rfl), CX.give hb0 hM hK hG hE hS ht hW⟩, hS.F ht⟩) hS.2.2 dX6_hasRoad_28

set_option maxHeartbeats 4000000 in
set_option maxRecDepth 100000 in
theorem rm_wetOf (l : Launch) (dC : Nat → ClassId) (dI : Nat → Nat → Nat) (kA : Nat → ClassId) (eD b : Nat) (g : Gh) (o : Nat) (j : Nat) (hto : tg g o = 17) (hj : j ≤ 503) : Met l yX6_wetOf wsX6_wetOf ({ frames := 1, cells := 0, slots := 0, locals := 23 }) (va_Pc [.ref o, .int (nI j)] (CX (dC, dI) kA eD b g)) (va_Qi (fun (r : Int32) (u : Unit) => r = xOf (fun d => pI g ((pO g (pF g o 0) d).getD 0) 0) (fun d => pI g ((pO g (pF g o 0) d).getD 0) 1) (fun d => pI g ((pO g (pF g o 0) d).getD 0) 3) (nI j)) (fun (u : Unit) t => CX (dC, dI) kA eD b g t) (fun q => b ≤ q)) 0 0 (fun q => b ≤ q) := by
  refine Met.ofW (cc := cX6_wetOf) (maxL := 2) (ret := (some .int)) (by decide +kernel) rfl ?_
  intro p e s m args below meth c s₁ B hml hv
  obtain ⟨rfl, hb0, hM, hK, hG, hE⟩ := hv
  have hx := B.exec
  have hb := B.bytes
  have hr := B.returns
  have hts := atoms_spec (ws := wsX6_wetOf) B.pre
  have hown : s.vm.findClass RX6 = some m.cls := findClass_of_methodNamed B.named
  have hlocks := B.notSynchronized
  have hT := hE.1
  have hN := hE.2.2.2.2.2.2.2.1
  have hS : va_S (fun q => b ≤ q) s.heap s.heap [] := va_S.rf
  have hl := lv_entry ([.ref o, .int (nI j)]) (n := 2) (Nat.le_of_ble_eq_true rfl)
  rw [lg_entry_eq]
  generalize (lg_sl ([.ref o, .int (nI j)]) ++ List.replicate (2 - (lg_sl ([.ref o, .int (nI j)])).length) Slot.unset).toArray = ls at hl ⊢
  have hl : lv_has ls 2 [(0, .ref o), (1, .int (nI j))] := hl
  generalize ([.ref o, .int (nI j)] : List Value).toArray = args at hts ⊢
  refine lv_aload_n hx hb dX6_wetOf_0 rfl (lv_at hl 0 rfl) ?_
  refine lv_iload_n hx hb dX6_wetOf_1 rfl (lv_at hl 1 rfl) ?_
  obtain ⟨u1, u2, hP, hf⟩ := o_mo (i := 0) (q := o) hM (by omega)
  refine va_calli (va_runV (As := [.int (nI j)]) (rest := []) ⟨hx, hb, hml, hown, hts⟩ (rm_warmthOf l dC dI kA eD b g o j (by omega) (by omega)) (cwV 1 hts gX6_wetOf_X6_warmthOf rfl rfl rfl (by decide +kernel) ⟨Nat.le_of_ble_eq_true rfl, Nat.le_of_ble_eq_true rfl⟩) ⟨fb_CX, va_recv hK hP (ci := 10) (q0 := 0) rfl rfl, fun U hU hW => ⟨rfl, CX.give hb0 hM hK hG hE hS hU hW⟩⟩ rfl rfl hl.1 rfl (lv_room (Nat.le_of_ble_eq_true rfl)) dX6_wetOf_2 ⟨(Nat.le_of_ble_eq_true rfl), (Nat.le_of_ble_eq_true rfl)⟩) hS (fun q _ h => h) (fun q h => h) (fun r3 u t H locs ht hvm hw4 hB hz1 hk1 hS => ?_)
  have hM := hB.back ht
  have hG := hB.2.2.2.1
  refine lv_bipush (v := 100) hx hb dX6_wetOf_5 (by decide) ?_
  refine lv_aload_n hx hb dX6_wetOf_7 rfl (lv_at hl 0 rfl) ?_
  obtain ⟨u5, u6, hP, hf⟩ := o_mo (i := 0) (q := o) hM (by omega)
  refine va_get (D := (dC, dI)) (ci := 10) (v := .ref (pF g o 0)) (C := RX6) (T := TX6) (N := 11) hx hb hts (by decide +kernel) hown hK hP 0 rfl rfl 1 (by decide) (hts (.fieldLink RX6 15 "SnowpalaceModel" "days" "[[I") (by decide +kernel)) (fun _ h9 => h9) rfl dX6_wetOf_8 ?_
  have ht7 : tg g (pF g o 0) = 18 := hf.1
  refine lv_iload_n hx hb dX6_wetOf_11 rfl (lv_at hl 1 rfl) ?_
  refine lv_bipush (v := 24) hx hb dX6_wetOf_12 (by decide) ?_
  refine lv_idiv hx hb dX6_wetOf_14 (by decide) ?_
  refine lv_topi (fun v8 e9 => ?_)
  obtain rfl : v8 = nI (j / 24) := e9.trans (pk_div (a := j) (d := 24) (by omega) (by decide) (by decide))
  obtain ⟨hP, hf⟩ := o_da (i := 0) (q := (pF g o 0)) hM (by omega)
  have ec : ((nI (j / 24)) : Int32).toNatClampNeg = (j / 24) := nI_clamp (by omega)
  refine rt_aldA (D := (dC, dI)) (t0 := 6) hx hb hK hP rfl (vp_in_nI (by omega) (by decide)) (y := ((pO g (pF g o 0) (j / 24)).getD 0)) ((congrArg (pO g (pF g o 0)) ec).trans (hf (j / 24) (by omega)).1) dX6_wetOf_15 ?_
  have ht10 : tg g ((pO g (pF g o 0) (j / 24)).getD 0) = 22 := (hf (j / 24) (by omega)).2
  refine lv_iconst (v := 3) hx hb dX6_wetOf_16 (by decide) ?_
  obtain ⟨hP, hf⟩ := o_ro (i := 0) (q := ((pO g (pF g o 0) (j / 24)).getD 0)) hM (by omega)
  refine va_iald (D := (dC, dI)) hx hb hK hP 0 0 rfl rfl (by unfold vp_in; decide) dX6_wetOf_17 ?_
  refine lv_topi (fun v11 e12 => ?_)
  have ec : (3 : Int32).toNatClampNeg = 3 := by decide
  rw [ec] at e12
  subst e12
  refine lv_isub hx hb dX6_wetOf_18 ?_
  refine lv_topi (fun v14 e15 => ?_)
  subst e15
  refine lv_iconst (v := 2) hx hb dX6_wetOf_19 (by decide) ?_
  refine lv_idiv hx hb dX6_wetOf_20 (by decide) ?_
  refine lv_topi (fun v16 e17 => ?_)
  subst e17
  refine lv_isub hx hb dX6_wetOf_21 ?_
  refine lv_topi (fun v18 e19 => ?_)
  subst e19
  refine W.widen (k := 0) (n := 0) (Nat.le_of_ble_eq_true rfl) (Nat.le_of_ble_eq_true rfl) ?_
  exact W.iret (v := (r3 - ((100 - (pI g ((pO g (pF g o 0) (j / 24)).getD 0) 3)) / 2))) hx hb hr (fun t ht hW => ⟨⟨(r3 - ((100 - (pI g ((pO g (pF g o 0) (j / 24)).getD 0) 3)) / 2)), (), rfl, (by rw [hw4]; exact xOf_in (lo := (fun d => pI g ((pO g (pF g o 0) d).getD 0) 0)) (hi := (fun d => pI g ((pO g (pF g o 0) d).getD 0) 1)) (hu := (fun d => pI g ((pO g (pF g o 0) d).getD 0) 3)) (j := j) (by omega)), CX.give hb0 hM hK hG hE hS ht hW⟩, hS.F ht⟩) hS.2.2 dX6_wetOf_22

set_option maxHeartbeats 4000000 in
set_option maxRecDepth 100000 in
theorem rm_freezes (l : Launch) (dC : Nat → ClassId) (dI : Nat → Nat → Nat) (kA : Nat → ClassId) (eD b : Nat) (g : Gh) (o : Nat) (wm : Int32) (hto : tg g o = 17) (hw1 : -400 ≤ wm.toInt) (hw2 : wm.toInt ≤ 200) (hh : (pI g o 0).toInt ≤ 503) : Met l yX6_freezes wsX6_freezes ({ frames := 2, cells := 0, slots := 0, locals := 44 }) (va_Pc [.ref o, .int wm] (CX (dC, dI) kA eD b g)) (va_Qv (fun (u : Unit) => True) (fun (u : Unit) t => CX (dC, dI) kA eD b g t) (fun q => b ≤ q)) 0 0 (fun q => b ≤ q) := by
  refine Met.ofW (cc := cX6_freezes) (maxL := 4) (ret := none) (by decide +kernel) rfl ?_
  intro p e s m args below meth c s₁ B hml hv
  obtain ⟨rfl, hb0, hM, hK, hG, hE⟩ := hv
  have hx := B.exec
  have hb := B.bytes
  have hr := B.returns
  have hts := atoms_spec (ws := wsX6_freezes) B.pre
  have hown : s.vm.findClass RX6 = some m.cls := findClass_of_methodNamed B.named
  have hlocks := B.notSynchronized
  have hT := hE.1
  have hN := hE.2.2.2.2.2.2.2.1
  have hS : va_S (fun q => b ≤ q) s.heap s.heap [] := va_S.rf
  have hl := lv_entry ([.ref o, .int wm]) (n := 4) (Nat.le_of_ble_eq_true rfl)
  rw [lg_entry_eq]
  generalize (lg_sl ([.ref o, .int wm]) ++ List.replicate (4 - (lg_sl ([.ref o, .int wm])).length) Slot.unset).toArray = ls at hl ⊢
  have hl : lv_has ls 4 [(0, .ref o), (1, .int wm)] := hl
  generalize ([.ref o, .int wm] : List Value).toArray = args at hts ⊢
  refine W.q (fun Q hQ => ?_)
  refine lv_iconst (v := 0) hx hb dX6_freezes_0 (by decide) ?_
  refine lv_istore_n (lv' := [(2, .int 0), (0, .ref o), (1, .int wm)]) hx hb dX6_freezes_1 rfl hl (by decide) rfl (fun ls hl => ?_)
  have lp2 : ∀ (n3 j1 : Nat) , 0 ≤ j1 → j1 ≤ 4 → 4 < j1 + n3 → ∀ (H : Heap) (locs : List Loc) (ls : Array Slot), TM (dC, dI) kA b g H → va_S (fun q => b ≤ q) s.heap H locs → lv_has ls 4 [(2, .int (nI j1)), (0, .ref o), (1, .int wm)] → W p l e (headSpec wsX6_freezes ({ frames := 2, cells := 0, slots := 0, locals := 44 })).room s m args below meth c H locs 0 0 Q (F0 m 2 ls []) := by
    intro n3
    induction n3 with
    | zero => intro j1 h0 h1 h2; omega
    | succ n3 ih4 =>
      intro j1 lj1 hj1 hn3 H locs ls hM hS hl
      refine lv_iload_n hx hb dX6_freezes_2 rfl (lv_at hl 0 rfl) ?_
      refine lv_iconst (v := 4) hx hb dX6_freezes_3 (by decide) ?_
      refine lv_icmp_ge (tgt := 125) hx hb dX6_freezes_4 (by decide) (fun c5 => ?_) (fun c5 => ?_)
      · skip
        have k6 : 4 ≤ j1 := (nI_leI (a := 4) (b := j1) (by omega) (by omega)).mp c5
        refine lv_aload_n hx hb dX6_freezes_125 rfl (lv_at hl 1 rfl) ?_
        obtain ⟨u7, u8, hP, hf⟩ := o_mo (i := 0) (q := o) hM (by omega)
        have hPo9 := hP
        have hfo9 := hf
        refine va_get (D := (dC, dI)) (ci := 10) (v := .int (pI g o 1)) (C := RX6) (T := TX6) (N := 11) hx hb hts (by decide +kernel) hown hK hP 0 rfl rfl 9 (by decide) (hts (.fieldLink RX6 85 "SnowpalaceModel" "isOn" "Z") (by decide +kernel)) (fun _ h9 => h9) rfl dX6_freezes_126 ?_
        have hv10 := hf.2.2.2.2.2.2.2
        refine lv_if_eq (tgt := 161) hx hb dX6_freezes_129 (by decide) (fun c11 => ?_) (fun c11 => ?_)
        · skip
          subst hQ
          refine W.widen (k := 0) (n := 0) (Nat.le_of_ble_eq_true rfl) (Nat.le_of_ble_eq_true rfl) ?_
          exact W.vret hx hb hr (fun t ht hW => ⟨⟨(), rfl, trivial, CX.give hb0 hM hK hG hE hS ht hW⟩, hS.F ht⟩) hS.2.2 dX6_freezes_161
        · skip
          refine lv_aload_n hx hb dX6_freezes_132 rfl (lv_at hl 1 rfl) ?_
          refine lv_aload_n hx hb dX6_freezes_133 rfl (lv_at hl 1 rfl) ?_
          have hP := hPo9
          have hf := hfo9
          refine va_get (D := (dC, dI)) (ci := 10) (v := .int (pI g o 0)) (C := RX6) (T := TX6) (N := 11) hx hb hts (by decide +kernel) hown hK hP 0 rfl rfl 2 (by decide) (hts (.fieldLink RX6 58 "SnowpalaceModel" "hour" "I") (by decide +kernel)) (fun _ h9 => h9) rfl dX6_freezes_134 ?_
          have hv12 := hf.2.2.2.2.2.2.1
          obtain ⟨j13, hj13, en14⟩ := toN (p := (pI g o 0)) (k := 503) (by omega) (by omega) (by decide)
          rw [en14]
          try rw [en14] at hl
          have hl : lv_has ls 4 [(2, .int (nI j1)), (0, .ref o), (1, .int wm)] := hl
          have hP := hPo9
          have hf := hfo9
          refine va_calli (va_runV (As := [.int (nI j13)]) (rest := []) ⟨hx, hb, hml, hown, hts⟩ (rm_wetOf l dC dI kA eD b g o j13 (by omega) (by omega)) (cwV 1 hts gX6_freezes_X6_wetOf rfl rfl rfl (by decide +kernel) ⟨Nat.le_of_ble_eq_true rfl, Nat.le_of_ble_eq_true rfl⟩) ⟨fb_CX, va_recv hK hP (ci := 10) (q0 := 0) rfl rfl, fun U hU hW => ⟨rfl, CX.give hb0 hM hK hG hE hS hU hW⟩⟩ rfl rfl hl.1 rfl (lv_room (Nat.le_of_ble_eq_true rfl)) dX6_freezes_137 ⟨(Nat.le_of_ble_eq_true rfl), (Nat.le_of_ble_eq_true rfl)⟩) hS (fun q _ h => h) (fun q h => h) (fun r15 u t H locs ht hvm hw16 hB hz1 hk1 hS => ?_)
          have hM := hB.back ht
          have hG := hB.2.2.2.1
          refine lv_bipush (v := (-20)) hx hb dX6_freezes_140 (by decide) ?_
          refine lv_icmp_gt (tgt := 161) hx hb dX6_freezes_142 (by decide) (fun c17 => ?_) (fun c17 => ?_)
          · skip
            have i18 := (Int32.lt_iff_toInt_lt).mp c17
            have ii18 : ((-20) : Int32).toInt = -20 := by decide
            have i18 := i18
            subst hQ
            refine W.widen (k := 0) (n := 0) (Nat.le_of_ble_eq_true rfl) (Nat.le_of_ble_eq_true rfl) ?_
            exact W.vret hx hb hr (fun t ht hW => ⟨⟨(), rfl, trivial, CX.give hb0 hM hK hG hE hS ht hW⟩, hS.F ht⟩) hS.2.2 dX6_freezes_161
          · skip
            have i19 := fun z => c17 ((Int32.lt_iff_toInt_lt).mpr z)
            have ii19 : ((-20) : Int32).toInt = -20 := by decide
            have i19 : ¬ (((-20) : Int32).toInt < (r15 : Int32).toInt) := i19
            refine lv_aload_n hx hb dX6_freezes_145 rfl (lv_at hl 1 rfl) ?_
            refine lv_sipush (v := 500) hx hb dX6_freezes_146 (by decide) ?_
            refine lv_aload_n hx hb dX6_freezes_149 rfl (lv_at hl 1 rfl) ?_
            obtain ⟨u20, u21, hP, hf⟩ := o_mo (i := 0) (q := o) hM (by omega)
            have hPo22 := hP
            have hfo22 := hf
            refine va_get (D := (dC, dI)) (ci := 10) (v := .int u21) (C := RX6) (T := TX6) (N := 11) hx hb hts (by decide +kernel) hown hK hP 0 rfl rfl 8 (by decide) (hts (.fieldLink RX6 89 "SnowpalaceModel" "stored" "I") (by decide +kernel)) (fun _ h9 => h9) rfl dX6_freezes_150 ?_
            refine lv_iconst (v := 2) hx hb dX6_freezes_153 (by decide) ?_
            refine lv_iadd hx hb dX6_freezes_154 ?_
            refine lv_topi (fun v23 e24 => ?_)
            subst e24
            refine va_mmin hx hb (hml.trans hl.1.symm) hown (hts (.methodLink RX6 76 Lib.Math.min.name) (by decide +kernel)) (hts (.static Lib.Math.min.name) (by decide +kernel)) (hts (.initialized "java/lang/Math") (by decide +kernel)) (hts (.code Lib.Math.min.name Lib.Math.min.code 2 (some .int)) (by decide +kernel)) (Nat.le_of_ble_eq_true rfl) (Nat.le_of_ble_eq_true rfl) (Nat.le_of_ble_eq_true rfl) (Nat.le_of_ble_eq_true rfl) dX6_freezes_155 ?_
            refine lv_topi (fun v25 e26 => ?_)
            subst e26
            have hP := hPo22
            have hf := hfo22
            refine rt_put (D := (dC, dI)) (ci := 10) (v := .int (if (u21 + 2) < 500 then (u21 + 2) else 500)) (ty := .int) (C := RX6) (T := TX6) (N := 11) hx hb hts (by decide +kernel) tyX6 tyX6_ok nmX6 hown hK hP (hM.ge (by omega)) hS rfl 8 (by decide) (hts (.fieldLink RX6 89 "SnowpalaceModel" "stored" "I") (by decide +kernel)) (fun _ h9 => h9) rfl (by decide +kernel) rfl rfl (Nat.le_of_ble_eq_true rfl) dX6_freezes_158 (fun H locs hP hz ho hS => ?_)
            have hM := s_mo (i := 0) hM (by omega) hP ho hf
            subst hQ
            refine W.widen (k := 0) (n := 0) (Nat.le_of_ble_eq_true rfl) (Nat.le_of_ble_eq_true rfl) ?_
            exact W.vret hx hb hr (fun t ht hW => ⟨⟨(), rfl, trivial, CX.give hb0 hM hK hG hE hS ht hW⟩, hS.F ht⟩) hS.2.2 dX6_freezes_161
      · skip
        have k27 : ¬ (4 ≤ j1) := fun z => c5 ((nI_leI (a := 4) (b := j1) (by omega) (by omega)).mpr z)
        refine lv_iload_n hx hb dX6_freezes_7 rfl (lv_at hl 2 rfl) ?_
        refine lv_if_ge (tgt := 73) hx hb dX6_freezes_8 (by decide) (fun c28 => ?_) (fun c28 => ?_)
        · skip
          have i29 := (Int32.le_iff_toInt_le).mp c28
          have ii29 : (0 : Int32).toInt = 0 := by decide
          have i29 := i29
          refine lv_iload_n hx hb dX6_freezes_73 rfl (lv_at hl 2 rfl) ?_
          refine lv_if_le (tgt := 119) hx hb dX6_freezes_74 (by decide) (fun c30 => ?_) (fun c30 => ?_)
          · skip
            have i31 := (Int32.le_iff_toInt_le).mp c30
            have ii31 : (0 : Int32).toInt = 0 := by decide
            have i31 := i31
            refine lv_iinc (v := (nI (j1 + 1))) (lv' := [(2, .int (nI (j1 + 1))), (0, .ref o), (1, .int wm)]) hx hb dX6_freezes_119 hl (k := 0) rfl (nI_add j1 1) (by decide) rfl (fun ls hl => ?_)
            refine lv_goto (tgt := 2) hx hb dX6_freezes_122 (by decide) ?_
            exact ih4 ((j1 + 1)) (by omega) (by omega) (by omega) H _ ls  hM hS (lv_sub hl [0, 1, 2] rfl)
          · skip
            have i32 := fun z => c30 ((Int32.le_iff_toInt_le).mpr z)
            have ii32 : (0 : Int32).toInt = 0 := by decide
            have i32 : ¬ ((wm : Int32).toInt ≤ (0 : Int32).toInt) := i32
            refine lv_aload_n hx hb dX6_freezes_77 rfl (lv_at hl 1 rfl) ?_
            obtain ⟨u33, u34, hP, hf⟩ := o_mo (i := 0) (q := o) hM (by omega)
            have hPo35 := hP
            have hfo35 := hf
            refine va_get (D := (dC, dI)) (ci := 10) (v := .ref (pF g o 1)) (C := RX6) (T := TX6) (N := 11) hx hb hts (by decide +kernel) hown hK hP 0 rfl rfl 4 (by decide) (hts (.fieldLink RX6 19 "SnowpalaceModel" "ice" "[I") (by decide +kernel)) (fun _ h9 => h9) rfl dX6_freezes_78 ?_
            have ht36 : tg g (pF g o 1) = 19 := hf.2.1
            refine lv_iload_n hx hb dX6_freezes_81 rfl (lv_at hl 0 rfl) ?_
            refine lv_iconst (v := 0) hx hb dX6_freezes_82 (by decide) ?_
            refine lv_aload_n hx hb dX6_freezes_83 rfl (lv_at hl 1 rfl) ?_
            have hP := hPo35
            have hf := hfo35
            refine va_get (D := (dC, dI)) (ci := 10) (v := .ref (pF g o 1)) (C := RX6) (T := TX6) (N := 11) hx hb hts (by decide +kernel) hown hK hP 0 rfl rfl 4 (by decide) (hts (.fieldLink RX6 19 "SnowpalaceModel" "ice" "[I") (by decide +kernel)) (fun _ h9 => h9) rfl dX6_freezes_84 ?_
            refine lv_iload_n hx hb dX6_freezes_87 rfl (lv_at hl 0 rfl) ?_
            obtain ⟨u37, hP, hf⟩ := o_ic (i := 0) (q := (pF g o 1)) hM (by omega)
            have hPo38 := hP
            have hfo38 := hf
            refine va_iald (D := (dC, dI)) hx hb hK hP 0 0 rfl rfl (vp_in_nI (by omega) (by decide)) dX6_freezes_88 ?_
            refine lv_topi (fun v39 e40 => ?_)
            have ec : ((nI j1) : Int32).toNatClampNeg = j1 := nI_clamp (by omega)
            rw [ec] at e40
            have hu41 := hf j1 (by omega)
            rw [← e40] at hu41
            refine lv_iload_n hx hb dX6_freezes_89 rfl (lv_at hl 2 rfl) ?_
            refine lv_bipush (v := 10) hx hb dX6_freezes_90 (by decide) ?_
            refine lv_idiv hx hb dX6_freezes_92 (by decide) ?_
            refine lv_topi (fun v42 e43 => ?_)
            subst e43
            refine lv_isub hx hb dX6_freezes_93 ?_
            refine lv_topi (fun v44 e45 => ?_)
            subst e45
            refine va_mmax hx hb (hml.trans hl.1.symm) hown (hts (.methodLink RX6 82 Lib.Math.max.name) (by decide +kernel)) (hts (.static Lib.Math.max.name) (by decide +kernel)) (hts (.initialized "java/lang/Math") (by decide +kernel)) (hts (.code Lib.Math.max.name Lib.Math.max.code 2 (some .int)) (by decide +kernel)) (Nat.le_of_ble_eq_true rfl) (Nat.le_of_ble_eq_true rfl) (Nat.le_of_ble_eq_true rfl) (Nat.le_of_ble_eq_true rfl) dX6_freezes_94 ?_
            refine lv_topi (fun v46 e47 => ?_)
            subst e47
            have hP := hPo38
            have hf := hfo38
            refine rt_iast (D := (dC, dI)) (t0 := 0) hx hb hK hP (hM.ge (by omega)) hS rfl (vp_in_nI (by omega) (by decide)) dX6_freezes_97 (fun H locs hP hz ho hS => ?_)
            have ec : ((nI j1) : Int32).toNatClampNeg = j1 := nI_clamp (by omega)
            rw [ec] at hP
            have hM := s_ic (i := 0) hM (by omega) hP ho (isI_upd hf (by rw [e40]; exact fr2_max (hf j1 (by omega)) ⟨by omega, by omega⟩))
            refine lv_aload_n hx hb dX6_freezes_98 rfl (lv_at hl 1 rfl) ?_
            obtain ⟨u48, u49, hP, hf⟩ := o_mo (i := 0) (q := o) hM (by omega)
            have hPo50 := hP
            have hfo50 := hf
            refine va_get (D := (dC, dI)) (ci := 10) (v := .ref (pF g o 2)) (C := RX6) (T := TX6) (N := 11) hx hb hts (by decide +kernel) hown hK hP 0 rfl rfl 5 (by decide) (hts (.fieldLink RX6 22 "SnowpalaceModel" "clear" "[I") (by decide +kernel)) (fun _ h9 => h9) rfl dX6_freezes_99 ?_
            have ht51 : tg g (pF g o 2) = 24 := hf.2.2.1
            refine lv_iload_n hx hb dX6_freezes_102 rfl (lv_at hl 0 rfl) ?_
            refine lv_aload_n hx hb dX6_freezes_103 rfl (lv_at hl 1 rfl) ?_
            have hP := hPo50
            have hf := hfo50
            refine va_get (D := (dC, dI)) (ci := 10) (v := .ref (pF g o 2)) (C := RX6) (T := TX6) (N := 11) hx hb hts (by decide +kernel) hown hK hP 0 rfl rfl 5 (by decide) (hts (.fieldLink RX6 22 "SnowpalaceModel" "clear" "[I") (by decide +kernel)) (fun _ h9 => h9) rfl dX6_freezes_104 ?_
            refine lv_iload_n hx hb dX6_freezes_107 rfl (lv_at hl 0 rfl) ?_
            obtain ⟨u52, hP, hf⟩ := o_fl (i := 0) (q := (pF g o 2)) hM (by omega)
            have hPo53 := hP
            have hfo53 := hf
            refine va_iald (D := (dC, dI)) hx hb hK hP 0 0 rfl rfl (vp_in_nI (by omega) (by decide)) dX6_freezes_108 ?_
            refine lv_topi (fun v54 e55 => ?_)
            have ec : ((nI j1) : Int32).toNatClampNeg = j1 := nI_clamp (by omega)
            rw [ec] at e55
            refine lv_aload_n hx hb dX6_freezes_109 rfl (lv_at hl 1 rfl) ?_
            have hP := hPo50
            have hf := hfo50
            refine va_get (D := (dC, dI)) (ci := 10) (v := .ref (pF g o 1)) (C := RX6) (T := TX6) (N := 11) hx hb hts (by decide +kernel) hown hK hP 0 rfl rfl 4 (by decide) (hts (.fieldLink RX6 19 "SnowpalaceModel" "ice" "[I") (by decide +kernel)) (fun _ h9 => h9) rfl dX6_freezes_110 ?_
            refine lv_iload_n hx hb dX6_freezes_113 rfl (lv_at hl 0 rfl) ?_
            obtain ⟨u56, hP, hf⟩ := o_ic (i := 0) (q := (pF g o 1)) hM (by omega)
            have hPo57 := hP
            have hfo57 := hf
            refine va_iald (D := (dC, dI)) hx hb hK hP 0 0 rfl rfl (vp_in_nI (by omega) (by decide)) dX6_freezes_114 ?_
            refine lv_topi (fun v58 e59 => ?_)
            have ec : ((nI j1) : Int32).toNatClampNeg = j1 := nI_clamp (by omega)
            rw [ec] at e59
            have hu60 := hf j1 (by omega)
            rw [← e59] at hu60
            refine va_mmin hx hb (hml.trans hl.1.symm) hown (hts (.methodLink RX6 76 Lib.Math.min.name) (by decide +kernel)) (hts (.static Lib.Math.min.name) (by decide +kernel)) (hts (.initialized "java/lang/Math") (by decide +kernel)) (hts (.code Lib.Math.min.name Lib.Math.min.code 2 (some .int)) (by decide +kernel)) (Nat.le_of_ble_eq_true rfl) (Nat.le_of_ble_eq_true rfl) (Nat.le_of_ble_eq_true rfl) (Nat.le_of_ble_eq_true rfl) dX6_freezes_115 ?_
            refine lv_topi (fun v61 e62 => ?_)
            subst e62
            have hP := hPo53
            have hf := hfo53
            refine rt_iast (D := (dC, dI)) (t0 := 0) hx hb hK hP (hM.ge (by omega)) hS rfl (vp_in_nI (by omega) (by decide)) dX6_freezes_118 (fun H locs hP hz ho hS => ?_)
            have ec : ((nI j1) : Int32).toNatClampNeg = j1 := nI_clamp (by omega)
            rw [ec] at hP
            have hM := s_fl (i := 0) hM (by omega) hP ho hf
            refine lv_iinc (v := (nI (j1 + 1))) (lv' := [(2, .int (nI (j1 + 1))), (0, .ref o), (1, .int wm)]) hx hb dX6_freezes_119 hl (k := 0) rfl (nI_add j1 1) (by decide) rfl (fun ls hl => ?_)
            refine lv_goto (tgt := 2) hx hb dX6_freezes_122 (by decide) ?_
            exact ih4 ((j1 + 1)) (by omega) (by omega) (by omega) H _ ls  hM hS (lv_sub hl [0, 1, 2] rfl)
        · skip
          have i63 := fun z => c28 ((Int32.le_iff_toInt_le).mpr z)
          have ii63 : (0 : Int32).toInt = 0 := by decide
          have i63 : ¬ ((0 : Int32).toInt ≤ (wm : Int32).toInt) := i63
          refine lv_sipush (v := 2000) hx hb dX6_freezes_11 (by decide) ?_
          refine lv_aload_n hx hb dX6_freezes_14 rfl (lv_at hl 1 rfl) ?_
          obtain ⟨u64, u65, hP, hf⟩ := o_mo (i := 0) (q := o) hM (by omega)
          have hPo66 := hP
          have hfo66 := hf
          refine va_get (D := (dC, dI)) (ci := 10) (v := .ref (pF g o 1)) (C := RX6) (T := TX6) (N := 11) hx hb hts (by decide +kernel) hown hK hP 0 rfl rfl 4 (by decide) (hts (.fieldLink RX6 19 "SnowpalaceModel" "ice" "[I") (by decide +kernel)) (fun _ h9 => h9) rfl dX6_freezes_15 ?_
          have ht67 : tg g (pF g o 1) = 19 := hf.2.1
          refine lv_iload_n hx hb dX6_freezes_18 rfl (lv_at hl 0 rfl) ?_
          obtain ⟨u68, hP, hf⟩ := o_ic (i := 0) (q := (pF g o 1)) hM (by omega)
          have hPo69 := hP
          have hfo69 := hf
          refine va_iald (D := (dC, dI)) hx hb hK hP 0 0 rfl rfl (vp_in_nI (by omega) (by decide)) dX6_freezes_19 ?_
          refine lv_topi (fun v70 e71 => ?_)
          have ec : ((nI j1) : Int32).toNatClampNeg = j1 := nI_clamp (by omega)
          rw [ec] at e71
          have hu72 := hf j1 (by omega)
          rw [← e71] at hu72
          refine lv_isub hx hb dX6_freezes_20 ?_
          refine lv_topi (fun v73 e74 => ?_)
          subst e74
          refine lv_iload_n hx hb dX6_freezes_21 rfl (lv_at hl 2 rfl) ?_
          refine lv_ineg hx hb dX6_freezes_22 ?_
          refine lv_topi (fun v75 e76 => ?_)
          subst e76
          refine lv_bipush (v := 10) hx hb dX6_freezes_23 (by decide) ?_
          refine lv_aload_n hx hb dX6_freezes_25 rfl (lv_at hl 1 rfl) ?_
          have hP := hPo66
          have hf := hfo66
          refine va_get (D := (dC, dI)) (ci := 10) (v := .ref (pF g o 1)) (C := RX6) (T := TX6) (N := 11) hx hb hts (by decide +kernel) hown hK hP 0 rfl rfl 4 (by decide) (hts (.fieldLink RX6 19 "SnowpalaceModel" "ice" "[I") (by decide +kernel)) (fun _ h9 => h9) rfl dX6_freezes_26 ?_
          refine lv_iload_n hx hb dX6_freezes_29 rfl (lv_at hl 0 rfl) ?_
          have hP := hPo69
          have hf := hfo69
          refine va_iald (D := (dC, dI)) hx hb hK hP 0 0 rfl rfl (vp_in_nI (by omega) (by decide)) dX6_freezes_30 ?_
          refine lv_topi (fun v77 e78 => ?_)
          have ec : ((nI j1) : Int32).toNatClampNeg = j1 := nI_clamp (by omega)
          rw [ec] at e78
          have hu79 := hf j1 (by omega)
          rw [← e78] at hu79
          refine lv_bipush (v := 20) hx hb dX6_freezes_31 (by decide) ?_
          refine lv_idiv hx hb dX6_freezes_33 (by decide) ?_
          refine lv_topi (fun v80 e81 => ?_)
          subst e81
          refine lv_iadd hx hb dX6_freezes_34 ?_
          refine lv_topi (fun v82 e83 => ?_)
          subst e83
          refine lv_idiv hx hb dX6_freezes_35 (fr2_ne hu79) ?_
          refine lv_topi (fun v84 e85 => ?_)
          subst e85
          refine va_mmin hx hb (hml.trans hl.1.symm) hown (hts (.methodLink RX6 76 Lib.Math.min.name) (by decide +kernel)) (hts (.static Lib.Math.min.name) (by decide +kernel)) (hts (.initialized "java/lang/Math") (by decide +kernel)) (hts (.code Lib.Math.min.name Lib.Math.min.code 2 (some .int)) (by decide +kernel)) (Nat.le_of_ble_eq_true rfl) (Nat.le_of_ble_eq_true rfl) (Nat.le_of_ble_eq_true rfl) (Nat.le_of_ble_eq_true rfl) dX6_freezes_36 ?_
          refine lv_topi (fun v86 e87 => ?_)
          subst e87
          refine lv_istore_n (lv' := [(3, .int (if ((-wm) / (10 + (v77 / 20))) < (2000 - v70) then ((-wm) / (10 + (v77 / 20))) else (2000 - v70))), (2, .int (nI j1)), (0, .ref o), (1, .int wm)]) hx hb dX6_freezes_39 rfl hl (by decide) rfl (fun ls hl => ?_)
          refine lv_aload_n hx hb dX6_freezes_40 rfl (lv_at hl 2 rfl) ?_
          have hP := hPo66
          have hf := hfo66
          refine va_get (D := (dC, dI)) (ci := 10) (v := .ref (pF g o 1)) (C := RX6) (T := TX6) (N := 11) hx hb hts (by decide +kernel) hown hK hP 0 rfl rfl 4 (by decide) (hts (.fieldLink RX6 19 "SnowpalaceModel" "ice" "[I") (by decide +kernel)) (fun _ h9 => h9) rfl dX6_freezes_41 ?_
          refine lv_iload_n hx hb dX6_freezes_44 rfl (lv_at hl 1 rfl) ?_
          refine lv_dup2_11 hx hb dX6_freezes_45 rfl rfl ?_
          have hP := hPo69
          have hf := hfo69
          refine va_iald (D := (dC, dI)) hx hb hK hP 0 0 rfl rfl (vp_in_nI (by omega) (by decide)) dX6_freezes_46 ?_
          refine lv_topi (fun v88 e89 => ?_)
          have ec : ((nI j1) : Int32).toNatClampNeg = j1 := nI_clamp (by omega)
          rw [ec] at e89
          have hu90 := hf j1 (by omega)
          rw [← e89] at hu90
          refine lv_iload_n hx hb dX6_freezes_47 rfl (lv_at hl 0 rfl) ?_
          refine lv_iadd hx hb dX6_freezes_48 ?_
          refine lv_topi (fun v91 e92 => ?_)
          subst e92
          have hP := hPo69
          have hf := hfo69
          refine rt_iast (D := (dC, dI)) (t0 := 0) hx hb hK hP (hM.ge (by omega)) hS rfl (vp_in_nI (by omega) (by decide)) dX6_freezes_49 (fun H locs hP hz ho hS => ?_)
          have ec : ((nI j1) : Int32).toNatClampNeg = j1 := nI_clamp (by omega)
          rw [ec] at hP
          have hM := s_ic (i := 0) hM (by omega) hP ho (isI_upd hf (by rw [e89, e78, e71]; exact fr2_inv (hf j1 (by omega)) ⟨by omega, by omega⟩))
          refine lv_aload_n hx hb dX6_freezes_50 rfl (lv_at hl 2 rfl) ?_
          obtain ⟨u93, u94, hP, hf⟩ := o_mo (i := 0) (q := o) hM (by omega)
          have hPo95 := hP
          have hfo95 := hf
          refine va_get (D := (dC, dI)) (ci := 10) (v := .ref (pF g o 2)) (C := RX6) (T := TX6) (N := 11) hx hb hts (by decide +kernel) hown hK hP 0 rfl rfl 5 (by decide) (hts (.fieldLink RX6 22 "SnowpalaceModel" "clear" "[I") (by decide +kernel)) (fun _ h9 => h9) rfl dX6_freezes_51 ?_
          have ht96 : tg g (pF g o 2) = 24 := hf.2.2.1
          refine lv_iload_n hx hb dX6_freezes_54 rfl (lv_at hl 1 rfl) ?_
          refine lv_dup2_11 hx hb dX6_freezes_55 rfl rfl ?_
          obtain ⟨u97, hP, hf⟩ := o_fl (i := 0) (q := (pF g o 2)) hM (by omega)
          have hPo98 := hP
          have hfo98 := hf
          refine va_iald (D := (dC, dI)) hx hb hK hP 0 0 rfl rfl (vp_in_nI (by omega) (by decide)) dX6_freezes_56 ?_
          refine lv_topi (fun v99 e100 => ?_)
          have ec : ((nI j1) : Int32).toNatClampNeg = j1 := nI_clamp (by omega)
          rw [ec] at e100
          refine lv_iload_n hx hb dX6_freezes_57 rfl (lv_at hl 3 rfl) ?_
          refine lv_bipush (v := (-100)) hx hb dX6_freezes_58 (by decide) ?_
          refine lv_icmp_gt (tgt := 67) hx hb dX6_freezes_60 (by decide) (fun c101 => ?_) (fun c101 => ?_)
          · skip
            have i102 := (Int32.lt_iff_toInt_lt).mp c101
            have ii102 : ((-100) : Int32).toInt = -100 := by decide
            have i102 := i102
            refine lv_iconst (v := 0) hx hb dX6_freezes_67 (by decide) ?_
            refine lv_iadd hx hb dX6_freezes_68 ?_
            refine lv_topi (fun v103 e104 => ?_)
            subst e104
            have hP := hPo98
            have hf := hfo98
            refine rt_iast (D := (dC, dI)) (t0 := 0) hx hb hK hP (hM.ge (by omega)) hS rfl (vp_in_nI (by omega) (by decide)) dX6_freezes_69 (fun H locs hP hz ho hS => ?_)
            have ec : ((nI j1) : Int32).toNatClampNeg = j1 := nI_clamp (by omega)
            rw [ec] at hP
            have hM := s_fl (i := 0) hM (by omega) hP ho hf
            refine lv_goto (tgt := 119) hx hb dX6_freezes_70 (by decide) ?_
            refine lv_iinc (v := (nI (j1 + 1))) (lv' := [(2, .int (nI (j1 + 1))), (3, .int (if ((-wm) / (10 + (v77 / 20))) < (2000 - v70) then ((-wm) / (10 + (v77 / 20))) else (2000 - v70))), (0, .ref o), (1, .int wm)]) hx hb dX6_freezes_119 hl (k := 1) rfl (nI_add j1 1) (by decide) rfl (fun ls hl => ?_)
            refine lv_goto (tgt := 2) hx hb dX6_freezes_122 (by decide) ?_
            exact ih4 ((j1 + 1)) (by omega) (by omega) (by omega) H _ ls  hM hS (lv_sub hl [0, 2, 3] rfl)
          · skip
            have i105 := fun z => c101 ((Int32.lt_iff_toInt_lt).mpr z)
            have ii105 : ((-100) : Int32).toInt = -100 := by decide
            have i105 : ¬ (((-100) : Int32).toInt < (wm : Int32).toInt) := i105
            refine lv_iload_n hx hb dX6_freezes_63 rfl (lv_at hl 0 rfl) ?_
            refine lv_goto (tgt := 68) hx hb dX6_freezes_64 (by decide) ?_
            refine lv_iadd hx hb dX6_freezes_68 ?_
            refine lv_topi (fun v106 e107 => ?_)
            subst e107
            obtain ⟨u108, hP, hf⟩ := o_fl (i := 0) (q := (pF g o 2)) hM (by omega)
            have hPo109 := hP
            have hfo109 := hf
            refine rt_iast (D := (dC, dI)) (t0 := 0) hx hb hK hP (hM.ge (by omega)) hS rfl (vp_in_nI (by omega) (by decide)) dX6_freezes_69 (fun H locs hP hz ho hS => ?_)
            have ec : ((nI j1) : Int32).toNatClampNeg = j1 := nI_clamp (by omega)
            rw [ec] at hP
            have hM := s_fl (i := 0) hM (by omega) hP ho hf
            refine lv_goto (tgt := 119) hx hb dX6_freezes_70 (by decide) ?_
            refine lv_iinc (v := (nI (j1 + 1))) (lv' := [(2, .int (nI (j1 + 1))), (3, .int (if ((-wm) / (10 + (v77 / 20))) < (2000 - v70) then ((-wm) / (10 + (v77 / 20))) else (2000 - v70))), (0, .ref o), (1, .int wm)]) hx hb dX6_freezes_119 hl (k := 1) rfl (nI_add j1 1) (by decide) rfl (fun ls hl => ?_)
            refine lv_goto (tgt := 2) hx hb dX6_freezes_122 (by decide) ?_
            exact ih4 ((j1 + 1)) (by omega) (by omega) (by omega) H _ ls  hM hS (lv_sub hl [0, 2, 3] rfl)
  exact lp2 (4 + 1) 0 (by omega) (by omega) (by omega) s.heap _ ls  hM hS (lv_sub hl [0, 1, 2] rfl)
