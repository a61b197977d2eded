set_option maxHeartbeats 4000000 in
set_option maxRecDepth 100000 in
theorem rf_weather (l : Launch) (hlt : l.stackTraces = false) (dC : Nat → ClassId) (dI : Nat → Nat → Nat) (kA : Nat → ClassId) (eD b : Nat) (g : Gh) (o : Nat) (dy : Int32) (lo : Int32) (hi : Int32) (wi : Int32) (hu : Int32) (hto : tg g o = 1)  : vx_Met l yX3_weather wsX3_weather ({ frames := 6, cells := 1, slots := 6, locals := 82 }) (va_Pc [.ref o, .int dy, .int lo, .int hi, .int wi, .int hu] (CX (dC, dI) kA eD b g)) (va_Qi (fun (r : Int32) (u : Gh) => (∀ a : Nat, tg g a ≠ 0 → tg u a = tg g a) ∧ ∃ j, dy = nI j ∧ j ≤ 20 ∧ ((0 ≤ dy.toInt ∧ dy.toInt ≤ 20) ∧ (-400 ≤ lo.toInt ∧ lo.toInt ≤ 200) ∧ (lo.toInt ≤ hi.toInt ∧ hi.toInt ≤ 200) ∧ (0 ≤ wi.toInt ∧ wi.toInt ≤ 30) ∧ 0 ≤ hu.toInt ∧ hu.toInt ≤ 100) ∧ ¬ 24 * dy.toInt < (pI g o 1).toInt ∧ r = pI g (pF g (pF g o 0) 0) j ∧ u = dayC g o j lo hi wi hu) (fun (u : Gh) t => CX (dC, dI) kA eD b u t) (fun q => b ≤ q)) (vx_X (fun _ : Unit => True) (fun E _ t => ((E = "java/lang/IllegalArgumentException" ∧ ¬ ((0 ≤ dy.toInt ∧ dy.toInt ≤ 20) ∧ (-400 ≤ lo.toInt ∧ lo.toInt ≤ 200) ∧ (lo.toInt ≤ hi.toInt ∧ hi.toInt ≤ 200) ∧ (0 ≤ wi.toInt ∧ wi.toInt ≤ 30) ∧ 0 ≤ hu.toInt ∧ hu.toInt ≤ 100)) ∨ (E = "java/lang/UnsupportedOperationException" ∧ ((0 ≤ dy.toInt ∧ dy.toInt ≤ 20) ∧ (-400 ≤ lo.toInt ∧ lo.toInt ≤ 200) ∧ (lo.toInt ≤ hi.toInt ∧ hi.toInt ≤ 200) ∧ (0 ≤ wi.toInt ∧ wi.toInt ≤ 30) ∧ 0 ≤ hu.toInt ∧ hu.toInt ≤ 100) ∧ 24 * dy.toInt < (pI g o 1).toInt)) ∧ TM (dC, dI) kA b g t.heap) (fun q => b ≤ q)) 1 6 (fun q => b ≤ q) := by
  refine vx_ofW (cc := cX3_weather) (maxL := 7) (ret := (some .int)) (by decide +kernel) rfl ?_
  intro p e s m args below meth c s₁ B hml hnt hv
  obtain ⟨rfl, hb0, hM, hK, hG, hE⟩ := hv
  have hx := B.exec
  have hb := B.bytes
  have hr := B.returns
  have hts := atoms_spec (ws := wsX3_weather) B.pre
  have hown : s.vm.findClass RX3 = some m.cls := findClass_of_methodNamed B.named
  have hlocks := B.notSynchronized
  have hT := hE.1
  have hN := hE.2.2.2.2.2.2.2.1
  have hS : va_S (fun q => b ≤ q) s.heap s.heap [] := va_S.rf
  have hl := lv_entry ([.ref o, .int dy, .int lo, .int hi, .int wi, .int hu]) (n := 7) (Nat.le_of_ble_eq_true rfl)
  rw [lg_entry_eq]
  generalize (lg_sl ([.ref o, .int dy, .int lo, .int hi, .int wi, .int hu]) ++ List.replicate (7 - (lg_sl ([.ref o, .int dy, .int lo, .int hi, .int wi, .int hu])).length) Slot.unset).toArray = ls at hl ⊢
  have hl : lv_has ls 7 [(0, .ref o), (1, .int dy), (2, .int lo), (3, .int hi), (4, .int wi), (5, .int hu)] := hl
  generalize ([.ref o, .int dy, .int lo, .int hi, .int wi, .int hu] : List Value).toArray = args at hts ⊢
  refine lv_iload_n hx hb dX3_weather_0 rfl (lv_at hl 1 rfl) ?_
  refine lv_iconst (v := 0) hx hb dX3_weather_1 (by decide) ?_
  refine lv_bipush (v := 20) hx hb dX3_weather_2 (by decide) ?_
  refine va_calli (va_runS (As := [.int dy, .int 0, .int 20]) (rest := []) ⟨hx, hb, hml, hown, hts⟩ (rk_isWithin l dy 0 20 (0) (20) (by decide) (by decide)) (va_cwS 3 hts gX3_weather_X3_isWithin rfl rfl rfl (by decide +kernel) ⟨Nat.le_of_ble_eq_true rfl, Nat.le_of_ble_eq_true rfl⟩) ⟨fun a U g mk q => q, fun U hU hW => ⟨rfl, trivial⟩⟩ rfl rfl hl.1 rfl (lv_room (Nat.le_of_ble_eq_true rfl)) dX3_weather_4 ⟨(Nat.le_of_ble_eq_true rfl), (Nat.le_of_ble_eq_true rfl)⟩) hS (fun q _ h => h.elim) (fun q h => h.elim) (fun r1 u t H locs ht hvm hw2 hB hz1 hk1 hS => ?_)
  have hM := hM.keep (fun p hp => hk1 p hp (fun z => z))
  have hw2 : r1 = bI ((0 : Int) ≤ dy.toInt ∧ dy.toInt ≤ (20 : Int)) := hw2
  refine lv_if_eq (tgt := 56) hx hb dX3_weather_7 (by decide) (fun c3 => ?_) (fun c3 => ?_)
  · skip
    have g4 : ¬ ((0 : Int) ≤ dy.toInt ∧ dy.toInt ≤ (20 : Int)) := bI_f hw2 c3
    have zg4 : r1 = 0 := bI_f0 hw2 g4
    obtain ⟨sa, hsa⟩ := hT.2.1 (58, "a number is out of range") (by decide +kernel)
    exact vx_throwS (A := (fun q => b ≤ q)) (own := RX3) (cls := "java/lang/IllegalArgumentException") (text := "a number is out of range") (names := exN) hx hb hlt hown (by decide +kernel) (by decide +kernel) (hts (.classLink RX3 56 "java/lang/IllegalArgumentException") (by decide +kernel)) (hts (.initialized "java/lang/IllegalArgumentException") (by decide +kernel)) hsa (th_hat hT (fun w h => hts w (List.mem_cons_of_mem _ (List.mem_append_left _ (List.mem_append_left _ (List.mem_append_right _ h))))) th_i1) (th_good th_i1) hT.2.2.2.1 hT.2.2.2.2 hS (hl.1.trans hml.symm) dX3_weather_56 dX3_weather_59 dX3_weather_60 dX3_weather_62 dX3_weather_65 (fun x h => (hnt x h).elim) (by decide) (Nat.le_of_ble_eq_true rfl) (Nat.le_of_ble_eq_true rfl) (Nat.le_of_ble_eq_true rfl) hlocks (fun t ha h1 h2 => ⟨(), trivial, ⟨(Or.inl ⟨rfl, by omega⟩), hM.keep h2⟩, th_F hS h1 h2⟩) hS.2.2 (Nat.le_of_ble_eq_true rfl) (Nat.le_of_ble_eq_true rfl)
  · skip
    have g5 : (0 : Int) ≤ dy.toInt ∧ dy.toInt ≤ (20 : Int) := bI_t hw2 c3
    have zg5 : r1 = 1 := bI_t1 hw2 g5
    refine lv_iload_n hx hb dX3_weather_10 rfl (lv_at hl 2 rfl) ?_
    refine lv_sipush (v := (-400)) hx hb dX3_weather_11 (by decide) ?_
    refine lv_sipush (v := 200) hx hb dX3_weather_14 (by decide) ?_
    refine va_calli (va_runS (As := [.int lo, .int (-400), .int 200]) (rest := []) ⟨hx, hb, hml, hown, hts⟩ (rk_isWithin l lo (-400) 200 (-400) (200) (by decide) (by decide)) (va_cwS 3 hts gX3_weather_X3_isWithin rfl rfl rfl (by decide +kernel) ⟨Nat.le_of_ble_eq_true rfl, Nat.le_of_ble_eq_true rfl⟩) ⟨fun a U g mk q => q, fun U hU hW => ⟨rfl, trivial⟩⟩ rfl rfl hl.1 rfl (lv_room (Nat.le_of_ble_eq_true rfl)) dX3_weather_17 ⟨(Nat.le_of_ble_eq_true rfl), (Nat.le_of_ble_eq_true rfl)⟩) hS (fun q _ h => h.elim) (fun q h => h.elim) (fun r6 u t H locs ht hvm hw7 hB hz1 hk1 hS => ?_)
    have hM := hM.keep (fun p hp => hk1 p hp (fun z => z))
    have hw7 : r6 = bI ((-400 : Int) ≤ lo.toInt ∧ lo.toInt ≤ (200 : Int)) := hw7
    refine lv_if_eq (tgt := 56) hx hb dX3_weather_20 (by decide) (fun c8 => ?_) (fun c8 => ?_)
    · skip
      have g9 : ¬ ((-400 : Int) ≤ lo.toInt ∧ lo.toInt ≤ (200 : Int)) := bI_f hw7 c8
      have zg9 : r6 = 0 := bI_f0 hw7 g9
      obtain ⟨sa, hsa⟩ := hT.2.1 (58, "a number is out of range") (by decide +kernel)
      exact vx_throwS (A := (fun q => b ≤ q)) (own := RX3) (cls := "java/lang/IllegalArgumentException") (text := "a number is out of range") (names := exN) hx hb hlt hown (by decide +kernel) (by decide +kernel) (hts (.classLink RX3 56 "java/lang/IllegalArgumentException") (by decide +kernel)) (hts (.initialized "java/lang/IllegalArgumentException") (by decide +kernel)) hsa (th_hat hT (fun w h => hts w (List.mem_cons_of_mem _ (List.mem_append_left _ (List.mem_append_left _ (List.mem_append_right _ h))))) th_i1) (th_good th_i1) hT.2.2.2.1 hT.2.2.2.2 hS (hl.1.trans hml.symm) dX3_weather_56 dX3_weather_59 dX3_weather_60 dX3_weather_62 dX3_weather_65 (fun x h => (hnt x h).elim) (by decide) (Nat.le_of_ble_eq_true rfl) (Nat.le_of_ble_eq_true rfl) (Nat.le_of_ble_eq_true rfl) hlocks (fun t ha h1 h2 => ⟨(), trivial, ⟨(Or.inl ⟨rfl, by omega⟩), hM.keep h2⟩, th_F hS h1 h2⟩) hS.2.2 (Nat.le_of_ble_eq_true rfl) (Nat.le_of_ble_eq_true rfl)
    · skip
      have g10 : (-400 : Int) ≤ lo.toInt ∧ lo.toInt ≤ (200 : Int) := bI_t hw7 c8
      have zg10 : r6 = 1 := bI_t1 hw7 g10
      refine lv_iload_n hx hb dX3_weather_23 rfl (lv_at hl 3 rfl) ?_
      refine lv_iload_n hx hb dX3_weather_24 rfl (lv_at hl 2 rfl) ?_
      refine lv_sipush (v := 200) hx hb dX3_weather_25 (by decide) ?_
      refine va_calli (va_runS (As := [.int hi, .int lo, .int 200]) (rest := []) ⟨hx, hb, hml, hown, hts⟩ (rk_isWithin l hi lo 200 (lo.toInt) (200) rfl (by decide)) (va_cwS 3 hts gX3_weather_X3_isWithin rfl rfl rfl (by decide +kernel) ⟨Nat.le_of_ble_eq_true rfl, Nat.le_of_ble_eq_true rfl⟩) ⟨fun a U g mk q => q, fun U hU hW => ⟨rfl, trivial⟩⟩ rfl rfl hl.1 rfl (lv_room (Nat.le_of_ble_eq_true rfl)) dX3_weather_28 ⟨(Nat.le_of_ble_eq_true rfl), (Nat.le_of_ble_eq_true rfl)⟩) hS (fun q _ h => h.elim) (fun q h => h.elim) (fun r11 u t H locs ht hvm hw12 hB hz1 hk1 hS => ?_)
      have hM := hM.keep (fun p hp => hk1 p hp (fun z => z))
      have hw12 : r11 = bI ((lo.toInt : Int) ≤ hi.toInt ∧ hi.toInt ≤ (200 : Int)) := hw12
      refine lv_if_eq (tgt := 56) hx hb dX3_weather_31 (by decide) (fun c13 => ?_) (fun c13 => ?_)
      · skip
        have g14 : ¬ ((lo.toInt : Int) ≤ hi.toInt ∧ hi.toInt ≤ (200 : Int)) := bI_f hw12 c13
        have zg14 : r11 = 0 := bI_f0 hw12 g14
        obtain ⟨sa, hsa⟩ := hT.2.1 (58, "a number is out of range") (by decide +kernel)
        exact vx_throwS (A := (fun q => b ≤ q)) (own := RX3) (cls := "java/lang/IllegalArgumentException") (text := "a number is out of range") (names := exN) hx hb hlt hown (by decide +kernel) (by decide +kernel) (hts (.classLink RX3 56 "java/lang/IllegalArgumentException") (by decide +kernel)) (hts (.initialized "java/lang/IllegalArgumentException") (by decide +kernel)) hsa (th_hat hT (fun w h => hts w (List.mem_cons_of_mem _ (List.mem_append_left _ (List.mem_append_left _ (List.mem_append_right _ h))))) th_i1) (th_good th_i1) hT.2.2.2.1 hT.2.2.2.2 hS (hl.1.trans hml.symm) dX3_weather_56 dX3_weather_59 dX3_weather_60 dX3_weather_62 dX3_weather_65 (fun x h => (hnt x h).elim) (by decide) (Nat.le_of_ble_eq_true rfl) (Nat.le_of_ble_eq_true rfl) (Nat.le_of_ble_eq_true rfl) hlocks (fun t ha h1 h2 => ⟨(), trivial, ⟨(Or.inl ⟨rfl, by omega⟩), hM.keep h2⟩, th_F hS h1 h2⟩) hS.2.2 (Nat.le_of_ble_eq_true rfl) (Nat.le_of_ble_eq_true rfl)
      · skip
        have g15 : (lo.toInt : Int) ≤ hi.toInt ∧ hi.toInt ≤ (200 : Int) := bI_t hw12 c13
        have zg15 : r11 = 1 := bI_t1 hw12 g15
        refine lv_iload hx hb dX3_weather_34 (lv_at hl 4 rfl) ?_
        refine lv_iconst (v := 0) hx hb dX3_weather_36 (by decide) ?_
        refine lv_bipush (v := 30) hx hb dX3_weather_37 (by decide) ?_
        refine va_calli (va_runS (As := [.int wi, .int 0, .int 30]) (rest := []) ⟨hx, hb, hml, hown, hts⟩ (rk_isWithin l wi 0 30 (0) (30) (by decide) (by decide)) (va_cwS 3 hts gX3_weather_X3_isWithin rfl rfl rfl (by decide +kernel) ⟨Nat.le_of_ble_eq_true rfl, Nat.le_of_ble_eq_true rfl⟩) ⟨fun a U g mk q => q, fun U hU hW => ⟨rfl, trivial⟩⟩ rfl rfl hl.1 rfl (lv_room (Nat.le_of_ble_eq_true rfl)) dX3_weather_39 ⟨(Nat.le_of_ble_eq_true rfl), (Nat.le_of_ble_eq_true rfl)⟩) hS (fun q _ h => h.elim) (fun q h => h.elim) (fun r16 u t H locs ht hvm hw17 hB hz1 hk1 hS => ?_)
        have hM := hM.keep (fun p hp => hk1 p hp (fun z => z))
        have hw17 : r16 = bI ((0 : Int) ≤ wi.toInt ∧ wi.toInt ≤ (30 : Int)) := hw17
        refine lv_if_eq (tgt := 56) hx hb dX3_weather_42 (by decide) (fun c18 => ?_) (fun c18 => ?_)
        · skip
          have g19 : ¬ ((0 : Int) ≤ wi.toInt ∧ wi.toInt ≤ (30 : Int)) := bI_f hw17 c18
          have zg19 : r16 = 0 := bI_f0 hw17 g19
          obtain ⟨sa, hsa⟩ := hT.2.1 (58, "a number is out of range") (by decide +kernel)
          exact vx_throwS (A := (fun q => b ≤ q)) (own := RX3) (cls := "java/lang/IllegalArgumentException") (text := "a number is out of range") (names := exN) hx hb hlt hown (by decide +kernel) (by decide +kernel) (hts (.classLink RX3 56 "java/lang/IllegalArgumentException") (by decide +kernel)) (hts (.initialized "java/lang/IllegalArgumentException") (by decide +kernel)) hsa (th_hat hT (fun w h => hts w (List.mem_cons_of_mem _ (List.mem_append_left _ (List.mem_append_left _ (List.mem_append_right _ h))))) th_i1) (th_good th_i1) hT.2.2.2.1 hT.2.2.2.2 hS (hl.1.trans hml.symm) dX3_weather_56 dX3_weather_59 dX3_weather_60 dX3_weather_62 dX3_weather_65 (fun x h => (hnt x h).elim) (by decide) (Nat.le_of_ble_eq_true rfl) (Nat.le_of_ble_eq_true rfl) (Nat.le_of_ble_eq_true rfl) hlocks (fun t ha h1 h2 => ⟨(), trivial, ⟨(Or.inl ⟨rfl, by omega⟩), hM.keep h2⟩, th_F hS h1 h2⟩) hS.2.2 (Nat.le_of_ble_eq_true rfl) (Nat.le_of_ble_eq_true rfl)
        · skip
          have g20 : (0 : Int) ≤ wi.toInt ∧ wi.toInt ≤ (30 : Int) := bI_t hw17 c18
          have zg20 : r16 = 1 := bI_t1 hw17 g20
          refine lv_iload hx hb dX3_weather_45 (lv_at hl 5 rfl) ?_
          refine lv_iconst (v := 0) hx hb dX3_weather_47 (by decide) ?_
          refine lv_bipush (v := 100) hx hb dX3_weather_48 (by decide) ?_
          refine va_calli (va_runS (As := [.int hu, .int 0, .int 100]) (rest := []) ⟨hx, hb, hml, hown, hts⟩ (rk_isWithin l hu 0 100 (0) (100) (by decide) (by decide)) (va_cwS 3 hts gX3_weather_X3_isWithin rfl rfl rfl (by decide +kernel) ⟨Nat.le_of_ble_eq_true rfl, Nat.le_of_ble_eq_true rfl⟩) ⟨fun a U g mk q => q, fun U hU hW => ⟨rfl, trivial⟩⟩ rfl rfl hl.1 rfl (lv_room (Nat.le_of_ble_eq_true rfl)) dX3_weather_50 ⟨(Nat.le_of_ble_eq_true rfl), (Nat.le_of_ble_eq_true rfl)⟩) hS (fun q _ h => h.elim) (fun q h => h.elim) (fun r21 u t H locs ht hvm hw22 hB hz1 hk1 hS => ?_)
          have hM := hM.keep (fun p hp => hk1 p hp (fun z => z))
          have hw22 : r21 = bI ((0 : Int) ≤ hu.toInt ∧ hu.toInt ≤ (100 : Int)) := hw22
          refine lv_if_ne (tgt := 66) hx hb dX3_weather_53 (by decide) (fun c23 => ?_) (fun c23 => ?_)
          · skip
            have g24 : (0 : Int) ≤ hu.toInt ∧ hu.toInt ≤ (100 : Int) := bI_t hw22 c23
            have zg24 : r21 = 1 := bI_t1 hw22 g24
            obtain ⟨j, hj, rfl⟩ := toN (p := dy) (k := 20) (by omega) (by omega) (by decide)
            have hl : lv_has ls 7 [(0, .ref o), (1, .int (nI j)), (2, .int lo), (3, .int hi), (4, .int wi), (5, .int hu)] := hl
            have ej : (nI j).toInt = (j : Int) := nI_toInt (by omega)
            refine lv_aload_n hx hb dX3_weather_66 rfl (lv_at hl 0 rfl) ?_
            obtain ⟨u25, u26, u27, u28, hP, hf⟩ := o_sno (i := 0) (q := o) hM (by omega)
            refine va_get (D := (dC, dI)) (ci := 7) (v := .int (pI g o 1)) (C := RX3) (T := TX3) (N := 10) hx hb hts (by decide +kernel) hown hK hP 0 rfl rfl 4 (by decide) (hts (.fieldLink RX3 33 "Snowpalace" "clock" "I") (by decide +kernel)) (fun _ h9 => h9) rfl dX3_weather_67 ?_
            have hv29 := hf.2.2.2.2.1
            refine lv_bipush (v := 24) hx hb dX3_weather_70 (by decide) ?_
            refine lv_iload_n hx hb dX3_weather_72 rfl (lv_at hl 1 rfl) ?_
            refine lv_imul hx hb dX3_weather_73 ?_
            refine lv_topi (fun v30 e31 => ?_)
            obtain rfl : v30 = nI (24 * j) := e31.trans (pk_mul 24 j)
            refine lv_icmp_le (tgt := 87) hx hb dX3_weather_74 (by decide) (fun c32 => ?_) (fun c32 => ?_)
            · skip
              have i33 := (Int32.le_iff_toInt_le).mp c32
              have ii33 : ((nI (24 * j)) : Int32).toInt = (((24 * j) : Nat) : Int) := nI_toInt (by omega)
              have i33 := i33
              refine lv_aload_n hx hb dX3_weather_87 rfl (lv_at hl 0 rfl) ?_
              obtain ⟨u34, u35, u36, u37, hP, hf⟩ := o_sno (i := 0) (q := o) hM (by omega)
              refine va_get (D := (dC, dI)) (ci := 7) (v := .ref (pF g o 0)) (C := RX3) (T := TX3) (N := 10) hx hb hts (by decide +kernel) hown hK hP 0 rfl rfl 0 (by decide) (hts (.fieldLink RX3 10 "Snowpalace" "sky" "LSnowpalace$Sky;") (by decide +kernel)) (fun _ h9 => h9) rfl dX3_weather_88 ?_
              have ht38 : tg g (pF g o 0) = 2 := hf.1
              obtain ⟨hP, hf⟩ := o_sky (i := 0) (q := (pF g o 0)) hM (by omega)
              refine va_get (D := (dC, dI)) (ci := 6) (v := .ref (pF g (pF g o 0) 0)) (C := RX2) (T := TX2) (N := 4) hx hb hts (by decide +kernel) hown hK hP 0 rfl rfl 0 (by decide) (hts (.fieldLink RX3 68 "Snowpalace$Sky" "lows" "[I") (by decide +kernel)) (fun _ h9 => h9) rfl dX3_weather_91 ?_
              have ht39 : tg g (pF g (pF g o 0) 0) = 5 := hf.1
              refine lv_iload_n hx hb dX3_weather_94 rfl (lv_at hl 1 rfl) ?_
              obtain ⟨hP, hf⟩ := o_lo (i := 0) (q := (pF g (pF g o 0) 0)) hM (by omega)
              refine va_iald (D := (dC, dI)) hx hb hK hP 0 0 rfl rfl (vp_in_nI (by omega) (by decide)) dX3_weather_95 ?_
              refine lv_topi (fun v40 e41 => ?_)
              have ec : ((nI j) : Int32).toNatClampNeg = j := nI_clamp (by omega)
              rw [ec] at e41
              subst e41
              refine lv_istore (lv' := [(6, .int (pI g (pF g (pF g o 0) 0) j)), (0, .ref o), (1, .int (nI j)), (2, .int lo), (3, .int hi), (4, .int wi), (5, .int hu)]) hx hb dX3_weather_96 hl (by decide) rfl (fun ls hl => ?_)
              refine lv_aload_n hx hb dX3_weather_98 rfl (lv_at hl 1 rfl) ?_
              obtain ⟨u42, u43, u44, u45, hP, hf⟩ := o_sno (i := 0) (q := o) hM (by omega)
              refine va_get (D := (dC, dI)) (ci := 7) (v := .ref (pF g o 0)) (C := RX3) (T := TX3) (N := 10) hx hb hts (by decide +kernel) hown hK hP 0 rfl rfl 0 (by decide) (hts (.fieldLink RX3 10 "Snowpalace" "sky" "LSnowpalace$Sky;") (by decide +kernel)) (fun _ h9 => h9) rfl dX3_weather_99 ?_
              obtain ⟨hP, hf⟩ := o_sky (i := 0) (q := (pF g o 0)) hM (by omega)
              refine va_get (D := (dC, dI)) (ci := 6) (v := .ref (pF g (pF g o 0) 0)) (C := RX2) (T := TX2) (N := 4) hx hb hts (by decide +kernel) hown hK hP 0 rfl rfl 0 (by decide) (hts (.fieldLink RX3 68 "Snowpalace$Sky" "lows" "[I") (by decide +kernel)) (fun _ h9 => h9) rfl dX3_weather_102 ?_
              refine lv_iload_n hx hb dX3_weather_105 rfl (lv_at hl 2 rfl) ?_
              refine lv_iload_n hx hb dX3_weather_106 rfl (lv_at hl 3 rfl) ?_
              obtain ⟨hP, hf⟩ := o_lo (i := 0) (q := (pF g (pF g o 0) 0)) hM (by omega)
              refine rt_iast (D := (dC, dI)) (t0 := 0) hx hb hK hP (hM.ge (by omega)) hS rfl (vp_in_nI (by omega) (by decide)) dX3_weather_107 (fun H locs hP hz ho hS => ?_)
              have ec : ((nI j) : Int32).toNatClampNeg = j := nI_clamp (by omega)
              rw [ec] at hP
              have hM0 := hM
              have hM := p_lo (i := 0) (f := upd (pI g (pF g (pF g o 0) 0)) j lo) hM (by omega) hP ho hf
              obtain ⟨g46, hg46⟩ : ∃ z, z = uI g (pF g (pF g o 0) 0) (upd (pI g (pF g (pF g o 0) 0)) j lo) := ⟨_, rfl⟩
              rw [← hg46] at hM
              have ht47 : tg g46 o = 1 := by rw [hg46]; exact hto
              have ht48 : tg g46 (pF g o 0) = 2 := by rw [hg46]; exact ht38
              have ht49 : tg g46 (pF g (pF g o 0) 0) = 5 := by rw [hg46]; exact ht39
              have hG : GOK g46 := by rw [hg46]; exact (hG.uI hM0 (Or.inl (by omega)))
              refine lv_aload_n hx hb dX3_weather_108 rfl (lv_at hl 1 rfl) ?_
              obtain ⟨u51, u52, u53, u54, hP, hf⟩ := o_sno (i := 0) (q := o) hM (by omega)
              refine va_get (D := (dC, dI)) (ci := 7) (v := .ref (pF g46 o 0)) (C := RX3) (T := TX3) (N := 10) hx hb hts (by decide +kernel) hown hK hP 0 rfl rfl 0 (by decide) (hts (.fieldLink RX3 10 "Snowpalace" "sky" "LSnowpalace$Sky;") (by decide +kernel)) (fun _ h9 => h9) rfl dX3_weather_109 ?_
              have ht55 : tg g46 (pF g46 o 0) = 2 := hf.1
              obtain ⟨hP, hf⟩ := o_sky (i := 0) (q := (pF g46 o 0)) hM (by omega)
              refine va_get (D := (dC, dI)) (ci := 6) (v := .ref (pF g46 (pF g46 o 0) 1)) (C := RX2) (T := TX2) (N := 4) hx hb hts (by decide +kernel) hown hK hP 0 rfl rfl 1 (by decide) (hts (.fieldLink RX3 72 "Snowpalace$Sky" "highs" "[I") (by decide +kernel)) (fun _ h9 => h9) rfl dX3_weather_112 ?_
              have ht56 : tg g46 (pF g46 (pF g46 o 0) 1) = 6 := hf.2.1
              refine lv_iload_n hx hb dX3_weather_115 rfl (lv_at hl 2 rfl) ?_
              refine lv_iload_n hx hb dX3_weather_116 rfl (lv_at hl 4 rfl) ?_
              obtain ⟨hP, hf⟩ := o_hi (i := 0) (q := (pF g46 (pF g46 o 0) 1)) hM (by omega)
              refine rt_iast (D := (dC, dI)) (t0 := 0) hx hb hK hP (hM.ge (by omega)) hS rfl (vp_in_nI (by omega) (by decide)) dX3_weather_117 (fun H locs hP hz ho hS => ?_)
              have ec : ((nI j) : Int32).toNatClampNeg = j := nI_clamp (by omega)
              rw [ec] at hP
              have hM0 := hM
              have hM := p_hi (i := 0) (f := upd (pI g46 (pF g46 (pF g46 o 0) 1)) j hi) hM (by omega) hP ho hf
              obtain ⟨g57, hg57⟩ : ∃ z, z = uI g46 (pF g46 (pF g46 o 0) 1) (upd (pI g46 (pF g46 (pF g46 o 0) 1)) j hi) := ⟨_, rfl⟩
              rw [← hg57] at hM
              have ht58 : tg g57 o = 1 := by rw [hg57]; exact ht47
              have ht59 : tg g57 (pF g o 0) = 2 := by rw [hg57]; exact ht48
              have ht60 : tg g57 (pF g (pF g o 0) 0) = 5 := by rw [hg57]; exact ht49
              have ht61 : tg g57 (pF g46 o 0) = 2 := by rw [hg57]; exact ht55
              have ht62 : tg g57 (pF g46 (pF g46 o 0) 1) = 6 := by rw [hg57]; exact ht56
              have hG : GOK g57 := by rw [hg57]; exact (hG.uI hM0 (Or.inl (by omega)))
              refine lv_aload_n hx hb dX3_weather_118 rfl (lv_at hl 1 rfl) ?_
              obtain ⟨u64, u65, u66, u67, hP, hf⟩ := o_sno (i := 0) (q := o) hM (by omega)
              refine va_get (D := (dC, dI)) (ci := 7) (v := .ref (pF g57 o 0)) (C := RX3) (T := TX3) (N := 10) hx hb hts (by decide +kernel) hown hK hP 0 rfl rfl 0 (by decide) (hts (.fieldLink RX3 10 "Snowpalace" "sky" "LSnowpalace$Sky;") (by decide +kernel)) (fun _ h9 => h9) rfl dX3_weather_119 ?_
              have ht68 : tg g57 (pF g57 o 0) = 2 := hf.1
              obtain ⟨hP, hf⟩ := o_sky (i := 0) (q := (pF g57 o 0)) hM (by omega)
              refine va_get (D := (dC, dI)) (ci := 6) (v := .ref (pF g57 (pF g57 o 0) 2)) (C := RX2) (T := TX2) (N := 4) hx hb hts (by decide +kernel) hown hK hP 0 rfl rfl 2 (by decide) (hts (.fieldLink RX3 75 "Snowpalace$Sky" "winds" "[I") (by decide +kernel)) (fun _ h9 => h9) rfl dX3_weather_122 ?_
              have ht69 : tg g57 (pF g57 (pF g57 o 0) 2) = 7 := hf.2.2.1
              refine lv_iload_n hx hb dX3_weather_125 rfl (lv_at hl 2 rfl) ?_
              refine lv_iload hx hb dX3_weather_126 (lv_at hl 5 rfl) ?_
              obtain ⟨hP, hf⟩ := o_wi (i := 0) (q := (pF g57 (pF g57 o 0) 2)) hM (by omega)
              refine rt_iast (D := (dC, dI)) (t0 := 0) hx hb hK hP (hM.ge (by omega)) hS rfl (vp_in_nI (by omega) (by decide)) dX3_weather_128 (fun H locs hP hz ho hS => ?_)
              have ec : ((nI j) : Int32).toNatClampNeg = j := nI_clamp (by omega)
              rw [ec] at hP
              have hM0 := hM
              have hM := p_wi (i := 0) (f := upd (pI g57 (pF g57 (pF g57 o 0) 2)) j wi) hM (by omega) hP ho hf
              obtain ⟨g70, hg70⟩ : ∃ z, z = uI g57 (pF g57 (pF g57 o 0) 2) (upd (pI g57 (pF g57 (pF g57 o 0) 2)) j wi) := ⟨_, rfl⟩
              rw [← hg70] at hM
              have ht71 : tg g70 o = 1 := by rw [hg70]; exact ht58
              have ht72 : tg g70 (pF g o 0) = 2 := by rw [hg70]; exact ht59
              have ht73 : tg g70 (pF g (pF g o 0) 0) = 5 := by rw [hg70]; exact ht60
              have ht74 : tg g70 (pF g46 o 0) = 2 := by rw [hg70]; exact ht61
              have ht75 : tg g70 (pF g46 (pF g46 o 0) 1) = 6 := by rw [hg70]; exact ht62
              have ht76 : tg g70 (pF g57 o 0) = 2 := by rw [hg70]; exact ht68
              have ht77 : tg g70 (pF g57 (pF g57 o 0) 2) = 7 := by rw [hg70]; exact ht69
              have hG : GOK g70 := by rw [hg70]; exact (hG.uI hM0 (Or.inl (by omega)))
              refine lv_aload_n hx hb dX3_weather_129 rfl (lv_at hl 1 rfl) ?_
              obtain ⟨u79, u80, u81, u82, hP, hf⟩ := o_sno (i := 0) (q := o) hM (by omega)
              refine va_get (D := (dC, dI)) (ci := 7) (v := .ref (pF g70 o 0)) (C := RX3) (T := TX3) (N := 10) hx hb hts (by decide +kernel) hown hK hP 0 rfl rfl 0 (by decide) (hts (.fieldLink RX3 10 "Snowpalace" "sky" "LSnowpalace$Sky;") (by decide +kernel)) (fun _ h9 => h9) rfl dX3_weather_130 ?_
              have ht83 : tg g70 (pF g70 o 0) = 2 := hf.1
              obtain ⟨hP, hf⟩ := o_sky (i := 0) (q := (pF g70 o 0)) hM (by omega)
              refine va_get (D := (dC, dI)) (ci := 6) (v := .ref (pF g70 (pF g70 o 0) 3)) (C := RX2) (T := TX2) (N := 4) hx hb hts (by decide +kernel) hown hK hP 0 rfl rfl 3 (by decide) (hts (.fieldLink RX3 78 "Snowpalace$Sky" "humidities" "[I") (by decide +kernel)) (fun _ h9 => h9) rfl dX3_weather_133 ?_
              have ht84 : tg g70 (pF g70 (pF g70 o 0) 3) = 8 := hf.2.2.2
              refine lv_iload_n hx hb dX3_weather_136 rfl (lv_at hl 2 rfl) ?_
              refine lv_iload hx hb dX3_weather_137 (lv_at hl 6 rfl) ?_
              obtain ⟨hP, hf⟩ := o_hu (i := 0) (q := (pF g70 (pF g70 o 0) 3)) hM (by omega)
              refine rt_iast (D := (dC, dI)) (t0 := 0) hx hb hK hP (hM.ge (by omega)) hS rfl (vp_in_nI (by omega) (by decide)) dX3_weather_139 (fun H locs hP hz ho hS => ?_)
              have ec : ((nI j) : Int32).toNatClampNeg = j := nI_clamp (by omega)
              rw [ec] at hP
              have hM0 := hM
              have hM := p_hu (i := 0) (f := upd (pI g70 (pF g70 (pF g70 o 0) 3)) j hu) hM (by omega) hP ho hf
              obtain ⟨g85, hg85⟩ : ∃ z, z = uI g70 (pF g70 (pF g70 o 0) 3) (upd (pI g70 (pF g70 (pF g70 o 0) 3)) j hu) := ⟨_, rfl⟩
              rw [← hg85] at hM
              have ht86 : tg g85 o = 1 := by rw [hg85]; exact ht71
              have ht87 : tg g85 (pF g o 0) = 2 := by rw [hg85]; exact ht72
              have ht88 : tg g85 (pF g (pF g o 0) 0) = 5 := by rw [hg85]; exact ht73
              have ht89 : tg g85 (pF g46 o 0) = 2 := by rw [hg85]; exact ht74
              have ht90 : tg g85 (pF g46 (pF g46 o 0) 1) = 6 := by rw [hg85]; exact ht75
              have ht91 : tg g85 (pF g57 o 0) = 2 := by rw [hg85]; exact ht76
              have ht92 : tg g85 (pF g57 (pF g57 o 0) 2) = 7 := by rw [hg85]; exact ht77
              have ht93 : tg g85 (pF g70 o 0) = 2 := by rw [hg85]; exact ht83
              have ht94 : tg g85 (pF g70 (pF g70 o 0) 3) = 8 := by rw [hg85]; exact ht84
              have hG : GOK g85 := by rw [hg85]; exact (hG.uI hM0 (Or.inl (by omega)))
              refine lv_iload hx hb dX3_weather_140 (lv_at hl 0 rfl) ?_
              refine vx_ret ?_
              refine W.widen (k := 1) (n := 6) (Nat.le_of_ble_eq_true rfl) (Nat.le_of_ble_eq_true rfl) ?_
              exact W.iret (v := (pI g (pF g (pF g o 0) 0) j)) hx hb hr (fun t ht hW => ⟨⟨(pI g (pF g (pF g o 0) 0) j), g85, rfl, ⟨(fun _ _ => by subst hg85 hg70 hg57 hg46; rfl), j, rfl, by omega, by omega, by omega, rfl, (by subst hg85 hg70 hg57 hg46; rfl)⟩, CX.give hb0 hM hK hG hE hS ht hW⟩, hS.F ht⟩) hS.2.2 dX3_weather_142
            · skip
              have i96 := fun z => c32 ((Int32.le_iff_toInt_le).mpr z)
              have ii96 : ((nI (24 * j)) : Int32).toInt = (((24 * j) : Nat) : Int) := nI_toInt (by omega)
              have i96 : ¬ (((pI g o 1) : Int32).toInt ≤ ((nI (24 * j)) : Int32).toInt) := i96
              obtain ⟨sa, hsa⟩ := hT.2.1 (65, "the day has begun") (by decide +kernel)
              exact vx_throwS (A := (fun q => b ≤ q)) (own := RX3) (cls := "java/lang/UnsupportedOperationException") (text := "the day has begun") (names := exN) hx hb hlt hown (by decide +kernel) (by decide +kernel) (hts (.classLink RX3 63 "java/lang/UnsupportedOperationException") (by decide +kernel)) (hts (.initialized "java/lang/UnsupportedOperationException") (by decide +kernel)) hsa (th_hat hT (fun w h => hts w (List.mem_cons_of_mem _ (List.mem_append_left _ (List.mem_append_right _ h)))) th_i2) (th_good th_i2) hT.2.2.2.1 hT.2.2.2.2 hS (hl.1.trans hml.symm) dX3_weather_77 dX3_weather_80 dX3_weather_81 dX3_weather_83 dX3_weather_86 (fun x h => (hnt x h).elim) (by decide) (Nat.le_of_ble_eq_true rfl) (Nat.le_of_ble_eq_true rfl) (Nat.le_of_ble_eq_true rfl) hlocks (fun t ha h1 h2 => ⟨(), trivial, ⟨(Or.inr (⟨rfl, by omega⟩)), hM.keep h2⟩, th_F hS h1 h2⟩) hS.2.2 (Nat.le_of_ble_eq_true rfl) (Nat.le_of_ble_eq_true rfl)
          · skip
            have g97 : ¬ ((0 : Int) ≤ hu.toInt ∧ hu.toInt ≤ (100 : Int)) := bI_f hw22 c23
            have zg97 : r21 = 0 := bI_f0 hw22 g97
            obtain ⟨sa, hsa⟩ := hT.2.1 (58, "a number is out of range") (by decide +kernel)
            exact vx_throwS (A := (fun q => b ≤ q)) (own := RX3) (cls := "java/lang/IllegalArgumentException") (text := "a number is out of range") (names := exN) hx hb hlt hown (by decide +kernel) (by decide +kernel) (hts (.classLink RX3 56 "java/lang/IllegalArgumentException") (by decide +kernel)) (hts (.initialized "java/lang/IllegalArgumentException") (by decide +kernel)) hsa (th_hat hT (fun w h => hts w (List.mem_cons_of_mem _ (List.mem_append_left _ (List.mem_append_left _ (List.mem_append_right _ h))))) th_i1) (th_good th_i1) hT.2.2.2.1 hT.2.2.2.2 hS (hl.1.trans hml.symm) dX3_weather_56 dX3_weather_59 dX3_weather_60 dX3_weather_62 dX3_weather_65 (fun x h => (hnt x h).elim) (by decide) (Nat.le_of_ble_eq_true rfl) (Nat.le_of_ble_eq_true rfl) (Nat.le_of_ble_eq_true rfl) hlocks (fun t ha h1 h2 => ⟨(), trivial, ⟨(Or.inl ⟨rfl, by omega⟩), hM.keep h2⟩, th_F hS h1 h2⟩) hS.2.2 (Nat.le_of_ble_eq_true rfl) (Nat.le_of_ble_eq_true rfl)

set_option maxHeartbeats 4000000 in
set_option maxRecDepth 100000 in
theorem rf_warmth (l : Launch) (hlt : l.stackTraces = false) (dC : Nat → ClassId) (dI : Nat → Nat → Nat) (kA : Nat → ClassId) (eD b : Nat) (g : Gh) (o : Nat) (hou : Int32) (hto : tg g o = 1)  : vx_Met l yX3_warmth wsX3_warmth ({ frames := 6, cells := 1, slots := 6, locals := 82 }) (va_Pc [.ref o, .int hou] (CX (dC, dI) kA eD b g)) (va_Qi (fun (r : Int32) (u : Unit) => (0 ≤ hou.toInt ∧ hou.toInt ≤ 504) ∧ r = wOf (pI g (pF g (pF g o 0) 0)) (pI g (pF g (pF g o 0) 1)) hou) (fun (u : Unit) t => CX (dC, dI) kA eD b g t) (fun q => b ≤ q)) (vx_X (fun _ : Unit => True) (fun E _ t => ((E = "java/lang/IllegalArgumentException" ∧ ¬ (0 ≤ hou.toInt ∧ hou.toInt ≤ 504))) ∧ TM (dC, dI) kA b g t.heap) (fun q => b ≤ q)) 1 6 (fun q => b ≤ q) := by
  refine vx_ofW (cc := cX3_warmth) (maxL := 2) (ret := (some .int)) (by decide +kernel) rfl ?_
  intro p e s m args below meth c s₁ B hml hnt hv
  obtain ⟨rfl, hb0, hM, hK, hG, hE⟩ := hv
  have hx := B.exec
  have hb := B.bytes
  have hr := B.returns
  have hts := atoms_spec (ws := wsX3_warmth) B.pre
  have hown : s.vm.findClass RX3 = some m.cls := findClass_of_methodNamed B.named
  have hlocks := B.notSynchronized
  have hT := hE.1
  have hN := hE.2.2.2.2.2.2.2.1
  have hS : va_S (fun q => b ≤ q) s.heap s.heap [] := va_S.rf
  have hl := lv_entry ([.ref o, .int hou]) (n := 2) (Nat.le_of_ble_eq_true rfl)
  rw [lg_entry_eq]
  generalize (lg_sl ([.ref o, .int hou]) ++ List.replicate (2 - (lg_sl ([.ref o, .int hou])).length) Slot.unset).toArray = ls at hl ⊢
  have hl : lv_has ls 2 [(0, .ref o), (1, .int hou)] := hl
  generalize ([.ref o, .int hou] : List Value).toArray = args at hts ⊢
  refine lv_iload_n hx hb dX3_warmth_0 rfl (lv_at hl 1 rfl) ?_
  refine lv_iconst (v := 0) hx hb dX3_warmth_1 (by decide) ?_
  refine lv_sipush (v := 504) hx hb dX3_warmth_2 (by decide) ?_
  refine va_calli (va_runS (As := [.int hou, .int 0, .int 504]) (rest := []) ⟨hx, hb, hml, hown, hts⟩ (rk_isWithin l hou 0 504 (0) (504) (by decide) (by decide)) (va_cwS 3 hts gX3_warmth_X3_isWithin rfl rfl rfl (by decide +kernel) ⟨Nat.le_of_ble_eq_true rfl, Nat.le_of_ble_eq_true rfl⟩) ⟨fun a U g mk q => q, fun U hU hW => ⟨rfl, trivial⟩⟩ rfl rfl hl.1 rfl (lv_room (Nat.le_of_ble_eq_true rfl)) dX3_warmth_5 ⟨(Nat.le_of_ble_eq_true rfl), (Nat.le_of_ble_eq_true rfl)⟩) hS (fun q _ h => h.elim) (fun q h => h.elim) (fun r1 u t H locs ht hvm hw2 hB hz1 hk1 hS => ?_)
  have hM := hM.keep (fun p hp => hk1 p hp (fun z => z))
  have hw2 : r1 = bI ((0 : Int) ≤ hou.toInt ∧ hou.toInt ≤ (504 : Int)) := hw2
  refine lv_if_ne (tgt := 21) hx hb dX3_warmth_8 (by decide) (fun c3 => ?_) (fun c3 => ?_)
  · skip
    have g4 : (0 : Int) ≤ hou.toInt ∧ hou.toInt ≤ (504 : Int) := bI_t hw2 c3
    have zg4 : r1 = 1 := bI_t1 hw2 g4
    refine lv_aload_n hx hb dX3_warmth_21 rfl (lv_at hl 0 rfl) ?_
    obtain ⟨u5, u6, u7, u8, hP, hf⟩ := o_sno (i := 0) (q := o) hM (by omega)
    refine va_get (D := (dC, dI)) (ci := 7) (v := .ref (pF g o 0)) (C := RX3) (T := TX3) (N := 10) hx hb hts (by decide +kernel) hown hK hP 0 rfl rfl 0 (by decide) (hts (.fieldLink RX3 10 "Snowpalace" "sky" "LSnowpalace$Sky;") (by decide +kernel)) (fun _ h9 => h9) rfl dX3_warmth_22 ?_
    have ht9 : tg g (pF g o 0) = 2 := hf.1
    refine lv_iload_n hx hb dX3_warmth_25 rfl (lv_at hl 1 rfl) ?_
    obtain ⟨hP, hf⟩ := o_sky (i := 0) (q := (pF g o 0)) hM (by omega)
    refine va_calli (va_runV (As := [.int hou]) (rest := []) ⟨hx, hb, hml, hown, hts⟩ (rk_warmthOf l dC dI kA eD b g (pF g o 0) hou (by omega)) (cwV 1 hts gX3_warmth_X2_warmthOf rfl rfl rfl (by decide +kernel) ⟨Nat.le_of_ble_eq_true rfl, Nat.le_of_ble_eq_true rfl⟩) ⟨fb_CX, va_recv hK hP (ci := 6) (q0 := 0) rfl rfl, fun U hU hW => ⟨rfl, CX.give hb0 hM hK hG hE hS hU hW⟩⟩ rfl rfl hl.1 rfl (lv_room (Nat.le_of_ble_eq_true rfl)) dX3_warmth_26 ⟨(Nat.le_of_ble_eq_true rfl), (Nat.le_of_ble_eq_true rfl)⟩) hS (fun q _ h => h) (fun q h => h) (fun r10 u t H locs ht hvm hw11 hB hz1 hk1 hS => ?_)
    have hM := hB.back ht
    have hG := hB.2.2.2.1
    refine vx_ret ?_
    refine W.widen (k := 1) (n := 6) (Nat.le_of_ble_eq_true rfl) (Nat.le_of_ble_eq_true rfl) ?_
    exact W.iret (v := r10) hx hb hr (fun t ht hW => ⟨⟨r10, (), rfl, ⟨by omega, hw11⟩, CX.give hb0 hM hK hG hE hS ht hW⟩, hS.F ht⟩) hS.2.2 dX3_warmth_29
  · skip
    have g12 : ¬ ((0 : Int) ≤ hou.toInt ∧ hou.toInt ≤ (504 : Int)) := bI_f hw2 c3
    have zg12 : r1 = 0 := bI_f0 hw2 g12
    obtain ⟨sa, hsa⟩ := hT.2.1 (81, "no such hour") (by decide +kernel)
    exact vx_throwS (A := (fun q => b ≤ q)) (own := RX3) (cls := "java/lang/IllegalArgumentException") (text := "no such hour") (names := exN) hx hb hlt hown (by decide +kernel) (by decide +kernel) (hts (.classLink RX3 56 "java/lang/IllegalArgumentException") (by decide +kernel)) (hts (.initialized "java/lang/IllegalArgumentException") (by decide +kernel)) hsa (th_hat hT (fun w h => hts w (List.mem_cons_of_mem _ (List.mem_append_left _ (List.mem_append_right _ h)))) th_i1) (th_good th_i1) hT.2.2.2.1 hT.2.2.2.2 hS (hl.1.trans hml.symm) dX3_warmth_11 dX3_warmth_14 dX3_warmth_15 dX3_warmth_17 dX3_warmth_20 (fun x h => (hnt x h).elim) (by decide) (Nat.le_of_ble_eq_true rfl) (Nat.le_of_ble_eq_true rfl) (Nat.le_of_ble_eq_true rfl) hlocks (fun t ha h1 h2 => ⟨(), trivial, ⟨(⟨rfl, by omega⟩), hM.keep h2⟩, th_F hS h1 h2⟩) hS.2.2 (Nat.le_of_ble_eq_true rfl) (Nat.le_of_ble_eq_true rfl)

set_option maxHeartbeats 4000000 in
set_option maxRecDepth 100000 in
theorem rf_wet (l : Launch) (hlt : l.stackTraces = false) (dC : Nat → ClassId) (dI : Nat → Nat → Nat) (kA : Nat → ClassId) (eD b : Nat) (g : Gh) (o : Nat) (hou : Int32) (hto : tg g o = 1)  : vx_Met l yX3_wet wsX3_wet ({ frames := 6, cells := 1, slots := 6, locals := 82 }) (va_Pc [.ref o, .int hou] (CX (dC, dI) kA eD b g)) (va_Qi (fun (r : Int32) (u : Unit) => (0 ≤ hou.toInt ∧ hou.toInt ≤ 503) ∧ r = xOf (pI g (pF g (pF g o 0) 0)) (pI g (pF g (pF g o 0) 1)) (pI g (pF g (pF g o 0) 3)) hou) (fun (u : Unit) t => CX (dC, dI) kA eD b g t) (fun q => b ≤ q)) (vx_X (fun _ : Unit => True) (fun E _ t => ((E = "java/lang/IllegalArgumentException" ∧ ¬ (0 ≤ hou.toInt ∧ hou.toInt ≤ 503))) ∧ TM (dC, dI) kA b g t.heap) (fun q => b ≤ q)) 1 6 (fun q => b ≤ q) := by
  refine vx_ofW (cc := cX3_wet) (maxL := 2) (ret := (some .int)) (by decide +kernel) rfl ?_
  intro p e s m args below meth c s₁ B hml hnt hv
  obtain ⟨rfl, hb0, hM, hK, hG, hE⟩ := hv
  have hx := B.exec
  have hb := B.bytes
  have hr := B.returns
  have hts := atoms_spec (ws := wsX3_wet) B.pre
  have hown : s.vm.findClass RX3 = some m.cls := findClass_of_methodNamed B.named
  have hlocks := B.notSynchronized
  have hT := hE.1
  have hN := hE.2.2.2.2.2.2.2.1
  have hS : va_S (fun q => b ≤ q) s.heap s.heap [] := va_S.rf
  have hl := lv_entry ([.ref o, .int hou]) (n := 2) (Nat.le_of_ble_eq_true rfl)
  rw [lg_entry_eq]
  generalize (lg_sl ([.ref o, .int hou]) ++ List.replicate (2 - (lg_sl ([.ref o, .int hou])).length) Slot.unset).toArray = ls at hl ⊢
  have hl : lv_has ls 2 [(0, .ref o), (1, .int hou)] := hl
  generalize ([.ref o, .int hou] : List Value).toArray = args at hts ⊢
  refine lv_iload_n hx hb dX3_wet_0 rfl (lv_at hl 1 rfl) ?_
  refine lv_iconst (v := 0) hx hb dX3_wet_1 (by decide) ?_
  refine lv_sipush (v := 503) hx hb dX3_wet_2 (by decide) ?_
  refine va_calli (va_runS (As := [.int hou, .int 0, .int 503]) (rest := []) ⟨hx, hb, hml, hown, hts⟩ (rk_isWithin l hou 0 503 (0) (503) (by decide) (by decide)) (va_cwS 3 hts gX3_wet_X3_isWithin rfl rfl rfl (by decide +kernel) ⟨Nat.le_of_ble_eq_true rfl, Nat.le_of_ble_eq_true rfl⟩) ⟨fun a U g mk q => q, fun U hU hW => ⟨rfl, trivial⟩⟩ rfl rfl hl.1 rfl (lv_room (Nat.le_of_ble_eq_true rfl)) dX3_wet_5 ⟨(Nat.le_of_ble_eq_true rfl), (Nat.le_of_ble_eq_true rfl)⟩) hS (fun q _ h => h.elim) (fun q h => h.elim) (fun r1 u t H locs ht hvm hw2 hB hz1 hk1 hS => ?_)
  have hM := hM.keep (fun p hp => hk1 p hp (fun z => z))
  have hw2 : r1 = bI ((0 : Int) ≤ hou.toInt ∧ hou.toInt ≤ (503 : Int)) := hw2
  refine lv_if_ne (tgt := 21) hx hb dX3_wet_8 (by decide) (fun c3 => ?_) (fun c3 => ?_)
  · skip
    have g4 : (0 : Int) ≤ hou.toInt ∧ hou.toInt ≤ (503 : Int) := bI_t hw2 c3
    have zg4 : r1 = 1 := bI_t1 hw2 g4
    refine lv_aload_n hx hb dX3_wet_21 rfl (lv_at hl 0 rfl) ?_
    obtain ⟨u5, u6, u7, u8, hP, hf⟩ := o_sno (i := 0) (q := o) hM (by omega)
    refine va_get (D := (dC, dI)) (ci := 7) (v := .ref (pF g o 0)) (C := RX3) (T := TX3) (N := 10) hx hb hts (by decide +kernel) hown hK hP 0 rfl rfl 0 (by decide) (hts (.fieldLink RX3 10 "Snowpalace" "sky" "LSnowpalace$Sky;") (by decide +kernel)) (fun _ h9 => h9) rfl dX3_wet_22 ?_
    have ht9 : tg g (pF g o 0) = 2 := hf.1
    refine lv_iload_n hx hb dX3_wet_25 rfl (lv_at hl 1 rfl) ?_
    obtain ⟨hP, hf⟩ := o_sky (i := 0) (q := (pF g o 0)) hM (by omega)
    refine va_calli (va_runV (As := [.int hou]) (rest := []) ⟨hx, hb, hml, hown, hts⟩ (rk_wetWarmthOf l dC dI kA eD b g (pF g o 0) hou (by omega)) (cwV 1 hts gX3_wet_X2_wetWarmthOf rfl rfl rfl (by decide +kernel) ⟨Nat.le_of_ble_eq_true rfl, Nat.le_of_ble_eq_true rfl⟩) ⟨fb_CX, va_recv hK hP (ci := 6) (q0 := 0) rfl rfl, fun U hU hW => ⟨rfl, CX.give hb0 hM hK hG hE hS hU hW⟩⟩ rfl rfl hl.1 rfl (lv_room (Nat.le_of_ble_eq_true rfl)) dX3_wet_26 ⟨(Nat.le_of_ble_eq_true rfl), (Nat.le_of_ble_eq_true rfl)⟩) hS (fun q _ h => h) (fun q h => h) (fun r10 u t H locs ht hvm hw11 hB hz1 hk1 hS => ?_)
    have hM := hB.back ht
    have hG := hB.2.2.2.1
    refine vx_ret ?_
    refine W.widen (k := 1) (n := 6) (Nat.le_of_ble_eq_true rfl) (Nat.le_of_ble_eq_true rfl) ?_
    exact W.iret (v := r10) hx hb hr (fun t ht hW => ⟨⟨r10, (), rfl, ⟨by omega, hw11⟩, CX.give hb0 hM hK hG hE hS ht hW⟩, hS.F ht⟩) hS.2.2 dX3_wet_29
  · skip
    have g12 : ¬ ((0 : Int) ≤ hou.toInt ∧ hou.toInt ≤ (503 : Int)) := bI_f hw2 c3
    have zg12 : r1 = 0 := bI_f0 hw2 g12
    obtain ⟨sa, hsa⟩ := hT.2.1 (81, "no such hour") (by decide +kernel)
    exact vx_throwS (A := (fun q => b ≤ q)) (own := RX3) (cls := "java/lang/IllegalArgumentException") (text := "no such hour") (names := exN) hx hb hlt hown (by decide +kernel) (by decide +kernel) (hts (.classLink RX3 56 "java/lang/IllegalArgumentException") (by decide +kernel)) (hts (.initialized "java/lang/IllegalArgumentException") (by decide +kernel)) hsa (th_hat hT (fun w h => hts w (List.mem_cons_of_mem _ (List.mem_append_left _ (List.mem_append_right _ h)))) th_i1) (th_good th_i1) hT.2.2.2.1 hT.2.2.2.2 hS (hl.1.trans hml.symm) dX3_wet_11 dX3_wet_14 dX3_wet_15 dX3_wet_17 dX3_wet_20 (fun x h => (hnt x h).elim) (by decide) (Nat.le_of_ble_eq_true rfl) (Nat.le_of_ble_eq_true rfl) (Nat.le_of_ble_eq_true rfl) hlocks (fun t ha h1 h2 => ⟨(), trivial, ⟨(⟨rfl, by omega⟩), hM.keep h2⟩, th_F hS h1 h2⟩) hS.2.2 (Nat.le_of_ble_eq_true rfl) (Nat.le_of_ble_eq_true rfl)

set_option maxHeartbeats 4000000 in
set_option maxRecDepth 100000 in
theorem rf_now (l : Launch) (dC : Nat → ClassId) (dI : Nat → Nat → Nat) (kA : Nat → ClassId) (eD b : Nat) (g : Gh) (o : Nat)  (hto : tg g o = 1)  : Met l yX3_now wsX3_now ({ frames := 0, cells := 0, slots := 0, locals := 0 }) (va_Pc [.ref o] (CX (dC, dI) kA eD b g)) (va_Qi (fun (r : Int32) (u : Unit) => r = pI g o 1) (fun (u : Unit) t => CX (dC, dI) kA eD b g t) (fun q => b ≤ q)) 0 0 (fun q => b ≤ q) := by
  refine Met.ofW (cc := cX3_now) (maxL := 1) (ret := (some .int)) (by decide +kernel) rfl ?_
  intro p e s m args below meth c s₁ B hml hv
  obtain ⟨rfl, hb0, hM, hK, hG, hE⟩ := hv
  have hx := B.exec
  have hb := B.bytes
  have hr := B.returns
  have hts := atoms_spec (ws := wsX3_now) B.pre
  have hown : s.vm.findClass RX3 = some m.cls := findClass_of_methodNamed B.named
  have hlocks := B.notSynchronized
  have hT := hE.1
  have hN := hE.2.2.2.2.2.2.2.1
  have hS : va_S (fun q => b ≤ q) s.heap s.heap [] := va_S.rf
  have hl := lv_entry ([.ref o]) (n := 1) (Nat.le_of_ble_eq_true rfl)
  rw [lg_entry_eq]
  generalize (lg_sl ([.ref o]) ++ List.replicate (1 - (lg_sl ([.ref o])).length) Slot.unset).toArray = ls at hl ⊢
  have hl : lv_has ls 1 [(0, .ref o)] := hl
  generalize ([.ref o] : List Value).toArray = args at hts ⊢
  refine lv_aload_n hx hb dX3_now_0 rfl (lv_at hl 0 rfl) ?_
  obtain ⟨u1, u2, u3, u4, hP, hf⟩ := o_sno (i := 0) (q := o) hM (by omega)
  refine va_get (D := (dC, dI)) (ci := 7) (v := .int (pI g o 1)) (C := RX3) (T := TX3) (N := 10) hx hb hts (by decide +kernel) hown hK hP 0 rfl rfl 4 (by decide) (hts (.fieldLink RX3 33 "Snowpalace" "clock" "I") (by decide +kernel)) (fun _ h9 => h9) rfl dX3_now_1 ?_
  have hv5 := hf.2.2.2.2.1
  refine W.widen (k := 0) (n := 0) (Nat.le_of_ble_eq_true rfl) (Nat.le_of_ble_eq_true rfl) ?_
  exact W.iret (v := (pI g o 1)) hx hb hr (fun t ht hW => ⟨⟨(pI g o 1), (), rfl, rfl, CX.give hb0 hM hK hG hE hS ht hW⟩, hS.F ht⟩) hS.2.2 dX3_now_4

set_option maxHeartbeats 4000000 in
set_option maxRecDepth 100000 in
theorem rf_machine (l : Launch) (dC : Nat → ClassId) (dI : Nat → Nat → Nat) (kA : Nat → ClassId) (eD b : Nat) (g : Gh) (o : Nat) (is : Int32) (hto : tg g o = 1) (his : is = 0 ∨ is = 1) : Met l yX3_machine wsX3_machine ({ frames := 0, cells := 0, slots := 0, locals := 0 }) (va_Pc [.ref o, .int is] (CX (dC, dI) kA eD b g)) (va_Qi (fun (r : Int32) (u : Gh) => (∀ a : Nat, tg g a ≠ 0 → tg u a = tg g a) ∧ r = pI g o 2 ∧ u = sI g o 2 is) (fun (u : Gh) t => CX (dC, dI) kA eD b u t) (fun q => b ≤ q)) 0 0 (fun q => b ≤ q) := by
  refine Met.ofW (cc := cX3_machine) (maxL := 3) (ret := (some .boolean)) (by decide +kernel) rfl ?_
  intro p e s m args below meth c s₁ B hml hv
  obtain ⟨rfl, hb0, hM, hK, hG, hE⟩ := hv
  have hx := B.exec
  have hb := B.bytes
  have hr := B.returns
  have hts := atoms_spec (ws := wsX3_machine) B.pre
  have hown : s.vm.findClass RX3 = some m.cls := findClass_of_methodNamed B.named
  have hlocks := B.notSynchronized
  have hT := hE.1
  have hN := hE.2.2.2.2.2.2.2.1
  have hS : va_S (fun q => b ≤ q) s.heap s.heap [] := va_S.rf
  have hl := lv_entry ([.ref o, .int is]) (n := 3) (Nat.le_of_ble_eq_true rfl)
  rw [lg_entry_eq]
  generalize (lg_sl ([.ref o, .int is]) ++ List.replicate (3 - (lg_sl ([.ref o, .int is])).length) Slot.unset).toArray = ls at hl ⊢
  have hl : lv_has ls 3 [(0, .ref o), (1, .int is)] := hl
  generalize ([.ref o, .int is] : List Value).toArray = args at hts ⊢
  refine lv_aload_n hx hb dX3_machine_0 rfl (lv_at hl 0 rfl) ?_
  obtain ⟨u1, u2, u3, u4, hP, hf⟩ := o_sno (i := 0) (q := o) hM (by omega)
  refine va_get (D := (dC, dI)) (ci := 7) (v := .int (pI g o 2)) (C := RX3) (T := TX3) (N := 10) hx hb hts (by decide +kernel) hown hK hP 0 rfl rfl 8 (by decide) (hts (.fieldLink RX3 45 "Snowpalace" "machineIsOn" "Z") (by decide +kernel)) (fun _ h9 => h9) rfl dX3_machine_1 ?_
  have hv5 := hf.2.2.2.2.2
  refine lv_istore_n (lv' := [(2, .int (pI g o 2)), (0, .ref o), (1, .int is)]) hx hb dX3_machine_4 rfl hl (by decide) rfl (fun ls hl => ?_)
  refine lv_aload_n hx hb dX3_machine_5 rfl (lv_at hl 1 rfl) ?_
  refine lv_iload_n hx hb dX3_machine_6 rfl (lv_at hl 2 rfl) ?_
  obtain ⟨u6, u7, u8, u9, hP, hf⟩ := o_sno (i := 0) (q := o) hM (by omega)
  refine rt_put (D := (dC, dI)) (ci := 7) (v := .int is) (ty := .boolean) (C := RX3) (T := TX3) (N := 10) hx hb hts (by decide +kernel) tyX3 tyX3_ok nmX3 hown hK hP (hM.ge (by omega)) hS rfl 8 (by decide) (hts (.fieldLink RX3 45 "Snowpalace" "machineIsOn" "Z") (by decide +kernel)) (fun _ h9 => h9) rfl (by decide +kernel) (z01n his) (z01f his) (Nat.le_of_ble_eq_true rfl) dX3_machine_7 (fun H locs hP hz ho hS => ?_)
  have hM0 := hM
  have hM := p_sno (i := 0) (f := upd (pI g o) 2 is) hM (by omega) hP ho ⟨hf.1, hf.2.1, hf.2.2.1, hf.2.2.2.1, hf.2.2.2.2.1, his⟩
  obtain ⟨g11, hg11⟩ : ∃ z, z = uI g o (upd (pI g o) 2 is) := ⟨_, rfl⟩
  rw [← hg11] at hM
  have ht12 : tg g11 o = 1 := by rw [hg11]; exact hto
  have hG : GOK g11 := by rw [hg11]; exact (hG.uI hM0 (Or.inr rfl))
  refine lv_iload_n hx hb dX3_machine_10 rfl (lv_at hl 0 rfl) ?_
  refine W.widen (k := 0) (n := 0) (Nat.le_of_ble_eq_true rfl) (Nat.le_of_ble_eq_true rfl) ?_
  exact W.zret (v := (pI g o 2)) (ty := .boolean) hx hb hr (z01n hv5) (fun t ht hW => ⟨⟨(pI g o 2), g11, rfl, ⟨(fun _ _ => by subst hg11; rfl), rfl, (by subst hg11; rfl)⟩, CX.give hb0 hM hK hG hE hS ht hW⟩, hS.F ht⟩) hS.2.2 dX3_machine_11

set_option maxHeartbeats 4000000 in
set_option maxRecDepth 100000 in
theorem rf_cover (l : Launch) (hlt : l.stackTraces = false) (dC : Nat → ClassId) (dI : Nat → Nat → Nat) (kA : Nat → ClassId) (eD b : Nat) (g : Gh) (o : Nat) (site : Int32) (is : Int32) (hto : tg g o = 1) (his : is = 0 ∨ is = 1) : vx_Met l yX3_cover wsX3_cover ({ frames := 6, cells := 1, slots := 6, locals := 82 }) (va_Pc [.ref o, .int site, .int is] (CX (dC, dI) kA eD b g)) (va_Qi (fun (r : Int32) (u : Gh) => (∀ a : Nat, tg g a ≠ 0 → tg u a = tg g a) ∧ ∃ j a, site = nI j ∧ (j : Int) < (pI g o 0).toInt ∧ pO g (pF g o 2) j = some a ∧ r = pI g a 0 ∧ u = sI g a 0 is) (fun (u : Gh) t => CX (dC, dI) kA eD b u t) (fun q => b ≤ q)) (vx_X (fun _ : Unit => True) (fun E _ t => ((E = "java/lang/IndexOutOfBoundsException" ∧ ¬ (0 ≤ site.toInt ∧ site.toInt < (pI g o 0).toInt))) ∧ TM (dC, dI) kA b g t.heap) (fun q => b ≤ q)) 1 6 (fun q => b ≤ q) := by
  refine vx_ofW (cc := cX3_cover) (maxL := 5) (ret := (some .boolean)) (by decide +kernel) rfl ?_
  intro p e s m args below meth c s₁ B hml hnt hv
  obtain ⟨rfl, hb0, hM, hK, hG, hE⟩ := hv
  have hx := B.exec
  have hb := B.bytes
  have hr := B.returns
  have hts := atoms_spec (ws := wsX3_cover) B.pre
  have hown : s.vm.findClass RX3 = some m.cls := findClass_of_methodNamed B.named
  have hlocks := B.notSynchronized
  have hT := hE.1
  have hN := hE.2.2.2.2.2.2.2.1
  have hS : va_S (fun q => b ≤ q) s.heap s.heap [] := va_S.rf
  have hl := lv_entry ([.ref o, .int site, .int is]) (n := 5) (Nat.le_of_ble_eq_true rfl)
  rw [lg_entry_eq]
  generalize (lg_sl ([.ref o, .int site, .int is]) ++ List.replicate (5 - (lg_sl ([.ref o, .int site, .int is])).length) Slot.unset).toArray = ls at hl ⊢
  have hl : lv_has ls 5 [(0, .ref o), (1, .int site), (2, .int is)] := hl
  generalize ([.ref o, .int site, .int is] : List Value).toArray = args at hts ⊢
  refine lv_aload_n hx hb dX3_cover_0 rfl (lv_at hl 0 rfl) ?_
  refine lv_iload_n hx hb dX3_cover_1 rfl (lv_at hl 1 rfl) ?_
  obtain ⟨u1, u2, u3, u4, hP, hf⟩ := o_sno (i := 0) (q := o) hM (by omega)
  refine va_callq (va_runV (As := [.int site]) (rest := []) ⟨hx, hb, hml, hown, hts⟩ (rk_numberedSite l dC dI kA eD b g o site (by omega)) (cwV 1 hts gX3_cover_X3_numberedSite rfl rfl rfl (by decide +kernel) ⟨Nat.le_of_ble_eq_true rfl, Nat.le_of_ble_eq_true rfl⟩) ⟨fb_CX, va_recv hK hP (ci := 7) (q0 := 0) rfl rfl, fun U hU hW => ⟨rfl, CX.give hb0 hM hK hG hE hS hU hW⟩⟩ rfl rfl hl.1 rfl (lv_room (Nat.le_of_ble_eq_true rfl)) dX3_cover_2 ⟨(Nat.le_of_ble_eq_true rfl), (Nat.le_of_ble_eq_true rfl)⟩) hS (fun q _ h => h) (fun q h => h) (fun r5 u t H locs ht hvm hw6 hB hz1 hk1 hS => ?_)
  have hM := hB.back ht
  have hG := hB.2.2.2.1
  rcases hw6 with ⟨rfl, hn12⟩ | ⟨j7, a8, rfl, hs9, hj11, ho9, ht10⟩
  · skip
    refine lv_astore_nN (lv' := [(3, .null), (0, .ref o), (1, .int site), (2, .int is)]) hx hb dX3_cover_5 rfl hl (by decide) rfl (fun ls hl => ?_)
    refine lv_aload_nN hx hb dX3_cover_6 rfl (lv_at hl 0 rfl) ?_
    refine lv_ifnonnullN hx hb dX3_cover_7 ?_
    obtain ⟨sa, hsa⟩ := hT.2.1 (211, "no such site") (by decide +kernel)
    exact vx_throwS (A := (fun q => b ≤ q)) (own := RX3) (cls := "java/lang/IndexOutOfBoundsException") (text := "no such site") (names := exN) hx hb hlt hown (by decide +kernel) (by decide +kernel) (hts (.classLink RX3 135 "java/lang/IndexOutOfBoundsException") (by decide +kernel)) (hts (.initialized "java/lang/IndexOutOfBoundsException") (by decide +kernel)) hsa (th_hat hT (fun w h => hts w (List.mem_cons_of_mem _ (List.mem_append_right _ h))) th_i4) (th_good th_i4) hT.2.2.2.1 hT.2.2.2.2 hS (hl.1.trans hml.symm) dX3_cover_10 dX3_cover_13 dX3_cover_14 dX3_cover_16 dX3_cover_19 (fun x h => (hnt x h).elim) (by decide) (Nat.le_of_ble_eq_true rfl) (Nat.le_of_ble_eq_true rfl) (Nat.le_of_ble_eq_true rfl) hlocks (fun t ha h1 h2 => ⟨(), trivial, ⟨(⟨rfl, by omega⟩), hM.keep h2⟩, th_F hS h1 h2⟩) hS.2.2 (Nat.le_of_ble_eq_true rfl) (Nat.le_of_ble_eq_true rfl)
  · skip
    subst hs9
    have hl : lv_has ls 5 [(0, .ref o), (1, .int (nI j7)), (2, .int is)] := hl
    refine lv_astore_n (lv' := [(3, .ref a8), (0, .ref o), (1, .int (nI j7)), (2, .int is)]) hx hb dX3_cover_5 rfl hl (by decide) rfl (fun ls hl => ?_)
    refine lv_aload_n hx hb dX3_cover_6 rfl (lv_at hl 0 rfl) ?_
    refine lv_ifnonnull (tgt := 20) hx hb dX3_cover_7 (by decide) ?_
    refine lv_aload_n hx hb dX3_cover_20 rfl (lv_at hl 0 rfl) ?_
    obtain ⟨u13, u14, u15, u16, u17, u18, hP, hf⟩ := o_st (i := j7) (q := a8) hM (by omega)
    refine va_get (D := (dC, dI)) (ci := 5) (v := .int (pI g a8 0)) (C := RX1) (T := TX1) (N := 15) hx hb hts (by decide +kernel) hown hK hP 0 rfl rfl 8 (by decide) (hts (.fieldLink RX3 221 "Snowpalace$Site" "covered" "Z") (by decide +kernel)) (fun _ h9 => h9) rfl dX3_cover_21 ?_
    have hv19 := hf.2.2.2.2.2.2.2.2
    refine lv_istore (lv' := [(4, .int (pI g a8 0)), (3, .ref a8), (0, .ref o), (1, .int (nI j7)), (2, .int is)]) hx hb dX3_cover_24 hl (by decide) rfl (fun ls hl => ?_)
    refine lv_aload_n hx hb dX3_cover_26 rfl (lv_at hl 1 rfl) ?_
    refine lv_iload_n hx hb dX3_cover_27 rfl (lv_at hl 4 rfl) ?_
    obtain ⟨u20, u21, u22, u23, u24, u25, hP, hf⟩ := o_st (i := j7) (q := a8) hM (by omega)
    refine rt_put (D := (dC, dI)) (ci := 5) (v := .int is) (ty := .boolean) (C := RX1) (T := TX1) (N := 15) hx hb hts (by decide +kernel) tyX1 tyX1_ok nmX1 hown hK hP (hM.ge (by omega)) hS rfl 8 (by decide) (hts (.fieldLink RX3 221 "Snowpalace$Site" "covered" "Z") (by decide +kernel)) (fun _ h9 => h9) rfl (by decide +kernel) (z01n his) (z01f his) (Nat.le_of_ble_eq_true rfl) dX3_cover_28 (fun H locs hP hz ho hS => ?_)
    have hM0 := hM
    have hM := p_st (i := j7) (f := upd (pI g a8) 0 is) hM (by omega) hP ho ⟨hf.1, hf.2.1, hf.2.2.1, hf.2.2.2.1, hf.2.2.2.2.1, hf.2.2.2.2.2.1, hf.2.2.2.2.2.2.1, hf.2.2.2.2.2.2.2.1, his⟩
    obtain ⟨g27, hg27⟩ : ∃ z, z = uI g a8 (upd (pI g a8) 0 is) := ⟨_, rfl⟩
    rw [← hg27] at hM
    have ht28 : tg g27 o = 1 := by rw [hg27]; exact hto
    have ht29 : tg g27 a8 = 12 + 64 * j7 := by rw [hg27]; exact ht10
    have hG : GOK g27 := by rw [hg27]; exact (hG.uI hM0 (Or.inl (by omega)))
    refine lv_iload_n hx hb dX3_cover_31 rfl (lv_at hl 4 rfl) ?_
    refine lv_if_eq (tgt := 52) hx hb dX3_cover_32 (by decide) (fun c31 => ?_) (fun c31 => ?_)
    · skip
      refine lv_iload hx hb dX3_cover_52 (lv_at hl 0 rfl) ?_
      refine vx_ret ?_
      refine W.widen (k := 1) (n := 6) (Nat.le_of_ble_eq_true rfl) (Nat.le_of_ble_eq_true rfl) ?_
      exact W.zret (v := (pI g a8 0)) (ty := .boolean) hx hb hr (z01n hv19) (fun t ht hW => ⟨⟨(pI g a8 0), g27, rfl, ⟨(fun _ _ => by subst hg27; rfl), j7, a8, rfl, by omega, ho9, rfl, (by subst hg27; rfl)⟩, CX.give hb0 hM hK hG hE hS ht hW⟩, hS.F ht⟩) hS.2.2 dX3_cover_54
    · skip
      refine lv_iload hx hb dX3_cover_35 (lv_at hl 0 rfl) ?_
      refine lv_if_ne (tgt := 52) hx hb dX3_cover_37 (by decide) (fun c32 => ?_) (fun c32 => ?_)
      · skip
        refine lv_iload hx hb dX3_cover_52 (lv_at hl 0 rfl) ?_
        refine vx_ret ?_
        refine W.widen (k := 1) (n := 6) (Nat.le_of_ble_eq_true rfl) (Nat.le_of_ble_eq_true rfl) ?_
        exact W.zret (v := (pI g a8 0)) (ty := .boolean) hx hb hr (z01n hv19) (fun t ht hW => ⟨⟨(pI g a8 0), g27, rfl, ⟨(fun _ _ => by subst hg27; rfl), j7, a8, rfl, by omega, ho9, rfl, (by subst hg27; rfl)⟩, CX.give hb0 hM hK hG hE hS ht hW⟩, hS.F ht⟩) hS.2.2 dX3_cover_54
      · skip
        refine lv_aload_n hx hb dX3_cover_40 rfl (lv_at hl 2 rfl) ?_
        refine lv_dup hx hb dX3_cover_41 rfl ?_
        obtain ⟨u33, u34, u35, u36, hP, hf⟩ := o_sno (i := 0) (q := o) hM (by omega)
        refine va_get (D := (dC, dI)) (ci := 7) (v := .int u36) (C := RX3) (T := TX3) (N := 10) hx hb hts (by decide +kernel) hown hK hP 0 rfl rfl 9 (by decide) (hts (.fieldLink RX3 49 "Snowpalace" "funds" "I") (by decide +kernel)) (fun _ h9 => h9) rfl dX3_cover_42 ?_
        refine lv_sipush (v := 300) hx hb dX3_cover_45 (by decide) ?_
        refine lv_isub hx hb dX3_cover_48 ?_
        refine lv_topi (fun v37 e38 => ?_)
        obtain ⟨u39, u40, u41, u42, hP, hf⟩ := o_sno (i := 0) (q := o) hM (by omega)
        refine rt_put (D := (dC, dI)) (ci := 7) (v := .int v37) (ty := .int) (C := RX3) (T := TX3) (N := 10) hx hb hts (by decide +kernel) tyX3 tyX3_ok nmX3 hown hK hP (hM.ge (by omega)) hS rfl 9 (by decide) (hts (.fieldLink RX3 49 "Snowpalace" "funds" "I") (by decide +kernel)) (fun _ h9 => h9) rfl (by decide +kernel) rfl rfl (Nat.le_of_ble_eq_true rfl) dX3_cover_49 (fun H locs hP hz ho hS => ?_)
        have hM := s_sno (i := 0) hM (by omega) hP ho hf
        refine lv_iload hx hb dX3_cover_52 (lv_at hl 0 rfl) ?_
        refine vx_ret ?_
        refine W.widen (k := 1) (n := 6) (Nat.le_of_ble_eq_true rfl) (Nat.le_of_ble_eq_true rfl) ?_
        exact W.zret (v := (pI g a8 0)) (ty := .boolean) hx hb hr (z01n hv19) (fun t ht hW => ⟨⟨(pI g a8 0), g27, rfl, ⟨(fun _ _ => by subst hg27; rfl), j7, a8, rfl, by omega, ho9, rfl, (by subst hg27; rfl)⟩, CX.give hb0 hM hK hG hE hS ht hW⟩, hS.F ht⟩) hS.2.2 dX3_cover_54

set_option maxHeartbeats 4000000 in
set_option maxRecDepth 100000 in
theorem rk_plannedCount (l : Launch) (dC : Nat → ClassId) (dI : Nat → Nat → Nat) (kA : Nat → ClassId) (eD b : Nat) (g : Gh) (o : Nat) (i : Nat) (hto : tg g o = 12 + 64 * i)  : Met l yX1_plannedCount wsX1_plannedCount ({ frames := 0, cells := 0, slots := 0, locals := 0 }) (va_Pc [.ref o] (CX (dC, dI) kA eD b g)) (va_Qi (fun (r : Int32) (u : Unit) => r = pn (pI g (pF g o 5)) 48) (fun (u : Unit) t => CX (dC, dI) kA eD b g t) (fun q => b ≤ q)) 0 0 (fun q => b ≤ q) := by
  refine Met.ofW (cc := cX1_plannedCount) (maxL := 3) (ret := (some .int)) (by decide +kernel) rfl ?_
  intro p e s m args below meth c s₁ B hml hv
  obtain ⟨rfl, hb0, hM, hK, hG, hE⟩ := hv
  have hx := B.exec
  have hb := B.bytes
  have hr := B.returns
  have hts := atoms_spec (ws := wsX1_plannedCount) B.pre
  have hown : s.vm.findClass RX1 = some m.cls := findClass_of_methodNamed B.named
  have hlocks := B.notSynchronized
  have hT := hE.1
  have hN := hE.2.2.2.2.2.2.2.1
  have hS : va_S (fun q => b ≤ q) s.heap s.heap [] := va_S.rf
  have hl := lv_entry ([.ref o]) (n := 3) (Nat.le_of_ble_eq_true rfl)
  rw [lg_entry_eq]
  generalize (lg_sl ([.ref o]) ++ List.replicate (3 - (lg_sl ([.ref o])).length) Slot.unset).toArray = ls at hl ⊢
  have hl : lv_has ls 3 [(0, .ref o)] := hl
  generalize ([.ref o] : List Value).toArray = args at hts ⊢
  refine W.q (fun Q hQ => ?_)
  refine lv_iconst (v := 0) hx hb dX1_plannedCount_0 (by decide) ?_
  refine lv_istore_n (lv' := [(1, .int 0), (0, .ref o)]) hx hb dX1_plannedCount_1 rfl hl (by decide) rfl (fun ls hl => ?_)
  refine lv_iconst (v := 0) hx hb dX1_plannedCount_2 (by decide) ?_
  refine lv_istore_n (lv' := [(2, .int 0), (1, .int 0), (0, .ref o)]) hx hb dX1_plannedCount_3 rfl hl (by decide) rfl (fun ls hl => ?_)
  have lp3 : ∀ (n4 j1 : Nat) (x2 : Int32), 0 ≤ j1 → j1 ≤ 48 → 48 < j1 + n4 → ∀ (H : Heap) (locs : List Loc) (ls : Array Slot), x2 = pn (pI g (pF g o 5)) j1 → TM (dC, dI) kA b g H → va_S (fun q => b ≤ q) s.heap H locs → lv_has ls 3 [(2, .int (nI j1)), (1, .int x2), (0, .ref o)] → W p l e (headSpec wsX1_plannedCount ({ frames := 0, cells := 0, slots := 0, locals := 0 })).room s m args below meth c H locs 0 0 Q (F0 m 4 ls []) := by
    intro n4
    induction n4 with
    | zero => intro j1 x2 h0 h1 h2; omega
    | succ n4 ih5 =>
      intro j1 x2 lj1 hj1 hn4 H locs ls hf6 hM hS hl
      refine lv_iload_n hx hb dX1_plannedCount_4 rfl (lv_at hl 0 rfl) ?_
      refine lv_bipush (v := 48) hx hb dX1_plannedCount_5 (by decide) ?_
      refine lv_icmp_ge (tgt := 33) hx hb dX1_plannedCount_7 (by decide) (fun c7 => ?_) (fun c7 => ?_)
      · skip
        have k8 : 48 ≤ j1 := (nI_leI (a := 48) (b := j1) (by omega) (by omega)).mp c7
        refine lv_iload_n hx hb dX1_plannedCount_33 rfl (lv_at hl 1 rfl) ?_
        subst hQ
        refine W.widen (k := 0) (n := 0) (Nat.le_of_ble_eq_true rfl) (Nat.le_of_ble_eq_true rfl) ?_
        exact W.iret (v := x2) hx hb hr (fun t ht hW => ⟨⟨x2, (), rfl, ((hf6).trans (congrArg (pn (pI g (pF g o 5))) (show j1 = 48 by omega))), CX.give hb0 hM hK hG hE hS ht hW⟩, hS.F ht⟩) hS.2.2 dX1_plannedCount_34
      · skip
        have k9 : ¬ (48 ≤ j1) := fun z => c7 ((nI_leI (a := 48) (b := j1) (by omega) (by omega)).mpr z)
        refine lv_iload_n hx hb dX1_plannedCount_10 rfl (lv_at hl 1 rfl) ?_
        refine lv_aload_n hx hb dX1_plannedCount_11 rfl (lv_at hl 2 rfl) ?_
        obtain ⟨u10, u11, u12, u13, u14, u15, hP, hf⟩ := o_st (i := i) (q := o) hM (by omega)
        refine va_get (D := (dC, dI)) (ci := 5) (v := .ref (pF g o 5)) (C := RX1) (T := TX1) (N := 15) hx hb hts (by decide +kernel) hown hK hP 0 rfl rfl 5 (by decide) (hts (.fieldLink RX1 29 "Snowpalace$Site" "planned" "[Z") (by decide +kernel)) (fun _ h9 => h9) rfl dX1_plannedCount_12 ?_
        have ht16 : tg g (pF g o 5) = 16 + 64 * i := hf.2.2.2.2.2.1
        refine lv_iload_n hx hb dX1_plannedCount_15 rfl (lv_at hl 0 rfl) ?_
        obtain ⟨hP, hf⟩ := o_pl (i := i) (q := (pF g o 5)) hM (by omega)
        refine va_zald (D := (dC, dI)) hx hb hK hP 0 1 rfl rfl (vp_in_nI (by omega) (by decide)) dX1_plannedCount_16 ?_
        refine lv_topi (fun v17 e18 => ?_)
        have ec : ((nI j1) : Int32).toNatClampNeg = j1 := nI_clamp (by omega)
        rw [ec] at e18
        subst e18
        have hu19 := hf j1 (by omega)
        refine lv_if_eq (tgt := 24) hx hb dX1_plannedCount_17 (by decide) (fun c20 => ?_) (fun c20 => ?_)
        · skip
          refine lv_iconst (v := 0) hx hb dX1_plannedCount_24 (by decide) ?_
          refine lv_iadd hx hb dX1_plannedCount_25 ?_
          refine lv_topi (fun v21 e22 => ?_)
          have hp23 : v21 = pn (pI g (pF g o 5)) (j1 + 1) := by rw [e22, hf6]; show _ = (if pI g (pF g o 5) j1 = 0 then 0 else 1) + pn (pI g (pF g o 5)) j1; rw [if_pos c20, Int32.add_comm]
          refine lv_istore_n (lv' := [(1, .int v21), (2, .int (nI j1)), (0, .ref o)]) hx hb dX1_plannedCount_26 rfl hl (by decide) rfl (fun ls hl => ?_)
          refine lv_iinc (v := (nI (j1 + 1))) (lv' := [(2, .int (nI (j1 + 1))), (1, .int v21), (0, .ref o)]) hx hb dX1_plannedCount_27 hl (k := 1) rfl (nI_add j1 1) (by decide) rfl (fun ls hl => ?_)
          refine lv_goto (tgt := 4) hx hb dX1_plannedCount_30 (by decide) ?_
          exact ih5 ((j1 + 1)) v21 (by omega) (by omega) (by omega) H _ ls hp23 hM hS (lv_sub hl [0, 1, 2] rfl)
        · skip
          refine lv_iconst (v := 1) hx hb dX1_plannedCount_20 (by decide) ?_
          refine lv_goto (tgt := 25) hx hb dX1_plannedCount_21 (by decide) ?_
          refine lv_iadd hx hb dX1_plannedCount_25 ?_
          refine lv_topi (fun v24 e25 => ?_)
          have hp26 : v24 = pn (pI g (pF g o 5)) (j1 + 1) := by rw [e25, hf6]; show _ = (if pI g (pF g o 5) j1 = 0 then 0 else 1) + pn (pI g (pF g o 5)) j1; rw [if_neg c20, Int32.add_comm]
          refine lv_istore_n (lv' := [(1, .int v24), (2, .int (nI j1)), (0, .ref o)]) hx hb dX1_plannedCount_26 rfl hl (by decide) rfl (fun ls hl => ?_)
          refine lv_iinc (v := (nI (j1 + 1))) (lv' := [(2, .int (nI (j1 + 1))), (1, .int v24), (0, .ref o)]) hx hb dX1_plannedCount_27 hl (k := 1) rfl (nI_add j1 1) (by decide) rfl (fun ls hl => ?_)
          refine lv_goto (tgt := 4) hx hb dX1_plannedCount_30 (by decide) ?_
          exact ih5 ((j1 + 1)) v24 (by omega) (by omega) (by omega) H _ ls hp26 hM hS (lv_sub hl [0, 1, 2] rfl)
  exact lp3 (48 + 1) 0 0 (by omega) (by omega) (by omega) s.heap _ ls rfl hM hS (lv_sub hl [0, 1, 2] rfl)

set_option maxHeartbeats 4000000 in
set_option maxRecDepth 100000 in
theorem rf_plan (l : Launch) (hlt : l.stackTraces = false) (dC : Nat → ClassId) (dI : Nat → Nat → Nat) (kA : Nat → ClassId) (eD b : Nat) (g : Gh) (o : Nat) (site : Int32) (x : Int32) (y : Int32) (is : Int32) (hto : tg g o = 1)  : vx_Met l yX3_plan wsX3_plan ({ frames := 6, cells := 1, slots := 6, locals := 82 }) (va_Pc [.ref o, .int site, .int x, .int y, .int is] (CX (dC, dI) kA eD b g)) (va_Qi (fun (r : Int32) (u : Gh) => (∀ a : Nat, tg g a ≠ 0 → tg u a = tg g a) ∧ ∃ j a jx jy, site = nI j ∧ x = nI jx ∧ y = nI jy ∧ jx < 8 ∧ jy < 6 ∧ (j : Int) < (pI g o 0).toInt ∧ pO g (pF g o 2) j = some a ∧ r = pn (pI u (pF g a 5)) 48 ∧ u = sI g (pF g a 5) (8 * jy + jx) (vp_nar .boolean is)) (fun (u : Gh) t => CX (dC, dI) kA eD b u t) (fun q => b ≤ q)) (vx_X (fun _ : Unit => True) (fun E _ t => ((E = "java/lang/IndexOutOfBoundsException" ∧ ¬ ((0 ≤ site.toInt ∧ site.toInt < (pI g o 0).toInt) ∧ (0 ≤ x.toInt ∧ x.toInt ≤ 7) ∧ 0 ≤ y.toInt ∧ y.toInt ≤ 5))) ∧ TM (dC, dI) kA b g t.heap) (fun q => b ≤ q)) 1 6 (fun q => b ≤ q) := by
  refine vx_ofW (cc := cX3_plan) (maxL := 6) (ret := (some .int)) (by decide +kernel) rfl ?_
  intro p e s m args below meth c s₁ B hml hnt hv
  obtain ⟨rfl, hb0, hM, hK, hG, hE⟩ := hv
  have hx := B.exec
  have hb := B.bytes
  have hr := B.returns
  have hts := atoms_spec (ws := wsX3_plan) B.pre
  have hown : s.vm.findClass RX3 = some m.cls := findClass_of_methodNamed B.named
  have hlocks := B.notSynchronized
  have hT := hE.1
  have hN := hE.2.2.2.2.2.2.2.1
  have hS : va_S (fun q => b ≤ q) s.heap s.heap [] := va_S.rf
  have hl := lv_entry ([.ref o, .int site, .int x, .int y, .int is]) (n := 6) (Nat.le_of_ble_eq_true rfl)
  rw [lg_entry_eq]
  generalize (lg_sl ([.ref o, .int site, .int x, .int y, .int is]) ++ List.replicate (6 - (lg_sl ([.ref o, .int site, .int x, .int y, .int is])).length) Slot.unset).toArray = ls at hl ⊢
  have hl : lv_has ls 6 [(0, .ref o), (1, .int site), (2, .int x), (3, .int y), (4, .int is)] := hl
  generalize ([.ref o, .int site, .int x, .int y, .int is] : List Value).toArray = args at hts ⊢
  refine lv_aload_n hx hb dX3_plan_0 rfl (lv_at hl 0 rfl) ?_
  refine lv_iload_n hx hb dX3_plan_1 rfl (lv_at hl 1 rfl) ?_
  refine lv_iload_n hx hb dX3_plan_2 rfl (lv_at hl 2 rfl) ?_
  refine lv_iload_n hx hb dX3_plan_3 rfl (lv_at hl 3 rfl) ?_
  obtain ⟨u1, u2, u3, u4, hP, hf⟩ := o_sno (i := 0) (q := o) hM (by omega)
  refine va_callq (va_runV (As := [.int site, .int x, .int y]) (rest := []) ⟨hx, hb, hml, hown, hts⟩ (rk_placedSite l dC dI kA eD b g o site x y (by omega)) (cwV 3 hts gX3_plan_X3_placedSite rfl rfl rfl (by decide +kernel) ⟨Nat.le_of_ble_eq_true rfl, Nat.le_of_ble_eq_true rfl⟩) ⟨fb_CX, va_recv hK hP (ci := 7) (q0 := 0) rfl rfl, fun U hU hW => ⟨rfl, CX.give hb0 hM hK hG hE hS hU hW⟩⟩ rfl rfl hl.1 rfl (lv_room (Nat.le_of_ble_eq_true rfl)) dX3_plan_4 ⟨(Nat.le_of_ble_eq_true rfl), (Nat.le_of_ble_eq_true rfl)⟩) hS (fun q _ h => h) (fun q h => h) (fun r5 u t H locs ht hvm hw6 hB hz1 hk1 hS => ?_)
  have hM := hB.back ht
  have hG := hB.2.2.2.1
  rcases hw6 with ⟨rfl, hn14⟩ | ⟨j7, a8, jx9, jy10, rfl, rfl, rfl, rfl, hjx9, hjy10, hj13, ho11, ht12⟩
  · skip
    refine lv_astoreN (lv' := [(5, .null), (0, .ref o), (1, .int site), (2, .int x), (3, .int y), (4, .int is)]) hx hb dX3_plan_7 hl (by decide) rfl (fun ls hl => ?_)
    refine lv_aloadN hx hb dX3_plan_9 (lv_at hl 0 rfl) ?_
    refine lv_ifnonnullN hx hb dX3_plan_11 ?_
    obtain ⟨sa, hsa⟩ := hT.2.1 (137, "no such site or place") (by decide +kernel)
    exact vx_throwS (A := (fun q => b ≤ q)) (own := RX3) (cls := "java/lang/IndexOutOfBoundsException") (text := "no such site or place") (names := exN) hx hb hlt hown (by decide +kernel) (by decide +kernel) (hts (.classLink RX3 135 "java/lang/IndexOutOfBoundsException") (by decide +kernel)) (hts (.initialized "java/lang/IndexOutOfBoundsException") (by decide +kernel)) hsa (th_hat hT (fun w h => hts w (List.mem_cons_of_mem _ (List.mem_append_left _ (List.mem_append_right _ h)))) th_i4) (th_good th_i4) hT.2.2.2.1 hT.2.2.2.2 hS (hl.1.trans hml.symm) dX3_plan_14 dX3_plan_17 dX3_plan_18 dX3_plan_20 dX3_plan_23 (fun x h => (hnt x h).elim) (by decide) (Nat.le_of_ble_eq_true rfl) (Nat.le_of_ble_eq_true rfl) (Nat.le_of_ble_eq_true rfl) hlocks (fun t ha h1 h2 => ⟨(), trivial, ⟨(⟨rfl, by omega⟩), hM.keep h2⟩, th_F hS h1 h2⟩) hS.2.2 (Nat.le_of_ble_eq_true rfl) (Nat.le_of_ble_eq_true rfl)
  · skip
    have hl : lv_has ls 6 [(0, .ref o), (1, .int (nI j7)), (2, .int (nI jx9)), (3, .int (nI jy10)), (4, .int is)] := hl
    refine lv_astore (lv' := [(5, .ref a8), (0, .ref o), (1, .int (nI j7)), (2, .int (nI jx9)), (3, .int (nI jy10)), (4, .int is)]) hx hb dX3_plan_7 hl (by decide) rfl (fun ls hl => ?_)
    refine lv_aload hx hb dX3_plan_9 (lv_at hl 0 rfl) ?_
    refine lv_ifnonnull (tgt := 24) hx hb dX3_plan_11 (by decide) ?_
    refine lv_aload hx hb dX3_plan_24 (lv_at hl 0 rfl) ?_
    obtain ⟨u15, u16, u17, u18, u19, u20, hP, hf⟩ := o_st (i := j7) (q := a8) hM (by omega)
    refine va_get (D := (dC, dI)) (ci := 5) (v := .ref (pF g a8 5)) (C := RX1) (T := TX1) (N := 15) hx hb hts (by decide +kernel) hown hK hP 0 rfl rfl 5 (by decide) (hts (.fieldLink RX3 266 "Snowpalace$Site" "planned" "[Z") (by decide +kernel)) (fun _ h9 => h9) rfl dX3_plan_26 ?_
    have ht21 : tg g (pF g a8 5) = 16 + 64 * j7 := hf.2.2.2.2.2.1
    refine lv_iload_n hx hb dX3_plan_29 rfl (lv_at hl 3 rfl) ?_
    refine lv_iload_n hx hb dX3_plan_30 rfl (lv_at hl 4 rfl) ?_
    refine va_calli (va_runS (As := [.int (nI jx9), .int (nI jy10)]) (rest := [.ref (pF g a8 5)]) ⟨hx, hb, hml, hown, hts⟩ (rk_placeOf l (nI jx9) (nI jy10)) (va_cwS 2 hts gX3_plan_X3_placeOf rfl rfl rfl (by decide +kernel) ⟨Nat.le_of_ble_eq_true rfl, Nat.le_of_ble_eq_true rfl⟩) ⟨fun a U g mk q => q, fun U hU hW => ⟨rfl, trivial⟩⟩ rfl rfl hl.1 rfl (lv_room (Nat.le_of_ble_eq_true rfl)) dX3_plan_31 ⟨(Nat.le_of_ble_eq_true rfl), (Nat.le_of_ble_eq_true rfl)⟩) hS (fun q _ h => h.elim) (fun q h => h.elim) (fun r22 u t H locs ht hvm hw23 hB hz1 hk1 hS => ?_)
    have hM := hM.keep (fun p hp => hk1 p hp (fun z => z))
    obtain rfl : r22 = nI (8 * jy10 + jx9) := hw23.trans (by rw [show (8 : Int32) = nI 8 from rfl]; exact (congrArg (· + nI jx9) (pk_mul 8 jy10)).trans (nI_add _ _))
    refine lv_iload hx hb dX3_plan_34 (lv_at hl 5 rfl) ?_
    obtain ⟨hP, hf⟩ := o_pl (i := j7) (q := (pF g a8 5)) hM (by omega)
    refine rt_zast (D := (dC, dI)) (t0 := 1) hx hb hK hP (hM.ge (by omega)) hS rfl (vp_in_nI (by omega) (by decide)) dX3_plan_36 (fun H locs hP hz ho hS => ?_)
    have ec : ((nI (8 * jy10 + jx9)) : Int32).toNatClampNeg = (8 * jy10 + jx9) := nI_clamp (by omega)
    rw [ec] at hP
    have hM0 := hM
    have hM := p_pl (i := j7) (f := upd (pI g (pF g a8 5)) (8 * jy10 + jx9) (vp_nar .boolean is)) hM (by omega) hP ho (fun j9 hj9 => (Decidable.em (j9 = (8 * jy10 + jx9))).elim (fun e9 => by show (if j9 = (8 * jy10 + jx9) then (vp_nar .boolean is) else pI g (pF g a8 5) j9) = 0 ∨ (if j9 = (8 * jy10 + jx9) then (vp_nar .boolean is) else pI g (pF g a8 5) j9) = 1; rw [if_pos e9]; exact nar01 _) (fun e9 => by show (if j9 = (8 * jy10 + jx9) then (vp_nar .boolean is) else pI g (pF g a8 5) j9) = 0 ∨ (if j9 = (8 * jy10 + jx9) then (vp_nar .boolean is) else pI g (pF g a8 5) j9) = 1; rw [if_neg e9]; exact hf j9 hj9))
    obtain ⟨g24, hg24⟩ : ∃ z, z = uI g (pF g a8 5) (upd (pI g (pF g a8 5)) (8 * jy10 + jx9) (vp_nar .boolean is)) := ⟨_, rfl⟩
    rw [← hg24] at hM
    have ht25 : tg g24 o = 1 := by rw [hg24]; exact hto
    have ht26 : tg g24 a8 = 12 + 64 * j7 := by rw [hg24]; exact ht12
    have ht27 : tg g24 (pF g a8 5) = 16 + 64 * j7 := by rw [hg24]; exact ht21
    have hG : GOK g24 := by rw [hg24]; exact (hG.uI hM0 (Or.inl (by omega)))
    refine lv_aload hx hb dX3_plan_37 (lv_at hl 0 rfl) ?_
    obtain ⟨u29, u30, u31, u32, u33, u34, hP, hf⟩ := o_st (i := j7) (q := a8) hM (by omega)
    refine va_calli (va_runV (As := []) (rest := []) ⟨hx, hb, hml, hown, hts⟩ (rk_plannedCount l dC dI kA eD b g24 a8 j7 (by omega)) (cwV 0 hts gX3_plan_X1_plannedCount rfl rfl rfl (by decide +kernel) ⟨Nat.le_of_ble_eq_true rfl, Nat.le_of_ble_eq_true rfl⟩) ⟨fb_CX, va_recv hK hP (ci := 5) (q0 := 0) rfl rfl, fun U hU hW => ⟨rfl, CX.give hb0 hM hK hG hE hS hU hW⟩⟩ rfl rfl hl.1 rfl (lv_room (Nat.le_of_ble_eq_true rfl)) dX3_plan_39 ⟨(Nat.le_of_ble_eq_true rfl), (Nat.le_of_ble_eq_true rfl)⟩) hS (fun q _ h => h) (fun q h => h) (fun r35 u t H locs ht hvm hw36 hB hz1 hk1 hS => ?_)
    have hM := hB.back ht
    have hG := hB.2.2.2.1
    refine vx_ret ?_
    refine W.widen (k := 1) (n := 6) (Nat.le_of_ble_eq_true rfl) (Nat.le_of_ble_eq_true rfl) ?_
    exact W.iret (v := r35) hx hb hr (fun t ht hW => ⟨⟨r35, g24, rfl, ⟨(fun _ _ => by subst hg24; rfl), j7, a8, jx9, jy10, rfl, rfl, rfl, by omega, by omega, by omega, ho11, by subst hg24; exact hw36, (by subst hg24; rfl)⟩, CX.give hb0 hM hK hG hE hS ht hW⟩, hS.F ht⟩) hS.2.2 dX3_plan_42

set_option maxHeartbeats 4000000 in
set_option maxRecDepth 100000 in
theorem rk_passHour (l : Launch) (dC : Nat → ClassId) (dI : Nat → Nat → Nat) (kA : Nat → ClassId) (eD b : Nat) (g : Gh) (o : Nat)  (hto : tg g o = 1)  : Met l yX3_passHour wsX3_passHour ({ frames := 5, cells := 0, slots := 0, locals := 115 }) (va_Pc [.ref o] (CX (dC, dI) kA eD b g)) (va_Qv (fun (u : Unit) => True) (fun (u : Unit) t => CX (dC, dI) kA eD b g t) (fun q => b ≤ q)) 0 0 (fun q => b ≤ q) := by
  refine Met.ofW (cc := cX3_passHour) (maxL := 4) (ret := none) (by decide +kernel) rfl ?_
  intro p e s m args below meth c s₁ B hml hv
  obtain ⟨rfl, hb0, hM, hK, hG, hE⟩ := hv
  have hx := B.exec
  have hb := B.bytes
  have hr := B.returns
  have hts := atoms_spec (ws := wsX3_passHour) B.pre
  have hown : s.vm.findClass RX3 = some m.cls := findClass_of_methodNamed B.named
  have hlocks := B.notSynchronized
  have hT := hE.1
  have hN := hE.2.2.2.2.2.2.2.1
  have hS : va_S (fun q => b ≤ q) s.heap s.heap [] := va_S.rf
  have hl := lv_entry ([.ref o]) (n := 4) (Nat.le_of_ble_eq_true rfl)
  rw [lg_entry_eq]
  generalize (lg_sl ([.ref o]) ++ List.replicate (4 - (lg_sl ([.ref o])).length) Slot.unset).toArray = ls at hl ⊢
  have hl : lv_has ls 4 [(0, .ref o)] := hl
  generalize ([.ref o] : List Value).toArray = args at hts ⊢
  refine W.q (fun Q hQ => ?_)
  refine lv_aload_n hx hb dX3_passHour_0 rfl (lv_at hl 0 rfl) ?_
  obtain ⟨u1, u2, u3, u4, hP, hf⟩ := o_sno (i := 0) (q := o) hM (by omega)
  refine va_get (D := (dC, dI)) (ci := 7) (v := .ref (pF g o 0)) (C := RX3) (T := TX3) (N := 10) hx hb hts (by decide +kernel) hown hK hP 0 rfl rfl 0 (by decide) (hts (.fieldLink RX3 10 "Snowpalace" "sky" "LSnowpalace$Sky;") (by decide +kernel)) (fun _ h9 => h9) rfl dX3_passHour_1 ?_
  have ht5 : tg g (pF g o 0) = 2 := hf.1
  refine lv_aload_n hx hb dX3_passHour_4 rfl (lv_at hl 0 rfl) ?_
  obtain ⟨u6, u7, u8, u9, hP, hf⟩ := o_sno (i := 0) (q := o) hM (by omega)
  refine va_get (D := (dC, dI)) (ci := 7) (v := .int (pI g o 1)) (C := RX3) (T := TX3) (N := 10) hx hb hts (by decide +kernel) hown hK hP 0 rfl rfl 4 (by decide) (hts (.fieldLink RX3 33 "Snowpalace" "clock" "I") (by decide +kernel)) (fun _ h9 => h9) rfl dX3_passHour_5 ?_
  have hv10 := hf.2.2.2.2.1
  obtain ⟨hP, hf⟩ := o_sky (i := 0) (q := (pF g o 0)) hM (by omega)
  refine va_calli (va_runV (As := [.int (pI g o 1)]) (rest := []) ⟨hx, hb, hml, hown, hts⟩ (rk_warmthOf l dC dI kA eD b g (pF g o 0) (pI g o 1) (by omega)) (cwV 1 hts gX3_passHour_X2_warmthOf rfl rfl rfl (by decide +kernel) ⟨Nat.le_of_ble_eq_true rfl, Nat.le_of_ble_eq_true rfl⟩) ⟨fb_CX, va_recv hK hP (ci := 6) (q0 := 0) rfl rfl, fun U hU hW => ⟨rfl, CX.give hb0 hM hK hG hE hS hU hW⟩⟩ rfl rfl hl.1 rfl (lv_room (Nat.le_of_ble_eq_true rfl)) dX3_passHour_8 ⟨(Nat.le_of_ble_eq_true rfl), (Nat.le_of_ble_eq_true rfl)⟩) hS (fun q _ h => h) (fun q h => h) (fun r11 u t H locs ht hvm hw12 hB hz1 hk1 hS => ?_)
  have hM := hB.back ht
  have hG := hB.2.2.2.1
  refine lv_istore_n (lv' := [(1, .int r11), (0, .ref o)]) hx hb dX3_passHour_11 rfl hl (by decide) rfl (fun ls hl => ?_)
  refine lv_aload_n hx hb dX3_passHour_12 rfl (lv_at hl 1 rfl) ?_
  obtain ⟨u13, u14, u15, u16, hP, hf⟩ := o_sno (i := 0) (q := o) hM (by omega)
  refine va_get (D := (dC, dI)) (ci := 7) (v := .ref (pF g o 1)) (C := RX3) (T := TX3) (N := 10) hx hb hts (by decide +kernel) hown hK hP 0 rfl rfl 1 (by decide) (hts (.fieldLink RX3 19 "Snowpalace" "river" "LSnowpalace$River;") (by decide +kernel)) (fun _ h9 => h9) rfl dX3_passHour_13 ?_
  have ht17 : tg g (pF g o 1) = 3 := hf.2.1
  refine lv_iload_n hx hb dX3_passHour_16 rfl (lv_at hl 0 rfl) ?_
  obtain ⟨hP, hf⟩ := o_riv (i := 0) (q := (pF g o 1)) hM (by omega)
  refine va_callv (va_runV (As := [.int r11]) (rest := []) ⟨hx, hb, hml, hown, hts⟩ (rk_riverHour l dC dI kA eD b g (pF g o 1) r11 (by omega)) (cwV 1 hts gX3_passHour_X0_passHour rfl rfl rfl (by decide +kernel) ⟨Nat.le_of_ble_eq_true rfl, Nat.le_of_ble_eq_true rfl⟩) ⟨fb_CX, va_recv hK hP (ci := 4) (q0 := 0) rfl rfl, fun U hU hW => ⟨rfl, CX.give hb0 hM hK hG hE hS hU hW⟩⟩ rfl rfl hl.1 rfl (lv_room (Nat.le_of_ble_eq_true rfl)) dX3_passHour_17 ⟨(Nat.le_of_ble_eq_true rfl), (Nat.le_of_ble_eq_true rfl)⟩) hS (fun q _ h => h) (fun q h => h) (fun u t H locs ht hvm hw19 hB hz1 hk1 hS => ?_)
  have hM := hB.back ht
  have hG := hB.2.2.2.1
  refine lv_aload_n hx hb dX3_passHour_20 rfl (lv_at hl 1 rfl) ?_
  obtain ⟨u20, u21, u22, u23, hP, hf⟩ := o_sno (i := 0) (q := o) hM (by omega)
  refine va_get (D := (dC, dI)) (ci := 7) (v := .int (pI g o 2)) (C := RX3) (T := TX3) (N := 10) hx hb hts (by decide +kernel) hown hK hP 0 rfl rfl 8 (by decide) (hts (.fieldLink RX3 45 "Snowpalace" "machineIsOn" "Z") (by decide +kernel)) (fun _ h9 => h9) rfl dX3_passHour_21 ?_
  have hv24 := hf.2.2.2.2.2
  refine lv_if_eq (tgt := 48) hx hb dX3_passHour_24 (by decide) (fun c25 => ?_) (fun c25 => ?_)
  · skip
    refine lv_iconst (v := 0) hx hb dX3_passHour_48 (by decide) ?_
    refine lv_istore_n (lv' := [(2, .int 0), (1, .int r11), (0, .ref o)]) hx hb dX3_passHour_49 rfl hl (by decide) rfl (fun ls hl => ?_)
    have lp27 : ∀ (n28 j26 : Nat) , 0 ≤ j26 → j26 ≤ 3 → 3 < j26 + n28 → ∀ (H : Heap) (locs : List Loc) (ls : Array Slot), TM (dC, dI) kA b g H → va_S (fun q => b ≤ q) s.heap H locs → lv_has ls 4 [(2, .int (nI j26)), (1, .int r11), (0, .ref o)] → W p l e (headSpec wsX3_passHour ({ frames := 5, cells := 0, slots := 0, locals := 115 })).room s m args below meth c H locs 0 0 Q (F0 m 50 ls []) := by
      intro n28
      induction n28 with
      | zero => intro j26 h0 h1 h2; omega
      | succ n28 ih29 =>
        intro j26 lj26 hj26 hn28 H locs ls hM hS hl
        refine lv_iload_n hx hb dX3_passHour_50 rfl (lv_at hl 0 rfl) ?_
        refine lv_aload_n hx hb dX3_passHour_51 rfl (lv_at hl 2 rfl) ?_
        obtain ⟨u30, u31, u32, u33, hP, hf⟩ := o_sno (i := 0) (q := o) hM (by omega)
        refine va_get (D := (dC, dI)) (ci := 7) (v := .int (pI g o 0)) (C := RX3) (T := TX3) (N := 10) hx hb hts (by decide +kernel) hown hK hP 0 rfl rfl 3 (by decide) (hts (.fieldLink RX3 29 "Snowpalace" "siteCount" "I") (by decide +kernel)) (fun _ h9 => h9) rfl dX3_passHour_52 ?_
        have hv34 := hf.2.2.2.1
        refine lv_icmp_ge (tgt := 140) hx hb dX3_passHour_55 (by decide) (fun c35 => ?_) (fun c35 => ?_)
        · skip
          have i36 := (Int32.le_iff_toInt_le).mp c35
          have ii36 : ((nI j26) : Int32).toInt = ((j26 : Nat) : Int) := nI_toInt (by omega)
          have i36 := i36
          subst hQ
          refine W.widen (k := 0) (n := 0) (Nat.le_of_ble_eq_true rfl) (Nat.le_of_ble_eq_true rfl) ?_
          exact W.vret hx hb hr (fun t ht hW => ⟨⟨(), rfl, trivial, CX.give hb0 hM hK hG hE hS ht hW⟩, hS.F ht⟩) hS.2.2 dX3_passHour_140
        · skip
          have i37 := fun z => c35 ((Int32.le_iff_toInt_le).mpr z)
          have ii37 : ((nI j26) : Int32).toInt = ((j26 : Nat) : Int) := nI_toInt (by omega)
          have i37 : ¬ (((pI g o 0) : Int32).toInt ≤ ((nI j26) : Int32).toInt) := i37
          refine lv_aload_n hx hb dX3_passHour_58 rfl (lv_at hl 2 rfl) ?_
          refine lv_iload_n hx hb dX3_passHour_59 rfl (lv_at hl 0 rfl) ?_
          obtain ⟨u38, u39, u40, u41, hP, hf⟩ := o_sno (i := 0) (q := o) hM (by omega)
          refine va_callq (va_runV (As := [.int (nI j26)]) (rest := []) ⟨hx, hb, hml, hown, hts⟩ (rk_numberedSite l dC dI kA eD b g o (nI j26) (by omega)) (cwV 1 hts gX3_passHour_X3_numberedSite rfl rfl rfl (by decide +kernel) ⟨Nat.le_of_ble_eq_true rfl, Nat.le_of_ble_eq_true rfl⟩) ⟨fb_CX, va_recv hK hP (ci := 7) (q0 := 0) rfl rfl, fun U hU hW => ⟨rfl, CX.give hb0 hM hK hG hE hS hU hW⟩⟩ rfl rfl hl.1 rfl (lv_room (Nat.le_of_ble_eq_true rfl)) dX3_passHour_60 ⟨(Nat.le_of_ble_eq_true rfl), (Nat.le_of_ble_eq_true rfl)⟩) hS (fun q _ h => h) (fun q h => h) (fun r42 u t H locs ht hvm hw43 hB hz1 hk1 hS => ?_)
          have hM := hB.back ht
          have hG := hB.2.2.2.1
          rcases hw43 with ⟨rfl, hn49⟩ | ⟨j44, a45, rfl, hs9, hj48, ho46, ht47⟩
          · skip
            refine lv_astore_nN (lv' := [(3, .null), (2, .int (nI j26)), (1, .int r11), (0, .ref o)]) hx hb dX3_passHour_63 rfl hl (by decide) rfl (fun ls hl => ?_)
            refine lv_aload_nN hx hb dX3_passHour_64 rfl (lv_at hl 0 rfl) ?_
            refine lv_ifnullN (tgt := 134) hx hb dX3_passHour_65 (by decide) ?_
            refine lv_iinc (v := (nI (j26 + 1))) (lv' := [(2, .int (nI (j26 + 1))), (3, .null), (1, .int r11), (0, .ref o)]) hx hb dX3_passHour_134 hl (k := 1) rfl (nI_add j26 1) (by decide) rfl (fun ls hl => ?_)
            refine lv_goto (tgt := 50) hx hb dX3_passHour_137 (by decide) ?_
            exact ih29 ((j26 + 1)) (by omega) (by omega) (by omega) H _ ls  hM hS (lv_sub hl [0, 2, 3] rfl)
          · skip
            have hs9 : j26 = j44 := (nI_eq (by omega) (by omega)).mp hs9
            subst hs9
            refine lv_astore_n (lv' := [(3, .ref a45), (2, .int (nI j26)), (1, .int r11), (0, .ref o)]) hx hb dX3_passHour_63 rfl hl (by decide) rfl (fun ls hl => ?_)
            refine lv_aload_n hx hb dX3_passHour_64 rfl (lv_at hl 0 rfl) ?_
            refine lv_ifnull hx hb dX3_passHour_65 ?_
            refine lv_aload_n hx hb dX3_passHour_68 rfl (lv_at hl 0 rfl) ?_
            obtain ⟨u50, u51, u52, u53, u54, u55, hP, hf⟩ := o_st (i := j26) (q := a45) hM (by omega)
            refine va_get (D := (dC, dI)) (ci := 5) (v := .int (pI g a45 0)) (C := RX1) (T := TX1) (N := 15) hx hb hts (by decide +kernel) hown hK hP 0 rfl rfl 8 (by decide) (hts (.fieldLink RX3 221 "Snowpalace$Site" "covered" "Z") (by decide +kernel)) (fun _ h9 => h9) rfl dX3_passHour_69 ?_
            have hv56 := hf.2.2.2.2.2.2.2.2
            refine lv_if_ne (tgt := 111) hx hb dX3_passHour_72 (by decide) (fun c57 => ?_) (fun c57 => ?_)
            · skip
              refine lv_aload_n hx hb dX3_passHour_111 rfl (lv_at hl 3 rfl) ?_
              refine lv_dup hx hb dX3_passHour_112 rfl ?_
              obtain ⟨u58, u59, u60, u61, hP, hf⟩ := o_sno (i := 0) (q := o) hM (by omega)
              refine va_get (D := (dC, dI)) (ci := 7) (v := .int u61) (C := RX3) (T := TX3) (N := 10) hx hb hts (by decide +kernel) hown hK hP 0 rfl rfl 9 (by decide) (hts (.fieldLink RX3 49 "Snowpalace" "funds" "I") (by decide +kernel)) (fun _ h9 => h9) rfl dX3_passHour_113 ?_
              refine lv_sipush (v := 200) hx hb dX3_passHour_116 (by decide) ?_
              refine lv_aload_n hx hb dX3_passHour_119 rfl (lv_at hl 0 rfl) ?_
              refine lv_iload_n hx hb dX3_passHour_120 rfl (lv_at hl 2 rfl) ?_
              obtain ⟨u62, u63, u64, u65, u66, u67, hP, hf⟩ := o_st (i := j26) (q := a45) hM (by omega)
              refine va_calli (va_runV (As := [.int r11]) (rest := [.int 200, .int u61, .ref o]) ⟨hx, hb, hml, hown, hts⟩ (rk_settle l dC dI kA eD b g a45 j26 r11 (by omega)) (cwV 1 hts gX3_passHour_X1_settle rfl rfl rfl (by decide +kernel) ⟨Nat.le_of_ble_eq_true rfl, Nat.le_of_ble_eq_true rfl⟩) ⟨fb_CX, va_recv hK hP (ci := 5) (q0 := 0) rfl rfl, fun U hU hW => ⟨rfl, CX.give hb0 hM hK hG hE hS hU hW⟩⟩ rfl rfl hl.1 rfl (lv_room (Nat.le_of_ble_eq_true rfl)) dX3_passHour_121 ⟨(Nat.le_of_ble_eq_true rfl), (Nat.le_of_ble_eq_true rfl)⟩) hS (fun q _ h => h) (fun q h => h) (fun r68 u t H locs ht hvm hw69 hB hz1 hk1 hS => ?_)
              have hM := hB.back ht
              have hG := hB.2.2.2.1
              refine lv_imul hx hb dX3_passHour_124 ?_
              refine lv_topi (fun v70 e71 => ?_)
              subst e71
              refine lv_isub hx hb dX3_passHour_125 ?_
              refine lv_topi (fun v72 e73 => ?_)
              subst e73
              obtain ⟨u74, u75, u76, u77, hP, hf⟩ := o_sno (i := 0) (q := o) hM (by omega)
              refine rt_put (D := (dC, dI)) (ci := 7) (v := .int (u61 - (200 * r68))) (ty := .int) (C := RX3) (T := TX3) (N := 10) hx hb hts (by decide +kernel) tyX3 tyX3_ok nmX3 hown hK hP (hM.ge (by omega)) hS rfl 9 (by decide) (hts (.fieldLink RX3 49 "Snowpalace" "funds" "I") (by decide +kernel)) (fun _ h9 => h9) rfl (by decide +kernel) rfl rfl (Nat.le_of_ble_eq_true rfl) dX3_passHour_126 (fun H locs hP hz ho hS => ?_)
              have hM := s_sno (i := 0) hM (by omega) hP ho hf
              refine lv_aload_n hx hb dX3_passHour_129 rfl (lv_at hl 0 rfl) ?_
              refine lv_iload_n hx hb dX3_passHour_130 rfl (lv_at hl 2 rfl) ?_
              obtain ⟨u78, u79, u80, u81, u82, u83, hP, hf⟩ := o_st (i := j26) (q := a45) hM (by omega)
              refine va_callv (va_runV (As := [.int r11]) (rest := []) ⟨hx, hb, hml, hown, hts⟩ (rk_growOld l dC dI kA eD b g a45 j26 r11 (by omega)) (cwV 1 hts gX3_passHour_X1_growOld rfl rfl rfl (by decide +kernel) ⟨Nat.le_of_ble_eq_true rfl, Nat.le_of_ble_eq_true rfl⟩) ⟨fb_CX, va_recv hK hP (ci := 5) (q0 := 0) rfl rfl, fun U hU hW => ⟨rfl, CX.give hb0 hM hK hG hE hS hU hW⟩⟩ rfl rfl hl.1 rfl (lv_room (Nat.le_of_ble_eq_true rfl)) dX3_passHour_131 ⟨(Nat.le_of_ble_eq_true rfl), (Nat.le_of_ble_eq_true rfl)⟩) hS (fun q _ h => h) (fun q h => h) (fun u t H locs ht hvm hw85 hB hz1 hk1 hS => ?_)
              have hM := hB.back ht
              have hG := hB.2.2.2.1
              refine lv_iinc (v := (nI (j26 + 1))) (lv' := [(2, .int (nI (j26 + 1))), (3, .ref a45), (1, .int r11), (0, .ref o)]) hx hb dX3_passHour_134 hl (k := 1) rfl (nI_add j26 1) (by decide) rfl (fun ls hl => ?_)
              refine lv_goto (tgt := 50) hx hb dX3_passHour_137 (by decide) ?_
              exact ih29 ((j26 + 1)) (by omega) (by omega) (by omega) H _ ls  hM hS (lv_sub hl [0, 2, 3] rfl)
            · skip
              refine lv_aload_n hx hb dX3_passHour_75 rfl (lv_at hl 3 rfl) ?_
              refine lv_dup hx hb dX3_passHour_76 rfl ?_
              obtain ⟨u86, u87, u88, u89, hP, hf⟩ := o_sno (i := 0) (q := o) hM (by omega)
              refine va_get (D := (dC, dI)) (ci := 7) (v := .int u89) (C := RX3) (T := TX3) (N := 10) hx hb hts (by decide +kernel) hown hK hP 0 rfl rfl 9 (by decide) (hts (.fieldLink RX3 49 "Snowpalace" "funds" "I") (by decide +kernel)) (fun _ h9 => h9) rfl dX3_passHour_77 ?_
              refine lv_sipush (v := 200) hx hb dX3_passHour_80 (by decide) ?_
              refine lv_aload_n hx hb dX3_passHour_83 rfl (lv_at hl 0 rfl) ?_
              refine lv_aload_n hx hb dX3_passHour_84 rfl (lv_at hl 3 rfl) ?_
              obtain ⟨u90, u91, u92, u93, hP, hf⟩ := o_sno (i := 0) (q := o) hM (by omega)
              refine va_get (D := (dC, dI)) (ci := 7) (v := .int (pI g o 1)) (C := RX3) (T := TX3) (N := 10) hx hb hts (by decide +kernel) hown hK hP 0 rfl rfl 4 (by decide) (hts (.fieldLink RX3 33 "Snowpalace" "clock" "I") (by decide +kernel)) (fun _ h9 => h9) rfl dX3_passHour_85 ?_
              have hv94 := hf.2.2.2.2.1
              refine lv_bipush (v := 24) hx hb dX3_passHour_88 (by decide) ?_
              obtain ⟨j95, hj95, en96⟩ := toN (p := (pI g o 1)) (k := 504) (by omega) (by omega) (by decide)
              rw [en96]
              try rw [en96] at hl
              have hl : lv_has ls 4 [(3, .ref a45), (2, .int (nI j26)), (1, .int r11), (0, .ref o)] := hl
              refine lv_irem hx hb dX3_passHour_90 (by decide) ?_
              refine lv_topi (fun v97 e98 => ?_)
              obtain rfl : v97 = nI (j95 % 24) := e98.trans (pk_rem (a := j95) (d := 24) (by omega) (by decide) (by decide))
              refine lv_iload_n hx hb dX3_passHour_91 rfl (lv_at hl 2 rfl) ?_
              refine lv_aload_n hx hb dX3_passHour_92 rfl (lv_at hl 3 rfl) ?_
              obtain ⟨u99, u100, u101, u102, hP, hf⟩ := o_sno (i := 0) (q := o) hM (by omega)
              refine va_get (D := (dC, dI)) (ci := 7) (v := .ref (pF g o 0)) (C := RX3) (T := TX3) (N := 10) hx hb hts (by decide +kernel) hown hK hP 0 rfl rfl 0 (by decide) (hts (.fieldLink RX3 10 "Snowpalace" "sky" "LSnowpalace$Sky;") (by decide +kernel)) (fun _ h9 => h9) rfl dX3_passHour_93 ?_
              refine lv_aload_n hx hb dX3_passHour_96 rfl (lv_at hl 3 rfl) ?_
              obtain ⟨u103, u104, u105, u106, hP, hf⟩ := o_sno (i := 0) (q := o) hM (by omega)
              refine va_get (D := (dC, dI)) (ci := 7) (v := .int (pI g o 1)) (C := RX3) (T := TX3) (N := 10) hx hb hts (by decide +kernel) hown hK hP 0 rfl rfl 4 (by decide) (hts (.fieldLink RX3 33 "Snowpalace" "clock" "I") (by decide +kernel)) (fun _ h9 => h9) rfl dX3_passHour_97 ?_
              have hv107 := hf.2.2.2.2.1
              obtain ⟨hP, hf⟩ := o_sky (i := 0) (q := (pF g o 0)) hM (by omega)
              refine va_calli (va_runV (As := [.int (pI g o 1)]) (rest := [.int r11, .int (nI (j95 % 24)), .ref a45, .int 200, .int u89, .ref o]) ⟨hx, hb, hml, hown, hts⟩ (rk_windOf l dC dI kA eD b g (pF g o 0) (pI g o 1) (by omega)) (cwV 1 hts gX3_passHour_X2_windOf rfl rfl rfl (by decide +kernel) ⟨Nat.le_of_ble_eq_true rfl, Nat.le_of_ble_eq_true rfl⟩) ⟨fb_CX, va_recv hK hP (ci := 6) (q0 := 0) rfl rfl, fun U hU hW => ⟨rfl, CX.give hb0 hM hK hG hE hS hU hW⟩⟩ rfl rfl hl.1 rfl (lv_room (Nat.le_of_ble_eq_true rfl)) dX3_passHour_100 ⟨(Nat.le_of_ble_eq_true rfl), (Nat.le_of_ble_eq_true rfl)⟩) hS (fun q _ h => h) (fun q h => h) (fun r108 u t H locs ht hvm hw109 hB hz1 hk1 hS => ?_)
              have hM := hB.back ht
              have hG := hB.2.2.2.1
              obtain ⟨u110, u111, u112, u113, u114, u115, hP, hf⟩ := o_st (i := j26) (q := a45) hM (by omega)
              refine va_calli (va_runV (As := [.int (nI (j95 % 24)), .int r11, .int r108]) (rest := [.int 200, .int u89, .ref o]) ⟨hx, hb, hml, hown, hts⟩ (rk_wear l dC dI kA eD b g a45 j26 (nI (j95 % 24)) r11 r108 (by omega)) (cwV 3 hts gX3_passHour_X1_wear rfl rfl rfl (by decide +kernel) ⟨Nat.le_of_ble_eq_true rfl, Nat.le_of_ble_eq_true rfl⟩) ⟨fb_CX, va_recv hK hP (ci := 5) (q0 := 0) rfl rfl, fun U hU hW => ⟨rfl, CX.give hb0 hM hK hG hE hS hU hW⟩⟩ rfl rfl hl.1 rfl (lv_room (Nat.le_of_ble_eq_true rfl)) dX3_passHour_103 ⟨(Nat.le_of_ble_eq_true rfl), (Nat.le_of_ble_eq_true rfl)⟩) hS (fun q _ h => h) (fun q h => h) (fun r116 u t H locs ht hvm hw117 hB hz1 hk1 hS => ?_)
              have hM := hB.back ht
              have hG := hB.2.2.2.1
              refine lv_imul hx hb dX3_passHour_106 ?_
              refine lv_topi (fun v118 e119 => ?_)
              subst e119
              refine lv_isub hx hb dX3_passHour_107 ?_
              refine lv_topi (fun v120 e121 => ?_)
              subst e121
              obtain ⟨u122, u123, u124, u125, hP, hf⟩ := o_sno (i := 0) (q := o) hM (by omega)
              refine rt_put (D := (dC, dI)) (ci := 7) (v := .int (u89 - (200 * r116))) (ty := .int) (C := RX3) (T := TX3) (N := 10) hx hb hts (by decide +kernel) tyX3 tyX3_ok nmX3 hown hK hP (hM.ge (by omega)) hS rfl 9 (by decide) (hts (.fieldLink RX3 49 "Snowpalace" "funds" "I") (by decide +kernel)) (fun _ h9 => h9) rfl (by decide +kernel) rfl rfl (Nat.le_of_ble_eq_true rfl) dX3_passHour_108 (fun H locs hP hz ho hS => ?_)
              have hM := s_sno (i := 0) hM (by omega) hP ho hf
              refine lv_aload_n hx hb dX3_passHour_111 rfl (lv_at hl 3 rfl) ?_
              refine lv_dup hx hb dX3_passHour_112 rfl ?_
              obtain ⟨u126, u127, u128, u129, hP, hf⟩ := o_sno (i := 0) (q := o) hM (by omega)
              refine va_get (D := (dC, dI)) (ci := 7) (v := .int u129) (C := RX3) (T := TX3) (N := 10) hx hb hts (by decide +kernel) hown hK hP 0 rfl rfl 9 (by decide) (hts (.fieldLink RX3 49 "Snowpalace" "funds" "I") (by decide +kernel)) (fun _ h9 => h9) rfl dX3_passHour_113 ?_
              refine lv_sipush (v := 200) hx hb dX3_passHour_116 (by decide) ?_
              refine lv_aload_n hx hb dX3_passHour_119 rfl (lv_at hl 0 rfl) ?_
              refine lv_iload_n hx hb dX3_passHour_120 rfl (lv_at hl 2 rfl) ?_
              obtain ⟨u130, u131, u132, u133, u134, u135, hP, hf⟩ := o_st (i := j26) (q := a45) hM (by omega)
              refine va_calli (va_runV (As := [.int r11]) (rest := [.int 200, .int u129, .ref o]) ⟨hx, hb, hml, hown, hts⟩ (rk_settle l dC dI kA eD b g a45 j26 r11 (by omega)) (cwV 1 hts gX3_passHour_X1_settle rfl rfl rfl (by decide +kernel) ⟨Nat.le_of_ble_eq_true rfl, Nat.le_of_ble_eq_true rfl⟩) ⟨fb_CX, va_recv hK hP (ci := 5) (q0 := 0) rfl rfl, fun U hU hW => ⟨rfl, CX.give hb0 hM hK hG hE hS hU hW⟩⟩ rfl rfl hl.1 rfl (lv_room (Nat.le_of_ble_eq_true rfl)) dX3_passHour_121 ⟨(Nat.le_of_ble_eq_true rfl), (Nat.le_of_ble_eq_true rfl)⟩) hS (fun q _ h => h) (fun q h => h) (fun r136 u t H locs ht hvm hw137 hB hz1 hk1 hS => ?_)
              have hM := hB.back ht
              have hG := hB.2.2.2.1
              refine lv_imul hx hb dX3_passHour_124 ?_
              refine lv_topi (fun v138 e139 => ?_)
              subst e139
              refine lv_isub hx hb dX3_passHour_125 ?_
              refine lv_topi (fun v140 e141 => ?_)
              subst e141
              obtain ⟨u142, u143, u144, u145, hP, hf⟩ := o_sno (i := 0) (q := o) hM (by omega)
              refine rt_put (D := (dC, dI)) (ci := 7) (v := .int (u129 - (200 * r136))) (ty := .int) (C := RX3) (T := TX3) (N := 10) hx hb hts (by decide +kernel) tyX3 tyX3_ok nmX3 hown hK hP (hM.ge (by omega)) hS rfl 9 (by decide) (hts (.fieldLink RX3 49 "Snowpalace" "funds" "I") (by decide +kernel)) (fun _ h9 => h9) rfl (by decide +kernel) rfl rfl (Nat.le_of_ble_eq_true rfl) dX3_passHour_126 (fun H locs hP hz ho hS => ?_)
              have hM := s_sno (i := 0) hM (by omega) hP ho hf
              refine lv_aload_n hx hb dX3_passHour_129 rfl (lv_at hl 0 rfl) ?_
              refine lv_iload_n hx hb dX3_passHour_130 rfl (lv_at hl 2 rfl) ?_
              obtain ⟨u146, u147, u148, u149, u150, u151, hP, hf⟩ := o_st (i := j26) (q := a45) hM (by omega)
              refine va_callv (va_runV (As := [.int r11]) (rest := []) ⟨hx, hb, hml, hown, hts⟩ (rk_growOld l dC dI kA eD b g a45 j26 r11 (by omega)) (cwV 1 hts gX3_passHour_X1_growOld rfl rfl rfl (by decide +kernel) ⟨Nat.le_of_ble_eq_true rfl, Nat.le_of_ble_eq_true rfl⟩) ⟨fb_CX, va_recv hK hP (ci := 5) (q0 := 0) rfl rfl, fun U hU hW => ⟨rfl, CX.give hb0 hM hK hG hE hS hU hW⟩⟩ rfl rfl hl.1 rfl (lv_room (Nat.le_of_ble_eq_true rfl)) dX3_passHour_131 ⟨(Nat.le_of_ble_eq_true rfl), (Nat.le_of_ble_eq_true rfl)⟩) hS (fun q _ h => h) (fun q h => h) (fun u t H locs ht hvm hw153 hB hz1 hk1 hS => ?_)
              have hM := hB.back ht
              have hG := hB.2.2.2.1
              refine lv_iinc (v := (nI (j26 + 1))) (lv' := [(2, .int (nI (j26 + 1))), (3, .ref a45), (1, .int r11), (0, .ref o)]) hx hb dX3_passHour_134 hl (k := 1) rfl (nI_add j26 1) (by decide) rfl (fun ls hl => ?_)
              refine lv_goto (tgt := 50) hx hb dX3_passHour_137 (by decide) ?_
              exact ih29 ((j26 + 1)) (by omega) (by omega) (by omega) H _ ls  hM hS (lv_sub hl [0, 2, 3] rfl)
    exact lp27 (3 + 1) 0 (by omega) (by omega) (by omega) H _ ls  hM hS (lv_sub hl [0, 1, 2] rfl)
  · skip
    refine lv_aload_n hx hb dX3_passHour_27 rfl (lv_at hl 1 rfl) ?_
    obtain ⟨u154, u155, u156, u157, hP, hf⟩ := o_sno (i := 0) (q := o) hM (by omega)
    refine va_get (D := (dC, dI)) (ci := 7) (v := .ref (pF g o 0)) (C := RX3) (T := TX3) (N := 10) hx hb hts (by decide +kernel) hown hK hP 0 rfl rfl 0 (by decide) (hts (.fieldLink RX3 10 "Snowpalace" "sky" "LSnowpalace$Sky;") (by decide +kernel)) (fun _ h9 => h9) rfl dX3_passHour_28 ?_
    refine lv_aload_n hx hb dX3_passHour_31 rfl (lv_at hl 1 rfl) ?_
    obtain ⟨u158, u159, u160, u161, hP, hf⟩ := o_sno (i := 0) (q := o) hM (by omega)
    refine va_get (D := (dC, dI)) (ci := 7) (v := .int (pI g o 1)) (C := RX3) (T := TX3) (N := 10) hx hb hts (by decide +kernel) hown hK hP 0 rfl rfl 4 (by decide) (hts (.fieldLink RX3 33 "Snowpalace" "clock" "I") (by decide +kernel)) (fun _ h9 => h9) rfl dX3_passHour_32 ?_
    have hv162 := hf.2.2.2.2.1
    obtain ⟨hP, hf⟩ := o_sky (i := 0) (q := (pF g o 0)) hM (by omega)
    refine va_calli (va_runV (As := [.int (pI g o 1)]) (rest := []) ⟨hx, hb, hml, hown, hts⟩ (rk_wetWarmthOf l dC dI kA eD b g (pF g o 0) (pI g o 1) (by omega)) (cwV 1 hts gX3_passHour_X2_wetWarmthOf rfl rfl rfl (by decide +kernel) ⟨Nat.le_of_ble_eq_true rfl, Nat.le_of_ble_eq_true rfl⟩) ⟨fb_CX, va_recv hK hP (ci := 6) (q0 := 0) rfl rfl, fun U hU hW => ⟨rfl, CX.give hb0 hM hK hG hE hS hU hW⟩⟩ rfl rfl hl.1 rfl (lv_room (Nat.le_of_ble_eq_true rfl)) dX3_passHour_35 ⟨(Nat.le_of_ble_eq_true rfl), (Nat.le_of_ble_eq_true rfl)⟩) hS (fun q _ h => h) (fun q h => h) (fun r163 u t H locs ht hvm hw164 hB hz1 hk1 hS => ?_)
    have hM := hB.back ht
    have hG := hB.2.2.2.1
    refine lv_bipush (v := (-20)) hx hb dX3_passHour_38 (by decide) ?_
    refine lv_icmp_gt (tgt := 48) hx hb dX3_passHour_40 (by decide) (fun c165 => ?_) (fun c165 => ?_)
    · skip
      have i166 := (Int32.lt_iff_toInt_lt).mp c165
      have ii166 : ((-20) : Int32).toInt = -20 := by decide
      have i166 := i166
      refine lv_iconst (v := 0) hx hb dX3_passHour_48 (by decide) ?_
      refine lv_istore_n (lv' := [(2, .int 0), (1, .int r11), (0, .ref o)]) hx hb dX3_passHour_49 rfl hl (by decide) rfl (fun ls hl => ?_)
      have lp168 : ∀ (n169 j167 : Nat) , 0 ≤ j167 → j167 ≤ 3 → 3 < j167 + n169 → ∀ (H : Heap) (locs : List Loc) (ls : Array Slot), TM (dC, dI) kA b g H → va_S (fun q => b ≤ q) s.heap H locs → lv_has ls 4 [(2, .int (nI j167)), (1, .int r11), (0, .ref o)] → W p l e (headSpec wsX3_passHour ({ frames := 5, cells := 0, slots := 0, locals := 115 })).room s m args below meth c H locs 0 0 Q (F0 m 50 ls []) := by
        intro n169
        induction n169 with
        | zero => intro j167 h0 h1 h2; omega
        | succ n169 ih170 =>
          intro j167 lj167 hj167 hn169 H locs ls hM hS hl
          refine lv_iload_n hx hb dX3_passHour_50 rfl (lv_at hl 0 rfl) ?_
          refine lv_aload_n hx hb dX3_passHour_51 rfl (lv_at hl 2 rfl) ?_
          obtain ⟨u171, u172, u173, u174, hP, hf⟩ := o_sno (i := 0) (q := o) hM (by omega)
          refine va_get (D := (dC, dI)) (ci := 7) (v := .int (pI g o 0)) (C := RX3) (T := TX3) (N := 10) hx hb hts (by decide +kernel) hown hK hP 0 rfl rfl 3 (by decide) (hts (.fieldLink RX3 29 "Snowpalace" "siteCount" "I") (by decide +kernel)) (fun _ h9 => h9) rfl dX3_passHour_52 ?_
          have hv175 := hf.2.2.2.1
          refine lv_icmp_ge (tgt := 140) hx hb dX3_passHour_55 (by decide) (fun c176 => ?_) (fun c176 => ?_)
          · skip
            have i177 := (Int32.le_iff_toInt_le).mp c176
            have ii177 : ((nI j167) : Int32).toInt = ((j167 : Nat) : Int) := nI_toInt (by omega)
            have i177 := i177
            subst hQ
            refine W.widen (k := 0) (n := 0) (Nat.le_of_ble_eq_true rfl) (Nat.le_of_ble_eq_true rfl) ?_
            exact W.vret hx hb hr (fun t ht hW => ⟨⟨(), rfl, trivial, CX.give hb0 hM hK hG hE hS ht hW⟩, hS.F ht⟩) hS.2.2 dX3_passHour_140
          · skip
            have i178 := fun z => c176 ((Int32.le_iff_toInt_le).mpr z)
            have ii178 : ((nI j167) : Int32).toInt = ((j167 : Nat) : Int) := nI_toInt (by omega)
            have i178 : ¬ (((pI g o 0) : Int32).toInt ≤ ((nI j167) : Int32).toInt) := i178
            refine lv_aload_n hx hb dX3_passHour_58 rfl (lv_at hl 2 rfl) ?_
            refine lv_iload_n hx hb dX3_passHour_59 rfl (lv_at hl 0 rfl) ?_
            obtain ⟨u179, u180, u181, u182, hP, hf⟩ := o_sno (i := 0) (q := o) hM (by omega)
            refine va_callq (va_runV (As := [.int (nI j167)]) (rest := []) ⟨hx, hb, hml, hown, hts⟩ (rk_numberedSite l dC dI kA eD b g o (nI j167) (by omega)) (cwV 1 hts gX3_passHour_X3_numberedSite rfl rfl rfl (by decide +kernel) ⟨Nat.le_of_ble_eq_true rfl, Nat.le_of_ble_eq_true rfl⟩) ⟨fb_CX, va_recv hK hP (ci := 7) (q0 := 0) rfl rfl, fun U hU hW => ⟨rfl, CX.give hb0 hM hK hG hE hS hU hW⟩⟩ rfl rfl hl.1 rfl (lv_room (Nat.le_of_ble_eq_true rfl)) dX3_passHour_60 ⟨(Nat.le_of_ble_eq_true rfl), (Nat.le_of_ble_eq_true rfl)⟩) hS (fun q _ h => h) (fun q h => h) (fun r183 u t H locs ht hvm hw184 hB hz1 hk1 hS => ?_)
            have hM := hB.back ht
            have hG := hB.2.2.2.1
            rcases hw184 with ⟨rfl, hn190⟩ | ⟨j185, a186, rfl, hs9, hj189, ho187, ht188⟩
            · skip
              refine lv_astore_nN (lv' := [(3, .null), (2, .int (nI j167)), (1, .int r11), (0, .ref o)]) hx hb dX3_passHour_63 rfl hl (by decide) rfl (fun ls hl => ?_)
              refine lv_aload_nN hx hb dX3_passHour_64 rfl (lv_at hl 0 rfl) ?_
              refine lv_ifnullN (tgt := 134) hx hb dX3_passHour_65 (by decide) ?_
              refine lv_iinc (v := (nI (j167 + 1))) (lv' := [(2, .int (nI (j167 + 1))), (3, .null), (1, .int r11), (0, .ref o)]) hx hb dX3_passHour_134 hl (k := 1) rfl (nI_add j167 1) (by decide) rfl (fun ls hl => ?_)
              refine lv_goto (tgt := 50) hx hb dX3_passHour_137 (by decide) ?_
              exact ih170 ((j167 + 1)) (by omega) (by omega) (by omega) H _ ls  hM hS (lv_sub hl [0, 2, 3] rfl)
            · skip
              have hs9 : j167 = j185 := (nI_eq (by omega) (by omega)).mp hs9
              subst hs9
              refine lv_astore_n (lv' := [(3, .ref a186), (2, .int (nI j167)), (1, .int r11), (0, .ref o)]) hx hb dX3_passHour_63 rfl hl (by decide) rfl (fun ls hl => ?_)
              refine lv_aload_n hx hb dX3_passHour_64 rfl (lv_at hl 0 rfl) ?_
              refine lv_ifnull hx hb dX3_passHour_65 ?_
              refine lv_aload_n hx hb dX3_passHour_68 rfl (lv_at hl 0 rfl) ?_
              obtain ⟨u191, u192, u193, u194, u195, u196, hP, hf⟩ := o_st (i := j167) (q := a186) hM (by omega)
              refine va_get (D := (dC, dI)) (ci := 5) (v := .int (pI g a186 0)) (C := RX1) (T := TX1) (N := 15) hx hb hts (by decide +kernel) hown hK hP 0 rfl rfl 8 (by decide) (hts (.fieldLink RX3 221 "Snowpalace$Site" "covered" "Z") (by decide +kernel)) (fun _ h9 => h9) rfl dX3_passHour_69 ?_
              have hv197 := hf.2.2.2.2.2.2.2.2
              refine lv_if_ne (tgt := 111) hx hb dX3_passHour_72 (by decide) (fun c198 => ?_) (fun c198 => ?_)
              · skip
                refine lv_aload_n hx hb dX3_passHour_111 rfl (lv_at hl 3 rfl) ?_
                refine lv_dup hx hb dX3_passHour_112 rfl ?_
                obtain ⟨u199, u200, u201, u202, hP, hf⟩ := o_sno (i := 0) (q := o) hM (by omega)
                refine va_get (D := (dC, dI)) (ci := 7) (v := .int u202) (C := RX3) (T := TX3) (N := 10) hx hb hts (by decide +kernel) hown hK hP 0 rfl rfl 9 (by decide) (hts (.fieldLink RX3 49 "Snowpalace" "funds" "I") (by decide +kernel)) (fun _ h9 => h9) rfl dX3_passHour_113 ?_
                refine lv_sipush (v := 200) hx hb dX3_passHour_116 (by decide) ?_
                refine lv_aload_n hx hb dX3_passHour_119 rfl (lv_at hl 0 rfl) ?_
                refine lv_iload_n hx hb dX3_passHour_120 rfl (lv_at hl 2 rfl) ?_
                obtain ⟨u203, u204, u205, u206, u207, u208, hP, hf⟩ := o_st (i := j167) (q := a186) hM (by omega)
                refine va_calli (va_runV (As := [.int r11]) (rest := [.int 200, .int u202, .ref o]) ⟨hx, hb, hml, hown, hts⟩ (rk_settle l dC dI kA eD b g a186 j167 r11 (by omega)) (cwV 1 hts gX3_passHour_X1_settle rfl rfl rfl (by decide +kernel) ⟨Nat.le_of_ble_eq_true rfl, Nat.le_of_ble_eq_true rfl⟩) ⟨fb_CX, va_recv hK hP (ci := 5) (q0 := 0) rfl rfl, fun U hU hW => ⟨rfl, CX.give hb0 hM hK hG hE hS hU hW⟩⟩ rfl rfl hl.1 rfl (lv_room (Nat.le_of_ble_eq_true rfl)) dX3_passHour_121 ⟨(Nat.le_of_ble_eq_true rfl), (Nat.le_of_ble_eq_true rfl)⟩) hS (fun q _ h => h) (fun q h => h) (fun r209 u t H locs ht hvm hw210 hB hz1 hk1 hS => ?_)
                have hM := hB.back ht
                have hG := hB.2.2.2.1
                refine lv_imul hx hb dX3_passHour_124 ?_
                refine lv_topi (fun v211 e212 => ?_)
                subst e212
                refine lv_isub hx hb dX3_passHour_125 ?_
                refine lv_topi (fun v213 e214 => ?_)
                subst e214
                obtain ⟨u215, u216, u217, u218, hP, hf⟩ := o_sno (i := 0) (q := o) hM (by omega)
                refine rt_put (D := (dC, dI)) (ci := 7) (v := .int (u202 - (200 * r209))) (ty := .int) (C := RX3) (T := TX3) (N := 10) hx hb hts (by decide +kernel) tyX3 tyX3_ok nmX3 hown hK hP (hM.ge (by omega)) hS rfl 9 (by decide) (hts (.fieldLink RX3 49 "Snowpalace" "funds" "I") (by decide +kernel)) (fun _ h9 => h9) rfl (by decide +kernel) rfl rfl (Nat.le_of_ble_eq_true rfl) dX3_passHour_126 (fun H locs hP hz ho hS => ?_)
                have hM := s_sno (i := 0) hM (by omega) hP ho hf
                refine lv_aload_n hx hb dX3_passHour_129 rfl (lv_at hl 0 rfl) ?_
                refine lv_iload_n hx hb dX3_passHour_130 rfl (lv_at hl 2 rfl) ?_
                obtain ⟨u219, u220, u221, u222, u223, u224, hP, hf⟩ := o_st (i := j167) (q := a186) hM (by omega)
                refine va_callv (va_runV (As := [.int r11]) (rest := []) ⟨hx, hb, hml, hown, hts⟩ (rk_growOld l dC dI kA eD b g a186 j167 r11 (by omega)) (cwV 1 hts gX3_passHour_X1_growOld rfl rfl rfl (by decide +kernel) ⟨Nat.le_of_ble_eq_true rfl, Nat.le_of_ble_eq_true rfl⟩) ⟨fb_CX, va_recv hK hP (ci := 5) (q0 := 0) rfl rfl, fun U hU hW => ⟨rfl, CX.give hb0 hM hK hG hE hS hU hW⟩⟩ rfl rfl hl.1 rfl (lv_room (Nat.le_of_ble_eq_true rfl)) dX3_passHour_131 ⟨(Nat.le_of_ble_eq_true rfl), (Nat.le_of_ble_eq_true rfl)⟩) hS (fun q _ h => h) (fun q h => h) (fun u t H locs ht hvm hw226 hB hz1 hk1 hS => ?_)
                have hM := hB.back ht
                have hG := hB.2.2.2.1
                refine lv_iinc (v := (nI (j167 + 1))) (lv' := [(2, .int (nI (j167 + 1))), (3, .ref a186), (1, .int r11), (0, .ref o)]) hx hb dX3_passHour_134 hl (k := 1) rfl (nI_add j167 1) (by decide) rfl (fun ls hl => ?_)
                refine lv_goto (tgt := 50) hx hb dX3_passHour_137 (by decide) ?_
                exact ih170 ((j167 + 1)) (by omega) (by omega) (by omega) H _ ls  hM hS (lv_sub hl [0, 2, 3] rfl)
              · skip
                refine lv_aload_n hx hb dX3_passHour_75 rfl (lv_at hl 3 rfl) ?_
                refine lv_dup hx hb dX3_passHour_76 rfl ?_
                obtain ⟨u227, u228, u229, u230, hP, hf⟩ := o_sno (i := 0) (q := o) hM (by omega)
                refine va_get (D := (dC, dI)) (ci := 7) (v := .int u230) (C := RX3) (T := TX3) (N := 10) hx hb hts (by decide +kernel) hown hK hP 0 rfl rfl 9 (by decide) (hts (.fieldLink RX3 49 "Snowpalace" "funds" "I") (by decide +kernel)) (fun _ h9 => h9) rfl dX3_passHour_77 ?_
                refine lv_sipush (v := 200) hx hb dX3_passHour_80 (by decide) ?_
                refine lv_aload_n hx hb dX3_passHour_83 rfl (lv_at hl 0 rfl) ?_
                refine lv_aload_n hx hb dX3_passHour_84 rfl (lv_at hl 3 rfl) ?_
                obtain ⟨u231, u232, u233, u234, hP, hf⟩ := o_sno (i := 0) (q := o) hM (by omega)
                refine va_get (D := (dC, dI)) (ci := 7) (v := .int (pI g o 1)) (C := RX3) (T := TX3) (N := 10) hx hb hts (by decide +kernel) hown hK hP 0 rfl rfl 4 (by decide) (hts (.fieldLink RX3 33 "Snowpalace" "clock" "I") (by decide +kernel)) (fun _ h9 => h9) rfl dX3_passHour_85 ?_
                have hv235 := hf.2.2.2.2.1
                refine lv_bipush (v := 24) hx hb dX3_passHour_88 (by decide) ?_
                obtain ⟨j236, hj236, en237⟩ := toN (p := (pI g o 1)) (k := 504) (by omega) (by omega) (by decide)
                rw [en237]
                try rw [en237] at hl
                have hl : lv_has ls 4 [(3, .ref a186), (2, .int (nI j167)), (1, .int r11), (0, .ref o)] := hl
                refine lv_irem hx hb dX3_passHour_90 (by decide) ?_
                refine lv_topi (fun v238 e239 => ?_)
                obtain rfl : v238 = nI (j236 % 24) := e239.trans (pk_rem (a := j236) (d := 24) (by omega) (by decide) (by decide))
                refine lv_iload_n hx hb dX3_passHour_91 rfl (lv_at hl 2 rfl) ?_
                refine lv_aload_n hx hb dX3_passHour_92 rfl (lv_at hl 3 rfl) ?_
                obtain ⟨u240, u241, u242, u243, hP, hf⟩ := o_sno (i := 0) (q := o) hM (by omega)
                refine va_get (D := (dC, dI)) (ci := 7) (v := .ref (pF g o 0)) (C := RX3) (T := TX3) (N := 10) hx hb hts (by decide +kernel) hown hK hP 0 rfl rfl 0 (by decide) (hts (.fieldLink RX3 10 "Snowpalace" "sky" "LSnowpalace$Sky;") (by decide +kernel)) (fun _ h9 => h9) rfl dX3_passHour_93 ?_
                refine lv_aload_n hx hb dX3_passHour_96 rfl (lv_at hl 3 rfl) ?_
                obtain ⟨u244, u245, u246, u247, hP, hf⟩ := o_sno (i := 0) (q := o) hM (by omega)
                refine va_get (D := (dC, dI)) (ci := 7) (v := .int (pI g o 1)) (C := RX3) (T := TX3) (N := 10) hx hb hts (by decide +kernel) hown hK hP 0 rfl rfl 4 (by decide) (hts (.fieldLink RX3 33 "Snowpalace" "clock" "I") (by decide +kernel)) (fun _ h9 => h9) rfl dX3_passHour_97 ?_
                have hv248 := hf.2.2.2.2.1
                obtain ⟨hP, hf⟩ := o_sky (i := 0) (q := (pF g o 0)) hM (by omega)
                refine va_calli (va_runV (As := [.int (pI g o 1)]) (rest := [.int r11, .int (nI (j236 % 24)), .ref a186, .int 200, .int u230, .ref o]) ⟨hx, hb, hml, hown, hts⟩ (rk_windOf l dC dI kA eD b g (pF g o 0) (pI g o 1) (by omega)) (cwV 1 hts gX3_passHour_X2_windOf rfl rfl rfl (by decide +kernel) ⟨Nat.le_of_ble_eq_true rfl, Nat.le_of_ble_eq_true rfl⟩) ⟨fb_CX, va_recv hK hP (ci := 6) (q0 := 0) rfl rfl, fun U hU hW => ⟨rfl, CX.give hb0 hM hK hG hE hS hU hW⟩⟩ rfl rfl hl.1 rfl (lv_room (Nat.le_of_ble_eq_true rfl)) dX3_passHour_100 ⟨(Nat.le_of_ble_eq_true rfl), (Nat.le_of_ble_eq_true rfl)⟩) hS (fun q _ h => h) (fun q h => h) (fun r249 u t H locs ht hvm hw250 hB hz1 hk1 hS => ?_)
                have hM := hB.back ht
                have hG := hB.2.2.2.1
                obtain ⟨u251, u252, u253, u254, u255, u256, hP, hf⟩ := o_st (i := j167) (q := a186) hM (by omega)
                refine va_calli (va_runV (As := [.int (nI (j236 % 24)), .int r11, .int r249]) (rest := [.int 200, .int u230, .ref o]) ⟨hx, hb, hml, hown, hts⟩ (rk_wear l dC dI kA eD b g a186 j167 (nI (j236 % 24)) r11 r249 (by omega)) (cwV 3 hts gX3_passHour_X1_wear rfl rfl rfl (by decide +kernel) ⟨Nat.le_of_ble_eq_true rfl, Nat.le_of_ble_eq_true rfl⟩) ⟨fb_CX, va_recv hK hP (ci := 5) (q0 := 0) rfl rfl, fun U hU hW => ⟨rfl, CX.give hb0 hM hK hG hE hS hU hW⟩⟩ rfl rfl hl.1 rfl (lv_room (Nat.le_of_ble_eq_true rfl)) dX3_passHour_103 ⟨(Nat.le_of_ble_eq_true rfl), (Nat.le_of_ble_eq_true rfl)⟩) hS (fun q _ h => h) (fun q h => h) (fun r257 u t H locs ht hvm hw258 hB hz1 hk1 hS => ?_)
                have hM := hB.back ht
                have hG := hB.2.2.2.1
                refine lv_imul hx hb dX3_passHour_106 ?_
                refine lv_topi (fun v259 e260 => ?_)
                subst e260
                refine lv_isub hx hb dX3_passHour_107 ?_
                refine lv_topi (fun v261 e262 => ?_)
                subst e262
                obtain ⟨u263, u264, u265, u266, hP, hf⟩ := o_sno (i := 0) (q := o) hM (by omega)
                refine rt_put (D := (dC, dI)) (ci := 7) (v := .int (u230 - (200 * r257))) (ty := .int) (C := RX3) (T := TX3) (N := 10) hx hb hts (by decide +kernel) tyX3 tyX3_ok nmX3 hown hK hP (hM.ge (by omega)) hS rfl 9 (by decide) (hts (.fieldLink RX3 49 "Snowpalace" "funds" "I") (by decide +kernel)) (fun _ h9 => h9) rfl (by decide +kernel) rfl rfl (Nat.le_of_ble_eq_true rfl) dX3_passHour_108 (fun H locs hP hz ho hS => ?_)
                have hM := s_sno (i := 0) hM (by omega) hP ho hf
                refine lv_aload_n hx hb dX3_passHour_111 rfl (lv_at hl 3 rfl) ?_
                refine lv_dup hx hb dX3_passHour_112 rfl ?_
                obtain ⟨u267, u268, u269, u270, hP, hf⟩ := o_sno (i := 0) (q := o) hM (by omega)
                refine va_get (D := (dC, dI)) (ci := 7) (v := .int u270) (C := RX3) (T := TX3) (N := 10) hx hb hts (by decide +kernel) hown hK hP 0 rfl rfl 9 (by decide) (hts (.fieldLink RX3 49 "Snowpalace" "funds" "I") (by decide +kernel)) (fun _ h9 => h9) rfl dX3_passHour_113 ?_
                refine lv_sipush (v := 200) hx hb dX3_passHour_116 (by decide) ?_
                refine lv_aload_n hx hb dX3_passHour_119 rfl (lv_at hl 0 rfl) ?_
                refine lv_iload_n hx hb dX3_passHour_120 rfl (lv_at hl 2 rfl) ?_
                obtain ⟨u271, u272, u273, u274, u275, u276, hP, hf⟩ := o_st (i := j167) (q := a186) hM (by omega)
                refine va_calli (va_runV (As := [.int r11]) (rest := [.int 200, .int u270, .ref o]) ⟨hx, hb, hml, hown, hts⟩ (rk_settle l dC dI kA eD b g a186 j167 r11 (by omega)) (cwV 1 hts gX3_passHour_X1_settle rfl rfl rfl (by decide +kernel) ⟨Nat.le_of_ble_eq_true rfl, Nat.le_of_ble_eq_true rfl⟩) ⟨fb_CX, va_recv hK hP (ci := 5) (q0 := 0) rfl rfl, fun U hU hW => ⟨rfl, CX.give hb0 hM hK hG hE hS hU hW⟩⟩ rfl rfl hl.1 rfl (lv_room (Nat.le_of_ble_eq_true rfl)) dX3_passHour_121 ⟨(Nat.le_of_ble_eq_true rfl), (Nat.le_of_ble_eq_true rfl)⟩) hS (fun q _ h => h) (fun q h => h) (fun r277 u t H locs ht hvm hw278 hB hz1 hk1 hS => ?_)
                have hM := hB.back ht
                have hG := hB.2.2.2.1
                refine lv_imul hx hb dX3_passHour_124 ?_
                refine lv_topi (fun v279 e280 => ?_)
                subst e280
                refine lv_isub hx hb dX3_passHour_125 ?_
                refine lv_topi (fun v281 e282 => ?_)
                subst e282
                obtain ⟨u283, u284, u285, u286, hP, hf⟩ := o_sno (i := 0) (q := o) hM (by omega)
                refine rt_put (D := (dC, dI)) (ci := 7) (v := .int (u270 - (200 * r277))) (ty := .int) (C := RX3) (T := TX3) (N := 10) hx hb hts (by decide +kernel) tyX3 tyX3_ok nmX3 hown hK hP (hM.ge (by omega)) hS rfl 9 (by decide) (hts (.fieldLink RX3 49 "Snowpalace" "funds" "I") (by decide +kernel)) (fun _ h9 => h9) rfl (by decide +kernel) rfl rfl (Nat.le_of_ble_eq_true rfl) dX3_passHour_126 (fun H locs hP hz ho hS => ?_)
                have hM := s_sno (i := 0) hM (by omega) hP ho hf
                refine lv_aload_n hx hb dX3_passHour_129 rfl (lv_at hl 0 rfl) ?_
                refine lv_iload_n hx hb dX3_passHour_130 rfl (lv_at hl 2 rfl) ?_
                obtain ⟨u287, u288, u289, u290, u291, u292, hP, hf⟩ := o_st (i := j167) (q := a186) hM (by omega)
                refine va_callv (va_runV (As := [.int r11]) (rest := []) ⟨hx, hb, hml, hown, hts⟩ (rk_growOld l dC dI kA eD b g a186 j167 r11 (by omega)) (cwV 1 hts gX3_passHour_X1_growOld rfl rfl rfl (by decide +kernel) ⟨Nat.le_of_ble_eq_true rfl, Nat.le_of_ble_eq_true rfl⟩) ⟨fb_CX, va_recv hK hP (ci := 5) (q0 := 0) rfl rfl, fun U hU hW => ⟨rfl, CX.give hb0 hM hK hG hE hS hU hW⟩⟩ rfl rfl hl.1 rfl (lv_room (Nat.le_of_ble_eq_true rfl)) dX3_passHour_131 ⟨(Nat.le_of_ble_eq_true rfl), (Nat.le_of_ble_eq_true rfl)⟩) hS (fun q _ h => h) (fun q h => h) (fun u t H locs ht hvm hw294 hB hz1 hk1 hS => ?_)
                have hM := hB.back ht
                have hG := hB.2.2.2.1
                refine lv_iinc (v := (nI (j167 + 1))) (lv' := [(2, .int (nI (j167 + 1))), (3, .ref a186), (1, .int r11), (0, .ref o)]) hx hb dX3_passHour_134 hl (k := 1) rfl (nI_add j167 1) (by decide) rfl (fun ls hl => ?_)
                refine lv_goto (tgt := 50) hx hb dX3_passHour_137 (by decide) ?_
                exact ih170 ((j167 + 1)) (by omega) (by omega) (by omega) H _ ls  hM hS (lv_sub hl [0, 2, 3] rfl)
      exact lp168 (3 + 1) 0 (by omega) (by omega) (by omega) H _ ls  hM hS (lv_sub hl [0, 1, 2] rfl)
    · skip
      have i295 := fun z => c165 ((Int32.lt_iff_toInt_lt).mpr z)
      have ii295 : ((-20) : Int32).toInt = -20 := by decide
      have i295 : ¬ (((-20) : Int32).toInt < (r163 : Int32).toInt) := i295
      refine lv_aload_n hx hb dX3_passHour_43 rfl (lv_at hl 1 rfl) ?_
      refine lv_iconst (v := 2) hx hb dX3_passHour_44 (by decide) ?_
      obtain ⟨u296, u297, u298, u299, hP, hf⟩ := o_sno (i := 0) (q := o) hM (by omega)
      refine va_callv (va_runV (As := [.int 2]) (rest := []) ⟨hx, hb, hml, hown, hts⟩ (rk_storeSnow l dC dI kA eD b g o 2 (by omega)) (cwV 1 hts gX3_passHour_X3_storeSnow rfl rfl rfl (by decide +kernel) ⟨Nat.le_of_ble_eq_true rfl, Nat.le_of_ble_eq_true rfl⟩) ⟨fb_CX, va_recv hK hP (ci := 7) (q0 := 0) rfl rfl, fun U hU hW => ⟨rfl, CX.give hb0 hM hK hG hE hS hU hW⟩⟩ rfl rfl hl.1 rfl (lv_room (Nat.le_of_ble_eq_true rfl)) dX3_passHour_45 ⟨(Nat.le_of_ble_eq_true rfl), (Nat.le_of_ble_eq_true rfl)⟩) hS (fun q _ h => h) (fun q h => h) (fun u t H locs ht hvm hw301 hB hz1 hk1 hS => ?_)
      have hM := hB.back ht
      have hG := hB.2.2.2.1
      refine lv_iconst (v := 0) hx hb dX3_passHour_48 (by decide) ?_
      refine lv_istore_n (lv' := [(2, .int 0), (1, .int r11), (0, .ref o)]) hx hb dX3_passHour_49 rfl hl (by decide) rfl (fun ls hl => ?_)
      have lp303 : ∀ (n304 j302 : Nat) , 0 ≤ j302 → j302 ≤ 3 → 3 < j302 + n304 → ∀ (H : Heap) (locs : List Loc) (ls : Array Slot), TM (dC, dI) kA b g H → va_S (fun q => b ≤ q) s.heap H locs → lv_has ls 4 [(2, .int (nI j302)), (1, .int r11), (0, .ref o)] → W p l e (headSpec wsX3_passHour ({ frames := 5, cells := 0, slots := 0, locals := 115 })).room s m args below meth c H locs 0 0 Q (F0 m 50 ls []) := by
        intro n304
        induction n304 with
        | zero => intro j302 h0 h1 h2; omega
        | succ n304 ih305 =>
          intro j302 lj302 hj302 hn304 H locs ls hM hS hl
          refine lv_iload_n hx hb dX3_passHour_50 rfl (lv_at hl 0 rfl) ?_
          refine lv_aload_n hx hb dX3_passHour_51 rfl (lv_at hl 2 rfl) ?_
          obtain ⟨u306, u307, u308, u309, hP, hf⟩ := o_sno (i := 0) (q := o) hM (by omega)
          refine va_get (D := (dC, dI)) (ci := 7) (v := .int (pI g o 0)) (C := RX3) (T := TX3) (N := 10) hx hb hts (by decide +kernel) hown hK hP 0 rfl rfl 3 (by decide) (hts (.fieldLink RX3 29 "Snowpalace" "siteCount" "I") (by decide +kernel)) (fun _ h9 => h9) rfl dX3_passHour_52 ?_
          have hv310 := hf.2.2.2.1
          refine lv_icmp_ge (tgt := 140) hx hb dX3_passHour_55 (by decide) (fun c311 => ?_) (fun c311 => ?_)
          · skip
            have i312 := (Int32.le_iff_toInt_le).mp c311
            have ii312 : ((nI j302) : Int32).toInt = ((j302 : Nat) : Int) := nI_toInt (by omega)
            have i312 := i312
            subst hQ
            refine W.widen (k := 0) (n := 0) (Nat.le_of_ble_eq_true rfl) (Nat.le_of_ble_eq_true rfl) ?_
            exact W.vret hx hb hr (fun t ht hW => ⟨⟨(), rfl, trivial, CX.give hb0 hM hK hG hE hS ht hW⟩, hS.F ht⟩) hS.2.2 dX3_passHour_140
          · skip
            have i313 := fun z => c311 ((Int32.le_iff_toInt_le).mpr z)
            have ii313 : ((nI j302) : Int32).toInt = ((j302 : Nat) : Int) := nI_toInt (by omega)
            have i313 : ¬ (((pI g o 0) : Int32).toInt ≤ ((nI j302) : Int32).toInt) := i313
            refine lv_aload_n hx hb dX3_passHour_58 rfl (lv_at hl 2 rfl) ?_
            refine lv_iload_n hx hb dX3_passHour_59 rfl (lv_at hl 0 rfl) ?_
            obtain ⟨u314, u315, u316, u317, hP, hf⟩ := o_sno (i := 0) (q := o) hM (by omega)
            refine va_callq (va_runV (As := [.int (nI j302)]) (rest := []) ⟨hx, hb, hml, hown, hts⟩ (rk_numberedSite l dC dI kA eD b g o (nI j302) (by omega)) (cwV 1 hts gX3_passHour_X3_numberedSite rfl rfl rfl (by decide +kernel) ⟨Nat.le_of_ble_eq_true rfl, Nat.le_of_ble_eq_true rfl⟩) ⟨fb_CX, va_recv hK hP (ci := 7) (q0 := 0) rfl rfl, fun U hU hW => ⟨rfl, CX.give hb0 hM hK hG hE hS hU hW⟩⟩ rfl rfl hl.1 rfl (lv_room (Nat.le_of_ble_eq_true rfl)) dX3_passHour_60 ⟨(Nat.le_of_ble_eq_true rfl), (Nat.le_of_ble_eq_true rfl)⟩) hS (fun q _ h => h) (fun q h => h) (fun r318 u t H locs ht hvm hw319 hB hz1 hk1 hS => ?_)
            have hM := hB.back ht
            have hG := hB.2.2.2.1
            rcases hw319 with ⟨rfl, hn325⟩ | ⟨j320, a321, rfl, hs9, hj324, ho322, ht323⟩
            · skip
              refine lv_astore_nN (lv' := [(3, .null), (2, .int (nI j302)), (1, .int r11), (0, .ref o)]) hx hb dX3_passHour_63 rfl hl (by decide) rfl (fun ls hl => ?_)
              refine lv_aload_nN hx hb dX3_passHour_64 rfl (lv_at hl 0 rfl) ?_
              refine lv_ifnullN (tgt := 134) hx hb dX3_passHour_65 (by decide) ?_
              refine lv_iinc (v := (nI (j302 + 1))) (lv' := [(2, .int (nI (j302 + 1))), (3, .null), (1, .int r11), (0, .ref o)]) hx hb dX3_passHour_134 hl (k := 1) rfl (nI_add j302 1) (by decide) rfl (fun ls hl => ?_)
              refine lv_goto (tgt := 50) hx hb dX3_passHour_137 (by decide) ?_
              exact ih305 ((j302 + 1)) (by omega) (by omega) (by omega) H _ ls  hM hS (lv_sub hl [0, 2, 3] rfl)
            · skip
              have hs9 : j302 = j320 := (nI_eq (by omega) (by omega)).mp hs9
              subst hs9
              refine lv_astore_n (lv' := [(3, .ref a321), (2, .int (nI j302)), (1, .int r11), (0, .ref o)]) hx hb dX3_passHour_63 rfl hl (by decide) rfl (fun ls hl => ?_)
              refine lv_aload_n hx hb dX3_passHour_64 rfl (lv_at hl 0 rfl) ?_
              refine lv_ifnull hx hb dX3_passHour_65 ?_
              refine lv_aload_n hx hb dX3_passHour_68 rfl (lv_at hl 0 rfl) ?_
              obtain ⟨u326, u327, u328, u329, u330, u331, hP, hf⟩ := o_st (i := j302) (q := a321) hM (by omega)
              refine va_get (D := (dC, dI)) (ci := 5) (v := .int (pI g a321 0)) (C := RX1) (T := TX1) (N := 15) hx hb hts (by decide +kernel) hown hK hP 0 rfl rfl 8 (by decide) (hts (.fieldLink RX3 221 "Snowpalace$Site" "covered" "Z") (by decide +kernel)) (fun _ h9 => h9) rfl dX3_passHour_69 ?_
              have hv332 := hf.2.2.2.2.2.2.2.2
              refine lv_if_ne (tgt := 111) hx hb dX3_passHour_72 (by decide) (fun c333 => ?_) (fun c333 => ?_)
              · skip
                refine lv_aload_n hx hb dX3_passHour_111 rfl (lv_at hl 3 rfl) ?_
                refine lv_dup hx hb dX3_passHour_112 rfl ?_
                obtain ⟨u334, u335, u336, u337, hP, hf⟩ := o_sno (i := 0) (q := o) hM (by omega)
                refine va_get (D := (dC, dI)) (ci := 7) (v := .int u337) (C := RX3) (T := TX3) (N := 10) hx hb hts (by decide +kernel) hown hK hP 0 rfl rfl 9 (by decide) (hts (.fieldLink RX3 49 "Snowpalace" "funds" "I") (by decide +kernel)) (fun _ h9 => h9) rfl dX3_passHour_113 ?_
                refine lv_sipush (v := 200) hx hb dX3_passHour_116 (by decide) ?_
                refine lv_aload_n hx hb dX3_passHour_119 rfl (lv_at hl 0 rfl) ?_
                refine lv_iload_n hx hb dX3_passHour_120 rfl (lv_at hl 2 rfl) ?_
                obtain ⟨u338, u339, u340, u341, u342, u343, hP, hf⟩ := o_st (i := j302) (q := a321) hM (by omega)
                refine va_calli (va_runV (As := [.int r11]) (rest := [.int 200, .int u337, .ref o]) ⟨hx, hb, hml, hown, hts⟩ (rk_settle l dC dI kA eD b g a321 j302 r11 (by omega)) (cwV 1 hts gX3_passHour_X1_settle rfl rfl rfl (by decide +kernel) ⟨Nat.le_of_ble_eq_true rfl, Nat.le_of_ble_eq_true rfl⟩) ⟨fb_CX, va_recv hK hP (ci := 5) (q0 := 0) rfl rfl, fun U hU hW => ⟨rfl, CX.give hb0 hM hK hG hE hS hU hW⟩⟩ rfl rfl hl.1 rfl (lv_room (Nat.le_of_ble_eq_true rfl)) dX3_passHour_121 ⟨(Nat.le_of_ble_eq_true rfl), (Nat.le_of_ble_eq_true rfl)⟩) hS (fun q _ h => h) (fun q h => h) (fun r344 u t H locs ht hvm hw345 hB hz1 hk1 hS => ?_)
                have hM := hB.back ht
                have hG := hB.2.2.2.1
                refine lv_imul hx hb dX3_passHour_124 ?_
                refine lv_topi (fun v346 e347 => ?_)
                subst e347
                refine lv_isub hx hb dX3_passHour_125 ?_
                refine lv_topi (fun v348 e349 => ?_)
                subst e349
                obtain ⟨u350, u351, u352, u353, hP, hf⟩ := o_sno (i := 0) (q := o) hM (by omega)
                refine rt_put (D := (dC, dI)) (ci := 7) (v := .int (u337 - (200 * r344))) (ty := .int) (C := RX3) (T := TX3) (N := 10) hx hb hts (by decide +kernel) tyX3 tyX3_ok nmX3 hown hK hP (hM.ge (by omega)) hS rfl 9 (by decide) (hts (.fieldLink RX3 49 "Snowpalace" "funds" "I") (by decide +kernel)) (fun _ h9 => h9) rfl (by decide +kernel) rfl rfl (Nat.le_of_ble_eq_true rfl) dX3_passHour_126 (fun H locs hP hz ho hS => ?_)
                have hM := s_sno (i := 0) hM (by omega) hP ho hf
                refine lv_aload_n hx hb dX3_passHour_129 rfl (lv_at hl 0 rfl) ?_
                refine lv_iload_n hx hb dX3_passHour_130 rfl (lv_at hl 2 rfl) ?_
                obtain ⟨u354, u355, u356, u357, u358, u359, hP, hf⟩ := o_st (i := j302) (q := a321) hM (by omega)
                refine va_callv (va_runV (As := [.int r11]) (rest := []) ⟨hx, hb, hml, hown, hts⟩ (rk_growOld l dC dI kA eD b g a321 j302 r11 (by omega)) (cwV 1 hts gX3_passHour_X1_growOld rfl rfl rfl (by decide +kernel) ⟨Nat.le_of_ble_eq_true rfl, Nat.le_of_ble_eq_true rfl⟩) ⟨fb_CX, va_recv hK hP (ci := 5) (q0 := 0) rfl rfl, fun U hU hW => ⟨rfl, CX.give hb0 hM hK hG hE hS hU hW⟩⟩ rfl rfl hl.1 rfl (lv_room (Nat.le_of_ble_eq_true rfl)) dX3_passHour_131 ⟨(Nat.le_of_ble_eq_true rfl), (Nat.le_of_ble_eq_true rfl)⟩) hS (fun q _ h => h) (fun q h => h) (fun u t H locs ht hvm hw361 hB hz1 hk1 hS => ?_)
                have hM := hB.back ht
                have hG := hB.2.2.2.1
                refine lv_iinc (v := (nI (j302 + 1))) (lv' := [(2, .int (nI (j302 + 1))), (3, .ref a321), (1, .int r11), (0, .ref o)]) hx hb dX3_passHour_134 hl (k := 1) rfl (nI_add j302 1) (by decide) rfl (fun ls hl => ?_)
                refine lv_goto (tgt := 50) hx hb dX3_passHour_137 (by decide) ?_
                exact ih305 ((j302 + 1)) (by omega) (by omega) (by omega) H _ ls  hM hS (lv_sub hl [0, 2, 3] rfl)
              · skip
                refine lv_aload_n hx hb dX3_passHour_75 rfl (lv_at hl 3 rfl) ?_
                refine lv_dup hx hb dX3_passHour_76 rfl ?_
                obtain ⟨u362, u363, u364, u365, hP, hf⟩ := o_sno (i := 0) (q := o) hM (by omega)
                refine va_get (D := (dC, dI)) (ci := 7) (v := .int u365) (C := RX3) (T := TX3) (N := 10) hx hb hts (by decide +kernel) hown hK hP 0 rfl rfl 9 (by decide) (hts (.fieldLink RX3 49 "Snowpalace" "funds" "I") (by decide +kernel)) (fun _ h9 => h9) rfl dX3_passHour_77 ?_
                refine lv_sipush (v := 200) hx hb dX3_passHour_80 (by decide) ?_
                refine lv_aload_n hx hb dX3_passHour_83 rfl (lv_at hl 0 rfl) ?_
                refine lv_aload_n hx hb dX3_passHour_84 rfl (lv_at hl 3 rfl) ?_
                obtain ⟨u366, u367, u368, u369, hP, hf⟩ := o_sno (i := 0) (q := o) hM (by omega)
                refine va_get (D := (dC, dI)) (ci := 7) (v := .int (pI g o 1)) (C := RX3) (T := TX3) (N := 10) hx hb hts (by decide +kernel) hown hK hP 0 rfl rfl 4 (by decide) (hts (.fieldLink RX3 33 "Snowpalace" "clock" "I") (by decide +kernel)) (fun _ h9 => h9) rfl dX3_passHour_85 ?_
                have hv370 := hf.2.2.2.2.1
                refine lv_bipush (v := 24) hx hb dX3_passHour_88 (by decide) ?_
                obtain ⟨j371, hj371, en372⟩ := toN (p := (pI g o 1)) (k := 504) (by omega) (by omega) (by decide)
                rw [en372]
                try rw [en372] at hl
                have hl : lv_has ls 4 [(3, .ref a321), (2, .int (nI j302)), (1, .int r11), (0, .ref o)] := hl
                refine lv_irem hx hb dX3_passHour_90 (by decide) ?_
                refine lv_topi (fun v373 e374 => ?_)
                obtain rfl : v373 = nI (j371 % 24) := e374.trans (pk_rem (a := j371) (d := 24) (by omega) (by decide) (by decide))
                refine lv_iload_n hx hb dX3_passHour_91 rfl (lv_at hl 2 rfl) ?_
                refine lv_aload_n hx hb dX3_passHour_92 rfl (lv_at hl 3 rfl) ?_
                obtain ⟨u375, u376, u377, u378, hP, hf⟩ := o_sno (i := 0) (q := o) hM (by omega)
                refine va_get (D := (dC, dI)) (ci := 7) (v := .ref (pF g o 0)) (C := RX3) (T := TX3) (N := 10) hx hb hts (by decide +kernel) hown hK hP 0 rfl rfl 0 (by decide) (hts (.fieldLink RX3 10 "Snowpalace" "sky" "LSnowpalace$Sky;") (by decide +kernel)) (fun _ h9 => h9) rfl dX3_passHour_93 ?_
                refine lv_aload_n hx hb dX3_passHour_96 rfl (lv_at hl 3 rfl) ?_
                obtain ⟨u379, u380, u381, u382, hP, hf⟩ := o_sno (i := 0) (q := o) hM (by omega)
                refine va_get (D := (dC, dI)) (ci := 7) (v := .int (pI g o 1)) (C := RX3) (T := TX3) (N := 10) hx hb hts (by decide +kernel) hown hK hP 0 rfl rfl 4 (by decide) (hts (.fieldLink RX3 33 "Snowpalace" "clock" "I") (by decide +kernel)) (fun _ h9 => h9) rfl dX3_passHour_97 ?_
                have hv383 := hf.2.2.2.2.1
                obtain ⟨hP, hf⟩ := o_sky (i := 0) (q := (pF g o 0)) hM (by omega)
                refine va_calli (va_runV (As := [.int (pI g o 1)]) (rest := [.int r11, .int (nI (j371 % 24)), .ref a321, .int 200, .int u365, .ref o]) ⟨hx, hb, hml, hown, hts⟩ (rk_windOf l dC dI kA eD b g (pF g o 0) (pI g o 1) (by omega)) (cwV 1 hts gX3_passHour_X2_windOf rfl rfl rfl (by decide +kernel) ⟨Nat.le_of_ble_eq_true rfl, Nat.le_of_ble_eq_true rfl⟩) ⟨fb_CX, va_recv hK hP (ci := 6) (q0 := 0) rfl rfl, fun U hU hW => ⟨rfl, CX.give hb0 hM hK hG hE hS hU hW⟩⟩ rfl rfl hl.1 rfl (lv_room (Nat.le_of_ble_eq_true rfl)) dX3_passHour_100 ⟨(Nat.le_of_ble_eq_true rfl), (Nat.le_of_ble_eq_true rfl)⟩) hS (fun q _ h => h) (fun q h => h) (fun r384 u t H locs ht hvm hw385 hB hz1 hk1 hS => ?_)
                have hM := hB.back ht
                have hG := hB.2.2.2.1
                obtain ⟨u386, u387, u388, u389, u390, u391, hP, hf⟩ := o_st (i := j302) (q := a321) hM (by omega)
                refine va_calli (va_runV (As := [.int (nI (j371 % 24)), .int r11, .int r384]) (rest := [.int 200, .int u365, .ref o]) ⟨hx, hb, hml, hown, hts⟩ (rk_wear l dC dI kA eD b g a321 j302 (nI (j371 % 24)) r11 r384 (by omega)) (cwV 3 hts gX3_passHour_X1_wear rfl rfl rfl (by decide +kernel) ⟨Nat.le_of_ble_eq_true rfl, Nat.le_of_ble_eq_true rfl⟩) ⟨fb_CX, va_recv hK hP (ci := 5) (q0 := 0) rfl rfl, fun U hU hW => ⟨rfl, CX.give hb0 hM hK hG hE hS hU hW⟩⟩ rfl rfl hl.1 rfl (lv_room (Nat.le_of_ble_eq_true rfl)) dX3_passHour_103 ⟨(Nat.le_of_ble_eq_true rfl), (Nat.le_of_ble_eq_true rfl)⟩) hS (fun q _ h => h) (fun q h => h) (fun r392 u t H locs ht hvm hw393 hB hz1 hk1 hS => ?_)
                have hM := hB.back ht
                have hG := hB.2.2.2.1
                refine lv_imul hx hb dX3_passHour_106 ?_
                refine lv_topi (fun v394 e395 => ?_)
                subst e395
                refine lv_isub hx hb dX3_passHour_107 ?_
                refine lv_topi (fun v396 e397 => ?_)
                subst e397
                obtain ⟨u398, u399, u400, u401, hP, hf⟩ := o_sno (i := 0) (q := o) hM (by omega)
                refine rt_put (D := (dC, dI)) (ci := 7) (v := .int (u365 - (200 * r392))) (ty := .int) (C := RX3) (T := TX3) (N := 10) hx hb hts (by decide +kernel) tyX3 tyX3_ok nmX3 hown hK hP (hM.ge (by omega)) hS rfl 9 (by decide) (hts (.fieldLink RX3 49 "Snowpalace" "funds" "I") (by decide +kernel)) (fun _ h9 => h9) rfl (by decide +kernel) rfl rfl (Nat.le_of_ble_eq_true rfl) dX3_passHour_108 (fun H locs hP hz ho hS => ?_)
                have hM := s_sno (i := 0) hM (by omega) hP ho hf
                refine lv_aload_n hx hb dX3_passHour_111 rfl (lv_at hl 3 rfl) ?_
                refine lv_dup hx hb dX3_passHour_112 rfl ?_
                obtain ⟨u402, u403, u404, u405, hP, hf⟩ := o_sno (i := 0) (q := o) hM (by omega)
                refine va_get (D := (dC, dI)) (ci := 7) (v := .int u405) (C := RX3) (T := TX3) (N := 10) hx hb hts (by decide +kernel) hown hK hP 0 rfl rfl 9 (by decide) (hts (.fieldLink RX3 49 "Snowpalace" "funds" "I") (by decide +kernel)) (fun _ h9 => h9) rfl dX3_passHour_113 ?_
                refine lv_sipush (v := 200) hx hb dX3_passHour_116 (by decide) ?_
                refine lv_aload_n hx hb dX3_passHour_119 rfl (lv_at hl 0 rfl) ?_
                refine lv_iload_n hx hb dX3_passHour_120 rfl (lv_at hl 2 rfl) ?_
                obtain ⟨u406, u407, u408, u409, u410, u411, hP, hf⟩ := o_st (i := j302) (q := a321) hM (by omega)
                refine va_calli (va_runV (As := [.int r11]) (rest := [.int 200, .int u405, .ref o]) ⟨hx, hb, hml, hown, hts⟩ (rk_settle l dC dI kA eD b g a321 j302 r11 (by omega)) (cwV 1 hts gX3_passHour_X1_settle rfl rfl rfl (by decide +kernel) ⟨Nat.le_of_ble_eq_true rfl, Nat.le_of_ble_eq_true rfl⟩) ⟨fb_CX, va_recv hK hP (ci := 5) (q0 := 0) rfl rfl, fun U hU hW => ⟨rfl, CX.give hb0 hM hK hG hE hS hU hW⟩⟩ rfl rfl hl.1 rfl (lv_room (Nat.le_of_ble_eq_true rfl)) dX3_passHour_121 ⟨(Nat.le_of_ble_eq_true rfl), (Nat.le_of_ble_eq_true rfl)⟩) hS (fun q _ h => h) (fun q h => h) (fun r412 u t H locs ht hvm hw413 hB hz1 hk1 hS => ?_)
                have hM := hB.back ht
                have hG := hB.2.2.2.1
                refine lv_imul hx hb dX3_passHour_124 ?_
                refine lv_topi (fun v414 e415 => ?_)
                subst e415
                refine lv_isub hx hb dX3_passHour_125 ?_
                refine lv_topi (fun v416 e417 => ?_)
                subst e417
                obtain ⟨u418, u419, u420, u421, hP, hf⟩ := o_sno (i := 0) (q := o) hM (by omega)
                refine rt_put (D := (dC, dI)) (ci := 7) (v := .int (u405 - (200 * r412))) (ty := .int) (C := RX3) (T := TX3) (N := 10) hx hb hts (by decide +kernel) tyX3 tyX3_ok nmX3 hown hK hP (hM.ge (by omega)) hS rfl 9 (by decide) (hts (.fieldLink RX3 49 "Snowpalace" "funds" "I") (by decide +kernel)) (fun _ h9 => h9) rfl (by decide +kernel) rfl rfl (Nat.le_of_ble_eq_true rfl) dX3_passHour_126 (fun H locs hP hz ho hS => ?_)
                have hM := s_sno (i := 0) hM (by omega) hP ho hf
                refine lv_aload_n hx hb dX3_passHour_129 rfl (lv_at hl 0 rfl) ?_
                refine lv_iload_n hx hb dX3_passHour_130 rfl (lv_at hl 2 rfl) ?_
                obtain ⟨u422, u423, u424, u425, u426, u427, hP, hf⟩ := o_st (i := j302) (q := a321) hM (by omega)
                refine va_callv (va_runV (As := [.int r11]) (rest := []) ⟨hx, hb, hml, hown, hts⟩ (rk_growOld l dC dI kA eD b g a321 j302 r11 (by omega)) (cwV 1 hts gX3_passHour_X1_growOld rfl rfl rfl (by decide +kernel) ⟨Nat.le_of_ble_eq_true rfl, Nat.le_of_ble_eq_true rfl⟩) ⟨fb_CX, va_recv hK hP (ci := 5) (q0 := 0) rfl rfl, fun U hU hW => ⟨rfl, CX.give hb0 hM hK hG hE hS hU hW⟩⟩ rfl rfl hl.1 rfl (lv_room (Nat.le_of_ble_eq_true rfl)) dX3_passHour_131 ⟨(Nat.le_of_ble_eq_true rfl), (Nat.le_of_ble_eq_true rfl)⟩) hS (fun q _ h => h) (fun q h => h) (fun u t H locs ht hvm hw429 hB hz1 hk1 hS => ?_)
                have hM := hB.back ht
                have hG := hB.2.2.2.1
                refine lv_iinc (v := (nI (j302 + 1))) (lv' := [(2, .int (nI (j302 + 1))), (3, .ref a321), (1, .int r11), (0, .ref o)]) hx hb dX3_passHour_134 hl (k := 1) rfl (nI_add j302 1) (by decide) rfl (fun ls hl => ?_)
                refine lv_goto (tgt := 50) hx hb dX3_passHour_137 (by decide) ?_
                exact ih305 ((j302 + 1)) (by omega) (by omega) (by omega) H _ ls  hM hS (lv_sub hl [0, 2, 3] rfl)
      exact lp303 (3 + 1) 0 (by omega) (by omega) (by omega) H _ ls  hM hS (lv_sub hl [0, 1, 2] rfl)

set_option maxHeartbeats 4000000 in
set_option maxRecDepth 100000 in
theorem rf_go (l : Launch) (hlt : l.stackTraces = false) (dC : Nat → ClassId) (dI : Nat → Nat → Nat) (kA : Nat → ClassId) (eD b : Nat) (g : Gh) (o : Nat) (hrs : Int32) (hto : tg g o = 1)  : vx_Met l yX3_go wsX3_go ({ frames := 6, cells := 1, slots := 6, locals := 138 }) (va_Pc [.ref o, .int hrs] (CX (dC, dI) kA eD b g)) (va_Qi (fun (r : Int32) (u : Gh) => (∀ a : Nat, tg g a ≠ 0 → tg u a = tg g a) ∧ ∃ c h, pI g o 1 = nI c ∧ hrs = nI h ∧ (1 ≤ h ∧ h ≤ 48) ∧ c + h ≤ 504 ∧ r = nI (c + h) ∧ u = sI g o 1 (nI (c + h))) (fun (u : Gh) t => CX (dC, dI) kA eD b u t) (fun q => b ≤ q)) (vx_X (fun _ : Unit => True) (fun E _ t => ((E = "java/lang/IllegalArgumentException" ∧ ¬ (1 ≤ hrs.toInt ∧ hrs.toInt ≤ 48)) ∨ (E = "java/lang/IllegalStateException" ∧ (1 ≤ hrs.toInt ∧ hrs.toInt ≤ 48) ∧ 504 < (pI g o 1).toInt + hrs.toInt)) ∧ TM (dC, dI) kA b g t.heap) (fun q => b ≤ q)) 1 6 (fun q => b ≤ q) := by
  refine vx_ofW (cc := cX3_go) (maxL := 3) (ret := (some .int)) (by decide +kernel) rfl ?_
  intro p e s m args below meth c s₁ B hml hnt hv
  obtain ⟨rfl, hb0, hM, hK, hG, hE⟩ := hv
  have hx := B.exec
  have hb := B.bytes
  have hr := B.returns
  have hts := atoms_spec (ws := wsX3_go) B.pre
  have hown : s.vm.findClass RX3 = some m.cls := findClass_of_methodNamed B.named
  have hlocks := B.notSynchronized
  have hT := hE.1
  have hN := hE.2.2.2.2.2.2.2.1
  have hS : va_S (fun q => b ≤ q) s.heap s.heap [] := va_S.rf
  have hl := lv_entry ([.ref o, .int hrs]) (n := 3) (Nat.le_of_ble_eq_true rfl)
  rw [lg_entry_eq]
  generalize (lg_sl ([.ref o, .int hrs]) ++ List.replicate (3 - (lg_sl ([.ref o, .int hrs])).length) Slot.unset).toArray = ls at hl ⊢
  have hl : lv_has ls 3 [(0, .ref o), (1, .int hrs)] := hl
  generalize ([.ref o, .int hrs] : List Value).toArray = args at hts ⊢
  refine W.q (fun Q hQ => ?_)
  refine lv_iload_n hx hb dX3_go_0 rfl (lv_at hl 1 rfl) ?_
  refine lv_iconst (v := 1) hx hb dX3_go_1 (by decide) ?_
  refine lv_bipush (v := 48) hx hb dX3_go_2 (by decide) ?_
  refine va_calli (va_runS (As := [.int hrs, .int 1, .int 48]) (rest := []) ⟨hx, hb, hml, hown, hts⟩ (rk_isWithin l hrs 1 48 (1) (48) (by decide) (by decide)) (va_cwS 3 hts gX3_go_X3_isWithin rfl rfl rfl (by decide +kernel) ⟨Nat.le_of_ble_eq_true rfl, Nat.le_of_ble_eq_true rfl⟩) ⟨fun a U g mk q => q, fun U hU hW => ⟨rfl, trivial⟩⟩ rfl rfl hl.1 rfl (lv_room (Nat.le_of_ble_eq_true rfl)) dX3_go_4 ⟨(Nat.le_of_ble_eq_true rfl), (Nat.le_of_ble_eq_true rfl)⟩) hS (fun q _ h => h.elim) (fun q h => h.elim) (fun r1 u t H locs ht hvm hw2 hB hz1 hk1 hS => ?_)
  have hM := hM.keep (fun p hp => hk1 p hp (fun z => z))
  have hw2 : r1 = bI ((1 : Int) ≤ hrs.toInt ∧ hrs.toInt ≤ (48 : Int)) := hw2
  refine lv_if_ne (tgt := 20) hx hb dX3_go_7 (by decide) (fun c3 => ?_) (fun c3 => ?_)
  · skip
    have g4 : (1 : Int) ≤ hrs.toInt ∧ hrs.toInt ≤ (48 : Int) := bI_t hw2 c3
    have zg4 : r1 = 1 := bI_t1 hw2 g4
    obtain ⟨h, hh9, rfl⟩ := toN (p := hrs) (k := 48) (by omega) (by omega) (by decide)
    have hl : lv_has ls 3 [(0, .ref o), (1, .int (nI h))] := hl
    have eh : (nI h).toInt = (h : Int) := nI_toInt (by omega)
    refine lv_aload_n hx hb dX3_go_20 rfl (lv_at hl 0 rfl) ?_
    obtain ⟨u5, u6, u7, u8, hP, hf⟩ := o_sno (i := 0) (q := o) hM (by omega)
    refine va_get (D := (dC, dI)) (ci := 7) (v := .int (pI g o 1)) (C := RX3) (T := TX3) (N := 10) hx hb hts (by decide +kernel) hown hK hP 0 rfl rfl 4 (by decide) (hts (.fieldLink RX3 33 "Snowpalace" "clock" "I") (by decide +kernel)) (fun _ h9 => h9) rfl dX3_go_21 ?_
    have hv9 := hf.2.2.2.2.1
    obtain ⟨ck, hc9, ec⟩ := toN (p := pI g o 1) (k := 504) (by omega) (by omega) (by decide)
    have ecI : (pI g o 1).toInt = (ck : Int) := by rw [ec]; exact nI_toInt (by omega)
    rw [ec]
    refine lv_iload_n hx hb dX3_go_24 rfl (lv_at hl 1 rfl) ?_
    refine lv_iadd hx hb dX3_go_25 ?_
    refine lv_topi (fun v10 e11 => ?_)
    obtain rfl : v10 = nI (ck + h) := e11.trans (nI_add ck h)
    refine lv_sipush (v := 504) hx hb dX3_go_26 (by decide) ?_
    refine lv_icmp_le (tgt := 42) hx hb dX3_go_29 (by decide) (fun c12 => ?_) (fun c12 => ?_)
    · skip
      have k13 : (ck + h) ≤ 504 := (nI_leI (a := (ck + h)) (b := 504) (by omega) (by omega)).mp c12
      refine lv_iconst (v := 0) hx hb dX3_go_42 (by decide) ?_
      refine lv_istore_n (lv' := [(2, .int 0), (0, .ref o), (1, .int (nI h))]) hx hb dX3_go_43 rfl hl (by decide) rfl (fun ls hl => ?_)
      have hg0 : sI g o 1 (nI (ck + 0)) = g := by rw [show nI (ck + 0) = pI g o 1 from ec.symm]; exact sI_id
      have lp : ∀ (n j : Nat), j ≤ h → h < j + n → ∀ (u : Gh), u = sI g o 1 (nI (ck + j)) → ∀ (H : Heap) (locs : List Loc) (ls : Array Slot), GOK u → TM (dC, dI) kA b u H → va_S (fun q => b ≤ q) s.heap H locs → lv_has ls 3 [(2, .int (nI j)), (0, .ref o), (1, .int (nI h))] → W p l e (headSpec wsX3_go ({ frames := 6, cells := 1, slots := 6, locals := 138 })).room s m args below meth c H locs 0 0 Q (F0 m 44 ls []) := by
        intro n
        induction n with
        | zero => intro j h0 h1; omega
        | succ n ih =>
          intro j hj hn u hu H locs ls hG hM hS hl
          have htu : tg u o = 1 := by rw [hu]; exact hto
          have eu : pI u o 1 = nI (ck + j) := by rw [hu]; exact sI_at
          refine lv_iload_n hx hb dX3_go_44 rfl (lv_at hl 0 rfl) ?_
          refine lv_iload_n hx hb dX3_go_45 rfl (lv_at hl 2 rfl) ?_
          refine lv_icmp_ge (tgt := 69) hx hb dX3_go_46 (by decide) (fun c14 => ?_) (fun c14 => ?_)
          · skip
            have k15 : h ≤ j := (nI_leI (a := h) (b := j) (by omega) (by omega)).mp c14
            refine lv_aload_n hx hb dX3_go_69 rfl (lv_at hl 1 rfl) ?_
            obtain ⟨u16, u17, u18, u19, hP, hf⟩ := o_sno (i := 0) (q := o) hM (by omega)
            refine va_get (D := (dC, dI)) (ci := 7) (v := .int (pI u o 1)) (C := RX3) (T := TX3) (N := 10) hx hb hts (by decide +kernel) hown hK hP 0 rfl rfl 4 (by decide) (hts (.fieldLink RX3 33 "Snowpalace" "clock" "I") (by decide +kernel)) (fun _ h9 => h9) rfl dX3_go_70 ?_
            have hv20 := hf.2.2.2.2.1
            subst hQ
            refine vx_ret ?_
            refine W.widen (k := 1) (n := 6) (Nat.le_of_ble_eq_true rfl) (Nat.le_of_ble_eq_true rfl) ?_
            exact W.iret (v := (pI u o 1)) hx hb hr (fun t ht hW => ⟨⟨(pI u o 1), u, rfl, ⟨fun _ _ => by rw [hu]; rfl, ck, h, ec, rfl, by omega, by omega, by rw [eu, show j = h by omega], by rw [hu, show j = h by omega]⟩, CX.give hb0 hM hK hG hE hS ht hW⟩, hS.F ht⟩) hS.2.2 dX3_go_73
          · skip
            have k21 : ¬ (h ≤ j) := fun z => c14 ((nI_leI (a := h) (b := j) (by omega) (by omega)).mpr z)
            refine lv_aload_n hx hb dX3_go_49 rfl (lv_at hl 1 rfl) ?_
            obtain ⟨u22, u23, u24, u25, hP, hf⟩ := o_sno (i := 0) (q := o) hM (by omega)
            refine va_callv (va_runV (As := []) (rest := []) ⟨hx, hb, hml, hown, hts⟩ (rk_passHour l dC dI kA eD b u o (by omega)) (cwV 0 hts gX3_go_X3_passHour rfl rfl rfl (by decide +kernel) ⟨Nat.le_of_ble_eq_true rfl, Nat.le_of_ble_eq_true rfl⟩) ⟨fb_CX, va_recv hK hP (ci := 7) (q0 := 0) rfl rfl, fun U hU hW => ⟨rfl, CX.give hb0 hM hK hG hE hS hU hW⟩⟩ rfl rfl hl.1 rfl (lv_room (Nat.le_of_ble_eq_true rfl)) dX3_go_50 ⟨(Nat.le_of_ble_eq_true rfl), (Nat.le_of_ble_eq_true rfl)⟩) hS (fun q _ h => h) (fun q h => h) (fun uu t H locs ht hvm hw27 hB hz1 hk1 hS => ?_)
            have hM := hB.back ht
            have hG := hB.2.2.2.1
            refine lv_aload_n hx hb dX3_go_53 rfl (lv_at hl 1 rfl) ?_
            refine lv_dup hx hb dX3_go_54 rfl ?_
            obtain ⟨u28, u29, u30, u31, hP, hf⟩ := o_sno (i := 0) (q := o) hM (by omega)
            refine va_get (D := (dC, dI)) (ci := 7) (v := .int (pI u o 1)) (C := RX3) (T := TX3) (N := 10) hx hb hts (by decide +kernel) hown hK hP 0 rfl rfl 4 (by decide) (hts (.fieldLink RX3 33 "Snowpalace" "clock" "I") (by decide +kernel)) (fun _ h9 => h9) rfl dX3_go_55 ?_
            have hv32 := hf.2.2.2.2.1
            rw [eu]
            refine lv_iconst (v := 1) hx hb dX3_go_58 (by decide) ?_
            refine lv_iadd hx hb dX3_go_59 ?_
            refine lv_topi (fun v33 e34 => ?_)
            obtain rfl : v33 = nI ((ck + j) + 1) := e34.trans (nI_add (ck + j) 1)
            obtain ⟨u35, u36, u37, u38, hP, hf⟩ := o_sno (i := 0) (q := o) hM (by omega)
            refine rt_put (D := (dC, dI)) (ci := 7) (v := .int (nI ((ck + j) + 1))) (ty := .int) (C := RX3) (T := TX3) (N := 10) hx hb hts (by decide +kernel) tyX3 tyX3_ok nmX3 hown hK hP (hM.ge (by omega)) hS rfl 4 (by decide) (hts (.fieldLink RX3 33 "Snowpalace" "clock" "I") (by decide +kernel)) (fun _ h9 => h9) rfl (by decide +kernel) rfl rfl (Nat.le_of_ble_eq_true rfl) dX3_go_60 (fun H locs hP hz ho hS => ?_)
            have hM0 := hM
            have hM := p_sno (i := 0) (f := upd (pI u o) 1 (nI ((ck + j) + 1))) hM (by omega) hP ho ⟨hf.1, hf.2.1, hf.2.2.1, hf.2.2.2.1, (by have e9 : ((nI ((ck + j) + 1))).toInt = ((ck + j + 1 : Nat) : Int) := nI_toInt (by omega); exact ⟨(show 0 ≤ ((nI ((ck + j) + 1))).toInt by omega), (show ((nI ((ck + j) + 1))).toInt ≤ 504 by omega)⟩), hf.2.2.2.2.2⟩
            obtain ⟨g40, hg40⟩ : ∃ z, z = uI u o (upd (pI u o) 1 (nI ((ck + j) + 1))) := ⟨_, rfl⟩
            rw [← hg40] at hM
            have ht41 : tg g40 o = 1 := by rw [hg40]; exact htu
            have hG : GOK g40 := by rw [hg40]; exact (hG.uI hM0 (Or.inr rfl))
            refine lv_iinc (v := (nI (j + 1))) (lv' := [(2, .int (nI (j + 1))), (0, .ref o), (1, .int (nI h))]) hx hb dX3_go_63 hl (k := 0) rfl (nI_add j 1) (by decide) rfl (fun ls hl => ?_)
            refine lv_goto (tgt := 44) hx hb dX3_go_66 (by decide) ?_
            exact ih ((j + 1)) (by omega) (by omega) g40 (by rw [hg40, hu]; exact sI_sI) H _ ls hG hM hS (lv_sub hl [0, 1, 2] rfl)
      exact lp (h + 1) 0 (by omega) (by omega) g hg0.symm H _ ls hG hM hS (lv_sub hl [0, 1, 2] rfl)
    · skip
      have k43 : ¬ ((ck + h) ≤ 504) := fun z => c12 ((nI_leI (a := (ck + h)) (b := 504) (by omega) (by omega)).mpr z)
      obtain ⟨sa, hsa⟩ := hT.2.1 (94, "the clock ends at 504") (by decide +kernel)
      subst hQ
      exact vx_throwS (A := (fun q => b ≤ q)) (own := RX3) (cls := "java/lang/IllegalStateException") (text := "the clock ends at 504") (names := exN) hx hb hlt hown (by decide +kernel) (by decide +kernel) (hts (.classLink RX3 92 "java/lang/IllegalStateException") (by decide +kernel)) (hts (.initialized "java/lang/IllegalStateException") (by decide +kernel)) hsa (th_hat hT (fun w h => hts w (List.mem_cons_of_mem _ (List.mem_append_left _ (List.mem_append_left _ (List.mem_append_right _ h))))) th_i3) (th_good th_i3) hT.2.2.2.1 hT.2.2.2.2 hS (hl.1.trans hml.symm) dX3_go_32 dX3_go_35 dX3_go_36 dX3_go_38 dX3_go_41 (fun x h => (hnt x h).elim) (by decide) (Nat.le_of_ble_eq_true rfl) (Nat.le_of_ble_eq_true rfl) (Nat.le_of_ble_eq_true rfl) hlocks (fun t ha h1 h2 => ⟨(), trivial, ⟨(Or.inr (⟨rfl, by omega⟩)), hM.keep h2⟩, th_F hS h1 h2⟩) hS.2.2 (Nat.le_of_ble_eq_true rfl) (Nat.le_of_ble_eq_true rfl)
  · skip
    have g44 : ¬ ((1 : Int) ≤ hrs.toInt ∧ hrs.toInt ≤ (48 : Int)) := bI_f hw2 c3
    have zg44 : r1 = 0 := bI_f0 hw2 g44
    obtain ⟨sa, hsa⟩ := hT.2.1 (90, "the hours are out of range") (by decide +kernel)
    subst hQ
    exact vx_throwS (A := (fun q => b ≤ q)) (own := RX3) (cls := "java/lang/IllegalArgumentException") (text := "the hours are out of range") (names := exN) hx hb hlt hown (by decide +kernel) (by decide +kernel) (hts (.classLink RX3 56 "java/lang/IllegalArgumentException") (by decide +kernel)) (hts (.initialized "java/lang/IllegalArgumentException") (by decide +kernel)) hsa (th_hat hT (fun w h => hts w (List.mem_cons_of_mem _ (List.mem_append_left _ (List.mem_append_left _ (List.mem_append_left _ (List.mem_append_right _ h)))))) th_i1) (th_good th_i1) hT.2.2.2.1 hT.2.2.2.2 hS (hl.1.trans hml.symm) dX3_go_10 dX3_go_13 dX3_go_14 dX3_go_16 dX3_go_19 (fun x h => (hnt x h).elim) (by decide) (Nat.le_of_ble_eq_true rfl) (Nat.le_of_ble_eq_true rfl) (Nat.le_of_ble_eq_true rfl) hlocks (fun t ha h1 h2 => ⟨(), trivial, ⟨(Or.inl ⟨rfl, by omega⟩), hM.keep h2⟩, th_F hS h1 h2⟩) hS.2.2 (Nat.le_of_ble_eq_true rfl) (Nat.le_of_ble_eq_true rfl)

set_option maxHeartbeats 4000000 in
set_option maxRecDepth 100000 in
theorem rk_bits (l : Launch)  (x : UInt64) (hok : pos x = true → bdok x = true) : Met l yX3_bitsOfDouble wsX3_bitsOfDouble ({ frames := 0, cells := 0, slots := 0, locals := 0 }) (va_Pc [.double x] (fun _ => True)) (va_Ql (fun (r : Int64) (u : Unit) => r = bdr x) (fun (u : Unit) t => True) (fun _ => False)) 0 0 (fun _ => False) := by
  refine Met.ofW (cc := cX3_bitsOfDouble) (maxL := 7) (ret := (some .long)) (by decide +kernel) rfl ?_
  intro p e s m args below meth c s₁ B hml hv
  obtain ⟨rfl, -⟩ := hv
  have hx := B.exec
  have hb := B.bytes
  have hr := B.returns
  have hts := atoms_spec (ws := wsX3_bitsOfDouble) B.pre
  have hown : s.vm.findClass RX3 = some m.cls := findClass_of_methodNamed B.named
  have hlocks := B.notSynchronized
  have hS : va_S (fun _ => False) s.heap s.heap [] := va_S.rf
  have hl := lv_entry ([.double x]) (n := 7) (Nat.le_of_ble_eq_true rfl)
  rw [lg_entry_eq]
  generalize (lg_sl ([.double x]) ++ List.replicate (7 - (lg_sl ([.double x])).length) Slot.unset).toArray = ls at hl ⊢
  have hl : lv_has ls 7 [(0, .double x)] := hl
  refine lv_dload_n hx hb dX3_bitsOfDouble_0 rfl (lv_at hl 0 rfl) ?_
  refine lv_dconst0 hx hb dX3_bitsOfDouble_1 ?_
  refine lv_dcmp hx hb dX3_bitsOfDouble_2 ?_
  refine lv_if_gt (tgt := 8) hx hb dX3_bitsOfDouble_3 (by decide) (fun c1 => ?_) (fun c1 => ?_)
  · skip
    have hpos : pos x = true := pos_lt.mpr c1
    obtain ⟨hk1x, hk2x, hk3x, hk4x⟩ := bdok_of (hok hpos)
    refine lv_dload_n hx hb dX3_bitsOfDouble_8 rfl (lv_at hl 0 rfl) ?_
    refine lv_dstore_n (lv' := [(2, .double x), (0, .double x)]) hx hb dX3_bitsOfDouble_9 rfl hl (by decide) rfl (fun ls hl => ?_)
    refine lv_ldc2 hx hb hown (hts (.constantLong RX3 343 1023) (by decide +kernel)) dX3_bitsOfDouble_10 ?_
    refine lv_lstore (lv' := [(4, .long 1023), (2, .double x), (0, .double x)]) hx hb dX3_bitsOfDouble_13 hl (by decide) rfl (fun ls hl => ?_)
    refine lv_iconst (v := 0) hx hb dX3_bitsOfDouble_15 (by decide) ?_
    refine lv_istore (lv' := [(6, .int 0), (4, .long 1023), (2, .double x), (0, .double x)]) hx hb dX3_bitsOfDouble_16 hl (by decide) rfl (fun ls hl => ?_)
    have hloop2 : ∀ (Q : State → Prop), (∀ (dd : UInt64) (ee : Int64) (H : Heap) (locs : List Loc) (ls : Array Slot), (bd1 (1023 - 1023) dd ee = bd1 1023 x 1023 ∧ bd1ok (1023 - 1023) dd = true) → va_S (fun _ => False) s.heap H locs → lv_has ls 7 [(2, .double dd), (4, .long ee), (0, .double x)] → W p l e (headSpec wsX3_bitsOfDouble ({ frames := 0, cells := 0, slots := 0, locals := 0 })).room s m ([.double x] : List Value).toArray below meth c H locs 0 0 Q (F0 m 52 ls [])) → ∀ (n i : Nat) (dd : UInt64) (ee : Int64), i ≤ 1023 → 1023 < i + n → ∀ (H : Heap) (locs : List Loc) (ls : Array Slot), (bd1 (1023 - i) dd ee = bd1 1023 x 1023 ∧ bd1ok (1023 - i) dd = true) → va_S (fun _ => False) s.heap H locs → lv_has ls 7 [(6, .int (nI i)), (2, .double dd), (4, .long ee), (0, .double x)] → W p l e (headSpec wsX3_bitsOfDouble ({ frames := 0, cells := 0, slots := 0, locals := 0 })).room s m ([.double x] : List Value).toArray below meth c H locs 0 0 Q (F0 m 18 ls []) := by
      intro Q hk n
      induction n with
      | zero => intro i dd ee h1 h2; omega
      | succ n ih =>
        intro i dd ee hi hin H locs ls hinv hS hl
        refine lv_iload hx hb dX3_bitsOfDouble_18 (lv_at hl 0 rfl) ?_
        refine lv_sipush (v := 1023) hx hb dX3_bitsOfDouble_20 (by decide) ?_
        refine lv_icmp_ge (tgt := 52) hx hb dX3_bitsOfDouble_23 (by decide) (fun c3 => ?_) (fun c3 => ?_)
        · skip
          have hi4 : i = 1023 := by
            have := (nI_leI (a := 1023) (b := i) (by omega) (by omega)).mp c3
            omega
          subst hi4
          exact hk dd ee H locs ls hinv hS (lv_sub hl [1, 2, 3] rfl)
        · skip
          have hlt : i < 1023 := by
            rcases Nat.lt_or_ge i 1023 with q | q
            · exact q
            · exact absurd ((nI_leI (a := 1023) (b := i) (by omega) (by omega)).mpr q) c3
          refine lv_dload_n hx hb dX3_bitsOfDouble_26 rfl (lv_at hl 1 rfl) ?_
          refine lv_ldc2d hx hb hown (hts (.constantDouble RX3 345 4611686018427387904) (by decide +kernel)) dX3_bitsOfDouble_27 ?_
          refine lv_dcmp hx hb dX3_bitsOfDouble_30 ?_
          refine lv_if_lt (tgt := 52) hx hb dX3_bitsOfDouble_31 (by decide) (fun c4 => ?_) (fun c4 => ?_)
          · skip
            have hge : ge2 dd = false := by unfold ge2; rw [decide_eq_true c4]; rfl
            exact hk dd ee H locs ls (bd1_stop hlt hinv hge) hS (lv_sub hl [1, 2, 3] rfl)
          · skip
            have hge : ge2 dd = true := by unfold ge2; rw [decide_eq_false c4]; rfl
            refine lv_dload_n hx hb dX3_bitsOfDouble_34 rfl (lv_at hl 1 rfl) ?_
            refine lv_ldc2d hx hb hown (hts (.constantDouble RX3 345 4611686018427387904) (by decide +kernel)) dX3_bitsOfDouble_35 ?_
            refine lv_ddiv hx hb dX3_bitsOfDouble_38 (n64b_of (bd1_step hlt hinv hge).1) ?_
            refine lv_dstore_n (lv' := [(2, .double (FP.ddiv dd 4611686018427387904)), (6, .int (nI i)), (4, .long ee), (0, .double x)]) hx hb dX3_bitsOfDouble_39 rfl hl (by decide) rfl (fun ls hl => ?_)
            refine lv_lload hx hb dX3_bitsOfDouble_40 (lv_at hl 2 rfl) ?_
            refine lv_lconst (v := 1) hx hb dX3_bitsOfDouble_42 (by decide) ?_
            refine lv_ladd hx hb dX3_bitsOfDouble_43 ?_
            refine lv_topl (fun v5 e6 => ?_)
            refine lv_lstore (lv' := [(4, .long v5), (2, .double (FP.ddiv dd 4611686018427387904)), (6, .int (nI i)), (0, .double x)]) hx hb dX3_bitsOfDouble_44 hl (by decide) rfl (fun ls hl => ?_)
            refine lv_iinc (v := (nI (i + 1))) (lv' := [(6, .int (nI (i + 1))), (4, .long v5), (2, .double (FP.ddiv dd 4611686018427387904)), (0, .double x)]) hx hb dX3_bitsOfDouble_46 hl (k := 2) rfl (nI_1 i) (by decide) rfl (fun ls hl => ?_)
            refine lv_goto (tgt := 18) hx hb dX3_bitsOfDouble_49 (by decide) ?_
            exact ih (i + 1) (FP.ddiv dd 4611686018427387904) v5 hlt (by omega) H locs ls (by rw [e6]; exact (bd1_step hlt hinv hge).2) hS (lv_sub hl [0, 2, 1, 3] rfl)
    refine hloop2 _ (fun dd ee H locs ls hinv hS hl => ?_) (1023 + 1) 0 x 1023 (Nat.zero_le _) (by omega) _ _ ls (⟨rfl, hk1x⟩) hS (lv_sub hl [0, 2, 1, 3] rfl)
    have hr1 := hinv.1
    obtain ⟨d1, hd1⟩ : ∃ z, z = dd := ⟨_, rfl⟩
    obtain ⟨e1, he1⟩ : ∃ z, z = ee := ⟨_, rfl⟩
    subst hd1 he1
    have hl : lv_has ls 7 [(2, .double d1), (4, .long e1), (0, .double x)] := hl
    refine lv_iconst (v := 0) hx hb dX3_bitsOfDouble_52 (by decide) ?_
    refine lv_istore (lv' := [(6, .int 0), (2, .double d1), (4, .long e1), (0, .double x)]) hx hb dX3_bitsOfDouble_53 hl (by decide) rfl (fun ls hl => ?_)
    have hloop7 : ∀ (Q : State → Prop), (∀ (dd : UInt64) (ee : Int64) (H : Heap) (locs : List Loc) (ls : Array Slot), (bd2 (1022 - 1022) dd ee = bd2 1022 d1 e1 ∧ bd2ok (1022 - 1022) dd = true) → va_S (fun _ => False) s.heap H locs → lv_has ls 7 [(2, .double dd), (4, .long ee), (0, .double x)] → W p l e (headSpec wsX3_bitsOfDouble ({ frames := 0, cells := 0, slots := 0, locals := 0 })).room s m ([.double x] : List Value).toArray below meth c H locs 0 0 Q (F0 m 87 ls [])) → ∀ (n i : Nat) (dd : UInt64) (ee : Int64), i ≤ 1022 → 1022 < i + n → ∀ (H : Heap) (locs : List Loc) (ls : Array Slot), (bd2 (1022 - i) dd ee = bd2 1022 d1 e1 ∧ bd2ok (1022 - i) dd = true) → va_S (fun _ => False) s.heap H locs → lv_has ls 7 [(6, .int (nI i)), (2, .double dd), (4, .long ee), (0, .double x)] → W p l e (headSpec wsX3_bitsOfDouble ({ frames := 0, cells := 0, slots := 0, locals := 0 })).room s m ([.double x] : List Value).toArray below meth c H locs 0 0 Q (F0 m 55 ls []) := by
      intro Q hk n
      induction n with
      | zero => intro i dd ee h1 h2; omega
      | succ n ih =>
        intro i dd ee hi hin H locs ls hinv hS hl
        refine lv_iload hx hb dX3_bitsOfDouble_55 (lv_at hl 0 rfl) ?_
        refine lv_sipush (v := 1022) hx hb dX3_bitsOfDouble_57 (by decide) ?_
        refine lv_icmp_ge (tgt := 87) hx hb dX3_bitsOfDouble_60 (by decide) (fun c8 => ?_) (fun c8 => ?_)
        · skip
          have hi4 : i = 1022 := by
            have := (nI_leI (a := 1022) (b := i) (by omega) (by omega)).mp c8
            omega
          subst hi4
          exact hk dd ee H locs ls hinv hS (lv_sub hl [1, 2, 3] rfl)
        · skip
          have hlt : i < 1022 := by
            rcases Nat.lt_or_ge i 1022 with q | q
            · exact q
            · exact absurd ((nI_leI (a := 1022) (b := i) (by omega) (by omega)).mpr q) c8
          refine lv_dload_n hx hb dX3_bitsOfDouble_63 rfl (lv_at hl 1 rfl) ?_
          refine lv_dconst1 hx hb dX3_bitsOfDouble_64 ?_
          refine lv_dcmp hx hb dX3_bitsOfDouble_65 ?_
          refine lv_if_ge (tgt := 87) hx hb dX3_bitsOfDouble_66 (by decide) (fun c9 => ?_) (fun c9 => ?_)
          · skip
            have hlo : lt1 dd = false := by unfold lt1; rw [decide_eq_true c9]; rfl
            exact hk dd ee H locs ls (bd2_stop hlt hinv hlo) hS (lv_sub hl [1, 2, 3] rfl)
          · skip
            have hlo : lt1 dd = true := by unfold lt1; rw [decide_eq_false c9]; rfl
            refine lv_dload_n hx hb dX3_bitsOfDouble_69 rfl (lv_at hl 1 rfl) ?_
            refine lv_ldc2d hx hb hown (hts (.constantDouble RX3 345 4611686018427387904) (by decide +kernel)) dX3_bitsOfDouble_70 ?_
            refine lv_dmul hx hb dX3_bitsOfDouble_73 (n64b_of (bd2_step hlt hinv hlo).1) ?_
            refine lv_dstore_n (lv' := [(2, .double (FP.dmul dd 4611686018427387904)), (6, .int (nI i)), (4, .long ee), (0, .double x)]) hx hb dX3_bitsOfDouble_74 rfl hl (by decide) rfl (fun ls hl => ?_)
            refine lv_lload hx hb dX3_bitsOfDouble_75 (lv_at hl 2 rfl) ?_
            refine lv_lconst (v := 1) hx hb dX3_bitsOfDouble_77 (by decide) ?_
            refine lv_lsub hx hb dX3_bitsOfDouble_78 ?_
            refine lv_topl (fun v10 e11 => ?_)
            refine lv_lstore (lv' := [(4, .long v10), (2, .double (FP.dmul dd 4611686018427387904)), (6, .int (nI i)), (0, .double x)]) hx hb dX3_bitsOfDouble_79 hl (by decide) rfl (fun ls hl => ?_)
            refine lv_iinc (v := (nI (i + 1))) (lv' := [(6, .int (nI (i + 1))), (4, .long v10), (2, .double (FP.dmul dd 4611686018427387904)), (0, .double x)]) hx hb dX3_bitsOfDouble_81 hl (k := 2) rfl (nI_1 i) (by decide) rfl (fun ls hl => ?_)
            refine lv_goto (tgt := 55) hx hb dX3_bitsOfDouble_84 (by decide) ?_
            exact ih (i + 1) (FP.dmul dd 4611686018427387904) v10 hlt (by omega) H locs ls (by rw [e11]; exact (bd2_step hlt hinv hlo).2) hS (lv_sub hl [0, 2, 1, 3] rfl)
    refine hloop7 _ (fun dd ee H locs ls hinv hS hl => ?_) (1022 + 1) 0 d1 e1 (Nat.zero_le _) (by omega) _ _ ls (⟨rfl, bd_k2 hr1 hk2x⟩) hS (lv_sub hl [0, 1, 2, 3] rfl)
    refine lv_lload hx hb dX3_bitsOfDouble_87 (lv_at hl 1 rfl) ?_
    refine lv_bipush (v := 52) hx hb dX3_bitsOfDouble_89 (by decide) ?_
    refine lv_lshl hx hb dX3_bitsOfDouble_91 rfl ?_
    refine lv_dload_n hx hb dX3_bitsOfDouble_92 rfl (lv_at hl 0 rfl) ?_
    refine lv_dconst1 hx hb dX3_bitsOfDouble_93 ?_
    refine lv_dsub hx hb dX3_bitsOfDouble_94 (n64b_of (bd_n3 hr1 hinv hk3x)) ?_
    refine lv_ldc2d hx hb hown (hts (.constantDouble RX3 347 4841369599423283200) (by decide +kernel)) dX3_bitsOfDouble_95 ?_
    refine lv_dmul hx hb dX3_bitsOfDouble_98 (n64b_of (bd_n4 hr1 hinv hk4x)) ?_
    refine lv_d2l hx hb dX3_bitsOfDouble_99 ?_
    refine lv_ladd hx hb dX3_bitsOfDouble_100 ?_
    refine lv_topl (fun v12 e13 => ?_)
    refine W.widen (k := 0) (n := 0) (Nat.le_of_ble_eq_true rfl) (Nat.le_of_ble_eq_true rfl) ?_
    exact W.lret (v := v12) hx hb hr (fun t ht hW => ⟨⟨v12, (), rfl, (by unfold bdr; rw [if_pos hpos]; exact bd_eq hr1 hinv e13), trivial⟩, hS.F ht⟩) hS.2.2 dX3_bitsOfDouble_101
  · skip
    refine lv_lconst (v := 0) hx hb dX3_bitsOfDouble_6 (by decide) ?_
    refine W.widen (k := 0) (n := 0) (Nat.le_of_ble_eq_true rfl) (Nat.le_of_ble_eq_true rfl) ?_
    exact W.lret (v := 0) hx hb hr (fun t ht hW => ⟨⟨0, (), rfl, (by unfold bdr; rw [if_neg (fun z => c1 (pos_lt.mp z))]), trivial⟩, hS.F ht⟩) hS.2.2 dX3_bitsOfDouble_7
