set_option maxHeartbeats 4000000 in
set_option maxRecDepth 100000 in
theorem k_weather (l : Launch) (hlt : l.stackTraces = false) (dC : Nat → ClassId) (dI : Nat → Nat → Nat) (sz : Nat) (a : Nat → Nat) (cI cS : ClassId) (f : Nat → Nat → Int32) (hF : FX f) (p0 : Int32) (p1 : Int32) (p2 : Int32) (p3 : Int32) (p4 : Int32)  : vx_Met l yX3_weather wsX3_weather ({ frames := 6, cells := 1, slots := 6, locals := 82 }) (va_Pc [.ref (a 0), .int p0, .int p1, .int p2, .int p3, .int p4] (PT dC dI (wX a cI cS f) [(cI, .int), (cS, .object "Snowpalace$Site")] sz)) (va_Qi (fun (r : Int32) (u : Unit) => ((0 ≤ p0.toInt ∧ p0.toInt ≤ 20) ∧ (-400 ≤ p1.toInt ∧ p1.toInt ≤ 200) ∧ (p1.toInt ≤ p2.toInt ∧ p2.toInt ≤ 200) ∧ (0 ≤ p3.toInt ∧ p3.toInt ≤ 30) ∧ 0 ≤ p4.toInt ∧ p4.toInt ≤ 100) ∧ r = (-150)) (fun (u : Unit) t => True) (va_A (wX a cI cS f) sz)) (vx_X (fun u : String => u = "java/lang/IllegalArgumentException" ∧ ¬ ((0 ≤ p0.toInt ∧ p0.toInt ≤ 20) ∧ (-400 ≤ p1.toInt ∧ p1.toInt ≤ 200) ∧ (p1.toInt ≤ p2.toInt ∧ p2.toInt ≤ 200) ∧ (0 ≤ p3.toInt ∧ p3.toInt ≤ 30) ∧ 0 ≤ p4.toInt ∧ p4.toInt ≤ 100)) (fun E (u : String) _ => E = u) (va_A (wX a cI cS f) sz)) 1 6 (va_A (wX a cI cS f) sz) := by
  refine vx_ofW (cc := cX3_weather) (maxL := 7) (ret := (some .int)) (by decide +kernel) rfl ?_
  intro p e s m args below meth c s₁ B hml hnt hv
  obtain ⟨rfl, ⟨hsz, hP, hK, hD0⟩, hT⟩ := hv
  have hx := B.exec
  have hb := B.bytes
  have hr := B.returns
  have hts := atoms_spec (ws := wsX3_weather) B.pre
  have hown : s.vm.findClass RX3 = some m.cls := findClass_of_methodNamed B.named
  have hlocks := B.notSynchronized
  subst hsz
  have hD := hD0.self (sz := s.heap.size)
  generalize hAe : va_A (wX a cI cS f) s.heap.size = A at hD hT ⊢
  have hA : ∀ q : Nat, s.heap.size ≤ q → A q := fun q h => by rw [← hAe]; exact Or.inr h
  have hS : va_S A s.heap s.heap [] := va_S.rf
  have hl := lv_entry ([.ref (a 0), .int p0, .int p1, .int p2, .int p3, .int p4]) (n := 7) (Nat.le_of_ble_eq_true rfl)
  rw [lg_entry_eq]
  generalize (lg_sl ([.ref (a 0), .int p0, .int p1, .int p2, .int p3, .int p4]) ++ List.replicate (7 - (lg_sl ([.ref (a 0), .int p0, .int p1, .int p2, .int p3, .int p4])).length) Slot.unset).toArray = ls at hl ⊢
  have hl : lv_has ls 7 [(0, .ref (a 0)), (1, .int p0), (2, .int p1), (3, .int p2), (4, .int p3), (5, .int p4)] := hl
  have hN : NS s := hT.ns
  refine lv_iload_n hx hb dX3_weather_0 rfl (lv_at hl 1 rfl) ?_
  refine lv_iconst (v := 0) hx hb dX3_weather_1 (by decide) ?_
  refine lv_bipush (v := 20) hx hb dX3_weather_2 (by decide) ?_
  refine va_calli (va_runS (As := [.int p0, .int 0, .int 20]) (rest := []) ⟨hx, hb, hml, hown, hts⟩ (k_isWithin l p0 0 20 (0) (20) (by decide) (by decide)) (va_cwS 3 hts gX3_weather_X3_isWithin rfl rfl rfl (by decide +kernel) ⟨Nat.le_of_ble_eq_true rfl, Nat.le_of_ble_eq_true rfl⟩) ⟨fun a U g mk q => q, fun U hU hW => ⟨rfl, trivial⟩⟩ rfl rfl hl.1 rfl (lv_room (Nat.le_of_ble_eq_true rfl)) dX3_weather_4 ⟨(Nat.le_of_ble_eq_true rfl), (Nat.le_of_ble_eq_true rfl)⟩) hS (fun q _ h => h.elim) (fun q h => h.elim) (fun r1 u t H locs ht hvm hw2 hB hz1 hk1 hS => ?_)
  have hP := kp_P hP hk1
  have hP : va_P (dC, dI) vwCl (wX a cI cS f) H := hP
  have hD : va_D A (wX a cI cS f) := hD
  have hw2 : r1 = bI ((0 : Int) ≤ p0.toInt ∧ p0.toInt ≤ (20 : Int)) := hw2
  refine lv_if_eq (tgt := 56) hx hb dX3_weather_7 (by decide) (fun c3 => ?_) (fun c3 => ?_)
  · skip
    have g4 : ¬ ((0 : Int) ≤ p0.toInt ∧ p0.toInt ≤ (20 : Int)) := bI_f hw2 c3
    have zg4 : r1 = 0 := bI_f0 hw2 g4
    obtain ⟨sa, hsa⟩ := hT.2.1 (58, "a number is out of range") (by decide +kernel)
    exact vx_throwS (A := A) (own := RX3) (cls := "java/lang/IllegalArgumentException") (text := "a number is out of range") (names := exN) hx hb hlt hown (by decide +kernel) (by decide +kernel) (hts (.classLink RX3 56 "java/lang/IllegalArgumentException") (by decide +kernel)) (hts (.initialized "java/lang/IllegalArgumentException") (by decide +kernel)) hsa (th_hat hT (fun w h => hts w (List.mem_cons_of_mem _ (List.mem_append_left _ (List.mem_append_left _ (List.mem_append_right _ h))))) th_i1) (th_good th_i1) hT.2.2.2.1 hT.2.2.2.2 hS (hl.1.trans hml.symm) dX3_weather_56 dX3_weather_59 dX3_weather_60 dX3_weather_62 dX3_weather_65 (fun x h => (hnt x h).elim) (by decide) (Nat.le_of_ble_eq_true rfl) (Nat.le_of_ble_eq_true rfl) (Nat.le_of_ble_eq_true rfl) hlocks (fun t ha h1 h2 => ⟨_, ⟨rfl, (by omega)⟩, rfl, th_F hS h1 h2⟩) hS.2.2 (Nat.le_of_ble_eq_true rfl) (Nat.le_of_ble_eq_true rfl)
  · skip
    have g5 : (0 : Int) ≤ p0.toInt ∧ p0.toInt ≤ (20 : Int) := bI_t hw2 c3
    have zg5 : r1 = 1 := bI_t1 hw2 g5
    refine lv_iload_n hx hb dX3_weather_10 rfl (lv_at hl 2 rfl) ?_
    refine lv_sipush (v := (-400)) hx hb dX3_weather_11 (by decide) ?_
    refine lv_sipush (v := 200) hx hb dX3_weather_14 (by decide) ?_
    refine va_calli (va_runS (As := [.int p1, .int (-400), .int 200]) (rest := []) ⟨hx, hb, hml, hown, hts⟩ (k_isWithin l p1 (-400) 200 (-400) (200) (by decide) (by decide)) (va_cwS 3 hts gX3_weather_X3_isWithin rfl rfl rfl (by decide +kernel) ⟨Nat.le_of_ble_eq_true rfl, Nat.le_of_ble_eq_true rfl⟩) ⟨fun a U g mk q => q, fun U hU hW => ⟨rfl, trivial⟩⟩ rfl rfl hl.1 rfl (lv_room (Nat.le_of_ble_eq_true rfl)) dX3_weather_17 ⟨(Nat.le_of_ble_eq_true rfl), (Nat.le_of_ble_eq_true rfl)⟩) hS (fun q _ h => h.elim) (fun q h => h.elim) (fun r6 u t H locs ht hvm hw7 hB hz1 hk1 hS => ?_)
    have hP := kp_P hP hk1
    have hP : va_P (dC, dI) vwCl (wX a cI cS f) H := hP
    have hD : va_D A (wX a cI cS f) := hD
    have hw7 : r6 = bI ((-400 : Int) ≤ p1.toInt ∧ p1.toInt ≤ (200 : Int)) := hw7
    refine lv_if_eq (tgt := 56) hx hb dX3_weather_20 (by decide) (fun c8 => ?_) (fun c8 => ?_)
    · skip
      have g9 : ¬ ((-400 : Int) ≤ p1.toInt ∧ p1.toInt ≤ (200 : Int)) := bI_f hw7 c8
      have zg9 : r6 = 0 := bI_f0 hw7 g9
      obtain ⟨sa, hsa⟩ := hT.2.1 (58, "a number is out of range") (by decide +kernel)
      exact vx_throwS (A := A) (own := RX3) (cls := "java/lang/IllegalArgumentException") (text := "a number is out of range") (names := exN) hx hb hlt hown (by decide +kernel) (by decide +kernel) (hts (.classLink RX3 56 "java/lang/IllegalArgumentException") (by decide +kernel)) (hts (.initialized "java/lang/IllegalArgumentException") (by decide +kernel)) hsa (th_hat hT (fun w h => hts w (List.mem_cons_of_mem _ (List.mem_append_left _ (List.mem_append_left _ (List.mem_append_right _ h))))) th_i1) (th_good th_i1) hT.2.2.2.1 hT.2.2.2.2 hS (hl.1.trans hml.symm) dX3_weather_56 dX3_weather_59 dX3_weather_60 dX3_weather_62 dX3_weather_65 (fun x h => (hnt x h).elim) (by decide) (Nat.le_of_ble_eq_true rfl) (Nat.le_of_ble_eq_true rfl) (Nat.le_of_ble_eq_true rfl) hlocks (fun t ha h1 h2 => ⟨_, ⟨rfl, (by omega)⟩, rfl, th_F hS h1 h2⟩) hS.2.2 (Nat.le_of_ble_eq_true rfl) (Nat.le_of_ble_eq_true rfl)
    · skip
      have g10 : (-400 : Int) ≤ p1.toInt ∧ p1.toInt ≤ (200 : Int) := bI_t hw7 c8
      have zg10 : r6 = 1 := bI_t1 hw7 g10
      refine lv_iload_n hx hb dX3_weather_23 rfl (lv_at hl 3 rfl) ?_
      refine lv_iload_n hx hb dX3_weather_24 rfl (lv_at hl 2 rfl) ?_
      refine lv_sipush (v := 200) hx hb dX3_weather_25 (by decide) ?_
      refine va_calli (va_runS (As := [.int p2, .int p1, .int 200]) (rest := []) ⟨hx, hb, hml, hown, hts⟩ (k_isWithin l p2 p1 200 (p1.toInt) (200) rfl (by decide)) (va_cwS 3 hts gX3_weather_X3_isWithin rfl rfl rfl (by decide +kernel) ⟨Nat.le_of_ble_eq_true rfl, Nat.le_of_ble_eq_true rfl⟩) ⟨fun a U g mk q => q, fun U hU hW => ⟨rfl, trivial⟩⟩ rfl rfl hl.1 rfl (lv_room (Nat.le_of_ble_eq_true rfl)) dX3_weather_28 ⟨(Nat.le_of_ble_eq_true rfl), (Nat.le_of_ble_eq_true rfl)⟩) hS (fun q _ h => h.elim) (fun q h => h.elim) (fun r11 u t H locs ht hvm hw12 hB hz1 hk1 hS => ?_)
      have hP := kp_P hP hk1
      have hP : va_P (dC, dI) vwCl (wX a cI cS f) H := hP
      have hD : va_D A (wX a cI cS f) := hD
      have hw12 : r11 = bI ((p1.toInt : Int) ≤ p2.toInt ∧ p2.toInt ≤ (200 : Int)) := hw12
      refine lv_if_eq (tgt := 56) hx hb dX3_weather_31 (by decide) (fun c13 => ?_) (fun c13 => ?_)
      · skip
        have g14 : ¬ ((p1.toInt : Int) ≤ p2.toInt ∧ p2.toInt ≤ (200 : Int)) := bI_f hw12 c13
        have zg14 : r11 = 0 := bI_f0 hw12 g14
        obtain ⟨sa, hsa⟩ := hT.2.1 (58, "a number is out of range") (by decide +kernel)
        exact vx_throwS (A := A) (own := RX3) (cls := "java/lang/IllegalArgumentException") (text := "a number is out of range") (names := exN) hx hb hlt hown (by decide +kernel) (by decide +kernel) (hts (.classLink RX3 56 "java/lang/IllegalArgumentException") (by decide +kernel)) (hts (.initialized "java/lang/IllegalArgumentException") (by decide +kernel)) hsa (th_hat hT (fun w h => hts w (List.mem_cons_of_mem _ (List.mem_append_left _ (List.mem_append_left _ (List.mem_append_right _ h))))) th_i1) (th_good th_i1) hT.2.2.2.1 hT.2.2.2.2 hS (hl.1.trans hml.symm) dX3_weather_56 dX3_weather_59 dX3_weather_60 dX3_weather_62 dX3_weather_65 (fun x h => (hnt x h).elim) (by decide) (Nat.le_of_ble_eq_true rfl) (Nat.le_of_ble_eq_true rfl) (Nat.le_of_ble_eq_true rfl) hlocks (fun t ha h1 h2 => ⟨_, ⟨rfl, (by omega)⟩, rfl, th_F hS h1 h2⟩) hS.2.2 (Nat.le_of_ble_eq_true rfl) (Nat.le_of_ble_eq_true rfl)
      · skip
        have g15 : (p1.toInt : Int) ≤ p2.toInt ∧ p2.toInt ≤ (200 : Int) := bI_t hw12 c13
        have zg15 : r11 = 1 := bI_t1 hw12 g15
        refine lv_iload hx hb dX3_weather_34 (lv_at hl 4 rfl) ?_
        refine lv_iconst (v := 0) hx hb dX3_weather_36 (by decide) ?_
        refine lv_bipush (v := 30) hx hb dX3_weather_37 (by decide) ?_
        refine va_calli (va_runS (As := [.int p3, .int 0, .int 30]) (rest := []) ⟨hx, hb, hml, hown, hts⟩ (k_isWithin l p3 0 30 (0) (30) (by decide) (by decide)) (va_cwS 3 hts gX3_weather_X3_isWithin rfl rfl rfl (by decide +kernel) ⟨Nat.le_of_ble_eq_true rfl, Nat.le_of_ble_eq_true rfl⟩) ⟨fun a U g mk q => q, fun U hU hW => ⟨rfl, trivial⟩⟩ rfl rfl hl.1 rfl (lv_room (Nat.le_of_ble_eq_true rfl)) dX3_weather_39 ⟨(Nat.le_of_ble_eq_true rfl), (Nat.le_of_ble_eq_true rfl)⟩) hS (fun q _ h => h.elim) (fun q h => h.elim) (fun r16 u t H locs ht hvm hw17 hB hz1 hk1 hS => ?_)
        have hP := kp_P hP hk1
        have hP : va_P (dC, dI) vwCl (wX a cI cS f) H := hP
        have hD : va_D A (wX a cI cS f) := hD
        have hw17 : r16 = bI ((0 : Int) ≤ p3.toInt ∧ p3.toInt ≤ (30 : Int)) := hw17
        refine lv_if_eq (tgt := 56) hx hb dX3_weather_42 (by decide) (fun c18 => ?_) (fun c18 => ?_)
        · skip
          have g19 : ¬ ((0 : Int) ≤ p3.toInt ∧ p3.toInt ≤ (30 : Int)) := bI_f hw17 c18
          have zg19 : r16 = 0 := bI_f0 hw17 g19
          obtain ⟨sa, hsa⟩ := hT.2.1 (58, "a number is out of range") (by decide +kernel)
          exact vx_throwS (A := A) (own := RX3) (cls := "java/lang/IllegalArgumentException") (text := "a number is out of range") (names := exN) hx hb hlt hown (by decide +kernel) (by decide +kernel) (hts (.classLink RX3 56 "java/lang/IllegalArgumentException") (by decide +kernel)) (hts (.initialized "java/lang/IllegalArgumentException") (by decide +kernel)) hsa (th_hat hT (fun w h => hts w (List.mem_cons_of_mem _ (List.mem_append_left _ (List.mem_append_left _ (List.mem_append_right _ h))))) th_i1) (th_good th_i1) hT.2.2.2.1 hT.2.2.2.2 hS (hl.1.trans hml.symm) dX3_weather_56 dX3_weather_59 dX3_weather_60 dX3_weather_62 dX3_weather_65 (fun x h => (hnt x h).elim) (by decide) (Nat.le_of_ble_eq_true rfl) (Nat.le_of_ble_eq_true rfl) (Nat.le_of_ble_eq_true rfl) hlocks (fun t ha h1 h2 => ⟨_, ⟨rfl, (by omega)⟩, rfl, th_F hS h1 h2⟩) hS.2.2 (Nat.le_of_ble_eq_true rfl) (Nat.le_of_ble_eq_true rfl)
        · skip
          have g20 : (0 : Int) ≤ p3.toInt ∧ p3.toInt ≤ (30 : Int) := bI_t hw17 c18
          have zg20 : r16 = 1 := bI_t1 hw17 g20
          refine lv_iload hx hb dX3_weather_45 (lv_at hl 5 rfl) ?_
          refine lv_iconst (v := 0) hx hb dX3_weather_47 (by decide) ?_
          refine lv_bipush (v := 100) hx hb dX3_weather_48 (by decide) ?_
          refine va_calli (va_runS (As := [.int p4, .int 0, .int 100]) (rest := []) ⟨hx, hb, hml, hown, hts⟩ (k_isWithin l p4 0 100 (0) (100) (by decide) (by decide)) (va_cwS 3 hts gX3_weather_X3_isWithin rfl rfl rfl (by decide +kernel) ⟨Nat.le_of_ble_eq_true rfl, Nat.le_of_ble_eq_true rfl⟩) ⟨fun a U g mk q => q, fun U hU hW => ⟨rfl, trivial⟩⟩ rfl rfl hl.1 rfl (lv_room (Nat.le_of_ble_eq_true rfl)) dX3_weather_50 ⟨(Nat.le_of_ble_eq_true rfl), (Nat.le_of_ble_eq_true rfl)⟩) hS (fun q _ h => h.elim) (fun q h => h.elim) (fun r21 u t H locs ht hvm hw22 hB hz1 hk1 hS => ?_)
          have hP := kp_P hP hk1
          have hP : va_P (dC, dI) vwCl (wX a cI cS f) H := hP
          have hD : va_D A (wX a cI cS f) := hD
          have hw22 : r21 = bI ((0 : Int) ≤ p4.toInt ∧ p4.toInt ≤ (100 : Int)) := hw22
          refine lv_if_ne (tgt := 66) hx hb dX3_weather_53 (by decide) (fun c23 => ?_) (fun c23 => ?_)
          · skip
            have g24 : (0 : Int) ≤ p4.toInt ∧ p4.toInt ≤ (100 : Int) := bI_t hw22 c23
            have zg24 : r21 = 1 := bI_t1 hw22 g24
            refine lv_aload_n hx hb dX3_weather_66 rfl (lv_at hl 0 rfl) ?_
            refine va_get (D := (dC, dI)) (ci := 7) (v := .int 0) (C := RX3) (T := TX3) (N := 10) hx hb hts (by decide +kernel) hown hK hP 0 rfl rfl 4 (by decide) (hts (.fieldLink RX3 33 "Snowpalace" "clock" "I") (by decide +kernel)) (fun _ h9 => h9) rfl dX3_weather_67 ?_
            refine lv_bipush (v := 24) hx hb dX3_weather_70 (by decide) ?_
            refine lv_iload_n hx hb dX3_weather_72 rfl (lv_at hl 1 rfl) ?_
            refine lv_imul hx hb dX3_weather_73 ?_
            refine lv_topi (fun v25 e26 => ?_)
            refine lv_icmp_le (tgt := 87) hx hb dX3_weather_74 (by decide) (fun c27 => ?_) (fun c27 => ?_)
            · skip
              refine lv_aload_n hx hb dX3_weather_87 rfl (lv_at hl 0 rfl) ?_
              refine va_get (D := (dC, dI)) (ci := 7) (v := .ref (a 1)) (C := RX3) (T := TX3) (N := 10) hx hb hts (by decide +kernel) hown hK hP 0 rfl rfl 0 (by decide) (hts (.fieldLink RX3 10 "Snowpalace" "sky" "LSnowpalace$Sky;") (by decide +kernel)) (fun _ h9 => h9) rfl dX3_weather_88 ?_
              refine va_get (D := (dC, dI)) (ci := 6) (v := .ref (a 4)) (C := RX2) (T := TX2) (N := 4) hx hb hts (by decide +kernel) hown hK hP 1 rfl rfl 0 (by decide) (hts (.fieldLink RX3 68 "Snowpalace$Sky" "lows" "[I") (by decide +kernel)) (fun _ h9 => h9) rfl dX3_weather_91 ?_
              refine lv_iload_n hx hb dX3_weather_94 rfl (lv_at hl 1 rfl) ?_
              refine va_iald (D := (dC, dI)) hx hb hK hP 4 0 rfl rfl (inI (p := p0) (by omega) (by omega)) dX3_weather_95 ?_
              refine lv_topi (fun v28 e29 => ?_)
              obtain rfl : v28 = ((-150) : Int32) := e29.trans (hF.1 _ (clI (inI (p := p0) (by omega) (by omega))))
              refine lv_istore (lv' := [(6, .int (-150)), (0, .ref (a 0)), (1, .int p0), (2, .int p1), (3, .int p2), (4, .int p3), (5, .int p4)]) hx hb dX3_weather_96 hl (by decide) rfl (fun ls hl => ?_)
              refine lv_aload_n hx hb dX3_weather_98 rfl (lv_at hl 1 rfl) ?_
              refine va_get (D := (dC, dI)) (ci := 7) (v := .ref (a 1)) (C := RX3) (T := TX3) (N := 10) hx hb hts (by decide +kernel) hown hK hP 0 rfl rfl 0 (by decide) (hts (.fieldLink RX3 10 "Snowpalace" "sky" "LSnowpalace$Sky;") (by decide +kernel)) (fun _ h9 => h9) rfl dX3_weather_99 ?_
              refine va_get (D := (dC, dI)) (ci := 6) (v := .ref (a 4)) (C := RX2) (T := TX2) (N := 4) hx hb hts (by decide +kernel) hown hK hP 1 rfl rfl 0 (by decide) (hts (.fieldLink RX3 68 "Snowpalace$Sky" "lows" "[I") (by decide +kernel)) (fun _ h9 => h9) rfl dX3_weather_102 ?_
              refine lv_iload_n hx hb dX3_weather_105 rfl (lv_at hl 2 rfl) ?_
              refine lv_iload_n hx hb dX3_weather_106 rfl (lv_at hl 3 rfl) ?_
              refine va_iast (D := (dC, dI)) hx hb hK hP hD hS 4 0 rfl rfl (inI (p := p0) (by omega) (by omega)) dX3_weather_107 (fun H locs hP hD hS => ?_)
              have hP : va_P (dC, dI) vwCl ([((a 0), .inr (7, [.ref (a 1), .ref (a 2), .ref (a 3), .int 0, .int 0, .int 0, .int 0, .int 0, .int 0, .int 0])), ((a 1), .inr (6, [.ref (a 4), .ref (a 5), .ref (a 6), .ref (a 7)])), ((a 2), .inr (4, [.ref (a 8), .ref (a 9), .ref (a 10)])), ((a 3), .inl (cS, 3, .inr (.inr (.inr (.inr (fun _ => none)))))), ((a 4), .inl (cI, 21, .inl (upd (f 0) (p0 : Int32).toNatClampNeg p1))), ((a 5), .inl (cI, 21, .inl (f 1))), ((a 6), .inl (cI, 21, .inl (f 2))), ((a 7), .inl (cI, 21, .inl (f 3))), ((a 8), .inl (cI, 4, .inl (fun _ => 0))), ((a 9), .inl (cI, 4, .inl (fun _ => 0))), ((a 10), .inl (cI, 4, .inl (f 4)))]) H := hP
              have hD : va_D A ([((a 0), .inr (7, [.ref (a 1), .ref (a 2), .ref (a 3), .int 0, .int 0, .int 0, .int 0, .int 0, .int 0, .int 0])), ((a 1), .inr (6, [.ref (a 4), .ref (a 5), .ref (a 6), .ref (a 7)])), ((a 2), .inr (4, [.ref (a 8), .ref (a 9), .ref (a 10)])), ((a 3), .inl (cS, 3, .inr (.inr (.inr (.inr (fun _ => none)))))), ((a 4), .inl (cI, 21, .inl (upd (f 0) (p0 : Int32).toNatClampNeg p1))), ((a 5), .inl (cI, 21, .inl (f 1))), ((a 6), .inl (cI, 21, .inl (f 2))), ((a 7), .inl (cI, 21, .inl (f 3))), ((a 8), .inl (cI, 4, .inl (fun _ => 0))), ((a 9), .inl (cI, 4, .inl (fun _ => 0))), ((a 10), .inl (cI, 4, .inl (f 4)))]) := hD
              refine lv_aload_n hx hb dX3_weather_108 rfl (lv_at hl 1 rfl) ?_
              refine va_get (D := (dC, dI)) (ci := 7) (v := .ref (a 1)) (C := RX3) (T := TX3) (N := 10) hx hb hts (by decide +kernel) hown hK hP 0 rfl rfl 0 (by decide) (hts (.fieldLink RX3 10 "Snowpalace" "sky" "LSnowpalace$Sky;") (by decide +kernel)) (fun _ h9 => h9) rfl dX3_weather_109 ?_
              refine va_get (D := (dC, dI)) (ci := 6) (v := .ref (a 5)) (C := RX2) (T := TX2) (N := 4) hx hb hts (by decide +kernel) hown hK hP 1 rfl rfl 1 (by decide) (hts (.fieldLink RX3 72 "Snowpalace$Sky" "highs" "[I") (by decide +kernel)) (fun _ h9 => h9) rfl dX3_weather_112 ?_
              refine lv_iload_n hx hb dX3_weather_115 rfl (lv_at hl 2 rfl) ?_
              refine lv_iload_n hx hb dX3_weather_116 rfl (lv_at hl 4 rfl) ?_
              refine va_iast (D := (dC, dI)) hx hb hK hP hD hS 5 0 rfl rfl (inI (p := p0) (by omega) (by omega)) dX3_weather_117 (fun H locs hP hD hS => ?_)
              have hP : va_P (dC, dI) vwCl ([((a 0), .inr (7, [.ref (a 1), .ref (a 2), .ref (a 3), .int 0, .int 0, .int 0, .int 0, .int 0, .int 0, .int 0])), ((a 1), .inr (6, [.ref (a 4), .ref (a 5), .ref (a 6), .ref (a 7)])), ((a 2), .inr (4, [.ref (a 8), .ref (a 9), .ref (a 10)])), ((a 3), .inl (cS, 3, .inr (.inr (.inr (.inr (fun _ => none)))))), ((a 4), .inl (cI, 21, .inl (upd (f 0) (p0 : Int32).toNatClampNeg p1))), ((a 5), .inl (cI, 21, .inl (upd (f 1) (p0 : Int32).toNatClampNeg p2))), ((a 6), .inl (cI, 21, .inl (f 2))), ((a 7), .inl (cI, 21, .inl (f 3))), ((a 8), .inl (cI, 4, .inl (fun _ => 0))), ((a 9), .inl (cI, 4, .inl (fun _ => 0))), ((a 10), .inl (cI, 4, .inl (f 4)))]) H := hP
              have hD : va_D A ([((a 0), .inr (7, [.ref (a 1), .ref (a 2), .ref (a 3), .int 0, .int 0, .int 0, .int 0, .int 0, .int 0, .int 0])), ((a 1), .inr (6, [.ref (a 4), .ref (a 5), .ref (a 6), .ref (a 7)])), ((a 2), .inr (4, [.ref (a 8), .ref (a 9), .ref (a 10)])), ((a 3), .inl (cS, 3, .inr (.inr (.inr (.inr (fun _ => none)))))), ((a 4), .inl (cI, 21, .inl (upd (f 0) (p0 : Int32).toNatClampNeg p1))), ((a 5), .inl (cI, 21, .inl (upd (f 1) (p0 : Int32).toNatClampNeg p2))), ((a 6), .inl (cI, 21, .inl (f 2))), ((a 7), .inl (cI, 21, .inl (f 3))), ((a 8), .inl (cI, 4, .inl (fun _ => 0))), ((a 9), .inl (cI, 4, .inl (fun _ => 0))), ((a 10), .inl (cI, 4, .inl (f 4)))]) := hD
              refine lv_aload_n hx hb dX3_weather_118 rfl (lv_at hl 1 rfl) ?_
              refine va_get (D := (dC, dI)) (ci := 7) (v := .ref (a 1)) (C := RX3) (T := TX3) (N := 10) hx hb hts (by decide +kernel) hown hK hP 0 rfl rfl 0 (by decide) (hts (.fieldLink RX3 10 "Snowpalace" "sky" "LSnowpalace$Sky;") (by decide +kernel)) (fun _ h9 => h9) rfl dX3_weather_119 ?_
              refine va_get (D := (dC, dI)) (ci := 6) (v := .ref (a 6)) (C := RX2) (T := TX2) (N := 4) hx hb hts (by decide +kernel) hown hK hP 1 rfl rfl 2 (by decide) (hts (.fieldLink RX3 75 "Snowpalace$Sky" "winds" "[I") (by decide +kernel)) (fun _ h9 => h9) rfl dX3_weather_122 ?_
              refine lv_iload_n hx hb dX3_weather_125 rfl (lv_at hl 2 rfl) ?_
              refine lv_iload hx hb dX3_weather_126 (lv_at hl 5 rfl) ?_
              refine va_iast (D := (dC, dI)) hx hb hK hP hD hS 6 0 rfl rfl (inI (p := p0) (by omega) (by omega)) dX3_weather_128 (fun H locs hP hD hS => ?_)
              have hP : va_P (dC, dI) vwCl ([((a 0), .inr (7, [.ref (a 1), .ref (a 2), .ref (a 3), .int 0, .int 0, .int 0, .int 0, .int 0, .int 0, .int 0])), ((a 1), .inr (6, [.ref (a 4), .ref (a 5), .ref (a 6), .ref (a 7)])), ((a 2), .inr (4, [.ref (a 8), .ref (a 9), .ref (a 10)])), ((a 3), .inl (cS, 3, .inr (.inr (.inr (.inr (fun _ => none)))))), ((a 4), .inl (cI, 21, .inl (upd (f 0) (p0 : Int32).toNatClampNeg p1))), ((a 5), .inl (cI, 21, .inl (upd (f 1) (p0 : Int32).toNatClampNeg p2))), ((a 6), .inl (cI, 21, .inl (upd (f 2) (p0 : Int32).toNatClampNeg p3))), ((a 7), .inl (cI, 21, .inl (f 3))), ((a 8), .inl (cI, 4, .inl (fun _ => 0))), ((a 9), .inl (cI, 4, .inl (fun _ => 0))), ((a 10), .inl (cI, 4, .inl (f 4)))]) H := hP
              have hD : va_D A ([((a 0), .inr (7, [.ref (a 1), .ref (a 2), .ref (a 3), .int 0, .int 0, .int 0, .int 0, .int 0, .int 0, .int 0])), ((a 1), .inr (6, [.ref (a 4), .ref (a 5), .ref (a 6), .ref (a 7)])), ((a 2), .inr (4, [.ref (a 8), .ref (a 9), .ref (a 10)])), ((a 3), .inl (cS, 3, .inr (.inr (.inr (.inr (fun _ => none)))))), ((a 4), .inl (cI, 21, .inl (upd (f 0) (p0 : Int32).toNatClampNeg p1))), ((a 5), .inl (cI, 21, .inl (upd (f 1) (p0 : Int32).toNatClampNeg p2))), ((a 6), .inl (cI, 21, .inl (upd (f 2) (p0 : Int32).toNatClampNeg p3))), ((a 7), .inl (cI, 21, .inl (f 3))), ((a 8), .inl (cI, 4, .inl (fun _ => 0))), ((a 9), .inl (cI, 4, .inl (fun _ => 0))), ((a 10), .inl (cI, 4, .inl (f 4)))]) := hD
              refine lv_aload_n hx hb dX3_weather_129 rfl (lv_at hl 1 rfl) ?_
              refine va_get (D := (dC, dI)) (ci := 7) (v := .ref (a 1)) (C := RX3) (T := TX3) (N := 10) hx hb hts (by decide +kernel) hown hK hP 0 rfl rfl 0 (by decide) (hts (.fieldLink RX3 10 "Snowpalace" "sky" "LSnowpalace$Sky;") (by decide +kernel)) (fun _ h9 => h9) rfl dX3_weather_130 ?_
              refine va_get (D := (dC, dI)) (ci := 6) (v := .ref (a 7)) (C := RX2) (T := TX2) (N := 4) hx hb hts (by decide +kernel) hown hK hP 1 rfl rfl 3 (by decide) (hts (.fieldLink RX3 78 "Snowpalace$Sky" "humidities" "[I") (by decide +kernel)) (fun _ h9 => h9) rfl dX3_weather_133 ?_
              refine lv_iload_n hx hb dX3_weather_136 rfl (lv_at hl 2 rfl) ?_
              refine lv_iload hx hb dX3_weather_137 (lv_at hl 6 rfl) ?_
              refine va_iast (D := (dC, dI)) hx hb hK hP hD hS 7 0 rfl rfl (inI (p := p0) (by omega) (by omega)) dX3_weather_139 (fun H locs hP hD hS => ?_)
              have hP : va_P (dC, dI) vwCl ([((a 0), .inr (7, [.ref (a 1), .ref (a 2), .ref (a 3), .int 0, .int 0, .int 0, .int 0, .int 0, .int 0, .int 0])), ((a 1), .inr (6, [.ref (a 4), .ref (a 5), .ref (a 6), .ref (a 7)])), ((a 2), .inr (4, [.ref (a 8), .ref (a 9), .ref (a 10)])), ((a 3), .inl (cS, 3, .inr (.inr (.inr (.inr (fun _ => none)))))), ((a 4), .inl (cI, 21, .inl (upd (f 0) (p0 : Int32).toNatClampNeg p1))), ((a 5), .inl (cI, 21, .inl (upd (f 1) (p0 : Int32).toNatClampNeg p2))), ((a 6), .inl (cI, 21, .inl (upd (f 2) (p0 : Int32).toNatClampNeg p3))), ((a 7), .inl (cI, 21, .inl (upd (f 3) (p0 : Int32).toNatClampNeg p4))), ((a 8), .inl (cI, 4, .inl (fun _ => 0))), ((a 9), .inl (cI, 4, .inl (fun _ => 0))), ((a 10), .inl (cI, 4, .inl (f 4)))]) H := hP
              have hD : va_D A ([((a 0), .inr (7, [.ref (a 1), .ref (a 2), .ref (a 3), .int 0, .int 0, .int 0, .int 0, .int 0, .int 0, .int 0])), ((a 1), .inr (6, [.ref (a 4), .ref (a 5), .ref (a 6), .ref (a 7)])), ((a 2), .inr (4, [.ref (a 8), .ref (a 9), .ref (a 10)])), ((a 3), .inl (cS, 3, .inr (.inr (.inr (.inr (fun _ => none)))))), ((a 4), .inl (cI, 21, .inl (upd (f 0) (p0 : Int32).toNatClampNeg p1))), ((a 5), .inl (cI, 21, .inl (upd (f 1) (p0 : Int32).toNatClampNeg p2))), ((a 6), .inl (cI, 21, .inl (upd (f 2) (p0 : Int32).toNatClampNeg p3))), ((a 7), .inl (cI, 21, .inl (upd (f 3) (p0 : Int32).toNatClampNeg p4))), ((a 8), .inl (cI, 4, .inl (fun _ => 0))), ((a 9), .inl (cI, 4, .inl (fun _ => 0))), ((a 10), .inl (cI, 4, .inl (f 4)))]) := hD
              refine lv_iload hx hb dX3_weather_140 (lv_at hl 0 rfl) ?_
              refine vx_ret ?_
              refine W.widen (k := 1) (n := 6) (Nat.le_of_ble_eq_true rfl) (Nat.le_of_ble_eq_true rfl) ?_
              exact W.iret (v := (-150)) hx hb hr (fun t ht hW => ⟨⟨(-150), (), rfl, ⟨by omega, rfl⟩, trivial⟩, hS.F ht⟩) hS.2.2 dX3_weather_142
            · skip
              exact (c27 (by rw [e26]; exact d24 (by omega) (by omega))).elim
          · skip
            have g30 : ¬ ((0 : Int) ≤ p4.toInt ∧ p4.toInt ≤ (100 : Int)) := bI_f hw22 c23
            have zg30 : r21 = 0 := bI_f0 hw22 g30
            obtain ⟨sa, hsa⟩ := hT.2.1 (58, "a number is out of range") (by decide +kernel)
            exact vx_throwS (A := A) (own := RX3) (cls := "java/lang/IllegalArgumentException") (text := "a number is out of range") (names := exN) hx hb hlt hown (by decide +kernel) (by decide +kernel) (hts (.classLink RX3 56 "java/lang/IllegalArgumentException") (by decide +kernel)) (hts (.initialized "java/lang/IllegalArgumentException") (by decide +kernel)) hsa (th_hat hT (fun w h => hts w (List.mem_cons_of_mem _ (List.mem_append_left _ (List.mem_append_left _ (List.mem_append_right _ h))))) th_i1) (th_good th_i1) hT.2.2.2.1 hT.2.2.2.2 hS (hl.1.trans hml.symm) dX3_weather_56 dX3_weather_59 dX3_weather_60 dX3_weather_62 dX3_weather_65 (fun x h => (hnt x h).elim) (by decide) (Nat.le_of_ble_eq_true rfl) (Nat.le_of_ble_eq_true rfl) (Nat.le_of_ble_eq_true rfl) hlocks (fun t ha h1 h2 => ⟨_, ⟨rfl, (by omega)⟩, rfl, th_F hS h1 h2⟩) hS.2.2 (Nat.le_of_ble_eq_true rfl) (Nat.le_of_ble_eq_true rfl)

set_option maxHeartbeats 4000000 in
set_option maxRecDepth 100000 in
theorem k_storeSnow (l : Launch) (dC : Nat → ClassId) (dI : Nat → Nat → Nat) (sz : Nat) (h0 q1 q2 q3 : Nat) (more : Int32)  : Met l yX3_storeSnow wsX3_storeSnow ({ frames := 1, cells := 0, slots := 0, locals := 14 }) (va_Pc [.ref h0, .int more] (PW dC dI ([(h0, .inr (7, [.ref q1, .ref q2, .ref q3, .int 0, .int 0, .int 0, .int 0, .int 0, .int 0, .int 0]))]) [] sz)) (va_Qv (fun (u : Int32) => u = if 0 + more < 500 then 0 + more else 500) (fun (u : Int32) t => BW dC dI (va_A ([(h0, .inr (7, [.ref q1, .ref q2, .ref q3, .int 0, .int 0, .int 0, .int 0, .int 0, .int 0, .int 0]))]) sz) [(h0, .inr (7, [.ref q1, .ref q2, .ref q3, .int 0, .int 0, .int 0, .int 0, .int u, .int 0, .int 0]))] [] t) (va_A ([(h0, .inr (7, [.ref q1, .ref q2, .ref q3, .int 0, .int 0, .int 0, .int 0, .int 0, .int 0, .int 0]))]) sz)) 0 0 (va_A ([(h0, .inr (7, [.ref q1, .ref q2, .ref q3, .int 0, .int 0, .int 0, .int 0, .int 0, .int 0, .int 0]))]) sz) := by
  refine Met.ofW (cc := cX3_storeSnow) (maxL := 2) (ret := none) (by decide +kernel) rfl ?_
  intro p e s m args below meth c s₁ B hml hv
  obtain ⟨rfl, hsz, hP, hK, hD0⟩ := hv
  have hx := B.exec
  have hb := B.bytes
  have hr := B.returns
  have hts := atoms_spec (ws := wsX3_storeSnow) B.pre
  have hown : s.vm.findClass RX3 = some m.cls := findClass_of_methodNamed B.named
  have hlocks := B.notSynchronized
  subst hsz
  have hD := hD0.self (sz := s.heap.size)
  generalize hAe : va_A ([(h0, .inr (7, [.ref q1, .ref q2, .ref q3, .int 0, .int 0, .int 0, .int 0, .int 0, .int 0, .int 0]))]) s.heap.size = A at hD ⊢
  have hA : ∀ q : Nat, s.heap.size ≤ q → A q := fun q h => by rw [← hAe]; exact Or.inr h
  have hS : va_S A s.heap s.heap [] := va_S.rf
  have hl := lv_entry ([.ref h0, .int more]) (n := 2) (Nat.le_of_ble_eq_true rfl)
  rw [lg_entry_eq]
  generalize (lg_sl ([.ref h0, .int more]) ++ List.replicate (2 - (lg_sl ([.ref h0, .int more])).length) Slot.unset).toArray = ls at hl ⊢
  have hl : lv_has ls 2 [(0, .ref h0), (1, .int more)] := hl
  refine lv_aload_n hx hb dX3_storeSnow_0 rfl (lv_at hl 0 rfl) ?_
  refine lv_sipush (v := 500) hx hb dX3_storeSnow_1 (by decide) ?_
  refine lv_aload_n hx hb dX3_storeSnow_4 rfl (lv_at hl 0 rfl) ?_
  refine va_get (D := (dC, dI)) (ci := 7) (v := .int 0) (C := RX3) (T := TX3) (N := 10) hx hb hts (by decide +kernel) hown hK hP 0 rfl rfl 7 (by decide) (hts (.fieldLink RX3 42 "Snowpalace" "storedSnow" "I") (by decide +kernel)) (fun _ h9 => h9) rfl dX3_storeSnow_5 ?_
  refine lv_iload_n hx hb dX3_storeSnow_8 rfl (lv_at hl 1 rfl) ?_
  refine lv_iadd hx hb dX3_storeSnow_9 ?_
  refine lv_topi (fun v1 e2 => ?_)
  refine va_mmin hx hb (hml.trans hl.1.symm) hown (hts (.methodLink RX3 322 Lib.Math.min.name) (by decide +kernel)) (hts (.static Lib.Math.min.name) (by decide +kernel)) (hts (.initialized "java/lang/Math") (by decide +kernel)) (hts (.code Lib.Math.min.name Lib.Math.min.code 2 (some .int)) (by decide +kernel)) (Nat.le_of_ble_eq_true rfl) (Nat.le_of_ble_eq_true rfl) (Nat.le_of_ble_eq_true rfl) (Nat.le_of_ble_eq_true rfl) dX3_storeSnow_10 ?_
  refine lv_topi (fun v3 e4 => ?_)
  refine va_put (D := (dC, dI)) (ci := 7) (v := .int v3) (ty := .int) (C := RX3) (T := TX3) (N := 10) hx hb hts (by decide +kernel) tyX3 tyX3_ok nmX3 hown hK hP hD hS 0 rfl rfl 7 (by decide) (hts (.fieldLink RX3 42 "Snowpalace" "storedSnow" "I") (by decide +kernel)) (fun _ h9 => h9) rfl (by decide +kernel) rfl rfl (Nat.le_of_ble_eq_true rfl) dX3_storeSnow_13 (fun H locs hP hD hS => ?_)
  have hP : va_P (dC, dI) vwCl ([(h0, .inr (7, [.ref q1, .ref q2, .ref q3, .int 0, .int 0, .int 0, .int 0, .int v3, .int 0, .int 0]))]) H := hP
  have hD : va_D A ([(h0, .inr (7, [.ref q1, .ref q2, .ref q3, .int 0, .int 0, .int 0, .int 0, .int v3, .int 0, .int 0]))]) := hD
  refine W.widen (k := 0) (n := 0) (Nat.le_of_ble_eq_true rfl) (Nat.le_of_ble_eq_true rfl) ?_
  exact W.vret hx hb hr (fun t ht hW => ⟨⟨v3, rfl, (by rw [e4, e2]), BW.end hP hK hD [0] [] rfl rfl rfl rfl ht hW⟩, hS.F ht⟩) hS.2.2 dX3_storeSnow_16

set_option maxHeartbeats 4000000 in
set_option maxRecDepth 100000 in
theorem k_lorries (l : Launch) (hlt : l.stackTraces = false) (dC : Nat → ClassId) (dI : Nat → Nat → Nat) (sz : Nat) (a : Nat → Nat) (cI cS : ClassId) (f : Nat → Nat → Int32) (hF : FX f) (p0 : Int32)  : vx_Met l yX3_lorries wsX3_lorries ({ frames := 6, cells := 1, slots := 6, locals := 82 }) (va_Pc [.ref (a 0), .int p0] (PT dC dI (wX a cI cS f) [(cI, .int), (cS, .object "Snowpalace$Site")] sz)) (va_Qi (fun (r : Int32) (u : Unit) => (1 ≤ p0.toInt ∧ p0.toInt ≤ 20) ∧ r = lorV p0) (fun (u : Unit) t => True) (va_A (wX a cI cS f) sz)) (vx_X (fun u : String => u = "java/lang/IllegalArgumentException" ∧ ¬ (1 ≤ p0.toInt ∧ p0.toInt ≤ 20)) (fun E (u : String) _ => E = u) (va_A (wX a cI cS f) sz)) 1 6 (va_A (wX a cI cS f) sz) := by
  refine vx_ofW (cc := cX3_lorries) (maxL := 2) (ret := (some .int)) (by decide +kernel) rfl ?_
  intro p e s m args below meth c s₁ B hml hnt hv
  obtain ⟨rfl, ⟨hsz, hP, hK, hD0⟩, hT⟩ := hv
  have hx := B.exec
  have hb := B.bytes
  have hr := B.returns
  have hts := atoms_spec (ws := wsX3_lorries) B.pre
  have hown : s.vm.findClass RX3 = some m.cls := findClass_of_methodNamed B.named
  have hlocks := B.notSynchronized
  subst hsz
  have hD := hD0.self (sz := s.heap.size)
  generalize hAe : va_A (wX a cI cS f) s.heap.size = A at hD hT ⊢
  have hA : ∀ q : Nat, s.heap.size ≤ q → A q := fun q h => by rw [← hAe]; exact Or.inr h
  have hS : va_S A s.heap s.heap [] := va_S.rf
  have hl := lv_entry ([.ref (a 0), .int p0]) (n := 2) (Nat.le_of_ble_eq_true rfl)
  rw [lg_entry_eq]
  generalize (lg_sl ([.ref (a 0), .int p0]) ++ List.replicate (2 - (lg_sl ([.ref (a 0), .int p0])).length) Slot.unset).toArray = ls at hl ⊢
  have hl : lv_has ls 2 [(0, .ref (a 0)), (1, .int p0)] := hl
  have hN : NS s := hT.ns
  refine lv_iload_n hx hb dX3_lorries_0 rfl (lv_at hl 1 rfl) ?_
  refine lv_iconst (v := 1) hx hb dX3_lorries_1 (by decide) ?_
  refine lv_bipush (v := 20) hx hb dX3_lorries_2 (by decide) ?_
  refine va_calli (va_runS (As := [.int p0, .int 1, .int 20]) (rest := []) ⟨hx, hb, hml, hown, hts⟩ (k_isWithin l p0 1 20 (1) (20) (by decide) (by decide)) (va_cwS 3 hts gX3_lorries_X3_isWithin rfl rfl rfl (by decide +kernel) ⟨Nat.le_of_ble_eq_true rfl, Nat.le_of_ble_eq_true rfl⟩) ⟨fun a U g mk q => q, fun U hU hW => ⟨rfl, trivial⟩⟩ rfl rfl hl.1 rfl (lv_room (Nat.le_of_ble_eq_true rfl)) dX3_lorries_4 ⟨(Nat.le_of_ble_eq_true rfl), (Nat.le_of_ble_eq_true rfl)⟩) hS (fun q _ h => h.elim) (fun q h => h.elim) (fun r1 u t H locs ht hvm hw2 hB hz1 hk1 hS => ?_)
  have hP := kp_P hP hk1
  have hP : va_P (dC, dI) vwCl (wX a cI cS f) H := hP
  have hD : va_D A (wX a cI cS f) := hD
  have hw2 : r1 = bI ((1 : Int) ≤ p0.toInt ∧ p0.toInt ≤ (20 : Int)) := hw2
  refine lv_if_ne (tgt := 20) hx hb dX3_lorries_7 (by decide) (fun c3 => ?_) (fun c3 => ?_)
  · skip
    have g4 : (1 : Int) ≤ p0.toInt ∧ p0.toInt ≤ (20 : Int) := bI_t hw2 c3
    have zg4 : r1 = 1 := bI_t1 hw2 g4
    refine lv_aload_n hx hb dX3_lorries_20 rfl (lv_at hl 0 rfl) ?_
    refine lv_iconst (v := 5) hx hb dX3_lorries_21 (by decide) ?_
    refine lv_iload_n hx hb dX3_lorries_22 rfl (lv_at hl 1 rfl) ?_
    refine lv_imul hx hb dX3_lorries_23 ?_
    refine lv_topi (fun v5 e6 => ?_)
    have hFc := va_free (wc := [((a 0), .inr (7, [.ref (a 1), .ref (a 2), .ref (a 3), .int 0, .int 0, .int 0, .int 0, .int 0, .int 0, .int 0]))]) hD hS hA [0] rfl
    refine va_callv (va_runV (As := [.int v5]) (rest := []) ⟨hx, hb, hml, hown, hts⟩ (k_storeSnow l dC dI _ (a 0) (a 1) (a 2) (a 3) v5) (cwV 1 hts gX3_lorries_X3_storeSnow rfl rfl rfl (by decide +kernel) ⟨Nat.le_of_ble_eq_true rfl, Nat.le_of_ble_eq_true rfl⟩) ⟨fb_PW, va_recv hK hP (ci := 7) (q0 := 0) rfl rfl, fun U hU hW => ⟨rfl, PW.give hP hK hD [0] [] rfl rfl rfl rfl hU hW⟩⟩ rfl rfl hl.1 rfl (lv_room (Nat.le_of_ble_eq_true rfl)) dX3_lorries_24 ⟨(Nat.le_of_ble_eq_true rfl), (Nat.le_of_ble_eq_true rfl)⟩) hS (fun q _ h => hFc q h) hFc (fun u t H locs ht hvm hw8 hB hz1 hk1 hS => ?_)
    obtain ⟨hP, hD, hK⟩ := aft [0] [1, 2, 3, 4, 5, 6, 7, 8, 9, 10] hP hK hD rfl (wr := [((a 1), .inr (6, [.ref (a 4), .ref (a 5), .ref (a 6), .ref (a 7)])), ((a 2), .inr (4, [.ref (a 8), .ref (a 9), .ref (a 10)])), ((a 3), .inl (cS, 3, .inr (.inr (.inr (.inr (fun _ => none)))))), ((a 4), .inl (cI, 21, .inl (f 0))), ((a 5), .inl (cI, 21, .inl (f 1))), ((a 6), .inl (cI, 21, .inl (f 2))), ((a 7), .inl (cI, 21, .inl (f 3))), ((a 8), .inl (cI, 4, .inl (fun _ => 0))), ((a 9), .inl (cI, 4, .inl (fun _ => 0))), ((a 10), .inl (cI, 4, .inl (f 4)))]) rfl rfl (by decide) hFc hB ht hvm hk1
    have hP : va_P (dC, dI) vwCl ([((a 1), .inr (6, [.ref (a 4), .ref (a 5), .ref (a 6), .ref (a 7)])), ((a 2), .inr (4, [.ref (a 8), .ref (a 9), .ref (a 10)])), ((a 3), .inl (cS, 3, .inr (.inr (.inr (.inr (fun _ => none)))))), ((a 4), .inl (cI, 21, .inl (f 0))), ((a 5), .inl (cI, 21, .inl (f 1))), ((a 6), .inl (cI, 21, .inl (f 2))), ((a 7), .inl (cI, 21, .inl (f 3))), ((a 8), .inl (cI, 4, .inl (fun _ => 0))), ((a 9), .inl (cI, 4, .inl (fun _ => 0))), ((a 10), .inl (cI, 4, .inl (f 4))), ((a 0), .inr (7, [.ref (a 1), .ref (a 2), .ref (a 3), .int 0, .int 0, .int 0, .int 0, .int u, .int 0, .int 0]))]) H := hP
    have hD : va_D A ([((a 1), .inr (6, [.ref (a 4), .ref (a 5), .ref (a 6), .ref (a 7)])), ((a 2), .inr (4, [.ref (a 8), .ref (a 9), .ref (a 10)])), ((a 3), .inl (cS, 3, .inr (.inr (.inr (.inr (fun _ => none)))))), ((a 4), .inl (cI, 21, .inl (f 0))), ((a 5), .inl (cI, 21, .inl (f 1))), ((a 6), .inl (cI, 21, .inl (f 2))), ((a 7), .inl (cI, 21, .inl (f 3))), ((a 8), .inl (cI, 4, .inl (fun _ => 0))), ((a 9), .inl (cI, 4, .inl (fun _ => 0))), ((a 10), .inl (cI, 4, .inl (f 4))), ((a 0), .inr (7, [.ref (a 1), .ref (a 2), .ref (a 3), .int 0, .int 0, .int 0, .int 0, .int u, .int 0, .int 0]))]) := hD
    have hK : va_K (dC, dI) vwCl [(cI, .int), (cS, .object "Snowpalace$Site")] s := hK
    refine lv_aload_n hx hb dX3_lorries_27 rfl (lv_at hl 0 rfl) ?_
    refine lv_dup hx hb dX3_lorries_28 rfl ?_
    refine va_get (D := (dC, dI)) (ci := 7) (v := .int 0) (C := RX3) (T := TX3) (N := 10) hx hb hts (by decide +kernel) hown hK hP 10 rfl rfl 9 (by decide) (hts (.fieldLink RX3 49 "Snowpalace" "funds" "I") (by decide +kernel)) (fun _ h9 => h9) rfl dX3_lorries_29 ?_
    refine lv_bipush (v := 100) hx hb dX3_lorries_32 (by decide) ?_
    refine lv_iload_n hx hb dX3_lorries_34 rfl (lv_at hl 1 rfl) ?_
    refine lv_imul hx hb dX3_lorries_35 ?_
    refine lv_topi (fun v9 e10 => ?_)
    refine lv_isub hx hb dX3_lorries_36 ?_
    refine lv_topi (fun v11 e12 => ?_)
    refine va_put (D := (dC, dI)) (ci := 7) (v := .int v11) (ty := .int) (C := RX3) (T := TX3) (N := 10) hx hb hts (by decide +kernel) tyX3 tyX3_ok nmX3 hown hK hP hD hS 10 rfl rfl 9 (by decide) (hts (.fieldLink RX3 49 "Snowpalace" "funds" "I") (by decide +kernel)) (fun _ h9 => h9) rfl (by decide +kernel) rfl rfl (Nat.le_of_ble_eq_true rfl) dX3_lorries_37 (fun H locs hP hD hS => ?_)
    have hP : va_P (dC, dI) vwCl ([((a 1), .inr (6, [.ref (a 4), .ref (a 5), .ref (a 6), .ref (a 7)])), ((a 2), .inr (4, [.ref (a 8), .ref (a 9), .ref (a 10)])), ((a 3), .inl (cS, 3, .inr (.inr (.inr (.inr (fun _ => none)))))), ((a 4), .inl (cI, 21, .inl (f 0))), ((a 5), .inl (cI, 21, .inl (f 1))), ((a 6), .inl (cI, 21, .inl (f 2))), ((a 7), .inl (cI, 21, .inl (f 3))), ((a 8), .inl (cI, 4, .inl (fun _ => 0))), ((a 9), .inl (cI, 4, .inl (fun _ => 0))), ((a 10), .inl (cI, 4, .inl (f 4))), ((a 0), .inr (7, [.ref (a 1), .ref (a 2), .ref (a 3), .int 0, .int 0, .int 0, .int 0, .int u, .int 0, .int v11]))]) H := hP
    have hD : va_D A ([((a 1), .inr (6, [.ref (a 4), .ref (a 5), .ref (a 6), .ref (a 7)])), ((a 2), .inr (4, [.ref (a 8), .ref (a 9), .ref (a 10)])), ((a 3), .inl (cS, 3, .inr (.inr (.inr (.inr (fun _ => none)))))), ((a 4), .inl (cI, 21, .inl (f 0))), ((a 5), .inl (cI, 21, .inl (f 1))), ((a 6), .inl (cI, 21, .inl (f 2))), ((a 7), .inl (cI, 21, .inl (f 3))), ((a 8), .inl (cI, 4, .inl (fun _ => 0))), ((a 9), .inl (cI, 4, .inl (fun _ => 0))), ((a 10), .inl (cI, 4, .inl (f 4))), ((a 0), .inr (7, [.ref (a 1), .ref (a 2), .ref (a 3), .int 0, .int 0, .int 0, .int 0, .int u, .int 0, .int v11]))]) := hD
    refine lv_aload_n hx hb dX3_lorries_40 rfl (lv_at hl 0 rfl) ?_
    refine va_get (D := (dC, dI)) (ci := 7) (v := .int u) (C := RX3) (T := TX3) (N := 10) hx hb hts (by decide +kernel) hown hK hP 10 rfl rfl 7 (by decide) (hts (.fieldLink RX3 42 "Snowpalace" "storedSnow" "I") (by decide +kernel)) (fun _ h9 => h9) rfl dX3_lorries_41 ?_
    refine vx_ret ?_
    refine W.widen (k := 1) (n := 6) (Nat.le_of_ble_eq_true rfl) (Nat.le_of_ble_eq_true rfl) ?_
    exact W.iret (v := u) hx hb hr (fun t ht hW => ⟨⟨u, (), rfl, ⟨by omega, by rw [hw8, e6]; rfl⟩, trivial⟩, hS.F ht⟩) hS.2.2 dX3_lorries_44
  · skip
    have g13 : ¬ ((1 : Int) ≤ p0.toInt ∧ p0.toInt ≤ (20 : Int)) := bI_f hw2 c3
    have zg13 : r1 = 0 := bI_f0 hw2 g13
    obtain ⟨sa, hsa⟩ := hT.2.1 (122, "so many lorries cannot come") (by decide +kernel)
    exact vx_throwS (A := A) (own := RX3) (cls := "java/lang/IllegalArgumentException") (text := "so many lorries cannot come") (names := exN) hx hb hlt hown (by decide +kernel) (by decide +kernel) (hts (.classLink RX3 56 "java/lang/IllegalArgumentException") (by decide +kernel)) (hts (.initialized "java/lang/IllegalArgumentException") (by decide +kernel)) hsa (th_hat hT (fun w h => hts w (List.mem_cons_of_mem _ (List.mem_append_right _ h))) th_i1) (th_good th_i1) hT.2.2.2.1 hT.2.2.2.2 hS (hl.1.trans hml.symm) dX3_lorries_10 dX3_lorries_13 dX3_lorries_14 dX3_lorries_16 dX3_lorries_19 (fun x h => (hnt x h).elim) (by decide) (Nat.le_of_ble_eq_true rfl) (Nat.le_of_ble_eq_true rfl) (Nat.le_of_ble_eq_true rfl) hlocks (fun t ha h1 h2 => ⟨_, ⟨rfl, (by omega)⟩, rfl, th_F hS h1 h2⟩) hS.2.2 (Nat.le_of_ble_eq_true rfl) (Nat.le_of_ble_eq_true rfl)

set_option maxHeartbeats 4000000 in
set_option maxRecDepth 100000 in
theorem k_cut (l : Launch) (hlt : l.stackTraces = false) (dC : Nat → ClassId) (dI : Nat → Nat → Nat) (sz : Nat) (a : Nat → Nat) (cI cS : ClassId) (f : Nat → Nat → Int32) (hF : FX f) (p0 : Int32) (p1 : Int32)  : vx_Met l yX3_cut wsX3_cut ({ frames := 6, cells := 1, slots := 6, locals := 82 }) (va_Pc [.ref (a 0), .int p0, .int p1] (PT dC dI (wX a cI cS f) [(cI, .int), (cS, .object "Snowpalace$Site")] sz)) (va_Qi (fun (r : Int32) (u : Unit) => False) (fun (u : Unit) t => True) (va_A (wX a cI cS f) sz)) (vx_X (fun u : String => (u = "java/lang/IllegalArgumentException" ∧ ¬ ((0 ≤ p0.toInt ∧ p0.toInt ≤ 3) ∧ 1 ≤ p1.toInt ∧ p1.toInt ≤ 20)) ∨ (u = "java/lang/UnsupportedOperationException" ∧ ((0 ≤ p0.toInt ∧ p0.toInt ≤ 3) ∧ 1 ≤ p1.toInt ∧ p1.toInt ≤ 20))) (fun E (u : String) _ => E = u) (va_A (wX a cI cS f) sz)) 1 6 (va_A (wX a cI cS f) sz) := by
  refine vx_ofW (cc := cX3_cut) (maxL := 3) (ret := (some .int)) (by decide +kernel) rfl ?_
  intro p e s m args below meth c s₁ B hml hnt hv
  obtain ⟨rfl, ⟨hsz, hP, hK, hD0⟩, hT⟩ := hv
  have hx := B.exec
  have hb := B.bytes
  have hr := B.returns
  have hts := atoms_spec (ws := wsX3_cut) B.pre
  have hown : s.vm.findClass RX3 = some m.cls := findClass_of_methodNamed B.named
  have hlocks := B.notSynchronized
  subst hsz
  have hD := hD0.self (sz := s.heap.size)
  generalize hAe : va_A (wX a cI cS f) s.heap.size = A at hD hT ⊢
  have hA : ∀ q : Nat, s.heap.size ≤ q → A q := fun q h => by rw [← hAe]; exact Or.inr h
  have hS : va_S A s.heap s.heap [] := va_S.rf
  have hl := lv_entry ([.ref (a 0), .int p0, .int p1]) (n := 3) (Nat.le_of_ble_eq_true rfl)
  rw [lg_entry_eq]
  generalize (lg_sl ([.ref (a 0), .int p0, .int p1]) ++ List.replicate (3 - (lg_sl ([.ref (a 0), .int p0, .int p1])).length) Slot.unset).toArray = ls at hl ⊢
  have hl : lv_has ls 3 [(0, .ref (a 0)), (1, .int p0), (2, .int p1)] := hl
  have hN : NS s := hT.ns
  refine lv_iload_n hx hb dX3_cut_0 rfl (lv_at hl 1 rfl) ?_
  refine lv_iconst (v := 0) hx hb dX3_cut_1 (by decide) ?_
  refine lv_iconst (v := 3) hx hb dX3_cut_2 (by decide) ?_
  refine va_calli (va_runS (As := [.int p0, .int 0, .int 3]) (rest := []) ⟨hx, hb, hml, hown, hts⟩ (k_isWithin l p0 0 3 (0) (3) (by decide) (by decide)) (va_cwS 3 hts gX3_cut_X3_isWithin rfl rfl rfl (by decide +kernel) ⟨Nat.le_of_ble_eq_true rfl, Nat.le_of_ble_eq_true rfl⟩) ⟨fun a U g mk q => q, fun U hU hW => ⟨rfl, trivial⟩⟩ rfl rfl hl.1 rfl (lv_room (Nat.le_of_ble_eq_true rfl)) dX3_cut_3 ⟨(Nat.le_of_ble_eq_true rfl), (Nat.le_of_ble_eq_true rfl)⟩) hS (fun q _ h => h.elim) (fun q h => h.elim) (fun r1 u t H locs ht hvm hw2 hB hz1 hk1 hS => ?_)
  have hP := kp_P hP hk1
  have hP : va_P (dC, dI) vwCl (wX a cI cS f) H := hP
  have hD : va_D A (wX a cI cS f) := hD
  have hw2 : r1 = bI ((0 : Int) ≤ p0.toInt ∧ p0.toInt ≤ (3 : Int)) := hw2
  refine lv_if_eq (tgt := 19) hx hb dX3_cut_6 (by decide) (fun c3 => ?_) (fun c3 => ?_)
  · skip
    have g4 : ¬ ((0 : Int) ≤ p0.toInt ∧ p0.toInt ≤ (3 : Int)) := bI_f hw2 c3
    have zg4 : r1 = 0 := bI_f0 hw2 g4
    obtain ⟨sa, hsa⟩ := hT.2.1 (58, "a number is out of range") (by decide +kernel)
    exact vx_throwS (A := A) (own := RX3) (cls := "java/lang/IllegalArgumentException") (text := "a number is out of range") (names := exN) hx hb hlt hown (by decide +kernel) (by decide +kernel) (hts (.classLink RX3 56 "java/lang/IllegalArgumentException") (by decide +kernel)) (hts (.initialized "java/lang/IllegalArgumentException") (by decide +kernel)) hsa (th_hat hT (fun w h => hts w (List.mem_cons_of_mem _ (List.mem_append_left _ (List.mem_append_left _ (List.mem_append_left _ (List.mem_append_right _ h)))))) th_i1) (th_good th_i1) hT.2.2.2.1 hT.2.2.2.2 hS (hl.1.trans hml.symm) dX3_cut_19 dX3_cut_22 dX3_cut_23 dX3_cut_25 dX3_cut_28 (fun x h => (hnt x h).elim) (by decide) (Nat.le_of_ble_eq_true rfl) (Nat.le_of_ble_eq_true rfl) (Nat.le_of_ble_eq_true rfl) hlocks (fun t ha h1 h2 => ⟨_, Or.inl ⟨rfl, by omega⟩, rfl, th_F hS h1 h2⟩) hS.2.2 (Nat.le_of_ble_eq_true rfl) (Nat.le_of_ble_eq_true rfl)
  · skip
    have g5 : (0 : Int) ≤ p0.toInt ∧ p0.toInt ≤ (3 : Int) := bI_t hw2 c3
    have zg5 : r1 = 1 := bI_t1 hw2 g5
    refine lv_iload_n hx hb dX3_cut_9 rfl (lv_at hl 2 rfl) ?_
    refine lv_iconst (v := 1) hx hb dX3_cut_10 (by decide) ?_
    refine lv_bipush (v := 20) hx hb dX3_cut_11 (by decide) ?_
    refine va_calli (va_runS (As := [.int p1, .int 1, .int 20]) (rest := []) ⟨hx, hb, hml, hown, hts⟩ (k_isWithin l p1 1 20 (1) (20) (by decide) (by decide)) (va_cwS 3 hts gX3_cut_X3_isWithin rfl rfl rfl (by decide +kernel) ⟨Nat.le_of_ble_eq_true rfl, Nat.le_of_ble_eq_true rfl⟩) ⟨fun a U g mk q => q, fun U hU hW => ⟨rfl, trivial⟩⟩ rfl rfl hl.1 rfl (lv_room (Nat.le_of_ble_eq_true rfl)) dX3_cut_13 ⟨(Nat.le_of_ble_eq_true rfl), (Nat.le_of_ble_eq_true rfl)⟩) hS (fun q _ h => h.elim) (fun q h => h.elim) (fun r6 u t H locs ht hvm hw7 hB hz1 hk1 hS => ?_)
    have hP := kp_P hP hk1
    have hP : va_P (dC, dI) vwCl (wX a cI cS f) H := hP
    have hD : va_D A (wX a cI cS f) := hD
    have hw7 : r6 = bI ((1 : Int) ≤ p1.toInt ∧ p1.toInt ≤ (20 : Int)) := hw7
    refine lv_if_ne (tgt := 29) hx hb dX3_cut_16 (by decide) (fun c8 => ?_) (fun c8 => ?_)
    · skip
      have g9 : (1 : Int) ≤ p1.toInt ∧ p1.toInt ≤ (20 : Int) := bI_t hw7 c8
      have zg9 : r6 = 1 := bI_t1 hw7 g9
      refine lv_aload_n hx hb dX3_cut_29 rfl (lv_at hl 0 rfl) ?_
      refine va_get (D := (dC, dI)) (ci := 7) (v := .ref (a 2)) (C := RX3) (T := TX3) (N := 10) hx hb hts (by decide +kernel) hown hK hP 0 rfl rfl 1 (by decide) (hts (.fieldLink RX3 19 "Snowpalace" "river" "LSnowpalace$River;") (by decide +kernel)) (fun _ h9 => h9) rfl dX3_cut_30 ?_
      refine va_get (D := (dC, dI)) (ci := 4) (v := .ref (a 8)) (C := RX0) (T := TX0) (N := 3) hx hb hts (by decide +kernel) hown hK hP 2 rfl rfl 0 (by decide) (hts (.fieldLink RX3 102 "Snowpalace$River" "thickness" "[I") (by decide +kernel)) (fun _ h9 => h9) rfl dX3_cut_33 ?_
      refine lv_iload_n hx hb dX3_cut_36 rfl (lv_at hl 1 rfl) ?_
      refine va_iald (D := (dC, dI)) hx hb hK hP 8 0 rfl rfl (inI (p := p0) (by omega) (by omega)) dX3_cut_37 ?_
      refine lv_topi (fun v10 e11 => ?_)
      obtain rfl : v10 = (0 : Int32) := e11.trans rfl
      refine lv_sipush (v := 300) hx hb dX3_cut_38 (by decide) ?_
      refine lv_icmp_lt (tgt := 68) hx hb dX3_cut_41 (by decide) (fun _ => ?_) (fun cx => by first | exact absurd (by decide) cx | exact absurd cx (by decide))
      obtain ⟨sa, hsa⟩ := hT.2.1 (115, "the field cannot be cut so") (by decide +kernel)
      exact vx_throwS (A := A) (own := RX3) (cls := "java/lang/UnsupportedOperationException") (text := "the field cannot be cut so") (names := exN) hx hb hlt hown (by decide +kernel) (by decide +kernel) (hts (.classLink RX3 63 "java/lang/UnsupportedOperationException") (by decide +kernel)) (hts (.initialized "java/lang/UnsupportedOperationException") (by decide +kernel)) hsa (th_hat hT (fun w h => hts w (List.mem_cons_of_mem _ (List.mem_append_left _ (List.mem_append_right _ h)))) th_i2) (th_good th_i2) hT.2.2.2.1 hT.2.2.2.2 hS (hl.1.trans hml.symm) dX3_cut_68 dX3_cut_71 dX3_cut_72 dX3_cut_74 dX3_cut_77 (fun x h => (hnt x h).elim) (by decide) (Nat.le_of_ble_eq_true rfl) (Nat.le_of_ble_eq_true rfl) (Nat.le_of_ble_eq_true rfl) hlocks (fun t ha h1 h2 => ⟨_, Or.inr ⟨rfl, by omega⟩, rfl, th_F hS h1 h2⟩) hS.2.2 (Nat.le_of_ble_eq_true rfl) (Nat.le_of_ble_eq_true rfl)
    · skip
      have g12 : ¬ ((1 : Int) ≤ p1.toInt ∧ p1.toInt ≤ (20 : Int)) := bI_f hw7 c8
      have zg12 : r6 = 0 := bI_f0 hw7 g12
      obtain ⟨sa, hsa⟩ := hT.2.1 (58, "a number is out of range") (by decide +kernel)
      exact vx_throwS (A := A) (own := RX3) (cls := "java/lang/IllegalArgumentException") (text := "a number is out of range") (names := exN) hx hb hlt hown (by decide +kernel) (by decide +kernel) (hts (.classLink RX3 56 "java/lang/IllegalArgumentException") (by decide +kernel)) (hts (.initialized "java/lang/IllegalArgumentException") (by decide +kernel)) hsa (th_hat hT (fun w h => hts w (List.mem_cons_of_mem _ (List.mem_append_left _ (List.mem_append_left _ (List.mem_append_left _ (List.mem_append_right _ h)))))) th_i1) (th_good th_i1) hT.2.2.2.1 hT.2.2.2.2 hS (hl.1.trans hml.symm) dX3_cut_19 dX3_cut_22 dX3_cut_23 dX3_cut_25 dX3_cut_28 (fun x h => (hnt x h).elim) (by decide) (Nat.le_of_ble_eq_true rfl) (Nat.le_of_ble_eq_true rfl) (Nat.le_of_ble_eq_true rfl) hlocks (fun t ha h1 h2 => ⟨_, Or.inl ⟨rfl, by omega⟩, rfl, th_F hS h1 h2⟩) hS.2.2 (Nat.le_of_ble_eq_true rfl) (Nat.le_of_ble_eq_true rfl)

