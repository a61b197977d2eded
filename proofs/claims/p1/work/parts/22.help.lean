set_option maxHeartbeats 4000000 in
set_option maxRecDepth 100000 in
/-- weather: its answer, or caught -/
theorem h_weather (l : Launch) (hlt : l.stackTraces = false) (dC : Nat → ClassId) (dI : Nat → Nat → Nat) (sz : Nat) (a : Nat → Nat) (cI cS : ClassId) (f : Nat → Nat → Int32) (hF : FX f) (cJ : ClassId) (o : Nat) (g : Nat → Int64) (p0 : Int32) (p1 : Int32) (p2 : Int32) (p3 : Int32) (p4 : Int32)  : Met l yL_weather wsL_weather ({ frames := 7, cells := 1, slots := 6, locals := 108 }) (va_Pc [.ref (a 0), .int p0, .int p1, .int p2, .int p3, .int p4, .ref o] (PT dC dI (wX a cI cS f ++ [(o, .inl (cJ, 1, .inr (.inl g)))]) [(cI, .int), (cS, .object "Snowpalace$Site"), (cJ, .long)] sz)) (va_Qi (fun (r : Int32) (u : Nat → Int64) => (((0 ≤ p0.toInt ∧ p0.toInt ≤ 20) ∧ (-400 ≤ p1.toInt ∧ p1.toInt ≤ 200) ∧ (p1.toInt ≤ p2.toInt ∧ p2.toInt ≤ 200) ∧ (0 ≤ p3.toInt ∧ p3.toInt ≤ 30) ∧ 0 ≤ p4.toInt ∧ p4.toInt ≤ 100) ∧ r = 0 ∧ u 0 = ((-150) : Int32).toInt64) ∨ (¬ ((0 ≤ p0.toInt ∧ p0.toInt ≤ 20) ∧ (-400 ≤ p1.toInt ∧ p1.toInt ≤ 200) ∧ (p1.toInt ≤ p2.toInt ∧ p2.toInt ≤ 200) ∧ (0 ≤ p3.toInt ∧ p3.toInt ≤ 30) ∧ 0 ≤ p4.toInt ∧ p4.toInt ≤ 100) ∧ r = 1)) (fun (u : Nat → Int64) t => BW dC dI (va_A (wX a cI cS f ++ [(o, .inl (cJ, 1, .inr (.inl g)))]) sz) [(o, .inl (cJ, 1, .inr (.inl u)))] [(cJ, .long)] t) (va_A (wX a cI cS f ++ [(o, .inl (cJ, 1, .inr (.inl g)))]) sz)) 1 6 (va_A (wX a cI cS f ++ [(o, .inl (cJ, 1, .inr (.inl g)))]) sz) := by
  refine va_MetW (cc := cL_weather) (maxL := 8) (ret := (some .int)) (hh := [(0, 16, 19, 13), (0, 16, 23, 15)]) (by decide +kernel) rfl ?_
  intro p e s m args below meth c s₁ B hml hv
  obtain ⟨rfl, ⟨hsz, hP, hK, hD0⟩, hT⟩ := hv
  have hx := B.exec
  have hb := B.bytes
  have hr := B.returns
  have hts := atoms_spec (ws := wsL_weather) B.pre
  have hown : s.vm.findClass RL = some m.cls := findClass_of_methodNamed B.named
  have hlocks := B.notSynchronized
  have htab : c.exceptionTable.toList = tableOf [(0, 16, 19, 13), (0, 16, 23, 15)] := vx_table (x := yL_weather) B (hts _ List.mem_cons_self)
  subst hsz
  have hD := hD0.self (sz := s.heap.size)
  generalize hAe : va_A (wX a cI cS f ++ [(o, .inl (cJ, 1, .inr (.inl g)))]) s.heap.size = A at hD hT ⊢
  have hA : ∀ q : Nat, s.heap.size ≤ q → A q := fun q h => by rw [← hAe]; exact Or.inr h
  have hS : va_S A s.heap s.heap [] := va_S.rf
  have hl := lv_entry ([.ref (a 0), .int p0, .int p1, .int p2, .int p3, .int p4, .ref o]) (n := 8) (Nat.le_of_ble_eq_true rfl)
  rw [lg_entry_eq]
  generalize (lg_sl ([.ref (a 0), .int p0, .int p1, .int p2, .int p3, .int p4, .ref o]) ++ List.replicate (8 - (lg_sl ([.ref (a 0), .int p0, .int p1, .int p2, .int p3, .int p4, .ref o])).length) Slot.unset).toArray = ls at hl ⊢
  have hl : lv_has ls 8 [(0, .ref (a 0)), (1, .int p0), (2, .int p1), (3, .int p2), (4, .int p3), (5, .int p4), (6, .ref o)] := hl
  have hN : NS s := hT.ns
  refine lv_aload hx hb dL_weather_0 (lv_at hl 6 rfl) ?_
  refine lv_iconst (v := 0) hx hb dL_weather_2 (by decide) ?_
  refine lv_aload_n hx hb dL_weather_3 rfl (lv_at hl 0 rfl) ?_
  refine lv_iload_n hx hb dL_weather_4 rfl (lv_at hl 1 rfl) ?_
  refine lv_iload_n hx hb dL_weather_5 rfl (lv_at hl 2 rfl) ?_
  refine lv_iload_n hx hb dL_weather_6 rfl (lv_at hl 3 rfl) ?_
  refine lv_iload hx hb dL_weather_7 (lv_at hl 4 rfl) ?_
  refine lv_iload hx hb dL_weather_9 (lv_at hl 5 rfl) ?_
  have hFc := va_free (wc := [((a 0), .inr (7, [.ref (a 1), .ref (a 2), .ref (a 3), .int 0, .int 0, .int 0, .int 0, .int 0, .int 0, .int 0])), ((a 1), .inr (6, [.ref (a 4), .ref (a 5), .ref (a 6), .ref (a 7)])), ((a 2), .inr (4, [.ref (a 8), .ref (a 9), .ref (a 10)])), ((a 3), .inl (cS, 3, .inr (.inr (.inr (.inr (fun _ => none)))))), ((a 4), .inl (cI, 21, .inl (f 0))), ((a 5), .inl (cI, 21, .inl (f 1))), ((a 6), .inl (cI, 21, .inl (f 2))), ((a 7), .inl (cI, 21, .inl (f 3))), ((a 8), .inl (cI, 4, .inl (fun _ => 0))), ((a 9), .inl (cI, 4, .inl (fun _ => 0))), ((a 10), .inl (cI, 4, .inl (f 4)))]) hD hS hA [0, 1, 2, 3, 4, 5, 6, 7, 8, 9, 10] rfl
  refine vx_calli (vx_runV (As := [.int p0, .int p1, .int p2, .int p3, .int p4]) (rest := [.int 0, .ref o]) ⟨hx, hb, hml, hown, hts⟩ (k_weather l hlt dC dI _ a cI cS f hF p0 p1 p2 p3 p4) (cwV 5 hts gL_weather_X3_weather rfl rfl rfl (by decide +kernel) ⟨Nat.le_of_ble_eq_true rfl, Nat.le_of_ble_eq_true rfl⟩) ⟨fb_PT, va_recv hK hP (ci := 7) (q0 := 0) rfl rfl, fun U hU hW => ⟨rfl, PT.give hP hK hD hS hA hT [0, 1, 2, 3, 4, 5, 6, 7, 8, 9, 10] [0, 1] rfl rfl rfl rfl hU hW⟩⟩ rfl rfl hl.1 rfl (lv_room (Nat.le_of_ble_eq_true rfl)) dL_weather_11 ⟨(Nat.le_of_ble_eq_true rfl), (Nat.le_of_ble_eq_true rfl)⟩) hS (fun q _ h => hFc q h) hFc (fun q _ h => hFc q h) (fun E ce q9 u t H locs ht hvm hpx hBX hz1 hk1 hS hcell hvn hcl => ?_) (fun r1 u t H locs ht hvm hw2 hB hz1 hk1 hS => ?_)
  · skip
    obtain rfl := hBX
    obtain ⟨rfl, hno⟩ := hpx
    refine vx_catch (E := "java/lang/IllegalArgumentException") (name := "java/lang/IllegalArgumentException") hown [] ⟨0, 16, 19, 13⟩ [⟨0, 16, 23, 15⟩] (by rw [htab]; rfl) (fun z hz => absurd hz List.not_mem_nil) rfl (by decide) (hts (.classLink RL 13 "java/lang/IllegalArgumentException") (by decide +kernel)) (th_any (a := #[]) rfl (hT.1 (.castable "java/lang/IllegalArgumentException" "java/lang/IllegalArgumentException") (by decide +kernel))) hcell hvn hcl ?_
    obtain ⟨hP, hD⟩ := aft0 [0, 1, 2, 3, 4, 5, 6, 7, 8, 9, 10] [11] hP hD rfl (wr := [(o, .inl (cJ, 1, .inr (.inl g)))]) rfl rfl (by decide) hFc hk1
    have hP : va_P (dC, dI) vwCl ([(o, .inl (cJ, 1, .inr (.inl g)))]) H := hP
    have hD : va_D A ([(o, .inl (cJ, 1, .inr (.inl g)))]) := hD
    refine W.eq (g2 := F0 m 19 ls [.ref q9]) rfl ?_
    refine lv_astore (lv' := [(7, .ref q9), (0, .ref (a 0)), (1, .int p0), (2, .int p1), (3, .int p2), (4, .int p3), (5, .int p4), (6, .ref o)]) hx hb dL_weather_19 hl (by decide) rfl (fun ls hl => ?_)
    refine lv_iconst (v := 1) hx hb dL_weather_21 (by decide) ?_
    refine W.widen (k := 1) (n := 6) (Nat.le_of_ble_eq_true rfl) (Nat.le_of_ble_eq_true rfl) ?_
    exact W.iret (v := 1) hx hb hr (fun t ht hW => ⟨⟨1, g, rfl, Or.inr ⟨hno, rfl⟩, BW.end hP hK hD [0] [2] rfl rfl rfl rfl ht hW⟩, hS.F ht⟩) hS.2.2 dL_weather_22
  · skip
    obtain ⟨hP, hD⟩ := aft0 [0, 1, 2, 3, 4, 5, 6, 7, 8, 9, 10] [11] hP hD rfl (wr := [(o, .inl (cJ, 1, .inr (.inl g)))]) rfl rfl (by decide) hFc hk1
    have hP : va_P (dC, dI) vwCl ([(o, .inl (cJ, 1, .inr (.inl g)))]) H := hP
    have hD : va_D A ([(o, .inl (cJ, 1, .inr (.inl g)))]) := hD
    obtain ⟨hok, hval⟩ := hw2
    obtain rfl : r1 = (-150) := hval
    refine lv_i2l (v := (-150)) hx hb dL_weather_14 (by decide) ?_
    refine va_last (D := (dC, dI)) hx hb hK hP hD hS 0 2 rfl rfl (by unfold vp_in; decide) dL_weather_15 (fun H locs hP hD hS => ?_)
    have hP : va_P (dC, dI) vwCl ([(o, .inl (cJ, 1, .inr (.inl (vp_updL g (0 : Int32).toNatClampNeg (-150)))))]) H := hP
    have hD : va_D A ([(o, .inl (cJ, 1, .inr (.inl (vp_updL g (0 : Int32).toNatClampNeg (-150)))))]) := hD
    refine lv_goto (tgt := 27) hx hb dL_weather_16 (by decide) ?_
    refine lv_iconst (v := 0) hx hb dL_weather_27 (by decide) ?_
    refine W.widen (k := 1) (n := 6) (Nat.le_of_ble_eq_true rfl) (Nat.le_of_ble_eq_true rfl) ?_
    exact W.iret (v := 0) hx hb hr (fun t ht hW => ⟨⟨0, (vp_updL g (0 : Int32).toNatClampNeg (-150)), rfl, Or.inl ⟨hok, rfl, by first | rfl | exact congrArg Int32.toInt64 hval | exact hval⟩, BW.end hP hK hD [0] [2] rfl rfl rfl rfl ht hW⟩, hS.F ht⟩) hS.2.2 dL_weather_28

set_option maxHeartbeats 4000000 in
set_option maxRecDepth 100000 in
/-- warmth: its answer, or caught -/
theorem h_warmth (l : Launch) (hlt : l.stackTraces = false) (dC : Nat → ClassId) (dI : Nat → Nat → Nat) (sz : Nat) (a : Nat → Nat) (cI cS : ClassId) (f : Nat → Nat → Int32) (hF : FX f) (cJ : ClassId) (o : Nat) (g : Nat → Int64) (p0 : Int32)  : Met l yL_warmth wsL_warmth ({ frames := 7, cells := 1, slots := 6, locals := 103 }) (va_Pc [.ref (a 0), .int p0, .ref o] (PT dC dI (wX a cI cS f ++ [(o, .inl (cJ, 1, .inr (.inl g)))]) [(cI, .int), (cS, .object "Snowpalace$Site"), (cJ, .long)] sz)) (va_Qi (fun (r : Int32) (u : Nat → Int64) => ((0 ≤ p0.toInt ∧ p0.toInt ≤ 504) ∧ r = 0 ∧ u 0 = (w0 p0.toNatClampNeg : Int32).toInt64) ∨ (¬ (0 ≤ p0.toInt ∧ p0.toInt ≤ 504) ∧ r = 1)) (fun (u : Nat → Int64) t => BW dC dI (va_A (wX a cI cS f ++ [(o, .inl (cJ, 1, .inr (.inl g)))]) sz) [(o, .inl (cJ, 1, .inr (.inl u)))] [(cJ, .long)] t) (va_A (wX a cI cS f ++ [(o, .inl (cJ, 1, .inr (.inl g)))]) sz)) 1 6 (va_A (wX a cI cS f ++ [(o, .inl (cJ, 1, .inr (.inl g)))]) sz) := by
  refine va_MetW (cc := cL_warmth) (maxL := 4) (ret := (some .int)) (hh := [(0, 9, 12, 13)]) (by decide +kernel) rfl ?_
  intro p e s m args below meth c s₁ B hml hv
  obtain ⟨rfl, ⟨hsz, hP, hK, hD0⟩, hT⟩ := hv
  have hx := B.exec
  have hb := B.bytes
  have hr := B.returns
  have hts := atoms_spec (ws := wsL_warmth) B.pre
  have hown : s.vm.findClass RL = some m.cls := findClass_of_methodNamed B.named
  have hlocks := B.notSynchronized
  have htab : c.exceptionTable.toList = tableOf [(0, 9, 12, 13)] := vx_table (x := yL_warmth) B (hts _ List.mem_cons_self)
  subst hsz
  have hD := hD0.self (sz := s.heap.size)
  generalize hAe : va_A (wX a cI cS f ++ [(o, .inl (cJ, 1, .inr (.inl g)))]) s.heap.size = A at hD hT ⊢
  have hA : ∀ q : Nat, s.heap.size ≤ q → A q := fun q h => by rw [← hAe]; exact Or.inr h
  have hS : va_S A s.heap s.heap [] := va_S.rf
  have hl := lv_entry ([.ref (a 0), .int p0, .ref o]) (n := 4) (Nat.le_of_ble_eq_true rfl)
  rw [lg_entry_eq]
  generalize (lg_sl ([.ref (a 0), .int p0, .ref o]) ++ List.replicate (4 - (lg_sl ([.ref (a 0), .int p0, .ref o])).length) Slot.unset).toArray = ls at hl ⊢
  have hl : lv_has ls 4 [(0, .ref (a 0)), (1, .int p0), (2, .ref o)] := hl
  have hN : NS s := hT.ns
  refine lv_aload_n hx hb dL_warmth_0 rfl (lv_at hl 2 rfl) ?_
  refine lv_iconst (v := 0) hx hb dL_warmth_1 (by decide) ?_
  refine lv_aload_n hx hb dL_warmth_2 rfl (lv_at hl 0 rfl) ?_
  refine lv_iload_n hx hb dL_warmth_3 rfl (lv_at hl 1 rfl) ?_
  have hFc := va_free (wc := [((a 0), .inr (7, [.ref (a 1), .ref (a 2), .ref (a 3), .int 0, .int 0, .int 0, .int 0, .int 0, .int 0, .int 0])), ((a 1), .inr (6, [.ref (a 4), .ref (a 5), .ref (a 6), .ref (a 7)])), ((a 2), .inr (4, [.ref (a 8), .ref (a 9), .ref (a 10)])), ((a 3), .inl (cS, 3, .inr (.inr (.inr (.inr (fun _ => none)))))), ((a 4), .inl (cI, 21, .inl (f 0))), ((a 5), .inl (cI, 21, .inl (f 1))), ((a 6), .inl (cI, 21, .inl (f 2))), ((a 7), .inl (cI, 21, .inl (f 3))), ((a 8), .inl (cI, 4, .inl (fun _ => 0))), ((a 9), .inl (cI, 4, .inl (fun _ => 0))), ((a 10), .inl (cI, 4, .inl (f 4)))]) hD hS hA [0, 1, 2, 3, 4, 5, 6, 7, 8, 9, 10] rfl
  refine vx_calli (vx_runV (As := [.int p0]) (rest := [.int 0, .ref o]) ⟨hx, hb, hml, hown, hts⟩ (k_warmth l hlt dC dI _ a cI cS f hF p0) (cwV 1 hts gL_warmth_X3_warmth rfl rfl rfl (by decide +kernel) ⟨Nat.le_of_ble_eq_true rfl, Nat.le_of_ble_eq_true rfl⟩) ⟨fb_PT, va_recv hK hP (ci := 7) (q0 := 0) rfl rfl, fun U hU hW => ⟨rfl, PT.give hP hK hD hS hA hT [0, 1, 2, 3, 4, 5, 6, 7, 8, 9, 10] [0, 1] rfl rfl rfl rfl hU hW⟩⟩ rfl rfl hl.1 rfl (lv_room (Nat.le_of_ble_eq_true rfl)) dL_warmth_4 ⟨(Nat.le_of_ble_eq_true rfl), (Nat.le_of_ble_eq_true rfl)⟩) hS (fun q _ h => hFc q h) hFc (fun q _ h => hFc q h) (fun E ce q9 u t H locs ht hvm hpx hBX hz1 hk1 hS hcell hvn hcl => ?_) (fun r1 u t H locs ht hvm hw2 hB hz1 hk1 hS => ?_)
  · skip
    obtain rfl := hBX
    obtain ⟨rfl, hno⟩ := hpx
    refine vx_catch (E := "java/lang/IllegalArgumentException") (name := "java/lang/IllegalArgumentException") hown [] ⟨0, 9, 12, 13⟩ [] (by rw [htab]; rfl) (fun z hz => absurd hz List.not_mem_nil) rfl (by decide) (hts (.classLink RL 13 "java/lang/IllegalArgumentException") (by decide +kernel)) (th_any (a := #[]) rfl (hT.1 (.castable "java/lang/IllegalArgumentException" "java/lang/IllegalArgumentException") (by decide +kernel))) hcell hvn hcl ?_
    obtain ⟨hP, hD⟩ := aft0 [0, 1, 2, 3, 4, 5, 6, 7, 8, 9, 10] [11] hP hD rfl (wr := [(o, .inl (cJ, 1, .inr (.inl g)))]) rfl rfl (by decide) hFc hk1
    have hP : va_P (dC, dI) vwCl ([(o, .inl (cJ, 1, .inr (.inl g)))]) H := hP
    have hD : va_D A ([(o, .inl (cJ, 1, .inr (.inl g)))]) := hD
    refine W.eq (g2 := F0 m 12 ls [.ref q9]) rfl ?_
    refine lv_astore_n (lv' := [(3, .ref q9), (0, .ref (a 0)), (1, .int p0), (2, .ref o)]) hx hb dL_warmth_12 rfl hl (by decide) rfl (fun ls hl => ?_)
    refine lv_iconst (v := 1) hx hb dL_warmth_13 (by decide) ?_
    refine W.widen (k := 1) (n := 6) (Nat.le_of_ble_eq_true rfl) (Nat.le_of_ble_eq_true rfl) ?_
    exact W.iret (v := 1) hx hb hr (fun t ht hW => ⟨⟨1, g, rfl, Or.inr ⟨hno, rfl⟩, BW.end hP hK hD [0] [2] rfl rfl rfl rfl ht hW⟩, hS.F ht⟩) hS.2.2 dL_warmth_14
  · skip
    obtain ⟨hP, hD⟩ := aft0 [0, 1, 2, 3, 4, 5, 6, 7, 8, 9, 10] [11] hP hD rfl (wr := [(o, .inl (cJ, 1, .inr (.inl g)))]) rfl rfl (by decide) hFc hk1
    have hP : va_P (dC, dI) vwCl ([(o, .inl (cJ, 1, .inr (.inl g)))]) H := hP
    have hD : va_D A ([(o, .inl (cJ, 1, .inr (.inl g)))]) := hD
    obtain ⟨hok, hval⟩ := hw2
    refine lv_i2l hx hb dL_warmth_7 rfl ?_
    refine va_last (D := (dC, dI)) hx hb hK hP hD hS 0 2 rfl rfl (by unfold vp_in; decide) dL_warmth_8 (fun H locs hP hD hS => ?_)
    have hP : va_P (dC, dI) vwCl ([(o, .inl (cJ, 1, .inr (.inl (vp_updL g (0 : Int32).toNatClampNeg r1.toInt64))))]) H := hP
    have hD : va_D A ([(o, .inl (cJ, 1, .inr (.inl (vp_updL g (0 : Int32).toNatClampNeg r1.toInt64))))]) := hD
    refine lv_goto (tgt := 15) hx hb dL_warmth_9 (by decide) ?_
    refine lv_iconst (v := 0) hx hb dL_warmth_15 (by decide) ?_
    refine W.widen (k := 1) (n := 6) (Nat.le_of_ble_eq_true rfl) (Nat.le_of_ble_eq_true rfl) ?_
    exact W.iret (v := 0) hx hb hr (fun t ht hW => ⟨⟨0, (vp_updL g (0 : Int32).toNatClampNeg r1.toInt64), rfl, Or.inl ⟨hok, rfl, by first | rfl | exact congrArg Int32.toInt64 hval | exact hval⟩, BW.end hP hK hD [0] [2] rfl rfl rfl rfl ht hW⟩, hS.F ht⟩) hS.2.2 dL_warmth_16

set_option maxHeartbeats 4000000 in
set_option maxRecDepth 100000 in
/-- wet: its answer, or caught -/
theorem h_wet (l : Launch) (hlt : l.stackTraces = false) (dC : Nat → ClassId) (dI : Nat → Nat → Nat) (sz : Nat) (a : Nat → Nat) (cI cS : ClassId) (f : Nat → Nat → Int32) (hF : FX f) (cJ : ClassId) (o : Nat) (g : Nat → Int64) (p0 : Int32)  : Met l yL_wet wsL_wet ({ frames := 7, cells := 1, slots := 6, locals := 103 }) (va_Pc [.ref (a 0), .int p0, .ref o] (PT dC dI (wX a cI cS f ++ [(o, .inl (cJ, 1, .inr (.inl g)))]) [(cI, .int), (cS, .object "Snowpalace$Site"), (cJ, .long)] sz)) (va_Qi (fun (r : Int32) (u : Nat → Int64) => ((0 ≤ p0.toInt ∧ p0.toInt ≤ 503) ∧ r = 0 ∧ u 0 = (w0 p0.toNatClampNeg - 10 : Int32).toInt64) ∨ (¬ (0 ≤ p0.toInt ∧ p0.toInt ≤ 503) ∧ r = 1)) (fun (u : Nat → Int64) t => BW dC dI (va_A (wX a cI cS f ++ [(o, .inl (cJ, 1, .inr (.inl g)))]) sz) [(o, .inl (cJ, 1, .inr (.inl u)))] [(cJ, .long)] t) (va_A (wX a cI cS f ++ [(o, .inl (cJ, 1, .inr (.inl g)))]) sz)) 1 6 (va_A (wX a cI cS f ++ [(o, .inl (cJ, 1, .inr (.inl g)))]) sz) := by
  refine va_MetW (cc := cL_wet) (maxL := 4) (ret := (some .int)) (hh := [(0, 9, 12, 13)]) (by decide +kernel) rfl ?_
  intro p e s m args below meth c s₁ B hml hv
  obtain ⟨rfl, ⟨hsz, hP, hK, hD0⟩, hT⟩ := hv
  have hx := B.exec
  have hb := B.bytes
  have hr := B.returns
  have hts := atoms_spec (ws := wsL_wet) B.pre
  have hown : s.vm.findClass RL = some m.cls := findClass_of_methodNamed B.named
  have hlocks := B.notSynchronized
  have htab : c.exceptionTable.toList = tableOf [(0, 9, 12, 13)] := vx_table (x := yL_wet) B (hts _ List.mem_cons_self)
  subst hsz
  have hD := hD0.self (sz := s.heap.size)
  generalize hAe : va_A (wX a cI cS f ++ [(o, .inl (cJ, 1, .inr (.inl g)))]) s.heap.size = A at hD hT ⊢
  have hA : ∀ q : Nat, s.heap.size ≤ q → A q := fun q h => by rw [← hAe]; exact Or.inr h
  have hS : va_S A s.heap s.heap [] := va_S.rf
  have hl := lv_entry ([.ref (a 0), .int p0, .ref o]) (n := 4) (Nat.le_of_ble_eq_true rfl)
  rw [lg_entry_eq]
  generalize (lg_sl ([.ref (a 0), .int p0, .ref o]) ++ List.replicate (4 - (lg_sl ([.ref (a 0), .int p0, .ref o])).length) Slot.unset).toArray = ls at hl ⊢
  have hl : lv_has ls 4 [(0, .ref (a 0)), (1, .int p0), (2, .ref o)] := hl
  have hN : NS s := hT.ns
  refine lv_aload_n hx hb dL_wet_0 rfl (lv_at hl 2 rfl) ?_
  refine lv_iconst (v := 0) hx hb dL_wet_1 (by decide) ?_
  refine lv_aload_n hx hb dL_wet_2 rfl (lv_at hl 0 rfl) ?_
  refine lv_iload_n hx hb dL_wet_3 rfl (lv_at hl 1 rfl) ?_
  have hFc := va_free (wc := [((a 0), .inr (7, [.ref (a 1), .ref (a 2), .ref (a 3), .int 0, .int 0, .int 0, .int 0, .int 0, .int 0, .int 0])), ((a 1), .inr (6, [.ref (a 4), .ref (a 5), .ref (a 6), .ref (a 7)])), ((a 2), .inr (4, [.ref (a 8), .ref (a 9), .ref (a 10)])), ((a 3), .inl (cS, 3, .inr (.inr (.inr (.inr (fun _ => none)))))), ((a 4), .inl (cI, 21, .inl (f 0))), ((a 5), .inl (cI, 21, .inl (f 1))), ((a 6), .inl (cI, 21, .inl (f 2))), ((a 7), .inl (cI, 21, .inl (f 3))), ((a 8), .inl (cI, 4, .inl (fun _ => 0))), ((a 9), .inl (cI, 4, .inl (fun _ => 0))), ((a 10), .inl (cI, 4, .inl (f 4)))]) hD hS hA [0, 1, 2, 3, 4, 5, 6, 7, 8, 9, 10] rfl
  refine vx_calli (vx_runV (As := [.int p0]) (rest := [.int 0, .ref o]) ⟨hx, hb, hml, hown, hts⟩ (k_wet l hlt dC dI _ a cI cS f hF p0) (cwV 1 hts gL_wet_X3_wet rfl rfl rfl (by decide +kernel) ⟨Nat.le_of_ble_eq_true rfl, Nat.le_of_ble_eq_true rfl⟩) ⟨fb_PT, va_recv hK hP (ci := 7) (q0 := 0) rfl rfl, fun U hU hW => ⟨rfl, PT.give hP hK hD hS hA hT [0, 1, 2, 3, 4, 5, 6, 7, 8, 9, 10] [0, 1] rfl rfl rfl rfl hU hW⟩⟩ rfl rfl hl.1 rfl (lv_room (Nat.le_of_ble_eq_true rfl)) dL_wet_4 ⟨(Nat.le_of_ble_eq_true rfl), (Nat.le_of_ble_eq_true rfl)⟩) hS (fun q _ h => hFc q h) hFc (fun q _ h => hFc q h) (fun E ce q9 u t H locs ht hvm hpx hBX hz1 hk1 hS hcell hvn hcl => ?_) (fun r1 u t H locs ht hvm hw2 hB hz1 hk1 hS => ?_)
  · skip
    obtain rfl := hBX
    obtain ⟨rfl, hno⟩ := hpx
    refine vx_catch (E := "java/lang/IllegalArgumentException") (name := "java/lang/IllegalArgumentException") hown [] ⟨0, 9, 12, 13⟩ [] (by rw [htab]; rfl) (fun z hz => absurd hz List.not_mem_nil) rfl (by decide) (hts (.classLink RL 13 "java/lang/IllegalArgumentException") (by decide +kernel)) (th_any (a := #[]) rfl (hT.1 (.castable "java/lang/IllegalArgumentException" "java/lang/IllegalArgumentException") (by decide +kernel))) hcell hvn hcl ?_
    obtain ⟨hP, hD⟩ := aft0 [0, 1, 2, 3, 4, 5, 6, 7, 8, 9, 10] [11] hP hD rfl (wr := [(o, .inl (cJ, 1, .inr (.inl g)))]) rfl rfl (by decide) hFc hk1
    have hP : va_P (dC, dI) vwCl ([(o, .inl (cJ, 1, .inr (.inl g)))]) H := hP
    have hD : va_D A ([(o, .inl (cJ, 1, .inr (.inl g)))]) := hD
    refine W.eq (g2 := F0 m 12 ls [.ref q9]) rfl ?_
    refine lv_astore_n (lv' := [(3, .ref q9), (0, .ref (a 0)), (1, .int p0), (2, .ref o)]) hx hb dL_wet_12 rfl hl (by decide) rfl (fun ls hl => ?_)
    refine lv_iconst (v := 1) hx hb dL_wet_13 (by decide) ?_
    refine W.widen (k := 1) (n := 6) (Nat.le_of_ble_eq_true rfl) (Nat.le_of_ble_eq_true rfl) ?_
    exact W.iret (v := 1) hx hb hr (fun t ht hW => ⟨⟨1, g, rfl, Or.inr ⟨hno, rfl⟩, BW.end hP hK hD [0] [2] rfl rfl rfl rfl ht hW⟩, hS.F ht⟩) hS.2.2 dL_wet_14
  · skip
    obtain ⟨hP, hD⟩ := aft0 [0, 1, 2, 3, 4, 5, 6, 7, 8, 9, 10] [11] hP hD rfl (wr := [(o, .inl (cJ, 1, .inr (.inl g)))]) rfl rfl (by decide) hFc hk1
    have hP : va_P (dC, dI) vwCl ([(o, .inl (cJ, 1, .inr (.inl g)))]) H := hP
    have hD : va_D A ([(o, .inl (cJ, 1, .inr (.inl g)))]) := hD
    obtain ⟨hok, hval⟩ := hw2
    refine lv_i2l hx hb dL_wet_7 rfl ?_
    refine va_last (D := (dC, dI)) hx hb hK hP hD hS 0 2 rfl rfl (by unfold vp_in; decide) dL_wet_8 (fun H locs hP hD hS => ?_)
    have hP : va_P (dC, dI) vwCl ([(o, .inl (cJ, 1, .inr (.inl (vp_updL g (0 : Int32).toNatClampNeg r1.toInt64))))]) H := hP
    have hD : va_D A ([(o, .inl (cJ, 1, .inr (.inl (vp_updL g (0 : Int32).toNatClampNeg r1.toInt64))))]) := hD
    refine lv_goto (tgt := 15) hx hb dL_wet_9 (by decide) ?_
    refine lv_iconst (v := 0) hx hb dL_wet_15 (by decide) ?_
    refine W.widen (k := 1) (n := 6) (Nat.le_of_ble_eq_true rfl) (Nat.le_of_ble_eq_true rfl) ?_
    exact W.iret (v := 0) hx hb hr (fun t ht hW => ⟨⟨0, (vp_updL g (0 : Int32).toNatClampNeg r1.toInt64), rfl, Or.inl ⟨hok, rfl, by first | rfl | exact congrArg Int32.toInt64 hval | exact hval⟩, BW.end hP hK hD [0] [2] rfl rfl rfl rfl ht hW⟩, hS.F ht⟩) hS.2.2 dL_wet_16

set_option maxHeartbeats 4000000 in
set_option maxRecDepth 100000 in
/-- go: its answer, or caught -/
theorem h_go (l : Launch) (hlt : l.stackTraces = false) (dC : Nat → ClassId) (dI : Nat → Nat → Nat) (sz : Nat) (a : Nat → Nat) (cI cS : ClassId) (f : Nat → Nat → Int32) (hF : FX f) (cJ : ClassId) (o : Nat) (g : Nat → Int64) (p0 : Int32)  : Met l yL_go wsL_go ({ frames := 7, cells := 1, slots := 6, locals := 104 }) (va_Pc [.ref (a 0), .int p0, .ref o] (PT dC dI (wX a cI cS f ++ [(o, .inl (cJ, 1, .inr (.inl g)))]) [(cI, .int), (cS, .object "Snowpalace$Site"), (cJ, .long)] sz)) (va_Qi (fun (r : Int32) (u : Nat → Int64) => ((1 ≤ p0.toInt ∧ p0.toInt ≤ 48) ∧ r = 0 ∧ u 0 = (p0 : Int32).toInt64) ∨ (¬ (1 ≤ p0.toInt ∧ p0.toInt ≤ 48) ∧ r = 1)) (fun (u : Nat → Int64) t => BW dC dI (va_A (wX a cI cS f ++ [(o, .inl (cJ, 1, .inr (.inl g)))]) sz) [(o, .inl (cJ, 1, .inr (.inl u)))] [(cJ, .long)] t) (va_A (wX a cI cS f ++ [(o, .inl (cJ, 1, .inr (.inl g)))]) sz)) 1 6 (va_A (wX a cI cS f ++ [(o, .inl (cJ, 1, .inr (.inl g)))]) sz) := by
  refine va_MetW (cc := cL_go) (maxL := 4) (ret := (some .int)) (hh := [(0, 9, 12, 13), (0, 9, 15, 27)]) (by decide +kernel) rfl ?_
  intro p e s m args below meth c s₁ B hml hv
  obtain ⟨rfl, ⟨hsz, hP, hK, hD0⟩, hT⟩ := hv
  have hx := B.exec
  have hb := B.bytes
  have hr := B.returns
  have hts := atoms_spec (ws := wsL_go) B.pre
  have hown : s.vm.findClass RL = some m.cls := findClass_of_methodNamed B.named
  have hlocks := B.notSynchronized
  have htab : c.exceptionTable.toList = tableOf [(0, 9, 12, 13), (0, 9, 15, 27)] := vx_table (x := yL_go) B (hts _ List.mem_cons_self)
  subst hsz
  have hD := hD0.self (sz := s.heap.size)
  generalize hAe : va_A (wX a cI cS f ++ [(o, .inl (cJ, 1, .inr (.inl g)))]) s.heap.size = A at hD hT ⊢
  have hA : ∀ q : Nat, s.heap.size ≤ q → A q := fun q h => by rw [← hAe]; exact Or.inr h
  have hS : va_S A s.heap s.heap [] := va_S.rf
  have hl := lv_entry ([.ref (a 0), .int p0, .ref o]) (n := 4) (Nat.le_of_ble_eq_true rfl)
  rw [lg_entry_eq]
  generalize (lg_sl ([.ref (a 0), .int p0, .ref o]) ++ List.replicate (4 - (lg_sl ([.ref (a 0), .int p0, .ref o])).length) Slot.unset).toArray = ls at hl ⊢
  have hl : lv_has ls 4 [(0, .ref (a 0)), (1, .int p0), (2, .ref o)] := hl
  have hN : NS s := hT.ns
  refine lv_aload_n hx hb dL_go_0 rfl (lv_at hl 2 rfl) ?_
  refine lv_iconst (v := 0) hx hb dL_go_1 (by decide) ?_
  refine lv_aload_n hx hb dL_go_2 rfl (lv_at hl 0 rfl) ?_
  refine lv_iload_n hx hb dL_go_3 rfl (lv_at hl 1 rfl) ?_
  have hFc := va_free (wc := [((a 0), .inr (7, [.ref (a 1), .ref (a 2), .ref (a 3), .int 0, .int 0, .int 0, .int 0, .int 0, .int 0, .int 0])), ((a 1), .inr (6, [.ref (a 4), .ref (a 5), .ref (a 6), .ref (a 7)])), ((a 2), .inr (4, [.ref (a 8), .ref (a 9), .ref (a 10)])), ((a 3), .inl (cS, 3, .inr (.inr (.inr (.inr (fun _ => none)))))), ((a 4), .inl (cI, 21, .inl (f 0))), ((a 5), .inl (cI, 21, .inl (f 1))), ((a 6), .inl (cI, 21, .inl (f 2))), ((a 7), .inl (cI, 21, .inl (f 3))), ((a 8), .inl (cI, 4, .inl (fun _ => 0))), ((a 9), .inl (cI, 4, .inl (fun _ => 0))), ((a 10), .inl (cI, 4, .inl (f 4)))]) hD hS hA [0, 1, 2, 3, 4, 5, 6, 7, 8, 9, 10] rfl
  refine vx_calli (vx_runV (As := [.int p0]) (rest := [.int 0, .ref o]) ⟨hx, hb, hml, hown, hts⟩ (k_go l hlt dC dI _ a cI cS f hF p0) (cwV 1 hts gL_go_X3_go rfl rfl rfl (by decide +kernel) ⟨Nat.le_of_ble_eq_true rfl, Nat.le_of_ble_eq_true rfl⟩) ⟨fb_PT, va_recv hK hP (ci := 7) (q0 := 0) rfl rfl, fun U hU hW => ⟨rfl, PT.give hP hK hD hS hA hT [0, 1, 2, 3, 4, 5, 6, 7, 8, 9, 10] [0, 1] rfl rfl rfl rfl hU hW⟩⟩ rfl rfl hl.1 rfl (lv_room (Nat.le_of_ble_eq_true rfl)) dL_go_4 ⟨(Nat.le_of_ble_eq_true rfl), (Nat.le_of_ble_eq_true rfl)⟩) hS (fun q _ h => hFc q h) hFc (fun q _ h => hFc q h) (fun E ce q9 u t H locs ht hvm hpx hBX hz1 hk1 hS hcell hvn hcl => ?_) (fun r1 u t H locs ht hvm hw2 hB hz1 hk1 hS => ?_)
  · skip
    obtain rfl := hBX
    obtain ⟨rfl, hno⟩ := hpx
    refine vx_catch (E := "java/lang/IllegalArgumentException") (name := "java/lang/IllegalArgumentException") hown [] ⟨0, 9, 12, 13⟩ [⟨0, 9, 15, 27⟩] (by rw [htab]; rfl) (fun z hz => absurd hz List.not_mem_nil) rfl (by decide) (hts (.classLink RL 13 "java/lang/IllegalArgumentException") (by decide +kernel)) (th_any (a := #[]) rfl (hT.1 (.castable "java/lang/IllegalArgumentException" "java/lang/IllegalArgumentException") (by decide +kernel))) hcell hvn hcl ?_
    obtain ⟨hP, hD⟩ := aft0 [0, 1, 2, 3, 4, 5, 6, 7, 8, 9, 10] [11] hP hD rfl (wr := [(o, .inl (cJ, 1, .inr (.inl g)))]) rfl rfl (by decide) hFc hk1
    have hP : va_P (dC, dI) vwCl ([(o, .inl (cJ, 1, .inr (.inl g)))]) H := hP
    have hD : va_D A ([(o, .inl (cJ, 1, .inr (.inl g)))]) := hD
    refine W.eq (g2 := F0 m 12 ls [.ref q9]) rfl ?_
    refine lv_astore_n (lv' := [(3, .ref q9), (0, .ref (a 0)), (1, .int p0), (2, .ref o)]) hx hb dL_go_12 rfl hl (by decide) rfl (fun ls hl => ?_)
    refine lv_iconst (v := 1) hx hb dL_go_13 (by decide) ?_
    refine W.widen (k := 1) (n := 6) (Nat.le_of_ble_eq_true rfl) (Nat.le_of_ble_eq_true rfl) ?_
    exact W.iret (v := 1) hx hb hr (fun t ht hW => ⟨⟨1, g, rfl, Or.inr ⟨hno, rfl⟩, BW.end hP hK hD [0] [2] rfl rfl rfl rfl ht hW⟩, hS.F ht⟩) hS.2.2 dL_go_14
  · skip
    obtain ⟨hP, hD⟩ := aft0 [0, 1, 2, 3, 4, 5, 6, 7, 8, 9, 10] [11] hP hD rfl (wr := [(o, .inl (cJ, 1, .inr (.inl g)))]) rfl rfl (by decide) hFc hk1
    have hP : va_P (dC, dI) vwCl ([(o, .inl (cJ, 1, .inr (.inl g)))]) H := hP
    have hD : va_D A ([(o, .inl (cJ, 1, .inr (.inl g)))]) := hD
    obtain ⟨hok, hval⟩ := hw2
    refine lv_i2l hx hb dL_go_7 rfl ?_
    refine va_last (D := (dC, dI)) hx hb hK hP hD hS 0 2 rfl rfl (by unfold vp_in; decide) dL_go_8 (fun H locs hP hD hS => ?_)
    have hP : va_P (dC, dI) vwCl ([(o, .inl (cJ, 1, .inr (.inl (vp_updL g (0 : Int32).toNatClampNeg r1.toInt64))))]) H := hP
    have hD : va_D A ([(o, .inl (cJ, 1, .inr (.inl (vp_updL g (0 : Int32).toNatClampNeg r1.toInt64))))]) := hD
    refine lv_goto (tgt := 18) hx hb dL_go_9 (by decide) ?_
    refine lv_iconst (v := 0) hx hb dL_go_18 (by decide) ?_
    refine W.widen (k := 1) (n := 6) (Nat.le_of_ble_eq_true rfl) (Nat.le_of_ble_eq_true rfl) ?_
    exact W.iret (v := 0) hx hb hr (fun t ht hW => ⟨⟨0, (vp_updL g (0 : Int32).toNatClampNeg r1.toInt64), rfl, Or.inl ⟨hok, rfl, by first | rfl | exact congrArg Int32.toInt64 hval | exact hval⟩, BW.end hP hK hD [0] [2] rfl rfl rfl rfl ht hW⟩, hS.F ht⟩) hS.2.2 dL_go_19

set_option maxHeartbeats 4000000 in
set_option maxRecDepth 100000 in
/-- ice: its answer, or caught -/
theorem h_ice (l : Launch) (hlt : l.stackTraces = false) (dC : Nat → ClassId) (dI : Nat → Nat → Nat) (sz : Nat) (a : Nat → Nat) (cI cS : ClassId) (f : Nat → Nat → Int32) (hF : FX f) (cJ : ClassId) (o : Nat) (g : Nat → Int64) (p0 : Int32)  : Met l yL_ice wsL_ice ({ frames := 7, cells := 1, slots := 6, locals := 103 }) (va_Pc [.ref (a 0), .int p0, .ref o] (PT dC dI (wX a cI cS f ++ [(o, .inl (cJ, 1, .inr (.inl g)))]) [(cI, .int), (cS, .object "Snowpalace$Site"), (cJ, .long)] sz)) (va_Qi (fun (r : Int32) (u : Nat → Int64) => ((0 ≤ p0.toInt ∧ p0.toInt ≤ 3) ∧ r = 0 ∧ u 0 = (0 : Int32).toInt64) ∨ (¬ (0 ≤ p0.toInt ∧ p0.toInt ≤ 3) ∧ r = 1)) (fun (u : Nat → Int64) t => BW dC dI (va_A (wX a cI cS f ++ [(o, .inl (cJ, 1, .inr (.inl g)))]) sz) [(o, .inl (cJ, 1, .inr (.inl u)))] [(cJ, .long)] t) (va_A (wX a cI cS f ++ [(o, .inl (cJ, 1, .inr (.inl g)))]) sz)) 1 6 (va_A (wX a cI cS f ++ [(o, .inl (cJ, 1, .inr (.inl g)))]) sz) := by
  refine va_MetW (cc := cL_ice) (maxL := 4) (ret := (some .int)) (hh := [(0, 9, 12, 13)]) (by decide +kernel) rfl ?_
  intro p e s m args below meth c s₁ B hml hv
  obtain ⟨rfl, ⟨hsz, hP, hK, hD0⟩, hT⟩ := hv
  have hx := B.exec
  have hb := B.bytes
  have hr := B.returns
  have hts := atoms_spec (ws := wsL_ice) B.pre
  have hown : s.vm.findClass RL = some m.cls := findClass_of_methodNamed B.named
  have hlocks := B.notSynchronized
  have htab : c.exceptionTable.toList = tableOf [(0, 9, 12, 13)] := vx_table (x := yL_ice) B (hts _ List.mem_cons_self)
  subst hsz
  have hD := hD0.self (sz := s.heap.size)
  generalize hAe : va_A (wX a cI cS f ++ [(o, .inl (cJ, 1, .inr (.inl g)))]) s.heap.size = A at hD hT ⊢
  have hA : ∀ q : Nat, s.heap.size ≤ q → A q := fun q h => by rw [← hAe]; exact Or.inr h
  have hS : va_S A s.heap s.heap [] := va_S.rf
  have hl := lv_entry ([.ref (a 0), .int p0, .ref o]) (n := 4) (Nat.le_of_ble_eq_true rfl)
  rw [lg_entry_eq]
  generalize (lg_sl ([.ref (a 0), .int p0, .ref o]) ++ List.replicate (4 - (lg_sl ([.ref (a 0), .int p0, .ref o])).length) Slot.unset).toArray = ls at hl ⊢
  have hl : lv_has ls 4 [(0, .ref (a 0)), (1, .int p0), (2, .ref o)] := hl
  have hN : NS s := hT.ns
  refine lv_aload_n hx hb dL_ice_0 rfl (lv_at hl 2 rfl) ?_
  refine lv_iconst (v := 0) hx hb dL_ice_1 (by decide) ?_
  refine lv_aload_n hx hb dL_ice_2 rfl (lv_at hl 0 rfl) ?_
  refine lv_iload_n hx hb dL_ice_3 rfl (lv_at hl 1 rfl) ?_
  have hFc := va_free (wc := [((a 0), .inr (7, [.ref (a 1), .ref (a 2), .ref (a 3), .int 0, .int 0, .int 0, .int 0, .int 0, .int 0, .int 0])), ((a 1), .inr (6, [.ref (a 4), .ref (a 5), .ref (a 6), .ref (a 7)])), ((a 2), .inr (4, [.ref (a 8), .ref (a 9), .ref (a 10)])), ((a 3), .inl (cS, 3, .inr (.inr (.inr (.inr (fun _ => none)))))), ((a 4), .inl (cI, 21, .inl (f 0))), ((a 5), .inl (cI, 21, .inl (f 1))), ((a 6), .inl (cI, 21, .inl (f 2))), ((a 7), .inl (cI, 21, .inl (f 3))), ((a 8), .inl (cI, 4, .inl (fun _ => 0))), ((a 9), .inl (cI, 4, .inl (fun _ => 0))), ((a 10), .inl (cI, 4, .inl (f 4)))]) hD hS hA [0, 1, 2, 3, 4, 5, 6, 7, 8, 9, 10] rfl
  refine vx_calli (vx_runV (As := [.int p0]) (rest := [.int 0, .ref o]) ⟨hx, hb, hml, hown, hts⟩ (k_ice l hlt dC dI _ a cI cS f hF p0) (cwV 1 hts gL_ice_X3_ice rfl rfl rfl (by decide +kernel) ⟨Nat.le_of_ble_eq_true rfl, Nat.le_of_ble_eq_true rfl⟩) ⟨fb_PT, va_recv hK hP (ci := 7) (q0 := 0) rfl rfl, fun U hU hW => ⟨rfl, PT.give hP hK hD hS hA hT [0, 1, 2, 3, 4, 5, 6, 7, 8, 9, 10] [0, 1] rfl rfl rfl rfl hU hW⟩⟩ rfl rfl hl.1 rfl (lv_room (Nat.le_of_ble_eq_true rfl)) dL_ice_4 ⟨(Nat.le_of_ble_eq_true rfl), (Nat.le_of_ble_eq_true rfl)⟩) hS (fun q _ h => hFc q h) hFc (fun q _ h => hFc q h) (fun E ce q9 u t H locs ht hvm hpx hBX hz1 hk1 hS hcell hvn hcl => ?_) (fun r1 u t H locs ht hvm hw2 hB hz1 hk1 hS => ?_)
  · skip
    obtain rfl := hBX
    obtain ⟨rfl, hno⟩ := hpx
    refine vx_catch (E := "java/lang/IllegalArgumentException") (name := "java/lang/IllegalArgumentException") hown [] ⟨0, 9, 12, 13⟩ [] (by rw [htab]; rfl) (fun z hz => absurd hz List.not_mem_nil) rfl (by decide) (hts (.classLink RL 13 "java/lang/IllegalArgumentException") (by decide +kernel)) (th_any (a := #[]) rfl (hT.1 (.castable "java/lang/IllegalArgumentException" "java/lang/IllegalArgumentException") (by decide +kernel))) hcell hvn hcl ?_
    obtain ⟨hP, hD⟩ := aft0 [0, 1, 2, 3, 4, 5, 6, 7, 8, 9, 10] [11] hP hD rfl (wr := [(o, .inl (cJ, 1, .inr (.inl g)))]) rfl rfl (by decide) hFc hk1
    have hP : va_P (dC, dI) vwCl ([(o, .inl (cJ, 1, .inr (.inl g)))]) H := hP
    have hD : va_D A ([(o, .inl (cJ, 1, .inr (.inl g)))]) := hD
    refine W.eq (g2 := F0 m 12 ls [.ref q9]) rfl ?_
    refine lv_astore_n (lv' := [(3, .ref q9), (0, .ref (a 0)), (1, .int p0), (2, .ref o)]) hx hb dL_ice_12 rfl hl (by decide) rfl (fun ls hl => ?_)
    refine lv_iconst (v := 1) hx hb dL_ice_13 (by decide) ?_
    refine W.widen (k := 1) (n := 6) (Nat.le_of_ble_eq_true rfl) (Nat.le_of_ble_eq_true rfl) ?_
    exact W.iret (v := 1) hx hb hr (fun t ht hW => ⟨⟨1, g, rfl, Or.inr ⟨hno, rfl⟩, BW.end hP hK hD [0] [2] rfl rfl rfl rfl ht hW⟩, hS.F ht⟩) hS.2.2 dL_ice_14
  · skip
    obtain ⟨hP, hD⟩ := aft0 [0, 1, 2, 3, 4, 5, 6, 7, 8, 9, 10] [11] hP hD rfl (wr := [(o, .inl (cJ, 1, .inr (.inl g)))]) rfl rfl (by decide) hFc hk1
    have hP : va_P (dC, dI) vwCl ([(o, .inl (cJ, 1, .inr (.inl g)))]) H := hP
    have hD : va_D A ([(o, .inl (cJ, 1, .inr (.inl g)))]) := hD
    obtain ⟨hok, hval⟩ := hw2
    obtain rfl : r1 = 0 := hval
    refine lv_i2l (v := 0) hx hb dL_ice_7 (by decide) ?_
    refine va_last (D := (dC, dI)) hx hb hK hP hD hS 0 2 rfl rfl (by unfold vp_in; decide) dL_ice_8 (fun H locs hP hD hS => ?_)
    have hP : va_P (dC, dI) vwCl ([(o, .inl (cJ, 1, .inr (.inl (vp_updL g (0 : Int32).toNatClampNeg 0))))]) H := hP
    have hD : va_D A ([(o, .inl (cJ, 1, .inr (.inl (vp_updL g (0 : Int32).toNatClampNeg 0))))]) := hD
    refine lv_goto (tgt := 15) hx hb dL_ice_9 (by decide) ?_
    refine lv_iconst (v := 0) hx hb dL_ice_15 (by decide) ?_
    refine W.widen (k := 1) (n := 6) (Nat.le_of_ble_eq_true rfl) (Nat.le_of_ble_eq_true rfl) ?_
    exact W.iret (v := 0) hx hb hr (fun t ht hW => ⟨⟨0, (vp_updL g (0 : Int32).toNatClampNeg 0), rfl, Or.inl ⟨hok, rfl, by first | rfl | exact congrArg Int32.toInt64 hval | exact hval⟩, BW.end hP hK hD [0] [2] rfl rfl rfl rfl ht hW⟩, hS.F ht⟩) hS.2.2 dL_ice_16

set_option maxHeartbeats 4000000 in
set_option maxRecDepth 100000 in
/-- clear: its answer, or caught -/
theorem h_clear (l : Launch) (hlt : l.stackTraces = false) (dC : Nat → ClassId) (dI : Nat → Nat → Nat) (sz : Nat) (a : Nat → Nat) (cI cS : ClassId) (f : Nat → Nat → Int32) (hF : FX f) (cJ : ClassId) (o : Nat) (g : Nat → Int64) (p0 : Int32)  : Met l yL_clear wsL_clear ({ frames := 7, cells := 1, slots := 6, locals := 103 }) (va_Pc [.ref (a 0), .int p0, .ref o] (PT dC dI (wX a cI cS f ++ [(o, .inl (cJ, 1, .inr (.inl g)))]) [(cI, .int), (cS, .object "Snowpalace$Site"), (cJ, .long)] sz)) (va_Qi (fun (r : Int32) (u : Nat → Int64) => ((0 ≤ p0.toInt ∧ p0.toInt ≤ 3) ∧ r = 0 ∧ u 0 = (0 : Int32).toInt64) ∨ (¬ (0 ≤ p0.toInt ∧ p0.toInt ≤ 3) ∧ r = 1)) (fun (u : Nat → Int64) t => BW dC dI (va_A (wX a cI cS f ++ [(o, .inl (cJ, 1, .inr (.inl g)))]) sz) [(o, .inl (cJ, 1, .inr (.inl u)))] [(cJ, .long)] t) (va_A (wX a cI cS f ++ [(o, .inl (cJ, 1, .inr (.inl g)))]) sz)) 1 6 (va_A (wX a cI cS f ++ [(o, .inl (cJ, 1, .inr (.inl g)))]) sz) := by
  refine va_MetW (cc := cL_clear) (maxL := 4) (ret := (some .int)) (hh := [(0, 9, 12, 13)]) (by decide +kernel) rfl ?_
  intro p e s m args below meth c s₁ B hml hv
  obtain ⟨rfl, ⟨hsz, hP, hK, hD0⟩, hT⟩ := hv
  have hx := B.exec
  have hb := B.bytes
  have hr := B.returns
  have hts := atoms_spec (ws := wsL_clear) B.pre
  have hown : s.vm.findClass RL = some m.cls := findClass_of_methodNamed B.named
  have hlocks := B.notSynchronized
  have htab : c.exceptionTable.toList = tableOf [(0, 9, 12, 13)] := vx_table (x := yL_clear) B (hts _ List.mem_cons_self)
  subst hsz
  have hD := hD0.self (sz := s.heap.size)
  generalize hAe : va_A (wX a cI cS f ++ [(o, .inl (cJ, 1, .inr (.inl g)))]) s.heap.size = A at hD hT ⊢
  have hA : ∀ q : Nat, s.heap.size ≤ q → A q := fun q h => by rw [← hAe]; exact Or.inr h
  have hS : va_S A s.heap s.heap [] := va_S.rf
  have hl := lv_entry ([.ref (a 0), .int p0, .ref o]) (n := 4) (Nat.le_of_ble_eq_true rfl)
  rw [lg_entry_eq]
  generalize (lg_sl ([.ref (a 0), .int p0, .ref o]) ++ List.replicate (4 - (lg_sl ([.ref (a 0), .int p0, .ref o])).length) Slot.unset).toArray = ls at hl ⊢
  have hl : lv_has ls 4 [(0, .ref (a 0)), (1, .int p0), (2, .ref o)] := hl
  have hN : NS s := hT.ns
  refine lv_aload_n hx hb dL_clear_0 rfl (lv_at hl 2 rfl) ?_
  refine lv_iconst (v := 0) hx hb dL_clear_1 (by decide) ?_
  refine lv_aload_n hx hb dL_clear_2 rfl (lv_at hl 0 rfl) ?_
  refine lv_iload_n hx hb dL_clear_3 rfl (lv_at hl 1 rfl) ?_
  have hFc := va_free (wc := [((a 0), .inr (7, [.ref (a 1), .ref (a 2), .ref (a 3), .int 0, .int 0, .int 0, .int 0, .int 0, .int 0, .int 0])), ((a 1), .inr (6, [.ref (a 4), .ref (a 5), .ref (a 6), .ref (a 7)])), ((a 2), .inr (4, [.ref (a 8), .ref (a 9), .ref (a 10)])), ((a 3), .inl (cS, 3, .inr (.inr (.inr (.inr (fun _ => none)))))), ((a 4), .inl (cI, 21, .inl (f 0))), ((a 5), .inl (cI, 21, .inl (f 1))), ((a 6), .inl (cI, 21, .inl (f 2))), ((a 7), .inl (cI, 21, .inl (f 3))), ((a 8), .inl (cI, 4, .inl (fun _ => 0))), ((a 9), .inl (cI, 4, .inl (fun _ => 0))), ((a 10), .inl (cI, 4, .inl (f 4)))]) hD hS hA [0, 1, 2, 3, 4, 5, 6, 7, 8, 9, 10] rfl
  refine vx_calli (vx_runV (As := [.int p0]) (rest := [.int 0, .ref o]) ⟨hx, hb, hml, hown, hts⟩ (k_clear l hlt dC dI _ a cI cS f hF p0) (cwV 1 hts gL_clear_X3_clear rfl rfl rfl (by decide +kernel) ⟨Nat.le_of_ble_eq_true rfl, Nat.le_of_ble_eq_true rfl⟩) ⟨fb_PT, va_recv hK hP (ci := 7) (q0 := 0) rfl rfl, fun U hU hW => ⟨rfl, PT.give hP hK hD hS hA hT [0, 1, 2, 3, 4, 5, 6, 7, 8, 9, 10] [0, 1] rfl rfl rfl rfl hU hW⟩⟩ rfl rfl hl.1 rfl (lv_room (Nat.le_of_ble_eq_true rfl)) dL_clear_4 ⟨(Nat.le_of_ble_eq_true rfl), (Nat.le_of_ble_eq_true rfl)⟩) hS (fun q _ h => hFc q h) hFc (fun q _ h => hFc q h) (fun E ce q9 u t H locs ht hvm hpx hBX hz1 hk1 hS hcell hvn hcl => ?_) (fun r1 u t H locs ht hvm hw2 hB hz1 hk1 hS => ?_)
  · skip
    obtain rfl := hBX
    obtain ⟨rfl, hno⟩ := hpx
    refine vx_catch (E := "java/lang/IllegalArgumentException") (name := "java/lang/IllegalArgumentException") hown [] ⟨0, 9, 12, 13⟩ [] (by rw [htab]; rfl) (fun z hz => absurd hz List.not_mem_nil) rfl (by decide) (hts (.classLink RL 13 "java/lang/IllegalArgumentException") (by decide +kernel)) (th_any (a := #[]) rfl (hT.1 (.castable "java/lang/IllegalArgumentException" "java/lang/IllegalArgumentException") (by decide +kernel))) hcell hvn hcl ?_
    obtain ⟨hP, hD⟩ := aft0 [0, 1, 2, 3, 4, 5, 6, 7, 8, 9, 10] [11] hP hD rfl (wr := [(o, .inl (cJ, 1, .inr (.inl g)))]) rfl rfl (by decide) hFc hk1
    have hP : va_P (dC, dI) vwCl ([(o, .inl (cJ, 1, .inr (.inl g)))]) H := hP
    have hD : va_D A ([(o, .inl (cJ, 1, .inr (.inl g)))]) := hD
    refine W.eq (g2 := F0 m 12 ls [.ref q9]) rfl ?_
    refine lv_astore_n (lv' := [(3, .ref q9), (0, .ref (a 0)), (1, .int p0), (2, .ref o)]) hx hb dL_clear_12 rfl hl (by decide) rfl (fun ls hl => ?_)
    refine lv_iconst (v := 1) hx hb dL_clear_13 (by decide) ?_
    refine W.widen (k := 1) (n := 6) (Nat.le_of_ble_eq_true rfl) (Nat.le_of_ble_eq_true rfl) ?_
    exact W.iret (v := 1) hx hb hr (fun t ht hW => ⟨⟨1, g, rfl, Or.inr ⟨hno, rfl⟩, BW.end hP hK hD [0] [2] rfl rfl rfl rfl ht hW⟩, hS.F ht⟩) hS.2.2 dL_clear_14
  · skip
    obtain ⟨hP, hD⟩ := aft0 [0, 1, 2, 3, 4, 5, 6, 7, 8, 9, 10] [11] hP hD rfl (wr := [(o, .inl (cJ, 1, .inr (.inl g)))]) rfl rfl (by decide) hFc hk1
    have hP : va_P (dC, dI) vwCl ([(o, .inl (cJ, 1, .inr (.inl g)))]) H := hP
    have hD : va_D A ([(o, .inl (cJ, 1, .inr (.inl g)))]) := hD
    obtain ⟨hok, hval⟩ := hw2
    obtain rfl : r1 = 0 := hval
    refine lv_i2l (v := 0) hx hb dL_clear_7 (by decide) ?_
    refine va_last (D := (dC, dI)) hx hb hK hP hD hS 0 2 rfl rfl (by unfold vp_in; decide) dL_clear_8 (fun H locs hP hD hS => ?_)
    have hP : va_P (dC, dI) vwCl ([(o, .inl (cJ, 1, .inr (.inl (vp_updL g (0 : Int32).toNatClampNeg 0))))]) H := hP
    have hD : va_D A ([(o, .inl (cJ, 1, .inr (.inl (vp_updL g (0 : Int32).toNatClampNeg 0))))]) := hD
    refine lv_goto (tgt := 15) hx hb dL_clear_9 (by decide) ?_
    refine lv_iconst (v := 0) hx hb dL_clear_15 (by decide) ?_
    refine W.widen (k := 1) (n := 6) (Nat.le_of_ble_eq_true rfl) (Nat.le_of_ble_eq_true rfl) ?_
    exact W.iret (v := 0) hx hb hr (fun t ht hW => ⟨⟨0, (vp_updL g (0 : Int32).toNatClampNeg 0), rfl, Or.inl ⟨hok, rfl, by first | rfl | exact congrArg Int32.toInt64 hval | exact hval⟩, BW.end hP hK hD [0] [2] rfl rfl rfl rfl ht hW⟩, hS.F ht⟩) hS.2.2 dL_clear_16

set_option maxHeartbeats 4000000 in
set_option maxRecDepth 100000 in
/-- bears: its answer, or caught -/
theorem h_bears (l : Launch) (hlt : l.stackTraces = false) (dC : Nat → ClassId) (dI : Nat → Nat → Nat) (sz : Nat) (a : Nat → Nat) (cI cS : ClassId) (f : Nat → Nat → Int32) (hF : FX f) (cJ : ClassId) (o : Nat) (g : Nat → Int64) (p0 : Int32)  : Met l yL_bears wsL_bears ({ frames := 7, cells := 1, slots := 6, locals := 103 }) (va_Pc [.ref (a 0), .int p0, .ref o] (PT dC dI (wX a cI cS f ++ [(o, .inl (cJ, 1, .inr (.inl g)))]) [(cI, .int), (cS, .object "Snowpalace$Site"), (cJ, .long)] sz)) (va_Qi (fun (r : Int32) (u : Nat → Int64) => ((0 ≤ p0.toInt ∧ p0.toInt ≤ 3) ∧ r = 0 ∧ u 0 = 0) ∨ (¬ (0 ≤ p0.toInt ∧ p0.toInt ≤ 3) ∧ r = 1)) (fun (u : Nat → Int64) t => BW dC dI (va_A (wX a cI cS f ++ [(o, .inl (cJ, 1, .inr (.inl g)))]) sz) [(o, .inl (cJ, 1, .inr (.inl u)))] [(cJ, .long)] t) (va_A (wX a cI cS f ++ [(o, .inl (cJ, 1, .inr (.inl g)))]) sz)) 1 6 (va_A (wX a cI cS f ++ [(o, .inl (cJ, 1, .inr (.inl g)))]) sz) := by
  refine va_MetW (cc := cL_bears) (maxL := 4) (ret := (some .int)) (hh := [(0, 16, 19, 13)]) (by decide +kernel) rfl ?_
  intro p e s m args below meth c s₁ B hml hv
  obtain ⟨rfl, ⟨hsz, hP, hK, hD0⟩, hT⟩ := hv
  have hx := B.exec
  have hb := B.bytes
  have hr := B.returns
  have hts := atoms_spec (ws := wsL_bears) B.pre
  have hown : s.vm.findClass RL = some m.cls := findClass_of_methodNamed B.named
  have hlocks := B.notSynchronized
  have htab : c.exceptionTable.toList = tableOf [(0, 16, 19, 13)] := vx_table (x := yL_bears) B (hts _ List.mem_cons_self)
  subst hsz
  have hD := hD0.self (sz := s.heap.size)
  generalize hAe : va_A (wX a cI cS f ++ [(o, .inl (cJ, 1, .inr (.inl g)))]) s.heap.size = A at hD hT ⊢
  have hA : ∀ q : Nat, s.heap.size ≤ q → A q := fun q h => by rw [← hAe]; exact Or.inr h
  have hS : va_S A s.heap s.heap [] := va_S.rf
  have hl := lv_entry ([.ref (a 0), .int p0, .ref o]) (n := 4) (Nat.le_of_ble_eq_true rfl)
  rw [lg_entry_eq]
  generalize (lg_sl ([.ref (a 0), .int p0, .ref o]) ++ List.replicate (4 - (lg_sl ([.ref (a 0), .int p0, .ref o])).length) Slot.unset).toArray = ls at hl ⊢
  have hl : lv_has ls 4 [(0, .ref (a 0)), (1, .int p0), (2, .ref o)] := hl
  have hN : NS s := hT.ns
  refine lv_aload_n hx hb dL_bears_0 rfl (lv_at hl 2 rfl) ?_
  refine lv_iconst (v := 0) hx hb dL_bears_1 (by decide) ?_
  refine lv_aload_n hx hb dL_bears_2 rfl (lv_at hl 0 rfl) ?_
  refine lv_iload_n hx hb dL_bears_3 rfl (lv_at hl 1 rfl) ?_
  have hFc := va_free (wc := [((a 0), .inr (7, [.ref (a 1), .ref (a 2), .ref (a 3), .int 0, .int 0, .int 0, .int 0, .int 0, .int 0, .int 0])), ((a 1), .inr (6, [.ref (a 4), .ref (a 5), .ref (a 6), .ref (a 7)])), ((a 2), .inr (4, [.ref (a 8), .ref (a 9), .ref (a 10)])), ((a 3), .inl (cS, 3, .inr (.inr (.inr (.inr (fun _ => none)))))), ((a 4), .inl (cI, 21, .inl (f 0))), ((a 5), .inl (cI, 21, .inl (f 1))), ((a 6), .inl (cI, 21, .inl (f 2))), ((a 7), .inl (cI, 21, .inl (f 3))), ((a 8), .inl (cI, 4, .inl (fun _ => 0))), ((a 9), .inl (cI, 4, .inl (fun _ => 0))), ((a 10), .inl (cI, 4, .inl (f 4)))]) hD hS hA [0, 1, 2, 3, 4, 5, 6, 7, 8, 9, 10] rfl
  refine vx_calli (vx_runV (As := [.int p0]) (rest := [.int 0, .ref o]) ⟨hx, hb, hml, hown, hts⟩ (k_bears l hlt dC dI _ a cI cS f hF p0) (cwV 1 hts gL_bears_X3_bears rfl rfl rfl (by decide +kernel) ⟨Nat.le_of_ble_eq_true rfl, Nat.le_of_ble_eq_true rfl⟩) ⟨fb_PT, va_recv hK hP (ci := 7) (q0 := 0) rfl rfl, fun U hU hW => ⟨rfl, PT.give hP hK hD hS hA hT [0, 1, 2, 3, 4, 5, 6, 7, 8, 9, 10] [0, 1] rfl rfl rfl rfl hU hW⟩⟩ rfl rfl hl.1 rfl (lv_room (Nat.le_of_ble_eq_true rfl)) dL_bears_4 ⟨(Nat.le_of_ble_eq_true rfl), (Nat.le_of_ble_eq_true rfl)⟩) hS (fun q _ h => hFc q h) hFc (fun q _ h => hFc q h) (fun E ce q9 u t H locs ht hvm hpx hBX hz1 hk1 hS hcell hvn hcl => ?_) (fun r1 u t H locs ht hvm hw2 hB hz1 hk1 hS => ?_)
  · skip
    obtain rfl := hBX
    obtain ⟨rfl, hno⟩ := hpx
    refine vx_catch (E := "java/lang/IllegalArgumentException") (name := "java/lang/IllegalArgumentException") hown [] ⟨0, 16, 19, 13⟩ [] (by rw [htab]; rfl) (fun z hz => absurd hz List.not_mem_nil) rfl (by decide) (hts (.classLink RL 13 "java/lang/IllegalArgumentException") (by decide +kernel)) (th_any (a := #[]) rfl (hT.1 (.castable "java/lang/IllegalArgumentException" "java/lang/IllegalArgumentException") (by decide +kernel))) hcell hvn hcl ?_
    obtain ⟨hP, hD⟩ := aft0 [0, 1, 2, 3, 4, 5, 6, 7, 8, 9, 10] [11] hP hD rfl (wr := [(o, .inl (cJ, 1, .inr (.inl g)))]) rfl rfl (by decide) hFc hk1
    have hP : va_P (dC, dI) vwCl ([(o, .inl (cJ, 1, .inr (.inl g)))]) H := hP
    have hD : va_D A ([(o, .inl (cJ, 1, .inr (.inl g)))]) := hD
    refine W.eq (g2 := F0 m 19 ls [.ref q9]) rfl ?_
    refine lv_astore_n (lv' := [(3, .ref q9), (0, .ref (a 0)), (1, .int p0), (2, .ref o)]) hx hb dL_bears_19 rfl hl (by decide) rfl (fun ls hl => ?_)
    refine lv_iconst (v := 1) hx hb dL_bears_20 (by decide) ?_
    refine W.widen (k := 1) (n := 6) (Nat.le_of_ble_eq_true rfl) (Nat.le_of_ble_eq_true rfl) ?_
    exact W.iret (v := 1) hx hb hr (fun t ht hW => ⟨⟨1, g, rfl, Or.inr ⟨hno, rfl⟩, BW.end hP hK hD [0] [2] rfl rfl rfl rfl ht hW⟩, hS.F ht⟩) hS.2.2 dL_bears_21
  · skip
    obtain ⟨hP, hD⟩ := aft0 [0, 1, 2, 3, 4, 5, 6, 7, 8, 9, 10] [11] hP hD rfl (wr := [(o, .inl (cJ, 1, .inr (.inl g)))]) rfl rfl (by decide) hFc hk1
    have hP : va_P (dC, dI) vwCl ([(o, .inl (cJ, 1, .inr (.inl g)))]) H := hP
    have hD : va_D A ([(o, .inl (cJ, 1, .inr (.inl g)))]) := hD
    obtain ⟨hok, hval⟩ := hw2
    obtain rfl : r1 = 0 := hval
    refine lv_if_eq (tgt := 14) hx hb dL_bears_7 (by decide) (fun _ => ?_) (fun cx => by first | exact absurd (by decide) cx | exact absurd cx (by decide))
    refine lv_lconst (v := 0) hx hb dL_bears_14 (by decide) ?_
    refine va_last (D := (dC, dI)) hx hb hK hP hD hS 0 2 rfl rfl (by unfold vp_in; decide) dL_bears_15 (fun H locs hP hD hS => ?_)
    have hP : va_P (dC, dI) vwCl ([(o, .inl (cJ, 1, .inr (.inl (vp_updL g (0 : Int32).toNatClampNeg 0))))]) H := hP
    have hD : va_D A ([(o, .inl (cJ, 1, .inr (.inl (vp_updL g (0 : Int32).toNatClampNeg 0))))]) := hD
    refine lv_goto (tgt := 22) hx hb dL_bears_16 (by decide) ?_
    refine lv_iconst (v := 0) hx hb dL_bears_22 (by decide) ?_
    refine W.widen (k := 1) (n := 6) (Nat.le_of_ble_eq_true rfl) (Nat.le_of_ble_eq_true rfl) ?_
    exact W.iret (v := 0) hx hb hr (fun t ht hW => ⟨⟨0, (vp_updL g (0 : Int32).toNatClampNeg 0), rfl, Or.inl ⟨hok, rfl, by first | rfl | exact congrArg Int32.toInt64 hval | exact hval⟩, BW.end hP hK hD [0] [2] rfl rfl rfl rfl ht hW⟩, hS.F ht⟩) hS.2.2 dL_bears_23

set_option maxHeartbeats 4000000 in
set_option maxRecDepth 100000 in
/-- cut: its answer, or caught -/
theorem h_cut (l : Launch) (hlt : l.stackTraces = false) (dC : Nat → ClassId) (dI : Nat → Nat → Nat) (sz : Nat) (a : Nat → Nat) (cI cS : ClassId) (f : Nat → Nat → Int32) (hF : FX f) (cJ : ClassId) (o : Nat) (g : Nat → Int64) (p0 : Int32) (p1 : Int32)  : Met l yL_cut wsL_cut ({ frames := 7, cells := 1, slots := 6, locals := 104 }) (va_Pc [.ref (a 0), .int p0, .int p1, .ref o] (PT dC dI (wX a cI cS f ++ [(o, .inl (cJ, 1, .inr (.inl g)))]) [(cI, .int), (cS, .object "Snowpalace$Site"), (cJ, .long)] sz)) (va_Qi (fun (r : Int32) (u : Nat → Int64) => (((0 ≤ p0.toInt ∧ p0.toInt ≤ 3) ∧ 1 ≤ p1.toInt ∧ p1.toInt ≤ 20) ∧ r = 2) ∨ (¬ ((0 ≤ p0.toInt ∧ p0.toInt ≤ 3) ∧ 1 ≤ p1.toInt ∧ p1.toInt ≤ 20) ∧ r = 1)) (fun (u : Nat → Int64) t => BW dC dI (va_A (wX a cI cS f ++ [(o, .inl (cJ, 1, .inr (.inl g)))]) sz) [(o, .inl (cJ, 1, .inr (.inl u)))] [(cJ, .long)] t) (va_A (wX a cI cS f ++ [(o, .inl (cJ, 1, .inr (.inl g)))]) sz)) 1 6 (va_A (wX a cI cS f ++ [(o, .inl (cJ, 1, .inr (.inl g)))]) sz) := by
  refine va_MetW (cc := cL_cut) (maxL := 5) (ret := (some .int)) (hh := [(0, 10, 13, 13), (0, 10, 17, 15), (0, 10, 21, 27)]) (by decide +kernel) rfl ?_
  intro p e s m args below meth c s₁ B hml hv
  obtain ⟨rfl, ⟨hsz, hP, hK, hD0⟩, hT⟩ := hv
  have hx := B.exec
  have hb := B.bytes
  have hr := B.returns
  have hts := atoms_spec (ws := wsL_cut) B.pre
  have hown : s.vm.findClass RL = some m.cls := findClass_of_methodNamed B.named
  have hlocks := B.notSynchronized
  have htab : c.exceptionTable.toList = tableOf [(0, 10, 13, 13), (0, 10, 17, 15), (0, 10, 21, 27)] := vx_table (x := yL_cut) B (hts _ List.mem_cons_self)
  subst hsz
  have hD := hD0.self (sz := s.heap.size)
  generalize hAe : va_A (wX a cI cS f ++ [(o, .inl (cJ, 1, .inr (.inl g)))]) s.heap.size = A at hD hT ⊢
  have hA : ∀ q : Nat, s.heap.size ≤ q → A q := fun q h => by rw [← hAe]; exact Or.inr h
  have hS : va_S A s.heap s.heap [] := va_S.rf
  have hl := lv_entry ([.ref (a 0), .int p0, .int p1, .ref o]) (n := 5) (Nat.le_of_ble_eq_true rfl)
  rw [lg_entry_eq]
  generalize (lg_sl ([.ref (a 0), .int p0, .int p1, .ref o]) ++ List.replicate (5 - (lg_sl ([.ref (a 0), .int p0, .int p1, .ref o])).length) Slot.unset).toArray = ls at hl ⊢
  have hl : lv_has ls 5 [(0, .ref (a 0)), (1, .int p0), (2, .int p1), (3, .ref o)] := hl
  have hN : NS s := hT.ns
  refine lv_aload_n hx hb dL_cut_0 rfl (lv_at hl 3 rfl) ?_
  refine lv_iconst (v := 0) hx hb dL_cut_1 (by decide) ?_
  refine lv_aload_n hx hb dL_cut_2 rfl (lv_at hl 0 rfl) ?_
  refine lv_iload_n hx hb dL_cut_3 rfl (lv_at hl 1 rfl) ?_
  refine lv_iload_n hx hb dL_cut_4 rfl (lv_at hl 2 rfl) ?_
  have hFc := va_free (wc := [((a 0), .inr (7, [.ref (a 1), .ref (a 2), .ref (a 3), .int 0, .int 0, .int 0, .int 0, .int 0, .int 0, .int 0])), ((a 1), .inr (6, [.ref (a 4), .ref (a 5), .ref (a 6), .ref (a 7)])), ((a 2), .inr (4, [.ref (a 8), .ref (a 9), .ref (a 10)])), ((a 3), .inl (cS, 3, .inr (.inr (.inr (.inr (fun _ => none)))))), ((a 4), .inl (cI, 21, .inl (f 0))), ((a 5), .inl (cI, 21, .inl (f 1))), ((a 6), .inl (cI, 21, .inl (f 2))), ((a 7), .inl (cI, 21, .inl (f 3))), ((a 8), .inl (cI, 4, .inl (fun _ => 0))), ((a 9), .inl (cI, 4, .inl (fun _ => 0))), ((a 10), .inl (cI, 4, .inl (f 4)))]) hD hS hA [0, 1, 2, 3, 4, 5, 6, 7, 8, 9, 10] rfl
  refine vx_calli (vx_runV (As := [.int p0, .int p1]) (rest := [.int 0, .ref o]) ⟨hx, hb, hml, hown, hts⟩ (k_cut l hlt dC dI _ a cI cS f hF p0 p1) (cwV 2 hts gL_cut_X3_cut rfl rfl rfl (by decide +kernel) ⟨Nat.le_of_ble_eq_true rfl, Nat.le_of_ble_eq_true rfl⟩) ⟨fb_PT, va_recv hK hP (ci := 7) (q0 := 0) rfl rfl, fun U hU hW => ⟨rfl, PT.give hP hK hD hS hA hT [0, 1, 2, 3, 4, 5, 6, 7, 8, 9, 10] [0, 1] rfl rfl rfl rfl hU hW⟩⟩ rfl rfl hl.1 rfl (lv_room (Nat.le_of_ble_eq_true rfl)) dL_cut_5 ⟨(Nat.le_of_ble_eq_true rfl), (Nat.le_of_ble_eq_true rfl)⟩) hS (fun q _ h => hFc q h) hFc (fun q _ h => hFc q h) (fun E ce q9 u t H locs ht hvm hpx hBX hz1 hk1 hS hcell hvn hcl => ?_) (fun r1 u t H locs ht hvm hw2 hB hz1 hk1 hS => ?_)
  · skip
    obtain rfl := hBX
    rcases hpx with ⟨rfl, hno⟩ | ⟨rfl, hok⟩
    · skip


      refine vx_catch (E := "java/lang/IllegalArgumentException") (name := "java/lang/IllegalArgumentException") hown [] ⟨0, 10, 13, 13⟩ [⟨0, 10, 17, 15⟩, ⟨0, 10, 21, 27⟩] (by rw [htab]; rfl) (fun z hz => absurd hz List.not_mem_nil) rfl (by decide) (hts (.classLink RL 13 "java/lang/IllegalArgumentException") (by decide +kernel)) (th_any (a := #[]) rfl (hT.1 (.castable "java/lang/IllegalArgumentException" "java/lang/IllegalArgumentException") (by decide +kernel))) hcell hvn hcl ?_
      obtain ⟨hP, hD⟩ := aft0 [0, 1, 2, 3, 4, 5, 6, 7, 8, 9, 10] [11] hP hD rfl (wr := [(o, .inl (cJ, 1, .inr (.inl g)))]) rfl rfl (by decide) hFc hk1
      have hP : va_P (dC, dI) vwCl ([(o, .inl (cJ, 1, .inr (.inl g)))]) H := hP
      have hD : va_D A ([(o, .inl (cJ, 1, .inr (.inl g)))]) := hD
      refine W.eq (g2 := F0 m 13 ls [.ref q9]) rfl ?_
      refine lv_astore (lv' := [(4, .ref q9), (0, .ref (a 0)), (1, .int p0), (2, .int p1), (3, .ref o)]) hx hb dL_cut_13 hl (by decide) rfl (fun ls hl => ?_)
      refine lv_iconst (v := 1) hx hb dL_cut_15 (by decide) ?_
      refine W.widen (k := 1) (n := 6) (Nat.le_of_ble_eq_true rfl) (Nat.le_of_ble_eq_true rfl) ?_
      exact W.iret (v := 1) hx hb hr (fun t ht hW => ⟨⟨1, g, rfl, Or.inr ⟨hno, rfl⟩, BW.end hP hK hD [0] [2] rfl rfl rfl rfl ht hW⟩, hS.F ht⟩) hS.2.2 dL_cut_16
    · skip


      refine vx_catch (E := "java/lang/UnsupportedOperationException") (name := "java/lang/UnsupportedOperationException") hown [⟨0, 10, 13, 13⟩] ⟨0, 10, 17, 15⟩ [⟨0, 10, 21, 27⟩] (by rw [htab]; rfl) (fun z hz => by rcases List.mem_singleton.mp hz with rfl; exact Or.inr ⟨by decide, _, hts (.classLink RL 13 "java/lang/IllegalArgumentException") (by decide +kernel), hT.2.2.1 ("java/lang/UnsupportedOperationException", "java/lang/IllegalArgumentException") (by decide +kernel)⟩) rfl (by decide) (hts (.classLink RL 15 "java/lang/UnsupportedOperationException") (by decide +kernel)) (th_any (a := #[]) rfl (hT.1 (.castable "java/lang/UnsupportedOperationException" "java/lang/UnsupportedOperationException") (by decide +kernel))) hcell hvn hcl ?_
      obtain ⟨hP, hD⟩ := aft0 [0, 1, 2, 3, 4, 5, 6, 7, 8, 9, 10] [11] hP hD rfl (wr := [(o, .inl (cJ, 1, .inr (.inl g)))]) rfl rfl (by decide) hFc hk1
      have hP : va_P (dC, dI) vwCl ([(o, .inl (cJ, 1, .inr (.inl g)))]) H := hP
      have hD : va_D A ([(o, .inl (cJ, 1, .inr (.inl g)))]) := hD
      refine W.eq (g2 := F0 m 17 ls [.ref q9]) rfl ?_
      refine lv_astore (lv' := [(4, .ref q9), (0, .ref (a 0)), (1, .int p0), (2, .int p1), (3, .ref o)]) hx hb dL_cut_17 hl (by decide) rfl (fun ls hl => ?_)
      refine lv_iconst (v := 2) hx hb dL_cut_19 (by decide) ?_
      refine W.widen (k := 1) (n := 6) (Nat.le_of_ble_eq_true rfl) (Nat.le_of_ble_eq_true rfl) ?_
      exact W.iret (v := 2) hx hb hr (fun t ht hW => ⟨⟨2, g, rfl, Or.inl ⟨hok, rfl⟩, BW.end hP hK hD [0] [2] rfl rfl rfl rfl ht hW⟩, hS.F ht⟩) hS.2.2 dL_cut_20
  · skip
    obtain ⟨hP, hD⟩ := aft0 [0, 1, 2, 3, 4, 5, 6, 7, 8, 9, 10] [11] hP hD rfl (wr := [(o, .inl (cJ, 1, .inr (.inl g)))]) rfl rfl (by decide) hFc hk1
    have hP : va_P (dC, dI) vwCl ([(o, .inl (cJ, 1, .inr (.inl g)))]) H := hP
    have hD : va_D A ([(o, .inl (cJ, 1, .inr (.inl g)))]) := hD
    exact hw2.elim

set_option maxHeartbeats 4000000 in
set_option maxRecDepth 100000 in
/-- lorries: its answer, or caught -/
theorem h_lorries (l : Launch) (hlt : l.stackTraces = false) (dC : Nat → ClassId) (dI : Nat → Nat → Nat) (sz : Nat) (a : Nat → Nat) (cI cS : ClassId) (f : Nat → Nat → Int32) (hF : FX f) (cJ : ClassId) (o : Nat) (g : Nat → Int64) (p0 : Int32)  : Met l yL_lorries wsL_lorries ({ frames := 7, cells := 1, slots := 6, locals := 103 }) (va_Pc [.ref (a 0), .int p0, .ref o] (PT dC dI (wX a cI cS f ++ [(o, .inl (cJ, 1, .inr (.inl g)))]) [(cI, .int), (cS, .object "Snowpalace$Site"), (cJ, .long)] sz)) (va_Qi (fun (r : Int32) (u : Nat → Int64) => ((1 ≤ p0.toInt ∧ p0.toInt ≤ 20) ∧ r = 0 ∧ u 0 = (lorV p0 : Int32).toInt64) ∨ (¬ (1 ≤ p0.toInt ∧ p0.toInt ≤ 20) ∧ r = 1)) (fun (u : Nat → Int64) t => BW dC dI (va_A (wX a cI cS f ++ [(o, .inl (cJ, 1, .inr (.inl g)))]) sz) [(o, .inl (cJ, 1, .inr (.inl u)))] [(cJ, .long)] t) (va_A (wX a cI cS f ++ [(o, .inl (cJ, 1, .inr (.inl g)))]) sz)) 1 6 (va_A (wX a cI cS f ++ [(o, .inl (cJ, 1, .inr (.inl g)))]) sz) := by
  refine va_MetW (cc := cL_lorries) (maxL := 4) (ret := (some .int)) (hh := [(0, 9, 12, 13)]) (by decide +kernel) rfl ?_
  intro p e s m args below meth c s₁ B hml hv
  obtain ⟨rfl, ⟨hsz, hP, hK, hD0⟩, hT⟩ := hv
  have hx := B.exec
  have hb := B.bytes
  have hr := B.returns
  have hts := atoms_spec (ws := wsL_lorries) B.pre
  have hown : s.vm.findClass RL = some m.cls := findClass_of_methodNamed B.named
  have hlocks := B.notSynchronized
  have htab : c.exceptionTable.toList = tableOf [(0, 9, 12, 13)] := vx_table (x := yL_lorries) B (hts _ List.mem_cons_self)
  subst hsz
  have hD := hD0.self (sz := s.heap.size)
  generalize hAe : va_A (wX a cI cS f ++ [(o, .inl (cJ, 1, .inr (.inl g)))]) s.heap.size = A at hD hT ⊢
  have hA : ∀ q : Nat, s.heap.size ≤ q → A q := fun q h => by rw [← hAe]; exact Or.inr h
  have hS : va_S A s.heap s.heap [] := va_S.rf
  have hl := lv_entry ([.ref (a 0), .int p0, .ref o]) (n := 4) (Nat.le_of_ble_eq_true rfl)
  rw [lg_entry_eq]
  generalize (lg_sl ([.ref (a 0), .int p0, .ref o]) ++ List.replicate (4 - (lg_sl ([.ref (a 0), .int p0, .ref o])).length) Slot.unset).toArray = ls at hl ⊢
  have hl : lv_has ls 4 [(0, .ref (a 0)), (1, .int p0), (2, .ref o)] := hl
  have hN : NS s := hT.ns
  refine lv_aload_n hx hb dL_lorries_0 rfl (lv_at hl 2 rfl) ?_
  refine lv_iconst (v := 0) hx hb dL_lorries_1 (by decide) ?_
  refine lv_aload_n hx hb dL_lorries_2 rfl (lv_at hl 0 rfl) ?_
  refine lv_iload_n hx hb dL_lorries_3 rfl (lv_at hl 1 rfl) ?_
  have hFc := va_free (wc := [((a 0), .inr (7, [.ref (a 1), .ref (a 2), .ref (a 3), .int 0, .int 0, .int 0, .int 0, .int 0, .int 0, .int 0])), ((a 1), .inr (6, [.ref (a 4), .ref (a 5), .ref (a 6), .ref (a 7)])), ((a 2), .inr (4, [.ref (a 8), .ref (a 9), .ref (a 10)])), ((a 3), .inl (cS, 3, .inr (.inr (.inr (.inr (fun _ => none)))))), ((a 4), .inl (cI, 21, .inl (f 0))), ((a 5), .inl (cI, 21, .inl (f 1))), ((a 6), .inl (cI, 21, .inl (f 2))), ((a 7), .inl (cI, 21, .inl (f 3))), ((a 8), .inl (cI, 4, .inl (fun _ => 0))), ((a 9), .inl (cI, 4, .inl (fun _ => 0))), ((a 10), .inl (cI, 4, .inl (f 4)))]) hD hS hA [0, 1, 2, 3, 4, 5, 6, 7, 8, 9, 10] rfl
  refine vx_calli (vx_runV (As := [.int p0]) (rest := [.int 0, .ref o]) ⟨hx, hb, hml, hown, hts⟩ (k_lorries l hlt dC dI _ a cI cS f hF p0) (cwV 1 hts gL_lorries_X3_lorries rfl rfl rfl (by decide +kernel) ⟨Nat.le_of_ble_eq_true rfl, Nat.le_of_ble_eq_true rfl⟩) ⟨fb_PT, va_recv hK hP (ci := 7) (q0 := 0) rfl rfl, fun U hU hW => ⟨rfl, PT.give hP hK hD hS hA hT [0, 1, 2, 3, 4, 5, 6, 7, 8, 9, 10] [0, 1] rfl rfl rfl rfl hU hW⟩⟩ rfl rfl hl.1 rfl (lv_room (Nat.le_of_ble_eq_true rfl)) dL_lorries_4 ⟨(Nat.le_of_ble_eq_true rfl), (Nat.le_of_ble_eq_true rfl)⟩) hS (fun q _ h => hFc q h) hFc (fun q _ h => hFc q h) (fun E ce q9 u t H locs ht hvm hpx hBX hz1 hk1 hS hcell hvn hcl => ?_) (fun r1 u t H locs ht hvm hw2 hB hz1 hk1 hS => ?_)
  · skip
    obtain rfl := hBX
    obtain ⟨rfl, hno⟩ := hpx
    refine vx_catch (E := "java/lang/IllegalArgumentException") (name := "java/lang/IllegalArgumentException") hown [] ⟨0, 9, 12, 13⟩ [] (by rw [htab]; rfl) (fun z hz => absurd hz List.not_mem_nil) rfl (by decide) (hts (.classLink RL 13 "java/lang/IllegalArgumentException") (by decide +kernel)) (th_any (a := #[]) rfl (hT.1 (.castable "java/lang/IllegalArgumentException" "java/lang/IllegalArgumentException") (by decide +kernel))) hcell hvn hcl ?_
    obtain ⟨hP, hD⟩ := aft0 [0, 1, 2, 3, 4, 5, 6, 7, 8, 9, 10] [11] hP hD rfl (wr := [(o, .inl (cJ, 1, .inr (.inl g)))]) rfl rfl (by decide) hFc hk1
    have hP : va_P (dC, dI) vwCl ([(o, .inl (cJ, 1, .inr (.inl g)))]) H := hP
    have hD : va_D A ([(o, .inl (cJ, 1, .inr (.inl g)))]) := hD
    refine W.eq (g2 := F0 m 12 ls [.ref q9]) rfl ?_
    refine lv_astore_n (lv' := [(3, .ref q9), (0, .ref (a 0)), (1, .int p0), (2, .ref o)]) hx hb dL_lorries_12 rfl hl (by decide) rfl (fun ls hl => ?_)
    refine lv_iconst (v := 1) hx hb dL_lorries_13 (by decide) ?_
    refine W.widen (k := 1) (n := 6) (Nat.le_of_ble_eq_true rfl) (Nat.le_of_ble_eq_true rfl) ?_
    exact W.iret (v := 1) hx hb hr (fun t ht hW => ⟨⟨1, g, rfl, Or.inr ⟨hno, rfl⟩, BW.end hP hK hD [0] [2] rfl rfl rfl rfl ht hW⟩, hS.F ht⟩) hS.2.2 dL_lorries_14
  · skip
    obtain ⟨hP, hD⟩ := aft0 [0, 1, 2, 3, 4, 5, 6, 7, 8, 9, 10] [11] hP hD rfl (wr := [(o, .inl (cJ, 1, .inr (.inl g)))]) rfl rfl (by decide) hFc hk1
    have hP : va_P (dC, dI) vwCl ([(o, .inl (cJ, 1, .inr (.inl g)))]) H := hP
    have hD : va_D A ([(o, .inl (cJ, 1, .inr (.inl g)))]) := hD
    obtain ⟨hok, hval⟩ := hw2
    refine lv_i2l hx hb dL_lorries_7 rfl ?_
    refine va_last (D := (dC, dI)) hx hb hK hP hD hS 0 2 rfl rfl (by unfold vp_in; decide) dL_lorries_8 (fun H locs hP hD hS => ?_)
    have hP : va_P (dC, dI) vwCl ([(o, .inl (cJ, 1, .inr (.inl (vp_updL g (0 : Int32).toNatClampNeg r1.toInt64))))]) H := hP
    have hD : va_D A ([(o, .inl (cJ, 1, .inr (.inl (vp_updL g (0 : Int32).toNatClampNeg r1.toInt64))))]) := hD
    refine lv_goto (tgt := 15) hx hb dL_lorries_9 (by decide) ?_
    refine lv_iconst (v := 0) hx hb dL_lorries_15 (by decide) ?_
    refine W.widen (k := 1) (n := 6) (Nat.le_of_ble_eq_true rfl) (Nat.le_of_ble_eq_true rfl) ?_
    exact W.iret (v := 0) hx hb hr (fun t ht hW => ⟨⟨0, (vp_updL g (0 : Int32).toNatClampNeg r1.toInt64), rfl, Or.inl ⟨hok, rfl, by first | rfl | exact congrArg Int32.toInt64 hval | exact hval⟩, BW.end hP hK hD [0] [2] rfl rfl rfl rfl ht hW⟩, hS.F ht⟩) hS.2.2 dL_lorries_16

set_option maxHeartbeats 4000000 in
set_option maxRecDepth 100000 in
/-- openShare: caught -/
theorem h_openShare (l : Launch) (hlt : l.stackTraces = false) (dC : Nat → ClassId) (dI : Nat → Nat → Nat) (sz : Nat) (a : Nat → Nat) (cI cS : ClassId) (f : Nat → Nat → Int32) (cJ : ClassId) (o : Nat) (g : Nat → UInt64)   : Met l yL_openShare wsL_openShare ({ frames := 7, cells := 1, slots := 6, locals := 105 }) (va_Pc [.ref (a 0), .ref o] (PT dC dI (wX a cI cS f ++ [(o, .inl (cJ, 1, .inr (.inr (.inr (.inl g)))))]) [(cI, .int), (cS, .object "Snowpalace$Site"), (cJ, .double)] sz)) (va_Qi (fun (r : Int32) (u : Unit) => r = 1) (fun (u : Unit) t => True) (va_A (wX a cI cS f ++ [(o, .inl (cJ, 1, .inr (.inr (.inr (.inl g)))))]) sz)) 1 6 (va_A (wX a cI cS f ++ [(o, .inl (cJ, 1, .inr (.inr (.inr (.inl g)))))]) sz) := by
  refine va_MetW (cc := cL_openShare) (maxL := 3) (ret := (some .int)) (hh := [(0, 8, 11, 140)]) (by decide +kernel) rfl ?_
  intro p e s m args below meth c s₁ B hml hv
  obtain ⟨rfl, ⟨hsz, hP, hK, hD0⟩, hT⟩ := hv
  have hx := B.exec
  have hb := B.bytes
  have hr := B.returns
  have hts := atoms_spec (ws := wsL_openShare) B.pre
  have hown : s.vm.findClass RL = some m.cls := findClass_of_methodNamed B.named
  have hlocks := B.notSynchronized
  have htab : c.exceptionTable.toList = tableOf [(0, 8, 11, 140)] := vx_table (x := yL_openShare) B (hts _ List.mem_cons_self)
  subst hsz
  have hD := hD0.self (sz := s.heap.size)
  generalize hAe : va_A (wX a cI cS f ++ [(o, .inl (cJ, 1, .inr (.inr (.inr (.inl g)))))]) s.heap.size = A at hD hT ⊢
  have hA : ∀ q : Nat, s.heap.size ≤ q → A q := fun q h => by rw [← hAe]; exact Or.inr h
  have hS : va_S A s.heap s.heap [] := va_S.rf
  have hl := lv_entry ([.ref (a 0), .ref o]) (n := 3) (Nat.le_of_ble_eq_true rfl)
  rw [lg_entry_eq]
  generalize (lg_sl ([.ref (a 0), .ref o]) ++ List.replicate (3 - (lg_sl ([.ref (a 0), .ref o])).length) Slot.unset).toArray = ls at hl ⊢
  have hl : lv_has ls 3 [(0, .ref (a 0)), (1, .ref o)] := hl
  have hN : NS s := hT.ns
  refine lv_aload_n hx hb dL_openShare_0 rfl (lv_at hl 1 rfl) ?_
  refine lv_iconst (v := 0) hx hb dL_openShare_1 (by decide) ?_
  refine lv_aload_n hx hb dL_openShare_2 rfl (lv_at hl 0 rfl) ?_
  have hFc := va_free (wc := [((a 0), .inr (7, [.ref (a 1), .ref (a 2), .ref (a 3), .int 0, .int 0, .int 0, .int 0, .int 0, .int 0, .int 0])), ((a 1), .inr (6, [.ref (a 4), .ref (a 5), .ref (a 6), .ref (a 7)])), ((a 2), .inr (4, [.ref (a 8), .ref (a 9), .ref (a 10)])), ((a 3), .inl (cS, 3, .inr (.inr (.inr (.inr (fun _ => none)))))), ((a 4), .inl (cI, 21, .inl (f 0))), ((a 5), .inl (cI, 21, .inl (f 1))), ((a 6), .inl (cI, 21, .inl (f 2))), ((a 7), .inl (cI, 21, .inl (f 3))), ((a 8), .inl (cI, 4, .inl (fun _ => 0))), ((a 9), .inl (cI, 4, .inl (fun _ => 0))), ((a 10), .inl (cI, 4, .inl (f 4)))]) hD hS hA [0, 1, 2, 3, 4, 5, 6, 7, 8, 9, 10] rfl
  refine vx_callf (vx_runV (As := []) (rest := [.int 0, .ref o]) ⟨hx, hb, hml, hown, hts⟩ (k_openShare l hlt dC dI _ a cI cS f) (cwV 0 hts gL_openShare_X3_openShare rfl rfl rfl (by decide +kernel) ⟨Nat.le_of_ble_eq_true rfl, Nat.le_of_ble_eq_true rfl⟩) ⟨fb_PT, va_recv hK hP (ci := 7) (q0 := 0) rfl rfl, fun U hU hW => ⟨rfl, PT.give hP hK hD hS hA hT [0, 1, 2, 3, 4, 5, 6, 7, 8, 9, 10] [0, 1] rfl rfl rfl rfl hU hW⟩⟩ rfl rfl hl.1 rfl (lv_room (Nat.le_of_ble_eq_true rfl)) dL_openShare_3 ⟨(Nat.le_of_ble_eq_true rfl), (Nat.le_of_ble_eq_true rfl)⟩) hS (fun q _ h => hFc q h) hFc (fun q _ h => hFc q h) (fun E ce q9 u t H locs ht hvm hpx hBX hz1 hk1 hS hcell hvn hcl => ?_) (fun r1 u t H locs ht hvm hw2 hB hz1 hk1 hS => ?_)
  · skip
    obtain rfl := hBX
    obtain ⟨rfl, -⟩ := hpx
    refine vx_catch (E := "java/lang/ArithmeticException") (name := "java/lang/ArithmeticException") hown [] ⟨0, 8, 11, 140⟩ [] (by rw [htab]; rfl) (fun z hz => absurd hz List.not_mem_nil) rfl (by decide) (hts (.classLink RL 140 "java/lang/ArithmeticException") (by decide +kernel)) (th_any (a := #[]) rfl (hT.1 (.castable "java/lang/ArithmeticException" "java/lang/ArithmeticException") (by decide +kernel))) hcell hvn hcl ?_
    obtain ⟨hP, hD⟩ := aft0 [0, 1, 2, 3, 4, 5, 6, 7, 8, 9, 10] [11] hP hD rfl (wr := [(o, .inl (cJ, 1, .inr (.inr (.inr (.inl g)))))]) rfl rfl (by decide) hFc hk1
    have hP : va_P (dC, dI) vwCl ([(o, .inl (cJ, 1, .inr (.inr (.inr (.inl g)))))]) H := hP
    have hD : va_D A ([(o, .inl (cJ, 1, .inr (.inr (.inr (.inl g)))))]) := hD
    refine W.eq (g2 := F0 m 11 ls [.ref q9]) rfl ?_
    refine lv_astore_n (lv' := [(2, .ref q9), (0, .ref (a 0)), (1, .ref o)]) hx hb dL_openShare_11 rfl hl (by decide) rfl (fun ls hl => ?_)
    refine lv_iconst (v := 1) hx hb dL_openShare_12 (by decide) ?_
    refine W.widen (k := 1) (n := 6) (Nat.le_of_ble_eq_true rfl) (Nat.le_of_ble_eq_true rfl) ?_
    exact W.iret (v := 1) hx hb hr (fun t ht hW => ⟨⟨1, (), rfl, rfl, trivial⟩, hS.F ht⟩) hS.2.2 dL_openShare_13
  · skip
    obtain ⟨hP, hD⟩ := aft0 [0, 1, 2, 3, 4, 5, 6, 7, 8, 9, 10] [11] hP hD rfl (wr := [(o, .inl (cJ, 1, .inr (.inr (.inr (.inl g)))))]) rfl rfl (by decide) hFc hk1
    have hP : va_P (dC, dI) vwCl ([(o, .inl (cJ, 1, .inr (.inr (.inr (.inl g)))))]) H := hP
    have hD : va_D A ([(o, .inl (cJ, 1, .inr (.inr (.inr (.inl g)))))]) := hD
    exact hw2.elim

