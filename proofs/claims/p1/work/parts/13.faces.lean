set_option maxHeartbeats 4000000 in
set_option maxRecDepth 100000 in
theorem k_warmth (l : Launch) (hlt : l.stackTraces = false) (dC : Nat → ClassId) (dI : Nat → Nat → Nat) (sz : Nat) (a : Nat → Nat) (cI cS : ClassId) (f : Nat → Nat → Int32) (hF : FX f) (p0 : Int32)  : vx_Met l yX3_warmth wsX3_warmth ({ frames := 6, cells := 1, slots := 6, locals := 82 }) (va_Pc [.ref (a 0), .int p0] (PT dC dI (wX a cI cS f) [(cI, .int), (cS, .object "Snowpalace$Site")] sz)) (va_Qi (fun (r : Int32) (u : Unit) => (0 ≤ p0.toInt ∧ p0.toInt ≤ 504) ∧ r = w0 p0.toNatClampNeg) (fun (u : Unit) t => True) (va_A (wX a cI cS f) sz)) (vx_X (fun u : String => u = "java/lang/IllegalArgumentException" ∧ ¬ (0 ≤ p0.toInt ∧ p0.toInt ≤ 504)) (fun E (u : String) _ => E = u) (va_A (wX a cI cS f) sz)) 1 6 (va_A (wX a cI cS f) sz) := by
  refine vx_ofW (cc := cX3_warmth) (maxL := 2) (ret := (some .int)) (by decide +kernel) rfl ?_
  intro p e s m args below meth c s₁ B hml hnt hv
  obtain ⟨rfl, ⟨hsz, hP, hK, hD0⟩, hT⟩ := hv
  have hx := B.exec
  have hb := B.bytes
  have hr := B.returns
  have hts := atoms_spec (ws := wsX3_warmth) B.pre
  have hown : s.vm.findClass RX3 = some m.cls := findClass_of_methodNamed B.named
  have hlocks := B.notSynchronized
  subst hsz
  have hD := hD0.self (sz := s.heap.size)
  generalize hAe : va_A (wX a cI cS f) s.heap.size = A at hD hT ⊢
  have hA : ∀ q : Nat, s.heap.size ≤ q → A q := fun q h => by rw [← hAe]; exact Or.inr h
  have hS : va_S A s.heap s.heap [] := va_S.rf
  have hl := lv_entry ([.ref (a 0), .int p0]) (n := 2) (Nat.le_of_ble_eq_true rfl)
  rw [lg_entry_eq]
  generalize (lg_sl ([.ref (a 0), .int p0]) ++ List.replicate (2 - (lg_sl ([.ref (a 0), .int p0])).length) Slot.unset).toArray = ls at hl ⊢
  have hl : lv_has ls 2 [(0, .ref (a 0)), (1, .int p0)] := hl
  have hN : NS s := hT.ns
  refine lv_iload_n hx hb dX3_warmth_0 rfl (lv_at hl 1 rfl) ?_
  refine lv_iconst (v := 0) hx hb dX3_warmth_1 (by decide) ?_
  refine lv_sipush (v := 504) hx hb dX3_warmth_2 (by decide) ?_
  refine va_calli (va_runS (As := [.int p0, .int 0, .int 504]) (rest := []) ⟨hx, hb, hml, hown, hts⟩ (k_isWithin l p0 0 504 (0) (504) (by decide) (by decide)) (va_cwS 3 hts gX3_warmth_X3_isWithin rfl rfl rfl (by decide +kernel) ⟨Nat.le_of_ble_eq_true rfl, Nat.le_of_ble_eq_true rfl⟩) ⟨fun a U g mk q => q, fun U hU hW => ⟨rfl, trivial⟩⟩ rfl rfl hl.1 rfl (lv_room (Nat.le_of_ble_eq_true rfl)) dX3_warmth_5 ⟨(Nat.le_of_ble_eq_true rfl), (Nat.le_of_ble_eq_true rfl)⟩) hS (fun q _ h => h.elim) (fun q h => h.elim) (fun r1 u t H locs ht hvm hw2 hB hz1 hk1 hS => ?_)
  have hP := kp_P hP hk1
  have hP : va_P (dC, dI) vwCl (wX a cI cS f) H := hP
  have hD : va_D A (wX a cI cS f) := hD
  have hw2 : r1 = bI ((0 : Int) ≤ p0.toInt ∧ p0.toInt ≤ (504 : Int)) := hw2
  refine lv_if_ne (tgt := 21) hx hb dX3_warmth_8 (by decide) (fun c3 => ?_) (fun c3 => ?_)
  · skip
    have g4 : (0 : Int) ≤ p0.toInt ∧ p0.toInt ≤ (504 : Int) := bI_t hw2 c3
    have zg4 : r1 = 1 := bI_t1 hw2 g4
    obtain ⟨n, hn, hnn⟩ := toN (p := p0) (k := 504) (‹_ ∧ _›).1 (‹_ ∧ _›).2 (by decide)
    subst hnn
    refine lv_aload_n hx hb dX3_warmth_21 rfl (lv_at hl 0 rfl) ?_
    refine va_get (D := (dC, dI)) (ci := 7) (v := .ref (a 1)) (C := RX3) (T := TX3) (N := 10) hx hb hts (by decide +kernel) hown hK hP 0 rfl rfl 0 (by decide) (hts (.fieldLink RX3 10 "Snowpalace" "sky" "LSnowpalace$Sky;") (by decide +kernel)) (fun _ h9 => h9) rfl dX3_warmth_22 ?_
    refine lv_iload_n hx hb dX3_warmth_25 rfl (lv_at hl 1 rfl) ?_
    refine va_calli (va_runV (As := [.int (nI n)]) (rest := []) ⟨hx, hb, hml, hown, hts⟩ (k_warmthOf l dC dI _ a cI f hF n (by omega)) (cwV 1 hts gX3_warmth_X2_warmthOf rfl rfl rfl (by decide +kernel) ⟨Nat.le_of_ble_eq_true rfl, Nat.le_of_ble_eq_true rfl⟩) ⟨fb_PN, va_recv hK hP (ci := 6) (q0 := 1) rfl rfl, fun U hU hW => ⟨rfl, PN.give hP hK hD hN [1, 4, 5] [0] rfl rfl rfl rfl hU hW⟩⟩ rfl rfl hl.1 rfl (lv_room (Nat.le_of_ble_eq_true rfl)) dX3_warmth_26 ⟨(Nat.le_of_ble_eq_true rfl), (Nat.le_of_ble_eq_true rfl)⟩) hS (fun q _ h => h.elim) (fun q h => h.elim) (fun r5 u t H locs ht hvm hw6 hB hz1 hk1 hS => ?_)
    have hP := kp_P hP hk1
    have hP : va_P (dC, dI) vwCl (wX a cI cS f) H := hP
    have hD : va_D A (wX a cI cS f) := hD
    refine vx_ret ?_
    refine W.widen (k := 1) (n := 6) (Nat.le_of_ble_eq_true rfl) (Nat.le_of_ble_eq_true rfl) ?_
    exact W.iret (v := r5) hx hb hr (fun t ht hW => ⟨⟨r5, (), rfl, ⟨by assumption, by rw [nI_clamp (by omega)]; exact hw6⟩, trivial⟩, hS.F ht⟩) hS.2.2 dX3_warmth_29
  · skip
    have g7 : ¬ ((0 : Int) ≤ p0.toInt ∧ p0.toInt ≤ (504 : Int)) := bI_f hw2 c3
    have zg7 : r1 = 0 := bI_f0 hw2 g7
    obtain ⟨sa, hsa⟩ := hT.2.1 (81, "no such hour") (by decide +kernel)
    exact vx_throwS (A := A) (own := RX3) (cls := "java/lang/IllegalArgumentException") (text := "no such hour") (names := exN) hx hb hlt hown (by decide +kernel) (by decide +kernel) (hts (.classLink RX3 56 "java/lang/IllegalArgumentException") (by decide +kernel)) (hts (.initialized "java/lang/IllegalArgumentException") (by decide +kernel)) hsa (th_hat hT (fun w h => hts w (List.mem_cons_of_mem _ (List.mem_append_left _ (List.mem_append_right _ h)))) th_i1) (th_good th_i1) hT.2.2.2.1 hT.2.2.2.2 hS (hl.1.trans hml.symm) dX3_warmth_11 dX3_warmth_14 dX3_warmth_15 dX3_warmth_17 dX3_warmth_20 (fun x h => (hnt x h).elim) (by decide) (Nat.le_of_ble_eq_true rfl) (Nat.le_of_ble_eq_true rfl) (Nat.le_of_ble_eq_true rfl) hlocks (fun t ha h1 h2 => ⟨_, ⟨rfl, (by omega)⟩, rfl, th_F hS h1 h2⟩) hS.2.2 (Nat.le_of_ble_eq_true rfl) (Nat.le_of_ble_eq_true rfl)

set_option maxHeartbeats 4000000 in
set_option maxRecDepth 100000 in
theorem k_wet (l : Launch) (hlt : l.stackTraces = false) (dC : Nat → ClassId) (dI : Nat → Nat → Nat) (sz : Nat) (a : Nat → Nat) (cI cS : ClassId) (f : Nat → Nat → Int32) (hF : FX f) (p0 : Int32)  : vx_Met l yX3_wet wsX3_wet ({ frames := 6, cells := 1, slots := 6, locals := 82 }) (va_Pc [.ref (a 0), .int p0] (PT dC dI (wX a cI cS f) [(cI, .int), (cS, .object "Snowpalace$Site")] sz)) (va_Qi (fun (r : Int32) (u : Unit) => (0 ≤ p0.toInt ∧ p0.toInt ≤ 503) ∧ r = w0 p0.toNatClampNeg - 10) (fun (u : Unit) t => True) (va_A (wX a cI cS f) sz)) (vx_X (fun u : String => u = "java/lang/IllegalArgumentException" ∧ ¬ (0 ≤ p0.toInt ∧ p0.toInt ≤ 503)) (fun E (u : String) _ => E = u) (va_A (wX a cI cS f) sz)) 1 6 (va_A (wX a cI cS f) sz) := by
  refine vx_ofW (cc := cX3_wet) (maxL := 2) (ret := (some .int)) (by decide +kernel) rfl ?_
  intro p e s m args below meth c s₁ B hml hnt hv
  obtain ⟨rfl, ⟨hsz, hP, hK, hD0⟩, hT⟩ := hv
  have hx := B.exec
  have hb := B.bytes
  have hr := B.returns
  have hts := atoms_spec (ws := wsX3_wet) B.pre
  have hown : s.vm.findClass RX3 = some m.cls := findClass_of_methodNamed B.named
  have hlocks := B.notSynchronized
  subst hsz
  have hD := hD0.self (sz := s.heap.size)
  generalize hAe : va_A (wX a cI cS f) s.heap.size = A at hD hT ⊢
  have hA : ∀ q : Nat, s.heap.size ≤ q → A q := fun q h => by rw [← hAe]; exact Or.inr h
  have hS : va_S A s.heap s.heap [] := va_S.rf
  have hl := lv_entry ([.ref (a 0), .int p0]) (n := 2) (Nat.le_of_ble_eq_true rfl)
  rw [lg_entry_eq]
  generalize (lg_sl ([.ref (a 0), .int p0]) ++ List.replicate (2 - (lg_sl ([.ref (a 0), .int p0])).length) Slot.unset).toArray = ls at hl ⊢
  have hl : lv_has ls 2 [(0, .ref (a 0)), (1, .int p0)] := hl
  have hN : NS s := hT.ns
  refine lv_iload_n hx hb dX3_wet_0 rfl (lv_at hl 1 rfl) ?_
  refine lv_iconst (v := 0) hx hb dX3_wet_1 (by decide) ?_
  refine lv_sipush (v := 503) hx hb dX3_wet_2 (by decide) ?_
  refine va_calli (va_runS (As := [.int p0, .int 0, .int 503]) (rest := []) ⟨hx, hb, hml, hown, hts⟩ (k_isWithin l p0 0 503 (0) (503) (by decide) (by decide)) (va_cwS 3 hts gX3_wet_X3_isWithin rfl rfl rfl (by decide +kernel) ⟨Nat.le_of_ble_eq_true rfl, Nat.le_of_ble_eq_true rfl⟩) ⟨fun a U g mk q => q, fun U hU hW => ⟨rfl, trivial⟩⟩ rfl rfl hl.1 rfl (lv_room (Nat.le_of_ble_eq_true rfl)) dX3_wet_5 ⟨(Nat.le_of_ble_eq_true rfl), (Nat.le_of_ble_eq_true rfl)⟩) hS (fun q _ h => h.elim) (fun q h => h.elim) (fun r1 u t H locs ht hvm hw2 hB hz1 hk1 hS => ?_)
  have hP := kp_P hP hk1
  have hP : va_P (dC, dI) vwCl (wX a cI cS f) H := hP
  have hD : va_D A (wX a cI cS f) := hD
  have hw2 : r1 = bI ((0 : Int) ≤ p0.toInt ∧ p0.toInt ≤ (503 : Int)) := hw2
  refine lv_if_ne (tgt := 21) hx hb dX3_wet_8 (by decide) (fun c3 => ?_) (fun c3 => ?_)
  · skip
    have g4 : (0 : Int) ≤ p0.toInt ∧ p0.toInt ≤ (503 : Int) := bI_t hw2 c3
    have zg4 : r1 = 1 := bI_t1 hw2 g4
    obtain ⟨n, hn, hnn⟩ := toN (p := p0) (k := 503) (‹_ ∧ _›).1 (‹_ ∧ _›).2 (by decide)
    subst hnn
    refine lv_aload_n hx hb dX3_wet_21 rfl (lv_at hl 0 rfl) ?_
    refine va_get (D := (dC, dI)) (ci := 7) (v := .ref (a 1)) (C := RX3) (T := TX3) (N := 10) hx hb hts (by decide +kernel) hown hK hP 0 rfl rfl 0 (by decide) (hts (.fieldLink RX3 10 "Snowpalace" "sky" "LSnowpalace$Sky;") (by decide +kernel)) (fun _ h9 => h9) rfl dX3_wet_22 ?_
    refine lv_iload_n hx hb dX3_wet_25 rfl (lv_at hl 1 rfl) ?_
    refine va_calli (va_runV (As := [.int (nI n)]) (rest := []) ⟨hx, hb, hml, hown, hts⟩ (k_wetOf l dC dI _ a cI f hF n (by omega)) (cwV 1 hts gX3_wet_X2_wetWarmthOf rfl rfl rfl (by decide +kernel) ⟨Nat.le_of_ble_eq_true rfl, Nat.le_of_ble_eq_true rfl⟩) ⟨fb_PN, va_recv hK hP (ci := 6) (q0 := 1) rfl rfl, fun U hU hW => ⟨rfl, PN.give hP hK hD hN [1, 4, 5, 7] [0] rfl rfl rfl rfl hU hW⟩⟩ rfl rfl hl.1 rfl (lv_room (Nat.le_of_ble_eq_true rfl)) dX3_wet_26 ⟨(Nat.le_of_ble_eq_true rfl), (Nat.le_of_ble_eq_true rfl)⟩) hS (fun q _ h => h.elim) (fun q h => h.elim) (fun r5 u t H locs ht hvm hw6 hB hz1 hk1 hS => ?_)
    have hP := kp_P hP hk1
    have hP : va_P (dC, dI) vwCl (wX a cI cS f) H := hP
    have hD : va_D A (wX a cI cS f) := hD
    refine vx_ret ?_
    refine W.widen (k := 1) (n := 6) (Nat.le_of_ble_eq_true rfl) (Nat.le_of_ble_eq_true rfl) ?_
    exact W.iret (v := r5) hx hb hr (fun t ht hW => ⟨⟨r5, (), rfl, ⟨by assumption, by rw [nI_clamp (by omega)]; exact hw6⟩, trivial⟩, hS.F ht⟩) hS.2.2 dX3_wet_29
  · skip
    have g7 : ¬ ((0 : Int) ≤ p0.toInt ∧ p0.toInt ≤ (503 : Int)) := bI_f hw2 c3
    have zg7 : r1 = 0 := bI_f0 hw2 g7
    obtain ⟨sa, hsa⟩ := hT.2.1 (81, "no such hour") (by decide +kernel)
    exact vx_throwS (A := A) (own := RX3) (cls := "java/lang/IllegalArgumentException") (text := "no such hour") (names := exN) hx hb hlt hown (by decide +kernel) (by decide +kernel) (hts (.classLink RX3 56 "java/lang/IllegalArgumentException") (by decide +kernel)) (hts (.initialized "java/lang/IllegalArgumentException") (by decide +kernel)) hsa (th_hat hT (fun w h => hts w (List.mem_cons_of_mem _ (List.mem_append_left _ (List.mem_append_right _ h)))) th_i1) (th_good th_i1) hT.2.2.2.1 hT.2.2.2.2 hS (hl.1.trans hml.symm) dX3_wet_11 dX3_wet_14 dX3_wet_15 dX3_wet_17 dX3_wet_20 (fun x h => (hnt x h).elim) (by decide) (Nat.le_of_ble_eq_true rfl) (Nat.le_of_ble_eq_true rfl) (Nat.le_of_ble_eq_true rfl) hlocks (fun t ha h1 h2 => ⟨_, ⟨rfl, (by omega)⟩, rfl, th_F hS h1 h2⟩) hS.2.2 (Nat.le_of_ble_eq_true rfl) (Nat.le_of_ble_eq_true rfl)

set_option maxHeartbeats 4000000 in
set_option maxRecDepth 100000 in
theorem k_ice (l : Launch) (hlt : l.stackTraces = false) (dC : Nat → ClassId) (dI : Nat → Nat → Nat) (sz : Nat) (a : Nat → Nat) (cI cS : ClassId) (f : Nat → Nat → Int32) (hF : FX f) (p0 : Int32)  : vx_Met l yX3_ice wsX3_ice ({ frames := 6, cells := 1, slots := 6, locals := 82 }) (va_Pc [.ref (a 0), .int p0] (PT dC dI (wX a cI cS f) [(cI, .int), (cS, .object "Snowpalace$Site")] sz)) (va_Qi (fun (r : Int32) (u : Unit) => (0 ≤ p0.toInt ∧ p0.toInt ≤ 3) ∧ r = 0) (fun (u : Unit) t => True) (va_A (wX a cI cS f) sz)) (vx_X (fun u : String => u = "java/lang/IllegalArgumentException" ∧ ¬ (0 ≤ p0.toInt ∧ p0.toInt ≤ 3)) (fun E (u : String) _ => E = u) (va_A (wX a cI cS f) sz)) 1 6 (va_A (wX a cI cS f) sz) := by
  refine vx_ofW (cc := cX3_ice) (maxL := 2) (ret := (some .int)) (by decide +kernel) rfl ?_
  intro p e s m args below meth c s₁ B hml hnt hv
  obtain ⟨rfl, ⟨hsz, hP, hK, hD0⟩, hT⟩ := hv
  have hx := B.exec
  have hb := B.bytes
  have hr := B.returns
  have hts := atoms_spec (ws := wsX3_ice) B.pre
  have hown : s.vm.findClass RX3 = some m.cls := findClass_of_methodNamed B.named
  have hlocks := B.notSynchronized
  subst hsz
  have hD := hD0.self (sz := s.heap.size)
  generalize hAe : va_A (wX a cI cS f) s.heap.size = A at hD hT ⊢
  have hA : ∀ q : Nat, s.heap.size ≤ q → A q := fun q h => by rw [← hAe]; exact Or.inr h
  have hS : va_S A s.heap s.heap [] := va_S.rf
  have hl := lv_entry ([.ref (a 0), .int p0]) (n := 2) (Nat.le_of_ble_eq_true rfl)
  rw [lg_entry_eq]
  generalize (lg_sl ([.ref (a 0), .int p0]) ++ List.replicate (2 - (lg_sl ([.ref (a 0), .int p0])).length) Slot.unset).toArray = ls at hl ⊢
  have hl : lv_has ls 2 [(0, .ref (a 0)), (1, .int p0)] := hl
  have hN : NS s := hT.ns
  refine lv_iload_n hx hb dX3_ice_0 rfl (lv_at hl 1 rfl) ?_
  refine lv_iconst (v := 0) hx hb dX3_ice_1 (by decide) ?_
  refine lv_iconst (v := 3) hx hb dX3_ice_2 (by decide) ?_
  refine va_calli (va_runS (As := [.int p0, .int 0, .int 3]) (rest := []) ⟨hx, hb, hml, hown, hts⟩ (k_isWithin l p0 0 3 (0) (3) (by decide) (by decide)) (va_cwS 3 hts gX3_ice_X3_isWithin rfl rfl rfl (by decide +kernel) ⟨Nat.le_of_ble_eq_true rfl, Nat.le_of_ble_eq_true rfl⟩) ⟨fun a U g mk q => q, fun U hU hW => ⟨rfl, trivial⟩⟩ rfl rfl hl.1 rfl (lv_room (Nat.le_of_ble_eq_true rfl)) dX3_ice_3 ⟨(Nat.le_of_ble_eq_true rfl), (Nat.le_of_ble_eq_true rfl)⟩) hS (fun q _ h => h.elim) (fun q h => h.elim) (fun r1 u t H locs ht hvm hw2 hB hz1 hk1 hS => ?_)
  have hP := kp_P hP hk1
  have hP : va_P (dC, dI) vwCl (wX a cI cS f) H := hP
  have hD : va_D A (wX a cI cS f) := hD
  have hw2 : r1 = bI ((0 : Int) ≤ p0.toInt ∧ p0.toInt ≤ (3 : Int)) := hw2
  refine lv_if_ne (tgt := 19) hx hb dX3_ice_6 (by decide) (fun c3 => ?_) (fun c3 => ?_)
  · skip
    have g4 : (0 : Int) ≤ p0.toInt ∧ p0.toInt ≤ (3 : Int) := bI_t hw2 c3
    have zg4 : r1 = 1 := bI_t1 hw2 g4
    refine lv_aload_n hx hb dX3_ice_19 rfl (lv_at hl 0 rfl) ?_
    refine va_get (D := (dC, dI)) (ci := 7) (v := .ref (a 2)) (C := RX3) (T := TX3) (N := 10) hx hb hts (by decide +kernel) hown hK hP 0 rfl rfl 1 (by decide) (hts (.fieldLink RX3 19 "Snowpalace" "river" "LSnowpalace$River;") (by decide +kernel)) (fun _ h9 => h9) rfl dX3_ice_20 ?_
    refine va_get (D := (dC, dI)) (ci := 4) (v := .ref (a 8)) (C := RX0) (T := TX0) (N := 3) hx hb hts (by decide +kernel) hown hK hP 2 rfl rfl 0 (by decide) (hts (.fieldLink RX3 102 "Snowpalace$River" "thickness" "[I") (by decide +kernel)) (fun _ h9 => h9) rfl dX3_ice_23 ?_
    refine lv_iload_n hx hb dX3_ice_26 rfl (lv_at hl 1 rfl) ?_
    refine va_iald (D := (dC, dI)) hx hb hK hP 8 0 rfl rfl (inI (‹_ ∧ _›).1 (by have := (‹_ ∧ _›).2; omega)) dX3_ice_27 ?_
    refine lv_topi (fun v5 e6 => ?_)
    obtain rfl : v5 = (0 : Int32) := e6.trans rfl
    refine vx_ret ?_
    refine W.widen (k := 1) (n := 6) (Nat.le_of_ble_eq_true rfl) (Nat.le_of_ble_eq_true rfl) ?_
    exact W.iret (v := 0) hx hb hr (fun t ht hW => ⟨⟨0, (), rfl, ⟨by assumption, rfl⟩, trivial⟩, hS.F ht⟩) hS.2.2 dX3_ice_28
  · skip
    have g7 : ¬ ((0 : Int) ≤ p0.toInt ∧ p0.toInt ≤ (3 : Int)) := bI_f hw2 c3
    have zg7 : r1 = 0 := bI_f0 hw2 g7
    obtain ⟨sa, hsa⟩ := hT.2.1 (100, "no such field") (by decide +kernel)
    exact vx_throwS (A := A) (own := RX3) (cls := "java/lang/IllegalArgumentException") (text := "no such field") (names := exN) hx hb hlt hown (by decide +kernel) (by decide +kernel) (hts (.classLink RX3 56 "java/lang/IllegalArgumentException") (by decide +kernel)) (hts (.initialized "java/lang/IllegalArgumentException") (by decide +kernel)) hsa (th_hat hT (fun w h => hts w (List.mem_cons_of_mem _ (List.mem_append_left _ (List.mem_append_right _ h)))) th_i1) (th_good th_i1) hT.2.2.2.1 hT.2.2.2.2 hS (hl.1.trans hml.symm) dX3_ice_9 dX3_ice_12 dX3_ice_13 dX3_ice_15 dX3_ice_18 (fun x h => (hnt x h).elim) (by decide) (Nat.le_of_ble_eq_true rfl) (Nat.le_of_ble_eq_true rfl) (Nat.le_of_ble_eq_true rfl) hlocks (fun t ha h1 h2 => ⟨_, ⟨rfl, (by omega)⟩, rfl, th_F hS h1 h2⟩) hS.2.2 (Nat.le_of_ble_eq_true rfl) (Nat.le_of_ble_eq_true rfl)

set_option maxHeartbeats 4000000 in
set_option maxRecDepth 100000 in
theorem k_clear (l : Launch) (hlt : l.stackTraces = false) (dC : Nat → ClassId) (dI : Nat → Nat → Nat) (sz : Nat) (a : Nat → Nat) (cI cS : ClassId) (f : Nat → Nat → Int32) (hF : FX f) (p0 : Int32)  : vx_Met l yX3_clear wsX3_clear ({ frames := 6, cells := 1, slots := 6, locals := 82 }) (va_Pc [.ref (a 0), .int p0] (PT dC dI (wX a cI cS f) [(cI, .int), (cS, .object "Snowpalace$Site")] sz)) (va_Qi (fun (r : Int32) (u : Unit) => (0 ≤ p0.toInt ∧ p0.toInt ≤ 3) ∧ r = 0) (fun (u : Unit) t => True) (va_A (wX a cI cS f) sz)) (vx_X (fun u : String => u = "java/lang/IllegalArgumentException" ∧ ¬ (0 ≤ p0.toInt ∧ p0.toInt ≤ 3)) (fun E (u : String) _ => E = u) (va_A (wX a cI cS f) sz)) 1 6 (va_A (wX a cI cS f) sz) := by
  refine vx_ofW (cc := cX3_clear) (maxL := 2) (ret := (some .int)) (by decide +kernel) rfl ?_
  intro p e s m args below meth c s₁ B hml hnt hv
  obtain ⟨rfl, ⟨hsz, hP, hK, hD0⟩, hT⟩ := hv
  have hx := B.exec
  have hb := B.bytes
  have hr := B.returns
  have hts := atoms_spec (ws := wsX3_clear) B.pre
  have hown : s.vm.findClass RX3 = some m.cls := findClass_of_methodNamed B.named
  have hlocks := B.notSynchronized
  subst hsz
  have hD := hD0.self (sz := s.heap.size)
  generalize hAe : va_A (wX a cI cS f) s.heap.size = A at hD hT ⊢
  have hA : ∀ q : Nat, s.heap.size ≤ q → A q := fun q h => by rw [← hAe]; exact Or.inr h
  have hS : va_S A s.heap s.heap [] := va_S.rf
  have hl := lv_entry ([.ref (a 0), .int p0]) (n := 2) (Nat.le_of_ble_eq_true rfl)
  rw [lg_entry_eq]
  generalize (lg_sl ([.ref (a 0), .int p0]) ++ List.replicate (2 - (lg_sl ([.ref (a 0), .int p0])).length) Slot.unset).toArray = ls at hl ⊢
  have hl : lv_has ls 2 [(0, .ref (a 0)), (1, .int p0)] := hl
  have hN : NS s := hT.ns
  refine lv_iload_n hx hb dX3_clear_0 rfl (lv_at hl 1 rfl) ?_
  refine lv_iconst (v := 0) hx hb dX3_clear_1 (by decide) ?_
  refine lv_iconst (v := 3) hx hb dX3_clear_2 (by decide) ?_
  refine va_calli (va_runS (As := [.int p0, .int 0, .int 3]) (rest := []) ⟨hx, hb, hml, hown, hts⟩ (k_isWithin l p0 0 3 (0) (3) (by decide) (by decide)) (va_cwS 3 hts gX3_clear_X3_isWithin rfl rfl rfl (by decide +kernel) ⟨Nat.le_of_ble_eq_true rfl, Nat.le_of_ble_eq_true rfl⟩) ⟨fun a U g mk q => q, fun U hU hW => ⟨rfl, trivial⟩⟩ rfl rfl hl.1 rfl (lv_room (Nat.le_of_ble_eq_true rfl)) dX3_clear_3 ⟨(Nat.le_of_ble_eq_true rfl), (Nat.le_of_ble_eq_true rfl)⟩) hS (fun q _ h => h.elim) (fun q h => h.elim) (fun r1 u t H locs ht hvm hw2 hB hz1 hk1 hS => ?_)
  have hP := kp_P hP hk1
  have hP : va_P (dC, dI) vwCl (wX a cI cS f) H := hP
  have hD : va_D A (wX a cI cS f) := hD
  have hw2 : r1 = bI ((0 : Int) ≤ p0.toInt ∧ p0.toInt ≤ (3 : Int)) := hw2
  refine lv_if_ne (tgt := 19) hx hb dX3_clear_6 (by decide) (fun c3 => ?_) (fun c3 => ?_)
  · skip
    have g4 : (0 : Int) ≤ p0.toInt ∧ p0.toInt ≤ (3 : Int) := bI_t hw2 c3
    have zg4 : r1 = 1 := bI_t1 hw2 g4
    refine lv_aload_n hx hb dX3_clear_19 rfl (lv_at hl 0 rfl) ?_
    refine va_get (D := (dC, dI)) (ci := 7) (v := .ref (a 2)) (C := RX3) (T := TX3) (N := 10) hx hb hts (by decide +kernel) hown hK hP 0 rfl rfl 1 (by decide) (hts (.fieldLink RX3 19 "Snowpalace" "river" "LSnowpalace$River;") (by decide +kernel)) (fun _ h9 => h9) rfl dX3_clear_20 ?_
    refine va_get (D := (dC, dI)) (ci := 4) (v := .ref (a 9)) (C := RX0) (T := TX0) (N := 3) hx hb hts (by decide +kernel) hown hK hP 2 rfl rfl 1 (by decide) (hts (.fieldLink RX3 105 "Snowpalace$River" "clearPart" "[I") (by decide +kernel)) (fun _ h9 => h9) rfl dX3_clear_23 ?_
    refine lv_iload_n hx hb dX3_clear_26 rfl (lv_at hl 1 rfl) ?_
    refine va_iald (D := (dC, dI)) hx hb hK hP 9 0 rfl rfl (inI (‹_ ∧ _›).1 (by have := (‹_ ∧ _›).2; omega)) dX3_clear_27 ?_
    refine lv_topi (fun v5 e6 => ?_)
    obtain rfl : v5 = (0 : Int32) := e6.trans rfl
    refine vx_ret ?_
    refine W.widen (k := 1) (n := 6) (Nat.le_of_ble_eq_true rfl) (Nat.le_of_ble_eq_true rfl) ?_
    exact W.iret (v := 0) hx hb hr (fun t ht hW => ⟨⟨0, (), rfl, ⟨by assumption, rfl⟩, trivial⟩, hS.F ht⟩) hS.2.2 dX3_clear_28
  · skip
    have g7 : ¬ ((0 : Int) ≤ p0.toInt ∧ p0.toInt ≤ (3 : Int)) := bI_f hw2 c3
    have zg7 : r1 = 0 := bI_f0 hw2 g7
    obtain ⟨sa, hsa⟩ := hT.2.1 (100, "no such field") (by decide +kernel)
    exact vx_throwS (A := A) (own := RX3) (cls := "java/lang/IllegalArgumentException") (text := "no such field") (names := exN) hx hb hlt hown (by decide +kernel) (by decide +kernel) (hts (.classLink RX3 56 "java/lang/IllegalArgumentException") (by decide +kernel)) (hts (.initialized "java/lang/IllegalArgumentException") (by decide +kernel)) hsa (th_hat hT (fun w h => hts w (List.mem_cons_of_mem _ (List.mem_append_left _ (List.mem_append_right _ h)))) th_i1) (th_good th_i1) hT.2.2.2.1 hT.2.2.2.2 hS (hl.1.trans hml.symm) dX3_clear_9 dX3_clear_12 dX3_clear_13 dX3_clear_15 dX3_clear_18 (fun x h => (hnt x h).elim) (by decide) (Nat.le_of_ble_eq_true rfl) (Nat.le_of_ble_eq_true rfl) (Nat.le_of_ble_eq_true rfl) hlocks (fun t ha h1 h2 => ⟨_, ⟨rfl, (by omega)⟩, rfl, th_F hS h1 h2⟩) hS.2.2 (Nat.le_of_ble_eq_true rfl) (Nat.le_of_ble_eq_true rfl)

set_option maxHeartbeats 4000000 in
set_option maxRecDepth 100000 in
theorem k_bearsL (l : Launch) (dC : Nat → ClassId) (dI : Nat → Nat → Nat) (sz : Nat) (a : Nat → Nat) (cI : ClassId) (f : Nat → Nat → Int32) (field : Int32)  : Met l yX0_bearsLorries wsX0_bearsLorries ({ frames := 1, cells := 0, slots := 0, locals := 22 }) (va_Pc [.ref (a 2), .int field] (PN dC dI ([((a 2), .inr (4, [.ref (a 8), .ref (a 9), .ref (a 10)])), ((a 8), .inl (cI, 4, .inl (fun _ => 0))), ((a 10), .inl (cI, 4, .inl (f 4)))]) [(cI, .int)] sz)) (va_Qi (fun (r : Int32) (u : Unit) => r = 0) (fun (u : Unit) t => True) (fun _ => False)) 0 0 (fun _ => False) := by
  refine Met.ofW (cc := cX0_bearsLorries) (maxL := 2) (ret := (some .boolean)) (by decide +kernel) rfl ?_
  intro p e s m args below meth c s₁ B hml hv
  obtain ⟨rfl, ⟨hsz, hP, hK, hD0⟩, hN⟩ := hv
  have hx := B.exec
  have hb := B.bytes
  have hr := B.returns
  have hts := atoms_spec (ws := wsX0_bearsLorries) B.pre
  have hown : s.vm.findClass RX0 = some m.cls := findClass_of_methodNamed B.named
  have hlocks := B.notSynchronized
  subst hsz
  have hD := hD0
  have hS : va_S (fun _ => False) s.heap s.heap [] := va_S.rf
  have hl := lv_entry ([.ref (a 2), .int field]) (n := 2) (Nat.le_of_ble_eq_true rfl)
  rw [lg_entry_eq]
  generalize (lg_sl ([.ref (a 2), .int field]) ++ List.replicate (2 - (lg_sl ([.ref (a 2), .int field])).length) Slot.unset).toArray = ls at hl ⊢
  have hl : lv_has ls 2 [(0, .ref (a 2)), (1, .int field)] := hl
  refine lv_iload_n hx hb dX0_bearsLorries_0 rfl (lv_at hl 1 rfl) ?_
  refine lv_iconst (v := 0) hx hb dX0_bearsLorries_1 (by decide) ?_
  refine lv_iconst (v := 3) hx hb dX0_bearsLorries_2 (by decide) ?_
  refine va_calli (va_runSN (As := [.int field, .int 0, .int 3]) (rest := []) ⟨hx, hb, hml, hown, hts⟩ (k_isWithin l field 0 3 (0) (3) (by decide) (by decide)) (⟨va_cnB 3 hts gX0_bearsLorries_X3_isWithin_n21 rfl rfl rfl (hN (.methodLinkNest RX0 21 yX3_isWithin RX3) (by decide +kernel)) (hts (.initialized RX3) (by decide +kernel)) (by decide +kernel) ⟨Nat.le_of_ble_eq_true rfl, Nat.le_of_ble_eq_true rfl⟩, hts (.static yX3_isWithin) (by decide +kernel), trivial⟩) ⟨fun a U g mk q => q, fun U hU hW => ⟨rfl, trivial⟩⟩ rfl rfl hl.1 rfl (lv_room (Nat.le_of_ble_eq_true rfl)) dX0_bearsLorries_3 ⟨(Nat.le_of_ble_eq_true rfl), (Nat.le_of_ble_eq_true rfl)⟩) hS (fun q _ h => h.elim) (fun q h => h.elim) (fun r1 u t H locs ht hvm hw2 hB hz1 hk1 hS => ?_)
  have hP := kp_P hP hk1
  have hP : va_P (dC, dI) vwCl ([((a 2), .inr (4, [.ref (a 8), .ref (a 9), .ref (a 10)])), ((a 8), .inl (cI, 4, .inl (fun _ => 0))), ((a 10), .inl (cI, 4, .inl (f 4)))]) H := hP
  have hD : va_D (fun _ => True) ([((a 2), .inr (4, [.ref (a 8), .ref (a 9), .ref (a 10)])), ((a 8), .inl (cI, 4, .inl (fun _ => 0))), ((a 10), .inl (cI, 4, .inl (f 4)))]) := hD
  have hw2 : r1 = bI ((0 : Int) ≤ field.toInt ∧ field.toInt ≤ (3 : Int)) := hw2
  refine lv_if_eq (tgt := 36) hx hb dX0_bearsLorries_6 (by decide) (fun c3 => ?_) (fun c3 => ?_)
  · skip
    have g4 : ¬ ((0 : Int) ≤ field.toInt ∧ field.toInt ≤ (3 : Int)) := bI_f hw2 c3
    have zg4 : r1 = 0 := bI_f0 hw2 g4
    refine lv_iconst (v := 0) hx hb dX0_bearsLorries_36 (by decide) ?_
    refine W.widen (k := 0) (n := 0) (Nat.le_of_ble_eq_true rfl) (Nat.le_of_ble_eq_true rfl) ?_
    exact W.zret (v := 0) (ty := .boolean) hx hb hr rfl (fun t ht hW => ⟨⟨0, (), rfl, rfl, trivial⟩, hS.F ht⟩) hS.2.2 dX0_bearsLorries_37
  · skip
    have g5 : (0 : Int) ≤ field.toInt ∧ field.toInt ≤ (3 : Int) := bI_t hw2 c3
    have zg5 : r1 = 1 := bI_t1 hw2 g5
    refine lv_aload_n hx hb dX0_bearsLorries_9 rfl (lv_at hl 0 rfl) ?_
    refine va_get (D := (dC, dI)) (ci := 4) (v := .ref (a 8)) (C := RX0) (T := TX0) (N := 3) hx hb hts (by decide +kernel) hown hK hP 0 rfl rfl 0 (by decide) (hts (.fieldLink RX0 9 "Snowpalace$River" "thickness" "[I") (by decide +kernel)) (fun _ h9 => h9) rfl dX0_bearsLorries_10 ?_
    refine lv_iload_n hx hb dX0_bearsLorries_13 rfl (lv_at hl 1 rfl) ?_
    refine va_iald (D := (dC, dI)) hx hb hK hP 1 0 rfl rfl (inI (‹_ ∧ _›).1 (by have := (‹_ ∧ _›).2; omega)) dX0_bearsLorries_14 ?_
    refine lv_topi (fun v6 e7 => ?_)
    obtain rfl : v6 = (0 : Int32) := e7.trans rfl
    refine lv_sipush (v := 250) hx hb dX0_bearsLorries_15 (by decide) ?_
    refine lv_icmp_lt (tgt := 36) hx hb dX0_bearsLorries_18 (by decide) (fun _ => ?_) (fun cx => by first | exact absurd (by decide) cx | exact absurd cx (by decide))
    refine lv_iconst (v := 0) hx hb dX0_bearsLorries_36 (by decide) ?_
    refine W.widen (k := 0) (n := 0) (Nat.le_of_ble_eq_true rfl) (Nat.le_of_ble_eq_true rfl) ?_
    exact W.zret (v := 0) (ty := .boolean) hx hb hr rfl (fun t ht hW => ⟨⟨0, (), rfl, rfl, trivial⟩, hS.F ht⟩) hS.2.2 dX0_bearsLorries_37

set_option maxHeartbeats 4000000 in
set_option maxRecDepth 100000 in
theorem k_bears (l : Launch) (hlt : l.stackTraces = false) (dC : Nat → ClassId) (dI : Nat → Nat → Nat) (sz : Nat) (a : Nat → Nat) (cI cS : ClassId) (f : Nat → Nat → Int32) (hF : FX f) (p0 : Int32)  : vx_Met l yX3_bears wsX3_bears ({ frames := 6, cells := 1, slots := 6, locals := 82 }) (va_Pc [.ref (a 0), .int p0] (PT dC dI (wX a cI cS f) [(cI, .int), (cS, .object "Snowpalace$Site")] sz)) (va_Qi (fun (r : Int32) (u : Unit) => (0 ≤ p0.toInt ∧ p0.toInt ≤ 3) ∧ r = 0) (fun (u : Unit) t => True) (va_A (wX a cI cS f) sz)) (vx_X (fun u : String => u = "java/lang/IllegalArgumentException" ∧ ¬ (0 ≤ p0.toInt ∧ p0.toInt ≤ 3)) (fun E (u : String) _ => E = u) (va_A (wX a cI cS f) sz)) 1 6 (va_A (wX a cI cS f) sz) := by
  refine vx_ofW (cc := cX3_bears) (maxL := 2) (ret := (some .boolean)) (by decide +kernel) rfl ?_
  intro p e s m args below meth c s₁ B hml hnt hv
  obtain ⟨rfl, ⟨hsz, hP, hK, hD0⟩, hT⟩ := hv
  have hx := B.exec
  have hb := B.bytes
  have hr := B.returns
  have hts := atoms_spec (ws := wsX3_bears) B.pre
  have hown : s.vm.findClass RX3 = some m.cls := findClass_of_methodNamed B.named
  have hlocks := B.notSynchronized
  subst hsz
  have hD := hD0.self (sz := s.heap.size)
  generalize hAe : va_A (wX a cI cS f) s.heap.size = A at hD hT ⊢
  have hA : ∀ q : Nat, s.heap.size ≤ q → A q := fun q h => by rw [← hAe]; exact Or.inr h
  have hS : va_S A s.heap s.heap [] := va_S.rf
  have hl := lv_entry ([.ref (a 0), .int p0]) (n := 2) (Nat.le_of_ble_eq_true rfl)
  rw [lg_entry_eq]
  generalize (lg_sl ([.ref (a 0), .int p0]) ++ List.replicate (2 - (lg_sl ([.ref (a 0), .int p0])).length) Slot.unset).toArray = ls at hl ⊢
  have hl : lv_has ls 2 [(0, .ref (a 0)), (1, .int p0)] := hl
  have hN : NS s := hT.ns
  refine lv_iload_n hx hb dX3_bears_0 rfl (lv_at hl 1 rfl) ?_
  refine lv_iconst (v := 0) hx hb dX3_bears_1 (by decide) ?_
  refine lv_iconst (v := 3) hx hb dX3_bears_2 (by decide) ?_
  refine va_calli (va_runS (As := [.int p0, .int 0, .int 3]) (rest := []) ⟨hx, hb, hml, hown, hts⟩ (k_isWithin l p0 0 3 (0) (3) (by decide) (by decide)) (va_cwS 3 hts gX3_bears_X3_isWithin rfl rfl rfl (by decide +kernel) ⟨Nat.le_of_ble_eq_true rfl, Nat.le_of_ble_eq_true rfl⟩) ⟨fun a U g mk q => q, fun U hU hW => ⟨rfl, trivial⟩⟩ rfl rfl hl.1 rfl (lv_room (Nat.le_of_ble_eq_true rfl)) dX3_bears_3 ⟨(Nat.le_of_ble_eq_true rfl), (Nat.le_of_ble_eq_true rfl)⟩) hS (fun q _ h => h.elim) (fun q h => h.elim) (fun r1 u t H locs ht hvm hw2 hB hz1 hk1 hS => ?_)
  have hP := kp_P hP hk1
  have hP : va_P (dC, dI) vwCl (wX a cI cS f) H := hP
  have hD : va_D A (wX a cI cS f) := hD
  have hw2 : r1 = bI ((0 : Int) ≤ p0.toInt ∧ p0.toInt ≤ (3 : Int)) := hw2
  refine lv_if_ne (tgt := 19) hx hb dX3_bears_6 (by decide) (fun c3 => ?_) (fun c3 => ?_)
  · skip
    have g4 : (0 : Int) ≤ p0.toInt ∧ p0.toInt ≤ (3 : Int) := bI_t hw2 c3
    have zg4 : r1 = 1 := bI_t1 hw2 g4
    refine lv_aload_n hx hb dX3_bears_19 rfl (lv_at hl 0 rfl) ?_
    refine va_get (D := (dC, dI)) (ci := 7) (v := .ref (a 2)) (C := RX3) (T := TX3) (N := 10) hx hb hts (by decide +kernel) hown hK hP 0 rfl rfl 1 (by decide) (hts (.fieldLink RX3 19 "Snowpalace" "river" "LSnowpalace$River;") (by decide +kernel)) (fun _ h9 => h9) rfl dX3_bears_20 ?_
    refine lv_iload_n hx hb dX3_bears_23 rfl (lv_at hl 1 rfl) ?_
    refine va_calli (va_runV (As := [.int p0]) (rest := []) ⟨hx, hb, hml, hown, hts⟩ (k_bearsL l dC dI _ a cI f p0) (cwV 1 hts gX3_bears_X0_bearsLorries rfl rfl rfl (by decide +kernel) ⟨Nat.le_of_ble_eq_true rfl, Nat.le_of_ble_eq_true rfl⟩) ⟨fb_PN, va_recv hK hP (ci := 4) (q0 := 2) rfl rfl, fun U hU hW => ⟨rfl, PN.give hP hK hD hN [2, 8, 10] [0] rfl rfl rfl rfl hU hW⟩⟩ rfl rfl hl.1 rfl (lv_room (Nat.le_of_ble_eq_true rfl)) dX3_bears_24 ⟨(Nat.le_of_ble_eq_true rfl), (Nat.le_of_ble_eq_true rfl)⟩) hS (fun q _ h => h.elim) (fun q h => h.elim) (fun r5 u t H locs ht hvm hw6 hB hz1 hk1 hS => ?_)
    have hP := kp_P hP hk1
    have hP : va_P (dC, dI) vwCl (wX a cI cS f) H := hP
    have hD : va_D A (wX a cI cS f) := hD
    obtain rfl : r5 = 0 := hw6
    refine vx_ret ?_
    refine W.widen (k := 1) (n := 6) (Nat.le_of_ble_eq_true rfl) (Nat.le_of_ble_eq_true rfl) ?_
    exact W.zret (v := 0) (ty := .boolean) hx hb hr rfl (fun t ht hW => ⟨⟨0, (), rfl, ⟨by assumption, rfl⟩, trivial⟩, hS.F ht⟩) hS.2.2 dX3_bears_27
  · skip
    have g7 : ¬ ((0 : Int) ≤ p0.toInt ∧ p0.toInt ≤ (3 : Int)) := bI_f hw2 c3
    have zg7 : r1 = 0 := bI_f0 hw2 g7
    obtain ⟨sa, hsa⟩ := hT.2.1 (100, "no such field") (by decide +kernel)
    exact vx_throwS (A := A) (own := RX3) (cls := "java/lang/IllegalArgumentException") (text := "no such field") (names := exN) hx hb hlt hown (by decide +kernel) (by decide +kernel) (hts (.classLink RX3 56 "java/lang/IllegalArgumentException") (by decide +kernel)) (hts (.initialized "java/lang/IllegalArgumentException") (by decide +kernel)) hsa (th_hat hT (fun w h => hts w (List.mem_cons_of_mem _ (List.mem_append_left _ (List.mem_append_right _ h)))) th_i1) (th_good th_i1) hT.2.2.2.1 hT.2.2.2.2 hS (hl.1.trans hml.symm) dX3_bears_9 dX3_bears_12 dX3_bears_13 dX3_bears_15 dX3_bears_18 (fun x h => (hnt x h).elim) (by decide) (Nat.le_of_ble_eq_true rfl) (Nat.le_of_ble_eq_true rfl) (Nat.le_of_ble_eq_true rfl) hlocks (fun t ha h1 h2 => ⟨_, ⟨rfl, (by omega)⟩, rfl, th_F hS h1 h2⟩) hS.2.2 (Nat.le_of_ble_eq_true rfl) (Nat.le_of_ble_eq_true rfl)

