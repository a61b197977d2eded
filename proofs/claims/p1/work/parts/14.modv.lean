set_option maxHeartbeats 4000000 in
set_option maxRecDepth 100000 in
theorem m_isNoField (l : Launch) (dC : Nat → ClassId) (dI : Nat → Nat → Nat) (sz : Nat) (b : Nat → Nat) (fs : List Value) (field : Int32)  : Met l yX6_isNoField wsX6_isNoField ({ frames := 1, cells := 0, slots := 0, locals := 25 }) (va_Pc [.ref (b 0), .int field] (PW dC dI ([((b 0), .inr (10, .int 0 :: fs))]) [] sz)) (va_Qi (fun (r : Int32) (u : Int32 × List Value) => u.2 = fs ∧ (((0 ≤ field.toInt ∧ field.toInt ≤ 3) ∧ r = 0 ∧ u.1 = 0) ∨ (¬ (0 ≤ field.toInt ∧ field.toInt ≤ 3) ∧ r = 1 ∧ u.1 = 1))) (fun (u : Int32 × List Value) t => BW dC dI (va_A ([((b 0), .inr (10, .int 0 :: fs))]) sz) [((b 0), .inr (10, .int u.1 :: u.2))] [] t) (va_A ([((b 0), .inr (10, .int 0 :: fs))]) sz)) 0 0 (va_A ([((b 0), .inr (10, .int 0 :: fs))]) sz) := by
  refine Met.ofW (cc := cX6_isNoField) (maxL := 2) (ret := (some .boolean)) (by decide +kernel) rfl ?_
  intro p e s m args below meth c s₁ B hml hv
  obtain ⟨rfl, hsz, hP, hK, hD0⟩ := hv
  have hx := B.exec
  have hb := B.bytes
  have hr := B.returns
  have hts := atoms_spec (ws := wsX6_isNoField) B.pre
  have hown : s.vm.findClass RX6 = some m.cls := findClass_of_methodNamed B.named
  have hlocks := B.notSynchronized
  subst hsz
  have hD := hD0.self (sz := s.heap.size)
  generalize hAe : va_A ([((b 0), .inr (10, .int 0 :: fs))]) s.heap.size = A at hD ⊢
  have hA : ∀ q : Nat, s.heap.size ≤ q → A q := fun q h => by rw [← hAe]; exact Or.inr h
  have hS : va_S A s.heap s.heap [] := va_S.rf
  have hl := lv_entry ([.ref (b 0), .int field]) (n := 2) (Nat.le_of_ble_eq_true rfl)
  rw [lg_entry_eq]
  generalize (lg_sl ([.ref (b 0), .int field]) ++ List.replicate (2 - (lg_sl ([.ref (b 0), .int field])).length) Slot.unset).toArray = ls at hl ⊢
  have hl : lv_has ls 2 [(0, .ref (b 0)), (1, .int field)] := hl
  refine lv_aload_n hx hb dX6_isNoField_0 rfl (lv_at hl 0 rfl) ?_
  refine lv_iload_n hx hb dX6_isNoField_1 rfl (lv_at hl 1 rfl) ?_
  refine lv_i2l hx hb dX6_isNoField_2 rfl ?_
  refine lv_lconst (v := 0) hx hb dX6_isNoField_3 (by decide) ?_
  refine lv_ldc2 hx hb hown (hts (.constantLong RX6 92 3) (by decide +kernel)) dX6_isNoField_4 ?_
  refine va_calli (va_runS (As := [.long field.toInt64, .long 0, .long 3]) (rest := [.ref (b 0)]) ⟨hx, hb, hml, hown, hts⟩ (m_isBetween l field.toInt64 0 3 (field.toInt) (0) (3) (Int32.toInt_toInt64 _) (by decide) (by decide)) (va_cwS 3 hts gX6_isNoField_X6_isBetween rfl rfl rfl (by decide +kernel) ⟨Nat.le_of_ble_eq_true rfl, Nat.le_of_ble_eq_true rfl⟩) ⟨fun a U g mk q => q, fun U hU hW => ⟨rfl, trivial⟩⟩ rfl rfl hl.1 rfl (lv_room (Nat.le_of_ble_eq_true rfl)) dX6_isNoField_7 ⟨(Nat.le_of_ble_eq_true rfl), (Nat.le_of_ble_eq_true rfl)⟩) hS (fun q _ h => h.elim) (fun q h => h.elim) (fun r1 u t H locs ht hvm hw2 hB hz1 hk1 hS => ?_)
  have hP := kp_P hP hk1
  have hP : va_P (dC, dI) vwCl ([((b 0), .inr (10, .int 0 :: fs))]) H := hP
  have hD : va_D A ([((b 0), .inr (10, .int 0 :: fs))]) := hD
  have hw2 : r1 = bI ((0 : Int) ≤ field.toInt ∧ field.toInt ≤ (3 : Int)) := hw2
  refine lv_if_eq (tgt := 17) hx hb dX6_isNoField_10 (by decide) (fun c3 => ?_) (fun c3 => ?_)
  · skip
    have g4 : ¬ ((0 : Int) ≤ field.toInt ∧ field.toInt ≤ (3 : Int)) := bI_f hw2 c3
    have zg4 : r1 = 0 := bI_f0 hw2 g4
    refine lv_iconst (v := 1) hx hb dX6_isNoField_17 (by decide) ?_
    have hFc := va_free (wc := [((b 0), .inr (10, .int 0 :: fs))]) hD hS hA [0] rfl
    refine va_calli (va_runV (As := [.int 1]) (rest := []) ⟨hx, hb, hml, hown, hts⟩ (m_isWrong l dC dI H.size (b 0) 0 fs 1) (cwV 1 hts gX6_isNoField_X6_isWrong rfl rfl rfl (by decide +kernel) ⟨Nat.le_of_ble_eq_true rfl, Nat.le_of_ble_eq_true rfl⟩) ⟨fb_PW, va_recv hK hP (ci := 10) (q0 := 0) rfl rfl, fun U hU hW => ⟨rfl, PW.give hP hK hD [0] [] rfl rfl rfl rfl hU hW⟩⟩ rfl rfl hl.1 rfl (lv_room (Nat.le_of_ble_eq_true rfl)) dX6_isNoField_18 ⟨Nat.le_of_ble_eq_true rfl, Nat.le_of_ble_eq_true rfl⟩) hS (fun q _ h => hFc q h) hFc (fun r u t H locs ht hvm hw hB hz1 hk1 hS => ?_)
    obtain ⟨hP, hD, hK⟩ := aft [0] [] hP hK hD rfl (wr := []) rfl rfl (by decide) hFc hB ht hvm hk1
    have hP : va_P (dC, dI) vwCl ([((b 0), .inr (10, .int 1 :: fs))]) H := hP
    have hD : va_D A ([((b 0), .inr (10, .int 1 :: fs))]) := hD
    have hK : va_K (dC, dI) vwCl [] s := hK
    obtain rfl : r = 1 := hw.trans (by decide)
    refine W.widen (k := 0) (n := 0) (Nat.le_of_ble_eq_true rfl) (Nat.le_of_ble_eq_true rfl) ?_
    exact W.zret (v := 1) (ty := .boolean) hx hb hr rfl (fun t ht hW => ⟨⟨1, (1, fs), rfl, ⟨rfl, Or.inr ⟨by omega, rfl, rfl⟩⟩, BW.end hP hK hD [0] [] rfl rfl rfl rfl ht hW⟩, hS.F ht⟩) hS.2.2 dX6_isNoField_21
  · skip
    have g5 : (0 : Int) ≤ field.toInt ∧ field.toInt ≤ (3 : Int) := bI_t hw2 c3
    have zg5 : r1 = 1 := bI_t1 hw2 g5
    refine lv_iconst (v := 0) hx hb dX6_isNoField_13 (by decide) ?_
    refine lv_goto (tgt := 18) hx hb dX6_isNoField_14 (by decide) ?_
    have hFc := va_free (wc := [((b 0), .inr (10, .int 0 :: fs))]) hD hS hA [0] rfl
    refine va_calli (va_runV (As := [.int 0]) (rest := []) ⟨hx, hb, hml, hown, hts⟩ (m_isWrong l dC dI H.size (b 0) 0 fs 0) (cwV 1 hts gX6_isNoField_X6_isWrong rfl rfl rfl (by decide +kernel) ⟨Nat.le_of_ble_eq_true rfl, Nat.le_of_ble_eq_true rfl⟩) ⟨fb_PW, va_recv hK hP (ci := 10) (q0 := 0) rfl rfl, fun U hU hW => ⟨rfl, PW.give hP hK hD [0] [] rfl rfl rfl rfl hU hW⟩⟩ rfl rfl hl.1 rfl (lv_room (Nat.le_of_ble_eq_true rfl)) dX6_isNoField_18 ⟨Nat.le_of_ble_eq_true rfl, Nat.le_of_ble_eq_true rfl⟩) hS (fun q _ h => hFc q h) hFc (fun r u t H locs ht hvm hw hB hz1 hk1 hS => ?_)
    obtain ⟨hP, hD, hK⟩ := aft [0] [] hP hK hD rfl (wr := []) rfl rfl (by decide) hFc hB ht hvm hk1
    have hP : va_P (dC, dI) vwCl ([((b 0), .inr (10, .int 0 :: fs))]) H := hP
    have hD : va_D A ([((b 0), .inr (10, .int 0 :: fs))]) := hD
    have hK : va_K (dC, dI) vwCl [] s := hK
    obtain rfl : r = 0 := hw.trans (by decide)
    refine W.widen (k := 0) (n := 0) (Nat.le_of_ble_eq_true rfl) (Nat.le_of_ble_eq_true rfl) ?_
    exact W.zret (v := 0) (ty := .boolean) hx hb hr rfl (fun t ht hW => ⟨⟨0, (0, fs), rfl, ⟨rfl, Or.inl ⟨by omega, rfl, rfl⟩⟩, BW.end hP hK hD [0] [] rfl rfl rfl rfl ht hW⟩, hS.F ht⟩) hS.2.2 dX6_isNoField_21

set_option maxHeartbeats 4000000 in
set_option maxRecDepth 100000 in
theorem m_ice (l : Launch) (dC : Nat → ClassId) (dI : Nat → Nat → Nat) (sz : Nat) (b : Nat → Nat) (cI : ClassId) (p0 : Int32)  : Met l yX6_ice wsX6_ice ({ frames := 2, cells := 0, slots := 0, locals := 46 }) (va_Pc [.ref (b 0), .int p0] (PM dC dI ([((b 0), .inr (10, [.int 0, .ref (b 1), .int 0, .int 0, .ref (b 2), .ref (b 3), .ref (b 4), .ref (b 5), .int 0, .int 0, .ref (b 6)])), ((b 2), .inl (cI, 4, .inl (fun _ => 0)))]) [(cI, .int)] sz)) (va_Qi (fun (r : Int32) (u : Int32 × List Value) => ((0 ≤ p0.toInt ∧ p0.toInt ≤ 3) ∧ u.1 = 0 ∧ r = 0) ∨ (¬ (0 ≤ p0.toInt ∧ p0.toInt ≤ 3) ∧ u.1 = 1)) (fun (u : Int32 × List Value) t => BW dC dI (va_A ([((b 0), .inr (10, [.int 0, .ref (b 1), .int 0, .int 0, .ref (b 2), .ref (b 3), .ref (b 4), .ref (b 5), .int 0, .int 0, .ref (b 6)])), ((b 2), .inl (cI, 4, .inl (fun _ => 0)))]) sz) [((b 0), .inr (10, .int u.1 :: u.2))] [] t) (va_A ([((b 0), .inr (10, [.int 0, .ref (b 1), .int 0, .int 0, .ref (b 2), .ref (b 3), .ref (b 4), .ref (b 5), .int 0, .int 0, .ref (b 6)])), ((b 2), .inl (cI, 4, .inl (fun _ => 0)))]) sz)) 0 0 (va_A ([((b 0), .inr (10, [.int 0, .ref (b 1), .int 0, .int 0, .ref (b 2), .ref (b 3), .ref (b 4), .ref (b 5), .int 0, .int 0, .ref (b 6)])), ((b 2), .inl (cI, 4, .inl (fun _ => 0)))]) sz) := by
  refine Met.ofW (cc := cX6_ice) (maxL := 2) (ret := (some .int)) (by decide +kernel) rfl ?_
  intro p e s m args below meth c s₁ B hml hv
  obtain ⟨rfl, ⟨hsz, hP, hK, hD0⟩, hM⟩ := hv
  have hx := B.exec
  have hb := B.bytes
  have hr := B.returns
  have hts := atoms_spec (ws := wsX6_ice) B.pre
  have hown : s.vm.findClass RX6 = some m.cls := findClass_of_methodNamed B.named
  have hlocks := B.notSynchronized
  subst hsz
  have hD := hD0.self (sz := s.heap.size)
  generalize hAe : va_A ([((b 0), .inr (10, [.int 0, .ref (b 1), .int 0, .int 0, .ref (b 2), .ref (b 3), .ref (b 4), .ref (b 5), .int 0, .int 0, .ref (b 6)])), ((b 2), .inl (cI, 4, .inl (fun _ => 0)))]) s.heap.size = A at hD ⊢
  have hA : ∀ q : Nat, s.heap.size ≤ q → A q := fun q h => by rw [← hAe]; exact Or.inr h
  have hS : va_S A s.heap s.heap [] := va_S.rf
  have hl := lv_entry ([.ref (b 0), .int p0]) (n := 2) (Nat.le_of_ble_eq_true rfl)
  rw [lg_entry_eq]
  generalize (lg_sl ([.ref (b 0), .int p0]) ++ List.replicate (2 - (lg_sl ([.ref (b 0), .int p0])).length) Slot.unset).toArray = ls at hl ⊢
  have hl : lv_has ls 2 [(0, .ref (b 0)), (1, .int p0)] := hl
  have hN : NS s := hM.2.2.2.2.2.2
  refine lv_aload_n hx hb dX6_ice_0 rfl (lv_at hl 0 rfl) ?_
  refine lv_iload_n hx hb dX6_ice_1 rfl (lv_at hl 1 rfl) ?_
  have hFc := va_free (wc := [((b 0), .inr (10, [.int 0, .ref (b 1), .int 0, .int 0, .ref (b 2), .ref (b 3), .ref (b 4), .ref (b 5), .int 0, .int 0, .ref (b 6)]))]) hD hS hA [0] rfl
  refine va_calli (va_runV (As := [.int p0]) (rest := []) ⟨hx, hb, hml, hown, hts⟩ (m_isNoField l dC dI _ b [.ref (b 1), .int 0, .int 0, .ref (b 2), .ref (b 3), .ref (b 4), .ref (b 5), .int 0, .int 0, .ref (b 6)] p0) (cwV 1 hts gX6_ice_X6_isNoField rfl rfl rfl (by decide +kernel) ⟨Nat.le_of_ble_eq_true rfl, Nat.le_of_ble_eq_true rfl⟩) ⟨fb_PW, va_recv hK hP (ci := 10) (q0 := 0) rfl rfl, fun U hU hW => ⟨rfl, PW.give hP hK hD [0] [] rfl rfl rfl rfl hU hW⟩⟩ rfl rfl hl.1 rfl (lv_room (Nat.le_of_ble_eq_true rfl)) dX6_ice_2 ⟨(Nat.le_of_ble_eq_true rfl), (Nat.le_of_ble_eq_true rfl)⟩) hS (fun q _ h => hFc q h) hFc (fun r1 u t H locs ht hvm hw2 hB hz1 hk1 hS => ?_)
  obtain ⟨th9, fs9⟩ := u
  dsimp only at hw2
  obtain ⟨rfl, hw2⟩ := hw2
  obtain ⟨hP, hD, hK⟩ := aft [0] [1] hP hK hD rfl (wr := [((b 2), .inl (cI, 4, .inl (fun _ => 0)))]) rfl rfl (by decide) hFc hB ht hvm hk1
  rcases hw2 with ⟨hokf, hr9, hth9⟩ | ⟨hokf, hr9, hth9⟩
  · skip
    obtain rfl : r1 = 0 := hr9
    obtain rfl : th9 = 0 := hth9
    have hP : va_P (dC, dI) vwCl ([((b 2), .inl (cI, 4, .inl (fun _ => 0))), ((b 0), .inr (10, [.int 0, .ref (b 1), .int 0, .int 0, .ref (b 2), .ref (b 3), .ref (b 4), .ref (b 5), .int 0, .int 0, .ref (b 6)]))]) H := hP
    have hD : va_D A ([((b 2), .inl (cI, 4, .inl (fun _ => 0))), ((b 0), .inr (10, [.int 0, .ref (b 1), .int 0, .int 0, .ref (b 2), .ref (b 3), .ref (b 4), .ref (b 5), .int 0, .int 0, .ref (b 6)]))]) := hD
    have hK : va_K (dC, dI) vwCl [(cI, .int)] s := hK
    refine lv_if_eq (tgt := 12) hx hb dX6_ice_5 (by decide) (fun _ => ?_) (fun cx => by first | exact absurd (by decide) cx | exact absurd cx (by decide))
    refine lv_aload_n hx hb dX6_ice_12 rfl (lv_at hl 0 rfl) ?_
    refine va_get (D := (dC, dI)) (ci := 10) (v := .ref (b 2)) (C := RX6) (T := TX6) (N := 11) hx hb hts (by decide +kernel) hown hK hP 1 rfl rfl 4 (by decide) (hts (.fieldLink RX6 19 "SnowpalaceModel" "ice" "[I") (by decide +kernel)) (fun _ h9 => h9) rfl dX6_ice_13 ?_
    refine lv_iload_n hx hb dX6_ice_16 rfl (lv_at hl 1 rfl) ?_
    refine va_iald (D := (dC, dI)) hx hb hK hP 0 0 rfl rfl (inI hokf.1 (by have := hokf.2; omega)) dX6_ice_17 ?_
    refine lv_topi (fun v3 e4 => ?_)
    obtain rfl : v3 = (0 : Int32) := e4.trans rfl
    refine W.widen (k := 0) (n := 0) (Nat.le_of_ble_eq_true rfl) (Nat.le_of_ble_eq_true rfl) ?_
    exact W.iret (v := 0) hx hb hr (fun t ht hW => ⟨⟨0, (0, [.ref (b 1), .int 0, .int 0, .ref (b 2), .ref (b 3), .ref (b 4), .ref (b 5), .int 0, .int 0, .ref (b 6)]), rfl, Or.inl ⟨hokf, rfl, rfl⟩, BW.end hP hK hD [1] [] rfl rfl rfl rfl ht hW⟩, hS.F ht⟩) hS.2.2 dX6_ice_18
  · skip
    obtain rfl : r1 = 1 := hr9
    obtain rfl : th9 = 1 := hth9
    have hP : va_P (dC, dI) vwCl ([((b 2), .inl (cI, 4, .inl (fun _ => 0))), ((b 0), .inr (10, [.int 1, .ref (b 1), .int 0, .int 0, .ref (b 2), .ref (b 3), .ref (b 4), .ref (b 5), .int 0, .int 0, .ref (b 6)]))]) H := hP
    have hD : va_D A ([((b 2), .inl (cI, 4, .inl (fun _ => 0))), ((b 0), .inr (10, [.int 1, .ref (b 1), .int 0, .int 0, .ref (b 2), .ref (b 3), .ref (b 4), .ref (b 5), .int 0, .int 0, .ref (b 6)]))]) := hD
    have hK : va_K (dC, dI) vwCl [(cI, .int)] s := hK
    refine lv_if_eq (tgt := 12) hx hb dX6_ice_5 (by decide) (fun cx => by first | exact absurd cx (by decide) | exact absurd (by decide) cx) (fun _ => ?_)
    refine lv_iconst (v := 0) hx hb dX6_ice_8 (by decide) ?_
    refine lv_goto (tgt := 18) hx hb dX6_ice_9 (by decide) ?_
    refine W.widen (k := 0) (n := 0) (Nat.le_of_ble_eq_true rfl) (Nat.le_of_ble_eq_true rfl) ?_
    exact W.iret (v := 0) hx hb hr (fun t ht hW => ⟨⟨0, (1, [.ref (b 1), .int 0, .int 0, .ref (b 2), .ref (b 3), .ref (b 4), .ref (b 5), .int 0, .int 0, .ref (b 6)]), rfl, Or.inr ⟨hokf, rfl⟩, BW.end hP hK hD [1] [] rfl rfl rfl rfl ht hW⟩, hS.F ht⟩) hS.2.2 dX6_ice_18

set_option maxHeartbeats 4000000 in
set_option maxRecDepth 100000 in
theorem m_clear (l : Launch) (dC : Nat → ClassId) (dI : Nat → Nat → Nat) (sz : Nat) (b : Nat → Nat) (cI : ClassId) (p0 : Int32)  : Met l yX6_clear wsX6_clear ({ frames := 2, cells := 0, slots := 0, locals := 46 }) (va_Pc [.ref (b 0), .int p0] (PM dC dI ([((b 0), .inr (10, [.int 0, .ref (b 1), .int 0, .int 0, .ref (b 2), .ref (b 3), .ref (b 4), .ref (b 5), .int 0, .int 0, .ref (b 6)])), ((b 3), .inl (cI, 4, .inl (fun _ => 0)))]) [(cI, .int)] sz)) (va_Qi (fun (r : Int32) (u : Int32 × List Value) => ((0 ≤ p0.toInt ∧ p0.toInt ≤ 3) ∧ u.1 = 0 ∧ r = 0) ∨ (¬ (0 ≤ p0.toInt ∧ p0.toInt ≤ 3) ∧ u.1 = 1)) (fun (u : Int32 × List Value) t => BW dC dI (va_A ([((b 0), .inr (10, [.int 0, .ref (b 1), .int 0, .int 0, .ref (b 2), .ref (b 3), .ref (b 4), .ref (b 5), .int 0, .int 0, .ref (b 6)])), ((b 3), .inl (cI, 4, .inl (fun _ => 0)))]) sz) [((b 0), .inr (10, .int u.1 :: u.2))] [] t) (va_A ([((b 0), .inr (10, [.int 0, .ref (b 1), .int 0, .int 0, .ref (b 2), .ref (b 3), .ref (b 4), .ref (b 5), .int 0, .int 0, .ref (b 6)])), ((b 3), .inl (cI, 4, .inl (fun _ => 0)))]) sz)) 0 0 (va_A ([((b 0), .inr (10, [.int 0, .ref (b 1), .int 0, .int 0, .ref (b 2), .ref (b 3), .ref (b 4), .ref (b 5), .int 0, .int 0, .ref (b 6)])), ((b 3), .inl (cI, 4, .inl (fun _ => 0)))]) sz) := by
  refine Met.ofW (cc := cX6_clear) (maxL := 2) (ret := (some .int)) (by decide +kernel) rfl ?_
  intro p e s m args below meth c s₁ B hml hv
  obtain ⟨rfl, ⟨hsz, hP, hK, hD0⟩, hM⟩ := hv
  have hx := B.exec
  have hb := B.bytes
  have hr := B.returns
  have hts := atoms_spec (ws := wsX6_clear) B.pre
  have hown : s.vm.findClass RX6 = some m.cls := findClass_of_methodNamed B.named
  have hlocks := B.notSynchronized
  subst hsz
  have hD := hD0.self (sz := s.heap.size)
  generalize hAe : va_A ([((b 0), .inr (10, [.int 0, .ref (b 1), .int 0, .int 0, .ref (b 2), .ref (b 3), .ref (b 4), .ref (b 5), .int 0, .int 0, .ref (b 6)])), ((b 3), .inl (cI, 4, .inl (fun _ => 0)))]) s.heap.size = A at hD ⊢
  have hA : ∀ q : Nat, s.heap.size ≤ q → A q := fun q h => by rw [← hAe]; exact Or.inr h
  have hS : va_S A s.heap s.heap [] := va_S.rf
  have hl := lv_entry ([.ref (b 0), .int p0]) (n := 2) (Nat.le_of_ble_eq_true rfl)
  rw [lg_entry_eq]
  generalize (lg_sl ([.ref (b 0), .int p0]) ++ List.replicate (2 - (lg_sl ([.ref (b 0), .int p0])).length) Slot.unset).toArray = ls at hl ⊢
  have hl : lv_has ls 2 [(0, .ref (b 0)), (1, .int p0)] := hl
  have hN : NS s := hM.2.2.2.2.2.2
  refine lv_aload_n hx hb dX6_clear_0 rfl (lv_at hl 0 rfl) ?_
  refine lv_iload_n hx hb dX6_clear_1 rfl (lv_at hl 1 rfl) ?_
  have hFc := va_free (wc := [((b 0), .inr (10, [.int 0, .ref (b 1), .int 0, .int 0, .ref (b 2), .ref (b 3), .ref (b 4), .ref (b 5), .int 0, .int 0, .ref (b 6)]))]) hD hS hA [0] rfl
  refine va_calli (va_runV (As := [.int p0]) (rest := []) ⟨hx, hb, hml, hown, hts⟩ (m_isNoField l dC dI _ b [.ref (b 1), .int 0, .int 0, .ref (b 2), .ref (b 3), .ref (b 4), .ref (b 5), .int 0, .int 0, .ref (b 6)] p0) (cwV 1 hts gX6_clear_X6_isNoField rfl rfl rfl (by decide +kernel) ⟨Nat.le_of_ble_eq_true rfl, Nat.le_of_ble_eq_true rfl⟩) ⟨fb_PW, va_recv hK hP (ci := 10) (q0 := 0) rfl rfl, fun U hU hW => ⟨rfl, PW.give hP hK hD [0] [] rfl rfl rfl rfl hU hW⟩⟩ rfl rfl hl.1 rfl (lv_room (Nat.le_of_ble_eq_true rfl)) dX6_clear_2 ⟨(Nat.le_of_ble_eq_true rfl), (Nat.le_of_ble_eq_true rfl)⟩) hS (fun q _ h => hFc q h) hFc (fun r1 u t H locs ht hvm hw2 hB hz1 hk1 hS => ?_)
  obtain ⟨th9, fs9⟩ := u
  dsimp only at hw2
  obtain ⟨rfl, hw2⟩ := hw2
  obtain ⟨hP, hD, hK⟩ := aft [0] [1] hP hK hD rfl (wr := [((b 3), .inl (cI, 4, .inl (fun _ => 0)))]) rfl rfl (by decide) hFc hB ht hvm hk1
  rcases hw2 with ⟨hokf, hr9, hth9⟩ | ⟨hokf, hr9, hth9⟩
  · skip
    obtain rfl : r1 = 0 := hr9
    obtain rfl : th9 = 0 := hth9
    have hP : va_P (dC, dI) vwCl ([((b 3), .inl (cI, 4, .inl (fun _ => 0))), ((b 0), .inr (10, [.int 0, .ref (b 1), .int 0, .int 0, .ref (b 2), .ref (b 3), .ref (b 4), .ref (b 5), .int 0, .int 0, .ref (b 6)]))]) H := hP
    have hD : va_D A ([((b 3), .inl (cI, 4, .inl (fun _ => 0))), ((b 0), .inr (10, [.int 0, .ref (b 1), .int 0, .int 0, .ref (b 2), .ref (b 3), .ref (b 4), .ref (b 5), .int 0, .int 0, .ref (b 6)]))]) := hD
    have hK : va_K (dC, dI) vwCl [(cI, .int)] s := hK
    refine lv_if_eq (tgt := 12) hx hb dX6_clear_5 (by decide) (fun _ => ?_) (fun cx => by first | exact absurd (by decide) cx | exact absurd cx (by decide))
    refine lv_aload_n hx hb dX6_clear_12 rfl (lv_at hl 0 rfl) ?_
    refine va_get (D := (dC, dI)) (ci := 10) (v := .ref (b 3)) (C := RX6) (T := TX6) (N := 11) hx hb hts (by decide +kernel) hown hK hP 1 rfl rfl 5 (by decide) (hts (.fieldLink RX6 22 "SnowpalaceModel" "clear" "[I") (by decide +kernel)) (fun _ h9 => h9) rfl dX6_clear_13 ?_
    refine lv_iload_n hx hb dX6_clear_16 rfl (lv_at hl 1 rfl) ?_
    refine va_iald (D := (dC, dI)) hx hb hK hP 0 0 rfl rfl (inI hokf.1 (by have := hokf.2; omega)) dX6_clear_17 ?_
    refine lv_topi (fun v3 e4 => ?_)
    obtain rfl : v3 = (0 : Int32) := e4.trans rfl
    refine W.widen (k := 0) (n := 0) (Nat.le_of_ble_eq_true rfl) (Nat.le_of_ble_eq_true rfl) ?_
    exact W.iret (v := 0) hx hb hr (fun t ht hW => ⟨⟨0, (0, [.ref (b 1), .int 0, .int 0, .ref (b 2), .ref (b 3), .ref (b 4), .ref (b 5), .int 0, .int 0, .ref (b 6)]), rfl, Or.inl ⟨hokf, rfl, rfl⟩, BW.end hP hK hD [1] [] rfl rfl rfl rfl ht hW⟩, hS.F ht⟩) hS.2.2 dX6_clear_18
  · skip
    obtain rfl : r1 = 1 := hr9
    obtain rfl : th9 = 1 := hth9
    have hP : va_P (dC, dI) vwCl ([((b 3), .inl (cI, 4, .inl (fun _ => 0))), ((b 0), .inr (10, [.int 1, .ref (b 1), .int 0, .int 0, .ref (b 2), .ref (b 3), .ref (b 4), .ref (b 5), .int 0, .int 0, .ref (b 6)]))]) H := hP
    have hD : va_D A ([((b 3), .inl (cI, 4, .inl (fun _ => 0))), ((b 0), .inr (10, [.int 1, .ref (b 1), .int 0, .int 0, .ref (b 2), .ref (b 3), .ref (b 4), .ref (b 5), .int 0, .int 0, .ref (b 6)]))]) := hD
    have hK : va_K (dC, dI) vwCl [(cI, .int)] s := hK
    refine lv_if_eq (tgt := 12) hx hb dX6_clear_5 (by decide) (fun cx => by first | exact absurd cx (by decide) | exact absurd (by decide) cx) (fun _ => ?_)
    refine lv_iconst (v := 0) hx hb dX6_clear_8 (by decide) ?_
    refine lv_goto (tgt := 18) hx hb dX6_clear_9 (by decide) ?_
    refine W.widen (k := 0) (n := 0) (Nat.le_of_ble_eq_true rfl) (Nat.le_of_ble_eq_true rfl) ?_
    exact W.iret (v := 0) hx hb hr (fun t ht hW => ⟨⟨0, (1, [.ref (b 1), .int 0, .int 0, .ref (b 2), .ref (b 3), .ref (b 4), .ref (b 5), .int 0, .int 0, .ref (b 6)]), rfl, Or.inr ⟨hokf, rfl⟩, BW.end hP hK hD [1] [] rfl rfl rfl rfl ht hW⟩, hS.F ht⟩) hS.2.2 dX6_clear_18

set_option maxHeartbeats 4000000 in
set_option maxRecDepth 100000 in
theorem m_hasRoad (l : Launch) (dC : Nat → ClassId) (dI : Nat → Nat → Nat) (sz : Nat) (b : Nat → Nat) (cI : ClassId) (th : Int32) (field : Int32) (h0 : 0 ≤ field.toInt) (h1 : field.toInt ≤ 3) : Met l yX6_hasRoad wsX6_hasRoad ({ frames := 0, cells := 0, slots := 0, locals := 0 }) (va_Pc [.ref (b 0), .int field] (PW dC dI ([((b 0), .inr (10, [.int th, .ref (b 1), .int 0, .int 0, .ref (b 2), .ref (b 3), .ref (b 4), .ref (b 5), .int 0, .int 0, .ref (b 6)])), ((b 2), .inl (cI, 4, .inl (fun _ => 0)))]) [(cI, .int)] sz)) (va_Qi (fun (r : Int32) (u : Unit) => r = 0) (fun (u : Unit) t => True) (fun _ => False)) 0 0 (fun _ => False) := by
  refine Met.ofW (cc := cX6_hasRoad) (maxL := 2) (ret := (some .boolean)) (by decide +kernel) rfl ?_
  intro p e s m args below meth c s₁ B hml hv
  obtain ⟨rfl, hsz, hP, hK, hD0⟩ := hv
  have hx := B.exec
  have hb := B.bytes
  have hr := B.returns
  have hts := atoms_spec (ws := wsX6_hasRoad) B.pre
  have hown : s.vm.findClass RX6 = some m.cls := findClass_of_methodNamed B.named
  have hlocks := B.notSynchronized
  subst hsz
  have hD := hD0
  have hS : va_S (fun _ => False) s.heap s.heap [] := va_S.rf
  have hl := lv_entry ([.ref (b 0), .int field]) (n := 2) (Nat.le_of_ble_eq_true rfl)
  rw [lg_entry_eq]
  generalize (lg_sl ([.ref (b 0), .int field]) ++ List.replicate (2 - (lg_sl ([.ref (b 0), .int field])).length) Slot.unset).toArray = ls at hl ⊢
  have hl : lv_has ls 2 [(0, .ref (b 0)), (1, .int field)] := hl
  refine lv_aload_n hx hb dX6_hasRoad_0 rfl (lv_at hl 0 rfl) ?_
  refine va_get (D := (dC, dI)) (ci := 10) (v := .ref (b 2)) (C := RX6) (T := TX6) (N := 11) hx hb hts (by decide +kernel) hown hK hP 0 rfl rfl 4 (by decide) (hts (.fieldLink RX6 19 "SnowpalaceModel" "ice" "[I") (by decide +kernel)) (fun _ h9 => h9) rfl dX6_hasRoad_1 ?_
  refine lv_iload_n hx hb dX6_hasRoad_4 rfl (lv_at hl 1 rfl) ?_
  refine va_iald (D := (dC, dI)) hx hb hK hP 1 0 rfl rfl (inI h0 (by omega)) dX6_hasRoad_5 ?_
  refine lv_topi (fun v1 e2 => ?_)
  obtain rfl : v1 = (0 : Int32) := e2.trans rfl
  refine lv_sipush (v := 250) hx hb dX6_hasRoad_6 (by decide) ?_
  refine lv_icmp_lt (tgt := 27) hx hb dX6_hasRoad_9 (by decide) (fun _ => ?_) (fun cx => by first | exact absurd (by decide) cx | exact absurd cx (by decide))
  refine lv_iconst (v := 0) hx hb dX6_hasRoad_27 (by decide) ?_
  refine W.widen (k := 0) (n := 0) (Nat.le_of_ble_eq_true rfl) (Nat.le_of_ble_eq_true rfl) ?_
  exact W.zret (v := 0) (ty := .boolean) hx hb hr rfl (fun t ht hW => ⟨⟨0, (), rfl, rfl, trivial⟩, hS.F ht⟩) hS.2.2 dX6_hasRoad_28

set_option maxHeartbeats 4000000 in
set_option maxRecDepth 100000 in
theorem m_bears (l : Launch) (dC : Nat → ClassId) (dI : Nat → Nat → Nat) (sz : Nat) (b : Nat → Nat) (cI : ClassId) (p0 : Int32)  : Met l yX6_bears wsX6_bears ({ frames := 2, cells := 0, slots := 0, locals := 46 }) (va_Pc [.ref (b 0), .int p0] (PM dC dI ([((b 0), .inr (10, [.int 0, .ref (b 1), .int 0, .int 0, .ref (b 2), .ref (b 3), .ref (b 4), .ref (b 5), .int 0, .int 0, .ref (b 6)])), ((b 2), .inl (cI, 4, .inl (fun _ => 0)))]) [(cI, .int)] sz)) (va_Qi (fun (r : Int32) (u : Int32 × List Value) => ((0 ≤ p0.toInt ∧ p0.toInt ≤ 3) ∧ u.1 = 0 ∧ r = 0) ∨ (¬ (0 ≤ p0.toInt ∧ p0.toInt ≤ 3) ∧ u.1 = 1)) (fun (u : Int32 × List Value) t => BW dC dI (va_A ([((b 0), .inr (10, [.int 0, .ref (b 1), .int 0, .int 0, .ref (b 2), .ref (b 3), .ref (b 4), .ref (b 5), .int 0, .int 0, .ref (b 6)])), ((b 2), .inl (cI, 4, .inl (fun _ => 0)))]) sz) [((b 0), .inr (10, .int u.1 :: u.2))] [] t) (va_A ([((b 0), .inr (10, [.int 0, .ref (b 1), .int 0, .int 0, .ref (b 2), .ref (b 3), .ref (b 4), .ref (b 5), .int 0, .int 0, .ref (b 6)])), ((b 2), .inl (cI, 4, .inl (fun _ => 0)))]) sz)) 0 0 (va_A ([((b 0), .inr (10, [.int 0, .ref (b 1), .int 0, .int 0, .ref (b 2), .ref (b 3), .ref (b 4), .ref (b 5), .int 0, .int 0, .ref (b 6)])), ((b 2), .inl (cI, 4, .inl (fun _ => 0)))]) sz) := by
  refine Met.ofW (cc := cX6_bears) (maxL := 2) (ret := (some .boolean)) (by decide +kernel) rfl ?_
  intro p e s m args below meth c s₁ B hml hv
  obtain ⟨rfl, ⟨hsz, hP, hK, hD0⟩, hM⟩ := hv
  have hx := B.exec
  have hb := B.bytes
  have hr := B.returns
  have hts := atoms_spec (ws := wsX6_bears) B.pre
  have hown : s.vm.findClass RX6 = some m.cls := findClass_of_methodNamed B.named
  have hlocks := B.notSynchronized
  subst hsz
  have hD := hD0.self (sz := s.heap.size)
  generalize hAe : va_A ([((b 0), .inr (10, [.int 0, .ref (b 1), .int 0, .int 0, .ref (b 2), .ref (b 3), .ref (b 4), .ref (b 5), .int 0, .int 0, .ref (b 6)])), ((b 2), .inl (cI, 4, .inl (fun _ => 0)))]) s.heap.size = A at hD ⊢
  have hA : ∀ q : Nat, s.heap.size ≤ q → A q := fun q h => by rw [← hAe]; exact Or.inr h
  have hS : va_S A s.heap s.heap [] := va_S.rf
  have hl := lv_entry ([.ref (b 0), .int p0]) (n := 2) (Nat.le_of_ble_eq_true rfl)
  rw [lg_entry_eq]
  generalize (lg_sl ([.ref (b 0), .int p0]) ++ List.replicate (2 - (lg_sl ([.ref (b 0), .int p0])).length) Slot.unset).toArray = ls at hl ⊢
  have hl : lv_has ls 2 [(0, .ref (b 0)), (1, .int p0)] := hl
  have hN : NS s := hM.2.2.2.2.2.2
  refine lv_aload_n hx hb dX6_bears_0 rfl (lv_at hl 0 rfl) ?_
  refine lv_iload_n hx hb dX6_bears_1 rfl (lv_at hl 1 rfl) ?_
  have hFc := va_free (wc := [((b 0), .inr (10, [.int 0, .ref (b 1), .int 0, .int 0, .ref (b 2), .ref (b 3), .ref (b 4), .ref (b 5), .int 0, .int 0, .ref (b 6)]))]) hD hS hA [0] rfl
  refine va_calli (va_runV (As := [.int p0]) (rest := []) ⟨hx, hb, hml, hown, hts⟩ (m_isNoField l dC dI _ b [.ref (b 1), .int 0, .int 0, .ref (b 2), .ref (b 3), .ref (b 4), .ref (b 5), .int 0, .int 0, .ref (b 6)] p0) (cwV 1 hts gX6_bears_X6_isNoField rfl rfl rfl (by decide +kernel) ⟨Nat.le_of_ble_eq_true rfl, Nat.le_of_ble_eq_true rfl⟩) ⟨fb_PW, va_recv hK hP (ci := 10) (q0 := 0) rfl rfl, fun U hU hW => ⟨rfl, PW.give hP hK hD [0] [] rfl rfl rfl rfl hU hW⟩⟩ rfl rfl hl.1 rfl (lv_room (Nat.le_of_ble_eq_true rfl)) dX6_bears_2 ⟨(Nat.le_of_ble_eq_true rfl), (Nat.le_of_ble_eq_true rfl)⟩) hS (fun q _ h => hFc q h) hFc (fun r1 u t H locs ht hvm hw2 hB hz1 hk1 hS => ?_)
  obtain ⟨th9, fs9⟩ := u
  dsimp only at hw2
  obtain ⟨rfl, hw2⟩ := hw2
  obtain ⟨hP, hD, hK⟩ := aft [0] [1] hP hK hD rfl (wr := [((b 2), .inl (cI, 4, .inl (fun _ => 0)))]) rfl rfl (by decide) hFc hB ht hvm hk1
  rcases hw2 with ⟨hokf, hr9, hth9⟩ | ⟨hokf, hr9, hth9⟩
  · skip
    obtain rfl : r1 = 0 := hr9
    obtain rfl : th9 = 0 := hth9
    have hP : va_P (dC, dI) vwCl ([((b 2), .inl (cI, 4, .inl (fun _ => 0))), ((b 0), .inr (10, [.int 0, .ref (b 1), .int 0, .int 0, .ref (b 2), .ref (b 3), .ref (b 4), .ref (b 5), .int 0, .int 0, .ref (b 6)]))]) H := hP
    have hD : va_D A ([((b 2), .inl (cI, 4, .inl (fun _ => 0))), ((b 0), .inr (10, [.int 0, .ref (b 1), .int 0, .int 0, .ref (b 2), .ref (b 3), .ref (b 4), .ref (b 5), .int 0, .int 0, .ref (b 6)]))]) := hD
    have hK : va_K (dC, dI) vwCl [(cI, .int)] s := hK
    refine lv_if_ne (tgt := 20) hx hb dX6_bears_5 (by decide) (fun cx => by first | exact absurd cx (by decide) | exact absurd (by decide) cx) (fun _ => ?_)
    refine lv_aload_n hx hb dX6_bears_8 rfl (lv_at hl 0 rfl) ?_
    refine lv_iload_n hx hb dX6_bears_9 rfl (lv_at hl 1 rfl) ?_
    refine va_calli (va_runV (As := [.int p0]) (rest := []) ⟨hx, hb, hml, hown, hts⟩ (m_hasRoad l dC dI _ b cI 0 p0 hokf.1 hokf.2) (cwV 1 hts gX6_bears_X6_hasRoad rfl rfl rfl (by decide +kernel) ⟨Nat.le_of_ble_eq_true rfl, Nat.le_of_ble_eq_true rfl⟩) ⟨fb_PW, va_recv hK hP (ci := 10) (q0 := 1) rfl rfl, fun U hU hW => ⟨rfl, PW.give hP hK hD [1, 0] [0] rfl rfl rfl rfl hU hW⟩⟩ rfl rfl hl.1 rfl (lv_room (Nat.le_of_ble_eq_true rfl)) dX6_bears_10 ⟨(Nat.le_of_ble_eq_true rfl), (Nat.le_of_ble_eq_true rfl)⟩) hS (fun q _ h => h.elim) (fun q h => h.elim) (fun r3 u t H locs ht hvm hw4 hB hz1 hk1 hS => ?_)
    have hP := kp_P hP hk1
    have hP : va_P (dC, dI) vwCl ([((b 2), .inl (cI, 4, .inl (fun _ => 0))), ((b 0), .inr (10, [.int 0, .ref (b 1), .int 0, .int 0, .ref (b 2), .ref (b 3), .ref (b 4), .ref (b 5), .int 0, .int 0, .ref (b 6)]))]) H := hP
    have hD : va_D A ([((b 2), .inl (cI, 4, .inl (fun _ => 0))), ((b 0), .inr (10, [.int 0, .ref (b 1), .int 0, .int 0, .ref (b 2), .ref (b 3), .ref (b 4), .ref (b 5), .int 0, .int 0, .ref (b 6)]))]) := hD
    obtain rfl : r3 = 0 := hw4
    refine lv_if_eq (tgt := 20) hx hb dX6_bears_13 (by decide) (fun _ => ?_) (fun cx => by first | exact absurd (by decide) cx | exact absurd cx (by decide))
    refine lv_iconst (v := 0) hx hb dX6_bears_20 (by decide) ?_
    refine W.widen (k := 0) (n := 0) (Nat.le_of_ble_eq_true rfl) (Nat.le_of_ble_eq_true rfl) ?_
    exact W.zret (v := 0) (ty := .boolean) hx hb hr rfl (fun t ht hW => ⟨⟨0, (0, [.ref (b 1), .int 0, .int 0, .ref (b 2), .ref (b 3), .ref (b 4), .ref (b 5), .int 0, .int 0, .ref (b 6)]), rfl, Or.inl ⟨hokf, rfl, rfl⟩, BW.end hP hK hD [1] [] rfl rfl rfl rfl ht hW⟩, hS.F ht⟩) hS.2.2 dX6_bears_21
  · skip
    obtain rfl : r1 = 1 := hr9
    obtain rfl : th9 = 1 := hth9
    have hP : va_P (dC, dI) vwCl ([((b 2), .inl (cI, 4, .inl (fun _ => 0))), ((b 0), .inr (10, [.int 1, .ref (b 1), .int 0, .int 0, .ref (b 2), .ref (b 3), .ref (b 4), .ref (b 5), .int 0, .int 0, .ref (b 6)]))]) H := hP
    have hD : va_D A ([((b 2), .inl (cI, 4, .inl (fun _ => 0))), ((b 0), .inr (10, [.int 1, .ref (b 1), .int 0, .int 0, .ref (b 2), .ref (b 3), .ref (b 4), .ref (b 5), .int 0, .int 0, .ref (b 6)]))]) := hD
    have hK : va_K (dC, dI) vwCl [(cI, .int)] s := hK
    refine lv_if_ne (tgt := 20) hx hb dX6_bears_5 (by decide) (fun _ => ?_) (fun cx => by first | exact absurd (by decide) cx | exact absurd cx (by decide))
    refine lv_iconst (v := 0) hx hb dX6_bears_20 (by decide) ?_
    refine W.widen (k := 0) (n := 0) (Nat.le_of_ble_eq_true rfl) (Nat.le_of_ble_eq_true rfl) ?_
    exact W.zret (v := 0) (ty := .boolean) hx hb hr rfl (fun t ht hW => ⟨⟨0, (1, [.ref (b 1), .int 0, .int 0, .ref (b 2), .ref (b 3), .ref (b 4), .ref (b 5), .int 0, .int 0, .ref (b 6)]), rfl, Or.inr ⟨hokf, rfl⟩, BW.end hP hK hD [1] [] rfl rfl rfl rfl ht hW⟩, hS.F ht⟩) hS.2.2 dX6_bears_21

set_option maxHeartbeats 4000000 in
set_option maxRecDepth 100000 in
theorem m_cut (l : Launch) (dC : Nat → ClassId) (dI : Nat → Nat → Nat) (sz : Nat) (b : Nat → Nat) (cI : ClassId) (dl : Nat → Int32) (p0 : Int32) (p1 : Int32)  : Met l yX6_cut wsX6_cut ({ frames := 2, cells := 0, slots := 0, locals := 46 }) (va_Pc [.ref (b 0), .int p0, .int p1] (PM dC dI ([((b 0), .inr (10, [.int 0, .ref (b 1), .int 0, .int 0, .ref (b 2), .ref (b 3), .ref (b 4), .ref (b 5), .int 0, .int 0, .ref (b 6)])), ((b 2), .inl (cI, 4, .inl (fun _ => 0))), ((b 4), .inl (cI, 4, .inl dl)), ((b 5), .inl (cI, 2, .inl (fun _ => 0)))]) [(cI, .int)] sz)) (va_Qi (fun (r : Int32) (u : Int32 × List Value) => (((0 ≤ p0.toInt ∧ p0.toInt ≤ 3) ∧ 1 ≤ p1.toInt ∧ p1.toInt ≤ 20) ∧ u.1 = 2) ∨ (¬ ((0 ≤ p0.toInt ∧ p0.toInt ≤ 3) ∧ 1 ≤ p1.toInt ∧ p1.toInt ≤ 20) ∧ u.1 = 1)) (fun (u : Int32 × List Value) t => BW dC dI (va_A ([((b 0), .inr (10, [.int 0, .ref (b 1), .int 0, .int 0, .ref (b 2), .ref (b 3), .ref (b 4), .ref (b 5), .int 0, .int 0, .ref (b 6)])), ((b 2), .inl (cI, 4, .inl (fun _ => 0))), ((b 4), .inl (cI, 4, .inl dl)), ((b 5), .inl (cI, 2, .inl (fun _ => 0)))]) sz) [((b 0), .inr (10, .int u.1 :: u.2))] [] t) (va_A ([((b 0), .inr (10, [.int 0, .ref (b 1), .int 0, .int 0, .ref (b 2), .ref (b 3), .ref (b 4), .ref (b 5), .int 0, .int 0, .ref (b 6)])), ((b 2), .inl (cI, 4, .inl (fun _ => 0))), ((b 4), .inl (cI, 4, .inl dl)), ((b 5), .inl (cI, 2, .inl (fun _ => 0)))]) sz)) 0 0 (va_A ([((b 0), .inr (10, [.int 0, .ref (b 1), .int 0, .int 0, .ref (b 2), .ref (b 3), .ref (b 4), .ref (b 5), .int 0, .int 0, .ref (b 6)])), ((b 2), .inl (cI, 4, .inl (fun _ => 0))), ((b 4), .inl (cI, 4, .inl dl)), ((b 5), .inl (cI, 2, .inl (fun _ => 0)))]) sz) := by
  refine Met.ofW (cc := cX6_cut) (maxL := 3) (ret := (some .int)) (by decide +kernel) rfl ?_
  intro p e s m args below meth c s₁ B hml hv
  obtain ⟨rfl, ⟨hsz, hP, hK, hD0⟩, hM⟩ := hv
  have hx := B.exec
  have hb := B.bytes
  have hr := B.returns
  have hts := atoms_spec (ws := wsX6_cut) B.pre
  have hown : s.vm.findClass RX6 = some m.cls := findClass_of_methodNamed B.named
  have hlocks := B.notSynchronized
  subst hsz
  have hD := hD0.self (sz := s.heap.size)
  generalize hAe : va_A ([((b 0), .inr (10, [.int 0, .ref (b 1), .int 0, .int 0, .ref (b 2), .ref (b 3), .ref (b 4), .ref (b 5), .int 0, .int 0, .ref (b 6)])), ((b 2), .inl (cI, 4, .inl (fun _ => 0))), ((b 4), .inl (cI, 4, .inl dl)), ((b 5), .inl (cI, 2, .inl (fun _ => 0)))]) s.heap.size = A at hD ⊢
  have hA : ∀ q : Nat, s.heap.size ≤ q → A q := fun q h => by rw [← hAe]; exact Or.inr h
  have hS : va_S A s.heap s.heap [] := va_S.rf
  have hl := lv_entry ([.ref (b 0), .int p0, .int p1]) (n := 3) (Nat.le_of_ble_eq_true rfl)
  rw [lg_entry_eq]
  generalize (lg_sl ([.ref (b 0), .int p0, .int p1]) ++ List.replicate (3 - (lg_sl ([.ref (b 0), .int p0, .int p1])).length) Slot.unset).toArray = ls at hl ⊢
  have hl : lv_has ls 3 [(0, .ref (b 0)), (1, .int p0), (2, .int p1)] := hl
  have hN : NS s := hM.2.2.2.2.2.2
  refine lv_aload_n hx hb dX6_cut_0 rfl (lv_at hl 0 rfl) ?_
  refine lv_iload_n hx hb dX6_cut_1 rfl (lv_at hl 1 rfl) ?_
  have hFc := va_free (wc := [((b 0), .inr (10, [.int 0, .ref (b 1), .int 0, .int 0, .ref (b 2), .ref (b 3), .ref (b 4), .ref (b 5), .int 0, .int 0, .ref (b 6)]))]) hD hS hA [0] rfl
  refine va_calli (va_runV (As := [.int p0]) (rest := []) ⟨hx, hb, hml, hown, hts⟩ (m_isNoField l dC dI _ b [.ref (b 1), .int 0, .int 0, .ref (b 2), .ref (b 3), .ref (b 4), .ref (b 5), .int 0, .int 0, .ref (b 6)] p0) (cwV 1 hts gX6_cut_X6_isNoField rfl rfl rfl (by decide +kernel) ⟨Nat.le_of_ble_eq_true rfl, Nat.le_of_ble_eq_true rfl⟩) ⟨fb_PW, va_recv hK hP (ci := 10) (q0 := 0) rfl rfl, fun U hU hW => ⟨rfl, PW.give hP hK hD [0] [] rfl rfl rfl rfl hU hW⟩⟩ rfl rfl hl.1 rfl (lv_room (Nat.le_of_ble_eq_true rfl)) dX6_cut_2 ⟨(Nat.le_of_ble_eq_true rfl), (Nat.le_of_ble_eq_true rfl)⟩) hS (fun q _ h => hFc q h) hFc (fun r1 u t H locs ht hvm hw2 hB hz1 hk1 hS => ?_)
  obtain ⟨th9, fs9⟩ := u
  dsimp only at hw2
  obtain ⟨rfl, hw2⟩ := hw2
  obtain ⟨hP, hD, hK⟩ := aft [0] [1, 2, 3] hP hK hD rfl (wr := [((b 2), .inl (cI, 4, .inl (fun _ => 0))), ((b 4), .inl (cI, 4, .inl dl)), ((b 5), .inl (cI, 2, .inl (fun _ => 0)))]) rfl rfl (by decide) hFc hB ht hvm hk1
  rcases hw2 with ⟨hokf, hr9, hth9⟩ | ⟨hokf, hr9, hth9⟩
  · skip
    obtain rfl : r1 = 0 := hr9
    obtain rfl : th9 = 0 := hth9
    have hP : va_P (dC, dI) vwCl ([((b 2), .inl (cI, 4, .inl (fun _ => 0))), ((b 4), .inl (cI, 4, .inl dl)), ((b 5), .inl (cI, 2, .inl (fun _ => 0))), ((b 0), .inr (10, [.int 0, .ref (b 1), .int 0, .int 0, .ref (b 2), .ref (b 3), .ref (b 4), .ref (b 5), .int 0, .int 0, .ref (b 6)]))]) H := hP
    have hD : va_D A ([((b 2), .inl (cI, 4, .inl (fun _ => 0))), ((b 4), .inl (cI, 4, .inl dl)), ((b 5), .inl (cI, 2, .inl (fun _ => 0))), ((b 0), .inr (10, [.int 0, .ref (b 1), .int 0, .int 0, .ref (b 2), .ref (b 3), .ref (b 4), .ref (b 5), .int 0, .int 0, .ref (b 6)]))]) := hD
    have hK : va_K (dC, dI) vwCl [(cI, .int)] s := hK
    refine lv_if_ne (tgt := 91) hx hb dX6_cut_5 (by decide) (fun cx => by first | exact absurd cx (by decide) | exact absurd (by decide) cx) (fun _ => ?_)
    refine lv_aload_n hx hb dX6_cut_8 rfl (lv_at hl 0 rfl) ?_
    refine lv_iload_n hx hb dX6_cut_9 rfl (lv_at hl 2 rfl) ?_
    refine lv_i2l hx hb dX6_cut_10 rfl ?_
    refine lv_lconst (v := 1) hx hb dX6_cut_11 (by decide) ?_
    refine lv_ldc2 hx hb hown (hts (.constantLong RX6 44 20) (by decide +kernel)) dX6_cut_12 ?_
    refine va_calli (va_runS (As := [.long p1.toInt64, .long 1, .long 20]) (rest := [.ref (b 0)]) ⟨hx, hb, hml, hown, hts⟩ (m_isBetween l p1.toInt64 1 20 (p1.toInt) (1) (20) (Int32.toInt_toInt64 _) (by decide) (by decide)) (va_cwS 3 hts gX6_cut_X6_isBetween rfl rfl rfl (by decide +kernel) ⟨Nat.le_of_ble_eq_true rfl, Nat.le_of_ble_eq_true rfl⟩) ⟨fun a U g mk q => q, fun U hU hW => ⟨rfl, trivial⟩⟩ rfl rfl hl.1 rfl (lv_room (Nat.le_of_ble_eq_true rfl)) dX6_cut_15 ⟨(Nat.le_of_ble_eq_true rfl), (Nat.le_of_ble_eq_true rfl)⟩) hS (fun q _ h => h.elim) (fun q h => h.elim) (fun r3 u t H locs ht hvm hw4 hB hz1 hk1 hS => ?_)
    have hP := kp_P hP hk1
    have hP : va_P (dC, dI) vwCl ([((b 2), .inl (cI, 4, .inl (fun _ => 0))), ((b 4), .inl (cI, 4, .inl dl)), ((b 5), .inl (cI, 2, .inl (fun _ => 0))), ((b 0), .inr (10, [.int 0, .ref (b 1), .int 0, .int 0, .ref (b 2), .ref (b 3), .ref (b 4), .ref (b 5), .int 0, .int 0, .ref (b 6)]))]) H := hP
    have hD : va_D A ([((b 2), .inl (cI, 4, .inl (fun _ => 0))), ((b 4), .inl (cI, 4, .inl dl)), ((b 5), .inl (cI, 2, .inl (fun _ => 0))), ((b 0), .inr (10, [.int 0, .ref (b 1), .int 0, .int 0, .ref (b 2), .ref (b 3), .ref (b 4), .ref (b 5), .int 0, .int 0, .ref (b 6)]))]) := hD
    have hw4 : r3 = bI ((1 : Int) ≤ p1.toInt ∧ p1.toInt ≤ (20 : Int)) := hw4
    refine lv_if_ne (tgt := 25) hx hb dX6_cut_18 (by decide) (fun c5 => ?_) (fun c5 => ?_)
    · skip
      have g6 : (1 : Int) ≤ p1.toInt ∧ p1.toInt ≤ (20 : Int) := bI_t hw4 c5
      have zg6 : r3 = 1 := bI_t1 hw4 g6
      refine lv_aload_n hx hb dX6_cut_25 rfl (lv_at hl 0 rfl) ?_
      refine va_get (D := (dC, dI)) (ci := 10) (v := .ref (b 2)) (C := RX6) (T := TX6) (N := 11) hx hb hts (by decide +kernel) hown hK hP 3 rfl rfl 4 (by decide) (hts (.fieldLink RX6 19 "SnowpalaceModel" "ice" "[I") (by decide +kernel)) (fun _ h9 => h9) rfl dX6_cut_26 ?_
      refine lv_iload_n hx hb dX6_cut_29 rfl (lv_at hl 1 rfl) ?_
      refine va_iald (D := (dC, dI)) hx hb hK hP 0 0 rfl rfl (inI hokf.1 (by have := hokf.2; omega)) dX6_cut_30 ?_
      refine lv_topi (fun v7 e8 => ?_)
      obtain rfl : v7 = (0 : Int32) := e8.trans rfl
      refine lv_sipush (v := 300) hx hb dX6_cut_31 (by decide) ?_
      refine lv_icmp_lt (tgt := 55) hx hb dX6_cut_34 (by decide) (fun _ => ?_) (fun cx => by first | exact absurd (by decide) cx | exact absurd cx (by decide))
      refine lv_iconst (v := 2) hx hb dX6_cut_55 (by decide) ?_
      refine lv_goto (tgt := 85) hx hb dX6_cut_56 (by decide) ?_
      have hFc := va_free (wc := [((b 0), .inr (10, [.int 0, .ref (b 1), .int 0, .int 0, .ref (b 2), .ref (b 3), .ref (b 4), .ref (b 5), .int 0, .int 0, .ref (b 6)]))]) hD hS hA [3] rfl
      refine va_calli (va_runV (As := [.int 2]) (rest := []) ⟨hx, hb, hml, hown, hts⟩ (m_isWrong l dC dI _ (b 0) 0 [.ref (b 1), .int 0, .int 0, .ref (b 2), .ref (b 3), .ref (b 4), .ref (b 5), .int 0, .int 0, .ref (b 6)] 2) (cwV 1 hts gX6_cut_X6_isWrong rfl rfl rfl (by decide +kernel) ⟨Nat.le_of_ble_eq_true rfl, Nat.le_of_ble_eq_true rfl⟩) ⟨fb_PW, va_recv hK hP (ci := 10) (q0 := 3) rfl rfl, fun U hU hW => ⟨rfl, PW.give hP hK hD [3] [] rfl rfl rfl rfl hU hW⟩⟩ rfl rfl hl.1 rfl (lv_room (Nat.le_of_ble_eq_true rfl)) dX6_cut_85 ⟨(Nat.le_of_ble_eq_true rfl), (Nat.le_of_ble_eq_true rfl)⟩) hS (fun q _ h => hFc q h) hFc (fun r9 u t H locs ht hvm hw10 hB hz1 hk1 hS => ?_)
      obtain ⟨hP, hD, hK⟩ := aft [3] [0, 1, 2] hP hK hD rfl (wr := [((b 2), .inl (cI, 4, .inl (fun _ => 0))), ((b 4), .inl (cI, 4, .inl dl)), ((b 5), .inl (cI, 2, .inl (fun _ => 0)))]) rfl rfl (by decide) hFc hB ht hvm hk1
      have hP : va_P (dC, dI) vwCl ([((b 2), .inl (cI, 4, .inl (fun _ => 0))), ((b 4), .inl (cI, 4, .inl dl)), ((b 5), .inl (cI, 2, .inl (fun _ => 0))), ((b 0), .inr (10, [.int 2, .ref (b 1), .int 0, .int 0, .ref (b 2), .ref (b 3), .ref (b 4), .ref (b 5), .int 0, .int 0, .ref (b 6)]))]) H := hP
      have hD : va_D A ([((b 2), .inl (cI, 4, .inl (fun _ => 0))), ((b 4), .inl (cI, 4, .inl dl)), ((b 5), .inl (cI, 2, .inl (fun _ => 0))), ((b 0), .inr (10, [.int 2, .ref (b 1), .int 0, .int 0, .ref (b 2), .ref (b 3), .ref (b 4), .ref (b 5), .int 0, .int 0, .ref (b 6)]))]) := hD
      have hK : va_K (dC, dI) vwCl [(cI, .int)] s := hK
      have hw10 : r9 = bI (0 < 2) := hw10
      obtain rfl : r9 = 1 := hw10.trans (by decide)
      refine lv_if_eq (tgt := 93) hx hb dX6_cut_88 (by decide) (fun cx => by first | exact absurd cx (by decide) | exact absurd (by decide) cx) (fun _ => ?_)
      refine lv_iconst (v := 0) hx hb dX6_cut_91 (by decide) ?_
      refine W.widen (k := 0) (n := 0) (Nat.le_of_ble_eq_true rfl) (Nat.le_of_ble_eq_true rfl) ?_
      exact W.iret (v := 0) hx hb hr (fun t ht hW => ⟨⟨0, (2, [.ref (b 1), .int 0, .int 0, .ref (b 2), .ref (b 3), .ref (b 4), .ref (b 5), .int 0, .int 0, .ref (b 6)]), rfl, Or.inl ⟨by omega, rfl⟩, BW.end hP hK hD [3] [] rfl rfl rfl rfl ht hW⟩, hS.F ht⟩) hS.2.2 dX6_cut_92
    · skip
      have g11 : ¬ ((1 : Int) ≤ p1.toInt ∧ p1.toInt ≤ (20 : Int)) := bI_f hw4 c5
      have zg11 : r3 = 0 := bI_f0 hw4 g11
      refine lv_iconst (v := 1) hx hb dX6_cut_21 (by decide) ?_
      refine lv_goto (tgt := 85) hx hb dX6_cut_22 (by decide) ?_
      have hFc := va_free (wc := [((b 0), .inr (10, [.int 0, .ref (b 1), .int 0, .int 0, .ref (b 2), .ref (b 3), .ref (b 4), .ref (b 5), .int 0, .int 0, .ref (b 6)]))]) hD hS hA [3] rfl
      refine va_calli (va_runV (As := [.int 1]) (rest := []) ⟨hx, hb, hml, hown, hts⟩ (m_isWrong l dC dI _ (b 0) 0 [.ref (b 1), .int 0, .int 0, .ref (b 2), .ref (b 3), .ref (b 4), .ref (b 5), .int 0, .int 0, .ref (b 6)] 1) (cwV 1 hts gX6_cut_X6_isWrong rfl rfl rfl (by decide +kernel) ⟨Nat.le_of_ble_eq_true rfl, Nat.le_of_ble_eq_true rfl⟩) ⟨fb_PW, va_recv hK hP (ci := 10) (q0 := 3) rfl rfl, fun U hU hW => ⟨rfl, PW.give hP hK hD [3] [] rfl rfl rfl rfl hU hW⟩⟩ rfl rfl hl.1 rfl (lv_room (Nat.le_of_ble_eq_true rfl)) dX6_cut_85 ⟨(Nat.le_of_ble_eq_true rfl), (Nat.le_of_ble_eq_true rfl)⟩) hS (fun q _ h => hFc q h) hFc (fun r12 u t H locs ht hvm hw13 hB hz1 hk1 hS => ?_)
      obtain ⟨hP, hD, hK⟩ := aft [3] [0, 1, 2] hP hK hD rfl (wr := [((b 2), .inl (cI, 4, .inl (fun _ => 0))), ((b 4), .inl (cI, 4, .inl dl)), ((b 5), .inl (cI, 2, .inl (fun _ => 0)))]) rfl rfl (by decide) hFc hB ht hvm hk1
      have hP : va_P (dC, dI) vwCl ([((b 2), .inl (cI, 4, .inl (fun _ => 0))), ((b 4), .inl (cI, 4, .inl dl)), ((b 5), .inl (cI, 2, .inl (fun _ => 0))), ((b 0), .inr (10, [.int 1, .ref (b 1), .int 0, .int 0, .ref (b 2), .ref (b 3), .ref (b 4), .ref (b 5), .int 0, .int 0, .ref (b 6)]))]) H := hP
      have hD : va_D A ([((b 2), .inl (cI, 4, .inl (fun _ => 0))), ((b 4), .inl (cI, 4, .inl dl)), ((b 5), .inl (cI, 2, .inl (fun _ => 0))), ((b 0), .inr (10, [.int 1, .ref (b 1), .int 0, .int 0, .ref (b 2), .ref (b 3), .ref (b 4), .ref (b 5), .int 0, .int 0, .ref (b 6)]))]) := hD
      have hK : va_K (dC, dI) vwCl [(cI, .int)] s := hK
      have hw13 : r12 = bI (0 < 1) := hw13
      obtain rfl : r12 = 1 := hw13.trans (by decide)
      refine lv_if_eq (tgt := 93) hx hb dX6_cut_88 (by decide) (fun cx => by first | exact absurd cx (by decide) | exact absurd (by decide) cx) (fun _ => ?_)
      refine lv_iconst (v := 0) hx hb dX6_cut_91 (by decide) ?_
      refine W.widen (k := 0) (n := 0) (Nat.le_of_ble_eq_true rfl) (Nat.le_of_ble_eq_true rfl) ?_
      exact W.iret (v := 0) hx hb hr (fun t ht hW => ⟨⟨0, (1, [.ref (b 1), .int 0, .int 0, .ref (b 2), .ref (b 3), .ref (b 4), .ref (b 5), .int 0, .int 0, .ref (b 6)]), rfl, Or.inr ⟨by omega, rfl⟩, BW.end hP hK hD [3] [] rfl rfl rfl rfl ht hW⟩, hS.F ht⟩) hS.2.2 dX6_cut_92
  · skip
    obtain rfl : r1 = 1 := hr9
    obtain rfl : th9 = 1 := hth9
    have hP : va_P (dC, dI) vwCl ([((b 2), .inl (cI, 4, .inl (fun _ => 0))), ((b 4), .inl (cI, 4, .inl dl)), ((b 5), .inl (cI, 2, .inl (fun _ => 0))), ((b 0), .inr (10, [.int 1, .ref (b 1), .int 0, .int 0, .ref (b 2), .ref (b 3), .ref (b 4), .ref (b 5), .int 0, .int 0, .ref (b 6)]))]) H := hP
    have hD : va_D A ([((b 2), .inl (cI, 4, .inl (fun _ => 0))), ((b 4), .inl (cI, 4, .inl dl)), ((b 5), .inl (cI, 2, .inl (fun _ => 0))), ((b 0), .inr (10, [.int 1, .ref (b 1), .int 0, .int 0, .ref (b 2), .ref (b 3), .ref (b 4), .ref (b 5), .int 0, .int 0, .ref (b 6)]))]) := hD
    have hK : va_K (dC, dI) vwCl [(cI, .int)] s := hK
    refine lv_if_ne (tgt := 91) hx hb dX6_cut_5 (by decide) (fun _ => ?_) (fun cx => by first | exact absurd (by decide) cx | exact absurd cx (by decide))
    refine lv_iconst (v := 0) hx hb dX6_cut_91 (by decide) ?_
    refine W.widen (k := 0) (n := 0) (Nat.le_of_ble_eq_true rfl) (Nat.le_of_ble_eq_true rfl) ?_
    exact W.iret (v := 0) hx hb hr (fun t ht hW => ⟨⟨0, (1, [.ref (b 1), .int 0, .int 0, .ref (b 2), .ref (b 3), .ref (b 4), .ref (b 5), .int 0, .int 0, .ref (b 6)]), rfl, Or.inr ⟨by omega, rfl⟩, BW.end hP hK hD [3] [] rfl rfl rfl rfl ht hW⟩, hS.F ht⟩) hS.2.2 dX6_cut_92

set_option maxHeartbeats 4000000 in
set_option maxRecDepth 100000 in
theorem m_lorries (l : Launch) (dC : Nat → ClassId) (dI : Nat → Nat → Nat) (sz : Nat) (b : Nat → Nat) (p0 : Int32)  : Met l yX6_lorries wsX6_lorries ({ frames := 1, cells := 0, slots := 0, locals := 25 }) (va_Pc [.ref (b 0), .int p0] (PM dC dI ([((b 0), .inr (10, [.int 0, .ref (b 1), .int 0, .int 0, .ref (b 2), .ref (b 3), .ref (b 4), .ref (b 5), .int 0, .int 0, .ref (b 6)]))]) [] sz)) (va_Qi (fun (r : Int32) (u : Int32 × List Value) => ((1 ≤ p0.toInt ∧ p0.toInt ≤ 20) ∧ u.1 = 0 ∧ r = lorV p0) ∨ (¬ (1 ≤ p0.toInt ∧ p0.toInt ≤ 20) ∧ u.1 = 1)) (fun (u : Int32 × List Value) t => BW dC dI (va_A ([((b 0), .inr (10, [.int 0, .ref (b 1), .int 0, .int 0, .ref (b 2), .ref (b 3), .ref (b 4), .ref (b 5), .int 0, .int 0, .ref (b 6)]))]) sz) [((b 0), .inr (10, .int u.1 :: u.2))] [] t) (va_A ([((b 0), .inr (10, [.int 0, .ref (b 1), .int 0, .int 0, .ref (b 2), .ref (b 3), .ref (b 4), .ref (b 5), .int 0, .int 0, .ref (b 6)]))]) sz)) 0 0 (va_A ([((b 0), .inr (10, [.int 0, .ref (b 1), .int 0, .int 0, .ref (b 2), .ref (b 3), .ref (b 4), .ref (b 5), .int 0, .int 0, .ref (b 6)]))]) sz) := by
  refine Met.ofW (cc := cX6_lorries) (maxL := 2) (ret := (some .int)) (by decide +kernel) rfl ?_
  intro p e s m args below meth c s₁ B hml hv
  obtain ⟨rfl, ⟨hsz, hP, hK, hD0⟩, hM⟩ := hv
  have hx := B.exec
  have hb := B.bytes
  have hr := B.returns
  have hts := atoms_spec (ws := wsX6_lorries) B.pre
  have hown : s.vm.findClass RX6 = some m.cls := findClass_of_methodNamed B.named
  have hlocks := B.notSynchronized
  subst hsz
  have hD := hD0.self (sz := s.heap.size)
  generalize hAe : va_A ([((b 0), .inr (10, [.int 0, .ref (b 1), .int 0, .int 0, .ref (b 2), .ref (b 3), .ref (b 4), .ref (b 5), .int 0, .int 0, .ref (b 6)]))]) s.heap.size = A at hD ⊢
  have hA : ∀ q : Nat, s.heap.size ≤ q → A q := fun q h => by rw [← hAe]; exact Or.inr h
  have hS : va_S A s.heap s.heap [] := va_S.rf
  have hl := lv_entry ([.ref (b 0), .int p0]) (n := 2) (Nat.le_of_ble_eq_true rfl)
  rw [lg_entry_eq]
  generalize (lg_sl ([.ref (b 0), .int p0]) ++ List.replicate (2 - (lg_sl ([.ref (b 0), .int p0])).length) Slot.unset).toArray = ls at hl ⊢
  have hl : lv_has ls 2 [(0, .ref (b 0)), (1, .int p0)] := hl
  have hN : NS s := hM.2.2.2.2.2.2
  refine lv_aload_n hx hb dX6_lorries_0 rfl (lv_at hl 0 rfl) ?_
  refine lv_iload_n hx hb dX6_lorries_1 rfl (lv_at hl 1 rfl) ?_
  refine lv_i2l hx hb dX6_lorries_2 rfl ?_
  refine lv_lconst (v := 1) hx hb dX6_lorries_3 (by decide) ?_
  refine lv_ldc2 hx hb hown (hts (.constantLong RX6 44 20) (by decide +kernel)) dX6_lorries_4 ?_
  refine va_calli (va_runS (As := [.long p0.toInt64, .long 1, .long 20]) (rest := [.ref (b 0)]) ⟨hx, hb, hml, hown, hts⟩ (m_isBetween l p0.toInt64 1 20 (p0.toInt) (1) (20) (Int32.toInt_toInt64 _) (by decide) (by decide)) (va_cwS 3 hts gX6_lorries_X6_isBetween rfl rfl rfl (by decide +kernel) ⟨Nat.le_of_ble_eq_true rfl, Nat.le_of_ble_eq_true rfl⟩) ⟨fun a U g mk q => q, fun U hU hW => ⟨rfl, trivial⟩⟩ rfl rfl hl.1 rfl (lv_room (Nat.le_of_ble_eq_true rfl)) dX6_lorries_7 ⟨(Nat.le_of_ble_eq_true rfl), (Nat.le_of_ble_eq_true rfl)⟩) hS (fun q _ h => h.elim) (fun q h => h.elim) (fun r1 u t H locs ht hvm hw2 hB hz1 hk1 hS => ?_)
  have hP := kp_P hP hk1
  have hP : va_P (dC, dI) vwCl ([((b 0), .inr (10, [.int 0, .ref (b 1), .int 0, .int 0, .ref (b 2), .ref (b 3), .ref (b 4), .ref (b 5), .int 0, .int 0, .ref (b 6)]))]) H := hP
  have hD : va_D A ([((b 0), .inr (10, [.int 0, .ref (b 1), .int 0, .int 0, .ref (b 2), .ref (b 3), .ref (b 4), .ref (b 5), .int 0, .int 0, .ref (b 6)]))]) := hD
  have hw2 : r1 = bI ((1 : Int) ≤ p0.toInt ∧ p0.toInt ≤ (20 : Int)) := hw2
  refine lv_if_eq (tgt := 17) hx hb dX6_lorries_10 (by decide) (fun c3 => ?_) (fun c3 => ?_)
  · skip
    have g4 : ¬ ((1 : Int) ≤ p0.toInt ∧ p0.toInt ≤ (20 : Int)) := bI_f hw2 c3
    have zg4 : r1 = 0 := bI_f0 hw2 g4
    refine lv_iconst (v := 1) hx hb dX6_lorries_17 (by decide) ?_
    have hFc := va_free (wc := [((b 0), .inr (10, [.int 0, .ref (b 1), .int 0, .int 0, .ref (b 2), .ref (b 3), .ref (b 4), .ref (b 5), .int 0, .int 0, .ref (b 6)]))]) hD hS hA [0] rfl
    refine va_calli (va_runV (As := [.int 1]) (rest := []) ⟨hx, hb, hml, hown, hts⟩ (m_isWrong l dC dI _ (b 0) 0 [.ref (b 1), .int 0, .int 0, .ref (b 2), .ref (b 3), .ref (b 4), .ref (b 5), .int 0, .int 0, .ref (b 6)] 1) (cwV 1 hts gX6_lorries_X6_isWrong rfl rfl rfl (by decide +kernel) ⟨Nat.le_of_ble_eq_true rfl, Nat.le_of_ble_eq_true rfl⟩) ⟨fb_PW, va_recv hK hP (ci := 10) (q0 := 0) rfl rfl, fun U hU hW => ⟨rfl, PW.give hP hK hD [0] [] rfl rfl rfl rfl hU hW⟩⟩ rfl rfl hl.1 rfl (lv_room (Nat.le_of_ble_eq_true rfl)) dX6_lorries_18 ⟨(Nat.le_of_ble_eq_true rfl), (Nat.le_of_ble_eq_true rfl)⟩) hS (fun q _ h => hFc q h) hFc (fun r5 u t H locs ht hvm hw6 hB hz1 hk1 hS => ?_)
    obtain ⟨hP, hD, hK⟩ := aft [0] [] hP hK hD rfl (wr := []) rfl rfl (by decide) hFc hB ht hvm hk1
    have hP : va_P (dC, dI) vwCl ([((b 0), .inr (10, [.int 1, .ref (b 1), .int 0, .int 0, .ref (b 2), .ref (b 3), .ref (b 4), .ref (b 5), .int 0, .int 0, .ref (b 6)]))]) H := hP
    have hD : va_D A ([((b 0), .inr (10, [.int 1, .ref (b 1), .int 0, .int 0, .ref (b 2), .ref (b 3), .ref (b 4), .ref (b 5), .int 0, .int 0, .ref (b 6)]))]) := hD
    have hK : va_K (dC, dI) vwCl [] s := hK
    have hw6 : r5 = bI (0 < 1) := hw6
    obtain rfl : r5 = 1 := hw6.trans (by decide)
    refine lv_if_eq (tgt := 26) hx hb dX6_lorries_21 (by decide) (fun cx => by first | exact absurd cx (by decide) | exact absurd (by decide) cx) (fun _ => ?_)
    refine lv_iconst (v := 0) hx hb dX6_lorries_24 (by decide) ?_
    refine W.widen (k := 0) (n := 0) (Nat.le_of_ble_eq_true rfl) (Nat.le_of_ble_eq_true rfl) ?_
    exact W.iret (v := 0) hx hb hr (fun t ht hW => ⟨⟨0, (1, [.ref (b 1), .int 0, .int 0, .ref (b 2), .ref (b 3), .ref (b 4), .ref (b 5), .int 0, .int 0, .ref (b 6)]), rfl, Or.inr ⟨by omega, rfl⟩, BW.end hP hK hD [0] [] rfl rfl rfl rfl ht hW⟩, hS.F ht⟩) hS.2.2 dX6_lorries_25
  · skip
    have g7 : (1 : Int) ≤ p0.toInt ∧ p0.toInt ≤ (20 : Int) := bI_t hw2 c3
    have zg7 : r1 = 1 := bI_t1 hw2 g7
    refine lv_iconst (v := 0) hx hb dX6_lorries_13 (by decide) ?_
    refine lv_goto (tgt := 18) hx hb dX6_lorries_14 (by decide) ?_
    have hFc := va_free (wc := [((b 0), .inr (10, [.int 0, .ref (b 1), .int 0, .int 0, .ref (b 2), .ref (b 3), .ref (b 4), .ref (b 5), .int 0, .int 0, .ref (b 6)]))]) hD hS hA [0] rfl
    refine va_calli (va_runV (As := [.int 0]) (rest := []) ⟨hx, hb, hml, hown, hts⟩ (m_isWrong l dC dI _ (b 0) 0 [.ref (b 1), .int 0, .int 0, .ref (b 2), .ref (b 3), .ref (b 4), .ref (b 5), .int 0, .int 0, .ref (b 6)] 0) (cwV 1 hts gX6_lorries_X6_isWrong rfl rfl rfl (by decide +kernel) ⟨Nat.le_of_ble_eq_true rfl, Nat.le_of_ble_eq_true rfl⟩) ⟨fb_PW, va_recv hK hP (ci := 10) (q0 := 0) rfl rfl, fun U hU hW => ⟨rfl, PW.give hP hK hD [0] [] rfl rfl rfl rfl hU hW⟩⟩ rfl rfl hl.1 rfl (lv_room (Nat.le_of_ble_eq_true rfl)) dX6_lorries_18 ⟨(Nat.le_of_ble_eq_true rfl), (Nat.le_of_ble_eq_true rfl)⟩) hS (fun q _ h => hFc q h) hFc (fun r8 u t H locs ht hvm hw9 hB hz1 hk1 hS => ?_)
    obtain ⟨hP, hD, hK⟩ := aft [0] [] hP hK hD rfl (wr := []) rfl rfl (by decide) hFc hB ht hvm hk1
    have hP : va_P (dC, dI) vwCl ([((b 0), .inr (10, [.int 0, .ref (b 1), .int 0, .int 0, .ref (b 2), .ref (b 3), .ref (b 4), .ref (b 5), .int 0, .int 0, .ref (b 6)]))]) H := hP
    have hD : va_D A ([((b 0), .inr (10, [.int 0, .ref (b 1), .int 0, .int 0, .ref (b 2), .ref (b 3), .ref (b 4), .ref (b 5), .int 0, .int 0, .ref (b 6)]))]) := hD
    have hK : va_K (dC, dI) vwCl [] s := hK
    have hw9 : r8 = bI (0 < 0) := hw9
    obtain rfl : r8 = 0 := hw9.trans (by decide)
    refine lv_if_eq (tgt := 26) hx hb dX6_lorries_21 (by decide) (fun _ => ?_) (fun cx => by first | exact absurd (by decide) cx | exact absurd cx (by decide))
    refine lv_aload_n hx hb dX6_lorries_26 rfl (lv_at hl 0 rfl) ?_
    refine lv_sipush (v := 500) hx hb dX6_lorries_27 (by decide) ?_
    refine lv_aload_n hx hb dX6_lorries_30 rfl (lv_at hl 0 rfl) ?_
    refine va_get (D := (dC, dI)) (ci := 10) (v := .int 0) (C := RX6) (T := TX6) (N := 11) hx hb hts (by decide +kernel) hown hK hP 0 rfl rfl 8 (by decide) (hts (.fieldLink RX6 89 "SnowpalaceModel" "stored" "I") (by decide +kernel)) (fun _ h9 => h9) rfl dX6_lorries_31 ?_
    refine lv_iconst (v := 5) hx hb dX6_lorries_34 (by decide) ?_
    refine lv_iload_n hx hb dX6_lorries_35 rfl (lv_at hl 1 rfl) ?_
    refine lv_imul hx hb dX6_lorries_36 ?_
    refine lv_topi (fun v10 e11 => ?_)
    refine lv_iadd hx hb dX6_lorries_37 ?_
    refine lv_topi (fun v12 e13 => ?_)
    refine va_mmin hx hb (hml.trans hl.1.symm) hown (hts (.methodLink RX6 76 Lib.Math.min.name) (by decide +kernel)) (hts (.static Lib.Math.min.name) (by decide +kernel)) (hts (.initialized "java/lang/Math") (by decide +kernel)) (hts (.code Lib.Math.min.name Lib.Math.min.code 2 (some .int)) (by decide +kernel)) (Nat.le_of_ble_eq_true rfl) (Nat.le_of_ble_eq_true rfl) (Nat.le_of_ble_eq_true rfl) (Nat.le_of_ble_eq_true rfl) dX6_lorries_38 ?_
    refine lv_topi (fun v14 e15 => ?_)
    refine va_put (D := (dC, dI)) (ci := 10) (v := .int v14) (ty := .int) (C := RX6) (T := TX6) (N := 11) hx hb hts (by decide +kernel) tyX6 tyX6_ok nmX6 hown hK hP hD hS 0 rfl rfl 8 (by decide) (hts (.fieldLink RX6 89 "SnowpalaceModel" "stored" "I") (by decide +kernel)) (fun _ h9 => h9) rfl (by decide +kernel) rfl rfl (Nat.le_of_ble_eq_true rfl) dX6_lorries_41 (fun H locs hP hD hS => ?_)
    have hP : va_P (dC, dI) vwCl ([((b 0), .inr (10, [.int 0, .ref (b 1), .int 0, .int 0, .ref (b 2), .ref (b 3), .ref (b 4), .ref (b 5), .int v14, .int 0, .ref (b 6)]))]) H := hP
    have hD : va_D A ([((b 0), .inr (10, [.int 0, .ref (b 1), .int 0, .int 0, .ref (b 2), .ref (b 3), .ref (b 4), .ref (b 5), .int v14, .int 0, .ref (b 6)]))]) := hD
    refine lv_aload_n hx hb dX6_lorries_44 rfl (lv_at hl 0 rfl) ?_
    refine lv_dup hx hb dX6_lorries_45 rfl ?_
    refine va_get (D := (dC, dI)) (ci := 10) (v := .int 0) (C := RX6) (T := TX6) (N := 11) hx hb hts (by decide +kernel) hown hK hP 0 rfl rfl 3 (by decide) (hts (.fieldLink RX6 100 "SnowpalaceModel" "money" "I") (by decide +kernel)) (fun _ h9 => h9) rfl dX6_lorries_46 ?_
    refine lv_bipush (v := 100) hx hb dX6_lorries_49 (by decide) ?_
    refine lv_iload_n hx hb dX6_lorries_51 rfl (lv_at hl 1 rfl) ?_
    refine lv_imul hx hb dX6_lorries_52 ?_
    refine lv_topi (fun v16 e17 => ?_)
    refine lv_isub hx hb dX6_lorries_53 ?_
    refine lv_topi (fun v18 e19 => ?_)
    refine va_put (D := (dC, dI)) (ci := 10) (v := .int v18) (ty := .int) (C := RX6) (T := TX6) (N := 11) hx hb hts (by decide +kernel) tyX6 tyX6_ok nmX6 hown hK hP hD hS 0 rfl rfl 3 (by decide) (hts (.fieldLink RX6 100 "SnowpalaceModel" "money" "I") (by decide +kernel)) (fun _ h9 => h9) rfl (by decide +kernel) rfl rfl (Nat.le_of_ble_eq_true rfl) dX6_lorries_54 (fun H locs hP hD hS => ?_)
    have hP : va_P (dC, dI) vwCl ([((b 0), .inr (10, [.int 0, .ref (b 1), .int 0, .int v18, .ref (b 2), .ref (b 3), .ref (b 4), .ref (b 5), .int v14, .int 0, .ref (b 6)]))]) H := hP
    have hD : va_D A ([((b 0), .inr (10, [.int 0, .ref (b 1), .int 0, .int v18, .ref (b 2), .ref (b 3), .ref (b 4), .ref (b 5), .int v14, .int 0, .ref (b 6)]))]) := hD
    refine lv_aload_n hx hb dX6_lorries_57 rfl (lv_at hl 0 rfl) ?_
    refine va_get (D := (dC, dI)) (ci := 10) (v := .int v14) (C := RX6) (T := TX6) (N := 11) hx hb hts (by decide +kernel) hown hK hP 0 rfl rfl 8 (by decide) (hts (.fieldLink RX6 89 "SnowpalaceModel" "stored" "I") (by decide +kernel)) (fun _ h9 => h9) rfl dX6_lorries_58 ?_
    refine W.widen (k := 0) (n := 0) (Nat.le_of_ble_eq_true rfl) (Nat.le_of_ble_eq_true rfl) ?_
    exact W.iret (v := v14) hx hb hr (fun t ht hW => ⟨⟨v14, (0, [.ref (b 1), .int 0, .int v18, .ref (b 2), .ref (b 3), .ref (b 4), .ref (b 5), .int v14, .int 0, .ref (b 6)]), rfl, Or.inl ⟨by omega, rfl, by rw [e15, e13, e11]; rfl⟩, BW.end hP hK hD [0] [] rfl rfl rfl rfl ht hW⟩, hS.F ht⟩) hS.2.2 dX6_lorries_61

