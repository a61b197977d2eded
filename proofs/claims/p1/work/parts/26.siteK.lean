set_option maxHeartbeats 4000000 in
set_option maxRecDepth 100000 in
theorem k_site (l : Launch) (dC : Nat → ClassId) (dI : Nat → Nat → Nat) (sz : Nat) (a : Nat → Nat) (cI cS : ClassId)   : Met l yX3_site wsX3_site ({ frames := 2, cells := 9, slots := 399, locals := 33 }) (va_Pc [.ref (a 0)] (PW dC dI ([((a 0), .inr (7, [.ref (a 1), .ref (a 2), .ref (a 3), .int 0, .int 0, .int 0, .int 0, .int 0, .int 0, .int 0])), ((a 3), .inl (cS, 3, .inr (.inr (.inr (.inr (fun _ => none))))))]) [(cI, .int), (cS, .object "Snowpalace$Site")] sz)) (va_Qi (fun (r : Int32) (u : Unit) => r = 0) (fun (u : Unit) t => True) (va_A ([((a 0), .inr (7, [.ref (a 1), .ref (a 2), .ref (a 3), .int 0, .int 0, .int 0, .int 0, .int 0, .int 0, .int 0])), ((a 3), .inl (cS, 3, .inr (.inr (.inr (.inr (fun _ => none))))))]) sz)) 9 399 (va_A ([((a 0), .inr (7, [.ref (a 1), .ref (a 2), .ref (a 3), .int 0, .int 0, .int 0, .int 0, .int 0, .int 0, .int 0])), ((a 3), .inl (cS, 3, .inr (.inr (.inr (.inr (fun _ => none))))))]) sz) := by
  refine Met.ofW (cc := cX3_site) (maxL := 1) (ret := (some .int)) (by decide +kernel) rfl ?_
  intro p e s m args below meth c s₁ B hml hv
  obtain ⟨rfl, hsz, hP, hK, hD0⟩ := hv
  have hx := B.exec
  have hb := B.bytes
  have hr := B.returns
  have hts := atoms_spec (ws := wsX3_site) B.pre
  have hown : s.vm.findClass RX3 = some m.cls := findClass_of_methodNamed B.named
  have hlocks := B.notSynchronized
  subst hsz
  have hD := hD0.self (sz := s.heap.size)
  generalize hAe : va_A ([((a 0), .inr (7, [.ref (a 1), .ref (a 2), .ref (a 3), .int 0, .int 0, .int 0, .int 0, .int 0, .int 0, .int 0])), ((a 3), .inl (cS, 3, .inr (.inr (.inr (.inr (fun _ => none))))))]) s.heap.size = A at hD ⊢
  have hA : ∀ q : Nat, s.heap.size ≤ q → A q := fun q h => by rw [← hAe]; exact Or.inr h
  have hS : va_S A s.heap s.heap [] := va_S.rf
  have hl := lv_entry ([.ref (a 0)]) (n := 1) (Nat.le_of_ble_eq_true rfl)
  rw [lg_entry_eq]
  generalize (lg_sl ([.ref (a 0)]) ++ List.replicate (1 - (lg_sl ([.ref (a 0)])).length) Slot.unset).toArray = ls at hl ⊢
  have hl : lv_has ls 1 [(0, .ref (a 0))] := hl
  refine lv_aload_n hx hb dX3_site_0 rfl (lv_at hl 0 rfl) ?_
  refine va_get (D := (dC, dI)) (ci := 7) (v := .int 0) (C := RX3) (T := TX3) (N := 10) hx hb hts (by decide +kernel) hown hK hP 0 rfl rfl 3 (by decide) (hts (.fieldLink RX3 29 "Snowpalace" "siteCount" "I") (by decide +kernel)) (fun _ h9 => h9) rfl dX3_site_1 ?_
  refine lv_iconst (v := 3) hx hb dX3_site_4 (by decide) ?_
  refine lv_icmp_lt (tgt := 18) hx hb dX3_site_5 (by decide) (fun _ => ?_) (fun cx => by first | exact absurd (by decide) cx | exact absurd cx (by decide))
  refine lv_aload_n hx hb dX3_site_18 rfl (lv_at hl 0 rfl) ?_
  refine va_get (D := (dC, dI)) (ci := 7) (v := .ref (a 3)) (C := RX3) (T := TX3) (N := 10) hx hb hts (by decide +kernel) hown hK hP 0 rfl rfl 2 (by decide) (hts (.fieldLink RX3 25 "Snowpalace" "sites" "[LSnowpalace$Site;") (by decide +kernel)) (fun _ h9 => h9) rfl dX3_site_19 ?_
  refine lv_aload_n hx hb dX3_site_22 rfl (lv_at hl 0 rfl) ?_
  refine va_get (D := (dC, dI)) (ci := 7) (v := .int 0) (C := RX3) (T := TX3) (N := 10) hx hb hts (by decide +kernel) hown hK hP 0 rfl rfl 3 (by decide) (hts (.fieldLink RX3 29 "Snowpalace" "siteCount" "I") (by decide +kernel)) (fun _ h9 => h9) rfl dX3_site_23 ?_
  refine va_new (D := (dC, dI)) (ci := 5) (fs := [.null, .null, .null, .null, .null, .null, .null, .null, .int 0, .int 0, .int 0, .int 0, .int 0, .int 0, .double 0]) (C := RX1) (T := TX1) (N := 15) hx hb hts (by decide +kernel) tyX1 tyX1_ok hown (hts (.classLink RX3 23 RX1) (by decide +kernel)) (hts (.instantiable RX1 15) (by decide +kernel)) (hts (.initialized RX1) (by decide +kernel)) hK hP hD hS hA rfl (fun j hj => by rcases (show j = 0 ∨ j = 1 ∨ j = 2 ∨ j = 3 ∨ j = 4 ∨ j = 5 ∨ j = 6 ∨ j = 7 ∨ j = 8 ∨ j = 9 ∨ j = 10 ∨ j = 11 ∨ j = 12 ∨ j = 13 ∨ j = 14 by omega) with rfl | rfl | rfl | rfl | rfl | rfl | rfl | rfl | rfl | rfl | rfl | rfl | rfl | rfl | rfl <;> rfl) (Nat.le_of_ble_eq_true rfl) (Nat.le_of_ble_eq_true rfl) dX3_site_26 (fun q1 H hP hD hS => ?_)
  have hP : va_P (dC, dI) vwCl ([((a 0), .inr (7, [.ref (a 1), .ref (a 2), .ref (a 3), .int 0, .int 0, .int 0, .int 0, .int 0, .int 0, .int 0])), ((a 3), .inl (cS, 3, .inr (.inr (.inr (.inr (fun _ => none)))))), (q1, .inr (5, [.null, .null, .null, .null, .null, .null, .null, .null, .int 0, .int 0, .int 0, .int 0, .int 0, .int 0, .double 0]))]) H := hP
  have hD : va_D A ([((a 0), .inr (7, [.ref (a 1), .ref (a 2), .ref (a 3), .int 0, .int 0, .int 0, .int 0, .int 0, .int 0, .int 0])), ((a 3), .inl (cS, 3, .inr (.inr (.inr (.inr (fun _ => none)))))), (q1, .inr (5, [.null, .null, .null, .null, .null, .null, .null, .null, .int 0, .int 0, .int 0, .int 0, .int 0, .int 0, .double 0]))]) := hD
  refine lv_dup hx hb dX3_site_29 rfl ?_
  have hFc := va_free (wc := [(q1, .inr (5, [.null, .null, .null, .null, .null, .null, .null, .null, .int 0, .int 0, .int 0, .int 0, .int 0, .int 0, .double 0]))]) hD hS hA [2] rfl
  refine va_callv (va_runI (As := []) (rest := [.ref q1, .int 0, .ref (a 3)]) ⟨hx, hb, hml, hown, hts⟩ (c_site l dC dI _ cI q1) (cwI 0 hts gX3_site_X1_init rfl rfl rfl (hts (.initialized RX1) (by decide +kernel)) (hts (.methodLink RX3 130 yX1_init) (by decide +kernel)) (hts (.instanceMethod yX1_init) (by decide +kernel)) rfl (by decide +kernel) ⟨Nat.le_of_ble_eq_true rfl, Nat.le_of_ble_eq_true rfl⟩) ⟨fb_PW, fun U hU hW => ⟨rfl, PW.give hP hK hD [2] [0] rfl rfl rfl rfl hU hW⟩⟩ rfl rfl hl.1 rfl (lv_room (Nat.le_of_ble_eq_true rfl)) dX3_site_30 ⟨(Nat.le_of_ble_eq_true rfl), (Nat.le_of_ble_eq_true rfl)⟩) hS (fun q _ h => hFc q h) hFc (fun u t H locs ht hvm hw3 hB hz1 hk1 hS => ?_)
  obtain ⟨vs4, hu0⟩ : ∃ z, z = u := ⟨_, rfl⟩
  subst hu0
  obtain ⟨hP, hD, hK⟩ := aft [2] [0, 1] hP hK hD rfl (wr := [((a 0), .inr (7, [.ref (a 1), .ref (a 2), .ref (a 3), .int 0, .int 0, .int 0, .int 0, .int 0, .int 0, .int 0])), ((a 3), .inl (cS, 3, .inr (.inr (.inr (.inr (fun _ => none))))))]) rfl rfl (by decide) hFc hB ht hvm hk1
  have hP : va_P (dC, dI) vwCl ([((a 0), .inr (7, [.ref (a 1), .ref (a 2), .ref (a 3), .int 0, .int 0, .int 0, .int 0, .int 0, .int 0, .int 0])), ((a 3), .inl (cS, 3, .inr (.inr (.inr (.inr (fun _ => none)))))), (q1, .inr (5, vs4))]) H := hP
  have hD : va_D A ([((a 0), .inr (7, [.ref (a 1), .ref (a 2), .ref (a 3), .int 0, .int 0, .int 0, .int 0, .int 0, .int 0, .int 0])), ((a 3), .inl (cS, 3, .inr (.inr (.inr (.inr (fun _ => none)))))), (q1, .inr (5, vs4))]) := hD
  have hK : va_K (dC, dI) vwCl [(cI, .int), (cS, .object "Snowpalace$Site")] s := hK.sub [0, 1] rfl
  refine va_astq (D := (dC, dI)) hx hb hK hP hD hS 1 1 2 5 rfl rfl rfl rfl (by unfold vp_in; decide) dX3_site_33 (fun H locs hP hD hS => ?_)
  have hP : va_P (dC, dI) vwCl ([((a 0), .inr (7, [.ref (a 1), .ref (a 2), .ref (a 3), .int 0, .int 0, .int 0, .int 0, .int 0, .int 0, .int 0])), ((a 3), .inl (cS, 3, .inr (.inr (.inr (.inr (va_up (fun _ => none) (0 : Int32).toNatClampNeg (some q1))))))), (q1, .inr (5, vs4))]) H := hP
  have hD : va_D A ([((a 0), .inr (7, [.ref (a 1), .ref (a 2), .ref (a 3), .int 0, .int 0, .int 0, .int 0, .int 0, .int 0, .int 0])), ((a 3), .inl (cS, 3, .inr (.inr (.inr (.inr (va_up (fun _ => none) (0 : Int32).toNatClampNeg (some q1))))))), (q1, .inr (5, vs4))]) := hD
  refine lv_aload_n hx hb dX3_site_34 rfl (lv_at hl 0 rfl) ?_
  refine lv_dup hx hb dX3_site_35 rfl ?_
  refine va_get (D := (dC, dI)) (ci := 7) (v := .int 0) (C := RX3) (T := TX3) (N := 10) hx hb hts (by decide +kernel) hown hK hP 0 rfl rfl 3 (by decide) (hts (.fieldLink RX3 29 "Snowpalace" "siteCount" "I") (by decide +kernel)) (fun _ h9 => h9) rfl dX3_site_36 ?_
  refine lv_iconst (v := 1) hx hb dX3_site_39 (by decide) ?_
  refine lv_iadd hx hb dX3_site_40 ?_
  refine lv_topi (fun v5 e6 => ?_)
  obtain rfl : v5 = (1 : Int32) := e6.trans (by decide)
  refine va_put (D := (dC, dI)) (ci := 7) (v := .int 1) (ty := .int) (C := RX3) (T := TX3) (N := 10) hx hb hts (by decide +kernel) tyX3 tyX3_ok nmX3 hown hK hP hD hS 0 rfl rfl 3 (by decide) (hts (.fieldLink RX3 29 "Snowpalace" "siteCount" "I") (by decide +kernel)) (fun _ h9 => h9) rfl (by decide +kernel) rfl rfl (Nat.le_of_ble_eq_true rfl) dX3_site_41 (fun H locs hP hD hS => ?_)
  have hP : va_P (dC, dI) vwCl ([((a 0), .inr (7, [.ref (a 1), .ref (a 2), .ref (a 3), .int 1, .int 0, .int 0, .int 0, .int 0, .int 0, .int 0])), ((a 3), .inl (cS, 3, .inr (.inr (.inr (.inr (va_up (fun _ => none) (0 : Int32).toNatClampNeg (some q1))))))), (q1, .inr (5, vs4))]) H := hP
  have hD : va_D A ([((a 0), .inr (7, [.ref (a 1), .ref (a 2), .ref (a 3), .int 1, .int 0, .int 0, .int 0, .int 0, .int 0, .int 0])), ((a 3), .inl (cS, 3, .inr (.inr (.inr (.inr (va_up (fun _ => none) (0 : Int32).toNatClampNeg (some q1))))))), (q1, .inr (5, vs4))]) := hD
  refine lv_aload_n hx hb dX3_site_44 rfl (lv_at hl 0 rfl) ?_
  refine va_get (D := (dC, dI)) (ci := 7) (v := .int 1) (C := RX3) (T := TX3) (N := 10) hx hb hts (by decide +kernel) hown hK hP 0 rfl rfl 3 (by decide) (hts (.fieldLink RX3 29 "Snowpalace" "siteCount" "I") (by decide +kernel)) (fun _ h9 => h9) rfl dX3_site_45 ?_
  refine lv_iconst (v := 1) hx hb dX3_site_48 (by decide) ?_
  refine lv_isub hx hb dX3_site_49 ?_
  refine lv_topi (fun v7 e8 => ?_)
  obtain rfl : v7 = (0 : Int32) := e8.trans (by decide)
  refine W.widen (k := 9) (n := 399) (Nat.le_of_ble_eq_true rfl) (Nat.le_of_ble_eq_true rfl) ?_
  exact W.iret (v := 0) hx hb hr (fun t ht hW => ⟨⟨0, (), rfl, rfl, trivial⟩, hS.F ht⟩) hS.2.2 dX3_site_50

