set_option maxHeartbeats 4000000 in
set_option maxRecDepth 100000 in
theorem m_openShare (l : Launch) (dC : Nat → ClassId) (dI : Nat → Nat → Nat) (sz : Nat) (b : Nat → Nat) (eD : Nat)   : Met l yX6_openShare wsX6_openShare ({ frames := 3, cells := 1, slots := 4, locals := 53 }) (va_Pc [.ref (b 0)] (PM dC dI ([((b 0), .inr (10, [.int 0, .ref (b 1), .int 0, .int 0, .ref (b 2), .ref (b 3), .ref (b 4), .ref (b 5), .int 0, .int 0, .ref (b 6)])), ((b 6), .inr (3, [.int 0, .ref eD, .int 0]))]) [] sz)) (va_Qf (fun (r : UInt32) (u : Unit) => True) (fun (u : Unit) t => BW dC dI (va_A ([((b 0), .inr (10, [.int 0, .ref (b 1), .int 0, .int 0, .ref (b 2), .ref (b 3), .ref (b 4), .ref (b 5), .int 0, .int 0, .ref (b 6)])), ((b 6), .inr (3, [.int 0, .ref eD, .int 0]))]) sz) [((b 6), .inr (3, [.int 0, .ref eD, .int 0])), ((b 0), .inr (10, [.int 1, .ref (b 1), .int 0, .int 0, .ref (b 2), .ref (b 3), .ref (b 4), .ref (b 5), .int 0, .int 0, .ref (b 6)]))] [] t) (va_A ([((b 0), .inr (10, [.int 0, .ref (b 1), .int 0, .int 0, .ref (b 2), .ref (b 3), .ref (b 4), .ref (b 5), .int 0, .int 0, .ref (b 6)])), ((b 6), .inr (3, [.int 0, .ref eD, .int 0]))]) sz)) 1 4 (va_A ([((b 0), .inr (10, [.int 0, .ref (b 1), .int 0, .int 0, .ref (b 2), .ref (b 3), .ref (b 4), .ref (b 5), .int 0, .int 0, .ref (b 6)])), ((b 6), .inr (3, [.int 0, .ref eD, .int 0]))]) sz) := by
  refine Met.ofW (cc := cX6_openShare) (maxL := 4) (ret := (some .float)) (by decide +kernel) rfl ?_
  intro p e s m args below meth c s₁ B hml hv
  obtain ⟨rfl, ⟨hsz, hP, hK, hD0⟩, hM⟩ := hv
  have hx := B.exec
  have hb := B.bytes
  have hr := B.returns
  have hts := atoms_spec (ws := wsX6_openShare) B.pre
  have hown : s.vm.findClass RX6 = some m.cls := findClass_of_methodNamed B.named
  have hlocks := B.notSynchronized
  subst hsz
  have hD := hD0.self (sz := s.heap.size)
  generalize hAe : va_A ([((b 0), .inr (10, [.int 0, .ref (b 1), .int 0, .int 0, .ref (b 2), .ref (b 3), .ref (b 4), .ref (b 5), .int 0, .int 0, .ref (b 6)])), ((b 6), .inr (3, [.int 0, .ref eD, .int 0]))]) s.heap.size = A at hD ⊢
  have hA : ∀ q : Nat, s.heap.size ≤ q → A q := fun q h => by rw [← hAe]; exact Or.inr h
  have hS : va_S A s.heap s.heap [] := va_S.rf
  have hl := lv_entry ([.ref (b 0)]) (n := 4) (Nat.le_of_ble_eq_true rfl)
  rw [lg_entry_eq]
  generalize (lg_sl ([.ref (b 0)]) ++ List.replicate (4 - (lg_sl ([.ref (b 0)])).length) Slot.unset).toArray = ls at hl ⊢
  have hl : lv_has ls 4 [(0, .ref (b 0))] := hl
  have hN : NS s := hM.2.2.2.2.2.2
  refine lv_iconst (v := 0) hx hb dX6_openShare_0 (by decide) ?_
  refine lv_istore_n (lv' := [(1, .int 0), (0, .ref (b 0))]) hx hb dX6_openShare_1 rfl hl (by decide) rfl (fun ls hl => ?_)
  refine lv_aload_n hx hb dX6_openShare_2 rfl (lv_at hl 1 rfl) ?_
  refine va_get (D := (dC, dI)) (ci := 10) (v := .ref (b 6)) (C := RX6) (T := TX6) (N := 11) hx hb hts (by decide +kernel) hown hK hP 0 rfl rfl 10 (by decide) (hts (.fieldLink RX6 34 "SnowpalaceModel" "sites" "Ljava/util/List;") (by decide +kernel)) (fun _ h9 => h9) rfl dX6_openShare_3 ?_
  have hFc := va_free (wc := [((b 6), .inr (3, [.int 0, .ref eD, .int 0]))]) hD hS hA [1] rfl
  refine va_callFr (va_runF (hK.1 3 _ rfl).2 (As := []) (rest := []) ⟨hx, hb, hml, hown, hts⟩ (j_iter l dC dI _ b eD) (va_cwF 0 hts gX6_openShare_Jx4a65c_iterator_32c93_f109Jx4a65c rfl rfl rfl hM.2.1 (by decide +kernel) ⟨Nat.le_of_ble_eq_true rfl, Nat.le_of_ble_eq_true rfl⟩) ⟨fb_PW, va_recv hK hP (ci := 3) (q0 := 1) rfl rfl, fun U hU hW => ⟨rfl, PW.give hP hK hD [1] [] rfl rfl rfl rfl hU hW⟩⟩ rfl rfl hl.1 rfl (lv_room (Nat.le_of_ble_eq_true rfl)) dX6_openShare_6 ⟨(Nat.le_of_ble_eq_true rfl), (Nat.le_of_ble_eq_true rfl)⟩) hS (fun q _ h => hFc q h) hFc (fun u r1 t H locs ht hvm hw2 hB hz1 hk1 hS => ?_)
  obtain ⟨hP, hD, hK⟩ := aft [1] [0] hP hK hD rfl (wr := [((b 0), .inr (10, [.int 0, .ref (b 1), .int 0, .int 0, .ref (b 2), .ref (b 3), .ref (b 4), .ref (b 5), .int 0, .int 0, .ref (b 6)]))]) rfl rfl (by decide) hFc hB ht hvm hk1
  have hP : va_P (dC, dI) vwCl ([((b 0), .inr (10, [.int 0, .ref (b 1), .int 0, .int 0, .ref (b 2), .ref (b 3), .ref (b 4), .ref (b 5), .int 0, .int 0, .ref (b 6)])), (r1, .inr (2, [.int 0, .int (-1), .int 0, .ref (b 6)])), ((b 6), .inr (3, [.int 0, .ref eD, .int 0]))]) H := hP
  have hD : va_D A ([((b 0), .inr (10, [.int 0, .ref (b 1), .int 0, .int 0, .ref (b 2), .ref (b 3), .ref (b 4), .ref (b 5), .int 0, .int 0, .ref (b 6)])), (r1, .inr (2, [.int 0, .int (-1), .int 0, .ref (b 6)])), ((b 6), .inr (3, [.int 0, .ref eD, .int 0]))]) := hD
  have hK : va_K (dC, dI) vwCl [] s := hK.sub [] rfl
  refine lv_astore_n (lv' := [(2, .ref r1), (1, .int 0), (0, .ref (b 0))]) hx hb dX6_openShare_11 rfl hl (by decide) rfl (fun ls hl => ?_)
  refine lv_aload_n hx hb dX6_openShare_12 rfl (lv_at hl 0 rfl) ?_
  refine va_callFi (va_runF (hK.1 2 _ rfl).2 (As := []) (rest := []) ⟨hx, hb, hml, hown, hts⟩ (j_hasNext l dC dI _ b eD r1) (va_cwF 0 hts gX6_openShare_Jx35411_hasNext_aae02_f115Jx35411 rfl rfl rfl hM.2.2.1 (by decide +kernel) ⟨Nat.le_of_ble_eq_true rfl, Nat.le_of_ble_eq_true rfl⟩) ⟨fb_PN, va_recv hK hP (ci := 2) (q0 := 1) rfl rfl, fun U hU hW => ⟨rfl, PN.give hP hK hD hN [1, 2] [] rfl rfl rfl rfl hU hW⟩⟩ rfl rfl hl.1 rfl (lv_room (Nat.le_of_ble_eq_true rfl)) dX6_openShare_13 ⟨(Nat.le_of_ble_eq_true rfl), (Nat.le_of_ble_eq_true rfl)⟩) hS (fun q _ h => h.elim) (fun q h => h.elim) (fun r3 u t H locs ht hvm hw4 hB hz1 hk1 hS => ?_)
  have hP := kp_P hP hk1
  have hP : va_P (dC, dI) vwCl ([((b 0), .inr (10, [.int 0, .ref (b 1), .int 0, .int 0, .ref (b 2), .ref (b 3), .ref (b 4), .ref (b 5), .int 0, .int 0, .ref (b 6)])), (r1, .inr (2, [.int 0, .int (-1), .int 0, .ref (b 6)])), ((b 6), .inr (3, [.int 0, .ref eD, .int 0]))]) H := hP
  have hD : va_D A ([((b 0), .inr (10, [.int 0, .ref (b 1), .int 0, .int 0, .ref (b 2), .ref (b 3), .ref (b 4), .ref (b 5), .int 0, .int 0, .ref (b 6)])), (r1, .inr (2, [.int 0, .int (-1), .int 0, .ref (b 6)])), ((b 6), .inr (3, [.int 0, .ref eD, .int 0]))]) := hD
  obtain rfl : r3 = 0 := hw4
  refine lv_if_eq (tgt := 51) hx hb dX6_openShare_18 (by decide) (fun _ => ?_) (fun cx => by first | exact absurd (by decide) cx | exact absurd cx (by decide))
  refine lv_aload_n hx hb dX6_openShare_51 rfl (lv_at hl 2 rfl) ?_
  refine lv_aload_n hx hb dX6_openShare_52 rfl (lv_at hl 2 rfl) ?_
  refine va_get (D := (dC, dI)) (ci := 10) (v := .ref (b 6)) (C := RX6) (T := TX6) (N := 11) hx hb hts (by decide +kernel) hown hK hP 0 rfl rfl 10 (by decide) (hts (.fieldLink RX6 34 "SnowpalaceModel" "sites" "Ljava/util/List;") (by decide +kernel)) (fun _ h9 => h9) rfl dX6_openShare_53 ?_
  refine va_callFi (va_runF (hK.1 3 _ rfl).2 (As := []) (rest := [.ref (b 0)]) ⟨hx, hb, hml, hown, hts⟩ (j_isEmpty l dC dI _ b eD) (va_cwF 0 hts gX6_openShare_Jx4a65c_isEmpty_aae02_f272Jx4a65c rfl rfl rfl hM.2.2.2.1 (by decide +kernel) ⟨Nat.le_of_ble_eq_true rfl, Nat.le_of_ble_eq_true rfl⟩) ⟨fb_PW, va_recv hK hP (ci := 3) (q0 := 2) rfl rfl, fun U hU hW => ⟨rfl, PW.give hP hK hD [2] [] rfl rfl rfl rfl hU hW⟩⟩ rfl rfl hl.1 rfl (lv_room (Nat.le_of_ble_eq_true rfl)) dX6_openShare_56 ⟨(Nat.le_of_ble_eq_true rfl), (Nat.le_of_ble_eq_true rfl)⟩) hS (fun q _ h => h.elim) (fun q h => h.elim) (fun r5 u t H locs ht hvm hw6 hB hz1 hk1 hS => ?_)
  have hP := kp_P hP hk1
  have hP : va_P (dC, dI) vwCl ([((b 0), .inr (10, [.int 0, .ref (b 1), .int 0, .int 0, .ref (b 2), .ref (b 3), .ref (b 4), .ref (b 5), .int 0, .int 0, .ref (b 6)])), (r1, .inr (2, [.int 0, .int (-1), .int 0, .ref (b 6)])), ((b 6), .inr (3, [.int 0, .ref eD, .int 0]))]) H := hP
  have hD : va_D A ([((b 0), .inr (10, [.int 0, .ref (b 1), .int 0, .int 0, .ref (b 2), .ref (b 3), .ref (b 4), .ref (b 5), .int 0, .int 0, .ref (b 6)])), (r1, .inr (2, [.int 0, .int (-1), .int 0, .ref (b 6)])), ((b 6), .inr (3, [.int 0, .ref eD, .int 0]))]) := hD
  obtain rfl : r5 = 1 := hw6
  refine lv_if_eq (tgt := 68) hx hb dX6_openShare_61 (by decide) (fun cx => by first | exact absurd cx (by decide) | exact absurd (by decide) cx) (fun _ => ?_)
  refine lv_iconst (v := 1) hx hb dX6_openShare_64 (by decide) ?_
  refine lv_goto (tgt := 69) hx hb dX6_openShare_65 (by decide) ?_
  have hFc := va_free (wc := [((b 0), .inr (10, [.int 0, .ref (b 1), .int 0, .int 0, .ref (b 2), .ref (b 3), .ref (b 4), .ref (b 5), .int 0, .int 0, .ref (b 6)]))]) hD hS hA [0] rfl
  refine va_calli (va_runV (As := [.int 1]) (rest := []) ⟨hx, hb, hml, hown, hts⟩ (m_isWrong l dC dI _ (b 0) 0 [.ref (b 1), .int 0, .int 0, .ref (b 2), .ref (b 3), .ref (b 4), .ref (b 5), .int 0, .int 0, .ref (b 6)] 1) (cwV 1 hts gX6_openShare_X6_isWrong rfl rfl rfl (by decide +kernel) ⟨Nat.le_of_ble_eq_true rfl, Nat.le_of_ble_eq_true rfl⟩) ⟨fb_PW, va_recv hK hP (ci := 10) (q0 := 0) rfl rfl, fun U hU hW => ⟨rfl, PW.give hP hK hD [0] [] rfl rfl rfl rfl hU hW⟩⟩ rfl rfl hl.1 rfl (lv_room (Nat.le_of_ble_eq_true rfl)) dX6_openShare_69 ⟨(Nat.le_of_ble_eq_true rfl), (Nat.le_of_ble_eq_true rfl)⟩) hS (fun q _ h => hFc q h) hFc (fun r7 u t H locs ht hvm hw8 hB hz1 hk1 hS => ?_)
  obtain ⟨hP, hD, hK⟩ := aft [0] [1, 2] hP hK hD rfl (wr := [(r1, .inr (2, [.int 0, .int (-1), .int 0, .ref (b 6)])), ((b 6), .inr (3, [.int 0, .ref eD, .int 0]))]) rfl rfl (by decide) hFc hB ht hvm hk1
  have hP : va_P (dC, dI) vwCl ([(r1, .inr (2, [.int 0, .int (-1), .int 0, .ref (b 6)])), ((b 6), .inr (3, [.int 0, .ref eD, .int 0])), ((b 0), .inr (10, [.int 1, .ref (b 1), .int 0, .int 0, .ref (b 2), .ref (b 3), .ref (b 4), .ref (b 5), .int 0, .int 0, .ref (b 6)]))]) H := hP
  have hD : va_D A ([(r1, .inr (2, [.int 0, .int (-1), .int 0, .ref (b 6)])), ((b 6), .inr (3, [.int 0, .ref eD, .int 0])), ((b 0), .inr (10, [.int 1, .ref (b 1), .int 0, .int 0, .ref (b 2), .ref (b 3), .ref (b 4), .ref (b 5), .int 0, .int 0, .ref (b 6)]))]) := hD
  have hK : va_K (dC, dI) vwCl [] s := hK
  have hw8 : r7 = bI (0 < 1) := hw8
  obtain rfl : r7 = 1 := hw8.trans (by decide)
  refine lv_if_eq (tgt := 79) hx hb dX6_openShare_72 (by decide) (fun cx => by first | exact absurd cx (by decide) | exact absurd (by decide) cx) (fun _ => ?_)
  refine lv_fconst0 hx hb dX6_openShare_75 ?_
  refine lv_goto (tgt := 92) hx hb dX6_openShare_76 (by decide) ?_
  refine W.widen (k := 1) (n := 4) (Nat.le_of_ble_eq_true rfl) (Nat.le_of_ble_eq_true rfl) ?_
  exact W.fret (v := FP.fconst0) hx hb hr (fun t ht hW => ⟨⟨FP.fconst0, (), rfl, trivial, BW.end hP hK hD [1, 2] [] rfl rfl rfl rfl ht hW⟩, hS.F ht⟩) hS.2.2 dX6_openShare_92

set_option maxHeartbeats 4000000 in
set_option maxRecDepth 100000 in
theorem m_checksum (l : Launch) (dC : Nat → ClassId) (dI : Nat → Nat → Nat) (sz : Nat) (b : Nat → Nat) (cI : ClassId) (eD : Nat)   : Met l yX6_checksum wsX6_checksum ({ frames := 3, cells := 1, slots := 4, locals := 53 }) (va_Pc [.ref (b 0)] (PM dC dI ([((b 0), .inr (10, [.int 0, .ref (b 1), .int 0, .int 0, .ref (b 2), .ref (b 3), .ref (b 4), .ref (b 5), .int 0, .int 0, .ref (b 6)])), ((b 2), .inl (cI, 4, .inl (fun _ => 0))), ((b 6), .inr (3, [.int 0, .ref eD, .int 0]))]) [(cI, .int)] sz)) (va_Ql (fun (r : Int64) (u : Unit) => r = 6212525767) (fun (u : Unit) t => True) (va_A ([((b 0), .inr (10, [.int 0, .ref (b 1), .int 0, .int 0, .ref (b 2), .ref (b 3), .ref (b 4), .ref (b 5), .int 0, .int 0, .ref (b 6)])), ((b 2), .inl (cI, 4, .inl (fun _ => 0))), ((b 6), .inr (3, [.int 0, .ref eD, .int 0]))]) sz)) 1 4 (va_A ([((b 0), .inr (10, [.int 0, .ref (b 1), .int 0, .int 0, .ref (b 2), .ref (b 3), .ref (b 4), .ref (b 5), .int 0, .int 0, .ref (b 6)])), ((b 2), .inl (cI, 4, .inl (fun _ => 0))), ((b 6), .inr (3, [.int 0, .ref eD, .int 0]))]) sz) := by
  refine Met.ofW (cc := cX6_checksum) (maxL := 13) (ret := (some .long)) (by decide +kernel) rfl ?_
  intro p e s m args below meth c s₁ B hml hv
  obtain ⟨rfl, ⟨hsz, hP, hK, hD0⟩, hM⟩ := hv
  have hx := B.exec
  have hb := B.bytes
  have hr := B.returns
  have hts := atoms_spec (ws := wsX6_checksum) B.pre
  have hown : s.vm.findClass RX6 = some m.cls := findClass_of_methodNamed B.named
  have hlocks := B.notSynchronized
  subst hsz
  have hD := hD0.self (sz := s.heap.size)
  generalize hAe : va_A ([((b 0), .inr (10, [.int 0, .ref (b 1), .int 0, .int 0, .ref (b 2), .ref (b 3), .ref (b 4), .ref (b 5), .int 0, .int 0, .ref (b 6)])), ((b 2), .inl (cI, 4, .inl (fun _ => 0))), ((b 6), .inr (3, [.int 0, .ref eD, .int 0]))]) s.heap.size = A at hD ⊢
  have hA : ∀ q : Nat, s.heap.size ≤ q → A q := fun q h => by rw [← hAe]; exact Or.inr h
  have hS : va_S A s.heap s.heap [] := va_S.rf
  have hl := lv_entry ([.ref (b 0)]) (n := 13) (Nat.le_of_ble_eq_true rfl)
  rw [lg_entry_eq]
  generalize (lg_sl ([.ref (b 0)]) ++ List.replicate (13 - (lg_sl ([.ref (b 0)])).length) Slot.unset).toArray = ls at hl ⊢
  have hl : lv_has ls 13 [(0, .ref (b 0))] := hl
  have hN : NS s := hM.2.2.2.2.2.2
  refine lv_aload_n hx hb dX6_checksum_0 rfl (lv_at hl 0 rfl) ?_
  refine lv_iconst (v := 0) hx hb dX6_checksum_1 (by decide) ?_
  refine va_put (D := (dC, dI)) (ci := 10) (v := .int 0) (ty := .int) (C := RX6) (T := TX6) (N := 11) hx hb hts (by decide +kernel) tyX6 tyX6_ok nmX6 hown hK hP hD hS 0 rfl rfl 0 (by decide) (hts (.fieldLink RX6 1 "SnowpalaceModel" "thrown" "I") (by decide +kernel)) (fun _ h9 => h9) rfl (by decide +kernel) rfl rfl (Nat.le_of_ble_eq_true rfl) dX6_checksum_2 (fun H locs hP hD hS => ?_)
  have hP : va_P (dC, dI) vwCl ([((b 0), .inr (10, [.int 0, .ref (b 1), .int 0, .int 0, .ref (b 2), .ref (b 3), .ref (b 4), .ref (b 5), .int 0, .int 0, .ref (b 6)])), ((b 2), .inl (cI, 4, .inl (fun _ => 0))), ((b 6), .inr (3, [.int 0, .ref eD, .int 0]))]) H := hP
  have hD : va_D A ([((b 0), .inr (10, [.int 0, .ref (b 1), .int 0, .int 0, .ref (b 2), .ref (b 3), .ref (b 4), .ref (b 5), .int 0, .int 0, .ref (b 6)])), ((b 2), .inl (cI, 4, .inl (fun _ => 0))), ((b 6), .inr (3, [.int 0, .ref eD, .int 0]))]) := hD
  refine lv_ldc2 hx hb hown (hts (.constantLong RX6 141 7) (by decide +kernel)) dX6_checksum_5 ?_
  refine lv_lstore_n (lv' := [(1, .long 7), (0, .ref (b 0))]) hx hb dX6_checksum_8 rfl hl (by decide) rfl (fun ls hl => ?_)
  refine lv_aload_n hx hb dX6_checksum_9 rfl (lv_at hl 1 rfl) ?_
  refine va_get (D := (dC, dI)) (ci := 10) (v := .ref (b 6)) (C := RX6) (T := TX6) (N := 11) hx hb hts (by decide +kernel) hown hK hP 0 rfl rfl 10 (by decide) (hts (.fieldLink RX6 34 "SnowpalaceModel" "sites" "Ljava/util/List;") (by decide +kernel)) (fun _ h9 => h9) rfl dX6_checksum_10 ?_
  have hFc := va_free (wc := [((b 6), .inr (3, [.int 0, .ref eD, .int 0]))]) hD hS hA [2] rfl
  refine va_callFr (va_runF (hK.1 3 _ rfl).2 (As := []) (rest := []) ⟨hx, hb, hml, hown, hts⟩ (j_iter l dC dI _ b eD) (va_cwF 0 hts gX6_checksum_Jx4a65c_iterator_32c93_f109Jx4a65c rfl rfl rfl hM.2.1 (by decide +kernel) ⟨Nat.le_of_ble_eq_true rfl, Nat.le_of_ble_eq_true rfl⟩) ⟨fb_PW, va_recv hK hP (ci := 3) (q0 := 2) rfl rfl, fun U hU hW => ⟨rfl, PW.give hP hK hD [2] [] rfl rfl rfl rfl hU hW⟩⟩ rfl rfl hl.1 rfl (lv_room (Nat.le_of_ble_eq_true rfl)) dX6_checksum_13 ⟨(Nat.le_of_ble_eq_true rfl), (Nat.le_of_ble_eq_true rfl)⟩) hS (fun q _ h => hFc q h) hFc (fun u r1 t H locs ht hvm hw2 hB hz1 hk1 hS => ?_)
  obtain ⟨hP, hD, hK⟩ := aft [2] [0, 1] hP hK hD rfl (wr := [((b 0), .inr (10, [.int 0, .ref (b 1), .int 0, .int 0, .ref (b 2), .ref (b 3), .ref (b 4), .ref (b 5), .int 0, .int 0, .ref (b 6)])), ((b 2), .inl (cI, 4, .inl (fun _ => 0)))]) rfl rfl (by decide) hFc hB ht hvm hk1
  have hP : va_P (dC, dI) vwCl ([((b 0), .inr (10, [.int 0, .ref (b 1), .int 0, .int 0, .ref (b 2), .ref (b 3), .ref (b 4), .ref (b 5), .int 0, .int 0, .ref (b 6)])), ((b 2), .inl (cI, 4, .inl (fun _ => 0))), (r1, .inr (2, [.int 0, .int (-1), .int 0, .ref (b 6)])), ((b 6), .inr (3, [.int 0, .ref eD, .int 0]))]) H := hP
  have hD : va_D A ([((b 0), .inr (10, [.int 0, .ref (b 1), .int 0, .int 0, .ref (b 2), .ref (b 3), .ref (b 4), .ref (b 5), .int 0, .int 0, .ref (b 6)])), ((b 2), .inl (cI, 4, .inl (fun _ => 0))), (r1, .inr (2, [.int 0, .int (-1), .int 0, .ref (b 6)])), ((b 6), .inr (3, [.int 0, .ref eD, .int 0]))]) := hD
  have hK : va_K (dC, dI) vwCl [(cI, .int)] s := hK.sub [0] rfl
  refine lv_astore_n (lv' := [(3, .ref r1), (1, .long 7), (0, .ref (b 0))]) hx hb dX6_checksum_18 rfl hl (by decide) rfl (fun ls hl => ?_)
  refine lv_aload_n hx hb dX6_checksum_19 rfl (lv_at hl 0 rfl) ?_
  refine va_callFi (va_runF (hK.1 2 _ rfl).2 (As := []) (rest := []) ⟨hx, hb, hml, hown, hts⟩ (j_hasNext l dC dI _ b eD r1) (va_cwF 0 hts gX6_checksum_Jx35411_hasNext_aae02_f115Jx35411 rfl rfl rfl hM.2.2.1 (by decide +kernel) ⟨Nat.le_of_ble_eq_true rfl, Nat.le_of_ble_eq_true rfl⟩) ⟨fb_PN, va_recv hK hP (ci := 2) (q0 := 2) rfl rfl, fun U hU hW => ⟨rfl, PN.give hP hK hD hN [2, 3] [] rfl rfl rfl rfl hU hW⟩⟩ rfl rfl hl.1 rfl (lv_room (Nat.le_of_ble_eq_true rfl)) dX6_checksum_20 ⟨(Nat.le_of_ble_eq_true rfl), (Nat.le_of_ble_eq_true rfl)⟩) hS (fun q _ h => h.elim) (fun q h => h.elim) (fun r3 u t H locs ht hvm hw4 hB hz1 hk1 hS => ?_)
  have hP := kp_P hP hk1
  have hP : va_P (dC, dI) vwCl ([((b 0), .inr (10, [.int 0, .ref (b 1), .int 0, .int 0, .ref (b 2), .ref (b 3), .ref (b 4), .ref (b 5), .int 0, .int 0, .ref (b 6)])), ((b 2), .inl (cI, 4, .inl (fun _ => 0))), (r1, .inr (2, [.int 0, .int (-1), .int 0, .ref (b 6)])), ((b 6), .inr (3, [.int 0, .ref eD, .int 0]))]) H := hP
  have hD : va_D A ([((b 0), .inr (10, [.int 0, .ref (b 1), .int 0, .int 0, .ref (b 2), .ref (b 3), .ref (b 4), .ref (b 5), .int 0, .int 0, .ref (b 6)])), ((b 2), .inl (cI, 4, .inl (fun _ => 0))), (r1, .inr (2, [.int 0, .int (-1), .int 0, .ref (b 6)])), ((b 6), .inr (3, [.int 0, .ref eD, .int 0]))]) := hD
  obtain rfl : r3 = 0 := hw4
  refine lv_if_eq (tgt := 137) hx hb dX6_checksum_25 (by decide) (fun _ => ?_) (fun cx => by first | exact absurd (by decide) cx | exact absurd cx (by decide))
  refine lv_ldc2 hx hb hown (hts (.constantLong RX6 275 31) (by decide +kernel)) dX6_checksum_137 ?_
  refine lv_ldc2 hx hb hown (hts (.constantLong RX6 275 31) (by decide +kernel)) dX6_checksum_140 ?_
  refine lv_lload_n hx hb dX6_checksum_143 rfl (lv_at hl 1 rfl) ?_
  refine lv_lmul hx hb dX6_checksum_144 ?_
  refine lv_topl (fun v5 e6 => ?_)
  obtain rfl : v5 = (217 : Int64) := e6.trans (by decide)
  refine lv_aload_n hx hb dX6_checksum_145 rfl (lv_at hl 2 rfl) ?_
  refine va_get (D := (dC, dI)) (ci := 10) (v := .int 0) (C := RX6) (T := TX6) (N := 11) hx hb hts (by decide +kernel) hown hK hP 0 rfl rfl 3 (by decide) (hts (.fieldLink RX6 100 "SnowpalaceModel" "money" "I") (by decide +kernel)) (fun _ h9 => h9) rfl dX6_checksum_146 ?_
  refine lv_i2l (v := 0) hx hb dX6_checksum_149 (by decide) ?_
  refine lv_ladd hx hb dX6_checksum_150 ?_
  refine lv_topl (fun v7 e8 => ?_)
  obtain rfl : v7 = (217 : Int64) := e8.trans (by decide)
  refine lv_lmul hx hb dX6_checksum_151 ?_
  refine lv_topl (fun v9 e10 => ?_)
  obtain rfl : v9 = (6727 : Int64) := e10.trans (by decide)
  refine lv_aload_n hx hb dX6_checksum_152 rfl (lv_at hl 2 rfl) ?_
  refine va_get (D := (dC, dI)) (ci := 10) (v := .int 0) (C := RX6) (T := TX6) (N := 11) hx hb hts (by decide +kernel) hown hK hP 0 rfl rfl 8 (by decide) (hts (.fieldLink RX6 89 "SnowpalaceModel" "stored" "I") (by decide +kernel)) (fun _ h9 => h9) rfl dX6_checksum_153 ?_
  refine lv_i2l (v := 0) hx hb dX6_checksum_156 (by decide) ?_
  refine lv_ladd hx hb dX6_checksum_157 ?_
  refine lv_topl (fun v11 e12 => ?_)
  obtain rfl : v11 = (6727 : Int64) := e12.trans (by decide)
  refine lv_lstore_n (lv' := [(1, .long 6727), (3, .ref r1), (0, .ref (b 0))]) hx hb dX6_checksum_158 rfl hl (by decide) rfl (fun ls hl => ?_)
  refine lv_aload_n hx hb dX6_checksum_159 rfl (lv_at hl 2 rfl) ?_
  refine va_get (D := (dC, dI)) (ci := 10) (v := .ref (b 2)) (C := RX6) (T := TX6) (N := 11) hx hb hts (by decide +kernel) hown hK hP 0 rfl rfl 4 (by decide) (hts (.fieldLink RX6 19 "SnowpalaceModel" "ice" "[I") (by decide +kernel)) (fun _ h9 => h9) rfl dX6_checksum_160 ?_
  refine lv_astore_n (lv' := [(3, .ref (b 2)), (1, .long 6727), (0, .ref (b 0))]) hx hb dX6_checksum_163 rfl hl (by decide) rfl (fun ls hl => ?_)
  refine lv_aload_n hx hb dX6_checksum_164 rfl (lv_at hl 0 rfl) ?_
  refine va_alen (D := (dC, dI)) hx hb hK hP 1 0 rfl rfl (v := 4) (by rfl) dX6_checksum_165 ?_
  refine lv_istore (lv' := [(4, .int 4), (3, .ref (b 2)), (1, .long 6727), (0, .ref (b 0))]) hx hb dX6_checksum_166 hl (by decide) rfl (fun ls hl => ?_)
  refine lv_iconst (v := 0) hx hb dX6_checksum_168 (by decide) ?_
  refine lv_istore (lv' := [(5, .int 0), (4, .int 4), (3, .ref (b 2)), (1, .long 6727), (0, .ref (b 0))]) hx hb dX6_checksum_169 hl (by decide) rfl (fun ls hl => ?_)
  refine lv_iload hx hb dX6_checksum_171 (lv_at hl 0 rfl) ?_
  refine lv_iload hx hb dX6_checksum_173 (lv_at hl 1 rfl) ?_
  refine lv_icmp_ge (tgt := 200) hx hb dX6_checksum_175 (by decide) (fun cx => by first | exact absurd cx (by decide) | exact absurd (by decide) cx) (fun _ => ?_)
  refine lv_aload_n hx hb dX6_checksum_178 rfl (lv_at hl 2 rfl) ?_
  refine lv_iload hx hb dX6_checksum_179 (lv_at hl 0 rfl) ?_
  refine va_iald (D := (dC, dI)) hx hb hK hP 1 0 rfl rfl (by unfold vp_in; decide) dX6_checksum_181 ?_
  refine lv_topi (fun v13 e14 => ?_)
  obtain rfl : v13 = (0 : Int32) := e14.trans rfl
  refine lv_istore (lv' := [(6, .int 0), (5, .int 0), (4, .int 4), (3, .ref (b 2)), (1, .long 6727), (0, .ref (b 0))]) hx hb dX6_checksum_182 hl (by decide) rfl (fun ls hl => ?_)
  refine lv_ldc2 hx hb hown (hts (.constantLong RX6 275 31) (by decide +kernel)) dX6_checksum_184 ?_
  refine lv_lload_n hx hb dX6_checksum_187 rfl (lv_at hl 4 rfl) ?_
  refine lv_lmul hx hb dX6_checksum_188 ?_
  refine lv_topl (fun v15 e16 => ?_)
  obtain rfl : v15 = (208537 : Int64) := e16.trans (by decide)
  refine lv_iload hx hb dX6_checksum_189 (lv_at hl 0 rfl) ?_
  refine lv_i2l (v := 0) hx hb dX6_checksum_191 (by decide) ?_
  refine lv_ladd hx hb dX6_checksum_192 ?_
  refine lv_topl (fun v17 e18 => ?_)
  obtain rfl : v17 = (208537 : Int64) := e18.trans (by decide)
  refine lv_lstore_n (lv' := [(1, .long 208537), (6, .int 0), (5, .int 0), (4, .int 4), (3, .ref (b 2)), (0, .ref (b 0))]) hx hb dX6_checksum_193 rfl hl (by decide) rfl (fun ls hl => ?_)
  refine lv_iinc (v := 1) (lv' := [(5, .int 1), (1, .long 208537), (6, .int 0), (4, .int 4), (3, .ref (b 2)), (0, .ref (b 0))]) hx hb dX6_checksum_194 hl (k := 2) rfl (by decide) (by decide) rfl (fun ls hl => ?_)
  refine lv_goto (tgt := 171) hx hb dX6_checksum_197 (by decide) ?_
  refine lv_iload hx hb dX6_checksum_171 (lv_at hl 0 rfl) ?_
  refine lv_iload hx hb dX6_checksum_173 (lv_at hl 3 rfl) ?_
  refine lv_icmp_ge (tgt := 200) hx hb dX6_checksum_175 (by decide) (fun cx => by first | exact absurd cx (by decide) | exact absurd (by decide) cx) (fun _ => ?_)
  refine lv_aload_n hx hb dX6_checksum_178 rfl (lv_at hl 4 rfl) ?_
  refine lv_iload hx hb dX6_checksum_179 (lv_at hl 0 rfl) ?_
  refine va_iald (D := (dC, dI)) hx hb hK hP 1 0 rfl rfl (by unfold vp_in; decide) dX6_checksum_181 ?_
  refine lv_topi (fun v19 e20 => ?_)
  obtain rfl : v19 = (0 : Int32) := e20.trans rfl
  refine lv_istore (lv' := [(6, .int 0), (5, .int 1), (1, .long 208537), (4, .int 4), (3, .ref (b 2)), (0, .ref (b 0))]) hx hb dX6_checksum_182 hl (by decide) rfl (fun ls hl => ?_)
  refine lv_ldc2 hx hb hown (hts (.constantLong RX6 275 31) (by decide +kernel)) dX6_checksum_184 ?_
  refine lv_lload_n hx hb dX6_checksum_187 rfl (lv_at hl 2 rfl) ?_
  refine lv_lmul hx hb dX6_checksum_188 ?_
  refine lv_topl (fun v21 e22 => ?_)
  obtain rfl : v21 = (6464647 : Int64) := e22.trans (by decide)
  refine lv_iload hx hb dX6_checksum_189 (lv_at hl 0 rfl) ?_
  refine lv_i2l (v := 0) hx hb dX6_checksum_191 (by decide) ?_
  refine lv_ladd hx hb dX6_checksum_192 ?_
  refine lv_topl (fun v23 e24 => ?_)
  obtain rfl : v23 = (6464647 : Int64) := e24.trans (by decide)
  refine lv_lstore_n (lv' := [(1, .long 6464647), (6, .int 0), (5, .int 1), (4, .int 4), (3, .ref (b 2)), (0, .ref (b 0))]) hx hb dX6_checksum_193 rfl hl (by decide) rfl (fun ls hl => ?_)
  refine lv_iinc (v := 2) (lv' := [(5, .int 2), (1, .long 6464647), (6, .int 0), (4, .int 4), (3, .ref (b 2)), (0, .ref (b 0))]) hx hb dX6_checksum_194 hl (k := 2) rfl (by decide) (by decide) rfl (fun ls hl => ?_)
  refine lv_goto (tgt := 171) hx hb dX6_checksum_197 (by decide) ?_
  refine lv_iload hx hb dX6_checksum_171 (lv_at hl 0 rfl) ?_
  refine lv_iload hx hb dX6_checksum_173 (lv_at hl 3 rfl) ?_
  refine lv_icmp_ge (tgt := 200) hx hb dX6_checksum_175 (by decide) (fun cx => by first | exact absurd cx (by decide) | exact absurd (by decide) cx) (fun _ => ?_)
  refine lv_aload_n hx hb dX6_checksum_178 rfl (lv_at hl 4 rfl) ?_
  refine lv_iload hx hb dX6_checksum_179 (lv_at hl 0 rfl) ?_
  refine va_iald (D := (dC, dI)) hx hb hK hP 1 0 rfl rfl (by unfold vp_in; decide) dX6_checksum_181 ?_
  refine lv_topi (fun v25 e26 => ?_)
  obtain rfl : v25 = (0 : Int32) := e26.trans rfl
  refine lv_istore (lv' := [(6, .int 0), (5, .int 2), (1, .long 6464647), (4, .int 4), (3, .ref (b 2)), (0, .ref (b 0))]) hx hb dX6_checksum_182 hl (by decide) rfl (fun ls hl => ?_)
  refine lv_ldc2 hx hb hown (hts (.constantLong RX6 275 31) (by decide +kernel)) dX6_checksum_184 ?_
  refine lv_lload_n hx hb dX6_checksum_187 rfl (lv_at hl 2 rfl) ?_
  refine lv_lmul hx hb dX6_checksum_188 ?_
  refine lv_topl (fun v27 e28 => ?_)
  obtain rfl : v27 = (200404057 : Int64) := e28.trans (by decide)
  refine lv_iload hx hb dX6_checksum_189 (lv_at hl 0 rfl) ?_
  refine lv_i2l (v := 0) hx hb dX6_checksum_191 (by decide) ?_
  refine lv_ladd hx hb dX6_checksum_192 ?_
  refine lv_topl (fun v29 e30 => ?_)
  obtain rfl : v29 = (200404057 : Int64) := e30.trans (by decide)
  refine lv_lstore_n (lv' := [(1, .long 200404057), (6, .int 0), (5, .int 2), (4, .int 4), (3, .ref (b 2)), (0, .ref (b 0))]) hx hb dX6_checksum_193 rfl hl (by decide) rfl (fun ls hl => ?_)
  refine lv_iinc (v := 3) (lv' := [(5, .int 3), (1, .long 200404057), (6, .int 0), (4, .int 4), (3, .ref (b 2)), (0, .ref (b 0))]) hx hb dX6_checksum_194 hl (k := 2) rfl (by decide) (by decide) rfl (fun ls hl => ?_)
  refine lv_goto (tgt := 171) hx hb dX6_checksum_197 (by decide) ?_
  refine lv_iload hx hb dX6_checksum_171 (lv_at hl 0 rfl) ?_
  refine lv_iload hx hb dX6_checksum_173 (lv_at hl 3 rfl) ?_
  refine lv_icmp_ge (tgt := 200) hx hb dX6_checksum_175 (by decide) (fun cx => by first | exact absurd cx (by decide) | exact absurd (by decide) cx) (fun _ => ?_)
  refine lv_aload_n hx hb dX6_checksum_178 rfl (lv_at hl 4 rfl) ?_
  refine lv_iload hx hb dX6_checksum_179 (lv_at hl 0 rfl) ?_
  refine va_iald (D := (dC, dI)) hx hb hK hP 1 0 rfl rfl (by unfold vp_in; decide) dX6_checksum_181 ?_
  refine lv_topi (fun v31 e32 => ?_)
  obtain rfl : v31 = (0 : Int32) := e32.trans rfl
  refine lv_istore (lv' := [(6, .int 0), (5, .int 3), (1, .long 200404057), (4, .int 4), (3, .ref (b 2)), (0, .ref (b 0))]) hx hb dX6_checksum_182 hl (by decide) rfl (fun ls hl => ?_)
  refine lv_ldc2 hx hb hown (hts (.constantLong RX6 275 31) (by decide +kernel)) dX6_checksum_184 ?_
  refine lv_lload_n hx hb dX6_checksum_187 rfl (lv_at hl 2 rfl) ?_
  refine lv_lmul hx hb dX6_checksum_188 ?_
  refine lv_topl (fun v33 e34 => ?_)
  obtain rfl : v33 = (6212525767 : Int64) := e34.trans (by decide)
  refine lv_iload hx hb dX6_checksum_189 (lv_at hl 0 rfl) ?_
  refine lv_i2l (v := 0) hx hb dX6_checksum_191 (by decide) ?_
  refine lv_ladd hx hb dX6_checksum_192 ?_
  refine lv_topl (fun v35 e36 => ?_)
  obtain rfl : v35 = (6212525767 : Int64) := e36.trans (by decide)
  refine lv_lstore_n (lv' := [(1, .long 6212525767), (6, .int 0), (5, .int 3), (4, .int 4), (3, .ref (b 2)), (0, .ref (b 0))]) hx hb dX6_checksum_193 rfl hl (by decide) rfl (fun ls hl => ?_)
  refine lv_iinc (v := 4) (lv' := [(5, .int 4), (1, .long 6212525767), (6, .int 0), (4, .int 4), (3, .ref (b 2)), (0, .ref (b 0))]) hx hb dX6_checksum_194 hl (k := 2) rfl (by decide) (by decide) rfl (fun ls hl => ?_)
  refine lv_goto (tgt := 171) hx hb dX6_checksum_197 (by decide) ?_
  refine lv_iload hx hb dX6_checksum_171 (lv_at hl 0 rfl) ?_
  refine lv_iload hx hb dX6_checksum_173 (lv_at hl 3 rfl) ?_
  refine lv_icmp_ge (tgt := 200) hx hb dX6_checksum_175 (by decide) (fun _ => ?_) (fun cx => by first | exact absurd (by decide) cx | exact absurd cx (by decide))
  refine lv_lload_n hx hb dX6_checksum_200 rfl (lv_at hl 1 rfl) ?_
  refine W.widen (k := 1) (n := 4) (Nat.le_of_ble_eq_true rfl) (Nat.le_of_ble_eq_true rfl) ?_
  exact W.lret (v := 6212525767) hx hb hr (fun t ht hW => ⟨⟨6212525767, (), rfl, rfl, trivial⟩, hS.F ht⟩) hS.2.2 dX6_checksum_201

