set_option maxHeartbeats 4000000 in
set_option maxRecDepth 100000 in
theorem k_now (l : Launch) (dC : Nat → ClassId) (dI : Nat → Nat → Nat) (sz : Nat) (h0 q1 q2 q3 : Nat)   : Met l yX3_now wsX3_now ({ frames := 0, cells := 0, slots := 0, locals := 0 }) (va_Pc [.ref h0] (PW dC dI ([(h0, .inr (7, [.ref q1, .ref q2, .ref q3, .int 0, .int 0, .int 0, .int 0, .int 0, .int 0, .int 0]))]) [] sz)) (va_Qi (fun (r : Int32) (u : Unit) => r = 0) (fun (u : Unit) t => True) (fun _ => False)) 0 0 (fun _ => False) := by
  refine Met.ofW (cc := cX3_now) (maxL := 1) (ret := (some .int)) (by decide +kernel) rfl ?_
  intro p e s m args below meth c s₁ B hml hv
  obtain ⟨rfl, hsz, hP, hK, hD0⟩ := hv
  have hx := B.exec
  have hb := B.bytes
  have hr := B.returns
  have hts := atoms_spec (ws := wsX3_now) B.pre
  have hown : s.vm.findClass RX3 = some m.cls := findClass_of_methodNamed B.named
  have hlocks := B.notSynchronized
  subst hsz
  have hD := hD0
  have hS : va_S (fun _ => False) s.heap s.heap [] := va_S.rf
  have hl := lv_entry ([.ref h0]) (n := 1) (Nat.le_of_ble_eq_true rfl)
  rw [lg_entry_eq]
  generalize (lg_sl ([.ref h0]) ++ List.replicate (1 - (lg_sl ([.ref h0])).length) Slot.unset).toArray = ls at hl ⊢
  have hl : lv_has ls 1 [(0, .ref h0)] := hl
  refine lv_aload_n hx hb dX3_now_0 rfl (lv_at hl 0 rfl) ?_
  refine va_get (D := (dC, dI)) (ci := 7) (v := .int 0) (C := RX3) (T := TX3) (N := 10) hx hb hts (by decide +kernel) hown hK hP 0 rfl rfl 4 (by decide) (hts (.fieldLink RX3 33 "Snowpalace" "clock" "I") (by decide +kernel)) (fun _ h9 => h9) rfl dX3_now_1 ?_
  refine W.widen (k := 0) (n := 0) (Nat.le_of_ble_eq_true rfl) (Nat.le_of_ble_eq_true rfl) ?_
  exact W.iret (v := 0) hx hb hr (fun t ht hW => ⟨⟨0, (), rfl, rfl, trivial⟩, hS.F ht⟩) hS.2.2 dX3_now_4

set_option maxHeartbeats 4000000 in
set_option maxRecDepth 100000 in
theorem k_snow (l : Launch) (dC : Nat → ClassId) (dI : Nat → Nat → Nat) (sz : Nat) (h0 q1 q2 q3 : Nat)   : Met l yX3_snow wsX3_snow ({ frames := 0, cells := 0, slots := 0, locals := 0 }) (va_Pc [.ref h0] (PW dC dI ([(h0, .inr (7, [.ref q1, .ref q2, .ref q3, .int 0, .int 0, .int 0, .int 0, .int 0, .int 0, .int 0]))]) [] sz)) (va_Qi (fun (r : Int32) (u : Unit) => r = 0) (fun (u : Unit) t => True) (fun _ => False)) 0 0 (fun _ => False) := by
  refine Met.ofW (cc := cX3_snow) (maxL := 1) (ret := (some .int)) (by decide +kernel) rfl ?_
  intro p e s m args below meth c s₁ B hml hv
  obtain ⟨rfl, hsz, hP, hK, hD0⟩ := hv
  have hx := B.exec
  have hb := B.bytes
  have hr := B.returns
  have hts := atoms_spec (ws := wsX3_snow) B.pre
  have hown : s.vm.findClass RX3 = some m.cls := findClass_of_methodNamed B.named
  have hlocks := B.notSynchronized
  subst hsz
  have hD := hD0
  have hS : va_S (fun _ => False) s.heap s.heap [] := va_S.rf
  have hl := lv_entry ([.ref h0]) (n := 1) (Nat.le_of_ble_eq_true rfl)
  rw [lg_entry_eq]
  generalize (lg_sl ([.ref h0]) ++ List.replicate (1 - (lg_sl ([.ref h0])).length) Slot.unset).toArray = ls at hl ⊢
  have hl : lv_has ls 1 [(0, .ref h0)] := hl
  refine lv_aload_n hx hb dX3_snow_0 rfl (lv_at hl 0 rfl) ?_
  refine va_get (D := (dC, dI)) (ci := 7) (v := .int 0) (C := RX3) (T := TX3) (N := 10) hx hb hts (by decide +kernel) hown hK hP 0 rfl rfl 7 (by decide) (hts (.fieldLink RX3 42 "Snowpalace" "storedSnow" "I") (by decide +kernel)) (fun _ h9 => h9) rfl dX3_snow_1 ?_
  refine W.widen (k := 0) (n := 0) (Nat.le_of_ble_eq_true rfl) (Nat.le_of_ble_eq_true rfl) ?_
  exact W.iret (v := 0) hx hb hr (fun t ht hW => ⟨⟨0, (), rfl, rfl, trivial⟩, hS.F ht⟩) hS.2.2 dX3_snow_4

set_option maxHeartbeats 4000000 in
set_option maxRecDepth 100000 in
theorem k_money (l : Launch) (dC : Nat → ClassId) (dI : Nat → Nat → Nat) (sz : Nat) (h0 q1 q2 q3 : Nat)   : Met l yX3_money wsX3_money ({ frames := 0, cells := 0, slots := 0, locals := 0 }) (va_Pc [.ref h0] (PW dC dI ([(h0, .inr (7, [.ref q1, .ref q2, .ref q3, .int 0, .int 0, .int 0, .int 0, .int 0, .int 0, .int 0]))]) [] sz)) (va_Qi (fun (r : Int32) (u : Unit) => r = 0) (fun (u : Unit) t => True) (fun _ => False)) 0 0 (fun _ => False) := by
  refine Met.ofW (cc := cX3_money) (maxL := 1) (ret := (some .int)) (by decide +kernel) rfl ?_
  intro p e s m args below meth c s₁ B hml hv
  obtain ⟨rfl, hsz, hP, hK, hD0⟩ := hv
  have hx := B.exec
  have hb := B.bytes
  have hr := B.returns
  have hts := atoms_spec (ws := wsX3_money) B.pre
  have hown : s.vm.findClass RX3 = some m.cls := findClass_of_methodNamed B.named
  have hlocks := B.notSynchronized
  subst hsz
  have hD := hD0
  have hS : va_S (fun _ => False) s.heap s.heap [] := va_S.rf
  have hl := lv_entry ([.ref h0]) (n := 1) (Nat.le_of_ble_eq_true rfl)
  rw [lg_entry_eq]
  generalize (lg_sl ([.ref h0]) ++ List.replicate (1 - (lg_sl ([.ref h0])).length) Slot.unset).toArray = ls at hl ⊢
  have hl : lv_has ls 1 [(0, .ref h0)] := hl
  refine lv_aload_n hx hb dX3_money_0 rfl (lv_at hl 0 rfl) ?_
  refine va_get (D := (dC, dI)) (ci := 7) (v := .int 0) (C := RX3) (T := TX3) (N := 10) hx hb hts (by decide +kernel) hown hK hP 0 rfl rfl 9 (by decide) (hts (.fieldLink RX3 49 "Snowpalace" "funds" "I") (by decide +kernel)) (fun _ h9 => h9) rfl dX3_money_1 ?_
  refine W.widen (k := 0) (n := 0) (Nat.le_of_ble_eq_true rfl) (Nat.le_of_ble_eq_true rfl) ?_
  exact W.iret (v := 0) hx hb hr (fun t ht hW => ⟨⟨0, (), rfl, rfl, trivial⟩, hS.F ht⟩) hS.2.2 dX3_money_4

set_option maxHeartbeats 4000000 in
set_option maxRecDepth 100000 in
theorem k_yard (l : Launch) (dC : Nat → ClassId) (dI : Nat → Nat → Nat) (sz : Nat) (h0 q1 q2 q3 : Nat) (p0 : Int32)  : Met l yX3_yard wsX3_yard ({ frames := 0, cells := 0, slots := 0, locals := 0 }) (va_Pc [.ref h0, .int p0] (PW dC dI ([(h0, .inr (7, [.ref q1, .ref q2, .ref q3, .int 0, .int 0, .int 0, .int 0, .int 0, .int 0, .int 0]))]) [] sz)) (va_Qi (fun (r : Int32) (u : Unit) => r = 0) (fun (u : Unit) t => True) (fun _ => False)) 0 0 (fun _ => False) := by
  refine Met.ofW (cc := cX3_yard) (maxL := 2) (ret := (some .int)) (by decide +kernel) rfl ?_
  intro p e s m args below meth c s₁ B hml hv
  obtain ⟨rfl, hsz, hP, hK, hD0⟩ := hv
  have hx := B.exec
  have hb := B.bytes
  have hr := B.returns
  have hts := atoms_spec (ws := wsX3_yard) B.pre
  have hown : s.vm.findClass RX3 = some m.cls := findClass_of_methodNamed B.named
  have hlocks := B.notSynchronized
  subst hsz
  have hD := hD0
  have hS : va_S (fun _ => False) s.heap s.heap [] := va_S.rf
  have hl := lv_entry ([.ref h0, .int p0]) (n := 2) (Nat.le_of_ble_eq_true rfl)
  rw [lg_entry_eq]
  generalize (lg_sl ([.ref h0, .int p0]) ++ List.replicate (2 - (lg_sl ([.ref h0, .int p0])).length) Slot.unset).toArray = ls at hl ⊢
  have hl : lv_has ls 2 [(0, .ref h0), (1, .int p0)] := hl
  refine lv_iload_n hx hb dX3_yard_0 rfl (lv_at hl 1 rfl) ?_
  refine lv_if_eq (tgt := 11) hx hb dX3_yard_1 (by decide) (fun c1 => ?_) (fun c1 => ?_)
  · skip
    refine lv_aload_n hx hb dX3_yard_11 rfl (lv_at hl 0 rfl) ?_
    refine va_get (D := (dC, dI)) (ci := 7) (v := .int 0) (C := RX3) (T := TX3) (N := 10) hx hb hts (by decide +kernel) hown hK hP 0 rfl rfl 6 (by decide) (hts (.fieldLink RX3 39 "Snowpalace" "otherBlocks" "I") (by decide +kernel)) (fun _ h9 => h9) rfl dX3_yard_12 ?_
    refine W.widen (k := 0) (n := 0) (Nat.le_of_ble_eq_true rfl) (Nat.le_of_ble_eq_true rfl) ?_
    exact W.iret (v := 0) hx hb hr (fun t ht hW => ⟨⟨0, (), rfl, rfl, trivial⟩, hS.F ht⟩) hS.2.2 dX3_yard_15
  · skip
    refine lv_aload_n hx hb dX3_yard_4 rfl (lv_at hl 0 rfl) ?_
    refine va_get (D := (dC, dI)) (ci := 7) (v := .int 0) (C := RX3) (T := TX3) (N := 10) hx hb hts (by decide +kernel) hown hK hP 0 rfl rfl 5 (by decide) (hts (.fieldLink RX3 36 "Snowpalace" "clearBlocks" "I") (by decide +kernel)) (fun _ h9 => h9) rfl dX3_yard_5 ?_
    refine lv_goto (tgt := 15) hx hb dX3_yard_8 (by decide) ?_
    refine W.widen (k := 0) (n := 0) (Nat.le_of_ble_eq_true rfl) (Nat.le_of_ble_eq_true rfl) ?_
    exact W.iret (v := 0) hx hb hr (fun t ht hW => ⟨⟨0, (), rfl, rfl, trivial⟩, hS.F ht⟩) hS.2.2 dX3_yard_15

set_option maxHeartbeats 4000000 in
set_option maxRecDepth 100000 in
theorem k_machine (l : Launch) (dC : Nat → ClassId) (dI : Nat → Nat → Nat) (sz : Nat) (h0 q1 q2 q3 : Nat) (p0 : Int32) (h01 : p0 = 0 ∨ p0 = 1) : Met l yX3_machine wsX3_machine ({ frames := 0, cells := 0, slots := 0, locals := 0 }) (va_Pc [.ref h0, .int p0] (PW dC dI ([(h0, .inr (7, [.ref q1, .ref q2, .ref q3, .int 0, .int 0, .int 0, .int 0, .int 0, .int 0, .int 0]))]) [] sz)) (va_Qi (fun (r : Int32) (u : Unit) => r = 0) (fun (u : Unit) t => True) (va_A ([(h0, .inr (7, [.ref q1, .ref q2, .ref q3, .int 0, .int 0, .int 0, .int 0, .int 0, .int 0, .int 0]))]) sz)) 0 0 (va_A ([(h0, .inr (7, [.ref q1, .ref q2, .ref q3, .int 0, .int 0, .int 0, .int 0, .int 0, .int 0, .int 0]))]) sz) := by
  refine Met.ofW (cc := cX3_machine) (maxL := 3) (ret := (some .boolean)) (by decide +kernel) rfl ?_
  intro p e s m args below meth c s₁ B hml hv
  obtain ⟨rfl, hsz, hP, hK, hD0⟩ := hv
  have hx := B.exec
  have hb := B.bytes
  have hr := B.returns
  have hts := atoms_spec (ws := wsX3_machine) B.pre
  have hown : s.vm.findClass RX3 = some m.cls := findClass_of_methodNamed B.named
  have hlocks := B.notSynchronized
  subst hsz
  have hD := hD0.self (sz := s.heap.size)
  generalize hAe : va_A ([(h0, .inr (7, [.ref q1, .ref q2, .ref q3, .int 0, .int 0, .int 0, .int 0, .int 0, .int 0, .int 0]))]) s.heap.size = A at hD ⊢
  have hA : ∀ q : Nat, s.heap.size ≤ q → A q := fun q h => by rw [← hAe]; exact Or.inr h
  have hS : va_S A s.heap s.heap [] := va_S.rf
  have hl := lv_entry ([.ref h0, .int p0]) (n := 3) (Nat.le_of_ble_eq_true rfl)
  rw [lg_entry_eq]
  generalize (lg_sl ([.ref h0, .int p0]) ++ List.replicate (3 - (lg_sl ([.ref h0, .int p0])).length) Slot.unset).toArray = ls at hl ⊢
  have hl : lv_has ls 3 [(0, .ref h0), (1, .int p0)] := hl
  refine lv_aload_n hx hb dX3_machine_0 rfl (lv_at hl 0 rfl) ?_
  refine va_get (D := (dC, dI)) (ci := 7) (v := .int 0) (C := RX3) (T := TX3) (N := 10) hx hb hts (by decide +kernel) hown hK hP 0 rfl rfl 8 (by decide) (hts (.fieldLink RX3 45 "Snowpalace" "machineIsOn" "Z") (by decide +kernel)) (fun _ h9 => h9) rfl dX3_machine_1 ?_
  refine lv_istore_n (lv' := [(2, .int 0), (0, .ref h0), (1, .int p0)]) hx hb dX3_machine_4 rfl hl (by decide) rfl (fun ls hl => ?_)
  refine lv_aload_n hx hb dX3_machine_5 rfl (lv_at hl 1 rfl) ?_
  refine lv_iload_n hx hb dX3_machine_6 rfl (lv_at hl 2 rfl) ?_
  refine va_put (D := (dC, dI)) (ci := 7) (v := .int p0) (ty := .boolean) (C := RX3) (T := TX3) (N := 10) hx hb hts (by decide +kernel) tyX3 tyX3_ok nmX3 hown hK hP hD hS 0 rfl rfl 8 (by decide) (hts (.fieldLink RX3 45 "Snowpalace" "machineIsOn" "Z") (by decide +kernel)) (fun _ h9 => h9) rfl (by decide +kernel) (by rcases h01 with rfl | rfl <;> rfl) (by rcases h01 with rfl | rfl <;> rfl) (Nat.le_of_ble_eq_true rfl) dX3_machine_7 (fun H locs hP hD hS => ?_)
  have hP : va_P (dC, dI) vwCl ([(h0, .inr (7, [.ref q1, .ref q2, .ref q3, .int 0, .int 0, .int 0, .int 0, .int 0, .int p0, .int 0]))]) H := hP
  have hD : va_D A ([(h0, .inr (7, [.ref q1, .ref q2, .ref q3, .int 0, .int 0, .int 0, .int 0, .int 0, .int p0, .int 0]))]) := hD
  refine lv_iload_n hx hb dX3_machine_10 rfl (lv_at hl 0 rfl) ?_
  refine W.widen (k := 0) (n := 0) (Nat.le_of_ble_eq_true rfl) (Nat.le_of_ble_eq_true rfl) ?_
  exact W.zret (v := 0) (ty := .boolean) hx hb hr rfl (fun t ht hW => ⟨⟨0, (), rfl, rfl, trivial⟩, hS.F ht⟩) hS.2.2 dX3_machine_11

set_option maxHeartbeats 4000000 in
set_option maxRecDepth 100000 in
theorem k_checksum (l : Launch) (dC : Nat → ClassId) (dI : Nat → Nat → Nat) (sz : Nat) (a : Nat → Nat) (cI cS : ClassId) (f : Nat → Nat → Int32)   : Met l yX3_checksum wsX3_checksum ({ frames := 0, cells := 0, slots := 0, locals := 0 }) (va_Pc [.ref (a 0)] (PW dC dI (wX a cI cS f) [(cI, .int), (cS, .object "Snowpalace$Site")] sz)) (va_Ql (fun (r : Int64) (u : Unit) => r = 6212525767) (fun (u : Unit) t => True) (fun _ => False)) 0 0 (fun _ => False) := by
  refine Met.ofW (cc := cX3_checksum) (maxL := 6) (ret := (some .long)) (by decide +kernel) rfl ?_
  intro p e s m args below meth c s₁ B hml hv
  obtain ⟨rfl, hsz, hP, hK, hD0⟩ := hv
  have hx := B.exec
  have hb := B.bytes
  have hr := B.returns
  have hts := atoms_spec (ws := wsX3_checksum) B.pre
  have hown : s.vm.findClass RX3 = some m.cls := findClass_of_methodNamed B.named
  have hlocks := B.notSynchronized
  subst hsz
  have hD := hD0
  have hS : va_S (fun _ => False) s.heap s.heap [] := va_S.rf
  have hl := lv_entry ([.ref (a 0)]) (n := 6) (Nat.le_of_ble_eq_true rfl)
  rw [lg_entry_eq]
  generalize (lg_sl ([.ref (a 0)]) ++ List.replicate (6 - (lg_sl ([.ref (a 0)])).length) Slot.unset).toArray = ls at hl ⊢
  have hl : lv_has ls 6 [(0, .ref (a 0))] := hl
  refine lv_ldc2 hx hb hown (hts (.constantLong RX3 314 7) (by decide +kernel)) dX3_checksum_0 ?_
  refine lv_lstore_n (lv' := [(1, .long 7), (0, .ref (a 0))]) hx hb dX3_checksum_3 rfl hl (by decide) rfl (fun ls hl => ?_)
  refine lv_iconst (v := 0) hx hb dX3_checksum_4 (by decide) ?_
  refine lv_istore_n (lv' := [(3, .int 0), (1, .long 7), (0, .ref (a 0))]) hx hb dX3_checksum_5 rfl hl (by decide) rfl (fun ls hl => ?_)
  refine lv_iload_n hx hb dX3_checksum_6 rfl (lv_at hl 0 rfl) ?_
  refine lv_aload_n hx hb dX3_checksum_7 rfl (lv_at hl 2 rfl) ?_
  refine va_get (D := (dC, dI)) (ci := 7) (v := .int 0) (C := RX3) (T := TX3) (N := 10) hx hb hts (by decide +kernel) hown hK hP 0 rfl rfl 3 (by decide) (hts (.fieldLink RX3 29 "Snowpalace" "siteCount" "I") (by decide +kernel)) (fun _ h9 => h9) rfl dX3_checksum_8 ?_
  refine lv_icmp_ge (tgt := 87) hx hb dX3_checksum_11 (by decide) (fun _ => ?_) (fun cx => by first | exact absurd (by decide) cx | exact absurd cx (by decide))
  refine lv_ldc2 hx hb hown (hts (.constantLong RX3 316 31) (by decide +kernel)) dX3_checksum_87 ?_
  refine lv_lload_n hx hb dX3_checksum_90 rfl (lv_at hl 1 rfl) ?_
  refine lv_lmul hx hb dX3_checksum_91 ?_
  refine lv_topl (fun v1 e2 => ?_)
  obtain rfl : v1 = (217 : Int64) := e2.trans (by decide)
  refine lv_aload_n hx hb dX3_checksum_92 rfl (lv_at hl 2 rfl) ?_
  refine va_get (D := (dC, dI)) (ci := 7) (v := .int 0) (C := RX3) (T := TX3) (N := 10) hx hb hts (by decide +kernel) hown hK hP 0 rfl rfl 9 (by decide) (hts (.fieldLink RX3 49 "Snowpalace" "funds" "I") (by decide +kernel)) (fun _ h9 => h9) rfl dX3_checksum_93 ?_
  refine lv_i2l (v := 0) hx hb dX3_checksum_96 (by decide) ?_
  refine lv_ladd hx hb dX3_checksum_97 ?_
  refine lv_topl (fun v3 e4 => ?_)
  obtain rfl : v3 = (217 : Int64) := e4.trans (by decide)
  refine lv_lstore_n (lv' := [(1, .long 217), (3, .int 0), (0, .ref (a 0))]) hx hb dX3_checksum_98 rfl hl (by decide) rfl (fun ls hl => ?_)
  refine lv_ldc2 hx hb hown (hts (.constantLong RX3 316 31) (by decide +kernel)) dX3_checksum_99 ?_
  refine lv_lload_n hx hb dX3_checksum_102 rfl (lv_at hl 0 rfl) ?_
  refine lv_lmul hx hb dX3_checksum_103 ?_
  refine lv_topl (fun v5 e6 => ?_)
  obtain rfl : v5 = (6727 : Int64) := e6.trans (by decide)
  refine lv_aload_n hx hb dX3_checksum_104 rfl (lv_at hl 2 rfl) ?_
  refine va_get (D := (dC, dI)) (ci := 7) (v := .int 0) (C := RX3) (T := TX3) (N := 10) hx hb hts (by decide +kernel) hown hK hP 0 rfl rfl 7 (by decide) (hts (.fieldLink RX3 42 "Snowpalace" "storedSnow" "I") (by decide +kernel)) (fun _ h9 => h9) rfl dX3_checksum_105 ?_
  refine lv_i2l (v := 0) hx hb dX3_checksum_108 (by decide) ?_
  refine lv_ladd hx hb dX3_checksum_109 ?_
  refine lv_topl (fun v7 e8 => ?_)
  obtain rfl : v7 = (6727 : Int64) := e8.trans (by decide)
  refine lv_lstore_n (lv' := [(1, .long 6727), (3, .int 0), (0, .ref (a 0))]) hx hb dX3_checksum_110 rfl hl (by decide) rfl (fun ls hl => ?_)
  refine lv_iconst (v := 0) hx hb dX3_checksum_111 (by decide) ?_
  refine lv_istore_n (lv' := [(3, .int 0), (1, .long 6727), (0, .ref (a 0))]) hx hb dX3_checksum_112 rfl hl (by decide) rfl (fun ls hl => ?_)
  refine lv_iload_n hx hb dX3_checksum_113 rfl (lv_at hl 0 rfl) ?_
  refine lv_iconst (v := 4) hx hb dX3_checksum_114 (by decide) ?_
  refine lv_icmp_ge (tgt := 141) hx hb dX3_checksum_115 (by decide) (fun cx => by first | exact absurd cx (by decide) | exact absurd (by decide) cx) (fun _ => ?_)
  refine lv_ldc2 hx hb hown (hts (.constantLong RX3 316 31) (by decide +kernel)) dX3_checksum_118 ?_
  refine lv_lload_n hx hb dX3_checksum_121 rfl (lv_at hl 1 rfl) ?_
  refine lv_lmul hx hb dX3_checksum_122 ?_
  refine lv_topl (fun v9 e10 => ?_)
  obtain rfl : v9 = (208537 : Int64) := e10.trans (by decide)
  refine lv_aload_n hx hb dX3_checksum_123 rfl (lv_at hl 2 rfl) ?_
  refine va_get (D := (dC, dI)) (ci := 7) (v := .ref (a 2)) (C := RX3) (T := TX3) (N := 10) hx hb hts (by decide +kernel) hown hK hP 0 rfl rfl 1 (by decide) (hts (.fieldLink RX3 19 "Snowpalace" "river" "LSnowpalace$River;") (by decide +kernel)) (fun _ h9 => h9) rfl dX3_checksum_124 ?_
  refine va_get (D := (dC, dI)) (ci := 4) (v := .ref (a 8)) (C := RX0) (T := TX0) (N := 3) hx hb hts (by decide +kernel) hown hK hP 2 rfl rfl 0 (by decide) (hts (.fieldLink RX3 102 "Snowpalace$River" "thickness" "[I") (by decide +kernel)) (fun _ h9 => h9) rfl dX3_checksum_127 ?_
  refine lv_iload_n hx hb dX3_checksum_130 rfl (lv_at hl 0 rfl) ?_
  refine va_iald (D := (dC, dI)) hx hb hK hP 8 0 rfl rfl (by unfold vp_in; decide) dX3_checksum_131 ?_
  refine lv_topi (fun v11 e12 => ?_)
  obtain rfl : v11 = (0 : Int32) := e12.trans rfl
  refine lv_i2l (v := 0) hx hb dX3_checksum_132 (by decide) ?_
  refine lv_ladd hx hb dX3_checksum_133 ?_
  refine lv_topl (fun v13 e14 => ?_)
  obtain rfl : v13 = (208537 : Int64) := e14.trans (by decide)
  refine lv_lstore_n (lv' := [(1, .long 208537), (3, .int 0), (0, .ref (a 0))]) hx hb dX3_checksum_134 rfl hl (by decide) rfl (fun ls hl => ?_)
  refine lv_iinc (v := 1) (lv' := [(3, .int 1), (1, .long 208537), (0, .ref (a 0))]) hx hb dX3_checksum_135 hl (k := 1) rfl (by decide) (by decide) rfl (fun ls hl => ?_)
  refine lv_goto (tgt := 113) hx hb dX3_checksum_138 (by decide) ?_
  refine lv_iload_n hx hb dX3_checksum_113 rfl (lv_at hl 0 rfl) ?_
  refine lv_iconst (v := 4) hx hb dX3_checksum_114 (by decide) ?_
  refine lv_icmp_ge (tgt := 141) hx hb dX3_checksum_115 (by decide) (fun cx => by first | exact absurd cx (by decide) | exact absurd (by decide) cx) (fun _ => ?_)
  refine lv_ldc2 hx hb hown (hts (.constantLong RX3 316 31) (by decide +kernel)) dX3_checksum_118 ?_
  refine lv_lload_n hx hb dX3_checksum_121 rfl (lv_at hl 1 rfl) ?_
  refine lv_lmul hx hb dX3_checksum_122 ?_
  refine lv_topl (fun v15 e16 => ?_)
  obtain rfl : v15 = (6464647 : Int64) := e16.trans (by decide)
  refine lv_aload_n hx hb dX3_checksum_123 rfl (lv_at hl 2 rfl) ?_
  refine va_get (D := (dC, dI)) (ci := 7) (v := .ref (a 2)) (C := RX3) (T := TX3) (N := 10) hx hb hts (by decide +kernel) hown hK hP 0 rfl rfl 1 (by decide) (hts (.fieldLink RX3 19 "Snowpalace" "river" "LSnowpalace$River;") (by decide +kernel)) (fun _ h9 => h9) rfl dX3_checksum_124 ?_
  refine va_get (D := (dC, dI)) (ci := 4) (v := .ref (a 8)) (C := RX0) (T := TX0) (N := 3) hx hb hts (by decide +kernel) hown hK hP 2 rfl rfl 0 (by decide) (hts (.fieldLink RX3 102 "Snowpalace$River" "thickness" "[I") (by decide +kernel)) (fun _ h9 => h9) rfl dX3_checksum_127 ?_
  refine lv_iload_n hx hb dX3_checksum_130 rfl (lv_at hl 0 rfl) ?_
  refine va_iald (D := (dC, dI)) hx hb hK hP 8 0 rfl rfl (by unfold vp_in; decide) dX3_checksum_131 ?_
  refine lv_topi (fun v17 e18 => ?_)
  obtain rfl : v17 = (0 : Int32) := e18.trans rfl
  refine lv_i2l (v := 0) hx hb dX3_checksum_132 (by decide) ?_
  refine lv_ladd hx hb dX3_checksum_133 ?_
  refine lv_topl (fun v19 e20 => ?_)
  obtain rfl : v19 = (6464647 : Int64) := e20.trans (by decide)
  refine lv_lstore_n (lv' := [(1, .long 6464647), (3, .int 1), (0, .ref (a 0))]) hx hb dX3_checksum_134 rfl hl (by decide) rfl (fun ls hl => ?_)
  refine lv_iinc (v := 2) (lv' := [(3, .int 2), (1, .long 6464647), (0, .ref (a 0))]) hx hb dX3_checksum_135 hl (k := 1) rfl (by decide) (by decide) rfl (fun ls hl => ?_)
  refine lv_goto (tgt := 113) hx hb dX3_checksum_138 (by decide) ?_
  refine lv_iload_n hx hb dX3_checksum_113 rfl (lv_at hl 0 rfl) ?_
  refine lv_iconst (v := 4) hx hb dX3_checksum_114 (by decide) ?_
  refine lv_icmp_ge (tgt := 141) hx hb dX3_checksum_115 (by decide) (fun cx => by first | exact absurd cx (by decide) | exact absurd (by decide) cx) (fun _ => ?_)
  refine lv_ldc2 hx hb hown (hts (.constantLong RX3 316 31) (by decide +kernel)) dX3_checksum_118 ?_
  refine lv_lload_n hx hb dX3_checksum_121 rfl (lv_at hl 1 rfl) ?_
  refine lv_lmul hx hb dX3_checksum_122 ?_
  refine lv_topl (fun v21 e22 => ?_)
  obtain rfl : v21 = (200404057 : Int64) := e22.trans (by decide)
  refine lv_aload_n hx hb dX3_checksum_123 rfl (lv_at hl 2 rfl) ?_
  refine va_get (D := (dC, dI)) (ci := 7) (v := .ref (a 2)) (C := RX3) (T := TX3) (N := 10) hx hb hts (by decide +kernel) hown hK hP 0 rfl rfl 1 (by decide) (hts (.fieldLink RX3 19 "Snowpalace" "river" "LSnowpalace$River;") (by decide +kernel)) (fun _ h9 => h9) rfl dX3_checksum_124 ?_
  refine va_get (D := (dC, dI)) (ci := 4) (v := .ref (a 8)) (C := RX0) (T := TX0) (N := 3) hx hb hts (by decide +kernel) hown hK hP 2 rfl rfl 0 (by decide) (hts (.fieldLink RX3 102 "Snowpalace$River" "thickness" "[I") (by decide +kernel)) (fun _ h9 => h9) rfl dX3_checksum_127 ?_
  refine lv_iload_n hx hb dX3_checksum_130 rfl (lv_at hl 0 rfl) ?_
  refine va_iald (D := (dC, dI)) hx hb hK hP 8 0 rfl rfl (by unfold vp_in; decide) dX3_checksum_131 ?_
  refine lv_topi (fun v23 e24 => ?_)
  obtain rfl : v23 = (0 : Int32) := e24.trans rfl
  refine lv_i2l (v := 0) hx hb dX3_checksum_132 (by decide) ?_
  refine lv_ladd hx hb dX3_checksum_133 ?_
  refine lv_topl (fun v25 e26 => ?_)
  obtain rfl : v25 = (200404057 : Int64) := e26.trans (by decide)
  refine lv_lstore_n (lv' := [(1, .long 200404057), (3, .int 2), (0, .ref (a 0))]) hx hb dX3_checksum_134 rfl hl (by decide) rfl (fun ls hl => ?_)
  refine lv_iinc (v := 3) (lv' := [(3, .int 3), (1, .long 200404057), (0, .ref (a 0))]) hx hb dX3_checksum_135 hl (k := 1) rfl (by decide) (by decide) rfl (fun ls hl => ?_)
  refine lv_goto (tgt := 113) hx hb dX3_checksum_138 (by decide) ?_
  refine lv_iload_n hx hb dX3_checksum_113 rfl (lv_at hl 0 rfl) ?_
  refine lv_iconst (v := 4) hx hb dX3_checksum_114 (by decide) ?_
  refine lv_icmp_ge (tgt := 141) hx hb dX3_checksum_115 (by decide) (fun cx => by first | exact absurd cx (by decide) | exact absurd (by decide) cx) (fun _ => ?_)
  refine lv_ldc2 hx hb hown (hts (.constantLong RX3 316 31) (by decide +kernel)) dX3_checksum_118 ?_
  refine lv_lload_n hx hb dX3_checksum_121 rfl (lv_at hl 1 rfl) ?_
  refine lv_lmul hx hb dX3_checksum_122 ?_
  refine lv_topl (fun v27 e28 => ?_)
  obtain rfl : v27 = (6212525767 : Int64) := e28.trans (by decide)
  refine lv_aload_n hx hb dX3_checksum_123 rfl (lv_at hl 2 rfl) ?_
  refine va_get (D := (dC, dI)) (ci := 7) (v := .ref (a 2)) (C := RX3) (T := TX3) (N := 10) hx hb hts (by decide +kernel) hown hK hP 0 rfl rfl 1 (by decide) (hts (.fieldLink RX3 19 "Snowpalace" "river" "LSnowpalace$River;") (by decide +kernel)) (fun _ h9 => h9) rfl dX3_checksum_124 ?_
  refine va_get (D := (dC, dI)) (ci := 4) (v := .ref (a 8)) (C := RX0) (T := TX0) (N := 3) hx hb hts (by decide +kernel) hown hK hP 2 rfl rfl 0 (by decide) (hts (.fieldLink RX3 102 "Snowpalace$River" "thickness" "[I") (by decide +kernel)) (fun _ h9 => h9) rfl dX3_checksum_127 ?_
  refine lv_iload_n hx hb dX3_checksum_130 rfl (lv_at hl 0 rfl) ?_
  refine va_iald (D := (dC, dI)) hx hb hK hP 8 0 rfl rfl (by unfold vp_in; decide) dX3_checksum_131 ?_
  refine lv_topi (fun v29 e30 => ?_)
  obtain rfl : v29 = (0 : Int32) := e30.trans rfl
  refine lv_i2l (v := 0) hx hb dX3_checksum_132 (by decide) ?_
  refine lv_ladd hx hb dX3_checksum_133 ?_
  refine lv_topl (fun v31 e32 => ?_)
  obtain rfl : v31 = (6212525767 : Int64) := e32.trans (by decide)
  refine lv_lstore_n (lv' := [(1, .long 6212525767), (3, .int 3), (0, .ref (a 0))]) hx hb dX3_checksum_134 rfl hl (by decide) rfl (fun ls hl => ?_)
  refine lv_iinc (v := 4) (lv' := [(3, .int 4), (1, .long 6212525767), (0, .ref (a 0))]) hx hb dX3_checksum_135 hl (k := 1) rfl (by decide) (by decide) rfl (fun ls hl => ?_)
  refine lv_goto (tgt := 113) hx hb dX3_checksum_138 (by decide) ?_
  refine lv_iload_n hx hb dX3_checksum_113 rfl (lv_at hl 0 rfl) ?_
  refine lv_iconst (v := 4) hx hb dX3_checksum_114 (by decide) ?_
  refine lv_icmp_ge (tgt := 141) hx hb dX3_checksum_115 (by decide) (fun _ => ?_) (fun cx => by first | exact absurd (by decide) cx | exact absurd cx (by decide))
  refine lv_lload_n hx hb dX3_checksum_141 rfl (lv_at hl 1 rfl) ?_
  refine W.widen (k := 0) (n := 0) (Nat.le_of_ble_eq_true rfl) (Nat.le_of_ble_eq_true rfl) ?_
  exact W.lret (v := 6212525767) hx hb hr (fun t ht hW => ⟨⟨6212525767, (), rfl, rfl, trivial⟩, hS.F ht⟩) hS.2.2 dX3_checksum_142

set_option maxHeartbeats 4000000 in
set_option maxRecDepth 100000 in
theorem k_isSound (l : Launch) (dC : Nat → ClassId) (dI : Nat → Nat → Nat) (sz : Nat) (a : Nat → Nat) (cI cS : ClassId) (f : Nat → Nat → Int32)   : Met l yX3_isSound wsX3_isSound ({ frames := 0, cells := 0, slots := 0, locals := 0 }) (va_Pc [.ref (a 0)] (PW dC dI (wX a cI cS f) [(cI, .int), (cS, .object "Snowpalace$Site")] sz)) (va_Qi (fun (r : Int32) (u : Unit) => r = 1) (fun (u : Unit) t => True) (fun _ => False)) 0 0 (fun _ => False) := by
  refine Met.ofW (cc := cX3_isSound) (maxL := 3) (ret := (some .boolean)) (by decide +kernel) rfl ?_
  intro p e s m args below meth c s₁ B hml hv
  obtain ⟨rfl, hsz, hP, hK, hD0⟩ := hv
  have hx := B.exec
  have hb := B.bytes
  have hr := B.returns
  have hts := atoms_spec (ws := wsX3_isSound) B.pre
  have hown : s.vm.findClass RX3 = some m.cls := findClass_of_methodNamed B.named
  have hlocks := B.notSynchronized
  subst hsz
  have hD := hD0
  have hS : va_S (fun _ => False) s.heap s.heap [] := va_S.rf
  have hl := lv_entry ([.ref (a 0)]) (n := 3) (Nat.le_of_ble_eq_true rfl)
  rw [lg_entry_eq]
  generalize (lg_sl ([.ref (a 0)]) ++ List.replicate (3 - (lg_sl ([.ref (a 0)])).length) Slot.unset).toArray = ls at hl ⊢
  have hl : lv_has ls 3 [(0, .ref (a 0))] := hl
  refine lv_iconst (v := 0) hx hb dX3_isSound_0 (by decide) ?_
  refine lv_istore_n (lv' := [(1, .int 0), (0, .ref (a 0))]) hx hb dX3_isSound_1 rfl hl (by decide) rfl (fun ls hl => ?_)
  refine lv_iload_n hx hb dX3_isSound_2 rfl (lv_at hl 0 rfl) ?_
  refine lv_aload_n hx hb dX3_isSound_3 rfl (lv_at hl 1 rfl) ?_
  refine va_get (D := (dC, dI)) (ci := 7) (v := .int 0) (C := RX3) (T := TX3) (N := 10) hx hb hts (by decide +kernel) hown hK hP 0 rfl rfl 3 (by decide) (hts (.fieldLink RX3 29 "Snowpalace" "siteCount" "I") (by decide +kernel)) (fun _ h9 => h9) rfl dX3_isSound_4 ?_
  refine lv_icmp_ge (tgt := 35) hx hb dX3_isSound_7 (by decide) (fun _ => ?_) (fun cx => by first | exact absurd (by decide) cx | exact absurd cx (by decide))
  refine lv_iconst (v := 0) hx hb dX3_isSound_35 (by decide) ?_
  refine lv_istore_n (lv' := [(1, .int 0), (0, .ref (a 0))]) hx hb dX3_isSound_36 rfl hl (by decide) rfl (fun ls hl => ?_)
  refine lv_iload_n hx hb dX3_isSound_37 rfl (lv_at hl 0 rfl) ?_
  refine lv_iconst (v := 4) hx hb dX3_isSound_38 (by decide) ?_
  refine lv_icmp_ge (tgt := 71) hx hb dX3_isSound_39 (by decide) (fun cx => by first | exact absurd cx (by decide) | exact absurd (by decide) cx) (fun _ => ?_)
  refine lv_aload_n hx hb dX3_isSound_42 rfl (lv_at hl 1 rfl) ?_
  refine va_get (D := (dC, dI)) (ci := 7) (v := .ref (a 2)) (C := RX3) (T := TX3) (N := 10) hx hb hts (by decide +kernel) hown hK hP 0 rfl rfl 1 (by decide) (hts (.fieldLink RX3 19 "Snowpalace" "river" "LSnowpalace$River;") (by decide +kernel)) (fun _ h9 => h9) rfl dX3_isSound_43 ?_
  refine va_get (D := (dC, dI)) (ci := 4) (v := .ref (a 9)) (C := RX0) (T := TX0) (N := 3) hx hb hts (by decide +kernel) hown hK hP 2 rfl rfl 1 (by decide) (hts (.fieldLink RX3 105 "Snowpalace$River" "clearPart" "[I") (by decide +kernel)) (fun _ h9 => h9) rfl dX3_isSound_46 ?_
  refine lv_iload_n hx hb dX3_isSound_49 rfl (lv_at hl 0 rfl) ?_
  refine va_iald (D := (dC, dI)) hx hb hK hP 9 0 rfl rfl (by unfold vp_in; decide) dX3_isSound_50 ?_
  refine lv_topi (fun v1 e2 => ?_)
  obtain rfl : v1 = (0 : Int32) := e2.trans rfl
  refine lv_aload_n hx hb dX3_isSound_51 rfl (lv_at hl 1 rfl) ?_
  refine va_get (D := (dC, dI)) (ci := 7) (v := .ref (a 2)) (C := RX3) (T := TX3) (N := 10) hx hb hts (by decide +kernel) hown hK hP 0 rfl rfl 1 (by decide) (hts (.fieldLink RX3 19 "Snowpalace" "river" "LSnowpalace$River;") (by decide +kernel)) (fun _ h9 => h9) rfl dX3_isSound_52 ?_
  refine va_get (D := (dC, dI)) (ci := 4) (v := .ref (a 8)) (C := RX0) (T := TX0) (N := 3) hx hb hts (by decide +kernel) hown hK hP 2 rfl rfl 0 (by decide) (hts (.fieldLink RX3 102 "Snowpalace$River" "thickness" "[I") (by decide +kernel)) (fun _ h9 => h9) rfl dX3_isSound_55 ?_
  refine lv_iload_n hx hb dX3_isSound_58 rfl (lv_at hl 0 rfl) ?_
  refine va_iald (D := (dC, dI)) hx hb hK hP 8 0 rfl rfl (by unfold vp_in; decide) dX3_isSound_59 ?_
  refine lv_topi (fun v3 e4 => ?_)
  obtain rfl : v3 = (0 : Int32) := e4.trans rfl
  refine lv_icmp_le (tgt := 65) hx hb dX3_isSound_60 (by decide) (fun _ => ?_) (fun cx => by first | exact absurd (by decide) cx | exact absurd cx (by decide))
  refine lv_iinc (v := 1) (lv' := [(1, .int 1), (0, .ref (a 0))]) hx hb dX3_isSound_65 hl (k := 0) rfl (by decide) (by decide) rfl (fun ls hl => ?_)
  refine lv_goto (tgt := 37) hx hb dX3_isSound_68 (by decide) ?_
  refine lv_iload_n hx hb dX3_isSound_37 rfl (lv_at hl 0 rfl) ?_
  refine lv_iconst (v := 4) hx hb dX3_isSound_38 (by decide) ?_
  refine lv_icmp_ge (tgt := 71) hx hb dX3_isSound_39 (by decide) (fun cx => by first | exact absurd cx (by decide) | exact absurd (by decide) cx) (fun _ => ?_)
  refine lv_aload_n hx hb dX3_isSound_42 rfl (lv_at hl 1 rfl) ?_
  refine va_get (D := (dC, dI)) (ci := 7) (v := .ref (a 2)) (C := RX3) (T := TX3) (N := 10) hx hb hts (by decide +kernel) hown hK hP 0 rfl rfl 1 (by decide) (hts (.fieldLink RX3 19 "Snowpalace" "river" "LSnowpalace$River;") (by decide +kernel)) (fun _ h9 => h9) rfl dX3_isSound_43 ?_
  refine va_get (D := (dC, dI)) (ci := 4) (v := .ref (a 9)) (C := RX0) (T := TX0) (N := 3) hx hb hts (by decide +kernel) hown hK hP 2 rfl rfl 1 (by decide) (hts (.fieldLink RX3 105 "Snowpalace$River" "clearPart" "[I") (by decide +kernel)) (fun _ h9 => h9) rfl dX3_isSound_46 ?_
  refine lv_iload_n hx hb dX3_isSound_49 rfl (lv_at hl 0 rfl) ?_
  refine va_iald (D := (dC, dI)) hx hb hK hP 9 0 rfl rfl (by unfold vp_in; decide) dX3_isSound_50 ?_
  refine lv_topi (fun v5 e6 => ?_)
  obtain rfl : v5 = (0 : Int32) := e6.trans rfl
  refine lv_aload_n hx hb dX3_isSound_51 rfl (lv_at hl 1 rfl) ?_
  refine va_get (D := (dC, dI)) (ci := 7) (v := .ref (a 2)) (C := RX3) (T := TX3) (N := 10) hx hb hts (by decide +kernel) hown hK hP 0 rfl rfl 1 (by decide) (hts (.fieldLink RX3 19 "Snowpalace" "river" "LSnowpalace$River;") (by decide +kernel)) (fun _ h9 => h9) rfl dX3_isSound_52 ?_
  refine va_get (D := (dC, dI)) (ci := 4) (v := .ref (a 8)) (C := RX0) (T := TX0) (N := 3) hx hb hts (by decide +kernel) hown hK hP 2 rfl rfl 0 (by decide) (hts (.fieldLink RX3 102 "Snowpalace$River" "thickness" "[I") (by decide +kernel)) (fun _ h9 => h9) rfl dX3_isSound_55 ?_
  refine lv_iload_n hx hb dX3_isSound_58 rfl (lv_at hl 0 rfl) ?_
  refine va_iald (D := (dC, dI)) hx hb hK hP 8 0 rfl rfl (by unfold vp_in; decide) dX3_isSound_59 ?_
  refine lv_topi (fun v7 e8 => ?_)
  obtain rfl : v7 = (0 : Int32) := e8.trans rfl
  refine lv_icmp_le (tgt := 65) hx hb dX3_isSound_60 (by decide) (fun _ => ?_) (fun cx => by first | exact absurd (by decide) cx | exact absurd cx (by decide))
  refine lv_iinc (v := 2) (lv' := [(1, .int 2), (0, .ref (a 0))]) hx hb dX3_isSound_65 hl (k := 0) rfl (by decide) (by decide) rfl (fun ls hl => ?_)
  refine lv_goto (tgt := 37) hx hb dX3_isSound_68 (by decide) ?_
  refine lv_iload_n hx hb dX3_isSound_37 rfl (lv_at hl 0 rfl) ?_
  refine lv_iconst (v := 4) hx hb dX3_isSound_38 (by decide) ?_
  refine lv_icmp_ge (tgt := 71) hx hb dX3_isSound_39 (by decide) (fun cx => by first | exact absurd cx (by decide) | exact absurd (by decide) cx) (fun _ => ?_)
  refine lv_aload_n hx hb dX3_isSound_42 rfl (lv_at hl 1 rfl) ?_
  refine va_get (D := (dC, dI)) (ci := 7) (v := .ref (a 2)) (C := RX3) (T := TX3) (N := 10) hx hb hts (by decide +kernel) hown hK hP 0 rfl rfl 1 (by decide) (hts (.fieldLink RX3 19 "Snowpalace" "river" "LSnowpalace$River;") (by decide +kernel)) (fun _ h9 => h9) rfl dX3_isSound_43 ?_
  refine va_get (D := (dC, dI)) (ci := 4) (v := .ref (a 9)) (C := RX0) (T := TX0) (N := 3) hx hb hts (by decide +kernel) hown hK hP 2 rfl rfl 1 (by decide) (hts (.fieldLink RX3 105 "Snowpalace$River" "clearPart" "[I") (by decide +kernel)) (fun _ h9 => h9) rfl dX3_isSound_46 ?_
  refine lv_iload_n hx hb dX3_isSound_49 rfl (lv_at hl 0 rfl) ?_
  refine va_iald (D := (dC, dI)) hx hb hK hP 9 0 rfl rfl (by unfold vp_in; decide) dX3_isSound_50 ?_
  refine lv_topi (fun v9 e10 => ?_)
  obtain rfl : v9 = (0 : Int32) := e10.trans rfl
  refine lv_aload_n hx hb dX3_isSound_51 rfl (lv_at hl 1 rfl) ?_
  refine va_get (D := (dC, dI)) (ci := 7) (v := .ref (a 2)) (C := RX3) (T := TX3) (N := 10) hx hb hts (by decide +kernel) hown hK hP 0 rfl rfl 1 (by decide) (hts (.fieldLink RX3 19 "Snowpalace" "river" "LSnowpalace$River;") (by decide +kernel)) (fun _ h9 => h9) rfl dX3_isSound_52 ?_
  refine va_get (D := (dC, dI)) (ci := 4) (v := .ref (a 8)) (C := RX0) (T := TX0) (N := 3) hx hb hts (by decide +kernel) hown hK hP 2 rfl rfl 0 (by decide) (hts (.fieldLink RX3 102 "Snowpalace$River" "thickness" "[I") (by decide +kernel)) (fun _ h9 => h9) rfl dX3_isSound_55 ?_
  refine lv_iload_n hx hb dX3_isSound_58 rfl (lv_at hl 0 rfl) ?_
  refine va_iald (D := (dC, dI)) hx hb hK hP 8 0 rfl rfl (by unfold vp_in; decide) dX3_isSound_59 ?_
  refine lv_topi (fun v11 e12 => ?_)
  obtain rfl : v11 = (0 : Int32) := e12.trans rfl
  refine lv_icmp_le (tgt := 65) hx hb dX3_isSound_60 (by decide) (fun _ => ?_) (fun cx => by first | exact absurd (by decide) cx | exact absurd cx (by decide))
  refine lv_iinc (v := 3) (lv' := [(1, .int 3), (0, .ref (a 0))]) hx hb dX3_isSound_65 hl (k := 0) rfl (by decide) (by decide) rfl (fun ls hl => ?_)
  refine lv_goto (tgt := 37) hx hb dX3_isSound_68 (by decide) ?_
  refine lv_iload_n hx hb dX3_isSound_37 rfl (lv_at hl 0 rfl) ?_
  refine lv_iconst (v := 4) hx hb dX3_isSound_38 (by decide) ?_
  refine lv_icmp_ge (tgt := 71) hx hb dX3_isSound_39 (by decide) (fun cx => by first | exact absurd cx (by decide) | exact absurd (by decide) cx) (fun _ => ?_)
  refine lv_aload_n hx hb dX3_isSound_42 rfl (lv_at hl 1 rfl) ?_
  refine va_get (D := (dC, dI)) (ci := 7) (v := .ref (a 2)) (C := RX3) (T := TX3) (N := 10) hx hb hts (by decide +kernel) hown hK hP 0 rfl rfl 1 (by decide) (hts (.fieldLink RX3 19 "Snowpalace" "river" "LSnowpalace$River;") (by decide +kernel)) (fun _ h9 => h9) rfl dX3_isSound_43 ?_
  refine va_get (D := (dC, dI)) (ci := 4) (v := .ref (a 9)) (C := RX0) (T := TX0) (N := 3) hx hb hts (by decide +kernel) hown hK hP 2 rfl rfl 1 (by decide) (hts (.fieldLink RX3 105 "Snowpalace$River" "clearPart" "[I") (by decide +kernel)) (fun _ h9 => h9) rfl dX3_isSound_46 ?_
  refine lv_iload_n hx hb dX3_isSound_49 rfl (lv_at hl 0 rfl) ?_
  refine va_iald (D := (dC, dI)) hx hb hK hP 9 0 rfl rfl (by unfold vp_in; decide) dX3_isSound_50 ?_
  refine lv_topi (fun v13 e14 => ?_)
  obtain rfl : v13 = (0 : Int32) := e14.trans rfl
  refine lv_aload_n hx hb dX3_isSound_51 rfl (lv_at hl 1 rfl) ?_
  refine va_get (D := (dC, dI)) (ci := 7) (v := .ref (a 2)) (C := RX3) (T := TX3) (N := 10) hx hb hts (by decide +kernel) hown hK hP 0 rfl rfl 1 (by decide) (hts (.fieldLink RX3 19 "Snowpalace" "river" "LSnowpalace$River;") (by decide +kernel)) (fun _ h9 => h9) rfl dX3_isSound_52 ?_
  refine va_get (D := (dC, dI)) (ci := 4) (v := .ref (a 8)) (C := RX0) (T := TX0) (N := 3) hx hb hts (by decide +kernel) hown hK hP 2 rfl rfl 0 (by decide) (hts (.fieldLink RX3 102 "Snowpalace$River" "thickness" "[I") (by decide +kernel)) (fun _ h9 => h9) rfl dX3_isSound_55 ?_
  refine lv_iload_n hx hb dX3_isSound_58 rfl (lv_at hl 0 rfl) ?_
  refine va_iald (D := (dC, dI)) hx hb hK hP 8 0 rfl rfl (by unfold vp_in; decide) dX3_isSound_59 ?_
  refine lv_topi (fun v15 e16 => ?_)
  obtain rfl : v15 = (0 : Int32) := e16.trans rfl
  refine lv_icmp_le (tgt := 65) hx hb dX3_isSound_60 (by decide) (fun _ => ?_) (fun cx => by first | exact absurd (by decide) cx | exact absurd cx (by decide))
  refine lv_iinc (v := 4) (lv' := [(1, .int 4), (0, .ref (a 0))]) hx hb dX3_isSound_65 hl (k := 0) rfl (by decide) (by decide) rfl (fun ls hl => ?_)
  refine lv_goto (tgt := 37) hx hb dX3_isSound_68 (by decide) ?_
  refine lv_iload_n hx hb dX3_isSound_37 rfl (lv_at hl 0 rfl) ?_
  refine lv_iconst (v := 4) hx hb dX3_isSound_38 (by decide) ?_
  refine lv_icmp_ge (tgt := 71) hx hb dX3_isSound_39 (by decide) (fun _ => ?_) (fun cx => by first | exact absurd (by decide) cx | exact absurd cx (by decide))
  refine lv_iconst (v := 1) hx hb dX3_isSound_71 (by decide) ?_
  refine W.widen (k := 0) (n := 0) (Nat.le_of_ble_eq_true rfl) (Nat.le_of_ble_eq_true rfl) ?_
  exact W.zret (v := 1) (ty := .boolean) hx hb hr rfl (fun t ht hW => ⟨⟨1, (), rfl, rfl, trivial⟩, hS.F ht⟩) hS.2.2 dX3_isSound_72

set_option maxHeartbeats 4000000 in
set_option maxRecDepth 100000 in
theorem k_openShare (l : Launch) (hlt : l.stackTraces = false) (dC : Nat → ClassId) (dI : Nat → Nat → Nat) (sz : Nat) (a : Nat → Nat) (cI cS : ClassId) (f : Nat → Nat → Int32)   : vx_Met l yX3_openShare wsX3_openShare ({ frames := 6, cells := 1, slots := 6, locals := 82 }) (va_Pc [.ref (a 0)] (PT dC dI (wX a cI cS f) [(cI, .int), (cS, .object "Snowpalace$Site")] sz)) (va_Qf (fun (r : UInt32) (u : Unit) => False) (fun (u : Unit) t => True) (va_A (wX a cI cS f) sz)) (vx_X (fun u : String => u = "java/lang/ArithmeticException" ∧ True) (fun E (u : String) _ => E = u) (va_A (wX a cI cS f) sz)) 1 6 (va_A (wX a cI cS f) sz) := by
  refine vx_ofW (cc := cX3_openShare) (maxL := 4) (ret := (some .float)) (by decide +kernel) rfl ?_
  intro p e s m args below meth c s₁ B hml hnt hv
  obtain ⟨rfl, ⟨hsz, hP, hK, hD0⟩, hT⟩ := hv
  have hx := B.exec
  have hb := B.bytes
  have hr := B.returns
  have hts := atoms_spec (ws := wsX3_openShare) B.pre
  have hown : s.vm.findClass RX3 = some m.cls := findClass_of_methodNamed B.named
  have hlocks := B.notSynchronized
  subst hsz
  have hD := hD0.self (sz := s.heap.size)
  generalize hAe : va_A (wX a cI cS f) s.heap.size = A at hD hT ⊢
  have hA : ∀ q : Nat, s.heap.size ≤ q → A q := fun q h => by rw [← hAe]; exact Or.inr h
  have hS : va_S A s.heap s.heap [] := va_S.rf
  have hl := lv_entry ([.ref (a 0)]) (n := 4) (Nat.le_of_ble_eq_true rfl)
  rw [lg_entry_eq]
  generalize (lg_sl ([.ref (a 0)]) ++ List.replicate (4 - (lg_sl ([.ref (a 0)])).length) Slot.unset).toArray = ls at hl ⊢
  have hl : lv_has ls 4 [(0, .ref (a 0))] := hl
  have hN : NS s := hT.ns
  refine lv_aload_n hx hb dX3_openShare_0 rfl (lv_at hl 0 rfl) ?_
  refine va_get (D := (dC, dI)) (ci := 7) (v := .int 0) (C := RX3) (T := TX3) (N := 10) hx hb hts (by decide +kernel) hown hK hP 0 rfl rfl 3 (by decide) (hts (.fieldLink RX3 29 "Snowpalace" "siteCount" "I") (by decide +kernel)) (fun _ h9 => h9) rfl dX3_openShare_1 ?_
  refine lv_if_ne (tgt := 18) hx hb dX3_openShare_4 (by decide) (fun cx => by first | exact absurd cx (by decide) | exact absurd (by decide) cx) (fun _ => ?_)
  obtain ⟨sa, hsa⟩ := hT.2.1 (306, "there are no sites") (by decide +kernel)
  exact vx_throwSW (A := A) (own := RX3) (cls := "java/lang/ArithmeticException") (text := "there are no sites") (names := exN) hx hb hlt hown (by decide +kernel) (by decide +kernel) (hts (.classLink RX3 304 "java/lang/ArithmeticException") (by decide +kernel)) (hts (.initialized "java/lang/ArithmeticException") (by decide +kernel)) hsa (th_hat hT (fun w h => hts w (List.mem_cons_of_mem _ (List.mem_append_left _ (List.mem_append_right _ h)))) th_i6) (th_good th_i6) hT.2.2.2.1 hT.2.2.2.2 hS (hl.1.trans hml.symm) dX3_openShare_7 dX3_openShare_10 dX3_openShare_11 dX3_openShare_14 dX3_openShare_17 (fun x h => (hnt x h).elim) (by decide) (Nat.le_of_ble_eq_true rfl) (Nat.le_of_ble_eq_true rfl) (Nat.le_of_ble_eq_true rfl) hlocks (fun t ha h1 h2 => ⟨_, ⟨rfl, trivial⟩, rfl, th_F hS h1 h2⟩) hS.2.2 (Nat.le_of_ble_eq_true rfl) (Nat.le_of_ble_eq_true rfl)

