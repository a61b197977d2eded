set_option maxHeartbeats 4000000 in
set_option maxRecDepth 100000 in
theorem m_now (l : Launch) (dC : Nat → ClassId) (dI : Nat → Nat → Nat) (sz : Nat) (b : Nat → Nat)   : Met l yX6_now wsX6_now ({ frames := 0, cells := 0, slots := 0, locals := 0 }) (va_Pc [.ref (b 0)] (PW dC dI ([((b 0), .inr (10, [.int 0, .ref (b 1), .int 0, .int 0, .ref (b 2), .ref (b 3), .ref (b 4), .ref (b 5), .int 0, .int 0, .ref (b 6)]))]) [] sz)) (va_Qi (fun (r : Int32) (u : Unit) => r = 0) (fun (u : Unit) t => True) (va_A ([((b 0), .inr (10, [.int 0, .ref (b 1), .int 0, .int 0, .ref (b 2), .ref (b 3), .ref (b 4), .ref (b 5), .int 0, .int 0, .ref (b 6)]))]) sz)) 0 0 (va_A ([((b 0), .inr (10, [.int 0, .ref (b 1), .int 0, .int 0, .ref (b 2), .ref (b 3), .ref (b 4), .ref (b 5), .int 0, .int 0, .ref (b 6)]))]) sz) := by
  refine Met.ofW (cc := cX6_now) (maxL := 1) (ret := (some .int)) (by decide +kernel) rfl ?_
  intro p e s m args below meth c s₁ B hml hv
  obtain ⟨rfl, hsz, hP, hK, hD0⟩ := hv
  have hx := B.exec
  have hb := B.bytes
  have hr := B.returns
  have hts := atoms_spec (ws := wsX6_now) B.pre
  have hown : s.vm.findClass RX6 = some m.cls := findClass_of_methodNamed B.named
  have hlocks := B.notSynchronized
  subst hsz
  have hD := hD0.self (sz := s.heap.size)
  generalize hAe : va_A ([((b 0), .inr (10, [.int 0, .ref (b 1), .int 0, .int 0, .ref (b 2), .ref (b 3), .ref (b 4), .ref (b 5), .int 0, .int 0, .ref (b 6)]))]) s.heap.size = A at hD ⊢
  have hA : ∀ q : Nat, s.heap.size ≤ q → A q := fun q h => by rw [← hAe]; exact Or.inr h
  have hS : va_S A s.heap s.heap [] := va_S.rf
  have hl := lv_entry ([.ref (b 0)]) (n := 1) (Nat.le_of_ble_eq_true rfl)
  rw [lg_entry_eq]
  generalize (lg_sl ([.ref (b 0)]) ++ List.replicate (1 - (lg_sl ([.ref (b 0)])).length) Slot.unset).toArray = ls at hl ⊢
  have hl : lv_has ls 1 [(0, .ref (b 0))] := hl
  refine lv_aload_n hx hb dX6_now_0 rfl (lv_at hl 0 rfl) ?_
  refine lv_iconst (v := 0) hx hb dX6_now_1 (by decide) ?_
  refine va_put (D := (dC, dI)) (ci := 10) (v := .int 0) (ty := .int) (C := RX6) (T := TX6) (N := 11) hx hb hts (by decide +kernel) tyX6 tyX6_ok nmX6 hown hK hP hD hS 0 rfl rfl 0 (by decide) (hts (.fieldLink RX6 1 "SnowpalaceModel" "thrown" "I") (by decide +kernel)) (fun _ h9 => h9) rfl (by decide +kernel) rfl rfl (Nat.le_of_ble_eq_true rfl) dX6_now_2 (fun H locs hP hD hS => ?_)
  have hP : va_P (dC, dI) vwCl ([((b 0), .inr (10, [.int 0, .ref (b 1), .int 0, .int 0, .ref (b 2), .ref (b 3), .ref (b 4), .ref (b 5), .int 0, .int 0, .ref (b 6)]))]) H := hP
  have hD : va_D A ([((b 0), .inr (10, [.int 0, .ref (b 1), .int 0, .int 0, .ref (b 2), .ref (b 3), .ref (b 4), .ref (b 5), .int 0, .int 0, .ref (b 6)]))]) := hD
  refine lv_aload_n hx hb dX6_now_5 rfl (lv_at hl 0 rfl) ?_
  refine va_get (D := (dC, dI)) (ci := 10) (v := .int 0) (C := RX6) (T := TX6) (N := 11) hx hb hts (by decide +kernel) hown hK hP 0 rfl rfl 2 (by decide) (hts (.fieldLink RX6 58 "SnowpalaceModel" "hour" "I") (by decide +kernel)) (fun _ h9 => h9) rfl dX6_now_6 ?_
  refine W.widen (k := 0) (n := 0) (Nat.le_of_ble_eq_true rfl) (Nat.le_of_ble_eq_true rfl) ?_
  exact W.iret (v := 0) hx hb hr (fun t ht hW => ⟨⟨0, (), rfl, rfl, trivial⟩, hS.F ht⟩) hS.2.2 dX6_now_9

set_option maxHeartbeats 4000000 in
set_option maxRecDepth 100000 in
theorem m_snow (l : Launch) (dC : Nat → ClassId) (dI : Nat → Nat → Nat) (sz : Nat) (b : Nat → Nat)   : Met l yX6_snow wsX6_snow ({ frames := 0, cells := 0, slots := 0, locals := 0 }) (va_Pc [.ref (b 0)] (PW dC dI ([((b 0), .inr (10, [.int 0, .ref (b 1), .int 0, .int 0, .ref (b 2), .ref (b 3), .ref (b 4), .ref (b 5), .int 0, .int 0, .ref (b 6)]))]) [] sz)) (va_Qi (fun (r : Int32) (u : Unit) => r = 0) (fun (u : Unit) t => True) (va_A ([((b 0), .inr (10, [.int 0, .ref (b 1), .int 0, .int 0, .ref (b 2), .ref (b 3), .ref (b 4), .ref (b 5), .int 0, .int 0, .ref (b 6)]))]) sz)) 0 0 (va_A ([((b 0), .inr (10, [.int 0, .ref (b 1), .int 0, .int 0, .ref (b 2), .ref (b 3), .ref (b 4), .ref (b 5), .int 0, .int 0, .ref (b 6)]))]) sz) := by
  refine Met.ofW (cc := cX6_snow) (maxL := 1) (ret := (some .int)) (by decide +kernel) rfl ?_
  intro p e s m args below meth c s₁ B hml hv
  obtain ⟨rfl, hsz, hP, hK, hD0⟩ := hv
  have hx := B.exec
  have hb := B.bytes
  have hr := B.returns
  have hts := atoms_spec (ws := wsX6_snow) B.pre
  have hown : s.vm.findClass RX6 = some m.cls := findClass_of_methodNamed B.named
  have hlocks := B.notSynchronized
  subst hsz
  have hD := hD0.self (sz := s.heap.size)
  generalize hAe : va_A ([((b 0), .inr (10, [.int 0, .ref (b 1), .int 0, .int 0, .ref (b 2), .ref (b 3), .ref (b 4), .ref (b 5), .int 0, .int 0, .ref (b 6)]))]) s.heap.size = A at hD ⊢
  have hA : ∀ q : Nat, s.heap.size ≤ q → A q := fun q h => by rw [← hAe]; exact Or.inr h
  have hS : va_S A s.heap s.heap [] := va_S.rf
  have hl := lv_entry ([.ref (b 0)]) (n := 1) (Nat.le_of_ble_eq_true rfl)
  rw [lg_entry_eq]
  generalize (lg_sl ([.ref (b 0)]) ++ List.replicate (1 - (lg_sl ([.ref (b 0)])).length) Slot.unset).toArray = ls at hl ⊢
  have hl : lv_has ls 1 [(0, .ref (b 0))] := hl
  refine lv_aload_n hx hb dX6_snow_0 rfl (lv_at hl 0 rfl) ?_
  refine lv_iconst (v := 0) hx hb dX6_snow_1 (by decide) ?_
  refine va_put (D := (dC, dI)) (ci := 10) (v := .int 0) (ty := .int) (C := RX6) (T := TX6) (N := 11) hx hb hts (by decide +kernel) tyX6 tyX6_ok nmX6 hown hK hP hD hS 0 rfl rfl 0 (by decide) (hts (.fieldLink RX6 1 "SnowpalaceModel" "thrown" "I") (by decide +kernel)) (fun _ h9 => h9) rfl (by decide +kernel) rfl rfl (Nat.le_of_ble_eq_true rfl) dX6_snow_2 (fun H locs hP hD hS => ?_)
  have hP : va_P (dC, dI) vwCl ([((b 0), .inr (10, [.int 0, .ref (b 1), .int 0, .int 0, .ref (b 2), .ref (b 3), .ref (b 4), .ref (b 5), .int 0, .int 0, .ref (b 6)]))]) H := hP
  have hD : va_D A ([((b 0), .inr (10, [.int 0, .ref (b 1), .int 0, .int 0, .ref (b 2), .ref (b 3), .ref (b 4), .ref (b 5), .int 0, .int 0, .ref (b 6)]))]) := hD
  refine lv_aload_n hx hb dX6_snow_5 rfl (lv_at hl 0 rfl) ?_
  refine va_get (D := (dC, dI)) (ci := 10) (v := .int 0) (C := RX6) (T := TX6) (N := 11) hx hb hts (by decide +kernel) hown hK hP 0 rfl rfl 8 (by decide) (hts (.fieldLink RX6 89 "SnowpalaceModel" "stored" "I") (by decide +kernel)) (fun _ h9 => h9) rfl dX6_snow_6 ?_
  refine W.widen (k := 0) (n := 0) (Nat.le_of_ble_eq_true rfl) (Nat.le_of_ble_eq_true rfl) ?_
  exact W.iret (v := 0) hx hb hr (fun t ht hW => ⟨⟨0, (), rfl, rfl, trivial⟩, hS.F ht⟩) hS.2.2 dX6_snow_9

set_option maxHeartbeats 4000000 in
set_option maxRecDepth 100000 in
theorem m_money (l : Launch) (dC : Nat → ClassId) (dI : Nat → Nat → Nat) (sz : Nat) (b : Nat → Nat)   : Met l yX6_money wsX6_money ({ frames := 0, cells := 0, slots := 0, locals := 0 }) (va_Pc [.ref (b 0)] (PW dC dI ([((b 0), .inr (10, [.int 0, .ref (b 1), .int 0, .int 0, .ref (b 2), .ref (b 3), .ref (b 4), .ref (b 5), .int 0, .int 0, .ref (b 6)]))]) [] sz)) (va_Qi (fun (r : Int32) (u : Unit) => r = 0) (fun (u : Unit) t => True) (va_A ([((b 0), .inr (10, [.int 0, .ref (b 1), .int 0, .int 0, .ref (b 2), .ref (b 3), .ref (b 4), .ref (b 5), .int 0, .int 0, .ref (b 6)]))]) sz)) 0 0 (va_A ([((b 0), .inr (10, [.int 0, .ref (b 1), .int 0, .int 0, .ref (b 2), .ref (b 3), .ref (b 4), .ref (b 5), .int 0, .int 0, .ref (b 6)]))]) sz) := by
  refine Met.ofW (cc := cX6_money) (maxL := 1) (ret := (some .int)) (by decide +kernel) rfl ?_
  intro p e s m args below meth c s₁ B hml hv
  obtain ⟨rfl, hsz, hP, hK, hD0⟩ := hv
  have hx := B.exec
  have hb := B.bytes
  have hr := B.returns
  have hts := atoms_spec (ws := wsX6_money) B.pre
  have hown : s.vm.findClass RX6 = some m.cls := findClass_of_methodNamed B.named
  have hlocks := B.notSynchronized
  subst hsz
  have hD := hD0.self (sz := s.heap.size)
  generalize hAe : va_A ([((b 0), .inr (10, [.int 0, .ref (b 1), .int 0, .int 0, .ref (b 2), .ref (b 3), .ref (b 4), .ref (b 5), .int 0, .int 0, .ref (b 6)]))]) s.heap.size = A at hD ⊢
  have hA : ∀ q : Nat, s.heap.size ≤ q → A q := fun q h => by rw [← hAe]; exact Or.inr h
  have hS : va_S A s.heap s.heap [] := va_S.rf
  have hl := lv_entry ([.ref (b 0)]) (n := 1) (Nat.le_of_ble_eq_true rfl)
  rw [lg_entry_eq]
  generalize (lg_sl ([.ref (b 0)]) ++ List.replicate (1 - (lg_sl ([.ref (b 0)])).length) Slot.unset).toArray = ls at hl ⊢
  have hl : lv_has ls 1 [(0, .ref (b 0))] := hl
  refine lv_aload_n hx hb dX6_money_0 rfl (lv_at hl 0 rfl) ?_
  refine lv_iconst (v := 0) hx hb dX6_money_1 (by decide) ?_
  refine va_put (D := (dC, dI)) (ci := 10) (v := .int 0) (ty := .int) (C := RX6) (T := TX6) (N := 11) hx hb hts (by decide +kernel) tyX6 tyX6_ok nmX6 hown hK hP hD hS 0 rfl rfl 0 (by decide) (hts (.fieldLink RX6 1 "SnowpalaceModel" "thrown" "I") (by decide +kernel)) (fun _ h9 => h9) rfl (by decide +kernel) rfl rfl (Nat.le_of_ble_eq_true rfl) dX6_money_2 (fun H locs hP hD hS => ?_)
  have hP : va_P (dC, dI) vwCl ([((b 0), .inr (10, [.int 0, .ref (b 1), .int 0, .int 0, .ref (b 2), .ref (b 3), .ref (b 4), .ref (b 5), .int 0, .int 0, .ref (b 6)]))]) H := hP
  have hD : va_D A ([((b 0), .inr (10, [.int 0, .ref (b 1), .int 0, .int 0, .ref (b 2), .ref (b 3), .ref (b 4), .ref (b 5), .int 0, .int 0, .ref (b 6)]))]) := hD
  refine lv_aload_n hx hb dX6_money_5 rfl (lv_at hl 0 rfl) ?_
  refine va_get (D := (dC, dI)) (ci := 10) (v := .int 0) (C := RX6) (T := TX6) (N := 11) hx hb hts (by decide +kernel) hown hK hP 0 rfl rfl 3 (by decide) (hts (.fieldLink RX6 100 "SnowpalaceModel" "money" "I") (by decide +kernel)) (fun _ h9 => h9) rfl dX6_money_6 ?_
  refine W.widen (k := 0) (n := 0) (Nat.le_of_ble_eq_true rfl) (Nat.le_of_ble_eq_true rfl) ?_
  exact W.iret (v := 0) hx hb hr (fun t ht hW => ⟨⟨0, (), rfl, rfl, trivial⟩, hS.F ht⟩) hS.2.2 dX6_money_9

set_option maxHeartbeats 4000000 in
set_option maxRecDepth 100000 in
theorem m_isSound (l : Launch) (dC : Nat → ClassId) (dI : Nat → Nat → Nat) (sz : Nat) (b : Nat → Nat)   : Met l yX6_isSound wsX6_isSound ({ frames := 0, cells := 0, slots := 0, locals := 0 }) (va_Pc [.ref (b 0)] (PW dC dI ([((b 0), .inr (10, [.int 0, .ref (b 1), .int 0, .int 0, .ref (b 2), .ref (b 3), .ref (b 4), .ref (b 5), .int 0, .int 0, .ref (b 6)]))]) [] sz)) (va_Qi (fun (r : Int32) (u : Unit) => r = 1) (fun (u : Unit) t => True) (va_A ([((b 0), .inr (10, [.int 0, .ref (b 1), .int 0, .int 0, .ref (b 2), .ref (b 3), .ref (b 4), .ref (b 5), .int 0, .int 0, .ref (b 6)]))]) sz)) 0 0 (va_A ([((b 0), .inr (10, [.int 0, .ref (b 1), .int 0, .int 0, .ref (b 2), .ref (b 3), .ref (b 4), .ref (b 5), .int 0, .int 0, .ref (b 6)]))]) sz) := by
  refine Met.ofW (cc := cX6_isSound) (maxL := 1) (ret := (some .boolean)) (by decide +kernel) rfl ?_
  intro p e s m args below meth c s₁ B hml hv
  obtain ⟨rfl, hsz, hP, hK, hD0⟩ := hv
  have hx := B.exec
  have hb := B.bytes
  have hr := B.returns
  have hts := atoms_spec (ws := wsX6_isSound) B.pre
  have hown : s.vm.findClass RX6 = some m.cls := findClass_of_methodNamed B.named
  have hlocks := B.notSynchronized
  subst hsz
  have hD := hD0.self (sz := s.heap.size)
  generalize hAe : va_A ([((b 0), .inr (10, [.int 0, .ref (b 1), .int 0, .int 0, .ref (b 2), .ref (b 3), .ref (b 4), .ref (b 5), .int 0, .int 0, .ref (b 6)]))]) s.heap.size = A at hD ⊢
  have hA : ∀ q : Nat, s.heap.size ≤ q → A q := fun q h => by rw [← hAe]; exact Or.inr h
  have hS : va_S A s.heap s.heap [] := va_S.rf
  have hl := lv_entry ([.ref (b 0)]) (n := 1) (Nat.le_of_ble_eq_true rfl)
  rw [lg_entry_eq]
  generalize (lg_sl ([.ref (b 0)]) ++ List.replicate (1 - (lg_sl ([.ref (b 0)])).length) Slot.unset).toArray = ls at hl ⊢
  have hl : lv_has ls 1 [(0, .ref (b 0))] := hl
  refine lv_aload_n hx hb dX6_isSound_0 rfl (lv_at hl 0 rfl) ?_
  refine lv_iconst (v := 0) hx hb dX6_isSound_1 (by decide) ?_
  refine va_put (D := (dC, dI)) (ci := 10) (v := .int 0) (ty := .int) (C := RX6) (T := TX6) (N := 11) hx hb hts (by decide +kernel) tyX6 tyX6_ok nmX6 hown hK hP hD hS 0 rfl rfl 0 (by decide) (hts (.fieldLink RX6 1 "SnowpalaceModel" "thrown" "I") (by decide +kernel)) (fun _ h9 => h9) rfl (by decide +kernel) rfl rfl (Nat.le_of_ble_eq_true rfl) dX6_isSound_2 (fun H locs hP hD hS => ?_)
  have hP : va_P (dC, dI) vwCl ([((b 0), .inr (10, [.int 0, .ref (b 1), .int 0, .int 0, .ref (b 2), .ref (b 3), .ref (b 4), .ref (b 5), .int 0, .int 0, .ref (b 6)]))]) H := hP
  have hD : va_D A ([((b 0), .inr (10, [.int 0, .ref (b 1), .int 0, .int 0, .ref (b 2), .ref (b 3), .ref (b 4), .ref (b 5), .int 0, .int 0, .ref (b 6)]))]) := hD
  refine lv_iconst (v := 1) hx hb dX6_isSound_5 (by decide) ?_
  refine W.widen (k := 0) (n := 0) (Nat.le_of_ble_eq_true rfl) (Nat.le_of_ble_eq_true rfl) ?_
  exact W.zret (v := 1) (ty := .boolean) hx hb hr rfl (fun t ht hW => ⟨⟨1, (), rfl, rfl, trivial⟩, hS.F ht⟩) hS.2.2 dX6_isSound_6

set_option maxHeartbeats 4000000 in
set_option maxRecDepth 100000 in
theorem m_yard (l : Launch) (dC : Nat → ClassId) (dI : Nat → Nat → Nat) (sz : Nat) (b : Nat → Nat) (cI : ClassId) (p0 : Int32)  : Met l yX6_yard wsX6_yard ({ frames := 0, cells := 0, slots := 0, locals := 0 }) (va_Pc [.ref (b 0), .int p0] (PW dC dI ([((b 0), .inr (10, [.int 0, .ref (b 1), .int 0, .int 0, .ref (b 2), .ref (b 3), .ref (b 4), .ref (b 5), .int 0, .int 0, .ref (b 6)])), ((b 5), .inl (cI, 2, .inl (fun _ => 0)))]) [(cI, .int)] sz)) (va_Qi (fun (r : Int32) (u : Unit) => r = 0) (fun (u : Unit) t => True) (va_A ([((b 0), .inr (10, [.int 0, .ref (b 1), .int 0, .int 0, .ref (b 2), .ref (b 3), .ref (b 4), .ref (b 5), .int 0, .int 0, .ref (b 6)])), ((b 5), .inl (cI, 2, .inl (fun _ => 0)))]) sz)) 0 0 (va_A ([((b 0), .inr (10, [.int 0, .ref (b 1), .int 0, .int 0, .ref (b 2), .ref (b 3), .ref (b 4), .ref (b 5), .int 0, .int 0, .ref (b 6)])), ((b 5), .inl (cI, 2, .inl (fun _ => 0)))]) sz) := by
  refine Met.ofW (cc := cX6_yard) (maxL := 2) (ret := (some .int)) (by decide +kernel) rfl ?_
  intro p e s m args below meth c s₁ B hml hv
  obtain ⟨rfl, hsz, hP, hK, hD0⟩ := hv
  have hx := B.exec
  have hb := B.bytes
  have hr := B.returns
  have hts := atoms_spec (ws := wsX6_yard) B.pre
  have hown : s.vm.findClass RX6 = some m.cls := findClass_of_methodNamed B.named
  have hlocks := B.notSynchronized
  subst hsz
  have hD := hD0.self (sz := s.heap.size)
  generalize hAe : va_A ([((b 0), .inr (10, [.int 0, .ref (b 1), .int 0, .int 0, .ref (b 2), .ref (b 3), .ref (b 4), .ref (b 5), .int 0, .int 0, .ref (b 6)])), ((b 5), .inl (cI, 2, .inl (fun _ => 0)))]) s.heap.size = A at hD ⊢
  have hA : ∀ q : Nat, s.heap.size ≤ q → A q := fun q h => by rw [← hAe]; exact Or.inr h
  have hS : va_S A s.heap s.heap [] := va_S.rf
  have hl := lv_entry ([.ref (b 0), .int p0]) (n := 2) (Nat.le_of_ble_eq_true rfl)
  rw [lg_entry_eq]
  generalize (lg_sl ([.ref (b 0), .int p0]) ++ List.replicate (2 - (lg_sl ([.ref (b 0), .int p0])).length) Slot.unset).toArray = ls at hl ⊢
  have hl : lv_has ls 2 [(0, .ref (b 0)), (1, .int p0)] := hl
  refine lv_aload_n hx hb dX6_yard_0 rfl (lv_at hl 0 rfl) ?_
  refine lv_iconst (v := 0) hx hb dX6_yard_1 (by decide) ?_
  refine va_put (D := (dC, dI)) (ci := 10) (v := .int 0) (ty := .int) (C := RX6) (T := TX6) (N := 11) hx hb hts (by decide +kernel) tyX6 tyX6_ok nmX6 hown hK hP hD hS 0 rfl rfl 0 (by decide) (hts (.fieldLink RX6 1 "SnowpalaceModel" "thrown" "I") (by decide +kernel)) (fun _ h9 => h9) rfl (by decide +kernel) rfl rfl (Nat.le_of_ble_eq_true rfl) dX6_yard_2 (fun H locs hP hD hS => ?_)
  have hP : va_P (dC, dI) vwCl ([((b 0), .inr (10, [.int 0, .ref (b 1), .int 0, .int 0, .ref (b 2), .ref (b 3), .ref (b 4), .ref (b 5), .int 0, .int 0, .ref (b 6)])), ((b 5), .inl (cI, 2, .inl (fun _ => 0)))]) H := hP
  have hD : va_D A ([((b 0), .inr (10, [.int 0, .ref (b 1), .int 0, .int 0, .ref (b 2), .ref (b 3), .ref (b 4), .ref (b 5), .int 0, .int 0, .ref (b 6)])), ((b 5), .inl (cI, 2, .inl (fun _ => 0)))]) := hD
  refine lv_aload_n hx hb dX6_yard_5 rfl (lv_at hl 0 rfl) ?_
  refine va_get (D := (dC, dI)) (ci := 10) (v := .ref (b 5)) (C := RX6) (T := TX6) (N := 11) hx hb hts (by decide +kernel) hown hK hP 0 rfl rfl 7 (by decide) (hts (.fieldLink RX6 28 "SnowpalaceModel" "yard" "[I") (by decide +kernel)) (fun _ h9 => h9) rfl dX6_yard_6 ?_
  refine lv_iload_n hx hb dX6_yard_9 rfl (lv_at hl 1 rfl) ?_
  refine lv_if_eq (tgt := 17) hx hb dX6_yard_10 (by decide) (fun c1 => ?_) (fun c1 => ?_)
  · skip
    refine lv_iconst (v := 0) hx hb dX6_yard_17 (by decide) ?_
    refine va_iald (D := (dC, dI)) hx hb hK hP 1 0 rfl rfl (by unfold vp_in; decide) dX6_yard_18 ?_
    refine lv_topi (fun v2 e3 => ?_)
    obtain rfl : v2 = (0 : Int32) := e3.trans rfl
    refine W.widen (k := 0) (n := 0) (Nat.le_of_ble_eq_true rfl) (Nat.le_of_ble_eq_true rfl) ?_
    exact W.iret (v := 0) hx hb hr (fun t ht hW => ⟨⟨0, (), rfl, rfl, trivial⟩, hS.F ht⟩) hS.2.2 dX6_yard_19
  · skip
    refine lv_iconst (v := 1) hx hb dX6_yard_13 (by decide) ?_
    refine lv_goto (tgt := 18) hx hb dX6_yard_14 (by decide) ?_
    refine va_iald (D := (dC, dI)) hx hb hK hP 1 0 rfl rfl (by unfold vp_in; decide) dX6_yard_18 ?_
    refine lv_topi (fun v4 e5 => ?_)
    obtain rfl : v4 = (0 : Int32) := e5.trans rfl
    refine W.widen (k := 0) (n := 0) (Nat.le_of_ble_eq_true rfl) (Nat.le_of_ble_eq_true rfl) ?_
    exact W.iret (v := 0) hx hb hr (fun t ht hW => ⟨⟨0, (), rfl, rfl, trivial⟩, hS.F ht⟩) hS.2.2 dX6_yard_19

set_option maxHeartbeats 4000000 in
set_option maxRecDepth 100000 in
theorem m_machine (l : Launch) (dC : Nat → ClassId) (dI : Nat → Nat → Nat) (sz : Nat) (b : Nat → Nat) (p0 : Int32) (h01 : p0 = 0 ∨ p0 = 1) : Met l yX6_machine wsX6_machine ({ frames := 0, cells := 0, slots := 0, locals := 0 }) (va_Pc [.ref (b 0), .int p0] (PW dC dI ([((b 0), .inr (10, [.int 0, .ref (b 1), .int 0, .int 0, .ref (b 2), .ref (b 3), .ref (b 4), .ref (b 5), .int 0, .int 0, .ref (b 6)]))]) [] sz)) (va_Qi (fun (r : Int32) (u : Unit) => r = 0) (fun (u : Unit) t => True) (va_A ([((b 0), .inr (10, [.int 0, .ref (b 1), .int 0, .int 0, .ref (b 2), .ref (b 3), .ref (b 4), .ref (b 5), .int 0, .int 0, .ref (b 6)]))]) sz)) 0 0 (va_A ([((b 0), .inr (10, [.int 0, .ref (b 1), .int 0, .int 0, .ref (b 2), .ref (b 3), .ref (b 4), .ref (b 5), .int 0, .int 0, .ref (b 6)]))]) sz) := by
  refine Met.ofW (cc := cX6_machine) (maxL := 3) (ret := (some .boolean)) (by decide +kernel) rfl ?_
  intro p e s m args below meth c s₁ B hml hv
  obtain ⟨rfl, hsz, hP, hK, hD0⟩ := hv
  have hx := B.exec
  have hb := B.bytes
  have hr := B.returns
  have hts := atoms_spec (ws := wsX6_machine) B.pre
  have hown : s.vm.findClass RX6 = some m.cls := findClass_of_methodNamed B.named
  have hlocks := B.notSynchronized
  subst hsz
  have hD := hD0.self (sz := s.heap.size)
  generalize hAe : va_A ([((b 0), .inr (10, [.int 0, .ref (b 1), .int 0, .int 0, .ref (b 2), .ref (b 3), .ref (b 4), .ref (b 5), .int 0, .int 0, .ref (b 6)]))]) s.heap.size = A at hD ⊢
  have hA : ∀ q : Nat, s.heap.size ≤ q → A q := fun q h => by rw [← hAe]; exact Or.inr h
  have hS : va_S A s.heap s.heap [] := va_S.rf
  have hl := lv_entry ([.ref (b 0), .int p0]) (n := 3) (Nat.le_of_ble_eq_true rfl)
  rw [lg_entry_eq]
  generalize (lg_sl ([.ref (b 0), .int p0]) ++ List.replicate (3 - (lg_sl ([.ref (b 0), .int p0])).length) Slot.unset).toArray = ls at hl ⊢
  have hl : lv_has ls 3 [(0, .ref (b 0)), (1, .int p0)] := hl
  refine lv_aload_n hx hb dX6_machine_0 rfl (lv_at hl 0 rfl) ?_
  refine lv_iconst (v := 0) hx hb dX6_machine_1 (by decide) ?_
  refine va_put (D := (dC, dI)) (ci := 10) (v := .int 0) (ty := .int) (C := RX6) (T := TX6) (N := 11) hx hb hts (by decide +kernel) tyX6 tyX6_ok nmX6 hown hK hP hD hS 0 rfl rfl 0 (by decide) (hts (.fieldLink RX6 1 "SnowpalaceModel" "thrown" "I") (by decide +kernel)) (fun _ h9 => h9) rfl (by decide +kernel) rfl rfl (Nat.le_of_ble_eq_true rfl) dX6_machine_2 (fun H locs hP hD hS => ?_)
  have hP : va_P (dC, dI) vwCl ([((b 0), .inr (10, [.int 0, .ref (b 1), .int 0, .int 0, .ref (b 2), .ref (b 3), .ref (b 4), .ref (b 5), .int 0, .int 0, .ref (b 6)]))]) H := hP
  have hD : va_D A ([((b 0), .inr (10, [.int 0, .ref (b 1), .int 0, .int 0, .ref (b 2), .ref (b 3), .ref (b 4), .ref (b 5), .int 0, .int 0, .ref (b 6)]))]) := hD
  refine lv_aload_n hx hb dX6_machine_5 rfl (lv_at hl 0 rfl) ?_
  refine va_get (D := (dC, dI)) (ci := 10) (v := .int 0) (C := RX6) (T := TX6) (N := 11) hx hb hts (by decide +kernel) hown hK hP 0 rfl rfl 9 (by decide) (hts (.fieldLink RX6 85 "SnowpalaceModel" "isOn" "Z") (by decide +kernel)) (fun _ h9 => h9) rfl dX6_machine_6 ?_
  refine lv_istore_n (lv' := [(2, .int 0), (0, .ref (b 0)), (1, .int p0)]) hx hb dX6_machine_9 rfl hl (by decide) rfl (fun ls hl => ?_)
  refine lv_aload_n hx hb dX6_machine_10 rfl (lv_at hl 1 rfl) ?_
  refine lv_iload_n hx hb dX6_machine_11 rfl (lv_at hl 2 rfl) ?_
  refine va_put (D := (dC, dI)) (ci := 10) (v := .int p0) (ty := .boolean) (C := RX6) (T := TX6) (N := 11) hx hb hts (by decide +kernel) tyX6 tyX6_ok nmX6 hown hK hP hD hS 0 rfl rfl 9 (by decide) (hts (.fieldLink RX6 85 "SnowpalaceModel" "isOn" "Z") (by decide +kernel)) (fun _ h9 => h9) rfl (by decide +kernel) (by rcases h01 with rfl | rfl <;> rfl) (by rcases h01 with rfl | rfl <;> rfl) (Nat.le_of_ble_eq_true rfl) dX6_machine_12 (fun H locs hP hD hS => ?_)
  have hP : va_P (dC, dI) vwCl ([((b 0), .inr (10, [.int 0, .ref (b 1), .int 0, .int 0, .ref (b 2), .ref (b 3), .ref (b 4), .ref (b 5), .int 0, .int p0, .ref (b 6)]))]) H := hP
  have hD : va_D A ([((b 0), .inr (10, [.int 0, .ref (b 1), .int 0, .int 0, .ref (b 2), .ref (b 3), .ref (b 4), .ref (b 5), .int 0, .int p0, .ref (b 6)]))]) := hD
  refine lv_iload_n hx hb dX6_machine_15 rfl (lv_at hl 0 rfl) ?_
  refine W.widen (k := 0) (n := 0) (Nat.le_of_ble_eq_true rfl) (Nat.le_of_ble_eq_true rfl) ?_
  exact W.zret (v := 0) (ty := .boolean) hx hb hr rfl (fun t ht hW => ⟨⟨0, (), rfl, rfl, trivial⟩, hS.F ht⟩) hS.2.2 dX6_machine_16

