theorem i_dec (x : Int32) : x + Int32.ofInt (-1) = x - 1 := by rw [show Int32.ofInt (-1) = -1 from by decide, Int32.sub_eq_add_neg]
theorem i_dec8 (x : Int32) : x + (-1) = x - 1 := (Int32.sub_eq_add_neg x 1).symm
theorem i_dec9 (x : Int32) : x - 1 = x + (-1) := Int32.sub_eq_add_neg x 1

set_option maxHeartbeats 4000000 in
set_option maxRecDepth 100000 in
theorem rk_isWithin (l : Launch)   (x : Int32) (lo : Int32) (hi : Int32) (lo2 hi2 : Int) (hlo : lo.toInt = lo2) (hhi : hi.toInt = hi2) : Met l yX3_isWithin wsX3_isWithin ({ frames := 0, cells := 0, slots := 0, locals := 0 }) (va_Pc [.int x, .int lo, .int hi] (fun _ => True)) (va_Qi (fun (r : Int32) (u : Unit) => r = bI (lo2 ≤ x.toInt ∧ x.toInt ≤ hi2)) (fun (u : Unit) t => True) (fun _ => False)) 0 0 (fun _ => False) := by
  refine Met.ofW (cc := cX3_isWithin) (maxL := 3) (ret := (some .boolean)) (by decide +kernel) rfl ?_
  intro p e s m args below meth c s₁ B hml hv
  obtain ⟨rfl, -⟩ := hv
  have hx := B.exec
  have hb := B.bytes
  have hr := B.returns
  have hts := atoms_spec (ws := wsX3_isWithin) B.pre
  have hown : s.vm.findClass RX3 = some m.cls := findClass_of_methodNamed B.named
  have hlocks := B.notSynchronized
  have hM : True := trivial
  have hS : va_S (fun _ => False) s.heap s.heap [] := va_S.rf
  have hl := lv_entry ([.int x, .int lo, .int hi]) (n := 3) (Nat.le_of_ble_eq_true rfl)
  rw [lg_entry_eq]
  generalize (lg_sl ([.int x, .int lo, .int hi]) ++ List.replicate (3 - (lg_sl ([.int x, .int lo, .int hi])).length) Slot.unset).toArray = ls at hl ⊢
  have hl : lv_has ls 3 [(0, .int x), (1, .int lo), (2, .int hi)] := hl
  generalize ([.int x, .int lo, .int hi] : List Value).toArray = args at hts ⊢
  refine lv_iload_n hx hb dX3_isWithin_0 rfl (lv_at hl 0 rfl) ?_
  refine lv_iload_n hx hb dX3_isWithin_1 rfl (lv_at hl 1 rfl) ?_
  refine lv_icmp_lt (tgt := 14) hx hb dX3_isWithin_2 (by decide) (fun c1 => ?_) (fun c1 => ?_)
  · skip
    have i2 := (Int32.lt_iff_toInt_lt).mp c1
    have i2 := i2
    refine lv_iconst (v := 0) hx hb dX3_isWithin_14 (by decide) ?_
    refine W.widen (k := 0) (n := 0) (Nat.le_of_ble_eq_true rfl) (Nat.le_of_ble_eq_true rfl) ?_
    exact W.zret (v := 0) (ty := .boolean) hx hb hr rfl (fun t ht hW => ⟨⟨0, (), rfl, (by first | exact isW_1 hlo hhi ‹_› ‹_› | exact isW_0 hlo hhi (Or.inl ‹_›) | exact isW_0 hlo hhi (Or.inr ‹_›)), trivial⟩, hS.F ht⟩) hS.2.2 dX3_isWithin_15
  · skip
    have i3 := fun z => c1 ((Int32.lt_iff_toInt_lt).mpr z)
    have i3 : ¬ ((x : Int32).toInt < (lo : Int32).toInt) := i3
    refine lv_iload_n hx hb dX3_isWithin_5 rfl (lv_at hl 0 rfl) ?_
    refine lv_iload_n hx hb dX3_isWithin_6 rfl (lv_at hl 2 rfl) ?_
    refine lv_icmp_gt (tgt := 14) hx hb dX3_isWithin_7 (by decide) (fun c4 => ?_) (fun c4 => ?_)
    · skip
      have i5 := (Int32.lt_iff_toInt_lt).mp c4
      have i5 := i5
      refine lv_iconst (v := 0) hx hb dX3_isWithin_14 (by decide) ?_
      refine W.widen (k := 0) (n := 0) (Nat.le_of_ble_eq_true rfl) (Nat.le_of_ble_eq_true rfl) ?_
      exact W.zret (v := 0) (ty := .boolean) hx hb hr rfl (fun t ht hW => ⟨⟨0, (), rfl, (by first | exact isW_1 hlo hhi ‹_› ‹_› | exact isW_0 hlo hhi (Or.inl ‹_›) | exact isW_0 hlo hhi (Or.inr ‹_›)), trivial⟩, hS.F ht⟩) hS.2.2 dX3_isWithin_15
    · skip
      have i6 := fun z => c4 ((Int32.lt_iff_toInt_lt).mpr z)
      have i6 : ¬ ((hi : Int32).toInt < (x : Int32).toInt) := i6
      refine lv_iconst (v := 1) hx hb dX3_isWithin_10 (by decide) ?_
      refine lv_goto (tgt := 15) hx hb dX3_isWithin_11 (by decide) ?_
      refine W.widen (k := 0) (n := 0) (Nat.le_of_ble_eq_true rfl) (Nat.le_of_ble_eq_true rfl) ?_
      exact W.zret (v := 1) (ty := .boolean) hx hb hr rfl (fun t ht hW => ⟨⟨1, (), rfl, (by first | exact isW_1 hlo hhi ‹_› ‹_› | exact isW_0 hlo hhi (Or.inl ‹_›) | exact isW_0 hlo hhi (Or.inr ‹_›)), trivial⟩, hS.F ht⟩) hS.2.2 dX3_isWithin_15

set_option maxHeartbeats 4000000 in
set_option maxRecDepth 100000 in
theorem rk_placeOf (l : Launch)   (x : Int32) (y : Int32)  : Met l yX3_placeOf wsX3_placeOf ({ frames := 0, cells := 0, slots := 0, locals := 0 }) (va_Pc [.int x, .int y] (fun _ => True)) (va_Qi (fun (r : Int32) (u : Unit) => r = 8 * y + x) (fun (u : Unit) t => True) (fun _ => False)) 0 0 (fun _ => False) := by
  refine Met.ofW (cc := cX3_placeOf) (maxL := 2) (ret := (some .int)) (by decide +kernel) rfl ?_
  intro p e s m args below meth c s₁ B hml hv
  obtain ⟨rfl, -⟩ := hv
  have hx := B.exec
  have hb := B.bytes
  have hr := B.returns
  have hts := atoms_spec (ws := wsX3_placeOf) B.pre
  have hown : s.vm.findClass RX3 = some m.cls := findClass_of_methodNamed B.named
  have hlocks := B.notSynchronized
  have hM : True := trivial
  have hS : va_S (fun _ => False) s.heap s.heap [] := va_S.rf
  have hl := lv_entry ([.int x, .int y]) (n := 2) (Nat.le_of_ble_eq_true rfl)
  rw [lg_entry_eq]
  generalize (lg_sl ([.int x, .int y]) ++ List.replicate (2 - (lg_sl ([.int x, .int y])).length) Slot.unset).toArray = ls at hl ⊢
  have hl : lv_has ls 2 [(0, .int x), (1, .int y)] := hl
  generalize ([.int x, .int y] : List Value).toArray = args at hts ⊢
  refine lv_bipush (v := 8) hx hb dX3_placeOf_0 (by decide) ?_
  refine lv_iload_n hx hb dX3_placeOf_2 rfl (lv_at hl 1 rfl) ?_
  refine lv_imul hx hb dX3_placeOf_3 ?_
  refine lv_topi (fun v1 e2 => ?_)
  refine lv_iload_n hx hb dX3_placeOf_4 rfl (lv_at hl 0 rfl) ?_
  refine lv_iadd hx hb dX3_placeOf_5 ?_
  refine lv_topi (fun v3 e4 => ?_)
  refine W.widen (k := 0) (n := 0) (Nat.le_of_ble_eq_true rfl) (Nat.le_of_ble_eq_true rfl) ?_
  exact W.iret (v := v3) hx hb hr (fun t ht hW => ⟨⟨v3, (), rfl, (by rw [e4, e2]), trivial⟩, hS.F ht⟩) hS.2.2 dX3_placeOf_6

set_option maxHeartbeats 4000000 in
set_option maxRecDepth 100000 in
theorem rk_massOfKind (l : Launch)   (kind : Int32)  : Met l yX1_massOfKind wsX1_massOfKind ({ frames := 0, cells := 0, slots := 0, locals := 0 }) (va_Pc [.int kind] (fun _ => True)) (va_Qi (fun (r : Int32) (u : Unit) => True) (fun (u : Unit) t => True) (fun _ => False)) 0 0 (fun _ => False) := by
  refine Met.ofW (cc := cX1_massOfKind) (maxL := 1) (ret := (some .int)) (by decide +kernel) rfl ?_
  intro p e s m args below meth c s₁ B hml hv
  obtain ⟨rfl, -⟩ := hv
  have hx := B.exec
  have hb := B.bytes
  have hr := B.returns
  have hts := atoms_spec (ws := wsX1_massOfKind) B.pre
  have hown : s.vm.findClass RX1 = some m.cls := findClass_of_methodNamed B.named
  have hlocks := B.notSynchronized
  have hM : True := trivial
  have hS : va_S (fun _ => False) s.heap s.heap [] := va_S.rf
  have hl := lv_entry ([.int kind]) (n := 1) (Nat.le_of_ble_eq_true rfl)
  rw [lg_entry_eq]
  generalize (lg_sl ([.int kind]) ++ List.replicate (1 - (lg_sl ([.int kind])).length) Slot.unset).toArray = ls at hl ⊢
  have hl : lv_has ls 1 [(0, .int kind)] := hl
  generalize ([.int kind] : List Value).toArray = args at hts ⊢
  refine lv_iload_n hx hb dX1_massOfKind_0 rfl (lv_at hl 0 rfl) ?_
  refine lv_bipush (v := 115) hx hb dX1_massOfKind_1 (by decide) ?_
  refine lv_icmp_ne (tgt := 10) hx hb dX1_massOfKind_3 (by decide) (fun c1 => ?_) (fun c1 => ?_)
  · skip
    refine lv_iload_n hx hb dX1_massOfKind_10 rfl (lv_at hl 0 rfl) ?_
    refine lv_bipush (v := 105) hx hb dX1_massOfKind_11 (by decide) ?_
    refine lv_icmp_ne (tgt := 20) hx hb dX1_massOfKind_13 (by decide) (fun c2 => ?_) (fun c2 => ?_)
    · skip
      refine lv_iload_n hx hb dX1_massOfKind_20 rfl (lv_at hl 0 rfl) ?_
      refine lv_bipush (v := 99) hx hb dX1_massOfKind_21 (by decide) ?_
      refine lv_icmp_ne (tgt := 32) hx hb dX1_massOfKind_23 (by decide) (fun c3 => ?_) (fun c3 => ?_)
      · skip
        refine lv_iconst (v := 0) hx hb dX1_massOfKind_32 (by decide) ?_
        refine W.widen (k := 0) (n := 0) (Nat.le_of_ble_eq_true rfl) (Nat.le_of_ble_eq_true rfl) ?_
        exact W.iret (v := 0) hx hb hr (fun t ht hW => ⟨⟨0, (), rfl, trivial, trivial⟩, hS.F ht⟩) hS.2.2 dX1_massOfKind_33
      · skip
        refine lv_sipush (v := 500) hx hb dX1_massOfKind_26 (by decide) ?_
        refine lv_goto (tgt := 33) hx hb dX1_massOfKind_29 (by decide) ?_
        refine W.widen (k := 0) (n := 0) (Nat.le_of_ble_eq_true rfl) (Nat.le_of_ble_eq_true rfl) ?_
        exact W.iret (v := 500) hx hb hr (fun t ht hW => ⟨⟨500, (), rfl, trivial, trivial⟩, hS.F ht⟩) hS.2.2 dX1_massOfKind_33
    · skip
      refine lv_sipush (v := 450) hx hb dX1_massOfKind_16 (by decide) ?_
      refine W.widen (k := 0) (n := 0) (Nat.le_of_ble_eq_true rfl) (Nat.le_of_ble_eq_true rfl) ?_
      exact W.iret (v := 450) hx hb hr (fun t ht hW => ⟨⟨450, (), rfl, trivial, trivial⟩, hS.F ht⟩) hS.2.2 dX1_massOfKind_19
  · skip
    refine lv_sipush (v := 300) hx hb dX1_massOfKind_6 (by decide) ?_
    refine W.widen (k := 0) (n := 0) (Nat.le_of_ble_eq_true rfl) (Nat.le_of_ble_eq_true rfl) ?_
    exact W.iret (v := 300) hx hb hr (fun t ht hW => ⟨⟨300, (), rfl, trivial, trivial⟩, hS.F ht⟩) hS.2.2 dX1_massOfKind_9

set_option maxHeartbeats 4000000 in
set_option maxRecDepth 100000 in
theorem rk_strengthOfKind (l : Launch)   (kind : Int32)  : Met l yX1_strengthOfKind wsX1_strengthOfKind ({ frames := 0, cells := 0, slots := 0, locals := 0 }) (va_Pc [.int kind] (fun _ => True)) (va_Qi (fun (r : Int32) (u : Unit) => True) (fun (u : Unit) t => True) (fun _ => False)) 0 0 (fun _ => False) := by
  refine Met.ofW (cc := cX1_strengthOfKind) (maxL := 1) (ret := (some .int)) (by decide +kernel) rfl ?_
  intro p e s m args below meth c s₁ B hml hv
  obtain ⟨rfl, -⟩ := hv
  have hx := B.exec
  have hb := B.bytes
  have hr := B.returns
  have hts := atoms_spec (ws := wsX1_strengthOfKind) B.pre
  have hown : s.vm.findClass RX1 = some m.cls := findClass_of_methodNamed B.named
  have hlocks := B.notSynchronized
  have hM : True := trivial
  have hS : va_S (fun _ => False) s.heap s.heap [] := va_S.rf
  have hl := lv_entry ([.int kind]) (n := 1) (Nat.le_of_ble_eq_true rfl)
  rw [lg_entry_eq]
  generalize (lg_sl ([.int kind]) ++ List.replicate (1 - (lg_sl ([.int kind])).length) Slot.unset).toArray = ls at hl ⊢
  have hl : lv_has ls 1 [(0, .int kind)] := hl
  generalize ([.int kind] : List Value).toArray = args at hts ⊢
  refine lv_iload_n hx hb dX1_strengthOfKind_0 rfl (lv_at hl 0 rfl) ?_
  refine lv_bipush (v := 115) hx hb dX1_strengthOfKind_1 (by decide) ?_
  refine lv_icmp_ne (tgt := 10) hx hb dX1_strengthOfKind_3 (by decide) (fun c1 => ?_) (fun c1 => ?_)
  · skip
    refine lv_iload_n hx hb dX1_strengthOfKind_10 rfl (lv_at hl 0 rfl) ?_
    refine lv_bipush (v := 105) hx hb dX1_strengthOfKind_11 (by decide) ?_
    refine lv_icmp_ne (tgt := 22) hx hb dX1_strengthOfKind_13 (by decide) (fun c2 => ?_) (fun c2 => ?_)
    · skip
      refine lv_sipush (v := 5000) hx hb dX1_strengthOfKind_22 (by decide) ?_
      refine W.widen (k := 0) (n := 0) (Nat.le_of_ble_eq_true rfl) (Nat.le_of_ble_eq_true rfl) ?_
      exact W.iret (v := 5000) hx hb hr (fun t ht hW => ⟨⟨5000, (), rfl, trivial, trivial⟩, hS.F ht⟩) hS.2.2 dX1_strengthOfKind_25
    · skip
      refine lv_sipush (v := 6000) hx hb dX1_strengthOfKind_16 (by decide) ?_
      refine lv_goto (tgt := 25) hx hb dX1_strengthOfKind_19 (by decide) ?_
      refine W.widen (k := 0) (n := 0) (Nat.le_of_ble_eq_true rfl) (Nat.le_of_ble_eq_true rfl) ?_
      exact W.iret (v := 6000) hx hb hr (fun t ht hW => ⟨⟨6000, (), rfl, trivial, trivial⟩, hS.F ht⟩) hS.2.2 dX1_strengthOfKind_25
  · skip
    refine lv_sipush (v := 2500) hx hb dX1_strengthOfKind_6 (by decide) ?_
    refine W.widen (k := 0) (n := 0) (Nat.le_of_ble_eq_true rfl) (Nat.le_of_ble_eq_true rfl) ?_
    exact W.iret (v := 2500) hx hb hr (fun t ht hW => ⟨⟨2500, (), rfl, trivial, trivial⟩, hS.F ht⟩) hS.2.2 dX1_strengthOfKind_9
