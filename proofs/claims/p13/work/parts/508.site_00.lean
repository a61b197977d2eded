set_option maxHeartbeats 4000000 in
set_option maxRecDepth 100000 in
theorem rk_has (l : Launch) (dC : Nat → ClassId) (dI : Nat → Nat → Nat) (kA : Nat → ClassId) (eD b : Nat) (g : Gh) (o : Nat) (i : Nat) (pl : Int32) (hto : tg g o = 12 + 64 * i)  : Met l yX1_has wsX1_has ({ frames := 0, cells := 0, slots := 0, locals := 0 }) (va_Pc [.ref o, .int pl] (CX (dC, dI) kA eD b g)) (va_Qi (fun (r : Int32) (u : Unit) => r = 0 ∨ (r = 1 ∧ 0 ≤ pl.toInt ∧ pl.toInt ≤ 47)) (fun (u : Unit) t => CX (dC, dI) kA eD b g t) (fun q => b ≤ q)) 0 0 (fun q => b ≤ q) := by
  refine Met.ofW (cc := cX1_has) (maxL := 2) (ret := (some .boolean)) (by decide +kernel) rfl ?_
  intro p e s m args below meth c s₁ B hml hv
  obtain ⟨rfl, hb0, hM, hK, hG, hE⟩ := hv
  have hx := B.exec
  have hb := B.bytes
  have hr := B.returns
  have hts := atoms_spec (ws := wsX1_has) B.pre
  have hown : s.vm.findClass RX1 = some m.cls := findClass_of_methodNamed B.named
  have hlocks := B.notSynchronized
  have hT := hE.1
  have hN := hE.2.2.2.2.2.2.2.1
  have hS : va_S (fun q => b ≤ q) s.heap s.heap [] := va_S.rf
  have hl := lv_entry ([.ref o, .int pl]) (n := 2) (Nat.le_of_ble_eq_true rfl)
  rw [lg_entry_eq]
  generalize (lg_sl ([.ref o, .int pl]) ++ List.replicate (2 - (lg_sl ([.ref o, .int pl])).length) Slot.unset).toArray = ls at hl ⊢
  have hl : lv_has ls 2 [(0, .ref o), (1, .int pl)] := hl
  generalize ([.ref o, .int pl] : List Value).toArray = args at hts ⊢
  refine lv_iload_n hx hb dX1_has_0 rfl (lv_at hl 1 rfl) ?_
  refine lv_if_lt (tgt := 25) hx hb dX1_has_1 (by decide) (fun c1 => ?_) (fun c1 => ?_)
  · skip
    have i2 := (Int32.lt_iff_toInt_lt).mp c1
    have ii2 : (0 : Int32).toInt = 0 := by decide
    have i2 := i2
    refine lv_iconst (v := 0) hx hb dX1_has_25 (by decide) ?_
    refine W.widen (k := 0) (n := 0) (Nat.le_of_ble_eq_true rfl) (Nat.le_of_ble_eq_true rfl) ?_
    exact W.zret (v := 0) (ty := .boolean) hx hb hr rfl (fun t ht hW => ⟨⟨0, (), rfl, (Or.inl rfl), CX.give hb0 hM hK hG hE hS ht hW⟩, hS.F ht⟩) hS.2.2 dX1_has_26
  · skip
    have i3 := fun z => c1 ((Int32.lt_iff_toInt_lt).mpr z)
    have ii3 : (0 : Int32).toInt = 0 := by decide
    have i3 : ¬ ((pl : Int32).toInt < (0 : Int32).toInt) := i3
    refine lv_iload_n hx hb dX1_has_4 rfl (lv_at hl 1 rfl) ?_
    refine lv_bipush (v := 48) hx hb dX1_has_5 (by decide) ?_
    refine lv_icmp_ge (tgt := 25) hx hb dX1_has_7 (by decide) (fun c4 => ?_) (fun c4 => ?_)
    · skip
      have i5 := (Int32.le_iff_toInt_le).mp c4
      have ii5 : (48 : Int32).toInt = 48 := by decide
      have i5 := i5
      refine lv_iconst (v := 0) hx hb dX1_has_25 (by decide) ?_
      refine W.widen (k := 0) (n := 0) (Nat.le_of_ble_eq_true rfl) (Nat.le_of_ble_eq_true rfl) ?_
      exact W.zret (v := 0) (ty := .boolean) hx hb hr rfl (fun t ht hW => ⟨⟨0, (), rfl, (Or.inl rfl), CX.give hb0 hM hK hG hE hS ht hW⟩, hS.F ht⟩) hS.2.2 dX1_has_26
    · skip
      have i6 := fun z => c4 ((Int32.le_iff_toInt_le).mpr z)
      have ii6 : (48 : Int32).toInt = 48 := by decide
      have i6 : ¬ ((48 : Int32).toInt ≤ (pl : Int32).toInt) := i6
      refine lv_aload_n hx hb dX1_has_10 rfl (lv_at hl 0 rfl) ?_
      obtain ⟨u7, u8, u9, u10, u11, u12, hP, hf⟩ := o_st (i := i) (q := o) hM (by omega)
      refine va_get (D := (dC, dI)) (ci := 5) (v := .ref (pF g o 0)) (C := RX1) (T := TX1) (N := 15) hx hb hts (by decide +kernel) hown hK hP 0 rfl rfl 0 (by decide) (hts (.fieldLink RX1 9 "Snowpalace$Site" "kinds" "[C") (by decide +kernel)) (fun _ h9 => h9) rfl dX1_has_11 ?_
      have ht13 : tg g (pF g o 0) = 13 := hf.1
      refine lv_iload_n hx hb dX1_has_14 rfl (lv_at hl 1 rfl) ?_
      obtain ⟨u14, hP, hf⟩ := o_kn (i := 0) (q := (pF g o 0)) hM (by omega)
      refine va_cald (D := (dC, dI)) hx hb hK hP 0 2 rfl rfl (inI (by omega) (by omega)) dX1_has_15 ?_
      refine lv_topi (fun v15 e16 => ?_)
      have hu17 := hf ((pl : Int32).toNatClampNeg) (clI (inI (by omega) (by omega)))
      rw [← e16] at hu17
      refine lv_bipush (v := 46) hx hb dX1_has_16 (by decide) ?_
      refine lv_icmp_eq (tgt := 25) hx hb dX1_has_18 (by decide) (fun c18 => ?_) (fun c18 => ?_)
      · skip
        refine lv_iconst (v := 0) hx hb dX1_has_25 (by decide) ?_
        refine W.widen (k := 0) (n := 0) (Nat.le_of_ble_eq_true rfl) (Nat.le_of_ble_eq_true rfl) ?_
        exact W.zret (v := 0) (ty := .boolean) hx hb hr rfl (fun t ht hW => ⟨⟨0, (), rfl, (Or.inl rfl), CX.give hb0 hM hK hG hE hS ht hW⟩, hS.F ht⟩) hS.2.2 dX1_has_26
      · skip
        refine lv_iconst (v := 1) hx hb dX1_has_21 (by decide) ?_
        refine lv_goto (tgt := 26) hx hb dX1_has_22 (by decide) ?_
        refine W.widen (k := 0) (n := 0) (Nat.le_of_ble_eq_true rfl) (Nat.le_of_ble_eq_true rfl) ?_
        exact W.zret (v := 1) (ty := .boolean) hx hb hr rfl (fun t ht hW => ⟨⟨1, (), rfl, (Or.inr ⟨rfl, by omega, by omega⟩), CX.give hb0 hM hK hG hE hS ht hW⟩, hS.F ht⟩) hS.2.2 dX1_has_26

set_option maxHeartbeats 4000000 in
set_option maxRecDepth 100000 in
theorem rk_rests (l : Launch) (dC : Nat → ClassId) (dI : Nat → Nat → Nat) (kA : Nat → ClassId) (eD b : Nat) (g : Gh) (o : Nat) (i j : Nat) (hto : tg g o = 12 + 64 * i) (hj : j < 48) : Met l yX1_rests wsX1_rests ({ frames := 0, cells := 0, slots := 0, locals := 0 }) (va_Pc [.ref o, .int (nI j)] (CX (dC, dI) kA eD b g)) (va_Qi (fun (r : Int32) (u : Unit) => r = 0 ∨ r = 1) (fun (u : Unit) t => CX (dC, dI) kA eD b g t) (fun q => b ≤ q)) 0 0 (fun q => b ≤ q) := by
  refine Met.ofW (cc := cX1_rests) (maxL := 2) (ret := (some .boolean)) (by decide +kernel) rfl ?_
  intro p e s m args below meth c s₁ B hml hv
  obtain ⟨rfl, hb0, hM, hK, hG, hE⟩ := hv
  have hx := B.exec
  have hb := B.bytes
  have hr := B.returns
  have hts := atoms_spec (ws := wsX1_rests) B.pre
  have hown : s.vm.findClass RX1 = some m.cls := findClass_of_methodNamed B.named
  have hlocks := B.notSynchronized
  have hT := hE.1
  have hN := hE.2.2.2.2.2.2.2.1
  have hS : va_S (fun q => b ≤ q) s.heap s.heap [] := va_S.rf
  have hl := lv_entry ([.ref o, .int (nI j)]) (n := 2) (Nat.le_of_ble_eq_true rfl)
  rw [lg_entry_eq]
  generalize (lg_sl ([.ref o, .int (nI j)]) ++ List.replicate (2 - (lg_sl ([.ref o, .int (nI j)])).length) Slot.unset).toArray = ls at hl ⊢
  have hl : lv_has ls 2 [(0, .ref o), (1, .int (nI j))] := hl
  generalize ([.ref o, .int (nI j)] : List Value).toArray = args at hts ⊢
  refine W.q (fun Q hQ => ?_)
  refine lv_iload_n hx hb dX1_rests_0 rfl (lv_at hl 1 rfl) ?_
  refine lv_bipush (v := 8) hx hb dX1_rests_1 (by decide) ?_
  have jn2 : ∀ (x1 : Int32) (H : Heap) (locs : List Loc) (ls : Array Slot), (x1 = 0 ∨ x1 = 1) → TM (dC, dI) kA b g H → va_S (fun q => b ≤ q) s.heap H locs → lv_has ls 2 [(0, .ref o), (1, .int (nI j))] → W p l e (headSpec wsX1_rests ({ frames := 0, cells := 0, slots := 0, locals := 0 })).room s m args below meth c H locs 0 0 Q (F0 m 31 ls [.int x1]) := by
    intro x1 H locs ls hj3 hM hS hl
    subst hQ
    refine W.widen (k := 0) (n := 0) (Nat.le_of_ble_eq_true rfl) (Nat.le_of_ble_eq_true rfl) ?_
    exact W.zret (v := x1) (ty := .boolean) hx hb hr (z01n hj3) (fun t ht hW => ⟨⟨x1, (), rfl, hj3, CX.give hb0 hM hK hG hE hS ht hW⟩, hS.F ht⟩) hS.2.2 dX1_rests_31
  refine lv_icmp_lt (tgt := 26) hx hb dX1_rests_3 (by decide) (fun c4 => ?_) (fun c4 => ?_)
  · skip
    have k5 : j < 8 := (nI_ltI (a := j) (b := 8) (by omega) (by omega)).mp c4
    refine lv_iconst (v := 1) hx hb dX1_rests_26 (by decide) ?_
    refine lv_goto (tgt := 31) hx hb dX1_rests_27 (by decide) ?_
    exact jn2 1 s.heap _ ls (Or.inr rfl) hM hS (lv_sub hl [0, 1] rfl)
  · skip
    have k6 : ¬ (j < 8) := fun z => c4 ((nI_ltI (a := j) (b := 8) (by omega) (by omega)).mpr z)
    refine lv_iload_n hx hb dX1_rests_6 rfl (lv_at hl 1 rfl) ?_
    refine lv_bipush (v := 48) hx hb dX1_rests_7 (by decide) ?_
    have jn7 : ∀  (H : Heap) (locs : List Loc) (ls : Array Slot), TM (dC, dI) kA b g H → va_S (fun q => b ≤ q) s.heap H locs → lv_has ls 2 [(0, .ref o), (1, .int (nI j))] → W p l e (headSpec wsX1_rests ({ frames := 0, cells := 0, slots := 0, locals := 0 })).room s m args below meth c H locs 0 0 Q (F0 m 30 ls []) := by
      intro H locs ls hM hS hl
      refine lv_iconst (v := 0) hx hb dX1_rests_30 (by decide) ?_
      exact jn2 0 H _ ls (Or.inl rfl) hM hS (lv_sub hl [0, 1] rfl)
    refine lv_icmp_ge (tgt := 30) hx hb dX1_rests_9 (by decide) (fun c8 => ?_) (fun c8 => ?_)
    · skip
      have k9 : 48 ≤ j := (nI_leI (a := 48) (b := j) (by omega) (by omega)).mp c8
      exact jn7 s.heap _ ls hM hS (lv_sub hl [0, 1] rfl)
    · skip
      have k10 : ¬ (48 ≤ j) := fun z => c8 ((nI_leI (a := 48) (b := j) (by omega) (by omega)).mpr z)
      refine lv_aload_n hx hb dX1_rests_12 rfl (lv_at hl 0 rfl) ?_
      obtain ⟨u11, u12, u13, u14, u15, u16, hP, hf⟩ := o_st (i := i) (q := o) hM (by omega)
      refine va_get (D := (dC, dI)) (ci := 5) (v := .ref (pF g o 0)) (C := RX1) (T := TX1) (N := 15) hx hb hts (by decide +kernel) hown hK hP 0 rfl rfl 0 (by decide) (hts (.fieldLink RX1 9 "Snowpalace$Site" "kinds" "[C") (by decide +kernel)) (fun _ h9 => h9) rfl dX1_rests_13 ?_
      have ht17 : tg g (pF g o 0) = 13 := hf.1
      refine lv_iload_n hx hb dX1_rests_16 rfl (lv_at hl 1 rfl) ?_
      refine lv_bipush (v := 8) hx hb dX1_rests_17 (by decide) ?_
      refine lv_isub hx hb dX1_rests_19 ?_
      refine lv_topi (fun v18 e19 => ?_)
      obtain rfl : v18 = nI (j - 8) := e19.trans (pk_sub (a := j) (b := 8) (by omega))
      obtain ⟨u20, hP, hf⟩ := o_kn (i := 0) (q := (pF g o 0)) hM (by omega)
      refine va_cald (D := (dC, dI)) hx hb hK hP 0 2 rfl rfl (vp_in_nI (by omega) (by decide)) dX1_rests_20 ?_
      refine lv_topi (fun v21 e22 => ?_)
      have ec : ((nI (j - 8)) : Int32).toNatClampNeg = (j - 8) := nI_clamp (by omega)
      rw [ec] at e22
      have hu23 := hf (j - 8) (by omega)
      rw [← e22] at hu23
      refine lv_bipush (v := 46) hx hb dX1_rests_21 (by decide) ?_
      refine lv_icmp_eq (tgt := 30) hx hb dX1_rests_23 (by decide) (fun c24 => ?_) (fun c24 => ?_)
      · skip
        exact jn7 s.heap _ ls hM hS (lv_sub hl [0, 1] rfl)
      · skip
        refine lv_iconst (v := 1) hx hb dX1_rests_26 (by decide) ?_
        refine lv_goto (tgt := 31) hx hb dX1_rests_27 (by decide) ?_
        exact jn2 1 s.heap _ ls (Or.inr rfl) hM hS (lv_sub hl [0, 1] rfl)

set_option maxHeartbeats 4000000 in
set_option maxRecDepth 100000 in
theorem rk_spans (l : Launch) (dC : Nat → ClassId) (dI : Nat → Nat → Nat) (kA : Nat → ClassId) (eD b : Nat) (g : Gh) (o : Nat) (i j : Nat) (hto : tg g o = 12 + 64 * i) (hj : j < 48) : Met l yX1_spans wsX1_spans ({ frames := 1, cells := 0, slots := 0, locals := 21 }) (va_Pc [.ref o, .int (nI j)] (CX (dC, dI) kA eD b g)) (va_Qi (fun (r : Int32) (u : Unit) => r = 0 ∨ r = 1) (fun (u : Unit) t => CX (dC, dI) kA eD b g t) (fun q => b ≤ q)) 0 0 (fun q => b ≤ q) := by
  refine Met.ofW (cc := cX1_spans) (maxL := 3) (ret := (some .boolean)) (by decide +kernel) rfl ?_
  intro p e s m args below meth c s₁ B hml hv
  obtain ⟨rfl, hb0, hM, hK, hG, hE⟩ := hv
  have hx := B.exec
  have hb := B.bytes
  have hr := B.returns
  have hts := atoms_spec (ws := wsX1_spans) B.pre
  have hown : s.vm.findClass RX1 = some m.cls := findClass_of_methodNamed B.named
  have hlocks := B.notSynchronized
  have hT := hE.1
  have hN := hE.2.2.2.2.2.2.2.1
  have hS : va_S (fun q => b ≤ q) s.heap s.heap [] := va_S.rf
  have hl := lv_entry ([.ref o, .int (nI j)]) (n := 3) (Nat.le_of_ble_eq_true rfl)
  rw [lg_entry_eq]
  generalize (lg_sl ([.ref o, .int (nI j)]) ++ List.replicate (3 - (lg_sl ([.ref o, .int (nI j)])).length) Slot.unset).toArray = ls at hl ⊢
  have hl : lv_has ls 3 [(0, .ref o), (1, .int (nI j))] := hl
  generalize ([.ref o, .int (nI j)] : List Value).toArray = args at hts ⊢
  refine W.q (fun Q hQ => ?_)
  refine lv_iload_n hx hb dX1_spans_0 rfl (lv_at hl 1 rfl) ?_
  refine lv_bipush (v := 8) hx hb dX1_spans_1 (by decide) ?_
  refine lv_irem hx hb dX1_spans_3 (by decide) ?_
  refine lv_topi (fun v1 e2 => ?_)
  obtain rfl : v1 = nI (j % 8) := e2.trans (pk_rem (a := j) (d := 8) (by omega) (by decide) (by decide))
  refine lv_istore_n (lv' := [(2, .int (nI (j % 8))), (0, .ref o), (1, .int (nI j))]) hx hb dX1_spans_4 rfl hl (by decide) rfl (fun ls hl => ?_)
  refine lv_aload_n hx hb dX1_spans_5 rfl (lv_at hl 1 rfl) ?_
  refine lv_iload_n hx hb dX1_spans_6 rfl (lv_at hl 2 rfl) ?_
  obtain ⟨u3, u4, u5, u6, u7, u8, hP, hf⟩ := o_st (i := i) (q := o) hM (by omega)
  refine va_calli (va_runV (As := [.int (nI j)]) (rest := []) ⟨hx, hb, hml, hown, hts⟩ (rk_rests l dC dI kA eD b g o i j (by omega) (by omega)) (cwV 1 hts gX1_spans_X1_rests rfl rfl rfl (by decide +kernel) ⟨Nat.le_of_ble_eq_true rfl, Nat.le_of_ble_eq_true rfl⟩) ⟨fb_CX, va_recv hK hP (ci := 5) (q0 := 0) rfl rfl, fun U hU hW => ⟨rfl, CX.give hb0 hM hK hG hE hS hU hW⟩⟩ rfl rfl hl.1 rfl (lv_room (Nat.le_of_ble_eq_true rfl)) dX1_spans_7 ⟨(Nat.le_of_ble_eq_true rfl), (Nat.le_of_ble_eq_true rfl)⟩) hS (fun q _ h => h) (fun q h => h) (fun r9 u t H locs ht hvm hw10 hB hz1 hk1 hS => ?_)
  have hM := hB.back ht
  have hG := hB.2.2.2.1
  have jn12 : ∀ (x11 : Int32) (H : Heap) (locs : List Loc) (ls : Array Slot), (x11 = 0 ∨ x11 = 1) → TM (dC, dI) kA b g H → va_S (fun q => b ≤ q) s.heap H locs → lv_has ls 3 [(2, .int (nI (j % 8))), (0, .ref o), (1, .int (nI j))] → W p l e (headSpec wsX1_spans ({ frames := 1, cells := 0, slots := 0, locals := 21 })).room s m args below meth c H locs 0 0 Q (F0 m 68 ls [.int x11]) := by
    intro x11 H locs ls hj13 hM hS hl
    subst hQ
    refine W.widen (k := 0) (n := 0) (Nat.le_of_ble_eq_true rfl) (Nat.le_of_ble_eq_true rfl) ?_
    exact W.zret (v := x11) (ty := .boolean) hx hb hr (z01n hj13) (fun t ht hW => ⟨⟨x11, (), rfl, hj13, CX.give hb0 hM hK hG hE hS ht hW⟩, hS.F ht⟩) hS.2.2 dX1_spans_68
  refine lv_if_ne (tgt := 67) hx hb dX1_spans_10 (by decide) (fun c14 => ?_) (fun c14 => ?_)
  · skip
    refine lv_iconst (v := 0) hx hb dX1_spans_67 (by decide) ?_
    exact jn12 0 H _ ls (Or.inl rfl) hM hS (lv_sub hl [0, 1, 2] rfl)
  · skip
    refine lv_iload_n hx hb dX1_spans_13 rfl (lv_at hl 0 rfl) ?_
    have jn15 : ∀  (H : Heap) (locs : List Loc) (ls : Array Slot), TM (dC, dI) kA b g H → va_S (fun q => b ≤ q) s.heap H locs → lv_has ls 3 [(2, .int (nI (j % 8))), (0, .ref o), (1, .int (nI j))] → W p l e (headSpec wsX1_spans ({ frames := 1, cells := 0, slots := 0, locals := 21 })).room s m args below meth c H locs 0 0 Q (F0 m 67 ls []) := by
      intro H locs ls hM hS hl
      refine lv_iconst (v := 0) hx hb dX1_spans_67 (by decide) ?_
      exact jn12 0 H _ ls (Or.inl rfl) hM hS (lv_sub hl [0, 1, 2] rfl)
    refine lv_if_le (tgt := 67) hx hb dX1_spans_14 (by decide) (fun c16 => ?_) (fun c16 => ?_)
    · skip
      have k17 : (j % 8) ≤ 0 := (nI_leI (a := (j % 8)) (b := 0) (by omega) (by omega)).mp c16
      exact jn15 H _ ls hM hS (lv_sub hl [0, 1, 2] rfl)
    · skip
      have k18 : ¬ ((j % 8) ≤ 0) := fun z => c16 ((nI_leI (a := (j % 8)) (b := 0) (by omega) (by omega)).mpr z)
      refine lv_iload_n hx hb dX1_spans_17 rfl (lv_at hl 0 rfl) ?_
      refine lv_bipush (v := 7) hx hb dX1_spans_18 (by decide) ?_
      refine lv_icmp_ge (tgt := 67) hx hb dX1_spans_20 (by decide) (fun c19 => ?_) (fun c19 => ?_)
      · skip
        have k20 : 7 ≤ (j % 8) := (nI_leI (a := 7) (b := (j % 8)) (by omega) (by omega)).mp c19
        exact jn15 H _ ls hM hS (lv_sub hl [0, 1, 2] rfl)
      · skip
        have k21 : ¬ (7 ≤ (j % 8)) := fun z => c19 ((nI_leI (a := 7) (b := (j % 8)) (by omega) (by omega)).mpr z)
        refine lv_aload_n hx hb dX1_spans_23 rfl (lv_at hl 1 rfl) ?_
        refine lv_iload_n hx hb dX1_spans_24 rfl (lv_at hl 2 rfl) ?_
        refine lv_iconst (v := 1) hx hb dX1_spans_25 (by decide) ?_
        refine lv_isub hx hb dX1_spans_26 ?_
        refine lv_topi (fun v22 e23 => ?_)
        obtain rfl : v22 = nI (j - 1) := e23.trans (pk_sub (a := j) (b := 1) (by omega))
        obtain ⟨u24, u25, u26, u27, u28, u29, hP, hf⟩ := o_st (i := i) (q := o) hM (by omega)
        refine va_calli (va_runV (As := [.int (nI (j - 1))]) (rest := []) ⟨hx, hb, hml, hown, hts⟩ (rk_has l dC dI kA eD b g o i (nI (j - 1)) (by omega)) (cwV 1 hts gX1_spans_X1_has rfl rfl rfl (by decide +kernel) ⟨Nat.le_of_ble_eq_true rfl, Nat.le_of_ble_eq_true rfl⟩) ⟨fb_CX, va_recv hK hP (ci := 5) (q0 := 0) rfl rfl, fun U hU hW => ⟨rfl, CX.give hb0 hM hK hG hE hS hU hW⟩⟩ rfl rfl hl.1 rfl (lv_room (Nat.le_of_ble_eq_true rfl)) dX1_spans_27 ⟨(Nat.le_of_ble_eq_true rfl), (Nat.le_of_ble_eq_true rfl)⟩) hS (fun q _ h => h) (fun q h => h) (fun r30 u t H locs ht hvm hw31 hB hz1 hk1 hS => ?_)
        have hM := hB.back ht
        have hG := hB.2.2.2.1
        refine lv_if_eq (tgt := 67) hx hb dX1_spans_30 (by decide) (fun c32 => ?_) (fun c32 => ?_)
        · skip
          exact jn15 H _ ls hM hS (lv_sub hl [0, 1, 2] rfl)
        · skip
          obtain ⟨-, hr1, hr2⟩ := hw31.resolve_left c32
          refine lv_aload_n hx hb dX1_spans_33 rfl (lv_at hl 1 rfl) ?_
          refine lv_iload_n hx hb dX1_spans_34 rfl (lv_at hl 2 rfl) ?_
          refine lv_iconst (v := 1) hx hb dX1_spans_35 (by decide) ?_
          refine lv_isub hx hb dX1_spans_36 ?_
          refine lv_topi (fun v33 e34 => ?_)
          obtain rfl : v33 = nI (j - 1) := e34.trans (pk_sub (a := j) (b := 1) (by omega))
          obtain ⟨u35, u36, u37, u38, u39, u40, hP, hf⟩ := o_st (i := i) (q := o) hM (by omega)
          refine va_calli (va_runV (As := [.int (nI (j - 1))]) (rest := []) ⟨hx, hb, hml, hown, hts⟩ (rk_rests l dC dI kA eD b g o i (j - 1) (by omega) (by omega)) (cwV 1 hts gX1_spans_X1_rests rfl rfl rfl (by decide +kernel) ⟨Nat.le_of_ble_eq_true rfl, Nat.le_of_ble_eq_true rfl⟩) ⟨fb_CX, va_recv hK hP (ci := 5) (q0 := 0) rfl rfl, fun U hU hW => ⟨rfl, CX.give hb0 hM hK hG hE hS hU hW⟩⟩ rfl rfl hl.1 rfl (lv_room (Nat.le_of_ble_eq_true rfl)) dX1_spans_37 ⟨(Nat.le_of_ble_eq_true rfl), (Nat.le_of_ble_eq_true rfl)⟩) hS (fun q _ h => h) (fun q h => h) (fun r41 u t H locs ht hvm hw42 hB hz1 hk1 hS => ?_)
          have hM := hB.back ht
          have hG := hB.2.2.2.1
          refine lv_if_eq (tgt := 67) hx hb dX1_spans_40 (by decide) (fun c43 => ?_) (fun c43 => ?_)
          · skip
            exact jn15 H _ ls hM hS (lv_sub hl [0, 1, 2] rfl)
          · skip
            refine lv_aload_n hx hb dX1_spans_43 rfl (lv_at hl 1 rfl) ?_
            refine lv_iload_n hx hb dX1_spans_44 rfl (lv_at hl 2 rfl) ?_
            refine lv_iconst (v := 1) hx hb dX1_spans_45 (by decide) ?_
            refine lv_iadd hx hb dX1_spans_46 ?_
            refine lv_topi (fun v44 e45 => ?_)
            obtain rfl : v44 = nI (j + 1) := e45.trans (nI_add j 1)
            obtain ⟨u46, u47, u48, u49, u50, u51, hP, hf⟩ := o_st (i := i) (q := o) hM (by omega)
            refine va_calli (va_runV (As := [.int (nI (j + 1))]) (rest := []) ⟨hx, hb, hml, hown, hts⟩ (rk_has l dC dI kA eD b g o i (nI (j + 1)) (by omega)) (cwV 1 hts gX1_spans_X1_has rfl rfl rfl (by decide +kernel) ⟨Nat.le_of_ble_eq_true rfl, Nat.le_of_ble_eq_true rfl⟩) ⟨fb_CX, va_recv hK hP (ci := 5) (q0 := 0) rfl rfl, fun U hU hW => ⟨rfl, CX.give hb0 hM hK hG hE hS hU hW⟩⟩ rfl rfl hl.1 rfl (lv_room (Nat.le_of_ble_eq_true rfl)) dX1_spans_47 ⟨(Nat.le_of_ble_eq_true rfl), (Nat.le_of_ble_eq_true rfl)⟩) hS (fun q _ h => h) (fun q h => h) (fun r52 u t H locs ht hvm hw53 hB hz1 hk1 hS => ?_)
            have hM := hB.back ht
            have hG := hB.2.2.2.1
            refine lv_if_eq (tgt := 67) hx hb dX1_spans_50 (by decide) (fun c54 => ?_) (fun c54 => ?_)
            · skip
              exact jn15 H _ ls hM hS (lv_sub hl [0, 1, 2] rfl)
            · skip
              obtain ⟨-, hr1, hr2⟩ := hw53.resolve_left c54
              refine lv_aload_n hx hb dX1_spans_53 rfl (lv_at hl 1 rfl) ?_
              refine lv_iload_n hx hb dX1_spans_54 rfl (lv_at hl 2 rfl) ?_
              refine lv_iconst (v := 1) hx hb dX1_spans_55 (by decide) ?_
              refine lv_iadd hx hb dX1_spans_56 ?_
              refine lv_topi (fun v55 e56 => ?_)
              obtain rfl : v55 = nI (j + 1) := e56.trans (nI_add j 1)
              obtain ⟨u57, u58, u59, u60, u61, u62, hP, hf⟩ := o_st (i := i) (q := o) hM (by omega)
              refine va_calli (va_runV (As := [.int (nI (j + 1))]) (rest := []) ⟨hx, hb, hml, hown, hts⟩ (rk_rests l dC dI kA eD b g o i (j + 1) (by omega) (by omega)) (cwV 1 hts gX1_spans_X1_rests rfl rfl rfl (by decide +kernel) ⟨Nat.le_of_ble_eq_true rfl, Nat.le_of_ble_eq_true rfl⟩) ⟨fb_CX, va_recv hK hP (ci := 5) (q0 := 0) rfl rfl, fun U hU hW => ⟨rfl, CX.give hb0 hM hK hG hE hS hU hW⟩⟩ rfl rfl hl.1 rfl (lv_room (Nat.le_of_ble_eq_true rfl)) dX1_spans_57 ⟨(Nat.le_of_ble_eq_true rfl), (Nat.le_of_ble_eq_true rfl)⟩) hS (fun q _ h => h) (fun q h => h) (fun r63 u t H locs ht hvm hw64 hB hz1 hk1 hS => ?_)
              have hM := hB.back ht
              have hG := hB.2.2.2.1
              refine lv_if_eq (tgt := 67) hx hb dX1_spans_60 (by decide) (fun c65 => ?_) (fun c65 => ?_)
              · skip
                exact jn15 H _ ls hM hS (lv_sub hl [0, 1, 2] rfl)
              · skip
                refine lv_iconst (v := 1) hx hb dX1_spans_63 (by decide) ?_
                refine lv_goto (tgt := 68) hx hb dX1_spans_64 (by decide) ?_
                exact jn12 1 H _ ls (Or.inr rfl) hM hS (lv_sub hl [0, 1, 2] rfl)

set_option maxHeartbeats 4000000 in
set_option maxRecDepth 100000 in
theorem rk_wouldStand (l : Launch) (dC : Nat → ClassId) (dI : Nat → Nat → Nat) (kA : Nat → ClassId) (eD b : Nat) (g : Gh) (o : Nat) (i j : Nat) (hto : tg g o = 12 + 64 * i) (hj : j < 48) : Met l yX1_wouldStand wsX1_wouldStand ({ frames := 2, cells := 0, slots := 0, locals := 43 }) (va_Pc [.ref o, .int (nI j)] (CX (dC, dI) kA eD b g)) (va_Qi (fun (r : Int32) (u : Unit) => r = 0 ∨ r = 1) (fun (u : Unit) t => CX (dC, dI) kA eD b g t) (fun q => b ≤ q)) 0 0 (fun q => b ≤ q) := by
  refine Met.ofW (cc := cX1_wouldStand) (maxL := 2) (ret := (some .boolean)) (by decide +kernel) rfl ?_
  intro p e s m args below meth c s₁ B hml hv
  obtain ⟨rfl, hb0, hM, hK, hG, hE⟩ := hv
  have hx := B.exec
  have hb := B.bytes
  have hr := B.returns
  have hts := atoms_spec (ws := wsX1_wouldStand) B.pre
  have hown : s.vm.findClass RX1 = some m.cls := findClass_of_methodNamed B.named
  have hlocks := B.notSynchronized
  have hT := hE.1
  have hN := hE.2.2.2.2.2.2.2.1
  have hS : va_S (fun q => b ≤ q) s.heap s.heap [] := va_S.rf
  have hl := lv_entry ([.ref o, .int (nI j)]) (n := 2) (Nat.le_of_ble_eq_true rfl)
  rw [lg_entry_eq]
  generalize (lg_sl ([.ref o, .int (nI j)]) ++ List.replicate (2 - (lg_sl ([.ref o, .int (nI j)])).length) Slot.unset).toArray = ls at hl ⊢
  have hl : lv_has ls 2 [(0, .ref o), (1, .int (nI j))] := hl
  generalize ([.ref o, .int (nI j)] : List Value).toArray = args at hts ⊢
  refine W.q (fun Q hQ => ?_)
  refine lv_aload_n hx hb dX1_wouldStand_0 rfl (lv_at hl 0 rfl) ?_
  refine lv_iload_n hx hb dX1_wouldStand_1 rfl (lv_at hl 1 rfl) ?_
  obtain ⟨u1, u2, u3, u4, u5, u6, hP, hf⟩ := o_st (i := i) (q := o) hM (by omega)
  refine va_calli (va_runV (As := [.int (nI j)]) (rest := []) ⟨hx, hb, hml, hown, hts⟩ (rk_rests l dC dI kA eD b g o i j (by omega) (by omega)) (cwV 1 hts gX1_wouldStand_X1_rests rfl rfl rfl (by decide +kernel) ⟨Nat.le_of_ble_eq_true rfl, Nat.le_of_ble_eq_true rfl⟩) ⟨fb_CX, va_recv hK hP (ci := 5) (q0 := 0) rfl rfl, fun U hU hW => ⟨rfl, CX.give hb0 hM hK hG hE hS hU hW⟩⟩ rfl rfl hl.1 rfl (lv_room (Nat.le_of_ble_eq_true rfl)) dX1_wouldStand_2 ⟨(Nat.le_of_ble_eq_true rfl), (Nat.le_of_ble_eq_true rfl)⟩) hS (fun q _ h => h) (fun q h => h) (fun r7 u t H locs ht hvm hw8 hB hz1 hk1 hS => ?_)
  have hM := hB.back ht
  have hG := hB.2.2.2.1
  have jn10 : ∀ (x9 : Int32) (H : Heap) (locs : List Loc) (ls : Array Slot), (x9 = 0 ∨ x9 = 1) → TM (dC, dI) kA b g H → va_S (fun q => b ≤ q) s.heap H locs → lv_has ls 2 [(0, .ref o), (1, .int (nI j))] → W p l e (headSpec wsX1_wouldStand ({ frames := 2, cells := 0, slots := 0, locals := 43 })).room s m args below meth c H locs 0 0 Q (F0 m 21 ls [.int x9]) := by
    intro x9 H locs ls hj11 hM hS hl
    subst hQ
    refine W.widen (k := 0) (n := 0) (Nat.le_of_ble_eq_true rfl) (Nat.le_of_ble_eq_true rfl) ?_
    exact W.zret (v := x9) (ty := .boolean) hx hb hr (z01n hj11) (fun t ht hW => ⟨⟨x9, (), rfl, hj11, CX.give hb0 hM hK hG hE hS ht hW⟩, hS.F ht⟩) hS.2.2 dX1_wouldStand_21
  refine lv_if_ne (tgt := 16) hx hb dX1_wouldStand_5 (by decide) (fun c12 => ?_) (fun c12 => ?_)
  · skip
    refine lv_iconst (v := 1) hx hb dX1_wouldStand_16 (by decide) ?_
    refine lv_goto (tgt := 21) hx hb dX1_wouldStand_17 (by decide) ?_
    exact jn10 1 H _ ls (Or.inr rfl) hM hS (lv_sub hl [0, 1] rfl)
  · skip
    refine lv_aload_n hx hb dX1_wouldStand_8 rfl (lv_at hl 0 rfl) ?_
    refine lv_iload_n hx hb dX1_wouldStand_9 rfl (lv_at hl 1 rfl) ?_
    obtain ⟨u13, u14, u15, u16, u17, u18, hP, hf⟩ := o_st (i := i) (q := o) hM (by omega)
    refine va_calli (va_runV (As := [.int (nI j)]) (rest := []) ⟨hx, hb, hml, hown, hts⟩ (rk_spans l dC dI kA eD b g o i j (by omega) (by omega)) (cwV 1 hts gX1_wouldStand_X1_spans rfl rfl rfl (by decide +kernel) ⟨Nat.le_of_ble_eq_true rfl, Nat.le_of_ble_eq_true rfl⟩) ⟨fb_CX, va_recv hK hP (ci := 5) (q0 := 0) rfl rfl, fun U hU hW => ⟨rfl, CX.give hb0 hM hK hG hE hS hU hW⟩⟩ rfl rfl hl.1 rfl (lv_room (Nat.le_of_ble_eq_true rfl)) dX1_wouldStand_10 ⟨(Nat.le_of_ble_eq_true rfl), (Nat.le_of_ble_eq_true rfl)⟩) hS (fun q _ h => h) (fun q h => h) (fun r19 u t H locs ht hvm hw20 hB hz1 hk1 hS => ?_)
    have hM := hB.back ht
    have hG := hB.2.2.2.1
    refine lv_if_eq (tgt := 20) hx hb dX1_wouldStand_13 (by decide) (fun c21 => ?_) (fun c21 => ?_)
    · skip
      refine lv_iconst (v := 0) hx hb dX1_wouldStand_20 (by decide) ?_
      exact jn10 0 H _ ls (Or.inl rfl) hM hS (lv_sub hl [0, 1] rfl)
    · skip
      refine lv_iconst (v := 1) hx hb dX1_wouldStand_16 (by decide) ?_
      refine lv_goto (tgt := 21) hx hb dX1_wouldStand_17 (by decide) ?_
      exact jn10 1 H _ ls (Or.inr rfl) hM hS (lv_sub hl [0, 1] rfl)

set_option maxHeartbeats 4000000 in
set_option maxRecDepth 100000 in
theorem rk_setCell (l : Launch) (dC : Nat → ClassId) (dI : Nat → Nat → Nat) (kA : Nat → ClassId) (eD b : Nat) (g : Gh) (o : Nat) (i : Nat) (pl kind : Int32) (hto : tg g o = 12 + 64 * i)  : Met l yX1_setCell wsX1_setCell ({ frames := 1, cells := 0, slots := 0, locals := 22 }) (va_Pc [.ref o, .int pl, .int kind] (CX (dC, dI) kA eD b g)) (va_Qv (fun (u : Unit) => True) (fun (u : Unit) t => CX (dC, dI) kA eD b g t) (fun q => b ≤ q)) 0 0 (fun q => b ≤ q) := by
  refine Met.ofW (cc := cX1_setCell) (maxL := 3) (ret := none) (by decide +kernel) rfl ?_
  intro p e s m args below meth c s₁ B hml hv
  obtain ⟨rfl, hb0, hM, hK, hG, hE⟩ := hv
  have hx := B.exec
  have hb := B.bytes
  have hr := B.returns
  have hts := atoms_spec (ws := wsX1_setCell) B.pre
  have hown : s.vm.findClass RX1 = some m.cls := findClass_of_methodNamed B.named
  have hlocks := B.notSynchronized
  have hT := hE.1
  have hN := hE.2.2.2.2.2.2.2.1
  have hS : va_S (fun q => b ≤ q) s.heap s.heap [] := va_S.rf
  have hl := lv_entry ([.ref o, .int pl, .int kind]) (n := 3) (Nat.le_of_ble_eq_true rfl)
  rw [lg_entry_eq]
  generalize (lg_sl ([.ref o, .int pl, .int kind]) ++ List.replicate (3 - (lg_sl ([.ref o, .int pl, .int kind])).length) Slot.unset).toArray = ls at hl ⊢
  have hl : lv_has ls 3 [(0, .ref o), (1, .int pl), (2, .int kind)] := hl
  generalize ([.ref o, .int pl, .int kind] : List Value).toArray = args at hts ⊢
  refine lv_iload_n hx hb dX1_setCell_0 rfl (lv_at hl 1 rfl) ?_
  refine lv_iconst (v := 0) hx hb dX1_setCell_1 (by decide) ?_
  refine lv_bipush (v := 47) hx hb dX1_setCell_2 (by decide) ?_
  refine va_calli (va_runSN (As := [.int pl, .int 0, .int 47]) (rest := []) ⟨hx, hb, hml, hown, hts⟩ (rk_isWithin l pl 0 47 (0) (47) (by decide) (by decide)) (⟨va_cnB 3 hts gX1_setCell_X3_isWithin_n72 rfl rfl rfl (hN (.methodLinkNest RX1 72 yX3_isWithin RX3) (by decide +kernel)) (hts (.initialized RX3) (by decide +kernel)) (by decide +kernel) ⟨Nat.le_of_ble_eq_true rfl, Nat.le_of_ble_eq_true rfl⟩, hts (.static yX3_isWithin) (by decide +kernel), trivial⟩) ⟨fun a U g mk q => q, fun U hU hW => ⟨rfl, trivial⟩⟩ rfl rfl hl.1 rfl (lv_room (Nat.le_of_ble_eq_true rfl)) dX1_setCell_4 ⟨(Nat.le_of_ble_eq_true rfl), (Nat.le_of_ble_eq_true rfl)⟩) hS (fun q _ h => h.elim) (fun q h => h.elim) (fun r1 u t H locs ht hvm hw2 hB hz1 hk1 hS => ?_)
  have hM := hM.keep (fun p hp => hk1 p hp (fun z => z))
  have hw2 : r1 = bI ((0 : Int) ≤ pl.toInt ∧ pl.toInt ≤ (47 : Int)) := hw2
  refine lv_if_ne (tgt := 11) hx hb dX1_setCell_7 (by decide) (fun c3 => ?_) (fun c3 => ?_)
  · skip
    have g4 : (0 : Int) ≤ pl.toInt ∧ pl.toInt ≤ (47 : Int) := bI_t hw2 c3
    have zg4 : r1 = 1 := bI_t1 hw2 g4
    refine lv_aload_n hx hb dX1_setCell_11 rfl (lv_at hl 0 rfl) ?_
    obtain ⟨u5, u6, u7, u8, u9, u10, hP, hf⟩ := o_st (i := i) (q := o) hM (by omega)
    refine va_get (D := (dC, dI)) (ci := 5) (v := .ref (pF g o 0)) (C := RX1) (T := TX1) (N := 15) hx hb hts (by decide +kernel) hown hK hP 0 rfl rfl 0 (by decide) (hts (.fieldLink RX1 9 "Snowpalace$Site" "kinds" "[C") (by decide +kernel)) (fun _ h9 => h9) rfl dX1_setCell_12 ?_
    have ht11 : tg g (pF g o 0) = 13 := hf.1
    refine lv_iload_n hx hb dX1_setCell_15 rfl (lv_at hl 1 rfl) ?_
    refine lv_iload_n hx hb dX1_setCell_16 rfl (lv_at hl 2 rfl) ?_
    obtain ⟨u12, hP, hf⟩ := o_kn (i := 0) (q := (pF g o 0)) hM (by omega)
    refine rt_cast (D := (dC, dI)) (t0 := 2) hx hb hK hP (hM.ge (by omega)) hS rfl (inI (by omega) (by omega)) dX1_setCell_17 (fun H locs hP hz ho hS => ?_)
    have hM := s_kn (i := 0) hM (by omega) hP ho (isC_upd hf)
    refine lv_aload_n hx hb dX1_setCell_18 rfl (lv_at hl 0 rfl) ?_
    obtain ⟨u13, u14, u15, u16, u17, u18, hP, hf⟩ := o_st (i := i) (q := o) hM (by omega)
    refine va_get (D := (dC, dI)) (ci := 5) (v := .ref (pF g o 1)) (C := RX1) (T := TX1) (N := 15) hx hb hts (by decide +kernel) hown hK hP 0 rfl rfl 1 (by decide) (hts (.fieldLink RX1 15 "Snowpalace$Site" "masses" "[I") (by decide +kernel)) (fun _ h9 => h9) rfl dX1_setCell_19 ?_
    have ht19 : tg g (pF g o 1) = 14 := hf.2.1
    refine lv_iload_n hx hb dX1_setCell_22 rfl (lv_at hl 1 rfl) ?_
    refine lv_iload_n hx hb dX1_setCell_23 rfl (lv_at hl 2 rfl) ?_
    refine va_calli (va_runS (As := [.int kind]) (rest := [.int pl, .ref (pF g o 1)]) ⟨hx, hb, hml, hown, hts⟩ (rk_massOfKind l kind) (va_cwS 1 hts gX1_setCell_X1_massOfKind rfl rfl rfl (by decide +kernel) ⟨Nat.le_of_ble_eq_true rfl, Nat.le_of_ble_eq_true rfl⟩) ⟨fun a U g mk q => q, fun U hU hW => ⟨rfl, trivial⟩⟩ rfl rfl hl.1 rfl (lv_room (Nat.le_of_ble_eq_true rfl)) dX1_setCell_24 ⟨(Nat.le_of_ble_eq_true rfl), (Nat.le_of_ble_eq_true rfl)⟩) hS (fun q _ h => h.elim) (fun q h => h.elim) (fun r20 u t H locs ht hvm hw21 hB hz1 hk1 hS => ?_)
    have hM := hM.keep (fun p hp => hk1 p hp (fun z => z))
    obtain ⟨u22, hP, hf⟩ := o_in (i := 0) (q := (pF g o 1)) hM (by omega)
    refine rt_iast (D := (dC, dI)) (t0 := 0) hx hb hK hP (hM.ge (by omega)) hS rfl (inI (by omega) (by omega)) dX1_setCell_27 (fun H locs hP hz ho hS => ?_)
    have hM := s_in (i := 0) hM (by omega) hP ho hf
    refine lv_aload_n hx hb dX1_setCell_28 rfl (lv_at hl 0 rfl) ?_
    obtain ⟨u23, u24, u25, u26, u27, u28, hP, hf⟩ := o_st (i := i) (q := o) hM (by omega)
    refine va_get (D := (dC, dI)) (ci := 5) (v := .ref (pF g o 2)) (C := RX1) (T := TX1) (N := 15) hx hb hts (by decide +kernel) hown hK hP 0 rfl rfl 2 (by decide) (hts (.fieldLink RX1 19 "Snowpalace$Site" "creeps" "[I") (by decide +kernel)) (fun _ h9 => h9) rfl dX1_setCell_29 ?_
    have ht29 : tg g (pF g o 2) = 14 := hf.2.2.1
    refine lv_iload_n hx hb dX1_setCell_32 rfl (lv_at hl 1 rfl) ?_
    refine lv_iconst (v := 0) hx hb dX1_setCell_33 (by decide) ?_
    obtain ⟨u30, hP, hf⟩ := o_in (i := 0) (q := (pF g o 2)) hM (by omega)
    refine rt_iast (D := (dC, dI)) (t0 := 0) hx hb hK hP (hM.ge (by omega)) hS rfl (inI (by omega) (by omega)) dX1_setCell_34 (fun H locs hP hz ho hS => ?_)
    have hM := s_in (i := 0) hM (by omega) hP ho hf
    refine lv_aload_n hx hb dX1_setCell_35 rfl (lv_at hl 0 rfl) ?_
    obtain ⟨u31, u32, u33, u34, u35, u36, hP, hf⟩ := o_st (i := i) (q := o) hM (by omega)
    refine va_get (D := (dC, dI)) (ci := 5) (v := .ref (pF g o 3)) (C := RX1) (T := TX1) (N := 15) hx hb hts (by decide +kernel) hown hK hP 0 rfl rfl 3 (by decide) (hts (.fieldLink RX1 22 "Snowpalace$Site" "ages" "[I") (by decide +kernel)) (fun _ h9 => h9) rfl dX1_setCell_36 ?_
    have ht37 : tg g (pF g o 3) = 14 := hf.2.2.2.1
    refine lv_iload_n hx hb dX1_setCell_39 rfl (lv_at hl 1 rfl) ?_
    refine lv_iconst (v := 0) hx hb dX1_setCell_40 (by decide) ?_
    obtain ⟨u38, hP, hf⟩ := o_in (i := 0) (q := (pF g o 3)) hM (by omega)
    refine rt_iast (D := (dC, dI)) (t0 := 0) hx hb hK hP (hM.ge (by omega)) hS rfl (inI (by omega) (by omega)) dX1_setCell_41 (fun H locs hP hz ho hS => ?_)
    have hM := s_in (i := 0) hM (by omega) hP ho hf
    refine lv_aload_n hx hb dX1_setCell_42 rfl (lv_at hl 0 rfl) ?_
    obtain ⟨u39, u40, u41, u42, u43, u44, hP, hf⟩ := o_st (i := i) (q := o) hM (by omega)
    refine va_get (D := (dC, dI)) (ci := 5) (v := .ref (pF g o 4)) (C := RX1) (T := TX1) (N := 15) hx hb hts (by decide +kernel) hown hK hP 0 rfl rfl 4 (by decide) (hts (.fieldLink RX1 25 "Snowpalace$Site" "lamps" "[Z") (by decide +kernel)) (fun _ h9 => h9) rfl dX1_setCell_43 ?_
    have ht45 : tg g (pF g o 4) = 15 := hf.2.2.2.2.1
    refine lv_iload_n hx hb dX1_setCell_46 rfl (lv_at hl 1 rfl) ?_
    refine lv_iconst (v := 0) hx hb dX1_setCell_47 (by decide) ?_
    obtain ⟨u46, hP, hf⟩ := o_bo (i := 0) (q := (pF g o 4)) hM (by omega)
    refine rt_zast (D := (dC, dI)) (t0 := 1) hx hb hK hP (hM.ge (by omega)) hS rfl (inI (by omega) (by omega)) dX1_setCell_48 (fun H locs hP hz ho hS => ?_)
    have hM := s_bo (i := 0) hM (by omega) hP ho (isZ_upd hf)
    refine W.widen (k := 0) (n := 0) (Nat.le_of_ble_eq_true rfl) (Nat.le_of_ble_eq_true rfl) ?_
    exact W.vret hx hb hr (fun t ht hW => ⟨⟨(), rfl, trivial, CX.give hb0 hM hK hG hE hS ht hW⟩, hS.F ht⟩) hS.2.2 dX1_setCell_49
  · skip
    have g47 : ¬ ((0 : Int) ≤ pl.toInt ∧ pl.toInt ≤ (47 : Int)) := bI_f hw2 c3
    have zg47 : r1 = 0 := bI_f0 hw2 g47
    refine W.widen (k := 0) (n := 0) (Nat.le_of_ble_eq_true rfl) (Nat.le_of_ble_eq_true rfl) ?_
    exact W.vret hx hb hr (fun t ht hW => ⟨⟨(), rfl, trivial, CX.give hb0 hM hK hG hE hS ht hW⟩, hS.F ht⟩) hS.2.2 dX1_setCell_10

set_option maxHeartbeats 4000000 in
set_option maxRecDepth 100000 in
theorem rk_removeCell (l : Launch) (dC : Nat → ClassId) (dI : Nat → Nat → Nat) (kA : Nat → ClassId) (eD b : Nat) (g : Gh) (o : Nat) (i : Nat) (pl : Int32) (hto : tg g o = 12 + 64 * i)  : Met l yX1_removeCell wsX1_removeCell ({ frames := 2, cells := 0, slots := 0, locals := 44 }) (va_Pc [.ref o, .int pl] (CX (dC, dI) kA eD b g)) (va_Qv (fun (u : Unit) => True) (fun (u : Unit) t => CX (dC, dI) kA eD b g t) (fun q => b ≤ q)) 0 0 (fun q => b ≤ q) := by
  refine Met.ofW (cc := cX1_removeCell) (maxL := 2) (ret := none) (by decide +kernel) rfl ?_
  intro p e s m args below meth c s₁ B hml hv
  obtain ⟨rfl, hb0, hM, hK, hG, hE⟩ := hv
  have hx := B.exec
  have hb := B.bytes
  have hr := B.returns
  have hts := atoms_spec (ws := wsX1_removeCell) B.pre
  have hown : s.vm.findClass RX1 = some m.cls := findClass_of_methodNamed B.named
  have hlocks := B.notSynchronized
  have hT := hE.1
  have hN := hE.2.2.2.2.2.2.2.1
  have hS : va_S (fun q => b ≤ q) s.heap s.heap [] := va_S.rf
  have hl := lv_entry ([.ref o, .int pl]) (n := 2) (Nat.le_of_ble_eq_true rfl)
  rw [lg_entry_eq]
  generalize (lg_sl ([.ref o, .int pl]) ++ List.replicate (2 - (lg_sl ([.ref o, .int pl])).length) Slot.unset).toArray = ls at hl ⊢
  have hl : lv_has ls 2 [(0, .ref o), (1, .int pl)] := hl
  generalize ([.ref o, .int pl] : List Value).toArray = args at hts ⊢
  refine lv_aload_n hx hb dX1_removeCell_0 rfl (lv_at hl 0 rfl) ?_
  refine lv_iload_n hx hb dX1_removeCell_1 rfl (lv_at hl 1 rfl) ?_
  refine lv_bipush (v := 46) hx hb dX1_removeCell_2 (by decide) ?_
  obtain ⟨u1, u2, u3, u4, u5, u6, hP, hf⟩ := o_st (i := i) (q := o) hM (by omega)
  refine va_callv (va_runV (As := [.int pl, .int 46]) (rest := []) ⟨hx, hb, hml, hown, hts⟩ (rk_setCell l dC dI kA eD b g o i pl 46 (by omega)) (cwV 2 hts gX1_removeCell_X1_setCell rfl rfl rfl (by decide +kernel) ⟨Nat.le_of_ble_eq_true rfl, Nat.le_of_ble_eq_true rfl⟩) ⟨fb_CX, va_recv hK hP (ci := 5) (q0 := 0) rfl rfl, fun U hU hW => ⟨rfl, CX.give hb0 hM hK hG hE hS hU hW⟩⟩ rfl rfl hl.1 rfl (lv_room (Nat.le_of_ble_eq_true rfl)) dX1_removeCell_4 ⟨(Nat.le_of_ble_eq_true rfl), (Nat.le_of_ble_eq_true rfl)⟩) hS (fun q _ h => h) (fun q h => h) (fun u t H locs ht hvm hw8 hB hz1 hk1 hS => ?_)
  have hM := hB.back ht
  have hG := hB.2.2.2.1
  refine W.widen (k := 0) (n := 0) (Nat.le_of_ble_eq_true rfl) (Nat.le_of_ble_eq_true rfl) ?_
  exact W.vret hx hb hr (fun t ht hW => ⟨⟨(), rfl, trivial, CX.give hb0 hM hK hG hE hS ht hW⟩, hS.F ht⟩) hS.2.2 dX1_removeCell_7

set_option maxHeartbeats 4000000 in
set_option maxRecDepth 100000 in
theorem rk_creepSum (l : Launch) (dC : Nat → ClassId) (dI : Nat → Nat → Nat) (kA : Nat → ClassId) (eD b : Nat) (g : Gh) (o : Nat) (i : Nat) (hto : tg g o = 12 + 64 * i)  : Met l yX1_creepSum wsX1_creepSum ({ frames := 0, cells := 0, slots := 0, locals := 0 }) (va_Pc [.ref o] (CX (dC, dI) kA eD b g)) (va_Qi (fun (r : Int32) (u : Unit) => True) (fun (u : Unit) t => CX (dC, dI) kA eD b g t) (fun q => b ≤ q)) 0 0 (fun q => b ≤ q) := by
  refine Met.ofW (cc := cX1_creepSum) (maxL := 3) (ret := (some .int)) (by decide +kernel) rfl ?_
  intro p e s m args below meth c s₁ B hml hv
  obtain ⟨rfl, hb0, hM, hK, hG, hE⟩ := hv
  have hx := B.exec
  have hb := B.bytes
  have hr := B.returns
  have hts := atoms_spec (ws := wsX1_creepSum) B.pre
  have hown : s.vm.findClass RX1 = some m.cls := findClass_of_methodNamed B.named
  have hlocks := B.notSynchronized
  have hT := hE.1
  have hN := hE.2.2.2.2.2.2.2.1
  have hS : va_S (fun q => b ≤ q) s.heap s.heap [] := va_S.rf
  have hl := lv_entry ([.ref o]) (n := 3) (Nat.le_of_ble_eq_true rfl)
  rw [lg_entry_eq]
  generalize (lg_sl ([.ref o]) ++ List.replicate (3 - (lg_sl ([.ref o])).length) Slot.unset).toArray = ls at hl ⊢
  have hl : lv_has ls 3 [(0, .ref o)] := hl
  generalize ([.ref o] : List Value).toArray = args at hts ⊢
  refine W.q (fun Q hQ => ?_)
  refine lv_iconst (v := 0) hx hb dX1_creepSum_0 (by decide) ?_
  refine lv_istore_n (lv' := [(1, .int 0), (0, .ref o)]) hx hb dX1_creepSum_1 rfl hl (by decide) rfl (fun ls hl => ?_)
  refine lv_iconst (v := 0) hx hb dX1_creepSum_2 (by decide) ?_
  refine lv_istore_n (lv' := [(2, .int 0), (1, .int 0), (0, .ref o)]) hx hb dX1_creepSum_3 rfl hl (by decide) rfl (fun ls hl => ?_)
  have lp3 : ∀ (n4 j1 : Nat) (x2 : Int32), 0 ≤ j1 → j1 ≤ 48 → 48 < j1 + n4 → ∀ (H : Heap) (locs : List Loc) (ls : Array Slot), TM (dC, dI) kA b g H → va_S (fun q => b ≤ q) s.heap H locs → lv_has ls 3 [(2, .int (nI j1)), (1, .int x2), (0, .ref o)] → W p l e (headSpec wsX1_creepSum ({ frames := 0, cells := 0, slots := 0, locals := 0 })).room s m args below meth c H locs 0 0 Q (F0 m 4 ls []) := by
    intro n4
    induction n4 with
    | zero => intro j1 x2 h0 h1 h2; omega
    | succ n4 ih5 =>
      intro j1 x2 lj1 hj1 hn4 H locs ls hM hS hl
      refine lv_iload_n hx hb dX1_creepSum_4 rfl (lv_at hl 0 rfl) ?_
      refine lv_bipush (v := 48) hx hb dX1_creepSum_5 (by decide) ?_
      refine lv_icmp_ge (tgt := 40) hx hb dX1_creepSum_7 (by decide) (fun c6 => ?_) (fun c6 => ?_)
      · skip
        have k7 : 48 ≤ j1 := (nI_leI (a := 48) (b := j1) (by omega) (by omega)).mp c6
        refine lv_iload_n hx hb dX1_creepSum_40 rfl (lv_at hl 1 rfl) ?_
        subst hQ
        refine W.widen (k := 0) (n := 0) (Nat.le_of_ble_eq_true rfl) (Nat.le_of_ble_eq_true rfl) ?_
        exact W.iret (v := x2) hx hb hr (fun t ht hW => ⟨⟨x2, (), rfl, trivial, CX.give hb0 hM hK hG hE hS ht hW⟩, hS.F ht⟩) hS.2.2 dX1_creepSum_41
      · skip
        have k8 : ¬ (48 ≤ j1) := fun z => c6 ((nI_leI (a := 48) (b := j1) (by omega) (by omega)).mpr z)
        refine lv_iload_n hx hb dX1_creepSum_10 rfl (lv_at hl 1 rfl) ?_
        refine lv_aload_n hx hb dX1_creepSum_11 rfl (lv_at hl 2 rfl) ?_
        obtain ⟨u9, u10, u11, u12, u13, u14, hP, hf⟩ := o_st (i := i) (q := o) hM (by omega)
        refine va_get (D := (dC, dI)) (ci := 5) (v := .ref (pF g o 0)) (C := RX1) (T := TX1) (N := 15) hx hb hts (by decide +kernel) hown hK hP 0 rfl rfl 0 (by decide) (hts (.fieldLink RX1 9 "Snowpalace$Site" "kinds" "[C") (by decide +kernel)) (fun _ h9 => h9) rfl dX1_creepSum_12 ?_
        have ht15 : tg g (pF g o 0) = 13 := hf.1
        refine lv_iload_n hx hb dX1_creepSum_15 rfl (lv_at hl 0 rfl) ?_
        obtain ⟨u16, hP, hf⟩ := o_kn (i := 0) (q := (pF g o 0)) hM (by omega)
        refine va_cald (D := (dC, dI)) hx hb hK hP 0 2 rfl rfl (vp_in_nI (by omega) (by decide)) dX1_creepSum_16 ?_
        refine lv_topi (fun v17 e18 => ?_)
        have ec : ((nI j1) : Int32).toNatClampNeg = j1 := nI_clamp (by omega)
        rw [ec] at e18
        have hu19 := hf j1 (by omega)
        rw [← e18] at hu19
        refine lv_bipush (v := 46) hx hb dX1_creepSum_17 (by decide) ?_
        have jn21 : ∀ (x20 : Int32) (H : Heap) (locs : List Loc) (ls : Array Slot), TM (dC, dI) kA b g H → va_S (fun q => b ≤ q) s.heap H locs → lv_has ls 3 [(2, .int (nI j1)), (1, .int x2), (0, .ref o)] → W p l e (headSpec wsX1_creepSum ({ frames := 0, cells := 0, slots := 0, locals := 0 })).room s m args below meth c H locs 0 0 Q (F0 m 32 ls [.int x20, .int x2]) := by
          intro x20 H locs ls hM hS hl
          refine lv_iadd hx hb dX1_creepSum_32 ?_
          refine lv_topi (fun v22 e23 => ?_)
          refine lv_istore_n (lv' := [(1, .int v22), (2, .int (nI j1)), (0, .ref o)]) hx hb dX1_creepSum_33 rfl hl (by decide) rfl (fun ls hl => ?_)
          refine lv_iinc (v := (nI (j1 + 1))) (lv' := [(2, .int (nI (j1 + 1))), (1, .int v22), (0, .ref o)]) hx hb dX1_creepSum_34 hl (k := 1) rfl (nI_add j1 1) (by decide) rfl (fun ls hl => ?_)
          refine lv_goto (tgt := 4) hx hb dX1_creepSum_37 (by decide) ?_
          exact ih5 ((j1 + 1)) v22 (by omega) (by omega) (by omega) H _ ls  hM hS (lv_sub hl [0, 1, 2] rfl)
        refine lv_icmp_eq (tgt := 31) hx hb dX1_creepSum_19 (by decide) (fun c24 => ?_) (fun c24 => ?_)
        · skip
          refine lv_iconst (v := 0) hx hb dX1_creepSum_31 (by decide) ?_
          exact jn21 0 H _ ls hM hS (lv_sub hl [0, 1, 2] rfl)
        · skip
          refine lv_aload_n hx hb dX1_creepSum_22 rfl (lv_at hl 2 rfl) ?_
          obtain ⟨u25, u26, u27, u28, u29, u30, hP, hf⟩ := o_st (i := i) (q := o) hM (by omega)
          refine va_get (D := (dC, dI)) (ci := 5) (v := .ref (pF g o 2)) (C := RX1) (T := TX1) (N := 15) hx hb hts (by decide +kernel) hown hK hP 0 rfl rfl 2 (by decide) (hts (.fieldLink RX1 19 "Snowpalace$Site" "creeps" "[I") (by decide +kernel)) (fun _ h9 => h9) rfl dX1_creepSum_23 ?_
          have ht31 : tg g (pF g o 2) = 14 := hf.2.2.1
          refine lv_iload_n hx hb dX1_creepSum_26 rfl (lv_at hl 0 rfl) ?_
          obtain ⟨u32, hP, hf⟩ := o_in (i := 0) (q := (pF g o 2)) hM (by omega)
          refine va_iald (D := (dC, dI)) hx hb hK hP 0 0 rfl rfl (vp_in_nI (by omega) (by decide)) dX1_creepSum_27 ?_
          refine lv_topi (fun v33 e34 => ?_)
          have ec : ((nI j1) : Int32).toNatClampNeg = j1 := nI_clamp (by omega)
          rw [ec] at e34
          refine lv_goto (tgt := 32) hx hb dX1_creepSum_28 (by decide) ?_
          exact jn21 v33 H _ ls hM hS (lv_sub hl [0, 1, 2] rfl)
  exact lp3 (48 + 1) 0 0 (by omega) (by omega) (by omega) s.heap _ ls  hM hS (lv_sub hl [0, 1, 2] rfl)

set_option maxHeartbeats 4000000 in
set_option maxRecDepth 100000 in
theorem rk_placesAsPlanned (l : Launch) (dC : Nat → ClassId) (dI : Nat → Nat → Nat) (kA : Nat → ClassId) (eD b : Nat) (g : Gh) (o : Nat) (i : Nat) (hto : tg g o = 12 + 64 * i)  : Met l yX1_placesAsPlanned wsX1_placesAsPlanned ({ frames := 0, cells := 0, slots := 0, locals := 0 }) (va_Pc [.ref o] (CX (dC, dI) kA eD b g)) (va_Qi (fun (r : Int32) (u : Unit) => True) (fun (u : Unit) t => CX (dC, dI) kA eD b g t) (fun q => b ≤ q)) 0 0 (fun q => b ≤ q) := by
  refine Met.ofW (cc := cX1_placesAsPlanned) (maxL := 3) (ret := (some .int)) (by decide +kernel) rfl ?_
  intro p e s m args below meth c s₁ B hml hv
  obtain ⟨rfl, hb0, hM, hK, hG, hE⟩ := hv
  have hx := B.exec
  have hb := B.bytes
  have hr := B.returns
  have hts := atoms_spec (ws := wsX1_placesAsPlanned) B.pre
  have hown : s.vm.findClass RX1 = some m.cls := findClass_of_methodNamed B.named
  have hlocks := B.notSynchronized
  have hT := hE.1
  have hN := hE.2.2.2.2.2.2.2.1
  have hS : va_S (fun q => b ≤ q) s.heap s.heap [] := va_S.rf
  have hl := lv_entry ([.ref o]) (n := 3) (Nat.le_of_ble_eq_true rfl)
  rw [lg_entry_eq]
  generalize (lg_sl ([.ref o]) ++ List.replicate (3 - (lg_sl ([.ref o])).length) Slot.unset).toArray = ls at hl ⊢
  have hl : lv_has ls 3 [(0, .ref o)] := hl
  generalize ([.ref o] : List Value).toArray = args at hts ⊢
  refine W.q (fun Q hQ => ?_)
  refine lv_iconst (v := 0) hx hb dX1_placesAsPlanned_0 (by decide) ?_
  refine lv_istore_n (lv' := [(1, .int 0), (0, .ref o)]) hx hb dX1_placesAsPlanned_1 rfl hl (by decide) rfl (fun ls hl => ?_)
  refine lv_iconst (v := 0) hx hb dX1_placesAsPlanned_2 (by decide) ?_
  refine lv_istore_n (lv' := [(2, .int 0), (1, .int 0), (0, .ref o)]) hx hb dX1_placesAsPlanned_3 rfl hl (by decide) rfl (fun ls hl => ?_)
  have lp3 : ∀ (n4 j1 : Nat) (x2 : Int32), 0 ≤ j1 → j1 ≤ 48 → 48 < j1 + n4 → ∀ (H : Heap) (locs : List Loc) (ls : Array Slot), TM (dC, dI) kA b g H → va_S (fun q => b ≤ q) s.heap H locs → lv_has ls 3 [(2, .int (nI j1)), (1, .int x2), (0, .ref o)] → W p l e (headSpec wsX1_placesAsPlanned ({ frames := 0, cells := 0, slots := 0, locals := 0 })).room s m args below meth c H locs 0 0 Q (F0 m 4 ls []) := by
    intro n4
    induction n4 with
    | zero => intro j1 x2 h0 h1 h2; omega
    | succ n4 ih5 =>
      intro j1 x2 lj1 hj1 hn4 H locs ls hM hS hl
      refine lv_iload_n hx hb dX1_placesAsPlanned_4 rfl (lv_at hl 0 rfl) ?_
      refine lv_bipush (v := 48) hx hb dX1_placesAsPlanned_5 (by decide) ?_
      refine lv_icmp_ge (tgt := 49) hx hb dX1_placesAsPlanned_7 (by decide) (fun c6 => ?_) (fun c6 => ?_)
      · skip
        have k7 : 48 ≤ j1 := (nI_leI (a := 48) (b := j1) (by omega) (by omega)).mp c6
        refine lv_iload_n hx hb dX1_placesAsPlanned_49 rfl (lv_at hl 1 rfl) ?_
        subst hQ
        refine W.widen (k := 0) (n := 0) (Nat.le_of_ble_eq_true rfl) (Nat.le_of_ble_eq_true rfl) ?_
        exact W.iret (v := x2) hx hb hr (fun t ht hW => ⟨⟨x2, (), rfl, trivial, CX.give hb0 hM hK hG hE hS ht hW⟩, hS.F ht⟩) hS.2.2 dX1_placesAsPlanned_50
      · skip
        have k8 : ¬ (48 ≤ j1) := fun z => c6 ((nI_leI (a := 48) (b := j1) (by omega) (by omega)).mpr z)
        refine lv_iload_n hx hb dX1_placesAsPlanned_10 rfl (lv_at hl 1 rfl) ?_
        refine lv_aload_n hx hb dX1_placesAsPlanned_11 rfl (lv_at hl 2 rfl) ?_
        obtain ⟨u9, u10, u11, u12, u13, u14, hP, hf⟩ := o_st (i := i) (q := o) hM (by omega)
        refine va_get (D := (dC, dI)) (ci := 5) (v := .ref (pF g o 5)) (C := RX1) (T := TX1) (N := 15) hx hb hts (by decide +kernel) hown hK hP 0 rfl rfl 5 (by decide) (hts (.fieldLink RX1 29 "Snowpalace$Site" "planned" "[Z") (by decide +kernel)) (fun _ h9 => h9) rfl dX1_placesAsPlanned_12 ?_
        have ht15 : tg g (pF g o 5) = 16 + 64 * i := hf.2.2.2.2.2.1
        refine lv_iload_n hx hb dX1_placesAsPlanned_15 rfl (lv_at hl 0 rfl) ?_
        obtain ⟨hP, hf⟩ := o_pl (i := i) (q := (pF g o 5)) hM (by omega)
        refine va_zald (D := (dC, dI)) hx hb hK hP 0 1 rfl rfl (vp_in_nI (by omega) (by decide)) dX1_placesAsPlanned_16 ?_
        refine lv_topi (fun v16 e17 => ?_)
        have ec : ((nI j1) : Int32).toNatClampNeg = j1 := nI_clamp (by omega)
        rw [ec] at e17
        subst e17
        have hu18 := hf j1 (by omega)
        refine lv_aload_n hx hb dX1_placesAsPlanned_17 rfl (lv_at hl 2 rfl) ?_
        obtain ⟨u19, u20, u21, u22, u23, u24, hP, hf⟩ := o_st (i := i) (q := o) hM (by omega)
        refine va_get (D := (dC, dI)) (ci := 5) (v := .ref (pF g o 0)) (C := RX1) (T := TX1) (N := 15) hx hb hts (by decide +kernel) hown hK hP 0 rfl rfl 0 (by decide) (hts (.fieldLink RX1 9 "Snowpalace$Site" "kinds" "[C") (by decide +kernel)) (fun _ h9 => h9) rfl dX1_placesAsPlanned_18 ?_
        have ht25 : tg g (pF g o 0) = 13 := hf.1
        refine lv_iload_n hx hb dX1_placesAsPlanned_21 rfl (lv_at hl 0 rfl) ?_
        obtain ⟨u26, hP, hf⟩ := o_kn (i := 0) (q := (pF g o 0)) hM (by omega)
        refine va_cald (D := (dC, dI)) hx hb hK hP 0 2 rfl rfl (vp_in_nI (by omega) (by decide)) dX1_placesAsPlanned_22 ?_
        refine lv_topi (fun v27 e28 => ?_)
        have ec : ((nI j1) : Int32).toNatClampNeg = j1 := nI_clamp (by omega)
        rw [ec] at e28
        have hu29 := hf j1 (by omega)
        rw [← e28] at hu29
        refine lv_bipush (v := 46) hx hb dX1_placesAsPlanned_23 (by decide) ?_
        have jn31 : ∀ (x30 : Int32) (H : Heap) (locs : List Loc) (ls : Array Slot), (x30 = 0 ∨ x30 = 1) → TM (dC, dI) kA b g H → va_S (fun q => b ≤ q) s.heap H locs → lv_has ls 3 [(2, .int (nI j1)), (1, .int x2), (0, .ref o)] → W p l e (headSpec wsX1_placesAsPlanned ({ frames := 0, cells := 0, slots := 0, locals := 0 })).room s m args below meth c H locs 0 0 Q (F0 m 33 ls [.int x30, .int (pI g (pF g o 5) j1), .int x2]) := by
          intro x30 H locs ls hj32 hM hS hl
          have jn34 : ∀ (x33 : Int32) (H : Heap) (locs : List Loc) (ls : Array Slot), (x33 = 0 ∨ x33 = 1) → TM (dC, dI) kA b g H → va_S (fun q => b ≤ q) s.heap H locs → lv_has ls 3 [(2, .int (nI j1)), (1, .int x2), (0, .ref o)] → W p l e (headSpec wsX1_placesAsPlanned ({ frames := 0, cells := 0, slots := 0, locals := 0 })).room s m args below meth c H locs 0 0 Q (F0 m 41 ls [.int x33, .int x2]) := by
            intro x33 H locs ls hj35 hM hS hl
            refine lv_iadd hx hb dX1_placesAsPlanned_41 ?_
            refine lv_topi (fun v36 e37 => ?_)
            refine lv_istore_n (lv' := [(1, .int v36), (2, .int (nI j1)), (0, .ref o)]) hx hb dX1_placesAsPlanned_42 rfl hl (by decide) rfl (fun ls hl => ?_)
            refine lv_iinc (v := (nI (j1 + 1))) (lv' := [(2, .int (nI (j1 + 1))), (1, .int v36), (0, .ref o)]) hx hb dX1_placesAsPlanned_43 hl (k := 1) rfl (nI_add j1 1) (by decide) rfl (fun ls hl => ?_)
            refine lv_goto (tgt := 4) hx hb dX1_placesAsPlanned_46 (by decide) ?_
            exact ih5 ((j1 + 1)) v36 (by omega) (by omega) (by omega) H _ ls  hM hS (lv_sub hl [0, 1, 2] rfl)
          refine lv_icmp_ne (tgt := 40) hx hb dX1_placesAsPlanned_33 (by decide) (fun c38 => ?_) (fun c38 => ?_)
          · skip
            refine lv_iconst (v := 0) hx hb dX1_placesAsPlanned_40 (by decide) ?_
            exact jn34 0 H _ ls (Or.inl rfl) hM hS (lv_sub hl [0, 1, 2] rfl)
          · skip
            refine lv_iconst (v := 1) hx hb dX1_placesAsPlanned_36 (by decide) ?_
            refine lv_goto (tgt := 41) hx hb dX1_placesAsPlanned_37 (by decide) ?_
            exact jn34 1 H _ ls (Or.inr rfl) hM hS (lv_sub hl [0, 1, 2] rfl)
        refine lv_icmp_eq (tgt := 32) hx hb dX1_placesAsPlanned_25 (by decide) (fun c39 => ?_) (fun c39 => ?_)
        · skip
          refine lv_iconst (v := 0) hx hb dX1_placesAsPlanned_32 (by decide) ?_
          exact jn31 0 H _ ls (Or.inl rfl) hM hS (lv_sub hl [0, 1, 2] rfl)
        · skip
          refine lv_iconst (v := 1) hx hb dX1_placesAsPlanned_28 (by decide) ?_
          refine lv_goto (tgt := 33) hx hb dX1_placesAsPlanned_29 (by decide) ?_
          exact jn31 1 H _ ls (Or.inr rfl) hM hS (lv_sub hl [0, 1, 2] rfl)
  exact lp3 (48 + 1) 0 0 (by omega) (by omega) (by omega) s.heap _ ls  hM hS (lv_sub hl [0, 1, 2] rfl)

set_option maxHeartbeats 4000000 in
set_option maxRecDepth 100000 in
theorem rk_cellCount (l : Launch) (dC : Nat → ClassId) (dI : Nat → Nat → Nat) (kA : Nat → ClassId) (eD b : Nat) (g : Gh) (o : Nat) (i : Nat) (hto : tg g o = 12 + 64 * i)  : Met l yX1_cellCount wsX1_cellCount ({ frames := 0, cells := 0, slots := 0, locals := 0 }) (va_Pc [.ref o] (CX (dC, dI) kA eD b g)) (va_Qi (fun (r : Int32) (u : Unit) => ∃ q, q ≤ 48 ∧ r = nI q) (fun (u : Unit) t => CX (dC, dI) kA eD b g t) (fun q => b ≤ q)) 0 0 (fun q => b ≤ q) := by
  refine Met.ofW (cc := cX1_cellCount) (maxL := 3) (ret := (some .int)) (by decide +kernel) rfl ?_
  intro p e s m args below meth c s₁ B hml hv
  obtain ⟨rfl, hb0, hM, hK, hG, hE⟩ := hv
  have hx := B.exec
  have hb := B.bytes
  have hr := B.returns
  have hts := atoms_spec (ws := wsX1_cellCount) B.pre
  have hown : s.vm.findClass RX1 = some m.cls := findClass_of_methodNamed B.named
  have hlocks := B.notSynchronized
  have hT := hE.1
  have hN := hE.2.2.2.2.2.2.2.1
  have hS : va_S (fun q => b ≤ q) s.heap s.heap [] := va_S.rf
  have hl := lv_entry ([.ref o]) (n := 3) (Nat.le_of_ble_eq_true rfl)
  rw [lg_entry_eq]
  generalize (lg_sl ([.ref o]) ++ List.replicate (3 - (lg_sl ([.ref o])).length) Slot.unset).toArray = ls at hl ⊢
  have hl : lv_has ls 3 [(0, .ref o)] := hl
  generalize ([.ref o] : List Value).toArray = args at hts ⊢
  refine W.q (fun Q hQ => ?_)
  refine lv_iconst (v := 0) hx hb dX1_cellCount_0 (by decide) ?_
  refine lv_istore_n (lv' := [(1, .int 0), (0, .ref o)]) hx hb dX1_cellCount_1 rfl hl (by decide) rfl (fun ls hl => ?_)
  refine lv_iconst (v := 0) hx hb dX1_cellCount_2 (by decide) ?_
  refine lv_istore_n (lv' := [(2, .int 0), (1, .int 0), (0, .ref o)]) hx hb dX1_cellCount_3 rfl hl (by decide) rfl (fun ls hl => ?_)
  have lp3 : ∀ (n4 j1 : Nat) (q2 : Nat), 0 ≤ j1 → j1 ≤ 48 → 48 < j1 + n4 → ∀ (H : Heap) (locs : List Loc) (ls : Array Slot), q2 ≤ j1 → TM (dC, dI) kA b g H → va_S (fun q => b ≤ q) s.heap H locs → lv_has ls 3 [(2, .int (nI j1)), (1, .int (nI q2)), (0, .ref o)] → W p l e (headSpec wsX1_cellCount ({ frames := 0, cells := 0, slots := 0, locals := 0 })).room s m args below meth c H locs 0 0 Q (F0 m 4 ls []) := by
    intro n4
    induction n4 with
    | zero => intro j1 q2 h0 h1 h2; omega
    | succ n4 ih5 =>
      intro j1 q2 lj1 hj1 hn4 H locs ls hf6 hM hS hl
      refine lv_iload_n hx hb dX1_cellCount_4 rfl (lv_at hl 0 rfl) ?_
      refine lv_bipush (v := 48) hx hb dX1_cellCount_5 (by decide) ?_
      refine lv_icmp_ge (tgt := 35) hx hb dX1_cellCount_7 (by decide) (fun c7 => ?_) (fun c7 => ?_)
      · skip
        have k8 : 48 ≤ j1 := (nI_leI (a := 48) (b := j1) (by omega) (by omega)).mp c7
        refine lv_iload_n hx hb dX1_cellCount_35 rfl (lv_at hl 1 rfl) ?_
        subst hQ
        refine W.widen (k := 0) (n := 0) (Nat.le_of_ble_eq_true rfl) (Nat.le_of_ble_eq_true rfl) ?_
        exact W.iret (v := (nI q2)) hx hb hr (fun t ht hW => ⟨⟨(nI q2), (), rfl, ⟨q2, by omega, rfl⟩, CX.give hb0 hM hK hG hE hS ht hW⟩, hS.F ht⟩) hS.2.2 dX1_cellCount_36
      · skip
        have k9 : ¬ (48 ≤ j1) := fun z => c7 ((nI_leI (a := 48) (b := j1) (by omega) (by omega)).mpr z)
        refine lv_iload_n hx hb dX1_cellCount_10 rfl (lv_at hl 1 rfl) ?_
        refine lv_aload_n hx hb dX1_cellCount_11 rfl (lv_at hl 2 rfl) ?_
        obtain ⟨u10, u11, u12, u13, u14, u15, hP, hf⟩ := o_st (i := i) (q := o) hM (by omega)
        refine va_get (D := (dC, dI)) (ci := 5) (v := .ref (pF g o 0)) (C := RX1) (T := TX1) (N := 15) hx hb hts (by decide +kernel) hown hK hP 0 rfl rfl 0 (by decide) (hts (.fieldLink RX1 9 "Snowpalace$Site" "kinds" "[C") (by decide +kernel)) (fun _ h9 => h9) rfl dX1_cellCount_12 ?_
        have ht16 : tg g (pF g o 0) = 13 := hf.1
        refine lv_iload_n hx hb dX1_cellCount_15 rfl (lv_at hl 0 rfl) ?_
        obtain ⟨u17, hP, hf⟩ := o_kn (i := 0) (q := (pF g o 0)) hM (by omega)
        refine va_cald (D := (dC, dI)) hx hb hK hP 0 2 rfl rfl (vp_in_nI (by omega) (by decide)) dX1_cellCount_16 ?_
        refine lv_topi (fun v18 e19 => ?_)
        have ec : ((nI j1) : Int32).toNatClampNeg = j1 := nI_clamp (by omega)
        rw [ec] at e19
        have hu20 := hf j1 (by omega)
        rw [← e19] at hu20
        refine lv_bipush (v := 46) hx hb dX1_cellCount_17 (by decide) ?_
        refine lv_icmp_eq (tgt := 26) hx hb dX1_cellCount_19 (by decide) (fun c21 => ?_) (fun c21 => ?_)
        · skip
          refine lv_iconst (v := 0) hx hb dX1_cellCount_26 (by decide) ?_
          refine lv_iadd hx hb dX1_cellCount_27 ?_
          refine lv_topi (fun v22 e23 => ?_)
          obtain rfl : v22 = nI (q2 + 0) := e23.trans (nI_add q2 0)
          refine lv_istore_n (lv' := [(1, .int (nI (q2 + 0))), (2, .int (nI j1)), (0, .ref o)]) hx hb dX1_cellCount_28 rfl hl (by decide) rfl (fun ls hl => ?_)
          refine lv_iinc (v := (nI (j1 + 1))) (lv' := [(2, .int (nI (j1 + 1))), (1, .int (nI (q2 + 0))), (0, .ref o)]) hx hb dX1_cellCount_29 hl (k := 1) rfl (nI_add j1 1) (by decide) rfl (fun ls hl => ?_)
          refine lv_goto (tgt := 4) hx hb dX1_cellCount_32 (by decide) ?_
          exact ih5 ((j1 + 1)) (q2 + 0) (by omega) (by omega) (by omega) H _ ls (by omega) hM hS (lv_sub hl [0, 1, 2] rfl)
        · skip
          refine lv_iconst (v := 1) hx hb dX1_cellCount_22 (by decide) ?_
          refine lv_goto (tgt := 27) hx hb dX1_cellCount_23 (by decide) ?_
          refine lv_iadd hx hb dX1_cellCount_27 ?_
          refine lv_topi (fun v24 e25 => ?_)
          obtain rfl : v24 = nI (q2 + 1) := e25.trans (nI_add q2 1)
          refine lv_istore_n (lv' := [(1, .int (nI (q2 + 1))), (2, .int (nI j1)), (0, .ref o)]) hx hb dX1_cellCount_28 rfl hl (by decide) rfl (fun ls hl => ?_)
          refine lv_iinc (v := (nI (j1 + 1))) (lv' := [(2, .int (nI (j1 + 1))), (1, .int (nI (q2 + 1))), (0, .ref o)]) hx hb dX1_cellCount_29 hl (k := 1) rfl (nI_add j1 1) (by decide) rfl (fun ls hl => ?_)
          refine lv_goto (tgt := 4) hx hb dX1_cellCount_32 (by decide) ?_
          exact ih5 ((j1 + 1)) (q2 + 1) (by omega) (by omega) (by omega) H _ ls (by omega) hM hS (lv_sub hl [0, 1, 2] rfl)
  exact lp3 (48 + 1) 0 0 (by omega) (by omega) (by omega) s.heap _ ls (by omega) hM hS (lv_sub hl [0, 1, 2] rfl)

set_option maxHeartbeats 4000000 in
set_option maxRecDepth 100000 in
theorem rk_strengthOf (l : Launch) (dC : Nat → ClassId) (dI : Nat → Nat → Nat) (kA : Nat → ClassId) (eD b : Nat) (g : Gh) (o : Nat) (i : Nat) (pl wm : Int32) (hto : tg g o = 12 + 64 * i)  : Met l yX1_strengthOf wsX1_strengthOf ({ frames := 1, cells := 0, slots := 0, locals := 21 }) (va_Pc [.ref o, .int pl, .int wm] (CX (dC, dI) kA eD b g)) (va_Qi (fun (r : Int32) (u : Unit) => True) (fun (u : Unit) t => CX (dC, dI) kA eD b g t) (fun q => b ≤ q)) 0 0 (fun q => b ≤ q) := by
  refine Met.ofW (cc := cX1_strengthOf) (maxL := 4) (ret := (some .int)) (by decide +kernel) rfl ?_
  intro p e s m args below meth c s₁ B hml hv
  obtain ⟨rfl, hb0, hM, hK, hG, hE⟩ := hv
  have hx := B.exec
  have hb := B.bytes
  have hr := B.returns
  have hts := atoms_spec (ws := wsX1_strengthOf) B.pre
  have hown : s.vm.findClass RX1 = some m.cls := findClass_of_methodNamed B.named
  have hlocks := B.notSynchronized
  have hT := hE.1
  have hN := hE.2.2.2.2.2.2.2.1
  have hS : va_S (fun q => b ≤ q) s.heap s.heap [] := va_S.rf
  have hl := lv_entry ([.ref o, .int pl, .int wm]) (n := 4) (Nat.le_of_ble_eq_true rfl)
  rw [lg_entry_eq]
  generalize (lg_sl ([.ref o, .int pl, .int wm]) ++ List.replicate (4 - (lg_sl ([.ref o, .int pl, .int wm])).length) Slot.unset).toArray = ls at hl ⊢
  have hl : lv_has ls 4 [(0, .ref o), (1, .int pl), (2, .int wm)] := hl
  generalize ([.ref o, .int pl, .int wm] : List Value).toArray = args at hts ⊢
  refine W.q (fun Q hQ => ?_)
  refine lv_aload_n hx hb dX1_strengthOf_0 rfl (lv_at hl 0 rfl) ?_
  refine lv_iload_n hx hb dX1_strengthOf_1 rfl (lv_at hl 1 rfl) ?_
  obtain ⟨u1, u2, u3, u4, u5, u6, hP, hf⟩ := o_st (i := i) (q := o) hM (by omega)
  refine va_calli (va_runV (As := [.int pl]) (rest := []) ⟨hx, hb, hml, hown, hts⟩ (rk_has l dC dI kA eD b g o i pl (by omega)) (cwV 1 hts gX1_strengthOf_X1_has rfl rfl rfl (by decide +kernel) ⟨Nat.le_of_ble_eq_true rfl, Nat.le_of_ble_eq_true rfl⟩) ⟨fb_CX, va_recv hK hP (ci := 5) (q0 := 0) rfl rfl, fun U hU hW => ⟨rfl, CX.give hb0 hM hK hG hE hS hU hW⟩⟩ rfl rfl hl.1 rfl (lv_room (Nat.le_of_ble_eq_true rfl)) dX1_strengthOf_2 ⟨(Nat.le_of_ble_eq_true rfl), (Nat.le_of_ble_eq_true rfl)⟩) hS (fun q _ h => h) (fun q h => h) (fun r7 u t H locs ht hvm hw8 hB hz1 hk1 hS => ?_)
  have hM := hB.back ht
  have hG := hB.2.2.2.1
  refine lv_if_ne (tgt := 10) hx hb dX1_strengthOf_5 (by decide) (fun c9 => ?_) (fun c9 => ?_)
  · skip
    obtain ⟨-, hr1, hr2⟩ := hw8.resolve_left c9
    refine lv_aload_n hx hb dX1_strengthOf_10 rfl (lv_at hl 0 rfl) ?_
    obtain ⟨u10, u11, u12, u13, u14, u15, hP, hf⟩ := o_st (i := i) (q := o) hM (by omega)
    refine va_get (D := (dC, dI)) (ci := 5) (v := .ref (pF g o 0)) (C := RX1) (T := TX1) (N := 15) hx hb hts (by decide +kernel) hown hK hP 0 rfl rfl 0 (by decide) (hts (.fieldLink RX1 9 "Snowpalace$Site" "kinds" "[C") (by decide +kernel)) (fun _ h9 => h9) rfl dX1_strengthOf_11 ?_
    have ht16 : tg g (pF g o 0) = 13 := hf.1
    refine lv_iload_n hx hb dX1_strengthOf_14 rfl (lv_at hl 1 rfl) ?_
    obtain ⟨u17, hP, hf⟩ := o_kn (i := 0) (q := (pF g o 0)) hM (by omega)
    refine va_cald (D := (dC, dI)) hx hb hK hP 0 2 rfl rfl (inI (by omega) (by omega)) dX1_strengthOf_15 ?_
    refine lv_topi (fun v18 e19 => ?_)
    have hu20 := hf ((pl : Int32).toNatClampNeg) (clI (inI (by omega) (by omega)))
    rw [← e19] at hu20
    refine va_calli (va_runS (As := [.int v18]) (rest := []) ⟨hx, hb, hml, hown, hts⟩ (rk_strengthOfKind l v18) (va_cwS 1 hts gX1_strengthOf_X1_strengthOfKind rfl rfl rfl (by decide +kernel) ⟨Nat.le_of_ble_eq_true rfl, Nat.le_of_ble_eq_true rfl⟩) ⟨fun a U g mk q => q, fun U hU hW => ⟨rfl, trivial⟩⟩ rfl rfl hl.1 rfl (lv_room (Nat.le_of_ble_eq_true rfl)) dX1_strengthOf_16 ⟨(Nat.le_of_ble_eq_true rfl), (Nat.le_of_ble_eq_true rfl)⟩) hS (fun q _ h => h.elim) (fun q h => h.elim) (fun r21 u t H locs ht hvm hw22 hB hz1 hk1 hS => ?_)
    have hM := hM.keep (fun p hp => hk1 p hp (fun z => z))
    refine lv_bipush (v := 10) hx hb dX1_strengthOf_19 (by decide) ?_
    refine lv_bipush (v := 48) hx hb dX1_strengthOf_21 (by decide) ?_
    refine lv_aload_n hx hb dX1_strengthOf_23 rfl (lv_at hl 0 rfl) ?_
    obtain ⟨u23, u24, u25, u26, u27, u28, hP, hf⟩ := o_st (i := i) (q := o) hM (by omega)
    refine va_get (D := (dC, dI)) (ci := 5) (v := .ref (pF g o 3)) (C := RX1) (T := TX1) (N := 15) hx hb hts (by decide +kernel) hown hK hP 0 rfl rfl 3 (by decide) (hts (.fieldLink RX1 22 "Snowpalace$Site" "ages" "[I") (by decide +kernel)) (fun _ h9 => h9) rfl dX1_strengthOf_24 ?_
    have ht29 : tg g (pF g o 3) = 14 := hf.2.2.2.1
    refine lv_iload_n hx hb dX1_strengthOf_27 rfl (lv_at hl 1 rfl) ?_
    obtain ⟨u30, hP, hf⟩ := o_in (i := 0) (q := (pF g o 3)) hM (by omega)
    refine va_iald (D := (dC, dI)) hx hb hK hP 0 0 rfl rfl (inI (by omega) (by omega)) dX1_strengthOf_28 ?_
    refine lv_topi (fun v31 e32 => ?_)
    refine va_mmin hx hb (hml.trans hl.1.symm) hown (hts (.methodLink RX1 87 Lib.Math.min.name) (by decide +kernel)) (hts (.static Lib.Math.min.name) (by decide +kernel)) (hts (.initialized "java/lang/Math") (by decide +kernel)) (hts (.code Lib.Math.min.name Lib.Math.min.code 2 (some .int)) (by decide +kernel)) (Nat.le_of_ble_eq_true rfl) (Nat.le_of_ble_eq_true rfl) (Nat.le_of_ble_eq_true rfl) (Nat.le_of_ble_eq_true rfl) dX1_strengthOf_29 ?_
    refine lv_topi (fun v33 e34 => ?_)
    refine lv_imul hx hb dX1_strengthOf_32 ?_
    refine lv_topi (fun v35 e36 => ?_)
    refine lv_iadd hx hb dX1_strengthOf_33 ?_
    refine lv_topi (fun v37 e38 => ?_)
    refine lv_istore_n (lv' := [(3, .int v37), (0, .ref o), (1, .int pl), (2, .int wm)]) hx hb dX1_strengthOf_34 rfl hl (by decide) rfl (fun ls hl => ?_)
    refine lv_iload_n hx hb dX1_strengthOf_35 rfl (lv_at hl 0 rfl) ?_
    refine lv_aload_n hx hb dX1_strengthOf_36 rfl (lv_at hl 1 rfl) ?_
    obtain ⟨u39, u40, u41, u42, u43, u44, hP, hf⟩ := o_st (i := i) (q := o) hM (by omega)
    refine va_get (D := (dC, dI)) (ci := 5) (v := .ref (pF g o 4)) (C := RX1) (T := TX1) (N := 15) hx hb hts (by decide +kernel) hown hK hP 0 rfl rfl 4 (by decide) (hts (.fieldLink RX1 25 "Snowpalace$Site" "lamps" "[Z") (by decide +kernel)) (fun _ h9 => h9) rfl dX1_strengthOf_37 ?_
    have ht45 : tg g (pF g o 4) = 15 := hf.2.2.2.2.1
    refine lv_iload_n hx hb dX1_strengthOf_40 rfl (lv_at hl 2 rfl) ?_
    obtain ⟨u46, hP, hf⟩ := o_bo (i := 0) (q := (pF g o 4)) hM (by omega)
    refine va_zald (D := (dC, dI)) hx hb hK hP 0 1 rfl rfl (inI (by omega) (by omega)) dX1_strengthOf_41 ?_
    refine lv_topi (fun v47 e48 => ?_)
    have hu49 := hf ((pl : Int32).toNatClampNeg) (clI (inI (by omega) (by omega)))
    rw [← e48] at hu49
    have jn51 : ∀ (x50 : Int32) (H : Heap) (locs : List Loc) (ls : Array Slot), TM (dC, dI) kA b g H → va_S (fun q => b ≤ q) s.heap H locs → lv_has ls 4 [(3, .int v37), (0, .ref o), (1, .int pl), (2, .int wm)] → W p l e (headSpec wsX1_strengthOf ({ frames := 1, cells := 0, slots := 0, locals := 21 })).room s m args below meth c H locs 0 0 Q (F0 m 52 ls [.int x50, .int v37]) := by
      intro x50 H locs ls hM hS hl
      refine lv_isub hx hb dX1_strengthOf_52 ?_
      refine lv_topi (fun v52 e53 => ?_)
      refine lv_istore_n (lv' := [(3, .int v52), (0, .ref o), (1, .int pl), (2, .int wm)]) hx hb dX1_strengthOf_53 rfl hl (by decide) rfl (fun ls hl => ?_)
      refine lv_iload_n hx hb dX1_strengthOf_54 rfl (lv_at hl 0 rfl) ?_
      refine lv_bipush (v := 10) hx hb dX1_strengthOf_55 (by decide) ?_
      refine lv_iconst (v := 0) hx hb dX1_strengthOf_57 (by decide) ?_
      refine lv_iload_n hx hb dX1_strengthOf_58 rfl (lv_at hl 3 rfl) ?_
      refine lv_bipush (v := (-50)) hx hb dX1_strengthOf_59 (by decide) ?_
      refine lv_isub hx hb dX1_strengthOf_61 ?_
      refine lv_topi (fun v54 e55 => ?_)
      refine va_mmax hx hb (hml.trans hl.1.symm) hown (hts (.methodLink RX1 93 Lib.Math.max.name) (by decide +kernel)) (hts (.static Lib.Math.max.name) (by decide +kernel)) (hts (.initialized "java/lang/Math") (by decide +kernel)) (hts (.code Lib.Math.max.name Lib.Math.max.code 2 (some .int)) (by decide +kernel)) (Nat.le_of_ble_eq_true rfl) (Nat.le_of_ble_eq_true rfl) (Nat.le_of_ble_eq_true rfl) (Nat.le_of_ble_eq_true rfl) dX1_strengthOf_62 ?_
      refine lv_topi (fun v56 e57 => ?_)
      refine lv_imul hx hb dX1_strengthOf_65 ?_
      refine lv_topi (fun v58 e59 => ?_)
      refine lv_isub hx hb dX1_strengthOf_66 ?_
      refine lv_topi (fun v60 e61 => ?_)
      refine lv_istore_n (lv' := [(3, .int v60), (0, .ref o), (1, .int pl), (2, .int wm)]) hx hb dX1_strengthOf_67 rfl hl (by decide) rfl (fun ls hl => ?_)
      refine lv_iconst (v := 0) hx hb dX1_strengthOf_68 (by decide) ?_
      refine lv_iload_n hx hb dX1_strengthOf_69 rfl (lv_at hl 0 rfl) ?_
      refine va_mmax hx hb (hml.trans hl.1.symm) hown (hts (.methodLink RX1 93 Lib.Math.max.name) (by decide +kernel)) (hts (.static Lib.Math.max.name) (by decide +kernel)) (hts (.initialized "java/lang/Math") (by decide +kernel)) (hts (.code Lib.Math.max.name Lib.Math.max.code 2 (some .int)) (by decide +kernel)) (Nat.le_of_ble_eq_true rfl) (Nat.le_of_ble_eq_true rfl) (Nat.le_of_ble_eq_true rfl) (Nat.le_of_ble_eq_true rfl) dX1_strengthOf_70 ?_
      refine lv_topi (fun v62 e63 => ?_)
      subst hQ
      refine W.widen (k := 0) (n := 0) (Nat.le_of_ble_eq_true rfl) (Nat.le_of_ble_eq_true rfl) ?_
      exact W.iret (v := v62) hx hb hr (fun t ht hW => ⟨⟨v62, (), rfl, trivial, CX.give hb0 hM hK hG hE hS ht hW⟩, hS.F ht⟩) hS.2.2 dX1_strengthOf_73
    refine lv_if_eq (tgt := 51) hx hb dX1_strengthOf_42 (by decide) (fun c64 => ?_) (fun c64 => ?_)
    · skip
      refine lv_iconst (v := 0) hx hb dX1_strengthOf_51 (by decide) ?_
      exact jn51 0 H _ ls hM hS (lv_sub hl [0, 1, 2, 3] rfl)
    · skip
      refine lv_sipush (v := 500) hx hb dX1_strengthOf_45 (by decide) ?_
      refine lv_goto (tgt := 52) hx hb dX1_strengthOf_48 (by decide) ?_
      exact jn51 500 H _ ls hM hS (lv_sub hl [0, 1, 2, 3] rfl)
  · skip
    refine lv_iconst (v := 0) hx hb dX1_strengthOf_8 (by decide) ?_
    subst hQ
    refine W.widen (k := 0) (n := 0) (Nat.le_of_ble_eq_true rfl) (Nat.le_of_ble_eq_true rfl) ?_
    exact W.iret (v := 0) hx hb hr (fun t ht hW => ⟨⟨0, (), rfl, trivial, CX.give hb0 hM hK hG hE hS ht hW⟩, hS.F ht⟩) hS.2.2 dX1_strengthOf_9
