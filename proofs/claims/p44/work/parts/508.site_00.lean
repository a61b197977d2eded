set_option maxHeartbeats 4000000 in
set_option maxRecDepth 100000 in
theorem rk_has (l : Launch) (dC : Nat → ClassId) (dI : Nat → Nat → Nat) (kA : Nat → ClassId) (eD b : Nat) (g : Gh) (o : Nat) (i : Nat) (pl : Int32) (hto : tg g o = 12 + 64 * i)  : Met l yX1_has wsX1_has ({ frames := 0, cells := 0, slots := 0, locals := 0 }) (va_Pc [.ref o, .int pl] (CX (dC, dI) kA eD b g)) (va_Qi (fun (r : Int32) (u : Unit) => (r = 0 ∧ ∀ j, pl = nI j → j < 48 → (pI g (pF g o 0)) j = 46) ∨ (r = 1 ∧ ∃ j, pl = nI j ∧ j < 48 ∧ ¬ (pI g (pF g o 0)) j = 46)) (fun (u : Unit) t => CX (dC, dI) kA eD b g t) (fun _ => False)) 0 0 (fun _ => False) := by
  refine Met.ofW (cc := cX1_has) (maxL := 2) (ret := (some .boolean)) (by decide +kernel) rfl ?_
  intro p e s m args below meth c s₁ B hml hv
  obtain ⟨rfl, hb0, hM, hK, hG, hE⟩ := hv
  have hx := B.exec
  have hb := B.bytes
  have hr := B.returns
  have hts := atoms_spec (ws := wsX1_has) B.pre
  have hown : s.vm.findClass RX1 = some m.cls := findClass_of_methodNamed B.named
  have hlocks := B.notSynchronized
  have hT := hE.1
  have hN := hE.2.2.2.2.2.2.2.1
  have hS : va_S (fun _ => False) s.heap s.heap [] := va_S.rf
  have hl := lv_entry ([.ref o, .int pl]) (n := 2) (Nat.le_of_ble_eq_true rfl)
  rw [lg_entry_eq]
  generalize (lg_sl ([.ref o, .int pl]) ++ List.replicate (2 - (lg_sl ([.ref o, .int pl])).length) Slot.unset).toArray = ls at hl ⊢
  have hl : lv_has ls 2 [(0, .ref o), (1, .int pl)] := hl
  generalize ([.ref o, .int pl] : List Value).toArray = args at hts ⊢
  refine lv_iload_n hx hb dX1_has_0 rfl (lv_at hl 1 rfl) ?_
  refine lv_if_lt (tgt := 25) hx hb dX1_has_1 (by decide) (fun c1 => ?_) (fun c1 => ?_)
  · skip
    have i2 := (Int32.lt_iff_toInt_lt).mp c1
    have ii2 : (0 : Int32).toInt = 0 := by decide
    have i2 := i2
    refine lv_iconst (v := 0) hx hb dX1_has_25 (by decide) ?_
    refine W.widen (k := 0) (n := 0) (Nat.le_of_ble_eq_true rfl) (Nat.le_of_ble_eq_true rfl) ?_
    exact W.zret (v := 0) (ty := .boolean) hx hb hr rfl (fun t ht hW => ⟨⟨0, (), rfl, (Or.inl ⟨rfl, by first | exact (fun j9 e9 h9 => by have e8 : pl.toInt = ((j9 : Nat) : Int) := (by rw [e9]; exact nI_toInt (by omega)); exfalso; omega) | exact (fun j9 e9 h9 => by rw [← (nI_eq (a := j) (b := j9) (by omega) (by omega)).mp e9]; assumption)⟩), CX.give hb0 hM hK hG hE (roS hS) ht hW⟩, hS.F ht⟩) hS.2.2 dX1_has_26
  · skip
    have i3 := fun z => c1 ((Int32.lt_iff_toInt_lt).mpr z)
    have ii3 : (0 : Int32).toInt = 0 := by decide
    have i3 : ¬ ((pl : Int32).toInt < (0 : Int32).toInt) := i3
    refine lv_iload_n hx hb dX1_has_4 rfl (lv_at hl 1 rfl) ?_
    refine lv_bipush (v := 48) hx hb dX1_has_5 (by decide) ?_
    refine lv_icmp_ge (tgt := 25) hx hb dX1_has_7 (by decide) (fun c4 => ?_) (fun c4 => ?_)
    · skip
      have i5 := (Int32.le_iff_toInt_le).mp c4
      have ii5 : (48 : Int32).toInt = 48 := by decide
      have i5 := i5
      refine lv_iconst (v := 0) hx hb dX1_has_25 (by decide) ?_
      refine W.widen (k := 0) (n := 0) (Nat.le_of_ble_eq_true rfl) (Nat.le_of_ble_eq_true rfl) ?_
      exact W.zret (v := 0) (ty := .boolean) hx hb hr rfl (fun t ht hW => ⟨⟨0, (), rfl, (Or.inl ⟨rfl, by first | exact (fun j9 e9 h9 => by have e8 : pl.toInt = ((j9 : Nat) : Int) := (by rw [e9]; exact nI_toInt (by omega)); exfalso; omega) | exact (fun j9 e9 h9 => by rw [← (nI_eq (a := j) (b := j9) (by omega) (by omega)).mp e9]; assumption)⟩), CX.give hb0 hM hK hG hE (roS hS) ht hW⟩, hS.F ht⟩) hS.2.2 dX1_has_26
    · skip
      have i6 := fun z => c4 ((Int32.le_iff_toInt_le).mpr z)
      have ii6 : (48 : Int32).toInt = 48 := by decide
      have i6 : ¬ ((48 : Int32).toInt ≤ (pl : Int32).toInt) := i6
      obtain ⟨j, hj, rfl⟩ := toN (p := pl) (k := 47) (by omega) (by omega) (by decide)
      have hl : lv_has ls 2 [(0, .ref o), (1, .int (nI j))] := hl
      refine lv_aload_n hx hb dX1_has_10 rfl (lv_at hl 0 rfl) ?_
      obtain ⟨u7, u8, u9, u10, u11, u12, hP, hf⟩ := o_st (i := i) (q := o) hM (by omega)
      refine va_get (D := (dC, dI)) (ci := 5) (v := .ref (pF g o 0)) (C := RX1) (T := TX1) (N := 15) hx hb hts (by decide +kernel) hown hK hP 0 rfl rfl 0 (by decide) (hts (.fieldLink RX1 9 "Snowpalace$Site" "kinds" "[C") (by decide +kernel)) (fun _ h9 => h9) rfl dX1_has_11 ?_
      have ht13 : tg g (pF g o 0) = 13 + 64 * i := hf.1
      refine lv_iload_n hx hb dX1_has_14 rfl (lv_at hl 1 rfl) ?_
      obtain ⟨hP, hf⟩ := o_kn (i := i) (q := (pF g o 0)) hM (by omega)
      refine va_cald (D := (dC, dI)) hx hb hK hP 0 2 rfl rfl (vp_in_nI (by omega) (by decide)) dX1_has_15 ?_
      refine lv_topi (fun v14 e15 => ?_)
      have ec : ((nI j) : Int32).toNatClampNeg = j := nI_clamp (by omega)
      rw [ec] at e15
      subst e15
      have hu16 := hf j (by omega)
      refine lv_bipush (v := 46) hx hb dX1_has_16 (by decide) ?_
      refine lv_icmp_eq (tgt := 25) hx hb dX1_has_18 (by decide) (fun c17 => ?_) (fun c17 => ?_)
      · skip
        refine lv_iconst (v := 0) hx hb dX1_has_25 (by decide) ?_
        refine W.widen (k := 0) (n := 0) (Nat.le_of_ble_eq_true rfl) (Nat.le_of_ble_eq_true rfl) ?_
        exact W.zret (v := 0) (ty := .boolean) hx hb hr rfl (fun t ht hW => ⟨⟨0, (), rfl, (Or.inl ⟨rfl, by first | exact (fun j9 e9 h9 => by have e8 : pl.toInt = ((j9 : Nat) : Int) := (by rw [e9]; exact nI_toInt (by omega)); exfalso; omega) | exact (fun j9 e9 h9 => by rw [← (nI_eq (a := j) (b := j9) (by omega) (by omega)).mp e9]; assumption)⟩), CX.give hb0 hM hK hG hE (roS hS) ht hW⟩, hS.F ht⟩) hS.2.2 dX1_has_26
      · skip
        refine lv_iconst (v := 1) hx hb dX1_has_21 (by decide) ?_
        refine lv_goto (tgt := 26) hx hb dX1_has_22 (by decide) ?_
        refine W.widen (k := 0) (n := 0) (Nat.le_of_ble_eq_true rfl) (Nat.le_of_ble_eq_true rfl) ?_
        exact W.zret (v := 1) (ty := .boolean) hx hb hr rfl (fun t ht hW => ⟨⟨1, (), rfl, (Or.inr ⟨rfl, j, rfl, by omega, (by assumption)⟩), CX.give hb0 hM hK hG hE (roS hS) ht hW⟩, hS.F ht⟩) hS.2.2 dX1_has_26

set_option maxHeartbeats 4000000 in
set_option maxRecDepth 100000 in
theorem rk_rests (l : Launch) (dC : Nat → ClassId) (dI : Nat → Nat → Nat) (kA : Nat → ClassId) (eD b : Nat) (g : Gh) (o : Nat) (i j : Nat) (hto : tg g o = 12 + 64 * i) (hj : j < 48) : Met l yX1_rests wsX1_rests ({ frames := 0, cells := 0, slots := 0, locals := 0 }) (va_Pc [.ref o, .int (nI j)] (CX (dC, dI) kA eD b g)) (va_Qi (fun (r : Int32) (u : Unit) => (r = 0 ∧ ¬ RS (pI g (pF g o 0)) j) ∨ (r = 1 ∧ RS (pI g (pF g o 0)) j)) (fun (u : Unit) t => CX (dC, dI) kA eD b g t) (fun _ => False)) 0 0 (fun _ => False) := by
  refine Met.ofW (cc := cX1_rests) (maxL := 2) (ret := (some .boolean)) (by decide +kernel) rfl ?_
  intro p e s m args below meth c s₁ B hml hv
  obtain ⟨rfl, hb0, hM, hK, hG, hE⟩ := hv
  have hx := B.exec
  have hb := B.bytes
  have hr := B.returns
  have hts := atoms_spec (ws := wsX1_rests) B.pre
  have hown : s.vm.findClass RX1 = some m.cls := findClass_of_methodNamed B.named
  have hlocks := B.notSynchronized
  have hT := hE.1
  have hN := hE.2.2.2.2.2.2.2.1
  have hS : va_S (fun _ => False) s.heap s.heap [] := va_S.rf
  have hl := lv_entry ([.ref o, .int (nI j)]) (n := 2) (Nat.le_of_ble_eq_true rfl)
  rw [lg_entry_eq]
  generalize (lg_sl ([.ref o, .int (nI j)]) ++ List.replicate (2 - (lg_sl ([.ref o, .int (nI j)])).length) Slot.unset).toArray = ls at hl ⊢
  have hl : lv_has ls 2 [(0, .ref o), (1, .int (nI j))] := hl
  generalize ([.ref o, .int (nI j)] : List Value).toArray = args at hts ⊢
  refine lv_iload_n hx hb dX1_rests_0 rfl (lv_at hl 1 rfl) ?_
  refine lv_bipush (v := 8) hx hb dX1_rests_1 (by decide) ?_
  refine lv_icmp_lt (tgt := 26) hx hb dX1_rests_3 (by decide) (fun c1 => ?_) (fun c1 => ?_)
  · skip
    have k2 : j < 8 := (nI_ltI (a := j) (b := 8) (by omega) (by omega)).mp c1
    refine lv_iconst (v := 1) hx hb dX1_rests_26 (by decide) ?_
    refine lv_goto (tgt := 31) hx hb dX1_rests_27 (by decide) ?_
    refine W.widen (k := 0) (n := 0) (Nat.le_of_ble_eq_true rfl) (Nat.le_of_ble_eq_true rfl) ?_
    exact W.zret (v := 1) (ty := .boolean) hx hb hr rfl (fun t ht hW => ⟨⟨1, (), rfl, (Or.inr ⟨rfl, by first | exact Or.inl (by omega) | exact Or.inr (by assumption)⟩), CX.give hb0 hM hK hG hE (roS hS) ht hW⟩, hS.F ht⟩) hS.2.2 dX1_rests_31
  · skip
    have k3 : ¬ (j < 8) := fun z => c1 ((nI_ltI (a := j) (b := 8) (by omega) (by omega)).mpr z)
    refine lv_iload_n hx hb dX1_rests_6 rfl (lv_at hl 1 rfl) ?_
    refine lv_bipush (v := 48) hx hb dX1_rests_7 (by decide) ?_
    refine lv_icmp_ge (tgt := 30) hx hb dX1_rests_9 (by decide) (fun c4 => ?_) (fun c4 => ?_)
    · skip
      have k5 : 48 ≤ j := (nI_leI (a := 48) (b := j) (by omega) (by omega)).mp c4
      refine lv_iconst (v := 0) hx hb dX1_rests_30 (by decide) ?_
      refine W.widen (k := 0) (n := 0) (Nat.le_of_ble_eq_true rfl) (Nat.le_of_ble_eq_true rfl) ?_
      exact W.zret (v := 0) (ty := .boolean) hx hb hr rfl (fun t ht hW => ⟨⟨0, (), rfl, (Or.inl ⟨rfl, by first | (exfalso; omega) | exact (fun z => z.elim (fun h => by omega) (fun h => h (by assumption)))⟩), CX.give hb0 hM hK hG hE (roS hS) ht hW⟩, hS.F ht⟩) hS.2.2 dX1_rests_31
    · skip
      have k6 : ¬ (48 ≤ j) := fun z => c4 ((nI_leI (a := 48) (b := j) (by omega) (by omega)).mpr z)
      refine lv_aload_n hx hb dX1_rests_12 rfl (lv_at hl 0 rfl) ?_
      obtain ⟨u7, u8, u9, u10, u11, u12, hP, hf⟩ := o_st (i := i) (q := o) hM (by omega)
      refine va_get (D := (dC, dI)) (ci := 5) (v := .ref (pF g o 0)) (C := RX1) (T := TX1) (N := 15) hx hb hts (by decide +kernel) hown hK hP 0 rfl rfl 0 (by decide) (hts (.fieldLink RX1 9 "Snowpalace$Site" "kinds" "[C") (by decide +kernel)) (fun _ h9 => h9) rfl dX1_rests_13 ?_
      have ht13 : tg g (pF g o 0) = 13 + 64 * i := hf.1
      refine lv_iload_n hx hb dX1_rests_16 rfl (lv_at hl 1 rfl) ?_
      refine lv_bipush (v := 8) hx hb dX1_rests_17 (by decide) ?_
      refine lv_isub hx hb dX1_rests_19 ?_
      refine lv_topi (fun v14 e15 => ?_)
      obtain rfl : v14 = nI (j - 8) := e15.trans (pk_sub (a := j) (b := 8) (by omega))
      obtain ⟨hP, hf⟩ := o_kn (i := i) (q := (pF g o 0)) hM (by omega)
      refine va_cald (D := (dC, dI)) hx hb hK hP 0 2 rfl rfl (vp_in_nI (by omega) (by decide)) dX1_rests_20 ?_
      refine lv_topi (fun v16 e17 => ?_)
      have ec : ((nI (j - 8)) : Int32).toNatClampNeg = (j - 8) := nI_clamp (by omega)
      rw [ec] at e17
      subst e17
      have hu18 := hf (j - 8) (by omega)
      refine lv_bipush (v := 46) hx hb dX1_rests_21 (by decide) ?_
      refine lv_icmp_eq (tgt := 30) hx hb dX1_rests_23 (by decide) (fun c19 => ?_) (fun c19 => ?_)
      · skip
        refine lv_iconst (v := 0) hx hb dX1_rests_30 (by decide) ?_
        refine W.widen (k := 0) (n := 0) (Nat.le_of_ble_eq_true rfl) (Nat.le_of_ble_eq_true rfl) ?_
        exact W.zret (v := 0) (ty := .boolean) hx hb hr rfl (fun t ht hW => ⟨⟨0, (), rfl, (Or.inl ⟨rfl, by first | (exfalso; omega) | exact (fun z => z.elim (fun h => by omega) (fun h => h (by assumption)))⟩), CX.give hb0 hM hK hG hE (roS hS) ht hW⟩, hS.F ht⟩) hS.2.2 dX1_rests_31
      · skip
        refine lv_iconst (v := 1) hx hb dX1_rests_26 (by decide) ?_
        refine lv_goto (tgt := 31) hx hb dX1_rests_27 (by decide) ?_
        refine W.widen (k := 0) (n := 0) (Nat.le_of_ble_eq_true rfl) (Nat.le_of_ble_eq_true rfl) ?_
        exact W.zret (v := 1) (ty := .boolean) hx hb hr rfl (fun t ht hW => ⟨⟨1, (), rfl, (Or.inr ⟨rfl, by first | exact Or.inl (by omega) | exact Or.inr (by assumption)⟩), CX.give hb0 hM hK hG hE (roS hS) ht hW⟩, hS.F ht⟩) hS.2.2 dX1_rests_31

set_option maxHeartbeats 4000000 in
set_option maxRecDepth 100000 in
theorem rk_spans (l : Launch) (dC : Nat → ClassId) (dI : Nat → Nat → Nat) (kA : Nat → ClassId) (eD b : Nat) (g : Gh) (o : Nat) (i j : Nat) (hto : tg g o = 12 + 64 * i) (hj : j < 48) : Met l yX1_spans wsX1_spans ({ frames := 1, cells := 0, slots := 0, locals := 21 }) (va_Pc [.ref o, .int (nI j)] (CX (dC, dI) kA eD b g)) (va_Qi (fun (r : Int32) (u : Unit) => (r = 0 ∧ ¬ SP (pI g (pF g o 0)) j) ∨ (r = 1 ∧ SP (pI g (pF g o 0)) j)) (fun (u : Unit) t => CX (dC, dI) kA eD b g t) (fun _ => False)) 0 0 (fun _ => False) := by
  refine Met.ofW (cc := cX1_spans) (maxL := 3) (ret := (some .boolean)) (by decide +kernel) rfl ?_
  intro p e s m args below meth c s₁ B hml hv
  obtain ⟨rfl, hb0, hM, hK, hG, hE⟩ := hv
  have hx := B.exec
  have hb := B.bytes
  have hr := B.returns
  have hts := atoms_spec (ws := wsX1_spans) B.pre
  have hown : s.vm.findClass RX1 = some m.cls := findClass_of_methodNamed B.named
  have hlocks := B.notSynchronized
  have hT := hE.1
  have hN := hE.2.2.2.2.2.2.2.1
  have hS : va_S (fun _ => False) s.heap s.heap [] := va_S.rf
  have hl := lv_entry ([.ref o, .int (nI j)]) (n := 3) (Nat.le_of_ble_eq_true rfl)
  rw [lg_entry_eq]
  generalize (lg_sl ([.ref o, .int (nI j)]) ++ List.replicate (3 - (lg_sl ([.ref o, .int (nI j)])).length) Slot.unset).toArray = ls at hl ⊢
  have hl : lv_has ls 3 [(0, .ref o), (1, .int (nI j))] := hl
  generalize ([.ref o, .int (nI j)] : List Value).toArray = args at hts ⊢
  refine lv_iload_n hx hb dX1_spans_0 rfl (lv_at hl 1 rfl) ?_
  refine lv_bipush (v := 8) hx hb dX1_spans_1 (by decide) ?_
  refine lv_irem hx hb dX1_spans_3 (by decide) ?_
  refine lv_topi (fun v1 e2 => ?_)
  obtain rfl : v1 = nI (j % 8) := e2.trans (pk_rem (a := j) (d := 8) (by omega) (by decide) (by decide))
  refine lv_istore_n (lv' := [(2, .int (nI (j % 8))), (0, .ref o), (1, .int (nI j))]) hx hb dX1_spans_4 rfl hl (by decide) rfl (fun ls hl => ?_)
  refine lv_aload_n hx hb dX1_spans_5 rfl (lv_at hl 1 rfl) ?_
  refine lv_iload_n hx hb dX1_spans_6 rfl (lv_at hl 2 rfl) ?_
  obtain ⟨u3, u4, u5, u6, u7, u8, hP, hf⟩ := o_st (i := i) (q := o) hM (by omega)
  refine va_calli (va_runV (As := [.int (nI j)]) (rest := []) ⟨hx, hb, hml, hown, hts⟩ (rk_rests l dC dI kA eD b g o i j (by omega) (by omega)) (cwV 1 hts gX1_spans_X1_rests rfl rfl rfl (by decide +kernel) ⟨Nat.le_of_ble_eq_true rfl, Nat.le_of_ble_eq_true rfl⟩) ⟨fb_CX, va_recv hK hP (ci := 5) (q0 := 0) rfl rfl, fun U hU hW => ⟨rfl, CX.give hb0 hM hK hG hE (roS hS) hU hW⟩⟩ rfl rfl hl.1 rfl (lv_room (Nat.le_of_ble_eq_true rfl)) dX1_spans_7 ⟨(Nat.le_of_ble_eq_true rfl), (Nat.le_of_ble_eq_true rfl)⟩) hS (fun q _ h => h.elim) (fun q h => h.elim) (fun r9 u t H locs ht hvm hw10 hB hz1 hk1 hS => ?_)
  have hM := hB.back ht
  have hG := hB.2.2.2.1
  refine lv_if_ne (tgt := 67) hx hb dX1_spans_10 (by decide) (fun c11 => ?_) (fun c11 => ?_)
  · skip
    have hk12 : RS (pI g (pF g o 0)) j := (hw10.resolve_left (fun z => c11 z.1)).2
    refine lv_iconst (v := 0) hx hb dX1_spans_67 (by decide) ?_
    refine W.widen (k := 0) (n := 0) (Nat.le_of_ble_eq_true rfl) (Nat.le_of_ble_eq_true rfl) ?_
    exact W.zret (v := 0) (ty := .boolean) hx hb hr rfl (fun t ht hW => ⟨⟨0, (), rfl, (Or.inl ⟨rfl, fun z9 => by obtain ⟨z1, z2, z3, z4, z5, z6, z7⟩ := z9; first | contradiction | omega⟩), CX.give hb0 hM hK hG hE (roS hS) ht hW⟩, hS.F ht⟩) hS.2.2 dX1_spans_68
  · skip
    have hk13 : ¬ RS (pI g (pF g o 0)) j := (hw10.resolve_right (fun z => absurd (z.1.symm.trans c11) (by decide))).2
    refine lv_iload_n hx hb dX1_spans_13 rfl (lv_at hl 0 rfl) ?_
    refine lv_if_le (tgt := 67) hx hb dX1_spans_14 (by decide) (fun c14 => ?_) (fun c14 => ?_)
    · skip
      have k15 : (j % 8) ≤ 0 := (nI_leI (a := (j % 8)) (b := 0) (by omega) (by omega)).mp c14
      refine lv_iconst (v := 0) hx hb dX1_spans_67 (by decide) ?_
      refine W.widen (k := 0) (n := 0) (Nat.le_of_ble_eq_true rfl) (Nat.le_of_ble_eq_true rfl) ?_
      exact W.zret (v := 0) (ty := .boolean) hx hb hr rfl (fun t ht hW => ⟨⟨0, (), rfl, (Or.inl ⟨rfl, fun z9 => by obtain ⟨z1, z2, z3, z4, z5, z6, z7⟩ := z9; first | contradiction | omega⟩), CX.give hb0 hM hK hG hE (roS hS) ht hW⟩, hS.F ht⟩) hS.2.2 dX1_spans_68
    · skip
      have k16 : ¬ ((j % 8) ≤ 0) := fun z => c14 ((nI_leI (a := (j % 8)) (b := 0) (by omega) (by omega)).mpr z)
      refine lv_iload_n hx hb dX1_spans_17 rfl (lv_at hl 0 rfl) ?_
      refine lv_bipush (v := 7) hx hb dX1_spans_18 (by decide) ?_
      refine lv_icmp_ge (tgt := 67) hx hb dX1_spans_20 (by decide) (fun c17 => ?_) (fun c17 => ?_)
      · skip
        have k18 : 7 ≤ (j % 8) := (nI_leI (a := 7) (b := (j % 8)) (by omega) (by omega)).mp c17
        refine lv_iconst (v := 0) hx hb dX1_spans_67 (by decide) ?_
        refine W.widen (k := 0) (n := 0) (Nat.le_of_ble_eq_true rfl) (Nat.le_of_ble_eq_true rfl) ?_
        exact W.zret (v := 0) (ty := .boolean) hx hb hr rfl (fun t ht hW => ⟨⟨0, (), rfl, (Or.inl ⟨rfl, fun z9 => by obtain ⟨z1, z2, z3, z4, z5, z6, z7⟩ := z9; first | contradiction | omega⟩), CX.give hb0 hM hK hG hE (roS hS) ht hW⟩, hS.F ht⟩) hS.2.2 dX1_spans_68
      · skip
        have k19 : ¬ (7 ≤ (j % 8)) := fun z => c17 ((nI_leI (a := 7) (b := (j % 8)) (by omega) (by omega)).mpr z)
        refine lv_aload_n hx hb dX1_spans_23 rfl (lv_at hl 1 rfl) ?_
        refine lv_iload_n hx hb dX1_spans_24 rfl (lv_at hl 2 rfl) ?_
        refine lv_iconst (v := 1) hx hb dX1_spans_25 (by decide) ?_
        refine lv_isub hx hb dX1_spans_26 ?_
        refine lv_topi (fun v20 e21 => ?_)
        obtain rfl : v20 = nI (j - 1) := e21.trans (pk_sub (a := j) (b := 1) (by omega))
        obtain ⟨u22, u23, u24, u25, u26, u27, hP, hf⟩ := o_st (i := i) (q := o) hM (by omega)
        refine va_calli (va_runV (As := [.int (nI (j - 1))]) (rest := []) ⟨hx, hb, hml, hown, hts⟩ (rk_has l dC dI kA eD b g o i (nI (j - 1)) (by omega)) (cwV 1 hts gX1_spans_X1_has rfl rfl rfl (by decide +kernel) ⟨Nat.le_of_ble_eq_true rfl, Nat.le_of_ble_eq_true rfl⟩) ⟨fb_CX, va_recv hK hP (ci := 5) (q0 := 0) rfl rfl, fun U hU hW => ⟨rfl, CX.give hb0 hM hK hG hE (roS hS) hU hW⟩⟩ rfl rfl hl.1 rfl (lv_room (Nat.le_of_ble_eq_true rfl)) dX1_spans_27 ⟨(Nat.le_of_ble_eq_true rfl), (Nat.le_of_ble_eq_true rfl)⟩) hS (fun q _ h => h.elim) (fun q h => h.elim) (fun r28 u t H locs ht hvm hw29 hB hz1 hk1 hS => ?_)
        have hM := hB.back ht
        have hG := hB.2.2.2.1
        refine lv_if_eq (tgt := 67) hx hb dX1_spans_30 (by decide) (fun c30 => ?_) (fun c30 => ?_)
        · skip
          have hk31 : (pI g (pF g o 0)) (j - 1) = 46 := (hw29.resolve_right (fun z => absurd (z.1.symm.trans c30) (by decide))).2 (j - 1) rfl (by omega)
          refine lv_iconst (v := 0) hx hb dX1_spans_67 (by decide) ?_
          refine W.widen (k := 0) (n := 0) (Nat.le_of_ble_eq_true rfl) (Nat.le_of_ble_eq_true rfl) ?_
          exact W.zret (v := 0) (ty := .boolean) hx hb hr rfl (fun t ht hW => ⟨⟨0, (), rfl, (Or.inl ⟨rfl, fun z9 => by obtain ⟨z1, z2, z3, z4, z5, z6, z7⟩ := z9; first | contradiction | omega⟩), CX.give hb0 hM hK hG hE (roS hS) ht hW⟩, hS.F ht⟩) hS.2.2 dX1_spans_68
        · skip
          have hk32 : ¬ (pI g (pF g o 0)) (j - 1) = 46 := by obtain ⟨-, jz9, ez9, hz9, hz8⟩ := hw29.resolve_left (fun z => c30 z.1); rw [(nI_eq (a := (j - 1)) (b := jz9) (by omega) (by omega)).mp ez9]; exact hz8
          refine lv_aload_n hx hb dX1_spans_33 rfl (lv_at hl 1 rfl) ?_
          refine lv_iload_n hx hb dX1_spans_34 rfl (lv_at hl 2 rfl) ?_
          refine lv_iconst (v := 1) hx hb dX1_spans_35 (by decide) ?_
          refine lv_isub hx hb dX1_spans_36 ?_
          refine lv_topi (fun v33 e34 => ?_)
          obtain rfl : v33 = nI (j - 1) := e34.trans (pk_sub (a := j) (b := 1) (by omega))
          obtain ⟨u35, u36, u37, u38, u39, u40, hP, hf⟩ := o_st (i := i) (q := o) hM (by omega)
          refine va_calli (va_runV (As := [.int (nI (j - 1))]) (rest := []) ⟨hx, hb, hml, hown, hts⟩ (rk_rests l dC dI kA eD b g o i (j - 1) (by omega) (by omega)) (cwV 1 hts gX1_spans_X1_rests rfl rfl rfl (by decide +kernel) ⟨Nat.le_of_ble_eq_true rfl, Nat.le_of_ble_eq_true rfl⟩) ⟨fb_CX, va_recv hK hP (ci := 5) (q0 := 0) rfl rfl, fun U hU hW => ⟨rfl, CX.give hb0 hM hK hG hE (roS hS) hU hW⟩⟩ rfl rfl hl.1 rfl (lv_room (Nat.le_of_ble_eq_true rfl)) dX1_spans_37 ⟨(Nat.le_of_ble_eq_true rfl), (Nat.le_of_ble_eq_true rfl)⟩) hS (fun q _ h => h.elim) (fun q h => h.elim) (fun r41 u t H locs ht hvm hw42 hB hz1 hk1 hS => ?_)
          have hM := hB.back ht
          have hG := hB.2.2.2.1
          refine lv_if_eq (tgt := 67) hx hb dX1_spans_40 (by decide) (fun c43 => ?_) (fun c43 => ?_)
          · skip
            have hk44 : ¬ RS (pI g (pF g o 0)) (j - 1) := (hw42.resolve_right (fun z => absurd (z.1.symm.trans c43) (by decide))).2
            refine lv_iconst (v := 0) hx hb dX1_spans_67 (by decide) ?_
            refine W.widen (k := 0) (n := 0) (Nat.le_of_ble_eq_true rfl) (Nat.le_of_ble_eq_true rfl) ?_
            exact W.zret (v := 0) (ty := .boolean) hx hb hr rfl (fun t ht hW => ⟨⟨0, (), rfl, (Or.inl ⟨rfl, fun z9 => by obtain ⟨z1, z2, z3, z4, z5, z6, z7⟩ := z9; first | contradiction | omega⟩), CX.give hb0 hM hK hG hE (roS hS) ht hW⟩, hS.F ht⟩) hS.2.2 dX1_spans_68
          · skip
            have hk45 : RS (pI g (pF g o 0)) (j - 1) := (hw42.resolve_left (fun z => c43 z.1)).2
            refine lv_aload_n hx hb dX1_spans_43 rfl (lv_at hl 1 rfl) ?_
            refine lv_iload_n hx hb dX1_spans_44 rfl (lv_at hl 2 rfl) ?_
            refine lv_iconst (v := 1) hx hb dX1_spans_45 (by decide) ?_
            refine lv_iadd hx hb dX1_spans_46 ?_
            refine lv_topi (fun v46 e47 => ?_)
            obtain rfl : v46 = nI (j + 1) := e47.trans (nI_add j 1)
            obtain ⟨u48, u49, u50, u51, u52, u53, hP, hf⟩ := o_st (i := i) (q := o) hM (by omega)
            refine va_calli (va_runV (As := [.int (nI (j + 1))]) (rest := []) ⟨hx, hb, hml, hown, hts⟩ (rk_has l dC dI kA eD b g o i (nI (j + 1)) (by omega)) (cwV 1 hts gX1_spans_X1_has rfl rfl rfl (by decide +kernel) ⟨Nat.le_of_ble_eq_true rfl, Nat.le_of_ble_eq_true rfl⟩) ⟨fb_CX, va_recv hK hP (ci := 5) (q0 := 0) rfl rfl, fun U hU hW => ⟨rfl, CX.give hb0 hM hK hG hE (roS hS) hU hW⟩⟩ rfl rfl hl.1 rfl (lv_room (Nat.le_of_ble_eq_true rfl)) dX1_spans_47 ⟨(Nat.le_of_ble_eq_true rfl), (Nat.le_of_ble_eq_true rfl)⟩) hS (fun q _ h => h.elim) (fun q h => h.elim) (fun r54 u t H locs ht hvm hw55 hB hz1 hk1 hS => ?_)
            have hM := hB.back ht
            have hG := hB.2.2.2.1
            refine lv_if_eq (tgt := 67) hx hb dX1_spans_50 (by decide) (fun c56 => ?_) (fun c56 => ?_)
            · skip
              have hk57 : (pI g (pF g o 0)) (j + 1) = 46 := (hw55.resolve_right (fun z => absurd (z.1.symm.trans c56) (by decide))).2 (j + 1) rfl (by omega)
              refine lv_iconst (v := 0) hx hb dX1_spans_67 (by decide) ?_
              refine W.widen (k := 0) (n := 0) (Nat.le_of_ble_eq_true rfl) (Nat.le_of_ble_eq_true rfl) ?_
              exact W.zret (v := 0) (ty := .boolean) hx hb hr rfl (fun t ht hW => ⟨⟨0, (), rfl, (Or.inl ⟨rfl, fun z9 => by obtain ⟨z1, z2, z3, z4, z5, z6, z7⟩ := z9; first | contradiction | omega⟩), CX.give hb0 hM hK hG hE (roS hS) ht hW⟩, hS.F ht⟩) hS.2.2 dX1_spans_68
            · skip
              have hk58 : ¬ (pI g (pF g o 0)) (j + 1) = 46 := by obtain ⟨-, jz9, ez9, hz9, hz8⟩ := hw55.resolve_left (fun z => c56 z.1); rw [(nI_eq (a := (j + 1)) (b := jz9) (by omega) (by omega)).mp ez9]; exact hz8
              refine lv_aload_n hx hb dX1_spans_53 rfl (lv_at hl 1 rfl) ?_
              refine lv_iload_n hx hb dX1_spans_54 rfl (lv_at hl 2 rfl) ?_
              refine lv_iconst (v := 1) hx hb dX1_spans_55 (by decide) ?_
              refine lv_iadd hx hb dX1_spans_56 ?_
              refine lv_topi (fun v59 e60 => ?_)
              obtain rfl : v59 = nI (j + 1) := e60.trans (nI_add j 1)
              obtain ⟨u61, u62, u63, u64, u65, u66, hP, hf⟩ := o_st (i := i) (q := o) hM (by omega)
              refine va_calli (va_runV (As := [.int (nI (j + 1))]) (rest := []) ⟨hx, hb, hml, hown, hts⟩ (rk_rests l dC dI kA eD b g o i (j + 1) (by omega) (by omega)) (cwV 1 hts gX1_spans_X1_rests rfl rfl rfl (by decide +kernel) ⟨Nat.le_of_ble_eq_true rfl, Nat.le_of_ble_eq_true rfl⟩) ⟨fb_CX, va_recv hK hP (ci := 5) (q0 := 0) rfl rfl, fun U hU hW => ⟨rfl, CX.give hb0 hM hK hG hE (roS hS) hU hW⟩⟩ rfl rfl hl.1 rfl (lv_room (Nat.le_of_ble_eq_true rfl)) dX1_spans_57 ⟨(Nat.le_of_ble_eq_true rfl), (Nat.le_of_ble_eq_true rfl)⟩) hS (fun q _ h => h.elim) (fun q h => h.elim) (fun r67 u t H locs ht hvm hw68 hB hz1 hk1 hS => ?_)
              have hM := hB.back ht
              have hG := hB.2.2.2.1
              refine lv_if_eq (tgt := 67) hx hb dX1_spans_60 (by decide) (fun c69 => ?_) (fun c69 => ?_)
              · skip
                have hk70 : ¬ RS (pI g (pF g o 0)) (j + 1) := (hw68.resolve_right (fun z => absurd (z.1.symm.trans c69) (by decide))).2
                refine lv_iconst (v := 0) hx hb dX1_spans_67 (by decide) ?_
                refine W.widen (k := 0) (n := 0) (Nat.le_of_ble_eq_true rfl) (Nat.le_of_ble_eq_true rfl) ?_
                exact W.zret (v := 0) (ty := .boolean) hx hb hr rfl (fun t ht hW => ⟨⟨0, (), rfl, (Or.inl ⟨rfl, fun z9 => by obtain ⟨z1, z2, z3, z4, z5, z6, z7⟩ := z9; first | contradiction | omega⟩), CX.give hb0 hM hK hG hE (roS hS) ht hW⟩, hS.F ht⟩) hS.2.2 dX1_spans_68
              · skip
                have hk71 : RS (pI g (pF g o 0)) (j + 1) := (hw68.resolve_left (fun z => c69 z.1)).2
                refine lv_iconst (v := 1) hx hb dX1_spans_63 (by decide) ?_
                refine lv_goto (tgt := 68) hx hb dX1_spans_64 (by decide) ?_
                refine W.widen (k := 0) (n := 0) (Nat.le_of_ble_eq_true rfl) (Nat.le_of_ble_eq_true rfl) ?_
                exact W.zret (v := 1) (ty := .boolean) hx hb hr rfl (fun t ht hW => ⟨⟨1, (), rfl, (Or.inr ⟨rfl, (by assumption), by omega, by omega, (by assumption), (by assumption), (by assumption), (by assumption)⟩), CX.give hb0 hM hK hG hE (roS hS) ht hW⟩, hS.F ht⟩) hS.2.2 dX1_spans_68

set_option maxHeartbeats 4000000 in
set_option maxRecDepth 100000 in
theorem rk_wouldStand (l : Launch) (dC : Nat → ClassId) (dI : Nat → Nat → Nat) (kA : Nat → ClassId) (eD b : Nat) (g : Gh) (o : Nat) (i j : Nat) (hto : tg g o = 12 + 64 * i) (hj : j < 48) : Met l yX1_wouldStand wsX1_wouldStand ({ frames := 2, cells := 0, slots := 0, locals := 43 }) (va_Pc [.ref o, .int (nI j)] (CX (dC, dI) kA eD b g)) (va_Qi (fun (r : Int32) (u : Unit) => (r = 0 ∧ ¬ WS (pI g (pF g o 0)) j) ∨ (r = 1 ∧ WS (pI g (pF g o 0)) j)) (fun (u : Unit) t => CX (dC, dI) kA eD b g t) (fun _ => False)) 0 0 (fun _ => False) := by
  refine Met.ofW (cc := cX1_wouldStand) (maxL := 2) (ret := (some .boolean)) (by decide +kernel) rfl ?_
  intro p e s m args below meth c s₁ B hml hv
  obtain ⟨rfl, hb0, hM, hK, hG, hE⟩ := hv
  have hx := B.exec
  have hb := B.bytes
  have hr := B.returns
  have hts := atoms_spec (ws := wsX1_wouldStand) B.pre
  have hown : s.vm.findClass RX1 = some m.cls := findClass_of_methodNamed B.named
  have hlocks := B.notSynchronized
  have hT := hE.1
  have hN := hE.2.2.2.2.2.2.2.1
  have hS : va_S (fun _ => False) s.heap s.heap [] := va_S.rf
  have hl := lv_entry ([.ref o, .int (nI j)]) (n := 2) (Nat.le_of_ble_eq_true rfl)
  rw [lg_entry_eq]
  generalize (lg_sl ([.ref o, .int (nI j)]) ++ List.replicate (2 - (lg_sl ([.ref o, .int (nI j)])).length) Slot.unset).toArray = ls at hl ⊢
  have hl : lv_has ls 2 [(0, .ref o), (1, .int (nI j))] := hl
  generalize ([.ref o, .int (nI j)] : List Value).toArray = args at hts ⊢
  refine lv_aload_n hx hb dX1_wouldStand_0 rfl (lv_at hl 0 rfl) ?_
  refine lv_iload_n hx hb dX1_wouldStand_1 rfl (lv_at hl 1 rfl) ?_
  obtain ⟨u1, u2, u3, u4, u5, u6, hP, hf⟩ := o_st (i := i) (q := o) hM (by omega)
  refine va_calli (va_runV (As := [.int (nI j)]) (rest := []) ⟨hx, hb, hml, hown, hts⟩ (rk_rests l dC dI kA eD b g o i j (by omega) (by omega)) (cwV 1 hts gX1_wouldStand_X1_rests rfl rfl rfl (by decide +kernel) ⟨Nat.le_of_ble_eq_true rfl, Nat.le_of_ble_eq_true rfl⟩) ⟨fb_CX, va_recv hK hP (ci := 5) (q0 := 0) rfl rfl, fun U hU hW => ⟨rfl, CX.give hb0 hM hK hG hE (roS hS) hU hW⟩⟩ rfl rfl hl.1 rfl (lv_room (Nat.le_of_ble_eq_true rfl)) dX1_wouldStand_2 ⟨(Nat.le_of_ble_eq_true rfl), (Nat.le_of_ble_eq_true rfl)⟩) hS (fun q _ h => h.elim) (fun q h => h.elim) (fun r7 u t H locs ht hvm hw8 hB hz1 hk1 hS => ?_)
  have hM := hB.back ht
  have hG := hB.2.2.2.1
  refine lv_if_ne (tgt := 16) hx hb dX1_wouldStand_5 (by decide) (fun c9 => ?_) (fun c9 => ?_)
  · skip
    have hk10 : RS (pI g (pF g o 0)) j := (hw8.resolve_left (fun z => c9 z.1)).2
    refine lv_iconst (v := 1) hx hb dX1_wouldStand_16 (by decide) ?_
    refine lv_goto (tgt := 21) hx hb dX1_wouldStand_17 (by decide) ?_
    refine W.widen (k := 0) (n := 0) (Nat.le_of_ble_eq_true rfl) (Nat.le_of_ble_eq_true rfl) ?_
    exact W.zret (v := 1) (ty := .boolean) hx hb hr rfl (fun t ht hW => ⟨⟨1, (), rfl, (Or.inr ⟨rfl, by first | exact Or.inl (by assumption) | exact Or.inr (by assumption)⟩), CX.give hb0 hM hK hG hE (roS hS) ht hW⟩, hS.F ht⟩) hS.2.2 dX1_wouldStand_21
  · skip
    have hk11 : ¬ RS (pI g (pF g o 0)) j := (hw8.resolve_right (fun z => absurd (z.1.symm.trans c9) (by decide))).2
    refine lv_aload_n hx hb dX1_wouldStand_8 rfl (lv_at hl 0 rfl) ?_
    refine lv_iload_n hx hb dX1_wouldStand_9 rfl (lv_at hl 1 rfl) ?_
    obtain ⟨u12, u13, u14, u15, u16, u17, hP, hf⟩ := o_st (i := i) (q := o) hM (by omega)
    refine va_calli (va_runV (As := [.int (nI j)]) (rest := []) ⟨hx, hb, hml, hown, hts⟩ (rk_spans l dC dI kA eD b g o i j (by omega) (by omega)) (cwV 1 hts gX1_wouldStand_X1_spans rfl rfl rfl (by decide +kernel) ⟨Nat.le_of_ble_eq_true rfl, Nat.le_of_ble_eq_true rfl⟩) ⟨fb_CX, va_recv hK hP (ci := 5) (q0 := 0) rfl rfl, fun U hU hW => ⟨rfl, CX.give hb0 hM hK hG hE (roS hS) hU hW⟩⟩ rfl rfl hl.1 rfl (lv_room (Nat.le_of_ble_eq_true rfl)) dX1_wouldStand_10 ⟨(Nat.le_of_ble_eq_true rfl), (Nat.le_of_ble_eq_true rfl)⟩) hS (fun q _ h => h.elim) (fun q h => h.elim) (fun r18 u t H locs ht hvm hw19 hB hz1 hk1 hS => ?_)
    have hM := hB.back ht
    have hG := hB.2.2.2.1
    refine lv_if_eq (tgt := 20) hx hb dX1_wouldStand_13 (by decide) (fun c20 => ?_) (fun c20 => ?_)
    · skip
      have hk21 : ¬ SP (pI g (pF g o 0)) j := (hw19.resolve_right (fun z => absurd (z.1.symm.trans c20) (by decide))).2
      refine lv_iconst (v := 0) hx hb dX1_wouldStand_20 (by decide) ?_
      refine W.widen (k := 0) (n := 0) (Nat.le_of_ble_eq_true rfl) (Nat.le_of_ble_eq_true rfl) ?_
      exact W.zret (v := 0) (ty := .boolean) hx hb hr rfl (fun t ht hW => ⟨⟨0, (), rfl, (Or.inl ⟨rfl, fun z9 => z9.elim (by assumption) (by assumption)⟩), CX.give hb0 hM hK hG hE (roS hS) ht hW⟩, hS.F ht⟩) hS.2.2 dX1_wouldStand_21
    · skip
      have hk22 : SP (pI g (pF g o 0)) j := (hw19.resolve_left (fun z => c20 z.1)).2
      refine lv_iconst (v := 1) hx hb dX1_wouldStand_16 (by decide) ?_
      refine lv_goto (tgt := 21) hx hb dX1_wouldStand_17 (by decide) ?_
      refine W.widen (k := 0) (n := 0) (Nat.le_of_ble_eq_true rfl) (Nat.le_of_ble_eq_true rfl) ?_
      exact W.zret (v := 1) (ty := .boolean) hx hb hr rfl (fun t ht hW => ⟨⟨1, (), rfl, (Or.inr ⟨rfl, by first | exact Or.inl (by assumption) | exact Or.inr (by assumption)⟩), CX.give hb0 hM hK hG hE (roS hS) ht hW⟩, hS.F ht⟩) hS.2.2 dX1_wouldStand_21

set_option maxHeartbeats 4000000 in
set_option maxRecDepth 100000 in
theorem rk_setCell (l : Launch) (dC : Nat → ClassId) (dI : Nat → Nat → Nat) (kA : Nat → ClassId) (eD b : Nat) (g : Gh) (o : Nat) (i j : Nat) (kd : Int32) (hto : tg g o = 12 + 64 * i) (hj : j < 48) (hkd : vp_nar .char kd = kd) : Met l yX1_setCell wsX1_setCell ({ frames := 1, cells := 0, slots := 0, locals := 22 }) (va_Pc [.ref o, .int (nI j), .int kd] (CX (dC, dI) kA eD b g)) (va_Qv (fun (u : Gh) => Sx (XD i) g u ∧ (pI u (pF g o 0)) = upd (pI g (pF g o 0)) j kd) (fun (u : Gh) t => CX (dC, dI) kA eD b u t) (fun q => b ≤ q)) 0 0 (fun q => b ≤ q) := by
  refine Met.ofW (cc := cX1_setCell) (maxL := 3) (ret := none) (by decide +kernel) rfl ?_
  intro p e s m args below meth c s₁ B hml hv
  obtain ⟨rfl, hb0, hM, hK, hG, hE⟩ := hv
  have hx := B.exec
  have hb := B.bytes
  have hr := B.returns
  have hts := atoms_spec (ws := wsX1_setCell) B.pre
  have hown : s.vm.findClass RX1 = some m.cls := findClass_of_methodNamed B.named
  have hlocks := B.notSynchronized
  have hT := hE.1
  have hN := hE.2.2.2.2.2.2.2.1
  have hS : va_S (fun q => b ≤ q) s.heap s.heap [] := va_S.rf
  have hl := lv_entry ([.ref o, .int (nI j), .int kd]) (n := 3) (Nat.le_of_ble_eq_true rfl)
  rw [lg_entry_eq]
  generalize (lg_sl ([.ref o, .int (nI j), .int kd]) ++ List.replicate (3 - (lg_sl ([.ref o, .int (nI j), .int kd])).length) Slot.unset).toArray = ls at hl ⊢
  have hl : lv_has ls 3 [(0, .ref o), (1, .int (nI j)), (2, .int kd)] := hl
  generalize ([.ref o, .int (nI j), .int kd] : List Value).toArray = args at hts ⊢
  obtain ⟨_, _, _, _, _, _, -, hst9⟩ := o_st (i := i) (q := o) hM (by omega)
  have ht1 : tg g (pF g o 0) = 13 + 64 * i := hst9.1
  have ht2 : tg g (pF g o 1) = 21 := hst9.2.1
  have ht3 : tg g (pF g o 2) = 14 := hst9.2.2.1
  have ht4 : tg g (pF g o 3) = 14 := hst9.2.2.2.1
  have ht5 : tg g (pF g o 4) = 15 := hst9.2.2.2.2.1
  have ht6 : tg g (pF g o 5) = 16 + 64 * i := hst9.2.2.2.2.2.1
  have ht7 : tg g (pF g o 6) = 23 := hst9.2.2.2.2.2.2.1
  have ht8 : tg g (pF g o 7) = 20 + 64 * i := hst9.2.2.2.2.2.2.2.1
  have hMg := hM
  have ej : (nI j).toInt = ((j : Nat) : Int) := nI_toInt (by omega)
  refine lv_iload_n hx hb dX1_setCell_0 rfl (lv_at hl 1 rfl) ?_
  refine lv_iconst (v := 0) hx hb dX1_setCell_1 (by decide) ?_
  refine lv_bipush (v := 47) hx hb dX1_setCell_2 (by decide) ?_
  refine va_calli (va_runSN (As := [.int (nI j), .int 0, .int 47]) (rest := []) ⟨hx, hb, hml, hown, hts⟩ (rk_isWithin l (nI j) 0 47 (0) (47) (by decide) (by decide)) (⟨va_cnB 3 hts gX1_setCell_X3_isWithin_n72 rfl rfl rfl (hN (.methodLinkNest RX1 72 yX3_isWithin RX3) (by decide +kernel)) (hts (.initialized RX3) (by decide +kernel)) (by decide +kernel) ⟨Nat.le_of_ble_eq_true rfl, Nat.le_of_ble_eq_true rfl⟩, hts (.static yX3_isWithin) (by decide +kernel), trivial⟩) ⟨fun a U g mk q => q, fun U hU hW => ⟨rfl, trivial⟩⟩ rfl rfl hl.1 rfl (lv_room (Nat.le_of_ble_eq_true rfl)) dX1_setCell_4 ⟨(Nat.le_of_ble_eq_true rfl), (Nat.le_of_ble_eq_true rfl)⟩) hS (fun q _ h => h.elim) (fun q h => h.elim) (fun r9 u t H locs ht hvm hw10 hB hz1 hk1 hS => ?_)
  have hM := hM.keep (fun p hp => hk1 p hp (fun z => z))
  have hw10 : r9 = bI ((0 : Int) ≤ (nI j).toInt ∧ (nI j).toInt ≤ (47 : Int)) := hw10
  refine lv_if_ne (tgt := 11) hx hb dX1_setCell_7 (by decide) (fun c11 => ?_) (fun c11 => ?_)
  · skip
    have g12 : (0 : Int) ≤ (nI j).toInt ∧ (nI j).toInt ≤ (47 : Int) := bI_t hw10 c11
    have zg12 : r9 = 1 := bI_t1 hw10 g12
    refine lv_aload_n hx hb dX1_setCell_11 rfl (lv_at hl 0 rfl) ?_
    obtain ⟨u13, u14, u15, u16, u17, u18, hP, hf⟩ := o_st (i := i) (q := o) hM (by omega)
    refine va_get (D := (dC, dI)) (ci := 5) (v := .ref (pF g o 0)) (C := RX1) (T := TX1) (N := 15) hx hb hts (by decide +kernel) hown hK hP 0 rfl rfl 0 (by decide) (hts (.fieldLink RX1 9 "Snowpalace$Site" "kinds" "[C") (by decide +kernel)) (fun _ h9 => h9) rfl dX1_setCell_12 ?_
    refine lv_iload_n hx hb dX1_setCell_15 rfl (lv_at hl 1 rfl) ?_
    refine lv_iload_n hx hb dX1_setCell_16 rfl (lv_at hl 2 rfl) ?_
    obtain ⟨hP, hf⟩ := o_kn (i := i) (q := (pF g o 0)) hM (by omega)
    refine rt_cast (D := (dC, dI)) (t0 := 2) hx hb hK hP (hM.ge (by omega)) hS rfl (vp_in_nI (by omega) (by decide)) dX1_setCell_17 (fun H locs hP hz ho hS => ?_)
    have ec : ((nI j) : Int32).toNatClampNeg = j := nI_clamp (by omega)
    rw [ec] at hP
    have hM0 := hM
    have hM := p_kn (i := i) (f := upd (pI g (pF g o 0)) j (vp_nar .char kd)) hM (by omega) hP ho (isC_updP hf)
    obtain ⟨g19, hg19⟩ : ∃ z, z = uI g (pF g o 0) (upd (pI g (pF g o 0)) j (vp_nar .char kd)) := ⟨_, rfl⟩
    rw [← hg19] at hM
    have ht20 : tg g19 o = 12 + 64 * i := by rw [hg19]; exact hto
    have ht21 : tg g19 (pF g o 0) = 13 + 64 * i := by rw [hg19]; exact ht1
    have ht22 : tg g19 (pF g o 1) = 21 := by rw [hg19]; exact ht2
    have ht23 : tg g19 (pF g o 2) = 14 := by rw [hg19]; exact ht3
    have ht24 : tg g19 (pF g o 3) = 14 := by rw [hg19]; exact ht4
    have ht25 : tg g19 (pF g o 4) = 15 := by rw [hg19]; exact ht5
    have ht26 : tg g19 (pF g o 5) = 16 + 64 * i := by rw [hg19]; exact ht6
    have ht27 : tg g19 (pF g o 6) = 23 := by rw [hg19]; exact ht7
    have ht28 : tg g19 (pF g o 7) = 20 + 64 * i := by rw [hg19]; exact ht8
    have hG : GOK g19 := by rw [hg19]; exact (hG.uI hM0 (Or.inl (by omega)))
    have hx30 : Sx (XD i) g g19 := by rw [hg19]; exact Sx.uI (by have h9 := ht1; simp only [XF, XD, XK, XC, XR, XG]; omega)
    have ef31 : pF g19 o = pF g o := hx30.F
    have hc32 : pI g19 (pF g o 0) = (upd (pI g (pF g o 0)) j (vp_nar .char kd)) := by rw [hg19]; exact uI_s
    have hc33 : pI g19 (pF g o 7) = (pI g (pF g o 7)) := by rw [hg19]; exact (uI_n (fun e9 => by have h1 := ht8; have h2 := ht1; rw [e9] at h1; omega))
    refine lv_aload_n hx hb dX1_setCell_18 rfl (lv_at hl 0 rfl) ?_
    obtain ⟨u34, u35, u36, u37, u38, u39, hP, hf⟩ := o_st (i := i) (q := o) hM (by omega)
    refine va_get (D := (dC, dI)) (ci := 5) (v := .ref (pF g19 o 1)) (C := RX1) (T := TX1) (N := 15) hx hb hts (by decide +kernel) hown hK hP 0 rfl rfl 1 (by decide) (hts (.fieldLink RX1 15 "Snowpalace$Site" "masses" "[I") (by decide +kernel)) (fun _ h9 => h9) rfl dX1_setCell_19 ?_
    rw [ef31]
    refine lv_iload_n hx hb dX1_setCell_22 rfl (lv_at hl 1 rfl) ?_
    refine lv_iload_n hx hb dX1_setCell_23 rfl (lv_at hl 2 rfl) ?_
    refine va_calli (va_runS (As := [.int kd]) (rest := [.int (nI j), .ref (pF g o 1)]) ⟨hx, hb, hml, hown, hts⟩ (rk_massOfKind l kd) (va_cwS 1 hts gX1_setCell_X1_massOfKind rfl rfl rfl (by decide +kernel) ⟨Nat.le_of_ble_eq_true rfl, Nat.le_of_ble_eq_true rfl⟩) ⟨fun a U g mk q => q, fun U hU hW => ⟨rfl, trivial⟩⟩ rfl rfl hl.1 rfl (lv_room (Nat.le_of_ble_eq_true rfl)) dX1_setCell_24 ⟨(Nat.le_of_ble_eq_true rfl), (Nat.le_of_ble_eq_true rfl)⟩) hS (fun q _ h => h.elim) (fun q h => h.elim) (fun r40 u t H locs ht hvm hw41 hB hz1 hk1 hS => ?_)
    have hM := hM.keep (fun p hp => hk1 p hp (fun z => z))
    obtain ⟨u42, hP, hf⟩ := o_ma (i := 0) (q := (pF g o 1)) hM (by omega)
    refine rt_iast (D := (dC, dI)) (t0 := 0) hx hb hK hP (hM.ge (by omega)) hS rfl (vp_in_nI (by omega) (by decide)) dX1_setCell_27 (fun H locs hP hz ho hS => ?_)
    have ec : ((nI j) : Int32).toNatClampNeg = j := nI_clamp (by omega)
    rw [ec] at hP
    have hM := s_ma (i := 0) hM (by omega) hP ho hf
    refine lv_aload_n hx hb dX1_setCell_28 rfl (lv_at hl 0 rfl) ?_
    obtain ⟨u43, u44, u45, u46, u47, u48, hP, hf⟩ := o_st (i := i) (q := o) hM (by omega)
    refine va_get (D := (dC, dI)) (ci := 5) (v := .ref (pF g19 o 2)) (C := RX1) (T := TX1) (N := 15) hx hb hts (by decide +kernel) hown hK hP 0 rfl rfl 2 (by decide) (hts (.fieldLink RX1 19 "Snowpalace$Site" "creeps" "[I") (by decide +kernel)) (fun _ h9 => h9) rfl dX1_setCell_29 ?_
    rw [ef31]
    refine lv_iload_n hx hb dX1_setCell_32 rfl (lv_at hl 1 rfl) ?_
    refine lv_iconst (v := 0) hx hb dX1_setCell_33 (by decide) ?_
    obtain ⟨u49, hP, hf⟩ := o_in (i := 0) (q := (pF g o 2)) hM (by omega)
    refine rt_iast (D := (dC, dI)) (t0 := 0) hx hb hK hP (hM.ge (by omega)) hS rfl (vp_in_nI (by omega) (by decide)) dX1_setCell_34 (fun H locs hP hz ho hS => ?_)
    have ec : ((nI j) : Int32).toNatClampNeg = j := nI_clamp (by omega)
    rw [ec] at hP
    have hM := s_in (i := 0) hM (by omega) hP ho hf
    refine lv_aload_n hx hb dX1_setCell_35 rfl (lv_at hl 0 rfl) ?_
    obtain ⟨u50, u51, u52, u53, u54, u55, hP, hf⟩ := o_st (i := i) (q := o) hM (by omega)
    refine va_get (D := (dC, dI)) (ci := 5) (v := .ref (pF g19 o 3)) (C := RX1) (T := TX1) (N := 15) hx hb hts (by decide +kernel) hown hK hP 0 rfl rfl 3 (by decide) (hts (.fieldLink RX1 22 "Snowpalace$Site" "ages" "[I") (by decide +kernel)) (fun _ h9 => h9) rfl dX1_setCell_36 ?_
    rw [ef31]
    refine lv_iload_n hx hb dX1_setCell_39 rfl (lv_at hl 1 rfl) ?_
    refine lv_iconst (v := 0) hx hb dX1_setCell_40 (by decide) ?_
    obtain ⟨u56, hP, hf⟩ := o_in (i := 0) (q := (pF g o 3)) hM (by omega)
    refine rt_iast (D := (dC, dI)) (t0 := 0) hx hb hK hP (hM.ge (by omega)) hS rfl (vp_in_nI (by omega) (by decide)) dX1_setCell_41 (fun H locs hP hz ho hS => ?_)
    have ec : ((nI j) : Int32).toNatClampNeg = j := nI_clamp (by omega)
    rw [ec] at hP
    have hM := s_in (i := 0) hM (by omega) hP ho hf
    refine lv_aload_n hx hb dX1_setCell_42 rfl (lv_at hl 0 rfl) ?_
    obtain ⟨u57, u58, u59, u60, u61, u62, hP, hf⟩ := o_st (i := i) (q := o) hM (by omega)
    refine va_get (D := (dC, dI)) (ci := 5) (v := .ref (pF g19 o 4)) (C := RX1) (T := TX1) (N := 15) hx hb hts (by decide +kernel) hown hK hP 0 rfl rfl 4 (by decide) (hts (.fieldLink RX1 25 "Snowpalace$Site" "lamps" "[Z") (by decide +kernel)) (fun _ h9 => h9) rfl dX1_setCell_43 ?_
    rw [ef31]
    refine lv_iload_n hx hb dX1_setCell_46 rfl (lv_at hl 1 rfl) ?_
    refine lv_iconst (v := 0) hx hb dX1_setCell_47 (by decide) ?_
    obtain ⟨u63, hP, hf⟩ := o_bo (i := 0) (q := (pF g o 4)) hM (by omega)
    refine rt_zast (D := (dC, dI)) (t0 := 1) hx hb hK hP (hM.ge (by omega)) hS rfl (vp_in_nI (by omega) (by decide)) dX1_setCell_48 (fun H locs hP hz ho hS => ?_)
    have ec : ((nI j) : Int32).toNatClampNeg = j := nI_clamp (by omega)
    rw [ec] at hP
    have hM := s_bo (i := 0) hM (by omega) hP ho (isZ_upd hf)
    refine W.widen (k := 0) (n := 0) (Nat.le_of_ble_eq_true rfl) (Nat.le_of_ble_eq_true rfl) ?_
    exact W.vret hx hb hr (fun t ht hW => ⟨⟨g19, rfl, ⟨hx30, by rw [hc32, hkd]⟩, CX.give hb0 hM hK hG hE hS ht hW⟩, hS.F ht⟩) hS.2.2 dX1_setCell_49
  · skip
    have g64 : ¬ ((0 : Int) ≤ (nI j).toInt ∧ (nI j).toInt ≤ (47 : Int)) := bI_f hw10 c11
    have zg64 : r9 = 0 := bI_f0 hw10 g64
    exfalso; omega

set_option maxHeartbeats 4000000 in
set_option maxRecDepth 100000 in
theorem rk_removeCell (l : Launch) (dC : Nat → ClassId) (dI : Nat → Nat → Nat) (kA : Nat → ClassId) (eD b : Nat) (g : Gh) (o : Nat) (i j : Nat) (hto : tg g o = 12 + 64 * i) (hj : j < 48) : Met l yX1_removeCell wsX1_removeCell ({ frames := 2, cells := 0, slots := 0, locals := 44 }) (va_Pc [.ref o, .int (nI j)] (CX (dC, dI) kA eD b g)) (va_Qv (fun (u : Gh) => Sx (XD i) g u ∧ (pI u (pF g o 0)) = upd (pI g (pF g o 0)) j 46) (fun (u : Gh) t => CX (dC, dI) kA eD b u t) (fun q => b ≤ q)) 0 0 (fun q => b ≤ q) := by
  refine Met.ofW (cc := cX1_removeCell) (maxL := 2) (ret := none) (by decide +kernel) rfl ?_
  intro p e s m args below meth c s₁ B hml hv
  obtain ⟨rfl, hb0, hM, hK, hG, hE⟩ := hv
  have hx := B.exec
  have hb := B.bytes
  have hr := B.returns
  have hts := atoms_spec (ws := wsX1_removeCell) B.pre
  have hown : s.vm.findClass RX1 = some m.cls := findClass_of_methodNamed B.named
  have hlocks := B.notSynchronized
  have hT := hE.1
  have hN := hE.2.2.2.2.2.2.2.1
  have hS : va_S (fun q => b ≤ q) s.heap s.heap [] := va_S.rf
  have hl := lv_entry ([.ref o, .int (nI j)]) (n := 2) (Nat.le_of_ble_eq_true rfl)
  rw [lg_entry_eq]
  generalize (lg_sl ([.ref o, .int (nI j)]) ++ List.replicate (2 - (lg_sl ([.ref o, .int (nI j)])).length) Slot.unset).toArray = ls at hl ⊢
  have hl : lv_has ls 2 [(0, .ref o), (1, .int (nI j))] := hl
  generalize ([.ref o, .int (nI j)] : List Value).toArray = args at hts ⊢
  obtain ⟨_, _, _, _, _, _, -, hst9⟩ := o_st (i := i) (q := o) hM (by omega)
  have ht1 : tg g (pF g o 0) = 13 + 64 * i := hst9.1
  have ht2 : tg g (pF g o 1) = 21 := hst9.2.1
  have ht3 : tg g (pF g o 2) = 14 := hst9.2.2.1
  have ht4 : tg g (pF g o 3) = 14 := hst9.2.2.2.1
  have ht5 : tg g (pF g o 4) = 15 := hst9.2.2.2.2.1
  have ht6 : tg g (pF g o 5) = 16 + 64 * i := hst9.2.2.2.2.2.1
  have ht7 : tg g (pF g o 6) = 23 := hst9.2.2.2.2.2.2.1
  have ht8 : tg g (pF g o 7) = 20 + 64 * i := hst9.2.2.2.2.2.2.2.1
  have hMg := hM
  refine lv_aload_n hx hb dX1_removeCell_0 rfl (lv_at hl 0 rfl) ?_
  refine lv_iload_n hx hb dX1_removeCell_1 rfl (lv_at hl 1 rfl) ?_
  refine lv_bipush (v := 46) hx hb dX1_removeCell_2 (by decide) ?_
  obtain ⟨u9, u10, u11, u12, u13, u14, hP, hf⟩ := o_st (i := i) (q := o) hM (by omega)
  refine va_callv (va_runV (As := [.int (nI j), .int 46]) (rest := []) ⟨hx, hb, hml, hown, hts⟩ (rk_setCell l dC dI kA eD b g o i j 46 (by omega) (by omega) (by decide)) (cwV 2 hts gX1_removeCell_X1_setCell rfl rfl rfl (by decide +kernel) ⟨Nat.le_of_ble_eq_true rfl, Nat.le_of_ble_eq_true rfl⟩) ⟨fb_CX, va_recv hK hP (ci := 5) (q0 := 0) rfl rfl, fun U hU hW => ⟨rfl, CX.give hb0 hM hK hG hE hS hU hW⟩⟩ rfl rfl hl.1 rfl (lv_room (Nat.le_of_ble_eq_true rfl)) dX1_removeCell_4 ⟨(Nat.le_of_ble_eq_true rfl), (Nat.le_of_ble_eq_true rfl)⟩) hS (fun q _ h => h) (fun q h => h) (fun g17 t H locs ht hvm hw16 hB hz1 hk1 hS => ?_)
  have hM := hB.back ht
  have hG := hB.2.2.2.1
  have hx18 : Sx (XD i) g g17 := hw16.1
  have ht19 : tg g17 o = 12 + 64 * i := hx18.tk hto (by omega)
  have ht20 : tg g17 (pF g o 0) = 13 + 64 * i := hx18.tk ht1 (by omega)
  have ht21 : tg g17 (pF g o 1) = 21 := hx18.tk ht2 (by omega)
  have ht22 : tg g17 (pF g o 2) = 14 := hx18.tk ht3 (by omega)
  have ht23 : tg g17 (pF g o 3) = 14 := hx18.tk ht4 (by omega)
  have ht24 : tg g17 (pF g o 4) = 15 := hx18.tk ht5 (by omega)
  have ht25 : tg g17 (pF g o 5) = 16 + 64 * i := hx18.tk ht6 (by omega)
  have ht26 : tg g17 (pF g o 6) = 23 := hx18.tk ht7 (by omega)
  have ht27 : tg g17 (pF g o 7) = 20 + 64 * i := hx18.tk ht8 (by omega)
  have ef28 : pF g17 o = pF g o := hx18.F
  have hwk29 := hw16.2
  have hc30 : pI g17 (pF g o 7) = (pI g (pF g o 7)) := (hx18.i (fun z9 => by have h9 := ht8; simp only [XF, XD, XK] at z9; omega))
  refine W.widen (k := 0) (n := 0) (Nat.le_of_ble_eq_true rfl) (Nat.le_of_ble_eq_true rfl) ?_
  exact W.vret hx hb hr (fun t ht hW => ⟨⟨g17, rfl, ⟨hx18, hwk29⟩, CX.give hb0 hM hK hG hE hS ht hW⟩, hS.F ht⟩) hS.2.2 dX1_removeCell_7

set_option maxHeartbeats 4000000 in
set_option maxRecDepth 100000 in
theorem rk_creepSum (l : Launch) (dC : Nat → ClassId) (dI : Nat → Nat → Nat) (kA : Nat → ClassId) (eD b : Nat) (g : Gh) (o : Nat) (i : Nat) (hto : tg g o = 12 + 64 * i)  : Met l yX1_creepSum wsX1_creepSum ({ frames := 0, cells := 0, slots := 0, locals := 0 }) (va_Pc [.ref o] (CX (dC, dI) kA eD b g)) (va_Qi (fun (r : Int32) (u : Unit) => True) (fun (u : Unit) t => CX (dC, dI) kA eD b g t) (fun q => b ≤ q)) 0 0 (fun q => b ≤ q) := by
  refine Met.ofW (cc := cX1_creepSum) (maxL := 3) (ret := (some .int)) (by decide +kernel) rfl ?_
  intro p e s m args below meth c s₁ B hml hv
  obtain ⟨rfl, hb0, hM, hK, hG, hE⟩ := hv
  have hx := B.exec
  have hb := B.bytes
  have hr := B.returns
  have hts := atoms_spec (ws := wsX1_creepSum) B.pre
  have hown : s.vm.findClass RX1 = some m.cls := findClass_of_methodNamed B.named
  have hlocks := B.notSynchronized
  have hT := hE.1
  have hN := hE.2.2.2.2.2.2.2.1
  have hS : va_S (fun q => b ≤ q) s.heap s.heap [] := va_S.rf
  have hl := lv_entry ([.ref o]) (n := 3) (Nat.le_of_ble_eq_true rfl)
  rw [lg_entry_eq]
  generalize (lg_sl ([.ref o]) ++ List.replicate (3 - (lg_sl ([.ref o])).length) Slot.unset).toArray = ls at hl ⊢
  have hl : lv_has ls 3 [(0, .ref o)] := hl
  generalize ([.ref o] : List Value).toArray = args at hts ⊢
  refine W.q (fun Q hQ => ?_)
  refine lv_iconst (v := 0) hx hb dX1_creepSum_0 (by decide) ?_
  refine lv_istore_n (lv' := [(1, .int 0), (0, .ref o)]) hx hb dX1_creepSum_1 rfl hl (by decide) rfl (fun ls hl => ?_)
  refine lv_iconst (v := 0) hx hb dX1_creepSum_2 (by decide) ?_
  refine lv_istore_n (lv' := [(2, .int 0), (1, .int 0), (0, .ref o)]) hx hb dX1_creepSum_3 rfl hl (by decide) rfl (fun ls hl => ?_)
  have lp3 : ∀ (n4 j1 : Nat) (x2 : Int32), 0 ≤ j1 → j1 ≤ 48 → 48 < j1 + n4 → ∀ (H : Heap) (locs : List Loc) (ls : Array Slot), TM (dC, dI) kA b g H → va_S (fun q => b ≤ q) s.heap H locs → lv_has ls 3 [(2, .int (nI j1)), (1, .int x2), (0, .ref o)] → W p l e (headSpec wsX1_creepSum ({ frames := 0, cells := 0, slots := 0, locals := 0 })).room s m args below meth c H locs 0 0 Q (F0 m 4 ls []) := by
    intro n4
    induction n4 with
    | zero => intro j1 x2 h0 h1 h2; omega
    | succ n4 ih5 =>
      intro j1 x2 lj1 hj1 hn4 H locs ls hM hS hl
      refine lv_iload_n hx hb dX1_creepSum_4 rfl (lv_at hl 0 rfl) ?_
      refine lv_bipush (v := 48) hx hb dX1_creepSum_5 (by decide) ?_
      refine lv_icmp_ge (tgt := 40) hx hb dX1_creepSum_7 (by decide) (fun c6 => ?_) (fun c6 => ?_)
      · skip
        have k7 : 48 ≤ j1 := (nI_leI (a := 48) (b := j1) (by omega) (by omega)).mp c6
        refine lv_iload_n hx hb dX1_creepSum_40 rfl (lv_at hl 1 rfl) ?_
        subst hQ
        refine W.widen (k := 0) (n := 0) (Nat.le_of_ble_eq_true rfl) (Nat.le_of_ble_eq_true rfl) ?_
        exact W.iret (v := x2) hx hb hr (fun t ht hW => ⟨⟨x2, (), rfl, trivial, CX.give hb0 hM hK hG hE hS ht hW⟩, hS.F ht⟩) hS.2.2 dX1_creepSum_41
      · skip
        have k8 : ¬ (48 ≤ j1) := fun z => c6 ((nI_leI (a := 48) (b := j1) (by omega) (by omega)).mpr z)
        refine lv_iload_n hx hb dX1_creepSum_10 rfl (lv_at hl 1 rfl) ?_
        refine lv_aload_n hx hb dX1_creepSum_11 rfl (lv_at hl 2 rfl) ?_
        obtain ⟨u9, u10, u11, u12, u13, u14, hP, hf⟩ := o_st (i := i) (q := o) hM (by omega)
        refine va_get (D := (dC, dI)) (ci := 5) (v := .ref (pF g o 0)) (C := RX1) (T := TX1) (N := 15) hx hb hts (by decide +kernel) hown hK hP 0 rfl rfl 0 (by decide) (hts (.fieldLink RX1 9 "Snowpalace$Site" "kinds" "[C") (by decide +kernel)) (fun _ h9 => h9) rfl dX1_creepSum_12 ?_
        have ht15 : tg g (pF g o 0) = 13 + 64 * i := hf.1
        refine lv_iload_n hx hb dX1_creepSum_15 rfl (lv_at hl 0 rfl) ?_
        obtain ⟨hP, hf⟩ := o_kn (i := i) (q := (pF g o 0)) hM (by omega)
        refine va_cald (D := (dC, dI)) hx hb hK hP 0 2 rfl rfl (vp_in_nI (by omega) (by decide)) dX1_creepSum_16 ?_
        refine lv_topi (fun v16 e17 => ?_)
        have ec : ((nI j1) : Int32).toNatClampNeg = j1 := nI_clamp (by omega)
        rw [ec] at e17
        subst e17
        have hu18 := hf j1 (by omega)
        refine lv_bipush (v := 46) hx hb dX1_creepSum_17 (by decide) ?_
        have jn20 : ∀ (x19 : Int32) (H : Heap) (locs : List Loc) (ls : Array Slot), TM (dC, dI) kA b g H → va_S (fun q => b ≤ q) s.heap H locs → lv_has ls 3 [(2, .int (nI j1)), (1, .int x2), (0, .ref o)] → W p l e (headSpec wsX1_creepSum ({ frames := 0, cells := 0, slots := 0, locals := 0 })).room s m args below meth c H locs 0 0 Q (F0 m 32 ls [.int x19, .int x2]) := by
          intro x19 H locs ls hM hS hl
          refine lv_iadd hx hb dX1_creepSum_32 ?_
          refine lv_topi (fun v21 e22 => ?_)
          refine lv_istore_n (lv' := [(1, .int v21), (2, .int (nI j1)), (0, .ref o)]) hx hb dX1_creepSum_33 rfl hl (by decide) rfl (fun ls hl => ?_)
          refine lv_iinc (v := (nI (j1 + 1))) (lv' := [(2, .int (nI (j1 + 1))), (1, .int v21), (0, .ref o)]) hx hb dX1_creepSum_34 hl (k := 1) rfl (nI_add j1 1) (by decide) rfl (fun ls hl => ?_)
          refine lv_goto (tgt := 4) hx hb dX1_creepSum_37 (by decide) ?_
          exact ih5 ((j1 + 1)) v21 (by omega) (by omega) (by omega) H _ ls  hM hS (lv_sub hl [0, 1, 2] rfl)
        refine lv_icmp_eq (tgt := 31) hx hb dX1_creepSum_19 (by decide) (fun c23 => ?_) (fun c23 => ?_)
        · skip
          refine lv_iconst (v := 0) hx hb dX1_creepSum_31 (by decide) ?_
          exact jn20 0 H _ ls hM hS (lv_sub hl [0, 1, 2] rfl)
        · skip
          refine lv_aload_n hx hb dX1_creepSum_22 rfl (lv_at hl 2 rfl) ?_
          obtain ⟨u24, u25, u26, u27, u28, u29, hP, hf⟩ := o_st (i := i) (q := o) hM (by omega)
          refine va_get (D := (dC, dI)) (ci := 5) (v := .ref (pF g o 2)) (C := RX1) (T := TX1) (N := 15) hx hb hts (by decide +kernel) hown hK hP 0 rfl rfl 2 (by decide) (hts (.fieldLink RX1 19 "Snowpalace$Site" "creeps" "[I") (by decide +kernel)) (fun _ h9 => h9) rfl dX1_creepSum_23 ?_
          have ht30 : tg g (pF g o 2) = 14 := hf.2.2.1
          refine lv_iload_n hx hb dX1_creepSum_26 rfl (lv_at hl 0 rfl) ?_
          obtain ⟨u31, hP, hf⟩ := o_in (i := 0) (q := (pF g o 2)) hM (by omega)
          refine va_iald (D := (dC, dI)) hx hb hK hP 0 0 rfl rfl (vp_in_nI (by omega) (by decide)) dX1_creepSum_27 ?_
          refine lv_topi (fun v32 e33 => ?_)
          have ec : ((nI j1) : Int32).toNatClampNeg = j1 := nI_clamp (by omega)
          rw [ec] at e33
          refine lv_goto (tgt := 32) hx hb dX1_creepSum_28 (by decide) ?_
          exact jn20 v32 H _ ls hM hS (lv_sub hl [0, 1, 2] rfl)
  exact lp3 (48 + 1) 0 0 (by omega) (by omega) (by omega) s.heap _ ls  hM hS (lv_sub hl [0, 1, 2] rfl)

set_option maxHeartbeats 4000000 in
set_option maxRecDepth 100000 in
theorem rk_placesAsPlanned (l : Launch) (dC : Nat → ClassId) (dI : Nat → Nat → Nat) (kA : Nat → ClassId) (eD b : Nat) (g : Gh) (o : Nat) (i : Nat) (hto : tg g o = 12 + 64 * i)  : Met l yX1_placesAsPlanned wsX1_placesAsPlanned ({ frames := 0, cells := 0, slots := 0, locals := 0 }) (va_Pc [.ref o] (CX (dC, dI) kA eD b g)) (va_Qi (fun (r : Int32) (u : Unit) => True) (fun (u : Unit) t => CX (dC, dI) kA eD b g t) (fun q => b ≤ q)) 0 0 (fun q => b ≤ q) := by
  refine Met.ofW (cc := cX1_placesAsPlanned) (maxL := 3) (ret := (some .int)) (by decide +kernel) rfl ?_
  intro p e s m args below meth c s₁ B hml hv
  obtain ⟨rfl, hb0, hM, hK, hG, hE⟩ := hv
  have hx := B.exec
  have hb := B.bytes
  have hr := B.returns
  have hts := atoms_spec (ws := wsX1_placesAsPlanned) B.pre
  have hown : s.vm.findClass RX1 = some m.cls := findClass_of_methodNamed B.named
  have hlocks := B.notSynchronized
  have hT := hE.1
  have hN := hE.2.2.2.2.2.2.2.1
  have hS : va_S (fun q => b ≤ q) s.heap s.heap [] := va_S.rf
  have hl := lv_entry ([.ref o]) (n := 3) (Nat.le_of_ble_eq_true rfl)
  rw [lg_entry_eq]
  generalize (lg_sl ([.ref o]) ++ List.replicate (3 - (lg_sl ([.ref o])).length) Slot.unset).toArray = ls at hl ⊢
  have hl : lv_has ls 3 [(0, .ref o)] := hl
  generalize ([.ref o] : List Value).toArray = args at hts ⊢
  refine W.q (fun Q hQ => ?_)
  refine lv_iconst (v := 0) hx hb dX1_placesAsPlanned_0 (by decide) ?_
  refine lv_istore_n (lv' := [(1, .int 0), (0, .ref o)]) hx hb dX1_placesAsPlanned_1 rfl hl (by decide) rfl (fun ls hl => ?_)
  refine lv_iconst (v := 0) hx hb dX1_placesAsPlanned_2 (by decide) ?_
  refine lv_istore_n (lv' := [(2, .int 0), (1, .int 0), (0, .ref o)]) hx hb dX1_placesAsPlanned_3 rfl hl (by decide) rfl (fun ls hl => ?_)
  have lp3 : ∀ (n4 j1 : Nat) (x2 : Int32), 0 ≤ j1 → j1 ≤ 48 → 48 < j1 + n4 → ∀ (H : Heap) (locs : List Loc) (ls : Array Slot), TM (dC, dI) kA b g H → va_S (fun q => b ≤ q) s.heap H locs → lv_has ls 3 [(2, .int (nI j1)), (1, .int x2), (0, .ref o)] → W p l e (headSpec wsX1_placesAsPlanned ({ frames := 0, cells := 0, slots := 0, locals := 0 })).room s m args below meth c H locs 0 0 Q (F0 m 4 ls []) := by
    intro n4
    induction n4 with
    | zero => intro j1 x2 h0 h1 h2; omega
    | succ n4 ih5 =>
      intro j1 x2 lj1 hj1 hn4 H locs ls hM hS hl
      refine lv_iload_n hx hb dX1_placesAsPlanned_4 rfl (lv_at hl 0 rfl) ?_
      refine lv_bipush (v := 48) hx hb dX1_placesAsPlanned_5 (by decide) ?_
      refine lv_icmp_ge (tgt := 49) hx hb dX1_placesAsPlanned_7 (by decide) (fun c6 => ?_) (fun c6 => ?_)
      · skip
        have k7 : 48 ≤ j1 := (nI_leI (a := 48) (b := j1) (by omega) (by omega)).mp c6
        refine lv_iload_n hx hb dX1_placesAsPlanned_49 rfl (lv_at hl 1 rfl) ?_
        subst hQ
        refine W.widen (k := 0) (n := 0) (Nat.le_of_ble_eq_true rfl) (Nat.le_of_ble_eq_true rfl) ?_
        exact W.iret (v := x2) hx hb hr (fun t ht hW => ⟨⟨x2, (), rfl, trivial, CX.give hb0 hM hK hG hE hS ht hW⟩, hS.F ht⟩) hS.2.2 dX1_placesAsPlanned_50
      · skip
        have k8 : ¬ (48 ≤ j1) := fun z => c6 ((nI_leI (a := 48) (b := j1) (by omega) (by omega)).mpr z)
        refine lv_iload_n hx hb dX1_placesAsPlanned_10 rfl (lv_at hl 1 rfl) ?_
        refine lv_aload_n hx hb dX1_placesAsPlanned_11 rfl (lv_at hl 2 rfl) ?_
        obtain ⟨u9, u10, u11, u12, u13, u14, hP, hf⟩ := o_st (i := i) (q := o) hM (by omega)
        refine va_get (D := (dC, dI)) (ci := 5) (v := .ref (pF g o 5)) (C := RX1) (T := TX1) (N := 15) hx hb hts (by decide +kernel) hown hK hP 0 rfl rfl 5 (by decide) (hts (.fieldLink RX1 29 "Snowpalace$Site" "planned" "[Z") (by decide +kernel)) (fun _ h9 => h9) rfl dX1_placesAsPlanned_12 ?_
        have ht15 : tg g (pF g o 5) = 16 + 64 * i := hf.2.2.2.2.2.1
        refine lv_iload_n hx hb dX1_placesAsPlanned_15 rfl (lv_at hl 0 rfl) ?_
        obtain ⟨hP, hf⟩ := o_pl (i := i) (q := (pF g o 5)) hM (by omega)
        refine va_zald (D := (dC, dI)) hx hb hK hP 0 1 rfl rfl (vp_in_nI (by omega) (by decide)) dX1_placesAsPlanned_16 ?_
        refine lv_topi (fun v16 e17 => ?_)
        have ec : ((nI j1) : Int32).toNatClampNeg = j1 := nI_clamp (by omega)
        rw [ec] at e17
        subst e17
        have hu18 := hf j1 (by omega)
        refine lv_aload_n hx hb dX1_placesAsPlanned_17 rfl (lv_at hl 2 rfl) ?_
        obtain ⟨u19, u20, u21, u22, u23, u24, hP, hf⟩ := o_st (i := i) (q := o) hM (by omega)
        refine va_get (D := (dC, dI)) (ci := 5) (v := .ref (pF g o 0)) (C := RX1) (T := TX1) (N := 15) hx hb hts (by decide +kernel) hown hK hP 0 rfl rfl 0 (by decide) (hts (.fieldLink RX1 9 "Snowpalace$Site" "kinds" "[C") (by decide +kernel)) (fun _ h9 => h9) rfl dX1_placesAsPlanned_18 ?_
        have ht25 : tg g (pF g o 0) = 13 + 64 * i := hf.1
        refine lv_iload_n hx hb dX1_placesAsPlanned_21 rfl (lv_at hl 0 rfl) ?_
        obtain ⟨hP, hf⟩ := o_kn (i := i) (q := (pF g o 0)) hM (by omega)
        refine va_cald (D := (dC, dI)) hx hb hK hP 0 2 rfl rfl (vp_in_nI (by omega) (by decide)) dX1_placesAsPlanned_22 ?_
        refine lv_topi (fun v26 e27 => ?_)
        have ec : ((nI j1) : Int32).toNatClampNeg = j1 := nI_clamp (by omega)
        rw [ec] at e27
        subst e27
        have hu28 := hf j1 (by omega)
        refine lv_bipush (v := 46) hx hb dX1_placesAsPlanned_23 (by decide) ?_
        have jn30 : ∀ (x29 : Int32) (H : Heap) (locs : List Loc) (ls : Array Slot), (x29 = 0 ∨ x29 = 1) → TM (dC, dI) kA b g H → va_S (fun q => b ≤ q) s.heap H locs → lv_has ls 3 [(2, .int (nI j1)), (1, .int x2), (0, .ref o)] → W p l e (headSpec wsX1_placesAsPlanned ({ frames := 0, cells := 0, slots := 0, locals := 0 })).room s m args below meth c H locs 0 0 Q (F0 m 33 ls [.int x29, .int (pI g (pF g o 5) j1), .int x2]) := by
          intro x29 H locs ls hj31 hM hS hl
          have jn33 : ∀ (x32 : Int32) (H : Heap) (locs : List Loc) (ls : Array Slot), (x32 = 0 ∨ x32 = 1) → TM (dC, dI) kA b g H → va_S (fun q => b ≤ q) s.heap H locs → lv_has ls 3 [(2, .int (nI j1)), (1, .int x2), (0, .ref o)] → W p l e (headSpec wsX1_placesAsPlanned ({ frames := 0, cells := 0, slots := 0, locals := 0 })).room s m args below meth c H locs 0 0 Q (F0 m 41 ls [.int x32, .int x2]) := by
            intro x32 H locs ls hj34 hM hS hl
            refine lv_iadd hx hb dX1_placesAsPlanned_41 ?_
            refine lv_topi (fun v35 e36 => ?_)
            refine lv_istore_n (lv' := [(1, .int v35), (2, .int (nI j1)), (0, .ref o)]) hx hb dX1_placesAsPlanned_42 rfl hl (by decide) rfl (fun ls hl => ?_)
            refine lv_iinc (v := (nI (j1 + 1))) (lv' := [(2, .int (nI (j1 + 1))), (1, .int v35), (0, .ref o)]) hx hb dX1_placesAsPlanned_43 hl (k := 1) rfl (nI_add j1 1) (by decide) rfl (fun ls hl => ?_)
            refine lv_goto (tgt := 4) hx hb dX1_placesAsPlanned_46 (by decide) ?_
            exact ih5 ((j1 + 1)) v35 (by omega) (by omega) (by omega) H _ ls  hM hS (lv_sub hl [0, 1, 2] rfl)
          refine lv_icmp_ne (tgt := 40) hx hb dX1_placesAsPlanned_33 (by decide) (fun c37 => ?_) (fun c37 => ?_)
          · skip
            refine lv_iconst (v := 0) hx hb dX1_placesAsPlanned_40 (by decide) ?_
            exact jn33 0 H _ ls (Or.inl rfl) hM hS (lv_sub hl [0, 1, 2] rfl)
          · skip
            refine lv_iconst (v := 1) hx hb dX1_placesAsPlanned_36 (by decide) ?_
            refine lv_goto (tgt := 41) hx hb dX1_placesAsPlanned_37 (by decide) ?_
            exact jn33 1 H _ ls (Or.inr rfl) hM hS (lv_sub hl [0, 1, 2] rfl)
        refine lv_icmp_eq (tgt := 32) hx hb dX1_placesAsPlanned_25 (by decide) (fun c38 => ?_) (fun c38 => ?_)
        · skip
          refine lv_iconst (v := 0) hx hb dX1_placesAsPlanned_32 (by decide) ?_
          exact jn30 0 H _ ls (Or.inl rfl) hM hS (lv_sub hl [0, 1, 2] rfl)
        · skip
          refine lv_iconst (v := 1) hx hb dX1_placesAsPlanned_28 (by decide) ?_
          refine lv_goto (tgt := 33) hx hb dX1_placesAsPlanned_29 (by decide) ?_
          exact jn30 1 H _ ls (Or.inr rfl) hM hS (lv_sub hl [0, 1, 2] rfl)
  exact lp3 (48 + 1) 0 0 (by omega) (by omega) (by omega) s.heap _ ls  hM hS (lv_sub hl [0, 1, 2] rfl)

set_option maxHeartbeats 4000000 in
set_option maxRecDepth 100000 in
theorem rk_cellCount (l : Launch) (dC : Nat → ClassId) (dI : Nat → Nat → Nat) (kA : Nat → ClassId) (eD b : Nat) (g : Gh) (o : Nat) (i : Nat) (hto : tg g o = 12 + 64 * i)  : Met l yX1_cellCount wsX1_cellCount ({ frames := 0, cells := 0, slots := 0, locals := 0 }) (va_Pc [.ref o] (CX (dC, dI) kA eD b g)) (va_Qi (fun (r : Int32) (u : Unit) => ∃ q, q ≤ 48 ∧ r = nI q) (fun (u : Unit) t => CX (dC, dI) kA eD b g t) (fun q => b ≤ q)) 0 0 (fun q => b ≤ q) := by
  refine Met.ofW (cc := cX1_cellCount) (maxL := 3) (ret := (some .int)) (by decide +kernel) rfl ?_
  intro p e s m args below meth c s₁ B hml hv
  obtain ⟨rfl, hb0, hM, hK, hG, hE⟩ := hv
  have hx := B.exec
  have hb := B.bytes
  have hr := B.returns
  have hts := atoms_spec (ws := wsX1_cellCount) B.pre
  have hown : s.vm.findClass RX1 = some m.cls := findClass_of_methodNamed B.named
  have hlocks := B.notSynchronized
  have hT := hE.1
  have hN := hE.2.2.2.2.2.2.2.1
  have hS : va_S (fun q => b ≤ q) s.heap s.heap [] := va_S.rf
  have hl := lv_entry ([.ref o]) (n := 3) (Nat.le_of_ble_eq_true rfl)
  rw [lg_entry_eq]
  generalize (lg_sl ([.ref o]) ++ List.replicate (3 - (lg_sl ([.ref o])).length) Slot.unset).toArray = ls at hl ⊢
  have hl : lv_has ls 3 [(0, .ref o)] := hl
  generalize ([.ref o] : List Value).toArray = args at hts ⊢
  refine W.q (fun Q hQ => ?_)
  refine lv_iconst (v := 0) hx hb dX1_cellCount_0 (by decide) ?_
  refine lv_istore_n (lv' := [(1, .int 0), (0, .ref o)]) hx hb dX1_cellCount_1 rfl hl (by decide) rfl (fun ls hl => ?_)
  refine lv_iconst (v := 0) hx hb dX1_cellCount_2 (by decide) ?_
  refine lv_istore_n (lv' := [(2, .int 0), (1, .int 0), (0, .ref o)]) hx hb dX1_cellCount_3 rfl hl (by decide) rfl (fun ls hl => ?_)
  have lp3 : ∀ (n4 j1 : Nat) (q2 : Nat), 0 ≤ j1 → j1 ≤ 48 → 48 < j1 + n4 → ∀ (H : Heap) (locs : List Loc) (ls : Array Slot), q2 ≤ j1 → TM (dC, dI) kA b g H → va_S (fun q => b ≤ q) s.heap H locs → lv_has ls 3 [(2, .int (nI j1)), (1, .int (nI q2)), (0, .ref o)] → W p l e (headSpec wsX1_cellCount ({ frames := 0, cells := 0, slots := 0, locals := 0 })).room s m args below meth c H locs 0 0 Q (F0 m 4 ls []) := by
    intro n4
    induction n4 with
    | zero => intro j1 q2 h0 h1 h2; omega
    | succ n4 ih5 =>
      intro j1 q2 lj1 hj1 hn4 H locs ls hf6 hM hS hl
      refine lv_iload_n hx hb dX1_cellCount_4 rfl (lv_at hl 0 rfl) ?_
      refine lv_bipush (v := 48) hx hb dX1_cellCount_5 (by decide) ?_
      refine lv_icmp_ge (tgt := 35) hx hb dX1_cellCount_7 (by decide) (fun c7 => ?_) (fun c7 => ?_)
      · skip
        have k8 : 48 ≤ j1 := (nI_leI (a := 48) (b := j1) (by omega) (by omega)).mp c7
        refine lv_iload_n hx hb dX1_cellCount_35 rfl (lv_at hl 1 rfl) ?_
        subst hQ
        refine W.widen (k := 0) (n := 0) (Nat.le_of_ble_eq_true rfl) (Nat.le_of_ble_eq_true rfl) ?_
        exact W.iret (v := (nI q2)) hx hb hr (fun t ht hW => ⟨⟨(nI q2), (), rfl, ⟨q2, by omega, rfl⟩, CX.give hb0 hM hK hG hE hS ht hW⟩, hS.F ht⟩) hS.2.2 dX1_cellCount_36
      · skip
        have k9 : ¬ (48 ≤ j1) := fun z => c7 ((nI_leI (a := 48) (b := j1) (by omega) (by omega)).mpr z)
        refine lv_iload_n hx hb dX1_cellCount_10 rfl (lv_at hl 1 rfl) ?_
        refine lv_aload_n hx hb dX1_cellCount_11 rfl (lv_at hl 2 rfl) ?_
        obtain ⟨u10, u11, u12, u13, u14, u15, hP, hf⟩ := o_st (i := i) (q := o) hM (by omega)
        refine va_get (D := (dC, dI)) (ci := 5) (v := .ref (pF g o 0)) (C := RX1) (T := TX1) (N := 15) hx hb hts (by decide +kernel) hown hK hP 0 rfl rfl 0 (by decide) (hts (.fieldLink RX1 9 "Snowpalace$Site" "kinds" "[C") (by decide +kernel)) (fun _ h9 => h9) rfl dX1_cellCount_12 ?_
        have ht16 : tg g (pF g o 0) = 13 + 64 * i := hf.1
        refine lv_iload_n hx hb dX1_cellCount_15 rfl (lv_at hl 0 rfl) ?_
        obtain ⟨hP, hf⟩ := o_kn (i := i) (q := (pF g o 0)) hM (by omega)
        refine va_cald (D := (dC, dI)) hx hb hK hP 0 2 rfl rfl (vp_in_nI (by omega) (by decide)) dX1_cellCount_16 ?_
        refine lv_topi (fun v17 e18 => ?_)
        have ec : ((nI j1) : Int32).toNatClampNeg = j1 := nI_clamp (by omega)
        rw [ec] at e18
        subst e18
        have hu19 := hf j1 (by omega)
        refine lv_bipush (v := 46) hx hb dX1_cellCount_17 (by decide) ?_
        refine lv_icmp_eq (tgt := 26) hx hb dX1_cellCount_19 (by decide) (fun c20 => ?_) (fun c20 => ?_)
        · skip
          refine lv_iconst (v := 0) hx hb dX1_cellCount_26 (by decide) ?_
          refine lv_iadd hx hb dX1_cellCount_27 ?_
          refine lv_topi (fun v21 e22 => ?_)
          obtain rfl : v21 = nI (q2 + 0) := e22.trans (nI_add q2 0)
          refine lv_istore_n (lv' := [(1, .int (nI (q2 + 0))), (2, .int (nI j1)), (0, .ref o)]) hx hb dX1_cellCount_28 rfl hl (by decide) rfl (fun ls hl => ?_)
          refine lv_iinc (v := (nI (j1 + 1))) (lv' := [(2, .int (nI (j1 + 1))), (1, .int (nI (q2 + 0))), (0, .ref o)]) hx hb dX1_cellCount_29 hl (k := 1) rfl (nI_add j1 1) (by decide) rfl (fun ls hl => ?_)
          refine lv_goto (tgt := 4) hx hb dX1_cellCount_32 (by decide) ?_
          exact ih5 ((j1 + 1)) (q2 + 0) (by omega) (by omega) (by omega) H _ ls (by omega) hM hS (lv_sub hl [0, 1, 2] rfl)
        · skip
          refine lv_iconst (v := 1) hx hb dX1_cellCount_22 (by decide) ?_
          refine lv_goto (tgt := 27) hx hb dX1_cellCount_23 (by decide) ?_
          refine lv_iadd hx hb dX1_cellCount_27 ?_
          refine lv_topi (fun v23 e24 => ?_)
          obtain rfl : v23 = nI (q2 + 1) := e24.trans (nI_add q2 1)
          refine lv_istore_n (lv' := [(1, .int (nI (q2 + 1))), (2, .int (nI j1)), (0, .ref o)]) hx hb dX1_cellCount_28 rfl hl (by decide) rfl (fun ls hl => ?_)
          refine lv_iinc (v := (nI (j1 + 1))) (lv' := [(2, .int (nI (j1 + 1))), (1, .int (nI (q2 + 1))), (0, .ref o)]) hx hb dX1_cellCount_29 hl (k := 1) rfl (nI_add j1 1) (by decide) rfl (fun ls hl => ?_)
          refine lv_goto (tgt := 4) hx hb dX1_cellCount_32 (by decide) ?_
          exact ih5 ((j1 + 1)) (q2 + 1) (by omega) (by omega) (by omega) H _ ls (by omega) hM hS (lv_sub hl [0, 1, 2] rfl)
  exact lp3 (48 + 1) 0 0 (by omega) (by omega) (by omega) s.heap _ ls (by omega) hM hS (lv_sub hl [0, 1, 2] rfl)

set_option maxHeartbeats 4000000 in
set_option maxRecDepth 100000 in
theorem rk_strengthOf (l : Launch) (dC : Nat → ClassId) (dI : Nat → Nat → Nat) (kA : Nat → ClassId) (eD b : Nat) (g : Gh) (o : Nat) (i : Nat) (pl wm : Int32) (hto : tg g o = 12 + 64 * i)  : Met l yX1_strengthOf wsX1_strengthOf ({ frames := 1, cells := 0, slots := 0, locals := 21 }) (va_Pc [.ref o, .int pl, .int wm] (CX (dC, dI) kA eD b g)) (va_Qi (fun (r : Int32) (u : Unit) => True) (fun (u : Unit) t => CX (dC, dI) kA eD b g t) (fun q => b ≤ q)) 0 0 (fun q => b ≤ q) := by
  refine Met.ofW (cc := cX1_strengthOf) (maxL := 4) (ret := (some .int)) (by decide +kernel) rfl ?_
  intro p e s m args below meth c s₁ B hml hv
  obtain ⟨rfl, hb0, hM, hK, hG, hE⟩ := hv
  have hx := B.exec
  have hb := B.bytes
  have hr := B.returns
  have hts := atoms_spec (ws := wsX1_strengthOf) B.pre
  have hown : s.vm.findClass RX1 = some m.cls := findClass_of_methodNamed B.named
  have hlocks := B.notSynchronized
  have hT := hE.1
  have hN := hE.2.2.2.2.2.2.2.1
  have hS : va_S (fun q => b ≤ q) s.heap s.heap [] := va_S.rf
  have hl := lv_entry ([.ref o, .int pl, .int wm]) (n := 4) (Nat.le_of_ble_eq_true rfl)
  rw [lg_entry_eq]
  generalize (lg_sl ([.ref o, .int pl, .int wm]) ++ List.replicate (4 - (lg_sl ([.ref o, .int pl, .int wm])).length) Slot.unset).toArray = ls at hl ⊢
  have hl : lv_has ls 4 [(0, .ref o), (1, .int pl), (2, .int wm)] := hl
  generalize ([.ref o, .int pl, .int wm] : List Value).toArray = args at hts ⊢
  refine W.q (fun Q hQ => ?_)
  refine lv_aload_n hx hb dX1_strengthOf_0 rfl (lv_at hl 0 rfl) ?_
  refine lv_iload_n hx hb dX1_strengthOf_1 rfl (lv_at hl 1 rfl) ?_
  obtain ⟨u1, u2, u3, u4, u5, u6, hP, hf⟩ := o_st (i := i) (q := o) hM (by omega)
  refine va_calli (va_runV (As := [.int pl]) (rest := []) ⟨hx, hb, hml, hown, hts⟩ (rk_has l dC dI kA eD b g o i pl (by omega)) (cwV 1 hts gX1_strengthOf_X1_has rfl rfl rfl (by decide +kernel) ⟨Nat.le_of_ble_eq_true rfl, Nat.le_of_ble_eq_true rfl⟩) ⟨fb_CX, va_recv hK hP (ci := 5) (q0 := 0) rfl rfl, fun U hU hW => ⟨rfl, CX.give hb0 hM hK hG hE hS hU hW⟩⟩ rfl rfl hl.1 rfl (lv_room (Nat.le_of_ble_eq_true rfl)) dX1_strengthOf_2 ⟨(Nat.le_of_ble_eq_true rfl), (Nat.le_of_ble_eq_true rfl)⟩) hS (fun q _ h => h.elim) (fun q h => h.elim) (fun r7 u t H locs ht hvm hw8 hB hz1 hk1 hS => ?_)
  have hM := hB.back ht
  have hG := hB.2.2.2.1
  refine lv_if_ne (tgt := 10) hx hb dX1_strengthOf_5 (by decide) (fun c9 => ?_) (fun c9 => ?_)
  · skip
    obtain ⟨-, jz9, ez9, hz9, hz8⟩ := hw8.resolve_left (fun z => c9 z.1)
    have hr0 : (pl : Int32).toInt = ((jz9 : Nat) : Int) := by rw [ez9]; exact nI_toInt (by omega)
    have hr1 : 0 ≤ (pl : Int32).toInt := by omega
    have hr2 : (pl : Int32).toInt ≤ 47 := by omega
    refine lv_aload_n hx hb dX1_strengthOf_10 rfl (lv_at hl 0 rfl) ?_
    obtain ⟨u10, u11, u12, u13, u14, u15, hP, hf⟩ := o_st (i := i) (q := o) hM (by omega)
    refine va_get (D := (dC, dI)) (ci := 5) (v := .ref (pF g o 0)) (C := RX1) (T := TX1) (N := 15) hx hb hts (by decide +kernel) hown hK hP 0 rfl rfl 0 (by decide) (hts (.fieldLink RX1 9 "Snowpalace$Site" "kinds" "[C") (by decide +kernel)) (fun _ h9 => h9) rfl dX1_strengthOf_11 ?_
    have ht16 : tg g (pF g o 0) = 13 + 64 * i := hf.1
    refine lv_iload_n hx hb dX1_strengthOf_14 rfl (lv_at hl 1 rfl) ?_
    obtain ⟨hP, hf⟩ := o_kn (i := i) (q := (pF g o 0)) hM (by omega)
    refine va_cald (D := (dC, dI)) hx hb hK hP 0 2 rfl rfl (inI (by omega) (by omega)) dX1_strengthOf_15 ?_
    refine lv_topi (fun v17 e18 => ?_)
    subst e18
    have hu19 := hf ((pl : Int32).toNatClampNeg) (clI (inI (by omega) (by omega)))
    refine va_calli (va_runS (As := [.int (pI g (pF g o 0) ((pl : Int32).toNatClampNeg))]) (rest := []) ⟨hx, hb, hml, hown, hts⟩ (rk_strengthOfKind l (pI g (pF g o 0) ((pl : Int32).toNatClampNeg))) (va_cwS 1 hts gX1_strengthOf_X1_strengthOfKind rfl rfl rfl (by decide +kernel) ⟨Nat.le_of_ble_eq_true rfl, Nat.le_of_ble_eq_true rfl⟩) ⟨fun a U g mk q => q, fun U hU hW => ⟨rfl, trivial⟩⟩ rfl rfl hl.1 rfl (lv_room (Nat.le_of_ble_eq_true rfl)) dX1_strengthOf_16 ⟨(Nat.le_of_ble_eq_true rfl), (Nat.le_of_ble_eq_true rfl)⟩) hS (fun q _ h => h.elim) (fun q h => h.elim) (fun r20 u t H locs ht hvm hw21 hB hz1 hk1 hS => ?_)
    have hM := hM.keep (fun p hp => hk1 p hp (fun z => z))
    refine lv_bipush (v := 10) hx hb dX1_strengthOf_19 (by decide) ?_
    refine lv_bipush (v := 48) hx hb dX1_strengthOf_21 (by decide) ?_
    refine lv_aload_n hx hb dX1_strengthOf_23 rfl (lv_at hl 0 rfl) ?_
    obtain ⟨u22, u23, u24, u25, u26, u27, hP, hf⟩ := o_st (i := i) (q := o) hM (by omega)
    refine va_get (D := (dC, dI)) (ci := 5) (v := .ref (pF g o 3)) (C := RX1) (T := TX1) (N := 15) hx hb hts (by decide +kernel) hown hK hP 0 rfl rfl 3 (by decide) (hts (.fieldLink RX1 22 "Snowpalace$Site" "ages" "[I") (by decide +kernel)) (fun _ h9 => h9) rfl dX1_strengthOf_24 ?_
    have ht28 : tg g (pF g o 3) = 14 := hf.2.2.2.1
    refine lv_iload_n hx hb dX1_strengthOf_27 rfl (lv_at hl 1 rfl) ?_
    obtain ⟨u29, hP, hf⟩ := o_in (i := 0) (q := (pF g o 3)) hM (by omega)
    refine va_iald (D := (dC, dI)) hx hb hK hP 0 0 rfl rfl (inI (by omega) (by omega)) dX1_strengthOf_28 ?_
    refine lv_topi (fun v30 e31 => ?_)
    refine va_mmin hx hb (hml.trans hl.1.symm) hown (hts (.methodLink RX1 87 Lib.Math.min.name) (by decide +kernel)) (hts (.static Lib.Math.min.name) (by decide +kernel)) (hts (.initialized "java/lang/Math") (by decide +kernel)) (hts (.code Lib.Math.min.name Lib.Math.min.code 2 (some .int)) (by decide +kernel)) (Nat.le_of_ble_eq_true rfl) (Nat.le_of_ble_eq_true rfl) (Nat.le_of_ble_eq_true rfl) (Nat.le_of_ble_eq_true rfl) dX1_strengthOf_29 ?_
    refine lv_topi (fun v32 e33 => ?_)
    refine lv_imul hx hb dX1_strengthOf_32 ?_
    refine lv_topi (fun v34 e35 => ?_)
    refine lv_iadd hx hb dX1_strengthOf_33 ?_
    refine lv_topi (fun v36 e37 => ?_)
    refine lv_istore_n (lv' := [(3, .int v36), (0, .ref o), (1, .int pl), (2, .int wm)]) hx hb dX1_strengthOf_34 rfl hl (by decide) rfl (fun ls hl => ?_)
    refine lv_iload_n hx hb dX1_strengthOf_35 rfl (lv_at hl 0 rfl) ?_
    refine lv_aload_n hx hb dX1_strengthOf_36 rfl (lv_at hl 1 rfl) ?_
    obtain ⟨u38, u39, u40, u41, u42, u43, hP, hf⟩ := o_st (i := i) (q := o) hM (by omega)
    refine va_get (D := (dC, dI)) (ci := 5) (v := .ref (pF g o 4)) (C := RX1) (T := TX1) (N := 15) hx hb hts (by decide +kernel) hown hK hP 0 rfl rfl 4 (by decide) (hts (.fieldLink RX1 25 "Snowpalace$Site" "lamps" "[Z") (by decide +kernel)) (fun _ h9 => h9) rfl dX1_strengthOf_37 ?_
    have ht44 : tg g (pF g o 4) = 15 := hf.2.2.2.2.1
    refine lv_iload_n hx hb dX1_strengthOf_40 rfl (lv_at hl 2 rfl) ?_
    obtain ⟨u45, hP, hf⟩ := o_bo (i := 0) (q := (pF g o 4)) hM (by omega)
    refine va_zald (D := (dC, dI)) hx hb hK hP 0 1 rfl rfl (inI (by omega) (by omega)) dX1_strengthOf_41 ?_
    refine lv_topi (fun v46 e47 => ?_)
    have hu48 := hf ((pl : Int32).toNatClampNeg) (clI (inI (by omega) (by omega)))
    rw [← e47] at hu48
    have jn50 : ∀ (x49 : Int32) (H : Heap) (locs : List Loc) (ls : Array Slot), TM (dC, dI) kA b g H → va_S (fun q => b ≤ q) s.heap H locs → lv_has ls 4 [(3, .int v36), (0, .ref o), (1, .int pl), (2, .int wm)] → W p l e (headSpec wsX1_strengthOf ({ frames := 1, cells := 0, slots := 0, locals := 21 })).room s m args below meth c H locs 0 0 Q (F0 m 52 ls [.int x49, .int v36]) := by
      intro x49 H locs ls hM hS hl
      refine lv_isub hx hb dX1_strengthOf_52 ?_
      refine lv_topi (fun v51 e52 => ?_)
      refine lv_istore_n (lv' := [(3, .int v51), (0, .ref o), (1, .int pl), (2, .int wm)]) hx hb dX1_strengthOf_53 rfl hl (by decide) rfl (fun ls hl => ?_)
      refine lv_iload_n hx hb dX1_strengthOf_54 rfl (lv_at hl 0 rfl) ?_
      refine lv_bipush (v := 10) hx hb dX1_strengthOf_55 (by decide) ?_
      refine lv_iconst (v := 0) hx hb dX1_strengthOf_57 (by decide) ?_
      refine lv_iload_n hx hb dX1_strengthOf_58 rfl (lv_at hl 3 rfl) ?_
      refine lv_bipush (v := (-50)) hx hb dX1_strengthOf_59 (by decide) ?_
      refine lv_isub hx hb dX1_strengthOf_61 ?_
      refine lv_topi (fun v53 e54 => ?_)
      refine va_mmax hx hb (hml.trans hl.1.symm) hown (hts (.methodLink RX1 93 Lib.Math.max.name) (by decide +kernel)) (hts (.static Lib.Math.max.name) (by decide +kernel)) (hts (.initialized "java/lang/Math") (by decide +kernel)) (hts (.code Lib.Math.max.name Lib.Math.max.code 2 (some .int)) (by decide +kernel)) (Nat.le_of_ble_eq_true rfl) (Nat.le_of_ble_eq_true rfl) (Nat.le_of_ble_eq_true rfl) (Nat.le_of_ble_eq_true rfl) dX1_strengthOf_62 ?_
      refine lv_topi (fun v55 e56 => ?_)
      refine lv_imul hx hb dX1_strengthOf_65 ?_
      refine lv_topi (fun v57 e58 => ?_)
      refine lv_isub hx hb dX1_strengthOf_66 ?_
      refine lv_topi (fun v59 e60 => ?_)
      refine lv_istore_n (lv' := [(3, .int v59), (0, .ref o), (1, .int pl), (2, .int wm)]) hx hb dX1_strengthOf_67 rfl hl (by decide) rfl (fun ls hl => ?_)
      refine lv_iconst (v := 0) hx hb dX1_strengthOf_68 (by decide) ?_
      refine lv_iload_n hx hb dX1_strengthOf_69 rfl (lv_at hl 0 rfl) ?_
      refine va_mmax hx hb (hml.trans hl.1.symm) hown (hts (.methodLink RX1 93 Lib.Math.max.name) (by decide +kernel)) (hts (.static Lib.Math.max.name) (by decide +kernel)) (hts (.initialized "java/lang/Math") (by decide +kernel)) (hts (.code Lib.Math.max.name Lib.Math.max.code 2 (some .int)) (by decide +kernel)) (Nat.le_of_ble_eq_true rfl) (Nat.le_of_ble_eq_true rfl) (Nat.le_of_ble_eq_true rfl) (Nat.le_of_ble_eq_true rfl) dX1_strengthOf_70 ?_
      refine lv_topi (fun v61 e62 => ?_)
      subst hQ
      refine W.widen (k := 0) (n := 0) (Nat.le_of_ble_eq_true rfl) (Nat.le_of_ble_eq_true rfl) ?_
      exact W.iret (v := v61) hx hb hr (fun t ht hW => ⟨⟨v61, (), rfl, trivial, CX.give hb0 hM hK hG hE hS ht hW⟩, hS.F ht⟩) hS.2.2 dX1_strengthOf_73
    refine lv_if_eq (tgt := 51) hx hb dX1_strengthOf_42 (by decide) (fun c63 => ?_) (fun c63 => ?_)
    · skip
      refine lv_iconst (v := 0) hx hb dX1_strengthOf_51 (by decide) ?_
      exact jn50 0 H _ ls hM hS (lv_sub hl [0, 1, 2, 3] rfl)
    · skip
      refine lv_sipush (v := 500) hx hb dX1_strengthOf_45 (by decide) ?_
      refine lv_goto (tgt := 52) hx hb dX1_strengthOf_48 (by decide) ?_
      exact jn50 500 H _ ls hM hS (lv_sub hl [0, 1, 2, 3] rfl)
  · skip
    refine lv_iconst (v := 0) hx hb dX1_strengthOf_8 (by decide) ?_
    subst hQ
    refine W.widen (k := 0) (n := 0) (Nat.le_of_ble_eq_true rfl) (Nat.le_of_ble_eq_true rfl) ?_
    exact W.iret (v := 0) hx hb hr (fun t ht hW => ⟨⟨0, (), rfl, trivial, CX.give hb0 hM hK hG hE hS ht hW⟩, hS.F ht⟩) hS.2.2 dX1_strengthOf_9
