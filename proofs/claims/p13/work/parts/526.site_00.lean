set_option maxHeartbeats 4000000 in
set_option maxRecDepth 100000 in
theorem rk_site (l : Launch) (dC : Nat → ClassId) (dI : Nat → Nat → Nat) (kA : Nat → ClassId) (eD b : Nat) (g : Gh) (o : Nat) (i mo : Nat) (hmo : ¬ tg g mo = 0) : Met l yX1_init wsX1_init ({ frames := 1, cells := 8, slots := 384, locals := 12 }) (va_Pc [.ref o] (CXn (dC, dI) kA eD b g o (.inr (5, [.null, .null, .null, .null, .null, .null, .null, .null, .int 0, .int 0, .int 0, .int 0, .int 0, .int 0, .double 0])))) (va_Qv (fun (u : Gh) => Ext mo X0 g u ∧ tg u o = 12 + 64 * i ∧ pI u o 0 = 0 ∧ ∀ x, pI u (pF u o 5) x = 0) (fun (u : Gh) t => CX (dC, dI) kA eD b u t) (fun q => b ≤ q)) 8 384 (fun q => b ≤ q) := by
  refine Met.ofW (cc := cX1_init) (maxL := 2) (ret := none) (by decide +kernel) rfl ?_
  intro p e s m args below meth c s₁ B hml hv
  obtain ⟨rfl, ⟨hb0, hM, hK, hG, hE⟩, hf0, hbo, hXo⟩ := hv
  have hx := B.exec
  have hb := B.bytes
  have hr := B.returns
  have hts := atoms_spec (ws := wsX1_init) B.pre
  have hown : s.vm.findClass RX1 = some m.cls := findClass_of_methodNamed B.named
  have hlocks := B.notSynchronized
  have hin : meth.name = "<init>" := (name_of_methodNamed B.named B.method).1
  have hT := hE.1
  have hN := hE.2.2.2.2.2.2.2.1
  have hS : va_S (fun q => b ≤ q) s.heap s.heap [] := va_S.rf
  have hl := lv_entry ([.ref o]) (n := 2) (Nat.le_of_ble_eq_true rfl)
  rw [lg_entry_eq]
  generalize (lg_sl ([.ref o]) ++ List.replicate (2 - (lg_sl ([.ref o])).length) Slot.unset).toArray = ls at hl ⊢
  have hl : lv_has ls 2 [(0, .ref o)] := hl
  generalize ([.ref o] : List Value).toArray = args at hts ⊢
  refine W.q (fun Q hQ => ?_)
  refine lv_aload_n hx hb dX1_init_0 rfl (lv_at hl 0 rfl) ?_
  refine W.objInit hx hb hown (hts (.methodLink RX1 3 objectInit) (by decide +kernel)) (hts (.instanceMethod objectInit) (by decide +kernel)) (hts (.code objectInit ⟨#[0xb1]⟩ 1 none) (by decide +kernel)) rfl (by rw [hml]; exact hl.1) rfl dX1_init_1 (Nat.le_of_ble_eq_true rfl) (Nat.le_of_ble_eq_true rfl) ?_
  refine W.eq (g2 := F0 m 4 ls []) rfl ?_
  refine lv_aload_n hx hb dX1_init_4 rfl (lv_at hl 0 rfl) ?_
  refine lv_bipush (v := 48) hx hb dX1_init_5 (by decide) ?_
  obtain ⟨q1, hq1⟩ : ∃ z, z = s.heap.size := ⟨_, rfl⟩
  have fq1 : tg g q1 = 0 := by rw [hq1]; exact hM.fresh
  have bq1 : b ≤ q1 := by rw [hq1]; exact Nat.le_trans hb0 hS.1
  have ne2 : o ≠ q1 := by have := (va_of1 hXo).lt; omega
  refine rt_newa (D := (dC, dI)) (t0 := 2) (atype := .char) (a0 := (48, .inl (fun _ => 0))) hx hb (hts (.arrayClass .char) (by decide +kernel)) (ty := .char) rfl hK rfl hS (N' := 48) (fun _ => rfl) (by decide) (by decide) (Nat.le_of_ble_eq_true rfl) (Nat.le_of_ble_eq_true rfl) (Nat.le_of_ble_eq_true rfl) dX1_init_7 (fun H hP hz ho hS => ?_)
  rw [← hq1] at hP ⊢
  have hM := hM.keep ho
  have hXo := xk2 hXo ho
  have hXq1 : va_P (dC, dI) vwCl [(q1, .inl (kA 2, 48, .inl (fun _ => 0)))] H := hP
  have hM9 := hM.tell (t := 13) (fi := (fun _ => 0)) (ff := (fun _ => 0)) (fo := (fun _ => none)) (fl := (fun _ => 0)) fq1 bq1 hXq1 (by rw [show 13 % 64 = 13 by omega, show 13 / 64 = 0 by omega]; exact TE.m13 ⟨_, rfl, fun j hj => by decide⟩)
  have hG9 := nw_G (t := 13) (fi := (fun _ => 0)) (ff := (fun _ => 0)) (fo := (fun _ => none)) (fl := (fun _ => 0)) hG hM fq1 (by omega) (fun h9 => by omega)
  have hx4 : Ext mo X0 g (nw g q1 13 (fun _ => 0) (fun _ => 0) (fun _ => none) (fun _ => 0)) := Ext.nw fq1
  obtain ⟨g3, hg3⟩ : ∃ z, z = nw g q1 13 (fun _ => 0) (fun _ => 0) (fun _ => none) (fun _ => 0) := ⟨_, rfl⟩
  rw [← hg3] at hM9 hG9 hx4
  have hM := hM9
  have hG := hG9
  have hf5 : tg g3 o = 0 := by rw [hg3]; exact nw_0 ne2 hf0
  have ht6 : tg g3 q1 = 13 := by rw [hg3]; exact nw_t
  refine rt_putF (D := (dC, dI)) (ci := 5) (v := .ref q1) (ty := (.array .char)) (C := RX1) (T := TX1) (N := 15) hx hb hts (by decide +kernel) tyX1 tyX1_ok nmX1 hown hK hXo hbo hS rfl 0 (by decide) (hts (.fieldLink RX1 9 "Snowpalace$Site" "kinds" "[C") (by decide +kernel)) (fun _ h9 => h9) rfl hin rfl (by decide +kernel) rfl rfl (Nat.le_of_ble_eq_true rfl) dX1_init_9 (fun H locs hP hz ho hS => ?_)
  have hM := hM.out hf5 ho
  have hXo : va_P (dC, dI) vwCl [(o, .inr (5, [.ref q1, .null, .null, .null, .null, .null, .null, .null, .int 0, .int 0, .int 0, .int 0, .int 0, .int 0, .double 0]))] H := hP
  refine lv_aload_n hx hb dX1_init_12 rfl (lv_at hl 0 rfl) ?_
  refine lv_bipush (v := 48) hx hb dX1_init_13 (by decide) ?_
  obtain ⟨q7, hq7⟩ : ∃ z, z = H.size := ⟨_, rfl⟩
  have fq7 : tg g3 q7 = 0 := by rw [hq7]; exact hM.fresh
  have bq7 : b ≤ q7 := by rw [hq7]; exact Nat.le_trans hb0 hS.1
  have ne8 : o ≠ q7 := by have := (va_of1 hXo).lt; omega
  refine rt_newa (D := (dC, dI)) (t0 := 0) (atype := .int) (a0 := (48, .inl (fun _ => 0))) hx hb (hts (.arrayClass .int) (by decide +kernel)) (ty := .int) rfl hK rfl hS (N' := 48) (fun _ => rfl) (by decide) (by decide) (Nat.le_of_ble_eq_true rfl) (Nat.le_of_ble_eq_true rfl) (Nat.le_of_ble_eq_true rfl) dX1_init_15 (fun H hP hz ho hS => ?_)
  rw [← hq7] at hP ⊢
  have hM := hM.keep ho
  have hXo := xk2 hXo ho
  have hXq7 : va_P (dC, dI) vwCl [(q7, .inl (kA 0, 48, .inl (fun _ => 0)))] H := hP
  have hM9 := hM.tell (t := 14) (fi := (fun _ => 0)) (ff := (fun _ => 0)) (fo := (fun _ => none)) (fl := (fun _ => 0)) fq7 bq7 hXq7 (by rw [show 14 % 64 = 14 by omega, show 14 / 64 = 0 by omega]; exact TE.m14 ⟨_, rfl, trivial⟩)
  have hG9 := nw_G (t := 14) (fi := (fun _ => 0)) (ff := (fun _ => 0)) (fo := (fun _ => none)) (fl := (fun _ => 0)) hG hM fq7 (by omega) (fun h9 => by omega)
  have hx10 : Ext mo X0 g3 (nw g3 q7 14 (fun _ => 0) (fun _ => 0) (fun _ => none) (fun _ => 0)) := Ext.nw fq7
  obtain ⟨g9, hg9⟩ : ∃ z, z = nw g3 q7 14 (fun _ => 0) (fun _ => 0) (fun _ => none) (fun _ => 0) := ⟨_, rfl⟩
  rw [← hg9] at hM9 hG9 hx10
  have hM := hM9
  have hG := hG9
  have hf11 : tg g9 o = 0 := by rw [hg9]; exact nw_0 ne8 hf5
  have ht12 : tg g9 q1 = 13 := hx10.tk ht6 (by omega)
  have ht13 : tg g9 q7 = 14 := by rw [hg9]; exact nw_t
  refine rt_putF (D := (dC, dI)) (ci := 5) (v := .ref q7) (ty := (.array .int)) (C := RX1) (T := TX1) (N := 15) hx hb hts (by decide +kernel) tyX1 tyX1_ok nmX1 hown hK hXo hbo hS rfl 1 (by decide) (hts (.fieldLink RX1 15 "Snowpalace$Site" "masses" "[I") (by decide +kernel)) (fun _ h9 => h9) rfl hin rfl (by decide +kernel) rfl rfl (Nat.le_of_ble_eq_true rfl) dX1_init_17 (fun H locs hP hz ho hS => ?_)
  have hM := hM.out hf11 ho
  have hXo : va_P (dC, dI) vwCl [(o, .inr (5, [.ref q1, .ref q7, .null, .null, .null, .null, .null, .null, .int 0, .int 0, .int 0, .int 0, .int 0, .int 0, .double 0]))] H := hP
  refine lv_aload_n hx hb dX1_init_20 rfl (lv_at hl 0 rfl) ?_
  refine lv_bipush (v := 48) hx hb dX1_init_21 (by decide) ?_
  obtain ⟨q14, hq14⟩ : ∃ z, z = H.size := ⟨_, rfl⟩
  have fq14 : tg g9 q14 = 0 := by rw [hq14]; exact hM.fresh
  have bq14 : b ≤ q14 := by rw [hq14]; exact Nat.le_trans hb0 hS.1
  have ne15 : o ≠ q14 := by have := (va_of1 hXo).lt; omega
  refine rt_newa (D := (dC, dI)) (t0 := 0) (atype := .int) (a0 := (48, .inl (fun _ => 0))) hx hb (hts (.arrayClass .int) (by decide +kernel)) (ty := .int) rfl hK rfl hS (N' := 48) (fun _ => rfl) (by decide) (by decide) (Nat.le_of_ble_eq_true rfl) (Nat.le_of_ble_eq_true rfl) (Nat.le_of_ble_eq_true rfl) dX1_init_23 (fun H hP hz ho hS => ?_)
  rw [← hq14] at hP ⊢
  have hM := hM.keep ho
  have hXo := xk2 hXo ho
  have hXq14 : va_P (dC, dI) vwCl [(q14, .inl (kA 0, 48, .inl (fun _ => 0)))] H := hP
  have hM9 := hM.tell (t := 14) (fi := (fun _ => 0)) (ff := (fun _ => 0)) (fo := (fun _ => none)) (fl := (fun _ => 0)) fq14 bq14 hXq14 (by rw [show 14 % 64 = 14 by omega, show 14 / 64 = 0 by omega]; exact TE.m14 ⟨_, rfl, trivial⟩)
  have hG9 := nw_G (t := 14) (fi := (fun _ => 0)) (ff := (fun _ => 0)) (fo := (fun _ => none)) (fl := (fun _ => 0)) hG hM fq14 (by omega) (fun h9 => by omega)
  have hx17 : Ext mo X0 g9 (nw g9 q14 14 (fun _ => 0) (fun _ => 0) (fun _ => none) (fun _ => 0)) := Ext.nw fq14
  obtain ⟨g16, hg16⟩ : ∃ z, z = nw g9 q14 14 (fun _ => 0) (fun _ => 0) (fun _ => none) (fun _ => 0) := ⟨_, rfl⟩
  rw [← hg16] at hM9 hG9 hx17
  have hM := hM9
  have hG := hG9
  have hf18 : tg g16 o = 0 := by rw [hg16]; exact nw_0 ne15 hf11
  have ht19 : tg g16 q1 = 13 := hx17.tk ht12 (by omega)
  have ht20 : tg g16 q7 = 14 := hx17.tk ht13 (by omega)
  have ht21 : tg g16 q14 = 14 := by rw [hg16]; exact nw_t
  refine rt_putF (D := (dC, dI)) (ci := 5) (v := .ref q14) (ty := (.array .int)) (C := RX1) (T := TX1) (N := 15) hx hb hts (by decide +kernel) tyX1 tyX1_ok nmX1 hown hK hXo hbo hS rfl 2 (by decide) (hts (.fieldLink RX1 19 "Snowpalace$Site" "creeps" "[I") (by decide +kernel)) (fun _ h9 => h9) rfl hin rfl (by decide +kernel) rfl rfl (Nat.le_of_ble_eq_true rfl) dX1_init_25 (fun H locs hP hz ho hS => ?_)
  have hM := hM.out hf18 ho
  have hXo : va_P (dC, dI) vwCl [(o, .inr (5, [.ref q1, .ref q7, .ref q14, .null, .null, .null, .null, .null, .int 0, .int 0, .int 0, .int 0, .int 0, .int 0, .double 0]))] H := hP
  refine lv_aload_n hx hb dX1_init_28 rfl (lv_at hl 0 rfl) ?_
  refine lv_bipush (v := 48) hx hb dX1_init_29 (by decide) ?_
  obtain ⟨q22, hq22⟩ : ∃ z, z = H.size := ⟨_, rfl⟩
  have fq22 : tg g16 q22 = 0 := by rw [hq22]; exact hM.fresh
  have bq22 : b ≤ q22 := by rw [hq22]; exact Nat.le_trans hb0 hS.1
  have ne23 : o ≠ q22 := by have := (va_of1 hXo).lt; omega
  refine rt_newa (D := (dC, dI)) (t0 := 0) (atype := .int) (a0 := (48, .inl (fun _ => 0))) hx hb (hts (.arrayClass .int) (by decide +kernel)) (ty := .int) rfl hK rfl hS (N' := 48) (fun _ => rfl) (by decide) (by decide) (Nat.le_of_ble_eq_true rfl) (Nat.le_of_ble_eq_true rfl) (Nat.le_of_ble_eq_true rfl) dX1_init_31 (fun H hP hz ho hS => ?_)
  rw [← hq22] at hP ⊢
  have hM := hM.keep ho
  have hXo := xk2 hXo ho
  have hXq22 : va_P (dC, dI) vwCl [(q22, .inl (kA 0, 48, .inl (fun _ => 0)))] H := hP
  have hM9 := hM.tell (t := 14) (fi := (fun _ => 0)) (ff := (fun _ => 0)) (fo := (fun _ => none)) (fl := (fun _ => 0)) fq22 bq22 hXq22 (by rw [show 14 % 64 = 14 by omega, show 14 / 64 = 0 by omega]; exact TE.m14 ⟨_, rfl, trivial⟩)
  have hG9 := nw_G (t := 14) (fi := (fun _ => 0)) (ff := (fun _ => 0)) (fo := (fun _ => none)) (fl := (fun _ => 0)) hG hM fq22 (by omega) (fun h9 => by omega)
  have hx25 : Ext mo X0 g16 (nw g16 q22 14 (fun _ => 0) (fun _ => 0) (fun _ => none) (fun _ => 0)) := Ext.nw fq22
  obtain ⟨g24, hg24⟩ : ∃ z, z = nw g16 q22 14 (fun _ => 0) (fun _ => 0) (fun _ => none) (fun _ => 0) := ⟨_, rfl⟩
  rw [← hg24] at hM9 hG9 hx25
  have hM := hM9
  have hG := hG9
  have hf26 : tg g24 o = 0 := by rw [hg24]; exact nw_0 ne23 hf18
  have ht27 : tg g24 q1 = 13 := hx25.tk ht19 (by omega)
  have ht28 : tg g24 q7 = 14 := hx25.tk ht20 (by omega)
  have ht29 : tg g24 q14 = 14 := hx25.tk ht21 (by omega)
  have ht30 : tg g24 q22 = 14 := by rw [hg24]; exact nw_t
  refine rt_putF (D := (dC, dI)) (ci := 5) (v := .ref q22) (ty := (.array .int)) (C := RX1) (T := TX1) (N := 15) hx hb hts (by decide +kernel) tyX1 tyX1_ok nmX1 hown hK hXo hbo hS rfl 3 (by decide) (hts (.fieldLink RX1 22 "Snowpalace$Site" "ages" "[I") (by decide +kernel)) (fun _ h9 => h9) rfl hin rfl (by decide +kernel) rfl rfl (Nat.le_of_ble_eq_true rfl) dX1_init_33 (fun H locs hP hz ho hS => ?_)
  have hM := hM.out hf26 ho
  have hXo : va_P (dC, dI) vwCl [(o, .inr (5, [.ref q1, .ref q7, .ref q14, .ref q22, .null, .null, .null, .null, .int 0, .int 0, .int 0, .int 0, .int 0, .int 0, .double 0]))] H := hP
  refine lv_aload_n hx hb dX1_init_36 rfl (lv_at hl 0 rfl) ?_
  refine lv_bipush (v := 48) hx hb dX1_init_37 (by decide) ?_
  obtain ⟨q31, hq31⟩ : ∃ z, z = H.size := ⟨_, rfl⟩
  have fq31 : tg g24 q31 = 0 := by rw [hq31]; exact hM.fresh
  have bq31 : b ≤ q31 := by rw [hq31]; exact Nat.le_trans hb0 hS.1
  have ne32 : o ≠ q31 := by have := (va_of1 hXo).lt; omega
  refine rt_newa (D := (dC, dI)) (t0 := 1) (atype := .boolean) (a0 := (48, .inl (fun _ => 0))) hx hb (hts (.arrayClass .boolean) (by decide +kernel)) (ty := .boolean) rfl hK rfl hS (N' := 48) (fun _ => rfl) (by decide) (by decide) (Nat.le_of_ble_eq_true rfl) (Nat.le_of_ble_eq_true rfl) (Nat.le_of_ble_eq_true rfl) dX1_init_39 (fun H hP hz ho hS => ?_)
  rw [← hq31] at hP ⊢
  have hM := hM.keep ho
  have hXo := xk2 hXo ho
  have hXq31 : va_P (dC, dI) vwCl [(q31, .inl (kA 1, 48, .inl (fun _ => 0)))] H := hP
  have hM9 := hM.tell (t := 15) (fi := (fun _ => 0)) (ff := (fun _ => 0)) (fo := (fun _ => none)) (fl := (fun _ => 0)) fq31 bq31 hXq31 (by rw [show 15 % 64 = 15 by omega, show 15 / 64 = 0 by omega]; exact TE.m15 ⟨_, rfl, fun j hj => Or.inl rfl⟩)
  have hG9 := nw_G (t := 15) (fi := (fun _ => 0)) (ff := (fun _ => 0)) (fo := (fun _ => none)) (fl := (fun _ => 0)) hG hM fq31 (by omega) (fun h9 => by omega)
  have hx34 : Ext mo X0 g24 (nw g24 q31 15 (fun _ => 0) (fun _ => 0) (fun _ => none) (fun _ => 0)) := Ext.nw fq31
  obtain ⟨g33, hg33⟩ : ∃ z, z = nw g24 q31 15 (fun _ => 0) (fun _ => 0) (fun _ => none) (fun _ => 0) := ⟨_, rfl⟩
  rw [← hg33] at hM9 hG9 hx34
  have hM := hM9
  have hG := hG9
  have hf35 : tg g33 o = 0 := by rw [hg33]; exact nw_0 ne32 hf26
  have ht36 : tg g33 q1 = 13 := hx34.tk ht27 (by omega)
  have ht37 : tg g33 q7 = 14 := hx34.tk ht28 (by omega)
  have ht38 : tg g33 q14 = 14 := hx34.tk ht29 (by omega)
  have ht39 : tg g33 q22 = 14 := hx34.tk ht30 (by omega)
  have ht40 : tg g33 q31 = 15 := by rw [hg33]; exact nw_t
  refine rt_putF (D := (dC, dI)) (ci := 5) (v := .ref q31) (ty := (.array .boolean)) (C := RX1) (T := TX1) (N := 15) hx hb hts (by decide +kernel) tyX1 tyX1_ok nmX1 hown hK hXo hbo hS rfl 4 (by decide) (hts (.fieldLink RX1 25 "Snowpalace$Site" "lamps" "[Z") (by decide +kernel)) (fun _ h9 => h9) rfl hin rfl (by decide +kernel) rfl rfl (Nat.le_of_ble_eq_true rfl) dX1_init_41 (fun H locs hP hz ho hS => ?_)
  have hM := hM.out hf35 ho
  have hXo : va_P (dC, dI) vwCl [(o, .inr (5, [.ref q1, .ref q7, .ref q14, .ref q22, .ref q31, .null, .null, .null, .int 0, .int 0, .int 0, .int 0, .int 0, .int 0, .double 0]))] H := hP
  refine lv_aload_n hx hb dX1_init_44 rfl (lv_at hl 0 rfl) ?_
  refine lv_bipush (v := 48) hx hb dX1_init_45 (by decide) ?_
  obtain ⟨q41, hq41⟩ : ∃ z, z = H.size := ⟨_, rfl⟩
  have fq41 : tg g33 q41 = 0 := by rw [hq41]; exact hM.fresh
  have bq41 : b ≤ q41 := by rw [hq41]; exact Nat.le_trans hb0 hS.1
  have ne42 : o ≠ q41 := by have := (va_of1 hXo).lt; omega
  refine rt_newa (D := (dC, dI)) (t0 := 1) (atype := .boolean) (a0 := (48, .inl (fun _ => 0))) hx hb (hts (.arrayClass .boolean) (by decide +kernel)) (ty := .boolean) rfl hK rfl hS (N' := 48) (fun _ => rfl) (by decide) (by decide) (Nat.le_of_ble_eq_true rfl) (Nat.le_of_ble_eq_true rfl) (Nat.le_of_ble_eq_true rfl) dX1_init_47 (fun H hP hz ho hS => ?_)
  rw [← hq41] at hP ⊢
  have hM := hM.keep ho
  have hXo := xk2 hXo ho
  have hXq41 : va_P (dC, dI) vwCl [(q41, .inl (kA 1, 48, .inl (fun _ => 0)))] H := hP
  have hM9 := hM.tell (t := (16 + 64 * i)) (fi := (fun _ => 0)) (ff := (fun _ => 0)) (fo := (fun _ => none)) (fl := (fun _ => 0)) fq41 bq41 hXq41 (by rw [show (16 + 64 * i) % 64 = 16 by omega, show (16 + 64 * i) / 64 = i by omega]; exact TE.m16 ⟨rfl, fun j hj => Or.inl rfl⟩)
  have hG9 := nw_G (t := (16 + 64 * i)) (fi := (fun _ => 0)) (ff := (fun _ => 0)) (fo := (fun _ => none)) (fl := (fun _ => 0)) hG hM fq41 (by omega) (fun h9 => by omega)
  have hx44 : Ext mo X0 g33 (nw g33 q41 (16 + 64 * i) (fun _ => 0) (fun _ => 0) (fun _ => none) (fun _ => 0)) := Ext.nw fq41
  obtain ⟨g43, hg43⟩ : ∃ z, z = nw g33 q41 (16 + 64 * i) (fun _ => 0) (fun _ => 0) (fun _ => none) (fun _ => 0) := ⟨_, rfl⟩
  rw [← hg43] at hM9 hG9 hx44
  have hM := hM9
  have hG := hG9
  have hf45 : tg g43 o = 0 := by rw [hg43]; exact nw_0 ne42 hf35
  have ht46 : tg g43 q1 = 13 := hx44.tk ht36 (by omega)
  have ht47 : tg g43 q7 = 14 := hx44.tk ht37 (by omega)
  have ht48 : tg g43 q14 = 14 := hx44.tk ht38 (by omega)
  have ht49 : tg g43 q22 = 14 := hx44.tk ht39 (by omega)
  have ht50 : tg g43 q31 = 15 := hx44.tk ht40 (by omega)
  have ht51 : tg g43 q41 = 16 + 64 * i := by rw [hg43]; exact nw_t
  refine rt_putF (D := (dC, dI)) (ci := 5) (v := .ref q41) (ty := (.array .boolean)) (C := RX1) (T := TX1) (N := 15) hx hb hts (by decide +kernel) tyX1 tyX1_ok nmX1 hown hK hXo hbo hS rfl 5 (by decide) (hts (.fieldLink RX1 29 "Snowpalace$Site" "planned" "[Z") (by decide +kernel)) (fun _ h9 => h9) rfl hin rfl (by decide +kernel) rfl rfl (Nat.le_of_ble_eq_true rfl) dX1_init_49 (fun H locs hP hz ho hS => ?_)
  have hM := hM.out hf45 ho
  have hXo : va_P (dC, dI) vwCl [(o, .inr (5, [.ref q1, .ref q7, .ref q14, .ref q22, .ref q31, .ref q41, .null, .null, .int 0, .int 0, .int 0, .int 0, .int 0, .int 0, .double 0]))] H := hP
  refine lv_aload_n hx hb dX1_init_52 rfl (lv_at hl 0 rfl) ?_
  refine lv_bipush (v := 48) hx hb dX1_init_53 (by decide) ?_
  obtain ⟨q52, hq52⟩ : ∃ z, z = H.size := ⟨_, rfl⟩
  have fq52 : tg g43 q52 = 0 := by rw [hq52]; exact hM.fresh
  have bq52 : b ≤ q52 := by rw [hq52]; exact Nat.le_trans hb0 hS.1
  have ne53 : o ≠ q52 := by have := (va_of1 hXo).lt; omega
  refine rt_newa (D := (dC, dI)) (t0 := 0) (atype := .int) (a0 := (48, .inl (fun _ => 0))) hx hb (hts (.arrayClass .int) (by decide +kernel)) (ty := .int) rfl hK rfl hS (N' := 48) (fun _ => rfl) (by decide) (by decide) (Nat.le_of_ble_eq_true rfl) (Nat.le_of_ble_eq_true rfl) (Nat.le_of_ble_eq_true rfl) dX1_init_55 (fun H hP hz ho hS => ?_)
  rw [← hq52] at hP ⊢
  have hM := hM.keep ho
  have hXo := xk2 hXo ho
  have hXq52 : va_P (dC, dI) vwCl [(q52, .inl (kA 0, 48, .inl (fun _ => 0)))] H := hP
  have hM9 := hM.tell (t := 14) (fi := (fun _ => 0)) (ff := (fun _ => 0)) (fo := (fun _ => none)) (fl := (fun _ => 0)) fq52 bq52 hXq52 (by rw [show 14 % 64 = 14 by omega, show 14 / 64 = 0 by omega]; exact TE.m14 ⟨_, rfl, trivial⟩)
  have hG9 := nw_G (t := 14) (fi := (fun _ => 0)) (ff := (fun _ => 0)) (fo := (fun _ => none)) (fl := (fun _ => 0)) hG hM fq52 (by omega) (fun h9 => by omega)
  have hx55 : Ext mo X0 g43 (nw g43 q52 14 (fun _ => 0) (fun _ => 0) (fun _ => none) (fun _ => 0)) := Ext.nw fq52
  obtain ⟨g54, hg54⟩ : ∃ z, z = nw g43 q52 14 (fun _ => 0) (fun _ => 0) (fun _ => none) (fun _ => 0) := ⟨_, rfl⟩
  rw [← hg54] at hM9 hG9 hx55
  have hM := hM9
  have hG := hG9
  have hf56 : tg g54 o = 0 := by rw [hg54]; exact nw_0 ne53 hf45
  have ht57 : tg g54 q1 = 13 := hx55.tk ht46 (by omega)
  have ht58 : tg g54 q7 = 14 := hx55.tk ht47 (by omega)
  have ht59 : tg g54 q14 = 14 := hx55.tk ht48 (by omega)
  have ht60 : tg g54 q22 = 14 := hx55.tk ht49 (by omega)
  have ht61 : tg g54 q31 = 15 := hx55.tk ht50 (by omega)
  have ht62 : tg g54 q41 = 16 + 64 * i := hx55.tk ht51 (by omega)
  have ht63 : tg g54 q52 = 14 := by rw [hg54]; exact nw_t
  refine rt_putF (D := (dC, dI)) (ci := 5) (v := .ref q52) (ty := (.array .int)) (C := RX1) (T := TX1) (N := 15) hx hb hts (by decide +kernel) tyX1 tyX1_ok nmX1 hown hK hXo hbo hS rfl 6 (by decide) (hts (.fieldLink RX1 32 "Snowpalace$Site" "loads" "[I") (by decide +kernel)) (fun _ h9 => h9) rfl hin rfl (by decide +kernel) rfl rfl (Nat.le_of_ble_eq_true rfl) dX1_init_57 (fun H locs hP hz ho hS => ?_)
  have hM := hM.out hf56 ho
  have hXo : va_P (dC, dI) vwCl [(o, .inr (5, [.ref q1, .ref q7, .ref q14, .ref q22, .ref q31, .ref q41, .ref q52, .null, .int 0, .int 0, .int 0, .int 0, .int 0, .int 0, .double 0]))] H := hP
  refine lv_aload_n hx hb dX1_init_60 rfl (lv_at hl 0 rfl) ?_
  refine lv_bipush (v := 48) hx hb dX1_init_61 (by decide) ?_
  obtain ⟨q64, hq64⟩ : ∃ z, z = H.size := ⟨_, rfl⟩
  have fq64 : tg g54 q64 = 0 := by rw [hq64]; exact hM.fresh
  have bq64 : b ≤ q64 := by rw [hq64]; exact Nat.le_trans hb0 hS.1
  have ne65 : o ≠ q64 := by have := (va_of1 hXo).lt; omega
  refine rt_newa (D := (dC, dI)) (t0 := 1) (atype := .boolean) (a0 := (48, .inl (fun _ => 0))) hx hb (hts (.arrayClass .boolean) (by decide +kernel)) (ty := .boolean) rfl hK rfl hS (N' := 48) (fun _ => rfl) (by decide) (by decide) (Nat.le_of_ble_eq_true rfl) (Nat.le_of_ble_eq_true rfl) (Nat.le_of_ble_eq_true rfl) dX1_init_63 (fun H hP hz ho hS => ?_)
  rw [← hq64] at hP ⊢
  have hM := hM.keep ho
  have hXo := xk2 hXo ho
  have hXq64 : va_P (dC, dI) vwCl [(q64, .inl (kA 1, 48, .inl (fun _ => 0)))] H := hP
  have hM9 := hM.tell (t := 15) (fi := (fun _ => 0)) (ff := (fun _ => 0)) (fo := (fun _ => none)) (fl := (fun _ => 0)) fq64 bq64 hXq64 (by rw [show 15 % 64 = 15 by omega, show 15 / 64 = 0 by omega]; exact TE.m15 ⟨_, rfl, fun j hj => Or.inl rfl⟩)
  have hG9 := nw_G (t := 15) (fi := (fun _ => 0)) (ff := (fun _ => 0)) (fo := (fun _ => none)) (fl := (fun _ => 0)) hG hM fq64 (by omega) (fun h9 => by omega)
  have hx67 : Ext mo X0 g54 (nw g54 q64 15 (fun _ => 0) (fun _ => 0) (fun _ => none) (fun _ => 0)) := Ext.nw fq64
  obtain ⟨g66, hg66⟩ : ∃ z, z = nw g54 q64 15 (fun _ => 0) (fun _ => 0) (fun _ => none) (fun _ => 0) := ⟨_, rfl⟩
  rw [← hg66] at hM9 hG9 hx67
  have hM := hM9
  have hG := hG9
  have hf68 : tg g66 o = 0 := by rw [hg66]; exact nw_0 ne65 hf56
  have ht69 : tg g66 q1 = 13 := hx67.tk ht57 (by omega)
  have ht70 : tg g66 q7 = 14 := hx67.tk ht58 (by omega)
  have ht71 : tg g66 q14 = 14 := hx67.tk ht59 (by omega)
  have ht72 : tg g66 q22 = 14 := hx67.tk ht60 (by omega)
  have ht73 : tg g66 q31 = 15 := hx67.tk ht61 (by omega)
  have ht74 : tg g66 q41 = 16 + 64 * i := hx67.tk ht62 (by omega)
  have ht75 : tg g66 q52 = 14 := hx67.tk ht63 (by omega)
  have ht76 : tg g66 q64 = 15 := by rw [hg66]; exact nw_t
  refine rt_putF (D := (dC, dI)) (ci := 5) (v := .ref q64) (ty := (.array .boolean)) (C := RX1) (T := TX1) (N := 15) hx hb hts (by decide +kernel) tyX1 tyX1_ok nmX1 hown hK hXo hbo hS rfl 7 (by decide) (hts (.fieldLink RX1 35 "Snowpalace$Site" "falling" "[Z") (by decide +kernel)) (fun _ h9 => h9) rfl hin rfl (by decide +kernel) rfl rfl (Nat.le_of_ble_eq_true rfl) dX1_init_65 (fun H locs hP hz ho hS => ?_)
  have hM := hM.out hf68 ho
  have hXo : va_P (dC, dI) vwCl [(o, .inr (5, [.ref q1, .ref q7, .ref q14, .ref q22, .ref q31, .ref q41, .ref q52, .ref q64, .int 0, .int 0, .int 0, .int 0, .int 0, .int 0, .double 0]))] H := hP
  refine lv_aload_n hx hb dX1_init_68 rfl (lv_at hl 0 rfl) ?_
  refine lv_iconst (v := 0) hx hb dX1_init_69 (by decide) ?_
  refine rt_put (D := (dC, dI)) (ci := 5) (v := .int 0) (ty := .boolean) (C := RX1) (T := TX1) (N := 15) hx hb hts (by decide +kernel) tyX1 tyX1_ok nmX1 hown hK hXo hbo hS rfl 8 (by decide) (hts (.fieldLink RX1 38 "Snowpalace$Site" "covered" "Z") (by decide +kernel)) (fun _ h9 => h9) rfl (by decide +kernel) rfl rfl (Nat.le_of_ble_eq_true rfl) dX1_init_70 (fun H locs hP hz ho hS => ?_)
  have hM := hM.out hf68 ho
  have hXo : va_P (dC, dI) vwCl [(o, .inr (5, [.ref q1, .ref q7, .ref q14, .ref q22, .ref q31, .ref q41, .ref q52, .ref q64, .int 0, .int 0, .int 0, .int 0, .int 0, .int 0, .double 0]))] H := hP
  refine lv_aload_n hx hb dX1_init_73 rfl (lv_at hl 0 rfl) ?_
  refine lv_iconst (v := 0) hx hb dX1_init_74 (by decide) ?_
  refine rt_put (D := (dC, dI)) (ci := 5) (v := .int 0) (ty := .int) (C := RX1) (T := TX1) (N := 15) hx hb hts (by decide +kernel) tyX1 tyX1_ok nmX1 hown hK hXo hbo hS rfl 9 (by decide) (hts (.fieldLink RX1 42 "Snowpalace$Site" "fallen" "I") (by decide +kernel)) (fun _ h9 => h9) rfl (by decide +kernel) rfl rfl (Nat.le_of_ble_eq_true rfl) dX1_init_75 (fun H locs hP hz ho hS => ?_)
  have hM := hM.out hf68 ho
  have hXo : va_P (dC, dI) vwCl [(o, .inr (5, [.ref q1, .ref q7, .ref q14, .ref q22, .ref q31, .ref q41, .ref q52, .ref q64, .int 0, .int 0, .int 0, .int 0, .int 0, .int 0, .double 0]))] H := hP
  refine lv_aload_n hx hb dX1_init_78 rfl (lv_at hl 0 rfl) ?_
  refine lv_iconst (v := (-1)) hx hb dX1_init_79 (by decide) ?_
  refine rt_put (D := (dC, dI)) (ci := 5) (v := .int (-1)) (ty := .int) (C := RX1) (T := TX1) (N := 15) hx hb hts (by decide +kernel) tyX1 tyX1_ok nmX1 hown hK hXo hbo hS rfl 10 (by decide) (hts (.fieldLink RX1 46 "Snowpalace$Site" "lastFallen" "I") (by decide +kernel)) (fun _ h9 => h9) rfl (by decide +kernel) rfl rfl (Nat.le_of_ble_eq_true rfl) dX1_init_80 (fun H locs hP hz ho hS => ?_)
  have hM := hM.out hf68 ho
  have hXo : va_P (dC, dI) vwCl [(o, .inr (5, [.ref q1, .ref q7, .ref q14, .ref q22, .ref q31, .ref q41, .ref q52, .ref q64, .int 0, .int 0, .int (-1), .int 0, .int 0, .int 0, .double 0]))] H := hP
  refine lv_aload_n hx hb dX1_init_83 rfl (lv_at hl 0 rfl) ?_
  refine lv_iconst (v := 0) hx hb dX1_init_84 (by decide) ?_
  refine rt_put (D := (dC, dI)) (ci := 5) (v := .int 0) (ty := .int) (C := RX1) (T := TX1) (N := 15) hx hb hts (by decide +kernel) tyX1 tyX1_ok nmX1 hown hK hXo hbo hS rfl 11 (by decide) (hts (.fieldLink RX1 49 "Snowpalace$Site" "visitors" "I") (by decide +kernel)) (fun _ h9 => h9) rfl (by decide +kernel) rfl rfl (Nat.le_of_ble_eq_true rfl) dX1_init_85 (fun H locs hP hz ho hS => ?_)
  have hM := hM.out hf68 ho
  have hXo : va_P (dC, dI) vwCl [(o, .inr (5, [.ref q1, .ref q7, .ref q14, .ref q22, .ref q31, .ref q41, .ref q52, .ref q64, .int 0, .int 0, .int (-1), .int 0, .int 0, .int 0, .double 0]))] H := hP
  refine lv_aload_n hx hb dX1_init_88 rfl (lv_at hl 0 rfl) ?_
  refine lv_iconst (v := 0) hx hb dX1_init_89 (by decide) ?_
  refine rt_put (D := (dC, dI)) (ci := 5) (v := .int 0) (ty := .int) (C := RX1) (T := TX1) (N := 15) hx hb hts (by decide +kernel) tyX1 tyX1_ok nmX1 hown hK hXo hbo hS rfl 12 (by decide) (hts (.fieldLink RX1 52 "Snowpalace$Site" "carvedHours" "I") (by decide +kernel)) (fun _ h9 => h9) rfl (by decide +kernel) rfl rfl (Nat.le_of_ble_eq_true rfl) dX1_init_90 (fun H locs hP hz ho hS => ?_)
  have hM := hM.out hf68 ho
  have hXo : va_P (dC, dI) vwCl [(o, .inr (5, [.ref q1, .ref q7, .ref q14, .ref q22, .ref q31, .ref q41, .ref q52, .ref q64, .int 0, .int 0, .int (-1), .int 0, .int 0, .int 0, .double 0]))] H := hP
  refine lv_aload_n hx hb dX1_init_93 rfl (lv_at hl 0 rfl) ?_
  refine lv_iconst (v := 0) hx hb dX1_init_94 (by decide) ?_
  refine rt_put (D := (dC, dI)) (ci := 5) (v := .int 0) (ty := .boolean) (C := RX1) (T := TX1) (N := 15) hx hb hts (by decide +kernel) tyX1 tyX1_ok nmX1 hown hK hXo hbo hS rfl 13 (by decide) (hts (.fieldLink RX1 55 "Snowpalace$Site" "judged" "Z") (by decide +kernel)) (fun _ h9 => h9) rfl (by decide +kernel) rfl rfl (Nat.le_of_ble_eq_true rfl) dX1_init_95 (fun H locs hP hz ho hS => ?_)
  have hM := hM.out hf68 ho
  have hXo : va_P (dC, dI) vwCl [(o, .inr (5, [.ref q1, .ref q7, .ref q14, .ref q22, .ref q31, .ref q41, .ref q52, .ref q64, .int 0, .int 0, .int (-1), .int 0, .int 0, .int 0, .double 0]))] H := hP
  refine lv_aload_n hx hb dX1_init_98 rfl (lv_at hl 0 rfl) ?_
  refine lv_dconst0 hx hb dX1_init_99 ?_
  refine rt_put (D := (dC, dI)) (ci := 5) (v := .double FP.dconst0) (ty := .double) (C := RX1) (T := TX1) (N := 15) hx hb hts (by decide +kernel) tyX1 tyX1_ok nmX1 hown hK hXo hbo hS rfl 14 (by decide) (hts (.fieldLink RX1 58 "Snowpalace$Site" "lastMark" "D") (by decide +kernel)) (fun _ h9 => h9) rfl (by decide +kernel) rfl rfl (Nat.le_of_ble_eq_true rfl) dX1_init_100 (fun H locs hP hz ho hS => ?_)
  have hM := hM.out hf68 ho
  have hXo : va_P (dC, dI) vwCl [(o, .inr (5, [.ref q1, .ref q7, .ref q14, .ref q22, .ref q31, .ref q41, .ref q52, .ref q64, .int 0, .int 0, .int (-1), .int 0, .int 0, .int 0, .double FP.dconst0]))] H := hP
  refine lv_iconst (v := 0) hx hb dX1_init_103 (by decide) ?_
  refine lv_istore_n (lv' := [(1, .int 0), (0, .ref o)]) hx hb dX1_init_104 rfl hl (by decide) rfl (fun ls hl => ?_)
  have lp78 : ∀ (n79 j77 : Nat) , 0 ≤ j77 → j77 ≤ 48 → 48 < j77 + n79 → ∀ (H : Heap) (locs : List Loc) (ls : Array Slot), va_P (dC, dI) vwCl [(o, .inr (5, [.ref q1, .ref q7, .ref q14, .ref q22, .ref q31, .ref q41, .ref q52, .ref q64, .int 0, .int 0, .int (-1), .int 0, .int 0, .int 0, .double FP.dconst0]))] H → TM (dC, dI) kA b g66 H → va_S (fun q => b ≤ q) s.heap H locs → lv_has ls 2 [(1, .int (nI j77)), (0, .ref o)] → W p l e (headSpec wsX1_init ({ frames := 1, cells := 8, slots := 384, locals := 12 })).room s m args below meth c H locs 8 384 Q (F0 m 105 ls []) := by
    intro n79
    induction n79 with
    | zero => intro j77 h0 h1 h2; omega
    | succ n79 ih80 =>
      intro j77 lj77 hj77 hn79 H locs ls hXo hM hS hl
      refine lv_iload_n hx hb dX1_init_105 rfl (lv_at hl 0 rfl) ?_
      refine lv_bipush (v := 48) hx hb dX1_init_106 (by decide) ?_
      refine lv_icmp_ge (tgt := 125) hx hb dX1_init_108 (by decide) (fun c81 => ?_) (fun c81 => ?_)
      · skip
        have k82 : 48 ≤ j77 := (nI_leI (a := 48) (b := j77) (by omega) (by omega)).mp c81
        have hM9 := hM.tell (t := (12 + 64 * i)) (fi := (fun _ => 0)) (ff := (fun j9 => if j9 = 0 then q1 else if j9 = 1 then q7 else if j9 = 2 then q14 else if j9 = 3 then q22 else if j9 = 4 then q31 else if j9 = 5 then q41 else if j9 = 6 then q52 else q64)) (fo := (fun _ => none)) (fl := (fun _ => 0)) hf68 hbo hXo (by rw [show (12 + 64 * i) % 64 = 12 by omega, show (12 + 64 * i) / 64 = i by omega]; exact TE.m12 ⟨0, (-1), 0, 0, 0, FP.dconst0, rfl, (nw_k ht69 (by omega) hf68), (nw_k ht70 (by omega) hf68), (nw_k ht71 (by omega) hf68), (nw_k ht72 (by omega) hf68), (nw_k ht73 (by omega) hf68), (nw_k ht74 (by omega) hf68), (nw_k ht75 (by omega) hf68), (nw_k ht76 (by omega) hf68), Or.inl rfl⟩)
        have hG9 := nw_G (t := (12 + 64 * i)) (fi := (fun _ => 0)) (ff := (fun j9 => if j9 = 0 then q1 else if j9 = 1 then q7 else if j9 = 2 then q14 else if j9 = 3 then q22 else if j9 = 4 then q31 else if j9 = 5 then q41 else if j9 = 6 then q52 else q64)) (fo := (fun _ => none)) (fl := (fun _ => 0)) hG hM hf68 (by omega) (fun h9 => by omega)
        have hx84 : Ext mo X0 g66 (nw g66 o (12 + 64 * i) (fun _ => 0) (fun j9 => if j9 = 0 then q1 else if j9 = 1 then q7 else if j9 = 2 then q14 else if j9 = 3 then q22 else if j9 = 4 then q31 else if j9 = 5 then q41 else if j9 = 6 then q52 else q64) (fun _ => none) (fun _ => 0)) := Ext.nw hf68
        obtain ⟨g83, hg83⟩ : ∃ z, z = nw g66 o (12 + 64 * i) (fun _ => 0) (fun j9 => if j9 = 0 then q1 else if j9 = 1 then q7 else if j9 = 2 then q14 else if j9 = 3 then q22 else if j9 = 4 then q31 else if j9 = 5 then q41 else if j9 = 6 then q52 else q64) (fun _ => none) (fun _ => 0) := ⟨_, rfl⟩
        rw [← hg83] at hM9 hG9 hx84
        have hM := hM9
        have hG := hG9
        have ht85 : tg g83 q1 = 13 := hx84.tk ht69 (by omega)
        have ht86 : tg g83 q7 = 14 := hx84.tk ht70 (by omega)
        have ht87 : tg g83 q14 = 14 := hx84.tk ht71 (by omega)
        have ht88 : tg g83 q22 = 14 := hx84.tk ht72 (by omega)
        have ht89 : tg g83 q31 = 15 := hx84.tk ht73 (by omega)
        have ht90 : tg g83 q41 = 16 + 64 * i := hx84.tk ht74 (by omega)
        have ht91 : tg g83 q52 = 14 := hx84.tk ht75 (by omega)
        have ht92 : tg g83 q64 = 15 := hx84.tk ht76 (by omega)
        have ht93 : tg g83 o = 12 + 64 * i := by rw [hg83]; exact nw_t
        have hn1 : pI g83 o 0 = 0 := by rw [hg83]; exact congrFun nw_I 0
        have hn5 : pF g83 o 5 = q41 := by rw [hg83]; exact congrFun nw_F 5
        have hn6 : ∀ x, x ≠ 2 ∨ q41 ≠ mo → pI g83 q41 x = 0 := fun x hx9 => by rw [(((hx55.trans hx67).trans hx84) : Ext mo X0 g43 g83).i (by have := ht51; omega) (hx9.symm), hg43]; exact congrFun nw_I x
        have hn7 : q41 ≠ mo := fun e9 => by have h9 := fq41; rw [e9] at h9; exact hmo (tg_old h9 (((((hx4.trans hx10).trans hx17).trans hx25).trans hx34) : Ext mo X0 g g33))
        subst hQ
        refine W.widen (k := 8) (n := 384) (Nat.le_of_ble_eq_true rfl) (Nat.le_of_ble_eq_true rfl) ?_
        exact W.vret hx hb hr (fun t ht hW => ⟨⟨g83, rfl, ⟨((((((((hx4.trans hx10).trans hx17).trans hx25).trans hx34).trans hx44).trans hx55).trans hx67).trans hx84), ht93, hn1, fun x => by rw [hn5]; exact hn6 x (Or.inr hn7)⟩, CX.give hb0 hM hK hG hE hS ht hW⟩, hS.F ht⟩) hS.2.2 dX1_init_125
      · skip
        have k94 : ¬ (48 ≤ j77) := fun z => c81 ((nI_leI (a := 48) (b := j77) (by omega) (by omega)).mpr z)
        refine lv_aload_n hx hb dX1_init_111 rfl (lv_at hl 1 rfl) ?_
        refine va_get (D := (dC, dI)) (ci := 5) (v := .ref q1) (C := RX1) (T := TX1) (N := 15) hx hb hts (by decide +kernel) hown hK hXo 0 rfl rfl 0 (by decide) (hts (.fieldLink RX1 9 "Snowpalace$Site" "kinds" "[C") (by decide +kernel)) (fun _ h9 => h9) rfl dX1_init_112 ?_
        refine lv_iload_n hx hb dX1_init_115 rfl (lv_at hl 0 rfl) ?_
        refine lv_bipush (v := 46) hx hb dX1_init_116 (by decide) ?_
        obtain ⟨u95, hP, hf⟩ := o_kn (i := 0) (q := q1) hM (by omega)
        refine rt_cast (D := (dC, dI)) (t0 := 2) hx hb hK hP (hM.ge (by omega)) hS rfl (vp_in_nI (by omega) (by decide)) dX1_init_118 (fun H locs hP hz ho hS => ?_)
        have ec : ((nI j77) : Int32).toNatClampNeg = j77 := nI_clamp (by omega)
        rw [ec] at hP
        have hM := s_kn (i := 0) hM (by omega) hP ho (isC_upd hf)
        have hXo := xk hXo ho (fun e9 => by have f9 := hf68; rw [e9] at f9; omega)
        refine lv_iinc (v := (nI (j77 + 1))) (lv' := [(1, .int (nI (j77 + 1))), (0, .ref o)]) hx hb dX1_init_119 hl (k := 0) rfl (nI_add j77 1) (by decide) rfl (fun ls hl => ?_)
        refine lv_goto (tgt := 105) hx hb dX1_init_122 (by decide) ?_
        exact ih80 ((j77 + 1)) (by omega) (by omega) (by omega) H _ ls  hXo hM hS (lv_sub hl [0, 1] rfl)
  exact lp78 (48 + 1) 0 (by omega) (by omega) (by omega) H _ ls hXo hM hS (lv_sub hl [0, 1] rfl)

set_option maxHeartbeats 4000000 in
set_option maxRecDepth 100000 in
theorem rf_site (l : Launch) (hlt : l.stackTraces = false) (dC : Nat → ClassId) (dI : Nat → Nat → Nat) (kA : Nat → ClassId) (eD b : Nat) (g : Gh) (o : Nat) (mo : Nat) (hto : tg g o = 1) (hmo : tg g mo = 17) : vx_Met l yX3_site wsX3_site ({ frames := 6, cells := 9, slots := 399, locals := 82 }) (va_Pc [.ref o] (CX (dC, dI) kA eD b g)) (va_Qi (fun (r : Int32) (u : Gh) => (∀ a : Nat, tg g a ≠ 0 → tg u a = tg g a) ∧ ∃ k a v, k < 3 ∧ pI g o 0 = nI k ∧ Ext mo X0 g v ∧ tg v a = 12 + 64 * k ∧ tg v (pF v a 5) = 16 + 64 * k ∧ tg g a = 0 ∧ pI v a 0 = 0 ∧ (∀ x, pI v (pF v a 5) x = 0) ∧ u = sI (uO v (pF g o 2) (va_up (pO v (pF g o 2)) k (some a))) o 0 (nI (k + 1)) ∧ r = nI k) (fun (u : Gh) t => CX (dC, dI) kA eD b u t) (fun q => b ≤ q)) (vx_X (fun _ : Unit => True) (fun E _ t => (E = "java/lang/IllegalStateException" ∧ ¬ (pI g o 0).toInt < 3) ∧ TM (dC, dI) kA b g t.heap) (fun q => b ≤ q)) 9 399 (fun q => b ≤ q) := by
  refine vx_ofW (cc := cX3_site) (maxL := 1) (ret := (some .int)) (by decide +kernel) rfl ?_
  intro p e s m args below meth c s₁ B hml hnt hv
  obtain ⟨rfl, hb0, hM, hK, hG, hE⟩ := hv
  have hx := B.exec
  have hb := B.bytes
  have hr := B.returns
  have hts := atoms_spec (ws := wsX3_site) B.pre
  have hown : s.vm.findClass RX3 = some m.cls := findClass_of_methodNamed B.named
  have hlocks := B.notSynchronized
  have hT := hE.1
  have hN := hE.2.2.2.2.2.2.2.1
  have hS : va_S (fun q => b ≤ q) s.heap s.heap [] := va_S.rf
  have hl := lv_entry ([.ref o]) (n := 1) (Nat.le_of_ble_eq_true rfl)
  rw [lg_entry_eq]
  generalize (lg_sl ([.ref o]) ++ List.replicate (1 - (lg_sl ([.ref o])).length) Slot.unset).toArray = ls at hl ⊢
  have hl : lv_has ls 1 [(0, .ref o)] := hl
  generalize ([.ref o] : List Value).toArray = args at hts ⊢
  refine lv_aload_n hx hb dX3_site_0 rfl (lv_at hl 0 rfl) ?_
  obtain ⟨u1, u2, u3, u4, hP, hf⟩ := o_sno (i := 0) (q := o) hM (by omega)
  refine va_get (D := (dC, dI)) (ci := 7) (v := .int (pI g o 0)) (C := RX3) (T := TX3) (N := 10) hx hb hts (by decide +kernel) hown hK hP 0 rfl rfl 3 (by decide) (hts (.fieldLink RX3 29 "Snowpalace" "siteCount" "I") (by decide +kernel)) (fun _ h9 => h9) rfl dX3_site_1 ?_
  have hv5 := hf.2.2.2.1
  obtain ⟨k, hk3, ek⟩ := toN (p := pI g o 0) (k := 3) (by omega) (by omega) (by decide)
  have ekI : (pI g o 0).toInt = (k : Int) := by rw [ek]; exact nI_toInt (by omega)
  rw [ek]
  refine lv_iconst (v := 3) hx hb dX3_site_4 (by decide) ?_
  refine lv_icmp_lt (tgt := 18) hx hb dX3_site_5 (by decide) (fun c6 => ?_) (fun c6 => ?_)
  · skip
    have k7 : k < 3 := (nI_ltI (a := k) (b := 3) (by omega) (by omega)).mp c6
    refine lv_aload_n hx hb dX3_site_18 rfl (lv_at hl 0 rfl) ?_
    obtain ⟨u8, u9, u10, u11, hP, hf⟩ := o_sno (i := 0) (q := o) hM (by omega)
    refine va_get (D := (dC, dI)) (ci := 7) (v := .ref (pF g o 2)) (C := RX3) (T := TX3) (N := 10) hx hb hts (by decide +kernel) hown hK hP 0 rfl rfl 2 (by decide) (hts (.fieldLink RX3 25 "Snowpalace" "sites" "[LSnowpalace$Site;") (by decide +kernel)) (fun _ h9 => h9) rfl dX3_site_19 ?_
    have ht12 : tg g (pF g o 2) = 4 := hf.2.2.1
    refine lv_aload_n hx hb dX3_site_22 rfl (lv_at hl 0 rfl) ?_
    obtain ⟨u13, u14, u15, u16, hP, hf⟩ := o_sno (i := 0) (q := o) hM (by omega)
    refine va_get (D := (dC, dI)) (ci := 7) (v := .int (pI g o 0)) (C := RX3) (T := TX3) (N := 10) hx hb hts (by decide +kernel) hown hK hP 0 rfl rfl 3 (by decide) (hts (.fieldLink RX3 29 "Snowpalace" "siteCount" "I") (by decide +kernel)) (fun _ h9 => h9) rfl dX3_site_23 ?_
    have hv17 := hf.2.2.2.1
    rw [ek]
    obtain ⟨q18, hq18⟩ : ∃ z, z = s.heap.size := ⟨_, rfl⟩
    have fq18 : tg g q18 = 0 := by rw [hq18]; exact hM.fresh
    have bq18 : b ≤ q18 := by rw [hq18]; exact Nat.le_trans hb0 hS.1
    refine rt_new (D := (dC, dI)) (ci := 5) (fs := [.null, .null, .null, .null, .null, .null, .null, .null, .int 0, .int 0, .int 0, .int 0, .int 0, .int 0, .double 0]) (C := RX1) (T := TX1) (N := 15) hx hb hts (by decide +kernel) tyX1 tyX1_ok hown (hts (.classLink RX3 23 RX1) (by decide +kernel)) (hts (.instantiable RX1 15) (by decide +kernel)) (hts (.initialized RX1) (by decide +kernel)) hK hS rfl (fun j hj => by rcases (show j = 0 ∨ j = 1 ∨ j = 2 ∨ j = 3 ∨ j = 4 ∨ j = 5 ∨ j = 6 ∨ j = 7 ∨ j = 8 ∨ j = 9 ∨ j = 10 ∨ j = 11 ∨ j = 12 ∨ j = 13 ∨ j = 14 by omega) with rfl | rfl | rfl | rfl | rfl | rfl | rfl | rfl | rfl | rfl | rfl | rfl | rfl | rfl | rfl <;> rfl) (Nat.le_of_ble_eq_true rfl) (Nat.le_of_ble_eq_true rfl) dX3_site_26 (fun H hP hz ho hS => ?_)
    rw [← hq18] at hP ⊢
    have hM := hM.keep ho
    have hXq18 : va_P (dC, dI) vwCl [(q18, .inr (5, [.null, .null, .null, .null, .null, .null, .null, .null, .int 0, .int 0, .int 0, .int 0, .int 0, .int 0, .double 0]))] H := hP
    refine lv_dup hx hb dX3_site_29 rfl ?_
    refine va_callv (va_runI (As := []) (rest := [.ref q18, .int (nI k), .ref (pF g o 2)]) ⟨hx, hb, hml, hown, hts⟩ (rk_site l dC dI kA eD b g q18 k mo (by omega)) (cwI 0 hts gX3_site_X1_init rfl rfl rfl (hts (.initialized RX1) (by decide +kernel)) (hts (.methodLink RX3 130 yX1_init) (by decide +kernel)) (hts (.instanceMethod yX1_init) (by decide +kernel)) rfl (by decide +kernel) ⟨Nat.le_of_ble_eq_true rfl, Nat.le_of_ble_eq_true rfl⟩) ⟨fb_CXn, fun U hU hW => ⟨rfl, CXn.give (s := s) (locs := []) (CX.give hb0 hM hK hG hE hS hU hW) fq18 bq18 hXq18 hU⟩⟩ rfl rfl hl.1 rfl (lv_room (Nat.le_of_ble_eq_true rfl)) dX3_site_30 ⟨(Nat.le_of_ble_eq_true rfl), (Nat.le_of_ble_eq_true rfl)⟩) hS (fun q _ h => h) (fun q h => h) (fun g19 t H locs ht hvm hw20 hB hz1 hk1 hS => ?_)
    have hM := hB.back ht
    have hG := hB.2.2.2.1
    have hx21 : Ext mo X0 g g19 := hw20.1
    have ht22 : tg g19 o = 1 := hx21.tk hto (by omega)
    have ht23 : tg g19 mo = 17 := hx21.tk hmo (by omega)
    have ht24 : tg g19 (pF g o 2) = 4 := hx21.tk ht12 (by omega)
    have ht25 : tg g19 q18 = 12 + 64 * k := hw20.2.1
    obtain ⟨hP, hf⟩ := o_sit (i := 0) (q := (pF g o 2)) hM (by omega)
    have hM0a := hM
    obtain ⟨u26, u27, u28, u29, u30, u31, hP, hf⟩ := o_st (i := k) (q := q18) hM (by omega)
    have hPv := hP
    obtain ⟨hP, hf⟩ := o_sit (i := 0) (q := (pF g o 2)) hM (by omega)
    refine rt_astq (D := (dC, dI)) (t0 := 5) (ci := 5) hx hb hK hP (hM.ge (by omega)) hS rfl hPv rfl (vp_in_nI (by omega) (by decide)) dX3_site_33 (fun H locs hP hz ho hS => ?_)
    obtain ⟨_, _, _, _, _, _, -, hst9⟩ := o_st (i := k) (q := q18) hM0a (by omega)
    have htp5 := hst9.2.2.2.2.2.1
    have ec : ((nI k) : Int32).toNatClampNeg = k := nI_clamp (by omega)
    rw [ec] at hP
    have hGp := hG
    have hs2 : pF g19 o 2 = pF g o 2 := congrFun ((hx21 : Ext mo X0 g g19).f (by omega)) 2
    have hM0 := hM
    have hM := p_sit (i := 0) (f := va_up (pO g19 (pF g o 2)) k (some q18)) hM (by omega) hP ho (up_some2 (κ := fun j => 12 + 64 * j) hf ht25)
    obtain ⟨g32, hg32⟩ : ∃ z, z = uO g19 (pF g o 2) (va_up (pO g19 (pF g o 2)) k (some q18)) := ⟨_, rfl⟩
    rw [← hg32] at hM
    have ht33 : tg g32 o = 1 := by rw [hg32]; exact ht22
    have ht34 : tg g32 mo = 17 := by rw [hg32]; exact ht23
    have ht35 : tg g32 (pF g o 2) = 4 := by rw [hg32]; exact ht24
    have ht36 : tg g32 q18 = 12 + 64 * k := by rw [hg32]; exact ht25
    have hG : GOK g32 := by rw [hg32]; exact (gok_uOs hG)
    refine lv_aload_n hx hb dX3_site_34 rfl (lv_at hl 0 rfl) ?_
    refine lv_dup hx hb dX3_site_35 rfl ?_
    obtain ⟨u38, u39, u40, u41, hP, hf⟩ := o_sno (i := 0) (q := o) hM (by omega)
    refine va_get (D := (dC, dI)) (ci := 7) (v := .int (pI g32 o 0)) (C := RX3) (T := TX3) (N := 10) hx hb hts (by decide +kernel) hown hK hP 0 rfl rfl 3 (by decide) (hts (.fieldLink RX3 29 "Snowpalace" "siteCount" "I") (by decide +kernel)) (fun _ h9 => h9) rfl dX3_site_36 ?_
    have hv42 := hf.2.2.2.1
    have ek2 : pI g32 o 0 = nI k := by rw [hg32]; exact ((hw20.1 : Ext mo X0 g g19).i (by omega) (Or.inr (by decide))).trans ek
    rw [ek2]
    refine lv_iconst (v := 1) hx hb dX3_site_39 (by decide) ?_
    refine lv_iadd hx hb dX3_site_40 ?_
    refine lv_topi (fun v43 e44 => ?_)
    obtain rfl : v43 = nI (k + 1) := e44.trans (nI_add k 1)
    obtain ⟨u45, u46, u47, u48, hP, hf⟩ := o_sno (i := 0) (q := o) hM (by omega)
    refine rt_put (D := (dC, dI)) (ci := 7) (v := .int (nI (k + 1))) (ty := .int) (C := RX3) (T := TX3) (N := 10) hx hb hts (by decide +kernel) tyX3 tyX3_ok nmX3 hown hK hP (hM.ge (by omega)) hS rfl 3 (by decide) (hts (.fieldLink RX3 29 "Snowpalace" "siteCount" "I") (by decide +kernel)) (fun _ h9 => h9) rfl (by decide +kernel) rfl rfl (Nat.le_of_ble_eq_true rfl) dX3_site_41 (fun H locs hP hz ho hS => ?_)
    have hM0 := hM
    have hM := p_sno (i := 0) (f := upd (pI g32 o) 0 (nI (k + 1))) hM (by omega) hP ho ⟨hf.1, hf.2.1, hf.2.2.1, ⟨(show 0 ≤ ((nI (k + 1))).toInt by rw [nI_toInt (by omega)]; omega), (show ((nI (k + 1))).toInt ≤ 3 by rw [nI_toInt (by omega)]; omega)⟩, hf.2.2.2.2.1, hf.2.2.2.2.2⟩
    obtain ⟨g50, hg50⟩ : ∃ z, z = uI g32 o (upd (pI g32 o) 0 (nI (k + 1))) := ⟨_, rfl⟩
    rw [← hg50] at hM
    have ht51 : tg g50 o = 1 := by rw [hg50]; exact ht33
    have ht52 : tg g50 mo = 17 := by rw [hg50]; exact ht34
    have ht53 : tg g50 (pF g o 2) = 4 := by rw [hg50]; exact ht35
    have ht54 : tg g50 q18 = 12 + 64 * k := by rw [hg50]; exact ht36
    have hG : GOK g50 := by rw [hg50]; exact (gok_size1 hG ht33 (by rw [hg32, ← hs2]; exact add_all1 (v := q18) hGp ht22 (by rw [← ek2, hg32]; rfl) (by omega)))
    refine lv_aload_n hx hb dX3_site_44 rfl (lv_at hl 0 rfl) ?_
    obtain ⟨u56, u57, u58, u59, hP, hf⟩ := o_sno (i := 0) (q := o) hM (by omega)
    refine va_get (D := (dC, dI)) (ci := 7) (v := .int (pI g50 o 0)) (C := RX3) (T := TX3) (N := 10) hx hb hts (by decide +kernel) hown hK hP 0 rfl rfl 3 (by decide) (hts (.fieldLink RX3 29 "Snowpalace" "siteCount" "I") (by decide +kernel)) (fun _ h9 => h9) rfl dX3_site_45 ?_
    have hv60 := hf.2.2.2.1
    rw [show pI g50 o 0 = nI (k + 1) from by rw [hg50]; exact (congrFun uI_s 0)]
    refine lv_iconst (v := 1) hx hb dX3_site_48 (by decide) ?_
    refine lv_isub hx hb dX3_site_49 ?_
    refine lv_topi (fun v61 e62 => ?_)
    obtain rfl : v61 = nI ((k + 1) - 1) := e62.trans (pk_sub (a := (k + 1)) (b := 1) (by omega))
    refine vx_ret ?_
    refine W.widen (k := 9) (n := 399) (Nat.le_of_ble_eq_true rfl) (Nat.le_of_ble_eq_true rfl) ?_
    exact W.iret (v := (nI ((k + 1) - 1))) hx hb hr (fun t ht hW => ⟨⟨(nI ((k + 1) - 1)), g50, rfl, ⟨fun a9 ha9 => by rw [hg50, hg32]; exact ((hx21 : Ext mo X0 g g19).t ha9), k, q18, g19, by omega, (by first | exact ek | rfl), hx21, ht25, htp5, fq18, hw20.2.2.1, hw20.2.2.2, by rw [hg50, hg32]; rfl, congrArg nI (by omega)⟩, CX.give hb0 hM hK hG hE hS ht hW⟩, hS.F ht⟩) hS.2.2 dX3_site_50
  · skip
    have k63 : ¬ (k < 3) := fun z => c6 ((nI_ltI (a := k) (b := 3) (by omega) (by omega)).mpr z)
    obtain ⟨sa, hsa⟩ := hT.2.1 (128, "there are 3 sites") (by decide +kernel)
    exact vx_throwS (A := (fun q => b ≤ q)) (own := RX3) (cls := "java/lang/IllegalStateException") (text := "there are 3 sites") (names := exN) hx hb hlt hown (by decide +kernel) (by decide +kernel) (hts (.classLink RX3 92 "java/lang/IllegalStateException") (by decide +kernel)) (hts (.initialized "java/lang/IllegalStateException") (by decide +kernel)) hsa (th_hat hT (fun w h => hts w (List.mem_cons_of_mem _ (List.mem_append_left _ (List.mem_append_right _ h)))) th_i3) (th_good th_i3) hT.2.2.2.1 hT.2.2.2.2 hS (hl.1.trans hml.symm) dX3_site_8 dX3_site_11 dX3_site_12 dX3_site_14 dX3_site_17 (fun x h => (hnt x h).elim) (by decide) (Nat.le_of_ble_eq_true rfl) (Nat.le_of_ble_eq_true rfl) (Nat.le_of_ble_eq_true rfl) hlocks (fun t ha h1 h2 => ⟨(), trivial, ⟨⟨rfl, by have e9 := nI_toInt (n := k) (by omega); omega⟩, hM.keep h2⟩, th_F hS h1 h2⟩) hS.2.2 (Nat.le_of_ble_eq_true rfl) (Nat.le_of_ble_eq_true rfl)

set_option maxHeartbeats 4000000 in
set_option maxRecDepth 100000 in
theorem rmf_weather (l : Launch) (dC : Nat → ClassId) (dI : Nat → Nat → Nat) (kA : Nat → ClassId) (eD b : Nat) (g : Gh) (o : Nat) (dy : Int32) (lo : Int32) (hi : Int32) (wi : Int32) (hu : Int32) (hto : tg g o = 17)  : Met l yX6_weather wsX6_weather ({ frames := 1, cells := 1, slots := 4, locals := 25 }) (va_Pc [.ref o, .int dy, .int lo, .int hi, .int wi, .int hu] (CX (dC, dI) kA eD b g)) (va_Qi (fun (r : Int32) (u : Gh) => ∃ v, Ext o X0 g v ∧ ((((0 ≤ dy.toInt ∧ dy.toInt ≤ 20) ∧ (-400 ≤ lo.toInt ∧ lo.toInt ≤ 200) ∧ (lo.toInt ≤ hi.toInt ∧ hi.toInt ≤ 200) ∧ (0 ≤ wi.toInt ∧ wi.toInt ≤ 30) ∧ 0 ≤ hu.toInt ∧ hu.toInt ≤ 100) ∧ ¬ 24 * dy.toInt < (pI g o 0).toInt ∧ pI v o 2 = 0 ∧ ∃ j w a, dy = nI j ∧ j ≤ 20 ∧ r = pI v ((pO v (pF v o 0) j).getD 0) 0 ∧ Ext o X0 v w ∧ tg v a = 0 ∧ tg w a = 22 ∧ pI w a 0 = lo ∧ pI w a 1 = hi ∧ pI w a 2 = wi ∧ pI w a 3 = hu ∧ pI u o 2 = 0 ∧ u = uO w (pF v o 0) (va_up (pO w (pF v o 0)) j (some a))) ∨ (pI v o 2 = 1 ∧ ¬ ((0 ≤ dy.toInt ∧ dy.toInt ≤ 20) ∧ (-400 ≤ lo.toInt ∧ lo.toInt ≤ 200) ∧ (lo.toInt ≤ hi.toInt ∧ hi.toInt ≤ 200) ∧ (0 ≤ wi.toInt ∧ wi.toInt ≤ 30) ∧ 0 ≤ hu.toInt ∧ hu.toInt ≤ 100) ∧ u = v) ∨ (pI v o 2 = 2 ∧ ((0 ≤ dy.toInt ∧ dy.toInt ≤ 20) ∧ (-400 ≤ lo.toInt ∧ lo.toInt ≤ 200) ∧ (lo.toInt ≤ hi.toInt ∧ hi.toInt ≤ 200) ∧ (0 ≤ wi.toInt ∧ wi.toInt ≤ 30) ∧ 0 ≤ hu.toInt ∧ hu.toInt ≤ 100) ∧ 24 * dy.toInt < (pI g o 0).toInt ∧ u = v))) (fun (u : Gh) t => CX (dC, dI) kA eD b u t) (fun q => b ≤ q)) 1 4 (fun q => b ≤ q) := by
  refine Met.ofW (cc := cX6_weather) (maxL := 8) (ret := (some .int)) (by decide +kernel) rfl ?_
  intro p e s m args below meth c s₁ B hml hv
  obtain ⟨rfl, hb0, hM, hK, hG, hE⟩ := hv
  have hx := B.exec
  have hb := B.bytes
  have hr := B.returns
  have hts := atoms_spec (ws := wsX6_weather) B.pre
  have hown : s.vm.findClass RX6 = some m.cls := findClass_of_methodNamed B.named
  have hlocks := B.notSynchronized
  have hT := hE.1
  have hN := hE.2.2.2.2.2.2.2.1
  have hS : va_S (fun q => b ≤ q) s.heap s.heap [] := va_S.rf
  have hl := lv_entry ([.ref o, .int dy, .int lo, .int hi, .int wi, .int hu]) (n := 8) (Nat.le_of_ble_eq_true rfl)
  rw [lg_entry_eq]
  generalize (lg_sl ([.ref o, .int dy, .int lo, .int hi, .int wi, .int hu]) ++ List.replicate (8 - (lg_sl ([.ref o, .int dy, .int lo, .int hi, .int wi, .int hu])).length) Slot.unset).toArray = ls at hl ⊢
  have hl : lv_has ls 8 [(0, .ref o), (1, .int dy), (2, .int lo), (3, .int hi), (4, .int wi), (5, .int hu)] := hl
  generalize ([.ref o, .int dy, .int lo, .int hi, .int wi, .int hu] : List Value).toArray = args at hts ⊢
  refine lv_iload_n hx hb dX6_weather_0 rfl (lv_at hl 1 rfl) ?_
  refine lv_i2l hx hb dX6_weather_1 rfl ?_
  refine lv_lconst (v := 0) hx hb dX6_weather_2 (by decide) ?_
  refine lv_ldc2 hx hb hown (hts (.constantLong RX6 44 20) (by decide +kernel)) dX6_weather_3 ?_
  refine va_calli (va_runS (As := [.long dy.toInt64, .long 0, .long 20]) (rest := []) ⟨hx, hb, hml, hown, hts⟩ (rm_isBetween l dy.toInt64 0 20 ((dy : Int32).toInt) (0) (20) (Int32.toInt_toInt64 _) (by decide) (by decide)) (va_cwS 3 hts gX6_weather_X6_isBetween rfl rfl rfl (by decide +kernel) ⟨Nat.le_of_ble_eq_true rfl, Nat.le_of_ble_eq_true rfl⟩) ⟨fun a U g mk q => q, fun U hU hW => ⟨rfl, trivial⟩⟩ rfl rfl hl.1 rfl (lv_room (Nat.le_of_ble_eq_true rfl)) dX6_weather_6 ⟨(Nat.le_of_ble_eq_true rfl), (Nat.le_of_ble_eq_true rfl)⟩) hS (fun q _ h => h.elim) (fun q h => h.elim) (fun r1 u t H locs ht hvm hw2 hB hz1 hk1 hS => ?_)
  have hM := hM.keep (fun p hp => hk1 p hp (fun z => z))
  have hw2 : r1 = bI ((0 : Int) ≤ (dy : Int32).toInt ∧ (dy : Int32).toInt ≤ (20 : Int)) := hw2
  refine lv_if_eq (tgt := 69) hx hb dX6_weather_9 (by decide) (fun c3 => ?_) (fun c3 => ?_)
  · skip
    have g4 : ¬ ((0 : Int) ≤ (dy : Int32).toInt ∧ (dy : Int32).toInt ≤ (20 : Int)) := bI_f hw2 c3
    have zg4 : r1 = 0 := bI_f0 hw2 g4
    refine lv_iconst (v := 0) hx hb dX6_weather_69 (by decide) ?_
    refine lv_istore (lv' := [(6, .int 0), (0, .ref o), (1, .int dy), (2, .int lo), (3, .int hi), (4, .int wi), (5, .int hu)]) hx hb dX6_weather_70 hl (by decide) rfl (fun ls hl => ?_)
    refine lv_aload_n hx hb dX6_weather_72 rfl (lv_at hl 1 rfl) ?_
    refine lv_iload hx hb dX6_weather_73 (lv_at hl 0 rfl) ?_
    refine lv_if_ne (tgt := 82) hx hb dX6_weather_75 (by decide) (fun cx => by first | exact absurd cx (by decide) | exact absurd (by decide) cx) (fun _ => ?_)
    refine lv_iconst (v := 1) hx hb dX6_weather_78 (by decide) ?_
    refine lv_goto (tgt := 98) hx hb dX6_weather_79 (by decide) ?_
    obtain ⟨u5, u6, hP, hf⟩ := o_mo (i := 0) (q := o) hM (by omega)
    refine va_calli (va_runV (As := [.int 1]) (rest := []) ⟨hx, hb, hml, hown, hts⟩ (rm_isWrong l dC dI kA eD b g o 1 (by omega)) (cwV 1 hts gX6_weather_X6_isWrong rfl rfl rfl (by decide +kernel) ⟨Nat.le_of_ble_eq_true rfl, Nat.le_of_ble_eq_true rfl⟩) ⟨fb_CX, va_recv hK hP (ci := 10) (q0 := 0) rfl rfl, fun U hU hW => ⟨rfl, CX.give hb0 hM hK hG hE hS hU hW⟩⟩ rfl rfl hl.1 rfl (lv_room (Nat.le_of_ble_eq_true rfl)) dX6_weather_98 ⟨(Nat.le_of_ble_eq_true rfl), (Nat.le_of_ble_eq_true rfl)⟩) hS (fun q _ h => h) (fun q h => h) (fun r7 g9 t H locs ht hvm hw8 hB hz1 hk1 hS => ?_)
    have hM := hB.back ht
    have hG := hB.2.2.2.1
    have hx10 : Ext o X0 g g9 := hw8.1
    have ht11 : tg g9 o = 17 := hx10.tk hto (by omega)
    obtain rfl : r7 = 1 := hw8.2.2.trans (by decide)
    have hth12 : pI g9 o 2 = 1 := by rw [hw8.2.1]; exact sI_at
    refine lv_if_eq (tgt := 106) hx hb dX6_weather_101 (by decide) (fun cx => by first | exact absurd cx (by decide) | exact absurd (by decide) cx) (fun _ => ?_)
    refine lv_iconst (v := 0) hx hb dX6_weather_104 (by decide) ?_
    refine W.widen (k := 1) (n := 4) (Nat.le_of_ble_eq_true rfl) (Nat.le_of_ble_eq_true rfl) ?_
    exact W.iret (v := 0) hx hb hr (fun t ht hW => ⟨⟨0, g9, rfl, ⟨g9, hx10, Or.inr (Or.inl ⟨hth12, by omega, rfl⟩)⟩, CX.give hb0 hM hK hG hE hS ht hW⟩, hS.F ht⟩) hS.2.2 dX6_weather_105
  · skip
    have g13 : (0 : Int) ≤ (dy : Int32).toInt ∧ (dy : Int32).toInt ≤ (20 : Int) := bI_t hw2 c3
    have zg13 : r1 = 1 := bI_t1 hw2 g13
    refine lv_iload_n hx hb dX6_weather_12 rfl (lv_at hl 2 rfl) ?_
    refine lv_i2l hx hb dX6_weather_13 rfl ?_
    refine lv_ldc2 hx hb hown (hts (.constantLong RX6 50 (-400)) (by decide +kernel)) dX6_weather_14 ?_
    refine lv_ldc2 hx hb hown (hts (.constantLong RX6 52 200) (by decide +kernel)) dX6_weather_17 ?_
    refine va_calli (va_runS (As := [.long lo.toInt64, .long (-400), .long 200]) (rest := []) ⟨hx, hb, hml, hown, hts⟩ (rm_isBetween l lo.toInt64 (-400) 200 ((lo : Int32).toInt) (-400) (200) (Int32.toInt_toInt64 _) (by decide) (by decide)) (va_cwS 3 hts gX6_weather_X6_isBetween rfl rfl rfl (by decide +kernel) ⟨Nat.le_of_ble_eq_true rfl, Nat.le_of_ble_eq_true rfl⟩) ⟨fun a U g mk q => q, fun U hU hW => ⟨rfl, trivial⟩⟩ rfl rfl hl.1 rfl (lv_room (Nat.le_of_ble_eq_true rfl)) dX6_weather_20 ⟨(Nat.le_of_ble_eq_true rfl), (Nat.le_of_ble_eq_true rfl)⟩) hS (fun q _ h => h.elim) (fun q h => h.elim) (fun r14 u t H locs ht hvm hw15 hB hz1 hk1 hS => ?_)
    have hM := hM.keep (fun p hp => hk1 p hp (fun z => z))
    have hw15 : r14 = bI ((-400 : Int) ≤ (lo : Int32).toInt ∧ (lo : Int32).toInt ≤ (200 : Int)) := hw15
    refine lv_if_eq (tgt := 69) hx hb dX6_weather_23 (by decide) (fun c16 => ?_) (fun c16 => ?_)
    · skip
      have g17 : ¬ ((-400 : Int) ≤ (lo : Int32).toInt ∧ (lo : Int32).toInt ≤ (200 : Int)) := bI_f hw15 c16
      have zg17 : r14 = 0 := bI_f0 hw15 g17
      refine lv_iconst (v := 0) hx hb dX6_weather_69 (by decide) ?_
      refine lv_istore (lv' := [(6, .int 0), (0, .ref o), (1, .int dy), (2, .int lo), (3, .int hi), (4, .int wi), (5, .int hu)]) hx hb dX6_weather_70 hl (by decide) rfl (fun ls hl => ?_)
      refine lv_aload_n hx hb dX6_weather_72 rfl (lv_at hl 1 rfl) ?_
      refine lv_iload hx hb dX6_weather_73 (lv_at hl 0 rfl) ?_
      refine lv_if_ne (tgt := 82) hx hb dX6_weather_75 (by decide) (fun cx => by first | exact absurd cx (by decide) | exact absurd (by decide) cx) (fun _ => ?_)
      refine lv_iconst (v := 1) hx hb dX6_weather_78 (by decide) ?_
      refine lv_goto (tgt := 98) hx hb dX6_weather_79 (by decide) ?_
      obtain ⟨u18, u19, hP, hf⟩ := o_mo (i := 0) (q := o) hM (by omega)
      refine va_calli (va_runV (As := [.int 1]) (rest := []) ⟨hx, hb, hml, hown, hts⟩ (rm_isWrong l dC dI kA eD b g o 1 (by omega)) (cwV 1 hts gX6_weather_X6_isWrong rfl rfl rfl (by decide +kernel) ⟨Nat.le_of_ble_eq_true rfl, Nat.le_of_ble_eq_true rfl⟩) ⟨fb_CX, va_recv hK hP (ci := 10) (q0 := 0) rfl rfl, fun U hU hW => ⟨rfl, CX.give hb0 hM hK hG hE hS hU hW⟩⟩ rfl rfl hl.1 rfl (lv_room (Nat.le_of_ble_eq_true rfl)) dX6_weather_98 ⟨(Nat.le_of_ble_eq_true rfl), (Nat.le_of_ble_eq_true rfl)⟩) hS (fun q _ h => h) (fun q h => h) (fun r20 g22 t H locs ht hvm hw21 hB hz1 hk1 hS => ?_)
      have hM := hB.back ht
      have hG := hB.2.2.2.1
      have hx23 : Ext o X0 g g22 := hw21.1
      have ht24 : tg g22 o = 17 := hx23.tk hto (by omega)
      obtain rfl : r20 = 1 := hw21.2.2.trans (by decide)
      have hth25 : pI g22 o 2 = 1 := by rw [hw21.2.1]; exact sI_at
      refine lv_if_eq (tgt := 106) hx hb dX6_weather_101 (by decide) (fun cx => by first | exact absurd cx (by decide) | exact absurd (by decide) cx) (fun _ => ?_)
      refine lv_iconst (v := 0) hx hb dX6_weather_104 (by decide) ?_
      refine W.widen (k := 1) (n := 4) (Nat.le_of_ble_eq_true rfl) (Nat.le_of_ble_eq_true rfl) ?_
      exact W.iret (v := 0) hx hb hr (fun t ht hW => ⟨⟨0, g22, rfl, ⟨g22, hx23, Or.inr (Or.inl ⟨hth25, by omega, rfl⟩)⟩, CX.give hb0 hM hK hG hE hS ht hW⟩, hS.F ht⟩) hS.2.2 dX6_weather_105
    · skip
      have g26 : (-400 : Int) ≤ (lo : Int32).toInt ∧ (lo : Int32).toInt ≤ (200 : Int) := bI_t hw15 c16
      have zg26 : r14 = 1 := bI_t1 hw15 g26
      refine lv_iload_n hx hb dX6_weather_26 rfl (lv_at hl 3 rfl) ?_
      refine lv_i2l hx hb dX6_weather_27 rfl ?_
      refine lv_iload_n hx hb dX6_weather_28 rfl (lv_at hl 2 rfl) ?_
      refine lv_i2l hx hb dX6_weather_29 rfl ?_
      refine lv_ldc2 hx hb hown (hts (.constantLong RX6 52 200) (by decide +kernel)) dX6_weather_30 ?_
      refine va_calli (va_runS (As := [.long hi.toInt64, .long lo.toInt64, .long 200]) (rest := []) ⟨hx, hb, hml, hown, hts⟩ (rm_isBetween l hi.toInt64 lo.toInt64 200 ((hi : Int32).toInt) ((lo : Int32).toInt) (200) (Int32.toInt_toInt64 _) (Int32.toInt_toInt64 _) (by decide)) (va_cwS 3 hts gX6_weather_X6_isBetween rfl rfl rfl (by decide +kernel) ⟨Nat.le_of_ble_eq_true rfl, Nat.le_of_ble_eq_true rfl⟩) ⟨fun a U g mk q => q, fun U hU hW => ⟨rfl, trivial⟩⟩ rfl rfl hl.1 rfl (lv_room (Nat.le_of_ble_eq_true rfl)) dX6_weather_33 ⟨(Nat.le_of_ble_eq_true rfl), (Nat.le_of_ble_eq_true rfl)⟩) hS (fun q _ h => h.elim) (fun q h => h.elim) (fun r27 u t H locs ht hvm hw28 hB hz1 hk1 hS => ?_)
      have hM := hM.keep (fun p hp => hk1 p hp (fun z => z))
      have hw28 : r27 = bI ((lo : Int32).toInt ≤ (hi : Int32).toInt ∧ (hi : Int32).toInt ≤ (200 : Int)) := hw28
      refine lv_if_eq (tgt := 69) hx hb dX6_weather_36 (by decide) (fun c29 => ?_) (fun c29 => ?_)
      · skip
        have g30 : ¬ ((lo : Int32).toInt ≤ (hi : Int32).toInt ∧ (hi : Int32).toInt ≤ (200 : Int)) := bI_f hw28 c29
        have zg30 : r27 = 0 := bI_f0 hw28 g30
        refine lv_iconst (v := 0) hx hb dX6_weather_69 (by decide) ?_
        refine lv_istore (lv' := [(6, .int 0), (0, .ref o), (1, .int dy), (2, .int lo), (3, .int hi), (4, .int wi), (5, .int hu)]) hx hb dX6_weather_70 hl (by decide) rfl (fun ls hl => ?_)
        refine lv_aload_n hx hb dX6_weather_72 rfl (lv_at hl 1 rfl) ?_
        refine lv_iload hx hb dX6_weather_73 (lv_at hl 0 rfl) ?_
        refine lv_if_ne (tgt := 82) hx hb dX6_weather_75 (by decide) (fun cx => by first | exact absurd cx (by decide) | exact absurd (by decide) cx) (fun _ => ?_)
        refine lv_iconst (v := 1) hx hb dX6_weather_78 (by decide) ?_
        refine lv_goto (tgt := 98) hx hb dX6_weather_79 (by decide) ?_
        obtain ⟨u31, u32, hP, hf⟩ := o_mo (i := 0) (q := o) hM (by omega)
        refine va_calli (va_runV (As := [.int 1]) (rest := []) ⟨hx, hb, hml, hown, hts⟩ (rm_isWrong l dC dI kA eD b g o 1 (by omega)) (cwV 1 hts gX6_weather_X6_isWrong rfl rfl rfl (by decide +kernel) ⟨Nat.le_of_ble_eq_true rfl, Nat.le_of_ble_eq_true rfl⟩) ⟨fb_CX, va_recv hK hP (ci := 10) (q0 := 0) rfl rfl, fun U hU hW => ⟨rfl, CX.give hb0 hM hK hG hE hS hU hW⟩⟩ rfl rfl hl.1 rfl (lv_room (Nat.le_of_ble_eq_true rfl)) dX6_weather_98 ⟨(Nat.le_of_ble_eq_true rfl), (Nat.le_of_ble_eq_true rfl)⟩) hS (fun q _ h => h) (fun q h => h) (fun r33 g35 t H locs ht hvm hw34 hB hz1 hk1 hS => ?_)
        have hM := hB.back ht
        have hG := hB.2.2.2.1
        have hx36 : Ext o X0 g g35 := hw34.1
        have ht37 : tg g35 o = 17 := hx36.tk hto (by omega)
        obtain rfl : r33 = 1 := hw34.2.2.trans (by decide)
        have hth38 : pI g35 o 2 = 1 := by rw [hw34.2.1]; exact sI_at
        refine lv_if_eq (tgt := 106) hx hb dX6_weather_101 (by decide) (fun cx => by first | exact absurd cx (by decide) | exact absurd (by decide) cx) (fun _ => ?_)
        refine lv_iconst (v := 0) hx hb dX6_weather_104 (by decide) ?_
        refine W.widen (k := 1) (n := 4) (Nat.le_of_ble_eq_true rfl) (Nat.le_of_ble_eq_true rfl) ?_
        exact W.iret (v := 0) hx hb hr (fun t ht hW => ⟨⟨0, g35, rfl, ⟨g35, hx36, Or.inr (Or.inl ⟨hth38, by omega, rfl⟩)⟩, CX.give hb0 hM hK hG hE hS ht hW⟩, hS.F ht⟩) hS.2.2 dX6_weather_105
      · skip
        have g39 : (lo : Int32).toInt ≤ (hi : Int32).toInt ∧ (hi : Int32).toInt ≤ (200 : Int) := bI_t hw28 c29
        have zg39 : r27 = 1 := bI_t1 hw28 g39
        refine lv_iload hx hb dX6_weather_39 (lv_at hl 4 rfl) ?_
        refine lv_i2l hx hb dX6_weather_41 rfl ?_
        refine lv_lconst (v := 0) hx hb dX6_weather_42 (by decide) ?_
        refine lv_ldc2 hx hb hown (hts (.constantLong RX6 54 30) (by decide +kernel)) dX6_weather_43 ?_
        refine va_calli (va_runS (As := [.long wi.toInt64, .long 0, .long 30]) (rest := []) ⟨hx, hb, hml, hown, hts⟩ (rm_isBetween l wi.toInt64 0 30 ((wi : Int32).toInt) (0) (30) (Int32.toInt_toInt64 _) (by decide) (by decide)) (va_cwS 3 hts gX6_weather_X6_isBetween rfl rfl rfl (by decide +kernel) ⟨Nat.le_of_ble_eq_true rfl, Nat.le_of_ble_eq_true rfl⟩) ⟨fun a U g mk q => q, fun U hU hW => ⟨rfl, trivial⟩⟩ rfl rfl hl.1 rfl (lv_room (Nat.le_of_ble_eq_true rfl)) dX6_weather_46 ⟨(Nat.le_of_ble_eq_true rfl), (Nat.le_of_ble_eq_true rfl)⟩) hS (fun q _ h => h.elim) (fun q h => h.elim) (fun r40 u t H locs ht hvm hw41 hB hz1 hk1 hS => ?_)
        have hM := hM.keep (fun p hp => hk1 p hp (fun z => z))
        have hw41 : r40 = bI ((0 : Int) ≤ (wi : Int32).toInt ∧ (wi : Int32).toInt ≤ (30 : Int)) := hw41
        refine lv_if_eq (tgt := 69) hx hb dX6_weather_49 (by decide) (fun c42 => ?_) (fun c42 => ?_)
        · skip
          have g43 : ¬ ((0 : Int) ≤ (wi : Int32).toInt ∧ (wi : Int32).toInt ≤ (30 : Int)) := bI_f hw41 c42
          have zg43 : r40 = 0 := bI_f0 hw41 g43
          refine lv_iconst (v := 0) hx hb dX6_weather_69 (by decide) ?_
          refine lv_istore (lv' := [(6, .int 0), (0, .ref o), (1, .int dy), (2, .int lo), (3, .int hi), (4, .int wi), (5, .int hu)]) hx hb dX6_weather_70 hl (by decide) rfl (fun ls hl => ?_)
          refine lv_aload_n hx hb dX6_weather_72 rfl (lv_at hl 1 rfl) ?_
          refine lv_iload hx hb dX6_weather_73 (lv_at hl 0 rfl) ?_
          refine lv_if_ne (tgt := 82) hx hb dX6_weather_75 (by decide) (fun cx => by first | exact absurd cx (by decide) | exact absurd (by decide) cx) (fun _ => ?_)
          refine lv_iconst (v := 1) hx hb dX6_weather_78 (by decide) ?_
          refine lv_goto (tgt := 98) hx hb dX6_weather_79 (by decide) ?_
          obtain ⟨u44, u45, hP, hf⟩ := o_mo (i := 0) (q := o) hM (by omega)
          refine va_calli (va_runV (As := [.int 1]) (rest := []) ⟨hx, hb, hml, hown, hts⟩ (rm_isWrong l dC dI kA eD b g o 1 (by omega)) (cwV 1 hts gX6_weather_X6_isWrong rfl rfl rfl (by decide +kernel) ⟨Nat.le_of_ble_eq_true rfl, Nat.le_of_ble_eq_true rfl⟩) ⟨fb_CX, va_recv hK hP (ci := 10) (q0 := 0) rfl rfl, fun U hU hW => ⟨rfl, CX.give hb0 hM hK hG hE hS hU hW⟩⟩ rfl rfl hl.1 rfl (lv_room (Nat.le_of_ble_eq_true rfl)) dX6_weather_98 ⟨(Nat.le_of_ble_eq_true rfl), (Nat.le_of_ble_eq_true rfl)⟩) hS (fun q _ h => h) (fun q h => h) (fun r46 g48 t H locs ht hvm hw47 hB hz1 hk1 hS => ?_)
          have hM := hB.back ht
          have hG := hB.2.2.2.1
          have hx49 : Ext o X0 g g48 := hw47.1
          have ht50 : tg g48 o = 17 := hx49.tk hto (by omega)
          obtain rfl : r46 = 1 := hw47.2.2.trans (by decide)
          have hth51 : pI g48 o 2 = 1 := by rw [hw47.2.1]; exact sI_at
          refine lv_if_eq (tgt := 106) hx hb dX6_weather_101 (by decide) (fun cx => by first | exact absurd cx (by decide) | exact absurd (by decide) cx) (fun _ => ?_)
          refine lv_iconst (v := 0) hx hb dX6_weather_104 (by decide) ?_
          refine W.widen (k := 1) (n := 4) (Nat.le_of_ble_eq_true rfl) (Nat.le_of_ble_eq_true rfl) ?_
          exact W.iret (v := 0) hx hb hr (fun t ht hW => ⟨⟨0, g48, rfl, ⟨g48, hx49, Or.inr (Or.inl ⟨hth51, by omega, rfl⟩)⟩, CX.give hb0 hM hK hG hE hS ht hW⟩, hS.F ht⟩) hS.2.2 dX6_weather_105
        · skip
          have g52 : (0 : Int) ≤ (wi : Int32).toInt ∧ (wi : Int32).toInt ≤ (30 : Int) := bI_t hw41 c42
          have zg52 : r40 = 1 := bI_t1 hw41 g52
          refine lv_iload hx hb dX6_weather_52 (lv_at hl 5 rfl) ?_
          refine lv_i2l hx hb dX6_weather_54 rfl ?_
          refine lv_lconst (v := 0) hx hb dX6_weather_55 (by decide) ?_
          refine lv_ldc2 hx hb hown (hts (.constantLong RX6 56 100) (by decide +kernel)) dX6_weather_56 ?_
          refine va_calli (va_runS (As := [.long hu.toInt64, .long 0, .long 100]) (rest := []) ⟨hx, hb, hml, hown, hts⟩ (rm_isBetween l hu.toInt64 0 100 ((hu : Int32).toInt) (0) (100) (Int32.toInt_toInt64 _) (by decide) (by decide)) (va_cwS 3 hts gX6_weather_X6_isBetween rfl rfl rfl (by decide +kernel) ⟨Nat.le_of_ble_eq_true rfl, Nat.le_of_ble_eq_true rfl⟩) ⟨fun a U g mk q => q, fun U hU hW => ⟨rfl, trivial⟩⟩ rfl rfl hl.1 rfl (lv_room (Nat.le_of_ble_eq_true rfl)) dX6_weather_59 ⟨(Nat.le_of_ble_eq_true rfl), (Nat.le_of_ble_eq_true rfl)⟩) hS (fun q _ h => h.elim) (fun q h => h.elim) (fun r53 u t H locs ht hvm hw54 hB hz1 hk1 hS => ?_)
          have hM := hM.keep (fun p hp => hk1 p hp (fun z => z))
          have hw54 : r53 = bI ((0 : Int) ≤ (hu : Int32).toInt ∧ (hu : Int32).toInt ≤ (100 : Int)) := hw54
          refine lv_if_eq (tgt := 69) hx hb dX6_weather_62 (by decide) (fun c55 => ?_) (fun c55 => ?_)
          · skip
            have g56 : ¬ ((0 : Int) ≤ (hu : Int32).toInt ∧ (hu : Int32).toInt ≤ (100 : Int)) := bI_f hw54 c55
            have zg56 : r53 = 0 := bI_f0 hw54 g56
            refine lv_iconst (v := 0) hx hb dX6_weather_69 (by decide) ?_
            refine lv_istore (lv' := [(6, .int 0), (0, .ref o), (1, .int dy), (2, .int lo), (3, .int hi), (4, .int wi), (5, .int hu)]) hx hb dX6_weather_70 hl (by decide) rfl (fun ls hl => ?_)
            refine lv_aload_n hx hb dX6_weather_72 rfl (lv_at hl 1 rfl) ?_
            refine lv_iload hx hb dX6_weather_73 (lv_at hl 0 rfl) ?_
            refine lv_if_ne (tgt := 82) hx hb dX6_weather_75 (by decide) (fun cx => by first | exact absurd cx (by decide) | exact absurd (by decide) cx) (fun _ => ?_)
            refine lv_iconst (v := 1) hx hb dX6_weather_78 (by decide) ?_
            refine lv_goto (tgt := 98) hx hb dX6_weather_79 (by decide) ?_
            obtain ⟨u57, u58, hP, hf⟩ := o_mo (i := 0) (q := o) hM (by omega)
            refine va_calli (va_runV (As := [.int 1]) (rest := []) ⟨hx, hb, hml, hown, hts⟩ (rm_isWrong l dC dI kA eD b g o 1 (by omega)) (cwV 1 hts gX6_weather_X6_isWrong rfl rfl rfl (by decide +kernel) ⟨Nat.le_of_ble_eq_true rfl, Nat.le_of_ble_eq_true rfl⟩) ⟨fb_CX, va_recv hK hP (ci := 10) (q0 := 0) rfl rfl, fun U hU hW => ⟨rfl, CX.give hb0 hM hK hG hE hS hU hW⟩⟩ rfl rfl hl.1 rfl (lv_room (Nat.le_of_ble_eq_true rfl)) dX6_weather_98 ⟨(Nat.le_of_ble_eq_true rfl), (Nat.le_of_ble_eq_true rfl)⟩) hS (fun q _ h => h) (fun q h => h) (fun r59 g61 t H locs ht hvm hw60 hB hz1 hk1 hS => ?_)
            have hM := hB.back ht
            have hG := hB.2.2.2.1
            have hx62 : Ext o X0 g g61 := hw60.1
            have ht63 : tg g61 o = 17 := hx62.tk hto (by omega)
            obtain rfl : r59 = 1 := hw60.2.2.trans (by decide)
            have hth64 : pI g61 o 2 = 1 := by rw [hw60.2.1]; exact sI_at
            refine lv_if_eq (tgt := 106) hx hb dX6_weather_101 (by decide) (fun cx => by first | exact absurd cx (by decide) | exact absurd (by decide) cx) (fun _ => ?_)
            refine lv_iconst (v := 0) hx hb dX6_weather_104 (by decide) ?_
            refine W.widen (k := 1) (n := 4) (Nat.le_of_ble_eq_true rfl) (Nat.le_of_ble_eq_true rfl) ?_
            exact W.iret (v := 0) hx hb hr (fun t ht hW => ⟨⟨0, g61, rfl, ⟨g61, hx62, Or.inr (Or.inl ⟨hth64, by omega, rfl⟩)⟩, CX.give hb0 hM hK hG hE hS ht hW⟩, hS.F ht⟩) hS.2.2 dX6_weather_105
          · skip
            have g65 : (0 : Int) ≤ (hu : Int32).toInt ∧ (hu : Int32).toInt ≤ (100 : Int) := bI_t hw54 c55
            have zg65 : r53 = 1 := bI_t1 hw54 g65
            refine lv_iconst (v := 1) hx hb dX6_weather_65 (by decide) ?_
            refine lv_goto (tgt := 70) hx hb dX6_weather_66 (by decide) ?_
            refine lv_istore (lv' := [(6, .int 1), (0, .ref o), (1, .int dy), (2, .int lo), (3, .int hi), (4, .int wi), (5, .int hu)]) hx hb dX6_weather_70 hl (by decide) rfl (fun ls hl => ?_)
            refine lv_aload_n hx hb dX6_weather_72 rfl (lv_at hl 1 rfl) ?_
            refine lv_iload hx hb dX6_weather_73 (lv_at hl 0 rfl) ?_
            refine lv_if_ne (tgt := 82) hx hb dX6_weather_75 (by decide) (fun _ => ?_) (fun cx => by first | exact absurd (by decide) cx | exact absurd cx (by decide))
            obtain ⟨j, hj, rfl⟩ := toN (p := dy) (k := 20) (by omega) (by omega) (by decide)
            have hl : lv_has ls 8 [(6, .int 1), (0, .ref o), (1, .int (nI j)), (2, .int lo), (3, .int hi), (4, .int wi), (5, .int hu)] := hl
            have ej : (nI j).toInt = (j : Int) := nI_toInt (by omega)
            refine lv_aload_n hx hb dX6_weather_82 rfl (lv_at hl 1 rfl) ?_
            obtain ⟨u66, u67, hP, hf⟩ := o_mo (i := 0) (q := o) hM (by omega)
            refine va_get (D := (dC, dI)) (ci := 10) (v := .int (pI g o 0)) (C := RX6) (T := TX6) (N := 11) hx hb hts (by decide +kernel) hown hK hP 0 rfl rfl 2 (by decide) (hts (.fieldLink RX6 58 "SnowpalaceModel" "hour" "I") (by decide +kernel)) (fun _ h9 => h9) rfl dX6_weather_83 ?_
            have hv68 := hf.2.2.2.2.2.2.1
            refine lv_bipush (v := 24) hx hb dX6_weather_86 (by decide) ?_
            refine lv_iload_n hx hb dX6_weather_88 rfl (lv_at hl 2 rfl) ?_
            refine lv_imul hx hb dX6_weather_89 ?_
            refine lv_topi (fun v69 e70 => ?_)
            obtain rfl : v69 = nI (24 * j) := e70.trans (pk_mul 24 j)
            refine lv_icmp_le (tgt := 97) hx hb dX6_weather_90 (by decide) (fun c71 => ?_) (fun c71 => ?_)
            · skip
              have i72 := (Int32.le_iff_toInt_le).mp c71
              have ii72 : ((nI (24 * j)) : Int32).toInt = (((24 * j) : Nat) : Int) := nI_toInt (by omega)
              have i72 := i72
              refine lv_iconst (v := 0) hx hb dX6_weather_97 (by decide) ?_
              obtain ⟨u73, u74, hP, hf⟩ := o_mo (i := 0) (q := o) hM (by omega)
              refine va_calli (va_runV (As := [.int 0]) (rest := []) ⟨hx, hb, hml, hown, hts⟩ (rm_isWrong l dC dI kA eD b g o 0 (by omega)) (cwV 1 hts gX6_weather_X6_isWrong rfl rfl rfl (by decide +kernel) ⟨Nat.le_of_ble_eq_true rfl, Nat.le_of_ble_eq_true rfl⟩) ⟨fb_CX, va_recv hK hP (ci := 10) (q0 := 0) rfl rfl, fun U hU hW => ⟨rfl, CX.give hb0 hM hK hG hE hS hU hW⟩⟩ rfl rfl hl.1 rfl (lv_room (Nat.le_of_ble_eq_true rfl)) dX6_weather_98 ⟨(Nat.le_of_ble_eq_true rfl), (Nat.le_of_ble_eq_true rfl)⟩) hS (fun q _ h => h) (fun q h => h) (fun r75 g77 t H locs ht hvm hw76 hB hz1 hk1 hS => ?_)
              have hM := hB.back ht
              have hG := hB.2.2.2.1
              have hx78 : Ext o X0 g g77 := hw76.1
              have ht79 : tg g77 o = 17 := hx78.tk hto (by omega)
              obtain rfl : r75 = 0 := hw76.2.2.trans (by decide)
              have hth80 : pI g77 o 2 = 0 := by rw [hw76.2.1]; exact sI_at
              refine lv_if_eq (tgt := 106) hx hb dX6_weather_101 (by decide) (fun _ => ?_) (fun cx => by first | exact absurd (by decide) cx | exact absurd cx (by decide))
              refine lv_aload_n hx hb dX6_weather_106 rfl (lv_at hl 1 rfl) ?_
              obtain ⟨u81, u82, hP, hf⟩ := o_mo (i := 0) (q := o) hM (by omega)
              refine va_get (D := (dC, dI)) (ci := 10) (v := .ref (pF g77 o 0)) (C := RX6) (T := TX6) (N := 11) hx hb hts (by decide +kernel) hown hK hP 0 rfl rfl 1 (by decide) (hts (.fieldLink RX6 15 "SnowpalaceModel" "days" "[[I") (by decide +kernel)) (fun _ h9 => h9) rfl dX6_weather_107 ?_
              have ht83 : tg g77 (pF g77 o 0) = 18 := hf.1
              refine lv_iload_n hx hb dX6_weather_110 rfl (lv_at hl 2 rfl) ?_
              obtain ⟨hP, hf⟩ := o_da (i := 0) (q := (pF g77 o 0)) hM (by omega)
              have ec : ((nI j) : Int32).toNatClampNeg = j := nI_clamp (by omega)
              refine rt_aldA (D := (dC, dI)) (t0 := 6) hx hb hK hP rfl (vp_in_nI (by omega) (by decide)) (y := ((pO g77 (pF g77 o 0) j).getD 0)) ((congrArg (pO g77 (pF g77 o 0)) ec).trans (hf j (by omega)).1) dX6_weather_111 ?_
              have ht84 : tg g77 ((pO g77 (pF g77 o 0) j).getD 0) = 22 := (hf j (by omega)).2
              refine lv_iconst (v := 0) hx hb dX6_weather_112 (by decide) ?_
              obtain ⟨hP, hf⟩ := o_ro (i := 0) (q := ((pO g77 (pF g77 o 0) j).getD 0)) hM (by omega)
              refine va_iald (D := (dC, dI)) hx hb hK hP 0 0 rfl rfl (by unfold vp_in; decide) dX6_weather_113 ?_
              refine lv_topi (fun v85 e86 => ?_)
              have ec : (0 : Int32).toNatClampNeg = 0 := by decide
              rw [ec] at e86
              subst e86
              refine lv_istore (lv' := [(7, .int (pI g77 ((pO g77 (pF g77 o 0) j).getD 0) 0)), (6, .int 1), (0, .ref o), (1, .int (nI j)), (2, .int lo), (3, .int hi), (4, .int wi), (5, .int hu)]) hx hb dX6_weather_114 hl (by decide) rfl (fun ls hl => ?_)
              refine lv_aload_n hx hb dX6_weather_116 rfl (lv_at hl 2 rfl) ?_
              obtain ⟨u88, u89, hP, hf⟩ := o_mo (i := 0) (q := o) hM (by omega)
              refine va_get (D := (dC, dI)) (ci := 10) (v := .ref (pF g77 o 0)) (C := RX6) (T := TX6) (N := 11) hx hb hts (by decide +kernel) hown hK hP 0 rfl rfl 1 (by decide) (hts (.fieldLink RX6 15 "SnowpalaceModel" "days" "[[I") (by decide +kernel)) (fun _ h9 => h9) rfl dX6_weather_117 ?_
              refine lv_iload_n hx hb dX6_weather_120 rfl (lv_at hl 3 rfl) ?_
              refine lv_iconst (v := 4) hx hb dX6_weather_121 (by decide) ?_
              obtain ⟨q90, hq90⟩ : ∃ z, z = H.size := ⟨_, rfl⟩
              have fq90 : tg g77 q90 = 0 := by rw [hq90]; exact hM.fresh
              have bq90 : b ≤ q90 := by rw [hq90]; exact Nat.le_trans hb0 hS.1
              refine rt_newa (D := (dC, dI)) (t0 := 0) (atype := .int) (a0 := (4, .inl (fun _ => 0))) hx hb (hts (.arrayClass .int) (by decide +kernel)) (ty := .int) rfl hK rfl hS (N' := 4) (fun _ => rfl) (by decide) (by decide) (Nat.le_of_ble_eq_true rfl) (Nat.le_of_ble_eq_true rfl) (Nat.le_of_ble_eq_true rfl) dX6_weather_122 (fun H hP hz ho hS => ?_)
              rw [← hq90] at hP ⊢
              have hM := hM.keep ho
              have hXq90 : va_P (dC, dI) vwCl [(q90, .inl (kA 0, 4, .inl (fun _ => 0)))] H := hP
              refine lv_dup hx hb dX6_weather_124 rfl ?_
              refine lv_iconst (v := 0) hx hb dX6_weather_125 (by decide) ?_
              refine lv_iload_n hx hb dX6_weather_126 rfl (lv_at hl 4 rfl) ?_
              refine rt_iast (D := (dC, dI)) (t0 := 0) hx hb hK hXq90 bq90 hS rfl (by unfold vp_in; decide) dX6_weather_127 (fun H locs hP hz ho hS => ?_)
              have ec : (0 : Int32).toNatClampNeg = 0 := by decide
              rw [ec] at hP
              have hM := hM.out fq90 ho
              have hXq90 : va_P (dC, dI) vwCl [(q90, .inl (kA 0, 4, .inl (upd (fun _ => 0) 0 lo)))] H := hP
              refine lv_dup hx hb dX6_weather_128 rfl ?_
              refine lv_iconst (v := 1) hx hb dX6_weather_129 (by decide) ?_
              refine lv_iload_n hx hb dX6_weather_130 rfl (lv_at hl 5 rfl) ?_
              refine rt_iast (D := (dC, dI)) (t0 := 0) hx hb hK hXq90 bq90 hS rfl (by unfold vp_in; decide) dX6_weather_131 (fun H locs hP hz ho hS => ?_)
              have ec : (1 : Int32).toNatClampNeg = 1 := by decide
              rw [ec] at hP
              have hM := hM.out fq90 ho
              have hXq90 : va_P (dC, dI) vwCl [(q90, .inl (kA 0, 4, .inl (upd (upd (fun _ => 0) 0 lo) 1 hi)))] H := hP
              refine lv_dup hx hb dX6_weather_132 rfl ?_
              refine lv_iconst (v := 2) hx hb dX6_weather_133 (by decide) ?_
              refine lv_iload hx hb dX6_weather_134 (lv_at hl 6 rfl) ?_
              refine rt_iast (D := (dC, dI)) (t0 := 0) hx hb hK hXq90 bq90 hS rfl (by unfold vp_in; decide) dX6_weather_136 (fun H locs hP hz ho hS => ?_)
              have ec : (2 : Int32).toNatClampNeg = 2 := by decide
              rw [ec] at hP
              have hM := hM.out fq90 ho
              have hXq90 : va_P (dC, dI) vwCl [(q90, .inl (kA 0, 4, .inl (upd (upd (upd (fun _ => 0) 0 lo) 1 hi) 2 wi)))] H := hP
              refine lv_dup hx hb dX6_weather_137 rfl ?_
              refine lv_iconst (v := 3) hx hb dX6_weather_138 (by decide) ?_
              refine lv_iload hx hb dX6_weather_139 (lv_at hl 7 rfl) ?_
              refine rt_iast (D := (dC, dI)) (t0 := 0) hx hb hK hXq90 bq90 hS rfl (by unfold vp_in; decide) dX6_weather_141 (fun H locs hP hz ho hS => ?_)
              have ec : (3 : Int32).toNatClampNeg = 3 := by decide
              rw [ec] at hP
              have hM := hM.out fq90 ho
              have hXq90 : va_P (dC, dI) vwCl [(q90, .inl (kA 0, 4, .inl (upd (upd (upd (upd (fun _ => 0) 0 lo) 1 hi) 2 wi) 3 hu)))] H := hP
              have hM9 := hM.tell (t := 22) (fi := (upd (upd (upd (upd (fun _ => 0) 0 lo) 1 hi) 2 wi) 3 hu)) (ff := (fun _ => 0)) (fo := (fun _ => none)) (fl := (fun _ => 0)) fq90 bq90 hXq90 (by rw [show 22 % 64 = 22 by omega, show 22 / 64 = 0 by omega]; exact TE.m22 ⟨rfl, (show -400 ≤ lo.toInt by omega), (show lo.toInt ≤ hi.toInt by omega), (show hi.toInt ≤ 200 by omega), (show 0 ≤ wi.toInt by omega), (show wi.toInt ≤ 30 by omega), (show 0 ≤ hu.toInt by omega), (show hu.toInt ≤ 100 by omega)⟩)
              have hG9 := nw_G (t := 22) (fi := (upd (upd (upd (upd (fun _ => 0) 0 lo) 1 hi) 2 wi) 3 hu)) (ff := (fun _ => 0)) (fo := (fun _ => none)) (fl := (fun _ => 0)) hG hM fq90 (by omega) (fun h9 => by omega)
              have hx92 : Ext o X0 g77 (nw g77 q90 22 (upd (upd (upd (upd (fun _ => 0) 0 lo) 1 hi) 2 wi) 3 hu) (fun _ => 0) (fun _ => none) (fun _ => 0)) := Ext.nw fq90
              obtain ⟨g91, hg91⟩ : ∃ z, z = nw g77 q90 22 (upd (upd (upd (upd (fun _ => 0) 0 lo) 1 hi) 2 wi) 3 hu) (fun _ => 0) (fun _ => none) (fun _ => 0) := ⟨_, rfl⟩
              rw [← hg91] at hM9 hG9 hx92
              have hM := hM9
              have hG := hG9
              have ht93 : tg g91 o = 17 := hx92.tk ht79 (by omega)
              have ht94 : tg g91 (pF g77 o 0) = 18 := hx92.tk ht83 (by omega)
              have ht95 : tg g91 ((pO g77 (pF g77 o 0) j).getD 0) = 22 := hx92.tk ht84 (by omega)
              have ht96 : tg g91 q90 = 22 := by rw [hg91]; exact nw_t
              obtain ⟨hP, hf⟩ := o_ro (i := 0) (q := q90) hM (by omega)
              have hPv := hP
              obtain ⟨hP, hf⟩ := o_da (i := 0) (q := (pF g77 o 0)) hM (by omega)
              refine rt_ast2 (D := (dC, dI)) (t0 := 6) (t1 := 0) hx hb hE.2.1.2.2.2.2.2.1 hK hP (hM.ge (by omega)) hS rfl hPv rfl (vp_in_nI (by omega) (by decide)) dX6_weather_142 (fun H locs hP hz ho hS => ?_)
              have ec : ((nI j) : Int32).toNatClampNeg = j := nI_clamp (by omega)
              rw [ec] at hP
              have hM0 := hM
              have hM := p_da (i := 0) (f := va_up (pO g91 (pF g77 o 0)) j (some q90)) hM (by omega) hP ho (up_S hf ht96)
              obtain ⟨g97, hg97⟩ : ∃ z, z = uO g91 (pF g77 o 0) (va_up (pO g91 (pF g77 o 0)) j (some q90)) := ⟨_, rfl⟩
              rw [← hg97] at hM
              have ht98 : tg g97 o = 17 := by rw [hg97]; exact ht93
              have ht99 : tg g97 (pF g77 o 0) = 18 := by rw [hg97]; exact ht94
              have ht100 : tg g97 ((pO g77 (pF g77 o 0) j).getD 0) = 22 := by rw [hg97]; exact ht95
              have ht101 : tg g97 q90 = 22 := by rw [hg97]; exact ht96
              have hG : GOK g97 := by rw [hg97]; exact (gok_uOs hG)
              refine lv_iload hx hb dX6_weather_143 (lv_at hl 0 rfl) ?_
              refine W.widen (k := 1) (n := 4) (Nat.le_of_ble_eq_true rfl) (Nat.le_of_ble_eq_true rfl) ?_
              exact W.iret (v := (pI g77 ((pO g77 (pF g77 o 0) j).getD 0) 0)) hx hb hr (fun t ht hW => ⟨⟨(pI g77 ((pO g77 (pF g77 o 0) j).getD 0) 0), g97, rfl, ⟨g77, hx78, Or.inl ⟨by omega, by omega, hth80, j, g91, q90, rfl, by omega, rfl, hx92, fq90, ht96, by rw [hg91]; exact congrFun nw_I 0, by rw [hg91]; exact congrFun nw_I 1, by rw [hg91]; exact congrFun nw_I 2, by rw [hg91]; exact congrFun nw_I 3, by rw [hg97]; show pI g91 o 2 = 0; rw [hg91]; exact (congrFun (if_neg (fun e9 => by have h9 := fq90; rw [← e9] at h9; have h8 := ht79; omega)) 2).trans hth80, by rw [hg97]⟩⟩, CX.give hb0 hM hK hG hE hS ht hW⟩, hS.F ht⟩) hS.2.2 dX6_weather_145
            · skip
              have i103 := fun z => c71 ((Int32.le_iff_toInt_le).mpr z)
              have ii103 : ((nI (24 * j)) : Int32).toInt = (((24 * j) : Nat) : Int) := nI_toInt (by omega)
              have i103 : ¬ (((pI g o 0) : Int32).toInt ≤ ((nI (24 * j)) : Int32).toInt) := i103
              refine lv_iconst (v := 2) hx hb dX6_weather_93 (by decide) ?_
              refine lv_goto (tgt := 98) hx hb dX6_weather_94 (by decide) ?_
              obtain ⟨u104, u105, hP, hf⟩ := o_mo (i := 0) (q := o) hM (by omega)
              refine va_calli (va_runV (As := [.int 2]) (rest := []) ⟨hx, hb, hml, hown, hts⟩ (rm_isWrong l dC dI kA eD b g o 2 (by omega)) (cwV 1 hts gX6_weather_X6_isWrong rfl rfl rfl (by decide +kernel) ⟨Nat.le_of_ble_eq_true rfl, Nat.le_of_ble_eq_true rfl⟩) ⟨fb_CX, va_recv hK hP (ci := 10) (q0 := 0) rfl rfl, fun U hU hW => ⟨rfl, CX.give hb0 hM hK hG hE hS hU hW⟩⟩ rfl rfl hl.1 rfl (lv_room (Nat.le_of_ble_eq_true rfl)) dX6_weather_98 ⟨(Nat.le_of_ble_eq_true rfl), (Nat.le_of_ble_eq_true rfl)⟩) hS (fun q _ h => h) (fun q h => h) (fun r106 g108 t H locs ht hvm hw107 hB hz1 hk1 hS => ?_)
              have hM := hB.back ht
              have hG := hB.2.2.2.1
              have hx109 : Ext o X0 g g108 := hw107.1
              have ht110 : tg g108 o = 17 := hx109.tk hto (by omega)
              obtain rfl : r106 = 1 := hw107.2.2.trans (by decide)
              have hth111 : pI g108 o 2 = 2 := by rw [hw107.2.1]; exact sI_at
              refine lv_if_eq (tgt := 106) hx hb dX6_weather_101 (by decide) (fun cx => by first | exact absurd cx (by decide) | exact absurd (by decide) cx) (fun _ => ?_)
              refine lv_iconst (v := 0) hx hb dX6_weather_104 (by decide) ?_
              refine W.widen (k := 1) (n := 4) (Nat.le_of_ble_eq_true rfl) (Nat.le_of_ble_eq_true rfl) ?_
              exact W.iret (v := 0) hx hb hr (fun t ht hW => ⟨⟨0, g108, rfl, ⟨g108, hx109, Or.inr (Or.inr ⟨hth111, by omega, by omega, rfl⟩)⟩, CX.give hb0 hM hK hG hE hS ht hW⟩, hS.F ht⟩) hS.2.2 dX6_weather_105

set_option maxHeartbeats 4000000 in
set_option maxRecDepth 100000 in
theorem rmf_site (l : Launch) (dC : Nat → ClassId) (dI : Nat → Nat → Nat) (kA : Nat → ClassId) (eD b : Nat) (g : Gh) (o : Nat)  (hto : tg g o = 17) (hed : pF g (pF g o 5) 1 = eD) : Met l yX6_site wsX6_site ({ frames := 5, cells := 16, slots := 128, locals := 101 }) (va_Pc [.ref o] (CX (dC, dI) kA eD b g)) (va_Qi (fun (r : Int32) (u : Gh) => ∃ v, Ext o X0 g v ∧ ((pI v o 2 = 1 ∧ pI v (pF g o 5) 0 = nI 3 ∧ u = v) ∨ (pI v o 2 = 0 ∧ ∃ k a w, k < 3 ∧ pI g (pF g o 5) 0 = nI k ∧ Ext o X0 v w ∧ tg v a = 0 ∧ tg w a = 28 + 64 * k ∧ pI w a 0 = 0 ∧ (∀ y, y < 6 → pO w (pF w (pF w a 0) y) = fun _ => none) ∧ (∀ y x, y < 6 → pI w (pF w (pF w a 1) y) x = 0) ∧ tg w (pF w a 0) = 29 + 64 * k ∧ (∀ y, y < 6 → tg w (pF w (pF w a 0) y) = 30 + 64 * (8 * k + y)) ∧ tg w (pF w a 1) = 32 + 64 * k ∧ (∀ y, y < 6 → tg w (pF w (pF w a 1) y) = 33 + 64 * (8 * k + y)) ∧ Ax (pF g o 5) k a w u ∧ pI u o 2 = 0 ∧ r = nI k))) (fun (u : Gh) t => CX (dC, dI) kA eD b u t) (fun q => b ≤ q)) 16 128 (fun q => b ≤ q) := by
  refine Met.ofW (cc := cX6_site) (maxL := 1) (ret := (some .int)) (by decide +kernel) rfl ?_
  intro p e s m args below meth c s₁ B hml hv
  obtain ⟨rfl, hb0, hM, hK, hG, hE⟩ := hv
  have hx := B.exec
  have hb := B.bytes
  have hr := B.returns
  have hts := atoms_spec (ws := wsX6_site) B.pre
  have hown : s.vm.findClass RX6 = some m.cls := findClass_of_methodNamed B.named
  have hlocks := B.notSynchronized
  have hT := hE.1
  have hN := hE.2.2.2.2.2.2.2.1
  have hS : va_S (fun q => b ≤ q) s.heap s.heap [] := va_S.rf
  have hl := lv_entry ([.ref o]) (n := 1) (Nat.le_of_ble_eq_true rfl)
  rw [lg_entry_eq]
  generalize (lg_sl ([.ref o]) ++ List.replicate (1 - (lg_sl ([.ref o])).length) Slot.unset).toArray = ls at hl ⊢
  have hl : lv_has ls 1 [(0, .ref o)] := hl
  generalize ([.ref o] : List Value).toArray = args at hts ⊢
  have hls := (mo_list hM hto).2
  have hfm := (mo_list hM hto).1
  refine lv_aload_n hx hb dX6_site_0 rfl (lv_at hl 0 rfl) ?_
  refine lv_aload_n hx hb dX6_site_1 rfl (lv_at hl 0 rfl) ?_
  obtain ⟨u1, u2, hP, hf⟩ := o_mo (i := 0) (q := o) hM (by omega)
  refine va_get (D := (dC, dI)) (ci := 10) (v := .ref (pF g o 5)) (C := RX6) (T := TX6) (N := 11) hx hb hts (by decide +kernel) hown hK hP 0 rfl rfl 10 (by decide) (hts (.fieldLink RX6 34 "SnowpalaceModel" "sites" "Ljava/util/List;") (by decide +kernel)) (fun _ h9 => h9) rfl dX6_site_2 ?_
  obtain ⟨hP, hf⟩ := o_al (i := 0) (q := (pF g o 5)) hM (by omega)
  refine va_callFi (va_runF (hK.1 3 _ rfl).2 (As := []) (rest := [.ref o]) ⟨hx, hb, hml, hown, hts⟩ (rj_size l dC dI kA eD b g (pF g o 5) (by omega)) (va_cwF 0 hts gX6_site_Jx4a65c_size_8abf5_f130Jx4a65c rfl rfl rfl hE.2.1.1 (by decide +kernel) ⟨Nat.le_of_ble_eq_true rfl, Nat.le_of_ble_eq_true rfl⟩) ⟨fb_CX, va_recv hK hP (ci := 3) (q0 := 0) rfl rfl, fun U hU hW => ⟨rfl, CX.give hb0 hM hK hG hE hS hU hW⟩⟩ rfl rfl hl.1 rfl (lv_room (Nat.le_of_ble_eq_true rfl)) dX6_site_5 ⟨(Nat.le_of_ble_eq_true rfl), (Nat.le_of_ble_eq_true rfl)⟩) hS (fun q _ h => h) (fun q h => h) (fun r3 u t H locs ht hvm hw4 hB hz1 hk1 hS => ?_)
  have hM := hB.back ht
  have hG := hB.2.2.2.1
  obtain rfl : r3 = (pI g (pF g o 5) 0) := hw4
  have hsz5 := hf.1
  obtain ⟨k, hk3, ek⟩ := toN (p := pI g (pF g o 5) 0) (k := 3) hls.1 hls.2 (by decide)
  rw [ek]
  refine lv_iconst (v := 3) hx hb dX6_site_10 (by decide) ?_
  refine lv_icmp_ne (tgt := 18) hx hb dX6_site_11 (by decide) (fun c6 => ?_) (fun c6 => ?_)
  · skip
    have k7 : ¬ (k = 3) := fun z => c6 ((nI_eq (a := k) (b := 3) (by omega) (by omega)).mpr z)
    refine lv_iconst (v := 0) hx hb dX6_site_18 (by decide) ?_
    obtain ⟨u8, u9, hP, hf⟩ := o_mo (i := 0) (q := o) hM (by omega)
    refine va_calli (va_runV (As := [.int 0]) (rest := []) ⟨hx, hb, hml, hown, hts⟩ (rm_isWrong l dC dI kA eD b g o 0 (by omega)) (cwV 1 hts gX6_site_X6_isWrong rfl rfl rfl (by decide +kernel) ⟨Nat.le_of_ble_eq_true rfl, Nat.le_of_ble_eq_true rfl⟩) ⟨fb_CX, va_recv hK hP (ci := 10) (q0 := 0) rfl rfl, fun U hU hW => ⟨rfl, CX.give hb0 hM hK hG hE hS hU hW⟩⟩ rfl rfl hl.1 rfl (lv_room (Nat.le_of_ble_eq_true rfl)) dX6_site_19 ⟨(Nat.le_of_ble_eq_true rfl), (Nat.le_of_ble_eq_true rfl)⟩) hS (fun q _ h => h) (fun q h => h) (fun r10 g12 t H locs ht hvm hw11 hB hz1 hk1 hS => ?_)
    have hM := hB.back ht
    have hG := hB.2.2.2.1
    have hx13 : Ext o X0 g g12 := hw11.1
    have ht14 : tg g12 o = 17 := hx13.tk hto (by omega)
    have ht15 : tg g12 (pF g o 5) = 26 := hx13.tk hfm (by omega)
    obtain rfl : r10 = 0 := hw11.2.2.trans (by decide)
    have hth16 : pI g12 o 2 = 0 := by rw [hw11.2.1]; exact sI_at
    refine lv_if_eq (tgt := 27) hx hb dX6_site_22 (by decide) (fun _ => ?_) (fun cx => by first | exact absurd (by decide) cx | exact absurd cx (by decide))
    refine lv_aload_n hx hb dX6_site_27 rfl (lv_at hl 0 rfl) ?_
    obtain ⟨u17, u18, hP, hf⟩ := o_mo (i := 0) (q := o) hM (by omega)
    refine va_get (D := (dC, dI)) (ci := 10) (v := .ref (pF g12 o 5)) (C := RX6) (T := TX6) (N := 11) hx hb hts (by decide +kernel) hown hK hP 0 rfl rfl 10 (by decide) (hts (.fieldLink RX6 34 "SnowpalaceModel" "sites" "Ljava/util/List;") (by decide +kernel)) (fun _ h9 => h9) rfl dX6_site_28 ?_
    have ht19 : tg g12 (pF g12 o 5) = 26 := hf.2.2.2.2.2.1
    obtain ⟨q20, hq20⟩ : ∃ z, z = H.size := ⟨_, rfl⟩
    have fq20 : tg g12 q20 = 0 := by rw [hq20]; exact hM.fresh
    have bq20 : b ≤ q20 := by rw [hq20]; exact Nat.le_trans hb0 hS.1
    refine rt_new (D := (dC, dI)) (ci := 9) (fs := [.null, .null, .int 0, .int 0, .int 0, .int 0, .int 0, .int 0, .double 0, .null]) (C := RX5) (T := TX5) (N := 10) hx hb hts (by decide +kernel) tyX5 tyX5_ok hown (hts (.classLink RX6 125 RX5) (by decide +kernel)) (hts (.instantiable RX5 10) (by decide +kernel)) (hts (.initialized RX5) (by decide +kernel)) hK hS rfl (fun j hj => by rcases (show j = 0 ∨ j = 1 ∨ j = 2 ∨ j = 3 ∨ j = 4 ∨ j = 5 ∨ j = 6 ∨ j = 7 ∨ j = 8 ∨ j = 9 by omega) with rfl | rfl | rfl | rfl | rfl | rfl | rfl | rfl | rfl | rfl <;> rfl) (Nat.le_of_ble_eq_true rfl) (Nat.le_of_ble_eq_true rfl) dX6_site_31 (fun H hP hz ho hS => ?_)
    rw [← hq20] at hP ⊢
    have hM := hM.keep ho
    have hXq20 : va_P (dC, dI) vwCl [(q20, .inr (9, [.null, .null, .int 0, .int 0, .int 0, .int 0, .int 0, .int 0, .double 0, .null]))] H := hP
    refine lv_dup hx hb dX6_site_34 rfl ?_
    refine lv_aload_n hx hb dX6_site_35 rfl (lv_at hl 0 rfl) ?_
    refine va_callv (va_runIN (As := [.ref o]) (rest := [.ref q20, .ref (pF g12 o 5)]) ⟨hx, hb, hml, hown, hts⟩ (rm_msite l dC dI kA eD b g12 q20 o k (by omega)) (⟨va_cnB 1 hts gX6_site_X5_init_n134 rfl rfl rfl (hN (.methodLinkNest RX6 134 yX5_init RX6) (by decide +kernel)) (hts (.initialized RX5) (by decide +kernel)) (by decide +kernel) ⟨Nat.le_of_ble_eq_true rfl, Nat.le_of_ble_eq_true rfl⟩, rfl, hts (.instanceMethod yX5_init) (by decide +kernel)⟩) ⟨fb_CXn, fun U hU hW => ⟨rfl, CXn.give (s := s) (locs := []) (CX.give hb0 hM hK hG hE hS hU hW) fq20 bq20 hXq20 hU⟩⟩ rfl rfl hl.1 rfl (lv_room (Nat.le_of_ble_eq_true rfl)) dX6_site_36 ⟨(Nat.le_of_ble_eq_true rfl), (Nat.le_of_ble_eq_true rfl)⟩) hS (fun q _ h => h) (fun q h => h) (fun g21 t H locs ht hvm hw22 hB hz1 hk1 hS => ?_)
    have hM := hB.back ht
    have hG := hB.2.2.2.1
    have hx23 : Ext o X0 g12 g21 := (hw22.1).free fq20
    have ht24 : tg g21 o = 17 := hx23.tk ht14 (by omega)
    have ht25 : tg g21 (pF g o 5) = 26 := hx23.tk ht15 (by omega)
    have ht26 : tg g21 (pF g12 o 5) = 26 := hx23.tk ht19 (by omega)
    have ht27 : tg g21 q20 = 28 + 64 * k := hw22.2.1
    obtain ⟨hP, hf⟩ := o_al (i := 0) (q := (pF g12 o 5)) hM (by omega)
    have hL9 : (pF g12 o 5) = pF g o 5 := congrFun ((hx13 : Ext o X0 g g12).f (by omega)) 5
    have hs9 : pI g21 (pF g12 o 5) 0 = nI k := by rw [hL9]; exact (((hx13.trans hx23) : Ext o X0 g g21).i (by omega) (Or.inr (by decide))).trans ek
    have he9 : pF g21 (pF g12 o 5) 1 = eD := by rw [hL9]; exact (congrFun (((hx13.trans hx23) : Ext o X0 g g21).f (by omega)) 1).trans hed
    have hMw := hM
    refine va_callFi (va_runF (hK.1 3 _ rfl).2 (As := [.ref q20]) (rest := []) ⟨hx, hb, hml, hown, hts⟩ (rj_add1 l dC dI kA eD b g21 (pF g12 o 5) q20 k (by omega) (by omega) hs9 he9 ht27) (va_cwF 1 hts gX6_site_Jx4a65c_add_9ea2d_f137Jx4a65c rfl rfl rfl hE.2.1.2.2.2.2.1 (by decide +kernel) ⟨Nat.le_of_ble_eq_true rfl, Nat.le_of_ble_eq_true rfl⟩) ⟨fb_CX, va_recv hK hP (ci := 3) (q0 := 0) rfl rfl, fun U hU hW => ⟨rfl, CX.give hb0 hM hK hG hE hS hU hW⟩⟩ rfl rfl hl.1 rfl (lv_room (Nat.le_of_ble_eq_true rfl)) dX6_site_39 ⟨(Nat.le_of_ble_eq_true rfl), (Nat.le_of_ble_eq_true rfl)⟩) hS (fun q _ h => h) (fun q h => h) (fun r28 g30 t H locs ht hvm hw29 hB hz1 hk1 hS => ?_)
    have hM := hB.back ht
    have hG := hB.2.2.2.1
    have ht31 : tg g30 o = 17 := (hw29.2.1 o (by omega)).1.trans ht24
    have ht32 : tg g30 (pF g o 5) = 26 := (hw29.2.1 (pF g o 5) (by omega)).1.trans ht25
    have ht33 : tg g30 (pF g12 o 5) = 26 := (hw29.2.1 (pF g12 o 5) (by omega)).1.trans ht26
    have ht34 : tg g30 q20 = 28 + 64 * k := (hw29.2.1 q20 (by omega)).1.trans ht27
    refine lv_pop hx hb dX6_site_44 rfl ?_
    refine lv_aload_n hx hb dX6_site_45 rfl (lv_at hl 0 rfl) ?_
    obtain ⟨u35, u36, hP, hf⟩ := o_mo (i := 0) (q := o) hM (by omega)
    refine va_get (D := (dC, dI)) (ci := 10) (v := .ref (pF g30 o 5)) (C := RX6) (T := TX6) (N := 11) hx hb hts (by decide +kernel) hown hK hP 0 rfl rfl 10 (by decide) (hts (.fieldLink RX6 34 "SnowpalaceModel" "sites" "Ljava/util/List;") (by decide +kernel)) (fun _ h9 => h9) rfl dX6_site_46 ?_
    have ht37 : tg g30 (pF g30 o 5) = 26 := hf.2.2.2.2.2.1
    obtain ⟨hP, hf⟩ := o_al (i := 0) (q := (pF g30 o 5)) hM (by omega)
    refine va_callFi (va_runF (hK.1 3 _ rfl).2 (As := []) (rest := []) ⟨hx, hb, hml, hown, hts⟩ (rj_size l dC dI kA eD b g30 (pF g30 o 5) (by omega)) (va_cwF 0 hts gX6_site_Jx4a65c_size_8abf5_f130Jx4a65c rfl rfl rfl hE.2.1.1 (by decide +kernel) ⟨Nat.le_of_ble_eq_true rfl, Nat.le_of_ble_eq_true rfl⟩) ⟨fb_CX, va_recv hK hP (ci := 3) (q0 := 0) rfl rfl, fun U hU hW => ⟨rfl, CX.give hb0 hM hK hG hE hS hU hW⟩⟩ rfl rfl hl.1 rfl (lv_room (Nat.le_of_ble_eq_true rfl)) dX6_site_49 ⟨(Nat.le_of_ble_eq_true rfl), (Nat.le_of_ble_eq_true rfl)⟩) hS (fun q _ h => h) (fun q h => h) (fun r38 u t H locs ht hvm hw39 hB hz1 hk1 hS => ?_)
    have hM := hB.back ht
    have hG := hB.2.2.2.1
    obtain rfl : r38 = (pI g30 (pF g30 o 5) 0) := hw39
    have hsz40 := hf.1
    have hL8 : pF g30 o 5 = (pF g12 o 5) := (congrFun ((hw29.2.1 o (by omega)).2.1 (fun e9 => by have h9 := ht24; have h8 := ht26; rw [← e9] at h8; omega)).2 5).trans (by rw [show pF g21 o 5 = pF g o 5 from congrFun (((hx13.trans hx23) : Ext o X0 g g21).f (by omega)) 5]; exact hL9.symm)
    rw [show pI g30 (pF g30 o 5) 0 = nI (k + 1) from by rw [hL8]; exact hw29.2.2.1]
    refine lv_iconst (v := 1) hx hb dX6_site_54 (by decide) ?_
    refine lv_isub hx hb dX6_site_55 ?_
    refine lv_topi (fun v41 e42 => ?_)
    obtain rfl : v41 = nI ((k + 1) - 1) := e42.trans (pk_sub (a := (k + 1)) (b := 1) (by omega))
    have hgtw := grid_tags hMw ht27
    obtain ⟨_, _, _, _, _, _, -, hms9⟩ := o_ms (i := k) (q := q20) hMw (by omega)
    have hp32 := hms9.2.1
    obtain ⟨-, hpo9⟩ := o_po (i := k) (q := pF g21 q20 1) hMw (by omega)
    refine W.widen (k := 16) (n := 128) (Nat.le_of_ble_eq_true rfl) (Nat.le_of_ble_eq_true rfl) ?_
    exact W.iret (v := (nI ((k + 1) - 1))) hx hb hr (fun t ht hW => ⟨⟨(nI ((k + 1) - 1)), g30, rfl, ⟨g12, hx13, Or.inr ⟨hth16, k, q20, g21, by omega, (by first | exact ek | rfl), hx23, fq20, hw22.2.1, hw22.2.2.1, hw22.2.2.2.1, hw22.2.2.2.2, hgtw.1, hgtw.2, hp32, hpo9, by rw [← hL9]; exact hw29.2, (congrFun ((hw29.2.1 o (by omega)).2.1 (fun e9 => by have h9 := ht24; have h8 := ht26; rw [← e9] at h8; omega)).1 2).trans ((hw22.1.i (by omega) (Or.inl (fun e9 => by have h9 := fq20; rw [← e9] at h9; have h8 := ht14; omega))).trans hth16), congrArg nI (by omega)⟩⟩, CX.give hb0 hM hK hG hE hS ht hW⟩, hS.F ht⟩) hS.2.2 dX6_site_56
  · skip
    have k43 : k = 3 := (nI_eq (a := k) (b := 3) (by omega) (by omega)).mp c6
    refine lv_iconst (v := 1) hx hb dX6_site_14 (by decide) ?_
    refine lv_goto (tgt := 19) hx hb dX6_site_15 (by decide) ?_
    obtain ⟨u44, u45, hP, hf⟩ := o_mo (i := 0) (q := o) hM (by omega)
    refine va_calli (va_runV (As := [.int 1]) (rest := []) ⟨hx, hb, hml, hown, hts⟩ (rm_isWrong l dC dI kA eD b g o 1 (by omega)) (cwV 1 hts gX6_site_X6_isWrong rfl rfl rfl (by decide +kernel) ⟨Nat.le_of_ble_eq_true rfl, Nat.le_of_ble_eq_true rfl⟩) ⟨fb_CX, va_recv hK hP (ci := 10) (q0 := 0) rfl rfl, fun U hU hW => ⟨rfl, CX.give hb0 hM hK hG hE hS hU hW⟩⟩ rfl rfl hl.1 rfl (lv_room (Nat.le_of_ble_eq_true rfl)) dX6_site_19 ⟨(Nat.le_of_ble_eq_true rfl), (Nat.le_of_ble_eq_true rfl)⟩) hS (fun q _ h => h) (fun q h => h) (fun r46 g48 t H locs ht hvm hw47 hB hz1 hk1 hS => ?_)
    have hM := hB.back ht
    have hG := hB.2.2.2.1
    have hx49 : Ext o X0 g g48 := hw47.1
    have ht50 : tg g48 o = 17 := hx49.tk hto (by omega)
    have ht51 : tg g48 (pF g o 5) = 26 := hx49.tk hfm (by omega)
    obtain rfl : r46 = 1 := hw47.2.2.trans (by decide)
    have hth52 : pI g48 o 2 = 1 := by rw [hw47.2.1]; exact sI_at
    refine lv_if_eq (tgt := 27) hx hb dX6_site_22 (by decide) (fun cx => by first | exact absurd cx (by decide) | exact absurd (by decide) cx) (fun _ => ?_)
    refine lv_iconst (v := 0) hx hb dX6_site_25 (by decide) ?_
    refine W.widen (k := 16) (n := 128) (Nat.le_of_ble_eq_true rfl) (Nat.le_of_ble_eq_true rfl) ?_
    exact W.iret (v := 0) hx hb hr (fun t ht hW => ⟨⟨0, g48, rfl, ⟨g48, hx49, Or.inl ⟨hth52, by have h9 := nI_toInt (n := k) (by omega); rw [show k = 3 by omega] at ek; exact ((hx49 : Ext o X0 g g48).i (by omega) (Or.inr (by decide))).trans ek, rfl⟩⟩, CX.give hb0 hM hK hG hE hS ht hW⟩, hS.F ht⟩) hS.2.2 dX6_site_26
