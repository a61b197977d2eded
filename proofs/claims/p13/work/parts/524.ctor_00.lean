set_option maxHeartbeats 4000000 in
set_option maxRecDepth 100000 in
theorem rm_cell (l : Launch) (dC : Nat → ClassId) (dI : Nat → Nat → Nat) (kA : Nat → ClassId) (eD b : Nat) (g : Gh) (o : Nat) (kd : Int32) (mo : Nat) (hkd : vp_nar .char kd = kd) : Met l yX4_init wsX4_init ({ frames := 1, cells := 0, slots := 0, locals := 12 }) (va_Pc [.ref o, .int kd] (CXn (dC, dI) kA eD b g o (.inr (8, [.int 0, .int 0, .int 0, .int 0, .int 0])))) (va_Qv (fun (u : Gh) => Ext mo X0 g u ∧ tg u o = 31 ∧ True) (fun (u : Gh) t => CX (dC, dI) kA eD b u t) (fun q => b ≤ q)) 0 0 (fun q => b ≤ q) := by
  refine Met.ofW (cc := cX4_init) (maxL := 2) (ret := none) (by decide +kernel) rfl ?_
  intro p e s m args below meth c s₁ B hml hv
  obtain ⟨rfl, ⟨hb0, hM, hK, hG, hE⟩, hf0, hbo, hXo⟩ := hv
  have hx := B.exec
  have hb := B.bytes
  have hr := B.returns
  have hts := atoms_spec (ws := wsX4_init) B.pre
  have hown : s.vm.findClass RX4 = some m.cls := findClass_of_methodNamed B.named
  have hlocks := B.notSynchronized
  have hin : meth.name = "<init>" := (name_of_methodNamed B.named B.method).1
  have hT := hE.1
  have hN := hE.2.2.2.2.2.2.2.1
  have hS : va_S (fun q => b ≤ q) s.heap s.heap [] := va_S.rf
  have hl := lv_entry ([.ref o, .int kd]) (n := 2) (Nat.le_of_ble_eq_true rfl)
  rw [lg_entry_eq]
  generalize (lg_sl ([.ref o, .int kd]) ++ List.replicate (2 - (lg_sl ([.ref o, .int kd])).length) Slot.unset).toArray = ls at hl ⊢
  have hl : lv_has ls 2 [(0, .ref o), (1, .int kd)] := hl
  generalize ([.ref o, .int kd] : List Value).toArray = args at hts ⊢
  refine lv_aload_n hx hb dX4_init_0 rfl (lv_at hl 0 rfl) ?_
  refine W.objInit hx hb hown (hts (.methodLink RX4 1 objectInit) (by decide +kernel)) (hts (.instanceMethod objectInit) (by decide +kernel)) (hts (.code objectInit ⟨#[0xb1]⟩ 1 none) (by decide +kernel)) rfl (by rw [hml]; exact hl.1) rfl dX4_init_1 (Nat.le_of_ble_eq_true rfl) (Nat.le_of_ble_eq_true rfl) ?_
  refine W.eq (g2 := F0 m 4 ls []) rfl ?_
  refine lv_aload_n hx hb dX4_init_4 rfl (lv_at hl 0 rfl) ?_
  refine lv_iload_n hx hb dX4_init_5 rfl (lv_at hl 1 rfl) ?_
  refine rt_putF (D := (dC, dI)) (ci := 8) (v := .int kd) (ty := .char) (C := RX4) (T := TX4) (N := 5) hx hb hts (by decide +kernel) tyX4 tyX4_ok nmX4 hown hK hXo hbo hS rfl 0 (by decide) (hts (.fieldLink RX4 7 "SnowpalaceModel$Cell" "kind" "C") (by decide +kernel)) (fun _ h9 => h9) rfl hin rfl (by decide +kernel) (congrArg Value.int hkd) (charf (Value.int.inj (congrArg Value.int hkd))) (Nat.le_of_ble_eq_true rfl) dX4_init_6 (fun H locs hP hz ho hS => ?_)
  have hM := hM.out hf0 ho
  have hXo : va_P (dC, dI) vwCl [(o, .inr (8, [.int kd, .int 0, .int 0, .int 0, .int 0]))] H := hP
  refine lv_aload_n hx hb dX4_init_9 rfl (lv_at hl 0 rfl) ?_
  refine lv_iload_n hx hb dX4_init_10 rfl (lv_at hl 1 rfl) ?_
  refine lv_bipush (v := 115) hx hb dX4_init_11 (by decide) ?_
  refine lv_icmp_ne (tgt := 22) hx hb dX4_init_13 (by decide) (fun c1 => ?_) (fun c1 => ?_)
  · skip
    refine lv_iload_n hx hb dX4_init_22 rfl (lv_at hl 1 rfl) ?_
    refine lv_bipush (v := 105) hx hb dX4_init_23 (by decide) ?_
    refine lv_icmp_ne (tgt := 34) hx hb dX4_init_25 (by decide) (fun c2 => ?_) (fun c2 => ?_)
    · skip
      refine lv_sipush (v := 500) hx hb dX4_init_34 (by decide) ?_
      refine rt_put (D := (dC, dI)) (ci := 8) (v := .int 500) (ty := .int) (C := RX4) (T := TX4) (N := 5) hx hb hts (by decide +kernel) tyX4 tyX4_ok nmX4 hown hK hXo hbo hS rfl 1 (by decide) (hts (.fieldLink RX4 13 "SnowpalaceModel$Cell" "mass" "I") (by decide +kernel)) (fun _ h9 => h9) rfl (by decide +kernel) rfl rfl (Nat.le_of_ble_eq_true rfl) dX4_init_37 (fun H locs hP hz ho hS => ?_)
      have hM := hM.out hf0 ho
      have hXo : va_P (dC, dI) vwCl [(o, .inr (8, [.int kd, .int 500, .int 0, .int 0, .int 0]))] H := hP
      have hM9 := hM.tell (t := 31) (fi := (fun _ => 0)) (ff := (fun _ => 0)) (fo := (fun _ => none)) (fl := (fun _ => 0)) hf0 hbo hXo (by rw [show 31 % 64 = 31 by omega, show 31 / 64 = 0 by omega]; exact TE.m31 ⟨kd, 500, 0, 0, 0, rfl, hkd, Or.inl rfl⟩)
      have hG9 := nw_G (t := 31) (fi := (fun _ => 0)) (ff := (fun _ => 0)) (fo := (fun _ => none)) (fl := (fun _ => 0)) hG hM hf0 (by omega) (fun h9 => by omega)
      have hx4 : Ext mo X0 g (nw g o 31 (fun _ => 0) (fun _ => 0) (fun _ => none) (fun _ => 0)) := Ext.nw hf0
      obtain ⟨g3, hg3⟩ : ∃ z, z = nw g o 31 (fun _ => 0) (fun _ => 0) (fun _ => none) (fun _ => 0) := ⟨_, rfl⟩
      rw [← hg3] at hM9 hG9 hx4
      have hM := hM9
      have hG := hG9
      have ht5 : tg g3 o = 31 := by rw [hg3]; exact nw_t
      refine W.widen (k := 0) (n := 0) (Nat.le_of_ble_eq_true rfl) (Nat.le_of_ble_eq_true rfl) ?_
      exact W.vret hx hb hr (fun t ht hW => ⟨⟨g3, rfl, ⟨hx4, ht5, trivial⟩, CX.give hb0 hM hK hG hE hS ht hW⟩, hS.F ht⟩) hS.2.2 dX4_init_40
    · skip
      refine lv_sipush (v := 450) hx hb dX4_init_28 (by decide) ?_
      refine lv_goto (tgt := 37) hx hb dX4_init_31 (by decide) ?_
      refine rt_put (D := (dC, dI)) (ci := 8) (v := .int 450) (ty := .int) (C := RX4) (T := TX4) (N := 5) hx hb hts (by decide +kernel) tyX4 tyX4_ok nmX4 hown hK hXo hbo hS rfl 1 (by decide) (hts (.fieldLink RX4 13 "SnowpalaceModel$Cell" "mass" "I") (by decide +kernel)) (fun _ h9 => h9) rfl (by decide +kernel) rfl rfl (Nat.le_of_ble_eq_true rfl) dX4_init_37 (fun H locs hP hz ho hS => ?_)
      have hM := hM.out hf0 ho
      have hXo : va_P (dC, dI) vwCl [(o, .inr (8, [.int kd, .int 450, .int 0, .int 0, .int 0]))] H := hP
      have hM9 := hM.tell (t := 31) (fi := (fun _ => 0)) (ff := (fun _ => 0)) (fo := (fun _ => none)) (fl := (fun _ => 0)) hf0 hbo hXo (by rw [show 31 % 64 = 31 by omega, show 31 / 64 = 0 by omega]; exact TE.m31 ⟨kd, 450, 0, 0, 0, rfl, hkd, Or.inl rfl⟩)
      have hG9 := nw_G (t := 31) (fi := (fun _ => 0)) (ff := (fun _ => 0)) (fo := (fun _ => none)) (fl := (fun _ => 0)) hG hM hf0 (by omega) (fun h9 => by omega)
      have hx7 : Ext mo X0 g (nw g o 31 (fun _ => 0) (fun _ => 0) (fun _ => none) (fun _ => 0)) := Ext.nw hf0
      obtain ⟨g6, hg6⟩ : ∃ z, z = nw g o 31 (fun _ => 0) (fun _ => 0) (fun _ => none) (fun _ => 0) := ⟨_, rfl⟩
      rw [← hg6] at hM9 hG9 hx7
      have hM := hM9
      have hG := hG9
      have ht8 : tg g6 o = 31 := by rw [hg6]; exact nw_t
      refine W.widen (k := 0) (n := 0) (Nat.le_of_ble_eq_true rfl) (Nat.le_of_ble_eq_true rfl) ?_
      exact W.vret hx hb hr (fun t ht hW => ⟨⟨g6, rfl, ⟨hx7, ht8, trivial⟩, CX.give hb0 hM hK hG hE hS ht hW⟩, hS.F ht⟩) hS.2.2 dX4_init_40
  · skip
    refine lv_sipush (v := 300) hx hb dX4_init_16 (by decide) ?_
    refine lv_goto (tgt := 37) hx hb dX4_init_19 (by decide) ?_
    refine rt_put (D := (dC, dI)) (ci := 8) (v := .int 300) (ty := .int) (C := RX4) (T := TX4) (N := 5) hx hb hts (by decide +kernel) tyX4 tyX4_ok nmX4 hown hK hXo hbo hS rfl 1 (by decide) (hts (.fieldLink RX4 13 "SnowpalaceModel$Cell" "mass" "I") (by decide +kernel)) (fun _ h9 => h9) rfl (by decide +kernel) rfl rfl (Nat.le_of_ble_eq_true rfl) dX4_init_37 (fun H locs hP hz ho hS => ?_)
    have hM := hM.out hf0 ho
    have hXo : va_P (dC, dI) vwCl [(o, .inr (8, [.int kd, .int 300, .int 0, .int 0, .int 0]))] H := hP
    have hM9 := hM.tell (t := 31) (fi := (fun _ => 0)) (ff := (fun _ => 0)) (fo := (fun _ => none)) (fl := (fun _ => 0)) hf0 hbo hXo (by rw [show 31 % 64 = 31 by omega, show 31 / 64 = 0 by omega]; exact TE.m31 ⟨kd, 300, 0, 0, 0, rfl, hkd, Or.inl rfl⟩)
    have hG9 := nw_G (t := 31) (fi := (fun _ => 0)) (ff := (fun _ => 0)) (fo := (fun _ => none)) (fl := (fun _ => 0)) hG hM hf0 (by omega) (fun h9 => by omega)
    have hx10 : Ext mo X0 g (nw g o 31 (fun _ => 0) (fun _ => 0) (fun _ => none) (fun _ => 0)) := Ext.nw hf0
    obtain ⟨g9, hg9⟩ : ∃ z, z = nw g o 31 (fun _ => 0) (fun _ => 0) (fun _ => none) (fun _ => 0) := ⟨_, rfl⟩
    rw [← hg9] at hM9 hG9 hx10
    have hM := hM9
    have hG := hG9
    have ht11 : tg g9 o = 31 := by rw [hg9]; exact nw_t
    refine W.widen (k := 0) (n := 0) (Nat.le_of_ble_eq_true rfl) (Nat.le_of_ble_eq_true rfl) ?_
    exact W.vret hx hb hr (fun t ht hW => ⟨⟨g9, rfl, ⟨hx10, ht11, trivial⟩, CX.give hb0 hM hK hG hE hS ht hW⟩, hS.F ht⟩) hS.2.2 dX4_init_40

set_option maxHeartbeats 4000000 in
set_option maxRecDepth 100000 in
theorem rm_msite (l : Launch) (dC : Nat → ClassId) (dI : Nat → Nat → Nat) (kA : Nat → ClassId) (eD b : Nat) (g : Gh) (o : Nat) (md i : Nat) (hmd : tg g md = 17) : Met l yX5_init wsX5_init ({ frames := 1, cells := 14, slots := 108, locals := 12 }) (va_Pc [.ref o, .ref md] (CXn (dC, dI) kA eD b g o (.inr (9, [.null, .null, .int 0, .int 0, .int 0, .int 0, .int 0, .int 0, .double 0, .null])))) (va_Qv (fun (u : Gh) => Ext o X0 g u ∧ tg u o = 28 + 64 * i ∧ pI u o 0 = 0 ∧ (∀ y, y < 6 → pO u (pF u (pF u o 0) y) = fun _ => none) ∧ ∀ y x, y < 6 → pI u (pF u (pF u o 1) y) x = 0) (fun (u : Gh) t => CX (dC, dI) kA eD b u t) (fun q => b ≤ q)) 14 108 (fun q => b ≤ q) := by
  refine Met.ofW (cc := cX5_init) (maxL := 2) (ret := none) (by decide +kernel) rfl ?_
  intro p e s m args below meth c s₁ B hml hv
  obtain ⟨rfl, ⟨hb0, hM, hK, hG, hE⟩, hf0, hbo, hXo⟩ := hv
  have hx := B.exec
  have hb := B.bytes
  have hr := B.returns
  have hts := atoms_spec (ws := wsX5_init) B.pre
  have hown : s.vm.findClass RX5 = some m.cls := findClass_of_methodNamed B.named
  have hlocks := B.notSynchronized
  have hin : meth.name = "<init>" := (name_of_methodNamed B.named B.method).1
  have hT := hE.1
  have hN := hE.2.2.2.2.2.2.2.1
  have hS : va_S (fun q => b ≤ q) s.heap s.heap [] := va_S.rf
  have hl := lv_entry ([.ref o, .ref md]) (n := 2) (Nat.le_of_ble_eq_true rfl)
  rw [lg_entry_eq]
  generalize (lg_sl ([.ref o, .ref md]) ++ List.replicate (2 - (lg_sl ([.ref o, .ref md])).length) Slot.unset).toArray = ls at hl ⊢
  have hl : lv_has ls 2 [(0, .ref o), (1, .ref md)] := hl
  generalize ([.ref o, .ref md] : List Value).toArray = args at hts ⊢
  refine lv_aload_n hx hb dX5_init_0 rfl (lv_at hl 0 rfl) ?_
  refine lv_aload_n hx hb dX5_init_1 rfl (lv_at hl 1 rfl) ?_
  refine rt_putF (D := (dC, dI)) (ci := 9) (v := .ref md) (ty := (.object "SnowpalaceModel")) (C := RX5) (T := TX5) (N := 10) hx hb hts (by decide +kernel) tyX5 tyX5_ok nmX5 hown hK hXo hbo hS rfl 9 (by decide) (hts (.fieldLink RX5 3 "SnowpalaceModel$Site" "this$0" "LSnowpalaceModel;") (by decide +kernel)) (fun _ h9 => h9) rfl hin rfl (by decide +kernel) rfl rfl (Nat.le_of_ble_eq_true rfl) dX5_init_2 (fun H locs hP hz ho hS => ?_)
  have hM := hM.out hf0 ho
  have hXo : va_P (dC, dI) vwCl [(o, .inr (9, [.null, .null, .int 0, .int 0, .int 0, .int 0, .int 0, .int 0, .double 0, .ref md]))] H := hP
  refine lv_aload_n hx hb dX5_init_5 rfl (lv_at hl 0 rfl) ?_
  refine W.objInit hx hb hown (hts (.methodLink RX5 9 objectInit) (by decide +kernel)) (hts (.instanceMethod objectInit) (by decide +kernel)) (hts (.code objectInit ⟨#[0xb1]⟩ 1 none) (by decide +kernel)) rfl (by rw [hml]; exact hl.1) rfl dX5_init_6 (Nat.le_of_ble_eq_true rfl) (Nat.le_of_ble_eq_true rfl) ?_
  refine W.eq (g2 := F0 m 9 ls []) rfl ?_
  refine lv_aload_n hx hb dX5_init_9 rfl (lv_at hl 0 rfl) ?_
  refine lv_bipush (v := 6) hx hb dX5_init_10 (by decide) ?_
  refine lv_bipush (v := 8) hx hb dX5_init_12 (by decide) ?_
  obtain ⟨q1, hq1⟩ : ∃ z, z = H.size := ⟨_, rfl⟩
  have hbq : b ≤ H.size := Nat.le_trans hb0 hS.1
  have ltoq1 : o < q1 := by have := (va_of1 hXo).lt; omega
  refine rt_mna (D := (dC, dI)) (t0 := 9) (t1 := 8) (ty := (.object "SnowpalaceModel$Cell")) hx hb hown (by rw [show "[" ++ (FieldType.array (.object "SnowpalaceModel$Cell")).toString = "[[LSnowpalaceModel$Cell;" from by decide +kernel]; exact va_any rfl hE.2.2.1.1) hE.2.2.1.2.1 (ac_any (a := #[]) hE.2.2.1.2.2.2) hK rfl rfl hS (n := 6) (k := 8) (N' := 6) (K' := 8) (z := (8, .inr (.inr (.inr (.inr (fun _ => none)))))) (by decide) (by decide) (by decide) (by decide) (by decide) (by decide) (by decide) (by decide) (by decide) (Nat.le_of_ble_eq_true rfl) (Nat.le_of_ble_eq_true rfl) (fun c => inn_q c) dX5_init_14 (fun H hP9 hR9 hz9 ho9 hS => ?_)
  have hM9 := gmn_TM (t := (29 + 64 * i)) (tr := (fun j => 30 + 64 * (8 * i + j))) hM hbq hz9 ho9 hP9 hR9 ((by rw [show (29 + 64 * i) % 64 = 29 by omega, show (29 + 64 * i) / 64 = i by omega]; exact TE.m29 ⟨rfl, fun j hj => gmn_r hj⟩)) (fun j hj => (by rw [show (30 + 64 * (8 * i + j)) % 64 = 30 by omega, show (30 + 64 * (8 * i + j)) / 64 = 8 * i + j by omega]; exact TE.m30 ⟨rfl, fun j hj a9 ha9 => absurd ha9 (by simp)⟩))
  have hx3 := gmn_ext (m := o) (X := X0) (t := (29 + 64 * i)) (tr := (fun j => 30 + 64 * (8 * i + j))) hM
  have hG := gmn_GOK (t := (29 + 64 * i)) (tr := (fun j => 30 + 64 * (8 * i + j))) hG hM (by omega) (fun j => by omega)
  rw [← hq1] at hM9 hx3 hG
  rw [← hq1]
  obtain ⟨g2, hg2⟩ : ∃ z, z = gmn g q1 (29 + 64 * i) (fun j => 30 + 64 * (8 * i + j)) := ⟨_, rfl⟩
  rw [← hg2] at hM9 hx3 hG
  have hM := hM9
  have hXo := xk2 hXo ho9
  have hf4 : tg g2 o = 0 := by rw [hg2]; exact (gmn_n ltoq1).1.trans hf0
  have ht5 : tg g2 md = 17 := hx3.tk hmd (by omega)
  have ht6 : tg g2 q1 = 29 + 64 * i := by rw [hg2]; exact gmn_o
  refine rt_putF (D := (dC, dI)) (ci := 9) (v := .ref q1) (ty := (.array (.array (.object "SnowpalaceModel$Cell")))) (C := RX5) (T := TX5) (N := 10) hx hb hts (by decide +kernel) tyX5 tyX5_ok nmX5 hown hK hXo hbo hS rfl 0 (by decide) (hts (.fieldLink RX5 17 "SnowpalaceModel$Site" "cells" "[[LSnowpalaceModel$Cell;") (by decide +kernel)) (fun _ h9 => h9) rfl hin rfl (by decide +kernel) rfl rfl (Nat.le_of_ble_eq_true rfl) dX5_init_18 (fun H locs hP hz ho hS => ?_)
  have hM := hM.out hf4 ho
  have hXo : va_P (dC, dI) vwCl [(o, .inr (9, [.ref q1, .null, .int 0, .int 0, .int 0, .int 0, .int 0, .int 0, .double 0, .ref md]))] H := hP
  refine lv_aload_n hx hb dX5_init_21 rfl (lv_at hl 0 rfl) ?_
  refine lv_bipush (v := 6) hx hb dX5_init_22 (by decide) ?_
  refine lv_bipush (v := 8) hx hb dX5_init_24 (by decide) ?_
  obtain ⟨q7, hq7⟩ : ∃ z, z = H.size := ⟨_, rfl⟩
  have hbq : b ≤ H.size := Nat.le_trans hb0 hS.1
  have ltoq7 : o < q7 := by have := (va_of1 hXo).lt; omega
  refine rt_mna (D := (dC, dI)) (t0 := 7) (t1 := 1) (ty := .boolean) hx hb hown (by rw [show "[" ++ (FieldType.array .boolean).toString = "[[Z" from by decide +kernel]; exact hts (.classLink RX5 20 "[[Z") (by decide +kernel)) hE.2.2.1.2.2.1 (hts (.arrayClass .boolean) (by decide +kernel)) hK rfl rfl hS (n := 6) (k := 8) (N' := 6) (K' := 8) (z := (8, .inl (fun _ => 0))) (by decide) (by decide) (by decide) (by decide) (by decide) (by decide) (by decide) (by decide) (by decide) (Nat.le_of_ble_eq_true rfl) (Nat.le_of_ble_eq_true rfl) (fun c => inn_b c) dX5_init_26 (fun H hP9 hR9 hz9 ho9 hS => ?_)
  have hM9 := gmn_TM (t := (32 + 64 * i)) (tr := (fun j => 33 + 64 * (8 * i + j))) hM hbq hz9 ho9 hP9 hR9 ((by rw [show (32 + 64 * i) % 64 = 32 by omega, show (32 + 64 * i) / 64 = i by omega]; exact TE.m32 ⟨rfl, fun j hj => gmn_r hj⟩)) (fun j hj => (by rw [show (33 + 64 * (8 * i + j)) % 64 = 33 by omega, show (33 + 64 * (8 * i + j)) / 64 = 8 * i + j by omega]; exact TE.m33 ⟨rfl, fun j hj => Or.inl rfl⟩))
  have hx9 := gmn_ext (m := o) (X := X0) (t := (32 + 64 * i)) (tr := (fun j => 33 + 64 * (8 * i + j))) hM
  have hG := gmn_GOK (t := (32 + 64 * i)) (tr := (fun j => 33 + 64 * (8 * i + j))) hG hM (by omega) (fun j => by omega)
  rw [← hq7] at hM9 hx9 hG
  rw [← hq7]
  obtain ⟨g8, hg8⟩ : ∃ z, z = gmn g2 q7 (32 + 64 * i) (fun j => 33 + 64 * (8 * i + j)) := ⟨_, rfl⟩
  rw [← hg8] at hM9 hx9 hG
  have hM := hM9
  have hXo := xk2 hXo ho9
  have hf10 : tg g8 o = 0 := by rw [hg8]; exact (gmn_n ltoq7).1.trans hf4
  have ht11 : tg g8 md = 17 := hx9.tk ht5 (by omega)
  have ht12 : tg g8 q1 = 29 + 64 * i := hx9.tk ht6 (by omega)
  have ht13 : tg g8 q7 = 32 + 64 * i := by rw [hg8]; exact gmn_o
  refine rt_putF (D := (dC, dI)) (ci := 9) (v := .ref q7) (ty := (.array (.array .boolean))) (C := RX5) (T := TX5) (N := 10) hx hb hts (by decide +kernel) tyX5 tyX5_ok nmX5 hown hK hXo hbo hS rfl 1 (by decide) (hts (.fieldLink RX5 22 "SnowpalaceModel$Site" "plan" "[[Z") (by decide +kernel)) (fun _ h9 => h9) rfl hin rfl (by decide +kernel) rfl rfl (Nat.le_of_ble_eq_true rfl) dX5_init_30 (fun H locs hP hz ho hS => ?_)
  have hM := hM.out hf10 ho
  have hXo : va_P (dC, dI) vwCl [(o, .inr (9, [.ref q1, .ref q7, .int 0, .int 0, .int 0, .int 0, .int 0, .int 0, .double 0, .ref md]))] H := hP
  refine lv_aload_n hx hb dX5_init_33 rfl (lv_at hl 0 rfl) ?_
  refine lv_iconst (v := (-1)) hx hb dX5_init_34 (by decide) ?_
  refine rt_put (D := (dC, dI)) (ci := 9) (v := .int (-1)) (ty := .int) (C := RX5) (T := TX5) (N := 10) hx hb hts (by decide +kernel) tyX5 tyX5_ok nmX5 hown hK hXo hbo hS rfl 5 (by decide) (hts (.fieldLink RX5 25 "SnowpalaceModel$Site" "last" "I") (by decide +kernel)) (fun _ h9 => h9) rfl (by decide +kernel) rfl rfl (Nat.le_of_ble_eq_true rfl) dX5_init_35 (fun H locs hP hz ho hS => ?_)
  have hM := hM.out hf10 ho
  have hXo : va_P (dC, dI) vwCl [(o, .inr (9, [.ref q1, .ref q7, .int 0, .int 0, .int 0, .int (-1), .int 0, .int 0, .double 0, .ref md]))] H := hP
  have hg5 := hG.2.2.2
  have hM9 := hM.tell (t := (28 + 64 * i)) (fi := (fun _ => 0)) (ff := (fun j9 => if j9 = 0 then q1 else if j9 = 1 then q7 else md)) (fo := (fun _ => none)) (fl := (fun _ => 0)) hf10 hbo hXo (by rw [show (28 + 64 * i) % 64 = 28 by omega, show (28 + 64 * i) / 64 = i by omega]; exact TE.m28 ⟨0, 0, (-1), 0, 0, 0, rfl, (nw_k ht12 (by omega) hf10), (nw_k ht13 (by omega) hf10), (nw_k ht11 (by omega) hf10), Or.inl rfl⟩)
  have hG9 := nw_G (t := (28 + 64 * i)) (fi := (fun _ => 0)) (ff := (fun j9 => if j9 = 0 then q1 else if j9 = 1 then q7 else md)) (fo := (fun _ => none)) (fl := (fun _ => 0)) hG hM hf10 (by omega) (fun _ m9 hm9 => hg5 md m9 ht11 hm9)
  have hx15 : Ext o X0 g8 (nw g8 o (28 + 64 * i) (fun _ => 0) (fun j9 => if j9 = 0 then q1 else if j9 = 1 then q7 else md) (fun _ => none) (fun _ => 0)) := Ext.nw hf10
  obtain ⟨g14, hg14⟩ : ∃ z, z = nw g8 o (28 + 64 * i) (fun _ => 0) (fun j9 => if j9 = 0 then q1 else if j9 = 1 then q7 else md) (fun _ => none) (fun _ => 0) := ⟨_, rfl⟩
  rw [← hg14] at hM9 hG9 hx15
  have hM := hM9
  have hG := hG9
  have ht16 : tg g14 md = 17 := hx15.tk ht11 (by omega)
  have ht17 : tg g14 q1 = 29 + 64 * i := hx15.tk ht12 (by omega)
  have ht18 : tg g14 q7 = 32 + 64 * i := hx15.tk ht13 (by omega)
  have ht19 : tg g14 o = 28 + 64 * i := by rw [hg14]; exact nw_t
  have hn1 : pI g14 o 0 = 0 := by rw [hg14]; exact congrFun nw_I 0
  have hn2 : pF g14 o 0 = q1 := by rw [hg14]; exact congrFun nw_F 0
  have hn3 : pF g14 o 1 = q7 := by rw [hg14]; exact congrFun nw_F 1
  have hr1 : ∀ y, y < 6 → pF g14 q1 y = q1 + 1 + y ∧ pO g14 (q1 + 1 + y) = fun _ => none := fun y hy => by
    have t1 : tg g2 q1 ≠ 0 := by have := ht6; omega
    have t2 : tg g2 (q1 + 1 + y) ≠ 0 := by rw [hg2, gmn_r hy]; omega
    have E9 : Ext o X0 g2 g14 := (hx9.trans hx15)
    exact ⟨by rw [E9.f t1, hg2]; exact gmn_f, by rw [E9.o t2 (fun z => z), hg2]; exact gmn_O hy⟩
  have hoB : tg g8 o = 0 := hf10
  have hr2 : ∀ y, y < 6 → pF g14 q7 y = q7 + 1 + y ∧ ∀ x, pI g14 (q7 + 1 + y) x = 0 := fun y hy => by
    have t1 : tg g8 q7 ≠ 0 := by have := ht13; omega
    have t2 : tg g8 (q7 + 1 + y) = 33 + 64 * (8 * i + y) := by rw [hg8]; exact gmn_r hy
    have E9 : Ext o X0 g8 g14 := hx15
    exact ⟨by rw [E9.f t1, hg8]; exact gmn_f, fun x => by rw [E9.i (q := q7 + 1 + y) (j := x) (by omega) (Or.inl (fun e9 => by rw [e9, hoB] at t2; omega)), hg8]; exact gmn_i hy⟩
  refine W.widen (k := 14) (n := 108) (Nat.le_of_ble_eq_true rfl) (Nat.le_of_ble_eq_true rfl) ?_
  exact W.vret hx hb hr (fun t ht hW => ⟨⟨g14, rfl, ⟨((hx3.trans hx9).trans hx15), ht19, hn1, fun y hy => by rw [hn2, (hr1 y hy).1]; exact (hr1 y hy).2, fun y x hy => by rw [hn3, (hr2 y hy).1]; exact (hr2 y hy).2 x⟩, CX.give hb0 hM hK hG hE hS ht hW⟩, hS.F ht⟩) hS.2.2 dX5_init_38
