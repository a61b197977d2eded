set_option maxHeartbeats 4000000 in
set_option maxRecDepth 100000 in
theorem rm_isBetween (l : Launch)   (v : Int64) (lo : Int64) (hi : Int64) (v2 lo2 hi2 : Int) (hv2 : v.toInt = v2) (hlo : lo.toInt = lo2) (hhi : hi.toInt = hi2) : Met l yX6_isBetween wsX6_isBetween ({ frames := 0, cells := 0, slots := 0, locals := 0 }) (va_Pc [.long v, .long lo, .long hi] (fun _ => True)) (va_Qi (fun (r : Int32) (u : Unit) => r = bI (lo2 ≤ v2 ∧ v2 ≤ hi2)) (fun (u : Unit) t => True) (fun _ => False)) 0 0 (fun _ => False) := by
  refine Met.ofW (cc := cX6_isBetween) (maxL := 6) (ret := (some .boolean)) (by decide +kernel) rfl ?_
  intro p e s m args below meth c s₁ B hml hv
  obtain ⟨rfl, -⟩ := hv
  have hx := B.exec
  have hb := B.bytes
  have hr := B.returns
  have hts := atoms_spec (ws := wsX6_isBetween) B.pre
  have hown : s.vm.findClass RX6 = some m.cls := findClass_of_methodNamed B.named
  have hlocks := B.notSynchronized
  have hM : True := trivial
  have hS : va_S (fun _ => False) s.heap s.heap [] := va_S.rf
  have hl := lv_entry ([.long v, .long lo, .long hi]) (n := 6) (Nat.le_of_ble_eq_true rfl)
  rw [lg_entry_eq]
  generalize (lg_sl ([.long v, .long lo, .long hi]) ++ List.replicate (6 - (lg_sl ([.long v, .long lo, .long hi])).length) Slot.unset).toArray = ls at hl ⊢
  have hl : lv_has ls 6 [(0, .long v), (2, .long lo), (4, .long hi)] := hl
  generalize ([.long v, .long lo, .long hi] : List Value).toArray = args at hts ⊢
  refine lv_lload_n hx hb dX6_isBetween_0 rfl (lv_at hl 1 rfl) ?_
  refine lv_lload_n hx hb dX6_isBetween_1 rfl (lv_at hl 0 rfl) ?_
  refine W.lcmp hx hb dX6_isBetween_2 ?_
  refine lv_topi (fun v1 e2 => ?_)
  refine lv_if_gt (tgt := 17) hx hb dX6_isBetween_3 (by decide) (fun c3 => ?_) (fun c3 => ?_)
  · skip
    refine lv_iconst (v := 0) hx hb dX6_isBetween_17 (by decide) ?_
    refine W.widen (k := 0) (n := 0) (Nat.le_of_ble_eq_true rfl) (Nat.le_of_ble_eq_true rfl) ?_
    exact W.zret (v := 0) (ty := .boolean) hx hb hr rfl (fun t ht hW => ⟨⟨0, (), rfl, (isB_0 hv2 hlo hhi ⟨Or.inl e2, c3⟩), trivial⟩, hS.F ht⟩) hS.2.2 dX6_isBetween_18
  · skip
    refine lv_lload_n hx hb dX6_isBetween_6 rfl (lv_at hl 0 rfl) ?_
    refine lv_lload hx hb dX6_isBetween_7 (lv_at hl 2 rfl) ?_
    refine W.lcmp hx hb dX6_isBetween_9 ?_
    refine lv_topi (fun v4 e5 => ?_)
    refine lv_if_gt (tgt := 17) hx hb dX6_isBetween_10 (by decide) (fun c6 => ?_) (fun c6 => ?_)
    · skip
      refine lv_iconst (v := 0) hx hb dX6_isBetween_17 (by decide) ?_
      refine W.widen (k := 0) (n := 0) (Nat.le_of_ble_eq_true rfl) (Nat.le_of_ble_eq_true rfl) ?_
      exact W.zret (v := 0) (ty := .boolean) hx hb hr rfl (fun t ht hW => ⟨⟨0, (), rfl, (isB_0 hv2 hlo hhi ⟨Or.inr e5, c6⟩), trivial⟩, hS.F ht⟩) hS.2.2 dX6_isBetween_18
    · skip
      refine lv_iconst (v := 1) hx hb dX6_isBetween_13 (by decide) ?_
      refine lv_goto (tgt := 18) hx hb dX6_isBetween_14 (by decide) ?_
      refine W.widen (k := 0) (n := 0) (Nat.le_of_ble_eq_true rfl) (Nat.le_of_ble_eq_true rfl) ?_
      exact W.zret (v := 1) (ty := .boolean) hx hb hr rfl (fun t ht hW => ⟨⟨1, (), rfl, (isB_1 hv2 hlo hhi e2 c3 e5 c6), trivial⟩, hS.F ht⟩) hS.2.2 dX6_isBetween_18

set_option maxHeartbeats 4000000 in
set_option maxRecDepth 100000 in
theorem rm_lets (l : Launch) (dC : Nat → ClassId) (dI : Nat → Nat → Nat) (kA : Nat → ClassId) (eD b : Nat) (g : Gh) (o : Nat)  (hto : tg g o = 31)  : Met l yX4_lets wsX4_lets ({ frames := 0, cells := 0, slots := 0, locals := 0 }) (va_Pc [.ref o] (CX (dC, dI) kA eD b g)) (va_Qf (fun (r : UInt32) (u : Unit) => FM 127 r) (fun (u : Unit) t => CX (dC, dI) kA eD b g t) (fun q => b ≤ q)) 0 0 (fun q => b ≤ q) := by
  refine Met.ofW (cc := cX4_lets) (maxL := 1) (ret := (some .float)) (by decide +kernel) rfl ?_
  intro p e s m args below meth c s₁ B hml hv
  obtain ⟨rfl, hb0, hM, hK, hG, hE⟩ := hv
  have hx := B.exec
  have hb := B.bytes
  have hr := B.returns
  have hts := atoms_spec (ws := wsX4_lets) B.pre
  have hown : s.vm.findClass RX4 = some m.cls := findClass_of_methodNamed B.named
  have hlocks := B.notSynchronized
  have hT := hE.1
  have hN := hE.2.2.2.2.2.2.2.1
  have hS : va_S (fun q => b ≤ q) s.heap s.heap [] := va_S.rf
  have hl := lv_entry ([.ref o]) (n := 1) (Nat.le_of_ble_eq_true rfl)
  rw [lg_entry_eq]
  generalize (lg_sl ([.ref o]) ++ List.replicate (1 - (lg_sl ([.ref o])).length) Slot.unset).toArray = ls at hl ⊢
  have hl : lv_has ls 1 [(0, .ref o)] := hl
  generalize ([.ref o] : List Value).toArray = args at hts ⊢
  refine lv_aload_n hx hb dX4_lets_0 rfl (lv_at hl 0 rfl) ?_
  obtain ⟨u1, u2, u3, u4, u5, hP, hf⟩ := o_ce (i := 0) (q := o) hM (by omega)
  refine va_get (D := (dC, dI)) (ci := 8) (v := .int u1) (C := RX4) (T := TX4) (N := 5) hx hb hts (by decide +kernel) hown hK hP 0 rfl rfl 0 (by decide) (hts (.fieldLink RX4 7 "SnowpalaceModel$Cell" "kind" "C") (by decide +kernel)) (fun _ h9 => h9) rfl dX4_lets_1 ?_
  have hb6 := hf.1
  refine lv_bipush (v := 115) hx hb dX4_lets_4 (by decide) ?_
  refine lv_icmp_ne (tgt := 14) hx hb dX4_lets_6 (by decide) (fun c7 => ?_) (fun c7 => ?_)
  · skip
    refine lv_aload_n hx hb dX4_lets_14 rfl (lv_at hl 0 rfl) ?_
    obtain ⟨u8, u9, u10, u11, u12, hP, hf⟩ := o_ce (i := 0) (q := o) hM (by omega)
    refine va_get (D := (dC, dI)) (ci := 8) (v := .int u8) (C := RX4) (T := TX4) (N := 5) hx hb hts (by decide +kernel) hown hK hP 0 rfl rfl 0 (by decide) (hts (.fieldLink RX4 7 "SnowpalaceModel$Cell" "kind" "C") (by decide +kernel)) (fun _ h9 => h9) rfl dX4_lets_15 ?_
    have hb13 := hf.1
    refine lv_bipush (v := 105) hx hb dX4_lets_18 (by decide) ?_
    refine lv_icmp_ne (tgt := 28) hx hb dX4_lets_20 (by decide) (fun c14 => ?_) (fun c14 => ?_)
    · skip
      refine lv_ldcf hx hb hown (hts (.constantFloat RX4 19 1061158912) (by decide +kernel)) dX4_lets_28 ?_
      refine W.widen (k := 0) (n := 0) (Nat.le_of_ble_eq_true rfl) (Nat.le_of_ble_eq_true rfl) ?_
      exact W.fret (v := 1061158912) hx hb hr (fun t ht hW => ⟨⟨1061158912, (), rfl, (show _ % 2147483648 < 127 * 8388608 by decide +kernel), CX.give hb0 hM hK hG hE hS ht hW⟩, hS.F ht⟩) hS.2.2 dX4_lets_30
    · skip
      refine lv_ldcf hx hb hown (hts (.constantFloat RX4 18 1056964608) (by decide +kernel)) dX4_lets_23 ?_
      refine lv_goto (tgt := 30) hx hb dX4_lets_25 (by decide) ?_
      refine W.widen (k := 0) (n := 0) (Nat.le_of_ble_eq_true rfl) (Nat.le_of_ble_eq_true rfl) ?_
      exact W.fret (v := 1056964608) hx hb hr (fun t ht hW => ⟨⟨1056964608, (), rfl, (show _ % 2147483648 < 127 * 8388608 by decide +kernel), CX.give hb0 hM hK hG hE hS ht hW⟩, hS.F ht⟩) hS.2.2 dX4_lets_30
  · skip
    refine lv_ldcf hx hb hown (hts (.constantFloat RX4 17 1048576000) (by decide +kernel)) dX4_lets_9 ?_
    refine lv_goto (tgt := 30) hx hb dX4_lets_11 (by decide) ?_
    refine W.widen (k := 0) (n := 0) (Nat.le_of_ble_eq_true rfl) (Nat.le_of_ble_eq_true rfl) ?_
    exact W.fret (v := 1048576000) hx hb hr (fun t ht hW => ⟨⟨1048576000, (), rfl, (show _ % 2147483648 < 127 * 8388608 by decide +kernel), CX.give hb0 hM hK hG hE hS ht hW⟩, hS.F ht⟩) hS.2.2 dX4_lets_30

set_option maxHeartbeats 4000000 in
set_option maxRecDepth 100000 in
theorem rm_has (l : Launch) (dC : Nat → ClassId) (dI : Nat → Nat → Nat) (kA : Nat → ClassId) (eD b : Nat) (g : Gh) (o : Nat) (i : Nat) (x y : Int32) (hto : tg g o = 28 + 64 * i)  : Met l yX5_has wsX5_has ({ frames := 1, cells := 0, slots := 0, locals := 25 }) (va_Pc [.ref o, .int x, .int y] (CX (dC, dI) kA eD b g)) (va_Qi (fun (r : Int32) (u : Unit) => r = 0 ∨ (r = 1 ∧ ∃ jx jy cl, x = nI jx ∧ y = nI jy ∧ jx < 8 ∧ jy < 6 ∧ pO g (pF g (pF g o 0) jy) jx = some cl)) (fun (u : Unit) t => CX (dC, dI) kA eD b g t) (fun q => b ≤ q)) 0 0 (fun q => b ≤ q) := by
  refine Met.ofW (cc := cX5_has) (maxL := 3) (ret := (some .boolean)) (by decide +kernel) rfl ?_
  intro p e s m args below meth c s₁ B hml hv
  obtain ⟨rfl, hb0, hM, hK, hG, hE⟩ := hv
  have hx := B.exec
  have hb := B.bytes
  have hr := B.returns
  have hts := atoms_spec (ws := wsX5_has) B.pre
  have hown : s.vm.findClass RX5 = some m.cls := findClass_of_methodNamed B.named
  have hlocks := B.notSynchronized
  have hT := hE.1
  have hN := hE.2.2.2.2.2.2.2.1
  have hS : va_S (fun q => b ≤ q) s.heap s.heap [] := va_S.rf
  have hl := lv_entry ([.ref o, .int x, .int y]) (n := 3) (Nat.le_of_ble_eq_true rfl)
  rw [lg_entry_eq]
  generalize (lg_sl ([.ref o, .int x, .int y]) ++ List.replicate (3 - (lg_sl ([.ref o, .int x, .int y])).length) Slot.unset).toArray = ls at hl ⊢
  have hl : lv_has ls 3 [(0, .ref o), (1, .int x), (2, .int y)] := hl
  generalize ([.ref o, .int x, .int y] : List Value).toArray = args at hts ⊢
  refine lv_iload_n hx hb dX5_has_0 rfl (lv_at hl 1 rfl) ?_
  refine lv_i2l hx hb dX5_has_1 rfl ?_
  refine lv_lconst (v := 0) hx hb dX5_has_2 (by decide) ?_
  refine lv_ldc2 hx hb hown (hts (.constantLong RX5 29 7) (by decide +kernel)) dX5_has_3 ?_
  refine va_calli (va_runSN (As := [.long x.toInt64, .long 0, .long 7]) (rest := []) ⟨hx, hb, hml, hown, hts⟩ (rm_isBetween l x.toInt64 0 7 ((x : Int32).toInt) (0) (7) (Int32.toInt_toInt64 _) (by decide) (by decide)) (⟨va_cnB 3 hts gX5_has_X6_isBetween_n31 rfl rfl rfl (hN (.methodLinkNest RX5 31 yX6_isBetween RX6) (by decide +kernel)) (hts (.initialized RX6) (by decide +kernel)) (by decide +kernel) ⟨Nat.le_of_ble_eq_true rfl, Nat.le_of_ble_eq_true rfl⟩, hts (.static yX6_isBetween) (by decide +kernel), trivial⟩) ⟨fun a U g mk q => q, fun U hU hW => ⟨rfl, trivial⟩⟩ rfl rfl hl.1 rfl (lv_room (Nat.le_of_ble_eq_true rfl)) dX5_has_6 ⟨(Nat.le_of_ble_eq_true rfl), (Nat.le_of_ble_eq_true rfl)⟩) hS (fun q _ h => h.elim) (fun q h => h.elim) (fun r1 u t H locs ht hvm hw2 hB hz1 hk1 hS => ?_)
  have hM := hM.keep (fun p hp => hk1 p hp (fun z => z))
  have hw2 : r1 = bI ((0 : Int) ≤ (x : Int32).toInt ∧ (x : Int32).toInt ≤ (7 : Int)) := hw2
  refine lv_if_eq (tgt := 39) hx hb dX5_has_9 (by decide) (fun c3 => ?_) (fun c3 => ?_)
  · skip
    have g4 : ¬ ((0 : Int) ≤ (x : Int32).toInt ∧ (x : Int32).toInt ≤ (7 : Int)) := bI_f hw2 c3
    have zg4 : r1 = 0 := bI_f0 hw2 g4
    refine lv_iconst (v := 0) hx hb dX5_has_39 (by decide) ?_
    refine W.widen (k := 0) (n := 0) (Nat.le_of_ble_eq_true rfl) (Nat.le_of_ble_eq_true rfl) ?_
    exact W.zret (v := 0) (ty := .boolean) hx hb hr rfl (fun t ht hW => ⟨⟨0, (), rfl, (Or.inl rfl), CX.give hb0 hM hK hG hE hS ht hW⟩, hS.F ht⟩) hS.2.2 dX5_has_40
  · skip
    have g5 : (0 : Int) ≤ (x : Int32).toInt ∧ (x : Int32).toInt ≤ (7 : Int) := bI_t hw2 c3
    have zg5 : r1 = 1 := bI_t1 hw2 g5
    obtain ⟨jx, hjx, rfl⟩ := toN (p := x) (k := 7) (by omega) (by omega) (by decide)
    have hl : lv_has ls 3 [(0, .ref o), (1, .int (nI jx)), (2, .int y)] := hl
    refine lv_iload_n hx hb dX5_has_12 rfl (lv_at hl 2 rfl) ?_
    refine lv_i2l hx hb dX5_has_13 rfl ?_
    refine lv_lconst (v := 0) hx hb dX5_has_14 (by decide) ?_
    refine lv_ldc2 hx hb hown (hts (.constantLong RX5 35 5) (by decide +kernel)) dX5_has_15 ?_
    refine va_calli (va_runSN (As := [.long y.toInt64, .long 0, .long 5]) (rest := []) ⟨hx, hb, hml, hown, hts⟩ (rm_isBetween l y.toInt64 0 5 ((y : Int32).toInt) (0) (5) (Int32.toInt_toInt64 _) (by decide) (by decide)) (⟨va_cnB 3 hts gX5_has_X6_isBetween_n31 rfl rfl rfl (hN (.methodLinkNest RX5 31 yX6_isBetween RX6) (by decide +kernel)) (hts (.initialized RX6) (by decide +kernel)) (by decide +kernel) ⟨Nat.le_of_ble_eq_true rfl, Nat.le_of_ble_eq_true rfl⟩, hts (.static yX6_isBetween) (by decide +kernel), trivial⟩) ⟨fun a U g mk q => q, fun U hU hW => ⟨rfl, trivial⟩⟩ rfl rfl hl.1 rfl (lv_room (Nat.le_of_ble_eq_true rfl)) dX5_has_18 ⟨(Nat.le_of_ble_eq_true rfl), (Nat.le_of_ble_eq_true rfl)⟩) hS (fun q _ h => h.elim) (fun q h => h.elim) (fun r6 u t H locs ht hvm hw7 hB hz1 hk1 hS => ?_)
    have hM := hM.keep (fun p hp => hk1 p hp (fun z => z))
    have hw7 : r6 = bI ((0 : Int) ≤ (y : Int32).toInt ∧ (y : Int32).toInt ≤ (5 : Int)) := hw7
    refine lv_if_eq (tgt := 39) hx hb dX5_has_21 (by decide) (fun c8 => ?_) (fun c8 => ?_)
    · skip
      have g9 : ¬ ((0 : Int) ≤ (y : Int32).toInt ∧ (y : Int32).toInt ≤ (5 : Int)) := bI_f hw7 c8
      have zg9 : r6 = 0 := bI_f0 hw7 g9
      refine lv_iconst (v := 0) hx hb dX5_has_39 (by decide) ?_
      refine W.widen (k := 0) (n := 0) (Nat.le_of_ble_eq_true rfl) (Nat.le_of_ble_eq_true rfl) ?_
      exact W.zret (v := 0) (ty := .boolean) hx hb hr rfl (fun t ht hW => ⟨⟨0, (), rfl, (Or.inl rfl), CX.give hb0 hM hK hG hE hS ht hW⟩, hS.F ht⟩) hS.2.2 dX5_has_40
    · skip
      have g10 : (0 : Int) ≤ (y : Int32).toInt ∧ (y : Int32).toInt ≤ (5 : Int) := bI_t hw7 c8
      have zg10 : r6 = 1 := bI_t1 hw7 g10
      obtain ⟨jy, hjy, rfl⟩ := toN (p := y) (k := 5) (by omega) (by omega) (by decide)
      have hl : lv_has ls 3 [(0, .ref o), (1, .int (nI jx)), (2, .int (nI jy))] := hl
      refine lv_aload_n hx hb dX5_has_24 rfl (lv_at hl 0 rfl) ?_
      obtain ⟨u11, u12, u13, u14, u15, u16, hP, hf⟩ := o_ms (i := i) (q := o) hM (by omega)
      refine va_get (D := (dC, dI)) (ci := 9) (v := .ref (pF g o 0)) (C := RX5) (T := TX5) (N := 10) hx hb hts (by decide +kernel) hown hK hP 0 rfl rfl 0 (by decide) (hts (.fieldLink RX5 17 "SnowpalaceModel$Site" "cells" "[[LSnowpalaceModel$Cell;") (by decide +kernel)) (fun _ h9 => h9) rfl dX5_has_25 ?_
      have ht17 : tg g (pF g o 0) = 29 + 64 * i := hf.1
      refine lv_iload_n hx hb dX5_has_28 rfl (lv_at hl 2 rfl) ?_
      obtain ⟨hP, hf⟩ := o_co (i := i) (q := (pF g o 0)) hM (by omega)
      have ec : ((nI jy) : Int32).toNatClampNeg = jy := nI_clamp (by omega)
      refine rt_aldA (D := (dC, dI)) (t0 := 9) hx hb hK hP rfl (vp_in_nI (by omega) (by decide)) (y := (pF g (pF g o 0) jy)) ((congrArg (fun z => if z < 6 then some (pF g (pF g o 0) z) else none) ec).trans (if_pos (by omega))) dX5_has_29 ?_
      have ht18 : tg g (pF g (pF g o 0) jy) = 30 + 64 * (8 * i + jy) := (hf jy (by omega))
      refine lv_iload_n hx hb dX5_has_30 rfl (lv_at hl 1 rfl) ?_
      obtain ⟨hP, hf⟩ := o_cr (i := (8 * i + jy)) (q := (pF g (pF g o 0) jy)) hM (by omega)
      refine va_aldq (D := (dC, dI)) hx hb hK hP 0 8 rfl rfl (vp_in_nI (by omega) (by decide)) dX5_has_31 ?_
      have ec : ((nI jx) : Int32).toNatClampNeg = jx := nI_clamp (by omega)
      rw [ec]
      have hq19 := hf jx (by omega)
      rcases hy21 : (pO g (pF g (pF g o 0) jy) jx) with _ | y20
      · skip
        try rw [hy21] at hl
        have hl : lv_has ls 3 [(0, .ref o), (1, .int (nI jx)), (2, .int (nI jy))] := hl
        refine lv_ifnullN (tgt := 39) hx hb dX5_has_32 (by decide) ?_
        refine lv_iconst (v := 0) hx hb dX5_has_39 (by decide) ?_
        refine W.widen (k := 0) (n := 0) (Nat.le_of_ble_eq_true rfl) (Nat.le_of_ble_eq_true rfl) ?_
        exact W.zret (v := 0) (ty := .boolean) hx hb hr rfl (fun t ht hW => ⟨⟨0, (), rfl, (Or.inl rfl), CX.give hb0 hM hK hG hE hS ht hW⟩, hS.F ht⟩) hS.2.2 dX5_has_40
      · skip
        try rw [hy21] at hl
        have hl : lv_has ls 3 [(0, .ref o), (1, .int (nI jx)), (2, .int (nI jy))] := hl
        have ht22 : tg g y20 = 31 := hq19 y20 hy21
        refine lv_ifnull hx hb dX5_has_32 ?_
        refine lv_iconst (v := 1) hx hb dX5_has_35 (by decide) ?_
        refine lv_goto (tgt := 40) hx hb dX5_has_36 (by decide) ?_
        refine W.widen (k := 0) (n := 0) (Nat.le_of_ble_eq_true rfl) (Nat.le_of_ble_eq_true rfl) ?_
        exact W.zret (v := 1) (ty := .boolean) hx hb hr rfl (fun t ht hW => ⟨⟨1, (), rfl, (Or.inr ⟨rfl, jx, jy, y20, rfl, rfl, by omega, by omega, hy21⟩), CX.give hb0 hM hK hG hE hS ht hW⟩, hS.F ht⟩) hS.2.2 dX5_has_40

set_option maxHeartbeats 4000000 in
set_option maxRecDepth 100000 in
theorem rm_isBorne (l : Launch) (dC : Nat → ClassId) (dI : Nat → Nat → Nat) (kA : Nat → ClassId) (eD b : Nat) (g : Gh) (o : Nat) (i : Nat) (x y : Int32) (hto : tg g o = 28 + 64 * i)  : Met l yX5_isBorne wsX5_isBorne ({ frames := 2, cells := 0, slots := 0, locals := 47 }) (va_Pc [.ref o, .int x, .int y] (CX (dC, dI) kA eD b g)) (va_Qi (fun (r : Int32) (u : Unit) => r = 0 ∨ (r = 1 ∧ 0 ≤ x.toInt ∧ x.toInt ≤ 7)) (fun (u : Unit) t => CX (dC, dI) kA eD b g t) (fun q => b ≤ q)) 0 0 (fun q => b ≤ q) := by
  refine Met.ofW (cc := cX5_isBorne) (maxL := 3) (ret := (some .boolean)) (by decide +kernel) rfl ?_
  intro p e s m args below meth c s₁ B hml hv
  obtain ⟨rfl, hb0, hM, hK, hG, hE⟩ := hv
  have hx := B.exec
  have hb := B.bytes
  have hr := B.returns
  have hts := atoms_spec (ws := wsX5_isBorne) B.pre
  have hown : s.vm.findClass RX5 = some m.cls := findClass_of_methodNamed B.named
  have hlocks := B.notSynchronized
  have hT := hE.1
  have hN := hE.2.2.2.2.2.2.2.1
  have hS : va_S (fun q => b ≤ q) s.heap s.heap [] := va_S.rf
  have hl := lv_entry ([.ref o, .int x, .int y]) (n := 3) (Nat.le_of_ble_eq_true rfl)
  rw [lg_entry_eq]
  generalize (lg_sl ([.ref o, .int x, .int y]) ++ List.replicate (3 - (lg_sl ([.ref o, .int x, .int y])).length) Slot.unset).toArray = ls at hl ⊢
  have hl : lv_has ls 3 [(0, .ref o), (1, .int x), (2, .int y)] := hl
  generalize ([.ref o, .int x, .int y] : List Value).toArray = args at hts ⊢
  refine lv_aload_n hx hb dX5_isBorne_0 rfl (lv_at hl 0 rfl) ?_
  refine lv_iload_n hx hb dX5_isBorne_1 rfl (lv_at hl 1 rfl) ?_
  refine lv_iload_n hx hb dX5_isBorne_2 rfl (lv_at hl 2 rfl) ?_
  obtain ⟨u1, u2, u3, u4, u5, u6, hP, hf⟩ := o_ms (i := i) (q := o) hM (by omega)
  refine va_calli (va_runV (As := [.int x, .int y]) (rest := []) ⟨hx, hb, hml, hown, hts⟩ (rm_has l dC dI kA eD b g o i x y (by omega)) (cwV 2 hts gX5_isBorne_X5_has rfl rfl rfl (by decide +kernel) ⟨Nat.le_of_ble_eq_true rfl, Nat.le_of_ble_eq_true rfl⟩) ⟨fb_CX, va_recv hK hP (ci := 9) (q0 := 0) rfl rfl, fun U hU hW => ⟨rfl, CX.give hb0 hM hK hG hE hS hU hW⟩⟩ rfl rfl hl.1 rfl (lv_room (Nat.le_of_ble_eq_true rfl)) dX5_isBorne_3 ⟨(Nat.le_of_ble_eq_true rfl), (Nat.le_of_ble_eq_true rfl)⟩) hS (fun q _ h => h) (fun q h => h) (fun r7 u t H locs ht hvm hw8 hB hz1 hk1 hS => ?_)
  have hM := hB.back ht
  have hG := hB.2.2.2.1
  refine lv_if_eq (tgt := 28) hx hb dX5_isBorne_6 (by decide) (fun c9 => ?_) (fun c9 => ?_)
  · skip
    refine lv_iconst (v := 0) hx hb dX5_isBorne_28 (by decide) ?_
    refine W.widen (k := 0) (n := 0) (Nat.le_of_ble_eq_true rfl) (Nat.le_of_ble_eq_true rfl) ?_
    exact W.zret (v := 0) (ty := .boolean) hx hb hr rfl (fun t ht hW => ⟨⟨0, (), rfl, (Or.inl rfl), CX.give hb0 hM hK hG hE hS ht hW⟩, hS.F ht⟩) hS.2.2 dX5_isBorne_29
  · skip
    obtain ⟨-, jx10, jy11, cl12, hp13, hp14, hj15, hj16, hc17⟩ := hw8.resolve_left c9
    have ihp13 : (x : Int32).toInt = ((jx10 : Nat) : Int) := by rw [hp13]; exact nI_toInt (by omega)
    have ihp14 : (y : Int32).toInt = ((jy11 : Nat) : Int) := by rw [hp14]; exact nI_toInt (by omega)
    refine lv_iload_n hx hb dX5_isBorne_9 rfl (lv_at hl 2 rfl) ?_
    refine lv_if_eq (tgt := 24) hx hb dX5_isBorne_10 (by decide) (fun c18 => ?_) (fun c18 => ?_)
    · skip
      refine lv_iconst (v := 1) hx hb dX5_isBorne_24 (by decide) ?_
      refine lv_goto (tgt := 29) hx hb dX5_isBorne_25 (by decide) ?_
      refine W.widen (k := 0) (n := 0) (Nat.le_of_ble_eq_true rfl) (Nat.le_of_ble_eq_true rfl) ?_
      exact W.zret (v := 1) (ty := .boolean) hx hb hr rfl (fun t ht hW => ⟨⟨1, (), rfl, (Or.inr ⟨rfl, by omega, by omega⟩), CX.give hb0 hM hK hG hE hS ht hW⟩, hS.F ht⟩) hS.2.2 dX5_isBorne_29
    · skip
      refine lv_aload_n hx hb dX5_isBorne_13 rfl (lv_at hl 0 rfl) ?_
      refine lv_iload_n hx hb dX5_isBorne_14 rfl (lv_at hl 1 rfl) ?_
      refine lv_iload_n hx hb dX5_isBorne_15 rfl (lv_at hl 2 rfl) ?_
      refine lv_iconst (v := 1) hx hb dX5_isBorne_16 (by decide) ?_
      refine lv_isub hx hb dX5_isBorne_17 ?_
      refine lv_topi (fun v19 e20 => ?_)
      obtain ⟨u21, u22, u23, u24, u25, u26, hP, hf⟩ := o_ms (i := i) (q := o) hM (by omega)
      refine va_calli (va_runV (As := [.int x, .int v19]) (rest := []) ⟨hx, hb, hml, hown, hts⟩ (rm_has l dC dI kA eD b g o i x v19 (by omega)) (cwV 2 hts gX5_isBorne_X5_has rfl rfl rfl (by decide +kernel) ⟨Nat.le_of_ble_eq_true rfl, Nat.le_of_ble_eq_true rfl⟩) ⟨fb_CX, va_recv hK hP (ci := 9) (q0 := 0) rfl rfl, fun U hU hW => ⟨rfl, CX.give hb0 hM hK hG hE hS hU hW⟩⟩ rfl rfl hl.1 rfl (lv_room (Nat.le_of_ble_eq_true rfl)) dX5_isBorne_18 ⟨(Nat.le_of_ble_eq_true rfl), (Nat.le_of_ble_eq_true rfl)⟩) hS (fun q _ h => h) (fun q h => h) (fun r27 u t H locs ht hvm hw28 hB hz1 hk1 hS => ?_)
      have hM := hB.back ht
      have hG := hB.2.2.2.1
      refine lv_if_eq (tgt := 28) hx hb dX5_isBorne_21 (by decide) (fun c29 => ?_) (fun c29 => ?_)
      · skip
        refine lv_iconst (v := 0) hx hb dX5_isBorne_28 (by decide) ?_
        refine W.widen (k := 0) (n := 0) (Nat.le_of_ble_eq_true rfl) (Nat.le_of_ble_eq_true rfl) ?_
        exact W.zret (v := 0) (ty := .boolean) hx hb hr rfl (fun t ht hW => ⟨⟨0, (), rfl, (Or.inl rfl), CX.give hb0 hM hK hG hE hS ht hW⟩, hS.F ht⟩) hS.2.2 dX5_isBorne_29
      · skip
        obtain ⟨-, jx30, jy31, cl32, hp33, hp34, hj35, hj36, hc37⟩ := hw28.resolve_left c29
        have ihp33 : (x : Int32).toInt = ((jx30 : Nat) : Int) := by rw [hp33]; exact nI_toInt (by omega)
        have ihp34 : (v19 : Int32).toInt = ((jy31 : Nat) : Int) := by rw [hp34]; exact nI_toInt (by omega)
        refine lv_iconst (v := 1) hx hb dX5_isBorne_24 (by decide) ?_
        refine lv_goto (tgt := 29) hx hb dX5_isBorne_25 (by decide) ?_
        refine W.widen (k := 0) (n := 0) (Nat.le_of_ble_eq_true rfl) (Nat.le_of_ble_eq_true rfl) ?_
        exact W.zret (v := 1) (ty := .boolean) hx hb hr rfl (fun t ht hW => ⟨⟨1, (), rfl, (Or.inr ⟨rfl, by omega, by omega⟩), CX.give hb0 hM hK hG hE hS ht hW⟩, hS.F ht⟩) hS.2.2 dX5_isBorne_29

set_option maxHeartbeats 4000000 in
set_option maxRecDepth 100000 in
theorem rm_isArch (l : Launch) (dC : Nat → ClassId) (dI : Nat → Nat → Nat) (kA : Nat → ClassId) (eD b : Nat) (g : Gh) (o : Nat) (i jx jy : Nat) (hto : tg g o = 28 + 64 * i) (hjx : jx < 8) (hjy : jy < 6) : Met l yX5_isArch wsX5_isArch ({ frames := 3, cells := 0, slots := 0, locals := 69 }) (va_Pc [.ref o, .int (nI jx), .int (nI jy)] (CX (dC, dI) kA eD b g)) (va_Qi (fun (r : Int32) (u : Unit) => r = 0 ∨ (r = 1 ∧ 1 ≤ jx ∧ jx ≤ 6)) (fun (u : Unit) t => CX (dC, dI) kA eD b g t) (fun q => b ≤ q)) 0 0 (fun q => b ≤ q) := by
  refine Met.ofW (cc := cX5_isArch) (maxL := 3) (ret := (some .boolean)) (by decide +kernel) rfl ?_
  intro p e s m args below meth c s₁ B hml hv
  obtain ⟨rfl, hb0, hM, hK, hG, hE⟩ := hv
  have hx := B.exec
  have hb := B.bytes
  have hr := B.returns
  have hts := atoms_spec (ws := wsX5_isArch) B.pre
  have hown : s.vm.findClass RX5 = some m.cls := findClass_of_methodNamed B.named
  have hlocks := B.notSynchronized
  have hT := hE.1
  have hN := hE.2.2.2.2.2.2.2.1
  have hS : va_S (fun q => b ≤ q) s.heap s.heap [] := va_S.rf
  have hl := lv_entry ([.ref o, .int (nI jx), .int (nI jy)]) (n := 3) (Nat.le_of_ble_eq_true rfl)
  rw [lg_entry_eq]
  generalize (lg_sl ([.ref o, .int (nI jx), .int (nI jy)]) ++ List.replicate (3 - (lg_sl ([.ref o, .int (nI jx), .int (nI jy)])).length) Slot.unset).toArray = ls at hl ⊢
  have hl : lv_has ls 3 [(0, .ref o), (1, .int (nI jx)), (2, .int (nI jy))] := hl
  generalize ([.ref o, .int (nI jx), .int (nI jy)] : List Value).toArray = args at hts ⊢
  refine lv_iload_n hx hb dX5_isArch_0 rfl (lv_at hl 2 rfl) ?_
  refine lv_if_le (tgt := 41) hx hb dX5_isArch_1 (by decide) (fun c1 => ?_) (fun c1 => ?_)
  · skip
    have k2 : jy ≤ 0 := (nI_leI (a := jy) (b := 0) (by omega) (by omega)).mp c1
    refine lv_iconst (v := 0) hx hb dX5_isArch_41 (by decide) ?_
    refine W.widen (k := 0) (n := 0) (Nat.le_of_ble_eq_true rfl) (Nat.le_of_ble_eq_true rfl) ?_
    exact W.zret (v := 0) (ty := .boolean) hx hb hr rfl (fun t ht hW => ⟨⟨0, (), rfl, (Or.inl rfl), CX.give hb0 hM hK hG hE hS ht hW⟩, hS.F ht⟩) hS.2.2 dX5_isArch_42
  · skip
    have k3 : ¬ (jy ≤ 0) := fun z => c1 ((nI_leI (a := jy) (b := 0) (by omega) (by omega)).mpr z)
    refine lv_aload_n hx hb dX5_isArch_4 rfl (lv_at hl 0 rfl) ?_
    refine lv_iload_n hx hb dX5_isArch_5 rfl (lv_at hl 1 rfl) ?_
    refine lv_iload_n hx hb dX5_isArch_6 rfl (lv_at hl 2 rfl) ?_
    refine lv_iconst (v := 1) hx hb dX5_isArch_7 (by decide) ?_
    refine lv_isub hx hb dX5_isArch_8 ?_
    refine lv_topi (fun v4 e5 => ?_)
    have tv4 : (v4 : Int32).toInt = ((jy : Nat) : Int) - ((1 : Nat) : Int) := by rw [e5]; exact pk_sub_toInt (a := jy) (b := 1) (by omega) (by omega)
    obtain ⟨u6, u7, u8, u9, u10, u11, hP, hf⟩ := o_ms (i := i) (q := o) hM (by omega)
    refine va_calli (va_runV (As := [.int (nI jx), .int v4]) (rest := []) ⟨hx, hb, hml, hown, hts⟩ (rm_has l dC dI kA eD b g o i (nI jx) v4 (by omega)) (cwV 2 hts gX5_isArch_X5_has rfl rfl rfl (by decide +kernel) ⟨Nat.le_of_ble_eq_true rfl, Nat.le_of_ble_eq_true rfl⟩) ⟨fb_CX, va_recv hK hP (ci := 9) (q0 := 0) rfl rfl, fun U hU hW => ⟨rfl, CX.give hb0 hM hK hG hE hS hU hW⟩⟩ rfl rfl hl.1 rfl (lv_room (Nat.le_of_ble_eq_true rfl)) dX5_isArch_9 ⟨(Nat.le_of_ble_eq_true rfl), (Nat.le_of_ble_eq_true rfl)⟩) hS (fun q _ h => h) (fun q h => h) (fun r12 u t H locs ht hvm hw13 hB hz1 hk1 hS => ?_)
    have hM := hB.back ht
    have hG := hB.2.2.2.1
    refine lv_if_ne (tgt := 41) hx hb dX5_isArch_12 (by decide) (fun c14 => ?_) (fun c14 => ?_)
    · skip
      obtain ⟨-, jx15, jy16, cl17, hp18, hp19, hj20, hj21, hc22⟩ := hw13.resolve_left c14
      have ej23 : jx15 = jx := ((nI_eq (a := jx) (b := jx15) (by omega) (by omega)).mp hp18).symm
      rw [ej23] at hc22
      have ihp19 : (v4 : Int32).toInt = ((jy16 : Nat) : Int) := by rw [hp19]; exact nI_toInt (by omega)
      refine lv_iconst (v := 0) hx hb dX5_isArch_41 (by decide) ?_
      refine W.widen (k := 0) (n := 0) (Nat.le_of_ble_eq_true rfl) (Nat.le_of_ble_eq_true rfl) ?_
      exact W.zret (v := 0) (ty := .boolean) hx hb hr rfl (fun t ht hW => ⟨⟨0, (), rfl, (Or.inl rfl), CX.give hb0 hM hK hG hE hS ht hW⟩, hS.F ht⟩) hS.2.2 dX5_isArch_42
    · skip
      refine lv_aload_n hx hb dX5_isArch_15 rfl (lv_at hl 0 rfl) ?_
      refine lv_iload_n hx hb dX5_isArch_16 rfl (lv_at hl 1 rfl) ?_
      refine lv_iconst (v := 1) hx hb dX5_isArch_17 (by decide) ?_
      refine lv_isub hx hb dX5_isArch_18 ?_
      refine lv_topi (fun v24 e25 => ?_)
      have tv24 : (v24 : Int32).toInt = ((jx : Nat) : Int) - ((1 : Nat) : Int) := by rw [e25]; exact pk_sub_toInt (a := jx) (b := 1) (by omega) (by omega)
      refine lv_iload_n hx hb dX5_isArch_19 rfl (lv_at hl 2 rfl) ?_
      obtain ⟨u26, u27, u28, u29, u30, u31, hP, hf⟩ := o_ms (i := i) (q := o) hM (by omega)
      refine va_calli (va_runV (As := [.int v24, .int (nI jy)]) (rest := []) ⟨hx, hb, hml, hown, hts⟩ (rm_isBorne l dC dI kA eD b g o i v24 (nI jy) (by omega)) (cwV 2 hts gX5_isArch_X5_isBorne rfl rfl rfl (by decide +kernel) ⟨Nat.le_of_ble_eq_true rfl, Nat.le_of_ble_eq_true rfl⟩) ⟨fb_CX, va_recv hK hP (ci := 9) (q0 := 0) rfl rfl, fun U hU hW => ⟨rfl, CX.give hb0 hM hK hG hE hS hU hW⟩⟩ rfl rfl hl.1 rfl (lv_room (Nat.le_of_ble_eq_true rfl)) dX5_isArch_20 ⟨(Nat.le_of_ble_eq_true rfl), (Nat.le_of_ble_eq_true rfl)⟩) hS (fun q _ h => h) (fun q h => h) (fun r32 u t H locs ht hvm hw33 hB hz1 hk1 hS => ?_)
      have hM := hB.back ht
      have hG := hB.2.2.2.1
      refine lv_if_eq (tgt := 41) hx hb dX5_isArch_23 (by decide) (fun c34 => ?_) (fun c34 => ?_)
      · skip
        refine lv_iconst (v := 0) hx hb dX5_isArch_41 (by decide) ?_
        refine W.widen (k := 0) (n := 0) (Nat.le_of_ble_eq_true rfl) (Nat.le_of_ble_eq_true rfl) ?_
        exact W.zret (v := 0) (ty := .boolean) hx hb hr rfl (fun t ht hW => ⟨⟨0, (), rfl, (Or.inl rfl), CX.give hb0 hM hK hG hE hS ht hW⟩, hS.F ht⟩) hS.2.2 dX5_isArch_42
      · skip
        obtain ⟨-, hr1, hr2⟩ := hw33.resolve_left c34
        refine lv_aload_n hx hb dX5_isArch_26 rfl (lv_at hl 0 rfl) ?_
        refine lv_iload_n hx hb dX5_isArch_27 rfl (lv_at hl 1 rfl) ?_
        refine lv_iconst (v := 1) hx hb dX5_isArch_28 (by decide) ?_
        refine lv_iadd hx hb dX5_isArch_29 ?_
        refine lv_topi (fun v35 e36 => ?_)
        obtain rfl : v35 = nI (jx + 1) := e36.trans (nI_add jx 1)
        refine lv_iload_n hx hb dX5_isArch_30 rfl (lv_at hl 2 rfl) ?_
        obtain ⟨u37, u38, u39, u40, u41, u42, hP, hf⟩ := o_ms (i := i) (q := o) hM (by omega)
        refine va_calli (va_runV (As := [.int (nI (jx + 1)), .int (nI jy)]) (rest := []) ⟨hx, hb, hml, hown, hts⟩ (rm_isBorne l dC dI kA eD b g o i (nI (jx + 1)) (nI jy) (by omega)) (cwV 2 hts gX5_isArch_X5_isBorne rfl rfl rfl (by decide +kernel) ⟨Nat.le_of_ble_eq_true rfl, Nat.le_of_ble_eq_true rfl⟩) ⟨fb_CX, va_recv hK hP (ci := 9) (q0 := 0) rfl rfl, fun U hU hW => ⟨rfl, CX.give hb0 hM hK hG hE hS hU hW⟩⟩ rfl rfl hl.1 rfl (lv_room (Nat.le_of_ble_eq_true rfl)) dX5_isArch_31 ⟨(Nat.le_of_ble_eq_true rfl), (Nat.le_of_ble_eq_true rfl)⟩) hS (fun q _ h => h) (fun q h => h) (fun r43 u t H locs ht hvm hw44 hB hz1 hk1 hS => ?_)
        have hM := hB.back ht
        have hG := hB.2.2.2.1
        refine lv_if_eq (tgt := 41) hx hb dX5_isArch_34 (by decide) (fun c45 => ?_) (fun c45 => ?_)
        · skip
          refine lv_iconst (v := 0) hx hb dX5_isArch_41 (by decide) ?_
          refine W.widen (k := 0) (n := 0) (Nat.le_of_ble_eq_true rfl) (Nat.le_of_ble_eq_true rfl) ?_
          exact W.zret (v := 0) (ty := .boolean) hx hb hr rfl (fun t ht hW => ⟨⟨0, (), rfl, (Or.inl rfl), CX.give hb0 hM hK hG hE hS ht hW⟩, hS.F ht⟩) hS.2.2 dX5_isArch_42
        · skip
          obtain ⟨-, hr1, hr2⟩ := hw44.resolve_left c45
          refine lv_iconst (v := 1) hx hb dX5_isArch_37 (by decide) ?_
          refine lv_goto (tgt := 42) hx hb dX5_isArch_38 (by decide) ?_
          refine W.widen (k := 0) (n := 0) (Nat.le_of_ble_eq_true rfl) (Nat.le_of_ble_eq_true rfl) ?_
          exact W.zret (v := 1) (ty := .boolean) hx hb hr rfl (fun t ht hW => ⟨⟨1, (), rfl, (by have ej9 := nI_toInt (n := jx + 1) (by omega); exact Or.inr ⟨rfl, by omega, by omega⟩), CX.give hb0 hM hK hG hE hS ht hW⟩, hS.F ht⟩) hS.2.2 dX5_isArch_42

set_option maxHeartbeats 4000000 in
set_option maxRecDepth 100000 in
theorem rm_stands (l : Launch) (dC : Nat → ClassId) (dI : Nat → Nat → Nat) (kA : Nat → ClassId) (eD b : Nat) (g : Gh) (o : Nat) (i jx jy : Nat) (hto : tg g o = 28 + 64 * i) (hjx : jx < 8) (hjy : jy < 6) : Met l yX5_stands wsX5_stands ({ frames := 4, cells := 0, slots := 0, locals := 91 }) (va_Pc [.ref o, .int (nI jx), .int (nI jy)] (CX (dC, dI) kA eD b g)) (va_Qi (fun (r : Int32) (u : Unit) => r = 0 ∨ r = 1) (fun (u : Unit) t => CX (dC, dI) kA eD b g t) (fun q => b ≤ q)) 0 0 (fun q => b ≤ q) := by
  refine Met.ofW (cc := cX5_stands) (maxL := 3) (ret := (some .boolean)) (by decide +kernel) rfl ?_
  intro p e s m args below meth c s₁ B hml hv
  obtain ⟨rfl, hb0, hM, hK, hG, hE⟩ := hv
  have hx := B.exec
  have hb := B.bytes
  have hr := B.returns
  have hts := atoms_spec (ws := wsX5_stands) B.pre
  have hown : s.vm.findClass RX5 = some m.cls := findClass_of_methodNamed B.named
  have hlocks := B.notSynchronized
  have hT := hE.1
  have hN := hE.2.2.2.2.2.2.2.1
  have hS : va_S (fun q => b ≤ q) s.heap s.heap [] := va_S.rf
  have hl := lv_entry ([.ref o, .int (nI jx), .int (nI jy)]) (n := 3) (Nat.le_of_ble_eq_true rfl)
  rw [lg_entry_eq]
  generalize (lg_sl ([.ref o, .int (nI jx), .int (nI jy)]) ++ List.replicate (3 - (lg_sl ([.ref o, .int (nI jx), .int (nI jy)])).length) Slot.unset).toArray = ls at hl ⊢
  have hl : lv_has ls 3 [(0, .ref o), (1, .int (nI jx)), (2, .int (nI jy))] := hl
  generalize ([.ref o, .int (nI jx), .int (nI jy)] : List Value).toArray = args at hts ⊢
  refine lv_iload_n hx hb dX5_stands_0 rfl (lv_at hl 2 rfl) ?_
  refine lv_if_eq (tgt := 24) hx hb dX5_stands_1 (by decide) (fun c1 => ?_) (fun c1 => ?_)
  · skip
    have k2 : jy = 0 := (nI_eq (a := jy) (b := 0) (by omega) (by omega)).mp c1
    refine lv_iconst (v := 1) hx hb dX5_stands_24 (by decide) ?_
    refine lv_goto (tgt := 29) hx hb dX5_stands_25 (by decide) ?_
    refine W.widen (k := 0) (n := 0) (Nat.le_of_ble_eq_true rfl) (Nat.le_of_ble_eq_true rfl) ?_
    exact W.zret (v := 1) (ty := .boolean) hx hb hr rfl (fun t ht hW => ⟨⟨1, (), rfl, (Or.inr rfl), CX.give hb0 hM hK hG hE hS ht hW⟩, hS.F ht⟩) hS.2.2 dX5_stands_29
  · skip
    have k3 : ¬ (jy = 0) := fun z => c1 ((nI_eq (a := jy) (b := 0) (by omega) (by omega)).mpr z)
    refine lv_aload_n hx hb dX5_stands_4 rfl (lv_at hl 0 rfl) ?_
    refine lv_iload_n hx hb dX5_stands_5 rfl (lv_at hl 1 rfl) ?_
    refine lv_iload_n hx hb dX5_stands_6 rfl (lv_at hl 2 rfl) ?_
    refine lv_iconst (v := 1) hx hb dX5_stands_7 (by decide) ?_
    refine lv_isub hx hb dX5_stands_8 ?_
    refine lv_topi (fun v4 e5 => ?_)
    have tv4 : (v4 : Int32).toInt = ((jy : Nat) : Int) - ((1 : Nat) : Int) := by rw [e5]; exact pk_sub_toInt (a := jy) (b := 1) (by omega) (by omega)
    obtain ⟨u6, u7, u8, u9, u10, u11, hP, hf⟩ := o_ms (i := i) (q := o) hM (by omega)
    refine va_calli (va_runV (As := [.int (nI jx), .int v4]) (rest := []) ⟨hx, hb, hml, hown, hts⟩ (rm_has l dC dI kA eD b g o i (nI jx) v4 (by omega)) (cwV 2 hts gX5_stands_X5_has rfl rfl rfl (by decide +kernel) ⟨Nat.le_of_ble_eq_true rfl, Nat.le_of_ble_eq_true rfl⟩) ⟨fb_CX, va_recv hK hP (ci := 9) (q0 := 0) rfl rfl, fun U hU hW => ⟨rfl, CX.give hb0 hM hK hG hE hS hU hW⟩⟩ rfl rfl hl.1 rfl (lv_room (Nat.le_of_ble_eq_true rfl)) dX5_stands_9 ⟨(Nat.le_of_ble_eq_true rfl), (Nat.le_of_ble_eq_true rfl)⟩) hS (fun q _ h => h) (fun q h => h) (fun r12 u t H locs ht hvm hw13 hB hz1 hk1 hS => ?_)
    have hM := hB.back ht
    have hG := hB.2.2.2.1
    refine lv_if_ne (tgt := 24) hx hb dX5_stands_12 (by decide) (fun c14 => ?_) (fun c14 => ?_)
    · skip
      obtain ⟨-, jx15, jy16, cl17, hp18, hp19, hj20, hj21, hc22⟩ := hw13.resolve_left c14
      have ej23 : jx15 = jx := ((nI_eq (a := jx) (b := jx15) (by omega) (by omega)).mp hp18).symm
      rw [ej23] at hc22
      have ihp19 : (v4 : Int32).toInt = ((jy16 : Nat) : Int) := by rw [hp19]; exact nI_toInt (by omega)
      refine lv_iconst (v := 1) hx hb dX5_stands_24 (by decide) ?_
      refine lv_goto (tgt := 29) hx hb dX5_stands_25 (by decide) ?_
      refine W.widen (k := 0) (n := 0) (Nat.le_of_ble_eq_true rfl) (Nat.le_of_ble_eq_true rfl) ?_
      exact W.zret (v := 1) (ty := .boolean) hx hb hr rfl (fun t ht hW => ⟨⟨1, (), rfl, (Or.inr rfl), CX.give hb0 hM hK hG hE hS ht hW⟩, hS.F ht⟩) hS.2.2 dX5_stands_29
    · skip
      refine lv_aload_n hx hb dX5_stands_15 rfl (lv_at hl 0 rfl) ?_
      refine lv_iload_n hx hb dX5_stands_16 rfl (lv_at hl 1 rfl) ?_
      refine lv_iload_n hx hb dX5_stands_17 rfl (lv_at hl 2 rfl) ?_
      obtain ⟨u24, u25, u26, u27, u28, u29, hP, hf⟩ := o_ms (i := i) (q := o) hM (by omega)
      refine va_calli (va_runV (As := [.int (nI jx), .int (nI jy)]) (rest := []) ⟨hx, hb, hml, hown, hts⟩ (rm_isArch l dC dI kA eD b g o i jx jy (by omega) (by omega) (by omega)) (cwV 2 hts gX5_stands_X5_isArch rfl rfl rfl (by decide +kernel) ⟨Nat.le_of_ble_eq_true rfl, Nat.le_of_ble_eq_true rfl⟩) ⟨fb_CX, va_recv hK hP (ci := 9) (q0 := 0) rfl rfl, fun U hU hW => ⟨rfl, CX.give hb0 hM hK hG hE hS hU hW⟩⟩ rfl rfl hl.1 rfl (lv_room (Nat.le_of_ble_eq_true rfl)) dX5_stands_18 ⟨(Nat.le_of_ble_eq_true rfl), (Nat.le_of_ble_eq_true rfl)⟩) hS (fun q _ h => h) (fun q h => h) (fun r30 u t H locs ht hvm hw31 hB hz1 hk1 hS => ?_)
      have hM := hB.back ht
      have hG := hB.2.2.2.1
      refine lv_if_eq (tgt := 28) hx hb dX5_stands_21 (by decide) (fun c32 => ?_) (fun c32 => ?_)
      · skip
        refine lv_iconst (v := 0) hx hb dX5_stands_28 (by decide) ?_
        refine W.widen (k := 0) (n := 0) (Nat.le_of_ble_eq_true rfl) (Nat.le_of_ble_eq_true rfl) ?_
        exact W.zret (v := 0) (ty := .boolean) hx hb hr rfl (fun t ht hW => ⟨⟨0, (), rfl, (Or.inl rfl), CX.give hb0 hM hK hG hE hS ht hW⟩, hS.F ht⟩) hS.2.2 dX5_stands_29
      · skip
        obtain ⟨-, hr1, hr2⟩ := hw31.resolve_left c32
        refine lv_iconst (v := 1) hx hb dX5_stands_24 (by decide) ?_
        refine lv_goto (tgt := 29) hx hb dX5_stands_25 (by decide) ?_
        refine W.widen (k := 0) (n := 0) (Nat.le_of_ble_eq_true rfl) (Nat.le_of_ble_eq_true rfl) ?_
        exact W.zret (v := 1) (ty := .boolean) hx hb hr rfl (fun t ht hW => ⟨⟨1, (), rfl, (Or.inr rfl), CX.give hb0 hM hK hG hE hS ht hW⟩, hS.F ht⟩) hS.2.2 dX5_stands_29

set_option maxHeartbeats 4000000 in
set_option maxRecDepth 100000 in
theorem rm_top (l : Launch) (dC : Nat → ClassId) (dI : Nat → Nat → Nat) (kA : Nat → ClassId) (eD b : Nat) (g : Gh) (o : Nat) (i : Nat) (x : Int32) (hto : tg g o = 28 + 64 * i)  : Met l yX5_top wsX5_top ({ frames := 2, cells := 0, slots := 0, locals := 47 }) (va_Pc [.ref o, .int x] (CX (dC, dI) kA eD b g)) (va_Qi (fun (r : Int32) (u : Unit) => True) (fun (u : Unit) t => CX (dC, dI) kA eD b g t) (fun q => b ≤ q)) 0 0 (fun q => b ≤ q) := by
  refine Met.ofW (cc := cX5_top) (maxL := 4) (ret := (some .int)) (by decide +kernel) rfl ?_
  intro p e s m args below meth c s₁ B hml hv
  obtain ⟨rfl, hb0, hM, hK, hG, hE⟩ := hv
  have hx := B.exec
  have hb := B.bytes
  have hr := B.returns
  have hts := atoms_spec (ws := wsX5_top) B.pre
  have hown : s.vm.findClass RX5 = some m.cls := findClass_of_methodNamed B.named
  have hlocks := B.notSynchronized
  have hT := hE.1
  have hN := hE.2.2.2.2.2.2.2.1
  have hS : va_S (fun q => b ≤ q) s.heap s.heap [] := va_S.rf
  have hl := lv_entry ([.ref o, .int x]) (n := 4) (Nat.le_of_ble_eq_true rfl)
  rw [lg_entry_eq]
  generalize (lg_sl ([.ref o, .int x]) ++ List.replicate (4 - (lg_sl ([.ref o, .int x])).length) Slot.unset).toArray = ls at hl ⊢
  have hl : lv_has ls 4 [(0, .ref o), (1, .int x)] := hl
  generalize ([.ref o, .int x] : List Value).toArray = args at hts ⊢
  refine W.q (fun Q hQ => ?_)
  refine lv_iconst (v := (-1)) hx hb dX5_top_0 (by decide) ?_
  refine lv_istore_n (lv' := [(2, .int (-1)), (0, .ref o), (1, .int x)]) hx hb dX5_top_1 rfl hl (by decide) rfl (fun ls hl => ?_)
  refine lv_iconst (v := 0) hx hb dX5_top_2 (by decide) ?_
  refine lv_istore_n (lv' := [(3, .int 0), (2, .int (-1)), (0, .ref o), (1, .int x)]) hx hb dX5_top_3 rfl hl (by decide) rfl (fun ls hl => ?_)
  have lp3 : ∀ (n4 j1 : Nat) (x2 : Int32), 0 ≤ j1 → j1 ≤ 6 → 6 < j1 + n4 → ∀ (H : Heap) (locs : List Loc) (ls : Array Slot), TM (dC, dI) kA b g H → va_S (fun q => b ≤ q) s.heap H locs → lv_has ls 4 [(3, .int (nI j1)), (2, .int x2), (0, .ref o), (1, .int x)] → W p l e (headSpec wsX5_top ({ frames := 2, cells := 0, slots := 0, locals := 47 })).room s m args below meth c H locs 0 0 Q (F0 m 4 ls []) := by
    intro n4
    induction n4 with
    | zero => intro j1 x2 h0 h1 h2; omega
    | succ n4 ih5 =>
      intro j1 x2 lj1 hj1 hn4 H locs ls hM hS hl
      refine lv_iload_n hx hb dX5_top_4 rfl (lv_at hl 0 rfl) ?_
      refine lv_bipush (v := 6) hx hb dX5_top_5 (by decide) ?_
      refine lv_icmp_ge (tgt := 31) hx hb dX5_top_7 (by decide) (fun c6 => ?_) (fun c6 => ?_)
      · skip
        have k7 : 6 ≤ j1 := (nI_leI (a := 6) (b := j1) (by omega) (by omega)).mp c6
        refine lv_iload_n hx hb dX5_top_31 rfl (lv_at hl 1 rfl) ?_
        subst hQ
        refine W.widen (k := 0) (n := 0) (Nat.le_of_ble_eq_true rfl) (Nat.le_of_ble_eq_true rfl) ?_
        exact W.iret (v := x2) hx hb hr (fun t ht hW => ⟨⟨x2, (), rfl, trivial, CX.give hb0 hM hK hG hE hS ht hW⟩, hS.F ht⟩) hS.2.2 dX5_top_32
      · skip
        have k8 : ¬ (6 ≤ j1) := fun z => c6 ((nI_leI (a := 6) (b := j1) (by omega) (by omega)).mpr z)
        refine lv_aload_n hx hb dX5_top_10 rfl (lv_at hl 2 rfl) ?_
        refine lv_iload_n hx hb dX5_top_11 rfl (lv_at hl 3 rfl) ?_
        refine lv_iload_n hx hb dX5_top_12 rfl (lv_at hl 0 rfl) ?_
        obtain ⟨u9, u10, u11, u12, u13, u14, hP, hf⟩ := o_ms (i := i) (q := o) hM (by omega)
        refine va_calli (va_runV (As := [.int x, .int (nI j1)]) (rest := []) ⟨hx, hb, hml, hown, hts⟩ (rm_has l dC dI kA eD b g o i x (nI j1) (by omega)) (cwV 2 hts gX5_top_X5_has rfl rfl rfl (by decide +kernel) ⟨Nat.le_of_ble_eq_true rfl, Nat.le_of_ble_eq_true rfl⟩) ⟨fb_CX, va_recv hK hP (ci := 9) (q0 := 0) rfl rfl, fun U hU hW => ⟨rfl, CX.give hb0 hM hK hG hE hS hU hW⟩⟩ rfl rfl hl.1 rfl (lv_room (Nat.le_of_ble_eq_true rfl)) dX5_top_13 ⟨(Nat.le_of_ble_eq_true rfl), (Nat.le_of_ble_eq_true rfl)⟩) hS (fun q _ h => h) (fun q h => h) (fun r15 u t H locs ht hvm hw16 hB hz1 hk1 hS => ?_)
        have hM := hB.back ht
        have hG := hB.2.2.2.1
        have jn18 : ∀ (x17 : Int32) (H : Heap) (locs : List Loc) (ls : Array Slot), TM (dC, dI) kA b g H → va_S (fun q => b ≤ q) s.heap H locs → lv_has ls 4 [(3, .int (nI j1)), (2, .int x2), (0, .ref o), (1, .int x)] → W p l e (headSpec wsX5_top ({ frames := 2, cells := 0, slots := 0, locals := 47 })).room s m args below meth c H locs 0 0 Q (F0 m 24 ls [.int x17]) := by
          intro x17 H locs ls hM hS hl
          refine lv_istore_n (lv' := [(2, .int x17), (3, .int (nI j1)), (0, .ref o), (1, .int x)]) hx hb dX5_top_24 rfl hl (by decide) rfl (fun ls hl => ?_)
          refine lv_iinc (v := (nI (j1 + 1))) (lv' := [(3, .int (nI (j1 + 1))), (2, .int x17), (0, .ref o), (1, .int x)]) hx hb dX5_top_25 hl (k := 1) rfl (nI_add j1 1) (by decide) rfl (fun ls hl => ?_)
          refine lv_goto (tgt := 4) hx hb dX5_top_28 (by decide) ?_
          exact ih5 ((j1 + 1)) x17 (by omega) (by omega) (by omega) H _ ls  hM hS (lv_sub hl [0, 1, 2, 3] rfl)
        refine lv_if_eq (tgt := 23) hx hb dX5_top_16 (by decide) (fun c19 => ?_) (fun c19 => ?_)
        · skip
          refine lv_iload_n hx hb dX5_top_23 rfl (lv_at hl 1 rfl) ?_
          exact jn18 x2 H _ ls hM hS (lv_sub hl [0, 1, 2, 3] rfl)
        · skip
          obtain ⟨-, jx20, jy21, cl22, hp23, hp24, hj25, hj26, hc27⟩ := hw16.resolve_left c19
          have ihp23 : (x : Int32).toInt = ((jx20 : Nat) : Int) := by rw [hp23]; exact nI_toInt (by omega)
          have ej28 : jy21 = j1 := ((nI_eq (a := j1) (b := jy21) (by omega) (by omega)).mp hp24).symm
          rw [ej28] at hc27
          refine lv_iload_n hx hb dX5_top_19 rfl (lv_at hl 0 rfl) ?_
          refine lv_goto (tgt := 24) hx hb dX5_top_20 (by decide) ?_
          exact jn18 (nI j1) H _ ls hM hS (lv_sub hl [0, 1, 2, 3] rfl)
  exact lp3 (6 + 1) 0 (-1) (by omega) (by omega) (by omega) s.heap _ ls  hM hS (lv_sub hl [0, 1, 2, 3] rfl)

set_option maxHeartbeats 4000000 in
set_option maxRecDepth 100000 in
theorem rm_strength (l : Launch) (dC : Nat → ClassId) (dI : Nat → Nat → Nat) (kA : Nat → ClassId) (eD b : Nat) (g : Gh) (o : Nat) (i jx jy cl : Nat) (wm : Int32) (hto : tg g o = 28 + 64 * i) (hjx : jx < 8) (hjy : jy < 6) (hcl : pO g (pF g (pF g o 0) jy) jx = some cl) : Met l yX5_strength wsX5_strength ({ frames := 1, cells := 0, slots := 0, locals := 16 }) (va_Pc [.ref o, .int (nI jx), .int (nI jy), .int wm] (CX (dC, dI) kA eD b g)) (va_Qi (fun (r : Int32) (u : Unit) => True) (fun (u : Unit) t => CX (dC, dI) kA eD b g t) (fun q => b ≤ q)) 0 0 (fun q => b ≤ q) := by
  refine Met.ofW (cc := cX5_strength) (maxL := 6) (ret := (some .int)) (by decide +kernel) rfl ?_
  intro p e s m args below meth c s₁ B hml hv
  obtain ⟨rfl, hb0, hM, hK, hG, hE⟩ := hv
  have hx := B.exec
  have hb := B.bytes
  have hr := B.returns
  have hts := atoms_spec (ws := wsX5_strength) B.pre
  have hown : s.vm.findClass RX5 = some m.cls := findClass_of_methodNamed B.named
  have hlocks := B.notSynchronized
  have hT := hE.1
  have hN := hE.2.2.2.2.2.2.2.1
  have hS : va_S (fun q => b ≤ q) s.heap s.heap [] := va_S.rf
  have hl := lv_entry ([.ref o, .int (nI jx), .int (nI jy), .int wm]) (n := 6) (Nat.le_of_ble_eq_true rfl)
  rw [lg_entry_eq]
  generalize (lg_sl ([.ref o, .int (nI jx), .int (nI jy), .int wm]) ++ List.replicate (6 - (lg_sl ([.ref o, .int (nI jx), .int (nI jy), .int wm])).length) Slot.unset).toArray = ls at hl ⊢
  have hl : lv_has ls 6 [(0, .ref o), (1, .int (nI jx)), (2, .int (nI jy)), (3, .int wm)] := hl
  generalize ([.ref o, .int (nI jx), .int (nI jy), .int wm] : List Value).toArray = args at hts ⊢
  refine W.q (fun Q hQ => ?_)
  refine lv_aload_n hx hb dX5_strength_0 rfl (lv_at hl 0 rfl) ?_
  obtain ⟨u1, u2, u3, u4, u5, u6, hP, hf⟩ := o_ms (i := i) (q := o) hM (by omega)
  refine va_get (D := (dC, dI)) (ci := 9) (v := .ref (pF g o 0)) (C := RX5) (T := TX5) (N := 10) hx hb hts (by decide +kernel) hown hK hP 0 rfl rfl 0 (by decide) (hts (.fieldLink RX5 17 "SnowpalaceModel$Site" "cells" "[[LSnowpalaceModel$Cell;") (by decide +kernel)) (fun _ h9 => h9) rfl dX5_strength_1 ?_
  have ht7 : tg g (pF g o 0) = 29 + 64 * i := hf.1
  refine lv_iload_n hx hb dX5_strength_4 rfl (lv_at hl 2 rfl) ?_
  obtain ⟨hP, hf⟩ := o_co (i := i) (q := (pF g o 0)) hM (by omega)
  have ec : ((nI jy) : Int32).toNatClampNeg = jy := nI_clamp (by omega)
  refine rt_aldA (D := (dC, dI)) (t0 := 9) hx hb hK hP rfl (vp_in_nI (by omega) (by decide)) (y := (pF g (pF g o 0) jy)) ((congrArg (fun z => if z < 6 then some (pF g (pF g o 0) z) else none) ec).trans (if_pos (by omega))) dX5_strength_5 ?_
  have ht8 : tg g (pF g (pF g o 0) jy) = 30 + 64 * (8 * i + jy) := (hf jy (by omega))
  refine lv_iload_n hx hb dX5_strength_6 rfl (lv_at hl 1 rfl) ?_
  obtain ⟨hP, hf⟩ := o_cr (i := (8 * i + jy)) (q := (pF g (pF g o 0) jy)) hM (by omega)
  refine va_aldq (D := (dC, dI)) hx hb hK hP 0 8 rfl rfl (vp_in_nI (by omega) (by decide)) dX5_strength_7 ?_
  have ec : ((nI jx) : Int32).toNatClampNeg = jx := nI_clamp (by omega)
  rw [ec]
  have hq9 := hf jx (by omega)
  rw [hcl]
  have ht10 : tg g cl = 31 := hq9 cl hcl
  refine lv_astore (lv' := [(4, .ref cl), (0, .ref o), (1, .int (nI jx)), (2, .int (nI jy)), (3, .int wm)]) hx hb dX5_strength_8 hl (by decide) rfl (fun ls hl => ?_)
  refine lv_aload hx hb dX5_strength_10 (lv_at hl 0 rfl) ?_
  obtain ⟨u11, u12, u13, u14, u15, hP, hf⟩ := o_ce (i := 0) (q := cl) hM (by omega)
  refine va_getN (D := (dC, dI)) (ci := 8) (v := .int u11) (C := RX4) (T := TX4) (N := 5) hx hb hts (by decide +kernel) hown hK hP 0 rfl rfl 0 (by decide) (hN (.fieldLinkNest RX5 58 "SnowpalaceModel$Cell" "kind" "C" RX6) (by decide +kernel)) (fun _ h9 => h9) rfl dX5_strength_12 ?_
  have hb16 := hf.1
  refine lv_bipush (v := 115) hx hb dX5_strength_15 (by decide) ?_
  have jn18 : ∀ (x17 : Int32) (H : Heap) (locs : List Loc) (ls : Array Slot), TM (dC, dI) kA b g H → va_S (fun q => b ≤ q) s.heap H locs → lv_has ls 6 [(4, .ref cl), (0, .ref o), (1, .int (nI jx)), (2, .int (nI jy)), (3, .int wm)] → W p l e (headSpec wsX5_strength ({ frames := 1, cells := 0, slots := 0, locals := 16 })).room s m args below meth c H locs 0 0 Q (F0 m 45 ls [.int x17]) := by
    intro x17 H locs ls hM hS hl
    refine lv_istore (lv' := [(5, .int x17), (4, .ref cl), (0, .ref o), (1, .int (nI jx)), (2, .int (nI jy)), (3, .int wm)]) hx hb dX5_strength_45 hl (by decide) rfl (fun ls hl => ?_)
    refine lv_iconst (v := 0) hx hb dX5_strength_47 (by decide) ?_
    refine lv_iload hx hb dX5_strength_48 (lv_at hl 0 rfl) ?_
    refine lv_bipush (v := 10) hx hb dX5_strength_50 (by decide) ?_
    refine lv_bipush (v := 48) hx hb dX5_strength_52 (by decide) ?_
    refine lv_aload hx hb dX5_strength_54 (lv_at hl 1 rfl) ?_
    obtain ⟨u19, u20, u21, u22, u23, hP, hf⟩ := o_ce (i := 0) (q := cl) hM (by omega)
    refine va_getN (D := (dC, dI)) (ci := 8) (v := .int u21) (C := RX4) (T := TX4) (N := 5) hx hb hts (by decide +kernel) hown hK hP 0 rfl rfl 2 (by decide) (hN (.fieldLinkNest RX5 62 "SnowpalaceModel$Cell" "age" "I" RX6) (by decide +kernel)) (fun _ h9 => h9) rfl dX5_strength_56 ?_
    refine va_mmin hx hb (hml.trans hl.1.symm) hown (hts (.methodLink RX5 65 Lib.Math.min.name) (by decide +kernel)) (hts (.static Lib.Math.min.name) (by decide +kernel)) (hts (.initialized "java/lang/Math") (by decide +kernel)) (hts (.code Lib.Math.min.name Lib.Math.min.code 2 (some .int)) (by decide +kernel)) (Nat.le_of_ble_eq_true rfl) (Nat.le_of_ble_eq_true rfl) (Nat.le_of_ble_eq_true rfl) (Nat.le_of_ble_eq_true rfl) dX5_strength_59 ?_
    refine lv_topi (fun v24 e25 => ?_)
    refine lv_imul hx hb dX5_strength_62 ?_
    refine lv_topi (fun v26 e27 => ?_)
    refine lv_iadd hx hb dX5_strength_63 ?_
    refine lv_topi (fun v28 e29 => ?_)
    refine lv_aload hx hb dX5_strength_64 (lv_at hl 1 rfl) ?_
    obtain ⟨u30, u31, u32, u33, u34, hP, hf⟩ := o_ce (i := 0) (q := cl) hM (by omega)
    refine va_getN (D := (dC, dI)) (ci := 8) (v := .int u34) (C := RX4) (T := TX4) (N := 5) hx hb hts (by decide +kernel) hown hK hP 0 rfl rfl 4 (by decide) (hN (.fieldLinkNest RX5 71 "SnowpalaceModel$Cell" "hasLamp" "Z" RX6) (by decide +kernel)) (fun _ h9 => h9) rfl dX5_strength_66 ?_
    have hb35 := hf.2
    have jn37 : ∀ (x36 : Int32) (H : Heap) (locs : List Loc) (ls : Array Slot), TM (dC, dI) kA b g H → va_S (fun q => b ≤ q) s.heap H locs → lv_has ls 6 [(5, .int x17), (4, .ref cl), (0, .ref o), (1, .int (nI jx)), (2, .int (nI jy)), (3, .int wm)] → W p l e (headSpec wsX5_strength ({ frames := 1, cells := 0, slots := 0, locals := 16 })).room s m args below meth c H locs 0 0 Q (F0 m 79 ls [.int x36, .int v28, .int 0]) := by
      intro x36 H locs ls hM hS hl
      refine lv_isub hx hb dX5_strength_79 ?_
      refine lv_topi (fun v38 e39 => ?_)
      refine lv_iload_n hx hb dX5_strength_80 rfl (lv_at hl 5 rfl) ?_
      refine lv_bipush (v := (-50)) hx hb dX5_strength_81 (by decide) ?_
      have jn41 : ∀ (x40 : Int32) (H : Heap) (locs : List Loc) (ls : Array Slot), TM (dC, dI) kA b g H → va_S (fun q => b ≤ q) s.heap H locs → lv_has ls 6 [(5, .int x17), (4, .ref cl), (0, .ref o), (1, .int (nI jx)), (2, .int (nI jy)), (3, .int wm)] → W p l e (headSpec wsX5_strength ({ frames := 1, cells := 0, slots := 0, locals := 16 })).room s m args below meth c H locs 0 0 Q (F0 m 97 ls [.int x40, .int v38, .int 0]) := by
        intro x40 H locs ls hM hS hl
        refine lv_isub hx hb dX5_strength_97 ?_
        refine lv_topi (fun v42 e43 => ?_)
        refine va_mmax hx hb (hml.trans hl.1.symm) hown (hts (.methodLink RX5 75 Lib.Math.max.name) (by decide +kernel)) (hts (.static Lib.Math.max.name) (by decide +kernel)) (hts (.initialized "java/lang/Math") (by decide +kernel)) (hts (.code Lib.Math.max.name Lib.Math.max.code 2 (some .int)) (by decide +kernel)) (Nat.le_of_ble_eq_true rfl) (Nat.le_of_ble_eq_true rfl) (Nat.le_of_ble_eq_true rfl) (Nat.le_of_ble_eq_true rfl) dX5_strength_98 ?_
        refine lv_topi (fun v44 e45 => ?_)
        subst hQ
        refine W.widen (k := 0) (n := 0) (Nat.le_of_ble_eq_true rfl) (Nat.le_of_ble_eq_true rfl) ?_
        exact W.iret (v := v44) hx hb hr (fun t ht hW => ⟨⟨v44, (), rfl, trivial, CX.give hb0 hM hK hG hE hS ht hW⟩, hS.F ht⟩) hS.2.2 dX5_strength_101
      refine lv_icmp_le (tgt := 96) hx hb dX5_strength_83 (by decide) (fun c46 => ?_) (fun c46 => ?_)
      · skip
        have i47 := (Int32.le_iff_toInt_le).mp c46
        have ii47 : ((-50) : Int32).toInt = -50 := by decide
        have i47 := i47
        refine lv_iconst (v := 0) hx hb dX5_strength_96 (by decide) ?_
        exact jn41 0 H _ ls hM hS (lv_sub hl [0, 1, 2, 3, 4, 5] rfl)
      · skip
        have i48 := fun z => c46 ((Int32.le_iff_toInt_le).mpr z)
        have ii48 : ((-50) : Int32).toInt = -50 := by decide
        have i48 : ¬ ((wm : Int32).toInt ≤ ((-50) : Int32).toInt) := i48
        refine lv_bipush (v := 10) hx hb dX5_strength_86 (by decide) ?_
        refine lv_iload_n hx hb dX5_strength_88 rfl (lv_at hl 5 rfl) ?_
        refine lv_bipush (v := 50) hx hb dX5_strength_89 (by decide) ?_
        refine lv_iadd hx hb dX5_strength_91 ?_
        refine lv_topi (fun v49 e50 => ?_)
        refine lv_imul hx hb dX5_strength_92 ?_
        refine lv_topi (fun v51 e52 => ?_)
        refine lv_goto (tgt := 97) hx hb dX5_strength_93 (by decide) ?_
        exact jn41 v51 H _ ls hM hS (lv_sub hl [0, 1, 2, 3, 4, 5] rfl)
    refine lv_if_eq (tgt := 78) hx hb dX5_strength_69 (by decide) (fun c53 => ?_) (fun c53 => ?_)
    · skip
      refine lv_iconst (v := 0) hx hb dX5_strength_78 (by decide) ?_
      exact jn37 0 H _ ls hM hS (lv_sub hl [0, 1, 2, 3, 4, 5] rfl)
    · skip
      refine lv_sipush (v := 500) hx hb dX5_strength_72 (by decide) ?_
      refine lv_goto (tgt := 79) hx hb dX5_strength_75 (by decide) ?_
      exact jn37 500 H _ ls hM hS (lv_sub hl [0, 1, 2, 3, 4, 5] rfl)
  refine lv_icmp_ne (tgt := 26) hx hb dX5_strength_17 (by decide) (fun c54 => ?_) (fun c54 => ?_)
  · skip
    refine lv_aload hx hb dX5_strength_26 (lv_at hl 0 rfl) ?_
    obtain ⟨u55, u56, u57, u58, u59, hP, hf⟩ := o_ce (i := 0) (q := cl) hM (by omega)
    refine va_getN (D := (dC, dI)) (ci := 8) (v := .int u55) (C := RX4) (T := TX4) (N := 5) hx hb hts (by decide +kernel) hown hK hP 0 rfl rfl 0 (by decide) (hN (.fieldLinkNest RX5 58 "SnowpalaceModel$Cell" "kind" "C" RX6) (by decide +kernel)) (fun _ h9 => h9) rfl dX5_strength_28 ?_
    have hb60 := hf.1
    refine lv_bipush (v := 105) hx hb dX5_strength_31 (by decide) ?_
    refine lv_icmp_ne (tgt := 42) hx hb dX5_strength_33 (by decide) (fun c61 => ?_) (fun c61 => ?_)
    · skip
      refine lv_sipush (v := 5000) hx hb dX5_strength_42 (by decide) ?_
      exact jn18 5000 s.heap _ ls hM hS (lv_sub hl [0, 1, 2, 3, 4] rfl)
    · skip
      refine lv_sipush (v := 6000) hx hb dX5_strength_36 (by decide) ?_
      refine lv_goto (tgt := 45) hx hb dX5_strength_39 (by decide) ?_
      exact jn18 6000 s.heap _ ls hM hS (lv_sub hl [0, 1, 2, 3, 4] rfl)
  · skip
    refine lv_sipush (v := 2500) hx hb dX5_strength_20 (by decide) ?_
    refine lv_goto (tgt := 45) hx hb dX5_strength_23 (by decide) ?_
    exact jn18 2500 s.heap _ ls hM hS (lv_sub hl [0, 1, 2, 3, 4] rfl)
