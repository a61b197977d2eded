set_option maxHeartbeats 4000000 in
set_option maxRecDepth 100000 in
theorem rm_goes (l : Launch) (dC : Nat → ClassId) (dI : Nat → Nat → Nat) (kA : Nat → ClassId) (eD b : Nat) (g : Gh) (sz sg : Nat) (o : Nat) (i mo me : Nat) (wm : Int32) (hto : tg g o = 28 + 64 * i) (hmo : tg g mo = 17) (hme : me < b ∨ tg g me = 17) (hh : (pI g mo 0).toInt ≤ 503) : Met l yX5_goes wsX5_goes ({ frames := 7, cells := 700, slots := 5400, locals := 165 }) (va_Pc [.ref o, .int wm] (CXs (dC, dI) kA eD b g sz sg)) (va_Qv (fun (u : Gh × Nat) => Ext me (XS i) g u.1 ∧ gc u.1 o + u.2 = gc g o) (fun (u : Gh × Nat) t => (CX (dC, dI) kA eD b u.1 t ∧ (t.heap.size ≤ sz + (28 + 14 * u.2) ∧ SH t.heap ≤ sg + (216 + 108 * u.2)))) (fun q => b ≤ q)) 700 5400 (fun q => b ≤ q) := by
  refine Met.ofW (cc := cX5_goes) (maxL := 11) (ret := none) (by decide +kernel) rfl ?_
  intro p e s m args below meth c s₁ B hml hv
  obtain ⟨rfl, ⟨hb0, hM, hK, hG, hE⟩, hsz, hsg⟩ := hv
  have hx := B.exec
  have hb := B.bytes
  have hr := B.returns
  have hts := atoms_spec (ws := wsX5_goes) B.pre
  have hown : s.vm.findClass RX5 = some m.cls := findClass_of_methodNamed B.named
  have hlocks := B.notSynchronized
  have hT := hE.1
  have hN := hE.2.2.2.2.2.2.2.1
  have hS : va_S (fun q => b ≤ q) s.heap s.heap [] := va_S.rf
  have hl := lv_entry ([.ref o, .int wm]) (n := 11) (Nat.le_of_ble_eq_true rfl)
  rw [lg_entry_eq]
  generalize (lg_sl ([.ref o, .int wm]) ++ List.replicate (11 - (lg_sl ([.ref o, .int wm])).length) Slot.unset).toArray = ls at hl ⊢
  have hl : lv_has ls 11 [(0, .ref o), (1, .int wm)] := hl
  generalize ([.ref o, .int wm] : List Value).toArray = args at hts ⊢
  refine W.q (fun Q hQ => ?_)
  have hgt := grid_tags hM hto
  have hMg := hM
  refine lv_bipush (v := 6) hx hb dX5_goes_0 (by decide) ?_
  refine lv_bipush (v := 8) hx hb dX5_goes_2 (by decide) ?_
  obtain ⟨q1, hq1⟩ : ∃ z, z = s.heap.size := ⟨_, rfl⟩
  have hbq : b ≤ s.heap.size := Nat.le_trans hb0 hS.1
  refine rt_mna (D := (dC, dI)) (t0 := 7) (t1 := 1) (ty := .boolean) hx hb hown (by rw [show "[" ++ (FieldType.array .boolean).toString = "[[Z" from by decide +kernel]; exact hts (.classLink RX5 20 "[[Z") (by decide +kernel)) hE.2.2.1.2.2.1 (hts (.arrayClass .boolean) (by decide +kernel)) hK rfl rfl hS (n := 6) (k := 8) (N' := 6) (K' := 8) (z := (8, .inl (fun _ => 0))) (by decide) (by decide) (by decide) (by decide) (by decide) (by decide) (by decide) (by decide) (by decide) (Nat.le_of_ble_eq_true rfl) (Nat.le_of_ble_eq_true rfl) (fun c => inn_b c) dX5_goes_4 (fun H hP9 hR9 hz9 ho9 hS => ?_)
  have hM9 := gmn_TM (t := 38) (tr := (fun j => 39 + 64 * j)) hM hbq hz9 ho9 hP9 hR9 (TE.m38 ⟨rfl, fun j hj => gmn_r hj⟩) (fun j hj => (by rw [show (39 + 64 * (j)) % 64 = 39 by omega, show (39 + 64 * (j)) / 64 = j by omega]; exact TE.m39 ⟨rfl, trivial⟩))
  have hx3 := gmn_ext (m := me) (X := X0) (t := 38) (tr := (fun j => 39 + 64 * j)) hM
  have hG := gmn_GOK (t := 38) (tr := (fun j => 39 + 64 * j)) hG hM (by omega) (fun j => by omega)
  rw [← hq1] at hM9 hx3 hG
  rw [← hq1]
  obtain ⟨g2, hg2⟩ : ∃ z, z = gmn g q1 38 (fun j => 39 + 64 * j) := ⟨_, rfl⟩
  rw [← hg2] at hM9 hx3 hG
  have hM := hM9
  have ht4 : tg g2 o = 28 + 64 * i := hx3.tk hto (by omega)
  have ht5 : tg g2 mo = 17 := hx3.tk hmo (by omega)
  have ht6 : tg g2 q1 = 38 := by rw [hg2]; exact gmn_o
  have hFI : FI g g2 o q1 := by rw [hg2]; exact FI.zero (fun y => gmn_f) (fun y x hy => gmn_i hy)
  have hz0 : ∀ y, y < 6 → tg g (q1 + 1 + y) = 0 := fun y hy => Nat.eq_zero_of_not_pos (fun z => by have := hMg.lt (by omega : tg g (q1 + 1 + y) ≠ 0); omega)
  have hh5 : (pI g2 mo 0).toInt ≤ 503 := by rw [hx3.i (by omega) (Or.inr (by decide))]; exact hh
  refine lv_astore_n (lv' := [(2, .ref q1), (0, .ref o), (1, .int wm)]) hx hb dX5_goes_8 rfl hl (by decide) rfl (fun ls hl => ?_)
  refine lv_aload_n hx hb dX5_goes_9 rfl (lv_at hl 1 rfl) ?_
  obtain ⟨u7, u8, u9, u10, u11, u12, hP, hf⟩ := o_ms (i := i) (q := o) hM (by omega)
  refine va_get (D := (dC, dI)) (ci := 9) (v := .ref (pF g2 o 2)) (C := RX5) (T := TX5) (N := 10) hx hb hts (by decide +kernel) hown hK hP 0 rfl rfl 9 (by decide) (hts (.fieldLink RX5 3 "SnowpalaceModel$Site" "this$0" "LSnowpalaceModel;") (by decide +kernel)) (fun _ h9 => h9) rfl dX5_goes_10 ?_
  have ht13 : tg g2 (pF g2 o 2) = 17 := hf.2.2.1
  have hth14 : (pF g2 o 2) = mo := hG.2.2.1 o mo (by omega) (by omega)
  rw [hth14]
  obtain ⟨u15, u16, hP, hf⟩ := o_mo (i := 0) (q := mo) hM (by omega)
  refine va_getN (D := (dC, dI)) (ci := 10) (v := .int (pI g2 mo 0)) (C := RX6) (T := TX6) (N := 11) hx hb hts (by decide +kernel) hown hK hP 0 rfl rfl 2 (by decide) (hN (.fieldLinkNest RX5 103 "SnowpalaceModel" "hour" "I" RX6) (by decide +kernel)) (fun _ h9 => h9) rfl dX5_goes_13 ?_
  have hv17 := hf.2.2.2.2.2.2.1
  obtain ⟨j18, hj18, en19⟩ := toN (p := (pI g2 mo 0)) (k := 504) (by omega) (by omega) (by decide)
  rw [en19]
  try rw [en19] at hl
  have hl : lv_has ls 11 [(2, .ref q1), (0, .ref o), (1, .int wm)] := hl
  refine lv_bipush (v := 24) hx hb dX5_goes_16 (by decide) ?_
  refine lv_irem hx hb dX5_goes_18 (by decide) ?_
  refine lv_topi (fun v20 e21 => ?_)
  obtain rfl : v20 = nI (j18 % 24) := e21.trans (pk_rem (a := j18) (d := 24) (by omega) (by decide) (by decide))
  refine lv_istore_n (lv' := [(3, .int (nI (j18 % 24))), (2, .ref q1), (0, .ref o), (1, .int wm)]) hx hb dX5_goes_19 rfl hl (by decide) rfl (fun ls hl => ?_)
  refine lv_aload_n hx hb dX5_goes_20 rfl (lv_at hl 2 rfl) ?_
  obtain ⟨u22, u23, u24, u25, u26, u27, hP, hf⟩ := o_ms (i := i) (q := o) hM (by omega)
  refine va_get (D := (dC, dI)) (ci := 9) (v := .ref (pF g2 o 2)) (C := RX5) (T := TX5) (N := 10) hx hb hts (by decide +kernel) hown hK hP 0 rfl rfl 9 (by decide) (hts (.fieldLink RX5 3 "SnowpalaceModel$Site" "this$0" "LSnowpalaceModel;") (by decide +kernel)) (fun _ h9 => h9) rfl dX5_goes_21 ?_
  have ht28 : tg g2 (pF g2 o 2) = 17 := hf.2.2.1
  have hth29 : (pF g2 o 2) = mo := hG.2.2.1 o mo (by omega) (by omega)
  rw [hth29]
  obtain ⟨u30, u31, hP, hf⟩ := o_mo (i := 0) (q := mo) hM (by omega)
  refine va_getN (D := (dC, dI)) (ci := 10) (v := .ref (pF g2 mo 0)) (C := RX6) (T := TX6) (N := 11) hx hb hts (by decide +kernel) hown hK hP 0 rfl rfl 1 (by decide) (hN (.fieldLinkNest RX5 106 "SnowpalaceModel" "days" "[[I" RX6) (by decide +kernel)) (fun _ h9 => h9) rfl dX5_goes_24 ?_
  have ht32 : tg g2 (pF g2 mo 0) = 18 := hf.1
  refine lv_aload_n hx hb dX5_goes_27 rfl (lv_at hl 2 rfl) ?_
  obtain ⟨u33, u34, u35, u36, u37, u38, hP, hf⟩ := o_ms (i := i) (q := o) hM (by omega)
  refine va_get (D := (dC, dI)) (ci := 9) (v := .ref (pF g2 o 2)) (C := RX5) (T := TX5) (N := 10) hx hb hts (by decide +kernel) hown hK hP 0 rfl rfl 9 (by decide) (hts (.fieldLink RX5 3 "SnowpalaceModel$Site" "this$0" "LSnowpalaceModel;") (by decide +kernel)) (fun _ h9 => h9) rfl dX5_goes_28 ?_
  have ht39 : tg g2 (pF g2 o 2) = 17 := hf.2.2.1
  have hth40 : (pF g2 o 2) = mo := hG.2.2.1 o mo (by omega) (by omega)
  rw [hth40]
  obtain ⟨u41, u42, hP, hf⟩ := o_mo (i := 0) (q := mo) hM (by omega)
  refine va_getN (D := (dC, dI)) (ci := 10) (v := .int (pI g2 mo 0)) (C := RX6) (T := TX6) (N := 11) hx hb hts (by decide +kernel) hown hK hP 0 rfl rfl 2 (by decide) (hN (.fieldLinkNest RX5 103 "SnowpalaceModel" "hour" "I" RX6) (by decide +kernel)) (fun _ h9 => h9) rfl dX5_goes_31 ?_
  have hv43 := hf.2.2.2.2.2.2.1
  obtain ⟨j44, hj44, en45⟩ := toN (p := (pI g2 mo 0)) (k := 503) (by omega) (by omega) (by decide)
  rw [en45]
  try rw [en45] at hl
  have hl : lv_has ls 11 [(3, .int (nI (j18 % 24))), (2, .ref q1), (0, .ref o), (1, .int wm)] := hl
  refine lv_bipush (v := 24) hx hb dX5_goes_34 (by decide) ?_
  refine lv_idiv hx hb dX5_goes_36 (by decide) ?_
  refine lv_topi (fun v46 e47 => ?_)
  obtain rfl : v46 = nI (j44 / 24) := e47.trans (pk_div (a := j44) (d := 24) (by omega) (by decide) (by decide))
  obtain ⟨hP, hf⟩ := o_da (i := 0) (q := (pF g2 mo 0)) hM (by omega)
  have ec : ((nI (j44 / 24)) : Int32).toNatClampNeg = (j44 / 24) := nI_clamp (by omega)
  refine rt_aldA (D := (dC, dI)) (t0 := 6) hx hb hK hP rfl (vp_in_nI (by omega) (by decide)) (y := ((pO g2 (pF g2 mo 0) (j44 / 24)).getD 0)) ((congrArg (pO g2 (pF g2 mo 0)) ec).trans (hf (j44 / 24) (by omega)).1) dX5_goes_37 ?_
  have ht48 : tg g2 ((pO g2 (pF g2 mo 0) (j44 / 24)).getD 0) = 22 := (hf (j44 / 24) (by omega)).2
  refine lv_iconst (v := 2) hx hb dX5_goes_38 (by decide) ?_
  obtain ⟨hP, hf⟩ := o_ro (i := 0) (q := ((pO g2 (pF g2 mo 0) (j44 / 24)).getD 0)) hM (by omega)
  refine va_iald (D := (dC, dI)) hx hb hK hP 0 0 rfl rfl (by unfold vp_in; decide) dX5_goes_39 ?_
  refine lv_topi (fun v49 e50 => ?_)
  have ec : (2 : Int32).toNatClampNeg = 2 := by decide
  rw [ec] at e50
  subst e50
  refine lv_istore (lv' := [(4, .int (pI g2 ((pO g2 (pF g2 mo 0) (j44 / 24)).getD 0) 2)), (3, .int (nI (j18 % 24))), (2, .ref q1), (0, .ref o), (1, .int wm)]) hx hb dX5_goes_40 hl (by decide) rfl (fun ls hl => ?_)
  refine lv_aload_n hx hb dX5_goes_42 rfl (lv_at hl 3 rfl) ?_
  obtain ⟨u52, u53, u54, u55, u56, u57, hP, hf⟩ := o_ms (i := i) (q := o) hM (by omega)
  refine va_get (D := (dC, dI)) (ci := 9) (v := .int (pI g2 o 0)) (C := RX5) (T := TX5) (N := 10) hx hb hts (by decide +kernel) hown hK hP 0 rfl rfl 2 (by decide) (hts (.fieldLink RX5 109 "SnowpalaceModel$Site" "hasCover" "Z") (by decide +kernel)) (fun _ h9 => h9) rfl dX5_goes_43 ?_
  have hv58 := hf.2.2.2
  have jn60 : ∀ (x59 : Int32) (H : Heap) (locs : List Loc) (ls : Array Slot), (x59 = 0 ∨ x59 = 1) → TM (dC, dI) kA b g2 H → va_S (fun q => b ≤ q) s.heap H locs → lv_has ls 11 [(4, .int (pI g2 ((pO g2 (pF g2 mo 0) (j44 / 24)).getD 0) 2)), (3, .int (nI (j18 % 24))), (2, .ref q1), (0, .ref o), (1, .int wm)] → W p l e (headSpec wsX5_goes ({ frames := 7, cells := 700, slots := 5400, locals := 165 })).room s m args below meth c H locs 7 54 Q (F0 m 74 ls [.int x59]) := by
    intro x59 H locs ls hj61 hM hS hl
    refine lv_istore (lv' := [(5, .int x59), (4, .int (pI g2 ((pO g2 (pF g2 mo 0) (j44 / 24)).getD 0) 2)), (3, .int (nI (j18 % 24))), (2, .ref q1), (0, .ref o), (1, .int wm)]) hx hb dX5_goes_74 hl (by decide) rfl (fun ls hl => ?_)
    refine lv_aload_n hx hb dX5_goes_76 rfl (lv_at hl 4 rfl) ?_
    obtain ⟨u62, u63, u64, u65, u66, u67, hP, hf⟩ := o_ms (i := i) (q := o) hM (by omega)
    refine va_get (D := (dC, dI)) (ci := 9) (v := .int (pI g2 o 0)) (C := RX5) (T := TX5) (N := 10) hx hb hts (by decide +kernel) hown hK hP 0 rfl rfl 2 (by decide) (hts (.fieldLink RX5 109 "SnowpalaceModel$Site" "hasCover" "Z") (by decide +kernel)) (fun _ h9 => h9) rfl dX5_goes_77 ?_
    have hv68 := hf.2.2.2
    have jn70 : ∀ (x69 : Int32) (H : Heap) (locs : List Loc) (ls : Array Slot), (x69 = 0 ∨ x69 = 1) → TM (dC, dI) kA b g2 H → va_S (fun q => b ≤ q) s.heap H locs → lv_has ls 11 [(5, .int x59), (4, .int (pI g2 ((pO g2 (pF g2 mo 0) (j44 / 24)).getD 0) 2)), (3, .int (nI (j18 % 24))), (2, .ref q1), (0, .ref o), (1, .int wm)] → W p l e (headSpec wsX5_goes ({ frames := 7, cells := 700, slots := 5400, locals := 165 })).room s m args below meth c H locs 7 54 Q (F0 m 95 ls [.int x69]) := by
      intro x69 H locs ls hj71 hM hS hl
      refine lv_istore (lv' := [(6, .int x69), (5, .int x59), (4, .int (pI g2 ((pO g2 (pF g2 mo 0) (j44 / 24)).getD 0) 2)), (3, .int (nI (j18 % 24))), (2, .ref q1), (0, .ref o), (1, .int wm)]) hx hb dX5_goes_95 hl (by decide) rfl (fun ls hl => ?_)
      refine lv_iconst (v := 0) hx hb dX5_goes_97 (by decide) ?_
      refine lv_istore (lv' := [(7, .int 0), (6, .int x69), (5, .int x59), (4, .int (pI g2 ((pO g2 (pF g2 mo 0) (j44 / 24)).getD 0) 2)), (3, .int (nI (j18 % 24))), (2, .ref q1), (0, .ref o), (1, .int wm)]) hx hb dX5_goes_98 hl (by decide) rfl (fun ls hl => ?_)
      have lp74 : ∀ (n75 j72 : Nat) (g73 : Gh) , 0 ≤ j72 → j72 ≤ 6 → 6 < j72 + n75 → ∀ (H : Heap) (locs : List Loc) (ls : Array Slot), (Ext me X0 g g73) → (GOK g73) → (tg g73 q1 = 38) → (FI g g73 o q1) → TM (dC, dI) kA b g73 H → va_S (fun q => b ≤ q) s.heap H locs → lv_has ls 11 [(7, .int (nI j72)), (6, .int x69), (5, .int x59), (4, .int (pI g2 ((pO g2 (pF g2 mo 0) (j44 / 24)).getD 0) 2)), (3, .int (nI (j18 % 24))), (2, .ref q1), (0, .ref o), (1, .int wm)] → W p l e (headSpec wsX5_goes ({ frames := 7, cells := 700, slots := 5400, locals := 165 })).room s m args below meth c H locs 7 54 Q (F0 m 100 ls []) := by
        intro n75
        induction n75 with
        | zero => intro j72 g73 h0 h1 h2; omega
        | succ n75 ih76 =>
          intro j72 g73 lj72 hj72 hn75 H locs ls hx77 hG ht78 hi79 hM hS hl
          have ht80 : tg g73 o = 28 + 64 * i := hx77.tk hto (by omega)
          have ht81 : tg g73 mo = 17 := hx77.tk hmo (by omega)
          refine lv_iload hx hb dX5_goes_100 (lv_at hl 0 rfl) ?_
          refine lv_bipush (v := 6) hx hb dX5_goes_102 (by decide) ?_
          refine lv_icmp_ge (tgt := 264) hx hb dX5_goes_104 (by decide) (fun c82 => ?_) (fun c82 => ?_)
          · skip
            have k83 : 6 ≤ j72 := (nI_leI (a := 6) (b := j72) (by omega) (by omega)).mp c82
            have hfs84 : FI g73 g73 o q1 := hi79.self hx77 hto hgt.1 hgt.2 (fun y _ z => z)
            have hgc1 := gc_ext hMg hx77 hto (fun y _ z => z)
            refine lv_aload_n hx hb dX5_goes_264 rfl (lv_at hl 6 rfl) ?_
            refine lv_aload_n hx hb dX5_goes_265 rfl (lv_at hl 5 rfl) ?_
            obtain ⟨u85, u86, u87, u88, u89, u90, hP, hf⟩ := o_ms (i := i) (q := o) hM (by omega)
            refine va_calli (va_runV (As := [.ref q1]) (rest := []) ⟨hx, hb, hml, hown, hts⟩ (rm_falls l dC dI kA eD b g73 o i mo me q1 (by omega) (by omega) (hme.imp id (fun h9 => ((hx77.wide0 (Y := (XS i)))).tk h9 (by decide))) (by omega) hfs84) (cwV 1 hts gX5_goes_X5_falls rfl rfl rfl (by decide +kernel) ⟨Nat.le_of_ble_eq_true rfl, Nat.le_of_ble_eq_true rfl⟩) ⟨fb_CX, va_recv hK hP (ci := 9) (q0 := 0) rfl rfl, fun U hU hW => ⟨rfl, CX.give hb0 hM hK hG hE hS hU hW⟩⟩ rfl rfl hl.1 rfl (lv_room (Nat.le_of_ble_eq_true rfl)) dX5_goes_266 ⟨(Nat.le_of_ble_eq_true rfl), (Nat.le_of_ble_eq_true rfl)⟩) hS (fun q _ h => h) (fun q h => h) (fun r91 g93 t H locs ht hvm hw92 hB hz1 hk1 hS => ?_)
            have hM := hB.back ht
            have hG := hB.2.2.2.1
            have hx94 : Ext me (XS i) g73 g93 := hw92.1
            have ht95 : tg g93 o = 28 + 64 * i := hx94.tk ht80 (by omega)
            have ht96 : tg g93 mo = 17 := hx94.tk ht81 (by omega)
            have ht97 : tg g93 q1 = 38 := hx94.tk ht78 (by omega)
            obtain ⟨-, q98, hq99, hq100⟩ := hw92
            obtain rfl := hq99
            refine lv_pop hx hb dX5_goes_269 rfl ?_
            refine lv_aload_n hx hb dX5_goes_270 rfl (lv_at hl 6 rfl) ?_
            refine lv_iload_n hx hb dX5_goes_271 rfl (lv_at hl 7 rfl) ?_
            obtain ⟨u101, u102, u103, u104, u105, u106, hP, hf⟩ := o_ms (i := i) (q := o) hM (by omega)
            refine W.know (fun hkn1 hkn2 => ?_)
            refine va_calli (va_runV (As := [.int wm]) (rest := []) ⟨hx, hb, hml, hown, hts⟩ (rm_settles l dC dI kA eD b g93 H.size (SH H) o i mo me wm (by omega) (by omega) (hme.imp id (fun h9 => (((hx77.wide0 (Y := (XS i))).trans hx94)).tk h9 (by decide)))) (cwV 1 hts gX5_goes_X5_settles rfl rfl rfl (by decide +kernel) ⟨Nat.le_of_ble_eq_true rfl, Nat.le_of_ble_eq_true rfl⟩) ⟨fb_CXs, va_recv hK hP (ci := 9) (q0 := 0) rfl rfl, fun U hU hW => ⟨rfl, CXs.give hb0 hM hK hG hE hS hU hW⟩⟩ rfl rfl hl.1 rfl (lv_room (Nat.le_of_ble_eq_true rfl)) dX5_goes_272 ⟨(Nat.le_of_ble_eq_true rfl), (Nat.le_of_ble_eq_true rfl)⟩) hS (fun q _ h => h) (fun q h => h) (fun r107 g109 t H locs ht hvm hw108 hB hz1 hk1 hS => ?_)
            have hM := hB.1.back ht
            have hG := hB.1.2.2.2.1
            obtain ⟨g109, d110⟩ := g109
            have hgr := hB.2
            rw [ht] at hgr
            refine W.shrink (k := 7 + 14 * (1 + d110)) (n := 54 + 108 * (1 + d110)) (by have := hgr.1; omega) (by have := hgr.2; omega) ?_
            have hx111 : Ext me (XS i) g93 g109 := hw108.1
            have ht112 : tg g109 o = 28 + 64 * i := hx111.tk ht95 (by omega)
            have ht113 : tg g109 mo = 17 := hx111.tk ht96 (by omega)
            have ht114 : tg g109 q1 = 38 := hx111.tk ht97 (by omega)
            refine lv_pop hx hb dX5_goes_275 rfl ?_
            have hgs2 : gc g109 o + d110 = gc g93 o := hw108.2
            have hgl9 := gc_le (g := g93) (o := o)
            have hgw := fun (v9 : Gh) (hv9 : Ext me X0 g109 v9) => gc_ext hM hv9 ht112 (fun y _ z => z)
            refine lv_aload_n hx hb dX5_goes_276 rfl (lv_at hl 6 rfl) ?_
            refine lv_iconst (v := (-1)) hx hb dX5_goes_277 (by decide) ?_
            refine lv_iconst (v := 0) hx hb dX5_goes_278 (by decide) ?_
            obtain ⟨u115, u116, u117, u118, u119, u120, hP, hf⟩ := o_ms (i := i) (q := o) hM (by omega)
            refine va_callr (va_runV (As := [.int (-1), .int 0]) (rest := []) ⟨hx, hb, hml, hown, hts⟩ (rm_loads l dC dI kA eD b g109 o i mo me (-1) 0 (by omega) (by omega) (hme.imp id (fun h9 => ((((hx77.wide0 (Y := (XS i))).trans hx94).trans hx111)).tk h9 (by decide)))) (cwV 2 hts gX5_goes_X5_loads rfl rfl rfl (by decide +kernel) ⟨Nat.le_of_ble_eq_true rfl, Nat.le_of_ble_eq_true rfl⟩) ⟨fb_CX, va_recv hK hP (ci := 9) (q0 := 0) rfl rfl, fun U hU hW => ⟨rfl, CX.give hb0 hM hK hG hE hS hU hW⟩⟩ rfl rfl hl.1 rfl (lv_room (Nat.le_of_ble_eq_true rfl)) dX5_goes_279 ⟨(show 7 + 14 * (1 + d110) + 7 ≤ 700 by omega), (show 54 + 108 * (1 + d110) + 54 ≤ 5400 by omega)⟩) hS (fun q _ h => h) (fun q h => h) (fun g123 r121 t H locs ht hvm hw122 hB hz1 hk1 hS => ?_)
            have hM := hB.1.back ht
            have hG := hB.1.2.2.2.1
            have hx124 : Ext me X0 g109 g123 := hw122
            have ht125 : tg g123 o = 28 + 64 * i := hx124.tk ht112 (by omega)
            have ht126 : tg g123 mo = 17 := hx124.tk ht113 (by omega)
            have ht127 : tg g123 q1 = 38 := hx124.tk ht114 (by omega)
            have ht128 : tg g123 r121 = 36 := hB.2
            have hgc2 := hgw _ hx124
            refine lv_astore (lv' := [(7, .ref r121), (6, .int x69), (5, .int x59), (4, .int (pI g2 ((pO g2 (pF g2 mo 0) (j44 / 24)).getD 0) 2)), (3, .int (nI (j18 % 24))), (2, .ref q1), (0, .ref o), (1, .int wm)]) hx hb dX5_goes_282 hl (by decide) rfl (fun ls hl => ?_)
            refine lv_iconst (v := 0) hx hb dX5_goes_284 (by decide) ?_
            refine lv_istore (lv' := [(8, .int 0), (7, .ref r121), (6, .int x69), (5, .int x59), (4, .int (pI g2 ((pO g2 (pF g2 mo 0) (j44 / 24)).getD 0) 2)), (3, .int (nI (j18 % 24))), (2, .ref q1), (0, .ref o), (1, .int wm)]) hx hb dX5_goes_285 hl (by decide) rfl (fun ls hl => ?_)
            have lp130 : ∀ (n131 j129 : Nat) , 0 ≤ j129 → j129 ≤ 6 → 6 < j129 + n131 → ∀ (H : Heap) (locs : List Loc) (ls : Array Slot), TM (dC, dI) kA b g123 H → va_S (fun q => b ≤ q) s.heap H locs → lv_has ls 11 [(8, .int (nI j129)), (7, .ref r121), (6, .int x69), (5, .int x59), (4, .int (pI g2 ((pO g2 (pF g2 mo 0) (j44 / 24)).getD 0) 2)), (3, .int (nI (j18 % 24))), (2, .ref q1), (0, .ref o), (1, .int wm)] → W p l e (headSpec wsX5_goes ({ frames := 7, cells := 700, slots := 5400, locals := 165 })).room s m args below meth c H locs (7 + 14 * (1 + d110) + 7) (54 + 108 * (1 + d110) + 54) Q (F0 m 287 ls []) := by
              intro n131
              induction n131 with
              | zero => intro j129 h0 h1 h2; omega
              | succ n131 ih132 =>
                intro j129 lj129 hj129 hn131 H locs ls hM hS hl
                refine lv_iload hx hb dX5_goes_287 (lv_at hl 0 rfl) ?_
                refine lv_bipush (v := 6) hx hb dX5_goes_289 (by decide) ?_
                refine lv_icmp_ge (tgt := 415) hx hb dX5_goes_291 (by decide) (fun c133 => ?_) (fun c133 => ?_)
                · skip
                  have k134 : 6 ≤ j129 := (nI_leI (a := 6) (b := j129) (by omega) (by omega)).mp c133
                  refine W.know (fun hkn1 hkn2 => ?_)
                  subst hQ
                  refine W.widen (k := 700) (n := 5400) (by omega) (by omega) ?_
                  exact W.vret hx hb hr (fun t ht hW => ⟨⟨(g123, q98 + d110), rfl, ⟨((((hx77.wide0 (Y := (XS i))).trans hx94).trans hx111).trans (hx124.wide0 (Y := (XS i)))), by show gc g123 o + (q98 + d110) = gc g o; have h9 := hq100; have h8 : gc _ o + d110 = gc _ o := hgs2; omega⟩, ⟨CX.give hb0 hM hK hG hE hS ht hW, by rw [ht]; show _ ≤ sz + (28 + 14 * (q98 + d110)); omega, by rw [ht]; show _ ≤ sg + (216 + 108 * (q98 + d110)); omega⟩⟩, hS.F ht⟩) hS.2.2 dX5_goes_415
                · skip
                  have k135 : ¬ (6 ≤ j129) := fun z => c133 ((nI_leI (a := 6) (b := j129) (by omega) (by omega)).mpr z)
                  refine lv_iconst (v := 0) hx hb dX5_goes_294 (by decide) ?_
                  refine lv_istore (lv' := [(9, .int 0), (8, .int (nI j129)), (7, .ref r121), (6, .int x69), (5, .int x59), (4, .int (pI g2 ((pO g2 (pF g2 mo 0) (j44 / 24)).getD 0) 2)), (3, .int (nI (j18 % 24))), (2, .ref q1), (0, .ref o), (1, .int wm)]) hx hb dX5_goes_295 hl (by decide) rfl (fun ls hl => ?_)
                  have lp137 : ∀ (n138 j136 : Nat) , 0 ≤ j136 → j136 ≤ 8 → 8 < j136 + n138 → ∀ (H : Heap) (locs : List Loc) (ls : Array Slot), TM (dC, dI) kA b g123 H → va_S (fun q => b ≤ q) s.heap H locs → lv_has ls 11 [(9, .int (nI j136)), (8, .int (nI j129)), (7, .ref r121), (6, .int x69), (5, .int x59), (4, .int (pI g2 ((pO g2 (pF g2 mo 0) (j44 / 24)).getD 0) 2)), (3, .int (nI (j18 % 24))), (2, .ref q1), (0, .ref o), (1, .int wm)] → W p l e (headSpec wsX5_goes ({ frames := 7, cells := 700, slots := 5400, locals := 165 })).room s m args below meth c H locs (7 + 14 * (1 + d110) + 7) (54 + 108 * (1 + d110) + 54) Q (F0 m 297 ls []) := by
                    intro n138
                    induction n138 with
                    | zero => intro j136 h0 h1 h2; omega
                    | succ n138 ih139 =>
                      intro j136 lj136 hj136 hn138 H locs ls hM hS hl
                      refine lv_iload hx hb dX5_goes_297 (lv_at hl 0 rfl) ?_
                      refine lv_bipush (v := 8) hx hb dX5_goes_299 (by decide) ?_
                      refine lv_icmp_ge (tgt := 409) hx hb dX5_goes_301 (by decide) (fun c140 => ?_) (fun c140 => ?_)
                      · skip
                        have k141 : 8 ≤ j136 := (nI_leI (a := 8) (b := j136) (by omega) (by omega)).mp c140
                        refine lv_iinc (v := (nI (j129 + 1))) (lv' := [(8, .int (nI (j129 + 1))), (9, .int (nI j136)), (7, .ref r121), (6, .int x69), (5, .int x59), (4, .int (pI g2 ((pO g2 (pF g2 mo 0) (j44 / 24)).getD 0) 2)), (3, .int (nI (j18 % 24))), (2, .ref q1), (0, .ref o), (1, .int wm)]) hx hb dX5_goes_409 hl (k := 1) rfl (nI_add j129 1) (by decide) rfl (fun ls hl => ?_)
                        refine lv_goto (tgt := 287) hx hb dX5_goes_412 (by decide) ?_
                        exact ih132 ((j129 + 1)) (by omega) (by omega) (by omega) H _ ls  hM hS (lv_sub hl [0, 2, 3, 4, 5, 6, 7, 8, 9] rfl)
                      · skip
                        have k142 : ¬ (8 ≤ j136) := fun z => c140 ((nI_leI (a := 8) (b := j136) (by omega) (by omega)).mpr z)
                        refine lv_aload_n hx hb dX5_goes_304 rfl (lv_at hl 8 rfl) ?_
                        refine lv_iload hx hb dX5_goes_305 (lv_at hl 0 rfl) ?_
                        refine lv_iload hx hb dX5_goes_307 (lv_at hl 1 rfl) ?_
                        obtain ⟨u143, u144, u145, u146, u147, u148, hP, hf⟩ := o_ms (i := i) (q := o) hM (by omega)
                        refine va_calli (va_runV (As := [.int (nI j136), .int (nI j129)]) (rest := []) ⟨hx, hb, hml, hown, hts⟩ (rm_has l dC dI kA eD b g123 o i (nI j136) (nI j129) (by omega)) (cwV 2 hts gX5_goes_X5_has rfl rfl rfl (by decide +kernel) ⟨Nat.le_of_ble_eq_true rfl, Nat.le_of_ble_eq_true rfl⟩) ⟨fb_CX, va_recv hK hP (ci := 9) (q0 := 0) rfl rfl, fun U hU hW => ⟨rfl, CX.give hb0 hM hK hG hE hS hU hW⟩⟩ rfl rfl hl.1 rfl (lv_room (Nat.le_of_ble_eq_true rfl)) dX5_goes_309 ⟨(show 7 + 14 * (1 + d110) + 7 + 0 ≤ 700 by omega), (show 54 + 108 * (1 + d110) + 54 + 0 ≤ 5400 by omega)⟩) hS (fun q _ h => h) (fun q h => h) (fun r149 u t H locs ht hvm hw150 hB hz1 hk1 hS => ?_)
                        have hM := hB.back ht
                        have hG := hB.2.2.2.1
                        have jn151 : ∀  (H : Heap) (locs : List Loc) (ls : Array Slot), TM (dC, dI) kA b g123 H → va_S (fun q => b ≤ q) s.heap H locs → lv_has ls 11 [(9, .int (nI j136)), (8, .int (nI j129)), (7, .ref r121), (6, .int x69), (5, .int x59), (4, .int (pI g2 ((pO g2 (pF g2 mo 0) (j44 / 24)).getD 0) 2)), (3, .int (nI (j18 % 24))), (2, .ref q1), (0, .ref o), (1, .int wm)] → W p l e (headSpec wsX5_goes ({ frames := 7, cells := 700, slots := 5400, locals := 165 })).room s m args below meth c H locs (7 + 14 * (1 + d110) + 7) (54 + 108 * (1 + d110) + 54) Q (F0 m 403 ls []) := by
                          intro H locs ls hM hS hl
                          refine lv_iinc (v := (nI (j136 + 1))) (lv' := [(9, .int (nI (j136 + 1))), (8, .int (nI j129)), (7, .ref r121), (6, .int x69), (5, .int x59), (4, .int (pI g2 ((pO g2 (pF g2 mo 0) (j44 / 24)).getD 0) 2)), (3, .int (nI (j18 % 24))), (2, .ref q1), (0, .ref o), (1, .int wm)]) hx hb dX5_goes_403 hl (k := 0) rfl (nI_add j136 1) (by decide) rfl (fun ls hl => ?_)
                          refine lv_goto (tgt := 297) hx hb dX5_goes_406 (by decide) ?_
                          exact ih139 ((j136 + 1)) (by omega) (by omega) (by omega) H _ ls  hM hS (lv_sub hl [0, 1, 2, 3, 4, 5, 6, 7, 8, 9] rfl)
                        refine lv_if_ne (tgt := 318) hx hb dX5_goes_312 (by decide) (fun c152 => ?_) (fun c152 => ?_)
                        · skip
                          obtain ⟨-, jx153, jy154, cl155, hp156, hp157, hj158, hj159, hc160⟩ := hw150.resolve_left c152
                          have ej161 : jx153 = j136 := ((nI_eq (a := j136) (b := jx153) (by omega) (by omega)).mp hp156).symm
                          rw [ej161] at hc160
                          have ej162 : jy154 = j129 := ((nI_eq (a := j129) (b := jy154) (by omega) (by omega)).mp hp157).symm
                          rw [ej162] at hc160
                          refine lv_aload hx hb dX5_goes_318 (lv_at hl 2 rfl) ?_
                          refine lv_iload hx hb dX5_goes_320 (lv_at hl 1 rfl) ?_
                          obtain ⟨hP, hf⟩ := o_lt (i := 0) (q := r121) hM (by omega)
                          have ec : ((nI j129) : Int32).toNatClampNeg = j129 := nI_clamp (by omega)
                          refine rt_aldA (D := (dC, dI)) (t0 := 6) hx hb hK hP rfl (vp_in_nI (by omega) (by decide)) (y := (pF g123 r121 j129)) ((congrArg (fun z => if z < 6 then some (pF g123 r121 z) else none) ec).trans (if_pos (by omega))) dX5_goes_322 ?_
                          have ht163 : tg g123 (pF g123 r121 j129) = 37 := hf j129 (by omega)
                          refine lv_iload hx hb dX5_goes_323 (lv_at hl 0 rfl) ?_
                          obtain ⟨u164, hP, hf⟩ := o_lr (i := 0) (q := (pF g123 r121 j129)) hM (by omega)
                          refine va_iald (D := (dC, dI)) hx hb hK hP 0 0 rfl rfl (vp_in_nI (by omega) (by decide)) dX5_goes_325 ?_
                          refine lv_topi (fun v165 e166 => ?_)
                          have ec : ((nI j136) : Int32).toNatClampNeg = j136 := nI_clamp (by omega)
                          rw [ec] at e166
                          refine lv_iconst (v := 0) hx hb dX5_goes_326 (by decide) ?_
                          refine lv_iload_n hx hb dX5_goes_327 rfl (lv_at hl 9 rfl) ?_
                          refine lv_sipush (v := 300) hx hb dX5_goes_328 (by decide) ?_
                          refine lv_iadd hx hb dX5_goes_331 ?_
                          refine lv_topi (fun v167 e168 => ?_)
                          refine va_mmax hx hb (hml.trans hl.1.symm) hown (hts (.methodLink RX5 75 Lib.Math.max.name) (by decide +kernel)) (hts (.static Lib.Math.max.name) (by decide +kernel)) (hts (.initialized "java/lang/Math") (by decide +kernel)) (hts (.code Lib.Math.max.name Lib.Math.max.code 2 (some .int)) (by decide +kernel)) (Nat.le_of_ble_eq_true rfl) (Nat.le_of_ble_eq_true rfl) (show 7 + 14 * (1 + d110) + 7 + 0 ≤ 700 by omega) (show 54 + 108 * (1 + d110) + 54 + 0 ≤ 5400 by omega) dX5_goes_332 ?_
                          refine lv_topi (fun v169 e170 => ?_)
                          refine lv_imul hx hb dX5_goes_335 ?_
                          refine lv_topi (fun v171 e172 => ?_)
                          refine lv_ldc hx hb hown (hts (.constant RX5 119 100000) (by decide +kernel)) dX5_goes_336 ?_
                          refine lv_idiv hx hb dX5_goes_338 (by decide) ?_
                          refine lv_topi (fun v173 e174 => ?_)
                          refine lv_istore (lv' := [(10, .int v173), (9, .int (nI j136)), (8, .int (nI j129)), (7, .ref r121), (6, .int x69), (5, .int x59), (4, .int (pI g2 ((pO g2 (pF g2 mo 0) (j44 / 24)).getD 0) 2)), (3, .int (nI (j18 % 24))), (2, .ref q1), (0, .ref o), (1, .int wm)]) hx hb dX5_goes_339 hl (by decide) rfl (fun ls hl => ?_)
                          refine lv_aload_n hx hb dX5_goes_341 rfl (lv_at hl 9 rfl) ?_
                          obtain ⟨u175, u176, u177, u178, u179, u180, hP, hf⟩ := o_ms (i := i) (q := o) hM (by omega)
                          refine va_get (D := (dC, dI)) (ci := 9) (v := .ref (pF g123 o 0)) (C := RX5) (T := TX5) (N := 10) hx hb hts (by decide +kernel) hown hK hP 0 rfl rfl 0 (by decide) (hts (.fieldLink RX5 17 "SnowpalaceModel$Site" "cells" "[[LSnowpalaceModel$Cell;") (by decide +kernel)) (fun _ h9 => h9) rfl dX5_goes_342 ?_
                          have ht181 : tg g123 (pF g123 o 0) = 29 + 64 * i := hf.1
                          refine lv_iload hx hb dX5_goes_345 (lv_at hl 2 rfl) ?_
                          obtain ⟨hP, hf⟩ := o_co (i := i) (q := (pF g123 o 0)) hM (by omega)
                          have ec : ((nI j129) : Int32).toNatClampNeg = j129 := nI_clamp (by omega)
                          refine rt_aldA (D := (dC, dI)) (t0 := 9) hx hb hK hP rfl (vp_in_nI (by omega) (by decide)) (y := (pF g123 (pF g123 o 0) j129)) ((congrArg (fun z => if z < 6 then some (pF g123 (pF g123 o 0) z) else none) ec).trans (if_pos (by omega))) dX5_goes_347 ?_
                          have ht182 : tg g123 (pF g123 (pF g123 o 0) j129) = 30 + 64 * (8 * i + j129) := (hf j129 (by omega))
                          refine lv_iload hx hb dX5_goes_348 (lv_at hl 1 rfl) ?_
                          obtain ⟨hP, hf⟩ := o_cr (i := (8 * i + j129)) (q := (pF g123 (pF g123 o 0) j129)) hM (by omega)
                          refine va_aldq (D := (dC, dI)) hx hb hK hP 0 8 rfl rfl (vp_in_nI (by omega) (by decide)) dX5_goes_350 ?_
                          have ec : ((nI j136) : Int32).toNatClampNeg = j136 := nI_clamp (by omega)
                          rw [ec]
                          have hq183 := hf j136 (by omega)
                          rw [hc160]
                          have ht184 : tg g123 cl155 = 31 := hq183 cl155 hc160
                          refine lv_dup hx hb dX5_goes_351 rfl ?_
                          obtain ⟨u185, u186, u187, u188, u189, hP, hf⟩ := o_ce (i := 0) (q := cl155) hM (by omega)
                          refine va_getN (D := (dC, dI)) (ci := 8) (v := .int u188) (C := RX4) (T := TX4) (N := 5) hx hb hts (by decide +kernel) hown hK hP 0 rfl rfl 3 (by decide) (hN (.fieldLinkNest RX5 120 "SnowpalaceModel$Cell" "creep" "I" RX6) (by decide +kernel)) (fun _ h9 => h9) rfl dX5_goes_352 ?_
                          refine lv_aload_n hx hb dX5_goes_355 rfl (lv_at hl 9 rfl) ?_
                          obtain ⟨u190, u191, u192, u193, u194, u195, hP, hf⟩ := o_ms (i := i) (q := o) hM (by omega)
                          refine va_get (D := (dC, dI)) (ci := 9) (v := .ref (pF g123 o 0)) (C := RX5) (T := TX5) (N := 10) hx hb hts (by decide +kernel) hown hK hP 0 rfl rfl 0 (by decide) (hts (.fieldLink RX5 17 "SnowpalaceModel$Site" "cells" "[[LSnowpalaceModel$Cell;") (by decide +kernel)) (fun _ h9 => h9) rfl dX5_goes_356 ?_
                          refine lv_iload hx hb dX5_goes_359 (lv_at hl 2 rfl) ?_
                          obtain ⟨hP, hf⟩ := o_co (i := i) (q := (pF g123 o 0)) hM (by omega)
                          have ec : ((nI j129) : Int32).toNatClampNeg = j129 := nI_clamp (by omega)
                          refine rt_aldA (D := (dC, dI)) (t0 := 9) hx hb hK hP rfl (vp_in_nI (by omega) (by decide)) (y := (pF g123 (pF g123 o 0) j129)) ((congrArg (fun z => if z < 6 then some (pF g123 (pF g123 o 0) z) else none) ec).trans (if_pos (by omega))) dX5_goes_361 ?_
                          have ht196 : tg g123 (pF g123 (pF g123 o 0) j129) = 30 + 64 * (8 * i + j129) := (hf j129 (by omega))
                          refine lv_iload hx hb dX5_goes_362 (lv_at hl 1 rfl) ?_
                          obtain ⟨hP, hf⟩ := o_cr (i := (8 * i + j129)) (q := (pF g123 (pF g123 o 0) j129)) hM (by omega)
                          refine va_aldq (D := (dC, dI)) hx hb hK hP 0 8 rfl rfl (vp_in_nI (by omega) (by decide)) dX5_goes_364 ?_
                          have ec : ((nI j136) : Int32).toNatClampNeg = j136 := nI_clamp (by omega)
                          rw [ec]
                          have hq197 := hf j136 (by omega)
                          rw [hc160]
                          obtain ⟨u198, u199, u200, u201, u202, hP, hf⟩ := o_ce (i := 0) (q := cl155) hM (by omega)
                          refine va_getN (D := (dC, dI)) (ci := 8) (v := .int u202) (C := RX4) (T := TX4) (N := 5) hx hb hts (by decide +kernel) hown hK hP 0 rfl rfl 4 (by decide) (hN (.fieldLinkNest RX5 71 "SnowpalaceModel$Cell" "hasLamp" "Z" RX6) (by decide +kernel)) (fun _ h9 => h9) rfl dX5_goes_365 ?_
                          have hb203 := hf.2
                          have jn205 : ∀ (x204 : Int32) (H : Heap) (locs : List Loc) (ls : Array Slot), TM (dC, dI) kA b g123 H → va_S (fun q => b ≤ q) s.heap H locs → lv_has ls 11 [(10, .int v173), (9, .int (nI j136)), (8, .int (nI j129)), (7, .ref r121), (6, .int x69), (5, .int x59), (4, .int (pI g2 ((pO g2 (pF g2 mo 0) (j44 / 24)).getD 0) 2)), (3, .int (nI (j18 % 24))), (2, .ref q1), (0, .ref o), (1, .int wm)] → W p l e (headSpec wsX5_goes ({ frames := 7, cells := 700, slots := 5400, locals := 165 })).room s m args below meth c H locs (7 + 14 * (1 + d110) + 7) (54 + 108 * (1 + d110) + 54) Q (F0 m 380 ls [.int x204, .int u188, .ref cl155]) := by
                            intro x204 H locs ls hM hS hl
                            refine lv_iadd hx hb dX5_goes_380 ?_
                            refine lv_topi (fun v206 e207 => ?_)
                            obtain ⟨u208, u209, u210, u211, u212, hP, hf⟩ := o_ce (i := 0) (q := cl155) hM (by omega)
                            refine rt_putN (D := (dC, dI)) (ci := 8) (v := .int v206) (ty := .int) (C := RX4) (T := TX4) (N := 5) hx hb hts (by decide +kernel) tyX4 tyX4_ok nmX4 hown hK hP (hM.ge (by omega)) hS rfl 3 (by decide) (hN (.fieldLinkNest RX5 120 "SnowpalaceModel$Cell" "creep" "I" RX6) (by decide +kernel)) (fun _ h9 => h9) rfl (by decide +kernel) rfl rfl (Nat.le_of_ble_eq_true rfl) dX5_goes_381 (fun H locs hP hz ho hS => ?_)
                            have hM := s_ce (i := 0) hM (by omega) hP ho hf
                            refine lv_aload_n hx hb dX5_goes_384 rfl (lv_at hl 9 rfl) ?_
                            obtain ⟨u213, u214, u215, u216, u217, u218, hP, hf⟩ := o_ms (i := i) (q := o) hM (by omega)
                            refine va_get (D := (dC, dI)) (ci := 9) (v := .ref (pF g123 o 0)) (C := RX5) (T := TX5) (N := 10) hx hb hts (by decide +kernel) hown hK hP 0 rfl rfl 0 (by decide) (hts (.fieldLink RX5 17 "SnowpalaceModel$Site" "cells" "[[LSnowpalaceModel$Cell;") (by decide +kernel)) (fun _ h9 => h9) rfl dX5_goes_385 ?_
                            refine lv_iload hx hb dX5_goes_388 (lv_at hl 2 rfl) ?_
                            obtain ⟨hP, hf⟩ := o_co (i := i) (q := (pF g123 o 0)) hM (by omega)
                            have ec : ((nI j129) : Int32).toNatClampNeg = j129 := nI_clamp (by omega)
                            refine rt_aldA (D := (dC, dI)) (t0 := 9) hx hb hK hP rfl (vp_in_nI (by omega) (by decide)) (y := (pF g123 (pF g123 o 0) j129)) ((congrArg (fun z => if z < 6 then some (pF g123 (pF g123 o 0) z) else none) ec).trans (if_pos (by omega))) dX5_goes_390 ?_
                            have ht219 : tg g123 (pF g123 (pF g123 o 0) j129) = 30 + 64 * (8 * i + j129) := (hf j129 (by omega))
                            refine lv_iload hx hb dX5_goes_391 (lv_at hl 1 rfl) ?_
                            obtain ⟨hP, hf⟩ := o_cr (i := (8 * i + j129)) (q := (pF g123 (pF g123 o 0) j129)) hM (by omega)
                            refine va_aldq (D := (dC, dI)) hx hb hK hP 0 8 rfl rfl (vp_in_nI (by omega) (by decide)) dX5_goes_393 ?_
                            have ec : ((nI j136) : Int32).toNatClampNeg = j136 := nI_clamp (by omega)
                            rw [ec]
                            have hq220 := hf j136 (by omega)
                            rw [hc160]
                            refine lv_dup hx hb dX5_goes_394 rfl ?_
                            obtain ⟨u221, u222, u223, u224, u225, hP, hf⟩ := o_ce (i := 0) (q := cl155) hM (by omega)
                            refine va_getN (D := (dC, dI)) (ci := 8) (v := .int u223) (C := RX4) (T := TX4) (N := 5) hx hb hts (by decide +kernel) hown hK hP 0 rfl rfl 2 (by decide) (hN (.fieldLinkNest RX5 62 "SnowpalaceModel$Cell" "age" "I" RX6) (by decide +kernel)) (fun _ h9 => h9) rfl dX5_goes_395 ?_
                            refine lv_iconst (v := 1) hx hb dX5_goes_398 (by decide) ?_
                            refine lv_iadd hx hb dX5_goes_399 ?_
                            refine lv_topi (fun v226 e227 => ?_)
                            obtain ⟨u228, u229, u230, u231, u232, hP, hf⟩ := o_ce (i := 0) (q := cl155) hM (by omega)
                            refine rt_putN (D := (dC, dI)) (ci := 8) (v := .int v226) (ty := .int) (C := RX4) (T := TX4) (N := 5) hx hb hts (by decide +kernel) tyX4 tyX4_ok nmX4 hown hK hP (hM.ge (by omega)) hS rfl 2 (by decide) (hN (.fieldLinkNest RX5 62 "SnowpalaceModel$Cell" "age" "I" RX6) (by decide +kernel)) (fun _ h9 => h9) rfl (by decide +kernel) rfl rfl (Nat.le_of_ble_eq_true rfl) dX5_goes_400 (fun H locs hP hz ho hS => ?_)
                            have hM := s_ce (i := 0) hM (by omega) hP ho hf
                            exact jn151 H _ ls hM hS (lv_sub hl [1, 2, 3, 4, 5, 6, 7, 8, 9, 10] rfl)
                          refine lv_if_eq (tgt := 378) hx hb dX5_goes_368 (by decide) (fun c233 => ?_) (fun c233 => ?_)
                          · skip
                            refine lv_iload hx hb dX5_goes_378 (lv_at hl 0 rfl) ?_
                            exact jn205 v173 H _ ls hM hS (lv_sub hl [0, 1, 2, 3, 4, 5, 6, 7, 8, 9, 10] rfl)
                          · skip
                            refine lv_iconst (v := 2) hx hb dX5_goes_371 (by decide) ?_
                            refine lv_iload hx hb dX5_goes_372 (lv_at hl 0 rfl) ?_
                            refine lv_imul hx hb dX5_goes_374 ?_
                            refine lv_topi (fun v234 e235 => ?_)
                            refine lv_goto (tgt := 380) hx hb dX5_goes_375 (by decide) ?_
                            exact jn205 v234 H _ ls hM hS (lv_sub hl [0, 1, 2, 3, 4, 5, 6, 7, 8, 9, 10] rfl)
                        · skip
                          refine lv_goto (tgt := 403) hx hb dX5_goes_315 (by decide) ?_
                          exact jn151 H _ ls hM hS (lv_sub hl [0, 1, 2, 3, 4, 5, 6, 7, 8, 9] rfl)
                  exact lp137 (8 + 1) 0 (by omega) (by omega) (by omega) H _ ls  hM hS (lv_sub hl [0, 1, 2, 3, 4, 5, 6, 7, 8, 9] rfl)
            exact lp130 (6 + 1) 0 (by omega) (by omega) (by omega) H _ ls  hM hS (lv_sub hl [0, 1, 2, 3, 4, 5, 6, 7, 8] rfl)
          · skip
            have k236 : ¬ (6 ≤ j72) := fun z => c82 ((nI_leI (a := 6) (b := j72) (by omega) (by omega)).mpr z)
            refine lv_iconst (v := 0) hx hb dX5_goes_107 (by decide) ?_
            refine lv_istore (lv' := [(8, .int 0), (7, .int (nI j72)), (6, .int x69), (5, .int x59), (4, .int (pI g2 ((pO g2 (pF g2 mo 0) (j44 / 24)).getD 0) 2)), (3, .int (nI (j18 % 24))), (2, .ref q1), (0, .ref o), (1, .int wm)]) hx hb dX5_goes_108 hl (by decide) rfl (fun ls hl => ?_)
            have lp239 : ∀ (n240 j237 : Nat) (g238 : Gh) , 0 ≤ j237 → j237 ≤ 8 → 8 < j237 + n240 → ∀ (H : Heap) (locs : List Loc) (ls : Array Slot), (Ext me X0 g g238) → (GOK g238) → (tg g238 q1 = 38) → (FI g g238 o q1) → TM (dC, dI) kA b g238 H → va_S (fun q => b ≤ q) s.heap H locs → lv_has ls 11 [(8, .int (nI j237)), (7, .int (nI j72)), (6, .int x69), (5, .int x59), (4, .int (pI g2 ((pO g2 (pF g2 mo 0) (j44 / 24)).getD 0) 2)), (3, .int (nI (j18 % 24))), (2, .ref q1), (0, .ref o), (1, .int wm)] → W p l e (headSpec wsX5_goes ({ frames := 7, cells := 700, slots := 5400, locals := 165 })).room s m args below meth c H locs 7 54 Q (F0 m 110 ls []) := by
              intro n240
              induction n240 with
              | zero => intro j237 g238 h0 h1 h2; omega
              | succ n240 ih241 =>
                intro j237 g238 lj237 hj237 hn240 H locs ls hx242 hG ht243 hi244 hM hS hl
                have ht245 : tg g238 o = 28 + 64 * i := hx242.tk hto (by omega)
                have ht246 : tg g238 mo = 17 := hx242.tk hmo (by omega)
                refine lv_iload hx hb dX5_goes_110 (lv_at hl 0 rfl) ?_
                refine lv_bipush (v := 8) hx hb dX5_goes_112 (by decide) ?_
                refine lv_icmp_ge (tgt := 258) hx hb dX5_goes_114 (by decide) (fun c247 => ?_) (fun c247 => ?_)
                · skip
                  have k248 : 8 ≤ j237 := (nI_leI (a := 8) (b := j237) (by omega) (by omega)).mp c247
                  refine lv_iinc (v := (nI (j72 + 1))) (lv' := [(7, .int (nI (j72 + 1))), (8, .int (nI j237)), (6, .int x69), (5, .int x59), (4, .int (pI g2 ((pO g2 (pF g2 mo 0) (j44 / 24)).getD 0) 2)), (3, .int (nI (j18 % 24))), (2, .ref q1), (0, .ref o), (1, .int wm)]) hx hb dX5_goes_258 hl (k := 1) rfl (nI_add j72 1) (by decide) rfl (fun ls hl => ?_)
                  refine lv_goto (tgt := 100) hx hb dX5_goes_261 (by decide) ?_
                  exact ih76 ((j72 + 1)) g238 (by omega) (by omega) (by omega) H _ ls hx242 hG ht243 hi244 hM hS (lv_sub hl [0, 2, 3, 4, 5, 6, 7, 8] rfl)
                · skip
                  have k249 : ¬ (8 ≤ j237) := fun z => c247 ((nI_leI (a := 8) (b := j237) (by omega) (by omega)).mpr z)
                  refine lv_aload_n hx hb dX5_goes_117 rfl (lv_at hl 7 rfl) ?_
                  refine lv_iload hx hb dX5_goes_118 (lv_at hl 0 rfl) ?_
                  refine lv_iload hx hb dX5_goes_120 (lv_at hl 1 rfl) ?_
                  obtain ⟨u250, u251, u252, u253, u254, u255, hP, hf⟩ := o_ms (i := i) (q := o) hM (by omega)
                  refine va_calli (va_runV (As := [.int (nI j237), .int (nI j72)]) (rest := []) ⟨hx, hb, hml, hown, hts⟩ (rm_has l dC dI kA eD b g238 o i (nI j237) (nI j72) (by omega)) (cwV 2 hts gX5_goes_X5_has rfl rfl rfl (by decide +kernel) ⟨Nat.le_of_ble_eq_true rfl, Nat.le_of_ble_eq_true rfl⟩) ⟨fb_CX, va_recv hK hP (ci := 9) (q0 := 0) rfl rfl, fun U hU hW => ⟨rfl, CX.give hb0 hM hK hG hE hS hU hW⟩⟩ rfl rfl hl.1 rfl (lv_room (Nat.le_of_ble_eq_true rfl)) dX5_goes_122 ⟨(Nat.le_of_ble_eq_true rfl), (Nat.le_of_ble_eq_true rfl)⟩) hS (fun q _ h => h) (fun q h => h) (fun r256 u t H locs ht hvm hw257 hB hz1 hk1 hS => ?_)
                  have hM := hB.back ht
                  have hG := hB.2.2.2.1
                  refine lv_if_ne (tgt := 131) hx hb dX5_goes_125 (by decide) (fun c258 => ?_) (fun c258 => ?_)
                  · skip
                    obtain ⟨-, jx259, jy260, cl261, hp262, hp263, hj264, hj265, hc266⟩ := hw257.resolve_left c258
                    have ej267 : jx259 = j237 := ((nI_eq (a := j237) (b := jx259) (by omega) (by omega)).mp hp262).symm
                    rw [ej267] at hc266
                    have ej268 : jy260 = j72 := ((nI_eq (a := j72) (b := jy260) (by omega) (by omega)).mp hp263).symm
                    rw [ej268] at hc266
                    refine lv_aload_n hx hb dX5_goes_131 rfl (lv_at hl 7 rfl) ?_
                    obtain ⟨u269, u270, u271, u272, u273, u274, hP, hf⟩ := o_ms (i := i) (q := o) hM (by omega)
                    refine va_get (D := (dC, dI)) (ci := 9) (v := .ref (pF g238 o 0)) (C := RX5) (T := TX5) (N := 10) hx hb hts (by decide +kernel) hown hK hP 0 rfl rfl 0 (by decide) (hts (.fieldLink RX5 17 "SnowpalaceModel$Site" "cells" "[[LSnowpalaceModel$Cell;") (by decide +kernel)) (fun _ h9 => h9) rfl dX5_goes_132 ?_
                    have ht275 : tg g238 (pF g238 o 0) = 29 + 64 * i := hf.1
                    refine lv_iload hx hb dX5_goes_135 (lv_at hl 1 rfl) ?_
                    obtain ⟨hP, hf⟩ := o_co (i := i) (q := (pF g238 o 0)) hM (by omega)
                    have ec : ((nI j72) : Int32).toNatClampNeg = j72 := nI_clamp (by omega)
                    refine rt_aldA (D := (dC, dI)) (t0 := 9) hx hb hK hP rfl (vp_in_nI (by omega) (by decide)) (y := (pF g238 (pF g238 o 0) j72)) ((congrArg (fun z => if z < 6 then some (pF g238 (pF g238 o 0) z) else none) ec).trans (if_pos (by omega))) dX5_goes_137 ?_
                    have ht276 : tg g238 (pF g238 (pF g238 o 0) j72) = 30 + 64 * (8 * i + j72) := (hf j72 (by omega))
                    refine lv_iload hx hb dX5_goes_138 (lv_at hl 0 rfl) ?_
                    obtain ⟨hP, hf⟩ := o_cr (i := (8 * i + j72)) (q := (pF g238 (pF g238 o 0) j72)) hM (by omega)
                    refine va_aldq (D := (dC, dI)) hx hb hK hP 0 8 rfl rfl (vp_in_nI (by omega) (by decide)) dX5_goes_140 ?_
                    have ec : ((nI j237) : Int32).toNatClampNeg = j237 := nI_clamp (by omega)
                    rw [ec]
                    have hq277 := hf j237 (by omega)
                    rw [hc266]
                    have ht278 : tg g238 cl261 = 31 := hq277 cl261 hc266
                    refine lv_dup hx hb dX5_goes_141 rfl ?_
                    obtain ⟨u279, u280, u281, u282, u283, hP, hf⟩ := o_ce (i := 0) (q := cl261) hM (by omega)
                    refine va_getN (D := (dC, dI)) (ci := 8) (v := .int u280) (C := RX4) (T := TX4) (N := 5) hx hb hts (by decide +kernel) hown hK hP 0 rfl rfl 1 (by decide) (hN (.fieldLinkNest RX5 53 "SnowpalaceModel$Cell" "mass" "I" RX6) (by decide +kernel)) (fun _ h9 => h9) rfl dX5_goes_142 ?_
                    refine lv_iload hx hb dX5_goes_145 (lv_at hl 3 rfl) ?_
                    have jn285 : ∀ (x284 : Int32) (H : Heap) (locs : List Loc) (ls : Array Slot), TM (dC, dI) kA b g238 H → va_S (fun q => b ≤ q) s.heap H locs → lv_has ls 11 [(8, .int (nI j237)), (7, .int (nI j72)), (6, .int x69), (5, .int x59), (4, .int (pI g2 ((pO g2 (pF g2 mo 0) (j44 / 24)).getD 0) 2)), (3, .int (nI (j18 % 24))), (2, .ref q1), (0, .ref o), (1, .int wm)] → W p l e (headSpec wsX5_goes ({ frames := 7, cells := 700, slots := 5400, locals := 165 })).room s m args below meth c H locs 7 54 Q (F0 m 174 ls [.int x284, .int u280, .ref cl261]) := by
                      intro x284 H locs ls hM hS hl
                      refine lv_isub hx hb dX5_goes_174 ?_
                      refine lv_topi (fun v286 e287 => ?_)
                      obtain ⟨u288, u289, u290, u291, u292, hP, hf⟩ := o_ce (i := 0) (q := cl261) hM (by omega)
                      refine rt_putN (D := (dC, dI)) (ci := 8) (v := .int v286) (ty := .int) (C := RX4) (T := TX4) (N := 5) hx hb hts (by decide +kernel) tyX4 tyX4_ok nmX4 hown hK hP (hM.ge (by omega)) hS rfl 1 (by decide) (hN (.fieldLinkNest RX5 53 "SnowpalaceModel$Cell" "mass" "I" RX6) (by decide +kernel)) (fun _ h9 => h9) rfl (by decide +kernel) rfl rfl (Nat.le_of_ble_eq_true rfl) dX5_goes_175 (fun H locs hP hz ho hS => ?_)
                      have hM := s_ce (i := 0) hM (by omega) hP ho hf
                      refine lv_aload_n hx hb dX5_goes_178 rfl (lv_at hl 7 rfl) ?_
                      obtain ⟨u293, u294, u295, u296, u297, u298, hP, hf⟩ := o_ms (i := i) (q := o) hM (by omega)
                      refine va_get (D := (dC, dI)) (ci := 9) (v := .ref (pF g238 o 0)) (C := RX5) (T := TX5) (N := 10) hx hb hts (by decide +kernel) hown hK hP 0 rfl rfl 0 (by decide) (hts (.fieldLink RX5 17 "SnowpalaceModel$Site" "cells" "[[LSnowpalaceModel$Cell;") (by decide +kernel)) (fun _ h9 => h9) rfl dX5_goes_179 ?_
                      refine lv_iload hx hb dX5_goes_182 (lv_at hl 1 rfl) ?_
                      obtain ⟨hP, hf⟩ := o_co (i := i) (q := (pF g238 o 0)) hM (by omega)
                      have ec : ((nI j72) : Int32).toNatClampNeg = j72 := nI_clamp (by omega)
                      refine rt_aldA (D := (dC, dI)) (t0 := 9) hx hb hK hP rfl (vp_in_nI (by omega) (by decide)) (y := (pF g238 (pF g238 o 0) j72)) ((congrArg (fun z => if z < 6 then some (pF g238 (pF g238 o 0) z) else none) ec).trans (if_pos (by omega))) dX5_goes_184 ?_
                      have ht299 : tg g238 (pF g238 (pF g238 o 0) j72) = 30 + 64 * (8 * i + j72) := (hf j72 (by omega))
                      refine lv_iload hx hb dX5_goes_185 (lv_at hl 0 rfl) ?_
                      obtain ⟨hP, hf⟩ := o_cr (i := (8 * i + j72)) (q := (pF g238 (pF g238 o 0) j72)) hM (by omega)
                      refine va_aldq (D := (dC, dI)) hx hb hK hP 0 8 rfl rfl (vp_in_nI (by omega) (by decide)) dX5_goes_187 ?_
                      have ec : ((nI j237) : Int32).toNatClampNeg = j237 := nI_clamp (by omega)
                      rw [ec]
                      have hq300 := hf j237 (by omega)
                      rw [hc266]
                      refine lv_dup hx hb dX5_goes_188 rfl ?_
                      obtain ⟨u301, u302, u303, u304, u305, hP, hf⟩ := o_ce (i := 0) (q := cl261) hM (by omega)
                      refine va_getN (D := (dC, dI)) (ci := 8) (v := .int u302) (C := RX4) (T := TX4) (N := 5) hx hb hts (by decide +kernel) hown hK hP 0 rfl rfl 1 (by decide) (hN (.fieldLinkNest RX5 53 "SnowpalaceModel$Cell" "mass" "I" RX6) (by decide +kernel)) (fun _ h9 => h9) rfl dX5_goes_189 ?_
                      refine lv_iload hx hb dX5_goes_192 (lv_at hl 2 rfl) ?_
                      have jn307 : ∀ (x306 : Int32) (H : Heap) (locs : List Loc) (ls : Array Slot), TM (dC, dI) kA b g238 H → va_S (fun q => b ≤ q) s.heap H locs → lv_has ls 11 [(8, .int (nI j237)), (7, .int (nI j72)), (6, .int x69), (5, .int x59), (4, .int (pI g2 ((pO g2 (pF g2 mo 0) (j44 / 24)).getD 0) 2)), (3, .int (nI (j18 % 24))), (2, .ref q1), (0, .ref o), (1, .int wm)] → W p l e (headSpec wsX5_goes ({ frames := 7, cells := 700, slots := 5400, locals := 165 })).room s m args below meth c H locs 7 54 Q (F0 m 218 ls [.int x306, .int u302, .ref cl261]) := by
                        intro x306 H locs ls hM hS hl
                        refine lv_isub hx hb dX5_goes_218 ?_
                        refine lv_topi (fun v308 e309 => ?_)
                        obtain ⟨u310, u311, u312, u313, u314, hP, hf⟩ := o_ce (i := 0) (q := cl261) hM (by omega)
                        refine rt_putN (D := (dC, dI)) (ci := 8) (v := .int v308) (ty := .int) (C := RX4) (T := TX4) (N := 5) hx hb hts (by decide +kernel) tyX4 tyX4_ok nmX4 hown hK hP (hM.ge (by omega)) hS rfl 1 (by decide) (hN (.fieldLinkNest RX5 53 "SnowpalaceModel$Cell" "mass" "I" RX6) (by decide +kernel)) (fun _ h9 => h9) rfl (by decide +kernel) rfl rfl (Nat.le_of_ble_eq_true rfl) dX5_goes_219 (fun H locs hP hz ho hS => ?_)
                        have hM := s_ce (i := 0) hM (by omega) hP ho hf
                        refine lv_aload_n hx hb dX5_goes_222 rfl (lv_at hl 6 rfl) ?_
                        refine lv_iload hx hb dX5_goes_223 (lv_at hl 1 rfl) ?_
                        obtain ⟨hP, hf⟩ := o_ft (i := 0) (q := q1) hM (by omega)
                        have ec : ((nI j72) : Int32).toNatClampNeg = j72 := nI_clamp (by omega)
                        refine rt_aldA (D := (dC, dI)) (t0 := 7) hx hb hK hP rfl (vp_in_nI (by omega) (by decide)) (y := (pF g238 q1 j72)) ((congrArg (fun z => if z < 6 then some (pF g238 q1 z) else none) ec).trans (if_pos (by omega))) dX5_goes_225 ?_
                        have ht315 : tg g238 (pF g238 q1 j72) = 39 + 64 * j72 := (hf j72 (by omega))
                        refine lv_iload hx hb dX5_goes_226 (lv_at hl 0 rfl) ?_
                        refine lv_aload_n hx hb dX5_goes_228 rfl (lv_at hl 7 rfl) ?_
                        obtain ⟨u316, u317, u318, u319, u320, u321, hP, hf⟩ := o_ms (i := i) (q := o) hM (by omega)
                        refine va_get (D := (dC, dI)) (ci := 9) (v := .ref (pF g238 o 0)) (C := RX5) (T := TX5) (N := 10) hx hb hts (by decide +kernel) hown hK hP 0 rfl rfl 0 (by decide) (hts (.fieldLink RX5 17 "SnowpalaceModel$Site" "cells" "[[LSnowpalaceModel$Cell;") (by decide +kernel)) (fun _ h9 => h9) rfl dX5_goes_229 ?_
                        refine lv_iload hx hb dX5_goes_232 (lv_at hl 1 rfl) ?_
                        obtain ⟨hP, hf⟩ := o_co (i := i) (q := (pF g238 o 0)) hM (by omega)
                        have ec : ((nI j72) : Int32).toNatClampNeg = j72 := nI_clamp (by omega)
                        refine rt_aldA (D := (dC, dI)) (t0 := 9) hx hb hK hP rfl (vp_in_nI (by omega) (by decide)) (y := (pF g238 (pF g238 o 0) j72)) ((congrArg (fun z => if z < 6 then some (pF g238 (pF g238 o 0) z) else none) ec).trans (if_pos (by omega))) dX5_goes_234 ?_
                        have ht322 : tg g238 (pF g238 (pF g238 o 0) j72) = 30 + 64 * (8 * i + j72) := (hf j72 (by omega))
                        refine lv_iload hx hb dX5_goes_235 (lv_at hl 0 rfl) ?_
                        obtain ⟨hP, hf⟩ := o_cr (i := (8 * i + j72)) (q := (pF g238 (pF g238 o 0) j72)) hM (by omega)
                        refine va_aldq (D := (dC, dI)) hx hb hK hP 0 8 rfl rfl (vp_in_nI (by omega) (by decide)) dX5_goes_237 ?_
                        have ec : ((nI j237) : Int32).toNatClampNeg = j237 := nI_clamp (by omega)
                        rw [ec]
                        have hq323 := hf j237 (by omega)
                        rw [hc266]
                        obtain ⟨u324, u325, u326, u327, u328, hP, hf⟩ := o_ce (i := 0) (q := cl261) hM (by omega)
                        refine va_getN (D := (dC, dI)) (ci := 8) (v := .int u325) (C := RX4) (T := TX4) (N := 5) hx hb hts (by decide +kernel) hown hK hP 0 rfl rfl 1 (by decide) (hN (.fieldLinkNest RX5 53 "SnowpalaceModel$Cell" "mass" "I" RX6) (by decide +kernel)) (fun _ h9 => h9) rfl dX5_goes_238 ?_
                        refine lv_bipush (v := 100) hx hb dX5_goes_241 (by decide) ?_
                        have jn330 : ∀ (x329 : Int32) (H : Heap) (locs : List Loc) (ls : Array Slot), (x329 = 0 ∨ x329 = 1) → TM (dC, dI) kA b g238 H → va_S (fun q => b ≤ q) s.heap H locs → lv_has ls 11 [(8, .int (nI j237)), (7, .int (nI j72)), (6, .int x69), (5, .int x59), (4, .int (pI g2 ((pO g2 (pF g2 mo 0) (j44 / 24)).getD 0) 2)), (3, .int (nI (j18 % 24))), (2, .ref q1), (0, .ref o), (1, .int wm)] → W p l e (headSpec wsX5_goes ({ frames := 7, cells := 700, slots := 5400, locals := 165 })).room s m args below meth c H locs 7 54 Q (F0 m 251 ls [.int x329, .int (nI j237), .ref (pF g238 q1 j72)]) := by
                          intro x329 H locs ls hj331 hM hS hl
                          obtain ⟨hP, hf⟩ := o_fr (i := j72) (q := (pF g238 q1 j72)) hM (by omega)
                          refine rt_zast (D := (dC, dI)) (t0 := 1) hx hb hK hP (hM.ge (by omega)) hS rfl (vp_in_nI (by omega) (by decide)) dX5_goes_251 (fun H locs hP hz ho hS => ?_)
                          have ec : ((nI j237) : Int32).toNatClampNeg = j237 := nI_clamp (by omega)
                          rw [ec] at hP
                          have hM0 := hM
                          have hM := p_fr (i := j72) (f := upd (pI g238 (pF g238 q1 j72)) j237 (vp_nar .boolean x329)) hM (by omega) hP ho trivial
                          obtain ⟨g332, hg332⟩ : ∃ z, z = uI g238 (pF g238 q1 j72) (upd (pI g238 (pF g238 q1 j72)) j237 (vp_nar .boolean x329)) := ⟨_, rfl⟩
                          rw [← hg332] at hM
                          have ht333 : tg g332 o = 28 + 64 * i := by rw [hg332]; exact ht245
                          have ht334 : tg g332 mo = 17 := by rw [hg332]; exact ht246
                          have ht335 : tg g332 q1 = 38 := by rw [hg332]; exact ht243
                          have ht336 : tg g332 (pF g238 o 0) = 29 + 64 * i := by rw [hg332]; exact ht275
                          have ht337 : tg g332 (pF g238 (pF g238 o 0) j72) = 30 + 64 * (8 * i + j72) := by rw [hg332]; exact ht322
                          have ht338 : tg g332 cl261 = 31 := by rw [hg332]; exact ht278
                          have ht339 : tg g332 (pF g238 q1 j72) = 39 + 64 * j72 := by rw [hg332]; exact ht315
                          have hG : GOK g332 := by rw [hg332]; exact (hG.uI hM0 (Or.inl (by omega)))
                          have hx341 : Ext me X0 g g332 := by rw [hg332]; exact (hx242).newI (by rw [hi244.1]; exact hz0 _ (by omega))
                          have hi342 : FI g g332 o q1 := by rw [hg332]; exact hi244.step (Or.inr ⟨cl261, by rw [← row_ext hx242 hto hgt.1 (hgt.2 j72 (by omega)) (fun z => z)]; exact hc266⟩)
                          refine lv_iinc (v := (nI (j237 + 1))) (lv' := [(8, .int (nI (j237 + 1))), (7, .int (nI j72)), (6, .int x69), (5, .int x59), (4, .int (pI g2 ((pO g2 (pF g2 mo 0) (j44 / 24)).getD 0) 2)), (3, .int (nI (j18 % 24))), (2, .ref q1), (0, .ref o), (1, .int wm)]) hx hb dX5_goes_252 hl (k := 0) rfl (nI_add j237 1) (by decide) rfl (fun ls hl => ?_)
                          refine lv_goto (tgt := 110) hx hb dX5_goes_255 (by decide) ?_
                          exact ih241 ((j237 + 1)) g332 (by omega) (by omega) (by omega) H _ ls hx341 hG ht335 hi342 hM hS (lv_sub hl [0, 1, 2, 3, 4, 5, 6, 7, 8] rfl)
                        refine lv_icmp_gt (tgt := 250) hx hb dX5_goes_243 (by decide) (fun c343 => ?_) (fun c343 => ?_)
                        · skip
                          have i344 := (Int32.lt_iff_toInt_lt).mp c343
                          have ii344 : (100 : Int32).toInt = 100 := by decide
                          have i344 := i344
                          refine lv_iconst (v := 0) hx hb dX5_goes_250 (by decide) ?_
                          exact jn330 0 H _ ls (Or.inl rfl) hM hS (lv_sub hl [0, 1, 2, 3, 4, 5, 6, 7, 8] rfl)
                        · skip
                          have i345 := fun z => c343 ((Int32.lt_iff_toInt_lt).mpr z)
                          have ii345 : (100 : Int32).toInt = 100 := by decide
                          have i345 : ¬ ((100 : Int32).toInt < (u325 : Int32).toInt) := i345
                          refine lv_iconst (v := 1) hx hb dX5_goes_246 (by decide) ?_
                          refine lv_goto (tgt := 251) hx hb dX5_goes_247 (by decide) ?_
                          exact jn330 1 H _ ls (Or.inr rfl) hM hS (lv_sub hl [0, 1, 2, 3, 4, 5, 6, 7, 8] rfl)
                      refine lv_if_eq (tgt := 217) hx hb dX5_goes_194 (by decide) (fun c346 => ?_) (fun c346 => ?_)
                      · skip
                        refine lv_iconst (v := 0) hx hb dX5_goes_217 (by decide) ?_
                        exact jn307 0 H _ ls hM hS (lv_sub hl [0, 1, 2, 3, 4, 5, 6, 7, 8] rfl)
                      · skip
                        refine lv_aload_n hx hb dX5_goes_197 rfl (lv_at hl 7 rfl) ?_
                        refine lv_iload hx hb dX5_goes_198 (lv_at hl 0 rfl) ?_
                        refine lv_iconst (v := 1) hx hb dX5_goes_200 (by decide) ?_
                        refine lv_isub hx hb dX5_goes_201 ?_
                        refine lv_topi (fun v347 e348 => ?_)
                        have tv347 : (v347 : Int32).toInt = ((j237 : Nat) : Int) - ((1 : Nat) : Int) := by rw [e348]; exact pk_sub_toInt (a := j237) (b := 1) (by omega) (by omega)
                        refine lv_iload hx hb dX5_goes_202 (lv_at hl 1 rfl) ?_
                        obtain ⟨u349, u350, u351, u352, u353, u354, hP, hf⟩ := o_ms (i := i) (q := o) hM (by omega)
                        refine va_calli (va_runV (As := [.int v347, .int (nI j72)]) (rest := [.int u302, .ref cl261]) ⟨hx, hb, hml, hown, hts⟩ (rm_has l dC dI kA eD b g238 o i v347 (nI j72) (by omega)) (cwV 2 hts gX5_goes_X5_has rfl rfl rfl (by decide +kernel) ⟨Nat.le_of_ble_eq_true rfl, Nat.le_of_ble_eq_true rfl⟩) ⟨fb_CX, va_recv hK hP (ci := 9) (q0 := 0) rfl rfl, fun U hU hW => ⟨rfl, CX.give hb0 hM hK hG hE hS hU hW⟩⟩ rfl rfl hl.1 rfl (lv_room (Nat.le_of_ble_eq_true rfl)) dX5_goes_204 ⟨(Nat.le_of_ble_eq_true rfl), (Nat.le_of_ble_eq_true rfl)⟩) hS (fun q _ h => h) (fun q h => h) (fun r355 u t H locs ht hvm hw356 hB hz1 hk1 hS => ?_)
                        have hM := hB.back ht
                        have hG := hB.2.2.2.1
                        refine lv_if_ne (tgt := 217) hx hb dX5_goes_207 (by decide) (fun c357 => ?_) (fun c357 => ?_)
                        · skip
                          obtain ⟨-, jx358, jy359, cl360, hp361, hp362, hj363, hj364, hc365⟩ := hw356.resolve_left c357
                          have ihp361 : (v347 : Int32).toInt = ((jx358 : Nat) : Int) := by rw [hp361]; exact nI_toInt (by omega)
                          have ej366 : jy359 = j72 := ((nI_eq (a := j72) (b := jy359) (by omega) (by omega)).mp hp362).symm
                          rw [ej366] at hc365
                          refine lv_iconst (v := 0) hx hb dX5_goes_217 (by decide) ?_
                          exact jn307 0 H _ ls hM hS (lv_sub hl [0, 1, 2, 3, 4, 5, 6, 7, 8] rfl)
                        · skip
                          refine lv_iload hx hb dX5_goes_210 (lv_at hl 4 rfl) ?_
                          refine lv_iconst (v := 5) hx hb dX5_goes_212 (by decide) ?_
                          refine lv_idiv hx hb dX5_goes_213 (by decide) ?_
                          refine lv_topi (fun v367 e368 => ?_)
                          refine lv_goto (tgt := 218) hx hb dX5_goes_214 (by decide) ?_
                          exact jn307 v367 H _ ls hM hS (lv_sub hl [0, 1, 2, 3, 4, 5, 6, 7, 8] rfl)
                    refine lv_if_eq (tgt := 173) hx hb dX5_goes_147 (by decide) (fun c369 => ?_) (fun c369 => ?_)
                    · skip
                      refine lv_iconst (v := 0) hx hb dX5_goes_173 (by decide) ?_
                      exact jn285 0 H _ ls hM hS (lv_sub hl [0, 1, 2, 3, 4, 5, 6, 7, 8] rfl)
                    · skip
                      refine lv_aload_n hx hb dX5_goes_150 rfl (lv_at hl 7 rfl) ?_
                      refine lv_iload hx hb dX5_goes_151 (lv_at hl 0 rfl) ?_
                      refine lv_iconst (v := 1) hx hb dX5_goes_153 (by decide) ?_
                      refine lv_iadd hx hb dX5_goes_154 ?_
                      refine lv_topi (fun v370 e371 => ?_)
                      obtain rfl : v370 = nI (j237 + 1) := e371.trans (nI_add j237 1)
                      refine lv_iload hx hb dX5_goes_155 (lv_at hl 1 rfl) ?_
                      obtain ⟨u372, u373, u374, u375, u376, u377, hP, hf⟩ := o_ms (i := i) (q := o) hM (by omega)
                      refine va_calli (va_runV (As := [.int (nI (j237 + 1)), .int (nI j72)]) (rest := [.int u280, .ref cl261]) ⟨hx, hb, hml, hown, hts⟩ (rm_has l dC dI kA eD b g238 o i (nI (j237 + 1)) (nI j72) (by omega)) (cwV 2 hts gX5_goes_X5_has rfl rfl rfl (by decide +kernel) ⟨Nat.le_of_ble_eq_true rfl, Nat.le_of_ble_eq_true rfl⟩) ⟨fb_CX, va_recv hK hP (ci := 9) (q0 := 0) rfl rfl, fun U hU hW => ⟨rfl, CX.give hb0 hM hK hG hE hS hU hW⟩⟩ rfl rfl hl.1 rfl (lv_room (Nat.le_of_ble_eq_true rfl)) dX5_goes_157 ⟨(Nat.le_of_ble_eq_true rfl), (Nat.le_of_ble_eq_true rfl)⟩) hS (fun q _ h => h) (fun q h => h) (fun r378 u t H locs ht hvm hw379 hB hz1 hk1 hS => ?_)
                      have hM := hB.back ht
                      have hG := hB.2.2.2.1
                      refine lv_if_ne (tgt := 173) hx hb dX5_goes_160 (by decide) (fun c380 => ?_) (fun c380 => ?_)
                      · skip
                        obtain ⟨-, jx381, jy382, cl383, hp384, hp385, hj386, hj387, hc388⟩ := hw379.resolve_left c380
                        have ej389 : jx381 = (j237 + 1) := ((nI_eq (a := (j237 + 1)) (b := jx381) (by omega) (by omega)).mp hp384).symm
                        rw [ej389] at hc388
                        have ej390 : jy382 = j72 := ((nI_eq (a := j72) (b := jy382) (by omega) (by omega)).mp hp385).symm
                        rw [ej390] at hc388
                        refine lv_iconst (v := 0) hx hb dX5_goes_173 (by decide) ?_
                        exact jn285 0 H _ ls hM hS (lv_sub hl [0, 1, 2, 3, 4, 5, 6, 7, 8] rfl)
                      · skip
                        refine lv_iload_n hx hb dX5_goes_163 rfl (lv_at hl 8 rfl) ?_
                        refine lv_bipush (v := 100) hx hb dX5_goes_164 (by decide) ?_
                        refine lv_iadd hx hb dX5_goes_166 ?_
                        refine lv_topi (fun v391 e392 => ?_)
                        refine lv_bipush (v := 20) hx hb dX5_goes_167 (by decide) ?_
                        refine lv_idiv hx hb dX5_goes_169 (by decide) ?_
                        refine lv_topi (fun v393 e394 => ?_)
                        refine lv_goto (tgt := 174) hx hb dX5_goes_170 (by decide) ?_
                        exact jn285 v393 H _ ls hM hS (lv_sub hl [0, 1, 2, 3, 4, 5, 6, 7, 8] rfl)
                  · skip
                    refine lv_goto (tgt := 252) hx hb dX5_goes_128 (by decide) ?_
                    refine lv_iinc (v := (nI (j237 + 1))) (lv' := [(8, .int (nI (j237 + 1))), (7, .int (nI j72)), (6, .int x69), (5, .int x59), (4, .int (pI g2 ((pO g2 (pF g2 mo 0) (j44 / 24)).getD 0) 2)), (3, .int (nI (j18 % 24))), (2, .ref q1), (0, .ref o), (1, .int wm)]) hx hb dX5_goes_252 hl (k := 0) rfl (nI_add j237 1) (by decide) rfl (fun ls hl => ?_)
                    refine lv_goto (tgt := 110) hx hb dX5_goes_255 (by decide) ?_
                    exact ih241 ((j237 + 1)) g238 (by omega) (by omega) (by omega) H _ ls hx242 hG ht243 hi244 hM hS (lv_sub hl [0, 1, 2, 3, 4, 5, 6, 7, 8] rfl)
            exact lp239 (8 + 1) 0 g73 (by omega) (by omega) (by omega) H _ ls hx77 hG ht78 hi79 hM hS (lv_sub hl [0, 1, 2, 3, 4, 5, 6, 7, 8] rfl)
      exact lp74 (6 + 1) 0 g2 (by omega) (by omega) (by omega) H _ ls hx3 hG ht6 hFI hM hS (lv_sub hl [0, 1, 2, 3, 4, 5, 6, 7] rfl)
    refine lv_if_ne (tgt := 94) hx hb dX5_goes_80 (by decide) (fun c395 => ?_) (fun c395 => ?_)
    · skip
      refine lv_iconst (v := 0) hx hb dX5_goes_94 (by decide) ?_
      exact jn70 0 H _ ls (Or.inl rfl) hM hS (lv_sub hl [0, 1, 2, 3, 4, 5] rfl)
    · skip
      refine lv_iload hx hb dX5_goes_83 (lv_at hl 1 rfl) ?_
      refine lv_bipush (v := 10) hx hb dX5_goes_85 (by decide) ?_
      refine lv_icmp_lt (tgt := 94) hx hb dX5_goes_87 (by decide) (fun c396 => ?_) (fun c396 => ?_)
      · skip
        have i397 := (Int32.lt_iff_toInt_lt).mp c396
        have ii397 : (10 : Int32).toInt = 10 := by decide
        have i397 := i397
        refine lv_iconst (v := 0) hx hb dX5_goes_94 (by decide) ?_
        exact jn70 0 H _ ls (Or.inl rfl) hM hS (lv_sub hl [0, 1, 2, 3, 4, 5] rfl)
      · skip
        have i398 := fun z => c396 ((Int32.lt_iff_toInt_lt).mpr z)
        have ii398 : (10 : Int32).toInt = 10 := by decide
        have i398 : ¬ (((pI g2 ((pO g2 (pF g2 mo 0) (j44 / 24)).getD 0) 2) : Int32).toInt < (10 : Int32).toInt) := i398
        refine lv_iconst (v := 1) hx hb dX5_goes_90 (by decide) ?_
        refine lv_goto (tgt := 95) hx hb dX5_goes_91 (by decide) ?_
        exact jn70 1 H _ ls (Or.inr rfl) hM hS (lv_sub hl [0, 1, 2, 3, 4, 5] rfl)
  refine lv_if_ne (tgt := 73) hx hb dX5_goes_46 (by decide) (fun c399 => ?_) (fun c399 => ?_)
  · skip
    refine lv_iconst (v := 0) hx hb dX5_goes_73 (by decide) ?_
    exact jn60 0 H _ ls (Or.inl rfl) hM hS (lv_sub hl [0, 1, 2, 3, 4] rfl)
  · skip
    refine lv_iload_n hx hb dX5_goes_49 rfl (lv_at hl 1 rfl) ?_
    refine lv_i2l hx hb dX5_goes_50 rfl ?_
    refine lv_ldc2 hx hb hown (hts (.constantLong RX5 112 10) (by decide +kernel)) dX5_goes_51 ?_
    refine lv_ldc2 hx hb hown (hts (.constantLong RX5 114 14) (by decide +kernel)) dX5_goes_54 ?_
    refine va_calli (va_runSN (As := [.long ((nI (j18 % 24)).toInt64), .long 10, .long 14]) (rest := []) ⟨hx, hb, hml, hown, hts⟩ (rm_isBetween l ((nI (j18 % 24)).toInt64) 10 14 (((nI (j18 % 24)) : Int32).toInt) (10) (14) (Int32.toInt_toInt64 _) (by decide) (by decide)) (⟨va_cnB 3 hts gX5_goes_X6_isBetween_n31 rfl rfl rfl (hN (.methodLinkNest RX5 31 yX6_isBetween RX6) (by decide +kernel)) (hts (.initialized RX6) (by decide +kernel)) (by decide +kernel) ⟨Nat.le_of_ble_eq_true rfl, Nat.le_of_ble_eq_true rfl⟩, hts (.static yX6_isBetween) (by decide +kernel), trivial⟩) ⟨fun a U g mk q => q, fun U hU hW => ⟨rfl, trivial⟩⟩ rfl rfl hl.1 rfl (lv_room (Nat.le_of_ble_eq_true rfl)) dX5_goes_57 ⟨(Nat.le_of_ble_eq_true rfl), (Nat.le_of_ble_eq_true rfl)⟩) hS (fun q _ h => h.elim) (fun q h => h.elim) (fun r400 u t H locs ht hvm hw401 hB hz1 hk1 hS => ?_)
    have hM := hM.keep (fun p hp => hk1 p hp (fun z => z))
    have hw401 : r400 = bI ((10 : Int) ≤ ((nI (j18 % 24)) : Int32).toInt ∧ ((nI (j18 % 24)) : Int32).toInt ≤ (14 : Int)) := hw401
    have jn402 : ∀  (H : Heap) (locs : List Loc) (ls : Array Slot), TM (dC, dI) kA b g2 H → va_S (fun q => b ≤ q) s.heap H locs → lv_has ls 11 [(4, .int (pI g2 ((pO g2 (pF g2 mo 0) (j44 / 24)).getD 0) 2)), (3, .int (nI (j18 % 24))), (2, .ref q1), (0, .ref o), (1, .int wm)] → W p l e (headSpec wsX5_goes ({ frames := 7, cells := 700, slots := 5400, locals := 165 })).room s m args below meth c H locs 7 54 Q (F0 m 73 ls []) := by
      intro H locs ls hM hS hl
      refine lv_iconst (v := 0) hx hb dX5_goes_73 (by decide) ?_
      exact jn60 0 H _ ls (Or.inl rfl) hM hS (lv_sub hl [0, 1, 2, 3, 4] rfl)
    refine lv_if_eq (tgt := 73) hx hb dX5_goes_60 (by decide) (fun c403 => ?_) (fun c403 => ?_)
    · skip
      have g404 : ¬ ((10 : Int) ≤ ((nI (j18 % 24)) : Int32).toInt ∧ ((nI (j18 % 24)) : Int32).toInt ≤ (14 : Int)) := bI_f hw401 c403
      have zg404 : r400 = 0 := bI_f0 hw401 g404
      exact jn402 H _ ls hM hS (lv_sub hl [0, 1, 2, 3, 4] rfl)
    · skip
      have g405 : (10 : Int) ≤ ((nI (j18 % 24)) : Int32).toInt ∧ ((nI (j18 % 24)) : Int32).toInt ≤ (14 : Int) := bI_t hw401 c403
      have zg405 : r400 = 1 := bI_t1 hw401 g405
      refine lv_iload_n hx hb dX5_goes_63 rfl (lv_at hl 4 rfl) ?_
      refine lv_bipush (v := (-100)) hx hb dX5_goes_64 (by decide) ?_
      refine lv_icmp_le (tgt := 73) hx hb dX5_goes_66 (by decide) (fun c406 => ?_) (fun c406 => ?_)
      · skip
        have i407 := (Int32.le_iff_toInt_le).mp c406
        have ii407 : ((-100) : Int32).toInt = -100 := by decide
        have i407 := i407
        exact jn402 H _ ls hM hS (lv_sub hl [0, 1, 2, 3, 4] rfl)
      · skip
        have i408 := fun z => c406 ((Int32.le_iff_toInt_le).mpr z)
        have ii408 : ((-100) : Int32).toInt = -100 := by decide
        have i408 : ¬ ((wm : Int32).toInt ≤ ((-100) : Int32).toInt) := i408
        refine lv_iconst (v := 1) hx hb dX5_goes_69 (by decide) ?_
        refine lv_goto (tgt := 74) hx hb dX5_goes_70 (by decide) ?_
        exact jn60 1 H _ ls (Or.inr rfl) hM hS (lv_sub hl [0, 1, 2, 3, 4] rfl)
