set_option maxHeartbeats 4000000 in
set_option maxRecDepth 100000 in
theorem rf_squareBits (l : Launch) (hlt : l.stackTraces = false) (dC : Nat → ClassId) (dI : Nat → Nat → Nat) (kA : Nat → ClassId) (eD b : Nat) (g : Gh) (o : Nat) (dr : Int32) (le : Int32) (mat : Int32) (hto : tg g o = 1)  : vx_Met l yX3_squareBits wsX3_squareBits ({ frames := 6, cells := 1, slots := 6, locals := 82 }) (va_Pc [.ref o, .int dr, .int le, .int mat] (CX (dC, dI) kA eD b g)) (va_Ql (fun (r : Int64) (u : Unit) => ∃ j k, dr = nI j ∧ le = nI k ∧ (1 ≤ j ∧ j ≤ 20) ∧ (5 ≤ k ∧ k ≤ 60) ∧ r = sqR (sqw mat (wOf (pI g (pF g (pF g o 0) 0)) (pI g (pF g (pF g o 0) 1)) (pI g o 1))) j k) (fun (u : Unit) t => CX (dC, dI) kA eD b g t) (fun q => b ≤ q)) (vx_X (fun _ : Unit => True) (fun E _ t => ((E = "java/lang/IllegalArgumentException" ∧ ¬ ((1 ≤ dr.toInt ∧ dr.toInt ≤ 20) ∧ 5 ≤ le.toInt ∧ le.toInt ≤ 60))) ∧ TM (dC, dI) kA b g t.heap) (fun q => b ≤ q)) 1 6 (fun q => b ≤ q) := by
  refine vx_ofW (cc := cX3_squareBits) (maxL := 8) (ret := (some .long)) (by decide +kernel) rfl ?_
  intro p e s m args below meth c s₁ B hml hnt hv
  obtain ⟨rfl, hb0, hM, hK, hG, hE⟩ := hv
  have hx := B.exec
  have hb := B.bytes
  have hr := B.returns
  have hts := atoms_spec (ws := wsX3_squareBits) B.pre
  have hown : s.vm.findClass RX3 = some m.cls := findClass_of_methodNamed B.named
  have hlocks := B.notSynchronized
  have hT := hE.1
  have hN := hE.2.2.2.2.2.2.2.1
  have hS : va_S (fun q => b ≤ q) s.heap s.heap [] := va_S.rf
  have hl := lv_entry ([.ref o, .int dr, .int le, .int mat]) (n := 8) (Nat.le_of_ble_eq_true rfl)
  rw [lg_entry_eq]
  generalize (lg_sl ([.ref o, .int dr, .int le, .int mat]) ++ List.replicate (8 - (lg_sl ([.ref o, .int dr, .int le, .int mat])).length) Slot.unset).toArray = ls at hl ⊢
  have hl : lv_has ls 8 [(0, .ref o), (1, .int dr), (2, .int le), (3, .int mat)] := hl
  generalize ([.ref o, .int dr, .int le, .int mat] : List Value).toArray = args at hts ⊢
  refine lv_iload_n hx hb dX3_squareBits_0 rfl (lv_at hl 1 rfl) ?_
  refine lv_iconst (v := 1) hx hb dX3_squareBits_1 (by decide) ?_
  refine lv_bipush (v := 20) hx hb dX3_squareBits_2 (by decide) ?_
  refine va_calli (va_runS (As := [.int dr, .int 1, .int 20]) (rest := []) ⟨hx, hb, hml, hown, hts⟩ (rk_isWithin l dr 1 20 (1) (20) (by decide) (by decide)) (va_cwS 3 hts gX3_squareBits_X3_isWithin rfl rfl rfl (by decide +kernel) ⟨Nat.le_of_ble_eq_true rfl, Nat.le_of_ble_eq_true rfl⟩) ⟨fun a U g mk q => q, fun U hU hW => ⟨rfl, trivial⟩⟩ rfl rfl hl.1 rfl (lv_room (Nat.le_of_ble_eq_true rfl)) dX3_squareBits_4 ⟨(Nat.le_of_ble_eq_true rfl), (Nat.le_of_ble_eq_true rfl)⟩) hS (fun q _ h => h.elim) (fun q h => h.elim) (fun r1 u t H locs ht hvm hw2 hB hz1 hk1 hS => ?_)
  have hM := hM.keep (fun p hp => hk1 p hp (fun z => z))
  have hw2 : r1 = bI ((1 : Int) ≤ dr.toInt ∧ dr.toInt ≤ (20 : Int)) := hw2
  refine lv_if_eq (tgt := 20) hx hb dX3_squareBits_7 (by decide) (fun c3 => ?_) (fun c3 => ?_)
  · skip
    have g4 : ¬ ((1 : Int) ≤ dr.toInt ∧ dr.toInt ≤ (20 : Int)) := bI_f hw2 c3
    have zg4 : r1 = 0 := bI_f0 hw2 g4
    obtain ⟨sa, hsa⟩ := hT.2.1 (58, "a number is out of range") (by decide +kernel)
    exact vx_throwS (A := (fun q => b ≤ q)) (own := RX3) (cls := "java/lang/IllegalArgumentException") (text := "a number is out of range") (names := exN) hx hb hlt hown (by decide +kernel) (by decide +kernel) (hts (.classLink RX3 56 "java/lang/IllegalArgumentException") (by decide +kernel)) (hts (.initialized "java/lang/IllegalArgumentException") (by decide +kernel)) hsa (th_hat hT (fun w h => hts w (List.mem_cons_of_mem _ (List.mem_append_left _ (List.mem_append_right _ h)))) th_i1) (th_good th_i1) hT.2.2.2.1 hT.2.2.2.2 hS (hl.1.trans hml.symm) dX3_squareBits_20 dX3_squareBits_23 dX3_squareBits_24 dX3_squareBits_26 dX3_squareBits_29 (fun x h => (hnt x h).elim) (by decide) (Nat.le_of_ble_eq_true rfl) (Nat.le_of_ble_eq_true rfl) (Nat.le_of_ble_eq_true rfl) hlocks (fun t ha h1 h2 => ⟨(), trivial, ⟨(⟨rfl, by omega⟩), hM.keep h2⟩, th_F hS h1 h2⟩) hS.2.2 (Nat.le_of_ble_eq_true rfl) (Nat.le_of_ble_eq_true rfl)
  · skip
    have g5 : (1 : Int) ≤ dr.toInt ∧ dr.toInt ≤ (20 : Int) := bI_t hw2 c3
    have zg5 : r1 = 1 := bI_t1 hw2 g5
    refine lv_iload_n hx hb dX3_squareBits_10 rfl (lv_at hl 2 rfl) ?_
    refine lv_iconst (v := 5) hx hb dX3_squareBits_11 (by decide) ?_
    refine lv_bipush (v := 60) hx hb dX3_squareBits_12 (by decide) ?_
    refine va_calli (va_runS (As := [.int le, .int 5, .int 60]) (rest := []) ⟨hx, hb, hml, hown, hts⟩ (rk_isWithin l le 5 60 (5) (60) (by decide) (by decide)) (va_cwS 3 hts gX3_squareBits_X3_isWithin rfl rfl rfl (by decide +kernel) ⟨Nat.le_of_ble_eq_true rfl, Nat.le_of_ble_eq_true rfl⟩) ⟨fun a U g mk q => q, fun U hU hW => ⟨rfl, trivial⟩⟩ rfl rfl hl.1 rfl (lv_room (Nat.le_of_ble_eq_true rfl)) dX3_squareBits_14 ⟨(Nat.le_of_ble_eq_true rfl), (Nat.le_of_ble_eq_true rfl)⟩) hS (fun q _ h => h.elim) (fun q h => h.elim) (fun r6 u t H locs ht hvm hw7 hB hz1 hk1 hS => ?_)
    have hM := hM.keep (fun p hp => hk1 p hp (fun z => z))
    have hw7 : r6 = bI ((5 : Int) ≤ le.toInt ∧ le.toInt ≤ (60 : Int)) := hw7
    refine lv_if_ne (tgt := 30) hx hb dX3_squareBits_17 (by decide) (fun c8 => ?_) (fun c8 => ?_)
    · skip
      have g9 : (5 : Int) ≤ le.toInt ∧ le.toInt ≤ (60 : Int) := bI_t hw7 c8
      have zg9 : r6 = 1 := bI_t1 hw7 g9
      obtain ⟨j, hj, rfl⟩ := toN (p := dr) (k := 20) (by omega) (by omega) (by decide)
      have hl : lv_has ls 8 [(0, .ref o), (1, .int (nI j)), (2, .int le), (3, .int mat)] := hl
      obtain ⟨k, hk, rfl⟩ := toN (p := le) (k := 60) (by omega) (by omega) (by decide)
      have hl : lv_has ls 8 [(0, .ref o), (1, .int (nI j)), (2, .int (nI k)), (3, .int mat)] := hl
      have ej : (nI j).toInt = (j : Int) := nI_toInt (by omega)
      have ek : (nI k).toInt = (k : Int) := nI_toInt (by omega)
      refine lv_iload_n hx hb dX3_squareBits_30 rfl (lv_at hl 3 rfl) ?_
      refine lv_if_eq (tgt := 40) hx hb dX3_squareBits_31 (by decide) (fun c10 => ?_) (fun c10 => ?_)
      · skip
        refine lv_ldc2d hx hb hown (hts (.constantDouble RX3 258 4587366580439587226) (by decide +kernel)) dX3_squareBits_40 ?_
        refine lv_dstore (lv' := [(4, .double 4587366580439587226), (0, .ref o), (1, .int (nI j)), (2, .int (nI k)), (3, .int mat)]) hx hb dX3_squareBits_43 hl (by decide) rfl (fun ls hl => ?_)
        refine lv_aload_n hx hb dX3_squareBits_45 rfl (lv_at hl 1 rfl) ?_
        obtain ⟨u11, u12, u13, u14, hP, hf⟩ := o_sno (i := 0) (q := o) hM (by omega)
        refine va_get (D := (dC, dI)) (ci := 7) (v := .ref (pF g o 0)) (C := RX3) (T := TX3) (N := 10) hx hb hts (by decide +kernel) hown hK hP 0 rfl rfl 0 (by decide) (hts (.fieldLink RX3 10 "Snowpalace" "sky" "LSnowpalace$Sky;") (by decide +kernel)) (fun _ h9 => h9) rfl dX3_squareBits_46 ?_
        have ht15 : tg g (pF g o 0) = 2 := hf.1
        refine lv_aload_n hx hb dX3_squareBits_49 rfl (lv_at hl 1 rfl) ?_
        obtain ⟨u16, u17, u18, u19, hP, hf⟩ := o_sno (i := 0) (q := o) hM (by omega)
        refine va_get (D := (dC, dI)) (ci := 7) (v := .int (pI g o 1)) (C := RX3) (T := TX3) (N := 10) hx hb hts (by decide +kernel) hown hK hP 0 rfl rfl 4 (by decide) (hts (.fieldLink RX3 33 "Snowpalace" "clock" "I") (by decide +kernel)) (fun _ h9 => h9) rfl dX3_squareBits_50 ?_
        have hv20 := hf.2.2.2.2.1
        obtain ⟨hP, hf⟩ := o_sky (i := 0) (q := (pF g o 0)) hM (by omega)
        refine va_calli (va_runV (As := [.int (pI g o 1)]) (rest := []) ⟨hx, hb, hml, hown, hts⟩ (rk_warmthOf l dC dI kA eD b g (pF g o 0) (pI g o 1) (by omega)) (cwV 1 hts gX3_squareBits_X2_warmthOf rfl rfl rfl (by decide +kernel) ⟨Nat.le_of_ble_eq_true rfl, Nat.le_of_ble_eq_true rfl⟩) ⟨fb_CX, va_recv hK hP (ci := 6) (q0 := 0) rfl rfl, fun U hU hW => ⟨rfl, CX.give hb0 hM hK hG hE hS hU hW⟩⟩ rfl rfl hl.1 rfl (lv_room (Nat.le_of_ble_eq_true rfl)) dX3_squareBits_53 ⟨(Nat.le_of_ble_eq_true rfl), (Nat.le_of_ble_eq_true rfl)⟩) hS (fun q _ h => h) (fun q h => h) (fun r21 u t H locs ht hvm hw22 hB hz1 hk1 hS => ?_)
        have hM := hB.back ht
        have hG := hB.2.2.2.1
        refine lv_if_le (tgt := 67) hx hb dX3_squareBits_56 (by decide) (fun c23 => ?_) (fun c23 => ?_)
        · skip
          have i24 := (Int32.le_iff_toInt_le).mp c23
          have ii24 : (0 : Int32).toInt = 0 := by decide
          have i24 := i24
          obtain ⟨ht1, ht2, ht3, ht4, ht5, ht6⟩ := sq_tab 0 (by decide) hj hk
          refine lv_iload_n hx hb dX3_squareBits_67 rfl (lv_at hl 2 rfl) ?_
          refine lv_i2d hx hb dX3_squareBits_68 ?_
          refine lv_dload hx hb dX3_squareBits_69 (lv_at hl 0 rfl) ?_
          refine lv_iload_n hx hb dX3_squareBits_71 rfl (lv_at hl 3 rfl) ?_
          refine lv_i2d hx hb dX3_squareBits_72 ?_
          refine lv_dmul hx hb dX3_squareBits_73 (n64b_of ht1) ?_
          refine lv_dsub hx hb dX3_squareBits_74 (n64b_of ht2) ?_
          refine lv_dstore (lv' := [(6, .double (FP.dsub (FP.i2d (nI j)) (FP.dmul 4587366580439587226 (FP.i2d (nI k))))), (4, .double 4587366580439587226), (0, .ref o), (1, .int (nI j)), (2, .int (nI k)), (3, .int mat)]) hx hb dX3_squareBits_75 hl (by decide) rfl (fun ls hl => ?_)
          refine lv_dload hx hb dX3_squareBits_77 (lv_at hl 0 rfl) ?_
          refine lv_dconst0 hx hb dX3_squareBits_79 ?_
          refine lv_dcmp hx hb dX3_squareBits_80 ?_
          refine lv_if_le (tgt := 93) hx hb dX3_squareBits_81 (by decide) (fun c25 => ?_) (fun c25 => ?_)
          · skip
            have i26 := (Int32.le_iff_toInt_le).mp c25
            have ii26 : (0 : Int32).toInt = 0 := by decide
            have i26 := i26
            have hnp : ¬ pos (sqx 0 j k) = true := fun z => pos_le.mp z c25
            refine lv_dconst0 hx hb dX3_squareBits_93 ?_
            refine va_calll (va_runS (As := [.double FP.dconst0]) (rest := []) ⟨hx, hb, hml, hown, hts⟩ (rk_bits l FP.dconst0 (fun z => absurd (z.symm.trans sq_z) (by decide))) (va_cwS 1 hts gX3_squareBits_X3_bitsOfDouble rfl rfl rfl (by decide +kernel) ⟨Nat.le_of_ble_eq_true rfl, Nat.le_of_ble_eq_true rfl⟩) ⟨fun a U g mk q => q, fun U hU hW => ⟨rfl, trivial⟩⟩ rfl rfl hl.1 rfl (lv_room (Nat.le_of_ble_eq_true rfl)) dX3_squareBits_94 ⟨(Nat.le_of_ble_eq_true rfl), (Nat.le_of_ble_eq_true rfl)⟩) hS (fun q _ h => h.elim) (fun q h => h.elim) (fun r27 u t H locs ht hvm hw28 hB hz1 hk1 hS => ?_)
            have hM := hM.keep (fun p hp => hk1 p hp (fun z => z))
            have hsw29 : sqw mat (wOf (pI g (pF g (pF g o 0) 0)) (pI g (pF g (pF g o 0) 1)) (pI g o 1)) = 0 := by unfold sqw; rw [← hw22, if_pos c10, if_neg (fun z9 => absurd c23 (Int32.not_le.mpr z9))]
            refine vx_ret ?_
            refine W.widen (k := 1) (n := 6) (Nat.le_of_ble_eq_true rfl) (Nat.le_of_ble_eq_true rfl) ?_
            exact W.lret (v := r27) hx hb hr (fun t ht hW => ⟨⟨r27, (), rfl, ⟨j, k, rfl, rfl, by omega, by omega, by rw [hsw29]; exact sq_r0 hnp hw28⟩, CX.give hb0 hM hK hG hE hS ht hW⟩, hS.F ht⟩) hS.2.2 dX3_squareBits_97
          · skip
            have i30 := fun z => c25 ((Int32.le_iff_toInt_le).mpr z)
            have ii30 : (0 : Int32).toInt = 0 := by decide
            have i30 : ¬ ((Op.cmpValue (FP.dcmp (FP.dsub (FP.i2d (nI j)) (FP.dmul 4587366580439587226 (FP.i2d (nI k)))) FP.dconst0) .l : Int32).toInt ≤ (0 : Int32).toInt) := i30
            have hpp : pos (sqx 0 j k) = true := pos_le.mpr c25
            refine lv_ldc2d hx hb hown (hts (.constantDouble RX3 260 4626215756725191967) (by decide +kernel)) dX3_squareBits_84 ?_
            refine lv_dload hx hb dX3_squareBits_87 (lv_at hl 0 rfl) ?_
            refine lv_dmul hx hb dX3_squareBits_89 (n64b_of ht3) ?_
            refine lv_goto (tgt := 94) hx hb dX3_squareBits_90 (by decide) ?_
            refine va_calll (va_runS (As := [.double (FP.dmul 4626215756725191967 (FP.dsub (FP.i2d (nI j)) (FP.dmul 4587366580439587226 (FP.i2d (nI k)))))]) (rest := []) ⟨hx, hb, hml, hown, hts⟩ (rk_bits l (FP.dmul 4626215756725191967 (FP.dsub (FP.i2d (nI j)) (FP.dmul 4587366580439587226 (FP.i2d (nI k))))) (fun _ => (ht6 hpp).1)) (va_cwS 1 hts gX3_squareBits_X3_bitsOfDouble rfl rfl rfl (by decide +kernel) ⟨Nat.le_of_ble_eq_true rfl, Nat.le_of_ble_eq_true rfl⟩) ⟨fun a U g mk q => q, fun U hU hW => ⟨rfl, trivial⟩⟩ rfl rfl hl.1 rfl (lv_room (Nat.le_of_ble_eq_true rfl)) dX3_squareBits_94 ⟨(Nat.le_of_ble_eq_true rfl), (Nat.le_of_ble_eq_true rfl)⟩) hS (fun q _ h => h.elim) (fun q h => h.elim) (fun r31 u t H locs ht hvm hw32 hB hz1 hk1 hS => ?_)
            have hM := hM.keep (fun p hp => hk1 p hp (fun z => z))
            have hsw33 : sqw mat (wOf (pI g (pF g (pF g o 0) 0)) (pI g (pF g (pF g o 0) 1)) (pI g o 1)) = 0 := by unfold sqw; rw [← hw22, if_pos c10, if_neg (fun z9 => absurd c23 (Int32.not_le.mpr z9))]
            refine vx_ret ?_
            refine W.widen (k := 1) (n := 6) (Nat.le_of_ble_eq_true rfl) (Nat.le_of_ble_eq_true rfl) ?_
            exact W.lret (v := r31) hx hb hr (fun t ht hW => ⟨⟨r31, (), rfl, ⟨j, k, rfl, rfl, by omega, by omega, by rw [hsw33]; exact sq_r hpp ht4 (ht6 hpp).2 hw32⟩, CX.give hb0 hM hK hG hE hS ht hW⟩, hS.F ht⟩) hS.2.2 dX3_squareBits_97
        · skip
          have i34 := fun z => c23 ((Int32.le_iff_toInt_le).mpr z)
          have ii34 : (0 : Int32).toInt = 0 := by decide
          have i34 : ¬ ((r21 : Int32).toInt ≤ (0 : Int32).toInt) := i34
          refine lv_dload hx hb dX3_squareBits_59 (lv_at hl 0 rfl) ?_
          refine lv_ldc2d hx hb hown (hts (.constantDouble RX3 258 4587366580439587226) (by decide +kernel)) dX3_squareBits_61 ?_
          refine lv_dadd hx hb dX3_squareBits_64 (by rw [sq_a0]; exact n64b_of (by decide +kernel)) ?_
          rw [sq_a0]
          refine lv_dstore (lv' := [(4, .double (sqk 1)), (0, .ref o), (1, .int (nI j)), (2, .int (nI k)), (3, .int mat)]) hx hb dX3_squareBits_65 hl (by decide) rfl (fun ls hl => ?_)
          obtain ⟨ht1, ht2, ht3, ht4, ht5, ht6⟩ := sq_tab 1 (by decide) hj hk
          refine lv_iload_n hx hb dX3_squareBits_67 rfl (lv_at hl 2 rfl) ?_
          refine lv_i2d hx hb dX3_squareBits_68 ?_
          refine lv_dload hx hb dX3_squareBits_69 (lv_at hl 0 rfl) ?_
          refine lv_iload_n hx hb dX3_squareBits_71 rfl (lv_at hl 3 rfl) ?_
          refine lv_i2d hx hb dX3_squareBits_72 ?_
          refine lv_dmul hx hb dX3_squareBits_73 (n64b_of ht1) ?_
          refine lv_dsub hx hb dX3_squareBits_74 (n64b_of ht2) ?_
          refine lv_dstore (lv' := [(6, .double (FP.dsub (FP.i2d (nI j)) (FP.dmul (sqk 1) (FP.i2d (nI k))))), (4, .double (sqk 1)), (0, .ref o), (1, .int (nI j)), (2, .int (nI k)), (3, .int mat)]) hx hb dX3_squareBits_75 hl (by decide) rfl (fun ls hl => ?_)
          refine lv_dload hx hb dX3_squareBits_77 (lv_at hl 0 rfl) ?_
          refine lv_dconst0 hx hb dX3_squareBits_79 ?_
          refine lv_dcmp hx hb dX3_squareBits_80 ?_
          refine lv_if_le (tgt := 93) hx hb dX3_squareBits_81 (by decide) (fun c35 => ?_) (fun c35 => ?_)
          · skip
            have i36 := (Int32.le_iff_toInt_le).mp c35
            have ii36 : (0 : Int32).toInt = 0 := by decide
            have i36 := i36
            have hnp : ¬ pos (sqx 1 j k) = true := fun z => pos_le.mp z c35
            refine lv_dconst0 hx hb dX3_squareBits_93 ?_
            refine va_calll (va_runS (As := [.double FP.dconst0]) (rest := []) ⟨hx, hb, hml, hown, hts⟩ (rk_bits l FP.dconst0 (fun z => absurd (z.symm.trans sq_z) (by decide))) (va_cwS 1 hts gX3_squareBits_X3_bitsOfDouble rfl rfl rfl (by decide +kernel) ⟨Nat.le_of_ble_eq_true rfl, Nat.le_of_ble_eq_true rfl⟩) ⟨fun a U g mk q => q, fun U hU hW => ⟨rfl, trivial⟩⟩ rfl rfl hl.1 rfl (lv_room (Nat.le_of_ble_eq_true rfl)) dX3_squareBits_94 ⟨(Nat.le_of_ble_eq_true rfl), (Nat.le_of_ble_eq_true rfl)⟩) hS (fun q _ h => h.elim) (fun q h => h.elim) (fun r37 u t H locs ht hvm hw38 hB hz1 hk1 hS => ?_)
            have hM := hM.keep (fun p hp => hk1 p hp (fun z => z))
            have hsw39 : sqw mat (wOf (pI g (pF g (pF g o 0) 0)) (pI g (pF g (pF g o 0) 1)) (pI g o 1)) = 1 := by unfold sqw; rw [← hw22, if_pos c10, if_pos (Int32.not_le.mp c23)]
            refine vx_ret ?_
            refine W.widen (k := 1) (n := 6) (Nat.le_of_ble_eq_true rfl) (Nat.le_of_ble_eq_true rfl) ?_
            exact W.lret (v := r37) hx hb hr (fun t ht hW => ⟨⟨r37, (), rfl, ⟨j, k, rfl, rfl, by omega, by omega, by rw [hsw39]; exact sq_r0 hnp hw38⟩, CX.give hb0 hM hK hG hE hS ht hW⟩, hS.F ht⟩) hS.2.2 dX3_squareBits_97
          · skip
            have i40 := fun z => c35 ((Int32.le_iff_toInt_le).mpr z)
            have ii40 : (0 : Int32).toInt = 0 := by decide
            have i40 : ¬ ((Op.cmpValue (FP.dcmp (FP.dsub (FP.i2d (nI j)) (FP.dmul (sqk 1) (FP.i2d (nI k)))) FP.dconst0) .l : Int32).toInt ≤ (0 : Int32).toInt) := i40
            have hpp : pos (sqx 1 j k) = true := pos_le.mpr c35
            refine lv_ldc2d hx hb hown (hts (.constantDouble RX3 260 4626215756725191967) (by decide +kernel)) dX3_squareBits_84 ?_
            refine lv_dload hx hb dX3_squareBits_87 (lv_at hl 0 rfl) ?_
            refine lv_dmul hx hb dX3_squareBits_89 (n64b_of ht3) ?_
            refine lv_goto (tgt := 94) hx hb dX3_squareBits_90 (by decide) ?_
            refine va_calll (va_runS (As := [.double (FP.dmul 4626215756725191967 (FP.dsub (FP.i2d (nI j)) (FP.dmul (sqk 1) (FP.i2d (nI k)))))]) (rest := []) ⟨hx, hb, hml, hown, hts⟩ (rk_bits l (FP.dmul 4626215756725191967 (FP.dsub (FP.i2d (nI j)) (FP.dmul (sqk 1) (FP.i2d (nI k))))) (fun _ => (ht6 hpp).1)) (va_cwS 1 hts gX3_squareBits_X3_bitsOfDouble rfl rfl rfl (by decide +kernel) ⟨Nat.le_of_ble_eq_true rfl, Nat.le_of_ble_eq_true rfl⟩) ⟨fun a U g mk q => q, fun U hU hW => ⟨rfl, trivial⟩⟩ rfl rfl hl.1 rfl (lv_room (Nat.le_of_ble_eq_true rfl)) dX3_squareBits_94 ⟨(Nat.le_of_ble_eq_true rfl), (Nat.le_of_ble_eq_true rfl)⟩) hS (fun q _ h => h.elim) (fun q h => h.elim) (fun r41 u t H locs ht hvm hw42 hB hz1 hk1 hS => ?_)
            have hM := hM.keep (fun p hp => hk1 p hp (fun z => z))
            have hsw43 : sqw mat (wOf (pI g (pF g (pF g o 0) 0)) (pI g (pF g (pF g o 0) 1)) (pI g o 1)) = 1 := by unfold sqw; rw [← hw22, if_pos c10, if_pos (Int32.not_le.mp c23)]
            refine vx_ret ?_
            refine W.widen (k := 1) (n := 6) (Nat.le_of_ble_eq_true rfl) (Nat.le_of_ble_eq_true rfl) ?_
            exact W.lret (v := r41) hx hb hr (fun t ht hW => ⟨⟨r41, (), rfl, ⟨j, k, rfl, rfl, by omega, by omega, by rw [hsw43]; exact sq_r hpp ht4 (ht6 hpp).2 hw42⟩, CX.give hb0 hM hK hG hE hS ht hW⟩, hS.F ht⟩) hS.2.2 dX3_squareBits_97
      · skip
        refine lv_ldc2d hx hb hown (hts (.constantDouble RX3 256 4591870180066957722) (by decide +kernel)) dX3_squareBits_34 ?_
        refine lv_goto (tgt := 43) hx hb dX3_squareBits_37 (by decide) ?_
        refine lv_dstore (lv' := [(4, .double 4591870180066957722), (0, .ref o), (1, .int (nI j)), (2, .int (nI k)), (3, .int mat)]) hx hb dX3_squareBits_43 hl (by decide) rfl (fun ls hl => ?_)
        refine lv_aload_n hx hb dX3_squareBits_45 rfl (lv_at hl 1 rfl) ?_
        obtain ⟨u44, u45, u46, u47, hP, hf⟩ := o_sno (i := 0) (q := o) hM (by omega)
        refine va_get (D := (dC, dI)) (ci := 7) (v := .ref (pF g o 0)) (C := RX3) (T := TX3) (N := 10) hx hb hts (by decide +kernel) hown hK hP 0 rfl rfl 0 (by decide) (hts (.fieldLink RX3 10 "Snowpalace" "sky" "LSnowpalace$Sky;") (by decide +kernel)) (fun _ h9 => h9) rfl dX3_squareBits_46 ?_
        have ht48 : tg g (pF g o 0) = 2 := hf.1
        refine lv_aload_n hx hb dX3_squareBits_49 rfl (lv_at hl 1 rfl) ?_
        obtain ⟨u49, u50, u51, u52, hP, hf⟩ := o_sno (i := 0) (q := o) hM (by omega)
        refine va_get (D := (dC, dI)) (ci := 7) (v := .int (pI g o 1)) (C := RX3) (T := TX3) (N := 10) hx hb hts (by decide +kernel) hown hK hP 0 rfl rfl 4 (by decide) (hts (.fieldLink RX3 33 "Snowpalace" "clock" "I") (by decide +kernel)) (fun _ h9 => h9) rfl dX3_squareBits_50 ?_
        have hv53 := hf.2.2.2.2.1
        obtain ⟨hP, hf⟩ := o_sky (i := 0) (q := (pF g o 0)) hM (by omega)
        refine va_calli (va_runV (As := [.int (pI g o 1)]) (rest := []) ⟨hx, hb, hml, hown, hts⟩ (rk_warmthOf l dC dI kA eD b g (pF g o 0) (pI g o 1) (by omega)) (cwV 1 hts gX3_squareBits_X2_warmthOf rfl rfl rfl (by decide +kernel) ⟨Nat.le_of_ble_eq_true rfl, Nat.le_of_ble_eq_true rfl⟩) ⟨fb_CX, va_recv hK hP (ci := 6) (q0 := 0) rfl rfl, fun U hU hW => ⟨rfl, CX.give hb0 hM hK hG hE hS hU hW⟩⟩ rfl rfl hl.1 rfl (lv_room (Nat.le_of_ble_eq_true rfl)) dX3_squareBits_53 ⟨(Nat.le_of_ble_eq_true rfl), (Nat.le_of_ble_eq_true rfl)⟩) hS (fun q _ h => h) (fun q h => h) (fun r54 u t H locs ht hvm hw55 hB hz1 hk1 hS => ?_)
        have hM := hB.back ht
        have hG := hB.2.2.2.1
        refine lv_if_le (tgt := 67) hx hb dX3_squareBits_56 (by decide) (fun c56 => ?_) (fun c56 => ?_)
        · skip
          have i57 := (Int32.le_iff_toInt_le).mp c56
          have ii57 : (0 : Int32).toInt = 0 := by decide
          have i57 := i57
          obtain ⟨ht1, ht2, ht3, ht4, ht5, ht6⟩ := sq_tab 1 (by decide) hj hk
          refine lv_iload_n hx hb dX3_squareBits_67 rfl (lv_at hl 2 rfl) ?_
          refine lv_i2d hx hb dX3_squareBits_68 ?_
          refine lv_dload hx hb dX3_squareBits_69 (lv_at hl 0 rfl) ?_
          refine lv_iload_n hx hb dX3_squareBits_71 rfl (lv_at hl 3 rfl) ?_
          refine lv_i2d hx hb dX3_squareBits_72 ?_
          refine lv_dmul hx hb dX3_squareBits_73 (n64b_of ht1) ?_
          refine lv_dsub hx hb dX3_squareBits_74 (n64b_of ht2) ?_
          refine lv_dstore (lv' := [(6, .double (FP.dsub (FP.i2d (nI j)) (FP.dmul 4591870180066957722 (FP.i2d (nI k))))), (4, .double 4591870180066957722), (0, .ref o), (1, .int (nI j)), (2, .int (nI k)), (3, .int mat)]) hx hb dX3_squareBits_75 hl (by decide) rfl (fun ls hl => ?_)
          refine lv_dload hx hb dX3_squareBits_77 (lv_at hl 0 rfl) ?_
          refine lv_dconst0 hx hb dX3_squareBits_79 ?_
          refine lv_dcmp hx hb dX3_squareBits_80 ?_
          refine lv_if_le (tgt := 93) hx hb dX3_squareBits_81 (by decide) (fun c58 => ?_) (fun c58 => ?_)
          · skip
            have i59 := (Int32.le_iff_toInt_le).mp c58
            have ii59 : (0 : Int32).toInt = 0 := by decide
            have i59 := i59
            have hnp : ¬ pos (sqx 1 j k) = true := fun z => pos_le.mp z c58
            refine lv_dconst0 hx hb dX3_squareBits_93 ?_
            refine va_calll (va_runS (As := [.double FP.dconst0]) (rest := []) ⟨hx, hb, hml, hown, hts⟩ (rk_bits l FP.dconst0 (fun z => absurd (z.symm.trans sq_z) (by decide))) (va_cwS 1 hts gX3_squareBits_X3_bitsOfDouble rfl rfl rfl (by decide +kernel) ⟨Nat.le_of_ble_eq_true rfl, Nat.le_of_ble_eq_true rfl⟩) ⟨fun a U g mk q => q, fun U hU hW => ⟨rfl, trivial⟩⟩ rfl rfl hl.1 rfl (lv_room (Nat.le_of_ble_eq_true rfl)) dX3_squareBits_94 ⟨(Nat.le_of_ble_eq_true rfl), (Nat.le_of_ble_eq_true rfl)⟩) hS (fun q _ h => h.elim) (fun q h => h.elim) (fun r60 u t H locs ht hvm hw61 hB hz1 hk1 hS => ?_)
            have hM := hM.keep (fun p hp => hk1 p hp (fun z => z))
            have hsw62 : sqw mat (wOf (pI g (pF g (pF g o 0) 0)) (pI g (pF g (pF g o 0) 1)) (pI g o 1)) = 1 := by unfold sqw; rw [← hw55, if_neg c10, if_neg (fun z9 => absurd c56 (Int32.not_le.mpr z9))]
            refine vx_ret ?_
            refine W.widen (k := 1) (n := 6) (Nat.le_of_ble_eq_true rfl) (Nat.le_of_ble_eq_true rfl) ?_
            exact W.lret (v := r60) hx hb hr (fun t ht hW => ⟨⟨r60, (), rfl, ⟨j, k, rfl, rfl, by omega, by omega, by rw [hsw62]; exact sq_r0 hnp hw61⟩, CX.give hb0 hM hK hG hE hS ht hW⟩, hS.F ht⟩) hS.2.2 dX3_squareBits_97
          · skip
            have i63 := fun z => c58 ((Int32.le_iff_toInt_le).mpr z)
            have ii63 : (0 : Int32).toInt = 0 := by decide
            have i63 : ¬ ((Op.cmpValue (FP.dcmp (FP.dsub (FP.i2d (nI j)) (FP.dmul 4591870180066957722 (FP.i2d (nI k)))) FP.dconst0) .l : Int32).toInt ≤ (0 : Int32).toInt) := i63
            have hpp : pos (sqx 1 j k) = true := pos_le.mpr c58
            refine lv_ldc2d hx hb hown (hts (.constantDouble RX3 260 4626215756725191967) (by decide +kernel)) dX3_squareBits_84 ?_
            refine lv_dload hx hb dX3_squareBits_87 (lv_at hl 0 rfl) ?_
            refine lv_dmul hx hb dX3_squareBits_89 (n64b_of ht3) ?_
            refine lv_goto (tgt := 94) hx hb dX3_squareBits_90 (by decide) ?_
            refine va_calll (va_runS (As := [.double (FP.dmul 4626215756725191967 (FP.dsub (FP.i2d (nI j)) (FP.dmul 4591870180066957722 (FP.i2d (nI k)))))]) (rest := []) ⟨hx, hb, hml, hown, hts⟩ (rk_bits l (FP.dmul 4626215756725191967 (FP.dsub (FP.i2d (nI j)) (FP.dmul 4591870180066957722 (FP.i2d (nI k))))) (fun _ => (ht6 hpp).1)) (va_cwS 1 hts gX3_squareBits_X3_bitsOfDouble rfl rfl rfl (by decide +kernel) ⟨Nat.le_of_ble_eq_true rfl, Nat.le_of_ble_eq_true rfl⟩) ⟨fun a U g mk q => q, fun U hU hW => ⟨rfl, trivial⟩⟩ rfl rfl hl.1 rfl (lv_room (Nat.le_of_ble_eq_true rfl)) dX3_squareBits_94 ⟨(Nat.le_of_ble_eq_true rfl), (Nat.le_of_ble_eq_true rfl)⟩) hS (fun q _ h => h.elim) (fun q h => h.elim) (fun r64 u t H locs ht hvm hw65 hB hz1 hk1 hS => ?_)
            have hM := hM.keep (fun p hp => hk1 p hp (fun z => z))
            have hsw66 : sqw mat (wOf (pI g (pF g (pF g o 0) 0)) (pI g (pF g (pF g o 0) 1)) (pI g o 1)) = 1 := by unfold sqw; rw [← hw55, if_neg c10, if_neg (fun z9 => absurd c56 (Int32.not_le.mpr z9))]
            refine vx_ret ?_
            refine W.widen (k := 1) (n := 6) (Nat.le_of_ble_eq_true rfl) (Nat.le_of_ble_eq_true rfl) ?_
            exact W.lret (v := r64) hx hb hr (fun t ht hW => ⟨⟨r64, (), rfl, ⟨j, k, rfl, rfl, by omega, by omega, by rw [hsw66]; exact sq_r hpp ht4 (ht6 hpp).2 hw65⟩, CX.give hb0 hM hK hG hE hS ht hW⟩, hS.F ht⟩) hS.2.2 dX3_squareBits_97
        · skip
          have i67 := fun z => c56 ((Int32.le_iff_toInt_le).mpr z)
          have ii67 : (0 : Int32).toInt = 0 := by decide
          have i67 : ¬ ((r54 : Int32).toInt ≤ (0 : Int32).toInt) := i67
          refine lv_dload hx hb dX3_squareBits_59 (lv_at hl 0 rfl) ?_
          refine lv_ldc2d hx hb hown (hts (.constantDouble RX3 258 4587366580439587226) (by decide +kernel)) dX3_squareBits_61 ?_
          refine lv_dadd hx hb dX3_squareBits_64 (by rw [sq_a1]; exact n64b_of (by decide +kernel)) ?_
          rw [sq_a1]
          refine lv_dstore (lv' := [(4, .double (sqk 2)), (0, .ref o), (1, .int (nI j)), (2, .int (nI k)), (3, .int mat)]) hx hb dX3_squareBits_65 hl (by decide) rfl (fun ls hl => ?_)
          obtain ⟨ht1, ht2, ht3, ht4, ht5, ht6⟩ := sq_tab 2 (by decide) hj hk
          refine lv_iload_n hx hb dX3_squareBits_67 rfl (lv_at hl 2 rfl) ?_
          refine lv_i2d hx hb dX3_squareBits_68 ?_
          refine lv_dload hx hb dX3_squareBits_69 (lv_at hl 0 rfl) ?_
          refine lv_iload_n hx hb dX3_squareBits_71 rfl (lv_at hl 3 rfl) ?_
          refine lv_i2d hx hb dX3_squareBits_72 ?_
          refine lv_dmul hx hb dX3_squareBits_73 (n64b_of ht1) ?_
          refine lv_dsub hx hb dX3_squareBits_74 (n64b_of ht2) ?_
          refine lv_dstore (lv' := [(6, .double (FP.dsub (FP.i2d (nI j)) (FP.dmul (sqk 2) (FP.i2d (nI k))))), (4, .double (sqk 2)), (0, .ref o), (1, .int (nI j)), (2, .int (nI k)), (3, .int mat)]) hx hb dX3_squareBits_75 hl (by decide) rfl (fun ls hl => ?_)
          refine lv_dload hx hb dX3_squareBits_77 (lv_at hl 0 rfl) ?_
          refine lv_dconst0 hx hb dX3_squareBits_79 ?_
          refine lv_dcmp hx hb dX3_squareBits_80 ?_
          refine lv_if_le (tgt := 93) hx hb dX3_squareBits_81 (by decide) (fun c68 => ?_) (fun c68 => ?_)
          · skip
            have i69 := (Int32.le_iff_toInt_le).mp c68
            have ii69 : (0 : Int32).toInt = 0 := by decide
            have i69 := i69
            have hnp : ¬ pos (sqx 2 j k) = true := fun z => pos_le.mp z c68
            refine lv_dconst0 hx hb dX3_squareBits_93 ?_
            refine va_calll (va_runS (As := [.double FP.dconst0]) (rest := []) ⟨hx, hb, hml, hown, hts⟩ (rk_bits l FP.dconst0 (fun z => absurd (z.symm.trans sq_z) (by decide))) (va_cwS 1 hts gX3_squareBits_X3_bitsOfDouble rfl rfl rfl (by decide +kernel) ⟨Nat.le_of_ble_eq_true rfl, Nat.le_of_ble_eq_true rfl⟩) ⟨fun a U g mk q => q, fun U hU hW => ⟨rfl, trivial⟩⟩ rfl rfl hl.1 rfl (lv_room (Nat.le_of_ble_eq_true rfl)) dX3_squareBits_94 ⟨(Nat.le_of_ble_eq_true rfl), (Nat.le_of_ble_eq_true rfl)⟩) hS (fun q _ h => h.elim) (fun q h => h.elim) (fun r70 u t H locs ht hvm hw71 hB hz1 hk1 hS => ?_)
            have hM := hM.keep (fun p hp => hk1 p hp (fun z => z))
            have hsw72 : sqw mat (wOf (pI g (pF g (pF g o 0) 0)) (pI g (pF g (pF g o 0) 1)) (pI g o 1)) = 2 := by unfold sqw; rw [← hw55, if_neg c10, if_pos (Int32.not_le.mp c56)]
            refine vx_ret ?_
            refine W.widen (k := 1) (n := 6) (Nat.le_of_ble_eq_true rfl) (Nat.le_of_ble_eq_true rfl) ?_
            exact W.lret (v := r70) hx hb hr (fun t ht hW => ⟨⟨r70, (), rfl, ⟨j, k, rfl, rfl, by omega, by omega, by rw [hsw72]; exact sq_r0 hnp hw71⟩, CX.give hb0 hM hK hG hE hS ht hW⟩, hS.F ht⟩) hS.2.2 dX3_squareBits_97
          · skip
            have i73 := fun z => c68 ((Int32.le_iff_toInt_le).mpr z)
            have ii73 : (0 : Int32).toInt = 0 := by decide
            have i73 : ¬ ((Op.cmpValue (FP.dcmp (FP.dsub (FP.i2d (nI j)) (FP.dmul (sqk 2) (FP.i2d (nI k)))) FP.dconst0) .l : Int32).toInt ≤ (0 : Int32).toInt) := i73
            have hpp : pos (sqx 2 j k) = true := pos_le.mpr c68
            refine lv_ldc2d hx hb hown (hts (.constantDouble RX3 260 4626215756725191967) (by decide +kernel)) dX3_squareBits_84 ?_
            refine lv_dload hx hb dX3_squareBits_87 (lv_at hl 0 rfl) ?_
            refine lv_dmul hx hb dX3_squareBits_89 (n64b_of ht3) ?_
            refine lv_goto (tgt := 94) hx hb dX3_squareBits_90 (by decide) ?_
            refine va_calll (va_runS (As := [.double (FP.dmul 4626215756725191967 (FP.dsub (FP.i2d (nI j)) (FP.dmul (sqk 2) (FP.i2d (nI k)))))]) (rest := []) ⟨hx, hb, hml, hown, hts⟩ (rk_bits l (FP.dmul 4626215756725191967 (FP.dsub (FP.i2d (nI j)) (FP.dmul (sqk 2) (FP.i2d (nI k))))) (fun _ => (ht6 hpp).1)) (va_cwS 1 hts gX3_squareBits_X3_bitsOfDouble rfl rfl rfl (by decide +kernel) ⟨Nat.le_of_ble_eq_true rfl, Nat.le_of_ble_eq_true rfl⟩) ⟨fun a U g mk q => q, fun U hU hW => ⟨rfl, trivial⟩⟩ rfl rfl hl.1 rfl (lv_room (Nat.le_of_ble_eq_true rfl)) dX3_squareBits_94 ⟨(Nat.le_of_ble_eq_true rfl), (Nat.le_of_ble_eq_true rfl)⟩) hS (fun q _ h => h.elim) (fun q h => h.elim) (fun r74 u t H locs ht hvm hw75 hB hz1 hk1 hS => ?_)
            have hM := hM.keep (fun p hp => hk1 p hp (fun z => z))
            have hsw76 : sqw mat (wOf (pI g (pF g (pF g o 0) 0)) (pI g (pF g (pF g o 0) 1)) (pI g o 1)) = 2 := by unfold sqw; rw [← hw55, if_neg c10, if_pos (Int32.not_le.mp c56)]
            refine vx_ret ?_
            refine W.widen (k := 1) (n := 6) (Nat.le_of_ble_eq_true rfl) (Nat.le_of_ble_eq_true rfl) ?_
            exact W.lret (v := r74) hx hb hr (fun t ht hW => ⟨⟨r74, (), rfl, ⟨j, k, rfl, rfl, by omega, by omega, by rw [hsw76]; exact sq_r hpp ht4 (ht6 hpp).2 hw75⟩, CX.give hb0 hM hK hG hE hS ht hW⟩, hS.F ht⟩) hS.2.2 dX3_squareBits_97
    · skip
      have g77 : ¬ ((5 : Int) ≤ le.toInt ∧ le.toInt ≤ (60 : Int)) := bI_f hw7 c8
      have zg77 : r6 = 0 := bI_f0 hw7 g77
      obtain ⟨sa, hsa⟩ := hT.2.1 (58, "a number is out of range") (by decide +kernel)
      exact vx_throwS (A := (fun q => b ≤ q)) (own := RX3) (cls := "java/lang/IllegalArgumentException") (text := "a number is out of range") (names := exN) hx hb hlt hown (by decide +kernel) (by decide +kernel) (hts (.classLink RX3 56 "java/lang/IllegalArgumentException") (by decide +kernel)) (hts (.initialized "java/lang/IllegalArgumentException") (by decide +kernel)) hsa (th_hat hT (fun w h => hts w (List.mem_cons_of_mem _ (List.mem_append_left _ (List.mem_append_right _ h)))) th_i1) (th_good th_i1) hT.2.2.2.1 hT.2.2.2.2 hS (hl.1.trans hml.symm) dX3_squareBits_20 dX3_squareBits_23 dX3_squareBits_24 dX3_squareBits_26 dX3_squareBits_29 (fun x h => (hnt x h).elim) (by decide) (Nat.le_of_ble_eq_true rfl) (Nat.le_of_ble_eq_true rfl) (Nat.le_of_ble_eq_true rfl) hlocks (fun t ha h1 h2 => ⟨(), trivial, ⟨(⟨rfl, by omega⟩), hM.keep h2⟩, th_F hS h1 h2⟩) hS.2.2 (Nat.le_of_ble_eq_true rfl) (Nat.le_of_ble_eq_true rfl)
