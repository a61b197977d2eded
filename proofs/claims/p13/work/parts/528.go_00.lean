set_option maxHeartbeats 4000000 in
set_option maxRecDepth 100000 in
theorem rmf_go (l : Launch) (dC : Nat → ClassId) (dI : Nat → Nat → Nat) (kA : Nat → ClassId) (eD b : Nat) (g : Gh) (sz sg : Nat) (o : Nat) (hrs : Int32) (hto : tg g o = 17) (hb90 : 0 < b) : Met l yX6_go wsX6_go ({ frames := 8, cells := 6900, slots := 53000, locals := 195 }) (va_Pc [.ref o, .int hrs] (CXs (dC, dI) kA eD b g sz sg)) (va_Qi (fun (r : Int32) (u : Gh × Nat) => ∃ v, Ext o X0 g v ∧ ((pI v o 2 = 0 ∧ ∃ c h, pI g o 0 = nI c ∧ hrs = nI h ∧ (1 ≤ h ∧ h ≤ 48) ∧ c + h ≤ 504 ∧ r = nI (c + h) ∧ Ext o XA (sI v o 0 (nI (c + h))) u.1 ∧ GCm u.1 o + u.2 ≤ GCm v o ∧ pI u.1 o 2 = 0) ∨ (pI v o 2 = 1 ∧ ¬ (1 ≤ hrs.toInt ∧ hrs.toInt ≤ 48) ∧ u.1 = v ∧ u.2 = 0) ∨ (pI v o 2 = 2 ∧ (1 ≤ hrs.toInt ∧ hrs.toInt ≤ 48) ∧ 504 < (pI g o 0).toInt + hrs.toInt ∧ u.1 = v ∧ u.2 = 0))) (fun (u : Gh × Nat) t => (CX (dC, dI) kA eD b u.1 t ∧ (t.heap.size + 85 * (504 - (pI u.1 o 0).toInt.toNat) ≤ sz + 85 * (504 - (pI g o 0).toInt.toNat) + 14 * u.2 ∧ SH t.heap + 652 * (504 - (pI u.1 o 0).toInt.toNat) ≤ sg + 652 * (504 - (pI g o 0).toInt.toNat) + 108 * u.2))) (fun q => b ≤ q)) 6900 53000 (fun q => b ≤ q) := by
  refine Met.ofW (cc := cX6_go) (maxL := 6) (ret := (some .int)) (by decide +kernel) rfl ?_
  intro p e s m args below meth c s₁ B hml hv
  obtain ⟨rfl, ⟨hb0, hM, hK, hG, hE⟩, hsz, hsg⟩ := hv
  have hx := B.exec
  have hb := B.bytes
  have hr := B.returns
  have hts := atoms_spec (ws := wsX6_go) B.pre
  have hown : s.vm.findClass RX6 = some m.cls := findClass_of_methodNamed B.named
  have hlocks := B.notSynchronized
  have hT := hE.1
  have hN := hE.2.2.2.2.2.2.2.1
  have hS : va_S (fun q => b ≤ q) s.heap s.heap [] := va_S.rf
  have hl := lv_entry ([.ref o, .int hrs]) (n := 6) (Nat.le_of_ble_eq_true rfl)
  rw [lg_entry_eq]
  generalize (lg_sl ([.ref o, .int hrs]) ++ List.replicate (6 - (lg_sl ([.ref o, .int hrs])).length) Slot.unset).toArray = ls at hl ⊢
  have hl : lv_has ls 6 [(0, .ref o), (1, .int hrs)] := hl
  generalize ([.ref o, .int hrs] : List Value).toArray = args at hts ⊢
  refine W.q (fun Q hQ => ?_)
  refine lv_aload_n hx hb dX6_go_0 rfl (lv_at hl 0 rfl) ?_
  refine lv_iload_n hx hb dX6_go_1 rfl (lv_at hl 1 rfl) ?_
  refine lv_i2l hx hb dX6_go_2 rfl ?_
  refine lv_lconst (v := 1) hx hb dX6_go_3 (by decide) ?_
  refine lv_ldc2 hx hb hown (hts (.constantLong RX6 103 48) (by decide +kernel)) dX6_go_4 ?_
  refine va_calli (va_runS (As := [.long hrs.toInt64, .long 1, .long 48]) (rest := [.ref o]) ⟨hx, hb, hml, hown, hts⟩ (rm_isBetween l hrs.toInt64 1 48 ((hrs : Int32).toInt) (1) (48) (Int32.toInt_toInt64 _) (by decide) (by decide)) (va_cwS 3 hts gX6_go_X6_isBetween rfl rfl rfl (by decide +kernel) ⟨Nat.le_of_ble_eq_true rfl, Nat.le_of_ble_eq_true rfl⟩) ⟨fun a U g mk q => q, fun U hU hW => ⟨rfl, trivial⟩⟩ rfl rfl hl.1 rfl (lv_room (Nat.le_of_ble_eq_true rfl)) dX6_go_7 ⟨(Nat.le_of_ble_eq_true rfl), (Nat.le_of_ble_eq_true rfl)⟩) hS (fun q _ h => h.elim) (fun q h => h.elim) (fun r1 u t H locs ht hvm hw2 hB hz1 hk1 hS => ?_)
  have hM := hM.keep (fun p hp => hk1 p hp (fun z => z))
  have hw2 : r1 = bI ((1 : Int) ≤ (hrs : Int32).toInt ∧ (hrs : Int32).toInt ≤ (48 : Int)) := hw2
  refine lv_if_ne (tgt := 17) hx hb dX6_go_10 (by decide) (fun c3 => ?_) (fun c3 => ?_)
  · skip
    have g4 : (1 : Int) ≤ (hrs : Int32).toInt ∧ (hrs : Int32).toInt ≤ (48 : Int) := bI_t hw2 c3
    have zg4 : r1 = 1 := bI_t1 hw2 g4
    obtain ⟨h, hh, rfl⟩ := toN (p := hrs) (k := 48) (by omega) (by omega) (by decide)
    have hl : lv_has ls 6 [(0, .ref o), (1, .int (nI h))] := hl
    have eh : (nI h).toInt = (h : Int) := nI_toInt (by omega)
    refine lv_aload_n hx hb dX6_go_17 rfl (lv_at hl 0 rfl) ?_
    obtain ⟨u5, u6, hP, hf⟩ := o_mo (i := 0) (q := o) hM (by omega)
    refine va_get (D := (dC, dI)) (ci := 10) (v := .int (pI g o 0)) (C := RX6) (T := TX6) (N := 11) hx hb hts (by decide +kernel) hown hK hP 0 rfl rfl 2 (by decide) (hts (.fieldLink RX6 58 "SnowpalaceModel" "hour" "I") (by decide +kernel)) (fun _ h9 => h9) rfl dX6_go_18 ?_
    have hv7 := hf.2.2.2.2.2.2.1
    obtain ⟨ck, hc9, ec⟩ := toN (p := pI g o 0) (k := 504) (by omega) (by omega) (by decide)
    have ecI : (pI g o 0).toInt = (ck : Int) := by rw [ec]; exact nI_toInt (by omega)
    rw [ec]
    refine lv_iload_n hx hb dX6_go_21 rfl (lv_at hl 1 rfl) ?_
    refine lv_iadd hx hb dX6_go_22 ?_
    refine lv_topi (fun v8 e9 => ?_)
    obtain rfl : v8 = nI (ck + h) := e9.trans (nI_add ck h)
    refine lv_sipush (v := 504) hx hb dX6_go_23 (by decide) ?_
    refine lv_icmp_le (tgt := 33) hx hb dX6_go_26 (by decide) (fun c10 => ?_) (fun c10 => ?_)
    · skip
      have k11 : (ck + h) ≤ 504 := (nI_leI (a := (ck + h)) (b := 504) (by omega) (by omega)).mp c10
      refine lv_iconst (v := 0) hx hb dX6_go_33 (by decide) ?_
      obtain ⟨u12, u13, hP, hf⟩ := o_mo (i := 0) (q := o) hM (by omega)
      refine va_calli (va_runV (As := [.int 0]) (rest := []) ⟨hx, hb, hml, hown, hts⟩ (rm_isWrong l dC dI kA eD b g o 0 (by omega)) (cwV 1 hts gX6_go_X6_isWrong rfl rfl rfl (by decide +kernel) ⟨Nat.le_of_ble_eq_true rfl, Nat.le_of_ble_eq_true rfl⟩) ⟨fb_CX, va_recv hK hP (ci := 10) (q0 := 0) rfl rfl, fun U hU hW => ⟨rfl, CX.give hb0 hM hK hG hE hS hU hW⟩⟩ rfl rfl hl.1 rfl (lv_room (Nat.le_of_ble_eq_true rfl)) dX6_go_34 ⟨(Nat.le_of_ble_eq_true rfl), (Nat.le_of_ble_eq_true rfl)⟩) hS (fun q _ h => h) (fun q h => h) (fun r14 g16 t H locs ht hvm hw15 hB hz1 hk1 hS => ?_)
      have hM := hB.back ht
      have hG := hB.2.2.2.1
      have hx17 : Ext o X0 g g16 := hw15.1
      have ht18 : tg g16 o = 17 := hx17.tk hto (by omega)
      obtain rfl : r14 = 0 := hw15.2.2.trans (by decide)
      have hth19 : pI g16 o 2 = 0 := by rw [hw15.2.1]; exact sI_at
      refine lv_if_eq (tgt := 42) hx hb dX6_go_37 (by decide) (fun _ => ?_) (fun cx => by first | exact absurd (by decide) cx | exact absurd cx (by decide))
      refine lv_iconst (v := 0) hx hb dX6_go_42 (by decide) ?_
      refine lv_istore_n (lv' := [(2, .int 0), (0, .ref o), (1, .int (nI h))]) hx hb dX6_go_43 rfl hl (by decide) rfl (fun ls hl => ?_)
      have hMv := hM
      have hGM : GCm g16 o ≤ 144 := GCm_le hM ht18
      have ecv : pI g16 o 0 = nI ck := ((hx17 : Ext o X0 g g16).i (by omega) (Or.inr (by decide))).trans ec
      have hxg0 : Ext o X0 g g16 := hx17
      have hth0 := hth19
      have htv9 : tg g16 o = 17 := ht18
      have lp : ∀ (n i D : Nat) (u : Gh), i ≤ h → h < i + n → ∀ (H : Heap) (locs : List Loc) (ls : Array Slot), Ext 0 XA (sI g16 o 0 (nI (ck + i))) u → GOK u → GCm u o + D ≤ GCm g16 o → TM (dC, dI) kA b u H → va_S (fun q => b ≤ q) s.heap H locs → lv_has ls 6 [(2, .int (nI i)), (0, .ref o), (1, .int (nI h))] → W p l e (headSpec wsX6_go ({ frames := 8, cells := 6900, slots := 53000, locals := 195 })).room s m args below meth c H locs (85 * i + 14 * D) (652 * i + 108 * D) Q (F0 m 44 ls []) := by
        intro n
        induction n with
        | zero => intro i D u h1 h2; omega
        | succ n ih =>
          intro i D u hi hn H locs ls hxu hG hgs hM hS hl
          have htu : tg u o = 17 := hxu.tk (show tg (sI g16 o 0 (nI (ck + i))) o = 17 from ht18) (by omega)
          have hu0 : pI u o 0 = nI (ck + i) := (hxu.i (show tg (sI g16 o 0 (nI (ck + i))) o ≠ 0 by show tg g16 o ≠ 0; omega) (Or.inr (by decide))).trans sI_at
          have hls := (mo_list hM htu).2
          have hfm := (mo_list hM htu).1
          have hMu := hM
          have hGu := hG
          refine lv_iload_n hx hb dX6_go_44 rfl (lv_at hl 0 rfl) ?_
          refine lv_iload_n hx hb dX6_go_45 rfl (lv_at hl 2 rfl) ?_
          refine lv_icmp_ge (tgt := 121) hx hb dX6_go_46 (by decide) (fun c20 => ?_) (fun c20 => ?_)
          · skip
            have k21 : h ≤ i := (nI_leI (a := h) (b := i) (by omega) (by omega)).mp c20
            refine lv_aload_n hx hb dX6_go_121 rfl (lv_at hl 1 rfl) ?_
            obtain ⟨u22, u23, hP, hf⟩ := o_mo (i := 0) (q := o) hM (by omega)
            refine va_get (D := (dC, dI)) (ci := 10) (v := .int (pI u o 0)) (C := RX6) (T := TX6) (N := 11) hx hb hts (by decide +kernel) hown hK hP 0 rfl rfl 2 (by decide) (hts (.fieldLink RX6 58 "SnowpalaceModel" "hour" "I") (by decide +kernel)) (fun _ h9 => h9) rfl dX6_go_122 ?_
            have hv24 := hf.2.2.2.2.2.2.1
            rw [hu0]
            refine W.know (fun hkn1 hkn2 => ?_)
            have ei : i = h := by omega
            subst ei
            have hu9 : (pI u o 0).toInt = ((ck + i : Nat) : Int) := by rw [hu0]; exact nI_toInt (by omega)
            subst hQ
            refine W.widen (k := 6900) (n := 53000) (by omega) (by omega) ?_
            exact W.iret (v := (nI (ck + i))) hx hb hr (fun t ht hW => ⟨⟨(nI (ck + i)), (u, D), rfl, ⟨g16, hxg0, Or.inl ⟨hth0, ck, i, ec, rfl, by omega, by omega, rfl, hxu.to (show tg g16 0 = 0 from hMv.z0 hb90), hgs, (hxu.i (show tg g16 o ≠ 0 by omega) (Or.inl (fun e9 => by have h9 := hMv.z0 hb90; rw [← e9] at h9; omega))).trans ((sI_ne (Or.inr (by decide))).trans hth0)⟩⟩, ⟨CX.give hb0 hM hK hG hE hS ht hW, by rw [ht]; show H.size + 85 * (504 - (pI u o 0).toInt.toNat) ≤ sz + 85 * (504 - (pI g o 0).toInt.toNat) + 14 * D; omega, by rw [ht]; show SH H + 652 * (504 - (pI u o 0).toInt.toNat) ≤ sg + 652 * (504 - (pI g o 0).toInt.toNat) + 108 * D; omega⟩⟩, hS.F ht⟩) hS.2.2 dX6_go_125
          · skip
            have k25 : ¬ (h ≤ i) := fun z => c20 ((nI_leI (a := h) (b := i) (by omega) (by omega)).mpr z)
            refine lv_aload_n hx hb dX6_go_49 rfl (lv_at hl 1 rfl) ?_
            refine lv_aload_n hx hb dX6_go_50 rfl (lv_at hl 1 rfl) ?_
            obtain ⟨u26, u27, hP, hf⟩ := o_mo (i := 0) (q := o) hM (by omega)
            refine va_get (D := (dC, dI)) (ci := 10) (v := .int (pI u o 0)) (C := RX6) (T := TX6) (N := 11) hx hb hts (by decide +kernel) hown hK hP 0 rfl rfl 2 (by decide) (hts (.fieldLink RX6 58 "SnowpalaceModel" "hour" "I") (by decide +kernel)) (fun _ h9 => h9) rfl dX6_go_51 ?_
            have hv28 := hf.2.2.2.2.2.2.1
            rw [hu0]
            obtain ⟨u29, u30, hP, hf⟩ := o_mo (i := 0) (q := o) hM (by omega)
            refine va_calli (va_runV (As := [.int (nI (ck + i))]) (rest := []) ⟨hx, hb, hml, hown, hts⟩ (rm_warmthOf l dC dI kA eD b u o (ck + i) (by omega) (by omega)) (cwV 1 hts gX6_go_X6_warmthOf rfl rfl rfl (by decide +kernel) ⟨Nat.le_of_ble_eq_true rfl, Nat.le_of_ble_eq_true rfl⟩) ⟨fb_CX, va_recv hK hP (ci := 10) (q0 := 0) rfl rfl, fun U hU hW => ⟨rfl, CX.give hb0 hM hK hG hE hS hU hW⟩⟩ rfl rfl hl.1 rfl (lv_room (Nat.le_of_ble_eq_true rfl)) dX6_go_54 ⟨(show 85 * i + 14 * D + 0 ≤ 6900 by omega), (show 652 * i + 108 * D + 0 ≤ 53000 by omega)⟩) hS (fun q _ h => h) (fun q h => h) (fun r31 uu t H locs ht hvm hw32 hB hz1 hk1 hS => ?_)
            have hM := hB.back ht
            have hG := hB.2.2.2.1
            have hbd := wm_bd hM htu (j := ck + i) (by omega)
            refine lv_istore_n (lv' := [(3, .int r31), (2, .int (nI i)), (0, .ref o), (1, .int (nI h))]) hx hb dX6_go_57 rfl hl (by decide) rfl (fun ls hl => ?_)
            refine lv_aload_n hx hb dX6_go_58 rfl (lv_at hl 2 rfl) ?_
            refine lv_iload_n hx hb dX6_go_59 rfl (lv_at hl 0 rfl) ?_
            obtain ⟨u33, u34, hP, hf⟩ := o_mo (i := 0) (q := o) hM (by omega)
            refine va_callv (va_runV (As := [.int r31]) (rest := []) ⟨hx, hb, hml, hown, hts⟩ (rm_freezes l dC dI kA eD b u o r31 (by omega) (by rw [hw32]; exact hbd.1) (by rw [hw32]; exact hbd.2) (by rw [hu0, nI_toInt (by omega)]; omega)) (cwV 1 hts gX6_go_X6_freezes rfl rfl rfl (by decide +kernel) ⟨Nat.le_of_ble_eq_true rfl, Nat.le_of_ble_eq_true rfl⟩) ⟨fb_CX, va_recv hK hP (ci := 10) (q0 := 0) rfl rfl, fun U hU hW => ⟨rfl, CX.give hb0 hM hK hG hE hS hU hW⟩⟩ rfl rfl hl.1 rfl (lv_room (Nat.le_of_ble_eq_true rfl)) dX6_go_60 ⟨(show 85 * i + 14 * D + 0 ≤ 6900 by omega), (show 652 * i + 108 * D + 0 ≤ 53000 by omega)⟩) hS (fun q _ h => h) (fun q h => h) (fun uu t H locs ht hvm hw36 hB hz1 hk1 hS => ?_)
            have hM := hB.back ht
            have hG := hB.2.2.2.1
            refine lv_aload_n hx hb dX6_go_63 rfl (lv_at hl 2 rfl) ?_
            obtain ⟨u37, u38, hP, hf⟩ := o_mo (i := 0) (q := o) hM (by omega)
            refine va_get (D := (dC, dI)) (ci := 10) (v := .ref (pF u o 5)) (C := RX6) (T := TX6) (N := 11) hx hb hts (by decide +kernel) hown hK hP 0 rfl rfl 10 (by decide) (hts (.fieldLink RX6 34 "SnowpalaceModel" "sites" "Ljava/util/List;") (by decide +kernel)) (fun _ h9 => h9) rfl dX6_go_64 ?_
            obtain ⟨hP, hf⟩ := o_al (i := 0) (q := (pF u o 5)) hM (by omega)
            refine va_callFr (va_runF (hK.1 3 _ rfl).2 (As := []) (rest := []) ⟨hx, hb, hml, hown, hts⟩ (rj_iter l dC dI kA eD b u (pF u o 5) 0 (by omega)) (va_cwF 0 hts gX6_go_Jx4a65c_iterator_32c93_f109Jx4a65c rfl rfl rfl hE.2.1.2.1 (by decide +kernel) ⟨Nat.le_of_ble_eq_true rfl, Nat.le_of_ble_eq_true rfl⟩) ⟨fb_CX, va_recv hK hP (ci := 3) (q0 := 0) rfl rfl, fun U hU hW => ⟨rfl, CX.give hb0 hM hK hG hE hS hU hW⟩⟩ rfl rfl hl.1 rfl (lv_room (Nat.le_of_ble_eq_true rfl)) dX6_go_67 ⟨(show 85 * i + 14 * D + 1 ≤ 6900 by omega), (show 652 * i + 108 * D + 4 ≤ 53000 by omega)⟩) hS (fun q _ h => h) (fun q h => h) (fun g41 r39 t H locs ht hvm hw40 hB hz1 hk1 hS => ?_)
            have hM := hB.1.back ht
            have hG := hB.1.2.2.2.1
            have hx42 : Ext 0 X0 u g41 := hw40.1
            have ht43 : tg g41 o = 17 := hx42.tk htu (by omega)
            have ht44 : tg g41 (pF u o 5) = 26 := hx42.tk hfm (by omega)
            have ht45 : tg g41 r39 = 40 := hB.2.1
            have hit46 := hB.2.2
            refine lv_astore (lv' := [(4, .ref r39), (3, .int r31), (2, .int (nI i)), (0, .ref o), (1, .int (nI h))]) hx hb dX6_go_72 hl (by decide) rfl (fun ls hl => ?_)
            obtain ⟨n2, hn2, en2⟩ := toN (p := pI u (pF u o 5) 0) (k := 3) hls.1 hls.2 (by decide)
            have lp2 : ∀ (m7 k D2 : Nat) (u2 : Gh), k ≤ n2 → n2 < k + m7 → ∀ (H : Heap) (locs : List Loc) (ls : Array Slot), Ext 0 XA u u2 → GOK u2 → tg u2 r39 = 40 → pI u2 r39 0 = nI k → pI u2 r39 1 = pI u2 (pF u o 5) 1 → pF u2 r39 0 = pF u o 5 → GCm u2 o + D2 ≤ GCm u o → TM (dC, dI) kA b u2 H → va_S (fun q => b ≤ q) s.heap H locs → lv_has ls 6 [(4, .ref r39), (3, .int r31), (2, .int (nI i)), (0, .ref o), (1, .int (nI h))] → W p l e (headSpec wsX6_go ({ frames := 8, cells := 6900, slots := 53000, locals := 195 })).room s m args below meth c H locs (85 * i + 14 * D + 1 + 28 * k + 14 * D2) (652 * i + 108 * D + 4 + 216 * k + 108 * D2) Q (F0 m 74 ls []) := by
              intro m7
              induction m7 with
              | zero => intro k D2 u2 h1 h2; omega
              | succ m7 ih2 =>
                intro k D2 u2 hk hm H locs ls hx2 hG ht2 hc2 hm2 hL2 hgs2 hM hS hl
                have hto2 : tg u2 o = 17 := hx2.tk htu (by omega)
                have hfm2 : tg u2 (pF u o 5) = 26 := hx2.tk hfm (by omega)
                have hs2 : pI u2 (pF u o 5) 0 = nI n2 := (hx2.i (by omega) (Or.inr (by decide))).trans en2
                have hs2I : (pI u2 (pF u o 5) 0).toInt = (n2 : Int) := by rw [hs2]; exact nI_toInt (by omega)
                have hu2 : pI u2 o 0 = nI (ck + i) := (hx2.i (by omega) (Or.inr (by decide))).trans hu0
                refine lv_aload hx hb dX6_go_74 (lv_at hl 0 rfl) ?_
                obtain ⟨u47, hP, hf⟩ := o_it (i := 0) (q := r39) hM (by omega)
                refine va_callFi (va_runF (hK.1 2 _ rfl).2 (As := []) (rest := []) ⟨hx, hb, hml, hown, hts⟩ (rj_hasNext l dC dI kA eD b u2 r39 (by omega)) (va_cwF 0 hts gX6_go_Jx35411_hasNext_aae02_f115Jx35411 rfl rfl rfl hE.2.1.2.2.1 (by decide +kernel) ⟨Nat.le_of_ble_eq_true rfl, Nat.le_of_ble_eq_true rfl⟩) ⟨fb_CX, va_recv hK hP (ci := 2) (q0 := 0) rfl rfl, fun U hU hW => ⟨rfl, CX.give hb0 hM hK hG hE hS hU hW⟩⟩ rfl rfl hl.1 rfl (lv_room (Nat.le_of_ble_eq_true rfl)) dX6_go_76 ⟨(show 85 * i + 14 * D + 1 + 28 * k + 14 * D2 + 0 ≤ 6900 by omega), (show 652 * i + 108 * D + 4 + 216 * k + 108 * D2 + 0 ≤ 53000 by omega)⟩) hS (fun q _ h => h) (fun q h => h) (fun r48 uu t H locs ht hvm hw49 hB hz1 hk1 hS => ?_)
                have hM := hB.back ht
                have hG := hB.2.2.2.1
                refine lv_if_eq (tgt := 105) hx hb dX6_go_81 (by decide) (fun c50 => ?_) (fun c50 => ?_)
                · skip
                  have hv51 := vr0 hw49 c50
                  refine lv_aload_n hx hb dX6_go_105 rfl (lv_at hl 3 rfl) ?_
                  refine lv_dup hx hb dX6_go_106 rfl ?_
                  obtain ⟨u52, u53, hP, hf⟩ := o_mo (i := 0) (q := o) hM (by omega)
                  refine va_get (D := (dC, dI)) (ci := 10) (v := .int (pI u2 o 0)) (C := RX6) (T := TX6) (N := 11) hx hb hts (by decide +kernel) hown hK hP 0 rfl rfl 2 (by decide) (hts (.fieldLink RX6 58 "SnowpalaceModel" "hour" "I") (by decide +kernel)) (fun _ h9 => h9) rfl dX6_go_107 ?_
                  have hv54 := hf.2.2.2.2.2.2.1
                  rw [hu2]
                  refine lv_iconst (v := 1) hx hb dX6_go_110 (by decide) ?_
                  refine lv_iadd hx hb dX6_go_111 ?_
                  refine lv_topi (fun v55 e56 => ?_)
                  obtain rfl : v55 = nI ((ck + i) + 1) := e56.trans (nI_add (ck + i) 1)
                  obtain ⟨u57, u58, hP, hf⟩ := o_mo (i := 0) (q := o) hM (by omega)
                  refine rt_put (D := (dC, dI)) (ci := 10) (v := .int (nI ((ck + i) + 1))) (ty := .int) (C := RX6) (T := TX6) (N := 11) hx hb hts (by decide +kernel) tyX6 tyX6_ok nmX6 hown hK hP (hM.ge (by omega)) hS rfl 2 (by decide) (hts (.fieldLink RX6 58 "SnowpalaceModel" "hour" "I") (by decide +kernel)) (fun _ h9 => h9) rfl (by decide +kernel) rfl rfl (Nat.le_of_ble_eq_true rfl) dX6_go_112 (fun H locs hP hz ho hS => ?_)
                  have hM0 := hM
                  have hM := p_mo (i := 0) (f := upd (pI u2 o) 0 (nI ((ck + i) + 1))) hM (by omega) hP ho ⟨hf.1, hf.2.1, hf.2.2.1, hf.2.2.2.1, hf.2.2.2.2.1, hf.2.2.2.2.2.1, ⟨(show 0 ≤ ((nI ((ck + i) + 1))).toInt by rw [nI_toInt (by omega)]; omega), (show ((nI ((ck + i) + 1))).toInt ≤ 504 by rw [nI_toInt (by omega)]; omega)⟩, hf.2.2.2.2.2.2.2⟩
                  obtain ⟨g60, hg60⟩ : ∃ z, z = uI u2 o (upd (pI u2 o) 0 (nI ((ck + i) + 1))) := ⟨_, rfl⟩
                  rw [← hg60] at hM
                  have ht61 : tg g60 o = 17 := by rw [hg60]; exact hto2
                  have ht62 : tg g60 (pF u o 5) = 26 := by rw [hg60]; exact hfm2
                  have ht63 : tg g60 r39 = 40 := by rw [hg60]; exact ht2
                  have hG : GOK g60 := by rw [hg60]; exact (hG.uI hM0 (Or.inl (by omega)))
                  refine lv_iinc (v := (nI (i + 1))) (lv' := [(2, .int (nI (i + 1))), (4, .ref r39), (3, .int r31), (0, .ref o), (1, .int (nI h))]) hx hb dX6_go_115 hl (k := 2) rfl (nI_add i 1) (by decide) rfl (fun ls hl => ?_)
                  refine lv_goto (tgt := 44) hx hb dX6_go_118 (by decide) ?_
                  have hGC5 : GCm g60 o = GCm u2 o := by rw [hg60]; exact GCm_sI (fun e9 => by have h9 := hto2; have h8 := (mo_list hM0 hto2).1; rw [e9] at h8; omega)
                  refine W.widen (k := 85 * (i + 1) + 14 * (D + D2)) (n := 652 * (i + 1) + 108 * (D + D2)) (by omega) (by omega) ?_
                  exact ih (i + 1) (D + D2) g60 (by omega) (by omega) H _ ls (by have h9 := (hxu.trans hx2).setI (q := o) (k := 0) (x := nI (ck + (i + 1))); rw [sI_sI] at h9; rw [hg60]; exact h9) hG (by omega) hM hS (lv_sub hl [0, 3, 4] rfl)
                · skip
                  have hv65 := vr1 hw49 c50
                  have hkn : k < n2 := (Nat.lt_or_ge k n2).elim id (fun z => absurd ((hc2.trans (by rw [show k = n2 by omega])).trans (by rw [hL2, hs2])) hv65)
                  refine lv_aload hx hb dX6_go_84 (lv_at hl 0 rfl) ?_
                  obtain ⟨u66, hP, hf⟩ := o_it (i := 0) (q := r39) hM (by omega)
                  have hMp2 := hM
                  refine va_callFr (va_runF (hK.1 2 _ rfl).2 (As := []) (rest := []) ⟨hx, hb, hml, hown, hts⟩ (rj_next l dC dI kA eD b u2 r39 k (by omega) hc2 (by rw [hL2]; omega) (by rw [hL2]; exact hm2.symm)) (va_cwF 0 hts gX6_go_Jx35411_next_0502b_f121Jx35411 rfl rfl rfl hE.2.2.2.2.2.1 (by decide +kernel) ⟨Nat.le_of_ble_eq_true rfl, Nat.le_of_ble_eq_true rfl⟩) ⟨fb_CX, va_recv hK hP (ci := 2) (q0 := 0) rfl rfl, fun U hU hW => ⟨rfl, CX.give hb0 hM hK hG hE hS hU hW⟩⟩ rfl rfl hl.1 rfl (lv_room (Nat.le_of_ble_eq_true rfl)) dX6_go_86 ⟨(show 85 * i + 14 * D + 1 + 28 * k + 14 * D2 + 0 ≤ 6900 by omega), (show 652 * i + 108 * D + 4 + 216 * k + 108 * D2 + 0 ≤ 53000 by omega)⟩) hS (fun q _ h => h) (fun q h => h) (fun g69 r67 t H locs ht hvm hw68 hB hz1 hk1 hS => ?_)
                  have hM := hB.1.back ht
                  have hG := hB.1.2.2.2.1
                  have ht71 : tg g69 o = 17 := by rw [hw68.1]; exact hto2
                  have ht72 : tg g69 (pF u o 5) = 26 := by rw [hw68.1]; exact hfm2
                  have ht73 : tg g69 r39 = 40 := by rw [hw68.1]; exact ht2
                  have hx70 : Ext 0 XA u g69 := by rw [hw68.1]; exact (hx2).newI hit46.2.2.2
                  have ht74 : tg g69 r67 = 28 + 64 * k := hB.2.1
                  have hel0 := hB.2.2
                  obtain ⟨u75, u76, u77, u78, u79, u80, hP, hf⟩ := o_ms (i := k) (q := r67) hM (by omega)
                  refine va_castY hx hb hown (hts (.classLink RX6 125 "SnowpalaceModel$Site") (by decide +kernel)) hE.2.2.2.2.2.2.1 (va_recv hK hP (ci := 9) (q0 := 0) rfl rfl) dX6_go_91 ?_
                  refine lv_astore (lv' := [(5, .ref r67), (4, .ref r39), (3, .int r31), (2, .int (nI i)), (0, .ref o), (1, .int (nI h))]) hx hb dX6_go_94 hl (by decide) rfl (fun ls hl => ?_)
                  refine lv_aload hx hb dX6_go_96 (lv_at hl 0 rfl) ?_
                  refine lv_iload_n hx hb dX6_go_98 rfl (lv_at hl 2 rfl) ?_
                  obtain ⟨u81, u82, u83, u84, u85, u86, hP, hf⟩ := o_ms (i := k) (q := r67) hM (by omega)
                  refine W.know (fun hkn1 hkn2 => ?_)
                  have hel : pO g69 (pF g69 (pF g69 o 5) 0) k = some r67 := by rw [hw68.1]; show pO u2 (pF u2 (pF u2 o 5) 0) k = some r67; rw [show pF u2 o 5 = pF u o 5 from congrFun (hx2.f (by omega)) 5]; have h9 := hel0; rw [hL2] at h9; exact h9
                  have hu3 : pI g69 o 0 = nI (ck + i) := by rw [hw68.1]; exact (sI_ne (Or.inl (fun e9 => by have h9 := ht2; rw [← e9] at h9; omega))).trans hu2
                  have hMg := hM
                  have hGg := hG
                  have hGC3 : GCm g69 o = GCm u2 o := by rw [hw68.1]; exact GCm_sI (fun e9 => by have h9 := ht2; have h8 := (mo_list hMp2 hto2).1; rw [e9] at h8; omega)
                  have hjv3 : (k : Int) < (pI g69 (pF g69 o 5) 0).toInt := by rw [hw68.1]; show (k : Int) < (pI (sI u2 _ 0 _) (pF u2 o 5) 0).toInt; rw [show pF u2 o 5 = pF u o 5 from congrFun (hx2.f (by omega)) 5, sI_ne (Or.inl (fun e9 => by have h9 := ht2; have h8 := hfm2; rw [e9] at h8; omega))]; omega
                  refine va_callv (va_runV (As := [.int r31]) (rest := []) ⟨hx, hb, hml, hown, hts⟩ (rm_goes l dC dI kA eD b g69 H.size (SH H) r67 k o 0 r31 (by omega) (by omega) (Or.inl hb90) (by rw [hu3, nI_toInt (by omega)]; omega)) (cwV 1 hts gX6_go_X5_goes rfl rfl rfl (by decide +kernel) ⟨Nat.le_of_ble_eq_true rfl, Nat.le_of_ble_eq_true rfl⟩) ⟨fb_CXs, va_recv hK hP (ci := 9) (q0 := 0) rfl rfl, fun U hU hW => ⟨rfl, CXs.give hb0 hM hK hG hE hS hU hW⟩⟩ rfl rfl hl.1 rfl (lv_room (Nat.le_of_ble_eq_true rfl)) dX6_go_99 ⟨(show 85 * i + 14 * D + 1 + 28 * k + 14 * D2 + 700 ≤ 6900 by omega), (show 652 * i + 108 * D + 4 + 216 * k + 108 * D2 + 5400 ≤ 53000 by omega)⟩) hS (fun q _ h => h) (fun q h => h) (fun g89 t H locs ht hvm hw88 hB hz1 hk1 hS => ?_)
                  have hM := hB.1.back ht
                  have hG := hB.1.2.2.2.1
                  obtain ⟨g89, d90⟩ := g89
                  have hgr := hB.2
                  rw [ht] at hgr
                  refine W.shrink (k := 85 * i + 14 * D + 1 + 28 * k + 14 * D2 + 14 * (1 + d90) + 14) (n := 652 * i + 108 * D + 4 + 216 * k + 108 * D2 + 108 * (1 + d90) + 108) (by have := hgr.1; omega) (by have := hgr.2; omega) ?_
                  have hx91 : Ext 0 (XS k) g69 g89 := hw88.1
                  have ht92 : tg g89 o = 17 := hx91.tk ht71 (by omega)
                  have ht93 : tg g89 (pF u o 5) = 26 := hx91.tk ht72 (by omega)
                  have ht94 : tg g89 r39 = 40 := hx91.tk ht73 (by omega)
                  have ht95 : tg g89 r67 = 28 + 64 * k := hx91.tk ht74 (by omega)
                  have hgc3 : GCm g89 o + gc g69 r67 + D2 ≤ GCm u o + gc g89 r67 := by have h9 := GCm_site hMg hGg ht71 ((hx91 : Ext 0 (XS k) g69 g89).to (hMg.z0 hb90)) hjv3 hel; omega
                  refine lv_goto (tgt := 74) hx hb dX6_go_102 (by decide) ?_
                  have a0 : pI g89 r39 0 = nI (k + 1) := ((hx91.wideA : Ext 0 XA g69 g89).i (by have := ht73; omega) (Or.inr (by decide))).trans (by rw [hw68.1]; exact sI_at)
                  have a1 : pI g89 r39 1 = pI g69 r39 1 := (hx91.wideA : Ext 0 XA g69 g89).i (by have := ht73; omega) (Or.inr (by decide))
                  have a2 : pI g69 r39 1 = pI u2 r39 1 := by rw [hw68.1]; exact sI_ne (Or.inr (by decide))
                  have a3 : pI g89 (pF u o 5) 1 = pI g69 (pF u o 5) 1 := (hx91.wideA : Ext 0 XA g69 g89).i (by have := ht72; omega) (Or.inr (by decide))
                  have a4 : pI g69 (pF u o 5) 1 = pI u2 (pF u o 5) 1 := by rw [hw68.1]; exact sI_ne (Or.inr (by decide))
                  have a5 : pF g89 r39 0 = pF u o 5 := (congrFun ((hx91.wideA : Ext 0 XA g69 g89).f (by have := ht73; omega)) 0).trans (by rw [hw68.1]; exact hL2)
                  have a6 : GCm g89 o + (d90 + D2) ≤ GCm u o := by have h9 := hgc3; have h8 : gc g89 r67 + d90 = gc g69 r67 := hw88.2; omega
                  refine W.widen (k := 85 * i + 14 * D + 1 + 28 * (k + 1) + 14 * (d90 + D2)) (n := 652 * i + 108 * D + 4 + 216 * (k + 1) + 108 * (d90 + D2)) (by omega) (by omega) ?_
                  exact ih2 (k + 1) (d90 + D2) g89 (by omega) (by omega) H _ ls (hx70.trans hx91.wideA) hG ht94 a0 (a1.trans (a2.trans (hm2.trans (a4.symm.trans a3.symm)))) a5 a6 hM hS (lv_sub hl [1, 2, 3, 4, 5] rfl)
            have b1 : pI g41 r39 1 = pI g41 (pF u o 5) 1 := hit46.2.1.trans (((hx42.wide0 (Y := XA)) : Ext 0 XA u g41).i (by omega) (Or.inr (by decide))).symm
            have b2 : GCm g41 o + 0 ≤ GCm u o := by have h9 := GCm_x0 hMu hGu htu ((hx42 : Ext 0 X0 u g41).to (hMu.z0 hb90)); omega
            refine W.widen (k := 85 * i + 14 * D + 1 + 28 * 0 + 14 * 0) (n := 652 * i + 108 * D + 4 + 216 * 0 + 108 * 0) (by omega) (by omega) ?_
            exact lp2 (n2 + 1) 0 0 g41 (by omega) (by omega) H _ ls (hx42.wide0 (Y := XA)) hG ht45 hit46.1 b1 hit46.2.2.1 b2 hM hS (lv_sub hl [0, 1, 2, 3, 4] rfl)
      refine W.widen (k := 85 * 0 + 14 * 0) (n := 652 * 0 + 108 * 0) (by omega) (by omega) ?_
      exact lp (h + 1) 0 0 g16 (by omega) (by omega) H _ ls (by rw [show nI (ck + 0) = pI g16 o 0 from ecv.symm, sI_id]; exact Ext.refl) hG (by omega) hM hS (lv_sub hl [0, 1, 2] rfl)
    · skip
      have k96 : ¬ ((ck + h) ≤ 504) := fun z => c10 ((nI_leI (a := (ck + h)) (b := 504) (by omega) (by omega)).mpr z)
      refine lv_iconst (v := 2) hx hb dX6_go_29 (by decide) ?_
      refine lv_goto (tgt := 34) hx hb dX6_go_30 (by decide) ?_
      obtain ⟨u97, u98, hP, hf⟩ := o_mo (i := 0) (q := o) hM (by omega)
      refine va_calli (va_runV (As := [.int 2]) (rest := []) ⟨hx, hb, hml, hown, hts⟩ (rm_isWrong l dC dI kA eD b g o 2 (by omega)) (cwV 1 hts gX6_go_X6_isWrong rfl rfl rfl (by decide +kernel) ⟨Nat.le_of_ble_eq_true rfl, Nat.le_of_ble_eq_true rfl⟩) ⟨fb_CX, va_recv hK hP (ci := 10) (q0 := 0) rfl rfl, fun U hU hW => ⟨rfl, CX.give hb0 hM hK hG hE hS hU hW⟩⟩ rfl rfl hl.1 rfl (lv_room (Nat.le_of_ble_eq_true rfl)) dX6_go_34 ⟨(Nat.le_of_ble_eq_true rfl), (Nat.le_of_ble_eq_true rfl)⟩) hS (fun q _ h => h) (fun q h => h) (fun r99 g101 t H locs ht hvm hw100 hB hz1 hk1 hS => ?_)
      have hM := hB.back ht
      have hG := hB.2.2.2.1
      have hx102 : Ext o X0 g g101 := hw100.1
      have ht103 : tg g101 o = 17 := hx102.tk hto (by omega)
      obtain rfl : r99 = 1 := hw100.2.2.trans (by decide)
      have hth104 : pI g101 o 2 = 2 := by rw [hw100.2.1]; exact sI_at
      refine lv_if_eq (tgt := 42) hx hb dX6_go_37 (by decide) (fun cx => by first | exact absurd cx (by decide) | exact absurd (by decide) cx) (fun _ => ?_)
      refine lv_iconst (v := 0) hx hb dX6_go_40 (by decide) ?_
      have he0 : pI g101 o 0 = pI g o 0 := (hx102 : Ext o X0 g g101).i (by omega) (Or.inr (by decide))
      refine W.know (fun hkn1 hkn2 => ?_)
      subst hQ
      refine W.widen (k := 6900) (n := 53000) (Nat.le_of_ble_eq_true rfl) (Nat.le_of_ble_eq_true rfl) ?_
      exact W.iret (v := 0) hx hb hr (fun t ht hW => ⟨⟨0, (g101, 0), rfl, ⟨g101, hx102, Or.inr (Or.inr ⟨hth104, by omega, by omega, rfl, rfl⟩)⟩, ⟨CX.give hb0 hM hK hG hE hS ht hW, by rw [ht]; show H.size + 85 * (504 - (pI g101 o 0).toInt.toNat) ≤ sz + 85 * (504 - (pI g o 0).toInt.toNat) + 14 * 0; rw [he0]; omega, by rw [ht]; show SH H + 652 * (504 - (pI g101 o 0).toInt.toNat) ≤ sg + 652 * (504 - (pI g o 0).toInt.toNat) + 108 * 0; rw [he0]; omega⟩⟩, hS.F ht⟩) hS.2.2 dX6_go_41
  · skip
    have g105 : ¬ ((1 : Int) ≤ (hrs : Int32).toInt ∧ (hrs : Int32).toInt ≤ (48 : Int)) := bI_f hw2 c3
    have zg105 : r1 = 0 := bI_f0 hw2 g105
    refine lv_iconst (v := 1) hx hb dX6_go_13 (by decide) ?_
    refine lv_goto (tgt := 34) hx hb dX6_go_14 (by decide) ?_
    obtain ⟨u106, u107, hP, hf⟩ := o_mo (i := 0) (q := o) hM (by omega)
    refine va_calli (va_runV (As := [.int 1]) (rest := []) ⟨hx, hb, hml, hown, hts⟩ (rm_isWrong l dC dI kA eD b g o 1 (by omega)) (cwV 1 hts gX6_go_X6_isWrong rfl rfl rfl (by decide +kernel) ⟨Nat.le_of_ble_eq_true rfl, Nat.le_of_ble_eq_true rfl⟩) ⟨fb_CX, va_recv hK hP (ci := 10) (q0 := 0) rfl rfl, fun U hU hW => ⟨rfl, CX.give hb0 hM hK hG hE hS hU hW⟩⟩ rfl rfl hl.1 rfl (lv_room (Nat.le_of_ble_eq_true rfl)) dX6_go_34 ⟨(Nat.le_of_ble_eq_true rfl), (Nat.le_of_ble_eq_true rfl)⟩) hS (fun q _ h => h) (fun q h => h) (fun r108 g110 t H locs ht hvm hw109 hB hz1 hk1 hS => ?_)
    have hM := hB.back ht
    have hG := hB.2.2.2.1
    have hx111 : Ext o X0 g g110 := hw109.1
    have ht112 : tg g110 o = 17 := hx111.tk hto (by omega)
    obtain rfl : r108 = 1 := hw109.2.2.trans (by decide)
    have hth113 : pI g110 o 2 = 1 := by rw [hw109.2.1]; exact sI_at
    refine lv_if_eq (tgt := 42) hx hb dX6_go_37 (by decide) (fun cx => by first | exact absurd cx (by decide) | exact absurd (by decide) cx) (fun _ => ?_)
    refine lv_iconst (v := 0) hx hb dX6_go_40 (by decide) ?_
    have he0 : pI g110 o 0 = pI g o 0 := (hx111 : Ext o X0 g g110).i (by omega) (Or.inr (by decide))
    refine W.know (fun hkn1 hkn2 => ?_)
    subst hQ
    refine W.widen (k := 6900) (n := 53000) (Nat.le_of_ble_eq_true rfl) (Nat.le_of_ble_eq_true rfl) ?_
    exact W.iret (v := 0) hx hb hr (fun t ht hW => ⟨⟨0, (g110, 0), rfl, ⟨g110, hx111, Or.inr (Or.inl ⟨hth113, by omega, rfl, rfl⟩)⟩, ⟨CX.give hb0 hM hK hG hE hS ht hW, by rw [ht]; show H.size + 85 * (504 - (pI g110 o 0).toInt.toNat) ≤ sz + 85 * (504 - (pI g o 0).toInt.toNat) + 14 * 0; rw [he0]; omega, by rw [ht]; show SH H + 652 * (504 - (pI g110 o 0).toInt.toNat) ≤ sg + 652 * (504 - (pI g o 0).toInt.toNat) + 108 * 0; rw [he0]; omega⟩⟩, hS.F ht⟩) hS.2.2 dX6_go_41
