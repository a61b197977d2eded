set_option maxHeartbeats 4000000 in
set_option maxRecDepth 100000 in
theorem k_squareBits (l : Launch) (hlt : l.stackTraces = false) (dC : Nat → ClassId) (dI : Nat → Nat → Nat) (sz : Nat) (a : Nat → Nat) (cI cS : ClassId) (f : Nat → Nat → Int32) (hF : FX f) (p0 : Int32) (p1 : Int32) (p2 : Int32)  : vx_Met l yX3_squareBits wsX3_squareBits ({ frames := 6, cells := 1, slots := 6, locals := 82 }) (va_Pc [.ref (a 0), .int p0, .int p1, .int p2] (PT dC dI (wX a cI cS f) [(cI, .int), (cS, .object "Snowpalace$Site")] sz)) (va_Ql (fun (r : Int64) (u : Unit) => ((1 ≤ p0.toInt ∧ p0.toInt ≤ 20) ∧ 5 ≤ p1.toInt ∧ p1.toInt ≤ 60) ∧ r = (if p2 = 0 then sqR false p0.toNatClampNeg p1.toNatClampNeg else sqR true p0.toNatClampNeg p1.toNatClampNeg)) (fun (u : Unit) t => True) (va_A (wX a cI cS f) sz)) (vx_X (fun u : String => u = "java/lang/IllegalArgumentException" ∧ ¬ ((1 ≤ p0.toInt ∧ p0.toInt ≤ 20) ∧ 5 ≤ p1.toInt ∧ p1.toInt ≤ 60)) (fun E (u : String) _ => E = u) (va_A (wX a cI cS f) sz)) 1 6 (va_A (wX a cI cS f) sz) := by
  refine vx_ofW (cc := cX3_squareBits) (maxL := 8) (ret := (some .long)) (by decide +kernel) rfl ?_
  intro p e s m args below meth c s₁ B hml hnt hv
  obtain ⟨rfl, ⟨hsz, hP, hK, hD0⟩, hT⟩ := hv
  have hx := B.exec
  have hb := B.bytes
  have hr := B.returns
  have hts := atoms_spec (ws := wsX3_squareBits) B.pre
  have hown : s.vm.findClass RX3 = some m.cls := findClass_of_methodNamed B.named
  have hlocks := B.notSynchronized
  subst hsz
  have hD := hD0.self (sz := s.heap.size)
  generalize hAe : va_A (wX a cI cS f) s.heap.size = A at hD hT ⊢
  have hA : ∀ q : Nat, s.heap.size ≤ q → A q := fun q h => by rw [← hAe]; exact Or.inr h
  have hS : va_S A s.heap s.heap [] := va_S.rf
  have hl := lv_entry ([.ref (a 0), .int p0, .int p1, .int p2]) (n := 8) (Nat.le_of_ble_eq_true rfl)
  rw [lg_entry_eq]
  generalize (lg_sl ([.ref (a 0), .int p0, .int p1, .int p2]) ++ List.replicate (8 - (lg_sl ([.ref (a 0), .int p0, .int p1, .int p2])).length) Slot.unset).toArray = ls at hl ⊢
  have hl : lv_has ls 8 [(0, .ref (a 0)), (1, .int p0), (2, .int p1), (3, .int p2)] := hl
  have hN : NS s := hT.ns
  refine lv_iload_n hx hb dX3_squareBits_0 rfl (lv_at hl 1 rfl) ?_
  refine lv_iconst (v := 1) hx hb dX3_squareBits_1 (by decide) ?_
  refine lv_bipush (v := 20) hx hb dX3_squareBits_2 (by decide) ?_
  refine va_calli (va_runS (As := [.int p0, .int 1, .int 20]) (rest := []) ⟨hx, hb, hml, hown, hts⟩ (k_isWithin l p0 1 20 (1) (20) (by decide) (by decide)) (va_cwS 3 hts gX3_squareBits_X3_isWithin rfl rfl rfl (by decide +kernel) ⟨Nat.le_of_ble_eq_true rfl, Nat.le_of_ble_eq_true rfl⟩) ⟨fun a U g mk q => q, fun U hU hW => ⟨rfl, trivial⟩⟩ rfl rfl hl.1 rfl (lv_room (Nat.le_of_ble_eq_true rfl)) dX3_squareBits_4 ⟨(Nat.le_of_ble_eq_true rfl), (Nat.le_of_ble_eq_true rfl)⟩) hS (fun q _ h => h.elim) (fun q h => h.elim) (fun r1 u t H locs ht hvm hw2 hB hz1 hk1 hS => ?_)
  have hP := kp_P hP hk1
  have hP : va_P (dC, dI) vwCl (wX a cI cS f) H := hP
  have hD : va_D A (wX a cI cS f) := hD
  have hw2 : r1 = bI ((1 : Int) ≤ p0.toInt ∧ p0.toInt ≤ (20 : Int)) := hw2
  refine lv_if_eq (tgt := 20) hx hb dX3_squareBits_7 (by decide) (fun c3 => ?_) (fun c3 => ?_)
  · skip
    have g4 : ¬ ((1 : Int) ≤ p0.toInt ∧ p0.toInt ≤ (20 : Int)) := bI_f hw2 c3
    have zg4 : r1 = 0 := bI_f0 hw2 g4
    obtain ⟨sa, hsa⟩ := hT.2.1 (58, "a number is out of range") (by decide +kernel)
    exact vx_throwS (A := A) (own := RX3) (cls := "java/lang/IllegalArgumentException") (text := "a number is out of range") (names := exN) hx hb hlt hown (by decide +kernel) (by decide +kernel) (hts (.classLink RX3 56 "java/lang/IllegalArgumentException") (by decide +kernel)) (hts (.initialized "java/lang/IllegalArgumentException") (by decide +kernel)) hsa (th_hat hT (fun w h => hts w (List.mem_cons_of_mem _ (List.mem_append_left _ (List.mem_append_right _ h)))) th_i1) (th_good th_i1) hT.2.2.2.1 hT.2.2.2.2 hS (hl.1.trans hml.symm) dX3_squareBits_20 dX3_squareBits_23 dX3_squareBits_24 dX3_squareBits_26 dX3_squareBits_29 (fun x h => (hnt x h).elim) (by decide) (Nat.le_of_ble_eq_true rfl) (Nat.le_of_ble_eq_true rfl) (Nat.le_of_ble_eq_true rfl) hlocks (fun t ha h1 h2 => ⟨_, ⟨rfl, (by omega)⟩, rfl, th_F hS h1 h2⟩) hS.2.2 (Nat.le_of_ble_eq_true rfl) (Nat.le_of_ble_eq_true rfl)
  · skip
    have g5 : (1 : Int) ≤ p0.toInt ∧ p0.toInt ≤ (20 : Int) := bI_t hw2 c3
    have zg5 : r1 = 1 := bI_t1 hw2 g5
    refine lv_iload_n hx hb dX3_squareBits_10 rfl (lv_at hl 2 rfl) ?_
    refine lv_iconst (v := 5) hx hb dX3_squareBits_11 (by decide) ?_
    refine lv_bipush (v := 60) hx hb dX3_squareBits_12 (by decide) ?_
    refine va_calli (va_runS (As := [.int p1, .int 5, .int 60]) (rest := []) ⟨hx, hb, hml, hown, hts⟩ (k_isWithin l p1 5 60 (5) (60) (by decide) (by decide)) (va_cwS 3 hts gX3_squareBits_X3_isWithin rfl rfl rfl (by decide +kernel) ⟨Nat.le_of_ble_eq_true rfl, Nat.le_of_ble_eq_true rfl⟩) ⟨fun a U g mk q => q, fun U hU hW => ⟨rfl, trivial⟩⟩ rfl rfl hl.1 rfl (lv_room (Nat.le_of_ble_eq_true rfl)) dX3_squareBits_14 ⟨(Nat.le_of_ble_eq_true rfl), (Nat.le_of_ble_eq_true rfl)⟩) hS (fun q _ h => h.elim) (fun q h => h.elim) (fun r6 u t H locs ht hvm hw7 hB hz1 hk1 hS => ?_)
    have hP := kp_P hP hk1
    have hP : va_P (dC, dI) vwCl (wX a cI cS f) H := hP
    have hD : va_D A (wX a cI cS f) := hD
    have hw7 : r6 = bI ((5 : Int) ≤ p1.toInt ∧ p1.toInt ≤ (60 : Int)) := hw7
    refine lv_if_ne (tgt := 30) hx hb dX3_squareBits_17 (by decide) (fun c8 => ?_) (fun c8 => ?_)
    · skip
      have g9 : (5 : Int) ≤ p1.toInt ∧ p1.toInt ≤ (60 : Int) := bI_t hw7 c8
      have zg9 : r6 = 1 := bI_t1 hw7 g9
      refine lv_iload_n hx hb dX3_squareBits_30 rfl (lv_at hl 3 rfl) ?_
      refine lv_if_eq (tgt := 40) hx hb dX3_squareBits_31 (by decide) (fun c10 => ?_) (fun c10 => ?_)
      · skip
        refine lv_ldc2d hx hb hown (hts (.constantDouble RX3 258 4587366580439587226) (by decide +kernel)) dX3_squareBits_40 ?_
        obtain ⟨j, hj, hjj⟩ := toN (p := p0) (k := 20) (by omega) (by omega) (by decide)
        obtain ⟨k, hk, hkk⟩ := toN (p := p1) (k := 60) (by omega) (by omega) (by decide)
        subst hjj
        subst hkk
        obtain ⟨ht1, ht2, ht3, ht4, ht5, ht6⟩ := sq_tab false hj hk
        refine lv_dstore (lv' := [(4, .double 4587366580439587226), (0, .ref (a 0)), (1, .int (nI j)), (2, .int (nI k)), (3, .int p2)]) hx hb dX3_squareBits_43 hl (by decide) rfl (fun ls hl => ?_)
        refine lv_aload_n hx hb dX3_squareBits_45 rfl (lv_at hl 1 rfl) ?_
        refine va_get (D := (dC, dI)) (ci := 7) (v := .ref (a 1)) (C := RX3) (T := TX3) (N := 10) hx hb hts (by decide +kernel) hown hK hP 0 rfl rfl 0 (by decide) (hts (.fieldLink RX3 10 "Snowpalace" "sky" "LSnowpalace$Sky;") (by decide +kernel)) (fun _ h9 => h9) rfl dX3_squareBits_46 ?_
        refine lv_aload_n hx hb dX3_squareBits_49 rfl (lv_at hl 1 rfl) ?_
        refine va_get (D := (dC, dI)) (ci := 7) (v := .int 0) (C := RX3) (T := TX3) (N := 10) hx hb hts (by decide +kernel) hown hK hP 0 rfl rfl 4 (by decide) (hts (.fieldLink RX3 33 "Snowpalace" "clock" "I") (by decide +kernel)) (fun _ h9 => h9) rfl dX3_squareBits_50 ?_
        refine va_calli (va_runV (As := [.int 0]) (rest := []) ⟨hx, hb, hml, hown, hts⟩ (k_warmthOf l dC dI _ a cI f hF 0 (by omega)) (cwV 1 hts gX3_squareBits_X2_warmthOf rfl rfl rfl (by decide +kernel) ⟨Nat.le_of_ble_eq_true rfl, Nat.le_of_ble_eq_true rfl⟩) ⟨fb_PN, va_recv hK hP (ci := 6) (q0 := 1) rfl rfl, fun U hU hW => ⟨rfl, PN.give hP hK hD hN [1, 4, 5] [0] rfl rfl rfl rfl hU hW⟩⟩ rfl rfl hl.1 rfl (lv_room (Nat.le_of_ble_eq_true rfl)) dX3_squareBits_53 ⟨(Nat.le_of_ble_eq_true rfl), (Nat.le_of_ble_eq_true rfl)⟩) hS (fun q _ h => h.elim) (fun q h => h.elim) (fun r11 u t H locs ht hvm hw12 hB hz1 hk1 hS => ?_)
        have hP := kp_P hP hk1
        have hP : va_P (dC, dI) vwCl (wX a cI cS f) H := hP
        have hD : va_D A (wX a cI cS f) := hD
        obtain rfl : r11 = (-150) := (show r11 = w0 0 from hw12).trans (by decide)
        refine lv_if_le (tgt := 67) hx hb dX3_squareBits_56 (by decide) (fun _ => ?_) (fun cx => by first | exact absurd (by decide) cx | exact absurd cx (by decide))
        refine lv_iload_n hx hb dX3_squareBits_67 rfl (lv_at hl 2 rfl) ?_
        refine lv_i2d hx hb dX3_squareBits_68 ?_
        refine lv_dload hx hb dX3_squareBits_69 (lv_at hl 0 rfl) ?_
        refine lv_iload_n hx hb dX3_squareBits_71 rfl (lv_at hl 3 rfl) ?_
        refine lv_i2d hx hb dX3_squareBits_72 ?_
        refine lv_dmul hx hb dX3_squareBits_73 (n64b_of ht1) ?_
        refine lv_dsub hx hb dX3_squareBits_74 (n64b_of ht2) ?_
        refine lv_dstore (lv' := [(6, .double (FP.dsub (FP.i2d (nI j)) (FP.dmul 4587366580439587226 (FP.i2d (nI k))))), (4, .double 4587366580439587226), (0, .ref (a 0)), (1, .int (nI j)), (2, .int (nI k)), (3, .int p2)]) hx hb dX3_squareBits_75 hl (by decide) rfl (fun ls hl => ?_)
        refine lv_dload hx hb dX3_squareBits_77 (lv_at hl 0 rfl) ?_
        refine lv_dconst0 hx hb dX3_squareBits_79 ?_
        refine lv_dcmp hx hb dX3_squareBits_80 ?_
        refine lv_if_le (tgt := 93) hx hb dX3_squareBits_81 (by decide) (fun c13 => ?_) (fun c13 => ?_)
        · skip
          have hnp : ¬ pos (sqx false j k) = true := fun z => pos_le.mp z c13
          refine lv_dconst0 hx hb dX3_squareBits_93 ?_
          have hFc := va_free (wc := []) hD hS hA [] rfl
          refine va_calll (va_runS (As := [.double FP.dconst0]) (rest := []) ⟨hx, hb, hml, hown, hts⟩ (k_bits l dC dI _ FP.dconst0 (fun z => absurd (z.symm.trans sq_z) (by decide))) (va_cwS 1 hts gX3_squareBits_X3_bitsOfDouble rfl rfl rfl (by decide +kernel) ⟨Nat.le_of_ble_eq_true rfl, Nat.le_of_ble_eq_true rfl⟩) ⟨fb_PW, fun U hU hW => ⟨rfl, PW.give hP hK hD [] [] rfl rfl rfl rfl hU hW⟩⟩ rfl rfl hl.1 rfl (lv_room (Nat.le_of_ble_eq_true rfl)) dX3_squareBits_94 ⟨(Nat.le_of_ble_eq_true rfl), (Nat.le_of_ble_eq_true rfl)⟩) hS (fun q _ h => hFc q h) hFc (fun r14 u t H locs ht hvm hw15 hB hz1 hk1 hS => ?_)
          obtain ⟨hP, hD⟩ := aft0 [] [0, 1, 2, 3, 4, 5, 6, 7, 8, 9, 10] hP hD rfl (wr := [((a 0), .inr (7, [.ref (a 1), .ref (a 2), .ref (a 3), .int 0, .int 0, .int 0, .int 0, .int 0, .int 0, .int 0])), ((a 1), .inr (6, [.ref (a 4), .ref (a 5), .ref (a 6), .ref (a 7)])), ((a 2), .inr (4, [.ref (a 8), .ref (a 9), .ref (a 10)])), ((a 3), .inl (cS, 3, .inr (.inr (.inr (.inr (fun _ => none)))))), ((a 4), .inl (cI, 21, .inl (f 0))), ((a 5), .inl (cI, 21, .inl (f 1))), ((a 6), .inl (cI, 21, .inl (f 2))), ((a 7), .inl (cI, 21, .inl (f 3))), ((a 8), .inl (cI, 4, .inl (fun _ => 0))), ((a 9), .inl (cI, 4, .inl (fun _ => 0))), ((a 10), .inl (cI, 4, .inl (f 4)))]) rfl rfl (by decide) hFc hk1
          have hP : va_P (dC, dI) vwCl (wX a cI cS f) H := hP
          have hD : va_D A (wX a cI cS f) := hD
          refine vx_ret ?_
          refine W.widen (k := 1) (n := 6) (Nat.le_of_ble_eq_true rfl) (Nat.le_of_ble_eq_true rfl) ?_
          exact W.lret (v := r14) hx hb hr (fun t ht hW => ⟨⟨r14, (), rfl, ⟨by omega, by rw [if_pos c10, nI_clamp (by omega), nI_clamp (by omega)]; exact sq_r0 hnp hw15⟩, trivial⟩, hS.F ht⟩) hS.2.2 dX3_squareBits_97
        · skip
          have hpp : pos (sqx false j k) = true := pos_le.mpr c13
          refine lv_ldc2d hx hb hown (hts (.constantDouble RX3 260 4626215756725191967) (by decide +kernel)) dX3_squareBits_84 ?_
          refine lv_dload hx hb dX3_squareBits_87 (lv_at hl 0 rfl) ?_
          refine lv_dmul hx hb dX3_squareBits_89 (n64b_of ht3) ?_
          refine lv_goto (tgt := 94) hx hb dX3_squareBits_90 (by decide) ?_
          have hFc := va_free (wc := []) hD hS hA [] rfl
          refine va_calll (va_runS (As := [.double (FP.dmul 4626215756725191967 (FP.dsub (FP.i2d (nI j)) (FP.dmul 4587366580439587226 (FP.i2d (nI k)))))]) (rest := []) ⟨hx, hb, hml, hown, hts⟩ (k_bits l dC dI _ (FP.dmul 4626215756725191967 (FP.dsub (FP.i2d (nI j)) (FP.dmul 4587366580439587226 (FP.i2d (nI k))))) (fun _ => (ht6 hpp).1)) (va_cwS 1 hts gX3_squareBits_X3_bitsOfDouble rfl rfl rfl (by decide +kernel) ⟨Nat.le_of_ble_eq_true rfl, Nat.le_of_ble_eq_true rfl⟩) ⟨fb_PW, fun U hU hW => ⟨rfl, PW.give hP hK hD [] [] rfl rfl rfl rfl hU hW⟩⟩ rfl rfl hl.1 rfl (lv_room (Nat.le_of_ble_eq_true rfl)) dX3_squareBits_94 ⟨(Nat.le_of_ble_eq_true rfl), (Nat.le_of_ble_eq_true rfl)⟩) hS (fun q _ h => hFc q h) hFc (fun r16 u t H locs ht hvm hw17 hB hz1 hk1 hS => ?_)
          obtain ⟨hP, hD⟩ := aft0 [] [0, 1, 2, 3, 4, 5, 6, 7, 8, 9, 10] hP hD rfl (wr := [((a 0), .inr (7, [.ref (a 1), .ref (a 2), .ref (a 3), .int 0, .int 0, .int 0, .int 0, .int 0, .int 0, .int 0])), ((a 1), .inr (6, [.ref (a 4), .ref (a 5), .ref (a 6), .ref (a 7)])), ((a 2), .inr (4, [.ref (a 8), .ref (a 9), .ref (a 10)])), ((a 3), .inl (cS, 3, .inr (.inr (.inr (.inr (fun _ => none)))))), ((a 4), .inl (cI, 21, .inl (f 0))), ((a 5), .inl (cI, 21, .inl (f 1))), ((a 6), .inl (cI, 21, .inl (f 2))), ((a 7), .inl (cI, 21, .inl (f 3))), ((a 8), .inl (cI, 4, .inl (fun _ => 0))), ((a 9), .inl (cI, 4, .inl (fun _ => 0))), ((a 10), .inl (cI, 4, .inl (f 4)))]) rfl rfl (by decide) hFc hk1
          have hP : va_P (dC, dI) vwCl (wX a cI cS f) H := hP
          have hD : va_D A (wX a cI cS f) := hD
          refine vx_ret ?_
          refine W.widen (k := 1) (n := 6) (Nat.le_of_ble_eq_true rfl) (Nat.le_of_ble_eq_true rfl) ?_
          exact W.lret (v := r16) hx hb hr (fun t ht hW => ⟨⟨r16, (), rfl, ⟨by omega, by rw [if_pos c10, nI_clamp (by omega), nI_clamp (by omega)]; exact sq_r hpp ht4 (ht6 hpp).2 hw17⟩, trivial⟩, hS.F ht⟩) hS.2.2 dX3_squareBits_97
      · skip
        refine lv_ldc2d hx hb hown (hts (.constantDouble RX3 256 4591870180066957722) (by decide +kernel)) dX3_squareBits_34 ?_
        refine lv_goto (tgt := 43) hx hb dX3_squareBits_37 (by decide) ?_
        obtain ⟨j, hj, hjj⟩ := toN (p := p0) (k := 20) (by omega) (by omega) (by decide)
        obtain ⟨k, hk, hkk⟩ := toN (p := p1) (k := 60) (by omega) (by omega) (by decide)
        subst hjj
        subst hkk
        obtain ⟨ht1, ht2, ht3, ht4, ht5, ht6⟩ := sq_tab true hj hk
        refine lv_dstore (lv' := [(4, .double 4591870180066957722), (0, .ref (a 0)), (1, .int (nI j)), (2, .int (nI k)), (3, .int p2)]) hx hb dX3_squareBits_43 hl (by decide) rfl (fun ls hl => ?_)
        refine lv_aload_n hx hb dX3_squareBits_45 rfl (lv_at hl 1 rfl) ?_
        refine va_get (D := (dC, dI)) (ci := 7) (v := .ref (a 1)) (C := RX3) (T := TX3) (N := 10) hx hb hts (by decide +kernel) hown hK hP 0 rfl rfl 0 (by decide) (hts (.fieldLink RX3 10 "Snowpalace" "sky" "LSnowpalace$Sky;") (by decide +kernel)) (fun _ h9 => h9) rfl dX3_squareBits_46 ?_
        refine lv_aload_n hx hb dX3_squareBits_49 rfl (lv_at hl 1 rfl) ?_
        refine va_get (D := (dC, dI)) (ci := 7) (v := .int 0) (C := RX3) (T := TX3) (N := 10) hx hb hts (by decide +kernel) hown hK hP 0 rfl rfl 4 (by decide) (hts (.fieldLink RX3 33 "Snowpalace" "clock" "I") (by decide +kernel)) (fun _ h9 => h9) rfl dX3_squareBits_50 ?_
        refine va_calli (va_runV (As := [.int 0]) (rest := []) ⟨hx, hb, hml, hown, hts⟩ (k_warmthOf l dC dI _ a cI f hF 0 (by omega)) (cwV 1 hts gX3_squareBits_X2_warmthOf rfl rfl rfl (by decide +kernel) ⟨Nat.le_of_ble_eq_true rfl, Nat.le_of_ble_eq_true rfl⟩) ⟨fb_PN, va_recv hK hP (ci := 6) (q0 := 1) rfl rfl, fun U hU hW => ⟨rfl, PN.give hP hK hD hN [1, 4, 5] [0] rfl rfl rfl rfl hU hW⟩⟩ rfl rfl hl.1 rfl (lv_room (Nat.le_of_ble_eq_true rfl)) dX3_squareBits_53 ⟨(Nat.le_of_ble_eq_true rfl), (Nat.le_of_ble_eq_true rfl)⟩) hS (fun q _ h => h.elim) (fun q h => h.elim) (fun r18 u t H locs ht hvm hw19 hB hz1 hk1 hS => ?_)
        have hP := kp_P hP hk1
        have hP : va_P (dC, dI) vwCl (wX a cI cS f) H := hP
        have hD : va_D A (wX a cI cS f) := hD
        obtain rfl : r18 = (-150) := (show r18 = w0 0 from hw19).trans (by decide)
        refine lv_if_le (tgt := 67) hx hb dX3_squareBits_56 (by decide) (fun _ => ?_) (fun cx => by first | exact absurd (by decide) cx | exact absurd cx (by decide))
        refine lv_iload_n hx hb dX3_squareBits_67 rfl (lv_at hl 2 rfl) ?_
        refine lv_i2d hx hb dX3_squareBits_68 ?_
        refine lv_dload hx hb dX3_squareBits_69 (lv_at hl 0 rfl) ?_
        refine lv_iload_n hx hb dX3_squareBits_71 rfl (lv_at hl 3 rfl) ?_
        refine lv_i2d hx hb dX3_squareBits_72 ?_
        refine lv_dmul hx hb dX3_squareBits_73 (n64b_of ht1) ?_
        refine lv_dsub hx hb dX3_squareBits_74 (n64b_of ht2) ?_
        refine lv_dstore (lv' := [(6, .double (FP.dsub (FP.i2d (nI j)) (FP.dmul 4591870180066957722 (FP.i2d (nI k))))), (4, .double 4591870180066957722), (0, .ref (a 0)), (1, .int (nI j)), (2, .int (nI k)), (3, .int p2)]) hx hb dX3_squareBits_75 hl (by decide) rfl (fun ls hl => ?_)
        refine lv_dload hx hb dX3_squareBits_77 (lv_at hl 0 rfl) ?_
        refine lv_dconst0 hx hb dX3_squareBits_79 ?_
        refine lv_dcmp hx hb dX3_squareBits_80 ?_
        refine lv_if_le (tgt := 93) hx hb dX3_squareBits_81 (by decide) (fun c20 => ?_) (fun c20 => ?_)
        · skip
          have hnp : ¬ pos (sqx true j k) = true := fun z => pos_le.mp z c20
          refine lv_dconst0 hx hb dX3_squareBits_93 ?_
          have hFc := va_free (wc := []) hD hS hA [] rfl
          refine va_calll (va_runS (As := [.double FP.dconst0]) (rest := []) ⟨hx, hb, hml, hown, hts⟩ (k_bits l dC dI _ FP.dconst0 (fun z => absurd (z.symm.trans sq_z) (by decide))) (va_cwS 1 hts gX3_squareBits_X3_bitsOfDouble rfl rfl rfl (by decide +kernel) ⟨Nat.le_of_ble_eq_true rfl, Nat.le_of_ble_eq_true rfl⟩) ⟨fb_PW, fun U hU hW => ⟨rfl, PW.give hP hK hD [] [] rfl rfl rfl rfl hU hW⟩⟩ rfl rfl hl.1 rfl (lv_room (Nat.le_of_ble_eq_true rfl)) dX3_squareBits_94 ⟨(Nat.le_of_ble_eq_true rfl), (Nat.le_of_ble_eq_true rfl)⟩) hS (fun q _ h => hFc q h) hFc (fun r21 u t H locs ht hvm hw22 hB hz1 hk1 hS => ?_)
          obtain ⟨hP, hD⟩ := aft0 [] [0, 1, 2, 3, 4, 5, 6, 7, 8, 9, 10] hP hD rfl (wr := [((a 0), .inr (7, [.ref (a 1), .ref (a 2), .ref (a 3), .int 0, .int 0, .int 0, .int 0, .int 0, .int 0, .int 0])), ((a 1), .inr (6, [.ref (a 4), .ref (a 5), .ref (a 6), .ref (a 7)])), ((a 2), .inr (4, [.ref (a 8), .ref (a 9), .ref (a 10)])), ((a 3), .inl (cS, 3, .inr (.inr (.inr (.inr (fun _ => none)))))), ((a 4), .inl (cI, 21, .inl (f 0))), ((a 5), .inl (cI, 21, .inl (f 1))), ((a 6), .inl (cI, 21, .inl (f 2))), ((a 7), .inl (cI, 21, .inl (f 3))), ((a 8), .inl (cI, 4, .inl (fun _ => 0))), ((a 9), .inl (cI, 4, .inl (fun _ => 0))), ((a 10), .inl (cI, 4, .inl (f 4)))]) rfl rfl (by decide) hFc hk1
          have hP : va_P (dC, dI) vwCl (wX a cI cS f) H := hP
          have hD : va_D A (wX a cI cS f) := hD
          refine vx_ret ?_
          refine W.widen (k := 1) (n := 6) (Nat.le_of_ble_eq_true rfl) (Nat.le_of_ble_eq_true rfl) ?_
          exact W.lret (v := r21) hx hb hr (fun t ht hW => ⟨⟨r21, (), rfl, ⟨by omega, by rw [if_neg c10, nI_clamp (by omega), nI_clamp (by omega)]; exact sq_r0 hnp hw22⟩, trivial⟩, hS.F ht⟩) hS.2.2 dX3_squareBits_97
        · skip
          have hpp : pos (sqx true j k) = true := pos_le.mpr c20
          refine lv_ldc2d hx hb hown (hts (.constantDouble RX3 260 4626215756725191967) (by decide +kernel)) dX3_squareBits_84 ?_
          refine lv_dload hx hb dX3_squareBits_87 (lv_at hl 0 rfl) ?_
          refine lv_dmul hx hb dX3_squareBits_89 (n64b_of ht3) ?_
          refine lv_goto (tgt := 94) hx hb dX3_squareBits_90 (by decide) ?_
          have hFc := va_free (wc := []) hD hS hA [] rfl
          refine va_calll (va_runS (As := [.double (FP.dmul 4626215756725191967 (FP.dsub (FP.i2d (nI j)) (FP.dmul 4591870180066957722 (FP.i2d (nI k)))))]) (rest := []) ⟨hx, hb, hml, hown, hts⟩ (k_bits l dC dI _ (FP.dmul 4626215756725191967 (FP.dsub (FP.i2d (nI j)) (FP.dmul 4591870180066957722 (FP.i2d (nI k))))) (fun _ => (ht6 hpp).1)) (va_cwS 1 hts gX3_squareBits_X3_bitsOfDouble rfl rfl rfl (by decide +kernel) ⟨Nat.le_of_ble_eq_true rfl, Nat.le_of_ble_eq_true rfl⟩) ⟨fb_PW, fun U hU hW => ⟨rfl, PW.give hP hK hD [] [] rfl rfl rfl rfl hU hW⟩⟩ rfl rfl hl.1 rfl (lv_room (Nat.le_of_ble_eq_true rfl)) dX3_squareBits_94 ⟨(Nat.le_of_ble_eq_true rfl), (Nat.le_of_ble_eq_true rfl)⟩) hS (fun q _ h => hFc q h) hFc (fun r23 u t H locs ht hvm hw24 hB hz1 hk1 hS => ?_)
          obtain ⟨hP, hD⟩ := aft0 [] [0, 1, 2, 3, 4, 5, 6, 7, 8, 9, 10] hP hD rfl (wr := [((a 0), .inr (7, [.ref (a 1), .ref (a 2), .ref (a 3), .int 0, .int 0, .int 0, .int 0, .int 0, .int 0, .int 0])), ((a 1), .inr (6, [.ref (a 4), .ref (a 5), .ref (a 6), .ref (a 7)])), ((a 2), .inr (4, [.ref (a 8), .ref (a 9), .ref (a 10)])), ((a 3), .inl (cS, 3, .inr (.inr (.inr (.inr (fun _ => none)))))), ((a 4), .inl (cI, 21, .inl (f 0))), ((a 5), .inl (cI, 21, .inl (f 1))), ((a 6), .inl (cI, 21, .inl (f 2))), ((a 7), .inl (cI, 21, .inl (f 3))), ((a 8), .inl (cI, 4, .inl (fun _ => 0))), ((a 9), .inl (cI, 4, .inl (fun _ => 0))), ((a 10), .inl (cI, 4, .inl (f 4)))]) rfl rfl (by decide) hFc hk1
          have hP : va_P (dC, dI) vwCl (wX a cI cS f) H := hP
          have hD : va_D A (wX a cI cS f) := hD
          refine vx_ret ?_
          refine W.widen (k := 1) (n := 6) (Nat.le_of_ble_eq_true rfl) (Nat.le_of_ble_eq_true rfl) ?_
          exact W.lret (v := r23) hx hb hr (fun t ht hW => ⟨⟨r23, (), rfl, ⟨by omega, by rw [if_neg c10, nI_clamp (by omega), nI_clamp (by omega)]; exact sq_r hpp ht4 (ht6 hpp).2 hw24⟩, trivial⟩, hS.F ht⟩) hS.2.2 dX3_squareBits_97
    · skip
      have g25 : ¬ ((5 : Int) ≤ p1.toInt ∧ p1.toInt ≤ (60 : Int)) := bI_f hw7 c8
      have zg25 : r6 = 0 := bI_f0 hw7 g25
      obtain ⟨sa, hsa⟩ := hT.2.1 (58, "a number is out of range") (by decide +kernel)
      exact vx_throwS (A := A) (own := RX3) (cls := "java/lang/IllegalArgumentException") (text := "a number is out of range") (names := exN) hx hb hlt hown (by decide +kernel) (by decide +kernel) (hts (.classLink RX3 56 "java/lang/IllegalArgumentException") (by decide +kernel)) (hts (.initialized "java/lang/IllegalArgumentException") (by decide +kernel)) hsa (th_hat hT (fun w h => hts w (List.mem_cons_of_mem _ (List.mem_append_left _ (List.mem_append_right _ h)))) th_i1) (th_good th_i1) hT.2.2.2.1 hT.2.2.2.2 hS (hl.1.trans hml.symm) dX3_squareBits_20 dX3_squareBits_23 dX3_squareBits_24 dX3_squareBits_26 dX3_squareBits_29 (fun x h => (hnt x h).elim) (by decide) (Nat.le_of_ble_eq_true rfl) (Nat.le_of_ble_eq_true rfl) (Nat.le_of_ble_eq_true rfl) hlocks (fun t ha h1 h2 => ⟨_, ⟨rfl, (by omega)⟩, rfl, th_F hS h1 h2⟩) hS.2.2 (Nat.le_of_ble_eq_true rfl) (Nat.le_of_ble_eq_true rfl)

