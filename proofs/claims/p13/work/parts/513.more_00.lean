set_option maxHeartbeats 4000000 in
set_option maxRecDepth 100000 in
theorem rk_highestPlace (l : Launch) (dC : Nat → ClassId) (dI : Nat → Nat → Nat) (kA : Nat → ClassId) (eD b : Nat) (g : Gh) (o : Nat) (i jx : Nat) (hto : tg g o = 12 + 64 * i) (hjx : jx < 8) : Met l yX1_highestPlace wsX1_highestPlace ({ frames := 1, cells := 0, slots := 0, locals := 21 }) (va_Pc [.ref o, .int (nI jx)] (CX (dC, dI) kA eD b g)) (va_Qi (fun (r : Int32) (u : Unit) => r = -1 ∨ ∃ q, q < 48 ∧ r = nI q) (fun (u : Unit) t => CX (dC, dI) kA eD b g t) (fun q => b ≤ q)) 0 0 (fun q => b ≤ q) := by
  refine Met.ofW (cc := cX1_highestPlace) (maxL := 3) (ret := (some .int)) (by decide +kernel) rfl ?_
  intro p e s m args below meth c s₁ B hml hv
  obtain ⟨rfl, hb0, hM, hK, hG, hE⟩ := hv
  have hx := B.exec
  have hb := B.bytes
  have hr := B.returns
  have hts := atoms_spec (ws := wsX1_highestPlace) B.pre
  have hown : s.vm.findClass RX1 = some m.cls := findClass_of_methodNamed B.named
  have hlocks := B.notSynchronized
  have hT := hE.1
  have hN := hE.2.2.2.2.2.2.2.1
  have hS : va_S (fun q => b ≤ q) s.heap s.heap [] := va_S.rf
  have hl := lv_entry ([.ref o, .int (nI jx)]) (n := 3) (Nat.le_of_ble_eq_true rfl)
  rw [lg_entry_eq]
  generalize (lg_sl ([.ref o, .int (nI jx)]) ++ List.replicate (3 - (lg_sl ([.ref o, .int (nI jx)])).length) Slot.unset).toArray = ls at hl ⊢
  have hl : lv_has ls 3 [(0, .ref o), (1, .int (nI jx))] := hl
  generalize ([.ref o, .int (nI jx)] : List Value).toArray = args at hts ⊢
  refine W.q (fun Q hQ => ?_)
  refine lv_iconst (v := 5) hx hb dX1_highestPlace_0 (by decide) ?_
  refine lv_istore_n (lv' := [(2, .int 5), (0, .ref o), (1, .int (nI jx))]) hx hb dX1_highestPlace_1 rfl hl (by decide) rfl (fun ls hl => ?_)
  have lp2 : ∀ (j1 : Nat) , j1 ≤ 6 → ∀ (H : Heap) (locs : List Loc) (ls : Array Slot), TM (dC, dI) kA b g H → va_S (fun q => b ≤ q) s.heap H locs → lv_has ls 3 [(2, .int (nI j1 - 1)), (0, .ref o), (1, .int (nI jx))] → W p l e (headSpec wsX1_highestPlace ({ frames := 1, cells := 0, slots := 0, locals := 21 })).room s m args below meth c H locs 0 0 Q (F0 m 2 ls []) := by
    intro j1
    induction j1 with
    | zero =>
      intro hj1 H locs ls hM hS hl
      rw [show (nI 0 - 1 : Int32) = -1 by decide] at hl
      have hl : lv_has ls 3 [(2, .int (-1)), (0, .ref o), (1, .int (nI jx))] := hl
      refine lv_iload_n hx hb dX1_highestPlace_2 rfl (lv_at hl 0 rfl) ?_
      refine lv_if_lt (tgt := 30) hx hb dX1_highestPlace_3 (by decide) (fun _ => ?_) (fun cx => by first | exact absurd (by decide) cx | exact absurd cx (by decide))
      refine lv_iconst (v := (-1)) hx hb dX1_highestPlace_30 (by decide) ?_
      subst hQ
      refine W.widen (k := 0) (n := 0) (Nat.le_of_ble_eq_true rfl) (Nat.le_of_ble_eq_true rfl) ?_
      exact W.iret (v := (-1)) hx hb hr (fun t ht hW => ⟨⟨(-1), (), rfl, (Or.inl rfl), CX.give hb0 hM hK hG hE hS ht hW⟩, hS.F ht⟩) hS.2.2 dX1_highestPlace_31
    | succ j1 ih4 =>
      intro hj1 H locs ls hM hS hl
      rw [nI_pred j1] at hl
      have hl : lv_has ls 3 [(2, .int (nI j1)), (0, .ref o), (1, .int (nI jx))] := hl
      refine lv_iload_n hx hb dX1_highestPlace_2 rfl (lv_at hl 0 rfl) ?_
      refine lv_if_lt (tgt := 30) hx hb dX1_highestPlace_3 (by decide) (fun c5 => ?_) (fun c5 => ?_)
      · skip
        have k6 : j1 < 0 := (nI_ltI (a := j1) (b := 0) (by omega) (by omega)).mp c5
        refine lv_iconst (v := (-1)) hx hb dX1_highestPlace_30 (by decide) ?_
        subst hQ
        refine W.widen (k := 0) (n := 0) (Nat.le_of_ble_eq_true rfl) (Nat.le_of_ble_eq_true rfl) ?_
        exact W.iret (v := (-1)) hx hb hr (fun t ht hW => ⟨⟨(-1), (), rfl, (Or.inl rfl), CX.give hb0 hM hK hG hE hS ht hW⟩, hS.F ht⟩) hS.2.2 dX1_highestPlace_31
      · skip
        have k7 : ¬ (j1 < 0) := fun z => c5 ((nI_ltI (a := j1) (b := 0) (by omega) (by omega)).mpr z)
        refine lv_aload_n hx hb dX1_highestPlace_6 rfl (lv_at hl 1 rfl) ?_
        refine lv_iload_n hx hb dX1_highestPlace_7 rfl (lv_at hl 2 rfl) ?_
        refine lv_iload_n hx hb dX1_highestPlace_8 rfl (lv_at hl 0 rfl) ?_
        refine va_calli (va_runSN (As := [.int (nI jx), .int (nI j1)]) (rest := [.ref o]) ⟨hx, hb, hml, hown, hts⟩ (rk_placeOf l (nI jx) (nI j1)) (⟨va_cnB 2 hts gX1_highestPlace_X3_placeOf_n96 rfl rfl rfl (hN (.methodLinkNest RX1 96 yX3_placeOf RX3) (by decide +kernel)) (hts (.initialized RX3) (by decide +kernel)) (by decide +kernel) ⟨Nat.le_of_ble_eq_true rfl, Nat.le_of_ble_eq_true rfl⟩, hts (.static yX3_placeOf) (by decide +kernel), trivial⟩) ⟨fun a U g mk q => q, fun U hU hW => ⟨rfl, trivial⟩⟩ rfl rfl hl.1 rfl (lv_room (Nat.le_of_ble_eq_true rfl)) dX1_highestPlace_9 ⟨(Nat.le_of_ble_eq_true rfl), (Nat.le_of_ble_eq_true rfl)⟩) hS (fun q _ h => h.elim) (fun q h => h.elim) (fun r8 u t H locs ht hvm hw9 hB hz1 hk1 hS => ?_)
        have hM := hM.keep (fun p hp => hk1 p hp (fun z => z))
        obtain rfl : r8 = nI (8 * j1 + jx) := hw9.trans (by rw [show (8 : Int32) = nI 8 from rfl]; exact (congrArg (· + nI jx) (pk_mul 8 j1)).trans (nI_add _ _))
        obtain ⟨u10, u11, u12, u13, u14, u15, hP, hf⟩ := o_st (i := i) (q := o) hM (by omega)
        refine va_calli (va_runV (As := [.int (nI (8 * j1 + jx))]) (rest := []) ⟨hx, hb, hml, hown, hts⟩ (rk_has l dC dI kA eD b g o i (nI (8 * j1 + jx)) (by omega)) (cwV 1 hts gX1_highestPlace_X1_has rfl rfl rfl (by decide +kernel) ⟨Nat.le_of_ble_eq_true rfl, Nat.le_of_ble_eq_true rfl⟩) ⟨fb_CX, va_recv hK hP (ci := 5) (q0 := 0) rfl rfl, fun U hU hW => ⟨rfl, CX.give hb0 hM hK hG hE hS hU hW⟩⟩ rfl rfl hl.1 rfl (lv_room (Nat.le_of_ble_eq_true rfl)) dX1_highestPlace_12 ⟨(Nat.le_of_ble_eq_true rfl), (Nat.le_of_ble_eq_true rfl)⟩) hS (fun q _ h => h) (fun q h => h) (fun r16 u t H locs ht hvm hw17 hB hz1 hk1 hS => ?_)
        have hM := hB.back ht
        have hG := hB.2.2.2.1
        refine lv_if_eq (tgt := 24) hx hb dX1_highestPlace_15 (by decide) (fun c18 => ?_) (fun c18 => ?_)
        · skip
          refine lv_iinc (v := ((nI j1) - 1)) (lv' := [(2, .int ((nI j1) - 1)), (0, .ref o), (1, .int (nI jx))]) hx hb dX1_highestPlace_24 hl (k := 0) rfl (i_dec _) (by decide) rfl (fun ls hl => ?_)
          refine lv_goto (tgt := 2) hx hb dX1_highestPlace_27 (by decide) ?_
          exact ih4 (by omega) H _ ls hM hS (lv_sub hl [0, 1, 2] rfl)
        · skip
          obtain ⟨-, hr1, hr2⟩ := hw17.resolve_left c18
          refine lv_iload_n hx hb dX1_highestPlace_18 rfl (lv_at hl 2 rfl) ?_
          refine lv_iload_n hx hb dX1_highestPlace_19 rfl (lv_at hl 0 rfl) ?_
          refine va_calli (va_runSN (As := [.int (nI jx), .int (nI j1)]) (rest := []) ⟨hx, hb, hml, hown, hts⟩ (rk_placeOf l (nI jx) (nI j1)) (⟨va_cnB 2 hts gX1_highestPlace_X3_placeOf_n96 rfl rfl rfl (hN (.methodLinkNest RX1 96 yX3_placeOf RX3) (by decide +kernel)) (hts (.initialized RX3) (by decide +kernel)) (by decide +kernel) ⟨Nat.le_of_ble_eq_true rfl, Nat.le_of_ble_eq_true rfl⟩, hts (.static yX3_placeOf) (by decide +kernel), trivial⟩) ⟨fun a U g mk q => q, fun U hU hW => ⟨rfl, trivial⟩⟩ rfl rfl hl.1 rfl (lv_room (Nat.le_of_ble_eq_true rfl)) dX1_highestPlace_20 ⟨(Nat.le_of_ble_eq_true rfl), (Nat.le_of_ble_eq_true rfl)⟩) hS (fun q _ h => h.elim) (fun q h => h.elim) (fun r19 u t H locs ht hvm hw20 hB hz1 hk1 hS => ?_)
          have hM := hM.keep (fun p hp => hk1 p hp (fun z => z))
          obtain rfl : r19 = nI (8 * j1 + jx) := hw20.trans (by rw [show (8 : Int32) = nI 8 from rfl]; exact (congrArg (· + nI jx) (pk_mul 8 j1)).trans (nI_add _ _))
          subst hQ
          refine W.widen (k := 0) (n := 0) (Nat.le_of_ble_eq_true rfl) (Nat.le_of_ble_eq_true rfl) ?_
          exact W.iret (v := (nI (8 * j1 + jx))) hx hb hr (fun t ht hW => ⟨⟨(nI (8 * j1 + jx)), (), rfl, (Or.inr ⟨_, by omega, rfl⟩), CX.give hb0 hM hK hG hE hS ht hW⟩, hS.F ht⟩) hS.2.2 dX1_highestPlace_23
  exact lp2 6 (by omega) s.heap _ ls hM hS (by have hl9 := lv_sub hl [0, 1, 2] rfl; exact hl9)

set_option maxHeartbeats 4000000 in
set_option maxRecDepth 100000 in
theorem rk_peopleOn (l : Launch) (dC : Nat → ClassId) (dI : Nat → Nat → Nat) (kA : Nat → ClassId) (eD b : Nat) (g : Gh) (o : Nat) (i : Nat) (pl wm : Int32) (hto : tg g o = 12 + 64 * i)  : Met l yX1_peopleOn wsX1_peopleOn ({ frames := 4, cells := 0, slots := 0, locals := 94 }) (va_Pc [.ref o, .int pl, .int wm] (CX (dC, dI) kA eD b g)) (va_Qi (fun (r : Int32) (u : Unit) => True) (fun (u : Unit) t => CX (dC, dI) kA eD b g t) (fun q => b ≤ q)) 0 0 (fun q => b ≤ q) := by
  refine Met.ofW (cc := cX1_peopleOn) (maxL := 6) (ret := (some .int)) (by decide +kernel) rfl ?_
  intro p e s m args below meth c s₁ B hml hv
  obtain ⟨rfl, hb0, hM, hK, hG, hE⟩ := hv
  have hx := B.exec
  have hb := B.bytes
  have hr := B.returns
  have hts := atoms_spec (ws := wsX1_peopleOn) B.pre
  have hown : s.vm.findClass RX1 = some m.cls := findClass_of_methodNamed B.named
  have hlocks := B.notSynchronized
  have hT := hE.1
  have hN := hE.2.2.2.2.2.2.2.1
  have hS : va_S (fun q => b ≤ q) s.heap s.heap [] := va_S.rf
  have hl := lv_entry ([.ref o, .int pl, .int wm]) (n := 6) (Nat.le_of_ble_eq_true rfl)
  rw [lg_entry_eq]
  generalize (lg_sl ([.ref o, .int pl, .int wm]) ++ List.replicate (6 - (lg_sl ([.ref o, .int pl, .int wm])).length) Slot.unset).toArray = ls at hl ⊢
  have hl : lv_has ls 6 [(0, .ref o), (1, .int pl), (2, .int wm)] := hl
  generalize ([.ref o, .int pl, .int wm] : List Value).toArray = args at hts ⊢
  refine W.q (fun Q hQ => ?_)
  refine lv_iconst (v := 0) hx hb dX1_peopleOn_0 (by decide) ?_
  refine lv_istore_n (lv' := [(3, .int 0), (0, .ref o), (1, .int pl), (2, .int wm)]) hx hb dX1_peopleOn_1 rfl hl (by decide) rfl (fun ls hl => ?_)
  refine lv_bipush (v := 64) hx hb dX1_peopleOn_2 (by decide) ?_
  refine lv_istore (lv' := [(4, .int 64), (3, .int 0), (0, .ref o), (1, .int pl), (2, .int wm)]) hx hb dX1_peopleOn_4 hl (by decide) rfl (fun ls hl => ?_)
  have lp3 : ∀ (n4 j1 : Nat) (x2 : Int32), 0 ≤ j1 → j1 ≤ 64 → j1 < n4 → ∀ (H : Heap) (locs : List Loc) (ls : Array Slot), TM (dC, dI) kA b g H → va_S (fun q => b ≤ q) s.heap H locs → lv_has ls 6 [(4, .int (nI j1)), (3, .int x2), (0, .ref o), (1, .int pl), (2, .int wm)] → W p l e (headSpec wsX1_peopleOn ({ frames := 4, cells := 0, slots := 0, locals := 94 })).room s m args below meth c H locs 0 0 Q (F0 m 6 ls []) := by
    intro n4
    induction n4 with
    | zero => intro j1 x2 h0 h1 h2; omega
    | succ n4 ih5 =>
      intro j1 x2 lj1 hj1 hn4 H locs ls hM hS hl
      refine lv_iload hx hb dX1_peopleOn_6 (lv_at hl 0 rfl) ?_
      refine lv_if_le (tgt := 50) hx hb dX1_peopleOn_8 (by decide) (fun c6 => ?_) (fun c6 => ?_)
      · skip
        have k7 : j1 ≤ 0 := (nI_leI (a := j1) (b := 0) (by omega) (by omega)).mp c6
        refine lv_iload_n hx hb dX1_peopleOn_50 rfl (lv_at hl 1 rfl) ?_
        subst hQ
        refine W.widen (k := 0) (n := 0) (Nat.le_of_ble_eq_true rfl) (Nat.le_of_ble_eq_true rfl) ?_
        exact W.iret (v := x2) hx hb hr (fun t ht hW => ⟨⟨x2, (), rfl, trivial, CX.give hb0 hM hK hG hE hS ht hW⟩, hS.F ht⟩) hS.2.2 dX1_peopleOn_51
      · skip
        have k8 : ¬ (j1 ≤ 0) := fun z => c6 ((nI_leI (a := j1) (b := 0) (by omega) (by omega)).mpr z)
        refine lv_iload_n hx hb dX1_peopleOn_11 rfl (lv_at hl 1 rfl) ?_
        refine lv_iload hx hb dX1_peopleOn_12 (lv_at hl 0 rfl) ?_
        refine lv_iadd hx hb dX1_peopleOn_14 ?_
        refine lv_topi (fun v9 e10 => ?_)
        refine lv_istore (lv' := [(5, .int v9), (4, .int (nI j1)), (3, .int x2), (0, .ref o), (1, .int pl), (2, .int wm)]) hx hb dX1_peopleOn_15 hl (by decide) rfl (fun ls hl => ?_)
        refine lv_iload hx hb dX1_peopleOn_17 (lv_at hl 0 rfl) ?_
        refine lv_bipush (v := 99) hx hb dX1_peopleOn_19 (by decide) ?_
        have jn12 : ∀ (x11 : Int32) (H : Heap) (locs : List Loc) (ls : Array Slot), TM (dC, dI) kA b g H → va_S (fun q => b ≤ q) s.heap H locs → lv_has ls 6 [(5, .int v9), (4, .int (nI j1)), (3, .int x11), (0, .ref o), (1, .int pl), (2, .int wm)] → W p l e (headSpec wsX1_peopleOn ({ frames := 4, cells := 0, slots := 0, locals := 94 })).room s m args below meth c H locs 0 0 Q (F0 m 41 ls []) := by
          intro x11 H locs ls hM hS hl
          refine lv_iload hx hb dX1_peopleOn_41 (lv_at hl 1 rfl) ?_
          refine lv_iconst (v := 2) hx hb dX1_peopleOn_43 (by decide) ?_
          refine lv_idiv hx hb dX1_peopleOn_44 (by decide) ?_
          refine lv_topi (fun v13 e14 => ?_)
          obtain rfl : v13 = nI (j1 / 2) := e14.trans (pk_div (a := j1) (d := 2) (by omega) (by decide) (by decide))
          refine lv_istore (lv' := [(4, .int (nI (j1 / 2))), (5, .int v9), (3, .int x11), (0, .ref o), (1, .int pl), (2, .int wm)]) hx hb dX1_peopleOn_45 hl (by decide) rfl (fun ls hl => ?_)
          refine lv_goto (tgt := 6) hx hb dX1_peopleOn_47 (by decide) ?_
          exact ih5 ((j1 / 2)) x11 (by omega) (by omega) (by omega) H _ ls  hM hS (lv_sub hl [0, 2, 3, 4, 5] rfl)
        refine lv_icmp_gt (tgt := 41) hx hb dX1_peopleOn_21 (by decide) (fun c15 => ?_) (fun c15 => ?_)
        · skip
          have i16 := (Int32.lt_iff_toInt_lt).mp c15
          have ii16 : (99 : Int32).toInt = 99 := by decide
          have i16 := i16
          exact jn12 x2 H _ ls hM hS (lv_sub hl [0, 1, 2, 3, 4, 5] rfl)
        · skip
          have i17 := fun z => c15 ((Int32.lt_iff_toInt_lt).mpr z)
          have ii17 : (99 : Int32).toInt = 99 := by decide
          have i17 : ¬ ((99 : Int32).toInt < (v9 : Int32).toInt) := i17
          refine lv_aload_n hx hb dX1_peopleOn_24 rfl (lv_at hl 3 rfl) ?_
          refine lv_iload_n hx hb dX1_peopleOn_25 rfl (lv_at hl 4 rfl) ?_
          refine lv_bipush (v := 70) hx hb dX1_peopleOn_26 (by decide) ?_
          refine lv_iload hx hb dX1_peopleOn_28 (lv_at hl 0 rfl) ?_
          refine lv_imul hx hb dX1_peopleOn_30 ?_
          refine lv_topi (fun v18 e19 => ?_)
          refine lv_iload_n hx hb dX1_peopleOn_31 rfl (lv_at hl 5 rfl) ?_
          obtain ⟨u20, u21, u22, u23, u24, u25, hP, hf⟩ := o_st (i := i) (q := o) hM (by omega)
          refine va_calli (va_runV (As := [.int pl, .int v18, .int wm]) (rest := []) ⟨hx, hb, hml, hown, hts⟩ (rk_isOpenWith l dC dI kA eD b g o i pl v18 wm (by omega)) (cwV 3 hts gX1_peopleOn_X1_isOpenWith rfl rfl rfl (by decide +kernel) ⟨Nat.le_of_ble_eq_true rfl, Nat.le_of_ble_eq_true rfl⟩) ⟨fb_CX, va_recv hK hP (ci := 5) (q0 := 0) rfl rfl, fun U hU hW => ⟨rfl, CX.give hb0 hM hK hG hE hS hU hW⟩⟩ rfl rfl hl.1 rfl (lv_room (Nat.le_of_ble_eq_true rfl)) dX1_peopleOn_32 ⟨(Nat.le_of_ble_eq_true rfl), (Nat.le_of_ble_eq_true rfl)⟩) hS (fun q _ h => h) (fun q h => h) (fun r26 u t H locs ht hvm hw27 hB hz1 hk1 hS => ?_)
          have hM := hB.back ht
          have hG := hB.2.2.2.1
          refine lv_if_eq (tgt := 41) hx hb dX1_peopleOn_35 (by decide) (fun c28 => ?_) (fun c28 => ?_)
          · skip
            exact jn12 x2 H _ ls hM hS (lv_sub hl [0, 1, 2, 3, 4, 5] rfl)
          · skip
            refine lv_iload hx hb dX1_peopleOn_38 (lv_at hl 0 rfl) ?_
            refine lv_istore_n (lv' := [(3, .int v9), (5, .int v9), (4, .int (nI j1)), (0, .ref o), (1, .int pl), (2, .int wm)]) hx hb dX1_peopleOn_40 rfl hl (by decide) rfl (fun ls hl => ?_)
            exact jn12 v9 H _ ls hM hS (lv_sub hl [1, 2, 0, 3, 4, 5] rfl)
  exact lp3 (64 + 1) 64 0 (by omega) (by omega) (by omega) s.heap _ ls  hM hS (lv_sub hl [0, 1, 2, 3, 4] rfl)

set_option maxHeartbeats 4000000 in
set_option maxRecDepth 100000 in
theorem rk_throughKind (l : Launch)   (kd : Int32)  : Met l yX1_throughKind wsX1_throughKind ({ frames := 0, cells := 0, slots := 0, locals := 0 }) (va_Pc [.int kd] (fun _ => True)) (va_Qf (fun (r : UInt32) (u : Unit) => FM 127 r) (fun (u : Unit) t => True) (fun _ => False)) 0 0 (fun _ => False) := by
  refine Met.ofW (cc := cX1_throughKind) (maxL := 1) (ret := (some .float)) (by decide +kernel) rfl ?_
  intro p e s m args below meth c s₁ B hml hv
  obtain ⟨rfl, -⟩ := hv
  have hx := B.exec
  have hb := B.bytes
  have hr := B.returns
  have hts := atoms_spec (ws := wsX1_throughKind) B.pre
  have hown : s.vm.findClass RX1 = some m.cls := findClass_of_methodNamed B.named
  have hlocks := B.notSynchronized
  have hM : True := trivial
  have hS : va_S (fun _ => False) s.heap s.heap [] := va_S.rf
  have hl := lv_entry ([.int kd]) (n := 1) (Nat.le_of_ble_eq_true rfl)
  rw [lg_entry_eq]
  generalize (lg_sl ([.int kd]) ++ List.replicate (1 - (lg_sl ([.int kd])).length) Slot.unset).toArray = ls at hl ⊢
  have hl : lv_has ls 1 [(0, .int kd)] := hl
  generalize ([.int kd] : List Value).toArray = args at hts ⊢
  refine lv_iload_n hx hb dX1_throughKind_0 rfl (lv_at hl 0 rfl) ?_
  refine lv_bipush (v := 115) hx hb dX1_throughKind_1 (by decide) ?_
  refine lv_icmp_ne (tgt := 9) hx hb dX1_throughKind_3 (by decide) (fun c1 => ?_) (fun c1 => ?_)
  · skip
    refine lv_iload_n hx hb dX1_throughKind_9 rfl (lv_at hl 0 rfl) ?_
    refine lv_bipush (v := 105) hx hb dX1_throughKind_10 (by decide) ?_
    refine lv_icmp_ne (tgt := 20) hx hb dX1_throughKind_12 (by decide) (fun c2 => ?_) (fun c2 => ?_)
    · skip
      refine lv_ldcf hx hb hown (hts (.constantFloat RX1 134 1061158912) (by decide +kernel)) dX1_throughKind_20 ?_
      refine W.widen (k := 0) (n := 0) (Nat.le_of_ble_eq_true rfl) (Nat.le_of_ble_eq_true rfl) ?_
      exact W.fret (v := 1061158912) hx hb hr (fun t ht hW => ⟨⟨1061158912, (), rfl, (show _ % 2147483648 < 127 * 8388608 by decide +kernel), trivial⟩, hS.F ht⟩) hS.2.2 dX1_throughKind_22
    · skip
      refine lv_ldcf hx hb hown (hts (.constantFloat RX1 133 1056964608) (by decide +kernel)) dX1_throughKind_15 ?_
      refine lv_goto (tgt := 22) hx hb dX1_throughKind_17 (by decide) ?_
      refine W.widen (k := 0) (n := 0) (Nat.le_of_ble_eq_true rfl) (Nat.le_of_ble_eq_true rfl) ?_
      exact W.fret (v := 1056964608) hx hb hr (fun t ht hW => ⟨⟨1056964608, (), rfl, (show _ % 2147483648 < 127 * 8388608 by decide +kernel), trivial⟩, hS.F ht⟩) hS.2.2 dX1_throughKind_22
  · skip
    refine lv_ldcf hx hb hown (hts (.constantFloat RX1 132 1048576000) (by decide +kernel)) dX1_throughKind_6 ?_
    refine W.widen (k := 0) (n := 0) (Nat.le_of_ble_eq_true rfl) (Nat.le_of_ble_eq_true rfl) ?_
    exact W.fret (v := 1048576000) hx hb hr (fun t ht hW => ⟨⟨1048576000, (), rfl, (show _ % 2147483648 < 127 * 8388608 by decide +kernel), trivial⟩, hS.F ht⟩) hS.2.2 dX1_throughKind_8

set_option maxHeartbeats 4000000 in
set_option maxRecDepth 100000 in
theorem rk_rayFrom (l : Launch) (dC : Nat → ClassId) (dI : Nat → Nat → Nat) (kA : Nat → ClassId) (eD b : Nat) (g : Gh) (o : Nat) (i : Nat) (lp pl : Int32) (hto : tg g o = 12 + 64 * i)  : Met l yX1_rayFrom wsX1_rayFrom ({ frames := 1, cells := 0, slots := 0, locals := 21 }) (va_Pc [.ref o, .int lp, .int pl] (CX (dC, dI) kA eD b g)) (va_Qf (fun (r : UInt32) (u : Unit) => FM 137 r) (fun (u : Unit) t => CX (dC, dI) kA eD b g t) (fun q => b ≤ q)) 0 0 (fun q => b ≤ q) := by
  refine Met.ofW (cc := cX1_rayFrom) (maxL := 7) (ret := (some .float)) (by decide +kernel) rfl ?_
  intro p e s m args below meth c s₁ B hml hv
  obtain ⟨rfl, hb0, hM, hK, hG, hE⟩ := hv
  have hx := B.exec
  have hb := B.bytes
  have hr := B.returns
  have hts := atoms_spec (ws := wsX1_rayFrom) B.pre
  have hown : s.vm.findClass RX1 = some m.cls := findClass_of_methodNamed B.named
  have hlocks := B.notSynchronized
  have hT := hE.1
  have hN := hE.2.2.2.2.2.2.2.1
  have hS : va_S (fun q => b ≤ q) s.heap s.heap [] := va_S.rf
  have hl := lv_entry ([.ref o, .int lp, .int pl]) (n := 7) (Nat.le_of_ble_eq_true rfl)
  rw [lg_entry_eq]
  generalize (lg_sl ([.ref o, .int lp, .int pl]) ++ List.replicate (7 - (lg_sl ([.ref o, .int lp, .int pl])).length) Slot.unset).toArray = ls at hl ⊢
  have hl : lv_has ls 7 [(0, .ref o), (1, .int lp), (2, .int pl)] := hl
  generalize ([.ref o, .int lp, .int pl] : List Value).toArray = args at hts ⊢
  refine W.q (fun Q hQ => ?_)
  refine lv_fconst1 hx hb dX1_rayFrom_0 ?_
  refine lv_fstore_n (lv' := [(3, .float FP.fconst1), (0, .ref o), (1, .int lp), (2, .int pl)]) hx hb dX1_rayFrom_1 rfl hl (by decide) rfl (fun ls hl => ?_)
  refine lv_iload_n hx hb dX1_rayFrom_2 rfl (lv_at hl 3 rfl) ?_
  refine lv_iload_n hx hb dX1_rayFrom_3 rfl (lv_at hl 2 rfl) ?_
  refine lv_icmp_lt (tgt := 11) hx hb dX1_rayFrom_4 (by decide) (fun c1 => ?_) (fun c1 => ?_)
  · skip
    have i2 := (Int32.lt_iff_toInt_lt).mp c1
    have i2 := i2
    refine lv_iconst (v := (-1)) hx hb dX1_rayFrom_11 (by decide) ?_
    refine lv_istore (lv' := [(4, .int (-1)), (3, .float FP.fconst1), (0, .ref o), (1, .int lp), (2, .int pl)]) hx hb dX1_rayFrom_12 hl (by decide) rfl (fun ls hl => ?_)
    refine lv_iload_n hx hb dX1_rayFrom_14 rfl (lv_at hl 3 rfl) ?_
    refine lv_istore (lv' := [(5, .int lp), (4, .int (-1)), (3, .float FP.fconst1), (0, .ref o), (1, .int lp), (2, .int pl)]) hx hb dX1_rayFrom_15 hl (by decide) rfl (fun ls hl => ?_)
    refine lv_iconst (v := 0) hx hb dX1_rayFrom_17 (by decide) ?_
    refine lv_istore (lv' := [(6, .int 0), (5, .int lp), (4, .int (-1)), (3, .float FP.fconst1), (0, .ref o), (1, .int lp), (2, .int pl)]) hx hb dX1_rayFrom_18 hl (by decide) rfl (fun ls hl => ?_)
    have lp6 : ∀ (n7 j3 : Nat) (x4 : Int32) (x5 : UInt32), 0 ≤ j3 → j3 ≤ 8 → 8 < j3 + n7 → ∀ (H : Heap) (locs : List Loc) (ls : Array Slot), FM (128 + j3) x5 → TM (dC, dI) kA b g H → va_S (fun q => b ≤ q) s.heap H locs → lv_has ls 7 [(6, .int (nI j3)), (5, .int x4), (4, .int (-1)), (3, .float x5), (0, .ref o), (1, .int lp), (2, .int pl)] → W p l e (headSpec wsX1_rayFrom ({ frames := 1, cells := 0, slots := 0, locals := 21 })).room s m args below meth c H locs 0 0 Q (F0 m 20 ls []) := by
      intro n7
      induction n7 with
      | zero => intro j3 x4 x5 h0 h1 h2; omega
      | succ n7 ih8 =>
        intro j3 x4 x5 lj3 hj3 hn7 H locs ls hf9 hM hS hl
        refine lv_iload hx hb dX1_rayFrom_20 (lv_at hl 0 rfl) ?_
        refine lv_bipush (v := 8) hx hb dX1_rayFrom_22 (by decide) ?_
        refine lv_icmp_ge (tgt := 71) hx hb dX1_rayFrom_24 (by decide) (fun c10 => ?_) (fun c10 => ?_)
        · skip
          have k11 : 8 ≤ j3 := (nI_leI (a := 8) (b := j3) (by omega) (by omega)).mp c10
          refine lv_fload_n hx hb dX1_rayFrom_71 rfl (lv_at hl 3 rfl) ?_
          subst hQ
          refine W.widen (k := 0) (n := 0) (Nat.le_of_ble_eq_true rfl) (Nat.le_of_ble_eq_true rfl) ?_
          exact W.fret (v := x5) hx hb hr (fun t ht hW => ⟨⟨x5, (), rfl, ((hf9).mono (by omega)), CX.give hb0 hM hK hG hE hS ht hW⟩, hS.F ht⟩) hS.2.2 dX1_rayFrom_72
        · skip
          have k12 : ¬ (8 ≤ j3) := fun z => c10 ((nI_leI (a := 8) (b := j3) (by omega) (by omega)).mpr z)
          refine lv_aload_n hx hb dX1_rayFrom_27 rfl (lv_at hl 4 rfl) ?_
          refine lv_iload hx hb dX1_rayFrom_28 (lv_at hl 1 rfl) ?_
          obtain ⟨u13, u14, u15, u16, u17, u18, hP, hf⟩ := o_st (i := i) (q := o) hM (by omega)
          refine va_calli (va_runV (As := [.int x4]) (rest := []) ⟨hx, hb, hml, hown, hts⟩ (rk_has l dC dI kA eD b g o i x4 (by omega)) (cwV 1 hts gX1_rayFrom_X1_has rfl rfl rfl (by decide +kernel) ⟨Nat.le_of_ble_eq_true rfl, Nat.le_of_ble_eq_true rfl⟩) ⟨fb_CX, va_recv hK hP (ci := 5) (q0 := 0) rfl rfl, fun U hU hW => ⟨rfl, CX.give hb0 hM hK hG hE hS hU hW⟩⟩ rfl rfl hl.1 rfl (lv_room (Nat.le_of_ble_eq_true rfl)) dX1_rayFrom_30 ⟨(Nat.le_of_ble_eq_true rfl), (Nat.le_of_ble_eq_true rfl)⟩) hS (fun q _ h => h) (fun q h => h) (fun r19 u t H locs ht hvm hw20 hB hz1 hk1 hS => ?_)
          have hM := hB.back ht
          have hG := hB.2.2.2.1
          refine lv_if_eq (tgt := 49) hx hb dX1_rayFrom_33 (by decide) (fun c21 => ?_) (fun c21 => ?_)
          · skip
            refine lv_iload hx hb dX1_rayFrom_49 (lv_at hl 1 rfl) ?_
            refine lv_iload_n hx hb dX1_rayFrom_51 rfl (lv_at hl 6 rfl) ?_
            refine lv_icmp_ne (tgt := 58) hx hb dX1_rayFrom_52 (by decide) (fun c22 => ?_) (fun c22 => ?_)
            · skip
              refine lv_iload hx hb dX1_rayFrom_58 (lv_at hl 1 rfl) ?_
              refine lv_iload hx hb dX1_rayFrom_60 (lv_at hl 2 rfl) ?_
              refine lv_iadd hx hb dX1_rayFrom_62 ?_
              refine lv_topi (fun v23 e24 => ?_)
              refine lv_istore (lv' := [(5, .int v23), (6, .int (nI j3)), (4, .int (-1)), (3, .float x5), (0, .ref o), (1, .int lp), (2, .int pl)]) hx hb dX1_rayFrom_63 hl (by decide) rfl (fun ls hl => ?_)
              refine lv_iinc (v := (nI (j3 + 1))) (lv' := [(6, .int (nI (j3 + 1))), (5, .int v23), (4, .int (-1)), (3, .float x5), (0, .ref o), (1, .int lp), (2, .int pl)]) hx hb dX1_rayFrom_65 hl (k := 1) rfl (nI_add j3 1) (by decide) rfl (fun ls hl => ?_)
              refine lv_goto (tgt := 20) hx hb dX1_rayFrom_68 (by decide) ?_
              exact ih8 ((j3 + 1)) v23 x5 (by omega) (by omega) (by omega) H _ ls ((hf9).mono (by omega)) hM hS (lv_sub hl [0, 1, 2, 3, 4, 5, 6] rfl)
            · skip
              refine lv_goto (tgt := 71) hx hb dX1_rayFrom_55 (by decide) ?_
              refine lv_fload_n hx hb dX1_rayFrom_71 rfl (lv_at hl 3 rfl) ?_
              subst hQ
              refine W.widen (k := 0) (n := 0) (Nat.le_of_ble_eq_true rfl) (Nat.le_of_ble_eq_true rfl) ?_
              exact W.fret (v := x5) hx hb hr (fun t ht hW => ⟨⟨x5, (), rfl, ((hf9).mono (by omega)), CX.give hb0 hM hK hG hE hS ht hW⟩, hS.F ht⟩) hS.2.2 dX1_rayFrom_72
          · skip
            obtain ⟨-, hr1, hr2⟩ := hw20.resolve_left c21
            refine lv_fload_n hx hb dX1_rayFrom_36 rfl (lv_at hl 3 rfl) ?_
            refine lv_aload_n hx hb dX1_rayFrom_37 rfl (lv_at hl 4 rfl) ?_
            obtain ⟨u25, u26, u27, u28, u29, u30, hP, hf⟩ := o_st (i := i) (q := o) hM (by omega)
            refine va_get (D := (dC, dI)) (ci := 5) (v := .ref (pF g o 0)) (C := RX1) (T := TX1) (N := 15) hx hb hts (by decide +kernel) hown hK hP 0 rfl rfl 0 (by decide) (hts (.fieldLink RX1 9 "Snowpalace$Site" "kinds" "[C") (by decide +kernel)) (fun _ h9 => h9) rfl dX1_rayFrom_38 ?_
            have ht31 : tg g (pF g o 0) = 13 := hf.1
            refine lv_iload hx hb dX1_rayFrom_41 (lv_at hl 1 rfl) ?_
            obtain ⟨u32, hP, hf⟩ := o_kn (i := 0) (q := (pF g o 0)) hM (by omega)
            refine va_cald (D := (dC, dI)) hx hb hK hP 0 2 rfl rfl (inI (by omega) (by omega)) dX1_rayFrom_43 ?_
            refine lv_topi (fun v33 e34 => ?_)
            have hu35 := hf ((x4 : Int32).toNatClampNeg) (clI (inI (by omega) (by omega)))
            rw [← e34] at hu35
            refine va_callf (va_runS (As := [.int v33]) (rest := [.float x5]) ⟨hx, hb, hml, hown, hts⟩ (rk_throughKind l v33) (va_cwS 1 hts gX1_rayFrom_X1_throughKind rfl rfl rfl (by decide +kernel) ⟨Nat.le_of_ble_eq_true rfl, Nat.le_of_ble_eq_true rfl⟩) ⟨fun a U g mk q => q, fun U hU hW => ⟨rfl, trivial⟩⟩ rfl rfl hl.1 rfl (lv_room (Nat.le_of_ble_eq_true rfl)) dX1_rayFrom_44 ⟨(Nat.le_of_ble_eq_true rfl), (Nat.le_of_ble_eq_true rfl)⟩) hS (fun q _ h => h.elim) (fun q h => h.elim) (fun r36 u t H locs ht hvm hw37 hB hz1 hk1 hS => ?_)
            have hM := hM.keep (fun p hp => hk1 p hp (fun z => z))
            have hfm38 : FM (128 + (j3 + 1)) (FP.fmul x5 r36) := (hf9).mul hw37 (by omega)
            refine lv_fmul hx hb dX1_rayFrom_47 (nn32 (hfm38.nn (by omega))) ?_
            refine lv_fstore_n (lv' := [(3, .float (FP.fmul x5 r36)), (6, .int (nI j3)), (5, .int x4), (4, .int (-1)), (0, .ref o), (1, .int lp), (2, .int pl)]) hx hb dX1_rayFrom_48 rfl hl (by decide) rfl (fun ls hl => ?_)
            refine lv_iload hx hb dX1_rayFrom_49 (lv_at hl 2 rfl) ?_
            refine lv_iload_n hx hb dX1_rayFrom_51 rfl (lv_at hl 6 rfl) ?_
            refine lv_icmp_ne (tgt := 58) hx hb dX1_rayFrom_52 (by decide) (fun c39 => ?_) (fun c39 => ?_)
            · skip
              refine lv_iload hx hb dX1_rayFrom_58 (lv_at hl 2 rfl) ?_
              refine lv_iload hx hb dX1_rayFrom_60 (lv_at hl 3 rfl) ?_
              refine lv_iadd hx hb dX1_rayFrom_62 ?_
              refine lv_topi (fun v40 e41 => ?_)
              refine lv_istore (lv' := [(5, .int v40), (3, .float (FP.fmul x5 r36)), (6, .int (nI j3)), (4, .int (-1)), (0, .ref o), (1, .int lp), (2, .int pl)]) hx hb dX1_rayFrom_63 hl (by decide) rfl (fun ls hl => ?_)
              refine lv_iinc (v := (nI (j3 + 1))) (lv' := [(6, .int (nI (j3 + 1))), (5, .int v40), (3, .float (FP.fmul x5 r36)), (4, .int (-1)), (0, .ref o), (1, .int lp), (2, .int pl)]) hx hb dX1_rayFrom_65 hl (k := 2) rfl (nI_add j3 1) (by decide) rfl (fun ls hl => ?_)
              refine lv_goto (tgt := 20) hx hb dX1_rayFrom_68 (by decide) ?_
              exact ih8 ((j3 + 1)) v40 (FP.fmul x5 r36) (by omega) (by omega) (by omega) H _ ls hfm38 hM hS (lv_sub hl [0, 1, 3, 2, 4, 5, 6] rfl)
            · skip
              refine lv_goto (tgt := 71) hx hb dX1_rayFrom_55 (by decide) ?_
              refine lv_fload_n hx hb dX1_rayFrom_71 rfl (lv_at hl 0 rfl) ?_
              subst hQ
              refine W.widen (k := 0) (n := 0) (Nat.le_of_ble_eq_true rfl) (Nat.le_of_ble_eq_true rfl) ?_
              exact W.fret (v := (FP.fmul x5 r36)) hx hb hr (fun t ht hW => ⟨⟨(FP.fmul x5 r36), (), rfl, ((hfm38).mono (by omega)), CX.give hb0 hM hK hG hE hS ht hW⟩, hS.F ht⟩) hS.2.2 dX1_rayFrom_72
    exact lp6 (8 + 1) 0 lp FP.fconst1 (by omega) (by omega) (by omega) s.heap _ ls (show _ % 2147483648 < (128 + 0) * 8388608 by decide +kernel) hM hS (lv_sub hl [0, 1, 2, 3, 4, 5, 6] rfl)
  · skip
    have i42 := fun z => c1 ((Int32.lt_iff_toInt_lt).mpr z)
    have i42 : ¬ ((pl : Int32).toInt < (lp : Int32).toInt) := i42
    refine lv_iconst (v := 1) hx hb dX1_rayFrom_7 (by decide) ?_
    refine lv_goto (tgt := 12) hx hb dX1_rayFrom_8 (by decide) ?_
    refine lv_istore (lv' := [(4, .int 1), (3, .float FP.fconst1), (0, .ref o), (1, .int lp), (2, .int pl)]) hx hb dX1_rayFrom_12 hl (by decide) rfl (fun ls hl => ?_)
    refine lv_iload_n hx hb dX1_rayFrom_14 rfl (lv_at hl 3 rfl) ?_
    refine lv_istore (lv' := [(5, .int lp), (4, .int 1), (3, .float FP.fconst1), (0, .ref o), (1, .int lp), (2, .int pl)]) hx hb dX1_rayFrom_15 hl (by decide) rfl (fun ls hl => ?_)
    refine lv_iconst (v := 0) hx hb dX1_rayFrom_17 (by decide) ?_
    refine lv_istore (lv' := [(6, .int 0), (5, .int lp), (4, .int 1), (3, .float FP.fconst1), (0, .ref o), (1, .int lp), (2, .int pl)]) hx hb dX1_rayFrom_18 hl (by decide) rfl (fun ls hl => ?_)
    have lp46 : ∀ (n47 j43 : Nat) (x44 : Int32) (x45 : UInt32), 0 ≤ j43 → j43 ≤ 8 → 8 < j43 + n47 → ∀ (H : Heap) (locs : List Loc) (ls : Array Slot), FM (128 + j43) x45 → TM (dC, dI) kA b g H → va_S (fun q => b ≤ q) s.heap H locs → lv_has ls 7 [(6, .int (nI j43)), (5, .int x44), (4, .int 1), (3, .float x45), (0, .ref o), (1, .int lp), (2, .int pl)] → W p l e (headSpec wsX1_rayFrom ({ frames := 1, cells := 0, slots := 0, locals := 21 })).room s m args below meth c H locs 0 0 Q (F0 m 20 ls []) := by
      intro n47
      induction n47 with
      | zero => intro j43 x44 x45 h0 h1 h2; omega
      | succ n47 ih48 =>
        intro j43 x44 x45 lj43 hj43 hn47 H locs ls hf49 hM hS hl
        refine lv_iload hx hb dX1_rayFrom_20 (lv_at hl 0 rfl) ?_
        refine lv_bipush (v := 8) hx hb dX1_rayFrom_22 (by decide) ?_
        refine lv_icmp_ge (tgt := 71) hx hb dX1_rayFrom_24 (by decide) (fun c50 => ?_) (fun c50 => ?_)
        · skip
          have k51 : 8 ≤ j43 := (nI_leI (a := 8) (b := j43) (by omega) (by omega)).mp c50
          refine lv_fload_n hx hb dX1_rayFrom_71 rfl (lv_at hl 3 rfl) ?_
          subst hQ
          refine W.widen (k := 0) (n := 0) (Nat.le_of_ble_eq_true rfl) (Nat.le_of_ble_eq_true rfl) ?_
          exact W.fret (v := x45) hx hb hr (fun t ht hW => ⟨⟨x45, (), rfl, ((hf49).mono (by omega)), CX.give hb0 hM hK hG hE hS ht hW⟩, hS.F ht⟩) hS.2.2 dX1_rayFrom_72
        · skip
          have k52 : ¬ (8 ≤ j43) := fun z => c50 ((nI_leI (a := 8) (b := j43) (by omega) (by omega)).mpr z)
          refine lv_aload_n hx hb dX1_rayFrom_27 rfl (lv_at hl 4 rfl) ?_
          refine lv_iload hx hb dX1_rayFrom_28 (lv_at hl 1 rfl) ?_
          obtain ⟨u53, u54, u55, u56, u57, u58, hP, hf⟩ := o_st (i := i) (q := o) hM (by omega)
          refine va_calli (va_runV (As := [.int x44]) (rest := []) ⟨hx, hb, hml, hown, hts⟩ (rk_has l dC dI kA eD b g o i x44 (by omega)) (cwV 1 hts gX1_rayFrom_X1_has rfl rfl rfl (by decide +kernel) ⟨Nat.le_of_ble_eq_true rfl, Nat.le_of_ble_eq_true rfl⟩) ⟨fb_CX, va_recv hK hP (ci := 5) (q0 := 0) rfl rfl, fun U hU hW => ⟨rfl, CX.give hb0 hM hK hG hE hS hU hW⟩⟩ rfl rfl hl.1 rfl (lv_room (Nat.le_of_ble_eq_true rfl)) dX1_rayFrom_30 ⟨(Nat.le_of_ble_eq_true rfl), (Nat.le_of_ble_eq_true rfl)⟩) hS (fun q _ h => h) (fun q h => h) (fun r59 u t H locs ht hvm hw60 hB hz1 hk1 hS => ?_)
          have hM := hB.back ht
          have hG := hB.2.2.2.1
          refine lv_if_eq (tgt := 49) hx hb dX1_rayFrom_33 (by decide) (fun c61 => ?_) (fun c61 => ?_)
          · skip
            refine lv_iload hx hb dX1_rayFrom_49 (lv_at hl 1 rfl) ?_
            refine lv_iload_n hx hb dX1_rayFrom_51 rfl (lv_at hl 6 rfl) ?_
            refine lv_icmp_ne (tgt := 58) hx hb dX1_rayFrom_52 (by decide) (fun c62 => ?_) (fun c62 => ?_)
            · skip
              refine lv_iload hx hb dX1_rayFrom_58 (lv_at hl 1 rfl) ?_
              refine lv_iload hx hb dX1_rayFrom_60 (lv_at hl 2 rfl) ?_
              refine lv_iadd hx hb dX1_rayFrom_62 ?_
              refine lv_topi (fun v63 e64 => ?_)
              refine lv_istore (lv' := [(5, .int v63), (6, .int (nI j43)), (4, .int 1), (3, .float x45), (0, .ref o), (1, .int lp), (2, .int pl)]) hx hb dX1_rayFrom_63 hl (by decide) rfl (fun ls hl => ?_)
              refine lv_iinc (v := (nI (j43 + 1))) (lv' := [(6, .int (nI (j43 + 1))), (5, .int v63), (4, .int 1), (3, .float x45), (0, .ref o), (1, .int lp), (2, .int pl)]) hx hb dX1_rayFrom_65 hl (k := 1) rfl (nI_add j43 1) (by decide) rfl (fun ls hl => ?_)
              refine lv_goto (tgt := 20) hx hb dX1_rayFrom_68 (by decide) ?_
              exact ih48 ((j43 + 1)) v63 x45 (by omega) (by omega) (by omega) H _ ls ((hf49).mono (by omega)) hM hS (lv_sub hl [0, 1, 2, 3, 4, 5, 6] rfl)
            · skip
              refine lv_goto (tgt := 71) hx hb dX1_rayFrom_55 (by decide) ?_
              refine lv_fload_n hx hb dX1_rayFrom_71 rfl (lv_at hl 3 rfl) ?_
              subst hQ
              refine W.widen (k := 0) (n := 0) (Nat.le_of_ble_eq_true rfl) (Nat.le_of_ble_eq_true rfl) ?_
              exact W.fret (v := x45) hx hb hr (fun t ht hW => ⟨⟨x45, (), rfl, ((hf49).mono (by omega)), CX.give hb0 hM hK hG hE hS ht hW⟩, hS.F ht⟩) hS.2.2 dX1_rayFrom_72
          · skip
            obtain ⟨-, hr1, hr2⟩ := hw60.resolve_left c61
            refine lv_fload_n hx hb dX1_rayFrom_36 rfl (lv_at hl 3 rfl) ?_
            refine lv_aload_n hx hb dX1_rayFrom_37 rfl (lv_at hl 4 rfl) ?_
            obtain ⟨u65, u66, u67, u68, u69, u70, hP, hf⟩ := o_st (i := i) (q := o) hM (by omega)
            refine va_get (D := (dC, dI)) (ci := 5) (v := .ref (pF g o 0)) (C := RX1) (T := TX1) (N := 15) hx hb hts (by decide +kernel) hown hK hP 0 rfl rfl 0 (by decide) (hts (.fieldLink RX1 9 "Snowpalace$Site" "kinds" "[C") (by decide +kernel)) (fun _ h9 => h9) rfl dX1_rayFrom_38 ?_
            have ht71 : tg g (pF g o 0) = 13 := hf.1
            refine lv_iload hx hb dX1_rayFrom_41 (lv_at hl 1 rfl) ?_
            obtain ⟨u72, hP, hf⟩ := o_kn (i := 0) (q := (pF g o 0)) hM (by omega)
            refine va_cald (D := (dC, dI)) hx hb hK hP 0 2 rfl rfl (inI (by omega) (by omega)) dX1_rayFrom_43 ?_
            refine lv_topi (fun v73 e74 => ?_)
            have hu75 := hf ((x44 : Int32).toNatClampNeg) (clI (inI (by omega) (by omega)))
            rw [← e74] at hu75
            refine va_callf (va_runS (As := [.int v73]) (rest := [.float x45]) ⟨hx, hb, hml, hown, hts⟩ (rk_throughKind l v73) (va_cwS 1 hts gX1_rayFrom_X1_throughKind rfl rfl rfl (by decide +kernel) ⟨Nat.le_of_ble_eq_true rfl, Nat.le_of_ble_eq_true rfl⟩) ⟨fun a U g mk q => q, fun U hU hW => ⟨rfl, trivial⟩⟩ rfl rfl hl.1 rfl (lv_room (Nat.le_of_ble_eq_true rfl)) dX1_rayFrom_44 ⟨(Nat.le_of_ble_eq_true rfl), (Nat.le_of_ble_eq_true rfl)⟩) hS (fun q _ h => h.elim) (fun q h => h.elim) (fun r76 u t H locs ht hvm hw77 hB hz1 hk1 hS => ?_)
            have hM := hM.keep (fun p hp => hk1 p hp (fun z => z))
            have hfm78 : FM (128 + (j43 + 1)) (FP.fmul x45 r76) := (hf49).mul hw77 (by omega)
            refine lv_fmul hx hb dX1_rayFrom_47 (nn32 (hfm78.nn (by omega))) ?_
            refine lv_fstore_n (lv' := [(3, .float (FP.fmul x45 r76)), (6, .int (nI j43)), (5, .int x44), (4, .int 1), (0, .ref o), (1, .int lp), (2, .int pl)]) hx hb dX1_rayFrom_48 rfl hl (by decide) rfl (fun ls hl => ?_)
            refine lv_iload hx hb dX1_rayFrom_49 (lv_at hl 2 rfl) ?_
            refine lv_iload_n hx hb dX1_rayFrom_51 rfl (lv_at hl 6 rfl) ?_
            refine lv_icmp_ne (tgt := 58) hx hb dX1_rayFrom_52 (by decide) (fun c79 => ?_) (fun c79 => ?_)
            · skip
              refine lv_iload hx hb dX1_rayFrom_58 (lv_at hl 2 rfl) ?_
              refine lv_iload hx hb dX1_rayFrom_60 (lv_at hl 3 rfl) ?_
              refine lv_iadd hx hb dX1_rayFrom_62 ?_
              refine lv_topi (fun v80 e81 => ?_)
              refine lv_istore (lv' := [(5, .int v80), (3, .float (FP.fmul x45 r76)), (6, .int (nI j43)), (4, .int 1), (0, .ref o), (1, .int lp), (2, .int pl)]) hx hb dX1_rayFrom_63 hl (by decide) rfl (fun ls hl => ?_)
              refine lv_iinc (v := (nI (j43 + 1))) (lv' := [(6, .int (nI (j43 + 1))), (5, .int v80), (3, .float (FP.fmul x45 r76)), (4, .int 1), (0, .ref o), (1, .int lp), (2, .int pl)]) hx hb dX1_rayFrom_65 hl (k := 2) rfl (nI_add j43 1) (by decide) rfl (fun ls hl => ?_)
              refine lv_goto (tgt := 20) hx hb dX1_rayFrom_68 (by decide) ?_
              exact ih48 ((j43 + 1)) v80 (FP.fmul x45 r76) (by omega) (by omega) (by omega) H _ ls hfm78 hM hS (lv_sub hl [0, 1, 3, 2, 4, 5, 6] rfl)
            · skip
              refine lv_goto (tgt := 71) hx hb dX1_rayFrom_55 (by decide) ?_
              refine lv_fload_n hx hb dX1_rayFrom_71 rfl (lv_at hl 0 rfl) ?_
              subst hQ
              refine W.widen (k := 0) (n := 0) (Nat.le_of_ble_eq_true rfl) (Nat.le_of_ble_eq_true rfl) ?_
              exact W.fret (v := (FP.fmul x45 r76)) hx hb hr (fun t ht hW => ⟨⟨(FP.fmul x45 r76), (), rfl, ((hfm78).mono (by omega)), CX.give hb0 hM hK hG hE hS ht hW⟩, hS.F ht⟩) hS.2.2 dX1_rayFrom_72
    exact lp46 (8 + 1) 0 lp FP.fconst1 (by omega) (by omega) (by omega) s.heap _ ls (show _ % 2147483648 < (128 + 0) * 8388608 by decide +kernel) hM hS (lv_sub hl [0, 1, 2, 3, 4, 5, 6] rfl)

set_option maxHeartbeats 4000000 in
set_option maxRecDepth 100000 in
theorem rk_lightAt (l : Launch) (dC : Nat → ClassId) (dI : Nat → Nat → Nat) (kA : Nat → ClassId) (eD b : Nat) (g : Gh) (o : Nat) (i jx jy : Nat) (hto : tg g o = 12 + 64 * i) (hjx : jx < 8) (hjy : jy < 6) : Met l yX1_lightAt wsX1_lightAt ({ frames := 2, cells := 0, slots := 0, locals := 47 }) (va_Pc [.ref o, .int (nI jx), .int (nI jy)] (CX (dC, dI) kA eD b g)) (va_Qf (fun (r : UInt32) (u : Unit) => FM 153 r) (fun (u : Unit) t => CX (dC, dI) kA eD b g t) (fun q => b ≤ q)) 0 0 (fun q => b ≤ q) := by
  refine Met.ofW (cc := cX1_lightAt) (maxL := 6) (ret := (some .float)) (by decide +kernel) rfl ?_
  intro p e s m args below meth c s₁ B hml hv
  obtain ⟨rfl, hb0, hM, hK, hG, hE⟩ := hv
  have hx := B.exec
  have hb := B.bytes
  have hr := B.returns
  have hts := atoms_spec (ws := wsX1_lightAt) B.pre
  have hown : s.vm.findClass RX1 = some m.cls := findClass_of_methodNamed B.named
  have hlocks := B.notSynchronized
  have hT := hE.1
  have hN := hE.2.2.2.2.2.2.2.1
  have hS : va_S (fun q => b ≤ q) s.heap s.heap [] := va_S.rf
  have hl := lv_entry ([.ref o, .int (nI jx), .int (nI jy)]) (n := 6) (Nat.le_of_ble_eq_true rfl)
  rw [lg_entry_eq]
  generalize (lg_sl ([.ref o, .int (nI jx), .int (nI jy)]) ++ List.replicate (6 - (lg_sl ([.ref o, .int (nI jx), .int (nI jy)])).length) Slot.unset).toArray = ls at hl ⊢
  have hl : lv_has ls 6 [(0, .ref o), (1, .int (nI jx)), (2, .int (nI jy))] := hl
  generalize ([.ref o, .int (nI jx), .int (nI jy)] : List Value).toArray = args at hts ⊢
  refine W.q (fun Q hQ => ?_)
  refine lv_fconst0 hx hb dX1_lightAt_0 ?_
  refine lv_fstore_n (lv' := [(3, .float FP.fconst0), (0, .ref o), (1, .int (nI jx)), (2, .int (nI jy))]) hx hb dX1_lightAt_1 rfl hl (by decide) rfl (fun ls hl => ?_)
  refine lv_iconst (v := 0) hx hb dX1_lightAt_2 (by decide) ?_
  refine lv_istore (lv' := [(4, .int 0), (3, .float FP.fconst0), (0, .ref o), (1, .int (nI jx)), (2, .int (nI jy))]) hx hb dX1_lightAt_3 hl (by decide) rfl (fun ls hl => ?_)
  have lp3 : ∀ (n4 j1 : Nat) (x2 : UInt32), 0 ≤ j1 → j1 ≤ 8 → 8 < j1 + n4 → ∀ (H : Heap) (locs : List Loc) (ls : Array Slot), FM (137 + 2 * j1) x2 → TM (dC, dI) kA b g H → va_S (fun q => b ≤ q) s.heap H locs → lv_has ls 6 [(4, .int (nI j1)), (3, .float x2), (0, .ref o), (1, .int (nI jx)), (2, .int (nI jy))] → W p l e (headSpec wsX1_lightAt ({ frames := 2, cells := 0, slots := 0, locals := 47 })).room s m args below meth c H locs 0 0 Q (F0 m 5 ls []) := by
    intro n4
    induction n4 with
    | zero => intro j1 x2 h0 h1 h2; omega
    | succ n4 ih5 =>
      intro j1 x2 lj1 hj1 hn4 H locs ls hf6 hM hS hl
      refine lv_iload hx hb dX1_lightAt_5 (lv_at hl 0 rfl) ?_
      refine lv_bipush (v := 8) hx hb dX1_lightAt_7 (by decide) ?_
      refine lv_icmp_ge (tgt := 59) hx hb dX1_lightAt_9 (by decide) (fun c7 => ?_) (fun c7 => ?_)
      · skip
        have k8 : 8 ≤ j1 := (nI_leI (a := 8) (b := j1) (by omega) (by omega)).mp c7
        refine lv_fload_n hx hb dX1_lightAt_59 rfl (lv_at hl 1 rfl) ?_
        subst hQ
        refine W.widen (k := 0) (n := 0) (Nat.le_of_ble_eq_true rfl) (Nat.le_of_ble_eq_true rfl) ?_
        exact W.fret (v := x2) hx hb hr (fun t ht hW => ⟨⟨x2, (), rfl, ((hf6).mono (by omega)), CX.give hb0 hM hK hG hE hS ht hW⟩, hS.F ht⟩) hS.2.2 dX1_lightAt_60
      · skip
        have k9 : ¬ (8 ≤ j1) := fun z => c7 ((nI_leI (a := 8) (b := j1) (by omega) (by omega)).mpr z)
        refine lv_iload hx hb dX1_lightAt_12 (lv_at hl 0 rfl) ?_
        refine lv_iload_n hx hb dX1_lightAt_14 rfl (lv_at hl 4 rfl) ?_
        refine va_calli (va_runSN (As := [.int (nI j1), .int (nI jy)]) (rest := []) ⟨hx, hb, hml, hown, hts⟩ (rk_placeOf l (nI j1) (nI jy)) (⟨va_cnB 2 hts gX1_lightAt_X3_placeOf_n96 rfl rfl rfl (hN (.methodLinkNest RX1 96 yX3_placeOf RX3) (by decide +kernel)) (hts (.initialized RX3) (by decide +kernel)) (by decide +kernel) ⟨Nat.le_of_ble_eq_true rfl, Nat.le_of_ble_eq_true rfl⟩, hts (.static yX3_placeOf) (by decide +kernel), trivial⟩) ⟨fun a U g mk q => q, fun U hU hW => ⟨rfl, trivial⟩⟩ rfl rfl hl.1 rfl (lv_room (Nat.le_of_ble_eq_true rfl)) dX1_lightAt_15 ⟨(Nat.le_of_ble_eq_true rfl), (Nat.le_of_ble_eq_true rfl)⟩) hS (fun q _ h => h.elim) (fun q h => h.elim) (fun r10 u t H locs ht hvm hw11 hB hz1 hk1 hS => ?_)
        have hM := hM.keep (fun p hp => hk1 p hp (fun z => z))
        obtain rfl : r10 = nI (8 * jy + j1) := hw11.trans (by rw [show (8 : Int32) = nI 8 from rfl]; exact (congrArg (· + nI j1) (pk_mul 8 jy)).trans (nI_add _ _))
        refine lv_istore (lv' := [(5, .int (nI (8 * jy + j1))), (4, .int (nI j1)), (3, .float x2), (0, .ref o), (1, .int (nI jx)), (2, .int (nI jy))]) hx hb dX1_lightAt_18 hl (by decide) rfl (fun ls hl => ?_)
        refine lv_aload_n hx hb dX1_lightAt_20 rfl (lv_at hl 3 rfl) ?_
        refine lv_iload hx hb dX1_lightAt_21 (lv_at hl 0 rfl) ?_
        obtain ⟨u12, u13, u14, u15, u16, u17, hP, hf⟩ := o_st (i := i) (q := o) hM (by omega)
        refine va_calli (va_runV (As := [.int (nI (8 * jy + j1))]) (rest := []) ⟨hx, hb, hml, hown, hts⟩ (rk_has l dC dI kA eD b g o i (nI (8 * jy + j1)) (by omega)) (cwV 1 hts gX1_lightAt_X1_has rfl rfl rfl (by decide +kernel) ⟨Nat.le_of_ble_eq_true rfl, Nat.le_of_ble_eq_true rfl⟩) ⟨fb_CX, va_recv hK hP (ci := 5) (q0 := 0) rfl rfl, fun U hU hW => ⟨rfl, CX.give hb0 hM hK hG hE hS hU hW⟩⟩ rfl rfl hl.1 rfl (lv_room (Nat.le_of_ble_eq_true rfl)) dX1_lightAt_23 ⟨(Nat.le_of_ble_eq_true rfl), (Nat.le_of_ble_eq_true rfl)⟩) hS (fun q _ h => h) (fun q h => h) (fun r18 u t H locs ht hvm hw19 hB hz1 hk1 hS => ?_)
        have hM := hB.back ht
        have hG := hB.2.2.2.1
        refine lv_if_eq (tgt := 53) hx hb dX1_lightAt_26 (by decide) (fun c20 => ?_) (fun c20 => ?_)
        · skip
          refine lv_iinc (v := (nI (j1 + 1))) (lv' := [(4, .int (nI (j1 + 1))), (5, .int (nI (8 * jy + j1))), (3, .float x2), (0, .ref o), (1, .int (nI jx)), (2, .int (nI jy))]) hx hb dX1_lightAt_53 hl (k := 1) rfl (nI_add j1 1) (by decide) rfl (fun ls hl => ?_)
          refine lv_goto (tgt := 5) hx hb dX1_lightAt_56 (by decide) ?_
          exact ih5 ((j1 + 1)) x2 (by omega) (by omega) (by omega) H _ ls ((hf6).mono (by omega)) hM hS (lv_sub hl [0, 2, 3, 4, 5] rfl)
        · skip
          obtain ⟨-, hr1, hr2⟩ := hw19.resolve_left c20
          refine lv_aload_n hx hb dX1_lightAt_29 rfl (lv_at hl 3 rfl) ?_
          obtain ⟨u21, u22, u23, u24, u25, u26, hP, hf⟩ := o_st (i := i) (q := o) hM (by omega)
          refine va_get (D := (dC, dI)) (ci := 5) (v := .ref (pF g o 4)) (C := RX1) (T := TX1) (N := 15) hx hb hts (by decide +kernel) hown hK hP 0 rfl rfl 4 (by decide) (hts (.fieldLink RX1 25 "Snowpalace$Site" "lamps" "[Z") (by decide +kernel)) (fun _ h9 => h9) rfl dX1_lightAt_30 ?_
          have ht27 : tg g (pF g o 4) = 15 := hf.2.2.2.2.1
          refine lv_iload hx hb dX1_lightAt_33 (lv_at hl 0 rfl) ?_
          obtain ⟨u28, hP, hf⟩ := o_bo (i := 0) (q := (pF g o 4)) hM (by omega)
          refine va_zald (D := (dC, dI)) hx hb hK hP 0 1 rfl rfl (vp_in_nI (by omega) (by decide)) dX1_lightAt_35 ?_
          refine lv_topi (fun v29 e30 => ?_)
          have ec : ((nI (8 * jy + j1)) : Int32).toNatClampNeg = (8 * jy + j1) := nI_clamp (by omega)
          rw [ec] at e30
          have hu31 := hf (8 * jy + j1) (by omega)
          rw [← e30] at hu31
          refine lv_if_eq (tgt := 53) hx hb dX1_lightAt_36 (by decide) (fun c32 => ?_) (fun c32 => ?_)
          · skip
            refine lv_iinc (v := (nI (j1 + 1))) (lv' := [(4, .int (nI (j1 + 1))), (5, .int (nI (8 * jy + j1))), (3, .float x2), (0, .ref o), (1, .int (nI jx)), (2, .int (nI jy))]) hx hb dX1_lightAt_53 hl (k := 1) rfl (nI_add j1 1) (by decide) rfl (fun ls hl => ?_)
            refine lv_goto (tgt := 5) hx hb dX1_lightAt_56 (by decide) ?_
            exact ih5 ((j1 + 1)) x2 (by omega) (by omega) (by omega) H _ ls ((hf6).mono (by omega)) hM hS (lv_sub hl [0, 2, 3, 4, 5] rfl)
          · skip
            refine lv_fload_n hx hb dX1_lightAt_39 rfl (lv_at hl 2 rfl) ?_
            refine lv_aload_n hx hb dX1_lightAt_40 rfl (lv_at hl 3 rfl) ?_
            refine lv_iload hx hb dX1_lightAt_41 (lv_at hl 0 rfl) ?_
            refine lv_iload_n hx hb dX1_lightAt_43 rfl (lv_at hl 4 rfl) ?_
            refine lv_iload_n hx hb dX1_lightAt_44 rfl (lv_at hl 5 rfl) ?_
            refine va_calli (va_runSN (As := [.int (nI jx), .int (nI jy)]) (rest := [.int (nI (8 * jy + j1)), .ref o, .float x2]) ⟨hx, hb, hml, hown, hts⟩ (rk_placeOf l (nI jx) (nI jy)) (⟨va_cnB 2 hts gX1_lightAt_X3_placeOf_n96 rfl rfl rfl (hN (.methodLinkNest RX1 96 yX3_placeOf RX3) (by decide +kernel)) (hts (.initialized RX3) (by decide +kernel)) (by decide +kernel) ⟨Nat.le_of_ble_eq_true rfl, Nat.le_of_ble_eq_true rfl⟩, hts (.static yX3_placeOf) (by decide +kernel), trivial⟩) ⟨fun a U g mk q => q, fun U hU hW => ⟨rfl, trivial⟩⟩ rfl rfl hl.1 rfl (lv_room (Nat.le_of_ble_eq_true rfl)) dX1_lightAt_45 ⟨(Nat.le_of_ble_eq_true rfl), (Nat.le_of_ble_eq_true rfl)⟩) hS (fun q _ h => h.elim) (fun q h => h.elim) (fun r33 u t H locs ht hvm hw34 hB hz1 hk1 hS => ?_)
            have hM := hM.keep (fun p hp => hk1 p hp (fun z => z))
            obtain rfl : r33 = nI (8 * jy + jx) := hw34.trans (by rw [show (8 : Int32) = nI 8 from rfl]; exact (congrArg (· + nI jx) (pk_mul 8 jy)).trans (nI_add _ _))
            obtain ⟨u35, u36, u37, u38, u39, u40, hP, hf⟩ := o_st (i := i) (q := o) hM (by omega)
            refine va_callf (va_runV (As := [.int (nI (8 * jy + j1)), .int (nI (8 * jy + jx))]) (rest := [.float x2]) ⟨hx, hb, hml, hown, hts⟩ (rk_rayFrom l dC dI kA eD b g o i (nI (8 * jy + j1)) (nI (8 * jy + jx)) (by omega)) (cwV 2 hts gX1_lightAt_X1_rayFrom rfl rfl rfl (by decide +kernel) ⟨Nat.le_of_ble_eq_true rfl, Nat.le_of_ble_eq_true rfl⟩) ⟨fb_CX, va_recv hK hP (ci := 5) (q0 := 0) rfl rfl, fun U hU hW => ⟨rfl, CX.give hb0 hM hK hG hE hS hU hW⟩⟩ rfl rfl hl.1 rfl (lv_room (Nat.le_of_ble_eq_true rfl)) dX1_lightAt_48 ⟨(Nat.le_of_ble_eq_true rfl), (Nat.le_of_ble_eq_true rfl)⟩) hS (fun q _ h => h) (fun q h => h) (fun r41 u t H locs ht hvm hw42 hB hz1 hk1 hS => ?_)
            have hM := hB.back ht
            have hG := hB.2.2.2.1
            have hfm43 : FM (137 + 2 * (j1 + 1)) (FP.fadd x2 r41) := (((hf6).add ((hw42).mono (by omega)) (by omega)).mono (by omega))
            refine lv_fadd hx hb dX1_lightAt_51 (nn32 (hfm43.nn (by omega))) ?_
            refine lv_fstore_n (lv' := [(3, .float (FP.fadd x2 r41)), (5, .int (nI (8 * jy + j1))), (4, .int (nI j1)), (0, .ref o), (1, .int (nI jx)), (2, .int (nI jy))]) hx hb dX1_lightAt_52 rfl hl (by decide) rfl (fun ls hl => ?_)
            refine lv_iinc (v := (nI (j1 + 1))) (lv' := [(4, .int (nI (j1 + 1))), (3, .float (FP.fadd x2 r41)), (5, .int (nI (8 * jy + j1))), (0, .ref o), (1, .int (nI jx)), (2, .int (nI jy))]) hx hb dX1_lightAt_53 hl (k := 2) rfl (nI_add j1 1) (by decide) rfl (fun ls hl => ?_)
            refine lv_goto (tgt := 5) hx hb dX1_lightAt_56 (by decide) ?_
            exact ih5 ((j1 + 1)) (FP.fadd x2 r41) (by omega) (by omega) (by omega) H _ ls hfm43 hM hS (lv_sub hl [0, 1, 3, 4, 5] rfl)
  exact lp3 (8 + 1) 0 FP.fconst0 (by omega) (by omega) (by omega) s.heap _ ls (show _ % 2147483648 < (137 + 2 * 0) * 8388608 by decide +kernel) hM hS (lv_sub hl [0, 1, 2, 3, 4] rfl)

set_option maxHeartbeats 4000000 in
set_option maxRecDepth 100000 in
theorem rk_bitsOfFloat (l : Launch)   (nu : UInt32) (hnu : FP.Core.fIsNaN nu = false) : Met l yX3_bitsOfFloat wsX3_bitsOfFloat ({ frames := 0, cells := 0, slots := 0, locals := 0 }) (va_Pc [.float nu] (fun _ => True)) (va_Qi (fun (r : Int32) (u : Unit) => True) (fun (u : Unit) t => True) (fun _ => False)) 0 0 (fun _ => False) := by
  refine Met.ofW (cc := cX3_bitsOfFloat) (maxL := 4) (ret := (some .int)) (by decide +kernel) rfl ?_
  intro p e s m args below meth c s₁ B hml hv
  obtain ⟨rfl, -⟩ := hv
  have hx := B.exec
  have hb := B.bytes
  have hr := B.returns
  have hts := atoms_spec (ws := wsX3_bitsOfFloat) B.pre
  have hown : s.vm.findClass RX3 = some m.cls := findClass_of_methodNamed B.named
  have hlocks := B.notSynchronized
  have hM : True := trivial
  have hS : va_S (fun _ => False) s.heap s.heap [] := va_S.rf
  have hl := lv_entry ([.float nu]) (n := 4) (Nat.le_of_ble_eq_true rfl)
  rw [lg_entry_eq]
  generalize (lg_sl ([.float nu]) ++ List.replicate (4 - (lg_sl ([.float nu])).length) Slot.unset).toArray = ls at hl ⊢
  have hl : lv_has ls 4 [(0, .float nu)] := hl
  generalize ([.float nu] : List Value).toArray = args at hts ⊢
  refine W.q (fun Q hQ => ?_)
  refine lv_fload_n hx hb dX3_bitsOfFloat_0 rfl (lv_at hl 0 rfl) ?_
  refine lv_fconst0 hx hb dX3_bitsOfFloat_1 ?_
  refine lv_fcmp hx hb dX3_bitsOfFloat_2 ?_
  refine lv_if_gt (tgt := 8) hx hb dX3_bitsOfFloat_3 (by decide) (fun c1 => ?_) (fun c1 => ?_)
  · skip
    have i2 := (Int32.lt_iff_toInt_lt).mp c1
    have ii2 : (0 : Int32).toInt = 0 := by decide
    have i2 := i2
    refine lv_fload_n hx hb dX3_bitsOfFloat_8 rfl (lv_at hl 0 rfl) ?_
    refine lv_fstore_n (lv' := [(1, .float nu), (0, .float nu)]) hx hb dX3_bitsOfFloat_9 rfl hl (by decide) rfl (fun ls hl => ?_)
    refine lv_bipush (v := 127) hx hb dX3_bitsOfFloat_10 (by decide) ?_
    refine lv_istore_n (lv' := [(2, .int 127), (1, .float nu), (0, .float nu)]) hx hb dX3_bitsOfFloat_12 rfl hl (by decide) rfl (fun ls hl => ?_)
    refine lv_iconst (v := 0) hx hb dX3_bitsOfFloat_13 (by decide) ?_
    refine lv_istore_n (lv' := [(3, .int 0), (2, .int 127), (1, .float nu), (0, .float nu)]) hx hb dX3_bitsOfFloat_14 rfl hl (by decide) rfl (fun ls hl => ?_)
    have lp6 : ∀ (n7 j3 : Nat) (x4 : Int32) (x5 : UInt32), 0 ≤ j3 → j3 ≤ 127 → 127 < j3 + n7 → ∀ (H : Heap) (locs : List Loc) (ls : Array Slot), FP.Core.fIsNaN x5 = false → True → va_S (fun _ => False) s.heap H locs → lv_has ls 4 [(3, .int (nI j3)), (2, .int x4), (1, .float x5), (0, .float nu)] → W p l e (headSpec wsX3_bitsOfFloat ({ frames := 0, cells := 0, slots := 0, locals := 0 })).room s m args below meth c H locs 0 0 Q (F0 m 15 ls []) := by
      intro n7
      induction n7 with
      | zero => intro j3 x4 x5 h0 h1 h2; omega
      | succ n7 ih8 =>
        intro j3 x4 x5 lj3 hj3 hn7 H locs ls hf9 hM hS hl
        refine lv_iload_n hx hb dX3_bitsOfFloat_15 rfl (lv_at hl 0 rfl) ?_
        refine lv_bipush (v := 127) hx hb dX3_bitsOfFloat_16 (by decide) ?_
        refine lv_icmp_ge (tgt := 40) hx hb dX3_bitsOfFloat_18 (by decide) (fun c10 => ?_) (fun c10 => ?_)
        · skip
          have k11 : 127 ≤ j3 := (nI_leI (a := 127) (b := j3) (by omega) (by omega)).mp c10
          refine lv_iconst (v := 0) hx hb dX3_bitsOfFloat_40 (by decide) ?_
          refine lv_istore_n (lv' := [(3, .int 0), (2, .int x4), (1, .float x5), (0, .float nu)]) hx hb dX3_bitsOfFloat_41 rfl hl (by decide) rfl (fun ls hl => ?_)
          have lp15 : ∀ (n16 j12 : Nat) (x13 : Int32) (x14 : UInt32), 0 ≤ j12 → j12 ≤ 126 → 126 < j12 + n16 → ∀ (H : Heap) (locs : List Loc) (ls : Array Slot), FP.Core.fIsNaN x14 = false → True → va_S (fun _ => False) s.heap H locs → lv_has ls 4 [(3, .int (nI j12)), (2, .int x13), (1, .float x14), (0, .float nu)] → W p l e (headSpec wsX3_bitsOfFloat ({ frames := 0, cells := 0, slots := 0, locals := 0 })).room s m args below meth c H locs 0 0 Q (F0 m 42 ls []) := by
            intro n16
            induction n16 with
            | zero => intro j12 x13 x14 h0 h1 h2; omega
            | succ n16 ih17 =>
              intro j12 x13 x14 lj12 hj12 hn16 H locs ls hf18 hM hS hl
              refine lv_iload_n hx hb dX3_bitsOfFloat_42 rfl (lv_at hl 0 rfl) ?_
              refine lv_bipush (v := 126) hx hb dX3_bitsOfFloat_43 (by decide) ?_
              refine lv_icmp_ge (tgt := 67) hx hb dX3_bitsOfFloat_45 (by decide) (fun c19 => ?_) (fun c19 => ?_)
              · skip
                have k20 : 126 ≤ j12 := (nI_leI (a := 126) (b := j12) (by omega) (by omega)).mp c19
                refine lv_iload_n hx hb dX3_bitsOfFloat_67 rfl (lv_at hl 1 rfl) ?_
                refine lv_bipush (v := 23) hx hb dX3_bitsOfFloat_68 (by decide) ?_
                refine lv_ishl hx hb dX3_bitsOfFloat_70 ?_
                refine lv_topi (fun v21 e22 => ?_)
                refine lv_fload_n hx hb dX3_bitsOfFloat_71 rfl (lv_at hl 2 rfl) ?_
                refine lv_fconst1 hx hb dX3_bitsOfFloat_72 ?_
                have hn23 : FP.Core.fIsNaN (FP.fsub x14 FP.fconst1) = false := FP.Core.fsub_out hf18 fc1_fin
                refine lv_fsub hx hb dX3_bitsOfFloat_73 (nn32 hn23) ?_
                refine rt_ldcwf hx hb hown (hts (.constantFloat RX3 342 1258291200) (by decide +kernel)) dX3_bitsOfFloat_74 ?_
                have hn24 : FP.Core.fIsNaN (FP.fmul (FP.fsub x14 FP.fconst1) 1258291200) = false := FP.Core.fmul_out' hn23 c23_fin c23_nz
                refine lv_fmul hx hb dX3_bitsOfFloat_77 (nn32 hn24) ?_
                refine lv_f2i hx hb dX3_bitsOfFloat_78 ?_
                refine lv_iadd hx hb dX3_bitsOfFloat_79 ?_
                refine lv_topi (fun v25 e26 => ?_)
                subst hQ
                refine W.widen (k := 0) (n := 0) (Nat.le_of_ble_eq_true rfl) (Nat.le_of_ble_eq_true rfl) ?_
                exact W.iret (v := v25) hx hb hr (fun t ht hW => ⟨⟨v25, (), rfl, trivial, trivial⟩, hS.F ht⟩) hS.2.2 dX3_bitsOfFloat_80
              · skip
                have k27 : ¬ (126 ≤ j12) := fun z => c19 ((nI_leI (a := 126) (b := j12) (by omega) (by omega)).mpr z)
                refine lv_fload_n hx hb dX3_bitsOfFloat_48 rfl (lv_at hl 2 rfl) ?_
                refine lv_fconst1 hx hb dX3_bitsOfFloat_49 ?_
                refine lv_fcmp hx hb dX3_bitsOfFloat_50 ?_
                refine lv_if_ge (tgt := 67) hx hb dX3_bitsOfFloat_51 (by decide) (fun c28 => ?_) (fun c28 => ?_)
                · skip
                  have i29 := (Int32.le_iff_toInt_le).mp c28
                  have ii29 : (0 : Int32).toInt = 0 := by decide
                  have i29 := i29
                  refine lv_iload_n hx hb dX3_bitsOfFloat_67 rfl (lv_at hl 1 rfl) ?_
                  refine lv_bipush (v := 23) hx hb dX3_bitsOfFloat_68 (by decide) ?_
                  refine lv_ishl hx hb dX3_bitsOfFloat_70 ?_
                  refine lv_topi (fun v30 e31 => ?_)
                  refine lv_fload_n hx hb dX3_bitsOfFloat_71 rfl (lv_at hl 2 rfl) ?_
                  refine lv_fconst1 hx hb dX3_bitsOfFloat_72 ?_
                  have hn32 : FP.Core.fIsNaN (FP.fsub x14 FP.fconst1) = false := FP.Core.fsub_out hf18 fc1_fin
                  refine lv_fsub hx hb dX3_bitsOfFloat_73 (nn32 hn32) ?_
                  refine rt_ldcwf hx hb hown (hts (.constantFloat RX3 342 1258291200) (by decide +kernel)) dX3_bitsOfFloat_74 ?_
                  have hn33 : FP.Core.fIsNaN (FP.fmul (FP.fsub x14 FP.fconst1) 1258291200) = false := FP.Core.fmul_out' hn32 c23_fin c23_nz
                  refine lv_fmul hx hb dX3_bitsOfFloat_77 (nn32 hn33) ?_
                  refine lv_f2i hx hb dX3_bitsOfFloat_78 ?_
                  refine lv_iadd hx hb dX3_bitsOfFloat_79 ?_
                  refine lv_topi (fun v34 e35 => ?_)
                  subst hQ
                  refine W.widen (k := 0) (n := 0) (Nat.le_of_ble_eq_true rfl) (Nat.le_of_ble_eq_true rfl) ?_
                  exact W.iret (v := v34) hx hb hr (fun t ht hW => ⟨⟨v34, (), rfl, trivial, trivial⟩, hS.F ht⟩) hS.2.2 dX3_bitsOfFloat_80
                · skip
                  have i36 := fun z => c28 ((Int32.le_iff_toInt_le).mpr z)
                  have ii36 : (0 : Int32).toInt = 0 := by decide
                  have i36 : ¬ ((0 : Int32).toInt ≤ (Op.cmpValue (FP.fcmp x14 FP.fconst1) .g : Int32).toInt) := i36
                  refine lv_fload_n hx hb dX3_bitsOfFloat_54 rfl (lv_at hl 2 rfl) ?_
                  refine lv_fconst2 hx hb dX3_bitsOfFloat_55 ?_
                  have hn37 : FP.Core.fIsNaN (FP.fmul x14 FP.fconst2) = false := FP.Core.fmul_out' hf18 fc2_fin fc2_nz
                  refine lv_fmul hx hb dX3_bitsOfFloat_56 (nn32 hn37) ?_
                  refine lv_fstore_n (lv' := [(1, .float (FP.fmul x14 FP.fconst2)), (3, .int (nI j12)), (2, .int x13), (0, .float nu)]) hx hb dX3_bitsOfFloat_57 rfl hl (by decide) rfl (fun ls hl => ?_)
                  obtain ⟨v38, e39⟩ : ∃ y : Int32, y = x13 + (-1) := ⟨_, rfl⟩
                  refine lv_iinc (v := v38) (lv' := [(2, .int v38), (1, .float (FP.fmul x14 FP.fconst2)), (3, .int (nI j12)), (0, .float nu)]) hx hb dX3_bitsOfFloat_58 hl (k := 2) rfl (by rw [e39]; rfl) (by decide) rfl (fun ls hl => ?_)
                  refine lv_iinc (v := (nI (j12 + 1))) (lv' := [(3, .int (nI (j12 + 1))), (2, .int v38), (1, .float (FP.fmul x14 FP.fconst2)), (0, .float nu)]) hx hb dX3_bitsOfFloat_61 hl (k := 2) rfl (nI_add j12 1) (by decide) rfl (fun ls hl => ?_)
                  refine lv_goto (tgt := 42) hx hb dX3_bitsOfFloat_64 (by decide) ?_
                  exact ih17 ((j12 + 1)) v38 (FP.fmul x14 FP.fconst2) (by omega) (by omega) (by omega) H _ ls hn37 hM hS (lv_sub hl [0, 1, 2, 3] rfl)
          exact lp15 (126 + 1) 0 x4 x5 (by omega) (by omega) (by omega) H _ ls hf9 hM hS (lv_sub hl [0, 1, 2, 3] rfl)
        · skip
          have k40 : ¬ (127 ≤ j3) := fun z => c10 ((nI_leI (a := 127) (b := j3) (by omega) (by omega)).mpr z)
          refine lv_fload_n hx hb dX3_bitsOfFloat_21 rfl (lv_at hl 2 rfl) ?_
          refine lv_fconst2 hx hb dX3_bitsOfFloat_22 ?_
          refine lv_fcmp hx hb dX3_bitsOfFloat_23 ?_
          refine lv_if_lt (tgt := 40) hx hb dX3_bitsOfFloat_24 (by decide) (fun c41 => ?_) (fun c41 => ?_)
          · skip
            have i42 := (Int32.lt_iff_toInt_lt).mp c41
            have ii42 : (0 : Int32).toInt = 0 := by decide
            have i42 := i42
            refine lv_iconst (v := 0) hx hb dX3_bitsOfFloat_40 (by decide) ?_
            refine lv_istore_n (lv' := [(3, .int 0), (2, .int x4), (1, .float x5), (0, .float nu)]) hx hb dX3_bitsOfFloat_41 rfl hl (by decide) rfl (fun ls hl => ?_)
            have lp46 : ∀ (n47 j43 : Nat) (x44 : Int32) (x45 : UInt32), 0 ≤ j43 → j43 ≤ 126 → 126 < j43 + n47 → ∀ (H : Heap) (locs : List Loc) (ls : Array Slot), FP.Core.fIsNaN x45 = false → True → va_S (fun _ => False) s.heap H locs → lv_has ls 4 [(3, .int (nI j43)), (2, .int x44), (1, .float x45), (0, .float nu)] → W p l e (headSpec wsX3_bitsOfFloat ({ frames := 0, cells := 0, slots := 0, locals := 0 })).room s m args below meth c H locs 0 0 Q (F0 m 42 ls []) := by
              intro n47
              induction n47 with
              | zero => intro j43 x44 x45 h0 h1 h2; omega
              | succ n47 ih48 =>
                intro j43 x44 x45 lj43 hj43 hn47 H locs ls hf49 hM hS hl
                refine lv_iload_n hx hb dX3_bitsOfFloat_42 rfl (lv_at hl 0 rfl) ?_
                refine lv_bipush (v := 126) hx hb dX3_bitsOfFloat_43 (by decide) ?_
                refine lv_icmp_ge (tgt := 67) hx hb dX3_bitsOfFloat_45 (by decide) (fun c50 => ?_) (fun c50 => ?_)
                · skip
                  have k51 : 126 ≤ j43 := (nI_leI (a := 126) (b := j43) (by omega) (by omega)).mp c50
                  refine lv_iload_n hx hb dX3_bitsOfFloat_67 rfl (lv_at hl 1 rfl) ?_
                  refine lv_bipush (v := 23) hx hb dX3_bitsOfFloat_68 (by decide) ?_
                  refine lv_ishl hx hb dX3_bitsOfFloat_70 ?_
                  refine lv_topi (fun v52 e53 => ?_)
                  refine lv_fload_n hx hb dX3_bitsOfFloat_71 rfl (lv_at hl 2 rfl) ?_
                  refine lv_fconst1 hx hb dX3_bitsOfFloat_72 ?_
                  have hn54 : FP.Core.fIsNaN (FP.fsub x45 FP.fconst1) = false := FP.Core.fsub_out hf49 fc1_fin
                  refine lv_fsub hx hb dX3_bitsOfFloat_73 (nn32 hn54) ?_
                  refine rt_ldcwf hx hb hown (hts (.constantFloat RX3 342 1258291200) (by decide +kernel)) dX3_bitsOfFloat_74 ?_
                  have hn55 : FP.Core.fIsNaN (FP.fmul (FP.fsub x45 FP.fconst1) 1258291200) = false := FP.Core.fmul_out' hn54 c23_fin c23_nz
                  refine lv_fmul hx hb dX3_bitsOfFloat_77 (nn32 hn55) ?_
                  refine lv_f2i hx hb dX3_bitsOfFloat_78 ?_
                  refine lv_iadd hx hb dX3_bitsOfFloat_79 ?_
                  refine lv_topi (fun v56 e57 => ?_)
                  subst hQ
                  refine W.widen (k := 0) (n := 0) (Nat.le_of_ble_eq_true rfl) (Nat.le_of_ble_eq_true rfl) ?_
                  exact W.iret (v := v56) hx hb hr (fun t ht hW => ⟨⟨v56, (), rfl, trivial, trivial⟩, hS.F ht⟩) hS.2.2 dX3_bitsOfFloat_80
                · skip
                  have k58 : ¬ (126 ≤ j43) := fun z => c50 ((nI_leI (a := 126) (b := j43) (by omega) (by omega)).mpr z)
                  refine lv_fload_n hx hb dX3_bitsOfFloat_48 rfl (lv_at hl 2 rfl) ?_
                  refine lv_fconst1 hx hb dX3_bitsOfFloat_49 ?_
                  refine lv_fcmp hx hb dX3_bitsOfFloat_50 ?_
                  refine lv_if_ge (tgt := 67) hx hb dX3_bitsOfFloat_51 (by decide) (fun c59 => ?_) (fun c59 => ?_)
                  · skip
                    have i60 := (Int32.le_iff_toInt_le).mp c59
                    have ii60 : (0 : Int32).toInt = 0 := by decide
                    have i60 := i60
                    refine lv_iload_n hx hb dX3_bitsOfFloat_67 rfl (lv_at hl 1 rfl) ?_
                    refine lv_bipush (v := 23) hx hb dX3_bitsOfFloat_68 (by decide) ?_
                    refine lv_ishl hx hb dX3_bitsOfFloat_70 ?_
                    refine lv_topi (fun v61 e62 => ?_)
                    refine lv_fload_n hx hb dX3_bitsOfFloat_71 rfl (lv_at hl 2 rfl) ?_
                    refine lv_fconst1 hx hb dX3_bitsOfFloat_72 ?_
                    have hn63 : FP.Core.fIsNaN (FP.fsub x45 FP.fconst1) = false := FP.Core.fsub_out hf49 fc1_fin
                    refine lv_fsub hx hb dX3_bitsOfFloat_73 (nn32 hn63) ?_
                    refine rt_ldcwf hx hb hown (hts (.constantFloat RX3 342 1258291200) (by decide +kernel)) dX3_bitsOfFloat_74 ?_
                    have hn64 : FP.Core.fIsNaN (FP.fmul (FP.fsub x45 FP.fconst1) 1258291200) = false := FP.Core.fmul_out' hn63 c23_fin c23_nz
                    refine lv_fmul hx hb dX3_bitsOfFloat_77 (nn32 hn64) ?_
                    refine lv_f2i hx hb dX3_bitsOfFloat_78 ?_
                    refine lv_iadd hx hb dX3_bitsOfFloat_79 ?_
                    refine lv_topi (fun v65 e66 => ?_)
                    subst hQ
                    refine W.widen (k := 0) (n := 0) (Nat.le_of_ble_eq_true rfl) (Nat.le_of_ble_eq_true rfl) ?_
                    exact W.iret (v := v65) hx hb hr (fun t ht hW => ⟨⟨v65, (), rfl, trivial, trivial⟩, hS.F ht⟩) hS.2.2 dX3_bitsOfFloat_80
                  · skip
                    have i67 := fun z => c59 ((Int32.le_iff_toInt_le).mpr z)
                    have ii67 : (0 : Int32).toInt = 0 := by decide
                    have i67 : ¬ ((0 : Int32).toInt ≤ (Op.cmpValue (FP.fcmp x45 FP.fconst1) .g : Int32).toInt) := i67
                    refine lv_fload_n hx hb dX3_bitsOfFloat_54 rfl (lv_at hl 2 rfl) ?_
                    refine lv_fconst2 hx hb dX3_bitsOfFloat_55 ?_
                    have hn68 : FP.Core.fIsNaN (FP.fmul x45 FP.fconst2) = false := FP.Core.fmul_out' hf49 fc2_fin fc2_nz
                    refine lv_fmul hx hb dX3_bitsOfFloat_56 (nn32 hn68) ?_
                    refine lv_fstore_n (lv' := [(1, .float (FP.fmul x45 FP.fconst2)), (3, .int (nI j43)), (2, .int x44), (0, .float nu)]) hx hb dX3_bitsOfFloat_57 rfl hl (by decide) rfl (fun ls hl => ?_)
                    obtain ⟨v69, e70⟩ : ∃ y : Int32, y = x44 + (-1) := ⟨_, rfl⟩
                    refine lv_iinc (v := v69) (lv' := [(2, .int v69), (1, .float (FP.fmul x45 FP.fconst2)), (3, .int (nI j43)), (0, .float nu)]) hx hb dX3_bitsOfFloat_58 hl (k := 2) rfl (by rw [e70]; rfl) (by decide) rfl (fun ls hl => ?_)
                    refine lv_iinc (v := (nI (j43 + 1))) (lv' := [(3, .int (nI (j43 + 1))), (2, .int v69), (1, .float (FP.fmul x45 FP.fconst2)), (0, .float nu)]) hx hb dX3_bitsOfFloat_61 hl (k := 2) rfl (nI_add j43 1) (by decide) rfl (fun ls hl => ?_)
                    refine lv_goto (tgt := 42) hx hb dX3_bitsOfFloat_64 (by decide) ?_
                    exact ih48 ((j43 + 1)) v69 (FP.fmul x45 FP.fconst2) (by omega) (by omega) (by omega) H _ ls hn68 hM hS (lv_sub hl [0, 1, 2, 3] rfl)
            exact lp46 (126 + 1) 0 x4 x5 (by omega) (by omega) (by omega) H _ ls hf9 hM hS (lv_sub hl [0, 1, 2, 3] rfl)
          · skip
            have i71 := fun z => c41 ((Int32.lt_iff_toInt_lt).mpr z)
            have ii71 : (0 : Int32).toInt = 0 := by decide
            have i71 : ¬ ((Op.cmpValue (FP.fcmp x5 FP.fconst2) .l : Int32).toInt < (0 : Int32).toInt) := i71
            refine lv_fload_n hx hb dX3_bitsOfFloat_27 rfl (lv_at hl 2 rfl) ?_
            refine lv_fconst2 hx hb dX3_bitsOfFloat_28 ?_
            have hn72 : FP.Core.fIsNaN (FP.fdiv x5 FP.fconst2) = false := FP.Core.fdiv_out hf9 fc2_fin fc2_nz
            refine lv_fdiv hx hb dX3_bitsOfFloat_29 (nn32 hn72) ?_
            refine lv_fstore_n (lv' := [(1, .float (FP.fdiv x5 FP.fconst2)), (3, .int (nI j3)), (2, .int x4), (0, .float nu)]) hx hb dX3_bitsOfFloat_30 rfl hl (by decide) rfl (fun ls hl => ?_)
            obtain ⟨v73, e74⟩ : ∃ y : Int32, y = x4 + 1 := ⟨_, rfl⟩
            refine lv_iinc (v := v73) (lv' := [(2, .int v73), (1, .float (FP.fdiv x5 FP.fconst2)), (3, .int (nI j3)), (0, .float nu)]) hx hb dX3_bitsOfFloat_31 hl (k := 2) rfl (by rw [e74]; rfl) (by decide) rfl (fun ls hl => ?_)
            refine lv_iinc (v := (nI (j3 + 1))) (lv' := [(3, .int (nI (j3 + 1))), (2, .int v73), (1, .float (FP.fdiv x5 FP.fconst2)), (0, .float nu)]) hx hb dX3_bitsOfFloat_34 hl (k := 2) rfl (nI_add j3 1) (by decide) rfl (fun ls hl => ?_)
            refine lv_goto (tgt := 15) hx hb dX3_bitsOfFloat_37 (by decide) ?_
            exact ih8 ((j3 + 1)) v73 (FP.fdiv x5 FP.fconst2) (by omega) (by omega) (by omega) H _ ls hn72 hM hS (lv_sub hl [0, 1, 2, 3] rfl)
    exact lp6 (127 + 1) 0 127 nu (by omega) (by omega) (by omega) s.heap _ ls hnu hM hS (lv_sub hl [0, 1, 2, 3] rfl)
  · skip
    have i75 := fun z => c1 ((Int32.lt_iff_toInt_lt).mpr z)
    have ii75 : (0 : Int32).toInt = 0 := by decide
    have i75 : ¬ ((0 : Int32).toInt < (Op.cmpValue (FP.fcmp nu FP.fconst0) .l : Int32).toInt) := i75
    refine lv_iconst (v := 0) hx hb dX3_bitsOfFloat_6 (by decide) ?_
    subst hQ
    refine W.widen (k := 0) (n := 0) (Nat.le_of_ble_eq_true rfl) (Nat.le_of_ble_eq_true rfl) ?_
    exact W.iret (v := 0) hx hb hr (fun t ht hW => ⟨⟨0, (), rfl, trivial, trivial⟩, hS.F ht⟩) hS.2.2 dX3_bitsOfFloat_7

set_option maxHeartbeats 4000000 in
set_option maxRecDepth 100000 in
theorem rf_carries (l : Launch) (hlt : l.stackTraces = false) (dC : Nat → ClassId) (dI : Nat → Nat → Nat) (kA : Nat → ClassId) (eD b : Nat) (g : Gh) (o : Nat) (site : Int32) (x : Int32) (hto : tg g o = 1)  : vx_Met l yX3_carries wzX3_carries ({ frames := 6, cells := 1, slots := 6, locals := 119 }) (va_Pc [.ref o, .int site, .int x] (CX (dC, dI) kA eD b g)) (va_Qi (fun (r : Int32) (u : Unit) => True) (fun (u : Unit) t => CX (dC, dI) kA eD b g t) (fun q => b ≤ q)) (vx_X (fun _ : Unit => True) (fun E _ t => (E = "java/lang/IndexOutOfBoundsException" ∨ E = "java/util/NoSuchElementException") ∧ TM (dC, dI) kA b g t.heap) (fun q => b ≤ q)) 1 6 (fun q => b ≤ q) := by
  refine vx_ofW (cc := cX3_carries) (maxL := 5) (ret := (some .int)) (by decide +kernel) rfl ?_
  intro p e s m args below meth c s₁ B hml hnt hv
  obtain ⟨rfl, hb0, hM, hK, hG, hE⟩ := hv
  have hx := B.exec
  have hb := B.bytes
  have hr := B.returns
  have hts := atoms_spec (ws := wzX3_carries) B.pre
  have hown : s.vm.findClass RX3 = some m.cls := findClass_of_methodNamed B.named
  have hlocks := B.notSynchronized
  have hT := hE.1
  have hN := hE.2.2.2.2.2.2.2.1
  have hS : va_S (fun q => b ≤ q) s.heap s.heap [] := va_S.rf
  have hl := lv_entry ([.ref o, .int site, .int x]) (n := 5) (Nat.le_of_ble_eq_true rfl)
  rw [lg_entry_eq]
  generalize (lg_sl ([.ref o, .int site, .int x]) ++ List.replicate (5 - (lg_sl ([.ref o, .int site, .int x])).length) Slot.unset).toArray = ls at hl ⊢
  have hl : lv_has ls 5 [(0, .ref o), (1, .int site), (2, .int x)] := hl
  generalize ([.ref o, .int site, .int x] : List Value).toArray = args at hts ⊢
  refine lv_aload_n hx hb dX3_carries_0 rfl (lv_at hl 0 rfl) ?_
  refine lv_iload_n hx hb dX3_carries_1 rfl (lv_at hl 1 rfl) ?_
  refine lv_iload_n hx hb dX3_carries_2 rfl (lv_at hl 2 rfl) ?_
  refine lv_iconst (v := 0) hx hb dX3_carries_3 (by decide) ?_
  obtain ⟨u1, u2, u3, u4, hP, hf⟩ := o_sno (i := 0) (q := o) hM (by omega)
  refine va_callq (va_runV (As := [.int site, .int x, .int 0]) (rest := []) ⟨hx, hb, hml, hown, hts⟩ (rk_placedSite l dC dI kA eD b g o site x 0 (by omega)) (cwV 3 hts gX3_carries_X3_placedSite rfl rfl rfl (by decide +kernel) ⟨Nat.le_of_ble_eq_true rfl, Nat.le_of_ble_eq_true rfl⟩) ⟨fb_CX, va_recv hK hP (ci := 7) (q0 := 0) rfl rfl, fun U hU hW => ⟨rfl, CX.give hb0 hM hK hG hE hS hU hW⟩⟩ rfl rfl hl.1 rfl (lv_room (Nat.le_of_ble_eq_true rfl)) dX3_carries_4 ⟨(Nat.le_of_ble_eq_true rfl), (Nat.le_of_ble_eq_true rfl)⟩) hS (fun q _ h => h) (fun q h => h) (fun r5 u t H locs ht hvm hw6 hB hz1 hk1 hS => ?_)
  have hM := hB.back ht
  have hG := hB.2.2.2.1
  rcases hw6 with ⟨rfl, hn14⟩ | ⟨j7, a8, jx9, jy10, rfl, rfl, rfl, hy9, hjx9, hjy10, hj13, ho11, ht12⟩
  · skip
    refine lv_astore_nN (lv' := [(3, .null), (0, .ref o), (1, .int site), (2, .int x)]) hx hb dX3_carries_7 rfl hl (by decide) rfl (fun ls hl => ?_)
    refine lv_aload_nN hx hb dX3_carries_8 rfl (lv_at hl 0 rfl) ?_
    refine lv_ifnonnullN hx hb dX3_carries_9 ?_
    obtain ⟨sa, hsa⟩ := hT.2.1 (137, "no such site or place") (by decide +kernel)
    exact vx_throwS (A := (fun q => b ≤ q)) (own := RX3) (cls := "java/lang/IndexOutOfBoundsException") (text := "no such site or place") (names := exN) hx hb hlt hown (by decide +kernel) (by decide +kernel) (hts (.classLink RX3 135 "java/lang/IndexOutOfBoundsException") (by decide +kernel)) (hts (.initialized "java/lang/IndexOutOfBoundsException") (by decide +kernel)) hsa (th_hat hT (fun w h => hts w (List.mem_cons_of_mem _ (List.mem_append_left _ (List.mem_append_right _ h)))) th_i4) (th_good th_i4) hT.2.2.2.1 hT.2.2.2.2 hS (hl.1.trans hml.symm) dX3_carries_12 dX3_carries_15 dX3_carries_16 dX3_carries_18 dX3_carries_21 (fun x h => (hnt x h).elim) (by decide) (Nat.le_of_ble_eq_true rfl) (Nat.le_of_ble_eq_true rfl) (Nat.le_of_ble_eq_true rfl) hlocks (fun t ha h1 h2 => ⟨(), trivial, ⟨(Or.inl rfl), hM.keep h2⟩, th_F hS h1 h2⟩) hS.2.2 (Nat.le_of_ble_eq_true rfl) (Nat.le_of_ble_eq_true rfl)
  · skip
    have hl : lv_has ls 5 [(0, .ref o), (1, .int (nI j7)), (2, .int (nI jx9))] := hl
    refine lv_astore_n (lv' := [(3, .ref a8), (0, .ref o), (1, .int (nI j7)), (2, .int (nI jx9))]) hx hb dX3_carries_7 rfl hl (by decide) rfl (fun ls hl => ?_)
    refine lv_aload_n hx hb dX3_carries_8 rfl (lv_at hl 0 rfl) ?_
    refine lv_ifnonnull (tgt := 22) hx hb dX3_carries_9 (by decide) ?_
    refine lv_aload_n hx hb dX3_carries_22 rfl (lv_at hl 0 rfl) ?_
    refine lv_iload_n hx hb dX3_carries_23 rfl (lv_at hl 3 rfl) ?_
    obtain ⟨u15, u16, u17, u18, u19, u20, hP, hf⟩ := o_st (i := j7) (q := a8) hM (by omega)
    refine va_calli (va_runV (As := [.int (nI jx9)]) (rest := []) ⟨hx, hb, hml, hown, hts⟩ (rk_highestPlace l dC dI kA eD b g a8 j7 jx9 (by omega) (by omega)) (cwV 1 hts gX3_carries_X1_highestPlace rfl rfl rfl (by decide +kernel) ⟨Nat.le_of_ble_eq_true rfl, Nat.le_of_ble_eq_true rfl⟩) ⟨fb_CX, va_recv hK hP (ci := 5) (q0 := 0) rfl rfl, fun U hU hW => ⟨rfl, CX.give hb0 hM hK hG hE hS hU hW⟩⟩ rfl rfl hl.1 rfl (lv_room (Nat.le_of_ble_eq_true rfl)) dX3_carries_24 ⟨(Nat.le_of_ble_eq_true rfl), (Nat.le_of_ble_eq_true rfl)⟩) hS (fun q _ h => h) (fun q h => h) (fun r21 u t H locs ht hvm hw22 hB hz1 hk1 hS => ?_)
    have hM := hB.back ht
    have hG := hB.2.2.2.1
    rcases hw22 with rfl | ⟨q23, hq24, rfl⟩
    · skip
      refine lv_istore (lv' := [(4, .int (-1)), (3, .ref a8), (0, .ref o), (1, .int (nI j7)), (2, .int (nI jx9))]) hx hb dX3_carries_27 hl (by decide) rfl (fun ls hl => ?_)
      refine lv_iload hx hb dX3_carries_29 (lv_at hl 0 rfl) ?_
      refine lv_iconst (v := (-1)) hx hb dX3_carries_31 (by decide) ?_
      refine lv_icmp_ne (tgt := 45) hx hb dX3_carries_32 (by decide) (fun cx => by first | exact absurd cx (by decide) | exact absurd (by decide) cx) (fun _ => ?_)
      obtain ⟨sa, hsa⟩ := hT.2.1 (244, "the column has no cell") (by decide +kernel)
      exact rt_throwSX (A := (fun q => b ≤ q)) (own := RX3) (cls := "java/util/NoSuchElementException") (text := "the column has no cell") (names := exN) (ix := 13) (rx := prog_38_method_4_code) hx hb hlt rx13_0 rx13_1 rx13_2 rx13_5 hown (by decide +kernel) (by decide +kernel) (hts (.classLink RX3 180 "java/util/NoSuchElementException") (by decide +kernel)) hE.2.2.2.2.2.2.2.2.ini hsa hE.2.2.2.2.2.2.2.2.hat nse_good hT.2.2.2.1 hT.2.2.2.2 hS (hl.1.trans hml.symm) dX3_carries_35 dX3_carries_38 dX3_carries_39 dX3_carries_41 dX3_carries_44 (fun x h => (hnt x h).elim) (by decide) (Nat.le_of_ble_eq_true rfl) (Nat.le_of_ble_eq_true rfl) (Nat.le_of_ble_eq_true rfl) hlocks (fun t ha h1 h2 => ⟨(), trivial, ⟨(Or.inr rfl), hM.keep h2⟩, th_F hS h1 h2⟩) hS.2.2 (Nat.le_of_ble_eq_true rfl) (Nat.le_of_ble_eq_true rfl)
    · skip
      refine lv_istore (lv' := [(4, .int (nI q23)), (3, .ref a8), (0, .ref o), (1, .int (nI j7)), (2, .int (nI jx9))]) hx hb dX3_carries_27 hl (by decide) rfl (fun ls hl => ?_)
      refine lv_iload hx hb dX3_carries_29 (lv_at hl 0 rfl) ?_
      refine lv_iconst (v := (-1)) hx hb dX3_carries_31 (by decide) ?_
      refine lv_icmp_ne (tgt := 45) hx hb dX3_carries_32 (by decide) (fun c25 => ?_) (fun c25 => ?_)
      · skip
        refine lv_aload_n hx hb dX3_carries_45 rfl (lv_at hl 1 rfl) ?_
        refine lv_iload hx hb dX3_carries_46 (lv_at hl 0 rfl) ?_
        refine lv_aload_n hx hb dX3_carries_48 rfl (lv_at hl 2 rfl) ?_
        obtain ⟨u26, u27, u28, u29, hP, hf⟩ := o_sno (i := 0) (q := o) hM (by omega)
        refine va_get (D := (dC, dI)) (ci := 7) (v := .ref (pF g o 0)) (C := RX3) (T := TX3) (N := 10) hx hb hts (by decide +kernel) hown hK hP 0 rfl rfl 0 (by decide) (hts (.fieldLink RX3 10 "Snowpalace" "sky" "LSnowpalace$Sky;") (by decide +kernel)) (fun _ h9 => h9) rfl dX3_carries_49 ?_
        have ht30 : tg g (pF g o 0) = 2 := hf.1
        refine lv_aload_n hx hb dX3_carries_52 rfl (lv_at hl 2 rfl) ?_
        obtain ⟨u31, u32, u33, u34, hP, hf⟩ := o_sno (i := 0) (q := o) hM (by omega)
        refine va_get (D := (dC, dI)) (ci := 7) (v := .int (pI g o 1)) (C := RX3) (T := TX3) (N := 10) hx hb hts (by decide +kernel) hown hK hP 0 rfl rfl 4 (by decide) (hts (.fieldLink RX3 33 "Snowpalace" "clock" "I") (by decide +kernel)) (fun _ h9 => h9) rfl dX3_carries_53 ?_
        have hv35 := hf.2.2.2.2.1
        obtain ⟨hP, hf⟩ := o_sky (i := 0) (q := (pF g o 0)) hM (by omega)
        refine va_calli (va_runV (As := [.int (pI g o 1)]) (rest := [.int (nI q23), .ref a8]) ⟨hx, hb, hml, hown, hts⟩ (rk_warmthOf l dC dI kA eD b g (pF g o 0) (pI g o 1) (by omega)) (cwV 1 hts gX3_carries_X2_warmthOf rfl rfl rfl (by decide +kernel) ⟨Nat.le_of_ble_eq_true rfl, Nat.le_of_ble_eq_true rfl⟩) ⟨fb_CX, va_recv hK hP (ci := 6) (q0 := 0) rfl rfl, fun U hU hW => ⟨rfl, CX.give hb0 hM hK hG hE hS hU hW⟩⟩ rfl rfl hl.1 rfl (lv_room (Nat.le_of_ble_eq_true rfl)) dX3_carries_56 ⟨(Nat.le_of_ble_eq_true rfl), (Nat.le_of_ble_eq_true rfl)⟩) hS (fun q _ h => h) (fun q h => h) (fun r36 u t H locs ht hvm hw37 hB hz1 hk1 hS => ?_)
        have hM := hB.back ht
        have hG := hB.2.2.2.1
        obtain ⟨u38, u39, u40, u41, u42, u43, hP, hf⟩ := o_st (i := j7) (q := a8) hM (by omega)
        refine va_calli (va_runV (As := [.int (nI q23), .int r36]) (rest := []) ⟨hx, hb, hml, hown, hts⟩ (rk_peopleOn l dC dI kA eD b g a8 j7 (nI q23) r36 (by omega)) (cwV 2 hts gX3_carries_X1_peopleOn rfl rfl rfl (by decide +kernel) ⟨Nat.le_of_ble_eq_true rfl, Nat.le_of_ble_eq_true rfl⟩) ⟨fb_CX, va_recv hK hP (ci := 5) (q0 := 0) rfl rfl, fun U hU hW => ⟨rfl, CX.give hb0 hM hK hG hE hS hU hW⟩⟩ rfl rfl hl.1 rfl (lv_room (Nat.le_of_ble_eq_true rfl)) dX3_carries_59 ⟨(Nat.le_of_ble_eq_true rfl), (Nat.le_of_ble_eq_true rfl)⟩) hS (fun q _ h => h) (fun q h => h) (fun r44 u t H locs ht hvm hw45 hB hz1 hk1 hS => ?_)
        have hM := hB.back ht
        have hG := hB.2.2.2.1
        refine vx_ret ?_
        refine W.widen (k := 1) (n := 6) (Nat.le_of_ble_eq_true rfl) (Nat.le_of_ble_eq_true rfl) ?_
        exact W.iret (v := r44) hx hb hr (fun t ht hW => ⟨⟨r44, (), rfl, trivial, CX.give hb0 hM hK hG hE hS ht hW⟩, hS.F ht⟩) hS.2.2 dX3_carries_62
      · skip
        obtain ⟨sa, hsa⟩ := hT.2.1 (244, "the column has no cell") (by decide +kernel)
        exact rt_throwSX (A := (fun q => b ≤ q)) (own := RX3) (cls := "java/util/NoSuchElementException") (text := "the column has no cell") (names := exN) (ix := 13) (rx := prog_38_method_4_code) hx hb hlt rx13_0 rx13_1 rx13_2 rx13_5 hown (by decide +kernel) (by decide +kernel) (hts (.classLink RX3 180 "java/util/NoSuchElementException") (by decide +kernel)) hE.2.2.2.2.2.2.2.2.ini hsa hE.2.2.2.2.2.2.2.2.hat nse_good hT.2.2.2.1 hT.2.2.2.2 hS (hl.1.trans hml.symm) dX3_carries_35 dX3_carries_38 dX3_carries_39 dX3_carries_41 dX3_carries_44 (fun x h => (hnt x h).elim) (by decide) (Nat.le_of_ble_eq_true rfl) (Nat.le_of_ble_eq_true rfl) (Nat.le_of_ble_eq_true rfl) hlocks (fun t ha h1 h2 => ⟨(), trivial, ⟨(Or.inr rfl), hM.keep h2⟩, th_F hS h1 h2⟩) hS.2.2 (Nat.le_of_ble_eq_true rfl) (Nat.le_of_ble_eq_true rfl)

set_option maxHeartbeats 4000000 in
set_option maxRecDepth 100000 in
theorem rf_lightBits (l : Launch) (hlt : l.stackTraces = false) (dC : Nat → ClassId) (dI : Nat → Nat → Nat) (kA : Nat → ClassId) (eD b : Nat) (g : Gh) (o : Nat) (site : Int32) (x : Int32) (y : Int32) (hto : tg g o = 1)  : vx_Met l yX3_lightBits wsX3_lightBits ({ frames := 6, cells := 1, slots := 6, locals := 82 }) (va_Pc [.ref o, .int site, .int x, .int y] (CX (dC, dI) kA eD b g)) (va_Qi (fun (r : Int32) (u : Unit) => True) (fun (u : Unit) t => CX (dC, dI) kA eD b g t) (fun q => b ≤ q)) (vx_X (fun _ : Unit => True) (fun E _ t => (E = "java/lang/IndexOutOfBoundsException") ∧ TM (dC, dI) kA b g t.heap) (fun q => b ≤ q)) 1 6 (fun q => b ≤ q) := by
  refine vx_ofW (cc := cX3_lightBits) (maxL := 5) (ret := (some .int)) (by decide +kernel) rfl ?_
  intro p e s m args below meth c s₁ B hml hnt hv
  obtain ⟨rfl, hb0, hM, hK, hG, hE⟩ := hv
  have hx := B.exec
  have hb := B.bytes
  have hr := B.returns
  have hts := atoms_spec (ws := wsX3_lightBits) B.pre
  have hown : s.vm.findClass RX3 = some m.cls := findClass_of_methodNamed B.named
  have hlocks := B.notSynchronized
  have hT := hE.1
  have hN := hE.2.2.2.2.2.2.2.1
  have hS : va_S (fun q => b ≤ q) s.heap s.heap [] := va_S.rf
  have hl := lv_entry ([.ref o, .int site, .int x, .int y]) (n := 5) (Nat.le_of_ble_eq_true rfl)
  rw [lg_entry_eq]
  generalize (lg_sl ([.ref o, .int site, .int x, .int y]) ++ List.replicate (5 - (lg_sl ([.ref o, .int site, .int x, .int y])).length) Slot.unset).toArray = ls at hl ⊢
  have hl : lv_has ls 5 [(0, .ref o), (1, .int site), (2, .int x), (3, .int y)] := hl
  generalize ([.ref o, .int site, .int x, .int y] : List Value).toArray = args at hts ⊢
  refine lv_aload_n hx hb dX3_lightBits_0 rfl (lv_at hl 0 rfl) ?_
  refine lv_iload_n hx hb dX3_lightBits_1 rfl (lv_at hl 1 rfl) ?_
  refine lv_iload_n hx hb dX3_lightBits_2 rfl (lv_at hl 2 rfl) ?_
  refine lv_iload_n hx hb dX3_lightBits_3 rfl (lv_at hl 3 rfl) ?_
  obtain ⟨u1, u2, u3, u4, hP, hf⟩ := o_sno (i := 0) (q := o) hM (by omega)
  refine va_callq (va_runV (As := [.int site, .int x, .int y]) (rest := []) ⟨hx, hb, hml, hown, hts⟩ (rk_placedSite l dC dI kA eD b g o site x y (by omega)) (cwV 3 hts gX3_lightBits_X3_placedSite rfl rfl rfl (by decide +kernel) ⟨Nat.le_of_ble_eq_true rfl, Nat.le_of_ble_eq_true rfl⟩) ⟨fb_CX, va_recv hK hP (ci := 7) (q0 := 0) rfl rfl, fun U hU hW => ⟨rfl, CX.give hb0 hM hK hG hE hS hU hW⟩⟩ rfl rfl hl.1 rfl (lv_room (Nat.le_of_ble_eq_true rfl)) dX3_lightBits_4 ⟨(Nat.le_of_ble_eq_true rfl), (Nat.le_of_ble_eq_true rfl)⟩) hS (fun q _ h => h) (fun q h => h) (fun r5 u t H locs ht hvm hw6 hB hz1 hk1 hS => ?_)
  have hM := hB.back ht
  have hG := hB.2.2.2.1
  rcases hw6 with ⟨rfl, hn14⟩ | ⟨j7, a8, jx9, jy10, rfl, rfl, rfl, rfl, hjx9, hjy10, hj13, ho11, ht12⟩
  · skip
    refine lv_astoreN (lv' := [(4, .null), (0, .ref o), (1, .int site), (2, .int x), (3, .int y)]) hx hb dX3_lightBits_7 hl (by decide) rfl (fun ls hl => ?_)
    refine lv_aloadN hx hb dX3_lightBits_9 (lv_at hl 0 rfl) ?_
    refine lv_ifnonnullN hx hb dX3_lightBits_11 ?_
    obtain ⟨sa, hsa⟩ := hT.2.1 (137, "no such site or place") (by decide +kernel)
    exact vx_throwS (A := (fun q => b ≤ q)) (own := RX3) (cls := "java/lang/IndexOutOfBoundsException") (text := "no such site or place") (names := exN) hx hb hlt hown (by decide +kernel) (by decide +kernel) (hts (.classLink RX3 135 "java/lang/IndexOutOfBoundsException") (by decide +kernel)) (hts (.initialized "java/lang/IndexOutOfBoundsException") (by decide +kernel)) hsa (th_hat hT (fun w h => hts w (List.mem_cons_of_mem _ (List.mem_append_left _ (List.mem_append_right _ h)))) th_i4) (th_good th_i4) hT.2.2.2.1 hT.2.2.2.2 hS (hl.1.trans hml.symm) dX3_lightBits_14 dX3_lightBits_17 dX3_lightBits_18 dX3_lightBits_20 dX3_lightBits_23 (fun x h => (hnt x h).elim) (by decide) (Nat.le_of_ble_eq_true rfl) (Nat.le_of_ble_eq_true rfl) (Nat.le_of_ble_eq_true rfl) hlocks (fun t ha h1 h2 => ⟨(), trivial, ⟨rfl, hM.keep h2⟩, th_F hS h1 h2⟩) hS.2.2 (Nat.le_of_ble_eq_true rfl) (Nat.le_of_ble_eq_true rfl)
  · skip
    have hl : lv_has ls 5 [(0, .ref o), (1, .int (nI j7)), (2, .int (nI jx9)), (3, .int (nI jy10))] := hl
    refine lv_astore (lv' := [(4, .ref a8), (0, .ref o), (1, .int (nI j7)), (2, .int (nI jx9)), (3, .int (nI jy10))]) hx hb dX3_lightBits_7 hl (by decide) rfl (fun ls hl => ?_)
    refine lv_aload hx hb dX3_lightBits_9 (lv_at hl 0 rfl) ?_
    refine lv_ifnonnull (tgt := 24) hx hb dX3_lightBits_11 (by decide) ?_
    refine lv_aload hx hb dX3_lightBits_24 (lv_at hl 0 rfl) ?_
    refine lv_iload_n hx hb dX3_lightBits_26 rfl (lv_at hl 3 rfl) ?_
    refine lv_iload_n hx hb dX3_lightBits_27 rfl (lv_at hl 4 rfl) ?_
    obtain ⟨u15, u16, u17, u18, u19, u20, hP, hf⟩ := o_st (i := j7) (q := a8) hM (by omega)
    refine va_callf (va_runV (As := [.int (nI jx9), .int (nI jy10)]) (rest := []) ⟨hx, hb, hml, hown, hts⟩ (rk_lightAt l dC dI kA eD b g a8 j7 jx9 jy10 (by omega) (by omega) (by omega)) (cwV 2 hts gX3_lightBits_X1_lightAt rfl rfl rfl (by decide +kernel) ⟨Nat.le_of_ble_eq_true rfl, Nat.le_of_ble_eq_true rfl⟩) ⟨fb_CX, va_recv hK hP (ci := 5) (q0 := 0) rfl rfl, fun U hU hW => ⟨rfl, CX.give hb0 hM hK hG hE hS hU hW⟩⟩ rfl rfl hl.1 rfl (lv_room (Nat.le_of_ble_eq_true rfl)) dX3_lightBits_28 ⟨(Nat.le_of_ble_eq_true rfl), (Nat.le_of_ble_eq_true rfl)⟩) hS (fun q _ h => h) (fun q h => h) (fun r21 u t H locs ht hvm hw22 hB hz1 hk1 hS => ?_)
    have hM := hB.back ht
    have hG := hB.2.2.2.1
    refine va_calli (va_runS (As := [.float r21]) (rest := []) ⟨hx, hb, hml, hown, hts⟩ (rk_bitsOfFloat l r21 ((hw22).nn (by decide))) (va_cwS 1 hts gX3_lightBits_X3_bitsOfFloat rfl rfl rfl (by decide +kernel) ⟨Nat.le_of_ble_eq_true rfl, Nat.le_of_ble_eq_true rfl⟩) ⟨fun a U g mk q => q, fun U hU hW => ⟨rfl, trivial⟩⟩ rfl rfl hl.1 rfl (lv_room (Nat.le_of_ble_eq_true rfl)) dX3_lightBits_31 ⟨(Nat.le_of_ble_eq_true rfl), (Nat.le_of_ble_eq_true rfl)⟩) hS (fun q _ h => h.elim) (fun q h => h.elim) (fun r23 u t H locs ht hvm hw24 hB hz1 hk1 hS => ?_)
    have hM := hM.keep (fun p hp => hk1 p hp (fun z => z))
    refine vx_ret ?_
    refine W.widen (k := 1) (n := 6) (Nat.le_of_ble_eq_true rfl) (Nat.le_of_ble_eq_true rfl) ?_
    exact W.iret (v := r23) hx hb hr (fun t ht hW => ⟨⟨r23, (), rfl, trivial, CX.give hb0 hM hK hG hE hS ht hW⟩, hS.F ht⟩) hS.2.2 dX3_lightBits_34

set_option maxHeartbeats 4000000 in
set_option maxRecDepth 100000 in
theorem rf_judge (l : Launch) (hlt : l.stackTraces = false) (dC : Nat → ClassId) (dI : Nat → Nat → Nat) (kA : Nat → ClassId) (eD b : Nat) (g : Gh) (o : Nat) (site : Int32) (hto : tg g o = 1)  : vx_Met l yX3_judge wsX3_judge ({ frames := 6, cells := 1, slots := 6, locals := 82 }) (va_Pc [.ref o, .int site] (CX (dC, dI) kA eD b g)) (va_Qd (fun (r : UInt64) (u : Unit) => True) (fun (u : Unit) t => CX (dC, dI) kA eD b g t) (fun q => b ≤ q)) (vx_X (fun _ : Unit => True) (fun E _ t => (E = "java/lang/IndexOutOfBoundsException") ∧ TM (dC, dI) kA b g t.heap) (fun q => b ≤ q)) 1 6 (fun q => b ≤ q) := by
  refine vx_ofW (cc := cX3_judge) (maxL := 3) (ret := (some .double)) (by decide +kernel) rfl ?_
  intro p e s m args below meth c s₁ B hml hnt hv
  obtain ⟨rfl, hb0, hM, hK, hG, hE⟩ := hv
  have hx := B.exec
  have hb := B.bytes
  have hr := B.returns
  have hts := atoms_spec (ws := wsX3_judge) B.pre
  have hown : s.vm.findClass RX3 = some m.cls := findClass_of_methodNamed B.named
  have hlocks := B.notSynchronized
  have hT := hE.1
  have hN := hE.2.2.2.2.2.2.2.1
  have hS : va_S (fun q => b ≤ q) s.heap s.heap [] := va_S.rf
  have hl := lv_entry ([.ref o, .int site]) (n := 3) (Nat.le_of_ble_eq_true rfl)
  rw [lg_entry_eq]
  generalize (lg_sl ([.ref o, .int site]) ++ List.replicate (3 - (lg_sl ([.ref o, .int site])).length) Slot.unset).toArray = ls at hl ⊢
  have hl : lv_has ls 3 [(0, .ref o), (1, .int site)] := hl
  generalize ([.ref o, .int site] : List Value).toArray = args at hts ⊢
  refine lv_aload_n hx hb dX3_judge_0 rfl (lv_at hl 0 rfl) ?_
  refine lv_iload_n hx hb dX3_judge_1 rfl (lv_at hl 1 rfl) ?_
  obtain ⟨u1, u2, u3, u4, hP, hf⟩ := o_sno (i := 0) (q := o) hM (by omega)
  refine va_callq (va_runV (As := [.int site]) (rest := []) ⟨hx, hb, hml, hown, hts⟩ (rk_numberedSite l dC dI kA eD b g o site (by omega)) (cwV 1 hts gX3_judge_X3_numberedSite rfl rfl rfl (by decide +kernel) ⟨Nat.le_of_ble_eq_true rfl, Nat.le_of_ble_eq_true rfl⟩) ⟨fb_CX, va_recv hK hP (ci := 7) (q0 := 0) rfl rfl, fun U hU hW => ⟨rfl, CX.give hb0 hM hK hG hE hS hU hW⟩⟩ rfl rfl hl.1 rfl (lv_room (Nat.le_of_ble_eq_true rfl)) dX3_judge_2 ⟨(Nat.le_of_ble_eq_true rfl), (Nat.le_of_ble_eq_true rfl)⟩) hS (fun q _ h => h) (fun q h => h) (fun r5 u t H locs ht hvm hw6 hB hz1 hk1 hS => ?_)
  have hM := hB.back ht
  have hG := hB.2.2.2.1
  rcases hw6 with ⟨rfl, hn12⟩ | ⟨j7, a8, rfl, hs9, hj11, ho9, ht10⟩
  · skip
    refine lv_astore_nN (lv' := [(2, .null), (0, .ref o), (1, .int site)]) hx hb dX3_judge_5 rfl hl (by decide) rfl (fun ls hl => ?_)
    refine lv_aload_nN hx hb dX3_judge_6 rfl (lv_at hl 0 rfl) ?_
    refine lv_ifnonnullN hx hb dX3_judge_7 ?_
    obtain ⟨sa, hsa⟩ := hT.2.1 (211, "no such site") (by decide +kernel)
    exact vx_throwS (A := (fun q => b ≤ q)) (own := RX3) (cls := "java/lang/IndexOutOfBoundsException") (text := "no such site") (names := exN) hx hb hlt hown (by decide +kernel) (by decide +kernel) (hts (.classLink RX3 135 "java/lang/IndexOutOfBoundsException") (by decide +kernel)) (hts (.initialized "java/lang/IndexOutOfBoundsException") (by decide +kernel)) hsa (th_hat hT (fun w h => hts w (List.mem_cons_of_mem _ (List.mem_append_left _ (List.mem_append_right _ h)))) th_i4) (th_good th_i4) hT.2.2.2.1 hT.2.2.2.2 hS (hl.1.trans hml.symm) dX3_judge_10 dX3_judge_13 dX3_judge_14 dX3_judge_16 dX3_judge_19 (fun x h => (hnt x h).elim) (by decide) (Nat.le_of_ble_eq_true rfl) (Nat.le_of_ble_eq_true rfl) (Nat.le_of_ble_eq_true rfl) hlocks (fun t ha h1 h2 => ⟨(), trivial, ⟨rfl, hM.keep h2⟩, th_F hS h1 h2⟩) hS.2.2 (Nat.le_of_ble_eq_true rfl) (Nat.le_of_ble_eq_true rfl)
  · skip
    subst hs9
    have hl : lv_has ls 3 [(0, .ref o), (1, .int (nI j7))] := hl
    refine lv_astore_n (lv' := [(2, .ref a8), (0, .ref o), (1, .int (nI j7))]) hx hb dX3_judge_5 rfl hl (by decide) rfl (fun ls hl => ?_)
    refine lv_aload_n hx hb dX3_judge_6 rfl (lv_at hl 0 rfl) ?_
    refine lv_ifnonnull (tgt := 20) hx hb dX3_judge_7 (by decide) ?_
    refine lv_aload_n hx hb dX3_judge_20 rfl (lv_at hl 0 rfl) ?_
    refine lv_aload_n hx hb dX3_judge_21 rfl (lv_at hl 0 rfl) ?_
    obtain ⟨u13, u14, u15, u16, u17, u18, hP, hf⟩ := o_st (i := j7) (q := a8) hM (by omega)
    refine va_calli (va_runV (As := []) (rest := [.ref a8]) ⟨hx, hb, hml, hown, hts⟩ (rk_placesAsPlanned l dC dI kA eD b g a8 j7 (by omega)) (cwV 0 hts gX3_judge_X1_placesAsPlanned rfl rfl rfl (by decide +kernel) ⟨Nat.le_of_ble_eq_true rfl, Nat.le_of_ble_eq_true rfl⟩) ⟨fb_CX, va_recv hK hP (ci := 5) (q0 := 0) rfl rfl, fun U hU hW => ⟨rfl, CX.give hb0 hM hK hG hE hS hU hW⟩⟩ rfl rfl hl.1 rfl (lv_room (Nat.le_of_ble_eq_true rfl)) dX3_judge_22 ⟨(Nat.le_of_ble_eq_true rfl), (Nat.le_of_ble_eq_true rfl)⟩) hS (fun q _ h => h) (fun q h => h) (fun r19 u t H locs ht hvm hw20 hB hz1 hk1 hS => ?_)
    have hM := hB.back ht
    have hG := hB.2.2.2.1
    refine lv_i2d hx hb dX3_judge_25 ?_
    refine lv_ldc2d hx hb hown (hts (.constantDouble RX3 287 4631952216750555136) (by decide +kernel)) dX3_judge_26 ?_
    have hn21 : FP.Core.dIsNaN (FP.ddiv (FP.i2d r19) 4631952216750555136) = false := FP.Core.ddiv_out (FP.Core.i2d_fin _).notNaN d48_fin d48_nz
    refine lv_ddiv hx hb dX3_judge_29 (nn64 hn21) ?_
    refine lv_ldc2d hx hb hown (hts (.constantDouble RX3 258 4587366580439587226) (by decide +kernel)) dX3_judge_30 ?_
    refine lv_aload_n hx hb dX3_judge_33 rfl (lv_at hl 0 rfl) ?_
    obtain ⟨u22, u23, u24, u25, u26, u27, hP, hf⟩ := o_st (i := j7) (q := a8) hM (by omega)
    refine va_get (D := (dC, dI)) (ci := 5) (v := .int u22) (C := RX1) (T := TX1) (N := 15) hx hb hts (by decide +kernel) hown hK hP 0 rfl rfl 9 (by decide) (hts (.fieldLink RX3 213 "Snowpalace$Site" "fallen" "I") (by decide +kernel)) (fun _ h9 => h9) rfl dX3_judge_34 ?_
    refine lv_i2d hx hb dX3_judge_37 ?_
    refine lv_dmul hx hb dX3_judge_38 (nn64 (FP.Core.dmul_out d05_fin (FP.Core.i2d_fin _))) ?_
    refine lv_dsub hx hb dX3_judge_39 (nn64 (d05_out hn21)) ?_
    obtain ⟨u28, u29, u30, u31, u32, u33, hP, hf⟩ := o_st (i := j7) (q := a8) hM (by omega)
    refine rt_put (D := (dC, dI)) (ci := 5) (v := .double (FP.dsub (FP.ddiv (FP.i2d r19) 4631952216750555136) (FP.dmul 4587366580439587226 (FP.i2d u22)))) (ty := .double) (C := RX1) (T := TX1) (N := 15) hx hb hts (by decide +kernel) tyX1 tyX1_ok nmX1 hown hK hP (hM.ge (by omega)) hS rfl 14 (by decide) (hts (.fieldLink RX3 289 "Snowpalace$Site" "lastMark" "D") (by decide +kernel)) (fun _ h9 => h9) rfl (by decide +kernel) rfl rfl (Nat.le_of_ble_eq_true rfl) dX3_judge_40 (fun H locs hP hz ho hS => ?_)
    have hM := s_st (i := j7) hM (by omega) hP ho hf
    refine lv_aload_n hx hb dX3_judge_43 rfl (lv_at hl 0 rfl) ?_
    refine lv_iconst (v := 1) hx hb dX3_judge_44 (by decide) ?_
    obtain ⟨u34, u35, u36, u37, u38, u39, hP, hf⟩ := o_st (i := j7) (q := a8) hM (by omega)
    refine rt_put (D := (dC, dI)) (ci := 5) (v := .int 1) (ty := .boolean) (C := RX1) (T := TX1) (N := 15) hx hb hts (by decide +kernel) tyX1 tyX1_ok nmX1 hown hK hP (hM.ge (by omega)) hS rfl 13 (by decide) (hts (.fieldLink RX3 293 "Snowpalace$Site" "judged" "Z") (by decide +kernel)) (fun _ h9 => h9) rfl (by decide +kernel) rfl rfl (Nat.le_of_ble_eq_true rfl) dX3_judge_45 (fun H locs hP hz ho hS => ?_)
    have hM := s_st (i := j7) hM (by omega) hP ho hf
    refine lv_aload_n hx hb dX3_judge_48 rfl (lv_at hl 0 rfl) ?_
    obtain ⟨u40, u41, u42, u43, u44, u45, hP, hf⟩ := o_st (i := j7) (q := a8) hM (by omega)
    refine va_get (D := (dC, dI)) (ci := 5) (v := .double u45) (C := RX1) (T := TX1) (N := 15) hx hb hts (by decide +kernel) hown hK hP 0 rfl rfl 14 (by decide) (hts (.fieldLink RX3 289 "Snowpalace$Site" "lastMark" "D") (by decide +kernel)) (fun _ h9 => h9) rfl dX3_judge_49 ?_
    refine vx_ret ?_
    refine W.widen (k := 1) (n := 6) (Nat.le_of_ble_eq_true rfl) (Nat.le_of_ble_eq_true rfl) ?_
    exact W.dret (v := u45) hx hb hr (fun t ht hW => ⟨⟨u45, (), rfl, trivial, CX.give hb0 hM hK hG hE hS ht hW⟩, hS.F ht⟩) hS.2.2 dX3_judge_52

set_option maxHeartbeats 4000000 in
set_option maxRecDepth 100000 in
theorem rf_meanCreep (l : Launch) (hlt : l.stackTraces = false) (dC : Nat → ClassId) (dI : Nat → Nat → Nat) (kA : Nat → ClassId) (eD b : Nat) (g : Gh) (o : Nat) (site : Int32) (hto : tg g o = 1)  : vx_Met l yX3_meanCreep wsX3_meanCreep ({ frames := 6, cells := 1, slots := 6, locals := 82 }) (va_Pc [.ref o, .int site] (CX (dC, dI) kA eD b g)) (va_Qd (fun (r : UInt64) (u : Unit) => True) (fun (u : Unit) t => CX (dC, dI) kA eD b g t) (fun q => b ≤ q)) (vx_X (fun _ : Unit => True) (fun E _ t => (E = "java/lang/IndexOutOfBoundsException" ∨ E = "java/lang/ArithmeticException") ∧ TM (dC, dI) kA b g t.heap) (fun q => b ≤ q)) 1 6 (fun q => b ≤ q) := by
  refine vx_ofW (cc := cX3_meanCreep) (maxL := 4) (ret := (some .double)) (by decide +kernel) rfl ?_
  intro p e s m args below meth c s₁ B hml hnt hv
  obtain ⟨rfl, hb0, hM, hK, hG, hE⟩ := hv
  have hx := B.exec
  have hb := B.bytes
  have hr := B.returns
  have hts := atoms_spec (ws := wsX3_meanCreep) B.pre
  have hown : s.vm.findClass RX3 = some m.cls := findClass_of_methodNamed B.named
  have hlocks := B.notSynchronized
  have hT := hE.1
  have hN := hE.2.2.2.2.2.2.2.1
  have hS : va_S (fun q => b ≤ q) s.heap s.heap [] := va_S.rf
  have hl := lv_entry ([.ref o, .int site]) (n := 4) (Nat.le_of_ble_eq_true rfl)
  rw [lg_entry_eq]
  generalize (lg_sl ([.ref o, .int site]) ++ List.replicate (4 - (lg_sl ([.ref o, .int site])).length) Slot.unset).toArray = ls at hl ⊢
  have hl : lv_has ls 4 [(0, .ref o), (1, .int site)] := hl
  generalize ([.ref o, .int site] : List Value).toArray = args at hts ⊢
  refine lv_aload_n hx hb dX3_meanCreep_0 rfl (lv_at hl 0 rfl) ?_
  refine lv_iload_n hx hb dX3_meanCreep_1 rfl (lv_at hl 1 rfl) ?_
  obtain ⟨u1, u2, u3, u4, hP, hf⟩ := o_sno (i := 0) (q := o) hM (by omega)
  refine va_callq (va_runV (As := [.int site]) (rest := []) ⟨hx, hb, hml, hown, hts⟩ (rk_numberedSite l dC dI kA eD b g o site (by omega)) (cwV 1 hts gX3_meanCreep_X3_numberedSite rfl rfl rfl (by decide +kernel) ⟨Nat.le_of_ble_eq_true rfl, Nat.le_of_ble_eq_true rfl⟩) ⟨fb_CX, va_recv hK hP (ci := 7) (q0 := 0) rfl rfl, fun U hU hW => ⟨rfl, CX.give hb0 hM hK hG hE hS hU hW⟩⟩ rfl rfl hl.1 rfl (lv_room (Nat.le_of_ble_eq_true rfl)) dX3_meanCreep_2 ⟨(Nat.le_of_ble_eq_true rfl), (Nat.le_of_ble_eq_true rfl)⟩) hS (fun q _ h => h) (fun q h => h) (fun r5 u t H locs ht hvm hw6 hB hz1 hk1 hS => ?_)
  have hM := hB.back ht
  have hG := hB.2.2.2.1
  rcases hw6 with ⟨rfl, hn12⟩ | ⟨j7, a8, rfl, hs9, hj11, ho9, ht10⟩
  · skip
    refine lv_astore_nN (lv' := [(2, .null), (0, .ref o), (1, .int site)]) hx hb dX3_meanCreep_5 rfl hl (by decide) rfl (fun ls hl => ?_)
    refine lv_aload_nN hx hb dX3_meanCreep_6 rfl (lv_at hl 0 rfl) ?_
    refine lv_ifnonnullN hx hb dX3_meanCreep_7 ?_
    obtain ⟨sa, hsa⟩ := hT.2.1 (211, "no such site") (by decide +kernel)
    exact vx_throwS (A := (fun q => b ≤ q)) (own := RX3) (cls := "java/lang/IndexOutOfBoundsException") (text := "no such site") (names := exN) hx hb hlt hown (by decide +kernel) (by decide +kernel) (hts (.classLink RX3 135 "java/lang/IndexOutOfBoundsException") (by decide +kernel)) (hts (.initialized "java/lang/IndexOutOfBoundsException") (by decide +kernel)) hsa (th_hat hT (fun w h => hts w (List.mem_cons_of_mem _ (List.mem_append_left _ (List.mem_append_left _ (List.mem_append_right _ h))))) th_i4) (th_good th_i4) hT.2.2.2.1 hT.2.2.2.2 hS (hl.1.trans hml.symm) dX3_meanCreep_10 dX3_meanCreep_13 dX3_meanCreep_14 dX3_meanCreep_16 dX3_meanCreep_19 (fun x h => (hnt x h).elim) (by decide) (Nat.le_of_ble_eq_true rfl) (Nat.le_of_ble_eq_true rfl) (Nat.le_of_ble_eq_true rfl) hlocks (fun t ha h1 h2 => ⟨(), trivial, ⟨(Or.inl rfl), hM.keep h2⟩, th_F hS h1 h2⟩) hS.2.2 (Nat.le_of_ble_eq_true rfl) (Nat.le_of_ble_eq_true rfl)
  · skip
    subst hs9
    have hl : lv_has ls 4 [(0, .ref o), (1, .int (nI j7))] := hl
    refine lv_astore_n (lv' := [(2, .ref a8), (0, .ref o), (1, .int (nI j7))]) hx hb dX3_meanCreep_5 rfl hl (by decide) rfl (fun ls hl => ?_)
    refine lv_aload_n hx hb dX3_meanCreep_6 rfl (lv_at hl 0 rfl) ?_
    refine lv_ifnonnull (tgt := 20) hx hb dX3_meanCreep_7 (by decide) ?_
    refine lv_aload_n hx hb dX3_meanCreep_20 rfl (lv_at hl 0 rfl) ?_
    obtain ⟨u13, u14, u15, u16, u17, u18, hP, hf⟩ := o_st (i := j7) (q := a8) hM (by omega)
    refine va_calli (va_runV (As := []) (rest := []) ⟨hx, hb, hml, hown, hts⟩ (rk_cellCount l dC dI kA eD b g a8 j7 (by omega)) (cwV 0 hts gX3_meanCreep_X1_cellCount rfl rfl rfl (by decide +kernel) ⟨Nat.le_of_ble_eq_true rfl, Nat.le_of_ble_eq_true rfl⟩) ⟨fb_CX, va_recv hK hP (ci := 5) (q0 := 0) rfl rfl, fun U hU hW => ⟨rfl, CX.give hb0 hM hK hG hE hS hU hW⟩⟩ rfl rfl hl.1 rfl (lv_room (Nat.le_of_ble_eq_true rfl)) dX3_meanCreep_21 ⟨(Nat.le_of_ble_eq_true rfl), (Nat.le_of_ble_eq_true rfl)⟩) hS (fun q _ h => h) (fun q h => h) (fun r19 u t H locs ht hvm hw20 hB hz1 hk1 hS => ?_)
    have hM := hB.back ht
    have hG := hB.2.2.2.1
    obtain ⟨q21, hq22, rfl⟩ := hw20
    refine lv_istore_n (lv' := [(3, .int (nI q21)), (2, .ref a8), (0, .ref o), (1, .int (nI j7))]) hx hb dX3_meanCreep_24 rfl hl (by decide) rfl (fun ls hl => ?_)
    refine lv_iload_n hx hb dX3_meanCreep_25 rfl (lv_at hl 0 rfl) ?_
    refine lv_if_ne (tgt := 40) hx hb dX3_meanCreep_26 (by decide) (fun c23 => ?_) (fun c23 => ?_)
    · skip
      have k24 : ¬ (q21 = 0) := fun z => c23 ((nI_eq (a := q21) (b := 0) (by omega) (by omega)).mpr z)
      refine lv_aload_n hx hb dX3_meanCreep_40 rfl (lv_at hl 1 rfl) ?_
      obtain ⟨u25, u26, u27, u28, u29, u30, hP, hf⟩ := o_st (i := j7) (q := a8) hM (by omega)
      refine va_calli (va_runV (As := []) (rest := []) ⟨hx, hb, hml, hown, hts⟩ (rk_creepSum l dC dI kA eD b g a8 j7 (by omega)) (cwV 0 hts gX3_meanCreep_X1_creepSum rfl rfl rfl (by decide +kernel) ⟨Nat.le_of_ble_eq_true rfl, Nat.le_of_ble_eq_true rfl⟩) ⟨fb_CX, va_recv hK hP (ci := 5) (q0 := 0) rfl rfl, fun U hU hW => ⟨rfl, CX.give hb0 hM hK hG hE hS hU hW⟩⟩ rfl rfl hl.1 rfl (lv_room (Nat.le_of_ble_eq_true rfl)) dX3_meanCreep_41 ⟨(Nat.le_of_ble_eq_true rfl), (Nat.le_of_ble_eq_true rfl)⟩) hS (fun q _ h => h) (fun q h => h) (fun r31 u t H locs ht hvm hw32 hB hz1 hk1 hS => ?_)
      have hM := hB.back ht
      have hG := hB.2.2.2.1
      refine lv_i2d hx hb dX3_meanCreep_44 ?_
      refine lv_iload_n hx hb dX3_meanCreep_45 rfl (lv_at hl 0 rfl) ?_
      refine lv_i2d hx hb dX3_meanCreep_46 ?_
      refine lv_ddiv hx hb dX3_meanCreep_47 (nn64 (FP.Core.ddiv_out (FP.Core.i2d_fin _).notNaN (FP.Core.i2d_fin _) (i2d_nz ⟨by rw [nI_toInt (by omega)]; omega, by rw [nI_toInt (by omega)]; omega⟩))) ?_
      refine vx_ret ?_
      refine W.widen (k := 1) (n := 6) (Nat.le_of_ble_eq_true rfl) (Nat.le_of_ble_eq_true rfl) ?_
      exact W.dret (v := (FP.ddiv (FP.i2d r31) (FP.i2d (nI q21)))) hx hb hr (fun t ht hW => ⟨⟨(FP.ddiv (FP.i2d r31) (FP.i2d (nI q21))), (), rfl, trivial, CX.give hb0 hM hK hG hE hS ht hW⟩, hS.F ht⟩) hS.2.2 dX3_meanCreep_48
    · skip
      have k33 : q21 = 0 := (nI_eq (a := q21) (b := 0) (by omega) (by omega)).mp c23
      obtain ⟨sa, hsa⟩ := hT.2.1 (309, "there are no cells") (by decide +kernel)
      exact vx_throwSW (A := (fun q => b ≤ q)) (own := RX3) (cls := "java/lang/ArithmeticException") (text := "there are no cells") (names := exN) hx hb hlt hown (by decide +kernel) (by decide +kernel) (hts (.classLink RX3 304 "java/lang/ArithmeticException") (by decide +kernel)) (hts (.initialized "java/lang/ArithmeticException") (by decide +kernel)) hsa (th_hat hT (fun w h => hts w (List.mem_cons_of_mem _ (List.mem_append_left _ (List.mem_append_right _ h)))) th_i6) (th_good th_i6) hT.2.2.2.1 hT.2.2.2.2 hS (hl.1.trans hml.symm) dX3_meanCreep_29 dX3_meanCreep_32 dX3_meanCreep_33 dX3_meanCreep_36 dX3_meanCreep_39 (fun x h => (hnt x h).elim) (by decide) (Nat.le_of_ble_eq_true rfl) (Nat.le_of_ble_eq_true rfl) (Nat.le_of_ble_eq_true rfl) hlocks (fun t ha h1 h2 => ⟨(), trivial, ⟨(Or.inr rfl), hM.keep h2⟩, th_F hS h1 h2⟩) hS.2.2 (Nat.le_of_ble_eq_true rfl) (Nat.le_of_ble_eq_true rfl)

set_option maxHeartbeats 4000000 in
set_option maxRecDepth 100000 in
theorem rf_openShare (l : Launch) (hlt : l.stackTraces = false) (dC : Nat → ClassId) (dI : Nat → Nat → Nat) (kA : Nat → ClassId) (eD b : Nat) (g : Gh) (o : Nat)  (hto : tg g o = 1)  : vx_Met l yX3_openShare wsX3_openShare ({ frames := 6, cells := 1, slots := 6, locals := 94 }) (va_Pc [.ref o] (CX (dC, dI) kA eD b g)) (va_Qf (fun (r : UInt32) (u : Unit) => vf_n32 r) (fun (u : Unit) t => CX (dC, dI) kA eD b g t) (fun q => b ≤ q)) (vx_X (fun _ : Unit => True) (fun E _ t => (E = "java/lang/ArithmeticException") ∧ TM (dC, dI) kA b g t.heap) (fun q => b ≤ q)) 1 6 (fun q => b ≤ q) := by
  refine vx_ofW (cc := cX3_openShare) (maxL := 4) (ret := (some .float)) (by decide +kernel) rfl ?_
  intro p e s m args below meth c s₁ B hml hnt hv
  obtain ⟨rfl, hb0, hM, hK, hG, hE⟩ := hv
  have hx := B.exec
  have hb := B.bytes
  have hr := B.returns
  have hts := atoms_spec (ws := wsX3_openShare) B.pre
  have hown : s.vm.findClass RX3 = some m.cls := findClass_of_methodNamed B.named
  have hlocks := B.notSynchronized
  have hT := hE.1
  have hN := hE.2.2.2.2.2.2.2.1
  have hS : va_S (fun q => b ≤ q) s.heap s.heap [] := va_S.rf
  have hl := lv_entry ([.ref o]) (n := 4) (Nat.le_of_ble_eq_true rfl)
  rw [lg_entry_eq]
  generalize (lg_sl ([.ref o]) ++ List.replicate (4 - (lg_sl ([.ref o])).length) Slot.unset).toArray = ls at hl ⊢
  have hl : lv_has ls 4 [(0, .ref o)] := hl
  generalize ([.ref o] : List Value).toArray = args at hts ⊢
  refine W.q (fun Q hQ => ?_)
  refine lv_aload_n hx hb dX3_openShare_0 rfl (lv_at hl 0 rfl) ?_
  obtain ⟨u1, u2, u3, u4, hP, hf⟩ := o_sno (i := 0) (q := o) hM (by omega)
  refine va_get (D := (dC, dI)) (ci := 7) (v := .int (pI g o 0)) (C := RX3) (T := TX3) (N := 10) hx hb hts (by decide +kernel) hown hK hP 0 rfl rfl 3 (by decide) (hts (.fieldLink RX3 29 "Snowpalace" "siteCount" "I") (by decide +kernel)) (fun _ h9 => h9) rfl dX3_openShare_1 ?_
  have hv5 := hf.2.2.2.1
  refine lv_if_ne (tgt := 18) hx hb dX3_openShare_4 (by decide) (fun c6 => ?_) (fun c6 => ?_)
  · skip
    refine lv_iconst (v := 0) hx hb dX3_openShare_18 (by decide) ?_
    refine lv_istore_n (lv' := [(1, .int 0), (0, .ref o)]) hx hb dX3_openShare_19 rfl hl (by decide) rfl (fun ls hl => ?_)
    refine lv_iconst (v := 0) hx hb dX3_openShare_20 (by decide) ?_
    refine lv_istore_n (lv' := [(2, .int 0), (1, .int 0), (0, .ref o)]) hx hb dX3_openShare_21 rfl hl (by decide) rfl (fun ls hl => ?_)
    have lp9 : ∀ (n10 j7 : Nat) (x8 : Int32), 0 ≤ j7 → j7 ≤ 3 → 3 < j7 + n10 → ∀ (H : Heap) (locs : List Loc) (ls : Array Slot), TM (dC, dI) kA b g H → va_S (fun q => b ≤ q) s.heap H locs → lv_has ls 4 [(2, .int (nI j7)), (1, .int x8), (0, .ref o)] → W p l e (headSpec wsX3_openShare ({ frames := 6, cells := 1, slots := 6, locals := 94 })).room s m args below meth c H locs 0 0 Q (F0 m 22 ls []) := by
      intro n10
      induction n10 with
      | zero => intro j7 x8 h0 h1 h2; omega
      | succ n10 ih11 =>
        intro j7 x8 lj7 hj7 hn10 H locs ls hM hS hl
        refine lv_iload_n hx hb dX3_openShare_22 rfl (lv_at hl 0 rfl) ?_
        refine lv_aload_n hx hb dX3_openShare_23 rfl (lv_at hl 2 rfl) ?_
        obtain ⟨u12, u13, u14, u15, hP, hf⟩ := o_sno (i := 0) (q := o) hM (by omega)
        refine va_get (D := (dC, dI)) (ci := 7) (v := .int (pI g o 0)) (C := RX3) (T := TX3) (N := 10) hx hb hts (by decide +kernel) hown hK hP 0 rfl rfl 3 (by decide) (hts (.fieldLink RX3 29 "Snowpalace" "siteCount" "I") (by decide +kernel)) (fun _ h9 => h9) rfl dX3_openShare_24 ?_
        have hv16 := hf.2.2.2.1
        refine lv_icmp_ge (tgt := 69) hx hb dX3_openShare_27 (by decide) (fun c17 => ?_) (fun c17 => ?_)
        · skip
          have i18 := (Int32.le_iff_toInt_le).mp c17
          have ii18 : ((nI j7) : Int32).toInt = ((j7 : Nat) : Int) := nI_toInt (by omega)
          have i18 := i18
          refine lv_iload_n hx hb dX3_openShare_69 rfl (lv_at hl 1 rfl) ?_
          refine lv_i2f hx hb dX3_openShare_70 ?_
          refine lv_aload_n hx hb dX3_openShare_71 rfl (lv_at hl 2 rfl) ?_
          obtain ⟨u19, u20, u21, u22, hP, hf⟩ := o_sno (i := 0) (q := o) hM (by omega)
          refine va_get (D := (dC, dI)) (ci := 7) (v := .int (pI g o 0)) (C := RX3) (T := TX3) (N := 10) hx hb hts (by decide +kernel) hown hK hP 0 rfl rfl 3 (by decide) (hts (.fieldLink RX3 29 "Snowpalace" "siteCount" "I") (by decide +kernel)) (fun _ h9 => h9) rfl dX3_openShare_72 ?_
          have hv23 := hf.2.2.2.1
          refine lv_i2f hx hb dX3_openShare_75 ?_
          refine lv_fdiv hx hb dX3_openShare_76 (nn32 (FP.Core.fdiv_out (FP.Core.i2f_fin _).notNaN (FP.Core.i2f_fin _) (i2f_nz ⟨i32_pos hv5 c6, by omega⟩))) ?_
          subst hQ
          refine vx_ret ?_
          refine W.widen (k := 1) (n := 6) (Nat.le_of_ble_eq_true rfl) (Nat.le_of_ble_eq_true rfl) ?_
          exact W.fret (v := (FP.fdiv (FP.i2f x8) (FP.i2f (pI g o 0)))) hx hb hr (fun t ht hW => ⟨⟨(FP.fdiv (FP.i2f x8) (FP.i2f (pI g o 0))), (), rfl, (nn32 (FP.Core.fdiv_out (FP.Core.i2f_fin _).notNaN (FP.Core.i2f_fin _) (i2f_nz ⟨i32_pos hv5 c6, by omega⟩))), CX.give hb0 hM hK hG hE hS ht hW⟩, hS.F ht⟩) hS.2.2 dX3_openShare_77
        · skip
          have i24 := fun z => c17 ((Int32.le_iff_toInt_le).mpr z)
          have ii24 : ((nI j7) : Int32).toInt = ((j7 : Nat) : Int) := nI_toInt (by omega)
          have i24 : ¬ (((pI g o 0) : Int32).toInt ≤ ((nI j7) : Int32).toInt) := i24
          refine lv_aload_n hx hb dX3_openShare_30 rfl (lv_at hl 2 rfl) ?_
          refine lv_iload_n hx hb dX3_openShare_31 rfl (lv_at hl 0 rfl) ?_
          obtain ⟨u25, u26, u27, u28, hP, hf⟩ := o_sno (i := 0) (q := o) hM (by omega)
          refine va_callq (va_runV (As := [.int (nI j7)]) (rest := []) ⟨hx, hb, hml, hown, hts⟩ (rk_numberedSite l dC dI kA eD b g o (nI j7) (by omega)) (cwV 1 hts gX3_openShare_X3_numberedSite rfl rfl rfl (by decide +kernel) ⟨Nat.le_of_ble_eq_true rfl, Nat.le_of_ble_eq_true rfl⟩) ⟨fb_CX, va_recv hK hP (ci := 7) (q0 := 0) rfl rfl, fun U hU hW => ⟨rfl, CX.give hb0 hM hK hG hE hS hU hW⟩⟩ rfl rfl hl.1 rfl (lv_room (Nat.le_of_ble_eq_true rfl)) dX3_openShare_32 ⟨(Nat.le_of_ble_eq_true rfl), (Nat.le_of_ble_eq_true rfl)⟩) hS (fun q _ h => h) (fun q h => h) (fun r29 u t H locs ht hvm hw30 hB hz1 hk1 hS => ?_)
          have hM := hB.back ht
          have hG := hB.2.2.2.1
          rcases hw30 with ⟨rfl, hn36⟩ | ⟨j31, a32, rfl, hs9, hj35, ho33, ht34⟩
          · skip
            refine lv_astore_nN (lv' := [(3, .null), (2, .int (nI j7)), (1, .int x8), (0, .ref o)]) hx hb dX3_openShare_35 rfl hl (by decide) rfl (fun ls hl => ?_)
            refine lv_aload_nN hx hb dX3_openShare_36 rfl (lv_at hl 0 rfl) ?_
            refine lv_ifnullN (tgt := 63) hx hb dX3_openShare_37 (by decide) ?_
            refine lv_iinc (v := (nI (j7 + 1))) (lv' := [(2, .int (nI (j7 + 1))), (3, .null), (1, .int x8), (0, .ref o)]) hx hb dX3_openShare_63 hl (k := 1) rfl (nI_add j7 1) (by decide) rfl (fun ls hl => ?_)
            refine lv_goto (tgt := 22) hx hb dX3_openShare_66 (by decide) ?_
            exact ih11 ((j7 + 1)) x8 (by omega) (by omega) (by omega) H _ ls  hM hS (lv_sub hl [0, 2, 3] rfl)
          · skip
            have hs9 : j7 = j31 := (nI_eq (by omega) (by omega)).mp hs9
            subst hs9
            refine lv_astore_n (lv' := [(3, .ref a32), (2, .int (nI j7)), (1, .int x8), (0, .ref o)]) hx hb dX3_openShare_35 rfl hl (by decide) rfl (fun ls hl => ?_)
            refine lv_aload_n hx hb dX3_openShare_36 rfl (lv_at hl 0 rfl) ?_
            refine lv_ifnull hx hb dX3_openShare_37 ?_
            refine lv_aload_n hx hb dX3_openShare_40 rfl (lv_at hl 0 rfl) ?_
            refine lv_iconst (v := (-1)) hx hb dX3_openShare_41 (by decide) ?_
            refine lv_iconst (v := 0) hx hb dX3_openShare_42 (by decide) ?_
            refine lv_aload_n hx hb dX3_openShare_43 rfl (lv_at hl 3 rfl) ?_
            obtain ⟨u37, u38, u39, u40, hP, hf⟩ := o_sno (i := 0) (q := o) hM (by omega)
            refine va_get (D := (dC, dI)) (ci := 7) (v := .ref (pF g o 0)) (C := RX3) (T := TX3) (N := 10) hx hb hts (by decide +kernel) hown hK hP 0 rfl rfl 0 (by decide) (hts (.fieldLink RX3 10 "Snowpalace" "sky" "LSnowpalace$Sky;") (by decide +kernel)) (fun _ h9 => h9) rfl dX3_openShare_44 ?_
            have ht41 : tg g (pF g o 0) = 2 := hf.1
            refine lv_aload_n hx hb dX3_openShare_47 rfl (lv_at hl 3 rfl) ?_
            obtain ⟨u42, u43, u44, u45, hP, hf⟩ := o_sno (i := 0) (q := o) hM (by omega)
            refine va_get (D := (dC, dI)) (ci := 7) (v := .int (pI g o 1)) (C := RX3) (T := TX3) (N := 10) hx hb hts (by decide +kernel) hown hK hP 0 rfl rfl 4 (by decide) (hts (.fieldLink RX3 33 "Snowpalace" "clock" "I") (by decide +kernel)) (fun _ h9 => h9) rfl dX3_openShare_48 ?_
            have hv46 := hf.2.2.2.2.1
            obtain ⟨hP, hf⟩ := o_sky (i := 0) (q := (pF g o 0)) hM (by omega)
            refine va_calli (va_runV (As := [.int (pI g o 1)]) (rest := [.int 0, .int (-1), .ref a32]) ⟨hx, hb, hml, hown, hts⟩ (rk_warmthOf l dC dI kA eD b g (pF g o 0) (pI g o 1) (by omega)) (cwV 1 hts gX3_openShare_X2_warmthOf rfl rfl rfl (by decide +kernel) ⟨Nat.le_of_ble_eq_true rfl, Nat.le_of_ble_eq_true rfl⟩) ⟨fb_CX, va_recv hK hP (ci := 6) (q0 := 0) rfl rfl, fun U hU hW => ⟨rfl, CX.give hb0 hM hK hG hE hS hU hW⟩⟩ rfl rfl hl.1 rfl (lv_room (Nat.le_of_ble_eq_true rfl)) dX3_openShare_51 ⟨(Nat.le_of_ble_eq_true rfl), (Nat.le_of_ble_eq_true rfl)⟩) hS (fun q _ h => h) (fun q h => h) (fun r47 u t H locs ht hvm hw48 hB hz1 hk1 hS => ?_)
            have hM := hB.back ht
            have hG := hB.2.2.2.1
            obtain ⟨u49, u50, u51, u52, u53, u54, hP, hf⟩ := o_st (i := j7) (q := a32) hM (by omega)
            refine va_calli (va_runV (As := [.int (-1), .int 0, .int r47]) (rest := []) ⟨hx, hb, hml, hown, hts⟩ (rk_isOpenWith l dC dI kA eD b g a32 j7 (-1) 0 r47 (by omega)) (cwV 3 hts gX3_openShare_X1_isOpenWith rfl rfl rfl (by decide +kernel) ⟨Nat.le_of_ble_eq_true rfl, Nat.le_of_ble_eq_true rfl⟩) ⟨fb_CX, va_recv hK hP (ci := 5) (q0 := 0) rfl rfl, fun U hU hW => ⟨rfl, CX.give hb0 hM hK hG hE hS hU hW⟩⟩ rfl rfl hl.1 rfl (lv_room (Nat.le_of_ble_eq_true rfl)) dX3_openShare_54 ⟨(Nat.le_of_ble_eq_true rfl), (Nat.le_of_ble_eq_true rfl)⟩) hS (fun q _ h => h) (fun q h => h) (fun r55 u t H locs ht hvm hw56 hB hz1 hk1 hS => ?_)
            have hM := hB.back ht
            have hG := hB.2.2.2.1
            have jn58 : ∀ (x57 : Int32) (H : Heap) (locs : List Loc) (ls : Array Slot), TM (dC, dI) kA b g H → va_S (fun q => b ≤ q) s.heap H locs → lv_has ls 4 [(3, .ref a32), (2, .int (nI j7)), (1, .int x57), (0, .ref o)] → W p l e (headSpec wsX3_openShare ({ frames := 6, cells := 1, slots := 6, locals := 94 })).room s m args below meth c H locs 0 0 Q (F0 m 63 ls []) := by
              intro x57 H locs ls hM hS hl
              refine lv_iinc (v := (nI (j7 + 1))) (lv' := [(2, .int (nI (j7 + 1))), (3, .ref a32), (1, .int x57), (0, .ref o)]) hx hb dX3_openShare_63 hl (k := 1) rfl (nI_add j7 1) (by decide) rfl (fun ls hl => ?_)
              refine lv_goto (tgt := 22) hx hb dX3_openShare_66 (by decide) ?_
              exact ih11 ((j7 + 1)) x57 (by omega) (by omega) (by omega) H _ ls  hM hS (lv_sub hl [0, 2, 3] rfl)
            refine lv_if_eq (tgt := 63) hx hb dX3_openShare_57 (by decide) (fun c59 => ?_) (fun c59 => ?_)
            · skip
              exact jn58 x8 H _ ls hM hS (lv_sub hl [0, 1, 2, 3] rfl)
            · skip
              obtain ⟨v60, e61⟩ : ∃ y : Int32, y = x8 + 1 := ⟨_, rfl⟩
              refine lv_iinc (v := v60) (lv' := [(1, .int v60), (3, .ref a32), (2, .int (nI j7)), (0, .ref o)]) hx hb dX3_openShare_60 hl (k := 2) rfl (by rw [e61]; rfl) (by decide) rfl (fun ls hl => ?_)
              exact jn58 v60 H _ ls hM hS (lv_sub hl [1, 2, 0, 3] rfl)
    exact lp9 (3 + 1) 0 0 (by omega) (by omega) (by omega) s.heap _ ls  hM hS (lv_sub hl [0, 1, 2] rfl)
  · skip
    obtain ⟨sa, hsa⟩ := hT.2.1 (306, "there are no sites") (by decide +kernel)
    subst hQ
    exact vx_throwSW (A := (fun q => b ≤ q)) (own := RX3) (cls := "java/lang/ArithmeticException") (text := "there are no sites") (names := exN) hx hb hlt hown (by decide +kernel) (by decide +kernel) (hts (.classLink RX3 304 "java/lang/ArithmeticException") (by decide +kernel)) (hts (.initialized "java/lang/ArithmeticException") (by decide +kernel)) hsa (th_hat hT (fun w h => hts w (List.mem_cons_of_mem _ (List.mem_append_left _ (List.mem_append_right _ h)))) th_i6) (th_good th_i6) hT.2.2.2.1 hT.2.2.2.2 hS (hl.1.trans hml.symm) dX3_openShare_7 dX3_openShare_10 dX3_openShare_11 dX3_openShare_14 dX3_openShare_17 (fun x h => (hnt x h).elim) (by decide) (Nat.le_of_ble_eq_true rfl) (Nat.le_of_ble_eq_true rfl) (Nat.le_of_ble_eq_true rfl) hlocks (fun t ha h1 h2 => ⟨(), trivial, ⟨rfl, hM.keep h2⟩, th_F hS h1 h2⟩) hS.2.2 (Nat.le_of_ble_eq_true rfl) (Nat.le_of_ble_eq_true rfl)

set_option maxHeartbeats 4000000 in
set_option maxRecDepth 100000 in
theorem rf_checksum (l : Launch) (dC : Nat → ClassId) (dI : Nat → Nat → Nat) (kA : Nat → ClassId) (eD b : Nat) (g : Gh) (o : Nat)  (hto : tg g o = 1)  : Met l yX3_checksum wsX3_checksum ({ frames := 2, cells := 0, slots := 0, locals := 43 }) (va_Pc [.ref o] (CX (dC, dI) kA eD b g)) (va_Ql (fun (r : Int64) (u : Unit) => True) (fun (u : Unit) t => CX (dC, dI) kA eD b g t) (fun q => b ≤ q)) 0 0 (fun q => b ≤ q) := by
  refine Met.ofW (cc := cX3_checksum) (maxL := 6) (ret := (some .long)) (by decide +kernel) rfl ?_
  intro p e s m args below meth c s₁ B hml hv
  obtain ⟨rfl, hb0, hM, hK, hG, hE⟩ := hv
  have hx := B.exec
  have hb := B.bytes
  have hr := B.returns
  have hts := atoms_spec (ws := wsX3_checksum) B.pre
  have hown : s.vm.findClass RX3 = some m.cls := findClass_of_methodNamed B.named
  have hlocks := B.notSynchronized
  have hT := hE.1
  have hN := hE.2.2.2.2.2.2.2.1
  have hS : va_S (fun q => b ≤ q) s.heap s.heap [] := va_S.rf
  have hl := lv_entry ([.ref o]) (n := 6) (Nat.le_of_ble_eq_true rfl)
  rw [lg_entry_eq]
  generalize (lg_sl ([.ref o]) ++ List.replicate (6 - (lg_sl ([.ref o])).length) Slot.unset).toArray = ls at hl ⊢
  have hl : lv_has ls 6 [(0, .ref o)] := hl
  generalize ([.ref o] : List Value).toArray = args at hts ⊢
  refine W.q (fun Q hQ => ?_)
  refine lv_ldc2 hx hb hown (hts (.constantLong RX3 314 7) (by decide +kernel)) dX3_checksum_0 ?_
  refine lv_lstore_n (lv' := [(1, .long 7), (0, .ref o)]) hx hb dX3_checksum_3 rfl hl (by decide) rfl (fun ls hl => ?_)
  refine lv_iconst (v := 0) hx hb dX3_checksum_4 (by decide) ?_
  refine lv_istore_n (lv' := [(3, .int 0), (1, .long 7), (0, .ref o)]) hx hb dX3_checksum_5 rfl hl (by decide) rfl (fun ls hl => ?_)
  have lp3 : ∀ (n4 j1 : Nat) (x2 : Int64), 0 ≤ j1 → j1 ≤ 3 → 3 < j1 + n4 → ∀ (H : Heap) (locs : List Loc) (ls : Array Slot), TM (dC, dI) kA b g H → va_S (fun q => b ≤ q) s.heap H locs → lv_has ls 6 [(3, .int (nI j1)), (1, .long x2), (0, .ref o)] → W p l e (headSpec wsX3_checksum ({ frames := 2, cells := 0, slots := 0, locals := 43 })).room s m args below meth c H locs 0 0 Q (F0 m 6 ls []) := by
    intro n4
    induction n4 with
    | zero => intro j1 x2 h0 h1 h2; omega
    | succ n4 ih5 =>
      intro j1 x2 lj1 hj1 hn4 H locs ls hM hS hl
      refine lv_iload_n hx hb dX3_checksum_6 rfl (lv_at hl 0 rfl) ?_
      refine lv_aload_n hx hb dX3_checksum_7 rfl (lv_at hl 2 rfl) ?_
      obtain ⟨u6, u7, u8, u9, hP, hf⟩ := o_sno (i := 0) (q := o) hM (by omega)
      refine va_get (D := (dC, dI)) (ci := 7) (v := .int (pI g o 0)) (C := RX3) (T := TX3) (N := 10) hx hb hts (by decide +kernel) hown hK hP 0 rfl rfl 3 (by decide) (hts (.fieldLink RX3 29 "Snowpalace" "siteCount" "I") (by decide +kernel)) (fun _ h9 => h9) rfl dX3_checksum_8 ?_
      have hv10 := hf.2.2.2.1
      refine lv_icmp_ge (tgt := 87) hx hb dX3_checksum_11 (by decide) (fun c11 => ?_) (fun c11 => ?_)
      · skip
        have i12 := (Int32.le_iff_toInt_le).mp c11
        have ii12 : ((nI j1) : Int32).toInt = ((j1 : Nat) : Int) := nI_toInt (by omega)
        have i12 := i12
        refine lv_ldc2 hx hb hown (hts (.constantLong RX3 316 31) (by decide +kernel)) dX3_checksum_87 ?_
        refine lv_lload_n hx hb dX3_checksum_90 rfl (lv_at hl 1 rfl) ?_
        refine lv_lmul hx hb dX3_checksum_91 ?_
        refine lv_topl (fun v13 e14 => ?_)
        refine lv_aload_n hx hb dX3_checksum_92 rfl (lv_at hl 2 rfl) ?_
        obtain ⟨u15, u16, u17, u18, hP, hf⟩ := o_sno (i := 0) (q := o) hM (by omega)
        refine va_get (D := (dC, dI)) (ci := 7) (v := .int u18) (C := RX3) (T := TX3) (N := 10) hx hb hts (by decide +kernel) hown hK hP 0 rfl rfl 9 (by decide) (hts (.fieldLink RX3 49 "Snowpalace" "funds" "I") (by decide +kernel)) (fun _ h9 => h9) rfl dX3_checksum_93 ?_
        refine lv_i2l hx hb dX3_checksum_96 rfl ?_
        refine lv_ladd hx hb dX3_checksum_97 ?_
        refine lv_topl (fun v19 e20 => ?_)
        refine lv_lstore_n (lv' := [(1, .long v19), (3, .int (nI j1)), (0, .ref o)]) hx hb dX3_checksum_98 rfl hl (by decide) rfl (fun ls hl => ?_)
        refine lv_ldc2 hx hb hown (hts (.constantLong RX3 316 31) (by decide +kernel)) dX3_checksum_99 ?_
        refine lv_lload_n hx hb dX3_checksum_102 rfl (lv_at hl 0 rfl) ?_
        refine lv_lmul hx hb dX3_checksum_103 ?_
        refine lv_topl (fun v21 e22 => ?_)
        refine lv_aload_n hx hb dX3_checksum_104 rfl (lv_at hl 2 rfl) ?_
        obtain ⟨u23, u24, u25, u26, hP, hf⟩ := o_sno (i := 0) (q := o) hM (by omega)
        refine va_get (D := (dC, dI)) (ci := 7) (v := .int u25) (C := RX3) (T := TX3) (N := 10) hx hb hts (by decide +kernel) hown hK hP 0 rfl rfl 7 (by decide) (hts (.fieldLink RX3 42 "Snowpalace" "storedSnow" "I") (by decide +kernel)) (fun _ h9 => h9) rfl dX3_checksum_105 ?_
        refine lv_i2l hx hb dX3_checksum_108 rfl ?_
        refine lv_ladd hx hb dX3_checksum_109 ?_
        refine lv_topl (fun v27 e28 => ?_)
        refine lv_lstore_n (lv' := [(1, .long v27), (3, .int (nI j1)), (0, .ref o)]) hx hb dX3_checksum_110 rfl hl (by decide) rfl (fun ls hl => ?_)
        refine lv_iconst (v := 0) hx hb dX3_checksum_111 (by decide) ?_
        refine lv_istore_n (lv' := [(3, .int 0), (1, .long v27), (0, .ref o)]) hx hb dX3_checksum_112 rfl hl (by decide) rfl (fun ls hl => ?_)
        have lp31 : ∀ (n32 j29 : Nat) (x30 : Int64), 0 ≤ j29 → j29 ≤ 4 → 4 < j29 + n32 → ∀ (H : Heap) (locs : List Loc) (ls : Array Slot), TM (dC, dI) kA b g H → va_S (fun q => b ≤ q) s.heap H locs → lv_has ls 6 [(3, .int (nI j29)), (1, .long x30), (0, .ref o)] → W p l e (headSpec wsX3_checksum ({ frames := 2, cells := 0, slots := 0, locals := 43 })).room s m args below meth c H locs 0 0 Q (F0 m 113 ls []) := by
          intro n32
          induction n32 with
          | zero => intro j29 x30 h0 h1 h2; omega
          | succ n32 ih33 =>
            intro j29 x30 lj29 hj29 hn32 H locs ls hM hS hl
            refine lv_iload_n hx hb dX3_checksum_113 rfl (lv_at hl 0 rfl) ?_
            refine lv_iconst (v := 4) hx hb dX3_checksum_114 (by decide) ?_
            refine lv_icmp_ge (tgt := 141) hx hb dX3_checksum_115 (by decide) (fun c34 => ?_) (fun c34 => ?_)
            · skip
              have k35 : 4 ≤ j29 := (nI_leI (a := 4) (b := j29) (by omega) (by omega)).mp c34
              refine lv_lload_n hx hb dX3_checksum_141 rfl (lv_at hl 1 rfl) ?_
              subst hQ
              refine W.widen (k := 0) (n := 0) (Nat.le_of_ble_eq_true rfl) (Nat.le_of_ble_eq_true rfl) ?_
              exact W.lret (v := x30) hx hb hr (fun t ht hW => ⟨⟨x30, (), rfl, trivial, CX.give hb0 hM hK hG hE hS ht hW⟩, hS.F ht⟩) hS.2.2 dX3_checksum_142
            · skip
              have k36 : ¬ (4 ≤ j29) := fun z => c34 ((nI_leI (a := 4) (b := j29) (by omega) (by omega)).mpr z)
              refine lv_ldc2 hx hb hown (hts (.constantLong RX3 316 31) (by decide +kernel)) dX3_checksum_118 ?_
              refine lv_lload_n hx hb dX3_checksum_121 rfl (lv_at hl 1 rfl) ?_
              refine lv_lmul hx hb dX3_checksum_122 ?_
              refine lv_topl (fun v37 e38 => ?_)
              refine lv_aload_n hx hb dX3_checksum_123 rfl (lv_at hl 2 rfl) ?_
              obtain ⟨u39, u40, u41, u42, hP, hf⟩ := o_sno (i := 0) (q := o) hM (by omega)
              refine va_get (D := (dC, dI)) (ci := 7) (v := .ref (pF g o 1)) (C := RX3) (T := TX3) (N := 10) hx hb hts (by decide +kernel) hown hK hP 0 rfl rfl 1 (by decide) (hts (.fieldLink RX3 19 "Snowpalace" "river" "LSnowpalace$River;") (by decide +kernel)) (fun _ h9 => h9) rfl dX3_checksum_124 ?_
              have ht43 : tg g (pF g o 1) = 3 := hf.2.1
              obtain ⟨hP, hf⟩ := o_riv (i := 0) (q := (pF g o 1)) hM (by omega)
              refine va_get (D := (dC, dI)) (ci := 4) (v := .ref (pF g (pF g o 1) 0)) (C := RX0) (T := TX0) (N := 3) hx hb hts (by decide +kernel) hown hK hP 0 rfl rfl 0 (by decide) (hts (.fieldLink RX3 102 "Snowpalace$River" "thickness" "[I") (by decide +kernel)) (fun _ h9 => h9) rfl dX3_checksum_127 ?_
              have ht44 : tg g (pF g (pF g o 1) 0) = 9 := hf.1
              refine lv_iload_n hx hb dX3_checksum_130 rfl (lv_at hl 0 rfl) ?_
              obtain ⟨u45, hP, hf⟩ := o_ri (i := 0) (q := (pF g (pF g o 1) 0)) hM (by omega)
              refine va_iald (D := (dC, dI)) hx hb hK hP 0 0 rfl rfl (vp_in_nI (by omega) (by decide)) dX3_checksum_131 ?_
              refine lv_topi (fun v46 e47 => ?_)
              have ec : ((nI j29) : Int32).toNatClampNeg = j29 := nI_clamp (by omega)
              rw [ec] at e47
              refine lv_i2l hx hb dX3_checksum_132 rfl ?_
              refine lv_ladd hx hb dX3_checksum_133 ?_
              refine lv_topl (fun v48 e49 => ?_)
              refine lv_lstore_n (lv' := [(1, .long v48), (3, .int (nI j29)), (0, .ref o)]) hx hb dX3_checksum_134 rfl hl (by decide) rfl (fun ls hl => ?_)
              refine lv_iinc (v := (nI (j29 + 1))) (lv' := [(3, .int (nI (j29 + 1))), (1, .long v48), (0, .ref o)]) hx hb dX3_checksum_135 hl (k := 1) rfl (nI_add j29 1) (by decide) rfl (fun ls hl => ?_)
              refine lv_goto (tgt := 113) hx hb dX3_checksum_138 (by decide) ?_
              exact ih33 ((j29 + 1)) v48 (by omega) (by omega) (by omega) H _ ls  hM hS (lv_sub hl [0, 1, 2] rfl)
        exact lp31 (4 + 1) 0 v27 (by omega) (by omega) (by omega) H _ ls  hM hS (lv_sub hl [0, 1, 2] rfl)
      · skip
        have i50 := fun z => c11 ((Int32.le_iff_toInt_le).mpr z)
        have ii50 : ((nI j1) : Int32).toInt = ((j1 : Nat) : Int) := nI_toInt (by omega)
        have i50 : ¬ (((pI g o 0) : Int32).toInt ≤ ((nI j1) : Int32).toInt) := i50
        refine lv_aload_n hx hb dX3_checksum_14 rfl (lv_at hl 2 rfl) ?_
        refine lv_iload_n hx hb dX3_checksum_15 rfl (lv_at hl 0 rfl) ?_
        obtain ⟨u51, u52, u53, u54, hP, hf⟩ := o_sno (i := 0) (q := o) hM (by omega)
        refine va_callq (va_runV (As := [.int (nI j1)]) (rest := []) ⟨hx, hb, hml, hown, hts⟩ (rk_numberedSite l dC dI kA eD b g o (nI j1) (by omega)) (cwV 1 hts gX3_checksum_X3_numberedSite rfl rfl rfl (by decide +kernel) ⟨Nat.le_of_ble_eq_true rfl, Nat.le_of_ble_eq_true rfl⟩) ⟨fb_CX, va_recv hK hP (ci := 7) (q0 := 0) rfl rfl, fun U hU hW => ⟨rfl, CX.give hb0 hM hK hG hE hS hU hW⟩⟩ rfl rfl hl.1 rfl (lv_room (Nat.le_of_ble_eq_true rfl)) dX3_checksum_16 ⟨(Nat.le_of_ble_eq_true rfl), (Nat.le_of_ble_eq_true rfl)⟩) hS (fun q _ h => h) (fun q h => h) (fun r55 u t H locs ht hvm hw56 hB hz1 hk1 hS => ?_)
        have hM := hB.back ht
        have hG := hB.2.2.2.1
        rcases hw56 with ⟨rfl, hn62⟩ | ⟨j57, a58, rfl, hs9, hj61, ho59, ht60⟩
        · skip
          refine lv_astoreN (lv' := [(4, .null), (3, .int (nI j1)), (1, .long x2), (0, .ref o)]) hx hb dX3_checksum_19 hl (by decide) rfl (fun ls hl => ?_)
          refine lv_iconst (v := 0) hx hb dX3_checksum_21 (by decide) ?_
          refine lv_istore (lv' := [(5, .int 0), (4, .null), (3, .int (nI j1)), (1, .long x2), (0, .ref o)]) hx hb dX3_checksum_22 hl (by decide) rfl (fun ls hl => ?_)
          have lp65 : ∀ (n66 j63 : Nat) (x64 : Int64), 0 ≤ j63 → j63 ≤ 48 → 48 < j63 + n66 → ∀ (H : Heap) (locs : List Loc) (ls : Array Slot), TM (dC, dI) kA b g H → va_S (fun q => b ≤ q) s.heap H locs → lv_has ls 6 [(5, .int (nI j63)), (4, .null), (3, .int (nI j1)), (1, .long x64), (0, .ref o)] → W p l e (headSpec wsX3_checksum ({ frames := 2, cells := 0, slots := 0, locals := 43 })).room s m args below meth c H locs 0 0 Q (F0 m 24 ls []) := by
            intro n66
            induction n66 with
            | zero => intro j63 x64 h0 h1 h2; omega
            | succ n66 ih67 =>
              intro j63 x64 lj63 hj63 hn66 H locs ls hM hS hl
              refine lv_aloadN hx hb dX3_checksum_24 (lv_at hl 1 rfl) ?_
              refine lv_ifnullN (tgt := 81) hx hb dX3_checksum_26 (by decide) ?_
              refine lv_iinc (v := (nI (j1 + 1))) (lv' := [(3, .int (nI (j1 + 1))), (5, .int (nI j63)), (4, .null), (1, .long x64), (0, .ref o)]) hx hb dX3_checksum_81 hl (k := 2) rfl (nI_add j1 1) (by decide) rfl (fun ls hl => ?_)
              refine lv_goto (tgt := 6) hx hb dX3_checksum_84 (by decide) ?_
              exact ih5 ((j1 + 1)) x64 (by omega) (by omega) (by omega) H _ ls  hM hS (lv_sub hl [0, 3, 4] rfl)
          exact lp65 (48 + 1) 0 x2 (by omega) (by omega) (by omega) H _ ls  hM hS (lv_sub hl [0, 1, 2, 3, 4] rfl)
        · skip
          have hs9 : j1 = j57 := (nI_eq (by omega) (by omega)).mp hs9
          subst hs9
          refine lv_astore (lv' := [(4, .ref a58), (3, .int (nI j1)), (1, .long x2), (0, .ref o)]) hx hb dX3_checksum_19 hl (by decide) rfl (fun ls hl => ?_)
          refine lv_iconst (v := 0) hx hb dX3_checksum_21 (by decide) ?_
          refine lv_istore (lv' := [(5, .int 0), (4, .ref a58), (3, .int (nI j1)), (1, .long x2), (0, .ref o)]) hx hb dX3_checksum_22 hl (by decide) rfl (fun ls hl => ?_)
          have lp70 : ∀ (n71 j68 : Nat) (x69 : Int64), 0 ≤ j68 → j68 ≤ 48 → 48 < j68 + n71 → ∀ (H : Heap) (locs : List Loc) (ls : Array Slot), TM (dC, dI) kA b g H → va_S (fun q => b ≤ q) s.heap H locs → lv_has ls 6 [(5, .int (nI j68)), (4, .ref a58), (3, .int (nI j1)), (1, .long x69), (0, .ref o)] → W p l e (headSpec wsX3_checksum ({ frames := 2, cells := 0, slots := 0, locals := 43 })).room s m args below meth c H locs 0 0 Q (F0 m 24 ls []) := by
            intro n71
            induction n71 with
            | zero => intro j68 x69 h0 h1 h2; omega
            | succ n71 ih72 =>
              intro j68 x69 lj68 hj68 hn71 H locs ls hM hS hl
              refine lv_aload hx hb dX3_checksum_24 (lv_at hl 1 rfl) ?_
              refine lv_ifnull hx hb dX3_checksum_26 ?_
              refine lv_iload hx hb dX3_checksum_29 (lv_at hl 0 rfl) ?_
              refine lv_bipush (v := 48) hx hb dX3_checksum_31 (by decide) ?_
              refine lv_icmp_ge (tgt := 81) hx hb dX3_checksum_33 (by decide) (fun c73 => ?_) (fun c73 => ?_)
              · skip
                have k74 : 48 ≤ j68 := (nI_leI (a := 48) (b := j68) (by omega) (by omega)).mp c73
                refine lv_iinc (v := (nI (j1 + 1))) (lv' := [(3, .int (nI (j1 + 1))), (5, .int (nI j68)), (4, .ref a58), (1, .long x69), (0, .ref o)]) hx hb dX3_checksum_81 hl (k := 2) rfl (nI_add j1 1) (by decide) rfl (fun ls hl => ?_)
                refine lv_goto (tgt := 6) hx hb dX3_checksum_84 (by decide) ?_
                exact ih5 ((j1 + 1)) x69 (by omega) (by omega) (by omega) H _ ls  hM hS (lv_sub hl [0, 3, 4] rfl)
              · skip
                have k75 : ¬ (48 ≤ j68) := fun z => c73 ((nI_leI (a := 48) (b := j68) (by omega) (by omega)).mpr z)
                refine lv_ldc2 hx hb hown (hts (.constantLong RX3 316 31) (by decide +kernel)) dX3_checksum_36 ?_
                refine lv_lload_n hx hb dX3_checksum_39 rfl (lv_at hl 3 rfl) ?_
                refine lv_lmul hx hb dX3_checksum_40 ?_
                refine lv_topl (fun v76 e77 => ?_)
                refine lv_aload hx hb dX3_checksum_41 (lv_at hl 1 rfl) ?_
                refine lv_iload hx hb dX3_checksum_43 (lv_at hl 0 rfl) ?_
                obtain ⟨u78, u79, u80, u81, u82, u83, hP, hf⟩ := o_st (i := j1) (q := a58) hM (by omega)
                refine va_calli (va_runV (As := [.int (nI j68)]) (rest := [.long v76]) ⟨hx, hb, hml, hown, hts⟩ (rk_has l dC dI kA eD b g a58 j1 (nI j68) (by omega)) (cwV 1 hts gX3_checksum_X1_has rfl rfl rfl (by decide +kernel) ⟨Nat.le_of_ble_eq_true rfl, Nat.le_of_ble_eq_true rfl⟩) ⟨fb_CX, va_recv hK hP (ci := 5) (q0 := 0) rfl rfl, fun U hU hW => ⟨rfl, CX.give hb0 hM hK hG hE hS hU hW⟩⟩ rfl rfl hl.1 rfl (lv_room (Nat.le_of_ble_eq_true rfl)) dX3_checksum_45 ⟨(Nat.le_of_ble_eq_true rfl), (Nat.le_of_ble_eq_true rfl)⟩) hS (fun q _ h => h) (fun q h => h) (fun r84 u t H locs ht hvm hw85 hB hz1 hk1 hS => ?_)
                have hM := hB.back ht
                have hG := hB.2.2.2.1
                have jn87 : ∀ (x86 : Int32) (H : Heap) (locs : List Loc) (ls : Array Slot), TM (dC, dI) kA b g H → va_S (fun q => b ≤ q) s.heap H locs → lv_has ls 6 [(5, .int (nI j68)), (4, .ref a58), (3, .int (nI j1)), (1, .long x69), (0, .ref o)] → W p l e (headSpec wsX3_checksum ({ frames := 2, cells := 0, slots := 0, locals := 43 })).room s m args below meth c H locs 0 0 Q (F0 m 72 ls [.int x86, .long v76]) := by
                  intro x86 H locs ls hM hS hl
                  refine lv_i2l hx hb dX3_checksum_72 rfl ?_
                  refine lv_ladd hx hb dX3_checksum_73 ?_
                  refine lv_topl (fun v88 e89 => ?_)
                  refine lv_lstore_n (lv' := [(1, .long v88), (5, .int (nI j68)), (4, .ref a58), (3, .int (nI j1)), (0, .ref o)]) hx hb dX3_checksum_74 rfl hl (by decide) rfl (fun ls hl => ?_)
                  refine lv_iinc (v := (nI (j68 + 1))) (lv' := [(5, .int (nI (j68 + 1))), (1, .long v88), (4, .ref a58), (3, .int (nI j1)), (0, .ref o)]) hx hb dX3_checksum_75 hl (k := 1) rfl (nI_add j68 1) (by decide) rfl (fun ls hl => ?_)
                  refine lv_goto (tgt := 24) hx hb dX3_checksum_78 (by decide) ?_
                  exact ih72 ((j68 + 1)) v88 (by omega) (by omega) (by omega) H _ ls  hM hS (lv_sub hl [0, 2, 3, 1, 4] rfl)
                refine lv_if_eq (tgt := 71) hx hb dX3_checksum_48 (by decide) (fun c90 => ?_) (fun c90 => ?_)
                · skip
                  refine lv_iconst (v := 0) hx hb dX3_checksum_71 (by decide) ?_
                  exact jn87 0 H _ ls hM hS (lv_sub hl [0, 1, 2, 3, 4] rfl)
                · skip
                  obtain ⟨-, hr1, hr2⟩ := hw85.resolve_left c90
                  refine lv_aload hx hb dX3_checksum_51 (lv_at hl 1 rfl) ?_
                  obtain ⟨u91, u92, u93, u94, u95, u96, hP, hf⟩ := o_st (i := j1) (q := a58) hM (by omega)
                  refine va_get (D := (dC, dI)) (ci := 5) (v := .ref (pF g a58 1)) (C := RX1) (T := TX1) (N := 15) hx hb hts (by decide +kernel) hown hK hP 0 rfl rfl 1 (by decide) (hts (.fieldLink RX3 185 "Snowpalace$Site" "masses" "[I") (by decide +kernel)) (fun _ h9 => h9) rfl dX3_checksum_53 ?_
                  have ht97 : tg g (pF g a58 1) = 14 := hf.2.1
                  refine lv_iload hx hb dX3_checksum_56 (lv_at hl 0 rfl) ?_
                  obtain ⟨u98, hP, hf⟩ := o_in (i := 0) (q := (pF g a58 1)) hM (by omega)
                  refine va_iald (D := (dC, dI)) hx hb hK hP 0 0 rfl rfl (vp_in_nI (by omega) (by decide)) dX3_checksum_58 ?_
                  refine lv_topi (fun v99 e100 => ?_)
                  have ec : ((nI j68) : Int32).toNatClampNeg = j68 := nI_clamp (by omega)
                  rw [ec] at e100
                  refine lv_aload hx hb dX3_checksum_59 (lv_at hl 1 rfl) ?_
                  obtain ⟨u101, u102, u103, u104, u105, u106, hP, hf⟩ := o_st (i := j1) (q := a58) hM (by omega)
                  refine va_get (D := (dC, dI)) (ci := 5) (v := .ref (pF g a58 2)) (C := RX1) (T := TX1) (N := 15) hx hb hts (by decide +kernel) hown hK hP 0 rfl rfl 2 (by decide) (hts (.fieldLink RX3 198 "Snowpalace$Site" "creeps" "[I") (by decide +kernel)) (fun _ h9 => h9) rfl dX3_checksum_61 ?_
                  have ht107 : tg g (pF g a58 2) = 14 := hf.2.2.1
                  refine lv_iload hx hb dX3_checksum_64 (lv_at hl 0 rfl) ?_
                  obtain ⟨u108, hP, hf⟩ := o_in (i := 0) (q := (pF g a58 2)) hM (by omega)
                  refine va_iald (D := (dC, dI)) hx hb hK hP 0 0 rfl rfl (vp_in_nI (by omega) (by decide)) dX3_checksum_66 ?_
                  refine lv_topi (fun v109 e110 => ?_)
                  have ec : ((nI j68) : Int32).toNatClampNeg = j68 := nI_clamp (by omega)
                  rw [ec] at e110
                  refine lv_iadd hx hb dX3_checksum_67 ?_
                  refine lv_topi (fun v111 e112 => ?_)
                  refine lv_goto (tgt := 72) hx hb dX3_checksum_68 (by decide) ?_
                  exact jn87 v111 H _ ls hM hS (lv_sub hl [0, 1, 2, 3, 4] rfl)
          exact lp70 (48 + 1) 0 x2 (by omega) (by omega) (by omega) H _ ls  hM hS (lv_sub hl [0, 1, 2, 3, 4] rfl)
  exact lp3 (3 + 1) 0 7 (by omega) (by omega) (by omega) s.heap _ ls  hM hS (lv_sub hl [0, 1, 2] rfl)

set_option maxHeartbeats 4000000 in
set_option maxRecDepth 100000 in
theorem rf_isSound (l : Launch) (dC : Nat → ClassId) (dI : Nat → Nat → Nat) (kA : Nat → ClassId) (eD b : Nat) (g : Gh) (o : Nat)  (hto : tg g o = 1)  : Met l yX3_isSound wsX3_isSound ({ frames := 4, cells := 0, slots := 0, locals := 92 }) (va_Pc [.ref o] (CX (dC, dI) kA eD b g)) (va_Qi (fun (r : Int32) (u : Unit) => r = 0 ∨ r = 1) (fun (u : Unit) t => CX (dC, dI) kA eD b g t) (fun q => b ≤ q)) 0 0 (fun q => b ≤ q) := by
  refine Met.ofW (cc := cX3_isSound) (maxL := 3) (ret := (some .boolean)) (by decide +kernel) rfl ?_
  intro p e s m args below meth c s₁ B hml hv
  obtain ⟨rfl, hb0, hM, hK, hG, hE⟩ := hv
  have hx := B.exec
  have hb := B.bytes
  have hr := B.returns
  have hts := atoms_spec (ws := wsX3_isSound) B.pre
  have hown : s.vm.findClass RX3 = some m.cls := findClass_of_methodNamed B.named
  have hlocks := B.notSynchronized
  have hT := hE.1
  have hN := hE.2.2.2.2.2.2.2.1
  have hS : va_S (fun q => b ≤ q) s.heap s.heap [] := va_S.rf
  have hl := lv_entry ([.ref o]) (n := 3) (Nat.le_of_ble_eq_true rfl)
  rw [lg_entry_eq]
  generalize (lg_sl ([.ref o]) ++ List.replicate (3 - (lg_sl ([.ref o])).length) Slot.unset).toArray = ls at hl ⊢
  have hl : lv_has ls 3 [(0, .ref o)] := hl
  generalize ([.ref o] : List Value).toArray = args at hts ⊢
  refine W.q (fun Q hQ => ?_)
  refine lv_iconst (v := 0) hx hb dX3_isSound_0 (by decide) ?_
  refine lv_istore_n (lv' := [(1, .int 0), (0, .ref o)]) hx hb dX3_isSound_1 rfl hl (by decide) rfl (fun ls hl => ?_)
  have lp2 : ∀ (n3 j1 : Nat) , 0 ≤ j1 → j1 ≤ 3 → 3 < j1 + n3 → ∀ (H : Heap) (locs : List Loc) (ls : Array Slot), TM (dC, dI) kA b g H → va_S (fun q => b ≤ q) s.heap H locs → lv_has ls 3 [(1, .int (nI j1)), (0, .ref o)] → W p l e (headSpec wsX3_isSound ({ frames := 4, cells := 0, slots := 0, locals := 92 })).room s m args below meth c H locs 0 0 Q (F0 m 2 ls []) := by
    intro n3
    induction n3 with
    | zero => intro j1 h0 h1 h2; omega
    | succ n3 ih4 =>
      intro j1 lj1 hj1 hn3 H locs ls hM hS hl
      refine lv_iload_n hx hb dX3_isSound_2 rfl (lv_at hl 0 rfl) ?_
      refine lv_aload_n hx hb dX3_isSound_3 rfl (lv_at hl 1 rfl) ?_
      obtain ⟨u5, u6, u7, u8, hP, hf⟩ := o_sno (i := 0) (q := o) hM (by omega)
      refine va_get (D := (dC, dI)) (ci := 7) (v := .int (pI g o 0)) (C := RX3) (T := TX3) (N := 10) hx hb hts (by decide +kernel) hown hK hP 0 rfl rfl 3 (by decide) (hts (.fieldLink RX3 29 "Snowpalace" "siteCount" "I") (by decide +kernel)) (fun _ h9 => h9) rfl dX3_isSound_4 ?_
      have hv9 := hf.2.2.2.1
      refine lv_icmp_ge (tgt := 35) hx hb dX3_isSound_7 (by decide) (fun c10 => ?_) (fun c10 => ?_)
      · skip
        have i11 := (Int32.le_iff_toInt_le).mp c10
        have ii11 : ((nI j1) : Int32).toInt = ((j1 : Nat) : Int) := nI_toInt (by omega)
        have i11 := i11
        refine lv_iconst (v := 0) hx hb dX3_isSound_35 (by decide) ?_
        refine lv_istore_n (lv' := [(1, .int 0), (0, .ref o)]) hx hb dX3_isSound_36 rfl hl (by decide) rfl (fun ls hl => ?_)
        have lp13 : ∀ (n14 j12 : Nat) , 0 ≤ j12 → j12 ≤ 4 → 4 < j12 + n14 → ∀ (H : Heap) (locs : List Loc) (ls : Array Slot), TM (dC, dI) kA b g H → va_S (fun q => b ≤ q) s.heap H locs → lv_has ls 3 [(1, .int (nI j12)), (0, .ref o)] → W p l e (headSpec wsX3_isSound ({ frames := 4, cells := 0, slots := 0, locals := 92 })).room s m args below meth c H locs 0 0 Q (F0 m 37 ls []) := by
          intro n14
          induction n14 with
          | zero => intro j12 h0 h1 h2; omega
          | succ n14 ih15 =>
            intro j12 lj12 hj12 hn14 H locs ls hM hS hl
            refine lv_iload_n hx hb dX3_isSound_37 rfl (lv_at hl 0 rfl) ?_
            refine lv_iconst (v := 4) hx hb dX3_isSound_38 (by decide) ?_
            refine lv_icmp_ge (tgt := 71) hx hb dX3_isSound_39 (by decide) (fun c16 => ?_) (fun c16 => ?_)
            · skip
              have k17 : 4 ≤ j12 := (nI_leI (a := 4) (b := j12) (by omega) (by omega)).mp c16
              refine lv_iconst (v := 1) hx hb dX3_isSound_71 (by decide) ?_
              subst hQ
              refine W.widen (k := 0) (n := 0) (Nat.le_of_ble_eq_true rfl) (Nat.le_of_ble_eq_true rfl) ?_
              exact W.zret (v := 1) (ty := .boolean) hx hb hr rfl (fun t ht hW => ⟨⟨1, (), rfl, (Or.inr rfl), CX.give hb0 hM hK hG hE hS ht hW⟩, hS.F ht⟩) hS.2.2 dX3_isSound_72
            · skip
              have k18 : ¬ (4 ≤ j12) := fun z => c16 ((nI_leI (a := 4) (b := j12) (by omega) (by omega)).mpr z)
              refine lv_aload_n hx hb dX3_isSound_42 rfl (lv_at hl 1 rfl) ?_
              obtain ⟨u19, u20, u21, u22, hP, hf⟩ := o_sno (i := 0) (q := o) hM (by omega)
              refine va_get (D := (dC, dI)) (ci := 7) (v := .ref (pF g o 1)) (C := RX3) (T := TX3) (N := 10) hx hb hts (by decide +kernel) hown hK hP 0 rfl rfl 1 (by decide) (hts (.fieldLink RX3 19 "Snowpalace" "river" "LSnowpalace$River;") (by decide +kernel)) (fun _ h9 => h9) rfl dX3_isSound_43 ?_
              have ht23 : tg g (pF g o 1) = 3 := hf.2.1
              obtain ⟨hP, hf⟩ := o_riv (i := 0) (q := (pF g o 1)) hM (by omega)
              refine va_get (D := (dC, dI)) (ci := 4) (v := .ref (pF g (pF g o 1) 1)) (C := RX0) (T := TX0) (N := 3) hx hb hts (by decide +kernel) hown hK hP 0 rfl rfl 1 (by decide) (hts (.fieldLink RX3 105 "Snowpalace$River" "clearPart" "[I") (by decide +kernel)) (fun _ h9 => h9) rfl dX3_isSound_46 ?_
              have ht24 : tg g (pF g (pF g o 1) 1) = 9 := hf.2.1
              refine lv_iload_n hx hb dX3_isSound_49 rfl (lv_at hl 0 rfl) ?_
              obtain ⟨u25, hP, hf⟩ := o_ri (i := 0) (q := (pF g (pF g o 1) 1)) hM (by omega)
              refine va_iald (D := (dC, dI)) hx hb hK hP 0 0 rfl rfl (vp_in_nI (by omega) (by decide)) dX3_isSound_50 ?_
              refine lv_topi (fun v26 e27 => ?_)
              have ec : ((nI j12) : Int32).toNatClampNeg = j12 := nI_clamp (by omega)
              rw [ec] at e27
              refine lv_aload_n hx hb dX3_isSound_51 rfl (lv_at hl 1 rfl) ?_
              obtain ⟨u28, u29, u30, u31, hP, hf⟩ := o_sno (i := 0) (q := o) hM (by omega)
              refine va_get (D := (dC, dI)) (ci := 7) (v := .ref (pF g o 1)) (C := RX3) (T := TX3) (N := 10) hx hb hts (by decide +kernel) hown hK hP 0 rfl rfl 1 (by decide) (hts (.fieldLink RX3 19 "Snowpalace" "river" "LSnowpalace$River;") (by decide +kernel)) (fun _ h9 => h9) rfl dX3_isSound_52 ?_
              obtain ⟨hP, hf⟩ := o_riv (i := 0) (q := (pF g o 1)) hM (by omega)
              refine va_get (D := (dC, dI)) (ci := 4) (v := .ref (pF g (pF g o 1) 0)) (C := RX0) (T := TX0) (N := 3) hx hb hts (by decide +kernel) hown hK hP 0 rfl rfl 0 (by decide) (hts (.fieldLink RX3 102 "Snowpalace$River" "thickness" "[I") (by decide +kernel)) (fun _ h9 => h9) rfl dX3_isSound_55 ?_
              have ht32 : tg g (pF g (pF g o 1) 0) = 9 := hf.1
              refine lv_iload_n hx hb dX3_isSound_58 rfl (lv_at hl 0 rfl) ?_
              obtain ⟨u33, hP, hf⟩ := o_ri (i := 0) (q := (pF g (pF g o 1) 0)) hM (by omega)
              refine va_iald (D := (dC, dI)) hx hb hK hP 0 0 rfl rfl (vp_in_nI (by omega) (by decide)) dX3_isSound_59 ?_
              refine lv_topi (fun v34 e35 => ?_)
              have ec : ((nI j12) : Int32).toNatClampNeg = j12 := nI_clamp (by omega)
              rw [ec] at e35
              refine lv_icmp_le (tgt := 65) hx hb dX3_isSound_60 (by decide) (fun c36 => ?_) (fun c36 => ?_)
              · skip
                have i37 := (Int32.le_iff_toInt_le).mp c36
                have i37 := i37
                refine lv_iinc (v := (nI (j12 + 1))) (lv' := [(1, .int (nI (j12 + 1))), (0, .ref o)]) hx hb dX3_isSound_65 hl (k := 0) rfl (nI_add j12 1) (by decide) rfl (fun ls hl => ?_)
                refine lv_goto (tgt := 37) hx hb dX3_isSound_68 (by decide) ?_
                exact ih15 ((j12 + 1)) (by omega) (by omega) (by omega) H _ ls  hM hS (lv_sub hl [0, 1] rfl)
              · skip
                have i38 := fun z => c36 ((Int32.le_iff_toInt_le).mpr z)
                have i38 : ¬ ((v26 : Int32).toInt ≤ (v34 : Int32).toInt) := i38
                refine lv_iconst (v := 0) hx hb dX3_isSound_63 (by decide) ?_
                subst hQ
                refine W.widen (k := 0) (n := 0) (Nat.le_of_ble_eq_true rfl) (Nat.le_of_ble_eq_true rfl) ?_
                exact W.zret (v := 0) (ty := .boolean) hx hb hr rfl (fun t ht hW => ⟨⟨0, (), rfl, (Or.inl rfl), CX.give hb0 hM hK hG hE hS ht hW⟩, hS.F ht⟩) hS.2.2 dX3_isSound_64
        exact lp13 (4 + 1) 0 (by omega) (by omega) (by omega) H _ ls  hM hS (lv_sub hl [0, 1] rfl)
      · skip
        have i39 := fun z => c10 ((Int32.le_iff_toInt_le).mpr z)
        have ii39 : ((nI j1) : Int32).toInt = ((j1 : Nat) : Int) := nI_toInt (by omega)
        have i39 : ¬ (((pI g o 0) : Int32).toInt ≤ ((nI j1) : Int32).toInt) := i39
        refine lv_aload_n hx hb dX3_isSound_10 rfl (lv_at hl 1 rfl) ?_
        refine lv_iload_n hx hb dX3_isSound_11 rfl (lv_at hl 0 rfl) ?_
        obtain ⟨u40, u41, u42, u43, hP, hf⟩ := o_sno (i := 0) (q := o) hM (by omega)
        refine va_callq (va_runV (As := [.int (nI j1)]) (rest := []) ⟨hx, hb, hml, hown, hts⟩ (rk_numberedSite l dC dI kA eD b g o (nI j1) (by omega)) (cwV 1 hts gX3_isSound_X3_numberedSite rfl rfl rfl (by decide +kernel) ⟨Nat.le_of_ble_eq_true rfl, Nat.le_of_ble_eq_true rfl⟩) ⟨fb_CX, va_recv hK hP (ci := 7) (q0 := 0) rfl rfl, fun U hU hW => ⟨rfl, CX.give hb0 hM hK hG hE hS hU hW⟩⟩ rfl rfl hl.1 rfl (lv_room (Nat.le_of_ble_eq_true rfl)) dX3_isSound_12 ⟨(Nat.le_of_ble_eq_true rfl), (Nat.le_of_ble_eq_true rfl)⟩) hS (fun q _ h => h) (fun q h => h) (fun r44 u t H locs ht hvm hw45 hB hz1 hk1 hS => ?_)
        have hM := hB.back ht
        have hG := hB.2.2.2.1
        rcases hw45 with ⟨rfl, hn51⟩ | ⟨j46, a47, rfl, hs9, hj50, ho48, ht49⟩
        · skip
          refine lv_astore_nN (lv' := [(2, .null), (1, .int (nI j1)), (0, .ref o)]) hx hb dX3_isSound_15 rfl hl (by decide) rfl (fun ls hl => ?_)
          refine lv_aload_nN hx hb dX3_isSound_16 rfl (lv_at hl 0 rfl) ?_
          refine lv_ifnullN (tgt := 29) hx hb dX3_isSound_17 (by decide) ?_
          refine lv_iinc (v := (nI (j1 + 1))) (lv' := [(1, .int (nI (j1 + 1))), (2, .null), (0, .ref o)]) hx hb dX3_isSound_29 hl (k := 1) rfl (nI_add j1 1) (by decide) rfl (fun ls hl => ?_)
          refine lv_goto (tgt := 2) hx hb dX3_isSound_32 (by decide) ?_
          exact ih4 ((j1 + 1)) (by omega) (by omega) (by omega) H _ ls  hM hS (lv_sub hl [0, 2] rfl)
        · skip
          have hs9 : j1 = j46 := (nI_eq (by omega) (by omega)).mp hs9
          subst hs9
          refine lv_astore_n (lv' := [(2, .ref a47), (1, .int (nI j1)), (0, .ref o)]) hx hb dX3_isSound_15 rfl hl (by decide) rfl (fun ls hl => ?_)
          refine lv_aload_n hx hb dX3_isSound_16 rfl (lv_at hl 0 rfl) ?_
          refine lv_ifnull hx hb dX3_isSound_17 ?_
          refine lv_aload_n hx hb dX3_isSound_20 rfl (lv_at hl 0 rfl) ?_
          obtain ⟨u52, u53, u54, u55, u56, u57, hP, hf⟩ := o_st (i := j1) (q := a47) hM (by omega)
          refine va_calli (va_runV (As := []) (rest := []) ⟨hx, hb, hml, hown, hts⟩ (rk_bearsItself l dC dI kA eD b g a47 j1 (by omega)) (cwV 0 hts gX3_isSound_X1_bearsItself rfl rfl rfl (by decide +kernel) ⟨Nat.le_of_ble_eq_true rfl, Nat.le_of_ble_eq_true rfl⟩) ⟨fb_CX, va_recv hK hP (ci := 5) (q0 := 0) rfl rfl, fun U hU hW => ⟨rfl, CX.give hb0 hM hK hG hE hS hU hW⟩⟩ rfl rfl hl.1 rfl (lv_room (Nat.le_of_ble_eq_true rfl)) dX3_isSound_21 ⟨(Nat.le_of_ble_eq_true rfl), (Nat.le_of_ble_eq_true rfl)⟩) hS (fun q _ h => h) (fun q h => h) (fun r58 u t H locs ht hvm hw59 hB hz1 hk1 hS => ?_)
          have hM := hB.back ht
          have hG := hB.2.2.2.1
          refine lv_if_ne (tgt := 29) hx hb dX3_isSound_24 (by decide) (fun c60 => ?_) (fun c60 => ?_)
          · skip
            refine lv_iinc (v := (nI (j1 + 1))) (lv' := [(1, .int (nI (j1 + 1))), (2, .ref a47), (0, .ref o)]) hx hb dX3_isSound_29 hl (k := 1) rfl (nI_add j1 1) (by decide) rfl (fun ls hl => ?_)
            refine lv_goto (tgt := 2) hx hb dX3_isSound_32 (by decide) ?_
            exact ih4 ((j1 + 1)) (by omega) (by omega) (by omega) H _ ls  hM hS (lv_sub hl [0, 2] rfl)
          · skip
            refine lv_iconst (v := 0) hx hb dX3_isSound_27 (by decide) ?_
            subst hQ
            refine W.widen (k := 0) (n := 0) (Nat.le_of_ble_eq_true rfl) (Nat.le_of_ble_eq_true rfl) ?_
            exact W.zret (v := 0) (ty := .boolean) hx hb hr rfl (fun t ht hW => ⟨⟨0, (), rfl, (Or.inl rfl), CX.give hb0 hM hK hG hE hS ht hW⟩, hS.F ht⟩) hS.2.2 dX3_isSound_28
  exact lp2 (3 + 1) 0 (by omega) (by omega) (by omega) s.heap _ ls  hM hS (lv_sub hl [0, 1] rfl)
