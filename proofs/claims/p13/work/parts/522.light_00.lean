set_option maxHeartbeats 4000000 in
set_option maxRecDepth 100000 in
theorem rj_isNaNf (l : Launch)   (x : UInt32) (hnn : FP.Core.fIsNaN x = false) : Met l yJxf58ca_isNaN_12338 wsJxf58ca_isNaN_12338 ({ frames := 0, cells := 0, slots := 0, locals := 0 }) (va_Pc [.float x] (fun _ => True)) (va_Qi (fun (r : Int32) (u : Unit) => r = 0) (fun (u : Unit) t => True) (fun _ => False)) 0 0 (fun _ => False) := by
  refine va_MetF (cc := cJxf58ca_isNaN_12338) (maxL := 1) (ret := (some .boolean)) (by decide +kernel) rfl ?_
  intro p e s m args below meth c s₁ B hml hv
  obtain ⟨rfl, -⟩ := hv
  have hx := B.exec
  have hb := B.bytes
  have hr := B.returns
  have hts := atoms_spec (ws := wsJxf58ca_isNaN_12338) B.pre
  have hown : s.vm.findClass RJxf58ca = some m.cls := findClass_of_methodNamed B.named
  have hlocks := B.notSynchronized
  have hM : True := trivial
  have hS : va_S (fun _ => False) s.heap s.heap [] := va_S.rf
  have hl := lv_entry ([.float x]) (n := 1) (Nat.le_of_ble_eq_true rfl)
  rw [lg_entry_eq]
  generalize (lg_sl ([.float x]) ++ List.replicate (1 - (lg_sl ([.float x])).length) Slot.unset).toArray = ls at hl ⊢
  have hl : lv_has ls 1 [(0, .float x)] := hl
  generalize ([.float x] : List Value).toArray = args at hts ⊢
  refine lv_fload_n hx hb dJxf58ca_isNaN_12338_0 rfl (lv_at hl 0 rfl) ?_
  refine lv_fload_n hx hb dJxf58ca_isNaN_12338_1 rfl (lv_at hl 0 rfl) ?_
  refine lv_fcmp hx hb dJxf58ca_isNaN_12338_2 ?_
  refine lv_if_eq (tgt := 10) hx hb dJxf58ca_isNaN_12338_3 (by decide) (fun c1 => ?_) (fun c1 => ?_)
  · skip
    refine lv_iconst (v := 0) hx hb dJxf58ca_isNaN_12338_10 (by decide) ?_
    refine W.widen (k := 0) (n := 0) (Nat.le_of_ble_eq_true rfl) (Nat.le_of_ble_eq_true rfl) ?_
    exact W.zret (v := 0) (ty := .boolean) hx hb hr rfl (fun t ht hW => ⟨⟨0, (), rfl, rfl, trivial⟩, hS.F ht⟩) hS.2.2 dJxf58ca_isNaN_12338_11
  · skip
    exact absurd (ncmp32 hnn) ‹_›

set_option maxHeartbeats 4000000 in
set_option maxRecDepth 100000 in
theorem rj_f2i (l : Launch)   (x : UInt32) (hnn : FP.Core.fIsNaN x = false) : Met l yJxf58ca_floatToIntBits_5c35a wsJxf58ca_floatToIntBits_5c35a ({ frames := 1, cells := 0, slots := 0, locals := 20 }) (va_Pc [.float x] (fun _ => True)) (va_Qi (fun (r : Int32) (u : Unit) => True) (fun (u : Unit) t => True) (fun _ => False)) 0 0 (fun _ => False) := by
  refine va_MetF (cc := cJxf58ca_floatToIntBits_5c35a) (maxL := 1) (ret := (some .int)) (by decide +kernel) rfl ?_
  intro p e s m args below meth c s₁ B hml hv
  obtain ⟨rfl, -⟩ := hv
  have hx := B.exec
  have hb := B.bytes
  have hr := B.returns
  have hts := atoms_spec (ws := wsJxf58ca_floatToIntBits_5c35a) B.pre
  have hown : s.vm.findClass RJxf58ca = some m.cls := findClass_of_methodNamed B.named
  have hlocks := B.notSynchronized
  have hM : True := trivial
  have hS : va_S (fun _ => False) s.heap s.heap [] := va_S.rf
  have hl := lv_entry ([.float x]) (n := 1) (Nat.le_of_ble_eq_true rfl)
  rw [lg_entry_eq]
  generalize (lg_sl ([.float x]) ++ List.replicate (1 - (lg_sl ([.float x])).length) Slot.unset).toArray = ls at hl ⊢
  have hl : lv_has ls 1 [(0, .float x)] := hl
  generalize ([.float x] : List Value).toArray = args at hts ⊢
  refine lv_fload_n hx hb dJxf58ca_floatToIntBits_5c35a_0 rfl (lv_at hl 0 rfl) ?_
  refine va_calli (va_runS (As := [.float x]) (rest := []) ⟨hx, hb, hml, hown, hts⟩ (rj_isNaNf l x hnn) (va_cwS 1 hts gJxf58ca_floatToIntBits_5c35a_Jxf58ca_isNaN_12338 rfl rfl rfl (by decide +kernel) ⟨Nat.le_of_ble_eq_true rfl, Nat.le_of_ble_eq_true rfl⟩) ⟨fun a U g mk q => q, fun U hU hW => ⟨rfl, trivial⟩⟩ rfl rfl hl.1 rfl (lv_room (Nat.le_of_ble_eq_true rfl)) dJxf58ca_floatToIntBits_5c35a_1 ⟨(Nat.le_of_ble_eq_true rfl), (Nat.le_of_ble_eq_true rfl)⟩) hS (fun q _ h => h.elim) (fun q h => h.elim) (fun r1 u t H locs ht hvm hw2 hB hz1 hk1 hS => ?_)
  have hM := hM
  obtain rfl : r1 = 0 := hw2
  refine lv_if_ne (tgt := 12) hx hb dJxf58ca_floatToIntBits_5c35a_4 (by decide) (fun cx => by first | exact absurd cx (by decide) | exact absurd (by decide) cx) (fun _ => ?_)
  refine lv_fload_n hx hb dJxf58ca_floatToIntBits_5c35a_7 rfl (lv_at hl 0 rfl) ?_
  refine vn_f2i hx hb (hml.trans hl.1.symm) hown (hts (.methodLink RJxf58ca 74 ⟨"java/lang/Float", "floatToRawIntBits", "(F)I"⟩) (by decide +kernel)) (hts (.native ⟨"java/lang/Float", "floatToRawIntBits", "(F)I"⟩) (by decide +kernel)) (hts (.static ⟨"java/lang/Float", "floatToRawIntBits", "(F)I"⟩) (by decide +kernel)) (hts (.initialized "java/lang/Float") (by decide +kernel)) (Nat.le_of_ble_eq_true rfl) (Nat.le_of_ble_eq_true rfl) dJxf58ca_floatToIntBits_5c35a_8 ?_
  refine W.widen (k := 0) (n := 0) (Nat.le_of_ble_eq_true rfl) (Nat.le_of_ble_eq_true rfl) ?_
  exact W.iret (v := x.toInt32) hx hb hr (fun t ht hW => ⟨⟨x.toInt32, (), rfl, trivial, trivial⟩, hS.F ht⟩) hS.2.2 dJxf58ca_floatToIntBits_5c35a_11

theorem FM.mul1 {K : Nat} {x : UInt32} (h : FM K x) (hK : 2 ≤ K ∧ K ≤ 255) : FM (K + 2) (FP.fmul x FP.fconst1) := by
  have e := FP.Core.fmul_mag (a := x) (b := FP.fconst1) (Ka := K) (Kb := 128) h (by decide +kernel) hK.2 (by decide)
  exact Nat.lt_of_lt_of_le e (Nat.mul_le_mul_right _ (by omega))

set_option maxHeartbeats 4000000 in
set_option maxRecDepth 100000 in
theorem rmf_lightBits (l : Launch) (dC : Nat → ClassId) (dI : Nat → Nat → Nat) (kA : Nat → ClassId) (eD b : Nat) (g : Gh) (o : Nat) (site : Int32) (x : Int32) (y : Int32) (hto : tg g o = 17)  : Met l yX6_lightBits wsX6_lightBits ({ frames := 3, cells := 0, slots := 0, locals := 64 }) (va_Pc [.ref o, .int site, .int x, .int y] (CX (dC, dI) kA eD b g)) (va_Qi (fun (r : Int32) (u : Gh) => Ext o X0 g u) (fun (u : Gh) t => CX (dC, dI) kA eD b u t) (fun q => b ≤ q)) 0 0 (fun q => b ≤ q) := by
  refine Met.ofW (cc := cX6_lightBits) (maxL := 10) (ret := (some .int)) (by decide +kernel) rfl ?_
  intro p e s m args below meth c s₁ B hml hv
  obtain ⟨rfl, hb0, hM, hK, hG, hE⟩ := hv
  have hx := B.exec
  have hb := B.bytes
  have hr := B.returns
  have hts := atoms_spec (ws := wsX6_lightBits) B.pre
  have hown : s.vm.findClass RX6 = some m.cls := findClass_of_methodNamed B.named
  have hlocks := B.notSynchronized
  have hT := hE.1
  have hN := hE.2.2.2.2.2.2.2.1
  have hS : va_S (fun q => b ≤ q) s.heap s.heap [] := va_S.rf
  have hl := lv_entry ([.ref o, .int site, .int x, .int y]) (n := 10) (Nat.le_of_ble_eq_true rfl)
  rw [lg_entry_eq]
  generalize (lg_sl ([.ref o, .int site, .int x, .int y]) ++ List.replicate (10 - (lg_sl ([.ref o, .int site, .int x, .int y])).length) Slot.unset).toArray = ls at hl ⊢
  have hl : lv_has ls 10 [(0, .ref o), (1, .int site), (2, .int x), (3, .int y)] := hl
  generalize ([.ref o, .int site, .int x, .int y] : List Value).toArray = args at hts ⊢
  refine W.q (fun Q hQ => ?_)
  refine lv_aload_n hx hb dX6_lightBits_0 rfl (lv_at hl 0 rfl) ?_
  refine lv_iload_n hx hb dX6_lightBits_1 rfl (lv_at hl 1 rfl) ?_
  refine lv_iload_n hx hb dX6_lightBits_2 rfl (lv_at hl 2 rfl) ?_
  refine lv_iload_n hx hb dX6_lightBits_3 rfl (lv_at hl 3 rfl) ?_
  obtain ⟨u1, u2, hP, hf⟩ := o_mo (i := 0) (q := o) hM (by omega)
  refine va_calli (va_runV (As := [.int site, .int x, .int y]) (rest := []) ⟨hx, hb, hml, hown, hts⟩ (rm_isNoPlace l dC dI kA eD b g o site x y (by omega)) (cwV 3 hts gX6_lightBits_X6_isNoPlace rfl rfl rfl (by decide +kernel) ⟨Nat.le_of_ble_eq_true rfl, Nat.le_of_ble_eq_true rfl⟩) ⟨fb_CX, va_recv hK hP (ci := 10) (q0 := 0) rfl rfl, fun U hU hW => ⟨rfl, CX.give hb0 hM hK hG hE hS hU hW⟩⟩ rfl rfl hl.1 rfl (lv_room (Nat.le_of_ble_eq_true rfl)) dX6_lightBits_4 ⟨(Nat.le_of_ble_eq_true rfl), (Nat.le_of_ble_eq_true rfl)⟩) hS (fun q _ h => h) (fun q h => h) (fun r3 g5 t H locs ht hvm hw4 hB hz1 hk1 hS => ?_)
  have hM := hB.back ht
  have hG := hB.2.2.2.1
  have hx6 : Ext o X0 g g5 := hw4.1
  have ht7 : tg g5 o = 17 := hx6.tk hto (by omega)
  have hth8 := hw4.2.1
  refine lv_if_eq (tgt := 12) hx hb dX6_lightBits_7 (by decide) (fun c9 => ?_) (fun c9 => ?_)
  · skip
    have hv10 := vr0 (vr01 hw4.2.2) c9
    have hfm := (mo_list hM ht7).1
    have hls := (mo_list hM ht7).2
    obtain ⟨j, hj, rfl⟩ := toN (p := site) (k := 2) (by omega) (by omega) (by decide)
    have hl : lv_has ls 10 [(0, .ref o), (1, .int (nI j)), (2, .int x), (3, .int y)] := hl
    have ej : (nI j).toInt = (j : Int) := nI_toInt (by omega)
    obtain ⟨jx, hjx, rfl⟩ := toN (p := x) (k := 7) (by omega) (by omega) (by decide)
    have hl : lv_has ls 10 [(0, .ref o), (1, .int (nI j)), (2, .int (nI jx)), (3, .int y)] := hl
    have ejx : (nI jx).toInt = (jx : Int) := nI_toInt (by omega)
    obtain ⟨jy, hjy, rfl⟩ := toN (p := y) (k := 5) (by omega) (by omega) (by decide)
    have hl : lv_has ls 10 [(0, .ref o), (1, .int (nI j)), (2, .int (nI jx)), (3, .int (nI jy))] := hl
    have ejy : (nI jy).toInt = (jy : Int) := nI_toInt (by omega)
    have hjs : (j : Int) < (pI g5 (pF g5 o 5) 0).toInt := by omega
    refine lv_aload_n hx hb dX6_lightBits_12 rfl (lv_at hl 0 rfl) ?_
    obtain ⟨u11, u12, hP, hf⟩ := o_mo (i := 0) (q := o) hM (by omega)
    refine va_get (D := (dC, dI)) (ci := 10) (v := .ref (pF g5 o 5)) (C := RX6) (T := TX6) (N := 11) hx hb hts (by decide +kernel) hown hK hP 0 rfl rfl 10 (by decide) (hts (.fieldLink RX6 34 "SnowpalaceModel" "sites" "Ljava/util/List;") (by decide +kernel)) (fun _ h9 => h9) rfl dX6_lightBits_13 ?_
    refine lv_iload_n hx hb dX6_lightBits_16 rfl (lv_at hl 1 rfl) ?_
    obtain ⟨hP, hf⟩ := o_al (i := 0) (q := (pF g5 o 5)) hM (by omega)
    refine va_callFr (va_runF (hK.1 3 _ rfl).2 (As := [.int (nI j)]) (rest := []) ⟨hx, hb, hml, hown, hts⟩ (rj_get l dC dI kA eD b g5 (pF g5 o 5) j (by omega) hjs) (va_cwF 1 hts gX6_lightBits_Jx4a65c_get_915e3_f149Jx4a65c rfl rfl rfl hE.2.2.2.2.1 (by decide +kernel) ⟨Nat.le_of_ble_eq_true rfl, Nat.le_of_ble_eq_true rfl⟩) ⟨fb_CX, va_recv hK hP (ci := 3) (q0 := 0) rfl rfl, fun U hU hW => ⟨rfl, CX.give hb0 hM hK hG hE hS hU hW⟩⟩ rfl rfl hl.1 rfl (lv_room (Nat.le_of_ble_eq_true rfl)) dX6_lightBits_17 ⟨(Nat.le_of_ble_eq_true rfl), (Nat.le_of_ble_eq_true rfl)⟩) hS (fun q _ h => h) (fun q h => h) (fun u r13 t H locs ht hvm hw14 hB hz1 hk1 hS => ?_)
    have hM := hB.1.back ht
    have hG := hB.1.2.2.2.1
    have ht15 : tg g5 r13 = 28 + 64 * j := hB.2.1
    have hg16 : pO g5 (pF g5 (pF g5 o 5) 0) j = some r13 := hB.2.2
    obtain ⟨u17, u18, u19, u20, u21, u22, hP, hf⟩ := o_ms (i := j) (q := r13) hM (by omega)
    refine va_castY hx hb hown (hts (.classLink RX6 125 "SnowpalaceModel$Site") (by decide +kernel)) hE.2.2.2.2.2.2.1 (va_recv hK hP (ci := 9) (q0 := 0) rfl rfl) dX6_lightBits_22 ?_
    refine lv_astore (lv' := [(4, .ref r13), (0, .ref o), (1, .int (nI j)), (2, .int (nI jx)), (3, .int (nI jy))]) hx hb dX6_lightBits_25 hl (by decide) rfl (fun ls hl => ?_)
    refine lv_fconst0 hx hb dX6_lightBits_27 ?_
    refine lv_fstore (lv' := [(5, .float FP.fconst0), (4, .ref r13), (0, .ref o), (1, .int (nI j)), (2, .int (nI jx)), (3, .int (nI jy))]) hx hb dX6_lightBits_28 hl (by decide) rfl (fun ls hl => ?_)
    refine lv_iconst (v := 0) hx hb dX6_lightBits_30 (by decide) ?_
    refine lv_istore (lv' := [(6, .int 0), (5, .float FP.fconst0), (4, .ref r13), (0, .ref o), (1, .int (nI j)), (2, .int (nI jx)), (3, .int (nI jy))]) hx hb dX6_lightBits_31 hl (by decide) rfl (fun ls hl => ?_)
    have lp25 : ∀ (n26 j23 : Nat) (x24 : UInt32), 0 ≤ j23 → j23 ≤ 8 → 8 < j23 + n26 → ∀ (H : Heap) (locs : List Loc) (ls : Array Slot), FM (147 + 2 * j23) x24 → TM (dC, dI) kA b g5 H → va_S (fun q => b ≤ q) s.heap H locs → lv_has ls 10 [(6, .int (nI j23)), (5, .float x24), (4, .ref r13), (0, .ref o), (1, .int (nI j)), (2, .int (nI jx)), (3, .int (nI jy))] → W p l e (headSpec wsX6_lightBits ({ frames := 3, cells := 0, slots := 0, locals := 64 })).room s m args below meth c H locs 0 0 Q (F0 m 33 ls []) := by
      intro n26
      induction n26 with
      | zero => intro j23 x24 h0 h1 h2; omega
      | succ n26 ih27 =>
        intro j23 x24 lj23 hj23 hn26 H locs ls hf28 hM hS hl
        refine lv_iload hx hb dX6_lightBits_33 (lv_at hl 0 rfl) ?_
        refine lv_bipush (v := 8) hx hb dX6_lightBits_35 (by decide) ?_
        refine lv_icmp_ge (tgt := 155) hx hb dX6_lightBits_37 (by decide) (fun c29 => ?_) (fun c29 => ?_)
        · skip
          have k30 : 8 ≤ j23 := (nI_leI (a := 8) (b := j23) (by omega) (by omega)).mp c29
          refine lv_fload hx hb dX6_lightBits_155 (lv_at hl 1 rfl) ?_
          refine va_calli (va_runS (As := [.float x24]) (rest := []) ⟨hx, hb, hml, hown, hts⟩ (rj_f2i l x24 ((hf28).nn (by omega))) (va_cwS 1 hts gX6_lightBits_Jxf58ca_floatToIntBits_5c35a rfl rfl rfl (by decide +kernel) ⟨Nat.le_of_ble_eq_true rfl, Nat.le_of_ble_eq_true rfl⟩) ⟨fun a U g mk q => q, fun U hU hW => ⟨rfl, trivial⟩⟩ rfl rfl hl.1 rfl (lv_room (Nat.le_of_ble_eq_true rfl)) dX6_lightBits_157 ⟨(Nat.le_of_ble_eq_true rfl), (Nat.le_of_ble_eq_true rfl)⟩) hS (fun q _ h => h.elim) (fun q h => h.elim) (fun r31 u t H locs ht hvm hw32 hB hz1 hk1 hS => ?_)
          have hM := hM.keep (fun p hp => hk1 p hp (fun z => z))
          subst hQ
          refine W.widen (k := 0) (n := 0) (Nat.le_of_ble_eq_true rfl) (Nat.le_of_ble_eq_true rfl) ?_
          exact W.iret (v := r31) hx hb hr (fun t ht hW => ⟨⟨r31, g5, rfl, hx6, CX.give hb0 hM hK hG hE hS ht hW⟩, hS.F ht⟩) hS.2.2 dX6_lightBits_160
        · skip
          have k33 : ¬ (8 ≤ j23) := fun z => c29 ((nI_leI (a := 8) (b := j23) (by omega) (by omega)).mpr z)
          refine lv_aload hx hb dX6_lightBits_40 (lv_at hl 2 rfl) ?_
          refine lv_iload hx hb dX6_lightBits_42 (lv_at hl 0 rfl) ?_
          refine lv_iload_n hx hb dX6_lightBits_44 rfl (lv_at hl 6 rfl) ?_
          obtain ⟨u34, u35, u36, u37, u38, u39, hP, hf⟩ := o_ms (i := j) (q := r13) hM (by omega)
          refine va_calli (va_runV (As := [.int (nI j23), .int (nI jy)]) (rest := []) ⟨hx, hb, hml, hown, hts⟩ (rm_has l dC dI kA eD b g5 r13 j (nI j23) (nI jy) (by omega)) (cwV 2 hts gX6_lightBits_X5_has rfl rfl rfl (by decide +kernel) ⟨Nat.le_of_ble_eq_true rfl, Nat.le_of_ble_eq_true rfl⟩) ⟨fb_CX, va_recv hK hP (ci := 9) (q0 := 0) rfl rfl, fun U hU hW => ⟨rfl, CX.give hb0 hM hK hG hE hS hU hW⟩⟩ rfl rfl hl.1 rfl (lv_room (Nat.le_of_ble_eq_true rfl)) dX6_lightBits_45 ⟨(Nat.le_of_ble_eq_true rfl), (Nat.le_of_ble_eq_true rfl)⟩) hS (fun q _ h => h) (fun q h => h) (fun r40 u t H locs ht hvm hw41 hB hz1 hk1 hS => ?_)
          have hM := hB.back ht
          have hG := hB.2.2.2.1
          refine lv_if_eq (tgt := 149) hx hb dX6_lightBits_48 (by decide) (fun c42 => ?_) (fun c42 => ?_)
          · skip
            refine lv_iinc (v := (nI (j23 + 1))) (lv' := [(6, .int (nI (j23 + 1))), (5, .float x24), (4, .ref r13), (0, .ref o), (1, .int (nI j)), (2, .int (nI jx)), (3, .int (nI jy))]) hx hb dX6_lightBits_149 hl (k := 0) rfl (nI_add j23 1) (by decide) rfl (fun ls hl => ?_)
            refine lv_goto (tgt := 33) hx hb dX6_lightBits_152 (by decide) ?_
            exact ih27 ((j23 + 1)) x24 (by omega) (by omega) (by omega) H _ ls ((hf28).mono (by omega)) hM hS (lv_sub hl [0, 1, 2, 3, 4, 5, 6] rfl)
          · skip
            obtain ⟨-, jx43, jy44, cl45, hp46, hp47, hj48, hj49, hc50⟩ := hw41.resolve_left c42
            have ej51 : jx43 = j23 := ((nI_eq (a := j23) (b := jx43) (by omega) (by omega)).mp hp46).symm
            rw [ej51] at hc50
            have ej52 : jy44 = jy := ((nI_eq (a := jy) (b := jy44) (by omega) (by omega)).mp hp47).symm
            rw [ej52] at hc50
            refine lv_aload hx hb dX6_lightBits_51 (lv_at hl 2 rfl) ?_
            obtain ⟨u53, u54, u55, u56, u57, u58, hP, hf⟩ := o_ms (i := j) (q := r13) hM (by omega)
            refine va_getN (D := (dC, dI)) (ci := 9) (v := .ref (pF g5 r13 0)) (C := RX5) (T := TX5) (N := 10) hx hb hts (by decide +kernel) hown hK hP 0 rfl rfl 0 (by decide) (hN (.fieldLinkNest RX6 160 "SnowpalaceModel$Site" "cells" "[[LSnowpalaceModel$Cell;" RX6) (by decide +kernel)) (fun _ h9 => h9) rfl dX6_lightBits_53 ?_
            have ht59 : tg g5 (pF g5 r13 0) = 29 + 64 * j := hf.1
            refine lv_iload_n hx hb dX6_lightBits_56 rfl (lv_at hl 6 rfl) ?_
            obtain ⟨hP, hf⟩ := o_co (i := j) (q := (pF g5 r13 0)) hM (by omega)
            have ec : ((nI jy) : Int32).toNatClampNeg = jy := nI_clamp (by omega)
            refine rt_aldA (D := (dC, dI)) (t0 := 9) hx hb hK hP rfl (vp_in_nI (by omega) (by decide)) (y := (pF g5 (pF g5 r13 0) jy)) ((congrArg (fun z => if z < 6 then some (pF g5 (pF g5 r13 0) z) else none) ec).trans (if_pos (by omega))) dX6_lightBits_57 ?_
            have ht60 : tg g5 (pF g5 (pF g5 r13 0) jy) = 30 + 64 * (8 * j + jy) := (hf jy (by omega))
            refine lv_iload hx hb dX6_lightBits_58 (lv_at hl 0 rfl) ?_
            obtain ⟨hP, hf⟩ := o_cr (i := (8 * j + jy)) (q := (pF g5 (pF g5 r13 0) jy)) hM (by omega)
            refine va_aldq (D := (dC, dI)) hx hb hK hP 0 8 rfl rfl (vp_in_nI (by omega) (by decide)) dX6_lightBits_60 ?_
            have ec : ((nI j23) : Int32).toNatClampNeg = j23 := nI_clamp (by omega)
            rw [ec]
            have hq61 := hf j23 (by omega)
            rw [hc50]
            have ht62 : tg g5 cl45 = 31 := hq61 cl45 hc50
            obtain ⟨u63, u64, u65, u66, u67, hP, hf⟩ := o_ce (i := 0) (q := cl45) hM (by omega)
            refine va_getN (D := (dC, dI)) (ci := 8) (v := .int u67) (C := RX4) (T := TX4) (N := 5) hx hb hts (by decide +kernel) hown hK hP 0 rfl rfl 4 (by decide) (hN (.fieldLinkNest RX6 214 "SnowpalaceModel$Cell" "hasLamp" "Z" RX6) (by decide +kernel)) (fun _ h9 => h9) rfl dX6_lightBits_61 ?_
            have hb68 := hf.2
            refine lv_if_ne (tgt := 70) hx hb dX6_lightBits_64 (by decide) (fun c69 => ?_) (fun c69 => ?_)
            · skip
              refine lv_fconst1 hx hb dX6_lightBits_70 ?_
              refine lv_fstore (lv' := [(7, .float FP.fconst1), (6, .int (nI j23)), (5, .float x24), (4, .ref r13), (0, .ref o), (1, .int (nI j)), (2, .int (nI jx)), (3, .int (nI jy))]) hx hb dX6_lightBits_71 hl (by decide) rfl (fun ls hl => ?_)
              refine lv_iload hx hb dX6_lightBits_73 (lv_at hl 1 rfl) ?_
              refine lv_iload_n hx hb dX6_lightBits_75 rfl (lv_at hl 6 rfl) ?_
              refine lv_icmp_gt (tgt := 83) hx hb dX6_lightBits_76 (by decide) (fun c70 => ?_) (fun c70 => ?_)
              · skip
                have k71 : jx < j23 := (nI_ltI (a := jx) (b := j23) (by omega) (by omega)).mp c70
                refine lv_iconst (v := (-1)) hx hb dX6_lightBits_83 (by decide) ?_
                refine lv_istore (lv' := [(8, .int (-1)), (7, .float FP.fconst1), (6, .int (nI j23)), (5, .float x24), (4, .ref r13), (0, .ref o), (1, .int (nI j)), (2, .int (nI jx)), (3, .int (nI jy))]) hx hb dX6_lightBits_84 hl (by decide) rfl (fun ls hl => ?_)
                refine lv_iload hx hb dX6_lightBits_86 (lv_at hl 2 rfl) ?_
                refine lv_istore (lv' := [(9, .int (nI j23)), (8, .int (-1)), (7, .float FP.fconst1), (6, .int (nI j23)), (5, .float x24), (4, .ref r13), (0, .ref o), (1, .int (nI j)), (2, .int (nI jx)), (3, .int (nI jy))]) hx hb dX6_lightBits_88 hl (by decide) rfl (fun ls hl => ?_)
                have lp75 : ∀ (n72 t78 m73 : Nat) (x74 : UInt32), jx ≤ m73 → m73 ≤ 8 → m73 < jx + n72 → t78 + n72 ≤ 9 → FM (128 + 2 * t78) x74 → ∀ (H : Heap) (locs : List Loc) (ls : Array Slot), TM (dC, dI) kA b g5 H → va_S (fun q => b ≤ q) s.heap H locs → lv_has ls 10 [(9, .int (nI m73 - 1)), (8, .int (-1)), (7, .float x74), (6, .int (nI j23)), (5, .float x24), (4, .ref r13), (0, .ref o), (1, .int (nI j)), (2, .int (nI jx)), (3, .int (nI jy))] → W p l e (headSpec wsX6_lightBits ({ frames := 3, cells := 0, slots := 0, locals := 64 })).room s m args below meth c H locs 0 0 Q (F0 m 90 ls []) := by
                  intro n72
                  induction n72 with
                  | zero => intro t78 m73 x74 h1 h2 h3; omega
                  | succ n72 ih76 =>
                    intro t78 m73 x74 hm1 hm2 hm3 hcn hf77 H locs ls hM hS hl
                    refine lv_iload hx hb dX6_lightBits_90 (lv_at hl 0 rfl) ?_
                    refine lv_iload_n hx hb dX6_lightBits_92 rfl (lv_at hl 8 rfl) ?_
                    refine lv_iload hx hb dX6_lightBits_93 (lv_at hl 1 rfl) ?_
                    refine lv_iadd hx hb dX6_lightBits_95 ?_
                    refine lv_icmp_eq (tgt := 142) hx hb dX6_lightBits_96 (by decide) (fun c80 => ?_) (fun c80 => ?_)
                    · skip
                      refine lv_fload hx hb dX6_lightBits_142 (lv_at hl 4 rfl) ?_
                      refine lv_fload hx hb dX6_lightBits_144 (lv_at hl 2 rfl) ?_
                      have hfm81 : FM (147 + 2 * (j23 + 1)) (FP.fadd x24 x74) := (((hf28).add ((hf77).mono (by omega)) (by omega)).mono (by omega))
                      refine lv_fadd hx hb dX6_lightBits_146 (nn32 (hfm81.nn (by omega))) ?_
                      refine lv_fstore (lv' := [(5, .float (FP.fadd x24 x74)), (9, .int (nI m73 - 1)), (8, .int (-1)), (7, .float x74), (6, .int (nI j23)), (4, .ref r13), (0, .ref o), (1, .int (nI j)), (2, .int (nI jx)), (3, .int (nI jy))]) hx hb dX6_lightBits_147 hl (by decide) rfl (fun ls hl => ?_)
                      refine lv_iinc (v := (nI (j23 + 1))) (lv' := [(6, .int (nI (j23 + 1))), (5, .float (FP.fadd x24 x74)), (9, .int (nI m73 - 1)), (8, .int (-1)), (7, .float x74), (4, .ref r13), (0, .ref o), (1, .int (nI j)), (2, .int (nI jx)), (3, .int (nI jy))]) hx hb dX6_lightBits_149 hl (k := 4) rfl (nI_add j23 1) (by decide) rfl (fun ls hl => ?_)
                      refine lv_goto (tgt := 33) hx hb dX6_lightBits_152 (by decide) ?_
                      exact ih27 ((j23 + 1)) (FP.fadd x24 x74) (by omega) (by omega) (by omega) H _ ls hfm81 hM hS (lv_sub hl [0, 1, 5, 6, 7, 8, 9] rfl)
                    · skip
                      have hne : m73 ≠ jx := fun z9 => c80 (by rw [z9]; exact (i_dec9 _))
                      obtain ⟨m79, hm9⟩ : ∃ z, m73 = z + 1 := ⟨m73 - 1, by omega⟩
                      subst hm9
                      rw [nI_pred m79] at hl
                      have hl : lv_has ls 10 [(9, .int (nI m79)), (8, .int (-1)), (7, .float x74), (6, .int (nI j23)), (5, .float x24), (4, .ref r13), (0, .ref o), (1, .int (nI j)), (2, .int (nI jx)), (3, .int (nI jy))] := hl
                      refine lv_fload hx hb dX6_lightBits_99 (lv_at hl 2 rfl) ?_
                      refine lv_aload hx hb dX6_lightBits_101 (lv_at hl 5 rfl) ?_
                      refine lv_iload hx hb dX6_lightBits_103 (lv_at hl 0 rfl) ?_
                      refine lv_iload_n hx hb dX6_lightBits_105 rfl (lv_at hl 9 rfl) ?_
                      obtain ⟨u82, u83, u84, u85, u86, u87, hP, hf⟩ := o_ms (i := j) (q := r13) hM (by omega)
                      refine va_calli (va_runV (As := [.int (nI m79), .int (nI jy)]) (rest := [.float x74]) ⟨hx, hb, hml, hown, hts⟩ (rm_has l dC dI kA eD b g5 r13 j (nI m79) (nI jy) (by omega)) (cwV 2 hts gX6_lightBits_X5_has rfl rfl rfl (by decide +kernel) ⟨Nat.le_of_ble_eq_true rfl, Nat.le_of_ble_eq_true rfl⟩) ⟨fb_CX, va_recv hK hP (ci := 9) (q0 := 0) rfl rfl, fun U hU hW => ⟨rfl, CX.give hb0 hM hK hG hE hS hU hW⟩⟩ rfl rfl hl.1 rfl (lv_room (Nat.le_of_ble_eq_true rfl)) dX6_lightBits_106 ⟨(Nat.le_of_ble_eq_true rfl), (Nat.le_of_ble_eq_true rfl)⟩) hS (fun q _ h => h) (fun q h => h) (fun r88 u t H locs ht hvm hw89 hB hz1 hk1 hS => ?_)
                      have hM := hB.back ht
                      have hG := hB.2.2.2.1
                      refine lv_if_eq (tgt := 128) hx hb dX6_lightBits_109 (by decide) (fun c90 => ?_) (fun c90 => ?_)
                      · skip
                        refine lv_fconst1 hx hb dX6_lightBits_128 ?_
                        have hfm91 : FM (128 + 2 * (t78 + 1)) (FP.fmul x74 FP.fconst1) := ((hf77).mul1 (by omega)).mono (by omega)
                        refine lv_fmul hx hb dX6_lightBits_129 (nn32 (hfm91.nn (by omega))) ?_
                        refine lv_fstore (lv' := [(7, .float (FP.fmul x74 FP.fconst1)), (9, .int (nI m79)), (8, .int (-1)), (6, .int (nI j23)), (5, .float x24), (4, .ref r13), (0, .ref o), (1, .int (nI j)), (2, .int (nI jx)), (3, .int (nI jy))]) hx hb dX6_lightBits_130 hl (by decide) rfl (fun ls hl => ?_)
                        refine lv_iload hx hb dX6_lightBits_132 (lv_at hl 1 rfl) ?_
                        refine lv_iload hx hb dX6_lightBits_134 (lv_at hl 2 rfl) ?_
                        refine lv_iadd hx hb dX6_lightBits_136 ?_
                        rw [show (nI m79) + (-1) = (nI m79) - 1 from i_dec8 _]
                        refine lv_istore (lv' := [(9, .int ((nI m79) - 1)), (7, .float (FP.fmul x74 FP.fconst1)), (8, .int (-1)), (6, .int (nI j23)), (5, .float x24), (4, .ref r13), (0, .ref o), (1, .int (nI j)), (2, .int (nI jx)), (3, .int (nI jy))]) hx hb dX6_lightBits_137 hl (by decide) rfl (fun ls hl => ?_)
                        refine lv_goto (tgt := 90) hx hb dX6_lightBits_139 (by decide) ?_
                        exact ih76 (t78 + 1) (m79) (FP.fmul x74 FP.fconst1) (by omega) (by omega) (by omega) (by omega) hfm91 H _ ls hM hS (lv_sub hl [0, 2, 1, 3, 4, 5, 6, 7, 8, 9] rfl)
                      · skip
                        obtain ⟨-, jx92, jy93, cl94, hp95, hp96, hj97, hj98, hc99⟩ := hw89.resolve_left c90
                        have ej100 : jx92 = m79 := ((nI_eq (a := m79) (b := jx92) (by omega) (by omega)).mp hp95).symm
                        rw [ej100] at hc99
                        have ej101 : jy93 = jy := ((nI_eq (a := jy) (b := jy93) (by omega) (by omega)).mp hp96).symm
                        rw [ej101] at hc99
                        refine lv_aload hx hb dX6_lightBits_112 (lv_at hl 5 rfl) ?_
                        obtain ⟨u102, u103, u104, u105, u106, u107, hP, hf⟩ := o_ms (i := j) (q := r13) hM (by omega)
                        refine va_getN (D := (dC, dI)) (ci := 9) (v := .ref (pF g5 r13 0)) (C := RX5) (T := TX5) (N := 10) hx hb hts (by decide +kernel) hown hK hP 0 rfl rfl 0 (by decide) (hN (.fieldLinkNest RX6 160 "SnowpalaceModel$Site" "cells" "[[LSnowpalaceModel$Cell;" RX6) (by decide +kernel)) (fun _ h9 => h9) rfl dX6_lightBits_114 ?_
                        refine lv_iload_n hx hb dX6_lightBits_117 rfl (lv_at hl 9 rfl) ?_
                        obtain ⟨hP, hf⟩ := o_co (i := j) (q := (pF g5 r13 0)) hM (by omega)
                        have ec : ((nI jy) : Int32).toNatClampNeg = jy := nI_clamp (by omega)
                        refine rt_aldA (D := (dC, dI)) (t0 := 9) hx hb hK hP rfl (vp_in_nI (by omega) (by decide)) (y := (pF g5 (pF g5 r13 0) jy)) ((congrArg (fun z => if z < 6 then some (pF g5 (pF g5 r13 0) z) else none) ec).trans (if_pos (by omega))) dX6_lightBits_118 ?_
                        have ht108 : tg g5 (pF g5 (pF g5 r13 0) jy) = 30 + 64 * (8 * j + jy) := (hf jy (by omega))
                        refine lv_iload hx hb dX6_lightBits_119 (lv_at hl 0 rfl) ?_
                        obtain ⟨hP, hf⟩ := o_cr (i := (8 * j + jy)) (q := (pF g5 (pF g5 r13 0) jy)) hM (by omega)
                        refine va_aldq (D := (dC, dI)) hx hb hK hP 0 8 rfl rfl (vp_in_nI (by omega) (by decide)) dX6_lightBits_121 ?_
                        have ec : ((nI m79) : Int32).toNatClampNeg = m79 := nI_clamp (by omega)
                        rw [ec]
                        have hq109 := hf m79 (by omega)
                        rw [hc99]
                        have ht110 : tg g5 cl94 = 31 := hq109 cl94 hc99
                        obtain ⟨u111, u112, u113, u114, u115, hP, hf⟩ := o_ce (i := 0) (q := cl94) hM (by omega)
                        refine va_callf (va_runV (As := []) (rest := [.float x74]) ⟨hx, hb, hml, hown, hts⟩ (rm_lets l dC dI kA eD b g5 cl94 (by omega)) (cwV 0 hts gX6_lightBits_X4_lets rfl rfl rfl (by decide +kernel) ⟨Nat.le_of_ble_eq_true rfl, Nat.le_of_ble_eq_true rfl⟩) ⟨fb_CX, va_recv hK hP (ci := 8) (q0 := 0) rfl rfl, fun U hU hW => ⟨rfl, CX.give hb0 hM hK hG hE hS hU hW⟩⟩ rfl rfl hl.1 rfl (lv_room (Nat.le_of_ble_eq_true rfl)) dX6_lightBits_122 ⟨(Nat.le_of_ble_eq_true rfl), (Nat.le_of_ble_eq_true rfl)⟩) hS (fun q _ h => h) (fun q h => h) (fun r116 u t H locs ht hvm hw117 hB hz1 hk1 hS => ?_)
                        have hM := hB.back ht
                        have hG := hB.2.2.2.1
                        refine lv_goto (tgt := 129) hx hb dX6_lightBits_125 (by decide) ?_
                        have hfm118 : FM (128 + 2 * (t78 + 1)) (FP.fmul x74 r116) := ((hf77).mul hw117 (by omega)).mono (by omega)
                        refine lv_fmul hx hb dX6_lightBits_129 (nn32 (hfm118.nn (by omega))) ?_
                        refine lv_fstore (lv' := [(7, .float (FP.fmul x74 r116)), (9, .int (nI m79)), (8, .int (-1)), (6, .int (nI j23)), (5, .float x24), (4, .ref r13), (0, .ref o), (1, .int (nI j)), (2, .int (nI jx)), (3, .int (nI jy))]) hx hb dX6_lightBits_130 hl (by decide) rfl (fun ls hl => ?_)
                        refine lv_iload hx hb dX6_lightBits_132 (lv_at hl 1 rfl) ?_
                        refine lv_iload hx hb dX6_lightBits_134 (lv_at hl 2 rfl) ?_
                        refine lv_iadd hx hb dX6_lightBits_136 ?_
                        rw [show (nI m79) + (-1) = (nI m79) - 1 from i_dec8 _]
                        refine lv_istore (lv' := [(9, .int ((nI m79) - 1)), (7, .float (FP.fmul x74 r116)), (8, .int (-1)), (6, .int (nI j23)), (5, .float x24), (4, .ref r13), (0, .ref o), (1, .int (nI j)), (2, .int (nI jx)), (3, .int (nI jy))]) hx hb dX6_lightBits_137 hl (by decide) rfl (fun ls hl => ?_)
                        refine lv_goto (tgt := 90) hx hb dX6_lightBits_139 (by decide) ?_
                        exact ih76 (t78 + 1) (m79) (FP.fmul x74 r116) (by omega) (by omega) (by omega) (by omega) hfm118 H _ ls hM hS (lv_sub hl [0, 2, 1, 3, 4, 5, 6, 7, 8, 9] rfl)
                have hl : lv_has ls 10 [(9, .int (nI (j23 + 1) - 1)), (8, .int (-1)), (7, .float FP.fconst1), (6, .int (nI j23)), (5, .float x24), (4, .ref r13), (0, .ref o), (1, .int (nI j)), (2, .int (nI jx)), (3, .int (nI jy))] := by have h9 := hl; rw [show (nI (j23 + 1) - 1 : Int32) = nI j23 from nI_pred j23]; exact h9
                exact lp75 9 0 (j23 + 1) FP.fconst1 (by omega) (by omega) (by omega) (by omega) (show _ % 2147483648 < (128 + 2 * 0) * 8388608 by decide +kernel) H _ ls hM hS (lv_sub hl [0, 1, 2, 3, 4, 5, 6, 7, 8, 9] rfl)
              · skip
                have k119 : ¬ (jx < j23) := fun z => c70 ((nI_ltI (a := jx) (b := j23) (by omega) (by omega)).mpr z)
                refine lv_iconst (v := 1) hx hb dX6_lightBits_79 (by decide) ?_
                refine lv_goto (tgt := 84) hx hb dX6_lightBits_80 (by decide) ?_
                refine lv_istore (lv' := [(8, .int 1), (7, .float FP.fconst1), (6, .int (nI j23)), (5, .float x24), (4, .ref r13), (0, .ref o), (1, .int (nI j)), (2, .int (nI jx)), (3, .int (nI jy))]) hx hb dX6_lightBits_84 hl (by decide) rfl (fun ls hl => ?_)
                refine lv_iload hx hb dX6_lightBits_86 (lv_at hl 2 rfl) ?_
                refine lv_istore (lv' := [(9, .int (nI j23)), (8, .int 1), (7, .float FP.fconst1), (6, .int (nI j23)), (5, .float x24), (4, .ref r13), (0, .ref o), (1, .int (nI j)), (2, .int (nI jx)), (3, .int (nI jy))]) hx hb dX6_lightBits_88 hl (by decide) rfl (fun ls hl => ?_)
                have lp123 : ∀ (n120 t126 m121 : Nat) (x122 : UInt32), m121 ≤ jx + 1 → m121 ≤ 8 → jx + 1 < m121 + n120 → t126 + n120 ≤ 9 → FM (128 + 2 * t126) x122 → ∀ (H : Heap) (locs : List Loc) (ls : Array Slot), TM (dC, dI) kA b g5 H → va_S (fun q => b ≤ q) s.heap H locs → lv_has ls 10 [(9, .int (nI m121)), (8, .int 1), (7, .float x122), (6, .int (nI j23)), (5, .float x24), (4, .ref r13), (0, .ref o), (1, .int (nI j)), (2, .int (nI jx)), (3, .int (nI jy))] → W p l e (headSpec wsX6_lightBits ({ frames := 3, cells := 0, slots := 0, locals := 64 })).room s m args below meth c H locs 0 0 Q (F0 m 90 ls []) := by
                  intro n120
                  induction n120 with
                  | zero => intro t126 m121 x122 h1 h2 h3; omega
                  | succ n120 ih124 =>
                    intro t126 m121 x122 hm1 hm2 hm3 hcn hf125 H locs ls hM hS hl
                    refine lv_iload hx hb dX6_lightBits_90 (lv_at hl 0 rfl) ?_
                    refine lv_iload_n hx hb dX6_lightBits_92 rfl (lv_at hl 8 rfl) ?_
                    refine lv_iload hx hb dX6_lightBits_93 (lv_at hl 1 rfl) ?_
                    refine lv_iadd hx hb dX6_lightBits_95 ?_
                    refine lv_topi (fun v127 e128 => ?_)
                    obtain rfl : v127 = nI (jx + 1) := e128.trans (nI_add jx 1)
                    refine lv_icmp_eq (tgt := 142) hx hb dX6_lightBits_96 (by decide) (fun c129 => ?_) (fun c129 => ?_)
                    · skip
                      have k130 : m121 = (jx + 1) := (nI_eq (a := m121) (b := (jx + 1)) (by omega) (by omega)).mp c129
                      refine lv_fload hx hb dX6_lightBits_142 (lv_at hl 4 rfl) ?_
                      refine lv_fload hx hb dX6_lightBits_144 (lv_at hl 2 rfl) ?_
                      have hfm131 : FM (147 + 2 * (j23 + 1)) (FP.fadd x24 x122) := (((hf28).add ((hf125).mono (by omega)) (by omega)).mono (by omega))
                      refine lv_fadd hx hb dX6_lightBits_146 (nn32 (hfm131.nn (by omega))) ?_
                      refine lv_fstore (lv' := [(5, .float (FP.fadd x24 x122)), (9, .int (nI m121)), (8, .int 1), (7, .float x122), (6, .int (nI j23)), (4, .ref r13), (0, .ref o), (1, .int (nI j)), (2, .int (nI jx)), (3, .int (nI jy))]) hx hb dX6_lightBits_147 hl (by decide) rfl (fun ls hl => ?_)
                      refine lv_iinc (v := (nI (j23 + 1))) (lv' := [(6, .int (nI (j23 + 1))), (5, .float (FP.fadd x24 x122)), (9, .int (nI m121)), (8, .int 1), (7, .float x122), (4, .ref r13), (0, .ref o), (1, .int (nI j)), (2, .int (nI jx)), (3, .int (nI jy))]) hx hb dX6_lightBits_149 hl (k := 4) rfl (nI_add j23 1) (by decide) rfl (fun ls hl => ?_)
                      refine lv_goto (tgt := 33) hx hb dX6_lightBits_152 (by decide) ?_
                      exact ih27 ((j23 + 1)) (FP.fadd x24 x122) (by omega) (by omega) (by omega) H _ ls hfm131 hM hS (lv_sub hl [0, 1, 5, 6, 7, 8, 9] rfl)
                    · skip
                      have k132 : ¬ (m121 = (jx + 1)) := fun z => c129 ((nI_eq (a := m121) (b := (jx + 1)) (by omega) (by omega)).mpr z)
                      refine lv_fload hx hb dX6_lightBits_99 (lv_at hl 2 rfl) ?_
                      refine lv_aload hx hb dX6_lightBits_101 (lv_at hl 5 rfl) ?_
                      refine lv_iload hx hb dX6_lightBits_103 (lv_at hl 0 rfl) ?_
                      refine lv_iload_n hx hb dX6_lightBits_105 rfl (lv_at hl 9 rfl) ?_
                      obtain ⟨u133, u134, u135, u136, u137, u138, hP, hf⟩ := o_ms (i := j) (q := r13) hM (by omega)
                      refine va_calli (va_runV (As := [.int (nI m121), .int (nI jy)]) (rest := [.float x122]) ⟨hx, hb, hml, hown, hts⟩ (rm_has l dC dI kA eD b g5 r13 j (nI m121) (nI jy) (by omega)) (cwV 2 hts gX6_lightBits_X5_has rfl rfl rfl (by decide +kernel) ⟨Nat.le_of_ble_eq_true rfl, Nat.le_of_ble_eq_true rfl⟩) ⟨fb_CX, va_recv hK hP (ci := 9) (q0 := 0) rfl rfl, fun U hU hW => ⟨rfl, CX.give hb0 hM hK hG hE hS hU hW⟩⟩ rfl rfl hl.1 rfl (lv_room (Nat.le_of_ble_eq_true rfl)) dX6_lightBits_106 ⟨(Nat.le_of_ble_eq_true rfl), (Nat.le_of_ble_eq_true rfl)⟩) hS (fun q _ h => h) (fun q h => h) (fun r139 u t H locs ht hvm hw140 hB hz1 hk1 hS => ?_)
                      have hM := hB.back ht
                      have hG := hB.2.2.2.1
                      refine lv_if_eq (tgt := 128) hx hb dX6_lightBits_109 (by decide) (fun c141 => ?_) (fun c141 => ?_)
                      · skip
                        refine lv_fconst1 hx hb dX6_lightBits_128 ?_
                        have hfm142 : FM (128 + 2 * (t126 + 1)) (FP.fmul x122 FP.fconst1) := ((hf125).mul1 (by omega)).mono (by omega)
                        refine lv_fmul hx hb dX6_lightBits_129 (nn32 (hfm142.nn (by omega))) ?_
                        refine lv_fstore (lv' := [(7, .float (FP.fmul x122 FP.fconst1)), (9, .int (nI m121)), (8, .int 1), (6, .int (nI j23)), (5, .float x24), (4, .ref r13), (0, .ref o), (1, .int (nI j)), (2, .int (nI jx)), (3, .int (nI jy))]) hx hb dX6_lightBits_130 hl (by decide) rfl (fun ls hl => ?_)
                        refine lv_iload hx hb dX6_lightBits_132 (lv_at hl 1 rfl) ?_
                        refine lv_iload hx hb dX6_lightBits_134 (lv_at hl 2 rfl) ?_
                        refine lv_iadd hx hb dX6_lightBits_136 ?_
                        refine lv_topi (fun v143 e144 => ?_)
                        obtain rfl : v143 = nI (m121 + 1) := e144.trans (nI_add m121 1)
                        refine lv_istore (lv' := [(9, .int (nI (m121 + 1))), (7, .float (FP.fmul x122 FP.fconst1)), (8, .int 1), (6, .int (nI j23)), (5, .float x24), (4, .ref r13), (0, .ref o), (1, .int (nI j)), (2, .int (nI jx)), (3, .int (nI jy))]) hx hb dX6_lightBits_137 hl (by decide) rfl (fun ls hl => ?_)
                        refine lv_goto (tgt := 90) hx hb dX6_lightBits_139 (by decide) ?_
                        exact ih124 (t126 + 1) (m121 + 1) (FP.fmul x122 FP.fconst1) (by omega) (by omega) (by omega) (by omega) hfm142 H _ ls hM hS (lv_sub hl [0, 2, 1, 3, 4, 5, 6, 7, 8, 9] rfl)
                      · skip
                        obtain ⟨-, jx145, jy146, cl147, hp148, hp149, hj150, hj151, hc152⟩ := hw140.resolve_left c141
                        have ej153 : jx145 = m121 := ((nI_eq (a := m121) (b := jx145) (by omega) (by omega)).mp hp148).symm
                        rw [ej153] at hc152
                        have ej154 : jy146 = jy := ((nI_eq (a := jy) (b := jy146) (by omega) (by omega)).mp hp149).symm
                        rw [ej154] at hc152
                        refine lv_aload hx hb dX6_lightBits_112 (lv_at hl 5 rfl) ?_
                        obtain ⟨u155, u156, u157, u158, u159, u160, hP, hf⟩ := o_ms (i := j) (q := r13) hM (by omega)
                        refine va_getN (D := (dC, dI)) (ci := 9) (v := .ref (pF g5 r13 0)) (C := RX5) (T := TX5) (N := 10) hx hb hts (by decide +kernel) hown hK hP 0 rfl rfl 0 (by decide) (hN (.fieldLinkNest RX6 160 "SnowpalaceModel$Site" "cells" "[[LSnowpalaceModel$Cell;" RX6) (by decide +kernel)) (fun _ h9 => h9) rfl dX6_lightBits_114 ?_
                        refine lv_iload_n hx hb dX6_lightBits_117 rfl (lv_at hl 9 rfl) ?_
                        obtain ⟨hP, hf⟩ := o_co (i := j) (q := (pF g5 r13 0)) hM (by omega)
                        have ec : ((nI jy) : Int32).toNatClampNeg = jy := nI_clamp (by omega)
                        refine rt_aldA (D := (dC, dI)) (t0 := 9) hx hb hK hP rfl (vp_in_nI (by omega) (by decide)) (y := (pF g5 (pF g5 r13 0) jy)) ((congrArg (fun z => if z < 6 then some (pF g5 (pF g5 r13 0) z) else none) ec).trans (if_pos (by omega))) dX6_lightBits_118 ?_
                        have ht161 : tg g5 (pF g5 (pF g5 r13 0) jy) = 30 + 64 * (8 * j + jy) := (hf jy (by omega))
                        refine lv_iload hx hb dX6_lightBits_119 (lv_at hl 0 rfl) ?_
                        obtain ⟨hP, hf⟩ := o_cr (i := (8 * j + jy)) (q := (pF g5 (pF g5 r13 0) jy)) hM (by omega)
                        refine va_aldq (D := (dC, dI)) hx hb hK hP 0 8 rfl rfl (vp_in_nI (by omega) (by decide)) dX6_lightBits_121 ?_
                        have ec : ((nI m121) : Int32).toNatClampNeg = m121 := nI_clamp (by omega)
                        rw [ec]
                        have hq162 := hf m121 (by omega)
                        rw [hc152]
                        have ht163 : tg g5 cl147 = 31 := hq162 cl147 hc152
                        obtain ⟨u164, u165, u166, u167, u168, hP, hf⟩ := o_ce (i := 0) (q := cl147) hM (by omega)
                        refine va_callf (va_runV (As := []) (rest := [.float x122]) ⟨hx, hb, hml, hown, hts⟩ (rm_lets l dC dI kA eD b g5 cl147 (by omega)) (cwV 0 hts gX6_lightBits_X4_lets rfl rfl rfl (by decide +kernel) ⟨Nat.le_of_ble_eq_true rfl, Nat.le_of_ble_eq_true rfl⟩) ⟨fb_CX, va_recv hK hP (ci := 8) (q0 := 0) rfl rfl, fun U hU hW => ⟨rfl, CX.give hb0 hM hK hG hE hS hU hW⟩⟩ rfl rfl hl.1 rfl (lv_room (Nat.le_of_ble_eq_true rfl)) dX6_lightBits_122 ⟨(Nat.le_of_ble_eq_true rfl), (Nat.le_of_ble_eq_true rfl)⟩) hS (fun q _ h => h) (fun q h => h) (fun r169 u t H locs ht hvm hw170 hB hz1 hk1 hS => ?_)
                        have hM := hB.back ht
                        have hG := hB.2.2.2.1
                        refine lv_goto (tgt := 129) hx hb dX6_lightBits_125 (by decide) ?_
                        have hfm171 : FM (128 + 2 * (t126 + 1)) (FP.fmul x122 r169) := ((hf125).mul hw170 (by omega)).mono (by omega)
                        refine lv_fmul hx hb dX6_lightBits_129 (nn32 (hfm171.nn (by omega))) ?_
                        refine lv_fstore (lv' := [(7, .float (FP.fmul x122 r169)), (9, .int (nI m121)), (8, .int 1), (6, .int (nI j23)), (5, .float x24), (4, .ref r13), (0, .ref o), (1, .int (nI j)), (2, .int (nI jx)), (3, .int (nI jy))]) hx hb dX6_lightBits_130 hl (by decide) rfl (fun ls hl => ?_)
                        refine lv_iload hx hb dX6_lightBits_132 (lv_at hl 1 rfl) ?_
                        refine lv_iload hx hb dX6_lightBits_134 (lv_at hl 2 rfl) ?_
                        refine lv_iadd hx hb dX6_lightBits_136 ?_
                        refine lv_topi (fun v172 e173 => ?_)
                        obtain rfl : v172 = nI (m121 + 1) := e173.trans (nI_add m121 1)
                        refine lv_istore (lv' := [(9, .int (nI (m121 + 1))), (7, .float (FP.fmul x122 r169)), (8, .int 1), (6, .int (nI j23)), (5, .float x24), (4, .ref r13), (0, .ref o), (1, .int (nI j)), (2, .int (nI jx)), (3, .int (nI jy))]) hx hb dX6_lightBits_137 hl (by decide) rfl (fun ls hl => ?_)
                        refine lv_goto (tgt := 90) hx hb dX6_lightBits_139 (by decide) ?_
                        exact ih124 (t126 + 1) (m121 + 1) (FP.fmul x122 r169) (by omega) (by omega) (by omega) (by omega) hfm171 H _ ls hM hS (lv_sub hl [0, 2, 1, 3, 4, 5, 6, 7, 8, 9] rfl)
                exact lp123 9 0 j23 FP.fconst1 (by omega) (by omega) (by omega) (by omega) (show _ % 2147483648 < (128 + 2 * 0) * 8388608 by decide +kernel) H _ ls hM hS (lv_sub hl [0, 1, 2, 3, 4, 5, 6, 7, 8, 9] rfl)
            · skip
              refine lv_goto (tgt := 149) hx hb dX6_lightBits_67 (by decide) ?_
              refine lv_iinc (v := (nI (j23 + 1))) (lv' := [(6, .int (nI (j23 + 1))), (5, .float x24), (4, .ref r13), (0, .ref o), (1, .int (nI j)), (2, .int (nI jx)), (3, .int (nI jy))]) hx hb dX6_lightBits_149 hl (k := 0) rfl (nI_add j23 1) (by decide) rfl (fun ls hl => ?_)
              refine lv_goto (tgt := 33) hx hb dX6_lightBits_152 (by decide) ?_
              exact ih27 ((j23 + 1)) x24 (by omega) (by omega) (by omega) H _ ls ((hf28).mono (by omega)) hM hS (lv_sub hl [0, 1, 2, 3, 4, 5, 6] rfl)
    exact lp25 (8 + 1) 0 FP.fconst0 (by omega) (by omega) (by omega) H _ ls (show _ % 2147483648 < (147 + 2 * 0) * 8388608 by decide +kernel) hM hS (lv_sub hl [0, 1, 2, 3, 4, 5, 6] rfl)
  · skip
    have hv174 := vr1 (vr01 hw4.2.2) c9
    refine lv_iconst (v := 0) hx hb dX6_lightBits_10 (by decide) ?_
    subst hQ
    refine W.widen (k := 0) (n := 0) (Nat.le_of_ble_eq_true rfl) (Nat.le_of_ble_eq_true rfl) ?_
    exact W.iret (v := 0) hx hb hr (fun t ht hW => ⟨⟨0, g5, rfl, hx6, CX.give hb0 hM hK hG hE hS ht hW⟩, hS.F ht⟩) hS.2.2 dX6_lightBits_11
