set_option maxHeartbeats 4000000 in
set_option maxRecDepth 100000 in
theorem rmf_put (l : Launch) (dC : Nat → ClassId) (dI : Nat → Nat → Nat) (kA : Nat → ClassId) (eD b : Nat) (g : Gh) (sz sg : Nat) (o : Nat) (site : Int32) (x : Int32) (y : Int32) (kd : Int32) (hto : tg g o = 17) (hkd : vp_nar .char kd = kd) : Met l yX6_put wsX6_put ({ frames := 7, cells := 730, slots := 5600, locals := 165 }) (va_Pc [.ref o, .int site, .int x, .int y, .int kd] (CXs (dC, dI) kA eD b g sz sg)) (va_Qi (fun (r : Int32) (u : Gh × Nat) => Ext o XA g u.1 ∧ GCm u.1 o + u.2 ≤ GCm g o + 1) (fun (u : Gh × Nat) t => (CX (dC, dI) kA eD b u.1 t ∧ (t.heap.size ≤ sz + (20 + 14 * (1 + u.2)) ∧ SH t.heap ≤ sg + (120 + 108 * (1 + u.2))))) (fun q => b ≤ q)) 730 5600 (fun q => b ≤ q) := by
  refine Met.ofW (cc := cX6_put) (maxL := 7) (ret := (some .int)) (by decide +kernel) rfl ?_
  intro p e s m args below meth c s₁ B hml hv
  obtain ⟨rfl, ⟨hb0, hM, hK, hG, hE⟩, hsz, hsg⟩ := hv
  have hx := B.exec
  have hb := B.bytes
  have hr := B.returns
  have hts := atoms_spec (ws := wsX6_put) B.pre
  have hown : s.vm.findClass RX6 = some m.cls := findClass_of_methodNamed B.named
  have hlocks := B.notSynchronized
  have hT := hE.1
  have hN := hE.2.2.2.2.2.2.2.1
  have hS : va_S (fun q => b ≤ q) s.heap s.heap [] := va_S.rf
  have hl := lv_entry ([.ref o, .int site, .int x, .int y, .int kd]) (n := 7) (Nat.le_of_ble_eq_true rfl)
  rw [lg_entry_eq]
  generalize (lg_sl ([.ref o, .int site, .int x, .int y, .int kd]) ++ List.replicate (7 - (lg_sl ([.ref o, .int site, .int x, .int y, .int kd])).length) Slot.unset).toArray = ls at hl ⊢
  have hl : lv_has ls 7 [(0, .ref o), (1, .int site), (2, .int x), (3, .int y), (4, .int kd)] := hl
  generalize ([.ref o, .int site, .int x, .int y, .int kd] : List Value).toArray = args at hts ⊢
  refine W.q (fun Q hQ => ?_)
  have hM00 := hM
  have hG00 := hG
  refine lv_aload_n hx hb dX6_put_0 rfl (lv_at hl 0 rfl) ?_
  refine lv_iload_n hx hb dX6_put_1 rfl (lv_at hl 1 rfl) ?_
  refine lv_iload_n hx hb dX6_put_2 rfl (lv_at hl 2 rfl) ?_
  refine lv_iload_n hx hb dX6_put_3 rfl (lv_at hl 3 rfl) ?_
  obtain ⟨u1, u2, hP, hf⟩ := o_mo (i := 0) (q := o) hM (by omega)
  refine va_calli (va_runV (As := [.int site, .int x, .int y]) (rest := []) ⟨hx, hb, hml, hown, hts⟩ (rm_isNoPlace l dC dI kA eD b g o site x y (by omega)) (cwV 3 hts gX6_put_X6_isNoPlace rfl rfl rfl (by decide +kernel) ⟨Nat.le_of_ble_eq_true rfl, Nat.le_of_ble_eq_true rfl⟩) ⟨fb_CX, va_recv hK hP (ci := 10) (q0 := 0) rfl rfl, fun U hU hW => ⟨rfl, CX.give hb0 hM hK hG hE hS hU hW⟩⟩ rfl rfl hl.1 rfl (lv_room (Nat.le_of_ble_eq_true rfl)) dX6_put_4 ⟨(Nat.le_of_ble_eq_true rfl), (Nat.le_of_ble_eq_true rfl)⟩) hS (fun q _ h => h) (fun q h => h) (fun r3 g5 t H locs ht hvm hw4 hB hz1 hk1 hS => ?_)
  have hM := hB.back ht
  have hG := hB.2.2.2.1
  have hx6 : Ext o X0 g g5 := hw4.1
  have ht7 : tg g5 o = 17 := hx6.tk hto (by omega)
  have hth8 := hw4.2.1
  refine lv_if_ne (tgt := 43) hx hb dX6_put_7 (by decide) (fun c9 => ?_) (fun c9 => ?_)
  · skip
    have hv10 := vr1 (vr01 hw4.2.2) c9
    refine lv_iconst (v := 0) hx hb dX6_put_43 (by decide) ?_
    have hq1 := GCm_x0 hM00 hG00 hto (hx6 : Ext o X0 g g5)
    refine W.know (fun hkn1 hkn2 => ?_)
    subst hQ
    refine W.widen (k := 730) (n := 5600) (Nat.le_of_ble_eq_true rfl) (Nat.le_of_ble_eq_true rfl) ?_
    exact W.iret (v := 0) hx hb hr (fun t ht hW => ⟨⟨0, (g5, 0), rfl, ⟨(hx6 : Ext o X0 g g5).wide0, by show GCm g5 o + 0 ≤ GCm g o + 1; omega⟩, ⟨CX.give hb0 hM hK hG hE hS ht hW, by rw [ht]; show _ ≤ sz + (20 + 14 * (1 + 0)); omega, by rw [ht]; show _ ≤ sg + (120 + 108 * (1 + 0)); omega⟩⟩, hS.F ht⟩) hS.2.2 dX6_put_44
  · skip
    have hv11 := vr0 (vr01 hw4.2.2) c9
    have hfm := (mo_list hM ht7).1
    have hls := (mo_list hM ht7).2
    obtain ⟨j, hj, rfl⟩ := toN (p := site) (k := 2) (by omega) (by omega) (by decide)
    have hl : lv_has ls 7 [(0, .ref o), (1, .int (nI j)), (2, .int x), (3, .int y), (4, .int kd)] := hl
    have ej : (nI j).toInt = (j : Int) := nI_toInt (by omega)
    obtain ⟨jx, hjx, rfl⟩ := toN (p := x) (k := 7) (by omega) (by omega) (by decide)
    have hl : lv_has ls 7 [(0, .ref o), (1, .int (nI j)), (2, .int (nI jx)), (3, .int y), (4, .int kd)] := hl
    have ejx : (nI jx).toInt = (jx : Int) := nI_toInt (by omega)
    obtain ⟨jy, hjy, rfl⟩ := toN (p := y) (k := 5) (by omega) (by omega) (by decide)
    have hl : lv_has ls 7 [(0, .ref o), (1, .int (nI j)), (2, .int (nI jx)), (3, .int (nI jy)), (4, .int kd)] := hl
    have ejy : (nI jy).toInt = (jy : Int) := nI_toInt (by omega)
    have hjs : (j : Int) < (pI g5 (pF g5 o 5) 0).toInt := by omega
    refine lv_aload_n hx hb dX6_put_10 rfl (lv_at hl 0 rfl) ?_
    refine lv_iload hx hb dX6_put_11 (lv_at hl 4 rfl) ?_
    refine lv_bipush (v := 115) hx hb dX6_put_13 (by decide) ?_
    have jn13 : ∀ (x12 : Int32) (H : Heap) (locs : List Loc) (ls : Array Slot), TM (dC, dI) kA b g5 H → va_S (fun q => b ≤ q) s.heap H locs → lv_has ls 7 [(0, .ref o), (1, .int (nI j)), (2, .int (nI jx)), (3, .int (nI jy)), (4, .int kd)] → W p l e (headSpec wsX6_put ({ frames := 7, cells := 730, slots := 5600, locals := 165 })).room s m args below meth c H locs 0 0 Q (F0 m 37 ls [.int x12, .ref o]) := by
      intro x12 H locs ls hM hS hl
      obtain ⟨u14, u15, hP, hf⟩ := o_mo (i := 0) (q := o) hM (by omega)
      refine va_calli (va_runV (As := [.int x12]) (rest := []) ⟨hx, hb, hml, hown, hts⟩ (rm_isWrong l dC dI kA eD b g5 o x12 (by omega)) (cwV 1 hts gX6_put_X6_isWrong rfl rfl rfl (by decide +kernel) ⟨Nat.le_of_ble_eq_true rfl, Nat.le_of_ble_eq_true rfl⟩) ⟨fb_CX, va_recv hK hP (ci := 10) (q0 := 0) rfl rfl, fun U hU hW => ⟨rfl, CX.give hb0 hM hK hG hE hS hU hW⟩⟩ rfl rfl hl.1 rfl (lv_room (Nat.le_of_ble_eq_true rfl)) dX6_put_37 ⟨(Nat.le_of_ble_eq_true rfl), (Nat.le_of_ble_eq_true rfl)⟩) hS (fun q _ h => h) (fun q h => h) (fun r16 g18 t H locs ht hvm hw17 hB hz1 hk1 hS => ?_)
      have hM := hB.back ht
      have hG := hB.2.2.2.1
      have hx19 : Ext o X0 g5 g18 := hw17.1
      have ht20 : tg g18 o = 17 := hx19.tk ht7 (by omega)
      have ht21 : tg g18 (pF g5 o 5) = 26 := hx19.tk hfm (by omega)
      have hw22 : r16 = bI (0 < x12) := hw17.2.2
      have hth23 : pI g18 o 2 = x12 := by rw [hw17.2.1]; exact sI_at
      refine lv_if_eq (tgt := 45) hx hb dX6_put_40 (by decide) (fun c24 => ?_) (fun c24 => ?_)
      · skip
        have g25 : ¬ (0 < x12) := bI_f hw22 c24
        have zg25 : r16 = 0 := bI_f0 hw22 g25
        refine lv_aload_n hx hb dX6_put_45 rfl (lv_at hl 0 rfl) ?_
        obtain ⟨u26, u27, hP, hf⟩ := o_mo (i := 0) (q := o) hM (by omega)
        refine va_get (D := (dC, dI)) (ci := 10) (v := .ref (pF g18 o 5)) (C := RX6) (T := TX6) (N := 11) hx hb hts (by decide +kernel) hown hK hP 0 rfl rfl 10 (by decide) (hts (.fieldLink RX6 34 "SnowpalaceModel" "sites" "Ljava/util/List;") (by decide +kernel)) (fun _ h9 => h9) rfl dX6_put_46 ?_
        have ht28 : tg g18 (pF g18 o 5) = 26 := hf.2.2.2.2.2.1
        refine lv_iload_n hx hb dX6_put_49 rfl (lv_at hl 1 rfl) ?_
        obtain ⟨hP, hf⟩ := o_al (i := 0) (q := (pF g18 o 5)) hM (by omega)
        refine va_callFr (va_runF (hK.1 3 _ rfl).2 (As := [.int (nI j)]) (rest := []) ⟨hx, hb, hml, hown, hts⟩ (rj_get l dC dI kA eD b g18 (pF g18 o 5) j (by omega) (by rw [(hx19 : Ext o X0 g5 g18).f (q := o) (by omega), (hx19 : Ext o X0 g5 g18).i (q := pF g5 o 5) (j := 0) (by omega) (Or.inr (by decide))]; exact hjs)) (va_cwF 1 hts gX6_put_Jx4a65c_get_915e3_f149Jx4a65c rfl rfl rfl hE.2.2.2.2.1 (by decide +kernel) ⟨Nat.le_of_ble_eq_true rfl, Nat.le_of_ble_eq_true rfl⟩) ⟨fb_CX, va_recv hK hP (ci := 3) (q0 := 0) rfl rfl, fun U hU hW => ⟨rfl, CX.give hb0 hM hK hG hE hS hU hW⟩⟩ rfl rfl hl.1 rfl (lv_room (Nat.le_of_ble_eq_true rfl)) dX6_put_50 ⟨(Nat.le_of_ble_eq_true rfl), (Nat.le_of_ble_eq_true rfl)⟩) hS (fun q _ h => h) (fun q h => h) (fun u r29 t H locs ht hvm hw30 hB hz1 hk1 hS => ?_)
        have hM := hB.1.back ht
        have hG := hB.1.2.2.2.1
        have ht31 : tg g18 r29 = 28 + 64 * j := hB.2.1
        have hg32 : pO g18 (pF g18 (pF g18 o 5) 0) j = some r29 := hB.2.2
        have hjv : (j : Int) < (pI g18 (pF g18 o 5) 0).toInt := (by rw [(hx19 : Ext o X0 g5 g18).f (q := o) (by omega), (hx19 : Ext o X0 g5 g18).i (q := pF g5 o 5) (j := 0) (by omega) (Or.inr (by decide))]; exact hjs)
        have hMv := hM
        have hGv := hG
        obtain ⟨u33, u34, u35, u36, u37, u38, hP, hf⟩ := o_ms (i := j) (q := r29) hM (by omega)
        refine va_castY hx hb hown (hts (.classLink RX6 125 "SnowpalaceModel$Site") (by decide +kernel)) hE.2.2.2.2.2.2.1 (va_recv hK hP (ci := 9) (q0 := 0) rfl rfl) dX6_put_55 ?_
        refine lv_astore (lv' := [(5, .ref r29), (0, .ref o), (1, .int (nI j)), (2, .int (nI jx)), (3, .int (nI jy)), (4, .int kd)]) hx hb dX6_put_58 hl (by decide) rfl (fun ls hl => ?_)
        refine lv_iload hx hb dX6_put_60 (lv_at hl 5 rfl) ?_
        refine lv_bipush (v := 115) hx hb dX6_put_62 (by decide) ?_
        have jn40 : ∀ (x39 : Int32) (H : Heap) (locs : List Loc) (ls : Array Slot), (x39 = 0 ∨ x39 = 1) → TM (dC, dI) kA b g18 H → va_S (fun q => b ≤ q) s.heap H locs → lv_has ls 7 [(5, .ref r29), (0, .ref o), (1, .int (nI j)), (2, .int (nI jx)), (3, .int (nI jy)), (4, .int kd)] → W p l e (headSpec wsX6_put ({ frames := 7, cells := 730, slots := 5600, locals := 165 })).room s m args below meth c H locs 0 0 Q (F0 m 108 ls [.int x39]) := by
          intro x39 H locs ls hj41 hM hS hl
          refine lv_istore (lv' := [(6, .int x39), (5, .ref r29), (0, .ref o), (1, .int (nI j)), (2, .int (nI jx)), (3, .int (nI jy)), (4, .int kd)]) hx hb dX6_put_108 hl (by decide) rfl (fun ls hl => ?_)
          refine lv_aload_n hx hb dX6_put_110 rfl (lv_at hl 2 rfl) ?_
          refine lv_aload hx hb dX6_put_111 (lv_at hl 1 rfl) ?_
          refine lv_iload_n hx hb dX6_put_113 rfl (lv_at hl 4 rfl) ?_
          refine lv_iload_n hx hb dX6_put_114 rfl (lv_at hl 5 rfl) ?_
          obtain ⟨u42, u43, u44, u45, u46, u47, hP, hf⟩ := o_ms (i := j) (q := r29) hM (by omega)
          refine va_calli (va_runV (As := [.int (nI jx), .int (nI jy)]) (rest := [.ref o]) ⟨hx, hb, hml, hown, hts⟩ (rm_has l dC dI kA eD b g18 r29 j (nI jx) (nI jy) (by omega)) (cwV 2 hts gX6_put_X5_has rfl rfl rfl (by decide +kernel) ⟨Nat.le_of_ble_eq_true rfl, Nat.le_of_ble_eq_true rfl⟩) ⟨fb_CX, va_recv hK hP (ci := 9) (q0 := 0) rfl rfl, fun U hU hW => ⟨rfl, CX.give hb0 hM hK hG hE hS hU hW⟩⟩ rfl rfl hl.1 rfl (lv_room (Nat.le_of_ble_eq_true rfl)) dX6_put_115 ⟨(Nat.le_of_ble_eq_true rfl), (Nat.le_of_ble_eq_true rfl)⟩) hS (fun q _ h => h) (fun q h => h) (fun r48 u t H locs ht hvm hw49 hB hz1 hk1 hS => ?_)
          have hM := hB.back ht
          have hG := hB.2.2.2.1
          have jn51 : ∀ (x50 : Int32) (H : Heap) (locs : List Loc) (ls : Array Slot), TM (dC, dI) kA b g18 H → va_S (fun q => b ≤ q) s.heap H locs → lv_has ls 7 [(6, .int x39), (5, .ref r29), (0, .ref o), (1, .int (nI j)), (2, .int (nI jx)), (3, .int (nI jy)), (4, .int kd)] → W p l e (headSpec wsX6_put ({ frames := 7, cells := 730, slots := 5600, locals := 165 })).room s m args below meth c H locs 0 0 Q (F0 m 145 ls [.int x50, .ref o]) := by
            intro x50 H locs ls hM hS hl
            obtain ⟨u52, u53, hP, hf⟩ := o_mo (i := 0) (q := o) hM (by omega)
            refine va_calli (va_runV (As := [.int x50]) (rest := []) ⟨hx, hb, hml, hown, hts⟩ (rm_isWrong l dC dI kA eD b g18 o x50 (by omega)) (cwV 1 hts gX6_put_X6_isWrong rfl rfl rfl (by decide +kernel) ⟨Nat.le_of_ble_eq_true rfl, Nat.le_of_ble_eq_true rfl⟩) ⟨fb_CX, va_recv hK hP (ci := 10) (q0 := 0) rfl rfl, fun U hU hW => ⟨rfl, CX.give hb0 hM hK hG hE hS hU hW⟩⟩ rfl rfl hl.1 rfl (lv_room (Nat.le_of_ble_eq_true rfl)) dX6_put_145 ⟨(Nat.le_of_ble_eq_true rfl), (Nat.le_of_ble_eq_true rfl)⟩) hS (fun q _ h => h) (fun q h => h) (fun r54 g56 t H locs ht hvm hw55 hB hz1 hk1 hS => ?_)
            have hM := hB.back ht
            have hG := hB.2.2.2.1
            have hx57 : Ext o X0 g18 g56 := hw55.1
            have ht58 : tg g56 o = 17 := hx57.tk ht20 (by omega)
            have ht59 : tg g56 (pF g5 o 5) = 26 := hx57.tk ht21 (by omega)
            have ht60 : tg g56 (pF g18 o 5) = 26 := hx57.tk ht28 (by omega)
            have ht61 : tg g56 r29 = 28 + 64 * j := hx57.tk ht31 (by omega)
            have hw62 : r54 = bI (0 < x50) := hw55.2.2
            have hth63 : pI g56 o 2 = x50 := by rw [hw55.2.1]; exact sI_at
            refine lv_if_eq (tgt := 153) hx hb dX6_put_148 (by decide) (fun c64 => ?_) (fun c64 => ?_)
            · skip
              have g65 : ¬ (0 < x50) := bI_f hw62 c64
              have zg65 : r54 = 0 := bI_f0 hw62 g65
              refine lv_iload hx hb dX6_put_153 (lv_at hl 6 rfl) ?_
              refine lv_bipush (v := 115) hx hb dX6_put_155 (by decide) ?_
              have jn66 : ∀  (H : Heap) (locs : List Loc) (ls : Array Slot), TM (dC, dI) kA b g56 H → va_S (fun q => b ≤ q) s.heap H locs → lv_has ls 7 [(6, .int x39), (5, .ref r29), (0, .ref o), (1, .int (nI j)), (2, .int (nI jx)), (3, .int (nI jy)), (4, .int kd)] → W p l e (headSpec wsX6_put ({ frames := 7, cells := 730, slots := 5600, locals := 165 })).room s m args below meth c H locs 0 0 Q (F0 m 194 ls []) := by
                intro H locs ls hM hS hl
                refine lv_aload_n hx hb dX6_put_194 rfl (lv_at hl 2 rfl) ?_
                refine lv_dup hx hb dX6_put_195 rfl ?_
                obtain ⟨u67, u68, hP, hf⟩ := o_mo (i := 0) (q := o) hM (by omega)
                refine va_get (D := (dC, dI)) (ci := 10) (v := .int u67) (C := RX6) (T := TX6) (N := 11) hx hb hts (by decide +kernel) hown hK hP 0 rfl rfl 3 (by decide) (hts (.fieldLink RX6 100 "SnowpalaceModel" "money" "I") (by decide +kernel)) (fun _ h9 => h9) rfl dX6_put_196 ?_
                refine lv_bipush (v := 10) hx hb dX6_put_199 (by decide) ?_
                refine lv_isub hx hb dX6_put_201 ?_
                refine lv_topi (fun v69 e70 => ?_)
                obtain ⟨u71, u72, hP, hf⟩ := o_mo (i := 0) (q := o) hM (by omega)
                refine rt_put (D := (dC, dI)) (ci := 10) (v := .int v69) (ty := .int) (C := RX6) (T := TX6) (N := 11) hx hb hts (by decide +kernel) tyX6 tyX6_ok nmX6 hown hK hP (hM.ge (by omega)) hS rfl 3 (by decide) (hts (.fieldLink RX6 100 "SnowpalaceModel" "money" "I") (by decide +kernel)) (fun _ h9 => h9) rfl (by decide +kernel) rfl rfl (Nat.le_of_ble_eq_true rfl) dX6_put_202 (fun H locs hP hz ho hS => ?_)
                have hM := s_mo (i := 0) hM (by omega) hP ho hf
                refine lv_aload hx hb dX6_put_205 (lv_at hl 1 rfl) ?_
                obtain ⟨u73, u74, u75, u76, u77, u78, hP, hf⟩ := o_ms (i := j) (q := r29) hM (by omega)
                refine va_getN (D := (dC, dI)) (ci := 9) (v := .ref (pF g56 r29 0)) (C := RX5) (T := TX5) (N := 10) hx hb hts (by decide +kernel) hown hK hP 0 rfl rfl 0 (by decide) (hN (.fieldLinkNest RX6 160 "SnowpalaceModel$Site" "cells" "[[LSnowpalaceModel$Cell;" RX6) (by decide +kernel)) (fun _ h9 => h9) rfl dX6_put_207 ?_
                have ht79 : tg g56 (pF g56 r29 0) = 29 + 64 * j := hf.1
                refine lv_iload_n hx hb dX6_put_210 rfl (lv_at hl 5 rfl) ?_
                obtain ⟨hP, hf⟩ := o_co (i := j) (q := (pF g56 r29 0)) hM (by omega)
                have ec : ((nI jy) : Int32).toNatClampNeg = jy := nI_clamp (by omega)
                refine rt_aldA (D := (dC, dI)) (t0 := 9) hx hb hK hP rfl (vp_in_nI (by omega) (by decide)) (y := (pF g56 (pF g56 r29 0) jy)) ((congrArg (fun z => if z < 6 then some (pF g56 (pF g56 r29 0) z) else none) ec).trans (if_pos (by omega))) dX6_put_211 ?_
                have ht80 : tg g56 (pF g56 (pF g56 r29 0) jy) = 30 + 64 * (8 * j + jy) := (hf jy (by omega))
                refine lv_iload_n hx hb dX6_put_212 rfl (lv_at hl 4 rfl) ?_
                obtain ⟨q81, hq81⟩ : ∃ z, z = H.size := ⟨_, rfl⟩
                have fq81 : tg g56 q81 = 0 := by rw [hq81]; exact hM.fresh
                have bq81 : b ≤ q81 := by rw [hq81]; exact Nat.le_trans hb0 hS.1
                refine rt_new (D := (dC, dI)) (ci := 8) (fs := [.int 0, .int 0, .int 0, .int 0, .int 0]) (C := RX4) (T := TX4) (N := 5) hx hb hts (by decide +kernel) tyX4 tyX4_ok hown (hts (.classLink RX6 164 RX4) (by decide +kernel)) (hts (.instantiable RX4 5) (by decide +kernel)) (hts (.initialized RX4) (by decide +kernel)) hK hS rfl (fun j hj => by rcases (show j = 0 ∨ j = 1 ∨ j = 2 ∨ j = 3 ∨ j = 4 by omega) with rfl | rfl | rfl | rfl | rfl <;> rfl) (Nat.le_of_ble_eq_true rfl) (Nat.le_of_ble_eq_true rfl) dX6_put_213 (fun H hP hz ho hS => ?_)
                rw [← hq81] at hP ⊢
                have hM := hM.keep ho
                have hXq81 : va_P (dC, dI) vwCl [(q81, .inr (8, [.int 0, .int 0, .int 0, .int 0, .int 0]))] H := hP
                refine lv_dup hx hb dX6_put_216 rfl ?_
                refine lv_iload hx hb dX6_put_217 (lv_at hl 6 rfl) ?_
                refine va_callv (va_runI (As := [.int kd]) (rest := [.ref q81, .int (nI jx), .ref (pF g56 (pF g56 r29 0) jy)]) ⟨hx, hb, hml, hown, hts⟩ (rm_cell l dC dI kA eD b g56 q81 kd o hkd) (cwI 1 hts gX6_put_X4_init rfl rfl rfl (hts (.initialized RX4) (by decide +kernel)) (hts (.methodLink RX6 166 yX4_init) (by decide +kernel)) (hts (.instanceMethod yX4_init) (by decide +kernel)) rfl (by decide +kernel) ⟨Nat.le_of_ble_eq_true rfl, Nat.le_of_ble_eq_true rfl⟩) ⟨fb_CXn, fun U hU hW => ⟨rfl, CXn.give (s := s) (locs := []) (CX.give hb0 hM hK hG hE hS hU hW) fq81 bq81 hXq81 hU⟩⟩ rfl rfl hl.1 rfl (lv_room (Nat.le_of_ble_eq_true rfl)) dX6_put_219 ⟨(Nat.le_of_ble_eq_true rfl), (Nat.le_of_ble_eq_true rfl)⟩) hS (fun q _ h => h) (fun q h => h) (fun g82 t H locs ht hvm hw83 hB hz1 hk1 hS => ?_)
                have hM := hB.back ht
                have hG := hB.2.2.2.1
                have hx84 : Ext o X0 g56 g82 := hw83.1
                have ht85 : tg g82 o = 17 := hx84.tk ht58 (by omega)
                have ht86 : tg g82 (pF g5 o 5) = 26 := hx84.tk ht59 (by omega)
                have ht87 : tg g82 (pF g18 o 5) = 26 := hx84.tk ht60 (by omega)
                have ht88 : tg g82 r29 = 28 + 64 * j := hx84.tk ht61 (by omega)
                have ht89 : tg g82 (pF g56 r29 0) = 29 + 64 * j := hx84.tk ht79 (by omega)
                have ht90 : tg g82 (pF g56 (pF g56 r29 0) jy) = 30 + 64 * (8 * j + jy) := hx84.tk ht80 (by omega)
                have ht91 : tg g82 q81 = 31 := hw83.2.1
                have hrw92 : (pF g56 (pF g56 r29 0) jy) = pF g82 (pF g82 r29 0) jy := (grid_ext (hx84 : Ext o X0 g56 g82) ht61 ht79 jy).symm
                rw [hrw92]
                have hgt93 := grid_tags hM ht88
                have ht94 : tg g82 (pF g82 (pF g82 r29 0) jy) = 30 + 64 * (8 * j + jy) := hgt93.2 jy (by omega)
                have hMp := hM
                obtain ⟨hP, hf⟩ := o_cr (i := (8 * j + jy)) (q := (pF g82 (pF g82 r29 0) jy)) hM (by omega)
                obtain ⟨u95, u96, u97, u98, u99, hP, hf⟩ := o_ce (i := 0) (q := q81) hM (by omega)
                have hPv := hP
                obtain ⟨hP, hf⟩ := o_cr (i := (8 * j + jy)) (q := (pF g82 (pF g82 r29 0) jy)) hM (by omega)
                refine rt_astq (D := (dC, dI)) (t0 := 8) (ci := 8) hx hb hK hP (hM.ge (by omega)) hS rfl hPv rfl (vp_in_nI (by omega) (by decide)) dX6_put_222 (fun H locs hP hz ho hS => ?_)
                have ec : ((nI jx) : Int32).toNatClampNeg = jx := nI_clamp (by omega)
                rw [ec] at hP
                have hM0 := hM
                have hM := p_cr (i := (8 * j + jy)) (f := va_up (pO g82 (pF g82 (pF g82 r29 0) jy)) jx (some q81)) hM (by omega) hP ho (up_some hf ht91)
                obtain ⟨g100, hg100⟩ : ∃ z, z = uO g82 (pF g82 (pF g82 r29 0) jy) (va_up (pO g82 (pF g82 (pF g82 r29 0) jy)) jx (some q81)) := ⟨_, rfl⟩
                rw [← hg100] at hM
                have ht101 : tg g100 o = 17 := by rw [hg100]; exact ht85
                have ht102 : tg g100 (pF g5 o 5) = 26 := by rw [hg100]; exact ht86
                have ht103 : tg g100 (pF g18 o 5) = 26 := by rw [hg100]; exact ht87
                have ht104 : tg g100 r29 = 28 + 64 * j := by rw [hg100]; exact ht88
                have ht105 : tg g100 (pF g56 r29 0) = 29 + 64 * j := by rw [hg100]; exact ht89
                have ht106 : tg g100 (pF g56 (pF g56 r29 0) jy) = 30 + 64 * (8 * j + jy) := by rw [hg100]; exact ht90
                have ht107 : tg g100 q81 = 31 := by rw [hg100]; exact ht91
                have ht108 : tg g100 (pF g82 (pF g82 r29 0) jy) = 30 + 64 * (8 * j + jy) := by rw [hg100]; exact ht94
                have hG : GOK g100 := by rw [hg100]; exact (hG.uO hM0 (by omega))
                have hx110 : Ext o (XS j) g82 g100 := by rw [hg100]; exact Ext.row (X := XS j) ⟨jy, by omega, ht94⟩
                have hp111 : gc g100 r29 ≤ gc g82 r29 + 1 := by rw [hg100]; exact gc_put hgt93.2 (by omega) (by omega)
                have he112 : gc g82 r29 = gc g18 r29 := gc_ext hMv ((hx57.trans hx84) : Ext o X0 g18 g82) ht31 (fun y _ z => z)
                have hMq113 := hM
                refine lv_aload hx hb dX6_put_223 (lv_at hl 1 rfl) ?_
                refine lv_aload_n hx hb dX6_put_225 rfl (lv_at hl 2 rfl) ?_
                refine lv_aload_n hx hb dX6_put_226 rfl (lv_at hl 2 rfl) ?_
                obtain ⟨u114, u115, hP, hf⟩ := o_mo (i := 0) (q := o) hM (by omega)
                refine va_get (D := (dC, dI)) (ci := 10) (v := .int (pI g100 o 0)) (C := RX6) (T := TX6) (N := 11) hx hb hts (by decide +kernel) hown hK hP 0 rfl rfl 2 (by decide) (hts (.fieldLink RX6 58 "SnowpalaceModel" "hour" "I") (by decide +kernel)) (fun _ h9 => h9) rfl dX6_put_227 ?_
                have hv116 := hf.2.2.2.2.2.2.1
                obtain ⟨j117, hj117, en118⟩ := toN (p := (pI g100 o 0)) (k := 504) (by omega) (by omega) (by decide)
                rw [en118]
                try rw [en118] at hl
                have hl : lv_has ls 7 [(6, .int x39), (5, .ref r29), (0, .ref o), (1, .int (nI j)), (2, .int (nI jx)), (3, .int (nI jy)), (4, .int kd)] := hl
                obtain ⟨u119, u120, hP, hf⟩ := o_mo (i := 0) (q := o) hM (by omega)
                refine va_calli (va_runV (As := [.int (nI j117)]) (rest := [.ref r29]) ⟨hx, hb, hml, hown, hts⟩ (rm_warmthOf l dC dI kA eD b g100 o j117 (by omega) (by omega)) (cwV 1 hts gX6_put_X6_warmthOf rfl rfl rfl (by decide +kernel) ⟨Nat.le_of_ble_eq_true rfl, Nat.le_of_ble_eq_true rfl⟩) ⟨fb_CX, va_recv hK hP (ci := 10) (q0 := 0) rfl rfl, fun U hU hW => ⟨rfl, CX.give hb0 hM hK hG hE hS hU hW⟩⟩ rfl rfl hl.1 rfl (lv_room (Nat.le_of_ble_eq_true rfl)) dX6_put_230 ⟨(Nat.le_of_ble_eq_true rfl), (Nat.le_of_ble_eq_true rfl)⟩) hS (fun q _ h => h) (fun q h => h) (fun r121 u t H locs ht hvm hw122 hB hz1 hk1 hS => ?_)
                have hM := hB.back ht
                have hG := hB.2.2.2.1
                obtain ⟨u123, u124, u125, u126, u127, u128, hP, hf⟩ := o_ms (i := j) (q := r29) hM (by omega)
                refine W.know (fun hkn1 hkn2 => ?_)
                refine va_calli (va_runV (As := [.int r121]) (rest := []) ⟨hx, hb, hml, hown, hts⟩ (rm_settles l dC dI kA eD b g100 H.size (SH H) r29 j o o r121 (by omega) (by omega) (Or.inr ht101)) (cwV 1 hts gX6_put_X5_settles rfl rfl rfl (by decide +kernel) ⟨Nat.le_of_ble_eq_true rfl, Nat.le_of_ble_eq_true rfl⟩) ⟨fb_CXs, va_recv hK hP (ci := 9) (q0 := 0) rfl rfl, fun U hU hW => ⟨rfl, CXs.give hb0 hM hK hG hE hS hU hW⟩⟩ rfl rfl hl.1 rfl (lv_room (Nat.le_of_ble_eq_true rfl)) dX6_put_233 ⟨(Nat.le_of_ble_eq_true rfl), (Nat.le_of_ble_eq_true rfl)⟩) hS (fun q _ h => h) (fun q h => h) (fun r129 g131 t H locs ht hvm hw130 hB hz1 hk1 hS => ?_)
                have hM := hB.1.back ht
                have hG := hB.1.2.2.2.1
                obtain ⟨g131, d132⟩ := g131
                have hgr := hB.2
                rw [ht] at hgr
                refine W.shrink (k := 1 + 14 * (1 + d132)) (n := 5 + 108 * (1 + d132)) (by have := hgr.1; omega) (by have := hgr.2; omega) ?_
                have hx133 : Ext o (XS j) g100 g131 := hw130.1
                have ht134 : tg g131 o = 17 := hx133.tk ht101 (by omega)
                have ht135 : tg g131 (pF g5 o 5) = 26 := hx133.tk ht102 (by omega)
                have ht136 : tg g131 (pF g18 o 5) = 26 := hx133.tk ht103 (by omega)
                have ht137 : tg g131 r29 = 28 + 64 * j := hx133.tk ht104 (by omega)
                have ht138 : tg g131 (pF g56 r29 0) = 29 + 64 * j := hx133.tk ht105 (by omega)
                have ht139 : tg g131 (pF g56 (pF g56 r29 0) jy) = 30 + 64 * (8 * j + jy) := hx133.tk ht106 (by omega)
                have ht140 : tg g131 q81 = 31 := hx133.tk ht107 (by omega)
                have ht141 : tg g131 (pF g82 (pF g82 r29 0) jy) = 30 + 64 * (8 * j + jy) := hx133.tk ht108 (by omega)
                have hMs := hM
                have hd48 : d132 ≤ 48 := by have h4 : gc g131 r29 + d132 = gc g100 r29 := hw130.2; have h5 : gc g100 r29 ≤ 48 := gc_le; omega
                refine lv_pop hx hb dX6_put_236 rfl ?_
                refine lv_aload hx hb dX6_put_237 (lv_at hl 1 rfl) ?_
                obtain ⟨u142, u143, u144, u145, u146, u147, hP, hf⟩ := o_ms (i := j) (q := r29) hM (by omega)
                refine va_calli (va_runV (As := []) (rest := []) ⟨hx, hb, hml, hown, hts⟩ (rm_many l dC dI kA eD b g131 r29 j (by omega)) (cwV 0 hts gX6_put_X5_many rfl rfl rfl (by decide +kernel) ⟨Nat.le_of_ble_eq_true rfl, Nat.le_of_ble_eq_true rfl⟩) ⟨fb_CX, va_recv hK hP (ci := 9) (q0 := 0) rfl rfl, fun U hU hW => ⟨rfl, CX.give hb0 hM hK hG hE hS hU hW⟩⟩ rfl rfl hl.1 rfl (lv_room (Nat.le_of_ble_eq_true rfl)) dX6_put_239 ⟨(show 1 + 14 * (1 + d132) + 0 ≤ 730 by omega), (show 5 + 108 * (1 + d132) + 0 ≤ 5600 by omega)⟩) hS (fun q _ h => h) (fun q h => h) (fun r148 u t H locs ht hvm hw149 hB hz1 hk1 hS => ?_)
                have hM := hB.back ht
                have hG := hB.2.2.2.1
                obtain ⟨q150, hq151, rfl⟩ := hw149
                have hq1 := GCm_x0 hM00 hG00 hto ((hx6.trans hx19) : Ext o X0 g g18)
                have hq2 := GCm_site hMv hGv ht20 (((((hx57.wide0 (Y := (XS j))).trans (hx84.wide0 (Y := (XS j)))).trans hx110).trans hx133) : Ext o (XS j) g18 g131) hjv hg32
                have hq4 : gc g131 r29 + d132 = gc g100 r29 := hw130.2
                refine W.know (fun hkn1 hkn2 => ?_)
                subst hQ
                refine W.widen (k := 730) (n := 5600) (by omega) (by omega) ?_
                exact W.iret (v := (nI q150)) hx hb hr (fun t ht hW => ⟨⟨(nI q150), (g131, d132), rfl, ⟨((((((hx6.wide0 (Y := XA)).trans (hx19.wide0 (Y := XA))).trans (hx57.wide0 (Y := XA))).trans (hx84.wide0 (Y := XA))).trans hx110.wideA).trans hx133.wideA), by show GCm g131 o + d132 ≤ GCm g o + 1; omega⟩, ⟨CX.give hb0 hM hK hG hE hS ht hW, by rw [ht]; show _ ≤ sz + (20 + 14 * (1 + d132)); omega, by rw [ht]; show _ ≤ sg + (120 + 108 * (1 + d132)); omega⟩⟩, hS.F ht⟩) hS.2.2 dX6_put_242
              refine lv_icmp_ne (tgt := 173) hx hb dX6_put_157 (by decide) (fun c152 => ?_) (fun c152 => ?_)
              · skip
                refine lv_aload_n hx hb dX6_put_173 rfl (lv_at hl 2 rfl) ?_
                obtain ⟨u153, u154, hP, hf⟩ := o_mo (i := 0) (q := o) hM (by omega)
                refine va_get (D := (dC, dI)) (ci := 10) (v := .ref (pF g56 o 4)) (C := RX6) (T := TX6) (N := 11) hx hb hts (by decide +kernel) hown hK hP 0 rfl rfl 7 (by decide) (hts (.fieldLink RX6 28 "SnowpalaceModel" "yard" "[I") (by decide +kernel)) (fun _ h9 => h9) rfl dX6_put_174 ?_
                have ht155 : tg g56 (pF g56 o 4) = 25 := hf.2.2.2.2.1
                refine lv_iload hx hb dX6_put_177 (lv_at hl 6 rfl) ?_
                refine lv_bipush (v := 99) hx hb dX6_put_179 (by decide) ?_
                have jn157 : ∀ (x156 : Int32) (H : Heap) (locs : List Loc) (ls : Array Slot), (x156 = 0 ∨ x156 = 1) → TM (dC, dI) kA b g56 H → va_S (fun q => b ≤ q) s.heap H locs → lv_has ls 7 [(6, .int x39), (5, .ref r29), (0, .ref o), (1, .int (nI j)), (2, .int (nI jx)), (3, .int (nI jy)), (4, .int kd)] → W p l e (headSpec wsX6_put ({ frames := 7, cells := 730, slots := 5600, locals := 165 })).room s m args below meth c H locs 0 0 Q (F0 m 189 ls [.int x156, .ref (pF g56 o 4)]) := by
                  intro x156 H locs ls hj158 hM hS hl
                  refine lv_dup2_11 hx hb dX6_put_189 rfl rfl ?_
                  obtain ⟨u159, hP, hf⟩ := o_ya (i := 0) (q := (pF g56 o 4)) hM (by omega)
                  refine va_iald (D := (dC, dI)) hx hb hK hP 0 0 rfl rfl (in01 hj158) dX6_put_190 ?_
                  refine lv_topi (fun v160 e161 => ?_)
                  refine lv_iconst (v := 1) hx hb dX6_put_191 (by decide) ?_
                  refine lv_isub hx hb dX6_put_192 ?_
                  refine lv_topi (fun v162 e163 => ?_)
                  obtain ⟨u164, hP, hf⟩ := o_ya (i := 0) (q := (pF g56 o 4)) hM (by omega)
                  refine rt_iast (D := (dC, dI)) (t0 := 0) hx hb hK hP (hM.ge (by omega)) hS rfl (in01 hj158) dX6_put_193 (fun H locs hP hz ho hS => ?_)
                  have hM := s_ya (i := 0) hM (by omega) hP ho hf
                  exact jn66 H _ ls hM hS (lv_sub hl [0, 1, 2, 3, 4, 5, 6] rfl)
                refine lv_icmp_ne (tgt := 188) hx hb dX6_put_181 (by decide) (fun c165 => ?_) (fun c165 => ?_)
                · skip
                  refine lv_iconst (v := 0) hx hb dX6_put_188 (by decide) ?_
                  exact jn157 0 H _ ls (Or.inl rfl) hM hS (lv_sub hl [0, 1, 2, 3, 4, 5, 6] rfl)
                · skip
                  refine lv_iconst (v := 1) hx hb dX6_put_184 (by decide) ?_
                  refine lv_goto (tgt := 189) hx hb dX6_put_185 (by decide) ?_
                  exact jn157 1 H _ ls (Or.inr rfl) hM hS (lv_sub hl [0, 1, 2, 3, 4, 5, 6] rfl)
              · skip
                refine lv_aload_n hx hb dX6_put_160 rfl (lv_at hl 2 rfl) ?_
                refine lv_dup hx hb dX6_put_161 rfl ?_
                obtain ⟨u166, u167, hP, hf⟩ := o_mo (i := 0) (q := o) hM (by omega)
                refine va_get (D := (dC, dI)) (ci := 10) (v := .int u167) (C := RX6) (T := TX6) (N := 11) hx hb hts (by decide +kernel) hown hK hP 0 rfl rfl 8 (by decide) (hts (.fieldLink RX6 89 "SnowpalaceModel" "stored" "I") (by decide +kernel)) (fun _ h9 => h9) rfl dX6_put_162 ?_
                refine lv_iconst (v := 4) hx hb dX6_put_165 (by decide) ?_
                refine lv_isub hx hb dX6_put_166 ?_
                refine lv_topi (fun v168 e169 => ?_)
                obtain ⟨u170, u171, hP, hf⟩ := o_mo (i := 0) (q := o) hM (by omega)
                refine rt_put (D := (dC, dI)) (ci := 10) (v := .int v168) (ty := .int) (C := RX6) (T := TX6) (N := 11) hx hb hts (by decide +kernel) tyX6 tyX6_ok nmX6 hown hK hP (hM.ge (by omega)) hS rfl 8 (by decide) (hts (.fieldLink RX6 89 "SnowpalaceModel" "stored" "I") (by decide +kernel)) (fun _ h9 => h9) rfl (by decide +kernel) rfl rfl (Nat.le_of_ble_eq_true rfl) dX6_put_167 (fun H locs hP hz ho hS => ?_)
                have hM := s_mo (i := 0) hM (by omega) hP ho hf
                refine lv_goto (tgt := 194) hx hb dX6_put_170 (by decide) ?_
                exact jn66 H _ ls hM hS (lv_sub hl [0, 1, 2, 3, 4, 5, 6] rfl)
            · skip
              have g172 : 0 < x50 := bI_t hw62 c64
              have zg172 : r54 = 1 := bI_t1 hw62 g172
              refine lv_iconst (v := 0) hx hb dX6_put_151 (by decide) ?_
              have hq1 := GCm_x0 hM00 hG00 hto (((hx6.trans hx19).trans hx57) : Ext o X0 g g56)
              refine W.know (fun hkn1 hkn2 => ?_)
              subst hQ
              refine W.widen (k := 730) (n := 5600) (Nat.le_of_ble_eq_true rfl) (Nat.le_of_ble_eq_true rfl) ?_
              exact W.iret (v := 0) hx hb hr (fun t ht hW => ⟨⟨0, (g56, 0), rfl, ⟨(((hx6.trans hx19).trans hx57) : Ext o X0 g g56).wide0, by show GCm g56 o + 0 ≤ GCm g o + 1; omega⟩, ⟨CX.give hb0 hM hK hG hE hS ht hW, by rw [ht]; show _ ≤ sz + (20 + 14 * (1 + 0)); omega, by rw [ht]; show _ ≤ sg + (120 + 108 * (1 + 0)); omega⟩⟩, hS.F ht⟩) hS.2.2 dX6_put_152
          refine lv_if_ne (tgt := 131) hx hb dX6_put_118 (by decide) (fun c173 => ?_) (fun c173 => ?_)
          · skip
            obtain ⟨-, jx174, jy175, cl176, hp177, hp178, hj179, hj180, hc181⟩ := hw49.resolve_left c173
            have ej182 : jx174 = jx := ((nI_eq (a := jx) (b := jx174) (by omega) (by omega)).mp hp177).symm
            rw [ej182] at hc181
            have ej183 : jy175 = jy := ((nI_eq (a := jy) (b := jy175) (by omega) (by omega)).mp hp178).symm
            rw [ej183] at hc181
            refine lv_iconst (v := 3) hx hb dX6_put_131 (by decide) ?_
            refine lv_goto (tgt := 145) hx hb dX6_put_132 (by decide) ?_
            exact jn51 3 H _ ls hM hS (lv_sub hl [0, 1, 2, 3, 4, 5, 6] rfl)
          · skip
            refine lv_aload hx hb dX6_put_121 (lv_at hl 1 rfl) ?_
            refine lv_iload_n hx hb dX6_put_123 rfl (lv_at hl 4 rfl) ?_
            refine lv_iload_n hx hb dX6_put_124 rfl (lv_at hl 5 rfl) ?_
            obtain ⟨u184, u185, u186, u187, u188, u189, hP, hf⟩ := o_ms (i := j) (q := r29) hM (by omega)
            refine va_calli (va_runV (As := [.int (nI jx), .int (nI jy)]) (rest := [.ref o]) ⟨hx, hb, hml, hown, hts⟩ (rm_stands l dC dI kA eD b g18 r29 j jx jy (by omega) (by omega) (by omega)) (cwV 2 hts gX6_put_X5_stands rfl rfl rfl (by decide +kernel) ⟨Nat.le_of_ble_eq_true rfl, Nat.le_of_ble_eq_true rfl⟩) ⟨fb_CX, va_recv hK hP (ci := 9) (q0 := 0) rfl rfl, fun U hU hW => ⟨rfl, CX.give hb0 hM hK hG hE hS hU hW⟩⟩ rfl rfl hl.1 rfl (lv_room (Nat.le_of_ble_eq_true rfl)) dX6_put_125 ⟨(Nat.le_of_ble_eq_true rfl), (Nat.le_of_ble_eq_true rfl)⟩) hS (fun q _ h => h) (fun q h => h) (fun r190 u t H locs ht hvm hw191 hB hz1 hk1 hS => ?_)
            have hM := hB.back ht
            have hG := hB.2.2.2.1
            refine lv_if_ne (tgt := 135) hx hb dX6_put_128 (by decide) (fun c192 => ?_) (fun c192 => ?_)
            · skip
              refine lv_iload hx hb dX6_put_135 (lv_at hl 0 rfl) ?_
              refine lv_if_ne (tgt := 144) hx hb dX6_put_137 (by decide) (fun c193 => ?_) (fun c193 => ?_)
              · skip
                refine lv_iconst (v := 0) hx hb dX6_put_144 (by decide) ?_
                exact jn51 0 H _ ls hM hS (lv_sub hl [0, 1, 2, 3, 4, 5, 6] rfl)
              · skip
                refine lv_iconst (v := 4) hx hb dX6_put_140 (by decide) ?_
                refine lv_goto (tgt := 145) hx hb dX6_put_141 (by decide) ?_
                exact jn51 4 H _ ls hM hS (lv_sub hl [0, 1, 2, 3, 4, 5, 6] rfl)
            · skip
              refine lv_iconst (v := 3) hx hb dX6_put_131 (by decide) ?_
              refine lv_goto (tgt := 145) hx hb dX6_put_132 (by decide) ?_
              exact jn51 3 H _ ls hM hS (lv_sub hl [0, 1, 2, 3, 4, 5, 6] rfl)
        refine lv_icmp_ne (tgt := 83) hx hb dX6_put_64 (by decide) (fun c194 => ?_) (fun c194 => ?_)
        · skip
          refine lv_aload_n hx hb dX6_put_83 rfl (lv_at hl 1 rfl) ?_
          obtain ⟨u195, u196, hP, hf⟩ := o_mo (i := 0) (q := o) hM (by omega)
          refine va_get (D := (dC, dI)) (ci := 10) (v := .ref (pF g18 o 4)) (C := RX6) (T := TX6) (N := 11) hx hb hts (by decide +kernel) hown hK hP 0 rfl rfl 7 (by decide) (hts (.fieldLink RX6 28 "SnowpalaceModel" "yard" "[I") (by decide +kernel)) (fun _ h9 => h9) rfl dX6_put_84 ?_
          have ht197 : tg g18 (pF g18 o 4) = 25 := hf.2.2.2.2.1
          refine lv_iload hx hb dX6_put_87 (lv_at hl 5 rfl) ?_
          refine lv_bipush (v := 99) hx hb dX6_put_89 (by decide) ?_
          have jn199 : ∀ (x198 : Int32) (H : Heap) (locs : List Loc) (ls : Array Slot), (x198 = 0 ∨ x198 = 1) → TM (dC, dI) kA b g18 H → va_S (fun q => b ≤ q) s.heap H locs → lv_has ls 7 [(5, .ref r29), (0, .ref o), (1, .int (nI j)), (2, .int (nI jx)), (3, .int (nI jy)), (4, .int kd)] → W p l e (headSpec wsX6_put ({ frames := 7, cells := 730, slots := 5600, locals := 165 })).room s m args below meth c H locs 0 0 Q (F0 m 99 ls [.int x198, .ref (pF g18 o 4)]) := by
            intro x198 H locs ls hj200 hM hS hl
            obtain ⟨u201, hP, hf⟩ := o_ya (i := 0) (q := (pF g18 o 4)) hM (by omega)
            refine va_iald (D := (dC, dI)) hx hb hK hP 0 0 rfl rfl (in01 hj200) dX6_put_99 ?_
            refine lv_topi (fun v202 e203 => ?_)
            refine lv_if_le (tgt := 107) hx hb dX6_put_100 (by decide) (fun c204 => ?_) (fun c204 => ?_)
            · skip
              have i205 := (Int32.le_iff_toInt_le).mp c204
              have ii205 : (0 : Int32).toInt = 0 := by decide
              have i205 := i205
              refine lv_iconst (v := 0) hx hb dX6_put_107 (by decide) ?_
              exact jn40 0 H _ ls (Or.inl rfl) hM hS (lv_sub hl [0, 1, 2, 3, 4, 5] rfl)
            · skip
              have i206 := fun z => c204 ((Int32.le_iff_toInt_le).mpr z)
              have ii206 : (0 : Int32).toInt = 0 := by decide
              have i206 : ¬ ((v202 : Int32).toInt ≤ (0 : Int32).toInt) := i206
              refine lv_iconst (v := 1) hx hb dX6_put_103 (by decide) ?_
              refine lv_goto (tgt := 108) hx hb dX6_put_104 (by decide) ?_
              exact jn40 1 H _ ls (Or.inr rfl) hM hS (lv_sub hl [0, 1, 2, 3, 4, 5] rfl)
          refine lv_icmp_ne (tgt := 98) hx hb dX6_put_91 (by decide) (fun c207 => ?_) (fun c207 => ?_)
          · skip
            refine lv_iconst (v := 0) hx hb dX6_put_98 (by decide) ?_
            exact jn199 0 H _ ls (Or.inl rfl) hM hS (lv_sub hl [0, 1, 2, 3, 4, 5] rfl)
          · skip
            refine lv_iconst (v := 1) hx hb dX6_put_94 (by decide) ?_
            refine lv_goto (tgt := 99) hx hb dX6_put_95 (by decide) ?_
            exact jn199 1 H _ ls (Or.inr rfl) hM hS (lv_sub hl [0, 1, 2, 3, 4, 5] rfl)
        · skip
          refine lv_aload_n hx hb dX6_put_67 rfl (lv_at hl 1 rfl) ?_
          obtain ⟨u208, u209, hP, hf⟩ := o_mo (i := 0) (q := o) hM (by omega)
          refine va_get (D := (dC, dI)) (ci := 10) (v := .int u209) (C := RX6) (T := TX6) (N := 11) hx hb hts (by decide +kernel) hown hK hP 0 rfl rfl 8 (by decide) (hts (.fieldLink RX6 89 "SnowpalaceModel" "stored" "I") (by decide +kernel)) (fun _ h9 => h9) rfl dX6_put_68 ?_
          refine lv_iconst (v := 4) hx hb dX6_put_71 (by decide) ?_
          refine lv_icmp_lt (tgt := 79) hx hb dX6_put_72 (by decide) (fun c210 => ?_) (fun c210 => ?_)
          · skip
            have i211 := (Int32.lt_iff_toInt_lt).mp c210
            have ii211 : (4 : Int32).toInt = 4 := by decide
            have i211 := i211
            refine lv_iconst (v := 0) hx hb dX6_put_79 (by decide) ?_
            refine lv_goto (tgt := 108) hx hb dX6_put_80 (by decide) ?_
            exact jn40 0 H _ ls (Or.inl rfl) hM hS (lv_sub hl [0, 1, 2, 3, 4, 5] rfl)
          · skip
            have i212 := fun z => c210 ((Int32.lt_iff_toInt_lt).mpr z)
            have ii212 : (4 : Int32).toInt = 4 := by decide
            have i212 : ¬ ((u209 : Int32).toInt < (4 : Int32).toInt) := i212
            refine lv_iconst (v := 1) hx hb dX6_put_75 (by decide) ?_
            refine lv_goto (tgt := 108) hx hb dX6_put_76 (by decide) ?_
            exact jn40 1 H _ ls (Or.inr rfl) hM hS (lv_sub hl [0, 1, 2, 3, 4, 5] rfl)
      · skip
        have g213 : 0 < x12 := bI_t hw22 c24
        have zg213 : r16 = 1 := bI_t1 hw22 g213
        refine lv_iconst (v := 0) hx hb dX6_put_43 (by decide) ?_
        have hq1 := GCm_x0 hM00 hG00 hto ((hx6.trans hx19) : Ext o X0 g g18)
        refine W.know (fun hkn1 hkn2 => ?_)
        subst hQ
        refine W.widen (k := 730) (n := 5600) (Nat.le_of_ble_eq_true rfl) (Nat.le_of_ble_eq_true rfl) ?_
        exact W.iret (v := 0) hx hb hr (fun t ht hW => ⟨⟨0, (g18, 0), rfl, ⟨((hx6.trans hx19) : Ext o X0 g g18).wide0, by show GCm g18 o + 0 ≤ GCm g o + 1; omega⟩, ⟨CX.give hb0 hM hK hG hE hS ht hW, by rw [ht]; show _ ≤ sz + (20 + 14 * (1 + 0)); omega, by rw [ht]; show _ ≤ sg + (120 + 108 * (1 + 0)); omega⟩⟩, hS.F ht⟩) hS.2.2 dX6_put_44
    refine lv_icmp_eq (tgt := 36) hx hb dX6_put_15 (by decide) (fun c214 => ?_) (fun c214 => ?_)
    · skip
      refine lv_iconst (v := 0) hx hb dX6_put_36 (by decide) ?_
      exact jn13 0 H _ ls hM hS (lv_sub hl [0, 1, 2, 3, 4] rfl)
    · skip
      refine lv_iload hx hb dX6_put_18 (lv_at hl 4 rfl) ?_
      refine lv_bipush (v := 105) hx hb dX6_put_20 (by decide) ?_
      have jn215 : ∀  (H : Heap) (locs : List Loc) (ls : Array Slot), TM (dC, dI) kA b g5 H → va_S (fun q => b ≤ q) s.heap H locs → lv_has ls 7 [(0, .ref o), (1, .int (nI j)), (2, .int (nI jx)), (3, .int (nI jy)), (4, .int kd)] → W p l e (headSpec wsX6_put ({ frames := 7, cells := 730, slots := 5600, locals := 165 })).room s m args below meth c H locs 0 0 Q (F0 m 36 ls [.ref o]) := by
        intro H locs ls hM hS hl
        refine lv_iconst (v := 0) hx hb dX6_put_36 (by decide) ?_
        exact jn13 0 H _ ls hM hS (lv_sub hl [0, 1, 2, 3, 4] rfl)
      refine lv_icmp_eq (tgt := 36) hx hb dX6_put_22 (by decide) (fun c216 => ?_) (fun c216 => ?_)
      · skip
        exact jn215 H _ ls hM hS (lv_sub hl [0, 1, 2, 3, 4] rfl)
      · skip
        refine lv_iload hx hb dX6_put_25 (lv_at hl 4 rfl) ?_
        refine lv_bipush (v := 99) hx hb dX6_put_27 (by decide) ?_
        refine lv_icmp_eq (tgt := 36) hx hb dX6_put_29 (by decide) (fun c217 => ?_) (fun c217 => ?_)
        · skip
          exact jn215 H _ ls hM hS (lv_sub hl [0, 1, 2, 3, 4] rfl)
        · skip
          refine lv_iconst (v := 2) hx hb dX6_put_32 (by decide) ?_
          refine lv_goto (tgt := 37) hx hb dX6_put_33 (by decide) ?_
          exact jn13 2 H _ ls hM hS (lv_sub hl [0, 1, 2, 3, 4] rfl)

set_option maxHeartbeats 4000000 in
set_option maxRecDepth 100000 in
theorem rmf_carve (l : Launch) (dC : Nat → ClassId) (dI : Nat → Nat → Nat) (kA : Nat → ClassId) (eD b : Nat) (g : Gh) (sz sg : Nat) (o : Nat) (site : Int32) (x : Int32) (y : Int32) (ms : Int32) (hto : tg g o = 17)  : Met l yX6_carve wsX6_carve ({ frames := 7, cells := 730, slots := 5600, locals := 165 }) (va_Pc [.ref o, .int site, .int x, .int y, .int ms] (CXs (dC, dI) kA eD b g sz sg)) (va_Qi (fun (r : Int32) (u : Gh × Nat) => Ext o XA g u.1 ∧ GCm u.1 o + u.2 ≤ GCm g o + 1) (fun (u : Gh × Nat) t => (CX (dC, dI) kA eD b u.1 t ∧ (t.heap.size ≤ sz + (20 + 14 * (1 + u.2)) ∧ SH t.heap ≤ sg + (120 + 108 * (1 + u.2))))) (fun q => b ≤ q)) 730 5600 (fun q => b ≤ q) := by
  refine Met.ofW (cc := cX6_carve) (maxL := 7) (ret := (some .int)) (by decide +kernel) rfl ?_
  intro p e s m args below meth c s₁ B hml hv
  obtain ⟨rfl, ⟨hb0, hM, hK, hG, hE⟩, hsz, hsg⟩ := hv
  have hx := B.exec
  have hb := B.bytes
  have hr := B.returns
  have hts := atoms_spec (ws := wsX6_carve) B.pre
  have hown : s.vm.findClass RX6 = some m.cls := findClass_of_methodNamed B.named
  have hlocks := B.notSynchronized
  have hT := hE.1
  have hN := hE.2.2.2.2.2.2.2.1
  have hS : va_S (fun q => b ≤ q) s.heap s.heap [] := va_S.rf
  have hl := lv_entry ([.ref o, .int site, .int x, .int y, .int ms]) (n := 7) (Nat.le_of_ble_eq_true rfl)
  rw [lg_entry_eq]
  generalize (lg_sl ([.ref o, .int site, .int x, .int y, .int ms]) ++ List.replicate (7 - (lg_sl ([.ref o, .int site, .int x, .int y, .int ms])).length) Slot.unset).toArray = ls at hl ⊢
  have hl : lv_has ls 7 [(0, .ref o), (1, .int site), (2, .int x), (3, .int y), (4, .int ms)] := hl
  generalize ([.ref o, .int site, .int x, .int y, .int ms] : List Value).toArray = args at hts ⊢
  have hM00 := hM
  have hG00 := hG
  refine lv_aload_n hx hb dX6_carve_0 rfl (lv_at hl 0 rfl) ?_
  refine lv_iload_n hx hb dX6_carve_1 rfl (lv_at hl 1 rfl) ?_
  refine lv_iload_n hx hb dX6_carve_2 rfl (lv_at hl 2 rfl) ?_
  refine lv_iload_n hx hb dX6_carve_3 rfl (lv_at hl 3 rfl) ?_
  obtain ⟨u1, u2, hP, hf⟩ := o_mo (i := 0) (q := o) hM (by omega)
  refine va_calli (va_runV (As := [.int site, .int x, .int y]) (rest := []) ⟨hx, hb, hml, hown, hts⟩ (rm_isNoPlace l dC dI kA eD b g o site x y (by omega)) (cwV 3 hts gX6_carve_X6_isNoPlace rfl rfl rfl (by decide +kernel) ⟨Nat.le_of_ble_eq_true rfl, Nat.le_of_ble_eq_true rfl⟩) ⟨fb_CX, va_recv hK hP (ci := 10) (q0 := 0) rfl rfl, fun U hU hW => ⟨rfl, CX.give hb0 hM hK hG hE hS hU hW⟩⟩ rfl rfl hl.1 rfl (lv_room (Nat.le_of_ble_eq_true rfl)) dX6_carve_4 ⟨(Nat.le_of_ble_eq_true rfl), (Nat.le_of_ble_eq_true rfl)⟩) hS (fun q _ h => h) (fun q h => h) (fun r3 g5 t H locs ht hvm hw4 hB hz1 hk1 hS => ?_)
  have hM := hB.back ht
  have hG := hB.2.2.2.1
  have hx6 : Ext o X0 g g5 := hw4.1
  have ht7 : tg g5 o = 17 := hx6.tk hto (by omega)
  have hth8 := hw4.2.1
  refine lv_if_eq (tgt := 12) hx hb dX6_carve_7 (by decide) (fun c9 => ?_) (fun c9 => ?_)
  · skip
    have hv10 := vr0 (vr01 hw4.2.2) c9
    have hfm := (mo_list hM ht7).1
    have hls := (mo_list hM ht7).2
    obtain ⟨j, hj, rfl⟩ := toN (p := site) (k := 2) (by omega) (by omega) (by decide)
    have hl : lv_has ls 7 [(0, .ref o), (1, .int (nI j)), (2, .int x), (3, .int y), (4, .int ms)] := hl
    have ej : (nI j).toInt = (j : Int) := nI_toInt (by omega)
    obtain ⟨jx, hjx, rfl⟩ := toN (p := x) (k := 7) (by omega) (by omega) (by decide)
    have hl : lv_has ls 7 [(0, .ref o), (1, .int (nI j)), (2, .int (nI jx)), (3, .int y), (4, .int ms)] := hl
    have ejx : (nI jx).toInt = (jx : Int) := nI_toInt (by omega)
    obtain ⟨jy, hjy, rfl⟩ := toN (p := y) (k := 5) (by omega) (by omega) (by decide)
    have hl : lv_has ls 7 [(0, .ref o), (1, .int (nI j)), (2, .int (nI jx)), (3, .int (nI jy)), (4, .int ms)] := hl
    have ejy : (nI jy).toInt = (jy : Int) := nI_toInt (by omega)
    have hjs : (j : Int) < (pI g5 (pF g5 o 5) 0).toInt := by omega
    refine lv_aload_n hx hb dX6_carve_12 rfl (lv_at hl 0 rfl) ?_
    obtain ⟨u11, u12, hP, hf⟩ := o_mo (i := 0) (q := o) hM (by omega)
    refine va_get (D := (dC, dI)) (ci := 10) (v := .ref (pF g5 o 5)) (C := RX6) (T := TX6) (N := 11) hx hb hts (by decide +kernel) hown hK hP 0 rfl rfl 10 (by decide) (hts (.fieldLink RX6 34 "SnowpalaceModel" "sites" "Ljava/util/List;") (by decide +kernel)) (fun _ h9 => h9) rfl dX6_carve_13 ?_
    refine lv_iload_n hx hb dX6_carve_16 rfl (lv_at hl 1 rfl) ?_
    obtain ⟨hP, hf⟩ := o_al (i := 0) (q := (pF g5 o 5)) hM (by omega)
    refine va_callFr (va_runF (hK.1 3 _ rfl).2 (As := [.int (nI j)]) (rest := []) ⟨hx, hb, hml, hown, hts⟩ (rj_get l dC dI kA eD b g5 (pF g5 o 5) j (by omega) hjs) (va_cwF 1 hts gX6_carve_Jx4a65c_get_915e3_f149Jx4a65c rfl rfl rfl hE.2.2.2.2.1 (by decide +kernel) ⟨Nat.le_of_ble_eq_true rfl, Nat.le_of_ble_eq_true rfl⟩) ⟨fb_CX, va_recv hK hP (ci := 3) (q0 := 0) rfl rfl, fun U hU hW => ⟨rfl, CX.give hb0 hM hK hG hE hS hU hW⟩⟩ rfl rfl hl.1 rfl (lv_room (Nat.le_of_ble_eq_true rfl)) dX6_carve_17 ⟨(Nat.le_of_ble_eq_true rfl), (Nat.le_of_ble_eq_true rfl)⟩) hS (fun q _ h => h) (fun q h => h) (fun u r13 t H locs ht hvm hw14 hB hz1 hk1 hS => ?_)
    have hM := hB.1.back ht
    have hG := hB.1.2.2.2.1
    have ht15 : tg g5 r13 = 28 + 64 * j := hB.2.1
    have hg16 : pO g5 (pF g5 (pF g5 o 5) 0) j = some r13 := hB.2.2
    have hjv : (j : Int) < (pI g5 (pF g5 o 5) 0).toInt := hjs
    have hMv := hM
    have hGv := hG
    obtain ⟨u17, u18, u19, u20, u21, u22, hP, hf⟩ := o_ms (i := j) (q := r13) hM (by omega)
    refine va_castY hx hb hown (hts (.classLink RX6 125 "SnowpalaceModel$Site") (by decide +kernel)) hE.2.2.2.2.2.2.1 (va_recv hK hP (ci := 9) (q0 := 0) rfl rfl) dX6_carve_22 ?_
    refine lv_astore (lv' := [(5, .ref r13), (0, .ref o), (1, .int (nI j)), (2, .int (nI jx)), (3, .int (nI jy)), (4, .int ms)]) hx hb dX6_carve_25 hl (by decide) rfl (fun ls hl => ?_)
    refine lv_aload hx hb dX6_carve_27 (lv_at hl 0 rfl) ?_
    obtain ⟨u23, u24, u25, u26, u27, u28, hP, hf⟩ := o_ms (i := j) (q := r13) hM (by omega)
    refine va_getN (D := (dC, dI)) (ci := 9) (v := .ref (pF g5 r13 0)) (C := RX5) (T := TX5) (N := 10) hx hb hts (by decide +kernel) hown hK hP 0 rfl rfl 0 (by decide) (hN (.fieldLinkNest RX6 160 "SnowpalaceModel$Site" "cells" "[[LSnowpalaceModel$Cell;" RX6) (by decide +kernel)) (fun _ h9 => h9) rfl dX6_carve_29 ?_
    have ht29 : tg g5 (pF g5 r13 0) = 29 + 64 * j := hf.1
    refine lv_iload_n hx hb dX6_carve_32 rfl (lv_at hl 4 rfl) ?_
    obtain ⟨hP, hf⟩ := o_co (i := j) (q := (pF g5 r13 0)) hM (by omega)
    have ec : ((nI jy) : Int32).toNatClampNeg = jy := nI_clamp (by omega)
    refine rt_aldA (D := (dC, dI)) (t0 := 9) hx hb hK hP rfl (vp_in_nI (by omega) (by decide)) (y := (pF g5 (pF g5 r13 0) jy)) ((congrArg (fun z => if z < 6 then some (pF g5 (pF g5 r13 0) z) else none) ec).trans (if_pos (by omega))) dX6_carve_33 ?_
    have ht30 : tg g5 (pF g5 (pF g5 r13 0) jy) = 30 + 64 * (8 * j + jy) := (hf jy (by omega))
    refine lv_iload_n hx hb dX6_carve_34 rfl (lv_at hl 3 rfl) ?_
    obtain ⟨hP, hf⟩ := o_cr (i := (8 * j + jy)) (q := (pF g5 (pF g5 r13 0) jy)) hM (by omega)
    refine va_aldq (D := (dC, dI)) hx hb hK hP 0 8 rfl rfl (vp_in_nI (by omega) (by decide)) dX6_carve_35 ?_
    have ec : ((nI jx) : Int32).toNatClampNeg = jx := nI_clamp (by omega)
    rw [ec]
    have hq31 := hf jx (by omega)
    refine rt_astore (lv' := [(6, va_rf (pO g5 (pF g5 (pF g5 r13 0) jy) jx)), (5, .ref r13), (0, .ref o), (1, .int (nI j)), (2, .int (nI jx)), (3, .int (nI jy)), (4, .int ms)]) hx hb dX6_carve_36 hl (by decide) rfl (fun ls hl => ?_)
    refine lv_aload_n hx hb dX6_carve_38 rfl (lv_at hl 2 rfl) ?_
    refine lv_iload hx hb dX6_carve_39 (lv_at hl 6 rfl) ?_
    refine lv_i2l hx hb dX6_carve_41 rfl ?_
    refine lv_lconst (v := 0) hx hb dX6_carve_42 (by decide) ?_
    refine lv_ldc2 hx hb hown (hts (.constantLong RX6 52 200) (by decide +kernel)) dX6_carve_43 ?_
    refine va_calli (va_runS (As := [.long ms.toInt64, .long 0, .long 200]) (rest := [.ref o]) ⟨hx, hb, hml, hown, hts⟩ (rm_isBetween l ms.toInt64 0 200 ((ms : Int32).toInt) (0) (200) (Int32.toInt_toInt64 _) (by decide) (by decide)) (va_cwS 3 hts gX6_carve_X6_isBetween rfl rfl rfl (by decide +kernel) ⟨Nat.le_of_ble_eq_true rfl, Nat.le_of_ble_eq_true rfl⟩) ⟨fun a U g mk q => q, fun U hU hW => ⟨rfl, trivial⟩⟩ rfl rfl hl.1 rfl (lv_room (Nat.le_of_ble_eq_true rfl)) dX6_carve_46 ⟨(Nat.le_of_ble_eq_true rfl), (Nat.le_of_ble_eq_true rfl)⟩) hS (fun q _ h => h.elim) (fun q h => h.elim) (fun r32 u t H locs ht hvm hw33 hB hz1 hk1 hS => ?_)
    have hM := hM.keep (fun p hp => hk1 p hp (fun z => z))
    have hw33 : r32 = bI ((0 : Int) ≤ (ms : Int32).toInt ∧ (ms : Int32).toInt ≤ (200 : Int)) := hw33
    refine lv_if_ne (tgt := 56) hx hb dX6_carve_49 (by decide) (fun c34 => ?_) (fun c34 => ?_)
    · skip
      have g35 : (0 : Int) ≤ (ms : Int32).toInt ∧ (ms : Int32).toInt ≤ (200 : Int) := bI_t hw33 c34
      have zg35 : r32 = 1 := bI_t1 hw33 g35
      refine rt_aload hx hb dX6_carve_56 (lv_at hl 0 rfl) ?_
      rcases hy37 : (pO g5 (pF g5 (pF g5 r13 0) jy) jx) with _ | y36
      · skip
        try rw [hy37] at hl
        have hl : lv_has ls 7 [(6, .null), (5, .ref r13), (0, .ref o), (1, .int (nI j)), (2, .int (nI jx)), (3, .int (nI jy)), (4, .int ms)] := hl
        refine lv_ifnonnullN hx hb dX6_carve_58 ?_
        refine lv_iconst (v := 3) hx hb dX6_carve_61 (by decide) ?_
        refine lv_goto (tgt := 102) hx hb dX6_carve_62 (by decide) ?_
        obtain ⟨u38, u39, hP, hf⟩ := o_mo (i := 0) (q := o) hM (by omega)
        refine va_calli (va_runV (As := [.int 3]) (rest := []) ⟨hx, hb, hml, hown, hts⟩ (rm_isWrong l dC dI kA eD b g5 o 3 (by omega)) (cwV 1 hts gX6_carve_X6_isWrong rfl rfl rfl (by decide +kernel) ⟨Nat.le_of_ble_eq_true rfl, Nat.le_of_ble_eq_true rfl⟩) ⟨fb_CX, va_recv hK hP (ci := 10) (q0 := 0) rfl rfl, fun U hU hW => ⟨rfl, CX.give hb0 hM hK hG hE hS hU hW⟩⟩ rfl rfl hl.1 rfl (lv_room (Nat.le_of_ble_eq_true rfl)) dX6_carve_102 ⟨(Nat.le_of_ble_eq_true rfl), (Nat.le_of_ble_eq_true rfl)⟩) hS (fun q _ h => h) (fun q h => h) (fun r40 g42 t H locs ht hvm hw41 hB hz1 hk1 hS => ?_)
        have hM := hB.back ht
        have hG := hB.2.2.2.1
        have hx43 : Ext o X0 g5 g42 := hw41.1
        have ht44 : tg g42 o = 17 := hx43.tk ht7 (by omega)
        have ht45 : tg g42 (pF g5 o 5) = 26 := hx43.tk hfm (by omega)
        have ht46 : tg g42 r13 = 28 + 64 * j := hx43.tk ht15 (by omega)
        have ht47 : tg g42 (pF g5 r13 0) = 29 + 64 * j := hx43.tk ht29 (by omega)
        have ht48 : tg g42 (pF g5 (pF g5 r13 0) jy) = 30 + 64 * (8 * j + jy) := hx43.tk ht30 (by omega)
        obtain rfl : r40 = 1 := hw41.2.2.trans (by decide)
        have hth49 : pI g42 o 2 = 3 := by rw [hw41.2.1]; exact sI_at
        refine lv_if_eq (tgt := 110) hx hb dX6_carve_105 (by decide) (fun cx => by first | exact absurd cx (by decide) | exact absurd (by decide) cx) (fun _ => ?_)
        refine lv_iconst (v := 0) hx hb dX6_carve_108 (by decide) ?_
        have hq1 := GCm_x0 hM00 hG00 hto ((hx6.trans hx43) : Ext o X0 g g42)
        refine W.know (fun hkn1 hkn2 => ?_)
        refine W.widen (k := 730) (n := 5600) (Nat.le_of_ble_eq_true rfl) (Nat.le_of_ble_eq_true rfl) ?_
        exact W.iret (v := 0) hx hb hr (fun t ht hW => ⟨⟨0, (g42, 0), rfl, ⟨((hx6.trans hx43) : Ext o X0 g g42).wide0, by show GCm g42 o + 0 ≤ GCm g o + 1; omega⟩, ⟨CX.give hb0 hM hK hG hE hS ht hW, by rw [ht]; show _ ≤ sz + (20 + 14 * (1 + 0)); omega, by rw [ht]; show _ ≤ sg + (120 + 108 * (1 + 0)); omega⟩⟩, hS.F ht⟩) hS.2.2 dX6_carve_109
      · skip
        try rw [hy37] at hl
        have hl : lv_has ls 7 [(6, .ref y36), (5, .ref r13), (0, .ref o), (1, .int (nI j)), (2, .int (nI jx)), (3, .int (nI jy)), (4, .int ms)] := hl
        have ht50 : tg g5 y36 = 31 := hq31 y36 hy37
        refine lv_ifnonnull (tgt := 65) hx hb dX6_carve_58 (by decide) ?_
        refine lv_aload hx hb dX6_carve_65 (lv_at hl 1 rfl) ?_
        obtain ⟨u51, u52, u53, u54, u55, u56, hP, hf⟩ := o_ms (i := j) (q := r13) hM (by omega)
        refine va_getN (D := (dC, dI)) (ci := 9) (v := .int u54) (C := RX5) (T := TX5) (N := 10) hx hb hts (by decide +kernel) hown hK hP 0 rfl rfl 6 (by decide) (hN (.fieldLinkNest RX6 256 "SnowpalaceModel$Site" "carved" "I" RX6) (by decide +kernel)) (fun _ h9 => h9) rfl dX6_carve_67 ?_
        refine lv_bipush (v := 60) hx hb dX6_carve_70 (by decide) ?_
        refine lv_icmp_ne (tgt := 79) hx hb dX6_carve_72 (by decide) (fun c57 => ?_) (fun c57 => ?_)
        · skip
          refine lv_iload hx hb dX6_carve_79 (lv_at hl 6 rfl) ?_
          refine lv_if_le (tgt := 101) hx hb dX6_carve_81 (by decide) (fun c58 => ?_) (fun c58 => ?_)
          · skip
            have i59 := (Int32.le_iff_toInt_le).mp c58
            have ii59 : (0 : Int32).toInt = 0 := by decide
            have i59 := i59
            refine lv_iconst (v := 0) hx hb dX6_carve_101 (by decide) ?_
            obtain ⟨u60, u61, hP, hf⟩ := o_mo (i := 0) (q := o) hM (by omega)
            refine va_calli (va_runV (As := [.int 0]) (rest := []) ⟨hx, hb, hml, hown, hts⟩ (rm_isWrong l dC dI kA eD b g5 o 0 (by omega)) (cwV 1 hts gX6_carve_X6_isWrong rfl rfl rfl (by decide +kernel) ⟨Nat.le_of_ble_eq_true rfl, Nat.le_of_ble_eq_true rfl⟩) ⟨fb_CX, va_recv hK hP (ci := 10) (q0 := 0) rfl rfl, fun U hU hW => ⟨rfl, CX.give hb0 hM hK hG hE hS hU hW⟩⟩ rfl rfl hl.1 rfl (lv_room (Nat.le_of_ble_eq_true rfl)) dX6_carve_102 ⟨(Nat.le_of_ble_eq_true rfl), (Nat.le_of_ble_eq_true rfl)⟩) hS (fun q _ h => h) (fun q h => h) (fun r62 g64 t H locs ht hvm hw63 hB hz1 hk1 hS => ?_)
            have hM := hB.back ht
            have hG := hB.2.2.2.1
            have hx65 : Ext o X0 g5 g64 := hw63.1
            have ht66 : tg g64 o = 17 := hx65.tk ht7 (by omega)
            have ht67 : tg g64 (pF g5 o 5) = 26 := hx65.tk hfm (by omega)
            have ht68 : tg g64 r13 = 28 + 64 * j := hx65.tk ht15 (by omega)
            have ht69 : tg g64 (pF g5 r13 0) = 29 + 64 * j := hx65.tk ht29 (by omega)
            have ht70 : tg g64 (pF g5 (pF g5 r13 0) jy) = 30 + 64 * (8 * j + jy) := hx65.tk ht30 (by omega)
            have ht71 : tg g64 y36 = 31 := hx65.tk ht50 (by omega)
            obtain rfl : r62 = 0 := hw63.2.2.trans (by decide)
            have hth72 : pI g64 o 2 = 0 := by rw [hw63.2.1]; exact sI_at
            refine lv_if_eq (tgt := 110) hx hb dX6_carve_105 (by decide) (fun _ => ?_) (fun cx => by first | exact absurd (by decide) cx | exact absurd cx (by decide))
            refine lv_aload hx hb dX6_carve_110 (lv_at hl 1 rfl) ?_
            refine lv_dup hx hb dX6_carve_112 rfl ?_
            obtain ⟨u73, u74, u75, u76, u77, u78, hP, hf⟩ := o_ms (i := j) (q := r13) hM (by omega)
            refine va_getN (D := (dC, dI)) (ci := 9) (v := .int u76) (C := RX5) (T := TX5) (N := 10) hx hb hts (by decide +kernel) hown hK hP 0 rfl rfl 6 (by decide) (hN (.fieldLinkNest RX6 256 "SnowpalaceModel$Site" "carved" "I" RX6) (by decide +kernel)) (fun _ h9 => h9) rfl dX6_carve_113 ?_
            refine lv_iconst (v := 1) hx hb dX6_carve_116 (by decide) ?_
            refine lv_iadd hx hb dX6_carve_117 ?_
            refine lv_topi (fun v79 e80 => ?_)
            obtain ⟨u81, u82, u83, u84, u85, u86, hP, hf⟩ := o_ms (i := j) (q := r13) hM (by omega)
            refine rt_putN (D := (dC, dI)) (ci := 9) (v := .int v79) (ty := .int) (C := RX5) (T := TX5) (N := 10) hx hb hts (by decide +kernel) tyX5 tyX5_ok nmX5 hown hK hP (hM.ge (by omega)) hS rfl 6 (by decide) (hN (.fieldLinkNest RX6 256 "SnowpalaceModel$Site" "carved" "I" RX6) (by decide +kernel)) (fun _ h9 => h9) rfl (by decide +kernel) rfl rfl (Nat.le_of_ble_eq_true rfl) dX6_carve_118 (fun H locs hP hz ho hS => ?_)
            have hM := s_ms (i := j) hM (by omega) hP ho hf
            refine lv_iload hx hb dX6_carve_121 (lv_at hl 6 rfl) ?_
            refine lv_if_ne (tgt := 139) hx hb dX6_carve_123 (by decide) (fun c87 => ?_) (fun c87 => ?_)
            · skip
              refine lv_aload hx hb dX6_carve_139 (lv_at hl 0 rfl) ?_
              refine lv_dup hx hb dX6_carve_141 rfl ?_
              obtain ⟨u88, u89, u90, u91, u92, hP, hf⟩ := o_ce (i := 0) (q := y36) hM (by omega)
              refine va_getN (D := (dC, dI)) (ci := 8) (v := .int u89) (C := RX4) (T := TX4) (N := 5) hx hb hts (by decide +kernel) hown hK hP 0 rfl rfl 1 (by decide) (hN (.fieldLinkNest RX6 182 "SnowpalaceModel$Cell" "mass" "I" RX6) (by decide +kernel)) (fun _ h9 => h9) rfl dX6_carve_142 ?_
              refine lv_iload hx hb dX6_carve_145 (lv_at hl 6 rfl) ?_
              refine lv_isub hx hb dX6_carve_147 ?_
              refine lv_topi (fun v93 e94 => ?_)
              obtain ⟨u95, u96, u97, u98, u99, hP, hf⟩ := o_ce (i := 0) (q := y36) hM (by omega)
              refine rt_putN (D := (dC, dI)) (ci := 8) (v := .int v93) (ty := .int) (C := RX4) (T := TX4) (N := 5) hx hb hts (by decide +kernel) tyX4 tyX4_ok nmX4 hown hK hP (hM.ge (by omega)) hS rfl 1 (by decide) (hN (.fieldLinkNest RX6 182 "SnowpalaceModel$Cell" "mass" "I" RX6) (by decide +kernel)) (fun _ h9 => h9) rfl (by decide +kernel) rfl rfl (Nat.le_of_ble_eq_true rfl) dX6_carve_148 (fun H locs hP hz ho hS => ?_)
              have hM := s_ce (i := 0) hM (by omega) hP ho hf
              refine lv_aload hx hb dX6_carve_151 (lv_at hl 1 rfl) ?_
              refine lv_aload_n hx hb dX6_carve_153 rfl (lv_at hl 2 rfl) ?_
              refine lv_aload_n hx hb dX6_carve_154 rfl (lv_at hl 2 rfl) ?_
              obtain ⟨u100, u101, hP, hf⟩ := o_mo (i := 0) (q := o) hM (by omega)
              refine va_get (D := (dC, dI)) (ci := 10) (v := .int (pI g64 o 0)) (C := RX6) (T := TX6) (N := 11) hx hb hts (by decide +kernel) hown hK hP 0 rfl rfl 2 (by decide) (hts (.fieldLink RX6 58 "SnowpalaceModel" "hour" "I") (by decide +kernel)) (fun _ h9 => h9) rfl dX6_carve_155 ?_
              have hv102 := hf.2.2.2.2.2.2.1
              obtain ⟨j103, hj103, en104⟩ := toN (p := (pI g64 o 0)) (k := 504) (by omega) (by omega) (by decide)
              rw [en104]
              try rw [en104] at hl
              have hl : lv_has ls 7 [(6, .ref y36), (5, .ref r13), (0, .ref o), (1, .int (nI j)), (2, .int (nI jx)), (3, .int (nI jy)), (4, .int ms)] := hl
              obtain ⟨u105, u106, hP, hf⟩ := o_mo (i := 0) (q := o) hM (by omega)
              refine va_calli (va_runV (As := [.int (nI j103)]) (rest := [.ref r13]) ⟨hx, hb, hml, hown, hts⟩ (rm_warmthOf l dC dI kA eD b g64 o j103 (by omega) (by omega)) (cwV 1 hts gX6_carve_X6_warmthOf rfl rfl rfl (by decide +kernel) ⟨Nat.le_of_ble_eq_true rfl, Nat.le_of_ble_eq_true rfl⟩) ⟨fb_CX, va_recv hK hP (ci := 10) (q0 := 0) rfl rfl, fun U hU hW => ⟨rfl, CX.give hb0 hM hK hG hE hS hU hW⟩⟩ rfl rfl hl.1 rfl (lv_room (Nat.le_of_ble_eq_true rfl)) dX6_carve_158 ⟨(Nat.le_of_ble_eq_true rfl), (Nat.le_of_ble_eq_true rfl)⟩) hS (fun q _ h => h) (fun q h => h) (fun r107 u t H locs ht hvm hw108 hB hz1 hk1 hS => ?_)
              have hM := hB.back ht
              have hG := hB.2.2.2.1
              obtain ⟨u109, u110, u111, u112, u113, u114, hP, hf⟩ := o_ms (i := j) (q := r13) hM (by omega)
              refine W.know (fun hkn1 hkn2 => ?_)
              refine va_calli (va_runV (As := [.int r107]) (rest := []) ⟨hx, hb, hml, hown, hts⟩ (rm_settles l dC dI kA eD b g64 H.size (SH H) r13 j o o r107 (by omega) (by omega) (Or.inr ht66)) (cwV 1 hts gX6_carve_X5_settles rfl rfl rfl (by decide +kernel) ⟨Nat.le_of_ble_eq_true rfl, Nat.le_of_ble_eq_true rfl⟩) ⟨fb_CXs, va_recv hK hP (ci := 9) (q0 := 0) rfl rfl, fun U hU hW => ⟨rfl, CXs.give hb0 hM hK hG hE hS hU hW⟩⟩ rfl rfl hl.1 rfl (lv_room (Nat.le_of_ble_eq_true rfl)) dX6_carve_161 ⟨(Nat.le_of_ble_eq_true rfl), (Nat.le_of_ble_eq_true rfl)⟩) hS (fun q _ h => h) (fun q h => h) (fun r115 g117 t H locs ht hvm hw116 hB hz1 hk1 hS => ?_)
              have hM := hB.1.back ht
              have hG := hB.1.2.2.2.1
              obtain ⟨g117, d118⟩ := g117
              have hgr := hB.2
              rw [ht] at hgr
              refine W.shrink (k := 0 + 14 * (1 + d118)) (n := 0 + 108 * (1 + d118)) (by have := hgr.1; omega) (by have := hgr.2; omega) ?_
              have hx119 : Ext o (XS j) g64 g117 := hw116.1
              have ht120 : tg g117 o = 17 := hx119.tk ht66 (by omega)
              have ht121 : tg g117 (pF g5 o 5) = 26 := hx119.tk ht67 (by omega)
              have ht122 : tg g117 r13 = 28 + 64 * j := hx119.tk ht68 (by omega)
              have ht123 : tg g117 (pF g5 r13 0) = 29 + 64 * j := hx119.tk ht69 (by omega)
              have ht124 : tg g117 (pF g5 (pF g5 r13 0) jy) = 30 + 64 * (8 * j + jy) := hx119.tk ht70 (by omega)
              have ht125 : tg g117 y36 = 31 := hx119.tk ht71 (by omega)
              have hMs := hM
              have hd48 : d118 ≤ 48 := by have h4 : gc g117 r13 + d118 = gc g64 r13 := hw116.2; have h5 : gc g64 r13 ≤ 48 := gc_le; omega
              have hq1 := GCm_x0 hM00 hG00 hto (hx6 : Ext o X0 g g5)
              have hq2 := GCm_site hMv hGv ht7 (((hx65.wide0 (Y := (XS j))).trans hx119) : Ext o (XS j) g5 g117) hjv hg16
              have hq3 : gc g64 r13 = gc g5 r13 := gc_ext hMv (hx65 : Ext o X0 g5 g64) ht15 (fun y _ z => z)
              have hq4 : gc g117 r13 + d118 = gc g64 r13 := hw116.2
              refine W.know (fun hkn1 hkn2 => ?_)
              refine W.widen (k := 730) (n := 5600) (by omega) (by omega) ?_
              exact W.iret (v := r115) hx hb hr (fun t ht hW => ⟨⟨r115, (g117, d118), rfl, ⟨(((hx6.wide0 (Y := XA)).trans (hx65.wide0 (Y := XA))).trans hx119.wideA), by show GCm g117 o + d118 ≤ GCm g o + 1; omega⟩, ⟨CX.give hb0 hM hK hG hE hS ht hW, by rw [ht]; show _ ≤ sz + (20 + 14 * (1 + d118)); omega, by rw [ht]; show _ ≤ sg + (120 + 108 * (1 + d118)); omega⟩⟩, hS.F ht⟩) hS.2.2 dX6_carve_164
            · skip
              refine lv_aload hx hb dX6_carve_126 (lv_at hl 1 rfl) ?_
              obtain ⟨u126, u127, u128, u129, u130, u131, hP, hf⟩ := o_ms (i := j) (q := r13) hM (by omega)
              refine va_getN (D := (dC, dI)) (ci := 9) (v := .ref (pF g64 r13 0)) (C := RX5) (T := TX5) (N := 10) hx hb hts (by decide +kernel) hown hK hP 0 rfl rfl 0 (by decide) (hN (.fieldLinkNest RX6 160 "SnowpalaceModel$Site" "cells" "[[LSnowpalaceModel$Cell;" RX6) (by decide +kernel)) (fun _ h9 => h9) rfl dX6_carve_128 ?_
              have ht132 : tg g64 (pF g64 r13 0) = 29 + 64 * j := hf.1
              refine lv_iload_n hx hb dX6_carve_131 rfl (lv_at hl 5 rfl) ?_
              obtain ⟨hP, hf⟩ := o_co (i := j) (q := (pF g64 r13 0)) hM (by omega)
              have ec : ((nI jy) : Int32).toNatClampNeg = jy := nI_clamp (by omega)
              refine rt_aldA (D := (dC, dI)) (t0 := 9) hx hb hK hP rfl (vp_in_nI (by omega) (by decide)) (y := (pF g64 (pF g64 r13 0) jy)) ((congrArg (fun z => if z < 6 then some (pF g64 (pF g64 r13 0) z) else none) ec).trans (if_pos (by omega))) dX6_carve_132 ?_
              have ht133 : tg g64 (pF g64 (pF g64 r13 0) jy) = 30 + 64 * (8 * j + jy) := (hf jy (by omega))
              refine lv_iload_n hx hb dX6_carve_133 rfl (lv_at hl 4 rfl) ?_
              refine lv_null hx hb dX6_carve_134 ?_
              have hgt134 := grid_tags hM ht68
              have ht135 : tg g64 (pF g64 (pF g64 r13 0) jy) = 30 + 64 * (8 * j + jy) := hgt134.2 jy (by omega)
              have hMp := hM
              obtain ⟨hP, hf⟩ := o_cr (i := (8 * j + jy)) (q := (pF g64 (pF g64 r13 0) jy)) hM (by omega)
              refine rt_astqN (D := (dC, dI)) (t0 := 8) hx hb hK hP (hM.ge (by omega)) hS rfl (vp_in_nI (by omega) (by decide)) dX6_carve_135 (fun H locs hP hz ho hS => ?_)
              have ec : ((nI jx) : Int32).toNatClampNeg = jx := nI_clamp (by omega)
              rw [ec] at hP
              have hM0 := hM
              have hM := p_cr (i := (8 * j + jy)) (f := va_up (pO g64 (pF g64 (pF g64 r13 0) jy)) jx (none)) hM (by omega) hP ho (up_none hf)
              obtain ⟨g136, hg136⟩ : ∃ z, z = uO g64 (pF g64 (pF g64 r13 0) jy) (va_up (pO g64 (pF g64 (pF g64 r13 0) jy)) jx (none)) := ⟨_, rfl⟩
              rw [← hg136] at hM
              have ht137 : tg g136 o = 17 := by rw [hg136]; exact ht66
              have ht138 : tg g136 (pF g5 o 5) = 26 := by rw [hg136]; exact ht67
              have ht139 : tg g136 r13 = 28 + 64 * j := by rw [hg136]; exact ht68
              have ht140 : tg g136 (pF g5 r13 0) = 29 + 64 * j := by rw [hg136]; exact ht69
              have ht141 : tg g136 (pF g5 (pF g5 r13 0) jy) = 30 + 64 * (8 * j + jy) := by rw [hg136]; exact ht70
              have ht142 : tg g136 y36 = 31 := by rw [hg136]; exact ht71
              have ht143 : tg g136 (pF g64 r13 0) = 29 + 64 * j := by rw [hg136]; exact ht132
              have ht144 : tg g136 (pF g64 (pF g64 r13 0) jy) = 30 + 64 * (8 * j + jy) := by rw [hg136]; exact ht135
              have hG : GOK g136 := by rw [hg136]; exact (hG.uO hM0 (by omega))
              have hx146 : Ext o (XS j) g64 g136 := by rw [hg136]; exact Ext.row (X := XS j) ⟨jy, by omega, ht135⟩
              have hp147 : gc g136 r13 ≤ gc g64 r13 := by rw [hg136]; exact gc_out hgt134.2 (by omega) (by omega)
              have he148 : gc g64 r13 = gc g5 r13 := gc_ext hMv (hx65 : Ext o X0 g5 g64) ht15 (fun y _ z => z)
              have hMq149 := hM
              refine lv_goto (tgt := 151) hx hb dX6_carve_136 (by decide) ?_
              refine lv_aload hx hb dX6_carve_151 (lv_at hl 1 rfl) ?_
              refine lv_aload_n hx hb dX6_carve_153 rfl (lv_at hl 2 rfl) ?_
              refine lv_aload_n hx hb dX6_carve_154 rfl (lv_at hl 2 rfl) ?_
              obtain ⟨u150, u151, hP, hf⟩ := o_mo (i := 0) (q := o) hM (by omega)
              refine va_get (D := (dC, dI)) (ci := 10) (v := .int (pI g136 o 0)) (C := RX6) (T := TX6) (N := 11) hx hb hts (by decide +kernel) hown hK hP 0 rfl rfl 2 (by decide) (hts (.fieldLink RX6 58 "SnowpalaceModel" "hour" "I") (by decide +kernel)) (fun _ h9 => h9) rfl dX6_carve_155 ?_
              have hv152 := hf.2.2.2.2.2.2.1
              obtain ⟨j153, hj153, en154⟩ := toN (p := (pI g136 o 0)) (k := 504) (by omega) (by omega) (by decide)
              rw [en154]
              try rw [en154] at hl
              have hl : lv_has ls 7 [(6, .ref y36), (5, .ref r13), (0, .ref o), (1, .int (nI j)), (2, .int (nI jx)), (3, .int (nI jy)), (4, .int ms)] := hl
              obtain ⟨u155, u156, hP, hf⟩ := o_mo (i := 0) (q := o) hM (by omega)
              refine va_calli (va_runV (As := [.int (nI j153)]) (rest := [.ref r13]) ⟨hx, hb, hml, hown, hts⟩ (rm_warmthOf l dC dI kA eD b g136 o j153 (by omega) (by omega)) (cwV 1 hts gX6_carve_X6_warmthOf rfl rfl rfl (by decide +kernel) ⟨Nat.le_of_ble_eq_true rfl, Nat.le_of_ble_eq_true rfl⟩) ⟨fb_CX, va_recv hK hP (ci := 10) (q0 := 0) rfl rfl, fun U hU hW => ⟨rfl, CX.give hb0 hM hK hG hE hS hU hW⟩⟩ rfl rfl hl.1 rfl (lv_room (Nat.le_of_ble_eq_true rfl)) dX6_carve_158 ⟨(Nat.le_of_ble_eq_true rfl), (Nat.le_of_ble_eq_true rfl)⟩) hS (fun q _ h => h) (fun q h => h) (fun r157 u t H locs ht hvm hw158 hB hz1 hk1 hS => ?_)
              have hM := hB.back ht
              have hG := hB.2.2.2.1
              obtain ⟨u159, u160, u161, u162, u163, u164, hP, hf⟩ := o_ms (i := j) (q := r13) hM (by omega)
              refine W.know (fun hkn1 hkn2 => ?_)
              refine va_calli (va_runV (As := [.int r157]) (rest := []) ⟨hx, hb, hml, hown, hts⟩ (rm_settles l dC dI kA eD b g136 H.size (SH H) r13 j o o r157 (by omega) (by omega) (Or.inr ht137)) (cwV 1 hts gX6_carve_X5_settles rfl rfl rfl (by decide +kernel) ⟨Nat.le_of_ble_eq_true rfl, Nat.le_of_ble_eq_true rfl⟩) ⟨fb_CXs, va_recv hK hP (ci := 9) (q0 := 0) rfl rfl, fun U hU hW => ⟨rfl, CXs.give hb0 hM hK hG hE hS hU hW⟩⟩ rfl rfl hl.1 rfl (lv_room (Nat.le_of_ble_eq_true rfl)) dX6_carve_161 ⟨(Nat.le_of_ble_eq_true rfl), (Nat.le_of_ble_eq_true rfl)⟩) hS (fun q _ h => h) (fun q h => h) (fun r165 g167 t H locs ht hvm hw166 hB hz1 hk1 hS => ?_)
              have hM := hB.1.back ht
              have hG := hB.1.2.2.2.1
              obtain ⟨g167, d168⟩ := g167
              have hgr := hB.2
              rw [ht] at hgr
              refine W.shrink (k := 0 + 14 * (1 + d168)) (n := 0 + 108 * (1 + d168)) (by have := hgr.1; omega) (by have := hgr.2; omega) ?_
              have hx169 : Ext o (XS j) g136 g167 := hw166.1
              have ht170 : tg g167 o = 17 := hx169.tk ht137 (by omega)
              have ht171 : tg g167 (pF g5 o 5) = 26 := hx169.tk ht138 (by omega)
              have ht172 : tg g167 r13 = 28 + 64 * j := hx169.tk ht139 (by omega)
              have ht173 : tg g167 (pF g5 r13 0) = 29 + 64 * j := hx169.tk ht140 (by omega)
              have ht174 : tg g167 (pF g5 (pF g5 r13 0) jy) = 30 + 64 * (8 * j + jy) := hx169.tk ht141 (by omega)
              have ht175 : tg g167 y36 = 31 := hx169.tk ht142 (by omega)
              have ht176 : tg g167 (pF g64 r13 0) = 29 + 64 * j := hx169.tk ht143 (by omega)
              have ht177 : tg g167 (pF g64 (pF g64 r13 0) jy) = 30 + 64 * (8 * j + jy) := hx169.tk ht144 (by omega)
              have hMs := hM
              have hd48 : d168 ≤ 48 := by have h4 : gc g167 r13 + d168 = gc g136 r13 := hw166.2; have h5 : gc g136 r13 ≤ 48 := gc_le; omega
              have hq1 := GCm_x0 hM00 hG00 hto (hx6 : Ext o X0 g g5)
              have hq2 := GCm_site hMv hGv ht7 ((((hx65.wide0 (Y := (XS j))).trans hx146).trans hx169) : Ext o (XS j) g5 g167) hjv hg16
              have hq4 : gc g167 r13 + d168 = gc g136 r13 := hw166.2
              refine W.know (fun hkn1 hkn2 => ?_)
              refine W.widen (k := 730) (n := 5600) (by omega) (by omega) ?_
              exact W.iret (v := r165) hx hb hr (fun t ht hW => ⟨⟨r165, (g167, d168), rfl, ⟨((((hx6.wide0 (Y := XA)).trans (hx65.wide0 (Y := XA))).trans hx146.wideA).trans hx169.wideA), by show GCm g167 o + d168 ≤ GCm g o + 1; omega⟩, ⟨CX.give hb0 hM hK hG hE hS ht hW, by rw [ht]; show _ ≤ sz + (20 + 14 * (1 + d168)); omega, by rw [ht]; show _ ≤ sg + (120 + 108 * (1 + d168)); omega⟩⟩, hS.F ht⟩) hS.2.2 dX6_carve_164
          · skip
            have i178 := fun z => c58 ((Int32.le_iff_toInt_le).mpr z)
            have ii178 : (0 : Int32).toInt = 0 := by decide
            have i178 : ¬ ((ms : Int32).toInt ≤ (0 : Int32).toInt) := i178
            refine lv_aload hx hb dX6_carve_84 (lv_at hl 0 rfl) ?_
            obtain ⟨u179, u180, u181, u182, u183, hP, hf⟩ := o_ce (i := 0) (q := y36) hM (by omega)
            refine va_getN (D := (dC, dI)) (ci := 8) (v := .int u180) (C := RX4) (T := TX4) (N := 5) hx hb hts (by decide +kernel) hown hK hP 0 rfl rfl 1 (by decide) (hN (.fieldLinkNest RX6 182 "SnowpalaceModel$Cell" "mass" "I" RX6) (by decide +kernel)) (fun _ h9 => h9) rfl dX6_carve_86 ?_
            refine lv_iload hx hb dX6_carve_89 (lv_at hl 6 rfl) ?_
            refine lv_isub hx hb dX6_carve_91 ?_
            refine lv_topi (fun v184 e185 => ?_)
            refine lv_bipush (v := 100) hx hb dX6_carve_92 (by decide) ?_
            refine lv_icmp_gt (tgt := 101) hx hb dX6_carve_94 (by decide) (fun c186 => ?_) (fun c186 => ?_)
            · skip
              have i187 := (Int32.lt_iff_toInt_lt).mp c186
              have ii187 : (100 : Int32).toInt = 100 := by decide
              have i187 := i187
              refine lv_iconst (v := 0) hx hb dX6_carve_101 (by decide) ?_
              obtain ⟨u188, u189, hP, hf⟩ := o_mo (i := 0) (q := o) hM (by omega)
              refine va_calli (va_runV (As := [.int 0]) (rest := []) ⟨hx, hb, hml, hown, hts⟩ (rm_isWrong l dC dI kA eD b g5 o 0 (by omega)) (cwV 1 hts gX6_carve_X6_isWrong rfl rfl rfl (by decide +kernel) ⟨Nat.le_of_ble_eq_true rfl, Nat.le_of_ble_eq_true rfl⟩) ⟨fb_CX, va_recv hK hP (ci := 10) (q0 := 0) rfl rfl, fun U hU hW => ⟨rfl, CX.give hb0 hM hK hG hE hS hU hW⟩⟩ rfl rfl hl.1 rfl (lv_room (Nat.le_of_ble_eq_true rfl)) dX6_carve_102 ⟨(Nat.le_of_ble_eq_true rfl), (Nat.le_of_ble_eq_true rfl)⟩) hS (fun q _ h => h) (fun q h => h) (fun r190 g192 t H locs ht hvm hw191 hB hz1 hk1 hS => ?_)
              have hM := hB.back ht
              have hG := hB.2.2.2.1
              have hx193 : Ext o X0 g5 g192 := hw191.1
              have ht194 : tg g192 o = 17 := hx193.tk ht7 (by omega)
              have ht195 : tg g192 (pF g5 o 5) = 26 := hx193.tk hfm (by omega)
              have ht196 : tg g192 r13 = 28 + 64 * j := hx193.tk ht15 (by omega)
              have ht197 : tg g192 (pF g5 r13 0) = 29 + 64 * j := hx193.tk ht29 (by omega)
              have ht198 : tg g192 (pF g5 (pF g5 r13 0) jy) = 30 + 64 * (8 * j + jy) := hx193.tk ht30 (by omega)
              have ht199 : tg g192 y36 = 31 := hx193.tk ht50 (by omega)
              obtain rfl : r190 = 0 := hw191.2.2.trans (by decide)
              have hth200 : pI g192 o 2 = 0 := by rw [hw191.2.1]; exact sI_at
              refine lv_if_eq (tgt := 110) hx hb dX6_carve_105 (by decide) (fun _ => ?_) (fun cx => by first | exact absurd (by decide) cx | exact absurd cx (by decide))
              refine lv_aload hx hb dX6_carve_110 (lv_at hl 1 rfl) ?_
              refine lv_dup hx hb dX6_carve_112 rfl ?_
              obtain ⟨u201, u202, u203, u204, u205, u206, hP, hf⟩ := o_ms (i := j) (q := r13) hM (by omega)
              refine va_getN (D := (dC, dI)) (ci := 9) (v := .int u204) (C := RX5) (T := TX5) (N := 10) hx hb hts (by decide +kernel) hown hK hP 0 rfl rfl 6 (by decide) (hN (.fieldLinkNest RX6 256 "SnowpalaceModel$Site" "carved" "I" RX6) (by decide +kernel)) (fun _ h9 => h9) rfl dX6_carve_113 ?_
              refine lv_iconst (v := 1) hx hb dX6_carve_116 (by decide) ?_
              refine lv_iadd hx hb dX6_carve_117 ?_
              refine lv_topi (fun v207 e208 => ?_)
              obtain ⟨u209, u210, u211, u212, u213, u214, hP, hf⟩ := o_ms (i := j) (q := r13) hM (by omega)
              refine rt_putN (D := (dC, dI)) (ci := 9) (v := .int v207) (ty := .int) (C := RX5) (T := TX5) (N := 10) hx hb hts (by decide +kernel) tyX5 tyX5_ok nmX5 hown hK hP (hM.ge (by omega)) hS rfl 6 (by decide) (hN (.fieldLinkNest RX6 256 "SnowpalaceModel$Site" "carved" "I" RX6) (by decide +kernel)) (fun _ h9 => h9) rfl (by decide +kernel) rfl rfl (Nat.le_of_ble_eq_true rfl) dX6_carve_118 (fun H locs hP hz ho hS => ?_)
              have hM := s_ms (i := j) hM (by omega) hP ho hf
              refine lv_iload hx hb dX6_carve_121 (lv_at hl 6 rfl) ?_
              refine lv_if_ne (tgt := 139) hx hb dX6_carve_123 (by decide) (fun c215 => ?_) (fun c215 => ?_)
              · skip
                refine lv_aload hx hb dX6_carve_139 (lv_at hl 0 rfl) ?_
                refine lv_dup hx hb dX6_carve_141 rfl ?_
                obtain ⟨u216, u217, u218, u219, u220, hP, hf⟩ := o_ce (i := 0) (q := y36) hM (by omega)
                refine va_getN (D := (dC, dI)) (ci := 8) (v := .int u217) (C := RX4) (T := TX4) (N := 5) hx hb hts (by decide +kernel) hown hK hP 0 rfl rfl 1 (by decide) (hN (.fieldLinkNest RX6 182 "SnowpalaceModel$Cell" "mass" "I" RX6) (by decide +kernel)) (fun _ h9 => h9) rfl dX6_carve_142 ?_
                refine lv_iload hx hb dX6_carve_145 (lv_at hl 6 rfl) ?_
                refine lv_isub hx hb dX6_carve_147 ?_
                refine lv_topi (fun v221 e222 => ?_)
                obtain ⟨u223, u224, u225, u226, u227, hP, hf⟩ := o_ce (i := 0) (q := y36) hM (by omega)
                refine rt_putN (D := (dC, dI)) (ci := 8) (v := .int v221) (ty := .int) (C := RX4) (T := TX4) (N := 5) hx hb hts (by decide +kernel) tyX4 tyX4_ok nmX4 hown hK hP (hM.ge (by omega)) hS rfl 1 (by decide) (hN (.fieldLinkNest RX6 182 "SnowpalaceModel$Cell" "mass" "I" RX6) (by decide +kernel)) (fun _ h9 => h9) rfl (by decide +kernel) rfl rfl (Nat.le_of_ble_eq_true rfl) dX6_carve_148 (fun H locs hP hz ho hS => ?_)
                have hM := s_ce (i := 0) hM (by omega) hP ho hf
                refine lv_aload hx hb dX6_carve_151 (lv_at hl 1 rfl) ?_
                refine lv_aload_n hx hb dX6_carve_153 rfl (lv_at hl 2 rfl) ?_
                refine lv_aload_n hx hb dX6_carve_154 rfl (lv_at hl 2 rfl) ?_
                obtain ⟨u228, u229, hP, hf⟩ := o_mo (i := 0) (q := o) hM (by omega)
                refine va_get (D := (dC, dI)) (ci := 10) (v := .int (pI g192 o 0)) (C := RX6) (T := TX6) (N := 11) hx hb hts (by decide +kernel) hown hK hP 0 rfl rfl 2 (by decide) (hts (.fieldLink RX6 58 "SnowpalaceModel" "hour" "I") (by decide +kernel)) (fun _ h9 => h9) rfl dX6_carve_155 ?_
                have hv230 := hf.2.2.2.2.2.2.1
                obtain ⟨j231, hj231, en232⟩ := toN (p := (pI g192 o 0)) (k := 504) (by omega) (by omega) (by decide)
                rw [en232]
                try rw [en232] at hl
                have hl : lv_has ls 7 [(6, .ref y36), (5, .ref r13), (0, .ref o), (1, .int (nI j)), (2, .int (nI jx)), (3, .int (nI jy)), (4, .int ms)] := hl
                obtain ⟨u233, u234, hP, hf⟩ := o_mo (i := 0) (q := o) hM (by omega)
                refine va_calli (va_runV (As := [.int (nI j231)]) (rest := [.ref r13]) ⟨hx, hb, hml, hown, hts⟩ (rm_warmthOf l dC dI kA eD b g192 o j231 (by omega) (by omega)) (cwV 1 hts gX6_carve_X6_warmthOf rfl rfl rfl (by decide +kernel) ⟨Nat.le_of_ble_eq_true rfl, Nat.le_of_ble_eq_true rfl⟩) ⟨fb_CX, va_recv hK hP (ci := 10) (q0 := 0) rfl rfl, fun U hU hW => ⟨rfl, CX.give hb0 hM hK hG hE hS hU hW⟩⟩ rfl rfl hl.1 rfl (lv_room (Nat.le_of_ble_eq_true rfl)) dX6_carve_158 ⟨(Nat.le_of_ble_eq_true rfl), (Nat.le_of_ble_eq_true rfl)⟩) hS (fun q _ h => h) (fun q h => h) (fun r235 u t H locs ht hvm hw236 hB hz1 hk1 hS => ?_)
                have hM := hB.back ht
                have hG := hB.2.2.2.1
                obtain ⟨u237, u238, u239, u240, u241, u242, hP, hf⟩ := o_ms (i := j) (q := r13) hM (by omega)
                refine W.know (fun hkn1 hkn2 => ?_)
                refine va_calli (va_runV (As := [.int r235]) (rest := []) ⟨hx, hb, hml, hown, hts⟩ (rm_settles l dC dI kA eD b g192 H.size (SH H) r13 j o o r235 (by omega) (by omega) (Or.inr ht194)) (cwV 1 hts gX6_carve_X5_settles rfl rfl rfl (by decide +kernel) ⟨Nat.le_of_ble_eq_true rfl, Nat.le_of_ble_eq_true rfl⟩) ⟨fb_CXs, va_recv hK hP (ci := 9) (q0 := 0) rfl rfl, fun U hU hW => ⟨rfl, CXs.give hb0 hM hK hG hE hS hU hW⟩⟩ rfl rfl hl.1 rfl (lv_room (Nat.le_of_ble_eq_true rfl)) dX6_carve_161 ⟨(Nat.le_of_ble_eq_true rfl), (Nat.le_of_ble_eq_true rfl)⟩) hS (fun q _ h => h) (fun q h => h) (fun r243 g245 t H locs ht hvm hw244 hB hz1 hk1 hS => ?_)
                have hM := hB.1.back ht
                have hG := hB.1.2.2.2.1
                obtain ⟨g245, d246⟩ := g245
                have hgr := hB.2
                rw [ht] at hgr
                refine W.shrink (k := 0 + 14 * (1 + d246)) (n := 0 + 108 * (1 + d246)) (by have := hgr.1; omega) (by have := hgr.2; omega) ?_
                have hx247 : Ext o (XS j) g192 g245 := hw244.1
                have ht248 : tg g245 o = 17 := hx247.tk ht194 (by omega)
                have ht249 : tg g245 (pF g5 o 5) = 26 := hx247.tk ht195 (by omega)
                have ht250 : tg g245 r13 = 28 + 64 * j := hx247.tk ht196 (by omega)
                have ht251 : tg g245 (pF g5 r13 0) = 29 + 64 * j := hx247.tk ht197 (by omega)
                have ht252 : tg g245 (pF g5 (pF g5 r13 0) jy) = 30 + 64 * (8 * j + jy) := hx247.tk ht198 (by omega)
                have ht253 : tg g245 y36 = 31 := hx247.tk ht199 (by omega)
                have hMs := hM
                have hd48 : d246 ≤ 48 := by have h4 : gc g245 r13 + d246 = gc g192 r13 := hw244.2; have h5 : gc g192 r13 ≤ 48 := gc_le; omega
                have hq1 := GCm_x0 hM00 hG00 hto (hx6 : Ext o X0 g g5)
                have hq2 := GCm_site hMv hGv ht7 (((hx193.wide0 (Y := (XS j))).trans hx247) : Ext o (XS j) g5 g245) hjv hg16
                have hq3 : gc g192 r13 = gc g5 r13 := gc_ext hMv (hx193 : Ext o X0 g5 g192) ht15 (fun y _ z => z)
                have hq4 : gc g245 r13 + d246 = gc g192 r13 := hw244.2
                refine W.know (fun hkn1 hkn2 => ?_)
                refine W.widen (k := 730) (n := 5600) (by omega) (by omega) ?_
                exact W.iret (v := r243) hx hb hr (fun t ht hW => ⟨⟨r243, (g245, d246), rfl, ⟨(((hx6.wide0 (Y := XA)).trans (hx193.wide0 (Y := XA))).trans hx247.wideA), by show GCm g245 o + d246 ≤ GCm g o + 1; omega⟩, ⟨CX.give hb0 hM hK hG hE hS ht hW, by rw [ht]; show _ ≤ sz + (20 + 14 * (1 + d246)); omega, by rw [ht]; show _ ≤ sg + (120 + 108 * (1 + d246)); omega⟩⟩, hS.F ht⟩) hS.2.2 dX6_carve_164
              · skip
                refine lv_aload hx hb dX6_carve_126 (lv_at hl 1 rfl) ?_
                obtain ⟨u254, u255, u256, u257, u258, u259, hP, hf⟩ := o_ms (i := j) (q := r13) hM (by omega)
                refine va_getN (D := (dC, dI)) (ci := 9) (v := .ref (pF g192 r13 0)) (C := RX5) (T := TX5) (N := 10) hx hb hts (by decide +kernel) hown hK hP 0 rfl rfl 0 (by decide) (hN (.fieldLinkNest RX6 160 "SnowpalaceModel$Site" "cells" "[[LSnowpalaceModel$Cell;" RX6) (by decide +kernel)) (fun _ h9 => h9) rfl dX6_carve_128 ?_
                have ht260 : tg g192 (pF g192 r13 0) = 29 + 64 * j := hf.1
                refine lv_iload_n hx hb dX6_carve_131 rfl (lv_at hl 5 rfl) ?_
                obtain ⟨hP, hf⟩ := o_co (i := j) (q := (pF g192 r13 0)) hM (by omega)
                have ec : ((nI jy) : Int32).toNatClampNeg = jy := nI_clamp (by omega)
                refine rt_aldA (D := (dC, dI)) (t0 := 9) hx hb hK hP rfl (vp_in_nI (by omega) (by decide)) (y := (pF g192 (pF g192 r13 0) jy)) ((congrArg (fun z => if z < 6 then some (pF g192 (pF g192 r13 0) z) else none) ec).trans (if_pos (by omega))) dX6_carve_132 ?_
                have ht261 : tg g192 (pF g192 (pF g192 r13 0) jy) = 30 + 64 * (8 * j + jy) := (hf jy (by omega))
                refine lv_iload_n hx hb dX6_carve_133 rfl (lv_at hl 4 rfl) ?_
                refine lv_null hx hb dX6_carve_134 ?_
                have hgt262 := grid_tags hM ht196
                have ht263 : tg g192 (pF g192 (pF g192 r13 0) jy) = 30 + 64 * (8 * j + jy) := hgt262.2 jy (by omega)
                have hMp := hM
                obtain ⟨hP, hf⟩ := o_cr (i := (8 * j + jy)) (q := (pF g192 (pF g192 r13 0) jy)) hM (by omega)
                refine rt_astqN (D := (dC, dI)) (t0 := 8) hx hb hK hP (hM.ge (by omega)) hS rfl (vp_in_nI (by omega) (by decide)) dX6_carve_135 (fun H locs hP hz ho hS => ?_)
                have ec : ((nI jx) : Int32).toNatClampNeg = jx := nI_clamp (by omega)
                rw [ec] at hP
                have hM0 := hM
                have hM := p_cr (i := (8 * j + jy)) (f := va_up (pO g192 (pF g192 (pF g192 r13 0) jy)) jx (none)) hM (by omega) hP ho (up_none hf)
                obtain ⟨g264, hg264⟩ : ∃ z, z = uO g192 (pF g192 (pF g192 r13 0) jy) (va_up (pO g192 (pF g192 (pF g192 r13 0) jy)) jx (none)) := ⟨_, rfl⟩
                rw [← hg264] at hM
                have ht265 : tg g264 o = 17 := by rw [hg264]; exact ht194
                have ht266 : tg g264 (pF g5 o 5) = 26 := by rw [hg264]; exact ht195
                have ht267 : tg g264 r13 = 28 + 64 * j := by rw [hg264]; exact ht196
                have ht268 : tg g264 (pF g5 r13 0) = 29 + 64 * j := by rw [hg264]; exact ht197
                have ht269 : tg g264 (pF g5 (pF g5 r13 0) jy) = 30 + 64 * (8 * j + jy) := by rw [hg264]; exact ht198
                have ht270 : tg g264 y36 = 31 := by rw [hg264]; exact ht199
                have ht271 : tg g264 (pF g192 r13 0) = 29 + 64 * j := by rw [hg264]; exact ht260
                have ht272 : tg g264 (pF g192 (pF g192 r13 0) jy) = 30 + 64 * (8 * j + jy) := by rw [hg264]; exact ht263
                have hG : GOK g264 := by rw [hg264]; exact (hG.uO hM0 (by omega))
                have hx274 : Ext o (XS j) g192 g264 := by rw [hg264]; exact Ext.row (X := XS j) ⟨jy, by omega, ht263⟩
                have hp275 : gc g264 r13 ≤ gc g192 r13 := by rw [hg264]; exact gc_out hgt262.2 (by omega) (by omega)
                have he276 : gc g192 r13 = gc g5 r13 := gc_ext hMv (hx193 : Ext o X0 g5 g192) ht15 (fun y _ z => z)
                have hMq277 := hM
                refine lv_goto (tgt := 151) hx hb dX6_carve_136 (by decide) ?_
                refine lv_aload hx hb dX6_carve_151 (lv_at hl 1 rfl) ?_
                refine lv_aload_n hx hb dX6_carve_153 rfl (lv_at hl 2 rfl) ?_
                refine lv_aload_n hx hb dX6_carve_154 rfl (lv_at hl 2 rfl) ?_
                obtain ⟨u278, u279, hP, hf⟩ := o_mo (i := 0) (q := o) hM (by omega)
                refine va_get (D := (dC, dI)) (ci := 10) (v := .int (pI g264 o 0)) (C := RX6) (T := TX6) (N := 11) hx hb hts (by decide +kernel) hown hK hP 0 rfl rfl 2 (by decide) (hts (.fieldLink RX6 58 "SnowpalaceModel" "hour" "I") (by decide +kernel)) (fun _ h9 => h9) rfl dX6_carve_155 ?_
                have hv280 := hf.2.2.2.2.2.2.1
                obtain ⟨j281, hj281, en282⟩ := toN (p := (pI g264 o 0)) (k := 504) (by omega) (by omega) (by decide)
                rw [en282]
                try rw [en282] at hl
                have hl : lv_has ls 7 [(6, .ref y36), (5, .ref r13), (0, .ref o), (1, .int (nI j)), (2, .int (nI jx)), (3, .int (nI jy)), (4, .int ms)] := hl
                obtain ⟨u283, u284, hP, hf⟩ := o_mo (i := 0) (q := o) hM (by omega)
                refine va_calli (va_runV (As := [.int (nI j281)]) (rest := [.ref r13]) ⟨hx, hb, hml, hown, hts⟩ (rm_warmthOf l dC dI kA eD b g264 o j281 (by omega) (by omega)) (cwV 1 hts gX6_carve_X6_warmthOf rfl rfl rfl (by decide +kernel) ⟨Nat.le_of_ble_eq_true rfl, Nat.le_of_ble_eq_true rfl⟩) ⟨fb_CX, va_recv hK hP (ci := 10) (q0 := 0) rfl rfl, fun U hU hW => ⟨rfl, CX.give hb0 hM hK hG hE hS hU hW⟩⟩ rfl rfl hl.1 rfl (lv_room (Nat.le_of_ble_eq_true rfl)) dX6_carve_158 ⟨(Nat.le_of_ble_eq_true rfl), (Nat.le_of_ble_eq_true rfl)⟩) hS (fun q _ h => h) (fun q h => h) (fun r285 u t H locs ht hvm hw286 hB hz1 hk1 hS => ?_)
                have hM := hB.back ht
                have hG := hB.2.2.2.1
                obtain ⟨u287, u288, u289, u290, u291, u292, hP, hf⟩ := o_ms (i := j) (q := r13) hM (by omega)
                refine W.know (fun hkn1 hkn2 => ?_)
                refine va_calli (va_runV (As := [.int r285]) (rest := []) ⟨hx, hb, hml, hown, hts⟩ (rm_settles l dC dI kA eD b g264 H.size (SH H) r13 j o o r285 (by omega) (by omega) (Or.inr ht265)) (cwV 1 hts gX6_carve_X5_settles rfl rfl rfl (by decide +kernel) ⟨Nat.le_of_ble_eq_true rfl, Nat.le_of_ble_eq_true rfl⟩) ⟨fb_CXs, va_recv hK hP (ci := 9) (q0 := 0) rfl rfl, fun U hU hW => ⟨rfl, CXs.give hb0 hM hK hG hE hS hU hW⟩⟩ rfl rfl hl.1 rfl (lv_room (Nat.le_of_ble_eq_true rfl)) dX6_carve_161 ⟨(Nat.le_of_ble_eq_true rfl), (Nat.le_of_ble_eq_true rfl)⟩) hS (fun q _ h => h) (fun q h => h) (fun r293 g295 t H locs ht hvm hw294 hB hz1 hk1 hS => ?_)
                have hM := hB.1.back ht
                have hG := hB.1.2.2.2.1
                obtain ⟨g295, d296⟩ := g295
                have hgr := hB.2
                rw [ht] at hgr
                refine W.shrink (k := 0 + 14 * (1 + d296)) (n := 0 + 108 * (1 + d296)) (by have := hgr.1; omega) (by have := hgr.2; omega) ?_
                have hx297 : Ext o (XS j) g264 g295 := hw294.1
                have ht298 : tg g295 o = 17 := hx297.tk ht265 (by omega)
                have ht299 : tg g295 (pF g5 o 5) = 26 := hx297.tk ht266 (by omega)
                have ht300 : tg g295 r13 = 28 + 64 * j := hx297.tk ht267 (by omega)
                have ht301 : tg g295 (pF g5 r13 0) = 29 + 64 * j := hx297.tk ht268 (by omega)
                have ht302 : tg g295 (pF g5 (pF g5 r13 0) jy) = 30 + 64 * (8 * j + jy) := hx297.tk ht269 (by omega)
                have ht303 : tg g295 y36 = 31 := hx297.tk ht270 (by omega)
                have ht304 : tg g295 (pF g192 r13 0) = 29 + 64 * j := hx297.tk ht271 (by omega)
                have ht305 : tg g295 (pF g192 (pF g192 r13 0) jy) = 30 + 64 * (8 * j + jy) := hx297.tk ht272 (by omega)
                have hMs := hM
                have hd48 : d296 ≤ 48 := by have h4 : gc g295 r13 + d296 = gc g264 r13 := hw294.2; have h5 : gc g264 r13 ≤ 48 := gc_le; omega
                have hq1 := GCm_x0 hM00 hG00 hto (hx6 : Ext o X0 g g5)
                have hq2 := GCm_site hMv hGv ht7 ((((hx193.wide0 (Y := (XS j))).trans hx274).trans hx297) : Ext o (XS j) g5 g295) hjv hg16
                have hq4 : gc g295 r13 + d296 = gc g264 r13 := hw294.2
                refine W.know (fun hkn1 hkn2 => ?_)
                refine W.widen (k := 730) (n := 5600) (by omega) (by omega) ?_
                exact W.iret (v := r293) hx hb hr (fun t ht hW => ⟨⟨r293, (g295, d296), rfl, ⟨((((hx6.wide0 (Y := XA)).trans (hx193.wide0 (Y := XA))).trans hx274.wideA).trans hx297.wideA), by show GCm g295 o + d296 ≤ GCm g o + 1; omega⟩, ⟨CX.give hb0 hM hK hG hE hS ht hW, by rw [ht]; show _ ≤ sz + (20 + 14 * (1 + d296)); omega, by rw [ht]; show _ ≤ sg + (120 + 108 * (1 + d296)); omega⟩⟩, hS.F ht⟩) hS.2.2 dX6_carve_164
            · skip
              have i306 := fun z => c186 ((Int32.lt_iff_toInt_lt).mpr z)
              have ii306 : (100 : Int32).toInt = 100 := by decide
              have i306 : ¬ ((100 : Int32).toInt < (v184 : Int32).toInt) := i306
              refine lv_iconst (v := 5) hx hb dX6_carve_97 (by decide) ?_
              refine lv_goto (tgt := 102) hx hb dX6_carve_98 (by decide) ?_
              obtain ⟨u307, u308, hP, hf⟩ := o_mo (i := 0) (q := o) hM (by omega)
              refine va_calli (va_runV (As := [.int 5]) (rest := []) ⟨hx, hb, hml, hown, hts⟩ (rm_isWrong l dC dI kA eD b g5 o 5 (by omega)) (cwV 1 hts gX6_carve_X6_isWrong rfl rfl rfl (by decide +kernel) ⟨Nat.le_of_ble_eq_true rfl, Nat.le_of_ble_eq_true rfl⟩) ⟨fb_CX, va_recv hK hP (ci := 10) (q0 := 0) rfl rfl, fun U hU hW => ⟨rfl, CX.give hb0 hM hK hG hE hS hU hW⟩⟩ rfl rfl hl.1 rfl (lv_room (Nat.le_of_ble_eq_true rfl)) dX6_carve_102 ⟨(Nat.le_of_ble_eq_true rfl), (Nat.le_of_ble_eq_true rfl)⟩) hS (fun q _ h => h) (fun q h => h) (fun r309 g311 t H locs ht hvm hw310 hB hz1 hk1 hS => ?_)
              have hM := hB.back ht
              have hG := hB.2.2.2.1
              have hx312 : Ext o X0 g5 g311 := hw310.1
              have ht313 : tg g311 o = 17 := hx312.tk ht7 (by omega)
              have ht314 : tg g311 (pF g5 o 5) = 26 := hx312.tk hfm (by omega)
              have ht315 : tg g311 r13 = 28 + 64 * j := hx312.tk ht15 (by omega)
              have ht316 : tg g311 (pF g5 r13 0) = 29 + 64 * j := hx312.tk ht29 (by omega)
              have ht317 : tg g311 (pF g5 (pF g5 r13 0) jy) = 30 + 64 * (8 * j + jy) := hx312.tk ht30 (by omega)
              have ht318 : tg g311 y36 = 31 := hx312.tk ht50 (by omega)
              obtain rfl : r309 = 1 := hw310.2.2.trans (by decide)
              have hth319 : pI g311 o 2 = 5 := by rw [hw310.2.1]; exact sI_at
              refine lv_if_eq (tgt := 110) hx hb dX6_carve_105 (by decide) (fun cx => by first | exact absurd cx (by decide) | exact absurd (by decide) cx) (fun _ => ?_)
              refine lv_iconst (v := 0) hx hb dX6_carve_108 (by decide) ?_
              have hq1 := GCm_x0 hM00 hG00 hto ((hx6.trans hx312) : Ext o X0 g g311)
              refine W.know (fun hkn1 hkn2 => ?_)
              refine W.widen (k := 730) (n := 5600) (Nat.le_of_ble_eq_true rfl) (Nat.le_of_ble_eq_true rfl) ?_
              exact W.iret (v := 0) hx hb hr (fun t ht hW => ⟨⟨0, (g311, 0), rfl, ⟨((hx6.trans hx312) : Ext o X0 g g311).wide0, by show GCm g311 o + 0 ≤ GCm g o + 1; omega⟩, ⟨CX.give hb0 hM hK hG hE hS ht hW, by rw [ht]; show _ ≤ sz + (20 + 14 * (1 + 0)); omega, by rw [ht]; show _ ≤ sg + (120 + 108 * (1 + 0)); omega⟩⟩, hS.F ht⟩) hS.2.2 dX6_carve_109
        · skip
          refine lv_iconst (v := 4) hx hb dX6_carve_75 (by decide) ?_
          refine lv_goto (tgt := 102) hx hb dX6_carve_76 (by decide) ?_
          obtain ⟨u320, u321, hP, hf⟩ := o_mo (i := 0) (q := o) hM (by omega)
          refine va_calli (va_runV (As := [.int 4]) (rest := []) ⟨hx, hb, hml, hown, hts⟩ (rm_isWrong l dC dI kA eD b g5 o 4 (by omega)) (cwV 1 hts gX6_carve_X6_isWrong rfl rfl rfl (by decide +kernel) ⟨Nat.le_of_ble_eq_true rfl, Nat.le_of_ble_eq_true rfl⟩) ⟨fb_CX, va_recv hK hP (ci := 10) (q0 := 0) rfl rfl, fun U hU hW => ⟨rfl, CX.give hb0 hM hK hG hE hS hU hW⟩⟩ rfl rfl hl.1 rfl (lv_room (Nat.le_of_ble_eq_true rfl)) dX6_carve_102 ⟨(Nat.le_of_ble_eq_true rfl), (Nat.le_of_ble_eq_true rfl)⟩) hS (fun q _ h => h) (fun q h => h) (fun r322 g324 t H locs ht hvm hw323 hB hz1 hk1 hS => ?_)
          have hM := hB.back ht
          have hG := hB.2.2.2.1
          have hx325 : Ext o X0 g5 g324 := hw323.1
          have ht326 : tg g324 o = 17 := hx325.tk ht7 (by omega)
          have ht327 : tg g324 (pF g5 o 5) = 26 := hx325.tk hfm (by omega)
          have ht328 : tg g324 r13 = 28 + 64 * j := hx325.tk ht15 (by omega)
          have ht329 : tg g324 (pF g5 r13 0) = 29 + 64 * j := hx325.tk ht29 (by omega)
          have ht330 : tg g324 (pF g5 (pF g5 r13 0) jy) = 30 + 64 * (8 * j + jy) := hx325.tk ht30 (by omega)
          have ht331 : tg g324 y36 = 31 := hx325.tk ht50 (by omega)
          obtain rfl : r322 = 1 := hw323.2.2.trans (by decide)
          have hth332 : pI g324 o 2 = 4 := by rw [hw323.2.1]; exact sI_at
          refine lv_if_eq (tgt := 110) hx hb dX6_carve_105 (by decide) (fun cx => by first | exact absurd cx (by decide) | exact absurd (by decide) cx) (fun _ => ?_)
          refine lv_iconst (v := 0) hx hb dX6_carve_108 (by decide) ?_
          have hq1 := GCm_x0 hM00 hG00 hto ((hx6.trans hx325) : Ext o X0 g g324)
          refine W.know (fun hkn1 hkn2 => ?_)
          refine W.widen (k := 730) (n := 5600) (Nat.le_of_ble_eq_true rfl) (Nat.le_of_ble_eq_true rfl) ?_
          exact W.iret (v := 0) hx hb hr (fun t ht hW => ⟨⟨0, (g324, 0), rfl, ⟨((hx6.trans hx325) : Ext o X0 g g324).wide0, by show GCm g324 o + 0 ≤ GCm g o + 1; omega⟩, ⟨CX.give hb0 hM hK hG hE hS ht hW, by rw [ht]; show _ ≤ sz + (20 + 14 * (1 + 0)); omega, by rw [ht]; show _ ≤ sg + (120 + 108 * (1 + 0)); omega⟩⟩, hS.F ht⟩) hS.2.2 dX6_carve_109
    · skip
      have g333 : ¬ ((0 : Int) ≤ (ms : Int32).toInt ∧ (ms : Int32).toInt ≤ (200 : Int)) := bI_f hw33 c34
      have zg333 : r32 = 0 := bI_f0 hw33 g333
      refine lv_iconst (v := 2) hx hb dX6_carve_52 (by decide) ?_
      refine lv_goto (tgt := 102) hx hb dX6_carve_53 (by decide) ?_
      obtain ⟨u334, u335, hP, hf⟩ := o_mo (i := 0) (q := o) hM (by omega)
      refine va_calli (va_runV (As := [.int 2]) (rest := []) ⟨hx, hb, hml, hown, hts⟩ (rm_isWrong l dC dI kA eD b g5 o 2 (by omega)) (cwV 1 hts gX6_carve_X6_isWrong rfl rfl rfl (by decide +kernel) ⟨Nat.le_of_ble_eq_true rfl, Nat.le_of_ble_eq_true rfl⟩) ⟨fb_CX, va_recv hK hP (ci := 10) (q0 := 0) rfl rfl, fun U hU hW => ⟨rfl, CX.give hb0 hM hK hG hE hS hU hW⟩⟩ rfl rfl hl.1 rfl (lv_room (Nat.le_of_ble_eq_true rfl)) dX6_carve_102 ⟨(Nat.le_of_ble_eq_true rfl), (Nat.le_of_ble_eq_true rfl)⟩) hS (fun q _ h => h) (fun q h => h) (fun r336 g338 t H locs ht hvm hw337 hB hz1 hk1 hS => ?_)
      have hM := hB.back ht
      have hG := hB.2.2.2.1
      have hx339 : Ext o X0 g5 g338 := hw337.1
      have ht340 : tg g338 o = 17 := hx339.tk ht7 (by omega)
      have ht341 : tg g338 (pF g5 o 5) = 26 := hx339.tk hfm (by omega)
      have ht342 : tg g338 r13 = 28 + 64 * j := hx339.tk ht15 (by omega)
      have ht343 : tg g338 (pF g5 r13 0) = 29 + 64 * j := hx339.tk ht29 (by omega)
      have ht344 : tg g338 (pF g5 (pF g5 r13 0) jy) = 30 + 64 * (8 * j + jy) := hx339.tk ht30 (by omega)
      obtain rfl : r336 = 1 := hw337.2.2.trans (by decide)
      have hth345 : pI g338 o 2 = 2 := by rw [hw337.2.1]; exact sI_at
      refine lv_if_eq (tgt := 110) hx hb dX6_carve_105 (by decide) (fun cx => by first | exact absurd cx (by decide) | exact absurd (by decide) cx) (fun _ => ?_)
      refine lv_iconst (v := 0) hx hb dX6_carve_108 (by decide) ?_
      have hq1 := GCm_x0 hM00 hG00 hto ((hx6.trans hx339) : Ext o X0 g g338)
      refine W.know (fun hkn1 hkn2 => ?_)
      refine W.widen (k := 730) (n := 5600) (Nat.le_of_ble_eq_true rfl) (Nat.le_of_ble_eq_true rfl) ?_
      exact W.iret (v := 0) hx hb hr (fun t ht hW => ⟨⟨0, (g338, 0), rfl, ⟨((hx6.trans hx339) : Ext o X0 g g338).wide0, by show GCm g338 o + 0 ≤ GCm g o + 1; omega⟩, ⟨CX.give hb0 hM hK hG hE hS ht hW, by rw [ht]; show _ ≤ sz + (20 + 14 * (1 + 0)); omega, by rw [ht]; show _ ≤ sg + (120 + 108 * (1 + 0)); omega⟩⟩, hS.F ht⟩) hS.2.2 dX6_carve_109
  · skip
    have hv346 := vr1 (vr01 hw4.2.2) c9
    refine lv_iconst (v := 0) hx hb dX6_carve_10 (by decide) ?_
    have hq1 := GCm_x0 hM00 hG00 hto (hx6 : Ext o X0 g g5)
    refine W.know (fun hkn1 hkn2 => ?_)
    refine W.widen (k := 730) (n := 5600) (Nat.le_of_ble_eq_true rfl) (Nat.le_of_ble_eq_true rfl) ?_
    exact W.iret (v := 0) hx hb hr (fun t ht hW => ⟨⟨0, (g5, 0), rfl, ⟨(hx6 : Ext o X0 g g5).wide0, by show GCm g5 o + 0 ≤ GCm g o + 1; omega⟩, ⟨CX.give hb0 hM hK hG hE hS ht hW, by rw [ht]; show _ ≤ sz + (20 + 14 * (1 + 0)); omega, by rw [ht]; show _ ≤ sg + (120 + 108 * (1 + 0)); omega⟩⟩, hS.F ht⟩) hS.2.2 dX6_carve_11

set_option maxHeartbeats 4000000 in
set_option maxRecDepth 100000 in
theorem rmf_take (l : Launch) (dC : Nat → ClassId) (dI : Nat → Nat → Nat) (kA : Nat → ClassId) (eD b : Nat) (g : Gh) (sz sg : Nat) (o : Nat) (site : Int32) (x : Int32) (y : Int32) (hto : tg g o = 17)  : Met l yX6_take wsX6_take ({ frames := 6, cells := 730, slots := 5600, locals := 142 }) (va_Pc [.ref o, .int site, .int x, .int y] (CXs (dC, dI) kA eD b g sz sg)) (va_Qi (fun (r : Int32) (u : Gh × Nat) => Ext o XA g u.1 ∧ GCm u.1 o + u.2 ≤ GCm g o + 1) (fun (u : Gh × Nat) t => (CX (dC, dI) kA eD b u.1 t ∧ (t.heap.size ≤ sz + (20 + 14 * (1 + u.2)) ∧ SH t.heap ≤ sg + (120 + 108 * (1 + u.2))))) (fun q => b ≤ q)) 730 5600 (fun q => b ≤ q) := by
  refine Met.ofW (cc := cX6_take) (maxL := 15) (ret := (some .int)) (by decide +kernel) rfl ?_
  intro p e s m args below meth c s₁ B hml hv
  obtain ⟨rfl, ⟨hb0, hM, hK, hG, hE⟩, hsz, hsg⟩ := hv
  have hx := B.exec
  have hb := B.bytes
  have hr := B.returns
  have hts := atoms_spec (ws := wsX6_take) B.pre
  have hown : s.vm.findClass RX6 = some m.cls := findClass_of_methodNamed B.named
  have hlocks := B.notSynchronized
  have hT := hE.1
  have hN := hE.2.2.2.2.2.2.2.1
  have hS : va_S (fun q => b ≤ q) s.heap s.heap [] := va_S.rf
  have hl := lv_entry ([.ref o, .int site, .int x, .int y]) (n := 15) (Nat.le_of_ble_eq_true rfl)
  rw [lg_entry_eq]
  generalize (lg_sl ([.ref o, .int site, .int x, .int y]) ++ List.replicate (15 - (lg_sl ([.ref o, .int site, .int x, .int y])).length) Slot.unset).toArray = ls at hl ⊢
  have hl : lv_has ls 15 [(0, .ref o), (1, .int site), (2, .int x), (3, .int y)] := hl
  generalize ([.ref o, .int site, .int x, .int y] : List Value).toArray = args at hts ⊢
  refine W.q (fun Q hQ => ?_)
  have hM00 := hM
  have hG00 := hG
  refine lv_aload_n hx hb dX6_take_0 rfl (lv_at hl 0 rfl) ?_
  refine lv_iload_n hx hb dX6_take_1 rfl (lv_at hl 1 rfl) ?_
  refine lv_iload_n hx hb dX6_take_2 rfl (lv_at hl 2 rfl) ?_
  refine lv_iload_n hx hb dX6_take_3 rfl (lv_at hl 3 rfl) ?_
  obtain ⟨u1, u2, hP, hf⟩ := o_mo (i := 0) (q := o) hM (by omega)
  refine va_calli (va_runV (As := [.int site, .int x, .int y]) (rest := []) ⟨hx, hb, hml, hown, hts⟩ (rm_isNoCell l dC dI kA eD b g o site x y (by omega)) (cwV 3 hts gX6_take_X6_isNoCell rfl rfl rfl (by decide +kernel) ⟨Nat.le_of_ble_eq_true rfl, Nat.le_of_ble_eq_true rfl⟩) ⟨fb_CX, va_recv hK hP (ci := 10) (q0 := 0) rfl rfl, fun U hU hW => ⟨rfl, CX.give hb0 hM hK hG hE hS hU hW⟩⟩ rfl rfl hl.1 rfl (lv_room (Nat.le_of_ble_eq_true rfl)) dX6_take_4 ⟨(Nat.le_of_ble_eq_true rfl), (Nat.le_of_ble_eq_true rfl)⟩) hS (fun q _ h => h) (fun q h => h) (fun r3 g5 t H locs ht hvm hw4 hB hz1 hk1 hS => ?_)
  have hM := hB.back ht
  have hG := hB.2.2.2.1
  have hx6 : Ext o X0 g g5 := hw4.1
  have ht7 : tg g5 o = 17 := hx6.tk hto (by omega)
  refine lv_if_eq (tgt := 12) hx hb dX6_take_7 (by decide) (fun c8 => ?_) (fun c8 => ?_)
  · skip
    have hv9 := vr0 (nc01 hw4.2) c8
    obtain ⟨j, a0, jx, jy, cl, rfl, rfl, rfl, hjx, hjy, hjs, hta, hga, hcl⟩ := hv9
    have hl : lv_has ls 15 [(0, .ref o), (1, .int (nI j)), (2, .int (nI jx)), (3, .int (nI jy))] := hl
    have hfm := (mo_list hM ht7).1
    have hls := (mo_list hM ht7).2
    have ej : (nI j).toInt = (j : Int) := nI_toInt (by omega)
    refine lv_aload_n hx hb dX6_take_12 rfl (lv_at hl 0 rfl) ?_
    obtain ⟨u10, u11, hP, hf⟩ := o_mo (i := 0) (q := o) hM (by omega)
    refine va_get (D := (dC, dI)) (ci := 10) (v := .ref (pF g5 o 5)) (C := RX6) (T := TX6) (N := 11) hx hb hts (by decide +kernel) hown hK hP 0 rfl rfl 10 (by decide) (hts (.fieldLink RX6 34 "SnowpalaceModel" "sites" "Ljava/util/List;") (by decide +kernel)) (fun _ h9 => h9) rfl dX6_take_13 ?_
    refine lv_iload_n hx hb dX6_take_16 rfl (lv_at hl 1 rfl) ?_
    obtain ⟨hP, hf⟩ := o_al (i := 0) (q := (pF g5 o 5)) hM (by omega)
    refine va_callFr (va_runF (hK.1 3 _ rfl).2 (As := [.int (nI j)]) (rest := []) ⟨hx, hb, hml, hown, hts⟩ (rj_get l dC dI kA eD b g5 (pF g5 o 5) j (by omega) hjs) (va_cwF 1 hts gX6_take_Jx4a65c_get_915e3_f149Jx4a65c rfl rfl rfl hE.2.2.2.2.1 (by decide +kernel) ⟨Nat.le_of_ble_eq_true rfl, Nat.le_of_ble_eq_true rfl⟩) ⟨fb_CX, va_recv hK hP (ci := 3) (q0 := 0) rfl rfl, fun U hU hW => ⟨rfl, CX.give hb0 hM hK hG hE hS hU hW⟩⟩ rfl rfl hl.1 rfl (lv_room (Nat.le_of_ble_eq_true rfl)) dX6_take_17 ⟨(Nat.le_of_ble_eq_true rfl), (Nat.le_of_ble_eq_true rfl)⟩) hS (fun q _ h => h) (fun q h => h) (fun u r12 t H locs ht hvm hw13 hB hz1 hk1 hS => ?_)
    have hM := hB.1.back ht
    have hG := hB.1.2.2.2.1
    have ht14 : tg g5 r12 = 28 + 64 * j := hB.2.1
    have hg15 : pO g5 (pF g5 (pF g5 o 5) 0) j = some r12 := hB.2.2
    obtain rfl : a0 = r12 := Option.some.inj (hga.symm.trans hg15)
    have hjv : (j : Int) < (pI g5 (pF g5 o 5) 0).toInt := hjs
    have hMv := hM
    have hGv := hG
    obtain ⟨u16, u17, u18, u19, u20, u21, hP, hf⟩ := o_ms (i := j) (q := a0) hM (by omega)
    refine va_castY hx hb hown (hts (.classLink RX6 125 "SnowpalaceModel$Site") (by decide +kernel)) hE.2.2.2.2.2.2.1 (va_recv hK hP (ci := 9) (q0 := 0) rfl rfl) dX6_take_22 ?_
    refine lv_astore (lv' := [(4, .ref a0), (0, .ref o), (1, .int (nI j)), (2, .int (nI jx)), (3, .int (nI jy))]) hx hb dX6_take_25 hl (by decide) rfl (fun ls hl => ?_)
    refine lv_aload hx hb dX6_take_27 (lv_at hl 0 rfl) ?_
    obtain ⟨u22, u23, u24, u25, u26, u27, hP, hf⟩ := o_ms (i := j) (q := a0) hM (by omega)
    refine va_getN (D := (dC, dI)) (ci := 9) (v := .ref (pF g5 a0 0)) (C := RX5) (T := TX5) (N := 10) hx hb hts (by decide +kernel) hown hK hP 0 rfl rfl 0 (by decide) (hN (.fieldLinkNest RX6 160 "SnowpalaceModel$Site" "cells" "[[LSnowpalaceModel$Cell;" RX6) (by decide +kernel)) (fun _ h9 => h9) rfl dX6_take_29 ?_
    have ht28 : tg g5 (pF g5 a0 0) = 29 + 64 * j := hf.1
    refine lv_iload_n hx hb dX6_take_32 rfl (lv_at hl 4 rfl) ?_
    obtain ⟨hP, hf⟩ := o_co (i := j) (q := (pF g5 a0 0)) hM (by omega)
    have ec : ((nI jy) : Int32).toNatClampNeg = jy := nI_clamp (by omega)
    refine rt_aldA (D := (dC, dI)) (t0 := 9) hx hb hK hP rfl (vp_in_nI (by omega) (by decide)) (y := (pF g5 (pF g5 a0 0) jy)) ((congrArg (fun z => if z < 6 then some (pF g5 (pF g5 a0 0) z) else none) ec).trans (if_pos (by omega))) dX6_take_33 ?_
    have ht29 : tg g5 (pF g5 (pF g5 a0 0) jy) = 30 + 64 * (8 * j + jy) := (hf jy (by omega))
    refine lv_iload_n hx hb dX6_take_34 rfl (lv_at hl 3 rfl) ?_
    obtain ⟨hP, hf⟩ := o_cr (i := (8 * j + jy)) (q := (pF g5 (pF g5 a0 0) jy)) hM (by omega)
    refine va_aldq (D := (dC, dI)) hx hb hK hP 0 8 rfl rfl (vp_in_nI (by omega) (by decide)) dX6_take_35 ?_
    have ec : ((nI jx) : Int32).toNatClampNeg = jx := nI_clamp (by omega)
    rw [ec]
    have hq30 := hf jx (by omega)
    rw [hcl]
    have ht31 : tg g5 cl = 31 := hq30 cl hcl
    refine lv_astore (lv' := [(5, .ref cl), (4, .ref a0), (0, .ref o), (1, .int (nI j)), (2, .int (nI jx)), (3, .int (nI jy))]) hx hb dX6_take_36 hl (by decide) rfl (fun ls hl => ?_)
    refine lv_aload hx hb dX6_take_38 (lv_at hl 1 rfl) ?_
    obtain ⟨u32, u33, u34, u35, u36, u37, hP, hf⟩ := o_ms (i := j) (q := a0) hM (by omega)
    refine va_getN (D := (dC, dI)) (ci := 9) (v := .ref (pF g5 a0 0)) (C := RX5) (T := TX5) (N := 10) hx hb hts (by decide +kernel) hown hK hP 0 rfl rfl 0 (by decide) (hN (.fieldLinkNest RX6 160 "SnowpalaceModel$Site" "cells" "[[LSnowpalaceModel$Cell;" RX6) (by decide +kernel)) (fun _ h9 => h9) rfl dX6_take_40 ?_
    refine lv_iload_n hx hb dX6_take_43 rfl (lv_at hl 5 rfl) ?_
    obtain ⟨hP, hf⟩ := o_co (i := j) (q := (pF g5 a0 0)) hM (by omega)
    have ec : ((nI jy) : Int32).toNatClampNeg = jy := nI_clamp (by omega)
    refine rt_aldA (D := (dC, dI)) (t0 := 9) hx hb hK hP rfl (vp_in_nI (by omega) (by decide)) (y := (pF g5 (pF g5 a0 0) jy)) ((congrArg (fun z => if z < 6 then some (pF g5 (pF g5 a0 0) z) else none) ec).trans (if_pos (by omega))) dX6_take_44 ?_
    have ht38 : tg g5 (pF g5 (pF g5 a0 0) jy) = 30 + 64 * (8 * j + jy) := (hf jy (by omega))
    refine lv_iload_n hx hb dX6_take_45 rfl (lv_at hl 4 rfl) ?_
    refine lv_null hx hb dX6_take_46 ?_
    have hgt39 := grid_tags hM hta
    have ht40 : tg g5 (pF g5 (pF g5 a0 0) jy) = 30 + 64 * (8 * j + jy) := hgt39.2 jy (by omega)
    have hMp := hM
    obtain ⟨hP, hf⟩ := o_cr (i := (8 * j + jy)) (q := (pF g5 (pF g5 a0 0) jy)) hM (by omega)
    refine rt_astqN (D := (dC, dI)) (t0 := 8) hx hb hK hP (hM.ge (by omega)) hS rfl (vp_in_nI (by omega) (by decide)) dX6_take_47 (fun H locs hP hz ho hS => ?_)
    have ec : ((nI jx) : Int32).toNatClampNeg = jx := nI_clamp (by omega)
    rw [ec] at hP
    have hM0 := hM
    have hM := p_cr (i := (8 * j + jy)) (f := va_up (pO g5 (pF g5 (pF g5 a0 0) jy)) jx (none)) hM (by omega) hP ho (up_none hf)
    obtain ⟨g41, hg41⟩ : ∃ z, z = uO g5 (pF g5 (pF g5 a0 0) jy) (va_up (pO g5 (pF g5 (pF g5 a0 0) jy)) jx (none)) := ⟨_, rfl⟩
    rw [← hg41] at hM
    have ht42 : tg g41 o = 17 := by rw [hg41]; exact ht7
    have ht43 : tg g41 (pF g5 o 5) = 26 := by rw [hg41]; exact hfm
    have ht44 : tg g41 a0 = 28 + 64 * j := by rw [hg41]; exact hta
    have ht45 : tg g41 (pF g5 a0 0) = 29 + 64 * j := by rw [hg41]; exact ht28
    have ht46 : tg g41 (pF g5 (pF g5 a0 0) jy) = 30 + 64 * (8 * j + jy) := by rw [hg41]; exact ht40
    have ht47 : tg g41 cl = 31 := by rw [hg41]; exact ht31
    have hG : GOK g41 := by rw [hg41]; exact (hG.uO hM0 (by omega))
    have hx49 : Ext o (XS j) g5 g41 := by rw [hg41]; exact Ext.row (X := XS j) ⟨jy, by omega, ht40⟩
    have hp50 : gc g41 a0 ≤ gc g5 a0 := by rw [hg41]; exact gc_out hgt39.2 (by omega) (by omega)
    have hMq51 := hM
    refine lv_iconst (v := 0) hx hb dX6_take_48 (by decide) ?_
    refine lv_istore (lv' := [(6, .int 0), (5, .ref cl), (4, .ref a0), (0, .ref o), (1, .int (nI j)), (2, .int (nI jx)), (3, .int (nI jy))]) hx hb dX6_take_49 hl (by decide) rfl (fun ls hl => ?_)
    refine lv_aload hx hb dX6_take_51 (lv_at hl 2 rfl) ?_
    refine lv_aload_n hx hb dX6_take_53 rfl (lv_at hl 3 rfl) ?_
    refine lv_aload_n hx hb dX6_take_54 rfl (lv_at hl 3 rfl) ?_
    obtain ⟨u52, u53, hP, hf⟩ := o_mo (i := 0) (q := o) hM (by omega)
    refine va_get (D := (dC, dI)) (ci := 10) (v := .int (pI g41 o 0)) (C := RX6) (T := TX6) (N := 11) hx hb hts (by decide +kernel) hown hK hP 0 rfl rfl 2 (by decide) (hts (.fieldLink RX6 58 "SnowpalaceModel" "hour" "I") (by decide +kernel)) (fun _ h9 => h9) rfl dX6_take_55 ?_
    have hv54 := hf.2.2.2.2.2.2.1
    obtain ⟨j55, hj55, en56⟩ := toN (p := (pI g41 o 0)) (k := 504) (by omega) (by omega) (by decide)
    rw [en56]
    try rw [en56] at hl
    have hl : lv_has ls 15 [(6, .int 0), (5, .ref cl), (4, .ref a0), (0, .ref o), (1, .int (nI j)), (2, .int (nI jx)), (3, .int (nI jy))] := hl
    obtain ⟨u57, u58, hP, hf⟩ := o_mo (i := 0) (q := o) hM (by omega)
    refine va_calli (va_runV (As := [.int (nI j55)]) (rest := [.ref a0]) ⟨hx, hb, hml, hown, hts⟩ (rm_warmthOf l dC dI kA eD b g41 o j55 (by omega) (by omega)) (cwV 1 hts gX6_take_X6_warmthOf rfl rfl rfl (by decide +kernel) ⟨Nat.le_of_ble_eq_true rfl, Nat.le_of_ble_eq_true rfl⟩) ⟨fb_CX, va_recv hK hP (ci := 10) (q0 := 0) rfl rfl, fun U hU hW => ⟨rfl, CX.give hb0 hM hK hG hE hS hU hW⟩⟩ rfl rfl hl.1 rfl (lv_room (Nat.le_of_ble_eq_true rfl)) dX6_take_58 ⟨(Nat.le_of_ble_eq_true rfl), (Nat.le_of_ble_eq_true rfl)⟩) hS (fun q _ h => h) (fun q h => h) (fun r59 u t H locs ht hvm hw60 hB hz1 hk1 hS => ?_)
    have hM := hB.back ht
    have hG := hB.2.2.2.1
    obtain ⟨u61, u62, u63, u64, u65, u66, hP, hf⟩ := o_ms (i := j) (q := a0) hM (by omega)
    have hgo := grid_tags hM ht44
    have hgw := fun (v9 : Gh) (hv9 : Ext o X0 g41 v9) => gc_ext hM hv9 ht44 (fun y _ z => z)
    refine va_callr (va_runV (As := [.int r59]) (rest := []) ⟨hx, hb, hml, hown, hts⟩ (rm_weak l dC dI kA eD b g41 a0 j o o r59 (by omega) (by omega) (Or.inr ht42)) (cwV 1 hts gX6_take_X5_weak rfl rfl rfl (by decide +kernel) ⟨Nat.le_of_ble_eq_true rfl, Nat.le_of_ble_eq_true rfl⟩) ⟨fb_CX, va_recv hK hP (ci := 9) (q0 := 0) rfl rfl, fun U hU hW => ⟨rfl, CX.give hb0 hM hK hG hE hS hU hW⟩⟩ rfl rfl hl.1 rfl (lv_room (Nat.le_of_ble_eq_true rfl)) dX6_take_61 ⟨(Nat.le_of_ble_eq_true rfl), (Nat.le_of_ble_eq_true rfl)⟩) hS (fun q _ h => h) (fun q h => h) (fun g69 r67 t H locs ht hvm hw68 hB hz1 hk1 hS => ?_)
    have hM := hB.1.back ht
    have hG := hB.1.2.2.2.1
    have hx70 : Ext o X0 g41 g69 := hw68
    have ht71 : tg g69 o = 17 := hx70.tk ht42 (by omega)
    have ht72 : tg g69 (pF g5 o 5) = 26 := hx70.tk ht43 (by omega)
    have ht73 : tg g69 a0 = 28 + 64 * j := hx70.tk ht44 (by omega)
    have ht74 : tg g69 (pF g5 a0 0) = 29 + 64 * j := hx70.tk ht45 (by omega)
    have ht75 : tg g69 (pF g5 (pF g5 a0 0) jy) = 30 + 64 * (8 * j + jy) := hx70.tk ht46 (by omega)
    have ht76 : tg g69 cl = 31 := hx70.tk ht47 (by omega)
    have ht77 : tg g69 r67 = 38 := hB.2.1
    have hfi78 := hB.2.2
    have hfs79 : FI g69 g69 a0 r67 := hfi78.self hx70 ht44 hgo.1 hgo.2 (fun y _ z => z)
    refine lv_astore (lv' := [(7, .ref r67), (6, .int 0), (5, .ref cl), (4, .ref a0), (0, .ref o), (1, .int (nI j)), (2, .int (nI jx)), (3, .int (nI jy))]) hx hb dX6_take_64 hl (by decide) rfl (fun ls hl => ?_)
    refine lv_aload hx hb dX6_take_66 (lv_at hl 0 rfl) ?_
    obtain ⟨hP, hf⟩ := o_ft (i := 0) (q := r67) hM (by omega)
    refine va_alen (D := (dC, dI)) hx hb hK hP 0 7 rfl rfl (v := 6) (by rfl) dX6_take_68 ?_
    refine lv_istore (lv' := [(8, .int 6), (7, .ref r67), (6, .int 0), (5, .ref cl), (4, .ref a0), (0, .ref o), (1, .int (nI j)), (2, .int (nI jx)), (3, .int (nI jy))]) hx hb dX6_take_69 hl (by decide) rfl (fun ls hl => ?_)
    refine lv_iconst (v := 0) hx hb dX6_take_71 (by decide) ?_
    refine lv_istore (lv' := [(9, .int 0), (8, .int 6), (7, .ref r67), (6, .int 0), (5, .ref cl), (4, .ref a0), (0, .ref o), (1, .int (nI j)), (2, .int (nI jx)), (3, .int (nI jy))]) hx hb dX6_take_72 hl (by decide) rfl (fun ls hl => ?_)
    have lp82 : ∀ (n83 j80 : Nat) (x81 : Int32), 0 ≤ j80 → j80 ≤ 6 → 6 < j80 + n83 → ∀ (H : Heap) (locs : List Loc) (ls : Array Slot), TM (dC, dI) kA b g69 H → va_S (fun q => b ≤ q) s.heap H locs → lv_has ls 15 [(9, .int (nI j80)), (8, .int 6), (7, .ref r67), (6, .int x81), (5, .ref cl), (4, .ref a0), (0, .ref o), (1, .int (nI j)), (2, .int (nI jx)), (3, .int (nI jy))] → W p l e (headSpec wsX6_take ({ frames := 6, cells := 730, slots := 5600, locals := 142 })).room s m args below meth c H locs 14 108 Q (F0 m 74 ls []) := by
      intro n83
      induction n83 with
      | zero => intro j80 x81 h0 h1 h2; omega
      | succ n83 ih84 =>
        intro j80 x81 lj80 hj80 hn83 H locs ls hM hS hl
        refine lv_iload hx hb dX6_take_74 (lv_at hl 0 rfl) ?_
        refine lv_iload hx hb dX6_take_76 (lv_at hl 1 rfl) ?_
        refine lv_icmp_ge (tgt := 133) hx hb dX6_take_78 (by decide) (fun c85 => ?_) (fun c85 => ?_)
        · skip
          have k86 : 6 ≤ j80 := (nI_leI (a := 6) (b := j80) (by omega) (by omega)).mp c85
          refine lv_iload hx hb dX6_take_133 (lv_at hl 3 rfl) ?_
          refine lv_if_eq (tgt := 149) hx hb dX6_take_135 (by decide) (fun c87 => ?_) (fun c87 => ?_)
          · skip
            refine lv_aload_n hx hb dX6_take_149 rfl (lv_at hl 6 rfl) ?_
            refine lv_iload hx hb dX6_take_150 (lv_at hl 3 rfl) ?_
            refine lv_if_eq (tgt := 159) hx hb dX6_take_152 (by decide) (fun _ => ?_) (fun cx => absurd c87 cx)
            refine lv_iconst (v := 0) hx hb dX6_take_159 (by decide) ?_
            obtain ⟨u88, u89, hP, hf⟩ := o_mo (i := 0) (q := o) hM (by omega)
            refine va_calli (va_runV (As := [.int 0]) (rest := []) ⟨hx, hb, hml, hown, hts⟩ (rm_isWrong l dC dI kA eD b g69 o 0 (by omega)) (cwV 1 hts gX6_take_X6_isWrong rfl rfl rfl (by decide +kernel) ⟨Nat.le_of_ble_eq_true rfl, Nat.le_of_ble_eq_true rfl⟩) ⟨fb_CX, va_recv hK hP (ci := 10) (q0 := 0) rfl rfl, fun U hU hW => ⟨rfl, CX.give hb0 hM hK hG hE hS hU hW⟩⟩ rfl rfl hl.1 rfl (lv_room (Nat.le_of_ble_eq_true rfl)) dX6_take_160 ⟨(Nat.le_of_ble_eq_true rfl), (Nat.le_of_ble_eq_true rfl)⟩) hS (fun q _ h => h) (fun q h => h) (fun r90 g92 t H locs ht hvm hw91 hB hz1 hk1 hS => ?_)
            have hM := hB.back ht
            have hG := hB.2.2.2.1
            have hx93 : Ext o X0 g69 g92 := hw91.1
            have ht94 : tg g92 o = 17 := hx93.tk ht71 (by omega)
            have ht95 : tg g92 (pF g5 o 5) = 26 := hx93.tk ht72 (by omega)
            have ht96 : tg g92 a0 = 28 + 64 * j := hx93.tk ht73 (by omega)
            have ht97 : tg g92 (pF g5 a0 0) = 29 + 64 * j := hx93.tk ht74 (by omega)
            have ht98 : tg g92 (pF g5 (pF g5 a0 0) jy) = 30 + 64 * (8 * j + jy) := hx93.tk ht75 (by omega)
            have ht99 : tg g92 cl = 31 := hx93.tk ht76 (by omega)
            have ht100 : tg g92 r67 = 38 := hx93.tk ht77 (by omega)
            obtain rfl : r90 = 0 := hw91.2.2.trans (by decide)
            have hth101 : pI g92 o 2 = 0 := by rw [hw91.2.1]; exact sI_at
            refine lv_if_eq (tgt := 170) hx hb dX6_take_163 (by decide) (fun _ => ?_) (fun cx => by first | exact absurd (by decide) cx | exact absurd cx (by decide))
            refine lv_aload hx hb dX6_take_170 (lv_at hl 4 rfl) ?_
            obtain ⟨u102, u103, u104, u105, u106, hP, hf⟩ := o_ce (i := 0) (q := cl) hM (by omega)
            refine va_getN (D := (dC, dI)) (ci := 8) (v := .int u103) (C := RX4) (T := TX4) (N := 5) hx hb hts (by decide +kernel) hown hK hP 0 rfl rfl 1 (by decide) (hN (.fieldLinkNest RX6 182 "SnowpalaceModel$Cell" "mass" "I" RX6) (by decide +kernel)) (fun _ h9 => h9) rfl dX6_take_172 ?_
            have hq1 := GCm_x0 hM00 hG00 hto (hx6 : Ext o X0 g g5)
            have hq2 := GCm_site hMv hGv ht7 (((hx49.trans (hx70.wide0 (Y := (XS j)))).trans (hx93.wide0 (Y := (XS j)))) : Ext o (XS j) g5 g92) hjv hga
            have hq5 : gc g92 a0 = gc g41 a0 := gc_ext hMq51 ((hx70.trans hx93) : Ext o X0 g41 g92) ht44 (fun y _ z => z)
            refine W.know (fun hkn1 hkn2 => ?_)
            subst hQ
            refine W.widen (k := 730) (n := 5600) (Nat.le_of_ble_eq_true rfl) (Nat.le_of_ble_eq_true rfl) ?_
            exact W.iret (v := u103) hx hb hr (fun t ht hW => ⟨⟨u103, (g92, 0), rfl, ⟨((((hx6.wide0 (Y := XA)).trans hx49.wideA).trans (hx70.wide0 (Y := XA))).trans (hx93.wide0 (Y := XA))), by show GCm g92 o + 0 ≤ GCm g o + 1; omega⟩, ⟨CX.give hb0 hM hK hG hE hS ht hW, by rw [ht]; show _ ≤ sz + (20 + 14 * (1 + 0)); omega, by rw [ht]; show _ ≤ sg + (120 + 108 * (1 + 0)); omega⟩⟩, hS.F ht⟩) hS.2.2 dX6_take_175
          · skip
            refine lv_aload hx hb dX6_take_138 (lv_at hl 5 rfl) ?_
            obtain ⟨u107, u108, u109, u110, u111, u112, hP, hf⟩ := o_ms (i := j) (q := a0) hM (by omega)
            refine va_getN (D := (dC, dI)) (ci := 9) (v := .ref (pF g69 a0 0)) (C := RX5) (T := TX5) (N := 10) hx hb hts (by decide +kernel) hown hK hP 0 rfl rfl 0 (by decide) (hN (.fieldLinkNest RX6 160 "SnowpalaceModel$Site" "cells" "[[LSnowpalaceModel$Cell;" RX6) (by decide +kernel)) (fun _ h9 => h9) rfl dX6_take_140 ?_
            have ht113 : tg g69 (pF g69 a0 0) = 29 + 64 * j := hf.1
            refine lv_iload_n hx hb dX6_take_143 rfl (lv_at hl 9 rfl) ?_
            obtain ⟨hP, hf⟩ := o_co (i := j) (q := (pF g69 a0 0)) hM (by omega)
            have ec : ((nI jy) : Int32).toNatClampNeg = jy := nI_clamp (by omega)
            refine rt_aldA (D := (dC, dI)) (t0 := 9) hx hb hK hP rfl (vp_in_nI (by omega) (by decide)) (y := (pF g69 (pF g69 a0 0) jy)) ((congrArg (fun z => if z < 6 then some (pF g69 (pF g69 a0 0) z) else none) ec).trans (if_pos (by omega))) dX6_take_144 ?_
            have ht114 : tg g69 (pF g69 (pF g69 a0 0) jy) = 30 + 64 * (8 * j + jy) := (hf jy (by omega))
            refine lv_iload_n hx hb dX6_take_145 rfl (lv_at hl 8 rfl) ?_
            refine lv_aload hx hb dX6_take_146 (lv_at hl 4 rfl) ?_
            have hgt115 := grid_tags hM ht73
            have ht116 : tg g69 (pF g69 (pF g69 a0 0) jy) = 30 + 64 * (8 * j + jy) := hgt115.2 jy (by omega)
            have hMp := hM
            obtain ⟨hP, hf⟩ := o_cr (i := (8 * j + jy)) (q := (pF g69 (pF g69 a0 0) jy)) hM (by omega)
            obtain ⟨u117, u118, u119, u120, u121, hP, hf⟩ := o_ce (i := 0) (q := cl) hM (by omega)
            have hPv := hP
            obtain ⟨hP, hf⟩ := o_cr (i := (8 * j + jy)) (q := (pF g69 (pF g69 a0 0) jy)) hM (by omega)
            refine rt_astq (D := (dC, dI)) (t0 := 8) (ci := 8) hx hb hK hP (hM.ge (by omega)) hS rfl hPv rfl (vp_in_nI (by omega) (by decide)) dX6_take_148 (fun H locs hP hz ho hS => ?_)
            have ec : ((nI jx) : Int32).toNatClampNeg = jx := nI_clamp (by omega)
            rw [ec] at hP
            have hM0 := hM
            have hM := p_cr (i := (8 * j + jy)) (f := va_up (pO g69 (pF g69 (pF g69 a0 0) jy)) jx (some cl)) hM (by omega) hP ho (up_some hf ht76)
            obtain ⟨g122, hg122⟩ : ∃ z, z = uO g69 (pF g69 (pF g69 a0 0) jy) (va_up (pO g69 (pF g69 (pF g69 a0 0) jy)) jx (some cl)) := ⟨_, rfl⟩
            rw [← hg122] at hM
            have ht123 : tg g122 o = 17 := by rw [hg122]; exact ht71
            have ht124 : tg g122 (pF g5 o 5) = 26 := by rw [hg122]; exact ht72
            have ht125 : tg g122 a0 = 28 + 64 * j := by rw [hg122]; exact ht73
            have ht126 : tg g122 (pF g5 a0 0) = 29 + 64 * j := by rw [hg122]; exact ht74
            have ht127 : tg g122 (pF g5 (pF g5 a0 0) jy) = 30 + 64 * (8 * j + jy) := by rw [hg122]; exact ht75
            have ht128 : tg g122 cl = 31 := by rw [hg122]; exact ht76
            have ht129 : tg g122 r67 = 38 := by rw [hg122]; exact ht77
            have ht130 : tg g122 (pF g69 a0 0) = 29 + 64 * j := by rw [hg122]; exact ht113
            have ht131 : tg g122 (pF g69 (pF g69 a0 0) jy) = 30 + 64 * (8 * j + jy) := by rw [hg122]; exact ht116
            have hG : GOK g122 := by rw [hg122]; exact (hG.uO hM0 (by omega))
            have hx133 : Ext o (XS j) g69 g122 := by rw [hg122]; exact Ext.row (X := XS j) ⟨jy, by omega, ht116⟩
            have hp134 : gc g122 a0 ≤ gc g69 a0 + 1 := by rw [hg122]; exact gc_put hgt115.2 (by omega) (by omega)
            have he135 : gc g69 a0 = gc g41 a0 := gc_ext hMq51 (hx70 : Ext o X0 g41 g69) ht44 (fun y _ z => z)
            have hMq136 := hM
            refine lv_aload_n hx hb dX6_take_149 rfl (lv_at hl 6 rfl) ?_
            refine lv_iload hx hb dX6_take_150 (lv_at hl 3 rfl) ?_
            refine lv_if_eq (tgt := 159) hx hb dX6_take_152 (by decide) (fun cx => absurd cx c87) (fun _ => ?_)
            refine lv_iconst (v := 3) hx hb dX6_take_155 (by decide) ?_
            refine lv_goto (tgt := 160) hx hb dX6_take_156 (by decide) ?_
            obtain ⟨u137, u138, hP, hf⟩ := o_mo (i := 0) (q := o) hM (by omega)
            refine va_calli (va_runV (As := [.int 3]) (rest := []) ⟨hx, hb, hml, hown, hts⟩ (rm_isWrong l dC dI kA eD b g122 o 3 (by omega)) (cwV 1 hts gX6_take_X6_isWrong rfl rfl rfl (by decide +kernel) ⟨Nat.le_of_ble_eq_true rfl, Nat.le_of_ble_eq_true rfl⟩) ⟨fb_CX, va_recv hK hP (ci := 10) (q0 := 0) rfl rfl, fun U hU hW => ⟨rfl, CX.give hb0 hM hK hG hE hS hU hW⟩⟩ rfl rfl hl.1 rfl (lv_room (Nat.le_of_ble_eq_true rfl)) dX6_take_160 ⟨(Nat.le_of_ble_eq_true rfl), (Nat.le_of_ble_eq_true rfl)⟩) hS (fun q _ h => h) (fun q h => h) (fun r139 g141 t H locs ht hvm hw140 hB hz1 hk1 hS => ?_)
            have hM := hB.back ht
            have hG := hB.2.2.2.1
            have hx142 : Ext o X0 g122 g141 := hw140.1
            have ht143 : tg g141 o = 17 := hx142.tk ht123 (by omega)
            have ht144 : tg g141 (pF g5 o 5) = 26 := hx142.tk ht124 (by omega)
            have ht145 : tg g141 a0 = 28 + 64 * j := hx142.tk ht125 (by omega)
            have ht146 : tg g141 (pF g5 a0 0) = 29 + 64 * j := hx142.tk ht126 (by omega)
            have ht147 : tg g141 (pF g5 (pF g5 a0 0) jy) = 30 + 64 * (8 * j + jy) := hx142.tk ht127 (by omega)
            have ht148 : tg g141 cl = 31 := hx142.tk ht128 (by omega)
            have ht149 : tg g141 r67 = 38 := hx142.tk ht129 (by omega)
            have ht150 : tg g141 (pF g69 a0 0) = 29 + 64 * j := hx142.tk ht130 (by omega)
            have ht151 : tg g141 (pF g69 (pF g69 a0 0) jy) = 30 + 64 * (8 * j + jy) := hx142.tk ht131 (by omega)
            obtain rfl : r139 = 1 := hw140.2.2.trans (by decide)
            have hth152 : pI g141 o 2 = 3 := by rw [hw140.2.1]; exact sI_at
            refine lv_if_eq (tgt := 170) hx hb dX6_take_163 (by decide) (fun cx => by first | exact absurd cx (by decide) | exact absurd (by decide) cx) (fun _ => ?_)
            refine lv_iconst (v := 0) hx hb dX6_take_166 (by decide) ?_
            refine lv_goto (tgt := 175) hx hb dX6_take_167 (by decide) ?_
            have hq1 := GCm_x0 hM00 hG00 hto (hx6 : Ext o X0 g g5)
            have hq2 := GCm_site hMv hGv ht7 ((((hx49.trans (hx70.wide0 (Y := (XS j)))).trans hx133).trans (hx142.wide0 (Y := (XS j)))) : Ext o (XS j) g5 g141) hjv hga
            have hq5 : gc g141 a0 = gc g122 a0 := gc_ext hMq136 (hx142 : Ext o X0 g122 g141) ht125 (fun y _ z => z)
            refine W.know (fun hkn1 hkn2 => ?_)
            subst hQ
            refine W.widen (k := 730) (n := 5600) (Nat.le_of_ble_eq_true rfl) (Nat.le_of_ble_eq_true rfl) ?_
            exact W.iret (v := 0) hx hb hr (fun t ht hW => ⟨⟨0, (g141, 0), rfl, ⟨(((((hx6.wide0 (Y := XA)).trans hx49.wideA).trans (hx70.wide0 (Y := XA))).trans hx133.wideA).trans (hx142.wide0 (Y := XA))), by show GCm g141 o + 0 ≤ GCm g o + 1; omega⟩, ⟨CX.give hb0 hM hK hG hE hS ht hW, by rw [ht]; show _ ≤ sz + (20 + 14 * (1 + 0)); omega, by rw [ht]; show _ ≤ sg + (120 + 108 * (1 + 0)); omega⟩⟩, hS.F ht⟩) hS.2.2 dX6_take_175
        · skip
          have k153 : ¬ (6 ≤ j80) := fun z => c85 ((nI_leI (a := 6) (b := j80) (by omega) (by omega)).mpr z)
          refine lv_aload hx hb dX6_take_81 (lv_at hl 2 rfl) ?_
          refine lv_iload hx hb dX6_take_83 (lv_at hl 0 rfl) ?_
          obtain ⟨hP, hf⟩ := o_ft (i := 0) (q := r67) hM (by omega)
          have ec : ((nI j80) : Int32).toNatClampNeg = j80 := nI_clamp (by omega)
          refine rt_aldA (D := (dC, dI)) (t0 := 7) hx hb hK hP rfl (vp_in_nI (by omega) (by decide)) (y := (pF g69 r67 j80)) ((congrArg (fun z => if z < 6 then some (pF g69 r67 z) else none) ec).trans (if_pos (by omega))) dX6_take_85 ?_
          have ht154 : tg g69 (pF g69 r67 j80) = 39 + 64 * j80 := (hf j80 (by omega))
          refine lv_astore (lv' := [(10, .ref (pF g69 r67 j80)), (9, .int (nI j80)), (8, .int 6), (7, .ref r67), (6, .int x81), (5, .ref cl), (4, .ref a0), (0, .ref o), (1, .int (nI j)), (2, .int (nI jx)), (3, .int (nI jy))]) hx hb dX6_take_86 hl (by decide) rfl (fun ls hl => ?_)
          refine lv_aload hx hb dX6_take_88 (lv_at hl 0 rfl) ?_
          refine lv_astore (lv' := [(11, .ref (pF g69 r67 j80)), (10, .ref (pF g69 r67 j80)), (9, .int (nI j80)), (8, .int 6), (7, .ref r67), (6, .int x81), (5, .ref cl), (4, .ref a0), (0, .ref o), (1, .int (nI j)), (2, .int (nI jx)), (3, .int (nI jy))]) hx hb dX6_take_90 hl (by decide) rfl (fun ls hl => ?_)
          refine lv_aload hx hb dX6_take_92 (lv_at hl 0 rfl) ?_
          obtain ⟨hP, hf⟩ := o_fr (i := j80) (q := (pF g69 r67 j80)) hM (by omega)
          refine va_alen (D := (dC, dI)) hx hb hK hP 0 1 rfl rfl (v := 8) (by rfl) dX6_take_94 ?_
          refine lv_istore (lv' := [(12, .int 8), (11, .ref (pF g69 r67 j80)), (10, .ref (pF g69 r67 j80)), (9, .int (nI j80)), (8, .int 6), (7, .ref r67), (6, .int x81), (5, .ref cl), (4, .ref a0), (0, .ref o), (1, .int (nI j)), (2, .int (nI jx)), (3, .int (nI jy))]) hx hb dX6_take_95 hl (by decide) rfl (fun ls hl => ?_)
          refine lv_iconst (v := 0) hx hb dX6_take_97 (by decide) ?_
          refine lv_istore (lv' := [(13, .int 0), (12, .int 8), (11, .ref (pF g69 r67 j80)), (10, .ref (pF g69 r67 j80)), (9, .int (nI j80)), (8, .int 6), (7, .ref r67), (6, .int x81), (5, .ref cl), (4, .ref a0), (0, .ref o), (1, .int (nI j)), (2, .int (nI jx)), (3, .int (nI jy))]) hx hb dX6_take_98 hl (by decide) rfl (fun ls hl => ?_)
          have lp157 : ∀ (n158 j155 : Nat) (x156 : Int32), 0 ≤ j155 → j155 ≤ 8 → 8 < j155 + n158 → ∀ (H : Heap) (locs : List Loc) (ls : Array Slot), TM (dC, dI) kA b g69 H → va_S (fun q => b ≤ q) s.heap H locs → lv_has ls 15 [(13, .int (nI j155)), (12, .int 8), (11, .ref (pF g69 r67 j80)), (10, .ref (pF g69 r67 j80)), (9, .int (nI j80)), (8, .int 6), (7, .ref r67), (6, .int x156), (5, .ref cl), (4, .ref a0), (0, .ref o), (1, .int (nI j)), (2, .int (nI jx)), (3, .int (nI jy))] → W p l e (headSpec wsX6_take ({ frames := 6, cells := 730, slots := 5600, locals := 142 })).room s m args below meth c H locs 14 108 Q (F0 m 100 ls []) := by
            intro n158
            induction n158 with
            | zero => intro j155 x156 h0 h1 h2; omega
            | succ n158 ih159 =>
              intro j155 x156 lj155 hj155 hn158 H locs ls hM hS hl
              refine lv_iload hx hb dX6_take_100 (lv_at hl 0 rfl) ?_
              refine lv_iload hx hb dX6_take_102 (lv_at hl 1 rfl) ?_
              refine lv_icmp_ge (tgt := 127) hx hb dX6_take_104 (by decide) (fun c160 => ?_) (fun c160 => ?_)
              · skip
                have k161 : 8 ≤ j155 := (nI_leI (a := 8) (b := j155) (by omega) (by omega)).mp c160
                refine lv_iinc (v := (nI (j80 + 1))) (lv' := [(9, .int (nI (j80 + 1))), (13, .int (nI j155)), (12, .int 8), (11, .ref (pF g69 r67 j80)), (10, .ref (pF g69 r67 j80)), (8, .int 6), (7, .ref r67), (6, .int x156), (5, .ref cl), (4, .ref a0), (0, .ref o), (1, .int (nI j)), (2, .int (nI jx)), (3, .int (nI jy))]) hx hb dX6_take_127 hl (k := 4) rfl (nI_add j80 1) (by decide) rfl (fun ls hl => ?_)
                refine lv_goto (tgt := 74) hx hb dX6_take_130 (by decide) ?_
                exact ih84 ((j80 + 1)) x156 (by omega) (by omega) (by omega) H _ ls  hM hS (lv_sub hl [0, 5, 6, 7, 8, 9, 10, 11, 12, 13] rfl)
              · skip
                have k162 : ¬ (8 ≤ j155) := fun z => c160 ((nI_leI (a := 8) (b := j155) (by omega) (by omega)).mpr z)
                refine lv_aload hx hb dX6_take_107 (lv_at hl 2 rfl) ?_
                refine lv_iload hx hb dX6_take_109 (lv_at hl 0 rfl) ?_
                obtain ⟨hP, hf⟩ := o_fr (i := j80) (q := (pF g69 r67 j80)) hM (by omega)
                refine va_zald (D := (dC, dI)) hx hb hK hP 0 1 rfl rfl (vp_in_nI (by omega) (by decide)) dX6_take_111 ?_
                refine lv_topi (fun v163 e164 => ?_)
                have ec : ((nI j155) : Int32).toNatClampNeg = j155 := nI_clamp (by omega)
                rw [ec] at e164
                subst e164
                refine lv_istore (lv' := [(14, .int (pI g69 (pF g69 r67 j80) j155)), (13, .int (nI j155)), (12, .int 8), (11, .ref (pF g69 r67 j80)), (10, .ref (pF g69 r67 j80)), (9, .int (nI j80)), (8, .int 6), (7, .ref r67), (6, .int x156), (5, .ref cl), (4, .ref a0), (0, .ref o), (1, .int (nI j)), (2, .int (nI jx)), (3, .int (nI jy))]) hx hb dX6_take_112 hl (by decide) rfl (fun ls hl => ?_)
                refine lv_iload hx hb dX6_take_114 (lv_at hl 8 rfl) ?_
                refine lv_iload hx hb dX6_take_116 (lv_at hl 0 rfl) ?_
                refine lv_ior hx hb dX6_take_118 ?_
                refine lv_topi (fun v165 e166 => ?_)
                refine lv_istore (lv' := [(6, .int v165), (14, .int (pI g69 (pF g69 r67 j80) j155)), (13, .int (nI j155)), (12, .int 8), (11, .ref (pF g69 r67 j80)), (10, .ref (pF g69 r67 j80)), (9, .int (nI j80)), (8, .int 6), (7, .ref r67), (5, .ref cl), (4, .ref a0), (0, .ref o), (1, .int (nI j)), (2, .int (nI jx)), (3, .int (nI jy))]) hx hb dX6_take_119 hl (by decide) rfl (fun ls hl => ?_)
                refine lv_iinc (v := (nI (j155 + 1))) (lv' := [(13, .int (nI (j155 + 1))), (6, .int v165), (14, .int (pI g69 (pF g69 r67 j80) j155)), (12, .int 8), (11, .ref (pF g69 r67 j80)), (10, .ref (pF g69 r67 j80)), (9, .int (nI j80)), (8, .int 6), (7, .ref r67), (5, .ref cl), (4, .ref a0), (0, .ref o), (1, .int (nI j)), (2, .int (nI jx)), (3, .int (nI jy))]) hx hb dX6_take_121 hl (k := 2) rfl (nI_add j155 1) (by decide) rfl (fun ls hl => ?_)
                refine lv_goto (tgt := 100) hx hb dX6_take_124 (by decide) ?_
                exact ih159 ((j155 + 1)) v165 (by omega) (by omega) (by omega) H _ ls  hM hS (lv_sub hl [0, 3, 4, 5, 6, 7, 8, 1, 9, 10, 11, 12, 13, 14] rfl)
          exact lp157 (8 + 1) 0 x81 (by omega) (by omega) (by omega) H _ ls  hM hS (lv_sub hl [0, 1, 2, 3, 4, 5, 6, 7, 8, 9, 10, 11, 12, 13] rfl)
    exact lp82 (6 + 1) 0 0 (by omega) (by omega) (by omega) H _ ls  hM hS (lv_sub hl [0, 1, 2, 3, 4, 5, 6, 7, 8, 9] rfl)
  · skip
    have hv167 := vr1 (nc01 hw4.2) c8
    refine lv_iconst (v := 0) hx hb dX6_take_10 (by decide) ?_
    have hq1 := GCm_x0 hM00 hG00 hto (hx6 : Ext o X0 g g5)
    refine W.know (fun hkn1 hkn2 => ?_)
    subst hQ
    refine W.widen (k := 730) (n := 5600) (Nat.le_of_ble_eq_true rfl) (Nat.le_of_ble_eq_true rfl) ?_
    exact W.iret (v := 0) hx hb hr (fun t ht hW => ⟨⟨0, (g5, 0), rfl, ⟨(hx6 : Ext o X0 g g5).wide0, by show GCm g5 o + 0 ≤ GCm g o + 1; omega⟩, ⟨CX.give hb0 hM hK hG hE hS ht hW, by rw [ht]; show _ ≤ sz + (20 + 14 * (1 + 0)); omega, by rw [ht]; show _ ≤ sg + (120 + 108 * (1 + 0)); omega⟩⟩, hS.F ht⟩) hS.2.2 dX6_take_11
