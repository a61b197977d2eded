set_option maxHeartbeats 4000000 in
set_option maxRecDepth 100000 in
theorem rmf_carries (l : Launch) (dC : Nat → ClassId) (dI : Nat → Nat → Nat) (kA : Nat → ClassId) (eD b : Nat) (g : Gh) (o : Nat) (site : Int32) (x : Int32) (hto : tg g o = 17)  : Met l yX6_carries wsX6_carries ({ frames := 6, cells := 710, slots := 5460, locals := 144 }) (va_Pc [.ref o, .int site, .int x] (CX (dC, dI) kA eD b g)) (va_Qi (fun (r : Int32) (u : Gh) => Ext o X0 g u) (fun (u : Gh) t => CX (dC, dI) kA eD b u t) (fun q => b ≤ q)) 710 5460 (fun q => b ≤ q) := by
  refine Met.ofW (cc := cX6_carries) (maxL := 5) (ret := (some .int)) (by decide +kernel) rfl ?_
  intro p e s m args below meth c s₁ B hml hv
  obtain ⟨rfl, hb0, hM, hK, hG, hE⟩ := hv
  have hx := B.exec
  have hb := B.bytes
  have hr := B.returns
  have hts := atoms_spec (ws := wsX6_carries) B.pre
  have hown : s.vm.findClass RX6 = some m.cls := findClass_of_methodNamed B.named
  have hlocks := B.notSynchronized
  have hT := hE.1
  have hN := hE.2.2.2.2.2.2.2.1
  have hS : va_S (fun q => b ≤ q) s.heap s.heap [] := va_S.rf
  have hl := lv_entry ([.ref o, .int site, .int x]) (n := 5) (Nat.le_of_ble_eq_true rfl)
  rw [lg_entry_eq]
  generalize (lg_sl ([.ref o, .int site, .int x]) ++ List.replicate (5 - (lg_sl ([.ref o, .int site, .int x])).length) Slot.unset).toArray = ls at hl ⊢
  have hl : lv_has ls 5 [(0, .ref o), (1, .int site), (2, .int x)] := hl
  generalize ([.ref o, .int site, .int x] : List Value).toArray = args at hts ⊢
  refine W.q (fun Q hQ => ?_)
  refine lv_aload_n hx hb dX6_carries_0 rfl (lv_at hl 0 rfl) ?_
  refine lv_iload_n hx hb dX6_carries_1 rfl (lv_at hl 1 rfl) ?_
  refine lv_iload_n hx hb dX6_carries_2 rfl (lv_at hl 2 rfl) ?_
  refine lv_iconst (v := 0) hx hb dX6_carries_3 (by decide) ?_
  obtain ⟨u1, u2, hP, hf⟩ := o_mo (i := 0) (q := o) hM (by omega)
  refine va_calli (va_runV (As := [.int site, .int x, .int 0]) (rest := []) ⟨hx, hb, hml, hown, hts⟩ (rm_isNoPlace l dC dI kA eD b g o site x 0 (by omega)) (cwV 3 hts gX6_carries_X6_isNoPlace rfl rfl rfl (by decide +kernel) ⟨Nat.le_of_ble_eq_true rfl, Nat.le_of_ble_eq_true rfl⟩) ⟨fb_CX, va_recv hK hP (ci := 10) (q0 := 0) rfl rfl, fun U hU hW => ⟨rfl, CX.give hb0 hM hK hG hE hS hU hW⟩⟩ rfl rfl hl.1 rfl (lv_room (Nat.le_of_ble_eq_true rfl)) dX6_carries_4 ⟨(Nat.le_of_ble_eq_true rfl), (Nat.le_of_ble_eq_true rfl)⟩) hS (fun q _ h => h) (fun q h => h) (fun r3 g5 t H locs ht hvm hw4 hB hz1 hk1 hS => ?_)
  have hM := hB.back ht
  have hG := hB.2.2.2.1
  have hx6 : Ext o X0 g g5 := hw4.1
  have ht7 : tg g5 o = 17 := hx6.tk hto (by omega)
  have hth8 := hw4.2.1
  refine lv_if_eq (tgt := 12) hx hb dX6_carries_7 (by decide) (fun c9 => ?_) (fun c9 => ?_)
  · skip
    have hv10 := vr0 (vr01 hw4.2.2) c9
    have hfm := (mo_list hM ht7).1
    have hls := (mo_list hM ht7).2
    obtain ⟨j, hj, rfl⟩ := toN (p := site) (k := 2) (by omega) (by omega) (by decide)
    have hl : lv_has ls 5 [(0, .ref o), (1, .int (nI j)), (2, .int x)] := hl
    have ej : (nI j).toInt = (j : Int) := nI_toInt (by omega)
    obtain ⟨jx, hjx, rfl⟩ := toN (p := x) (k := 7) (by omega) (by omega) (by decide)
    have hl : lv_has ls 5 [(0, .ref o), (1, .int (nI j)), (2, .int (nI jx))] := hl
    have ejx : (nI jx).toInt = (jx : Int) := nI_toInt (by omega)
    have hjs : (j : Int) < (pI g5 (pF g5 o 5) 0).toInt := by omega
    refine lv_aload_n hx hb dX6_carries_12 rfl (lv_at hl 0 rfl) ?_
    obtain ⟨u11, u12, hP, hf⟩ := o_mo (i := 0) (q := o) hM (by omega)
    refine va_get (D := (dC, dI)) (ci := 10) (v := .ref (pF g5 o 5)) (C := RX6) (T := TX6) (N := 11) hx hb hts (by decide +kernel) hown hK hP 0 rfl rfl 10 (by decide) (hts (.fieldLink RX6 34 "SnowpalaceModel" "sites" "Ljava/util/List;") (by decide +kernel)) (fun _ h9 => h9) rfl dX6_carries_13 ?_
    refine lv_iload_n hx hb dX6_carries_16 rfl (lv_at hl 1 rfl) ?_
    obtain ⟨hP, hf⟩ := o_al (i := 0) (q := (pF g5 o 5)) hM (by omega)
    refine va_callFr (va_runF (hK.1 3 _ rfl).2 (As := [.int (nI j)]) (rest := []) ⟨hx, hb, hml, hown, hts⟩ (rj_get l dC dI kA eD b g5 (pF g5 o 5) j (by omega) hjs) (va_cwF 1 hts gX6_carries_Jx4a65c_get_915e3_f149Jx4a65c rfl rfl rfl hE.2.2.2.2.1 (by decide +kernel) ⟨Nat.le_of_ble_eq_true rfl, Nat.le_of_ble_eq_true rfl⟩) ⟨fb_CX, va_recv hK hP (ci := 3) (q0 := 0) rfl rfl, fun U hU hW => ⟨rfl, CX.give hb0 hM hK hG hE hS hU hW⟩⟩ rfl rfl hl.1 rfl (lv_room (Nat.le_of_ble_eq_true rfl)) dX6_carries_17 ⟨(Nat.le_of_ble_eq_true rfl), (Nat.le_of_ble_eq_true rfl)⟩) hS (fun q _ h => h) (fun q h => h) (fun u r13 t H locs ht hvm hw14 hB hz1 hk1 hS => ?_)
    have hM := hB.1.back ht
    have hG := hB.1.2.2.2.1
    have ht15 : tg g5 r13 = 28 + 64 * j := hB.2.1
    have hg16 : pO g5 (pF g5 (pF g5 o 5) 0) j = some r13 := hB.2.2
    obtain ⟨u17, u18, u19, u20, u21, u22, hP, hf⟩ := o_ms (i := j) (q := r13) hM (by omega)
    refine va_castY hx hb hown (hts (.classLink RX6 125 "SnowpalaceModel$Site") (by decide +kernel)) hE.2.2.2.2.2.2.1 (va_recv hK hP (ci := 9) (q0 := 0) rfl rfl) dX6_carries_22 ?_
    refine lv_astore_n (lv' := [(3, .ref r13), (0, .ref o), (1, .int (nI j)), (2, .int (nI jx))]) hx hb dX6_carries_25 rfl hl (by decide) rfl (fun ls hl => ?_)
    refine lv_aload_n hx hb dX6_carries_26 rfl (lv_at hl 1 rfl) ?_
    refine lv_aload_n hx hb dX6_carries_27 rfl (lv_at hl 0 rfl) ?_
    refine lv_iload_n hx hb dX6_carries_28 rfl (lv_at hl 3 rfl) ?_
    obtain ⟨u23, u24, u25, u26, u27, u28, hP, hf⟩ := o_ms (i := j) (q := r13) hM (by omega)
    refine va_calli (va_runV (As := [.int (nI jx)]) (rest := [.ref o]) ⟨hx, hb, hml, hown, hts⟩ (rm_top l dC dI kA eD b g5 r13 j (nI jx) (by omega)) (cwV 1 hts gX6_carries_X5_top rfl rfl rfl (by decide +kernel) ⟨Nat.le_of_ble_eq_true rfl, Nat.le_of_ble_eq_true rfl⟩) ⟨fb_CX, va_recv hK hP (ci := 9) (q0 := 0) rfl rfl, fun U hU hW => ⟨rfl, CX.give hb0 hM hK hG hE hS hU hW⟩⟩ rfl rfl hl.1 rfl (lv_room (Nat.le_of_ble_eq_true rfl)) dX6_carries_29 ⟨(Nat.le_of_ble_eq_true rfl), (Nat.le_of_ble_eq_true rfl)⟩) hS (fun q _ h => h) (fun q h => h) (fun r29 u t H locs ht hvm hw30 hB hz1 hk1 hS => ?_)
    have hM := hB.back ht
    have hG := hB.2.2.2.1
    refine lv_iconst (v := (-1)) hx hb dX6_carries_32 (by decide) ?_
    refine lv_icmp_ne (tgt := 40) hx hb dX6_carries_33 (by decide) (fun c31 => ?_) (fun c31 => ?_)
    · skip
      refine lv_iconst (v := 0) hx hb dX6_carries_40 (by decide) ?_
      obtain ⟨u32, u33, hP, hf⟩ := o_mo (i := 0) (q := o) hM (by omega)
      refine va_calli (va_runV (As := [.int 0]) (rest := []) ⟨hx, hb, hml, hown, hts⟩ (rm_isWrong l dC dI kA eD b g5 o 0 (by omega)) (cwV 1 hts gX6_carries_X6_isWrong rfl rfl rfl (by decide +kernel) ⟨Nat.le_of_ble_eq_true rfl, Nat.le_of_ble_eq_true rfl⟩) ⟨fb_CX, va_recv hK hP (ci := 10) (q0 := 0) rfl rfl, fun U hU hW => ⟨rfl, CX.give hb0 hM hK hG hE hS hU hW⟩⟩ rfl rfl hl.1 rfl (lv_room (Nat.le_of_ble_eq_true rfl)) dX6_carries_41 ⟨(Nat.le_of_ble_eq_true rfl), (Nat.le_of_ble_eq_true rfl)⟩) hS (fun q _ h => h) (fun q h => h) (fun r34 g36 t H locs ht hvm hw35 hB hz1 hk1 hS => ?_)
      have hM := hB.back ht
      have hG := hB.2.2.2.1
      have hx37 : Ext o X0 g5 g36 := hw35.1
      have ht38 : tg g36 o = 17 := hx37.tk ht7 (by omega)
      have ht39 : tg g36 (pF g5 o 5) = 26 := hx37.tk hfm (by omega)
      have ht40 : tg g36 r13 = 28 + 64 * j := hx37.tk ht15 (by omega)
      obtain rfl : r34 = 0 := hw35.2.2.trans (by decide)
      have hth41 : pI g36 o 2 = 0 := by rw [hw35.2.1]; exact sI_at
      refine lv_if_ne (tgt := 56) hx hb dX6_carries_44 (by decide) (fun cx => by first | exact absurd cx (by decide) | exact absurd (by decide) cx) (fun _ => ?_)
      refine lv_aload_n hx hb dX6_carries_47 rfl (lv_at hl 0 rfl) ?_
      refine lv_iconst (v := (-1)) hx hb dX6_carries_48 (by decide) ?_
      refine lv_iconst (v := 0) hx hb dX6_carries_49 (by decide) ?_
      obtain ⟨u42, u43, u44, u45, u46, u47, hP, hf⟩ := o_ms (i := j) (q := r13) hM (by omega)
      refine va_calli (va_runV (As := [.int (-1), .int 0]) (rest := []) ⟨hx, hb, hml, hown, hts⟩ (rm_isOpen l dC dI kA eD b g36 r13 j o o (-1) 0 (by omega) (by omega) (Or.inr ht38)) (cwV 2 hts gX6_carries_X5_isOpen rfl rfl rfl (by decide +kernel) ⟨Nat.le_of_ble_eq_true rfl, Nat.le_of_ble_eq_true rfl⟩) ⟨fb_CX, va_recv hK hP (ci := 9) (q0 := 0) rfl rfl, fun U hU hW => ⟨rfl, CX.give hb0 hM hK hG hE hS hU hW⟩⟩ rfl rfl hl.1 rfl (lv_room (Nat.le_of_ble_eq_true rfl)) dX6_carries_50 ⟨(Nat.le_of_ble_eq_true rfl), (Nat.le_of_ble_eq_true rfl)⟩) hS (fun q _ h => h) (fun q h => h) (fun r48 g50 t H locs ht hvm hw49 hB hz1 hk1 hS => ?_)
      have hM := hB.back ht
      have hG := hB.2.2.2.1
      have hx51 : Ext o X0 g36 g50 := hw49.1
      have ht52 : tg g50 o = 17 := hx51.tk ht38 (by omega)
      have ht53 : tg g50 (pF g5 o 5) = 26 := hx51.tk ht39 (by omega)
      have ht54 : tg g50 r13 = 28 + 64 * j := hx51.tk ht40 (by omega)
      refine lv_if_ne (tgt := 58) hx hb dX6_carries_53 (by decide) (fun c55 => ?_) (fun c55 => ?_)
      · skip
        refine lv_iconst (v := 0) hx hb dX6_carries_58 (by decide) ?_
        refine lv_istore (lv' := [(4, .int 0), (3, .ref r13), (0, .ref o), (1, .int (nI j)), (2, .int (nI jx))]) hx hb dX6_carries_59 hl (by decide) rfl (fun ls hl => ?_)
        have lp58 : ∀ (n59 j56 : Nat) (g57 : Gh) , 0 ≤ j56 → j56 ≤ 99 → 99 < j56 + n59 → ∀ (H : Heap) (locs : List Loc) (ls : Array Slot), (Ext o X0 g50 g57) → (GOK g57) → TM (dC, dI) kA b g57 H → va_S (fun q => b ≤ q) s.heap H locs → lv_has ls 5 [(4, .int (nI j56)), (3, .ref r13), (0, .ref o), (1, .int (nI j)), (2, .int (nI jx))] → W p l e (headSpec wsX6_carries ({ frames := 6, cells := 710, slots := 5460, locals := 144 })).room s m args below meth c H locs (7 + 7 * (j56 - 0)) (54 + 54 * (j56 - 0)) Q (F0 m 61 ls []) := by
          intro n59
          induction n59 with
          | zero => intro j56 g57 h0 h1 h2; omega
          | succ n59 ih60 =>
            intro j56 g57 lj56 hj56 hn59 H locs ls hx61 hG hM hS hl
            have ht62 : tg g57 o = 17 := hx61.tk ht52 (by omega)
            have ht63 : tg g57 (pF g5 o 5) = 26 := hx61.tk ht53 (by omega)
            have ht64 : tg g57 r13 = 28 + 64 * j := hx61.tk ht54 (by omega)
            refine lv_iload hx hb dX6_carries_61 (lv_at hl 0 rfl) ?_
            refine lv_bipush (v := 99) hx hb dX6_carries_63 (by decide) ?_
            refine lv_icmp_ge (tgt := 86) hx hb dX6_carries_65 (by decide) (fun c65 => ?_) (fun c65 => ?_)
            · skip
              have k66 : 99 ≤ j56 := (nI_leI (a := 99) (b := j56) (by omega) (by omega)).mp c65
              refine lv_iload hx hb dX6_carries_86 (lv_at hl 0 rfl) ?_
              subst hQ
              refine W.widen (k := 710) (n := 5460) (by omega) (by omega) ?_
              exact W.iret (v := (nI j56)) hx hb hr (fun t ht hW => ⟨⟨(nI j56), g57, rfl, (((hx6.trans hx37).trans hx51).trans hx61), CX.give hb0 hM hK hG hE hS ht hW⟩, hS.F ht⟩) hS.2.2 dX6_carries_88
            · skip
              have k67 : ¬ (99 ≤ j56) := fun z => c65 ((nI_leI (a := 99) (b := j56) (by omega) (by omega)).mpr z)
              refine lv_aload_n hx hb dX6_carries_68 rfl (lv_at hl 1 rfl) ?_
              refine lv_iload_n hx hb dX6_carries_69 rfl (lv_at hl 4 rfl) ?_
              refine lv_iload hx hb dX6_carries_70 (lv_at hl 0 rfl) ?_
              refine lv_iconst (v := 1) hx hb dX6_carries_72 (by decide) ?_
              refine lv_iadd hx hb dX6_carries_73 ?_
              refine lv_topi (fun v68 e69 => ?_)
              obtain rfl : v68 = nI (j56 + 1) := e69.trans (nI_add j56 1)
              obtain ⟨u70, u71, u72, u73, u74, u75, hP, hf⟩ := o_ms (i := j) (q := r13) hM (by omega)
              refine va_calli (va_runV (As := [.int (nI jx), .int (nI (j56 + 1))]) (rest := []) ⟨hx, hb, hml, hown, hts⟩ (rm_isOpen l dC dI kA eD b g57 r13 j o o (nI jx) (nI (j56 + 1)) (by omega) (by omega) (Or.inr ht62)) (cwV 2 hts gX6_carries_X5_isOpen rfl rfl rfl (by decide +kernel) ⟨Nat.le_of_ble_eq_true rfl, Nat.le_of_ble_eq_true rfl⟩) ⟨fb_CX, va_recv hK hP (ci := 9) (q0 := 0) rfl rfl, fun U hU hW => ⟨rfl, CX.give hb0 hM hK hG hE hS hU hW⟩⟩ rfl rfl hl.1 rfl (lv_room (Nat.le_of_ble_eq_true rfl)) dX6_carries_74 ⟨(show 7 + 7 * (j56 - 0) + 7 ≤ 710 by omega), (show 54 + 54 * (j56 - 0) + 54 ≤ 5460 by omega)⟩) hS (fun q _ h => h) (fun q h => h) (fun r76 g78 t H locs ht hvm hw77 hB hz1 hk1 hS => ?_)
              have hM := hB.back ht
              have hG := hB.2.2.2.1
              have hx79 : Ext o X0 g57 g78 := hw77.1
              have ht80 : tg g78 o = 17 := hx79.tk ht62 (by omega)
              have ht81 : tg g78 (pF g5 o 5) = 26 := hx79.tk ht63 (by omega)
              have ht82 : tg g78 r13 = 28 + 64 * j := hx79.tk ht64 (by omega)
              refine lv_if_eq (tgt := 86) hx hb dX6_carries_77 (by decide) (fun c83 => ?_) (fun c83 => ?_)
              · skip
                refine lv_iload hx hb dX6_carries_86 (lv_at hl 0 rfl) ?_
                subst hQ
                refine W.widen (k := 710) (n := 5460) (by omega) (by omega) ?_
                exact W.iret (v := (nI j56)) hx hb hr (fun t ht hW => ⟨⟨(nI j56), g78, rfl, ((((hx6.trans hx37).trans hx51).trans hx61).trans hx79), CX.give hb0 hM hK hG hE hS ht hW⟩, hS.F ht⟩) hS.2.2 dX6_carries_88
              · skip
                refine lv_iinc (v := (nI (j56 + 1))) (lv' := [(4, .int (nI (j56 + 1))), (3, .ref r13), (0, .ref o), (1, .int (nI j)), (2, .int (nI jx))]) hx hb dX6_carries_80 hl (k := 0) rfl (nI_add j56 1) (by decide) rfl (fun ls hl => ?_)
                refine lv_goto (tgt := 61) hx hb dX6_carries_83 (by decide) ?_
                refine W.widen (k := 7 + 7 * (((j56 + 1)) - 0)) (n := 54 + 54 * (((j56 + 1)) - 0)) (by omega) (by omega) ?_
                exact ih60 ((j56 + 1)) g78 (by omega) (by omega) (by omega) H _ ls (hx61.trans hx79) hG hM hS (lv_sub hl [0, 1, 2, 3, 4] rfl)
        refine W.widen (k := 7 + 7 * (0 - 0)) (n := 54 + 54 * (0 - 0)) (by omega) (by omega) ?_
        exact lp58 (99 + 1) 0 g50 (by omega) (by omega) (by omega) H _ ls Ext.refl hG hM hS (lv_sub hl [0, 1, 2, 3, 4] rfl)
      · skip
        refine lv_iconst (v := 0) hx hb dX6_carries_56 (by decide) ?_
        subst hQ
        refine W.widen (k := 710) (n := 5460) (Nat.le_of_ble_eq_true rfl) (Nat.le_of_ble_eq_true rfl) ?_
        exact W.iret (v := 0) hx hb hr (fun t ht hW => ⟨⟨0, g50, rfl, ((hx6.trans hx37).trans hx51), CX.give hb0 hM hK hG hE hS ht hW⟩, hS.F ht⟩) hS.2.2 dX6_carries_57
    · skip
      refine lv_iconst (v := 2) hx hb dX6_carries_36 (by decide) ?_
      refine lv_goto (tgt := 41) hx hb dX6_carries_37 (by decide) ?_
      obtain ⟨u84, u85, hP, hf⟩ := o_mo (i := 0) (q := o) hM (by omega)
      refine va_calli (va_runV (As := [.int 2]) (rest := []) ⟨hx, hb, hml, hown, hts⟩ (rm_isWrong l dC dI kA eD b g5 o 2 (by omega)) (cwV 1 hts gX6_carries_X6_isWrong rfl rfl rfl (by decide +kernel) ⟨Nat.le_of_ble_eq_true rfl, Nat.le_of_ble_eq_true rfl⟩) ⟨fb_CX, va_recv hK hP (ci := 10) (q0 := 0) rfl rfl, fun U hU hW => ⟨rfl, CX.give hb0 hM hK hG hE hS hU hW⟩⟩ rfl rfl hl.1 rfl (lv_room (Nat.le_of_ble_eq_true rfl)) dX6_carries_41 ⟨(Nat.le_of_ble_eq_true rfl), (Nat.le_of_ble_eq_true rfl)⟩) hS (fun q _ h => h) (fun q h => h) (fun r86 g88 t H locs ht hvm hw87 hB hz1 hk1 hS => ?_)
      have hM := hB.back ht
      have hG := hB.2.2.2.1
      have hx89 : Ext o X0 g5 g88 := hw87.1
      have ht90 : tg g88 o = 17 := hx89.tk ht7 (by omega)
      have ht91 : tg g88 (pF g5 o 5) = 26 := hx89.tk hfm (by omega)
      have ht92 : tg g88 r13 = 28 + 64 * j := hx89.tk ht15 (by omega)
      obtain rfl : r86 = 1 := hw87.2.2.trans (by decide)
      have hth93 : pI g88 o 2 = 2 := by rw [hw87.2.1]; exact sI_at
      refine lv_if_ne (tgt := 56) hx hb dX6_carries_44 (by decide) (fun _ => ?_) (fun cx => by first | exact absurd (by decide) cx | exact absurd cx (by decide))
      refine lv_iconst (v := 0) hx hb dX6_carries_56 (by decide) ?_
      subst hQ
      refine W.widen (k := 710) (n := 5460) (Nat.le_of_ble_eq_true rfl) (Nat.le_of_ble_eq_true rfl) ?_
      exact W.iret (v := 0) hx hb hr (fun t ht hW => ⟨⟨0, g88, rfl, (hx6.trans hx89), CX.give hb0 hM hK hG hE hS ht hW⟩, hS.F ht⟩) hS.2.2 dX6_carries_57
  · skip
    have hv94 := vr1 (vr01 hw4.2.2) c9
    refine lv_iconst (v := 0) hx hb dX6_carries_10 (by decide) ?_
    subst hQ
    refine W.widen (k := 710) (n := 5460) (Nat.le_of_ble_eq_true rfl) (Nat.le_of_ble_eq_true rfl) ?_
    exact W.iret (v := 0) hx hb hr (fun t ht hW => ⟨⟨0, g5, rfl, hx6, CX.give hb0 hM hK hG hE hS ht hW⟩, hS.F ht⟩) hS.2.2 dX6_carries_11

set_option maxHeartbeats 4000000 in
set_option maxRecDepth 100000 in
theorem rmf_judge (l : Launch) (dC : Nat → ClassId) (dI : Nat → Nat → Nat) (kA : Nat → ClassId) (eD b : Nat) (g : Gh) (o : Nat) (site : Int32) (hto : tg g o = 17)  : Met l yX6_judge wsX6_judge ({ frames := 3, cells := 0, slots := 0, locals := 64 }) (va_Pc [.ref o, .int site] (CX (dC, dI) kA eD b g)) (va_Qd (fun (r : UInt64) (u : Gh) => Ext o X0 g u) (fun (u : Gh) t => CX (dC, dI) kA eD b u t) (fun q => b ≤ q)) 0 0 (fun q => b ≤ q) := by
  refine Met.ofW (cc := cX6_judge) (maxL := 5) (ret := (some .double)) (by decide +kernel) rfl ?_
  intro p e s m args below meth c s₁ B hml hv
  obtain ⟨rfl, hb0, hM, hK, hG, hE⟩ := hv
  have hx := B.exec
  have hb := B.bytes
  have hr := B.returns
  have hts := atoms_spec (ws := wsX6_judge) B.pre
  have hown : s.vm.findClass RX6 = some m.cls := findClass_of_methodNamed B.named
  have hlocks := B.notSynchronized
  have hT := hE.1
  have hN := hE.2.2.2.2.2.2.2.1
  have hS : va_S (fun q => b ≤ q) s.heap s.heap [] := va_S.rf
  have hl := lv_entry ([.ref o, .int site]) (n := 5) (Nat.le_of_ble_eq_true rfl)
  rw [lg_entry_eq]
  generalize (lg_sl ([.ref o, .int site]) ++ List.replicate (5 - (lg_sl ([.ref o, .int site])).length) Slot.unset).toArray = ls at hl ⊢
  have hl : lv_has ls 5 [(0, .ref o), (1, .int site)] := hl
  generalize ([.ref o, .int site] : List Value).toArray = args at hts ⊢
  refine W.q (fun Q hQ => ?_)
  refine lv_aload_n hx hb dX6_judge_0 rfl (lv_at hl 0 rfl) ?_
  refine lv_iload_n hx hb dX6_judge_1 rfl (lv_at hl 1 rfl) ?_
  obtain ⟨u1, u2, hP, hf⟩ := o_mo (i := 0) (q := o) hM (by omega)
  refine va_calli (va_runV (As := [.int site]) (rest := []) ⟨hx, hb, hml, hown, hts⟩ (rm_isNoSite l dC dI kA eD b g o site (by omega)) (cwV 1 hts gX6_judge_X6_isNoSite rfl rfl rfl (by decide +kernel) ⟨Nat.le_of_ble_eq_true rfl, Nat.le_of_ble_eq_true rfl⟩) ⟨fb_CX, va_recv hK hP (ci := 10) (q0 := 0) rfl rfl, fun U hU hW => ⟨rfl, CX.give hb0 hM hK hG hE hS hU hW⟩⟩ rfl rfl hl.1 rfl (lv_room (Nat.le_of_ble_eq_true rfl)) dX6_judge_2 ⟨(Nat.le_of_ble_eq_true rfl), (Nat.le_of_ble_eq_true rfl)⟩) hS (fun q _ h => h) (fun q h => h) (fun r3 g5 t H locs ht hvm hw4 hB hz1 hk1 hS => ?_)
  have hM := hB.back ht
  have hG := hB.2.2.2.1
  have hx6 : Ext o X0 g g5 := hw4.1
  have ht7 : tg g5 o = 17 := hx6.tk hto (by omega)
  have hth8 := hw4.2.1
  refine lv_if_eq (tgt := 10) hx hb dX6_judge_5 (by decide) (fun c9 => ?_) (fun c9 => ?_)
  · skip
    have hv10 := vr0 (vr01 hw4.2.2) c9
    have hfm := (mo_list hM ht7).1
    have hls := (mo_list hM ht7).2
    obtain ⟨j, hj, rfl⟩ := toN (p := site) (k := 2) (by omega) (by omega) (by decide)
    have hl : lv_has ls 5 [(0, .ref o), (1, .int (nI j))] := hl
    have ej : (nI j).toInt = (j : Int) := nI_toInt (by omega)
    have hjs : (j : Int) < (pI g5 (pF g5 o 5) 0).toInt := by omega
    refine lv_aload_n hx hb dX6_judge_10 rfl (lv_at hl 0 rfl) ?_
    obtain ⟨u11, u12, hP, hf⟩ := o_mo (i := 0) (q := o) hM (by omega)
    refine va_get (D := (dC, dI)) (ci := 10) (v := .ref (pF g5 o 5)) (C := RX6) (T := TX6) (N := 11) hx hb hts (by decide +kernel) hown hK hP 0 rfl rfl 10 (by decide) (hts (.fieldLink RX6 34 "SnowpalaceModel" "sites" "Ljava/util/List;") (by decide +kernel)) (fun _ h9 => h9) rfl dX6_judge_11 ?_
    refine lv_iload_n hx hb dX6_judge_14 rfl (lv_at hl 1 rfl) ?_
    obtain ⟨hP, hf⟩ := o_al (i := 0) (q := (pF g5 o 5)) hM (by omega)
    refine va_callFr (va_runF (hK.1 3 _ rfl).2 (As := [.int (nI j)]) (rest := []) ⟨hx, hb, hml, hown, hts⟩ (rj_get l dC dI kA eD b g5 (pF g5 o 5) j (by omega) hjs) (va_cwF 1 hts gX6_judge_Jx4a65c_get_915e3_f149Jx4a65c rfl rfl rfl hE.2.2.2.2.1 (by decide +kernel) ⟨Nat.le_of_ble_eq_true rfl, Nat.le_of_ble_eq_true rfl⟩) ⟨fb_CX, va_recv hK hP (ci := 3) (q0 := 0) rfl rfl, fun U hU hW => ⟨rfl, CX.give hb0 hM hK hG hE hS hU hW⟩⟩ rfl rfl hl.1 rfl (lv_room (Nat.le_of_ble_eq_true rfl)) dX6_judge_15 ⟨(Nat.le_of_ble_eq_true rfl), (Nat.le_of_ble_eq_true rfl)⟩) hS (fun q _ h => h) (fun q h => h) (fun u r13 t H locs ht hvm hw14 hB hz1 hk1 hS => ?_)
    have hM := hB.1.back ht
    have hG := hB.1.2.2.2.1
    have ht15 : tg g5 r13 = 28 + 64 * j := hB.2.1
    have hg16 : pO g5 (pF g5 (pF g5 o 5) 0) j = some r13 := hB.2.2
    obtain ⟨u17, u18, u19, u20, u21, u22, hP, hf⟩ := o_ms (i := j) (q := r13) hM (by omega)
    refine va_castY hx hb hown (hts (.classLink RX6 125 "SnowpalaceModel$Site") (by decide +kernel)) hE.2.2.2.2.2.2.1 (va_recv hK hP (ci := 9) (q0 := 0) rfl rfl) dX6_judge_20 ?_
    refine lv_astore_n (lv' := [(2, .ref r13), (0, .ref o), (1, .int (nI j))]) hx hb dX6_judge_23 rfl hl (by decide) rfl (fun ls hl => ?_)
    refine lv_iconst (v := 0) hx hb dX6_judge_24 (by decide) ?_
    refine lv_istore_n (lv' := [(3, .int 0), (2, .ref r13), (0, .ref o), (1, .int (nI j))]) hx hb dX6_judge_25 rfl hl (by decide) rfl (fun ls hl => ?_)
    refine lv_iconst (v := 0) hx hb dX6_judge_26 (by decide) ?_
    refine lv_istore (lv' := [(4, .int 0), (3, .int 0), (2, .ref r13), (0, .ref o), (1, .int (nI j))]) hx hb dX6_judge_27 hl (by decide) rfl (fun ls hl => ?_)
    have lp25 : ∀ (n26 j23 : Nat) (x24 : Int32), 0 ≤ j23 → j23 ≤ 48 → 48 < j23 + n26 → ∀ (H : Heap) (locs : List Loc) (ls : Array Slot), TM (dC, dI) kA b g5 H → va_S (fun q => b ≤ q) s.heap H locs → lv_has ls 5 [(4, .int (nI j23)), (3, .int x24), (2, .ref r13), (0, .ref o), (1, .int (nI j))] → W p l e (headSpec wsX6_judge ({ frames := 3, cells := 0, slots := 0, locals := 64 })).room s m args below meth c H locs 0 0 Q (F0 m 29 ls []) := by
      intro n26
      induction n26 with
      | zero => intro j23 x24 h0 h1 h2; omega
      | succ n26 ih27 =>
        intro j23 x24 lj23 hj23 hn26 H locs ls hM hS hl
        refine lv_iload hx hb dX6_judge_29 (lv_at hl 0 rfl) ?_
        refine lv_bipush (v := 48) hx hb dX6_judge_31 (by decide) ?_
        refine lv_icmp_ge (tgt := 83) hx hb dX6_judge_33 (by decide) (fun c28 => ?_) (fun c28 => ?_)
        · skip
          have k29 : 48 ≤ j23 := (nI_leI (a := 48) (b := j23) (by omega) (by omega)).mp c28
          refine lv_aload_n hx hb dX6_judge_83 rfl (lv_at hl 2 rfl) ?_
          refine lv_iload_n hx hb dX6_judge_84 rfl (lv_at hl 1 rfl) ?_
          refine lv_i2d hx hb dX6_judge_85 ?_
          refine lv_ldc2d hx hb hown (hts (.constantDouble RX6 259 4631952216750555136) (by decide +kernel)) dX6_judge_86 ?_
          have hn30 : FP.Core.dIsNaN (FP.ddiv (FP.i2d x24) 4631952216750555136) = false := FP.Core.ddiv_out (FP.Core.i2d_fin _).notNaN d48_fin d48_nz
          refine lv_ddiv hx hb dX6_judge_89 (nn64 hn30) ?_
          refine lv_ldc2d hx hb hown (hts (.constantDouble RX6 242 4587366580439587226) (by decide +kernel)) dX6_judge_90 ?_
          refine lv_aload_n hx hb dX6_judge_93 rfl (lv_at hl 2 rfl) ?_
          obtain ⟨u31, u32, u33, u34, u35, u36, hP, hf⟩ := o_ms (i := j) (q := r13) hM (by omega)
          refine va_getN (D := (dC, dI)) (ci := 9) (v := .int u32) (C := RX5) (T := TX5) (N := 10) hx hb hts (by decide +kernel) hown hK hP 0 rfl rfl 4 (by decide) (hN (.fieldLinkNest RX6 205 "SnowpalaceModel$Site" "fell" "I" RX6) (by decide +kernel)) (fun _ h9 => h9) rfl dX6_judge_94 ?_
          refine lv_i2d hx hb dX6_judge_97 ?_
          refine lv_dmul hx hb dX6_judge_98 (nn64 (FP.Core.dmul_out d05_fin (FP.Core.i2d_fin _))) ?_
          refine lv_dsub hx hb dX6_judge_99 (nn64 (d05_out hn30)) ?_
          obtain ⟨u37, u38, u39, u40, u41, u42, hP, hf⟩ := o_ms (i := j) (q := r13) hM (by omega)
          refine rt_putN (D := (dC, dI)) (ci := 9) (v := .double (FP.dsub (FP.ddiv (FP.i2d x24) 4631952216750555136) (FP.dmul 4587366580439587226 (FP.i2d u32)))) (ty := .double) (C := RX5) (T := TX5) (N := 10) hx hb hts (by decide +kernel) tyX5 tyX5_ok nmX5 hown hK hP (hM.ge (by omega)) hS rfl 8 (by decide) (hN (.fieldLinkNest RX6 261 "SnowpalaceModel$Site" "mark" "D" RX6) (by decide +kernel)) (fun _ h9 => h9) rfl (by decide +kernel) rfl rfl (Nat.le_of_ble_eq_true rfl) dX6_judge_100 (fun H locs hP hz ho hS => ?_)
          have hM := s_ms (i := j) hM (by omega) hP ho hf
          refine lv_aload_n hx hb dX6_judge_103 rfl (lv_at hl 2 rfl) ?_
          refine lv_iconst (v := 1) hx hb dX6_judge_104 (by decide) ?_
          obtain ⟨u43, u44, u45, u46, u47, u48, hP, hf⟩ := o_ms (i := j) (q := r13) hM (by omega)
          refine rt_putN (D := (dC, dI)) (ci := 9) (v := .int 1) (ty := .boolean) (C := RX5) (T := TX5) (N := 10) hx hb hts (by decide +kernel) tyX5 tyX5_ok nmX5 hown hK hP (hM.ge (by omega)) hS rfl 3 (by decide) (hN (.fieldLinkNest RX6 265 "SnowpalaceModel$Site" "isJudged" "Z" RX6) (by decide +kernel)) (fun _ h9 => h9) rfl (by decide +kernel) rfl rfl (Nat.le_of_ble_eq_true rfl) dX6_judge_105 (fun H locs hP hz ho hS => ?_)
          have hM := s_ms (i := j) hM (by omega) hP ho hf
          refine lv_aload_n hx hb dX6_judge_108 rfl (lv_at hl 2 rfl) ?_
          obtain ⟨u49, u50, u51, u52, u53, u54, hP, hf⟩ := o_ms (i := j) (q := r13) hM (by omega)
          refine va_getN (D := (dC, dI)) (ci := 9) (v := .double u54) (C := RX5) (T := TX5) (N := 10) hx hb hts (by decide +kernel) hown hK hP 0 rfl rfl 8 (by decide) (hN (.fieldLinkNest RX6 261 "SnowpalaceModel$Site" "mark" "D" RX6) (by decide +kernel)) (fun _ h9 => h9) rfl dX6_judge_109 ?_
          subst hQ
          refine W.widen (k := 0) (n := 0) (Nat.le_of_ble_eq_true rfl) (Nat.le_of_ble_eq_true rfl) ?_
          exact W.dret (v := u54) hx hb hr (fun t ht hW => ⟨⟨u54, g5, rfl, hx6, CX.give hb0 hM hK hG hE hS ht hW⟩, hS.F ht⟩) hS.2.2 dX6_judge_112
        · skip
          have k55 : ¬ (48 ≤ j23) := fun z => c28 ((nI_leI (a := 48) (b := j23) (by omega) (by omega)).mpr z)
          refine lv_iload_n hx hb dX6_judge_36 rfl (lv_at hl 1 rfl) ?_
          refine lv_aload_n hx hb dX6_judge_37 rfl (lv_at hl 2 rfl) ?_
          refine lv_iload hx hb dX6_judge_38 (lv_at hl 0 rfl) ?_
          refine lv_bipush (v := 8) hx hb dX6_judge_40 (by decide) ?_
          refine lv_irem hx hb dX6_judge_42 (by decide) ?_
          refine lv_topi (fun v56 e57 => ?_)
          obtain rfl : v56 = nI (j23 % 8) := e57.trans (pk_rem (a := j23) (d := 8) (by omega) (by decide) (by decide))
          refine lv_iload hx hb dX6_judge_43 (lv_at hl 0 rfl) ?_
          refine lv_bipush (v := 8) hx hb dX6_judge_45 (by decide) ?_
          refine lv_idiv hx hb dX6_judge_47 (by decide) ?_
          refine lv_topi (fun v58 e59 => ?_)
          obtain rfl : v58 = nI (j23 / 8) := e59.trans (pk_div (a := j23) (d := 8) (by omega) (by decide) (by decide))
          obtain ⟨u60, u61, u62, u63, u64, u65, hP, hf⟩ := o_ms (i := j) (q := r13) hM (by omega)
          refine va_calli (va_runV (As := [.int (nI (j23 % 8)), .int (nI (j23 / 8))]) (rest := [.int x24]) ⟨hx, hb, hml, hown, hts⟩ (rm_has l dC dI kA eD b g5 r13 j (nI (j23 % 8)) (nI (j23 / 8)) (by omega)) (cwV 2 hts gX6_judge_X5_has rfl rfl rfl (by decide +kernel) ⟨Nat.le_of_ble_eq_true rfl, Nat.le_of_ble_eq_true rfl⟩) ⟨fb_CX, va_recv hK hP (ci := 9) (q0 := 0) rfl rfl, fun U hU hW => ⟨rfl, CX.give hb0 hM hK hG hE hS hU hW⟩⟩ rfl rfl hl.1 rfl (lv_room (Nat.le_of_ble_eq_true rfl)) dX6_judge_48 ⟨(Nat.le_of_ble_eq_true rfl), (Nat.le_of_ble_eq_true rfl)⟩) hS (fun q _ h => h) (fun q h => h) (fun r66 u t H locs ht hvm hw67 hB hz1 hk1 hS => ?_)
          have hM := hB.back ht
          have hG := hB.2.2.2.1
          refine lv_aload_n hx hb dX6_judge_51 rfl (lv_at hl 2 rfl) ?_
          obtain ⟨u68, u69, u70, u71, u72, u73, hP, hf⟩ := o_ms (i := j) (q := r13) hM (by omega)
          refine va_getN (D := (dC, dI)) (ci := 9) (v := .ref (pF g5 r13 1)) (C := RX5) (T := TX5) (N := 10) hx hb hts (by decide +kernel) hown hK hP 0 rfl rfl 1 (by decide) (hN (.fieldLinkNest RX6 252 "SnowpalaceModel$Site" "plan" "[[Z" RX6) (by decide +kernel)) (fun _ h9 => h9) rfl dX6_judge_52 ?_
          have ht74 : tg g5 (pF g5 r13 1) = 32 + 64 * j := hf.2.1
          refine lv_iload hx hb dX6_judge_55 (lv_at hl 0 rfl) ?_
          refine lv_bipush (v := 8) hx hb dX6_judge_57 (by decide) ?_
          refine lv_idiv hx hb dX6_judge_59 (by decide) ?_
          refine lv_topi (fun v75 e76 => ?_)
          obtain rfl : v75 = nI (j23 / 8) := e76.trans (pk_div (a := j23) (d := 8) (by omega) (by decide) (by decide))
          obtain ⟨hP, hf⟩ := o_po (i := j) (q := (pF g5 r13 1)) hM (by omega)
          have ec : ((nI (j23 / 8)) : Int32).toNatClampNeg = (j23 / 8) := nI_clamp (by omega)
          refine rt_aldA (D := (dC, dI)) (t0 := 7) hx hb hK hP rfl (vp_in_nI (by omega) (by decide)) (y := (pF g5 (pF g5 r13 1) (j23 / 8))) ((congrArg (fun z => if z < 6 then some (pF g5 (pF g5 r13 1) z) else none) ec).trans (if_pos (by omega))) dX6_judge_60 ?_
          have ht77 : tg g5 (pF g5 (pF g5 r13 1) (j23 / 8)) = 33 + 64 * (8 * j + (j23 / 8)) := (hf (j23 / 8) (by omega))
          refine lv_iload hx hb dX6_judge_61 (lv_at hl 0 rfl) ?_
          refine lv_bipush (v := 8) hx hb dX6_judge_63 (by decide) ?_
          refine lv_irem hx hb dX6_judge_65 (by decide) ?_
          refine lv_topi (fun v78 e79 => ?_)
          obtain rfl : v78 = nI (j23 % 8) := e79.trans (pk_rem (a := j23) (d := 8) (by omega) (by decide) (by decide))
          obtain ⟨hP, hf⟩ := o_pr (i := (8 * j + (j23 / 8))) (q := (pF g5 (pF g5 r13 1) (j23 / 8))) hM (by omega)
          refine va_zald (D := (dC, dI)) hx hb hK hP 0 1 rfl rfl (vp_in_nI (by omega) (by decide)) dX6_judge_66 ?_
          refine lv_topi (fun v80 e81 => ?_)
          have ec : ((nI (j23 % 8)) : Int32).toNatClampNeg = (j23 % 8) := nI_clamp (by omega)
          rw [ec] at e81
          subst e81
          have hu82 := hf (j23 % 8) (by omega)
          refine lv_icmp_ne (tgt := 74) hx hb dX6_judge_67 (by decide) (fun c83 => ?_) (fun c83 => ?_)
          · skip
            refine lv_iconst (v := 0) hx hb dX6_judge_74 (by decide) ?_
            refine lv_iadd hx hb dX6_judge_75 ?_
            refine lv_topi (fun v84 e85 => ?_)
            refine lv_istore_n (lv' := [(3, .int v84), (4, .int (nI j23)), (2, .ref r13), (0, .ref o), (1, .int (nI j))]) hx hb dX6_judge_76 rfl hl (by decide) rfl (fun ls hl => ?_)
            refine lv_iinc (v := (nI (j23 + 1))) (lv' := [(4, .int (nI (j23 + 1))), (3, .int v84), (2, .ref r13), (0, .ref o), (1, .int (nI j))]) hx hb dX6_judge_77 hl (k := 1) rfl (nI_add j23 1) (by decide) rfl (fun ls hl => ?_)
            refine lv_goto (tgt := 29) hx hb dX6_judge_80 (by decide) ?_
            exact ih27 ((j23 + 1)) v84 (by omega) (by omega) (by omega) H _ ls  hM hS (lv_sub hl [0, 1, 2, 3, 4] rfl)
          · skip
            refine lv_iconst (v := 1) hx hb dX6_judge_70 (by decide) ?_
            refine lv_goto (tgt := 75) hx hb dX6_judge_71 (by decide) ?_
            refine lv_iadd hx hb dX6_judge_75 ?_
            refine lv_topi (fun v86 e87 => ?_)
            refine lv_istore_n (lv' := [(3, .int v86), (4, .int (nI j23)), (2, .ref r13), (0, .ref o), (1, .int (nI j))]) hx hb dX6_judge_76 rfl hl (by decide) rfl (fun ls hl => ?_)
            refine lv_iinc (v := (nI (j23 + 1))) (lv' := [(4, .int (nI (j23 + 1))), (3, .int v86), (2, .ref r13), (0, .ref o), (1, .int (nI j))]) hx hb dX6_judge_77 hl (k := 1) rfl (nI_add j23 1) (by decide) rfl (fun ls hl => ?_)
            refine lv_goto (tgt := 29) hx hb dX6_judge_80 (by decide) ?_
            exact ih27 ((j23 + 1)) v86 (by omega) (by omega) (by omega) H _ ls  hM hS (lv_sub hl [0, 1, 2, 3, 4] rfl)
    exact lp25 (48 + 1) 0 0 (by omega) (by omega) (by omega) H _ ls  hM hS (lv_sub hl [0, 1, 2, 3, 4] rfl)
  · skip
    have hv88 := vr1 (vr01 hw4.2.2) c9
    refine lv_dconst0 hx hb dX6_judge_8 ?_
    subst hQ
    refine W.widen (k := 0) (n := 0) (Nat.le_of_ble_eq_true rfl) (Nat.le_of_ble_eq_true rfl) ?_
    exact W.dret (v := FP.dconst0) hx hb hr (fun t ht hW => ⟨⟨FP.dconst0, g5, rfl, hx6, CX.give hb0 hM hK hG hE hS ht hW⟩, hS.F ht⟩) hS.2.2 dX6_judge_9

set_option maxHeartbeats 4000000 in
set_option maxRecDepth 100000 in
theorem rmf_openShare (l : Launch) (dC : Nat → ClassId) (dI : Nat → Nat → Nat) (kA : Nat → ClassId) (eD b : Nat) (g : Gh) (o : Nat)  (hto : tg g o = 17)  : Met l yX6_openShare wsX6_openShare ({ frames := 6, cells := 24, slots := 170, locals := 144 }) (va_Pc [.ref o] (CX (dC, dI) kA eD b g)) (va_Qf (fun (r : UInt32) (u : Gh) => Ext o X0 g u) (fun (u : Gh) t => CX (dC, dI) kA eD b u t) (fun q => b ≤ q)) 24 170 (fun q => b ≤ q) := by
  refine Met.ofW (cc := cX6_openShare) (maxL := 4) (ret := (some .float)) (by decide +kernel) rfl ?_
  intro p e s m args below meth c s₁ B hml hv
  obtain ⟨rfl, hb0, hM, hK, hG, hE⟩ := hv
  have hx := B.exec
  have hb := B.bytes
  have hr := B.returns
  have hts := atoms_spec (ws := wsX6_openShare) B.pre
  have hown : s.vm.findClass RX6 = some m.cls := findClass_of_methodNamed B.named
  have hlocks := B.notSynchronized
  have hT := hE.1
  have hN := hE.2.2.2.2.2.2.2.1
  have hS : va_S (fun q => b ≤ q) s.heap s.heap [] := va_S.rf
  have hl := lv_entry ([.ref o]) (n := 4) (Nat.le_of_ble_eq_true rfl)
  rw [lg_entry_eq]
  generalize (lg_sl ([.ref o]) ++ List.replicate (4 - (lg_sl ([.ref o])).length) Slot.unset).toArray = ls at hl ⊢
  have hl : lv_has ls 4 [(0, .ref o)] := hl
  generalize ([.ref o] : List Value).toArray = args at hts ⊢
  refine W.q (fun Q hQ => ?_)
  have hls := (mo_list hM hto).2
  refine lv_iconst (v := 0) hx hb dX6_openShare_0 (by decide) ?_
  refine lv_istore_n (lv' := [(1, .int 0), (0, .ref o)]) hx hb dX6_openShare_1 rfl hl (by decide) rfl (fun ls hl => ?_)
  refine lv_aload_n hx hb dX6_openShare_2 rfl (lv_at hl 1 rfl) ?_
  obtain ⟨u1, u2, hP, hf⟩ := o_mo (i := 0) (q := o) hM (by omega)
  refine va_get (D := (dC, dI)) (ci := 10) (v := .ref (pF g o 5)) (C := RX6) (T := TX6) (N := 11) hx hb hts (by decide +kernel) hown hK hP 0 rfl rfl 10 (by decide) (hts (.fieldLink RX6 34 "SnowpalaceModel" "sites" "Ljava/util/List;") (by decide +kernel)) (fun _ h9 => h9) rfl dX6_openShare_3 ?_
  have ht3 : tg g (pF g o 5) = 26 := hf.2.2.2.2.2.1
  obtain ⟨hP, hf⟩ := o_al (i := 0) (q := (pF g o 5)) hM (by omega)
  refine va_callFr (va_runF (hK.1 3 _ rfl).2 (As := []) (rest := []) ⟨hx, hb, hml, hown, hts⟩ (rj_iter l dC dI kA eD b g (pF g o 5) o (by omega)) (va_cwF 0 hts gX6_openShare_Jx4a65c_iterator_32c93_f109Jx4a65c rfl rfl rfl hE.2.1.2.1 (by decide +kernel) ⟨Nat.le_of_ble_eq_true rfl, Nat.le_of_ble_eq_true rfl⟩) ⟨fb_CX, va_recv hK hP (ci := 3) (q0 := 0) rfl rfl, fun U hU hW => ⟨rfl, CX.give hb0 hM hK hG hE hS hU hW⟩⟩ rfl rfl hl.1 rfl (lv_room (Nat.le_of_ble_eq_true rfl)) dX6_openShare_6 ⟨(Nat.le_of_ble_eq_true rfl), (Nat.le_of_ble_eq_true rfl)⟩) hS (fun q _ h => h) (fun q h => h) (fun g6 r4 t H locs ht hvm hw5 hB hz1 hk1 hS => ?_)
  have hM := hB.1.back ht
  have hG := hB.1.2.2.2.1
  have hx7 : Ext o X0 g g6 := hw5.1
  have ht8 : tg g6 o = 17 := hx7.tk hto (by omega)
  have ht9 : tg g6 (pF g o 5) = 26 := hx7.tk ht3 (by omega)
  have ht10 : tg g6 r4 = 40 := hB.2.1
  have hit11 := hB.2.2
  refine lv_astore_n (lv' := [(2, .ref r4), (1, .int 0), (0, .ref o)]) hx hb dX6_openShare_11 rfl hl (by decide) rfl (fun ls hl => ?_)
  obtain ⟨n13, hn13, en13⟩ := toN (p := pI g (pF g o 5) 0) (k := 3) hls.1 hls.2 (by decide)
  have lp16 : ∀ (m14 k12 : Nat) (g15 : Gh) (x18 : Int32), k12 ≤ n13 → n13 < k12 + m14 → ∀ (H : Heap) (locs : List Loc) (ls : Array Slot), (Ext o X0 g g15) → (GOK g15) → (tg g15 r4 = 40) → (pI g15 r4 0 = nI k12) → (pI g15 r4 1 = pI g15 (pF g o 5) 1) → (pF g15 r4 0 = (pF g o 5)) → TM (dC, dI) kA b g15 H → va_S (fun q => b ≤ q) s.heap H locs → lv_has ls 4 [(2, .ref r4), (1, .int x18), (0, .ref o)] → W p l e (headSpec wsX6_openShare ({ frames := 6, cells := 24, slots := 170, locals := 144 })).room s m args below meth c H locs (1 + 7 * k12) (4 + 54 * k12) Q (F0 m 12 ls []) := by
    intro m14
    induction m14 with
    | zero => intro k12 g15 x18 h8 h9; omega
    | succ m14 ih17 =>
      intro k12 g15 x18 hk12 hm14 H locs ls hx19 hG ht20 hc21 hm22 hL23 hM hS hl
      have ht24 : tg g15 o = 17 := hx19.tk hto (by omega)
      have ht25 : tg g15 (pF g o 5) = 26 := hx19.tk ht3 (by omega)
      have eng15 : pI g15 (pF g o 5) 0 = nI n13 := (hx19.i (by have := ht3; omega) (Or.inr (by decide))).trans en13
      have etg15 : (pI g15 (pF g o 5) 0).toInt = (n13 : Int) := by rw [eng15]; exact nI_toInt (by omega)
      refine lv_aload_n hx hb dX6_openShare_12 rfl (lv_at hl 0 rfl) ?_
      obtain ⟨u26, hP, hf⟩ := o_it (i := 0) (q := r4) hM (by omega)
      refine va_callFi (va_runF (hK.1 2 _ rfl).2 (As := []) (rest := []) ⟨hx, hb, hml, hown, hts⟩ (rj_hasNext l dC dI kA eD b g15 r4 (by omega)) (va_cwF 0 hts gX6_openShare_Jx35411_hasNext_aae02_f115Jx35411 rfl rfl rfl hE.2.1.2.2.1 (by decide +kernel) ⟨Nat.le_of_ble_eq_true rfl, Nat.le_of_ble_eq_true rfl⟩) ⟨fb_CX, va_recv hK hP (ci := 2) (q0 := 0) rfl rfl, fun U hU hW => ⟨rfl, CX.give hb0 hM hK hG hE hS hU hW⟩⟩ rfl rfl hl.1 rfl (lv_room (Nat.le_of_ble_eq_true rfl)) dX6_openShare_13 ⟨(show 1 + 7 * k12 + 0 ≤ 24 by omega), (show 4 + 54 * k12 + 0 ≤ 170 by omega)⟩) hS (fun q _ h => h) (fun q h => h) (fun r27 u t H locs ht hvm hw28 hB hz1 hk1 hS => ?_)
      have hM := hB.back ht
      have hG := hB.2.2.2.1
      refine lv_if_eq (tgt := 51) hx hb dX6_openShare_18 (by decide) (fun c29 => ?_) (fun c29 => ?_)
      · skip
        have hv30 := vr0 hw28 c29
        refine lv_aload_n hx hb dX6_openShare_51 rfl (lv_at hl 2 rfl) ?_
        refine lv_aload_n hx hb dX6_openShare_52 rfl (lv_at hl 2 rfl) ?_
        obtain ⟨u31, u32, hP, hf⟩ := o_mo (i := 0) (q := o) hM (by omega)
        refine va_get (D := (dC, dI)) (ci := 10) (v := .ref (pF g15 o 5)) (C := RX6) (T := TX6) (N := 11) hx hb hts (by decide +kernel) hown hK hP 0 rfl rfl 10 (by decide) (hts (.fieldLink RX6 34 "SnowpalaceModel" "sites" "Ljava/util/List;") (by decide +kernel)) (fun _ h9 => h9) rfl dX6_openShare_53 ?_
        have ht33 : tg g15 (pF g15 o 5) = 26 := hf.2.2.2.2.2.1
        obtain ⟨hP, hf⟩ := o_al (i := 0) (q := (pF g15 o 5)) hM (by omega)
        refine va_callFi (va_runF (hK.1 3 _ rfl).2 (As := []) (rest := [.ref o]) ⟨hx, hb, hml, hown, hts⟩ (rj_isEmpty l dC dI kA eD b g15 (pF g15 o 5) (by omega)) (va_cwF 0 hts gX6_openShare_Jx4a65c_isEmpty_aae02_f272Jx4a65c rfl rfl rfl hE.2.1.2.2.2.1 (by decide +kernel) ⟨Nat.le_of_ble_eq_true rfl, Nat.le_of_ble_eq_true rfl⟩) ⟨fb_CX, va_recv hK hP (ci := 3) (q0 := 0) rfl rfl, fun U hU hW => ⟨rfl, CX.give hb0 hM hK hG hE hS hU hW⟩⟩ rfl rfl hl.1 rfl (lv_room (Nat.le_of_ble_eq_true rfl)) dX6_openShare_56 ⟨(show 1 + 7 * k12 + 0 ≤ 24 by omega), (show 4 + 54 * k12 + 0 ≤ 170 by omega)⟩) hS (fun q _ h => h) (fun q h => h) (fun r34 u t H locs ht hvm hw35 hB hz1 hk1 hS => ?_)
        have hM := hB.back ht
        have hG := hB.2.2.2.1
        have hsz36 := hf.1
        refine lv_if_eq (tgt := 68) hx hb dX6_openShare_61 (by decide) (fun c37 => ?_) (fun c37 => ?_)
        · skip
          have hv38 := vr0 (vr01 hw35) c37
          refine lv_iconst (v := 0) hx hb dX6_openShare_68 (by decide) ?_
          obtain ⟨u39, u40, hP, hf⟩ := o_mo (i := 0) (q := o) hM (by omega)
          refine va_calli (va_runV (As := [.int 0]) (rest := []) ⟨hx, hb, hml, hown, hts⟩ (rm_isWrong l dC dI kA eD b g15 o 0 (by omega)) (cwV 1 hts gX6_openShare_X6_isWrong rfl rfl rfl (by decide +kernel) ⟨Nat.le_of_ble_eq_true rfl, Nat.le_of_ble_eq_true rfl⟩) ⟨fb_CX, va_recv hK hP (ci := 10) (q0 := 0) rfl rfl, fun U hU hW => ⟨rfl, CX.give hb0 hM hK hG hE hS hU hW⟩⟩ rfl rfl hl.1 rfl (lv_room (Nat.le_of_ble_eq_true rfl)) dX6_openShare_69 ⟨(show 1 + 7 * k12 + 0 ≤ 24 by omega), (show 4 + 54 * k12 + 0 ≤ 170 by omega)⟩) hS (fun q _ h => h) (fun q h => h) (fun r41 g43 t H locs ht hvm hw42 hB hz1 hk1 hS => ?_)
          have hM := hB.back ht
          have hG := hB.2.2.2.1
          have hx44 : Ext o X0 g15 g43 := hw42.1
          have ht45 : tg g43 o = 17 := hx44.tk ht24 (by omega)
          have ht46 : tg g43 (pF g o 5) = 26 := hx44.tk ht25 (by omega)
          have ht47 : tg g43 r4 = 40 := hx44.tk ht20 (by omega)
          have ht48 : tg g43 (pF g15 o 5) = 26 := hx44.tk ht33 (by omega)
          obtain rfl : r41 = 0 := hw42.2.2.trans (by decide)
          have hth49 : pI g43 o 2 = 0 := by rw [hw42.2.1]; exact sI_at
          refine lv_if_eq (tgt := 79) hx hb dX6_openShare_72 (by decide) (fun _ => ?_) (fun cx => by first | exact absurd (by decide) cx | exact absurd cx (by decide))
          refine lv_iload_n hx hb dX6_openShare_79 rfl (lv_at hl 1 rfl) ?_
          refine lv_i2f hx hb dX6_openShare_80 ?_
          refine lv_aload_n hx hb dX6_openShare_81 rfl (lv_at hl 2 rfl) ?_
          obtain ⟨u50, u51, hP, hf⟩ := o_mo (i := 0) (q := o) hM (by omega)
          refine va_get (D := (dC, dI)) (ci := 10) (v := .ref (pF g43 o 5)) (C := RX6) (T := TX6) (N := 11) hx hb hts (by decide +kernel) hown hK hP 0 rfl rfl 10 (by decide) (hts (.fieldLink RX6 34 "SnowpalaceModel" "sites" "Ljava/util/List;") (by decide +kernel)) (fun _ h9 => h9) rfl dX6_openShare_82 ?_
          have ht52 : tg g43 (pF g43 o 5) = 26 := hf.2.2.2.2.2.1
          obtain ⟨hP, hf⟩ := o_al (i := 0) (q := (pF g43 o 5)) hM (by omega)
          refine va_callFi (va_runF (hK.1 3 _ rfl).2 (As := []) (rest := [.float (FP.i2f x18)]) ⟨hx, hb, hml, hown, hts⟩ (rj_size l dC dI kA eD b g43 (pF g43 o 5) (by omega)) (va_cwF 0 hts gX6_openShare_Jx4a65c_size_8abf5_f130Jx4a65c rfl rfl rfl hE.2.1.1 (by decide +kernel) ⟨Nat.le_of_ble_eq_true rfl, Nat.le_of_ble_eq_true rfl⟩) ⟨fb_CX, va_recv hK hP (ci := 3) (q0 := 0) rfl rfl, fun U hU hW => ⟨rfl, CX.give hb0 hM hK hG hE hS hU hW⟩⟩ rfl rfl hl.1 rfl (lv_room (Nat.le_of_ble_eq_true rfl)) dX6_openShare_85 ⟨(show 1 + 7 * k12 + 0 ≤ 24 by omega), (show 4 + 54 * k12 + 0 ≤ 170 by omega)⟩) hS (fun q _ h => h) (fun q h => h) (fun r53 u t H locs ht hvm hw54 hB hz1 hk1 hS => ?_)
          have hM := hB.back ht
          have hG := hB.2.2.2.1
          obtain rfl : r53 = (pI g43 (pF g43 o 5) 0) := hw54
          have hsz55 := hf.1
          refine lv_i2f hx hb dX6_openShare_90 ?_
          have hz9 := (mo_list hM ht45).2
          have hz8 : ¬ (pI g43 (pF g43 o 5) 0) = 0 := by rw [hw42.2.1]; intro z9; exact hv38 ((sI_ne (Or.inl (fun e9 => by have h9 := ht24; have h8 := (mo_list hM ht45).1; rw [hw42.2.1] at h8; have h7 : tg g15 (pF g15 o 5) = 26 := h8; have e8 : pF g15 o 5 = o := e9; rw [e8] at h7; omega))).symm.trans z9)
          refine lv_fdiv hx hb dX6_openShare_91 (nn32 (FP.Core.fdiv_out (FP.Core.i2f_fin _).notNaN (FP.Core.i2f_fin _) (i2f_nz ⟨i32_pos hz9 hz8, hz9.2⟩))) ?_
          subst hQ
          refine W.widen (k := 24) (n := 170) (by omega) (by omega) ?_
          exact W.fret (v := (FP.fdiv (FP.i2f x18) (FP.i2f (pI g43 (pF g43 o 5) 0)))) hx hb hr (fun t ht hW => ⟨⟨(FP.fdiv (FP.i2f x18) (FP.i2f (pI g43 (pF g43 o 5) 0))), g43, rfl, (hx19.trans hx44), CX.give hb0 hM hK hG hE hS ht hW⟩, hS.F ht⟩) hS.2.2 dX6_openShare_92
        · skip
          have hv56 := vr1 (vr01 hw35) c37
          refine lv_iconst (v := 1) hx hb dX6_openShare_64 (by decide) ?_
          refine lv_goto (tgt := 69) hx hb dX6_openShare_65 (by decide) ?_
          obtain ⟨u57, u58, hP, hf⟩ := o_mo (i := 0) (q := o) hM (by omega)
          refine va_calli (va_runV (As := [.int 1]) (rest := []) ⟨hx, hb, hml, hown, hts⟩ (rm_isWrong l dC dI kA eD b g15 o 1 (by omega)) (cwV 1 hts gX6_openShare_X6_isWrong rfl rfl rfl (by decide +kernel) ⟨Nat.le_of_ble_eq_true rfl, Nat.le_of_ble_eq_true rfl⟩) ⟨fb_CX, va_recv hK hP (ci := 10) (q0 := 0) rfl rfl, fun U hU hW => ⟨rfl, CX.give hb0 hM hK hG hE hS hU hW⟩⟩ rfl rfl hl.1 rfl (lv_room (Nat.le_of_ble_eq_true rfl)) dX6_openShare_69 ⟨(show 1 + 7 * k12 + 0 ≤ 24 by omega), (show 4 + 54 * k12 + 0 ≤ 170 by omega)⟩) hS (fun q _ h => h) (fun q h => h) (fun r59 g61 t H locs ht hvm hw60 hB hz1 hk1 hS => ?_)
          have hM := hB.back ht
          have hG := hB.2.2.2.1
          have hx62 : Ext o X0 g15 g61 := hw60.1
          have ht63 : tg g61 o = 17 := hx62.tk ht24 (by omega)
          have ht64 : tg g61 (pF g o 5) = 26 := hx62.tk ht25 (by omega)
          have ht65 : tg g61 r4 = 40 := hx62.tk ht20 (by omega)
          have ht66 : tg g61 (pF g15 o 5) = 26 := hx62.tk ht33 (by omega)
          obtain rfl : r59 = 1 := hw60.2.2.trans (by decide)
          have hth67 : pI g61 o 2 = 1 := by rw [hw60.2.1]; exact sI_at
          refine lv_if_eq (tgt := 79) hx hb dX6_openShare_72 (by decide) (fun cx => by first | exact absurd cx (by decide) | exact absurd (by decide) cx) (fun _ => ?_)
          refine lv_fconst0 hx hb dX6_openShare_75 ?_
          refine lv_goto (tgt := 92) hx hb dX6_openShare_76 (by decide) ?_
          subst hQ
          refine W.widen (k := 24) (n := 170) (by omega) (by omega) ?_
          exact W.fret (v := FP.fconst0) hx hb hr (fun t ht hW => ⟨⟨FP.fconst0, g61, rfl, (hx19.trans hx62), CX.give hb0 hM hK hG hE hS ht hW⟩, hS.F ht⟩) hS.2.2 dX6_openShare_92
      · skip
        have hv68 := vr1 hw28 c29
        have hkn : k12 < n13 := (Nat.lt_or_ge k12 n13).elim id (fun z => absurd (((hc21).trans (by rw [show k12 = n13 by omega])).trans (by rw [hL23, eng15])) hv68)
        refine lv_aload_n hx hb dX6_openShare_21 rfl (lv_at hl 0 rfl) ?_
        obtain ⟨u69, hP, hf⟩ := o_it (i := 0) (q := r4) hM (by omega)
        refine va_callFr (va_runF (hK.1 2 _ rfl).2 (As := []) (rest := []) ⟨hx, hb, hml, hown, hts⟩ (rj_next l dC dI kA eD b g15 r4 k12 (by omega) hc21 (by rw [hL23]; omega) (by rw [hL23]; exact hm22.symm)) (va_cwF 0 hts gX6_openShare_Jx35411_next_0502b_f121Jx35411 rfl rfl rfl hE.2.2.2.2.2.1 (by decide +kernel) ⟨Nat.le_of_ble_eq_true rfl, Nat.le_of_ble_eq_true rfl⟩) ⟨fb_CX, va_recv hK hP (ci := 2) (q0 := 0) rfl rfl, fun U hU hW => ⟨rfl, CX.give hb0 hM hK hG hE hS hU hW⟩⟩ rfl rfl hl.1 rfl (lv_room (Nat.le_of_ble_eq_true rfl)) dX6_openShare_22 ⟨(show 1 + 7 * k12 + 0 ≤ 24 by omega), (show 4 + 54 * k12 + 0 ≤ 170 by omega)⟩) hS (fun q _ h => h) (fun q h => h) (fun g72 r70 t H locs ht hvm hw71 hB hz1 hk1 hS => ?_)
        have hM := hB.1.back ht
        have hG := hB.1.2.2.2.1
        have ht74 : tg g72 o = 17 := by rw [hw71.1]; exact ht24
        have ht75 : tg g72 (pF g o 5) = 26 := by rw [hw71.1]; exact ht25
        have ht76 : tg g72 r4 = 40 := by rw [hw71.1]; exact ht20
        have hx73 : Ext o X0 g g72 := by rw [hw71.1]; exact (hx19).newI hit11.2.2.2
        have ht77 : tg g72 r70 = 28 + 64 * k12 := hB.2.1
        obtain ⟨u78, u79, u80, u81, u82, u83, hP, hf⟩ := o_ms (i := k12) (q := r70) hM (by omega)
        refine va_castY hx hb hown (hts (.classLink RX6 125 "SnowpalaceModel$Site") (by decide +kernel)) hE.2.2.2.2.2.2.1 (va_recv hK hP (ci := 9) (q0 := 0) rfl rfl) dX6_openShare_27 ?_
        refine lv_astore_n (lv' := [(3, .ref r70), (2, .ref r4), (1, .int x18), (0, .ref o)]) hx hb dX6_openShare_30 rfl hl (by decide) rfl (fun ls hl => ?_)
        refine lv_iload_n hx hb dX6_openShare_31 rfl (lv_at hl 2 rfl) ?_
        refine lv_aload_n hx hb dX6_openShare_32 rfl (lv_at hl 0 rfl) ?_
        refine lv_iconst (v := (-1)) hx hb dX6_openShare_33 (by decide) ?_
        refine lv_iconst (v := 0) hx hb dX6_openShare_34 (by decide) ?_
        obtain ⟨u84, u85, u86, u87, u88, u89, hP, hf⟩ := o_ms (i := k12) (q := r70) hM (by omega)
        refine va_calli (va_runV (As := [.int (-1), .int 0]) (rest := [.int x18]) ⟨hx, hb, hml, hown, hts⟩ (rm_isOpen l dC dI kA eD b g72 r70 k12 o o (-1) 0 (by omega) (by omega) (Or.inr ht74)) (cwV 2 hts gX6_openShare_X5_isOpen rfl rfl rfl (by decide +kernel) ⟨Nat.le_of_ble_eq_true rfl, Nat.le_of_ble_eq_true rfl⟩) ⟨fb_CX, va_recv hK hP (ci := 9) (q0 := 0) rfl rfl, fun U hU hW => ⟨rfl, CX.give hb0 hM hK hG hE hS hU hW⟩⟩ rfl rfl hl.1 rfl (lv_room (Nat.le_of_ble_eq_true rfl)) dX6_openShare_35 ⟨(show 1 + 7 * k12 + 7 ≤ 24 by omega), (show 4 + 54 * k12 + 54 ≤ 170 by omega)⟩) hS (fun q _ h => h) (fun q h => h) (fun r90 g92 t H locs ht hvm hw91 hB hz1 hk1 hS => ?_)
        have hM := hB.back ht
        have hG := hB.2.2.2.1
        have hx93 : Ext o X0 g72 g92 := hw91.1
        have ht94 : tg g92 o = 17 := hx93.tk ht74 (by omega)
        have ht95 : tg g92 (pF g o 5) = 26 := hx93.tk ht75 (by omega)
        have ht96 : tg g92 r4 = 40 := hx93.tk ht76 (by omega)
        have ht97 : tg g92 r70 = 28 + 64 * k12 := hx93.tk ht77 (by omega)
        refine lv_if_eq (tgt := 45) hx hb dX6_openShare_38 (by decide) (fun c98 => ?_) (fun c98 => ?_)
        · skip
          refine lv_iconst (v := 0) hx hb dX6_openShare_45 (by decide) ?_
          refine lv_iadd hx hb dX6_openShare_46 ?_
          refine lv_topi (fun v99 e100 => ?_)
          refine lv_istore_n (lv' := [(1, .int v99), (3, .ref r70), (2, .ref r4), (0, .ref o)]) hx hb dX6_openShare_47 rfl hl (by decide) rfl (fun ls hl => ?_)
          refine lv_goto (tgt := 12) hx hb dX6_openShare_48 (by decide) ?_
          have a0 : pI g92 r4 0 = nI (k12 + 1) := ((hx93 : Ext o X0 g72 g92).i (by have := ht76; omega) (Or.inr (by decide))).trans (by rw [hw71.1]; exact sI_at)
          have a1 : pI g92 r4 1 = pI g72 r4 1 := (hx93 : Ext o X0 g72 g92).i (by have := ht76; omega) (Or.inr (by decide))
          have a2 : pI g72 r4 1 = pI g15 r4 1 := by rw [hw71.1]; exact sI_ne (Or.inr (by decide))
          have a3 : pI g92 (pF g o 5) 1 = pI g72 (pF g o 5) 1 := (hx93 : Ext o X0 g72 g92).i (by have := ht75; omega) (Or.inr (by decide))
          have a4 : pI g72 (pF g o 5) 1 = pI g15 (pF g o 5) 1 := by rw [hw71.1]; exact sI_ne (Or.inr (by decide))
          have a5 : pF g92 r4 0 = (pF g o 5) := (congrFun ((hx93 : Ext o X0 g72 g92).f (by have := ht76; omega)) 0).trans (by rw [hw71.1]; exact hL23)
          refine W.widen (k := 1 + 7 * (k12 + 1)) (n := 4 + 54 * (k12 + 1)) (by omega) (by omega) ?_
          exact ih17 (k12 + 1) g92 v99 (by omega) (by omega) H _ ls (hx73.trans hx93) hG ht96 a0 (a1.trans (a2.trans (hm22.trans (a4.symm.trans a3.symm)))) a5 hM hS (lv_sub hl [2, 0, 3] rfl)
        · skip
          refine lv_iconst (v := 1) hx hb dX6_openShare_41 (by decide) ?_
          refine lv_goto (tgt := 46) hx hb dX6_openShare_42 (by decide) ?_
          refine lv_iadd hx hb dX6_openShare_46 ?_
          refine lv_topi (fun v101 e102 => ?_)
          refine lv_istore_n (lv' := [(1, .int v101), (3, .ref r70), (2, .ref r4), (0, .ref o)]) hx hb dX6_openShare_47 rfl hl (by decide) rfl (fun ls hl => ?_)
          refine lv_goto (tgt := 12) hx hb dX6_openShare_48 (by decide) ?_
          have a0 : pI g92 r4 0 = nI (k12 + 1) := ((hx93 : Ext o X0 g72 g92).i (by have := ht76; omega) (Or.inr (by decide))).trans (by rw [hw71.1]; exact sI_at)
          have a1 : pI g92 r4 1 = pI g72 r4 1 := (hx93 : Ext o X0 g72 g92).i (by have := ht76; omega) (Or.inr (by decide))
          have a2 : pI g72 r4 1 = pI g15 r4 1 := by rw [hw71.1]; exact sI_ne (Or.inr (by decide))
          have a3 : pI g92 (pF g o 5) 1 = pI g72 (pF g o 5) 1 := (hx93 : Ext o X0 g72 g92).i (by have := ht75; omega) (Or.inr (by decide))
          have a4 : pI g72 (pF g o 5) 1 = pI g15 (pF g o 5) 1 := by rw [hw71.1]; exact sI_ne (Or.inr (by decide))
          have a5 : pF g92 r4 0 = (pF g o 5) := (congrFun ((hx93 : Ext o X0 g72 g92).f (by have := ht76; omega)) 0).trans (by rw [hw71.1]; exact hL23)
          refine W.widen (k := 1 + 7 * (k12 + 1)) (n := 4 + 54 * (k12 + 1)) (by omega) (by omega) ?_
          exact ih17 (k12 + 1) g92 v101 (by omega) (by omega) H _ ls (hx73.trans hx93) hG ht96 a0 (a1.trans (a2.trans (hm22.trans (a4.symm.trans a3.symm)))) a5 hM hS (lv_sub hl [2, 0, 3] rfl)
  have b1 : pI g6 r4 1 = pI g6 (pF g o 5) 1 := hit11.2.1.trans ((hx7 : Ext o X0 g g6).i (by have := ht3; omega) (Or.inr (by decide))).symm
  refine W.widen (k := 1 + 7 * 0) (n := 4 + 54 * 0) (by omega) (by omega) ?_
  exact lp16 (n13 + 1) 0 g6 0 (by omega) (by omega) H _ ls hx7 hG ht10 hit11.1 b1 hit11.2.2.1 hM hS (lv_sub hl [0, 1, 2] rfl)
