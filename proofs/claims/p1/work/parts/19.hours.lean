set_option maxHeartbeats 4000000 in
set_option maxRecDepth 100000 in
theorem k_rivHour (l : Launch) (dC : Nat → ClassId) (dI : Nat → Nat → Nat) (sz : Nat) (a : Nat → Nat) (cI : ClassId) (ft0 fc0 : Nat → Int32) (wm : Int32)  : Met l yX0_passHour wsX0_passHour ({ frames := 1, cells := 0, slots := 0, locals := 15 }) (va_Pc [.ref (a 2), .int wm] (PW dC dI ([((a 2), .inr (4, [.ref (a 8), .ref (a 9), .ref (a 10)])), ((a 8), .inl (cI, 4, .inl ft0)), ((a 9), .inl (cI, 4, .inl fc0))]) [(cI, .int)] sz)) (va_Qv (fun (u : (Nat → Int32) × (Nat → Int32)) => True) (fun (u : (Nat → Int32) × (Nat → Int32)) t => BW dC dI (va_A ([((a 2), .inr (4, [.ref (a 8), .ref (a 9), .ref (a 10)])), ((a 8), .inl (cI, 4, .inl ft0)), ((a 9), .inl (cI, 4, .inl fc0))]) sz) [((a 2), .inr (4, [.ref (a 8), .ref (a 9), .ref (a 10)])), ((a 8), .inl (cI, 4, .inl u.1)), ((a 9), .inl (cI, 4, .inl u.2))] [(cI, .int)] t) (va_A ([((a 2), .inr (4, [.ref (a 8), .ref (a 9), .ref (a 10)])), ((a 8), .inl (cI, 4, .inl ft0)), ((a 9), .inl (cI, 4, .inl fc0))]) sz)) 0 0 (va_A ([((a 2), .inr (4, [.ref (a 8), .ref (a 9), .ref (a 10)])), ((a 8), .inl (cI, 4, .inl ft0)), ((a 9), .inl (cI, 4, .inl fc0))]) sz) := by
  refine Met.ofW (cc := cX0_passHour) (maxL := 4) (ret := none) (by decide +kernel) rfl ?_
  intro p e s m args below meth c s₁ B hml hv
  obtain ⟨rfl, hsz, hP, hK, hD0⟩ := hv
  have hx := B.exec
  have hb := B.bytes
  have hr := B.returns
  have hts := atoms_spec (ws := wsX0_passHour) B.pre
  have hown : s.vm.findClass RX0 = some m.cls := findClass_of_methodNamed B.named
  have hlocks := B.notSynchronized
  subst hsz
  have hD := hD0.self (sz := s.heap.size)
  generalize hAe : va_A ([((a 2), .inr (4, [.ref (a 8), .ref (a 9), .ref (a 10)])), ((a 8), .inl (cI, 4, .inl ft0)), ((a 9), .inl (cI, 4, .inl fc0))]) s.heap.size = A at hD ⊢
  have hA : ∀ q : Nat, s.heap.size ≤ q → A q := fun q h => by rw [← hAe]; exact Or.inr h
  have hS : va_S A s.heap s.heap [] := va_S.rf
  have hl := lv_entry ([.ref (a 2), .int wm]) (n := 4) (Nat.le_of_ble_eq_true rfl)
  rw [lg_entry_eq]
  generalize (lg_sl ([.ref (a 2), .int wm]) ++ List.replicate (4 - (lg_sl ([.ref (a 2), .int wm])).length) Slot.unset).toArray = ls at hl ⊢
  have hl : lv_has ls 4 [(0, .ref (a 2)), (1, .int wm)] := hl
  refine lv_iconst (v := 0) hx hb dX0_passHour_0 (by decide) ?_
  refine lv_istore_n (lv' := [(2, .int 0), (0, .ref (a 2)), (1, .int wm)]) hx hb dX0_passHour_1 rfl hl (by decide) rfl (fun ls hl => ?_)
  have hloop1 : ∀ (Q : State → Prop), (∀ (ft : Nat → Int32) (fc : Nat → Int32) (H : Heap) (locs : List Loc) (ls : Array Slot), va_P (dC, dI) vwCl ([((a 2), .inr (4, [.ref (a 8), .ref (a 9), .ref (a 10)])), ((a 8), .inl (cI, 4, .inl ft)), ((a 9), .inl (cI, 4, .inl fc))]) H → va_D A ([((a 2), .inr (4, [.ref (a 8), .ref (a 9), .ref (a 10)])), ((a 8), .inl (cI, 4, .inl ft)), ((a 9), .inl (cI, 4, .inl fc))]) → va_S A s.heap H locs → lv_has ls 4 [(0, .ref (a 2)), (1, .int wm)] → W p l e (headSpec wsX0_passHour ({ frames := 1, cells := 0, slots := 0, locals := 15 })).room s m ([.ref (a 2), .int wm] : List Value).toArray below meth c H locs 0 0 Q (F0 m 112 ls [])) → ∀ (n i : Nat) (ft : Nat → Int32) (fc : Nat → Int32), i ≤ 4 → 4 < i + n → ∀ (H : Heap) (locs : List Loc) (ls : Array Slot), va_P (dC, dI) vwCl ([((a 2), .inr (4, [.ref (a 8), .ref (a 9), .ref (a 10)])), ((a 8), .inl (cI, 4, .inl ft)), ((a 9), .inl (cI, 4, .inl fc))]) H → va_D A ([((a 2), .inr (4, [.ref (a 8), .ref (a 9), .ref (a 10)])), ((a 8), .inl (cI, 4, .inl ft)), ((a 9), .inl (cI, 4, .inl fc))]) → va_S A s.heap H locs → lv_has ls 4 [(2, .int (nI i)), (0, .ref (a 2)), (1, .int wm)] → W p l e (headSpec wsX0_passHour ({ frames := 1, cells := 0, slots := 0, locals := 15 })).room s m ([.ref (a 2), .int wm] : List Value).toArray below meth c H locs 0 0 Q (F0 m 2 ls []) := by
    intro Q hk n
    induction n with
    | zero => intro i ft fc h1 h2; omega
    | succ n ih =>
      intro i ft fc hi hin H locs ls hP hD hS hl
      refine lv_iload_n hx hb dX0_passHour_2 rfl (lv_at hl 0 rfl) ?_
      refine lv_iconst (v := 4) hx hb dX0_passHour_3 (by decide) ?_
      refine lv_icmp_ge (tgt := 112) hx hb dX0_passHour_4 (by decide) (fun c2 => ?_) (fun c2 => ?_)
      · skip
        have hi4 : i = 4 := by
          have := (nI_leI (a := 4) (b := i) (by omega) (by omega)).mp c2
          omega
        subst hi4
        exact hk ft fc H locs ls hP hD hS (lv_sub hl [1, 2] rfl)
      · skip
        have hlt : i < 4 := by
          rcases Nat.lt_or_ge i 4 with q | q
          · exact q
          · exact absurd ((nI_leI (a := 4) (b := i) (by omega) (by omega)).mpr q) c2
        refine lv_iload_n hx hb dX0_passHour_7 rfl (lv_at hl 2 rfl) ?_
        refine lv_if_ge (tgt := 64) hx hb dX0_passHour_8 (by decide) (fun c3 => ?_) (fun c3 => ?_)
        · skip
          refine lv_aload_n hx hb dX0_passHour_64 rfl (lv_at hl 1 rfl) ?_
          refine va_get (D := (dC, dI)) (ci := 4) (v := .ref (a 8)) (C := RX0) (T := TX0) (N := 3) hx hb hts (by decide +kernel) hown hK hP 0 rfl rfl 0 (by decide) (hts (.fieldLink RX0 9 "Snowpalace$River" "thickness" "[I") (by decide +kernel)) (fun _ h9 => h9) rfl dX0_passHour_65 ?_
          refine lv_iload_n hx hb dX0_passHour_68 rfl (lv_at hl 0 rfl) ?_
          refine lv_iconst (v := 0) hx hb dX0_passHour_69 (by decide) ?_
          refine lv_aload_n hx hb dX0_passHour_70 rfl (lv_at hl 1 rfl) ?_
          refine va_get (D := (dC, dI)) (ci := 4) (v := .ref (a 8)) (C := RX0) (T := TX0) (N := 3) hx hb hts (by decide +kernel) hown hK hP 0 rfl rfl 0 (by decide) (hts (.fieldLink RX0 9 "Snowpalace$River" "thickness" "[I") (by decide +kernel)) (fun _ h9 => h9) rfl dX0_passHour_71 ?_
          refine lv_iload_n hx hb dX0_passHour_74 rfl (lv_at hl 0 rfl) ?_
          refine va_iald (D := (dC, dI)) hx hb hK hP 1 0 rfl rfl (vp_in_nI hlt (by decide)) dX0_passHour_75 ?_
          refine lv_topi (fun v4 e5 => ?_)
          refine lv_iload_n hx hb dX0_passHour_76 rfl (lv_at hl 2 rfl) ?_
          refine lv_bipush (v := 10) hx hb dX0_passHour_77 (by decide) ?_
          refine lv_idiv hx hb dX0_passHour_79 (by decide) ?_
          refine lv_topi (fun v6 e7 => ?_)
          refine lv_isub hx hb dX0_passHour_80 ?_
          refine lv_topi (fun v8 e9 => ?_)
          refine va_mmax hx hb (hml.trans hl.1.symm) hown (hts (.methodLink RX0 25 Lib.Math.max.name) (by decide +kernel)) (hts (.static Lib.Math.max.name) (by decide +kernel)) (hts (.initialized "java/lang/Math") (by decide +kernel)) (hts (.code Lib.Math.max.name Lib.Math.max.code 2 (some .int)) (by decide +kernel)) (Nat.le_of_ble_eq_true rfl) (Nat.le_of_ble_eq_true rfl) (Nat.le_of_ble_eq_true rfl) (Nat.le_of_ble_eq_true rfl) dX0_passHour_81 ?_
          refine lv_topi (fun v10 e11 => ?_)
          refine va_iast (D := (dC, dI)) hx hb hK hP hD hS 1 0 rfl rfl (vp_in_nI hlt (by decide)) dX0_passHour_84 (fun H locs hP hD hS => ?_)
          obtain ⟨f12, hf12⟩ : ∃ z, z = upd ft ((nI i) : Int32).toNatClampNeg v10 := ⟨_, rfl⟩
          rw [← hf12] at hP hD
          have hP : va_P (dC, dI) vwCl ([((a 2), .inr (4, [.ref (a 8), .ref (a 9), .ref (a 10)])), ((a 8), .inl (cI, 4, .inl f12)), ((a 9), .inl (cI, 4, .inl fc))]) H := hP
          have hD : va_D A ([((a 2), .inr (4, [.ref (a 8), .ref (a 9), .ref (a 10)])), ((a 8), .inl (cI, 4, .inl f12)), ((a 9), .inl (cI, 4, .inl fc))]) := hD
          refine lv_aload_n hx hb dX0_passHour_85 rfl (lv_at hl 1 rfl) ?_
          refine va_get (D := (dC, dI)) (ci := 4) (v := .ref (a 9)) (C := RX0) (T := TX0) (N := 3) hx hb hts (by decide +kernel) hown hK hP 0 rfl rfl 1 (by decide) (hts (.fieldLink RX0 15 "Snowpalace$River" "clearPart" "[I") (by decide +kernel)) (fun _ h9 => h9) rfl dX0_passHour_86 ?_
          refine lv_iload_n hx hb dX0_passHour_89 rfl (lv_at hl 0 rfl) ?_
          refine lv_aload_n hx hb dX0_passHour_90 rfl (lv_at hl 1 rfl) ?_
          refine va_get (D := (dC, dI)) (ci := 4) (v := .ref (a 9)) (C := RX0) (T := TX0) (N := 3) hx hb hts (by decide +kernel) hown hK hP 0 rfl rfl 1 (by decide) (hts (.fieldLink RX0 15 "Snowpalace$River" "clearPart" "[I") (by decide +kernel)) (fun _ h9 => h9) rfl dX0_passHour_91 ?_
          refine lv_iload_n hx hb dX0_passHour_94 rfl (lv_at hl 0 rfl) ?_
          refine va_iald (D := (dC, dI)) hx hb hK hP 2 0 rfl rfl (vp_in_nI hlt (by decide)) dX0_passHour_95 ?_
          refine lv_topi (fun v13 e14 => ?_)
          refine lv_aload_n hx hb dX0_passHour_96 rfl (lv_at hl 1 rfl) ?_
          refine va_get (D := (dC, dI)) (ci := 4) (v := .ref (a 8)) (C := RX0) (T := TX0) (N := 3) hx hb hts (by decide +kernel) hown hK hP 0 rfl rfl 0 (by decide) (hts (.fieldLink RX0 9 "Snowpalace$River" "thickness" "[I") (by decide +kernel)) (fun _ h9 => h9) rfl dX0_passHour_97 ?_
          refine lv_iload_n hx hb dX0_passHour_100 rfl (lv_at hl 0 rfl) ?_
          refine va_iald (D := (dC, dI)) hx hb hK hP 1 0 rfl rfl (vp_in_nI hlt (by decide)) dX0_passHour_101 ?_
          refine lv_topi (fun v15 e16 => ?_)
          refine va_mmin hx hb (hml.trans hl.1.symm) hown (hts (.methodLink RX0 31 Lib.Math.min.name) (by decide +kernel)) (hts (.static Lib.Math.min.name) (by decide +kernel)) (hts (.initialized "java/lang/Math") (by decide +kernel)) (hts (.code Lib.Math.min.name Lib.Math.min.code 2 (some .int)) (by decide +kernel)) (Nat.le_of_ble_eq_true rfl) (Nat.le_of_ble_eq_true rfl) (Nat.le_of_ble_eq_true rfl) (Nat.le_of_ble_eq_true rfl) dX0_passHour_102 ?_
          refine lv_topi (fun v17 e18 => ?_)
          refine va_iast (D := (dC, dI)) hx hb hK hP hD hS 2 0 rfl rfl (vp_in_nI hlt (by decide)) dX0_passHour_105 (fun H locs hP hD hS => ?_)
          obtain ⟨f19, hf19⟩ : ∃ z, z = upd fc ((nI i) : Int32).toNatClampNeg v17 := ⟨_, rfl⟩
          rw [← hf19] at hP hD
          have hP : va_P (dC, dI) vwCl ([((a 2), .inr (4, [.ref (a 8), .ref (a 9), .ref (a 10)])), ((a 8), .inl (cI, 4, .inl f12)), ((a 9), .inl (cI, 4, .inl f19))]) H := hP
          have hD : va_D A ([((a 2), .inr (4, [.ref (a 8), .ref (a 9), .ref (a 10)])), ((a 8), .inl (cI, 4, .inl f12)), ((a 9), .inl (cI, 4, .inl f19))]) := hD
          refine lv_iinc (v := (nI (i + 1))) (lv' := [(2, .int (nI (i + 1))), (0, .ref (a 2)), (1, .int wm)]) hx hb dX0_passHour_106 hl (k := 0) rfl (nI_1 i) (by decide) rfl (fun ls hl => ?_)
          refine lv_goto (tgt := 2) hx hb dX0_passHour_109 (by decide) ?_
          exact ih (i + 1) f12 f19 hlt (by omega) H locs ls hP hD hS (lv_sub hl [0, 1, 2] rfl)
        · skip
          refine lv_iload_n hx hb dX0_passHour_11 rfl (lv_at hl 2 rfl) ?_
          refine lv_ineg hx hb dX0_passHour_12 ?_
          refine lv_topi (fun v20 e21 => ?_)
          refine lv_bipush (v := 10) hx hb dX0_passHour_13 (by decide) ?_
          refine lv_iconst (v := 0) hx hb dX0_passHour_15 (by decide) ?_
          refine lv_aload_n hx hb dX0_passHour_16 rfl (lv_at hl 1 rfl) ?_
          refine va_get (D := (dC, dI)) (ci := 4) (v := .ref (a 8)) (C := RX0) (T := TX0) (N := 3) hx hb hts (by decide +kernel) hown hK hP 0 rfl rfl 0 (by decide) (hts (.fieldLink RX0 9 "Snowpalace$River" "thickness" "[I") (by decide +kernel)) (fun _ h9 => h9) rfl dX0_passHour_17 ?_
          refine lv_iload_n hx hb dX0_passHour_20 rfl (lv_at hl 0 rfl) ?_
          refine va_iald (D := (dC, dI)) hx hb hK hP 1 0 rfl rfl (vp_in_nI hlt (by decide)) dX0_passHour_21 ?_
          refine lv_topi (fun v22 e23 => ?_)
          refine va_mmax hx hb (hml.trans hl.1.symm) hown (hts (.methodLink RX0 25 Lib.Math.max.name) (by decide +kernel)) (hts (.static Lib.Math.max.name) (by decide +kernel)) (hts (.initialized "java/lang/Math") (by decide +kernel)) (hts (.code Lib.Math.max.name Lib.Math.max.code 2 (some .int)) (by decide +kernel)) (Nat.le_of_ble_eq_true rfl) (Nat.le_of_ble_eq_true rfl) (Nat.le_of_ble_eq_true rfl) (Nat.le_of_ble_eq_true rfl) dX0_passHour_22 ?_
          refine lv_topi (fun v24 e25 => ?_)
          refine lv_bipush (v := 20) hx hb dX0_passHour_25 (by decide) ?_
          refine lv_idiv hx hb dX0_passHour_27 (by decide) ?_
          refine lv_topi (fun v26 e27 => ?_)
          refine lv_iadd hx hb dX0_passHour_28 ?_
          refine lv_topi (fun v28 e29 => ?_)
          refine lv_idiv hx hb dX0_passHour_29 (by rw [e29, e27]; exact div10 e25) ?_
          refine lv_topi (fun v30 e31 => ?_)
          refine lv_istore_n (lv' := [(3, .int v30), (2, .int (nI i)), (0, .ref (a 2)), (1, .int wm)]) hx hb dX0_passHour_30 rfl hl (by decide) rfl (fun ls hl => ?_)
          refine lv_aload_n hx hb dX0_passHour_31 rfl (lv_at hl 2 rfl) ?_
          refine va_get (D := (dC, dI)) (ci := 4) (v := .ref (a 8)) (C := RX0) (T := TX0) (N := 3) hx hb hts (by decide +kernel) hown hK hP 0 rfl rfl 0 (by decide) (hts (.fieldLink RX0 9 "Snowpalace$River" "thickness" "[I") (by decide +kernel)) (fun _ h9 => h9) rfl dX0_passHour_32 ?_
          refine lv_iload_n hx hb dX0_passHour_35 rfl (lv_at hl 1 rfl) ?_
          refine lv_dup2_11 hx hb dX0_passHour_36 rfl rfl ?_
          refine va_iald (D := (dC, dI)) hx hb hK hP 1 0 rfl rfl (vp_in_nI hlt (by decide)) dX0_passHour_37 ?_
          refine lv_topi (fun v32 e33 => ?_)
          refine lv_iload_n hx hb dX0_passHour_38 rfl (lv_at hl 0 rfl) ?_
          refine lv_iadd hx hb dX0_passHour_39 ?_
          refine lv_topi (fun v34 e35 => ?_)
          refine va_iast (D := (dC, dI)) hx hb hK hP hD hS 1 0 rfl rfl (vp_in_nI hlt (by decide)) dX0_passHour_40 (fun H locs hP hD hS => ?_)
          obtain ⟨f36, hf36⟩ : ∃ z, z = upd ft ((nI i) : Int32).toNatClampNeg v34 := ⟨_, rfl⟩
          rw [← hf36] at hP hD
          have hP : va_P (dC, dI) vwCl ([((a 2), .inr (4, [.ref (a 8), .ref (a 9), .ref (a 10)])), ((a 8), .inl (cI, 4, .inl f36)), ((a 9), .inl (cI, 4, .inl fc))]) H := hP
          have hD : va_D A ([((a 2), .inr (4, [.ref (a 8), .ref (a 9), .ref (a 10)])), ((a 8), .inl (cI, 4, .inl f36)), ((a 9), .inl (cI, 4, .inl fc))]) := hD
          refine lv_aload_n hx hb dX0_passHour_41 rfl (lv_at hl 2 rfl) ?_
          refine va_get (D := (dC, dI)) (ci := 4) (v := .ref (a 9)) (C := RX0) (T := TX0) (N := 3) hx hb hts (by decide +kernel) hown hK hP 0 rfl rfl 1 (by decide) (hts (.fieldLink RX0 15 "Snowpalace$River" "clearPart" "[I") (by decide +kernel)) (fun _ h9 => h9) rfl dX0_passHour_42 ?_
          refine lv_iload_n hx hb dX0_passHour_45 rfl (lv_at hl 1 rfl) ?_
          refine lv_dup2_11 hx hb dX0_passHour_46 rfl rfl ?_
          refine va_iald (D := (dC, dI)) hx hb hK hP 2 0 rfl rfl (vp_in_nI hlt (by decide)) dX0_passHour_47 ?_
          refine lv_topi (fun v37 e38 => ?_)
          refine lv_iload_n hx hb dX0_passHour_48 rfl (lv_at hl 3 rfl) ?_
          refine lv_bipush (v := (-100)) hx hb dX0_passHour_49 (by decide) ?_
          refine lv_icmp_gt (tgt := 58) hx hb dX0_passHour_51 (by decide) (fun c39 => ?_) (fun c39 => ?_)
          · skip
            refine lv_iconst (v := 0) hx hb dX0_passHour_58 (by decide) ?_
            refine lv_iadd hx hb dX0_passHour_59 ?_
            refine lv_topi (fun v40 e41 => ?_)
            refine va_iast (D := (dC, dI)) hx hb hK hP hD hS 2 0 rfl rfl (vp_in_nI hlt (by decide)) dX0_passHour_60 (fun H locs hP hD hS => ?_)
            obtain ⟨f42, hf42⟩ : ∃ z, z = upd fc ((nI i) : Int32).toNatClampNeg v40 := ⟨_, rfl⟩
            rw [← hf42] at hP hD
            have hP : va_P (dC, dI) vwCl ([((a 2), .inr (4, [.ref (a 8), .ref (a 9), .ref (a 10)])), ((a 8), .inl (cI, 4, .inl f36)), ((a 9), .inl (cI, 4, .inl f42))]) H := hP
            have hD : va_D A ([((a 2), .inr (4, [.ref (a 8), .ref (a 9), .ref (a 10)])), ((a 8), .inl (cI, 4, .inl f36)), ((a 9), .inl (cI, 4, .inl f42))]) := hD
            refine lv_goto (tgt := 106) hx hb dX0_passHour_61 (by decide) ?_
            refine lv_iinc (v := (nI (i + 1))) (lv' := [(2, .int (nI (i + 1))), (3, .int v30), (0, .ref (a 2)), (1, .int wm)]) hx hb dX0_passHour_106 hl (k := 1) rfl (nI_1 i) (by decide) rfl (fun ls hl => ?_)
            refine lv_goto (tgt := 2) hx hb dX0_passHour_109 (by decide) ?_
            exact ih (i + 1) f36 f42 hlt (by omega) H locs ls hP hD hS (lv_sub hl [0, 2, 3] rfl)
          · skip
            refine lv_iload_n hx hb dX0_passHour_54 rfl (lv_at hl 0 rfl) ?_
            refine lv_goto (tgt := 59) hx hb dX0_passHour_55 (by decide) ?_
            refine lv_iadd hx hb dX0_passHour_59 ?_
            refine lv_topi (fun v43 e44 => ?_)
            refine va_iast (D := (dC, dI)) hx hb hK hP hD hS 2 0 rfl rfl (vp_in_nI hlt (by decide)) dX0_passHour_60 (fun H locs hP hD hS => ?_)
            obtain ⟨f45, hf45⟩ : ∃ z, z = upd fc ((nI i) : Int32).toNatClampNeg v43 := ⟨_, rfl⟩
            rw [← hf45] at hP hD
            have hP : va_P (dC, dI) vwCl ([((a 2), .inr (4, [.ref (a 8), .ref (a 9), .ref (a 10)])), ((a 8), .inl (cI, 4, .inl f36)), ((a 9), .inl (cI, 4, .inl f45))]) H := hP
            have hD : va_D A ([((a 2), .inr (4, [.ref (a 8), .ref (a 9), .ref (a 10)])), ((a 8), .inl (cI, 4, .inl f36)), ((a 9), .inl (cI, 4, .inl f45))]) := hD
            refine lv_goto (tgt := 106) hx hb dX0_passHour_61 (by decide) ?_
            refine lv_iinc (v := (nI (i + 1))) (lv' := [(2, .int (nI (i + 1))), (3, .int v30), (0, .ref (a 2)), (1, .int wm)]) hx hb dX0_passHour_106 hl (k := 1) rfl (nI_1 i) (by decide) rfl (fun ls hl => ?_)
            refine lv_goto (tgt := 2) hx hb dX0_passHour_109 (by decide) ?_
            exact ih (i + 1) f36 f45 hlt (by omega) H locs ls hP hD hS (lv_sub hl [0, 2, 3] rfl)
  refine hloop1 _ (fun ft fc H locs ls hP hD hS hl => ?_) (4 + 1) 0 ft0 fc0 (Nat.zero_le _) (by omega) _ _ ls hP hD hS (lv_sub hl [0, 1, 2] rfl)
  have hP : va_P (dC, dI) vwCl ([((a 2), .inr (4, [.ref (a 8), .ref (a 9), .ref (a 10)])), ((a 8), .inl (cI, 4, .inl ft)), ((a 9), .inl (cI, 4, .inl fc))]) H := hP
  have hD : va_D A ([((a 2), .inr (4, [.ref (a 8), .ref (a 9), .ref (a 10)])), ((a 8), .inl (cI, 4, .inl ft)), ((a 9), .inl (cI, 4, .inl fc))]) := hD
  refine W.widen (k := 0) (n := 0) (Nat.le_of_ble_eq_true rfl) (Nat.le_of_ble_eq_true rfl) ?_
  exact W.vret hx hb hr (fun t ht hW => ⟨⟨(ft, fc), rfl, trivial, BW.end hP hK hD [0, 1, 2] [0] rfl rfl rfl rfl ht hW⟩, hS.F ht⟩) hS.2.2 dX0_passHour_112

set_option maxHeartbeats 4000000 in
set_option maxRecDepth 100000 in
theorem k_passHour (l : Launch) (dC : Nat → ClassId) (dI : Nat → Nat → Nat) (sz : Nat) (a : Nat → Nat) (cI : ClassId) (f : Nat → Nat → Int32) (hF : FX f) (ft0 fc0 : Nat → Int32) (n : Nat) (hn : n ≤ 503)   : Met l yX3_passHour wsX3_passHour ({ frames := 2, cells := 0, slots := 0, locals := 46 }) (va_Pc [.ref (a 0)] (PN dC dI ([((a 0), .inr (7, [.ref (a 1), .ref (a 2), .ref (a 3), .int 0, .int (nI n), .int 0, .int 0, .int 0, .int 0, .int 0])), ((a 1), .inr (6, [.ref (a 4), .ref (a 5), .ref (a 6), .ref (a 7)])), ((a 2), .inr (4, [.ref (a 8), .ref (a 9), .ref (a 10)])), ((a 4), .inl (cI, 21, .inl (f 0))), ((a 5), .inl (cI, 21, .inl (f 1))), ((a 8), .inl (cI, 4, .inl ft0)), ((a 9), .inl (cI, 4, .inl fc0))]) [(cI, .int)] sz)) (va_Qv (fun (u : (Nat → Int32) × (Nat → Int32)) => True) (fun (u : (Nat → Int32) × (Nat → Int32)) t => BW dC dI (va_A ([((a 0), .inr (7, [.ref (a 1), .ref (a 2), .ref (a 3), .int 0, .int (nI n), .int 0, .int 0, .int 0, .int 0, .int 0])), ((a 1), .inr (6, [.ref (a 4), .ref (a 5), .ref (a 6), .ref (a 7)])), ((a 2), .inr (4, [.ref (a 8), .ref (a 9), .ref (a 10)])), ((a 4), .inl (cI, 21, .inl (f 0))), ((a 5), .inl (cI, 21, .inl (f 1))), ((a 8), .inl (cI, 4, .inl ft0)), ((a 9), .inl (cI, 4, .inl fc0))]) sz) [((a 0), .inr (7, [.ref (a 1), .ref (a 2), .ref (a 3), .int 0, .int (nI n), .int 0, .int 0, .int 0, .int 0, .int 0])), ((a 1), .inr (6, [.ref (a 4), .ref (a 5), .ref (a 6), .ref (a 7)])), ((a 2), .inr (4, [.ref (a 8), .ref (a 9), .ref (a 10)])), ((a 4), .inl (cI, 21, .inl (f 0))), ((a 5), .inl (cI, 21, .inl (f 1))), ((a 8), .inl (cI, 4, .inl u.1)), ((a 9), .inl (cI, 4, .inl u.2))] [(cI, .int)] t) (va_A ([((a 0), .inr (7, [.ref (a 1), .ref (a 2), .ref (a 3), .int 0, .int (nI n), .int 0, .int 0, .int 0, .int 0, .int 0])), ((a 1), .inr (6, [.ref (a 4), .ref (a 5), .ref (a 6), .ref (a 7)])), ((a 2), .inr (4, [.ref (a 8), .ref (a 9), .ref (a 10)])), ((a 4), .inl (cI, 21, .inl (f 0))), ((a 5), .inl (cI, 21, .inl (f 1))), ((a 8), .inl (cI, 4, .inl ft0)), ((a 9), .inl (cI, 4, .inl fc0))]) sz)) 0 0 (va_A ([((a 0), .inr (7, [.ref (a 1), .ref (a 2), .ref (a 3), .int 0, .int (nI n), .int 0, .int 0, .int 0, .int 0, .int 0])), ((a 1), .inr (6, [.ref (a 4), .ref (a 5), .ref (a 6), .ref (a 7)])), ((a 2), .inr (4, [.ref (a 8), .ref (a 9), .ref (a 10)])), ((a 4), .inl (cI, 21, .inl (f 0))), ((a 5), .inl (cI, 21, .inl (f 1))), ((a 8), .inl (cI, 4, .inl ft0)), ((a 9), .inl (cI, 4, .inl fc0))]) sz) := by
  refine Met.ofW (cc := cX3_passHour) (maxL := 4) (ret := none) (by decide +kernel) rfl ?_
  intro p e s m args below meth c s₁ B hml hv
  obtain ⟨rfl, ⟨hsz, hP, hK, hD0⟩, hN⟩ := hv
  have hx := B.exec
  have hb := B.bytes
  have hr := B.returns
  have hts := atoms_spec (ws := wsX3_passHour) B.pre
  have hown : s.vm.findClass RX3 = some m.cls := findClass_of_methodNamed B.named
  have hlocks := B.notSynchronized
  subst hsz
  have hD := hD0.self (sz := s.heap.size)
  generalize hAe : va_A ([((a 0), .inr (7, [.ref (a 1), .ref (a 2), .ref (a 3), .int 0, .int (nI n), .int 0, .int 0, .int 0, .int 0, .int 0])), ((a 1), .inr (6, [.ref (a 4), .ref (a 5), .ref (a 6), .ref (a 7)])), ((a 2), .inr (4, [.ref (a 8), .ref (a 9), .ref (a 10)])), ((a 4), .inl (cI, 21, .inl (f 0))), ((a 5), .inl (cI, 21, .inl (f 1))), ((a 8), .inl (cI, 4, .inl ft0)), ((a 9), .inl (cI, 4, .inl fc0))]) s.heap.size = A at hD ⊢
  have hA : ∀ q : Nat, s.heap.size ≤ q → A q := fun q h => by rw [← hAe]; exact Or.inr h
  have hS : va_S A s.heap s.heap [] := va_S.rf
  have hl := lv_entry ([.ref (a 0)]) (n := 4) (Nat.le_of_ble_eq_true rfl)
  rw [lg_entry_eq]
  generalize (lg_sl ([.ref (a 0)]) ++ List.replicate (4 - (lg_sl ([.ref (a 0)])).length) Slot.unset).toArray = ls at hl ⊢
  have hl : lv_has ls 4 [(0, .ref (a 0))] := hl
  refine lv_aload_n hx hb dX3_passHour_0 rfl (lv_at hl 0 rfl) ?_
  refine va_get (D := (dC, dI)) (ci := 7) (v := .ref (a 1)) (C := RX3) (T := TX3) (N := 10) hx hb hts (by decide +kernel) hown hK hP 0 rfl rfl 0 (by decide) (hts (.fieldLink RX3 10 "Snowpalace" "sky" "LSnowpalace$Sky;") (by decide +kernel)) (fun _ h9 => h9) rfl dX3_passHour_1 ?_
  refine lv_aload_n hx hb dX3_passHour_4 rfl (lv_at hl 0 rfl) ?_
  refine va_get (D := (dC, dI)) (ci := 7) (v := .int (nI n)) (C := RX3) (T := TX3) (N := 10) hx hb hts (by decide +kernel) hown hK hP 0 rfl rfl 4 (by decide) (hts (.fieldLink RX3 33 "Snowpalace" "clock" "I") (by decide +kernel)) (fun _ h9 => h9) rfl dX3_passHour_5 ?_
  refine va_calli (va_runV (As := [.int (nI n)]) (rest := []) ⟨hx, hb, hml, hown, hts⟩ (k_warmthOf l dC dI _ a cI f hF n (by omega)) (cwV 1 hts gX3_passHour_X2_warmthOf rfl rfl rfl (by decide +kernel) ⟨Nat.le_of_ble_eq_true rfl, Nat.le_of_ble_eq_true rfl⟩) ⟨fb_PN, va_recv hK hP (ci := 6) (q0 := 1) rfl rfl, fun U hU hW => ⟨rfl, PN.give hP hK hD hN [1, 3, 4] [0] rfl rfl rfl rfl hU hW⟩⟩ rfl rfl hl.1 rfl (lv_room (Nat.le_of_ble_eq_true rfl)) dX3_passHour_8 ⟨(Nat.le_of_ble_eq_true rfl), (Nat.le_of_ble_eq_true rfl)⟩) hS (fun q _ h => h.elim) (fun q h => h.elim) (fun r1 u t H locs ht hvm hw2 hB hz1 hk1 hS => ?_)
  have hP := kp_P hP hk1
  have hP : va_P (dC, dI) vwCl ([((a 0), .inr (7, [.ref (a 1), .ref (a 2), .ref (a 3), .int 0, .int (nI n), .int 0, .int 0, .int 0, .int 0, .int 0])), ((a 1), .inr (6, [.ref (a 4), .ref (a 5), .ref (a 6), .ref (a 7)])), ((a 2), .inr (4, [.ref (a 8), .ref (a 9), .ref (a 10)])), ((a 4), .inl (cI, 21, .inl (f 0))), ((a 5), .inl (cI, 21, .inl (f 1))), ((a 8), .inl (cI, 4, .inl ft0)), ((a 9), .inl (cI, 4, .inl fc0))]) H := hP
  have hD : va_D A ([((a 0), .inr (7, [.ref (a 1), .ref (a 2), .ref (a 3), .int 0, .int (nI n), .int 0, .int 0, .int 0, .int 0, .int 0])), ((a 1), .inr (6, [.ref (a 4), .ref (a 5), .ref (a 6), .ref (a 7)])), ((a 2), .inr (4, [.ref (a 8), .ref (a 9), .ref (a 10)])), ((a 4), .inl (cI, 21, .inl (f 0))), ((a 5), .inl (cI, 21, .inl (f 1))), ((a 8), .inl (cI, 4, .inl ft0)), ((a 9), .inl (cI, 4, .inl fc0))]) := hD
  refine lv_istore_n (lv' := [(1, .int r1), (0, .ref (a 0))]) hx hb dX3_passHour_11 rfl hl (by decide) rfl (fun ls hl => ?_)
  refine lv_aload_n hx hb dX3_passHour_12 rfl (lv_at hl 1 rfl) ?_
  refine va_get (D := (dC, dI)) (ci := 7) (v := .ref (a 2)) (C := RX3) (T := TX3) (N := 10) hx hb hts (by decide +kernel) hown hK hP 0 rfl rfl 1 (by decide) (hts (.fieldLink RX3 19 "Snowpalace" "river" "LSnowpalace$River;") (by decide +kernel)) (fun _ h9 => h9) rfl dX3_passHour_13 ?_
  refine lv_iload_n hx hb dX3_passHour_16 rfl (lv_at hl 0 rfl) ?_
  have hFc := va_free (wc := [((a 2), .inr (4, [.ref (a 8), .ref (a 9), .ref (a 10)])), ((a 8), .inl (cI, 4, .inl ft0)), ((a 9), .inl (cI, 4, .inl fc0))]) hD hS hA [2, 5, 6] rfl
  refine va_callv (va_runV (As := [.int r1]) (rest := []) ⟨hx, hb, hml, hown, hts⟩ (k_rivHour l dC dI _ a cI ft0 fc0 r1) (cwV 1 hts gX3_passHour_X0_passHour rfl rfl rfl (by decide +kernel) ⟨Nat.le_of_ble_eq_true rfl, Nat.le_of_ble_eq_true rfl⟩) ⟨fb_PW, va_recv hK hP (ci := 4) (q0 := 2) rfl rfl, fun U hU hW => ⟨rfl, PW.give hP hK hD [2, 5, 6] [0] rfl rfl rfl rfl hU hW⟩⟩ rfl rfl hl.1 rfl (lv_room (Nat.le_of_ble_eq_true rfl)) dX3_passHour_17 ⟨(Nat.le_of_ble_eq_true rfl), (Nat.le_of_ble_eq_true rfl)⟩) hS (fun q _ h => hFc q h) hFc (fun u t H locs ht hvm hw4 hB hz1 hk1 hS => ?_)
  obtain ⟨ft5, fc6⟩ := u
  obtain ⟨hP, hD, hK⟩ := aft [2, 5, 6] [0, 1, 3, 4] hP hK hD rfl (wr := [((a 0), .inr (7, [.ref (a 1), .ref (a 2), .ref (a 3), .int 0, .int (nI n), .int 0, .int 0, .int 0, .int 0, .int 0])), ((a 1), .inr (6, [.ref (a 4), .ref (a 5), .ref (a 6), .ref (a 7)])), ((a 4), .inl (cI, 21, .inl (f 0))), ((a 5), .inl (cI, 21, .inl (f 1)))]) rfl rfl (by decide) hFc hB ht hvm hk1
  have hP : va_P (dC, dI) vwCl ([((a 0), .inr (7, [.ref (a 1), .ref (a 2), .ref (a 3), .int 0, .int (nI n), .int 0, .int 0, .int 0, .int 0, .int 0])), ((a 1), .inr (6, [.ref (a 4), .ref (a 5), .ref (a 6), .ref (a 7)])), ((a 4), .inl (cI, 21, .inl (f 0))), ((a 5), .inl (cI, 21, .inl (f 1))), ((a 2), .inr (4, [.ref (a 8), .ref (a 9), .ref (a 10)])), ((a 8), .inl (cI, 4, .inl ft5)), ((a 9), .inl (cI, 4, .inl fc6))]) H := hP
  have hD : va_D A ([((a 0), .inr (7, [.ref (a 1), .ref (a 2), .ref (a 3), .int 0, .int (nI n), .int 0, .int 0, .int 0, .int 0, .int 0])), ((a 1), .inr (6, [.ref (a 4), .ref (a 5), .ref (a 6), .ref (a 7)])), ((a 4), .inl (cI, 21, .inl (f 0))), ((a 5), .inl (cI, 21, .inl (f 1))), ((a 2), .inr (4, [.ref (a 8), .ref (a 9), .ref (a 10)])), ((a 8), .inl (cI, 4, .inl ft5)), ((a 9), .inl (cI, 4, .inl fc6))]) := hD
  have hK : va_K (dC, dI) vwCl [(cI, .int), (cI, .int)] s := hK
  refine lv_aload_n hx hb dX3_passHour_20 rfl (lv_at hl 1 rfl) ?_
  refine va_get (D := (dC, dI)) (ci := 7) (v := .int 0) (C := RX3) (T := TX3) (N := 10) hx hb hts (by decide +kernel) hown hK hP 0 rfl rfl 8 (by decide) (hts (.fieldLink RX3 45 "Snowpalace" "machineIsOn" "Z") (by decide +kernel)) (fun _ h9 => h9) rfl dX3_passHour_21 ?_
  refine lv_if_eq (tgt := 48) hx hb dX3_passHour_24 (by decide) (fun _ => ?_) (fun cx => by first | exact absurd (by decide) cx | exact absurd cx (by decide))
  refine lv_iconst (v := 0) hx hb dX3_passHour_48 (by decide) ?_
  refine lv_istore_n (lv' := [(2, .int 0), (1, .int r1), (0, .ref (a 0))]) hx hb dX3_passHour_49 rfl hl (by decide) rfl (fun ls hl => ?_)
  refine lv_iload_n hx hb dX3_passHour_50 rfl (lv_at hl 0 rfl) ?_
  refine lv_aload_n hx hb dX3_passHour_51 rfl (lv_at hl 2 rfl) ?_
  refine va_get (D := (dC, dI)) (ci := 7) (v := .int 0) (C := RX3) (T := TX3) (N := 10) hx hb hts (by decide +kernel) hown hK hP 0 rfl rfl 3 (by decide) (hts (.fieldLink RX3 29 "Snowpalace" "siteCount" "I") (by decide +kernel)) (fun _ h9 => h9) rfl dX3_passHour_52 ?_
  refine lv_icmp_ge (tgt := 140) hx hb dX3_passHour_55 (by decide) (fun _ => ?_) (fun cx => by first | exact absurd (by decide) cx | exact absurd cx (by decide))
  refine W.widen (k := 0) (n := 0) (Nat.le_of_ble_eq_true rfl) (Nat.le_of_ble_eq_true rfl) ?_
  exact W.vret hx hb hr (fun t ht hW => ⟨⟨(ft5, fc6), rfl, trivial, BW.end hP hK hD [0, 1, 4, 2, 3, 5, 6] [0] rfl rfl rfl rfl ht hW⟩, hS.F ht⟩) hS.2.2 dX3_passHour_140

set_option maxHeartbeats 4000000 in
set_option maxRecDepth 100000 in
theorem k_go (l : Launch) (hlt : l.stackTraces = false) (dC : Nat → ClassId) (dI : Nat → Nat → Nat) (sz : Nat) (a : Nat → Nat) (cI cS : ClassId) (f : Nat → Nat → Int32) (hF : FX f) (p0 : Int32)  : vx_Met l yX3_go wsX3_go ({ frames := 6, cells := 1, slots := 6, locals := 82 }) (va_Pc [.ref (a 0), .int p0] (PT dC dI (wX a cI cS f) [(cI, .int), (cS, .object "Snowpalace$Site")] sz)) (va_Qi (fun (r : Int32) (u : Unit) => (1 ≤ p0.toInt ∧ p0.toInt ≤ 48) ∧ r = p0) (fun (u : Unit) t => True) (va_A (wX a cI cS f) sz)) (vx_X (fun u : String => u = "java/lang/IllegalArgumentException" ∧ ¬ (1 ≤ p0.toInt ∧ p0.toInt ≤ 48)) (fun E (u : String) _ => E = u) (va_A (wX a cI cS f) sz)) 1 6 (va_A (wX a cI cS f) sz) := by
  refine vx_ofW (cc := cX3_go) (maxL := 3) (ret := (some .int)) (by decide +kernel) rfl ?_
  intro p e s m args below meth c s₁ B hml hnt hv
  obtain ⟨rfl, ⟨hsz, hP, hK, hD0⟩, hT⟩ := hv
  have hx := B.exec
  have hb := B.bytes
  have hr := B.returns
  have hts := atoms_spec (ws := wsX3_go) B.pre
  have hown : s.vm.findClass RX3 = some m.cls := findClass_of_methodNamed B.named
  have hlocks := B.notSynchronized
  subst hsz
  have hD := hD0.self (sz := s.heap.size)
  generalize hAe : va_A (wX a cI cS f) s.heap.size = A at hD hT ⊢
  have hA : ∀ q : Nat, s.heap.size ≤ q → A q := fun q h => by rw [← hAe]; exact Or.inr h
  have hS : va_S A s.heap s.heap [] := va_S.rf
  have hl := lv_entry ([.ref (a 0), .int p0]) (n := 3) (Nat.le_of_ble_eq_true rfl)
  rw [lg_entry_eq]
  generalize (lg_sl ([.ref (a 0), .int p0]) ++ List.replicate (3 - (lg_sl ([.ref (a 0), .int p0])).length) Slot.unset).toArray = ls at hl ⊢
  have hl : lv_has ls 3 [(0, .ref (a 0)), (1, .int p0)] := hl
  have hN : NS s := hT.ns
  refine lv_iload_n hx hb dX3_go_0 rfl (lv_at hl 1 rfl) ?_
  refine lv_iconst (v := 1) hx hb dX3_go_1 (by decide) ?_
  refine lv_bipush (v := 48) hx hb dX3_go_2 (by decide) ?_
  refine va_calli (va_runS (As := [.int p0, .int 1, .int 48]) (rest := []) ⟨hx, hb, hml, hown, hts⟩ (k_isWithin l p0 1 48 (1) (48) (by decide) (by decide)) (va_cwS 3 hts gX3_go_X3_isWithin rfl rfl rfl (by decide +kernel) ⟨Nat.le_of_ble_eq_true rfl, Nat.le_of_ble_eq_true rfl⟩) ⟨fun a U g mk q => q, fun U hU hW => ⟨rfl, trivial⟩⟩ rfl rfl hl.1 rfl (lv_room (Nat.le_of_ble_eq_true rfl)) dX3_go_4 ⟨(Nat.le_of_ble_eq_true rfl), (Nat.le_of_ble_eq_true rfl)⟩) hS (fun q _ h => h.elim) (fun q h => h.elim) (fun r1 u t H locs ht hvm hw2 hB hz1 hk1 hS => ?_)
  have hP := kp_P hP hk1
  have hP : va_P (dC, dI) vwCl (wX a cI cS f) H := hP
  have hD : va_D A (wX a cI cS f) := hD
  have hw2 : r1 = bI ((1 : Int) ≤ p0.toInt ∧ p0.toInt ≤ (48 : Int)) := hw2
  refine lv_if_ne (tgt := 20) hx hb dX3_go_7 (by decide) (fun c3 => ?_) (fun c3 => ?_)
  · skip
    have g4 : (1 : Int) ≤ p0.toInt ∧ p0.toInt ≤ (48 : Int) := bI_t hw2 c3
    have zg4 : r1 = 1 := bI_t1 hw2 g4
    refine lv_aload_n hx hb dX3_go_20 rfl (lv_at hl 0 rfl) ?_
    refine va_get (D := (dC, dI)) (ci := 7) (v := .int 0) (C := RX3) (T := TX3) (N := 10) hx hb hts (by decide +kernel) hown hK hP 0 rfl rfl 4 (by decide) (hts (.fieldLink RX3 33 "Snowpalace" "clock" "I") (by decide +kernel)) (fun _ h9 => h9) rfl dX3_go_21 ?_
    refine lv_iload_n hx hb dX3_go_24 rfl (lv_at hl 1 rfl) ?_
    refine lv_iadd hx hb dX3_go_25 ?_
    refine lv_topi (fun v5 e6 => ?_)
    refine lv_sipush (v := 504) hx hb dX3_go_26 (by decide) ?_
    refine lv_icmp_le (tgt := 42) hx hb dX3_go_29 (by decide) (fun c7 => ?_) (fun c7 => ?_)
    · skip
      refine lv_iconst (v := 0) hx hb dX3_go_42 (by decide) ?_
      refine lv_istore_n (lv' := [(2, .int 0), (0, .ref (a 0)), (1, .int p0)]) hx hb dX3_go_43 rfl hl (by decide) rfl (fun ls hl => ?_)
      obtain ⟨k, hk, hkk⟩ := toN (p := p0) (k := 48) (by omega) (by omega) (by decide)
      subst hkk
      have hloop8 : ∀ (Q : State → Prop), (∀ (ft : Nat → Int32) (fc : Nat → Int32) (H : Heap) (locs : List Loc) (ls : Array Slot), va_P (dC, dI) vwCl ([((a 0), .inr (7, [.ref (a 1), .ref (a 2), .ref (a 3), .int 0, .int (nI k), .int 0, .int 0, .int 0, .int 0, .int 0])), ((a 1), .inr (6, [.ref (a 4), .ref (a 5), .ref (a 6), .ref (a 7)])), ((a 2), .inr (4, [.ref (a 8), .ref (a 9), .ref (a 10)])), ((a 3), .inl (cS, 3, .inr (.inr (.inr (.inr (fun _ => none)))))), ((a 4), .inl (cI, 21, .inl (f 0))), ((a 5), .inl (cI, 21, .inl (f 1))), ((a 6), .inl (cI, 21, .inl (f 2))), ((a 7), .inl (cI, 21, .inl (f 3))), ((a 8), .inl (cI, 4, .inl ft)), ((a 9), .inl (cI, 4, .inl fc)), ((a 10), .inl (cI, 4, .inl (f 4)))]) H → va_D A ([((a 0), .inr (7, [.ref (a 1), .ref (a 2), .ref (a 3), .int 0, .int (nI k), .int 0, .int 0, .int 0, .int 0, .int 0])), ((a 1), .inr (6, [.ref (a 4), .ref (a 5), .ref (a 6), .ref (a 7)])), ((a 2), .inr (4, [.ref (a 8), .ref (a 9), .ref (a 10)])), ((a 3), .inl (cS, 3, .inr (.inr (.inr (.inr (fun _ => none)))))), ((a 4), .inl (cI, 21, .inl (f 0))), ((a 5), .inl (cI, 21, .inl (f 1))), ((a 6), .inl (cI, 21, .inl (f 2))), ((a 7), .inl (cI, 21, .inl (f 3))), ((a 8), .inl (cI, 4, .inl ft)), ((a 9), .inl (cI, 4, .inl fc)), ((a 10), .inl (cI, 4, .inl (f 4)))]) → va_S A s.heap H locs → lv_has ls 3 [(0, .ref (a 0)), (1, .int (nI k))] → W p l e (headSpec wsX3_go ({ frames := 6, cells := 1, slots := 6, locals := 82 })).room s m ([.ref (a 0), .int (nI k)] : List Value).toArray below meth c H locs 0 0 Q (F0 m 69 ls [])) → ∀ (n i : Nat) (ft : Nat → Int32) (fc : Nat → Int32), i ≤ k → k < i + n → ∀ (H : Heap) (locs : List Loc) (ls : Array Slot), va_P (dC, dI) vwCl ([((a 0), .inr (7, [.ref (a 1), .ref (a 2), .ref (a 3), .int 0, .int (nI i), .int 0, .int 0, .int 0, .int 0, .int 0])), ((a 1), .inr (6, [.ref (a 4), .ref (a 5), .ref (a 6), .ref (a 7)])), ((a 2), .inr (4, [.ref (a 8), .ref (a 9), .ref (a 10)])), ((a 3), .inl (cS, 3, .inr (.inr (.inr (.inr (fun _ => none)))))), ((a 4), .inl (cI, 21, .inl (f 0))), ((a 5), .inl (cI, 21, .inl (f 1))), ((a 6), .inl (cI, 21, .inl (f 2))), ((a 7), .inl (cI, 21, .inl (f 3))), ((a 8), .inl (cI, 4, .inl ft)), ((a 9), .inl (cI, 4, .inl fc)), ((a 10), .inl (cI, 4, .inl (f 4)))]) H → va_D A ([((a 0), .inr (7, [.ref (a 1), .ref (a 2), .ref (a 3), .int 0, .int (nI i), .int 0, .int 0, .int 0, .int 0, .int 0])), ((a 1), .inr (6, [.ref (a 4), .ref (a 5), .ref (a 6), .ref (a 7)])), ((a 2), .inr (4, [.ref (a 8), .ref (a 9), .ref (a 10)])), ((a 3), .inl (cS, 3, .inr (.inr (.inr (.inr (fun _ => none)))))), ((a 4), .inl (cI, 21, .inl (f 0))), ((a 5), .inl (cI, 21, .inl (f 1))), ((a 6), .inl (cI, 21, .inl (f 2))), ((a 7), .inl (cI, 21, .inl (f 3))), ((a 8), .inl (cI, 4, .inl ft)), ((a 9), .inl (cI, 4, .inl fc)), ((a 10), .inl (cI, 4, .inl (f 4)))]) → va_S A s.heap H locs → lv_has ls 3 [(2, .int (nI i)), (0, .ref (a 0)), (1, .int (nI k))] → W p l e (headSpec wsX3_go ({ frames := 6, cells := 1, slots := 6, locals := 82 })).room s m ([.ref (a 0), .int (nI k)] : List Value).toArray below meth c H locs 0 0 Q (F0 m 44 ls []) := by
        intro Q hk n
        induction n with
        | zero => intro i ft fc h1 h2; omega
        | succ n ih =>
          intro i ft fc hi hin H locs ls hP hD hS hl
          refine lv_iload_n hx hb dX3_go_44 rfl (lv_at hl 0 rfl) ?_
          refine lv_iload_n hx hb dX3_go_45 rfl (lv_at hl 2 rfl) ?_
          refine lv_icmp_ge (tgt := 69) hx hb dX3_go_46 (by decide) (fun c9 => ?_) (fun c9 => ?_)
          · skip
            have hi4 : i = k := by
              have := (nI_leI (a := k) (b := i) (by omega) (by omega)).mp c9
              omega
            subst hi4
            exact hk ft fc H locs ls hP hD hS (lv_sub hl [1, 2] rfl)
          · skip
            have hlt : i < k := by
              rcases Nat.lt_or_ge i k with q | q
              · exact q
              · exact absurd ((nI_leI (a := k) (b := i) (by omega) (by omega)).mpr q) c9
            refine lv_aload_n hx hb dX3_go_49 rfl (lv_at hl 1 rfl) ?_
            have hFc := va_free (wc := [((a 0), .inr (7, [.ref (a 1), .ref (a 2), .ref (a 3), .int 0, .int (nI i), .int 0, .int 0, .int 0, .int 0, .int 0])), ((a 1), .inr (6, [.ref (a 4), .ref (a 5), .ref (a 6), .ref (a 7)])), ((a 2), .inr (4, [.ref (a 8), .ref (a 9), .ref (a 10)])), ((a 4), .inl (cI, 21, .inl (f 0))), ((a 5), .inl (cI, 21, .inl (f 1))), ((a 8), .inl (cI, 4, .inl ft)), ((a 9), .inl (cI, 4, .inl fc))]) hD hS hA [0, 1, 2, 4, 5, 8, 9] rfl
            refine va_callv (va_runV (As := []) (rest := []) ⟨hx, hb, hml, hown, hts⟩ (k_passHour l dC dI _ a cI f hF ft fc i (by omega)) (cwV 0 hts gX3_go_X3_passHour rfl rfl rfl (by decide +kernel) ⟨Nat.le_of_ble_eq_true rfl, Nat.le_of_ble_eq_true rfl⟩) ⟨fb_PN, va_recv hK hP (ci := 7) (q0 := 0) rfl rfl, fun U hU hW => ⟨rfl, PN.give hP hK hD hN [0, 1, 2, 4, 5, 8, 9] [0] rfl rfl rfl rfl hU hW⟩⟩ rfl rfl hl.1 rfl (lv_room (Nat.le_of_ble_eq_true rfl)) dX3_go_50 ⟨(Nat.le_of_ble_eq_true rfl), (Nat.le_of_ble_eq_true rfl)⟩) hS (fun q _ h => hFc q h) hFc (fun u t H locs ht hvm hw11 hB hz1 hk1 hS => ?_)
            obtain ⟨ft12, fc13⟩ := u
            obtain ⟨hP, hD, hK⟩ := aft [0, 1, 2, 4, 5, 8, 9] [3, 6, 7, 10] hP hK hD rfl (wr := [((a 3), .inl (cS, 3, .inr (.inr (.inr (.inr (fun _ => none)))))), ((a 6), .inl (cI, 21, .inl (f 2))), ((a 7), .inl (cI, 21, .inl (f 3))), ((a 10), .inl (cI, 4, .inl (f 4)))]) rfl rfl (by decide) hFc hB ht hvm hk1
            have hP : va_P (dC, dI) vwCl ([((a 3), .inl (cS, 3, .inr (.inr (.inr (.inr (fun _ => none)))))), ((a 6), .inl (cI, 21, .inl (f 2))), ((a 7), .inl (cI, 21, .inl (f 3))), ((a 10), .inl (cI, 4, .inl (f 4))), ((a 0), .inr (7, [.ref (a 1), .ref (a 2), .ref (a 3), .int 0, .int (nI i), .int 0, .int 0, .int 0, .int 0, .int 0])), ((a 1), .inr (6, [.ref (a 4), .ref (a 5), .ref (a 6), .ref (a 7)])), ((a 2), .inr (4, [.ref (a 8), .ref (a 9), .ref (a 10)])), ((a 4), .inl (cI, 21, .inl (f 0))), ((a 5), .inl (cI, 21, .inl (f 1))), ((a 8), .inl (cI, 4, .inl ft12)), ((a 9), .inl (cI, 4, .inl fc13))]) H := hP
            have hD : va_D A ([((a 3), .inl (cS, 3, .inr (.inr (.inr (.inr (fun _ => none)))))), ((a 6), .inl (cI, 21, .inl (f 2))), ((a 7), .inl (cI, 21, .inl (f 3))), ((a 10), .inl (cI, 4, .inl (f 4))), ((a 0), .inr (7, [.ref (a 1), .ref (a 2), .ref (a 3), .int 0, .int (nI i), .int 0, .int 0, .int 0, .int 0, .int 0])), ((a 1), .inr (6, [.ref (a 4), .ref (a 5), .ref (a 6), .ref (a 7)])), ((a 2), .inr (4, [.ref (a 8), .ref (a 9), .ref (a 10)])), ((a 4), .inl (cI, 21, .inl (f 0))), ((a 5), .inl (cI, 21, .inl (f 1))), ((a 8), .inl (cI, 4, .inl ft12)), ((a 9), .inl (cI, 4, .inl fc13))]) := hD
            have hK : va_K (dC, dI) vwCl [(cI, .int), (cS, .object "Snowpalace$Site")] s := hK.sub [0, 1] rfl
            refine lv_aload_n hx hb dX3_go_53 rfl (lv_at hl 1 rfl) ?_
            refine lv_dup hx hb dX3_go_54 rfl ?_
            refine va_get (D := (dC, dI)) (ci := 7) (v := .int (nI i)) (C := RX3) (T := TX3) (N := 10) hx hb hts (by decide +kernel) hown hK hP 4 rfl rfl 4 (by decide) (hts (.fieldLink RX3 33 "Snowpalace" "clock" "I") (by decide +kernel)) (fun _ h9 => h9) rfl dX3_go_55 ?_
            refine lv_iconst (v := 1) hx hb dX3_go_58 (by decide) ?_
            refine lv_iadd hx hb dX3_go_59 ?_
            refine lv_topi (fun v14 e15 => ?_)
            obtain rfl : v14 = (nI (i + 1) : Int32) := e15.trans (nI_1 i)
            refine va_put (D := (dC, dI)) (ci := 7) (v := .int (nI (i + 1))) (ty := .int) (C := RX3) (T := TX3) (N := 10) hx hb hts (by decide +kernel) tyX3 tyX3_ok nmX3 hown hK hP hD hS 4 rfl rfl 4 (by decide) (hts (.fieldLink RX3 33 "Snowpalace" "clock" "I") (by decide +kernel)) (fun _ h9 => h9) rfl (by decide +kernel) rfl rfl (Nat.le_of_ble_eq_true rfl) dX3_go_60 (fun H locs hP hD hS => ?_)
            have hP : va_P (dC, dI) vwCl ([((a 3), .inl (cS, 3, .inr (.inr (.inr (.inr (fun _ => none)))))), ((a 6), .inl (cI, 21, .inl (f 2))), ((a 7), .inl (cI, 21, .inl (f 3))), ((a 10), .inl (cI, 4, .inl (f 4))), ((a 0), .inr (7, [.ref (a 1), .ref (a 2), .ref (a 3), .int 0, .int (nI (i + 1)), .int 0, .int 0, .int 0, .int 0, .int 0])), ((a 1), .inr (6, [.ref (a 4), .ref (a 5), .ref (a 6), .ref (a 7)])), ((a 2), .inr (4, [.ref (a 8), .ref (a 9), .ref (a 10)])), ((a 4), .inl (cI, 21, .inl (f 0))), ((a 5), .inl (cI, 21, .inl (f 1))), ((a 8), .inl (cI, 4, .inl ft12)), ((a 9), .inl (cI, 4, .inl fc13))]) H := hP
            have hD : va_D A ([((a 3), .inl (cS, 3, .inr (.inr (.inr (.inr (fun _ => none)))))), ((a 6), .inl (cI, 21, .inl (f 2))), ((a 7), .inl (cI, 21, .inl (f 3))), ((a 10), .inl (cI, 4, .inl (f 4))), ((a 0), .inr (7, [.ref (a 1), .ref (a 2), .ref (a 3), .int 0, .int (nI (i + 1)), .int 0, .int 0, .int 0, .int 0, .int 0])), ((a 1), .inr (6, [.ref (a 4), .ref (a 5), .ref (a 6), .ref (a 7)])), ((a 2), .inr (4, [.ref (a 8), .ref (a 9), .ref (a 10)])), ((a 4), .inl (cI, 21, .inl (f 0))), ((a 5), .inl (cI, 21, .inl (f 1))), ((a 8), .inl (cI, 4, .inl ft12)), ((a 9), .inl (cI, 4, .inl fc13))]) := hD
            refine lv_iinc (v := (nI (i + 1))) (lv' := [(2, .int (nI (i + 1))), (0, .ref (a 0)), (1, .int (nI k))]) hx hb dX3_go_63 hl (k := 0) rfl (nI_1 i) (by decide) rfl (fun ls hl => ?_)
            refine lv_goto (tgt := 44) hx hb dX3_go_66 (by decide) ?_
            exact ih (i + 1) ft12 fc13 hlt (by omega) H locs ls (hP.sub [4, 5, 6, 0, 7, 8, 1, 2, 9, 10, 3] rfl) (hD.sub [4, 5, 6, 0, 7, 8, 1, 2, 9, 10, 3] (by decide) rfl) hS (lv_sub hl [0, 1, 2] rfl)
      refine hloop8 _ (fun ft fc H locs ls hP hD hS hl => ?_) (k + 1) 0 (fun _ => 0) (fun _ => 0) (Nat.zero_le _) (by omega) _ _ ls hP hD hS (lv_sub hl [0, 1, 2] rfl)
      have hP : va_P (dC, dI) vwCl ([((a 0), .inr (7, [.ref (a 1), .ref (a 2), .ref (a 3), .int 0, .int (nI k), .int 0, .int 0, .int 0, .int 0, .int 0])), ((a 1), .inr (6, [.ref (a 4), .ref (a 5), .ref (a 6), .ref (a 7)])), ((a 2), .inr (4, [.ref (a 8), .ref (a 9), .ref (a 10)])), ((a 3), .inl (cS, 3, .inr (.inr (.inr (.inr (fun _ => none)))))), ((a 4), .inl (cI, 21, .inl (f 0))), ((a 5), .inl (cI, 21, .inl (f 1))), ((a 6), .inl (cI, 21, .inl (f 2))), ((a 7), .inl (cI, 21, .inl (f 3))), ((a 8), .inl (cI, 4, .inl ft)), ((a 9), .inl (cI, 4, .inl fc)), ((a 10), .inl (cI, 4, .inl (f 4)))]) H := hP
      have hD : va_D A ([((a 0), .inr (7, [.ref (a 1), .ref (a 2), .ref (a 3), .int 0, .int (nI k), .int 0, .int 0, .int 0, .int 0, .int 0])), ((a 1), .inr (6, [.ref (a 4), .ref (a 5), .ref (a 6), .ref (a 7)])), ((a 2), .inr (4, [.ref (a 8), .ref (a 9), .ref (a 10)])), ((a 3), .inl (cS, 3, .inr (.inr (.inr (.inr (fun _ => none)))))), ((a 4), .inl (cI, 21, .inl (f 0))), ((a 5), .inl (cI, 21, .inl (f 1))), ((a 6), .inl (cI, 21, .inl (f 2))), ((a 7), .inl (cI, 21, .inl (f 3))), ((a 8), .inl (cI, 4, .inl ft)), ((a 9), .inl (cI, 4, .inl fc)), ((a 10), .inl (cI, 4, .inl (f 4)))]) := hD
      refine lv_aload_n hx hb dX3_go_69 rfl (lv_at hl 0 rfl) ?_
      refine va_get (D := (dC, dI)) (ci := 7) (v := .int (nI k)) (C := RX3) (T := TX3) (N := 10) hx hb hts (by decide +kernel) hown hK hP 0 rfl rfl 4 (by decide) (hts (.fieldLink RX3 33 "Snowpalace" "clock" "I") (by decide +kernel)) (fun _ h9 => h9) rfl dX3_go_70 ?_
      refine vx_ret ?_
      refine W.widen (k := 1) (n := 6) (Nat.le_of_ble_eq_true rfl) (Nat.le_of_ble_eq_true rfl) ?_
      exact W.iret (v := (nI k)) hx hb hr (fun t ht hW => ⟨⟨(nI k), (), rfl, ⟨by omega, rfl⟩, trivial⟩, hS.F ht⟩) hS.2.2 dX3_go_73
    · skip
      exact (c7 (by rw [e6]; exact go504 (by omega))).elim
  · skip
    have g16 : ¬ ((1 : Int) ≤ p0.toInt ∧ p0.toInt ≤ (48 : Int)) := bI_f hw2 c3
    have zg16 : r1 = 0 := bI_f0 hw2 g16
    obtain ⟨sa, hsa⟩ := hT.2.1 (90, "the hours are out of range") (by decide +kernel)
    exact vx_throwS (A := A) (own := RX3) (cls := "java/lang/IllegalArgumentException") (text := "the hours are out of range") (names := exN) hx hb hlt hown (by decide +kernel) (by decide +kernel) (hts (.classLink RX3 56 "java/lang/IllegalArgumentException") (by decide +kernel)) (hts (.initialized "java/lang/IllegalArgumentException") (by decide +kernel)) hsa (th_hat hT (fun w h => hts w (List.mem_cons_of_mem _ (List.mem_append_left _ (List.mem_append_left _ (List.mem_append_left _ (List.mem_append_right _ h)))))) th_i1) (th_good th_i1) hT.2.2.2.1 hT.2.2.2.2 hS (hl.1.trans hml.symm) dX3_go_10 dX3_go_13 dX3_go_14 dX3_go_16 dX3_go_19 (fun x h => (hnt x h).elim) (by decide) (Nat.le_of_ble_eq_true rfl) (Nat.le_of_ble_eq_true rfl) (Nat.le_of_ble_eq_true rfl) hlocks (fun t ha h1 h2 => ⟨_, ⟨rfl, (by omega)⟩, rfl, th_F hS h1 h2⟩) hS.2.2 (Nat.le_of_ble_eq_true rfl) (Nat.le_of_ble_eq_true rfl)

