set_option maxHeartbeats 4000000 in
set_option maxRecDepth 100000 in
theorem m_freezes (l : Launch) (dC : Nat → ClassId) (dI : Nat → Nat → Nat) (sz : Nat) (b : Nat → Nat) (cI : ClassId) (th hh : Int32) (fi0 fc0 : Nat → Int32) (wv : Int32) (hv : ((-150 : Int) ≤ wv.toInt ∧ wv.toInt ≤ -50)) (h0 : ∀ j, j < 4 → (0 : Int) ≤ (fi0 j).toInt ∧ (fi0 j).toInt ≤ 2000) : Met l yX6_freezes wsX6_freezes ({ frames := 1, cells := 0, slots := 0, locals := 13 }) (va_Pc [.ref (b 0), .int wv] (PW dC dI ([((b 0), .inr (10, [.int th, .ref (b 1), .int hh, .int 0, .ref (b 2), .ref (b 3), .ref (b 4), .ref (b 5), .int 0, .int 0, .ref (b 6)])), ((b 2), .inl (cI, 4, .inl fi0)), ((b 3), .inl (cI, 4, .inl fc0))]) [(cI, .int)] sz)) (va_Qv (fun (u : (Nat → Int32) × (Nat → Int32)) => ∀ j, j < 4 → (0 : Int) ≤ (u.1 j).toInt ∧ (u.1 j).toInt ≤ 2000) (fun (u : (Nat → Int32) × (Nat → Int32)) t => BW dC dI (va_A ([((b 0), .inr (10, [.int th, .ref (b 1), .int hh, .int 0, .ref (b 2), .ref (b 3), .ref (b 4), .ref (b 5), .int 0, .int 0, .ref (b 6)])), ((b 2), .inl (cI, 4, .inl fi0)), ((b 3), .inl (cI, 4, .inl fc0))]) sz) [((b 0), .inr (10, [.int th, .ref (b 1), .int hh, .int 0, .ref (b 2), .ref (b 3), .ref (b 4), .ref (b 5), .int 0, .int 0, .ref (b 6)])), ((b 2), .inl (cI, 4, .inl u.1)), ((b 3), .inl (cI, 4, .inl u.2))] [] t) (va_A ([((b 0), .inr (10, [.int th, .ref (b 1), .int hh, .int 0, .ref (b 2), .ref (b 3), .ref (b 4), .ref (b 5), .int 0, .int 0, .ref (b 6)])), ((b 2), .inl (cI, 4, .inl fi0)), ((b 3), .inl (cI, 4, .inl fc0))]) sz)) 0 0 (va_A ([((b 0), .inr (10, [.int th, .ref (b 1), .int hh, .int 0, .ref (b 2), .ref (b 3), .ref (b 4), .ref (b 5), .int 0, .int 0, .ref (b 6)])), ((b 2), .inl (cI, 4, .inl fi0)), ((b 3), .inl (cI, 4, .inl fc0))]) sz) := by
  refine Met.ofW (cc := cX6_freezes) (maxL := 4) (ret := none) (by decide +kernel) rfl ?_
  intro p e s m args below meth c s₁ B hml hv
  obtain ⟨rfl, hsz, hP, hK, hD0⟩ := hv
  have hx := B.exec
  have hb := B.bytes
  have hr := B.returns
  have hts := atoms_spec (ws := wsX6_freezes) B.pre
  have hown : s.vm.findClass RX6 = some m.cls := findClass_of_methodNamed B.named
  have hlocks := B.notSynchronized
  subst hsz
  have hD := hD0.self (sz := s.heap.size)
  generalize hAe : va_A ([((b 0), .inr (10, [.int th, .ref (b 1), .int hh, .int 0, .ref (b 2), .ref (b 3), .ref (b 4), .ref (b 5), .int 0, .int 0, .ref (b 6)])), ((b 2), .inl (cI, 4, .inl fi0)), ((b 3), .inl (cI, 4, .inl fc0))]) s.heap.size = A at hD ⊢
  have hA : ∀ q : Nat, s.heap.size ≤ q → A q := fun q h => by rw [← hAe]; exact Or.inr h
  have hS : va_S A s.heap s.heap [] := va_S.rf
  have hl := lv_entry ([.ref (b 0), .int wv]) (n := 4) (Nat.le_of_ble_eq_true rfl)
  rw [lg_entry_eq]
  generalize (lg_sl ([.ref (b 0), .int wv]) ++ List.replicate (4 - (lg_sl ([.ref (b 0), .int wv])).length) Slot.unset).toArray = ls at hl ⊢
  have hl : lv_has ls 4 [(0, .ref (b 0)), (1, .int wv)] := hl
  refine lv_iconst (v := 0) hx hb dX6_freezes_0 (by decide) ?_
  refine lv_istore_n (lv' := [(2, .int 0), (0, .ref (b 0)), (1, .int wv)]) hx hb dX6_freezes_1 rfl hl (by decide) rfl (fun ls hl => ?_)
  have hloop1 : ∀ (Q : State → Prop), (∀ (fi : Nat → Int32) (fc : Nat → Int32) (H : Heap) (locs : List Loc) (ls : Array Slot), (∀ j, j < 4 → (0 : Int) ≤ (fi j).toInt ∧ (fi j).toInt ≤ 2000) → va_P (dC, dI) vwCl ([((b 0), .inr (10, [.int th, .ref (b 1), .int hh, .int 0, .ref (b 2), .ref (b 3), .ref (b 4), .ref (b 5), .int 0, .int 0, .ref (b 6)])), ((b 2), .inl (cI, 4, .inl fi)), ((b 3), .inl (cI, 4, .inl fc))]) H → va_D A ([((b 0), .inr (10, [.int th, .ref (b 1), .int hh, .int 0, .ref (b 2), .ref (b 3), .ref (b 4), .ref (b 5), .int 0, .int 0, .ref (b 6)])), ((b 2), .inl (cI, 4, .inl fi)), ((b 3), .inl (cI, 4, .inl fc))]) → va_S A s.heap H locs → lv_has ls 4 [(0, .ref (b 0)), (1, .int wv)] → W p l e (headSpec wsX6_freezes ({ frames := 1, cells := 0, slots := 0, locals := 13 })).room s m ([.ref (b 0), .int wv] : List Value).toArray below meth c H locs 0 0 Q (F0 m 125 ls [])) → ∀ (n i : Nat) (fi : Nat → Int32) (fc : Nat → Int32), i ≤ 4 → 4 < i + n → ∀ (H : Heap) (locs : List Loc) (ls : Array Slot), (∀ j, j < 4 → (0 : Int) ≤ (fi j).toInt ∧ (fi j).toInt ≤ 2000) → va_P (dC, dI) vwCl ([((b 0), .inr (10, [.int th, .ref (b 1), .int hh, .int 0, .ref (b 2), .ref (b 3), .ref (b 4), .ref (b 5), .int 0, .int 0, .ref (b 6)])), ((b 2), .inl (cI, 4, .inl fi)), ((b 3), .inl (cI, 4, .inl fc))]) H → va_D A ([((b 0), .inr (10, [.int th, .ref (b 1), .int hh, .int 0, .ref (b 2), .ref (b 3), .ref (b 4), .ref (b 5), .int 0, .int 0, .ref (b 6)])), ((b 2), .inl (cI, 4, .inl fi)), ((b 3), .inl (cI, 4, .inl fc))]) → va_S A s.heap H locs → lv_has ls 4 [(2, .int (nI i)), (0, .ref (b 0)), (1, .int wv)] → W p l e (headSpec wsX6_freezes ({ frames := 1, cells := 0, slots := 0, locals := 13 })).room s m ([.ref (b 0), .int wv] : List Value).toArray below meth c H locs 0 0 Q (F0 m 2 ls []) := by
    intro Q hk n
    induction n with
    | zero => intro i fi fc h1 h2; omega
    | succ n ih =>
      intro i fi fc hi hin H locs ls hinv hP hD hS hl
      refine lv_iload_n hx hb dX6_freezes_2 rfl (lv_at hl 0 rfl) ?_
      refine lv_iconst (v := 4) hx hb dX6_freezes_3 (by decide) ?_
      refine lv_icmp_ge (tgt := 125) hx hb dX6_freezes_4 (by decide) (fun c2 => ?_) (fun c2 => ?_)
      · skip
        have hi4 : i = 4 := by
          have := (nI_leI (a := 4) (b := i) (by omega) (by omega)).mp c2
          omega
        subst hi4
        exact hk fi fc H locs ls hinv hP hD hS (lv_sub hl [1, 2] rfl)
      · skip
        have hlt : i < 4 := by
          rcases Nat.lt_or_ge i 4 with q | q
          · exact q
          · exact absurd ((nI_leI (a := 4) (b := i) (by omega) (by omega)).mpr q) c2
        refine lv_iload_n hx hb dX6_freezes_7 rfl (lv_at hl 2 rfl) ?_
        refine lv_if_ge (tgt := 73) hx hb dX6_freezes_8 (by decide) (fun c3 => ?_) (fun c3 => ?_)
        · skip
          first | exact absurd (fr_lt hv) c3 | exact absurd c3 (fr_nge hv)
        · skip
          refine lv_sipush (v := 2000) hx hb dX6_freezes_11 (by decide) ?_
          refine lv_aload_n hx hb dX6_freezes_14 rfl (lv_at hl 1 rfl) ?_
          refine va_get (D := (dC, dI)) (ci := 10) (v := .ref (b 2)) (C := RX6) (T := TX6) (N := 11) hx hb hts (by decide +kernel) hown hK hP 0 rfl rfl 4 (by decide) (hts (.fieldLink RX6 19 "SnowpalaceModel" "ice" "[I") (by decide +kernel)) (fun _ h9 => h9) rfl dX6_freezes_15 ?_
          refine lv_iload_n hx hb dX6_freezes_18 rfl (lv_at hl 0 rfl) ?_
          refine va_iald (D := (dC, dI)) hx hb hK hP 1 0 rfl rfl (vp_in_nI hlt (by decide)) dX6_freezes_19 ?_
          refine lv_topi (fun v4 e5 => ?_)
          refine lv_isub hx hb dX6_freezes_20 ?_
          refine lv_topi (fun v6 e7 => ?_)
          refine lv_iload_n hx hb dX6_freezes_21 rfl (lv_at hl 2 rfl) ?_
          refine lv_ineg hx hb dX6_freezes_22 ?_
          refine lv_topi (fun v8 e9 => ?_)
          refine lv_bipush (v := 10) hx hb dX6_freezes_23 (by decide) ?_
          refine lv_aload_n hx hb dX6_freezes_25 rfl (lv_at hl 1 rfl) ?_
          refine va_get (D := (dC, dI)) (ci := 10) (v := .ref (b 2)) (C := RX6) (T := TX6) (N := 11) hx hb hts (by decide +kernel) hown hK hP 0 rfl rfl 4 (by decide) (hts (.fieldLink RX6 19 "SnowpalaceModel" "ice" "[I") (by decide +kernel)) (fun _ h9 => h9) rfl dX6_freezes_26 ?_
          refine lv_iload_n hx hb dX6_freezes_29 rfl (lv_at hl 0 rfl) ?_
          refine va_iald (D := (dC, dI)) hx hb hK hP 1 0 rfl rfl (vp_in_nI hlt (by decide)) dX6_freezes_30 ?_
          refine lv_topi (fun v10 e11 => ?_)
          refine lv_bipush (v := 20) hx hb dX6_freezes_31 (by decide) ?_
          refine lv_idiv hx hb dX6_freezes_33 (by decide) ?_
          refine lv_topi (fun v12 e13 => ?_)
          refine lv_iadd hx hb dX6_freezes_34 ?_
          refine lv_topi (fun v14 e15 => ?_)
          refine lv_idiv hx hb dX6_freezes_35 (by rw [e15, e13, e11]; exact fr_ne (hinv _ (by rw [nI_clamp (by omega)]; omega))) ?_
          refine lv_topi (fun v16 e17 => ?_)
          refine va_mmin hx hb (hml.trans hl.1.symm) hown (hts (.methodLink RX6 76 Lib.Math.min.name) (by decide +kernel)) (hts (.static Lib.Math.min.name) (by decide +kernel)) (hts (.initialized "java/lang/Math") (by decide +kernel)) (hts (.code Lib.Math.min.name Lib.Math.min.code 2 (some .int)) (by decide +kernel)) (Nat.le_of_ble_eq_true rfl) (Nat.le_of_ble_eq_true rfl) (Nat.le_of_ble_eq_true rfl) (Nat.le_of_ble_eq_true rfl) dX6_freezes_36 ?_
          refine lv_topi (fun v18 e19 => ?_)
          refine lv_istore_n (lv' := [(3, .int v18), (2, .int (nI i)), (0, .ref (b 0)), (1, .int wv)]) hx hb dX6_freezes_39 rfl hl (by decide) rfl (fun ls hl => ?_)
          refine lv_aload_n hx hb dX6_freezes_40 rfl (lv_at hl 2 rfl) ?_
          refine va_get (D := (dC, dI)) (ci := 10) (v := .ref (b 2)) (C := RX6) (T := TX6) (N := 11) hx hb hts (by decide +kernel) hown hK hP 0 rfl rfl 4 (by decide) (hts (.fieldLink RX6 19 "SnowpalaceModel" "ice" "[I") (by decide +kernel)) (fun _ h9 => h9) rfl dX6_freezes_41 ?_
          refine lv_iload_n hx hb dX6_freezes_44 rfl (lv_at hl 1 rfl) ?_
          refine lv_dup2_11 hx hb dX6_freezes_45 rfl rfl ?_
          refine va_iald (D := (dC, dI)) hx hb hK hP 1 0 rfl rfl (vp_in_nI hlt (by decide)) dX6_freezes_46 ?_
          refine lv_topi (fun v20 e21 => ?_)
          refine lv_iload_n hx hb dX6_freezes_47 rfl (lv_at hl 0 rfl) ?_
          refine lv_iadd hx hb dX6_freezes_48 ?_
          refine lv_topi (fun v22 e23 => ?_)
          refine va_iast (D := (dC, dI)) hx hb hK hP hD hS 1 0 rfl rfl (vp_in_nI hlt (by decide)) dX6_freezes_49 (fun H locs hP hD hS => ?_)
          obtain ⟨f24, hf24⟩ : ∃ z, z = upd fi ((nI i) : Int32).toNatClampNeg v22 := ⟨_, rfl⟩
          rw [← hf24] at hP hD
          have hP : va_P (dC, dI) vwCl ([((b 0), .inr (10, [.int th, .ref (b 1), .int hh, .int 0, .ref (b 2), .ref (b 3), .ref (b 4), .ref (b 5), .int 0, .int 0, .ref (b 6)])), ((b 2), .inl (cI, 4, .inl f24)), ((b 3), .inl (cI, 4, .inl fc))]) H := hP
          have hD : va_D A ([((b 0), .inr (10, [.int th, .ref (b 1), .int hh, .int 0, .ref (b 2), .ref (b 3), .ref (b 4), .ref (b 5), .int 0, .int 0, .ref (b 6)])), ((b 2), .inl (cI, 4, .inl f24)), ((b 3), .inl (cI, 4, .inl fc))]) := hD
          refine lv_aload_n hx hb dX6_freezes_50 rfl (lv_at hl 2 rfl) ?_
          refine va_get (D := (dC, dI)) (ci := 10) (v := .ref (b 3)) (C := RX6) (T := TX6) (N := 11) hx hb hts (by decide +kernel) hown hK hP 0 rfl rfl 5 (by decide) (hts (.fieldLink RX6 22 "SnowpalaceModel" "clear" "[I") (by decide +kernel)) (fun _ h9 => h9) rfl dX6_freezes_51 ?_
          refine lv_iload_n hx hb dX6_freezes_54 rfl (lv_at hl 1 rfl) ?_
          refine lv_dup2_11 hx hb dX6_freezes_55 rfl rfl ?_
          refine va_iald (D := (dC, dI)) hx hb hK hP 2 0 rfl rfl (vp_in_nI hlt (by decide)) dX6_freezes_56 ?_
          refine lv_topi (fun v25 e26 => ?_)
          refine lv_iload_n hx hb dX6_freezes_57 rfl (lv_at hl 3 rfl) ?_
          refine lv_bipush (v := (-100)) hx hb dX6_freezes_58 (by decide) ?_
          refine lv_icmp_gt (tgt := 67) hx hb dX6_freezes_60 (by decide) (fun c27 => ?_) (fun c27 => ?_)
          · skip
            refine lv_iconst (v := 0) hx hb dX6_freezes_67 (by decide) ?_
            refine lv_iadd hx hb dX6_freezes_68 ?_
            refine lv_topi (fun v28 e29 => ?_)
            refine va_iast (D := (dC, dI)) hx hb hK hP hD hS 2 0 rfl rfl (vp_in_nI hlt (by decide)) dX6_freezes_69 (fun H locs hP hD hS => ?_)
            obtain ⟨f30, hf30⟩ : ∃ z, z = upd fc ((nI i) : Int32).toNatClampNeg v28 := ⟨_, rfl⟩
            rw [← hf30] at hP hD
            have hP : va_P (dC, dI) vwCl ([((b 0), .inr (10, [.int th, .ref (b 1), .int hh, .int 0, .ref (b 2), .ref (b 3), .ref (b 4), .ref (b 5), .int 0, .int 0, .ref (b 6)])), ((b 2), .inl (cI, 4, .inl f24)), ((b 3), .inl (cI, 4, .inl f30))]) H := hP
            have hD : va_D A ([((b 0), .inr (10, [.int th, .ref (b 1), .int hh, .int 0, .ref (b 2), .ref (b 3), .ref (b 4), .ref (b 5), .int 0, .int 0, .ref (b 6)])), ((b 2), .inl (cI, 4, .inl f24)), ((b 3), .inl (cI, 4, .inl f30))]) := hD
            refine lv_goto (tgt := 119) hx hb dX6_freezes_70 (by decide) ?_
            refine lv_iinc (v := (nI (i + 1))) (lv' := [(2, .int (nI (i + 1))), (3, .int v18), (0, .ref (b 0)), (1, .int wv)]) hx hb dX6_freezes_119 hl (k := 1) rfl (nI_1 i) (by decide) rfl (fun ls hl => ?_)
            refine lv_goto (tgt := 2) hx hb dX6_freezes_122 (by decide) ?_
            exact ih (i + 1) f24 f30 hlt (by omega) H locs ls (fr_step hinv hf24 (by rw [e23, e21, e19, e17, e9, e15, e13, e11, e7, e5]; exact fr_inv (hinv _ (by rw [nI_clamp (by omega)]; omega)) hv)) hP hD hS (lv_sub hl [0, 2, 3] rfl)
          · skip
            refine lv_iload_n hx hb dX6_freezes_63 rfl (lv_at hl 0 rfl) ?_
            refine lv_goto (tgt := 68) hx hb dX6_freezes_64 (by decide) ?_
            refine lv_iadd hx hb dX6_freezes_68 ?_
            refine lv_topi (fun v31 e32 => ?_)
            refine va_iast (D := (dC, dI)) hx hb hK hP hD hS 2 0 rfl rfl (vp_in_nI hlt (by decide)) dX6_freezes_69 (fun H locs hP hD hS => ?_)
            obtain ⟨f33, hf33⟩ : ∃ z, z = upd fc ((nI i) : Int32).toNatClampNeg v31 := ⟨_, rfl⟩
            rw [← hf33] at hP hD
            have hP : va_P (dC, dI) vwCl ([((b 0), .inr (10, [.int th, .ref (b 1), .int hh, .int 0, .ref (b 2), .ref (b 3), .ref (b 4), .ref (b 5), .int 0, .int 0, .ref (b 6)])), ((b 2), .inl (cI, 4, .inl f24)), ((b 3), .inl (cI, 4, .inl f33))]) H := hP
            have hD : va_D A ([((b 0), .inr (10, [.int th, .ref (b 1), .int hh, .int 0, .ref (b 2), .ref (b 3), .ref (b 4), .ref (b 5), .int 0, .int 0, .ref (b 6)])), ((b 2), .inl (cI, 4, .inl f24)), ((b 3), .inl (cI, 4, .inl f33))]) := hD
            refine lv_goto (tgt := 119) hx hb dX6_freezes_70 (by decide) ?_
            refine lv_iinc (v := (nI (i + 1))) (lv' := [(2, .int (nI (i + 1))), (3, .int v18), (0, .ref (b 0)), (1, .int wv)]) hx hb dX6_freezes_119 hl (k := 1) rfl (nI_1 i) (by decide) rfl (fun ls hl => ?_)
            refine lv_goto (tgt := 2) hx hb dX6_freezes_122 (by decide) ?_
            exact ih (i + 1) f24 f33 hlt (by omega) H locs ls (fr_step hinv hf24 (by rw [e23, e21, e19, e17, e9, e15, e13, e11, e7, e5]; exact fr_inv (hinv _ (by rw [nI_clamp (by omega)]; omega)) hv)) hP hD hS (lv_sub hl [0, 2, 3] rfl)
  refine hloop1 _ (fun fi fc H locs ls hinv hP hD hS hl => ?_) (4 + 1) 0 fi0 fc0 (Nat.zero_le _) (by omega) _ _ ls (h0) hP hD hS (lv_sub hl [0, 1, 2] rfl)
  have hP : va_P (dC, dI) vwCl ([((b 0), .inr (10, [.int th, .ref (b 1), .int hh, .int 0, .ref (b 2), .ref (b 3), .ref (b 4), .ref (b 5), .int 0, .int 0, .ref (b 6)])), ((b 2), .inl (cI, 4, .inl fi)), ((b 3), .inl (cI, 4, .inl fc))]) H := hP
  have hD : va_D A ([((b 0), .inr (10, [.int th, .ref (b 1), .int hh, .int 0, .ref (b 2), .ref (b 3), .ref (b 4), .ref (b 5), .int 0, .int 0, .ref (b 6)])), ((b 2), .inl (cI, 4, .inl fi)), ((b 3), .inl (cI, 4, .inl fc))]) := hD
  refine lv_aload_n hx hb dX6_freezes_125 rfl (lv_at hl 0 rfl) ?_
  refine va_get (D := (dC, dI)) (ci := 10) (v := .int 0) (C := RX6) (T := TX6) (N := 11) hx hb hts (by decide +kernel) hown hK hP 0 rfl rfl 9 (by decide) (hts (.fieldLink RX6 85 "SnowpalaceModel" "isOn" "Z") (by decide +kernel)) (fun _ h9 => h9) rfl dX6_freezes_126 ?_
  refine lv_if_eq (tgt := 161) hx hb dX6_freezes_129 (by decide) (fun _ => ?_) (fun cx => by first | exact absurd (by decide) cx | exact absurd cx (by decide))
  refine W.widen (k := 0) (n := 0) (Nat.le_of_ble_eq_true rfl) (Nat.le_of_ble_eq_true rfl) ?_
  exact W.vret hx hb hr (fun t ht hW => ⟨⟨(fi, fc), rfl, hinv, BW.end hP hK hD [0, 1, 2] [] rfl rfl rfl rfl ht hW⟩, hS.F ht⟩) hS.2.2 dX6_freezes_161

