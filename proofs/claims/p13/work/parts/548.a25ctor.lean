set_option maxHeartbeats 4000000 in
set_option maxRecDepth 100000 in
theorem c_River (l : Launch) (dC : Nat → ClassId) (dI : Nat → Nat → Nat) (sz : Nat) (cI : ClassId) (h0 : Nat)   : Met l yX0_init wsX0_init ({ frames := 1, cells := 3, slots := 12, locals := 12 }) (va_Pc [.ref h0] (PW dC dI ([(h0, .inr (4, [.null, .null, .null]))]) [(cI, .int)] sz)) (va_Qv (fun (u : Nat × Nat × Nat × (Nat → Int32)) => ∀ j, j < 4 → u.2.2.2 j = 40) (fun (u : Nat × Nat × Nat × (Nat → Int32)) t => BW dC dI (va_A ([(h0, .inr (4, [.null, .null, .null]))]) sz) [(h0, .inr (4, [.ref u.1, .ref u.2.1, .ref u.2.2.1])), (u.1, .inl (cI, 4, .inl (fun _ => 0))), (u.2.1, .inl (cI, 4, .inl (fun _ => 0))), (u.2.2.1, .inl (cI, 4, .inl u.2.2.2))] [(cI, .int)] t) (va_A ([(h0, .inr (4, [.null, .null, .null]))]) sz)) 3 12 (va_A ([(h0, .inr (4, [.null, .null, .null]))]) sz) := by
  refine Met.ofW (cc := cX0_init) (maxL := 2) (ret := none) (by decide +kernel) rfl ?_
  intro p e s m args below meth c s₁ B hml hv
  obtain ⟨rfl, hsz, hP, hK, hD0⟩ := hv
  have hx := B.exec
  have hb := B.bytes
  have hr := B.returns
  have hts := atoms_spec (ws := wsX0_init) B.pre
  have hown : s.vm.findClass RX0 = some m.cls := findClass_of_methodNamed B.named
  have hlocks := B.notSynchronized
  have hin : meth.name = "<init>" := (name_of_methodNamed B.named B.method).1
  subst hsz
  have hD := hD0.self (sz := s.heap.size)
  generalize hAe : va_A ([(h0, .inr (4, [.null, .null, .null]))]) s.heap.size = A at hD ⊢
  have hA : ∀ q : Nat, s.heap.size ≤ q → A q := fun q h => by rw [← hAe]; exact Or.inr h
  have hS : va_S A s.heap s.heap [] := va_S.rf
  have hl := lv_entry ([.ref h0]) (n := 2) (Nat.le_of_ble_eq_true rfl)
  rw [lg_entry_eq]
  generalize (lg_sl ([.ref h0]) ++ List.replicate (2 - (lg_sl ([.ref h0])).length) Slot.unset).toArray = ls at hl ⊢
  have hl : lv_has ls 2 [(0, .ref h0)] := hl
  refine lv_aload_n hx hb dX0_init_0 rfl (lv_at hl 0 rfl) ?_
  refine W.objInit hx hb hown (hts (.methodLink RX0 3 objectInit) (by decide +kernel)) (hts (.instanceMethod objectInit) (by decide +kernel)) (hts (.code objectInit ⟨#[0xb1]⟩ 1 none) (by decide +kernel)) rfl (by rw [hml]; exact hl.1) rfl dX0_init_1 (Nat.le_of_ble_eq_true rfl) (Nat.le_of_ble_eq_true rfl) ?_
  refine W.eq (g2 := F0 m 4 ls []) rfl ?_
  refine lv_aload_n hx hb dX0_init_4 rfl (lv_at hl 0 rfl) ?_
  refine lv_iconst (v := 4) hx hb dX0_init_5 (by decide) ?_
  refine va_newa (D := (dC, dI)) (atype := .int) (a0 := (4, .inl (fun _ => 0))) hx hb (hts (.arrayClass .int) (by decide +kernel)) (ty := .int) rfl hK hP hD hS hA (N' := 4) (fun _ => rfl) (by decide) (by decide) (Nat.le_of_ble_eq_true rfl) (Nat.le_of_ble_eq_true rfl) (Nat.le_of_ble_eq_true rfl) dX0_init_6 (fun q1 cA2 H hK hP hD hS => ?_)
  have eq1 : cI = cA2 := K_eq hK 0 1 rfl rfl
  subst eq1
  have hK : va_K (dC, dI) vwCl [(cI, .int)] s := hK.sub [0] rfl
  have hP : va_P (dC, dI) vwCl ([(h0, .inr (4, [.null, .null, .null])), (q1, .inl (cI, 4, .inl (fun _ => 0)))]) H := hP
  have hD : va_D A ([(h0, .inr (4, [.null, .null, .null])), (q1, .inl (cI, 4, .inl (fun _ => 0)))]) := hD
  refine va_putF (D := (dC, dI)) (ci := 4) (v := .ref q1) (ty := (.array .int)) (C := RX0) (T := TX0) (N := 3) hx hb hts (by decide +kernel) tyX0 tyX0_ok nmX0 hown hK hP hD hS 0 rfl rfl 0 (by decide) (hts (.fieldLink RX0 9 "Snowpalace$River" "thickness" "[I") (by decide +kernel)) (fun _ h9 => h9) rfl hin rfl (by decide +kernel) rfl rfl (Nat.le_of_ble_eq_true rfl) dX0_init_8 (fun H locs hP hD hS => ?_)
  have hP : va_P (dC, dI) vwCl ([(h0, .inr (4, [.ref q1, .null, .null])), (q1, .inl (cI, 4, .inl (fun _ => 0)))]) H := hP
  have hD : va_D A ([(h0, .inr (4, [.ref q1, .null, .null])), (q1, .inl (cI, 4, .inl (fun _ => 0)))]) := hD
  refine lv_aload_n hx hb dX0_init_11 rfl (lv_at hl 0 rfl) ?_
  refine lv_iconst (v := 4) hx hb dX0_init_12 (by decide) ?_
  refine va_newa (D := (dC, dI)) (atype := .int) (a0 := (4, .inl (fun _ => 0))) hx hb (hts (.arrayClass .int) (by decide +kernel)) (ty := .int) rfl hK hP hD hS hA (N' := 4) (fun _ => rfl) (by decide) (by decide) (Nat.le_of_ble_eq_true rfl) (Nat.le_of_ble_eq_true rfl) (Nat.le_of_ble_eq_true rfl) dX0_init_13 (fun q3 cA4 H hK hP hD hS => ?_)
  have eq3 : cI = cA4 := K_eq hK 0 1 rfl rfl
  subst eq3
  have hK : va_K (dC, dI) vwCl [(cI, .int)] s := hK.sub [0] rfl
  have hP : va_P (dC, dI) vwCl ([(h0, .inr (4, [.ref q1, .null, .null])), (q1, .inl (cI, 4, .inl (fun _ => 0))), (q3, .inl (cI, 4, .inl (fun _ => 0)))]) H := hP
  have hD : va_D A ([(h0, .inr (4, [.ref q1, .null, .null])), (q1, .inl (cI, 4, .inl (fun _ => 0))), (q3, .inl (cI, 4, .inl (fun _ => 0)))]) := hD
  refine va_putF (D := (dC, dI)) (ci := 4) (v := .ref q3) (ty := (.array .int)) (C := RX0) (T := TX0) (N := 3) hx hb hts (by decide +kernel) tyX0 tyX0_ok nmX0 hown hK hP hD hS 0 rfl rfl 1 (by decide) (hts (.fieldLink RX0 15 "Snowpalace$River" "clearPart" "[I") (by decide +kernel)) (fun _ h9 => h9) rfl hin rfl (by decide +kernel) rfl rfl (Nat.le_of_ble_eq_true rfl) dX0_init_15 (fun H locs hP hD hS => ?_)
  have hP : va_P (dC, dI) vwCl ([(h0, .inr (4, [.ref q1, .ref q3, .null])), (q1, .inl (cI, 4, .inl (fun _ => 0))), (q3, .inl (cI, 4, .inl (fun _ => 0)))]) H := hP
  have hD : va_D A ([(h0, .inr (4, [.ref q1, .ref q3, .null])), (q1, .inl (cI, 4, .inl (fun _ => 0))), (q3, .inl (cI, 4, .inl (fun _ => 0)))]) := hD
  refine lv_aload_n hx hb dX0_init_18 rfl (lv_at hl 0 rfl) ?_
  refine lv_iconst (v := 4) hx hb dX0_init_19 (by decide) ?_
  refine va_newa (D := (dC, dI)) (atype := .int) (a0 := (4, .inl (fun _ => 0))) hx hb (hts (.arrayClass .int) (by decide +kernel)) (ty := .int) rfl hK hP hD hS hA (N' := 4) (fun _ => rfl) (by decide) (by decide) (Nat.le_of_ble_eq_true rfl) (Nat.le_of_ble_eq_true rfl) (Nat.le_of_ble_eq_true rfl) dX0_init_20 (fun q5 cA6 H hK hP hD hS => ?_)
  have eq5 : cI = cA6 := K_eq hK 0 1 rfl rfl
  subst eq5
  have hK : va_K (dC, dI) vwCl [(cI, .int)] s := hK.sub [0] rfl
  have hP : va_P (dC, dI) vwCl ([(h0, .inr (4, [.ref q1, .ref q3, .null])), (q1, .inl (cI, 4, .inl (fun _ => 0))), (q3, .inl (cI, 4, .inl (fun _ => 0))), (q5, .inl (cI, 4, .inl (fun _ => 0)))]) H := hP
  have hD : va_D A ([(h0, .inr (4, [.ref q1, .ref q3, .null])), (q1, .inl (cI, 4, .inl (fun _ => 0))), (q3, .inl (cI, 4, .inl (fun _ => 0))), (q5, .inl (cI, 4, .inl (fun _ => 0)))]) := hD
  refine va_putF (D := (dC, dI)) (ci := 4) (v := .ref q5) (ty := (.array .int)) (C := RX0) (T := TX0) (N := 3) hx hb hts (by decide +kernel) tyX0 tyX0_ok nmX0 hown hK hP hD hS 0 rfl rfl 2 (by decide) (hts (.fieldLink RX0 18 "Snowpalace$River" "places" "[I") (by decide +kernel)) (fun _ h9 => h9) rfl hin rfl (by decide +kernel) rfl rfl (Nat.le_of_ble_eq_true rfl) dX0_init_22 (fun H locs hP hD hS => ?_)
  have hP : va_P (dC, dI) vwCl ([(h0, .inr (4, [.ref q1, .ref q3, .ref q5])), (q1, .inl (cI, 4, .inl (fun _ => 0))), (q3, .inl (cI, 4, .inl (fun _ => 0))), (q5, .inl (cI, 4, .inl (fun _ => 0)))]) H := hP
  have hD : va_D A ([(h0, .inr (4, [.ref q1, .ref q3, .ref q5])), (q1, .inl (cI, 4, .inl (fun _ => 0))), (q3, .inl (cI, 4, .inl (fun _ => 0))), (q5, .inl (cI, 4, .inl (fun _ => 0)))]) := hD
  refine lv_iconst (v := 0) hx hb dX0_init_25 (by decide) ?_
  refine lv_istore_n (lv' := [(1, .int 0), (0, .ref h0)]) hx hb dX0_init_26 rfl hl (by decide) rfl (fun ls hl => ?_)
  have hloop7 : ∀ (Q : State → Prop), (∀ (g0 : Nat → Int32) (H : Heap) (locs : List Loc) (ls : Array Slot), ((∀ j, j < 4 → g0 j = 40)) → va_P (dC, dI) vwCl ([(h0, .inr (4, [.ref q1, .ref q3, .ref q5])), (q1, .inl (cI, 4, .inl (fun _ => 0))), (q3, .inl (cI, 4, .inl (fun _ => 0))), (q5, .inl (cI, 4, .inl g0))]) H → va_D A ([(h0, .inr (4, [.ref q1, .ref q3, .ref q5])), (q1, .inl (cI, 4, .inl (fun _ => 0))), (q3, .inl (cI, 4, .inl (fun _ => 0))), (q5, .inl (cI, 4, .inl g0))]) → va_S A s.heap H locs → lv_has ls 2 [(0, .ref h0)] → W p l e (headSpec wsX0_init ({ frames := 1, cells := 3, slots := 12, locals := 12 })).room s m ([.ref h0] : List Value).toArray below meth c H locs 3 12 Q (F0 m 46 ls [])) → ∀ (n i : Nat) (g0 : Nat → Int32), i ≤ 4 → 4 < i + n → ∀ (H : Heap) (locs : List Loc) (ls : Array Slot), ((∀ j, j < i → g0 j = 40)) → va_P (dC, dI) vwCl ([(h0, .inr (4, [.ref q1, .ref q3, .ref q5])), (q1, .inl (cI, 4, .inl (fun _ => 0))), (q3, .inl (cI, 4, .inl (fun _ => 0))), (q5, .inl (cI, 4, .inl g0))]) H → va_D A ([(h0, .inr (4, [.ref q1, .ref q3, .ref q5])), (q1, .inl (cI, 4, .inl (fun _ => 0))), (q3, .inl (cI, 4, .inl (fun _ => 0))), (q5, .inl (cI, 4, .inl g0))]) → va_S A s.heap H locs → lv_has ls 2 [(1, .int (nI i)), (0, .ref h0)] → W p l e (headSpec wsX0_init ({ frames := 1, cells := 3, slots := 12, locals := 12 })).room s m ([.ref h0] : List Value).toArray below meth c H locs 3 12 Q (F0 m 27 ls []) := by
    intro Q hk n
    induction n with
    | zero => intro i g0 h1 h2; omega
    | succ n ih =>
      intro i g0 hi hin H locs ls hinv hP hD hS hl
      refine lv_iload_n hx hb dX0_init_27 rfl (lv_at hl 0 rfl) ?_
      refine lv_iconst (v := 4) hx hb dX0_init_28 (by decide) ?_
      refine lv_icmp_ge (tgt := 46) hx hb dX0_init_29 (by decide) (fun c8 => ?_) (fun c8 => ?_)
      · skip
        have hi4 : i = 4 := by
          have := (nI_leI (a := 4) (b := i) (by omega) (by omega)).mp c8
          omega
        subst hi4
        exact hk g0 H locs ls hinv hP hD hS (lv_sub hl [1] rfl)
      · skip
        have hlt : i < 4 := by
          rcases Nat.lt_or_ge i 4 with q | q
          · exact q
          · exact absurd ((nI_leI (a := 4) (b := i) (by omega) (by omega)).mpr q) c8
        refine lv_aload_n hx hb dX0_init_32 rfl (lv_at hl 1 rfl) ?_
        refine va_get (D := (dC, dI)) (ci := 4) (v := .ref q5) (C := RX0) (T := TX0) (N := 3) hx hb hts (by decide +kernel) hown hK hP 0 rfl rfl 2 (by decide) (hts (.fieldLink RX0 18 "Snowpalace$River" "places" "[I") (by decide +kernel)) (fun _ h9 => h9) rfl dX0_init_33 ?_
        refine lv_iload_n hx hb dX0_init_36 rfl (lv_at hl 0 rfl) ?_
        refine lv_bipush (v := 40) hx hb dX0_init_37 (by decide) ?_
        refine va_iast (D := (dC, dI)) hx hb hK hP hD hS 3 0 rfl rfl (vp_in_nI hlt (by decide)) dX0_init_39 (fun H locs hP hD hS => ?_)
        obtain ⟨f9, hf9⟩ : ∃ z, z = upd g0 ((nI i) : Int32).toNatClampNeg 40 := ⟨_, rfl⟩
        rw [← hf9] at hP hD
        have hP : va_P (dC, dI) vwCl ([(h0, .inr (4, [.ref q1, .ref q3, .ref q5])), (q1, .inl (cI, 4, .inl (fun _ => 0))), (q3, .inl (cI, 4, .inl (fun _ => 0))), (q5, .inl (cI, 4, .inl f9))]) H := hP
        have hD : va_D A ([(h0, .inr (4, [.ref q1, .ref q3, .ref q5])), (q1, .inl (cI, 4, .inl (fun _ => 0))), (q3, .inl (cI, 4, .inl (fun _ => 0))), (q5, .inl (cI, 4, .inl f9))]) := hD
        refine lv_iinc (v := (nI (i + 1))) (lv' := [(1, .int (nI (i + 1))), (0, .ref h0)]) hx hb dX0_init_40 hl (k := 0) rfl (nI_1 i) (by decide) rfl (fun ls hl => ?_)
        refine lv_goto (tgt := 27) hx hb dX0_init_43 (by decide) ?_
        exact ih (i + 1) f9 hlt (by omega) H locs ls (by rw [hf9]; exact upd_inv (by omega) hinv) hP hD hS (lv_sub hl [0, 1] rfl)
  refine hloop7 _ (fun g0 H locs ls hinv hP hD hS hl => ?_) (4 + 1) 0 (fun _ => 0) (Nat.zero_le _) (by omega) _ _ ls (zero_inv) hP hD hS (lv_sub hl [0, 1] rfl)
  have hP : va_P (dC, dI) vwCl ([(h0, .inr (4, [.ref q1, .ref q3, .ref q5])), (q1, .inl (cI, 4, .inl (fun _ => 0))), (q3, .inl (cI, 4, .inl (fun _ => 0))), (q5, .inl (cI, 4, .inl g0))]) H := hP
  have hD : va_D A ([(h0, .inr (4, [.ref q1, .ref q3, .ref q5])), (q1, .inl (cI, 4, .inl (fun _ => 0))), (q3, .inl (cI, 4, .inl (fun _ => 0))), (q5, .inl (cI, 4, .inl g0))]) := hD
  refine W.widen (k := 3) (n := 12) (Nat.le_of_ble_eq_true rfl) (Nat.le_of_ble_eq_true rfl) ?_
  exact W.vret hx hb hr (fun t ht hW => ⟨⟨(q1, q3, q5, g0), rfl, hinv, BW.end hP hK hD [0, 1, 2, 3] [0] rfl rfl rfl rfl ht hW⟩, hS.F ht⟩) hS.2.2 dX0_init_46

set_option maxHeartbeats 4000000 in
set_option maxRecDepth 100000 in
theorem c_Sky (l : Launch) (dC : Nat → ClassId) (dI : Nat → Nat → Nat) (sz : Nat) (cI : ClassId) (h0 : Nat)   : Met l yX2_init wsX2_init ({ frames := 1, cells := 4, slots := 84, locals := 12 }) (va_Pc [.ref h0] (PW dC dI ([(h0, .inr (6, [.null, .null, .null, .null]))]) [(cI, .int)] sz)) (va_Qv (fun (u : Nat × Nat × Nat × Nat × (Nat → Int32) × (Nat → Int32) × (Nat → Int32) × (Nat → Int32)) => (∀ j, j < 21 → u.2.2.2.2.1 j = -150) ∧ (∀ j, j < 21 → u.2.2.2.2.2.1 j = -50) ∧ (∀ j, j < 21 → u.2.2.2.2.2.2.1 j = 5) ∧ (∀ j, j < 21 → u.2.2.2.2.2.2.2 j = 80)) (fun (u : Nat × Nat × Nat × Nat × (Nat → Int32) × (Nat → Int32) × (Nat → Int32) × (Nat → Int32)) t => BW dC dI (va_A ([(h0, .inr (6, [.null, .null, .null, .null]))]) sz) [(h0, .inr (6, [.ref u.1, .ref u.2.1, .ref u.2.2.1, .ref u.2.2.2.1])), (u.1, .inl (cI, 21, .inl u.2.2.2.2.1)), (u.2.1, .inl (cI, 21, .inl u.2.2.2.2.2.1)), (u.2.2.1, .inl (cI, 21, .inl u.2.2.2.2.2.2.1)), (u.2.2.2.1, .inl (cI, 21, .inl u.2.2.2.2.2.2.2))] [(cI, .int)] t) (va_A ([(h0, .inr (6, [.null, .null, .null, .null]))]) sz)) 4 84 (va_A ([(h0, .inr (6, [.null, .null, .null, .null]))]) sz) := by
  refine Met.ofW (cc := cX2_init) (maxL := 2) (ret := none) (by decide +kernel) rfl ?_
  intro p e s m args below meth c s₁ B hml hv
  obtain ⟨rfl, hsz, hP, hK, hD0⟩ := hv
  have hx := B.exec
  have hb := B.bytes
  have hr := B.returns
  have hts := atoms_spec (ws := wsX2_init) B.pre
  have hown : s.vm.findClass RX2 = some m.cls := findClass_of_methodNamed B.named
  have hlocks := B.notSynchronized
  have hin : meth.name = "<init>" := (name_of_methodNamed B.named B.method).1
  subst hsz
  have hD := hD0.self (sz := s.heap.size)
  generalize hAe : va_A ([(h0, .inr (6, [.null, .null, .null, .null]))]) s.heap.size = A at hD ⊢
  have hA : ∀ q : Nat, s.heap.size ≤ q → A q := fun q h => by rw [← hAe]; exact Or.inr h
  have hS : va_S A s.heap s.heap [] := va_S.rf
  have hl := lv_entry ([.ref h0]) (n := 2) (Nat.le_of_ble_eq_true rfl)
  rw [lg_entry_eq]
  generalize (lg_sl ([.ref h0]) ++ List.replicate (2 - (lg_sl ([.ref h0])).length) Slot.unset).toArray = ls at hl ⊢
  have hl : lv_has ls 2 [(0, .ref h0)] := hl
  refine lv_aload_n hx hb dX2_init_0 rfl (lv_at hl 0 rfl) ?_
  refine W.objInit hx hb hown (hts (.methodLink RX2 3 objectInit) (by decide +kernel)) (hts (.instanceMethod objectInit) (by decide +kernel)) (hts (.code objectInit ⟨#[0xb1]⟩ 1 none) (by decide +kernel)) rfl (by rw [hml]; exact hl.1) rfl dX2_init_1 (Nat.le_of_ble_eq_true rfl) (Nat.le_of_ble_eq_true rfl) ?_
  refine W.eq (g2 := F0 m 4 ls []) rfl ?_
  refine lv_aload_n hx hb dX2_init_4 rfl (lv_at hl 0 rfl) ?_
  refine lv_bipush (v := 21) hx hb dX2_init_5 (by decide) ?_
  refine va_newa (D := (dC, dI)) (atype := .int) (a0 := (21, .inl (fun _ => 0))) hx hb (hts (.arrayClass .int) (by decide +kernel)) (ty := .int) rfl hK hP hD hS hA (N' := 21) (fun _ => rfl) (by decide) (by decide) (Nat.le_of_ble_eq_true rfl) (Nat.le_of_ble_eq_true rfl) (Nat.le_of_ble_eq_true rfl) dX2_init_7 (fun q1 cA2 H hK hP hD hS => ?_)
  have eq1 : cI = cA2 := K_eq hK 0 1 rfl rfl
  subst eq1
  have hK : va_K (dC, dI) vwCl [(cI, .int)] s := hK.sub [0] rfl
  have hP : va_P (dC, dI) vwCl ([(h0, .inr (6, [.null, .null, .null, .null])), (q1, .inl (cI, 21, .inl (fun _ => 0)))]) H := hP
  have hD : va_D A ([(h0, .inr (6, [.null, .null, .null, .null])), (q1, .inl (cI, 21, .inl (fun _ => 0)))]) := hD
  refine va_putF (D := (dC, dI)) (ci := 6) (v := .ref q1) (ty := (.array .int)) (C := RX2) (T := TX2) (N := 4) hx hb hts (by decide +kernel) tyX2 tyX2_ok nmX2 hown hK hP hD hS 0 rfl rfl 0 (by decide) (hts (.fieldLink RX2 9 "Snowpalace$Sky" "lows" "[I") (by decide +kernel)) (fun _ h9 => h9) rfl hin rfl (by decide +kernel) rfl rfl (Nat.le_of_ble_eq_true rfl) dX2_init_9 (fun H locs hP hD hS => ?_)
  have hP : va_P (dC, dI) vwCl ([(h0, .inr (6, [.ref q1, .null, .null, .null])), (q1, .inl (cI, 21, .inl (fun _ => 0)))]) H := hP
  have hD : va_D A ([(h0, .inr (6, [.ref q1, .null, .null, .null])), (q1, .inl (cI, 21, .inl (fun _ => 0)))]) := hD
  refine lv_aload_n hx hb dX2_init_12 rfl (lv_at hl 0 rfl) ?_
  refine lv_bipush (v := 21) hx hb dX2_init_13 (by decide) ?_
  refine va_newa (D := (dC, dI)) (atype := .int) (a0 := (21, .inl (fun _ => 0))) hx hb (hts (.arrayClass .int) (by decide +kernel)) (ty := .int) rfl hK hP hD hS hA (N' := 21) (fun _ => rfl) (by decide) (by decide) (Nat.le_of_ble_eq_true rfl) (Nat.le_of_ble_eq_true rfl) (Nat.le_of_ble_eq_true rfl) dX2_init_15 (fun q3 cA4 H hK hP hD hS => ?_)
  have eq3 : cI = cA4 := K_eq hK 0 1 rfl rfl
  subst eq3
  have hK : va_K (dC, dI) vwCl [(cI, .int)] s := hK.sub [0] rfl
  have hP : va_P (dC, dI) vwCl ([(h0, .inr (6, [.ref q1, .null, .null, .null])), (q1, .inl (cI, 21, .inl (fun _ => 0))), (q3, .inl (cI, 21, .inl (fun _ => 0)))]) H := hP
  have hD : va_D A ([(h0, .inr (6, [.ref q1, .null, .null, .null])), (q1, .inl (cI, 21, .inl (fun _ => 0))), (q3, .inl (cI, 21, .inl (fun _ => 0)))]) := hD
  refine va_putF (D := (dC, dI)) (ci := 6) (v := .ref q3) (ty := (.array .int)) (C := RX2) (T := TX2) (N := 4) hx hb hts (by decide +kernel) tyX2 tyX2_ok nmX2 hown hK hP hD hS 0 rfl rfl 1 (by decide) (hts (.fieldLink RX2 15 "Snowpalace$Sky" "highs" "[I") (by decide +kernel)) (fun _ h9 => h9) rfl hin rfl (by decide +kernel) rfl rfl (Nat.le_of_ble_eq_true rfl) dX2_init_17 (fun H locs hP hD hS => ?_)
  have hP : va_P (dC, dI) vwCl ([(h0, .inr (6, [.ref q1, .ref q3, .null, .null])), (q1, .inl (cI, 21, .inl (fun _ => 0))), (q3, .inl (cI, 21, .inl (fun _ => 0)))]) H := hP
  have hD : va_D A ([(h0, .inr (6, [.ref q1, .ref q3, .null, .null])), (q1, .inl (cI, 21, .inl (fun _ => 0))), (q3, .inl (cI, 21, .inl (fun _ => 0)))]) := hD
  refine lv_aload_n hx hb dX2_init_20 rfl (lv_at hl 0 rfl) ?_
  refine lv_bipush (v := 21) hx hb dX2_init_21 (by decide) ?_
  refine va_newa (D := (dC, dI)) (atype := .int) (a0 := (21, .inl (fun _ => 0))) hx hb (hts (.arrayClass .int) (by decide +kernel)) (ty := .int) rfl hK hP hD hS hA (N' := 21) (fun _ => rfl) (by decide) (by decide) (Nat.le_of_ble_eq_true rfl) (Nat.le_of_ble_eq_true rfl) (Nat.le_of_ble_eq_true rfl) dX2_init_23 (fun q5 cA6 H hK hP hD hS => ?_)
  have eq5 : cI = cA6 := K_eq hK 0 1 rfl rfl
  subst eq5
  have hK : va_K (dC, dI) vwCl [(cI, .int)] s := hK.sub [0] rfl
  have hP : va_P (dC, dI) vwCl ([(h0, .inr (6, [.ref q1, .ref q3, .null, .null])), (q1, .inl (cI, 21, .inl (fun _ => 0))), (q3, .inl (cI, 21, .inl (fun _ => 0))), (q5, .inl (cI, 21, .inl (fun _ => 0)))]) H := hP
  have hD : va_D A ([(h0, .inr (6, [.ref q1, .ref q3, .null, .null])), (q1, .inl (cI, 21, .inl (fun _ => 0))), (q3, .inl (cI, 21, .inl (fun _ => 0))), (q5, .inl (cI, 21, .inl (fun _ => 0)))]) := hD
  refine va_putF (D := (dC, dI)) (ci := 6) (v := .ref q5) (ty := (.array .int)) (C := RX2) (T := TX2) (N := 4) hx hb hts (by decide +kernel) tyX2 tyX2_ok nmX2 hown hK hP hD hS 0 rfl rfl 2 (by decide) (hts (.fieldLink RX2 18 "Snowpalace$Sky" "winds" "[I") (by decide +kernel)) (fun _ h9 => h9) rfl hin rfl (by decide +kernel) rfl rfl (Nat.le_of_ble_eq_true rfl) dX2_init_25 (fun H locs hP hD hS => ?_)
  have hP : va_P (dC, dI) vwCl ([(h0, .inr (6, [.ref q1, .ref q3, .ref q5, .null])), (q1, .inl (cI, 21, .inl (fun _ => 0))), (q3, .inl (cI, 21, .inl (fun _ => 0))), (q5, .inl (cI, 21, .inl (fun _ => 0)))]) H := hP
  have hD : va_D A ([(h0, .inr (6, [.ref q1, .ref q3, .ref q5, .null])), (q1, .inl (cI, 21, .inl (fun _ => 0))), (q3, .inl (cI, 21, .inl (fun _ => 0))), (q5, .inl (cI, 21, .inl (fun _ => 0)))]) := hD
  refine lv_aload_n hx hb dX2_init_28 rfl (lv_at hl 0 rfl) ?_
  refine lv_bipush (v := 21) hx hb dX2_init_29 (by decide) ?_
  refine va_newa (D := (dC, dI)) (atype := .int) (a0 := (21, .inl (fun _ => 0))) hx hb (hts (.arrayClass .int) (by decide +kernel)) (ty := .int) rfl hK hP hD hS hA (N' := 21) (fun _ => rfl) (by decide) (by decide) (Nat.le_of_ble_eq_true rfl) (Nat.le_of_ble_eq_true rfl) (Nat.le_of_ble_eq_true rfl) dX2_init_31 (fun q7 cA8 H hK hP hD hS => ?_)
  have eq7 : cI = cA8 := K_eq hK 0 1 rfl rfl
  subst eq7
  have hK : va_K (dC, dI) vwCl [(cI, .int)] s := hK.sub [0] rfl
  have hP : va_P (dC, dI) vwCl ([(h0, .inr (6, [.ref q1, .ref q3, .ref q5, .null])), (q1, .inl (cI, 21, .inl (fun _ => 0))), (q3, .inl (cI, 21, .inl (fun _ => 0))), (q5, .inl (cI, 21, .inl (fun _ => 0))), (q7, .inl (cI, 21, .inl (fun _ => 0)))]) H := hP
  have hD : va_D A ([(h0, .inr (6, [.ref q1, .ref q3, .ref q5, .null])), (q1, .inl (cI, 21, .inl (fun _ => 0))), (q3, .inl (cI, 21, .inl (fun _ => 0))), (q5, .inl (cI, 21, .inl (fun _ => 0))), (q7, .inl (cI, 21, .inl (fun _ => 0)))]) := hD
  refine va_putF (D := (dC, dI)) (ci := 6) (v := .ref q7) (ty := (.array .int)) (C := RX2) (T := TX2) (N := 4) hx hb hts (by decide +kernel) tyX2 tyX2_ok nmX2 hown hK hP hD hS 0 rfl rfl 3 (by decide) (hts (.fieldLink RX2 21 "Snowpalace$Sky" "humidities" "[I") (by decide +kernel)) (fun _ h9 => h9) rfl hin rfl (by decide +kernel) rfl rfl (Nat.le_of_ble_eq_true rfl) dX2_init_33 (fun H locs hP hD hS => ?_)
  have hP : va_P (dC, dI) vwCl ([(h0, .inr (6, [.ref q1, .ref q3, .ref q5, .ref q7])), (q1, .inl (cI, 21, .inl (fun _ => 0))), (q3, .inl (cI, 21, .inl (fun _ => 0))), (q5, .inl (cI, 21, .inl (fun _ => 0))), (q7, .inl (cI, 21, .inl (fun _ => 0)))]) H := hP
  have hD : va_D A ([(h0, .inr (6, [.ref q1, .ref q3, .ref q5, .ref q7])), (q1, .inl (cI, 21, .inl (fun _ => 0))), (q3, .inl (cI, 21, .inl (fun _ => 0))), (q5, .inl (cI, 21, .inl (fun _ => 0))), (q7, .inl (cI, 21, .inl (fun _ => 0)))]) := hD
  refine lv_iconst (v := 0) hx hb dX2_init_36 (by decide) ?_
  refine lv_istore_n (lv' := [(1, .int 0), (0, .ref h0)]) hx hb dX2_init_37 rfl hl (by decide) rfl (fun ls hl => ?_)
  have hloop9 : ∀ (Q : State → Prop), (∀ (g0 : Nat → Int32) (g1 : Nat → Int32) (g2 : Nat → Int32) (g3 : Nat → Int32) (H : Heap) (locs : List Loc) (ls : Array Slot), ((∀ j, j < 21 → g0 j = (-150)) ∧ (∀ j, j < 21 → g1 j = (-50)) ∧ (∀ j, j < 21 → g2 j = 5) ∧ (∀ j, j < 21 → g3 j = 80)) → va_P (dC, dI) vwCl ([(h0, .inr (6, [.ref q1, .ref q3, .ref q5, .ref q7])), (q1, .inl (cI, 21, .inl g0)), (q3, .inl (cI, 21, .inl g1)), (q5, .inl (cI, 21, .inl g2)), (q7, .inl (cI, 21, .inl g3))]) H → va_D A ([(h0, .inr (6, [.ref q1, .ref q3, .ref q5, .ref q7])), (q1, .inl (cI, 21, .inl g0)), (q3, .inl (cI, 21, .inl g1)), (q5, .inl (cI, 21, .inl g2)), (q7, .inl (cI, 21, .inl g3))]) → va_S A s.heap H locs → lv_has ls 2 [(0, .ref h0)] → W p l e (headSpec wsX2_init ({ frames := 1, cells := 4, slots := 84, locals := 12 })).room s m ([.ref h0] : List Value).toArray below meth c H locs 4 84 Q (F0 m 82 ls [])) → ∀ (n i : Nat) (g0 : Nat → Int32) (g1 : Nat → Int32) (g2 : Nat → Int32) (g3 : Nat → Int32), i ≤ 21 → 21 < i + n → ∀ (H : Heap) (locs : List Loc) (ls : Array Slot), ((∀ j, j < i → g0 j = (-150)) ∧ (∀ j, j < i → g1 j = (-50)) ∧ (∀ j, j < i → g2 j = 5) ∧ (∀ j, j < i → g3 j = 80)) → va_P (dC, dI) vwCl ([(h0, .inr (6, [.ref q1, .ref q3, .ref q5, .ref q7])), (q1, .inl (cI, 21, .inl g0)), (q3, .inl (cI, 21, .inl g1)), (q5, .inl (cI, 21, .inl g2)), (q7, .inl (cI, 21, .inl g3))]) H → va_D A ([(h0, .inr (6, [.ref q1, .ref q3, .ref q5, .ref q7])), (q1, .inl (cI, 21, .inl g0)), (q3, .inl (cI, 21, .inl g1)), (q5, .inl (cI, 21, .inl g2)), (q7, .inl (cI, 21, .inl g3))]) → va_S A s.heap H locs → lv_has ls 2 [(1, .int (nI i)), (0, .ref h0)] → W p l e (headSpec wsX2_init ({ frames := 1, cells := 4, slots := 84, locals := 12 })).room s m ([.ref h0] : List Value).toArray below meth c H locs 4 84 Q (F0 m 38 ls []) := by
    intro Q hk n
    induction n with
    | zero => intro i g0 g1 g2 g3 h1 h2; omega
    | succ n ih =>
      intro i g0 g1 g2 g3 hi hin H locs ls hinv hP hD hS hl
      refine lv_iload_n hx hb dX2_init_38 rfl (lv_at hl 0 rfl) ?_
      refine lv_bipush (v := 21) hx hb dX2_init_39 (by decide) ?_
      refine lv_icmp_ge (tgt := 82) hx hb dX2_init_41 (by decide) (fun c10 => ?_) (fun c10 => ?_)
      · skip
        have hi4 : i = 21 := by
          have := (nI_leI (a := 21) (b := i) (by omega) (by omega)).mp c10
          omega
        subst hi4
        exact hk g0 g1 g2 g3 H locs ls hinv hP hD hS (lv_sub hl [1] rfl)
      · skip
        have hlt : i < 21 := by
          rcases Nat.lt_or_ge i 21 with q | q
          · exact q
          · exact absurd ((nI_leI (a := 21) (b := i) (by omega) (by omega)).mpr q) c10
        refine lv_aload_n hx hb dX2_init_44 rfl (lv_at hl 1 rfl) ?_
        refine va_get (D := (dC, dI)) (ci := 6) (v := .ref q1) (C := RX2) (T := TX2) (N := 4) hx hb hts (by decide +kernel) hown hK hP 0 rfl rfl 0 (by decide) (hts (.fieldLink RX2 9 "Snowpalace$Sky" "lows" "[I") (by decide +kernel)) (fun _ h9 => h9) rfl dX2_init_45 ?_
        refine lv_iload_n hx hb dX2_init_48 rfl (lv_at hl 0 rfl) ?_
        refine lv_sipush (v := (-150)) hx hb dX2_init_49 (by decide) ?_
        refine va_iast (D := (dC, dI)) hx hb hK hP hD hS 1 0 rfl rfl (vp_in_nI hlt (by decide)) dX2_init_52 (fun H locs hP hD hS => ?_)
        obtain ⟨f11, hf11⟩ : ∃ z, z = upd g0 ((nI i) : Int32).toNatClampNeg (-150) := ⟨_, rfl⟩
        rw [← hf11] at hP hD
        have hP : va_P (dC, dI) vwCl ([(h0, .inr (6, [.ref q1, .ref q3, .ref q5, .ref q7])), (q1, .inl (cI, 21, .inl f11)), (q3, .inl (cI, 21, .inl g1)), (q5, .inl (cI, 21, .inl g2)), (q7, .inl (cI, 21, .inl g3))]) H := hP
        have hD : va_D A ([(h0, .inr (6, [.ref q1, .ref q3, .ref q5, .ref q7])), (q1, .inl (cI, 21, .inl f11)), (q3, .inl (cI, 21, .inl g1)), (q5, .inl (cI, 21, .inl g2)), (q7, .inl (cI, 21, .inl g3))]) := hD
        refine lv_aload_n hx hb dX2_init_53 rfl (lv_at hl 1 rfl) ?_
        refine va_get (D := (dC, dI)) (ci := 6) (v := .ref q3) (C := RX2) (T := TX2) (N := 4) hx hb hts (by decide +kernel) hown hK hP 0 rfl rfl 1 (by decide) (hts (.fieldLink RX2 15 "Snowpalace$Sky" "highs" "[I") (by decide +kernel)) (fun _ h9 => h9) rfl dX2_init_54 ?_
        refine lv_iload_n hx hb dX2_init_57 rfl (lv_at hl 0 rfl) ?_
        refine lv_bipush (v := (-50)) hx hb dX2_init_58 (by decide) ?_
        refine va_iast (D := (dC, dI)) hx hb hK hP hD hS 2 0 rfl rfl (vp_in_nI hlt (by decide)) dX2_init_60 (fun H locs hP hD hS => ?_)
        obtain ⟨f12, hf12⟩ : ∃ z, z = upd g1 ((nI i) : Int32).toNatClampNeg (-50) := ⟨_, rfl⟩
        rw [← hf12] at hP hD
        have hP : va_P (dC, dI) vwCl ([(h0, .inr (6, [.ref q1, .ref q3, .ref q5, .ref q7])), (q1, .inl (cI, 21, .inl f11)), (q3, .inl (cI, 21, .inl f12)), (q5, .inl (cI, 21, .inl g2)), (q7, .inl (cI, 21, .inl g3))]) H := hP
        have hD : va_D A ([(h0, .inr (6, [.ref q1, .ref q3, .ref q5, .ref q7])), (q1, .inl (cI, 21, .inl f11)), (q3, .inl (cI, 21, .inl f12)), (q5, .inl (cI, 21, .inl g2)), (q7, .inl (cI, 21, .inl g3))]) := hD
        refine lv_aload_n hx hb dX2_init_61 rfl (lv_at hl 1 rfl) ?_
        refine va_get (D := (dC, dI)) (ci := 6) (v := .ref q5) (C := RX2) (T := TX2) (N := 4) hx hb hts (by decide +kernel) hown hK hP 0 rfl rfl 2 (by decide) (hts (.fieldLink RX2 18 "Snowpalace$Sky" "winds" "[I") (by decide +kernel)) (fun _ h9 => h9) rfl dX2_init_62 ?_
        refine lv_iload_n hx hb dX2_init_65 rfl (lv_at hl 0 rfl) ?_
        refine lv_iconst (v := 5) hx hb dX2_init_66 (by decide) ?_
        refine va_iast (D := (dC, dI)) hx hb hK hP hD hS 3 0 rfl rfl (vp_in_nI hlt (by decide)) dX2_init_67 (fun H locs hP hD hS => ?_)
        obtain ⟨f13, hf13⟩ : ∃ z, z = upd g2 ((nI i) : Int32).toNatClampNeg 5 := ⟨_, rfl⟩
        rw [← hf13] at hP hD
        have hP : va_P (dC, dI) vwCl ([(h0, .inr (6, [.ref q1, .ref q3, .ref q5, .ref q7])), (q1, .inl (cI, 21, .inl f11)), (q3, .inl (cI, 21, .inl f12)), (q5, .inl (cI, 21, .inl f13)), (q7, .inl (cI, 21, .inl g3))]) H := hP
        have hD : va_D A ([(h0, .inr (6, [.ref q1, .ref q3, .ref q5, .ref q7])), (q1, .inl (cI, 21, .inl f11)), (q3, .inl (cI, 21, .inl f12)), (q5, .inl (cI, 21, .inl f13)), (q7, .inl (cI, 21, .inl g3))]) := hD
        refine lv_aload_n hx hb dX2_init_68 rfl (lv_at hl 1 rfl) ?_
        refine va_get (D := (dC, dI)) (ci := 6) (v := .ref q7) (C := RX2) (T := TX2) (N := 4) hx hb hts (by decide +kernel) hown hK hP 0 rfl rfl 3 (by decide) (hts (.fieldLink RX2 21 "Snowpalace$Sky" "humidities" "[I") (by decide +kernel)) (fun _ h9 => h9) rfl dX2_init_69 ?_
        refine lv_iload_n hx hb dX2_init_72 rfl (lv_at hl 0 rfl) ?_
        refine lv_bipush (v := 80) hx hb dX2_init_73 (by decide) ?_
        refine va_iast (D := (dC, dI)) hx hb hK hP hD hS 4 0 rfl rfl (vp_in_nI hlt (by decide)) dX2_init_75 (fun H locs hP hD hS => ?_)
        obtain ⟨f14, hf14⟩ : ∃ z, z = upd g3 ((nI i) : Int32).toNatClampNeg 80 := ⟨_, rfl⟩
        rw [← hf14] at hP hD
        have hP : va_P (dC, dI) vwCl ([(h0, .inr (6, [.ref q1, .ref q3, .ref q5, .ref q7])), (q1, .inl (cI, 21, .inl f11)), (q3, .inl (cI, 21, .inl f12)), (q5, .inl (cI, 21, .inl f13)), (q7, .inl (cI, 21, .inl f14))]) H := hP
        have hD : va_D A ([(h0, .inr (6, [.ref q1, .ref q3, .ref q5, .ref q7])), (q1, .inl (cI, 21, .inl f11)), (q3, .inl (cI, 21, .inl f12)), (q5, .inl (cI, 21, .inl f13)), (q7, .inl (cI, 21, .inl f14))]) := hD
        refine lv_iinc (v := (nI (i + 1))) (lv' := [(1, .int (nI (i + 1))), (0, .ref h0)]) hx hb dX2_init_76 hl (k := 0) rfl (nI_1 i) (by decide) rfl (fun ls hl => ?_)
        refine lv_goto (tgt := 38) hx hb dX2_init_79 (by decide) ?_
        exact ih (i + 1) f11 f12 f13 f14 hlt (by omega) H locs ls ⟨(by rw [hf11]; exact upd_inv (by omega) hinv.1), (by rw [hf12]; exact upd_inv (by omega) hinv.2.1), (by rw [hf13]; exact upd_inv (by omega) hinv.2.2.1), (by rw [hf14]; exact upd_inv (by omega) hinv.2.2.2)⟩ hP hD hS (lv_sub hl [0, 1] rfl)
  refine hloop9 _ (fun g0 g1 g2 g3 H locs ls hinv hP hD hS hl => ?_) (21 + 1) 0 (fun _ => 0) (fun _ => 0) (fun _ => 0) (fun _ => 0) (Nat.zero_le _) (by omega) _ _ ls (⟨zero_inv, zero_inv, zero_inv, zero_inv⟩) hP hD hS (lv_sub hl [0, 1] rfl)
  have hP : va_P (dC, dI) vwCl ([(h0, .inr (6, [.ref q1, .ref q3, .ref q5, .ref q7])), (q1, .inl (cI, 21, .inl g0)), (q3, .inl (cI, 21, .inl g1)), (q5, .inl (cI, 21, .inl g2)), (q7, .inl (cI, 21, .inl g3))]) H := hP
  have hD : va_D A ([(h0, .inr (6, [.ref q1, .ref q3, .ref q5, .ref q7])), (q1, .inl (cI, 21, .inl g0)), (q3, .inl (cI, 21, .inl g1)), (q5, .inl (cI, 21, .inl g2)), (q7, .inl (cI, 21, .inl g3))]) := hD
  refine W.widen (k := 4) (n := 84) (Nat.le_of_ble_eq_true rfl) (Nat.le_of_ble_eq_true rfl) ?_
  exact W.vret hx hb hr (fun t ht hW => ⟨⟨(q1, q3, q5, q7, g0, g1, g2, g3), rfl, hinv, BW.end hP hK hD [0, 1, 2, 3, 4] [0] rfl rfl rfl rfl ht hW⟩, hS.F ht⟩) hS.2.2 dX2_init_82

