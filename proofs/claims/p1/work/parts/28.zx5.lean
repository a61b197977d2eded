set_option maxHeartbeats 4000000 in
set_option maxRecDepth 100000 in
theorem c_msite (l : Launch) (dC : Nat → ClassId) (dI : Nat → Nat → Nat) (sz : Nat) (h0 md : Nat)   : Met l yX5_init wsX5_init ({ frames := 1, cells := 14, slots := 108, locals := 12 }) (va_Pc [.ref h0, .ref md] (PY dC dI ([(h0, .inr (9, [.null, .null, .int 0, .int 0, .int 0, .int 0, .int 0, .int 0, .double 0, .null]))]) [] sz)) (va_Qv (fun (u : List Value) => True) (fun (u : List Value) t => BW dC dI (va_A ([(h0, .inr (9, [.null, .null, .int 0, .int 0, .int 0, .int 0, .int 0, .int 0, .double 0, .null]))]) sz) [(h0, .inr (9, u))] [] t) (va_A ([(h0, .inr (9, [.null, .null, .int 0, .int 0, .int 0, .int 0, .int 0, .int 0, .double 0, .null]))]) sz)) 14 108 (va_A ([(h0, .inr (9, [.null, .null, .int 0, .int 0, .int 0, .int 0, .int 0, .int 0, .double 0, .null]))]) sz) := by
  refine Met.ofW (cc := cX5_init) (maxL := 2) (ret := none) (by decide +kernel) rfl ?_
  intro p e s m args below meth c s₁ B hml hv
  obtain ⟨rfl, ⟨hsz, hP, hK, hD0⟩, hY⟩ := hv
  have hx := B.exec
  have hb := B.bytes
  have hr := B.returns
  have hts := atoms_spec (ws := wsX5_init) B.pre
  have hown : s.vm.findClass RX5 = some m.cls := findClass_of_methodNamed B.named
  have hlocks := B.notSynchronized
  have hin : meth.name = "<init>" := (name_of_methodNamed B.named B.method).1
  subst hsz
  have hD := hD0.self (sz := s.heap.size)
  generalize hAe : va_A ([(h0, .inr (9, [.null, .null, .int 0, .int 0, .int 0, .int 0, .int 0, .int 0, .double 0, .null]))]) s.heap.size = A at hD ⊢
  have hA : ∀ q : Nat, s.heap.size ≤ q → A q := fun q h => by rw [← hAe]; exact Or.inr h
  have hS : va_S A s.heap s.heap [] := va_S.rf
  have hl := lv_entry ([.ref h0, .ref md]) (n := 2) (Nat.le_of_ble_eq_true rfl)
  rw [lg_entry_eq]
  generalize (lg_sl ([.ref h0, .ref md]) ++ List.replicate (2 - (lg_sl ([.ref h0, .ref md])).length) Slot.unset).toArray = ls at hl ⊢
  have hl : lv_has ls 2 [(0, .ref h0), (1, .ref md)] := hl
  refine lv_aload_n hx hb dX5_init_0 rfl (lv_at hl 0 rfl) ?_
  refine lv_aload_n hx hb dX5_init_1 rfl (lv_at hl 1 rfl) ?_
  refine va_putF (D := (dC, dI)) (ci := 9) (v := .ref md) (ty := (.object "SnowpalaceModel")) (C := RX5) (T := TX5) (N := 10) hx hb hts (by decide +kernel) tyX5 tyX5_ok nmX5 hown hK hP hD hS 0 rfl rfl 9 (by decide) (hts (.fieldLink RX5 3 "SnowpalaceModel$Site" "this$0" "LSnowpalaceModel;") (by decide +kernel)) (fun _ h9 => h9) rfl hin rfl (by decide +kernel) rfl rfl (Nat.le_of_ble_eq_true rfl) dX5_init_2 (fun H locs hP hD hS => ?_)
  have hP : va_P (dC, dI) vwCl ([(h0, .inr (9, [.null, .null, .int 0, .int 0, .int 0, .int 0, .int 0, .int 0, .double 0, .ref md]))]) H := hP
  have hD : va_D A ([(h0, .inr (9, [.null, .null, .int 0, .int 0, .int 0, .int 0, .int 0, .int 0, .double 0, .ref md]))]) := hD
  refine lv_aload_n hx hb dX5_init_5 rfl (lv_at hl 0 rfl) ?_
  refine W.objInit hx hb hown (hts (.methodLink RX5 9 objectInit) (by decide +kernel)) (hts (.instanceMethod objectInit) (by decide +kernel)) (hts (.code objectInit ⟨#[0xb1]⟩ 1 none) (by decide +kernel)) rfl (by rw [hml]; exact hl.1) rfl dX5_init_6 (Nat.le_of_ble_eq_true rfl) (Nat.le_of_ble_eq_true rfl) ?_
  refine W.eq (g2 := F0 m 9 ls []) rfl ?_
  refine lv_aload_n hx hb dX5_init_9 rfl (lv_at hl 0 rfl) ?_
  refine lv_bipush (v := 6) hx hb dX5_init_10 (by decide) ?_
  refine lv_bipush (v := 8) hx hb dX5_init_12 (by decide) ?_
  obtain ⟨cy3, ky, compy, hcy, -, -⟩ := Cond.arrayClass_spec (first := s) (o := none) (idx := []) hY.2.2.2
  have hP : va_P (dC, dI) vwCl ([(h0, .inr (9, [.null, .null, .int 0, .int 0, .int 0, .int 0, .int 0, .int 0, .double 0, .ref md]))] ++ va_pl [] (fun _ => .inl (cy3, (8, .inr (.inr (.inr (.inr (fun _ => none)))))))) H := hP
  have hD : va_D A ([(h0, .inr (9, [.null, .null, .int 0, .int 0, .int 0, .int 0, .int 0, .int 0, .double 0, .ref md]))] ++ va_pl [] (fun _ => .inl (cy3, (8, .inr (.inr (.inr (.inr (fun _ => none)))))))) := hD
  refine va_mna (D := (dC, dI)) (X := [(h0, .inr (9, [.null, .null, .int 0, .int 0, .int 0, .int 0, .int 0, .int 0, .double 0, .ref md]))]) (L := []) (f := fun _ => .inl (cy3, (8, .inr (.inr (.inr (.inr (fun _ => none))))))) (ty := (.object "SnowpalaceModel$Cell")) (cy := cy3) hx hb hown (by rw [show "[" ++ (FieldType.array (.object "SnowpalaceModel$Cell")).toString = "[[LSnowpalaceModel$Cell;" from by decide +kernel]; exact (va_any rfl hY.1)) hY.2.1 (ac_any (a := #[]) hY.2.2.2) hcy hK hP hD hS hA (n := 6) (k := 8) (N' := 6) (K' := 8) (z := (8, .inr (.inr (.inr (.inr (fun _ => none)))))) (by decide) (by decide) (by decide) (by decide) (by decide) (by decide) (by decide) (by decide) (by decide) ?_ ?_ (fun c => inn_q c) dX5_init_14 (fun q1 rr4 cA2 H _ _ hK hP hD hS => ?_)
  · exact (Nat.le_of_ble_eq_true rfl)
  · exact (Nat.le_of_ble_eq_true rfl)
  have hK : va_K (dC, dI) vwCl [(cA2, .array (.object "SnowpalaceModel$Cell"))] s := hK
  have hP := hP.sub (ws' := [(h0, .inr (9, [.null, .null, .int 0, .int 0, .int 0, .int 0, .int 0, .int 0, .double 0, .ref md])), (q1, .inl (cA2, 6, .inr (.inr (.inr (.inr (fun i => if i < 6 then some (rr4 i) else none))))))]) [0, 1] rfl
  have hD := hD.sub (ws' := [(h0, .inr (9, [.null, .null, .int 0, .int 0, .int 0, .int 0, .int 0, .int 0, .double 0, .ref md])), (q1, .inl (cA2, 6, .inr (.inr (.inr (.inr (fun i => if i < 6 then some (rr4 i) else none))))))]) [0, 1] rfl rfl
  have hP : va_P (dC, dI) vwCl ([(h0, .inr (9, [.null, .null, .int 0, .int 0, .int 0, .int 0, .int 0, .int 0, .double 0, .ref md])), (q1, .inl (cA2, 6, .inr (.inr (.inr (.inr (fun i => if i < 6 then some (rr4 i) else none))))))]) H := hP
  have hD : va_D A ([(h0, .inr (9, [.null, .null, .int 0, .int 0, .int 0, .int 0, .int 0, .int 0, .double 0, .ref md])), (q1, .inl (cA2, 6, .inr (.inr (.inr (.inr (fun i => if i < 6 then some (rr4 i) else none))))))]) := hD
  refine va_putF (D := (dC, dI)) (ci := 9) (v := .ref q1) (ty := (.array (.array (.object "SnowpalaceModel$Cell")))) (C := RX5) (T := TX5) (N := 10) hx hb hts (by decide +kernel) tyX5 tyX5_ok nmX5 hown hK hP hD hS 0 rfl rfl 0 (by decide) (hts (.fieldLink RX5 17 "SnowpalaceModel$Site" "cells" "[[LSnowpalaceModel$Cell;") (by decide +kernel)) (fun _ h9 => h9) rfl hin rfl (by decide +kernel) rfl rfl (Nat.le_of_ble_eq_true rfl) dX5_init_18 (fun H locs hP hD hS => ?_)
  have hP : va_P (dC, dI) vwCl ([(h0, .inr (9, [.ref q1, .null, .int 0, .int 0, .int 0, .int 0, .int 0, .int 0, .double 0, .ref md])), (q1, .inl (cA2, 6, .inr (.inr (.inr (.inr (fun i => if i < 6 then some (rr4 i) else none))))))]) H := hP
  have hD : va_D A ([(h0, .inr (9, [.ref q1, .null, .int 0, .int 0, .int 0, .int 0, .int 0, .int 0, .double 0, .ref md])), (q1, .inl (cA2, 6, .inr (.inr (.inr (.inr (fun i => if i < 6 then some (rr4 i) else none))))))]) := hD
  refine lv_aload_n hx hb dX5_init_21 rfl (lv_at hl 0 rfl) ?_
  refine lv_bipush (v := 6) hx hb dX5_init_22 (by decide) ?_
  refine lv_bipush (v := 8) hx hb dX5_init_24 (by decide) ?_
  obtain ⟨cy7, ky, compy, hcy, -, -⟩ := Cond.arrayClass_spec (first := s) (o := none) (idx := []) (hts (.arrayClass .boolean) (by decide +kernel))
  have hP : va_P (dC, dI) vwCl ([(h0, .inr (9, [.ref q1, .null, .int 0, .int 0, .int 0, .int 0, .int 0, .int 0, .double 0, .ref md])), (q1, .inl (cA2, 6, .inr (.inr (.inr (.inr (fun i => if i < 6 then some (rr4 i) else none))))))] ++ va_pl [] (fun _ => .inl (cy7, (8, .inl (fun _ => 0))))) H := hP
  have hD : va_D A ([(h0, .inr (9, [.ref q1, .null, .int 0, .int 0, .int 0, .int 0, .int 0, .int 0, .double 0, .ref md])), (q1, .inl (cA2, 6, .inr (.inr (.inr (.inr (fun i => if i < 6 then some (rr4 i) else none))))))] ++ va_pl [] (fun _ => .inl (cy7, (8, .inl (fun _ => 0))))) := hD
  refine va_mna (D := (dC, dI)) (X := [(h0, .inr (9, [.ref q1, .null, .int 0, .int 0, .int 0, .int 0, .int 0, .int 0, .double 0, .ref md])), (q1, .inl (cA2, 6, .inr (.inr (.inr (.inr (fun i => if i < 6 then some (rr4 i) else none))))))]) (L := []) (f := fun _ => .inl (cy7, (8, .inl (fun _ => 0)))) (ty := .boolean) (cy := cy7) hx hb hown (by rw [show "[" ++ (FieldType.array .boolean).toString = "[[Z" from by decide +kernel]; exact hts (.classLink RX5 20 "[[Z") (by decide +kernel)) hY.2.2.1 (hts (.arrayClass .boolean) (by decide +kernel)) hcy hK hP hD hS hA (n := 6) (k := 8) (N' := 6) (K' := 8) (z := (8, .inl (fun _ => 0))) (by decide) (by decide) (by decide) (by decide) (by decide) (by decide) (by decide) (by decide) (by decide) ?_ ?_ (fun c => inn_b c) dX5_init_26 (fun q5 rr8 cA6 H _ _ hK hP hD hS => ?_)
  · exact (Nat.le_of_ble_eq_true rfl)
  · exact (Nat.le_of_ble_eq_true rfl)
  have hK : va_K (dC, dI) vwCl [(cA2, .array (.object "SnowpalaceModel$Cell")), (cA6, .array .boolean)] s := hK
  have hP := hP.sub (ws' := [(h0, .inr (9, [.ref q1, .null, .int 0, .int 0, .int 0, .int 0, .int 0, .int 0, .double 0, .ref md])), (q1, .inl (cA2, 6, .inr (.inr (.inr (.inr (fun i => if i < 6 then some (rr4 i) else none)))))), (q5, .inl (cA6, 6, .inr (.inr (.inr (.inr (fun i => if i < 6 then some (rr8 i) else none))))))]) [0, 1, 2] rfl
  have hD := hD.sub (ws' := [(h0, .inr (9, [.ref q1, .null, .int 0, .int 0, .int 0, .int 0, .int 0, .int 0, .double 0, .ref md])), (q1, .inl (cA2, 6, .inr (.inr (.inr (.inr (fun i => if i < 6 then some (rr4 i) else none)))))), (q5, .inl (cA6, 6, .inr (.inr (.inr (.inr (fun i => if i < 6 then some (rr8 i) else none))))))]) [0, 1, 2] rfl rfl
  have hP : va_P (dC, dI) vwCl ([(h0, .inr (9, [.ref q1, .null, .int 0, .int 0, .int 0, .int 0, .int 0, .int 0, .double 0, .ref md])), (q1, .inl (cA2, 6, .inr (.inr (.inr (.inr (fun i => if i < 6 then some (rr4 i) else none)))))), (q5, .inl (cA6, 6, .inr (.inr (.inr (.inr (fun i => if i < 6 then some (rr8 i) else none))))))]) H := hP
  have hD : va_D A ([(h0, .inr (9, [.ref q1, .null, .int 0, .int 0, .int 0, .int 0, .int 0, .int 0, .double 0, .ref md])), (q1, .inl (cA2, 6, .inr (.inr (.inr (.inr (fun i => if i < 6 then some (rr4 i) else none)))))), (q5, .inl (cA6, 6, .inr (.inr (.inr (.inr (fun i => if i < 6 then some (rr8 i) else none))))))]) := hD
  refine va_putF (D := (dC, dI)) (ci := 9) (v := .ref q5) (ty := (.array (.array .boolean))) (C := RX5) (T := TX5) (N := 10) hx hb hts (by decide +kernel) tyX5 tyX5_ok nmX5 hown hK hP hD hS 0 rfl rfl 1 (by decide) (hts (.fieldLink RX5 22 "SnowpalaceModel$Site" "plan" "[[Z") (by decide +kernel)) (fun _ h9 => h9) rfl hin rfl (by decide +kernel) rfl rfl (Nat.le_of_ble_eq_true rfl) dX5_init_30 (fun H locs hP hD hS => ?_)
  have hP : va_P (dC, dI) vwCl ([(h0, .inr (9, [.ref q1, .ref q5, .int 0, .int 0, .int 0, .int 0, .int 0, .int 0, .double 0, .ref md])), (q1, .inl (cA2, 6, .inr (.inr (.inr (.inr (fun i => if i < 6 then some (rr4 i) else none)))))), (q5, .inl (cA6, 6, .inr (.inr (.inr (.inr (fun i => if i < 6 then some (rr8 i) else none))))))]) H := hP
  have hD : va_D A ([(h0, .inr (9, [.ref q1, .ref q5, .int 0, .int 0, .int 0, .int 0, .int 0, .int 0, .double 0, .ref md])), (q1, .inl (cA2, 6, .inr (.inr (.inr (.inr (fun i => if i < 6 then some (rr4 i) else none)))))), (q5, .inl (cA6, 6, .inr (.inr (.inr (.inr (fun i => if i < 6 then some (rr8 i) else none))))))]) := hD
  refine lv_aload_n hx hb dX5_init_33 rfl (lv_at hl 0 rfl) ?_
  refine lv_iconst (v := (-1)) hx hb dX5_init_34 (by decide) ?_
  refine va_put (D := (dC, dI)) (ci := 9) (v := .int (-1)) (ty := .int) (C := RX5) (T := TX5) (N := 10) hx hb hts (by decide +kernel) tyX5 tyX5_ok nmX5 hown hK hP hD hS 0 rfl rfl 5 (by decide) (hts (.fieldLink RX5 25 "SnowpalaceModel$Site" "last" "I") (by decide +kernel)) (fun _ h9 => h9) rfl (by decide +kernel) rfl rfl (Nat.le_of_ble_eq_true rfl) dX5_init_35 (fun H locs hP hD hS => ?_)
  have hP : va_P (dC, dI) vwCl ([(h0, .inr (9, [.ref q1, .ref q5, .int 0, .int 0, .int 0, .int (-1), .int 0, .int 0, .double 0, .ref md])), (q1, .inl (cA2, 6, .inr (.inr (.inr (.inr (fun i => if i < 6 then some (rr4 i) else none)))))), (q5, .inl (cA6, 6, .inr (.inr (.inr (.inr (fun i => if i < 6 then some (rr8 i) else none))))))]) H := hP
  have hD : va_D A ([(h0, .inr (9, [.ref q1, .ref q5, .int 0, .int 0, .int 0, .int (-1), .int 0, .int 0, .double 0, .ref md])), (q1, .inl (cA2, 6, .inr (.inr (.inr (.inr (fun i => if i < 6 then some (rr4 i) else none)))))), (q5, .inl (cA6, 6, .inr (.inr (.inr (.inr (fun i => if i < 6 then some (rr8 i) else none))))))]) := hD
  refine W.widen (k := 14) (n := 108) (Nat.le_of_ble_eq_true rfl) (Nat.le_of_ble_eq_true rfl) ?_
  exact W.vret hx hb hr (fun t ht hW => ⟨⟨[.ref q1, .ref q5, .int 0, .int 0, .int 0, .int (-1), .int 0, .int 0, .double 0, .ref md], rfl, trivial, BW.end hP hK hD [0] [] rfl rfl rfl rfl ht hW⟩, hS.F ht⟩) hS.2.2 dX5_init_38

