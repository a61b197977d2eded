set_option maxHeartbeats 4000000 in
set_option maxRecDepth 100000 in
/-- put: caught -/
theorem h_put (l : Launch) (hlt : l.stackTraces = false) (dC : Nat → ClassId) (dI : Nat → Nat → Nat) (sz : Nat) (a : Nat → Nat) (cI cS : ClassId) (f : Nat → Nat → Int32) (cJ : ClassId) (o : Nat) (g : Nat → Int64) (p0 : Int32) (p1 : Int32) (p2 : Int32) (p3 : Int32)  : Met l yL_put wsL_put ({ frames := 7, cells := 1, slots := 6, locals := 108 }) (va_Pc [.ref (a 0), .int p0, .int p1, .int p2, .int p3, .ref o] (PT dC dI (wX a cI cS f ++ [(o, .inl (cJ, 1, .inr (.inl g)))]) [(cI, .int), (cS, .object "Snowpalace$Site"), (cJ, .long)] sz)) (va_Qi (fun (r : Int32) (u : Unit) => r = 1) (fun (u : Unit) t => True) (va_A (wX a cI cS f ++ [(o, .inl (cJ, 1, .inr (.inl g)))]) sz)) 1 6 (va_A (wX a cI cS f ++ [(o, .inl (cJ, 1, .inr (.inl g)))]) sz) := by
  refine va_MetW (cc := cL_put) (maxL := 7) (ret := (some .int)) (hh := [(0, 14, 17, 54), (0, 14, 21, 13), (0, 14, 25, 15), (0, 14, 29, 27)]) (by decide +kernel) rfl ?_
  intro p e s m args below meth c s₁ B hml hv
  obtain ⟨rfl, ⟨hsz, hP, hK, hD0⟩, hT⟩ := hv
  have hx := B.exec
  have hb := B.bytes
  have hr := B.returns
  have hts := atoms_spec (ws := wsL_put) B.pre
  have hown : s.vm.findClass RL = some m.cls := findClass_of_methodNamed B.named
  have hlocks := B.notSynchronized
  have htab : c.exceptionTable.toList = tableOf [(0, 14, 17, 54), (0, 14, 21, 13), (0, 14, 25, 15), (0, 14, 29, 27)] := vx_table (x := yL_put) B (hts _ List.mem_cons_self)
  subst hsz
  have hD := hD0.self (sz := s.heap.size)
  generalize hAe : va_A (wX a cI cS f ++ [(o, .inl (cJ, 1, .inr (.inl g)))]) s.heap.size = A at hD hT ⊢
  have hA : ∀ q : Nat, s.heap.size ≤ q → A q := fun q h => by rw [← hAe]; exact Or.inr h
  have hS : va_S A s.heap s.heap [] := va_S.rf
  have hl := lv_entry ([.ref (a 0), .int p0, .int p1, .int p2, .int p3, .ref o]) (n := 7) (Nat.le_of_ble_eq_true rfl)
  rw [lg_entry_eq]
  generalize (lg_sl ([.ref (a 0), .int p0, .int p1, .int p2, .int p3, .ref o]) ++ List.replicate (7 - (lg_sl ([.ref (a 0), .int p0, .int p1, .int p2, .int p3, .ref o])).length) Slot.unset).toArray = ls at hl ⊢
  have hl : lv_has ls 7 [(0, .ref (a 0)), (1, .int p0), (2, .int p1), (3, .int p2), (4, .int p3), (5, .ref o)] := hl
  have hN : NS s := hT.ns
  refine lv_aload hx hb dL_put_0 (lv_at hl 5 rfl) ?_
  refine lv_iconst (v := 0) hx hb dL_put_2 (by decide) ?_
  refine lv_aload_n hx hb dL_put_3 rfl (lv_at hl 0 rfl) ?_
  refine lv_iload_n hx hb dL_put_4 rfl (lv_at hl 1 rfl) ?_
  refine lv_iload_n hx hb dL_put_5 rfl (lv_at hl 2 rfl) ?_
  refine lv_iload_n hx hb dL_put_6 rfl (lv_at hl 3 rfl) ?_
  refine lv_iload hx hb dL_put_7 (lv_at hl 4 rfl) ?_
  have hFc := va_free (wc := [((a 0), .inr (7, [.ref (a 1), .ref (a 2), .ref (a 3), .int 0, .int 0, .int 0, .int 0, .int 0, .int 0, .int 0])), ((a 1), .inr (6, [.ref (a 4), .ref (a 5), .ref (a 6), .ref (a 7)])), ((a 2), .inr (4, [.ref (a 8), .ref (a 9), .ref (a 10)])), ((a 3), .inl (cS, 3, .inr (.inr (.inr (.inr (fun _ => none)))))), ((a 4), .inl (cI, 21, .inl (f 0))), ((a 5), .inl (cI, 21, .inl (f 1))), ((a 6), .inl (cI, 21, .inl (f 2))), ((a 7), .inl (cI, 21, .inl (f 3))), ((a 8), .inl (cI, 4, .inl (fun _ => 0))), ((a 9), .inl (cI, 4, .inl (fun _ => 0))), ((a 10), .inl (cI, 4, .inl (f 4)))]) hD hS hA [0, 1, 2, 3, 4, 5, 6, 7, 8, 9, 10] rfl
  refine vx_calli (vx_runV (As := [.int p0, .int p1, .int p2, .int p3]) (rest := [.int 0, .ref o]) ⟨hx, hb, hml, hown, hts⟩ (k_put l hlt dC dI _ a cI cS f p0 p1 p2 p3) (cwV 4 hts gL_put_X3_put rfl rfl rfl (by decide +kernel) ⟨Nat.le_of_ble_eq_true rfl, Nat.le_of_ble_eq_true rfl⟩) ⟨fb_PT, va_recv hK hP (ci := 7) (q0 := 0) rfl rfl, fun U hU hW => ⟨rfl, PT.give hP hK hD hS hA hT [0, 1, 2, 3, 4, 5, 6, 7, 8, 9, 10] [0, 1] rfl rfl rfl rfl hU hW⟩⟩ rfl rfl hl.1 rfl (lv_room (Nat.le_of_ble_eq_true rfl)) dL_put_9 ⟨(Nat.le_of_ble_eq_true rfl), (Nat.le_of_ble_eq_true rfl)⟩) hS (fun q _ h => hFc q h) hFc (fun q _ h => hFc q h) (fun E ce q9 u t H locs ht hvm hpx hBX hz1 hk1 hS hcell hvn hcl => ?_) (fun r1 u t H locs ht hvm hw2 hB hz1 hk1 hS => ?_)
  · skip
    obtain rfl := hBX
    obtain ⟨rfl, -⟩ := hpx
    refine vx_catch (E := "java/lang/IndexOutOfBoundsException") (name := "java/lang/IndexOutOfBoundsException") hown [] ⟨0, 14, 17, 54⟩ [⟨0, 14, 21, 13⟩, ⟨0, 14, 25, 15⟩, ⟨0, 14, 29, 27⟩] (by rw [htab]; rfl) (fun z hz => absurd hz List.not_mem_nil) rfl (by decide) (hts (.classLink RL 54 "java/lang/IndexOutOfBoundsException") (by decide +kernel)) (th_any (a := #[]) rfl (hT.1 (.castable "java/lang/IndexOutOfBoundsException" "java/lang/IndexOutOfBoundsException") (by decide +kernel))) hcell hvn hcl ?_
    obtain ⟨hP, hD⟩ := aft0 [0, 1, 2, 3, 4, 5, 6, 7, 8, 9, 10] [11] hP hD rfl (wr := [(o, .inl (cJ, 1, .inr (.inl g)))]) rfl rfl (by decide) hFc hk1
    have hP : va_P (dC, dI) vwCl ([(o, .inl (cJ, 1, .inr (.inl g)))]) H := hP
    have hD : va_D A ([(o, .inl (cJ, 1, .inr (.inl g)))]) := hD
    refine W.eq (g2 := F0 m 17 ls [.ref q9]) rfl ?_
    refine lv_astore (lv' := [(6, .ref q9), (0, .ref (a 0)), (1, .int p0), (2, .int p1), (3, .int p2), (4, .int p3), (5, .ref o)]) hx hb dL_put_17 hl (by decide) rfl (fun ls hl => ?_)
    refine lv_iconst (v := 1) hx hb dL_put_19 (by decide) ?_
    refine W.widen (k := 1) (n := 6) (Nat.le_of_ble_eq_true rfl) (Nat.le_of_ble_eq_true rfl) ?_
    exact W.iret (v := 1) hx hb hr (fun t ht hW => ⟨⟨1, (), rfl, rfl, trivial⟩, hS.F ht⟩) hS.2.2 dL_put_20
  · skip
    obtain ⟨hP, hD⟩ := aft0 [0, 1, 2, 3, 4, 5, 6, 7, 8, 9, 10] [11] hP hD rfl (wr := [(o, .inl (cJ, 1, .inr (.inl g)))]) rfl rfl (by decide) hFc hk1
    have hP : va_P (dC, dI) vwCl ([(o, .inl (cJ, 1, .inr (.inl g)))]) H := hP
    have hD : va_D A ([(o, .inl (cJ, 1, .inr (.inl g)))]) := hD
    exact hw2.elim

set_option maxHeartbeats 4000000 in
set_option maxRecDepth 100000 in
/-- at: caught -/
theorem h_at (l : Launch) (hlt : l.stackTraces = false) (dC : Nat → ClassId) (dI : Nat → Nat → Nat) (sz : Nat) (a : Nat → Nat) (cI cS : ClassId) (f : Nat → Nat → Int32) (cJ : ClassId) (o : Nat) (g : Nat → Int64) (p0 : Int32) (p1 : Int32) (p2 : Int32)  : Met l yL_at wsL_at ({ frames := 7, cells := 1, slots := 6, locals := 106 }) (va_Pc [.ref (a 0), .int p0, .int p1, .int p2, .ref o] (PT dC dI (wX a cI cS f ++ [(o, .inl (cJ, 1, .inr (.inl g)))]) [(cI, .int), (cS, .object "Snowpalace$Site"), (cJ, .long)] sz)) (va_Qi (fun (r : Int32) (u : Unit) => r = 1) (fun (u : Unit) t => True) (va_A (wX a cI cS f ++ [(o, .inl (cJ, 1, .inr (.inl g)))]) sz)) 1 6 (va_A (wX a cI cS f ++ [(o, .inl (cJ, 1, .inr (.inl g)))]) sz) := by
  refine va_MetW (cc := cL_at) (maxL := 6) (ret := (some .int)) (hh := [(0, 12, 15, 54)]) (by decide +kernel) rfl ?_
  intro p e s m args below meth c s₁ B hml hv
  obtain ⟨rfl, ⟨hsz, hP, hK, hD0⟩, hT⟩ := hv
  have hx := B.exec
  have hb := B.bytes
  have hr := B.returns
  have hts := atoms_spec (ws := wsL_at) B.pre
  have hown : s.vm.findClass RL = some m.cls := findClass_of_methodNamed B.named
  have hlocks := B.notSynchronized
  have htab : c.exceptionTable.toList = tableOf [(0, 12, 15, 54)] := vx_table (x := yL_at) B (hts _ List.mem_cons_self)
  subst hsz
  have hD := hD0.self (sz := s.heap.size)
  generalize hAe : va_A (wX a cI cS f ++ [(o, .inl (cJ, 1, .inr (.inl g)))]) s.heap.size = A at hD hT ⊢
  have hA : ∀ q : Nat, s.heap.size ≤ q → A q := fun q h => by rw [← hAe]; exact Or.inr h
  have hS : va_S A s.heap s.heap [] := va_S.rf
  have hl := lv_entry ([.ref (a 0), .int p0, .int p1, .int p2, .ref o]) (n := 6) (Nat.le_of_ble_eq_true rfl)
  rw [lg_entry_eq]
  generalize (lg_sl ([.ref (a 0), .int p0, .int p1, .int p2, .ref o]) ++ List.replicate (6 - (lg_sl ([.ref (a 0), .int p0, .int p1, .int p2, .ref o])).length) Slot.unset).toArray = ls at hl ⊢
  have hl : lv_has ls 6 [(0, .ref (a 0)), (1, .int p0), (2, .int p1), (3, .int p2), (4, .ref o)] := hl
  have hN : NS s := hT.ns
  refine lv_aload hx hb dL_at_0 (lv_at hl 4 rfl) ?_
  refine lv_iconst (v := 0) hx hb dL_at_2 (by decide) ?_
  refine lv_aload_n hx hb dL_at_3 rfl (lv_at hl 0 rfl) ?_
  refine lv_iload_n hx hb dL_at_4 rfl (lv_at hl 1 rfl) ?_
  refine lv_iload_n hx hb dL_at_5 rfl (lv_at hl 2 rfl) ?_
  refine lv_iload_n hx hb dL_at_6 rfl (lv_at hl 3 rfl) ?_
  have hFc := va_free (wc := [((a 0), .inr (7, [.ref (a 1), .ref (a 2), .ref (a 3), .int 0, .int 0, .int 0, .int 0, .int 0, .int 0, .int 0])), ((a 1), .inr (6, [.ref (a 4), .ref (a 5), .ref (a 6), .ref (a 7)])), ((a 2), .inr (4, [.ref (a 8), .ref (a 9), .ref (a 10)])), ((a 3), .inl (cS, 3, .inr (.inr (.inr (.inr (fun _ => none)))))), ((a 4), .inl (cI, 21, .inl (f 0))), ((a 5), .inl (cI, 21, .inl (f 1))), ((a 6), .inl (cI, 21, .inl (f 2))), ((a 7), .inl (cI, 21, .inl (f 3))), ((a 8), .inl (cI, 4, .inl (fun _ => 0))), ((a 9), .inl (cI, 4, .inl (fun _ => 0))), ((a 10), .inl (cI, 4, .inl (f 4)))]) hD hS hA [0, 1, 2, 3, 4, 5, 6, 7, 8, 9, 10] rfl
  refine vx_calli (vx_runV (As := [.int p0, .int p1, .int p2]) (rest := [.int 0, .ref o]) ⟨hx, hb, hml, hown, hts⟩ (k_at l hlt dC dI _ a cI cS f p0 p1 p2) (cwV 3 hts gL_at_X3_at rfl rfl rfl (by decide +kernel) ⟨Nat.le_of_ble_eq_true rfl, Nat.le_of_ble_eq_true rfl⟩) ⟨fb_PT, va_recv hK hP (ci := 7) (q0 := 0) rfl rfl, fun U hU hW => ⟨rfl, PT.give hP hK hD hS hA hT [0, 1, 2, 3, 4, 5, 6, 7, 8, 9, 10] [0, 1] rfl rfl rfl rfl hU hW⟩⟩ rfl rfl hl.1 rfl (lv_room (Nat.le_of_ble_eq_true rfl)) dL_at_7 ⟨(Nat.le_of_ble_eq_true rfl), (Nat.le_of_ble_eq_true rfl)⟩) hS (fun q _ h => hFc q h) hFc (fun q _ h => hFc q h) (fun E ce q9 u t H locs ht hvm hpx hBX hz1 hk1 hS hcell hvn hcl => ?_) (fun r1 u t H locs ht hvm hw2 hB hz1 hk1 hS => ?_)
  · skip
    obtain rfl := hBX
    obtain ⟨rfl, -⟩ := hpx
    refine vx_catch (E := "java/lang/IndexOutOfBoundsException") (name := "java/lang/IndexOutOfBoundsException") hown [] ⟨0, 12, 15, 54⟩ [] (by rw [htab]; rfl) (fun z hz => absurd hz List.not_mem_nil) rfl (by decide) (hts (.classLink RL 54 "java/lang/IndexOutOfBoundsException") (by decide +kernel)) (th_any (a := #[]) rfl (hT.1 (.castable "java/lang/IndexOutOfBoundsException" "java/lang/IndexOutOfBoundsException") (by decide +kernel))) hcell hvn hcl ?_
    obtain ⟨hP, hD⟩ := aft0 [0, 1, 2, 3, 4, 5, 6, 7, 8, 9, 10] [11] hP hD rfl (wr := [(o, .inl (cJ, 1, .inr (.inl g)))]) rfl rfl (by decide) hFc hk1
    have hP : va_P (dC, dI) vwCl ([(o, .inl (cJ, 1, .inr (.inl g)))]) H := hP
    have hD : va_D A ([(o, .inl (cJ, 1, .inr (.inl g)))]) := hD
    refine W.eq (g2 := F0 m 15 ls [.ref q9]) rfl ?_
    refine lv_astore (lv' := [(5, .ref q9), (0, .ref (a 0)), (1, .int p0), (2, .int p1), (3, .int p2), (4, .ref o)]) hx hb dL_at_15 hl (by decide) rfl (fun ls hl => ?_)
    refine lv_iconst (v := 1) hx hb dL_at_17 (by decide) ?_
    refine W.widen (k := 1) (n := 6) (Nat.le_of_ble_eq_true rfl) (Nat.le_of_ble_eq_true rfl) ?_
    exact W.iret (v := 1) hx hb hr (fun t ht hW => ⟨⟨1, (), rfl, rfl, trivial⟩, hS.F ht⟩) hS.2.2 dL_at_18
  · skip
    obtain ⟨hP, hD⟩ := aft0 [0, 1, 2, 3, 4, 5, 6, 7, 8, 9, 10] [11] hP hD rfl (wr := [(o, .inl (cJ, 1, .inr (.inl g)))]) rfl rfl (by decide) hFc hk1
    have hP : va_P (dC, dI) vwCl ([(o, .inl (cJ, 1, .inr (.inl g)))]) H := hP
    have hD : va_D A ([(o, .inl (cJ, 1, .inr (.inl g)))]) := hD
    exact hw2.elim

set_option maxHeartbeats 4000000 in
set_option maxRecDepth 100000 in
/-- mass: caught -/
theorem h_mass (l : Launch) (hlt : l.stackTraces = false) (dC : Nat → ClassId) (dI : Nat → Nat → Nat) (sz : Nat) (a : Nat → Nat) (cI cS : ClassId) (f : Nat → Nat → Int32) (cJ : ClassId) (o : Nat) (g : Nat → Int64) (p0 : Int32) (p1 : Int32) (p2 : Int32)  : Met l yL_mass wzL_mass ({ frames := 7, cells := 1, slots := 6, locals := 106 }) (va_Pc [.ref (a 0), .int p0, .int p1, .int p2, .ref o] (PT dC dI (wX a cI cS f ++ [(o, .inl (cJ, 1, .inr (.inl g)))]) [(cI, .int), (cS, .object "Snowpalace$Site"), (cJ, .long)] sz)) (va_Qi (fun (r : Int32) (u : Unit) => r = 1) (fun (u : Unit) t => True) (va_A (wX a cI cS f ++ [(o, .inl (cJ, 1, .inr (.inl g)))]) sz)) 1 6 (va_A (wX a cI cS f ++ [(o, .inl (cJ, 1, .inr (.inl g)))]) sz) := by
  refine va_MetW (cc := cL_mass) (maxL := 6) (ret := (some .int)) (hh := [(0, 12, 15, 54), (0, 12, 19, 64)]) (by decide +kernel) rfl ?_
  intro p e s m args below meth c s₁ B hml hv
  obtain ⟨rfl, ⟨hsz, hP, hK, hD0⟩, hT⟩ := hv
  have hx := B.exec
  have hb := B.bytes
  have hr := B.returns
  have hts := atoms_spec (ws := wzL_mass) B.pre
  have hown : s.vm.findClass RL = some m.cls := findClass_of_methodNamed B.named
  have hlocks := B.notSynchronized
  have htab : c.exceptionTable.toList = tableOf [(0, 12, 15, 54), (0, 12, 19, 64)] := vx_table (x := yL_mass) B (hts _ List.mem_cons_self)
  subst hsz
  have hD := hD0.self (sz := s.heap.size)
  generalize hAe : va_A (wX a cI cS f ++ [(o, .inl (cJ, 1, .inr (.inl g)))]) s.heap.size = A at hD hT ⊢
  have hA : ∀ q : Nat, s.heap.size ≤ q → A q := fun q h => by rw [← hAe]; exact Or.inr h
  have hS : va_S A s.heap s.heap [] := va_S.rf
  have hl := lv_entry ([.ref (a 0), .int p0, .int p1, .int p2, .ref o]) (n := 6) (Nat.le_of_ble_eq_true rfl)
  rw [lg_entry_eq]
  generalize (lg_sl ([.ref (a 0), .int p0, .int p1, .int p2, .ref o]) ++ List.replicate (6 - (lg_sl ([.ref (a 0), .int p0, .int p1, .int p2, .ref o])).length) Slot.unset).toArray = ls at hl ⊢
  have hl : lv_has ls 6 [(0, .ref (a 0)), (1, .int p0), (2, .int p1), (3, .int p2), (4, .ref o)] := hl
  have hN : NS s := hT.ns
  refine lv_aload hx hb dL_mass_0 (lv_at hl 4 rfl) ?_
  refine lv_iconst (v := 0) hx hb dL_mass_2 (by decide) ?_
  refine lv_aload_n hx hb dL_mass_3 rfl (lv_at hl 0 rfl) ?_
  refine lv_iload_n hx hb dL_mass_4 rfl (lv_at hl 1 rfl) ?_
  refine lv_iload_n hx hb dL_mass_5 rfl (lv_at hl 2 rfl) ?_
  refine lv_iload_n hx hb dL_mass_6 rfl (lv_at hl 3 rfl) ?_
  have hFc := va_free (wc := [((a 0), .inr (7, [.ref (a 1), .ref (a 2), .ref (a 3), .int 0, .int 0, .int 0, .int 0, .int 0, .int 0, .int 0])), ((a 1), .inr (6, [.ref (a 4), .ref (a 5), .ref (a 6), .ref (a 7)])), ((a 2), .inr (4, [.ref (a 8), .ref (a 9), .ref (a 10)])), ((a 3), .inl (cS, 3, .inr (.inr (.inr (.inr (fun _ => none)))))), ((a 4), .inl (cI, 21, .inl (f 0))), ((a 5), .inl (cI, 21, .inl (f 1))), ((a 6), .inl (cI, 21, .inl (f 2))), ((a 7), .inl (cI, 21, .inl (f 3))), ((a 8), .inl (cI, 4, .inl (fun _ => 0))), ((a 9), .inl (cI, 4, .inl (fun _ => 0))), ((a 10), .inl (cI, 4, .inl (f 4)))]) hD hS hA [0, 1, 2, 3, 4, 5, 6, 7, 8, 9, 10] rfl
  refine vx_calli (vx_runV (As := [.int p0, .int p1, .int p2]) (rest := [.int 0, .ref o]) ⟨hx, hb, hml, hown, hts⟩ (k_mass l hlt dC dI _ a cI cS f p0 p1 p2) (cwV 3 hts gL_mass_X3_mass rfl rfl rfl (by decide +kernel) ⟨Nat.le_of_ble_eq_true rfl, Nat.le_of_ble_eq_true rfl⟩) ⟨fb_PT, va_recv hK hP (ci := 7) (q0 := 0) rfl rfl, fun U hU hW => ⟨rfl, PT.give hP hK hD hS hA hT [0, 1, 2, 3, 4, 5, 6, 7, 8, 9, 10] [0, 1] rfl rfl rfl rfl hU hW⟩⟩ rfl rfl hl.1 rfl (lv_room (Nat.le_of_ble_eq_true rfl)) dL_mass_7 ⟨(Nat.le_of_ble_eq_true rfl), (Nat.le_of_ble_eq_true rfl)⟩) hS (fun q _ h => hFc q h) hFc (fun q _ h => hFc q h) (fun E ce q9 u t H locs ht hvm hpx hBX hz1 hk1 hS hcell hvn hcl => ?_) (fun r1 u t H locs ht hvm hw2 hB hz1 hk1 hS => ?_)
  · skip
    obtain rfl := hBX
    obtain ⟨rfl, -⟩ := hpx
    refine vx_catch (E := "java/lang/IndexOutOfBoundsException") (name := "java/lang/IndexOutOfBoundsException") hown [] ⟨0, 12, 15, 54⟩ [⟨0, 12, 19, 64⟩] (by rw [htab]; rfl) (fun z hz => absurd hz List.not_mem_nil) rfl (by decide) (hts (.classLink RL 54 "java/lang/IndexOutOfBoundsException") (by decide +kernel)) (th_any (a := #[]) rfl (hT.1 (.castable "java/lang/IndexOutOfBoundsException" "java/lang/IndexOutOfBoundsException") (by decide +kernel))) hcell hvn hcl ?_
    obtain ⟨hP, hD⟩ := aft0 [0, 1, 2, 3, 4, 5, 6, 7, 8, 9, 10] [11] hP hD rfl (wr := [(o, .inl (cJ, 1, .inr (.inl g)))]) rfl rfl (by decide) hFc hk1
    have hP : va_P (dC, dI) vwCl ([(o, .inl (cJ, 1, .inr (.inl g)))]) H := hP
    have hD : va_D A ([(o, .inl (cJ, 1, .inr (.inl g)))]) := hD
    refine W.eq (g2 := F0 m 15 ls [.ref q9]) rfl ?_
    refine lv_astore (lv' := [(5, .ref q9), (0, .ref (a 0)), (1, .int p0), (2, .int p1), (3, .int p2), (4, .ref o)]) hx hb dL_mass_15 hl (by decide) rfl (fun ls hl => ?_)
    refine lv_iconst (v := 1) hx hb dL_mass_17 (by decide) ?_
    refine W.widen (k := 1) (n := 6) (Nat.le_of_ble_eq_true rfl) (Nat.le_of_ble_eq_true rfl) ?_
    exact W.iret (v := 1) hx hb hr (fun t ht hW => ⟨⟨1, (), rfl, rfl, trivial⟩, hS.F ht⟩) hS.2.2 dL_mass_18
  · skip
    obtain ⟨hP, hD⟩ := aft0 [0, 1, 2, 3, 4, 5, 6, 7, 8, 9, 10] [11] hP hD rfl (wr := [(o, .inl (cJ, 1, .inr (.inl g)))]) rfl rfl (by decide) hFc hk1
    have hP : va_P (dC, dI) vwCl ([(o, .inl (cJ, 1, .inr (.inl g)))]) H := hP
    have hD : va_D A ([(o, .inl (cJ, 1, .inr (.inl g)))]) := hD
    exact hw2.elim

set_option maxHeartbeats 4000000 in
set_option maxRecDepth 100000 in
/-- load: caught -/
theorem h_load (l : Launch) (hlt : l.stackTraces = false) (dC : Nat → ClassId) (dI : Nat → Nat → Nat) (sz : Nat) (a : Nat → Nat) (cI cS : ClassId) (f : Nat → Nat → Int32) (cJ : ClassId) (o : Nat) (g : Nat → Int64) (p0 : Int32) (p1 : Int32) (p2 : Int32)  : Met l yL_load wzL_load ({ frames := 7, cells := 1, slots := 6, locals := 106 }) (va_Pc [.ref (a 0), .int p0, .int p1, .int p2, .ref o] (PT dC dI (wX a cI cS f ++ [(o, .inl (cJ, 1, .inr (.inl g)))]) [(cI, .int), (cS, .object "Snowpalace$Site"), (cJ, .long)] sz)) (va_Qi (fun (r : Int32) (u : Unit) => r = 1) (fun (u : Unit) t => True) (va_A (wX a cI cS f ++ [(o, .inl (cJ, 1, .inr (.inl g)))]) sz)) 1 6 (va_A (wX a cI cS f ++ [(o, .inl (cJ, 1, .inr (.inl g)))]) sz) := by
  refine va_MetW (cc := cL_load) (maxL := 6) (ret := (some .int)) (hh := [(0, 12, 15, 54), (0, 12, 19, 64)]) (by decide +kernel) rfl ?_
  intro p e s m args below meth c s₁ B hml hv
  obtain ⟨rfl, ⟨hsz, hP, hK, hD0⟩, hT⟩ := hv
  have hx := B.exec
  have hb := B.bytes
  have hr := B.returns
  have hts := atoms_spec (ws := wzL_load) B.pre
  have hown : s.vm.findClass RL = some m.cls := findClass_of_methodNamed B.named
  have hlocks := B.notSynchronized
  have htab : c.exceptionTable.toList = tableOf [(0, 12, 15, 54), (0, 12, 19, 64)] := vx_table (x := yL_load) B (hts _ List.mem_cons_self)
  subst hsz
  have hD := hD0.self (sz := s.heap.size)
  generalize hAe : va_A (wX a cI cS f ++ [(o, .inl (cJ, 1, .inr (.inl g)))]) s.heap.size = A at hD hT ⊢
  have hA : ∀ q : Nat, s.heap.size ≤ q → A q := fun q h => by rw [← hAe]; exact Or.inr h
  have hS : va_S A s.heap s.heap [] := va_S.rf
  have hl := lv_entry ([.ref (a 0), .int p0, .int p1, .int p2, .ref o]) (n := 6) (Nat.le_of_ble_eq_true rfl)
  rw [lg_entry_eq]
  generalize (lg_sl ([.ref (a 0), .int p0, .int p1, .int p2, .ref o]) ++ List.replicate (6 - (lg_sl ([.ref (a 0), .int p0, .int p1, .int p2, .ref o])).length) Slot.unset).toArray = ls at hl ⊢
  have hl : lv_has ls 6 [(0, .ref (a 0)), (1, .int p0), (2, .int p1), (3, .int p2), (4, .ref o)] := hl
  have hN : NS s := hT.ns
  refine lv_aload hx hb dL_load_0 (lv_at hl 4 rfl) ?_
  refine lv_iconst (v := 0) hx hb dL_load_2 (by decide) ?_
  refine lv_aload_n hx hb dL_load_3 rfl (lv_at hl 0 rfl) ?_
  refine lv_iload_n hx hb dL_load_4 rfl (lv_at hl 1 rfl) ?_
  refine lv_iload_n hx hb dL_load_5 rfl (lv_at hl 2 rfl) ?_
  refine lv_iload_n hx hb dL_load_6 rfl (lv_at hl 3 rfl) ?_
  have hFc := va_free (wc := [((a 0), .inr (7, [.ref (a 1), .ref (a 2), .ref (a 3), .int 0, .int 0, .int 0, .int 0, .int 0, .int 0, .int 0])), ((a 1), .inr (6, [.ref (a 4), .ref (a 5), .ref (a 6), .ref (a 7)])), ((a 2), .inr (4, [.ref (a 8), .ref (a 9), .ref (a 10)])), ((a 3), .inl (cS, 3, .inr (.inr (.inr (.inr (fun _ => none)))))), ((a 4), .inl (cI, 21, .inl (f 0))), ((a 5), .inl (cI, 21, .inl (f 1))), ((a 6), .inl (cI, 21, .inl (f 2))), ((a 7), .inl (cI, 21, .inl (f 3))), ((a 8), .inl (cI, 4, .inl (fun _ => 0))), ((a 9), .inl (cI, 4, .inl (fun _ => 0))), ((a 10), .inl (cI, 4, .inl (f 4)))]) hD hS hA [0, 1, 2, 3, 4, 5, 6, 7, 8, 9, 10] rfl
  refine vx_calli (vx_runV (As := [.int p0, .int p1, .int p2]) (rest := [.int 0, .ref o]) ⟨hx, hb, hml, hown, hts⟩ (k_load l hlt dC dI _ a cI cS f p0 p1 p2) (cwV 3 hts gL_load_X3_load rfl rfl rfl (by decide +kernel) ⟨Nat.le_of_ble_eq_true rfl, Nat.le_of_ble_eq_true rfl⟩) ⟨fb_PT, va_recv hK hP (ci := 7) (q0 := 0) rfl rfl, fun U hU hW => ⟨rfl, PT.give hP hK hD hS hA hT [0, 1, 2, 3, 4, 5, 6, 7, 8, 9, 10] [0, 1] rfl rfl rfl rfl hU hW⟩⟩ rfl rfl hl.1 rfl (lv_room (Nat.le_of_ble_eq_true rfl)) dL_load_7 ⟨(Nat.le_of_ble_eq_true rfl), (Nat.le_of_ble_eq_true rfl)⟩) hS (fun q _ h => hFc q h) hFc (fun q _ h => hFc q h) (fun E ce q9 u t H locs ht hvm hpx hBX hz1 hk1 hS hcell hvn hcl => ?_) (fun r1 u t H locs ht hvm hw2 hB hz1 hk1 hS => ?_)
  · skip
    obtain rfl := hBX
    obtain ⟨rfl, -⟩ := hpx
    refine vx_catch (E := "java/lang/IndexOutOfBoundsException") (name := "java/lang/IndexOutOfBoundsException") hown [] ⟨0, 12, 15, 54⟩ [⟨0, 12, 19, 64⟩] (by rw [htab]; rfl) (fun z hz => absurd hz List.not_mem_nil) rfl (by decide) (hts (.classLink RL 54 "java/lang/IndexOutOfBoundsException") (by decide +kernel)) (th_any (a := #[]) rfl (hT.1 (.castable "java/lang/IndexOutOfBoundsException" "java/lang/IndexOutOfBoundsException") (by decide +kernel))) hcell hvn hcl ?_
    obtain ⟨hP, hD⟩ := aft0 [0, 1, 2, 3, 4, 5, 6, 7, 8, 9, 10] [11] hP hD rfl (wr := [(o, .inl (cJ, 1, .inr (.inl g)))]) rfl rfl (by decide) hFc hk1
    have hP : va_P (dC, dI) vwCl ([(o, .inl (cJ, 1, .inr (.inl g)))]) H := hP
    have hD : va_D A ([(o, .inl (cJ, 1, .inr (.inl g)))]) := hD
    refine W.eq (g2 := F0 m 15 ls [.ref q9]) rfl ?_
    refine lv_astore (lv' := [(5, .ref q9), (0, .ref (a 0)), (1, .int p0), (2, .int p1), (3, .int p2), (4, .ref o)]) hx hb dL_load_15 hl (by decide) rfl (fun ls hl => ?_)
    refine lv_iconst (v := 1) hx hb dL_load_17 (by decide) ?_
    refine W.widen (k := 1) (n := 6) (Nat.le_of_ble_eq_true rfl) (Nat.le_of_ble_eq_true rfl) ?_
    exact W.iret (v := 1) hx hb hr (fun t ht hW => ⟨⟨1, (), rfl, rfl, trivial⟩, hS.F ht⟩) hS.2.2 dL_load_18
  · skip
    obtain ⟨hP, hD⟩ := aft0 [0, 1, 2, 3, 4, 5, 6, 7, 8, 9, 10] [11] hP hD rfl (wr := [(o, .inl (cJ, 1, .inr (.inl g)))]) rfl rfl (by decide) hFc hk1
    have hP : va_P (dC, dI) vwCl ([(o, .inl (cJ, 1, .inr (.inl g)))]) H := hP
    have hD : va_D A ([(o, .inl (cJ, 1, .inr (.inl g)))]) := hD
    exact hw2.elim

set_option maxHeartbeats 4000000 in
set_option maxRecDepth 100000 in
/-- strength: caught -/
theorem h_strength (l : Launch) (hlt : l.stackTraces = false) (dC : Nat → ClassId) (dI : Nat → Nat → Nat) (sz : Nat) (a : Nat → Nat) (cI cS : ClassId) (f : Nat → Nat → Int32) (cJ : ClassId) (o : Nat) (g : Nat → Int64) (p0 : Int32) (p1 : Int32) (p2 : Int32)  : Met l yL_strength wzL_strength ({ frames := 7, cells := 1, slots := 6, locals := 106 }) (va_Pc [.ref (a 0), .int p0, .int p1, .int p2, .ref o] (PT dC dI (wX a cI cS f ++ [(o, .inl (cJ, 1, .inr (.inl g)))]) [(cI, .int), (cS, .object "Snowpalace$Site"), (cJ, .long)] sz)) (va_Qi (fun (r : Int32) (u : Unit) => r = 1) (fun (u : Unit) t => True) (va_A (wX a cI cS f ++ [(o, .inl (cJ, 1, .inr (.inl g)))]) sz)) 1 6 (va_A (wX a cI cS f ++ [(o, .inl (cJ, 1, .inr (.inl g)))]) sz) := by
  refine va_MetW (cc := cL_strength) (maxL := 6) (ret := (some .int)) (hh := [(0, 12, 15, 54), (0, 12, 19, 64)]) (by decide +kernel) rfl ?_
  intro p e s m args below meth c s₁ B hml hv
  obtain ⟨rfl, ⟨hsz, hP, hK, hD0⟩, hT⟩ := hv
  have hx := B.exec
  have hb := B.bytes
  have hr := B.returns
  have hts := atoms_spec (ws := wzL_strength) B.pre
  have hown : s.vm.findClass RL = some m.cls := findClass_of_methodNamed B.named
  have hlocks := B.notSynchronized
  have htab : c.exceptionTable.toList = tableOf [(0, 12, 15, 54), (0, 12, 19, 64)] := vx_table (x := yL_strength) B (hts _ List.mem_cons_self)
  subst hsz
  have hD := hD0.self (sz := s.heap.size)
  generalize hAe : va_A (wX a cI cS f ++ [(o, .inl (cJ, 1, .inr (.inl g)))]) s.heap.size = A at hD hT ⊢
  have hA : ∀ q : Nat, s.heap.size ≤ q → A q := fun q h => by rw [← hAe]; exact Or.inr h
  have hS : va_S A s.heap s.heap [] := va_S.rf
  have hl := lv_entry ([.ref (a 0), .int p0, .int p1, .int p2, .ref o]) (n := 6) (Nat.le_of_ble_eq_true rfl)
  rw [lg_entry_eq]
  generalize (lg_sl ([.ref (a 0), .int p0, .int p1, .int p2, .ref o]) ++ List.replicate (6 - (lg_sl ([.ref (a 0), .int p0, .int p1, .int p2, .ref o])).length) Slot.unset).toArray = ls at hl ⊢
  have hl : lv_has ls 6 [(0, .ref (a 0)), (1, .int p0), (2, .int p1), (3, .int p2), (4, .ref o)] := hl
  have hN : NS s := hT.ns
  refine lv_aload hx hb dL_strength_0 (lv_at hl 4 rfl) ?_
  refine lv_iconst (v := 0) hx hb dL_strength_2 (by decide) ?_
  refine lv_aload_n hx hb dL_strength_3 rfl (lv_at hl 0 rfl) ?_
  refine lv_iload_n hx hb dL_strength_4 rfl (lv_at hl 1 rfl) ?_
  refine lv_iload_n hx hb dL_strength_5 rfl (lv_at hl 2 rfl) ?_
  refine lv_iload_n hx hb dL_strength_6 rfl (lv_at hl 3 rfl) ?_
  have hFc := va_free (wc := [((a 0), .inr (7, [.ref (a 1), .ref (a 2), .ref (a 3), .int 0, .int 0, .int 0, .int 0, .int 0, .int 0, .int 0])), ((a 1), .inr (6, [.ref (a 4), .ref (a 5), .ref (a 6), .ref (a 7)])), ((a 2), .inr (4, [.ref (a 8), .ref (a 9), .ref (a 10)])), ((a 3), .inl (cS, 3, .inr (.inr (.inr (.inr (fun _ => none)))))), ((a 4), .inl (cI, 21, .inl (f 0))), ((a 5), .inl (cI, 21, .inl (f 1))), ((a 6), .inl (cI, 21, .inl (f 2))), ((a 7), .inl (cI, 21, .inl (f 3))), ((a 8), .inl (cI, 4, .inl (fun _ => 0))), ((a 9), .inl (cI, 4, .inl (fun _ => 0))), ((a 10), .inl (cI, 4, .inl (f 4)))]) hD hS hA [0, 1, 2, 3, 4, 5, 6, 7, 8, 9, 10] rfl
  refine vx_calli (vx_runV (As := [.int p0, .int p1, .int p2]) (rest := [.int 0, .ref o]) ⟨hx, hb, hml, hown, hts⟩ (k_strength l hlt dC dI _ a cI cS f p0 p1 p2) (cwV 3 hts gL_strength_X3_strength rfl rfl rfl (by decide +kernel) ⟨Nat.le_of_ble_eq_true rfl, Nat.le_of_ble_eq_true rfl⟩) ⟨fb_PT, va_recv hK hP (ci := 7) (q0 := 0) rfl rfl, fun U hU hW => ⟨rfl, PT.give hP hK hD hS hA hT [0, 1, 2, 3, 4, 5, 6, 7, 8, 9, 10] [0, 1] rfl rfl rfl rfl hU hW⟩⟩ rfl rfl hl.1 rfl (lv_room (Nat.le_of_ble_eq_true rfl)) dL_strength_7 ⟨(Nat.le_of_ble_eq_true rfl), (Nat.le_of_ble_eq_true rfl)⟩) hS (fun q _ h => hFc q h) hFc (fun q _ h => hFc q h) (fun E ce q9 u t H locs ht hvm hpx hBX hz1 hk1 hS hcell hvn hcl => ?_) (fun r1 u t H locs ht hvm hw2 hB hz1 hk1 hS => ?_)
  · skip
    obtain rfl := hBX
    obtain ⟨rfl, -⟩ := hpx
    refine vx_catch (E := "java/lang/IndexOutOfBoundsException") (name := "java/lang/IndexOutOfBoundsException") hown [] ⟨0, 12, 15, 54⟩ [⟨0, 12, 19, 64⟩] (by rw [htab]; rfl) (fun z hz => absurd hz List.not_mem_nil) rfl (by decide) (hts (.classLink RL 54 "java/lang/IndexOutOfBoundsException") (by decide +kernel)) (th_any (a := #[]) rfl (hT.1 (.castable "java/lang/IndexOutOfBoundsException" "java/lang/IndexOutOfBoundsException") (by decide +kernel))) hcell hvn hcl ?_
    obtain ⟨hP, hD⟩ := aft0 [0, 1, 2, 3, 4, 5, 6, 7, 8, 9, 10] [11] hP hD rfl (wr := [(o, .inl (cJ, 1, .inr (.inl g)))]) rfl rfl (by decide) hFc hk1
    have hP : va_P (dC, dI) vwCl ([(o, .inl (cJ, 1, .inr (.inl g)))]) H := hP
    have hD : va_D A ([(o, .inl (cJ, 1, .inr (.inl g)))]) := hD
    refine W.eq (g2 := F0 m 15 ls [.ref q9]) rfl ?_
    refine lv_astore (lv' := [(5, .ref q9), (0, .ref (a 0)), (1, .int p0), (2, .int p1), (3, .int p2), (4, .ref o)]) hx hb dL_strength_15 hl (by decide) rfl (fun ls hl => ?_)
    refine lv_iconst (v := 1) hx hb dL_strength_17 (by decide) ?_
    refine W.widen (k := 1) (n := 6) (Nat.le_of_ble_eq_true rfl) (Nat.le_of_ble_eq_true rfl) ?_
    exact W.iret (v := 1) hx hb hr (fun t ht hW => ⟨⟨1, (), rfl, rfl, trivial⟩, hS.F ht⟩) hS.2.2 dL_strength_18
  · skip
    obtain ⟨hP, hD⟩ := aft0 [0, 1, 2, 3, 4, 5, 6, 7, 8, 9, 10] [11] hP hD rfl (wr := [(o, .inl (cJ, 1, .inr (.inl g)))]) rfl rfl (by decide) hFc hk1
    have hP : va_P (dC, dI) vwCl ([(o, .inl (cJ, 1, .inr (.inl g)))]) H := hP
    have hD : va_D A ([(o, .inl (cJ, 1, .inr (.inl g)))]) := hD
    exact hw2.elim

set_option maxHeartbeats 4000000 in
set_option maxRecDepth 100000 in
/-- creep: caught -/
theorem h_creep (l : Launch) (hlt : l.stackTraces = false) (dC : Nat → ClassId) (dI : Nat → Nat → Nat) (sz : Nat) (a : Nat → Nat) (cI cS : ClassId) (f : Nat → Nat → Int32) (cJ : ClassId) (o : Nat) (g : Nat → Int64) (p0 : Int32) (p1 : Int32) (p2 : Int32)  : Met l yL_creep wzL_creep ({ frames := 7, cells := 1, slots := 6, locals := 106 }) (va_Pc [.ref (a 0), .int p0, .int p1, .int p2, .ref o] (PT dC dI (wX a cI cS f ++ [(o, .inl (cJ, 1, .inr (.inl g)))]) [(cI, .int), (cS, .object "Snowpalace$Site"), (cJ, .long)] sz)) (va_Qi (fun (r : Int32) (u : Unit) => r = 1) (fun (u : Unit) t => True) (va_A (wX a cI cS f ++ [(o, .inl (cJ, 1, .inr (.inl g)))]) sz)) 1 6 (va_A (wX a cI cS f ++ [(o, .inl (cJ, 1, .inr (.inl g)))]) sz) := by
  refine va_MetW (cc := cL_creep) (maxL := 6) (ret := (some .int)) (hh := [(0, 12, 15, 54), (0, 12, 19, 64)]) (by decide +kernel) rfl ?_
  intro p e s m args below meth c s₁ B hml hv
  obtain ⟨rfl, ⟨hsz, hP, hK, hD0⟩, hT⟩ := hv
  have hx := B.exec
  have hb := B.bytes
  have hr := B.returns
  have hts := atoms_spec (ws := wzL_creep) B.pre
  have hown : s.vm.findClass RL = some m.cls := findClass_of_methodNamed B.named
  have hlocks := B.notSynchronized
  have htab : c.exceptionTable.toList = tableOf [(0, 12, 15, 54), (0, 12, 19, 64)] := vx_table (x := yL_creep) B (hts _ List.mem_cons_self)
  subst hsz
  have hD := hD0.self (sz := s.heap.size)
  generalize hAe : va_A (wX a cI cS f ++ [(o, .inl (cJ, 1, .inr (.inl g)))]) s.heap.size = A at hD hT ⊢
  have hA : ∀ q : Nat, s.heap.size ≤ q → A q := fun q h => by rw [← hAe]; exact Or.inr h
  have hS : va_S A s.heap s.heap [] := va_S.rf
  have hl := lv_entry ([.ref (a 0), .int p0, .int p1, .int p2, .ref o]) (n := 6) (Nat.le_of_ble_eq_true rfl)
  rw [lg_entry_eq]
  generalize (lg_sl ([.ref (a 0), .int p0, .int p1, .int p2, .ref o]) ++ List.replicate (6 - (lg_sl ([.ref (a 0), .int p0, .int p1, .int p2, .ref o])).length) Slot.unset).toArray = ls at hl ⊢
  have hl : lv_has ls 6 [(0, .ref (a 0)), (1, .int p0), (2, .int p1), (3, .int p2), (4, .ref o)] := hl
  have hN : NS s := hT.ns
  refine lv_aload hx hb dL_creep_0 (lv_at hl 4 rfl) ?_
  refine lv_iconst (v := 0) hx hb dL_creep_2 (by decide) ?_
  refine lv_aload_n hx hb dL_creep_3 rfl (lv_at hl 0 rfl) ?_
  refine lv_iload_n hx hb dL_creep_4 rfl (lv_at hl 1 rfl) ?_
  refine lv_iload_n hx hb dL_creep_5 rfl (lv_at hl 2 rfl) ?_
  refine lv_iload_n hx hb dL_creep_6 rfl (lv_at hl 3 rfl) ?_
  have hFc := va_free (wc := [((a 0), .inr (7, [.ref (a 1), .ref (a 2), .ref (a 3), .int 0, .int 0, .int 0, .int 0, .int 0, .int 0, .int 0])), ((a 1), .inr (6, [.ref (a 4), .ref (a 5), .ref (a 6), .ref (a 7)])), ((a 2), .inr (4, [.ref (a 8), .ref (a 9), .ref (a 10)])), ((a 3), .inl (cS, 3, .inr (.inr (.inr (.inr (fun _ => none)))))), ((a 4), .inl (cI, 21, .inl (f 0))), ((a 5), .inl (cI, 21, .inl (f 1))), ((a 6), .inl (cI, 21, .inl (f 2))), ((a 7), .inl (cI, 21, .inl (f 3))), ((a 8), .inl (cI, 4, .inl (fun _ => 0))), ((a 9), .inl (cI, 4, .inl (fun _ => 0))), ((a 10), .inl (cI, 4, .inl (f 4)))]) hD hS hA [0, 1, 2, 3, 4, 5, 6, 7, 8, 9, 10] rfl
  refine vx_calli (vx_runV (As := [.int p0, .int p1, .int p2]) (rest := [.int 0, .ref o]) ⟨hx, hb, hml, hown, hts⟩ (k_creep l hlt dC dI _ a cI cS f p0 p1 p2) (cwV 3 hts gL_creep_X3_creep rfl rfl rfl (by decide +kernel) ⟨Nat.le_of_ble_eq_true rfl, Nat.le_of_ble_eq_true rfl⟩) ⟨fb_PT, va_recv hK hP (ci := 7) (q0 := 0) rfl rfl, fun U hU hW => ⟨rfl, PT.give hP hK hD hS hA hT [0, 1, 2, 3, 4, 5, 6, 7, 8, 9, 10] [0, 1] rfl rfl rfl rfl hU hW⟩⟩ rfl rfl hl.1 rfl (lv_room (Nat.le_of_ble_eq_true rfl)) dL_creep_7 ⟨(Nat.le_of_ble_eq_true rfl), (Nat.le_of_ble_eq_true rfl)⟩) hS (fun q _ h => hFc q h) hFc (fun q _ h => hFc q h) (fun E ce q9 u t H locs ht hvm hpx hBX hz1 hk1 hS hcell hvn hcl => ?_) (fun r1 u t H locs ht hvm hw2 hB hz1 hk1 hS => ?_)
  · skip
    obtain rfl := hBX
    obtain ⟨rfl, -⟩ := hpx
    refine vx_catch (E := "java/lang/IndexOutOfBoundsException") (name := "java/lang/IndexOutOfBoundsException") hown [] ⟨0, 12, 15, 54⟩ [⟨0, 12, 19, 64⟩] (by rw [htab]; rfl) (fun z hz => absurd hz List.not_mem_nil) rfl (by decide) (hts (.classLink RL 54 "java/lang/IndexOutOfBoundsException") (by decide +kernel)) (th_any (a := #[]) rfl (hT.1 (.castable "java/lang/IndexOutOfBoundsException" "java/lang/IndexOutOfBoundsException") (by decide +kernel))) hcell hvn hcl ?_
    obtain ⟨hP, hD⟩ := aft0 [0, 1, 2, 3, 4, 5, 6, 7, 8, 9, 10] [11] hP hD rfl (wr := [(o, .inl (cJ, 1, .inr (.inl g)))]) rfl rfl (by decide) hFc hk1
    have hP : va_P (dC, dI) vwCl ([(o, .inl (cJ, 1, .inr (.inl g)))]) H := hP
    have hD : va_D A ([(o, .inl (cJ, 1, .inr (.inl g)))]) := hD
    refine W.eq (g2 := F0 m 15 ls [.ref q9]) rfl ?_
    refine lv_astore (lv' := [(5, .ref q9), (0, .ref (a 0)), (1, .int p0), (2, .int p1), (3, .int p2), (4, .ref o)]) hx hb dL_creep_15 hl (by decide) rfl (fun ls hl => ?_)
    refine lv_iconst (v := 1) hx hb dL_creep_17 (by decide) ?_
    refine W.widen (k := 1) (n := 6) (Nat.le_of_ble_eq_true rfl) (Nat.le_of_ble_eq_true rfl) ?_
    exact W.iret (v := 1) hx hb hr (fun t ht hW => ⟨⟨1, (), rfl, rfl, trivial⟩, hS.F ht⟩) hS.2.2 dL_creep_18
  · skip
    obtain ⟨hP, hD⟩ := aft0 [0, 1, 2, 3, 4, 5, 6, 7, 8, 9, 10] [11] hP hD rfl (wr := [(o, .inl (cJ, 1, .inr (.inl g)))]) rfl rfl (by decide) hFc hk1
    have hP : va_P (dC, dI) vwCl ([(o, .inl (cJ, 1, .inr (.inl g)))]) H := hP
    have hD : va_D A ([(o, .inl (cJ, 1, .inr (.inl g)))]) := hD
    exact hw2.elim

set_option maxHeartbeats 4000000 in
set_option maxRecDepth 100000 in
/-- age: caught -/
theorem h_age (l : Launch) (hlt : l.stackTraces = false) (dC : Nat → ClassId) (dI : Nat → Nat → Nat) (sz : Nat) (a : Nat → Nat) (cI cS : ClassId) (f : Nat → Nat → Int32) (cJ : ClassId) (o : Nat) (g : Nat → Int64) (p0 : Int32) (p1 : Int32) (p2 : Int32)  : Met l yL_age wzL_age ({ frames := 7, cells := 1, slots := 6, locals := 106 }) (va_Pc [.ref (a 0), .int p0, .int p1, .int p2, .ref o] (PT dC dI (wX a cI cS f ++ [(o, .inl (cJ, 1, .inr (.inl g)))]) [(cI, .int), (cS, .object "Snowpalace$Site"), (cJ, .long)] sz)) (va_Qi (fun (r : Int32) (u : Unit) => r = 1) (fun (u : Unit) t => True) (va_A (wX a cI cS f ++ [(o, .inl (cJ, 1, .inr (.inl g)))]) sz)) 1 6 (va_A (wX a cI cS f ++ [(o, .inl (cJ, 1, .inr (.inl g)))]) sz) := by
  refine va_MetW (cc := cL_age) (maxL := 6) (ret := (some .int)) (hh := [(0, 12, 15, 54), (0, 12, 19, 64)]) (by decide +kernel) rfl ?_
  intro p e s m args below meth c s₁ B hml hv
  obtain ⟨rfl, ⟨hsz, hP, hK, hD0⟩, hT⟩ := hv
  have hx := B.exec
  have hb := B.bytes
  have hr := B.returns
  have hts := atoms_spec (ws := wzL_age) B.pre
  have hown : s.vm.findClass RL = some m.cls := findClass_of_methodNamed B.named
  have hlocks := B.notSynchronized
  have htab : c.exceptionTable.toList = tableOf [(0, 12, 15, 54), (0, 12, 19, 64)] := vx_table (x := yL_age) B (hts _ List.mem_cons_self)
  subst hsz
  have hD := hD0.self (sz := s.heap.size)
  generalize hAe : va_A (wX a cI cS f ++ [(o, .inl (cJ, 1, .inr (.inl g)))]) s.heap.size = A at hD hT ⊢
  have hA : ∀ q : Nat, s.heap.size ≤ q → A q := fun q h => by rw [← hAe]; exact Or.inr h
  have hS : va_S A s.heap s.heap [] := va_S.rf
  have hl := lv_entry ([.ref (a 0), .int p0, .int p1, .int p2, .ref o]) (n := 6) (Nat.le_of_ble_eq_true rfl)
  rw [lg_entry_eq]
  generalize (lg_sl ([.ref (a 0), .int p0, .int p1, .int p2, .ref o]) ++ List.replicate (6 - (lg_sl ([.ref (a 0), .int p0, .int p1, .int p2, .ref o])).length) Slot.unset).toArray = ls at hl ⊢
  have hl : lv_has ls 6 [(0, .ref (a 0)), (1, .int p0), (2, .int p1), (3, .int p2), (4, .ref o)] := hl
  have hN : NS s := hT.ns
  refine lv_aload hx hb dL_age_0 (lv_at hl 4 rfl) ?_
  refine lv_iconst (v := 0) hx hb dL_age_2 (by decide) ?_
  refine lv_aload_n hx hb dL_age_3 rfl (lv_at hl 0 rfl) ?_
  refine lv_iload_n hx hb dL_age_4 rfl (lv_at hl 1 rfl) ?_
  refine lv_iload_n hx hb dL_age_5 rfl (lv_at hl 2 rfl) ?_
  refine lv_iload_n hx hb dL_age_6 rfl (lv_at hl 3 rfl) ?_
  have hFc := va_free (wc := [((a 0), .inr (7, [.ref (a 1), .ref (a 2), .ref (a 3), .int 0, .int 0, .int 0, .int 0, .int 0, .int 0, .int 0])), ((a 1), .inr (6, [.ref (a 4), .ref (a 5), .ref (a 6), .ref (a 7)])), ((a 2), .inr (4, [.ref (a 8), .ref (a 9), .ref (a 10)])), ((a 3), .inl (cS, 3, .inr (.inr (.inr (.inr (fun _ => none)))))), ((a 4), .inl (cI, 21, .inl (f 0))), ((a 5), .inl (cI, 21, .inl (f 1))), ((a 6), .inl (cI, 21, .inl (f 2))), ((a 7), .inl (cI, 21, .inl (f 3))), ((a 8), .inl (cI, 4, .inl (fun _ => 0))), ((a 9), .inl (cI, 4, .inl (fun _ => 0))), ((a 10), .inl (cI, 4, .inl (f 4)))]) hD hS hA [0, 1, 2, 3, 4, 5, 6, 7, 8, 9, 10] rfl
  refine vx_calli (vx_runV (As := [.int p0, .int p1, .int p2]) (rest := [.int 0, .ref o]) ⟨hx, hb, hml, hown, hts⟩ (k_age l hlt dC dI _ a cI cS f p0 p1 p2) (cwV 3 hts gL_age_X3_age rfl rfl rfl (by decide +kernel) ⟨Nat.le_of_ble_eq_true rfl, Nat.le_of_ble_eq_true rfl⟩) ⟨fb_PT, va_recv hK hP (ci := 7) (q0 := 0) rfl rfl, fun U hU hW => ⟨rfl, PT.give hP hK hD hS hA hT [0, 1, 2, 3, 4, 5, 6, 7, 8, 9, 10] [0, 1] rfl rfl rfl rfl hU hW⟩⟩ rfl rfl hl.1 rfl (lv_room (Nat.le_of_ble_eq_true rfl)) dL_age_7 ⟨(Nat.le_of_ble_eq_true rfl), (Nat.le_of_ble_eq_true rfl)⟩) hS (fun q _ h => hFc q h) hFc (fun q _ h => hFc q h) (fun E ce q9 u t H locs ht hvm hpx hBX hz1 hk1 hS hcell hvn hcl => ?_) (fun r1 u t H locs ht hvm hw2 hB hz1 hk1 hS => ?_)
  · skip
    obtain rfl := hBX
    obtain ⟨rfl, -⟩ := hpx
    refine vx_catch (E := "java/lang/IndexOutOfBoundsException") (name := "java/lang/IndexOutOfBoundsException") hown [] ⟨0, 12, 15, 54⟩ [⟨0, 12, 19, 64⟩] (by rw [htab]; rfl) (fun z hz => absurd hz List.not_mem_nil) rfl (by decide) (hts (.classLink RL 54 "java/lang/IndexOutOfBoundsException") (by decide +kernel)) (th_any (a := #[]) rfl (hT.1 (.castable "java/lang/IndexOutOfBoundsException" "java/lang/IndexOutOfBoundsException") (by decide +kernel))) hcell hvn hcl ?_
    obtain ⟨hP, hD⟩ := aft0 [0, 1, 2, 3, 4, 5, 6, 7, 8, 9, 10] [11] hP hD rfl (wr := [(o, .inl (cJ, 1, .inr (.inl g)))]) rfl rfl (by decide) hFc hk1
    have hP : va_P (dC, dI) vwCl ([(o, .inl (cJ, 1, .inr (.inl g)))]) H := hP
    have hD : va_D A ([(o, .inl (cJ, 1, .inr (.inl g)))]) := hD
    refine W.eq (g2 := F0 m 15 ls [.ref q9]) rfl ?_
    refine lv_astore (lv' := [(5, .ref q9), (0, .ref (a 0)), (1, .int p0), (2, .int p1), (3, .int p2), (4, .ref o)]) hx hb dL_age_15 hl (by decide) rfl (fun ls hl => ?_)
    refine lv_iconst (v := 1) hx hb dL_age_17 (by decide) ?_
    refine W.widen (k := 1) (n := 6) (Nat.le_of_ble_eq_true rfl) (Nat.le_of_ble_eq_true rfl) ?_
    exact W.iret (v := 1) hx hb hr (fun t ht hW => ⟨⟨1, (), rfl, rfl, trivial⟩, hS.F ht⟩) hS.2.2 dL_age_18
  · skip
    obtain ⟨hP, hD⟩ := aft0 [0, 1, 2, 3, 4, 5, 6, 7, 8, 9, 10] [11] hP hD rfl (wr := [(o, .inl (cJ, 1, .inr (.inl g)))]) rfl rfl (by decide) hFc hk1
    have hP : va_P (dC, dI) vwCl ([(o, .inl (cJ, 1, .inr (.inl g)))]) H := hP
    have hD : va_D A ([(o, .inl (cJ, 1, .inr (.inl g)))]) := hD
    exact hw2.elim

set_option maxHeartbeats 4000000 in
set_option maxRecDepth 100000 in
/-- isArch: caught -/
theorem h_isArch (l : Launch) (hlt : l.stackTraces = false) (dC : Nat → ClassId) (dI : Nat → Nat → Nat) (sz : Nat) (a : Nat → Nat) (cI cS : ClassId) (f : Nat → Nat → Int32) (cJ : ClassId) (o : Nat) (g : Nat → Int64) (p0 : Int32) (p1 : Int32) (p2 : Int32)  : Met l yL_isArch wzL_isArch ({ frames := 7, cells := 1, slots := 6, locals := 106 }) (va_Pc [.ref (a 0), .int p0, .int p1, .int p2, .ref o] (PT dC dI (wX a cI cS f ++ [(o, .inl (cJ, 1, .inr (.inl g)))]) [(cI, .int), (cS, .object "Snowpalace$Site"), (cJ, .long)] sz)) (va_Qi (fun (r : Int32) (u : Unit) => r = 1) (fun (u : Unit) t => True) (va_A (wX a cI cS f ++ [(o, .inl (cJ, 1, .inr (.inl g)))]) sz)) 1 6 (va_A (wX a cI cS f ++ [(o, .inl (cJ, 1, .inr (.inl g)))]) sz) := by
  refine va_MetW (cc := cL_isArch) (maxL := 6) (ret := (some .int)) (hh := [(0, 19, 22, 54), (0, 19, 26, 64)]) (by decide +kernel) rfl ?_
  intro p e s m args below meth c s₁ B hml hv
  obtain ⟨rfl, ⟨hsz, hP, hK, hD0⟩, hT⟩ := hv
  have hx := B.exec
  have hb := B.bytes
  have hr := B.returns
  have hts := atoms_spec (ws := wzL_isArch) B.pre
  have hown : s.vm.findClass RL = some m.cls := findClass_of_methodNamed B.named
  have hlocks := B.notSynchronized
  have htab : c.exceptionTable.toList = tableOf [(0, 19, 22, 54), (0, 19, 26, 64)] := vx_table (x := yL_isArch) B (hts _ List.mem_cons_self)
  subst hsz
  have hD := hD0.self (sz := s.heap.size)
  generalize hAe : va_A (wX a cI cS f ++ [(o, .inl (cJ, 1, .inr (.inl g)))]) s.heap.size = A at hD hT ⊢
  have hA : ∀ q : Nat, s.heap.size ≤ q → A q := fun q h => by rw [← hAe]; exact Or.inr h
  have hS : va_S A s.heap s.heap [] := va_S.rf
  have hl := lv_entry ([.ref (a 0), .int p0, .int p1, .int p2, .ref o]) (n := 6) (Nat.le_of_ble_eq_true rfl)
  rw [lg_entry_eq]
  generalize (lg_sl ([.ref (a 0), .int p0, .int p1, .int p2, .ref o]) ++ List.replicate (6 - (lg_sl ([.ref (a 0), .int p0, .int p1, .int p2, .ref o])).length) Slot.unset).toArray = ls at hl ⊢
  have hl : lv_has ls 6 [(0, .ref (a 0)), (1, .int p0), (2, .int p1), (3, .int p2), (4, .ref o)] := hl
  have hN : NS s := hT.ns
  refine lv_aload hx hb dL_isArch_0 (lv_at hl 4 rfl) ?_
  refine lv_iconst (v := 0) hx hb dL_isArch_2 (by decide) ?_
  refine lv_aload_n hx hb dL_isArch_3 rfl (lv_at hl 0 rfl) ?_
  refine lv_iload_n hx hb dL_isArch_4 rfl (lv_at hl 1 rfl) ?_
  refine lv_iload_n hx hb dL_isArch_5 rfl (lv_at hl 2 rfl) ?_
  refine lv_iload_n hx hb dL_isArch_6 rfl (lv_at hl 3 rfl) ?_
  have hFc := va_free (wc := [((a 0), .inr (7, [.ref (a 1), .ref (a 2), .ref (a 3), .int 0, .int 0, .int 0, .int 0, .int 0, .int 0, .int 0])), ((a 1), .inr (6, [.ref (a 4), .ref (a 5), .ref (a 6), .ref (a 7)])), ((a 2), .inr (4, [.ref (a 8), .ref (a 9), .ref (a 10)])), ((a 3), .inl (cS, 3, .inr (.inr (.inr (.inr (fun _ => none)))))), ((a 4), .inl (cI, 21, .inl (f 0))), ((a 5), .inl (cI, 21, .inl (f 1))), ((a 6), .inl (cI, 21, .inl (f 2))), ((a 7), .inl (cI, 21, .inl (f 3))), ((a 8), .inl (cI, 4, .inl (fun _ => 0))), ((a 9), .inl (cI, 4, .inl (fun _ => 0))), ((a 10), .inl (cI, 4, .inl (f 4)))]) hD hS hA [0, 1, 2, 3, 4, 5, 6, 7, 8, 9, 10] rfl
  refine vx_calli (vx_runV (As := [.int p0, .int p1, .int p2]) (rest := [.int 0, .ref o]) ⟨hx, hb, hml, hown, hts⟩ (k_isArch l hlt dC dI _ a cI cS f p0 p1 p2) (cwV 3 hts gL_isArch_X3_isArch rfl rfl rfl (by decide +kernel) ⟨Nat.le_of_ble_eq_true rfl, Nat.le_of_ble_eq_true rfl⟩) ⟨fb_PT, va_recv hK hP (ci := 7) (q0 := 0) rfl rfl, fun U hU hW => ⟨rfl, PT.give hP hK hD hS hA hT [0, 1, 2, 3, 4, 5, 6, 7, 8, 9, 10] [0, 1] rfl rfl rfl rfl hU hW⟩⟩ rfl rfl hl.1 rfl (lv_room (Nat.le_of_ble_eq_true rfl)) dL_isArch_7 ⟨(Nat.le_of_ble_eq_true rfl), (Nat.le_of_ble_eq_true rfl)⟩) hS (fun q _ h => hFc q h) hFc (fun q _ h => hFc q h) (fun E ce q9 u t H locs ht hvm hpx hBX hz1 hk1 hS hcell hvn hcl => ?_) (fun r1 u t H locs ht hvm hw2 hB hz1 hk1 hS => ?_)
  · skip
    obtain rfl := hBX
    obtain ⟨rfl, -⟩ := hpx
    refine vx_catch (E := "java/lang/IndexOutOfBoundsException") (name := "java/lang/IndexOutOfBoundsException") hown [] ⟨0, 19, 22, 54⟩ [⟨0, 19, 26, 64⟩] (by rw [htab]; rfl) (fun z hz => absurd hz List.not_mem_nil) rfl (by decide) (hts (.classLink RL 54 "java/lang/IndexOutOfBoundsException") (by decide +kernel)) (th_any (a := #[]) rfl (hT.1 (.castable "java/lang/IndexOutOfBoundsException" "java/lang/IndexOutOfBoundsException") (by decide +kernel))) hcell hvn hcl ?_
    obtain ⟨hP, hD⟩ := aft0 [0, 1, 2, 3, 4, 5, 6, 7, 8, 9, 10] [11] hP hD rfl (wr := [(o, .inl (cJ, 1, .inr (.inl g)))]) rfl rfl (by decide) hFc hk1
    have hP : va_P (dC, dI) vwCl ([(o, .inl (cJ, 1, .inr (.inl g)))]) H := hP
    have hD : va_D A ([(o, .inl (cJ, 1, .inr (.inl g)))]) := hD
    refine W.eq (g2 := F0 m 22 ls [.ref q9]) rfl ?_
    refine lv_astore (lv' := [(5, .ref q9), (0, .ref (a 0)), (1, .int p0), (2, .int p1), (3, .int p2), (4, .ref o)]) hx hb dL_isArch_22 hl (by decide) rfl (fun ls hl => ?_)
    refine lv_iconst (v := 1) hx hb dL_isArch_24 (by decide) ?_
    refine W.widen (k := 1) (n := 6) (Nat.le_of_ble_eq_true rfl) (Nat.le_of_ble_eq_true rfl) ?_
    exact W.iret (v := 1) hx hb hr (fun t ht hW => ⟨⟨1, (), rfl, rfl, trivial⟩, hS.F ht⟩) hS.2.2 dL_isArch_25
  · skip
    obtain ⟨hP, hD⟩ := aft0 [0, 1, 2, 3, 4, 5, 6, 7, 8, 9, 10] [11] hP hD rfl (wr := [(o, .inl (cJ, 1, .inr (.inl g)))]) rfl rfl (by decide) hFc hk1
    have hP : va_P (dC, dI) vwCl ([(o, .inl (cJ, 1, .inr (.inl g)))]) H := hP
    have hD : va_D A ([(o, .inl (cJ, 1, .inr (.inl g)))]) := hD
    exact hw2.elim

set_option maxHeartbeats 4000000 in
set_option maxRecDepth 100000 in
/-- fell: caught -/
theorem h_fell (l : Launch) (hlt : l.stackTraces = false) (dC : Nat → ClassId) (dI : Nat → Nat → Nat) (sz : Nat) (a : Nat → Nat) (cI cS : ClassId) (f : Nat → Nat → Int32) (cJ : ClassId) (o : Nat) (g : Nat → Int64) (p0 : Int32)  : Met l yL_fell wsL_fell ({ frames := 7, cells := 1, slots := 6, locals := 104 }) (va_Pc [.ref (a 0), .int p0, .ref o] (PT dC dI (wX a cI cS f ++ [(o, .inl (cJ, 1, .inr (.inl g)))]) [(cI, .int), (cS, .object "Snowpalace$Site"), (cJ, .long)] sz)) (va_Qi (fun (r : Int32) (u : Unit) => r = 1) (fun (u : Unit) t => True) (va_A (wX a cI cS f ++ [(o, .inl (cJ, 1, .inr (.inl g)))]) sz)) 1 6 (va_A (wX a cI cS f ++ [(o, .inl (cJ, 1, .inr (.inl g)))]) sz) := by
  refine va_MetW (cc := cL_fell) (maxL := 4) (ret := (some .int)) (hh := [(0, 9, 12, 54)]) (by decide +kernel) rfl ?_
  intro p e s m args below meth c s₁ B hml hv
  obtain ⟨rfl, ⟨hsz, hP, hK, hD0⟩, hT⟩ := hv
  have hx := B.exec
  have hb := B.bytes
  have hr := B.returns
  have hts := atoms_spec (ws := wsL_fell) B.pre
  have hown : s.vm.findClass RL = some m.cls := findClass_of_methodNamed B.named
  have hlocks := B.notSynchronized
  have htab : c.exceptionTable.toList = tableOf [(0, 9, 12, 54)] := vx_table (x := yL_fell) B (hts _ List.mem_cons_self)
  subst hsz
  have hD := hD0.self (sz := s.heap.size)
  generalize hAe : va_A (wX a cI cS f ++ [(o, .inl (cJ, 1, .inr (.inl g)))]) s.heap.size = A at hD hT ⊢
  have hA : ∀ q : Nat, s.heap.size ≤ q → A q := fun q h => by rw [← hAe]; exact Or.inr h
  have hS : va_S A s.heap s.heap [] := va_S.rf
  have hl := lv_entry ([.ref (a 0), .int p0, .ref o]) (n := 4) (Nat.le_of_ble_eq_true rfl)
  rw [lg_entry_eq]
  generalize (lg_sl ([.ref (a 0), .int p0, .ref o]) ++ List.replicate (4 - (lg_sl ([.ref (a 0), .int p0, .ref o])).length) Slot.unset).toArray = ls at hl ⊢
  have hl : lv_has ls 4 [(0, .ref (a 0)), (1, .int p0), (2, .ref o)] := hl
  have hN : NS s := hT.ns
  refine lv_aload_n hx hb dL_fell_0 rfl (lv_at hl 2 rfl) ?_
  refine lv_iconst (v := 0) hx hb dL_fell_1 (by decide) ?_
  refine lv_aload_n hx hb dL_fell_2 rfl (lv_at hl 0 rfl) ?_
  refine lv_iload_n hx hb dL_fell_3 rfl (lv_at hl 1 rfl) ?_
  have hFc := va_free (wc := [((a 0), .inr (7, [.ref (a 1), .ref (a 2), .ref (a 3), .int 0, .int 0, .int 0, .int 0, .int 0, .int 0, .int 0])), ((a 1), .inr (6, [.ref (a 4), .ref (a 5), .ref (a 6), .ref (a 7)])), ((a 2), .inr (4, [.ref (a 8), .ref (a 9), .ref (a 10)])), ((a 3), .inl (cS, 3, .inr (.inr (.inr (.inr (fun _ => none)))))), ((a 4), .inl (cI, 21, .inl (f 0))), ((a 5), .inl (cI, 21, .inl (f 1))), ((a 6), .inl (cI, 21, .inl (f 2))), ((a 7), .inl (cI, 21, .inl (f 3))), ((a 8), .inl (cI, 4, .inl (fun _ => 0))), ((a 9), .inl (cI, 4, .inl (fun _ => 0))), ((a 10), .inl (cI, 4, .inl (f 4)))]) hD hS hA [0, 1, 2, 3, 4, 5, 6, 7, 8, 9, 10] rfl
  refine vx_calli (vx_runV (As := [.int p0]) (rest := [.int 0, .ref o]) ⟨hx, hb, hml, hown, hts⟩ (k_fell l hlt dC dI _ a cI cS f p0) (cwV 1 hts gL_fell_X3_fell rfl rfl rfl (by decide +kernel) ⟨Nat.le_of_ble_eq_true rfl, Nat.le_of_ble_eq_true rfl⟩) ⟨fb_PT, va_recv hK hP (ci := 7) (q0 := 0) rfl rfl, fun U hU hW => ⟨rfl, PT.give hP hK hD hS hA hT [0, 1, 2, 3, 4, 5, 6, 7, 8, 9, 10] [0, 1] rfl rfl rfl rfl hU hW⟩⟩ rfl rfl hl.1 rfl (lv_room (Nat.le_of_ble_eq_true rfl)) dL_fell_4 ⟨(Nat.le_of_ble_eq_true rfl), (Nat.le_of_ble_eq_true rfl)⟩) hS (fun q _ h => hFc q h) hFc (fun q _ h => hFc q h) (fun E ce q9 u t H locs ht hvm hpx hBX hz1 hk1 hS hcell hvn hcl => ?_) (fun r1 u t H locs ht hvm hw2 hB hz1 hk1 hS => ?_)
  · skip
    obtain rfl := hBX
    obtain ⟨rfl, -⟩ := hpx
    refine vx_catch (E := "java/lang/IndexOutOfBoundsException") (name := "java/lang/IndexOutOfBoundsException") hown [] ⟨0, 9, 12, 54⟩ [] (by rw [htab]; rfl) (fun z hz => absurd hz List.not_mem_nil) rfl (by decide) (hts (.classLink RL 54 "java/lang/IndexOutOfBoundsException") (by decide +kernel)) (th_any (a := #[]) rfl (hT.1 (.castable "java/lang/IndexOutOfBoundsException" "java/lang/IndexOutOfBoundsException") (by decide +kernel))) hcell hvn hcl ?_
    obtain ⟨hP, hD⟩ := aft0 [0, 1, 2, 3, 4, 5, 6, 7, 8, 9, 10] [11] hP hD rfl (wr := [(o, .inl (cJ, 1, .inr (.inl g)))]) rfl rfl (by decide) hFc hk1
    have hP : va_P (dC, dI) vwCl ([(o, .inl (cJ, 1, .inr (.inl g)))]) H := hP
    have hD : va_D A ([(o, .inl (cJ, 1, .inr (.inl g)))]) := hD
    refine W.eq (g2 := F0 m 12 ls [.ref q9]) rfl ?_
    refine lv_astore_n (lv' := [(3, .ref q9), (0, .ref (a 0)), (1, .int p0), (2, .ref o)]) hx hb dL_fell_12 rfl hl (by decide) rfl (fun ls hl => ?_)
    refine lv_iconst (v := 1) hx hb dL_fell_13 (by decide) ?_
    refine W.widen (k := 1) (n := 6) (Nat.le_of_ble_eq_true rfl) (Nat.le_of_ble_eq_true rfl) ?_
    exact W.iret (v := 1) hx hb hr (fun t ht hW => ⟨⟨1, (), rfl, rfl, trivial⟩, hS.F ht⟩) hS.2.2 dL_fell_14
  · skip
    obtain ⟨hP, hD⟩ := aft0 [0, 1, 2, 3, 4, 5, 6, 7, 8, 9, 10] [11] hP hD rfl (wr := [(o, .inl (cJ, 1, .inr (.inl g)))]) rfl rfl (by decide) hFc hk1
    have hP : va_P (dC, dI) vwCl ([(o, .inl (cJ, 1, .inr (.inl g)))]) H := hP
    have hD : va_D A ([(o, .inl (cJ, 1, .inr (.inl g)))]) := hD
    exact hw2.elim

set_option maxHeartbeats 4000000 in
set_option maxRecDepth 100000 in
/-- lastFell: caught -/
theorem h_lastFell (l : Launch) (hlt : l.stackTraces = false) (dC : Nat → ClassId) (dI : Nat → Nat → Nat) (sz : Nat) (a : Nat → Nat) (cI cS : ClassId) (f : Nat → Nat → Int32) (cJ : ClassId) (o : Nat) (g : Nat → Int64) (p0 : Int32)  : Met l yL_lastFell wzL_lastFell ({ frames := 7, cells := 1, slots := 6, locals := 104 }) (va_Pc [.ref (a 0), .int p0, .ref o] (PT dC dI (wX a cI cS f ++ [(o, .inl (cJ, 1, .inr (.inl g)))]) [(cI, .int), (cS, .object "Snowpalace$Site"), (cJ, .long)] sz)) (va_Qi (fun (r : Int32) (u : Unit) => r = 1) (fun (u : Unit) t => True) (va_A (wX a cI cS f ++ [(o, .inl (cJ, 1, .inr (.inl g)))]) sz)) 1 6 (va_A (wX a cI cS f ++ [(o, .inl (cJ, 1, .inr (.inl g)))]) sz) := by
  refine va_MetW (cc := cL_lastFell) (maxL := 4) (ret := (some .int)) (hh := [(0, 9, 12, 54), (0, 9, 15, 64)]) (by decide +kernel) rfl ?_
  intro p e s m args below meth c s₁ B hml hv
  obtain ⟨rfl, ⟨hsz, hP, hK, hD0⟩, hT⟩ := hv
  have hx := B.exec
  have hb := B.bytes
  have hr := B.returns
  have hts := atoms_spec (ws := wzL_lastFell) B.pre
  have hown : s.vm.findClass RL = some m.cls := findClass_of_methodNamed B.named
  have hlocks := B.notSynchronized
  have htab : c.exceptionTable.toList = tableOf [(0, 9, 12, 54), (0, 9, 15, 64)] := vx_table (x := yL_lastFell) B (hts _ List.mem_cons_self)
  subst hsz
  have hD := hD0.self (sz := s.heap.size)
  generalize hAe : va_A (wX a cI cS f ++ [(o, .inl (cJ, 1, .inr (.inl g)))]) s.heap.size = A at hD hT ⊢
  have hA : ∀ q : Nat, s.heap.size ≤ q → A q := fun q h => by rw [← hAe]; exact Or.inr h
  have hS : va_S A s.heap s.heap [] := va_S.rf
  have hl := lv_entry ([.ref (a 0), .int p0, .ref o]) (n := 4) (Nat.le_of_ble_eq_true rfl)
  rw [lg_entry_eq]
  generalize (lg_sl ([.ref (a 0), .int p0, .ref o]) ++ List.replicate (4 - (lg_sl ([.ref (a 0), .int p0, .ref o])).length) Slot.unset).toArray = ls at hl ⊢
  have hl : lv_has ls 4 [(0, .ref (a 0)), (1, .int p0), (2, .ref o)] := hl
  have hN : NS s := hT.ns
  refine lv_aload_n hx hb dL_lastFell_0 rfl (lv_at hl 2 rfl) ?_
  refine lv_iconst (v := 0) hx hb dL_lastFell_1 (by decide) ?_
  refine lv_aload_n hx hb dL_lastFell_2 rfl (lv_at hl 0 rfl) ?_
  refine lv_iload_n hx hb dL_lastFell_3 rfl (lv_at hl 1 rfl) ?_
  have hFc := va_free (wc := [((a 0), .inr (7, [.ref (a 1), .ref (a 2), .ref (a 3), .int 0, .int 0, .int 0, .int 0, .int 0, .int 0, .int 0])), ((a 1), .inr (6, [.ref (a 4), .ref (a 5), .ref (a 6), .ref (a 7)])), ((a 2), .inr (4, [.ref (a 8), .ref (a 9), .ref (a 10)])), ((a 3), .inl (cS, 3, .inr (.inr (.inr (.inr (fun _ => none)))))), ((a 4), .inl (cI, 21, .inl (f 0))), ((a 5), .inl (cI, 21, .inl (f 1))), ((a 6), .inl (cI, 21, .inl (f 2))), ((a 7), .inl (cI, 21, .inl (f 3))), ((a 8), .inl (cI, 4, .inl (fun _ => 0))), ((a 9), .inl (cI, 4, .inl (fun _ => 0))), ((a 10), .inl (cI, 4, .inl (f 4)))]) hD hS hA [0, 1, 2, 3, 4, 5, 6, 7, 8, 9, 10] rfl
  refine vx_calli (vx_runV (As := [.int p0]) (rest := [.int 0, .ref o]) ⟨hx, hb, hml, hown, hts⟩ (k_lastFell l hlt dC dI _ a cI cS f p0) (cwV 1 hts gL_lastFell_X3_lastFell rfl rfl rfl (by decide +kernel) ⟨Nat.le_of_ble_eq_true rfl, Nat.le_of_ble_eq_true rfl⟩) ⟨fb_PT, va_recv hK hP (ci := 7) (q0 := 0) rfl rfl, fun U hU hW => ⟨rfl, PT.give hP hK hD hS hA hT [0, 1, 2, 3, 4, 5, 6, 7, 8, 9, 10] [0, 1] rfl rfl rfl rfl hU hW⟩⟩ rfl rfl hl.1 rfl (lv_room (Nat.le_of_ble_eq_true rfl)) dL_lastFell_4 ⟨(Nat.le_of_ble_eq_true rfl), (Nat.le_of_ble_eq_true rfl)⟩) hS (fun q _ h => hFc q h) hFc (fun q _ h => hFc q h) (fun E ce q9 u t H locs ht hvm hpx hBX hz1 hk1 hS hcell hvn hcl => ?_) (fun r1 u t H locs ht hvm hw2 hB hz1 hk1 hS => ?_)
  · skip
    obtain rfl := hBX
    obtain ⟨rfl, -⟩ := hpx
    refine vx_catch (E := "java/lang/IndexOutOfBoundsException") (name := "java/lang/IndexOutOfBoundsException") hown [] ⟨0, 9, 12, 54⟩ [⟨0, 9, 15, 64⟩] (by rw [htab]; rfl) (fun z hz => absurd hz List.not_mem_nil) rfl (by decide) (hts (.classLink RL 54 "java/lang/IndexOutOfBoundsException") (by decide +kernel)) (th_any (a := #[]) rfl (hT.1 (.castable "java/lang/IndexOutOfBoundsException" "java/lang/IndexOutOfBoundsException") (by decide +kernel))) hcell hvn hcl ?_
    obtain ⟨hP, hD⟩ := aft0 [0, 1, 2, 3, 4, 5, 6, 7, 8, 9, 10] [11] hP hD rfl (wr := [(o, .inl (cJ, 1, .inr (.inl g)))]) rfl rfl (by decide) hFc hk1
    have hP : va_P (dC, dI) vwCl ([(o, .inl (cJ, 1, .inr (.inl g)))]) H := hP
    have hD : va_D A ([(o, .inl (cJ, 1, .inr (.inl g)))]) := hD
    refine W.eq (g2 := F0 m 12 ls [.ref q9]) rfl ?_
    refine lv_astore_n (lv' := [(3, .ref q9), (0, .ref (a 0)), (1, .int p0), (2, .ref o)]) hx hb dL_lastFell_12 rfl hl (by decide) rfl (fun ls hl => ?_)
    refine lv_iconst (v := 1) hx hb dL_lastFell_13 (by decide) ?_
    refine W.widen (k := 1) (n := 6) (Nat.le_of_ble_eq_true rfl) (Nat.le_of_ble_eq_true rfl) ?_
    exact W.iret (v := 1) hx hb hr (fun t ht hW => ⟨⟨1, (), rfl, rfl, trivial⟩, hS.F ht⟩) hS.2.2 dL_lastFell_14
  · skip
    obtain ⟨hP, hD⟩ := aft0 [0, 1, 2, 3, 4, 5, 6, 7, 8, 9, 10] [11] hP hD rfl (wr := [(o, .inl (cJ, 1, .inr (.inl g)))]) rfl rfl (by decide) hFc hk1
    have hP : va_P (dC, dI) vwCl ([(o, .inl (cJ, 1, .inr (.inl g)))]) H := hP
    have hD : va_D A ([(o, .inl (cJ, 1, .inr (.inl g)))]) := hD
    exact hw2.elim

set_option maxHeartbeats 4000000 in
set_option maxRecDepth 100000 in
/-- cover: caught -/
theorem h_cover (l : Launch) (hlt : l.stackTraces = false) (dC : Nat → ClassId) (dI : Nat → Nat → Nat) (sz : Nat) (a : Nat → Nat) (cI cS : ClassId) (f : Nat → Nat → Int32) (cJ : ClassId) (o : Nat) (g : Nat → Int64) (p0 : Int32) (p1 : Int32)  : Met l yL_cover wsL_cover ({ frames := 7, cells := 1, slots := 6, locals := 106 }) (va_Pc [.ref (a 0), .int p0, .int p1, .ref o] (PT dC dI (wX a cI cS f ++ [(o, .inl (cJ, 1, .inr (.inl g)))]) [(cI, .int), (cS, .object "Snowpalace$Site"), (cJ, .long)] sz)) (va_Qi (fun (r : Int32) (u : Unit) => r = 1) (fun (u : Unit) t => True) (va_A (wX a cI cS f ++ [(o, .inl (cJ, 1, .inr (.inl g)))]) sz)) 1 6 (va_A (wX a cI cS f ++ [(o, .inl (cJ, 1, .inr (.inl g)))]) sz) := by
  refine va_MetW (cc := cL_cover) (maxL := 5) (ret := (some .int)) (hh := [(0, 17, 20, 54)]) (by decide +kernel) rfl ?_
  intro p e s m args below meth c s₁ B hml hv
  obtain ⟨rfl, ⟨hsz, hP, hK, hD0⟩, hT⟩ := hv
  have hx := B.exec
  have hb := B.bytes
  have hr := B.returns
  have hts := atoms_spec (ws := wsL_cover) B.pre
  have hown : s.vm.findClass RL = some m.cls := findClass_of_methodNamed B.named
  have hlocks := B.notSynchronized
  have htab : c.exceptionTable.toList = tableOf [(0, 17, 20, 54)] := vx_table (x := yL_cover) B (hts _ List.mem_cons_self)
  subst hsz
  have hD := hD0.self (sz := s.heap.size)
  generalize hAe : va_A (wX a cI cS f ++ [(o, .inl (cJ, 1, .inr (.inl g)))]) s.heap.size = A at hD hT ⊢
  have hA : ∀ q : Nat, s.heap.size ≤ q → A q := fun q h => by rw [← hAe]; exact Or.inr h
  have hS : va_S A s.heap s.heap [] := va_S.rf
  have hl := lv_entry ([.ref (a 0), .int p0, .int p1, .ref o]) (n := 5) (Nat.le_of_ble_eq_true rfl)
  rw [lg_entry_eq]
  generalize (lg_sl ([.ref (a 0), .int p0, .int p1, .ref o]) ++ List.replicate (5 - (lg_sl ([.ref (a 0), .int p0, .int p1, .ref o])).length) Slot.unset).toArray = ls at hl ⊢
  have hl : lv_has ls 5 [(0, .ref (a 0)), (1, .int p0), (2, .int p1), (3, .ref o)] := hl
  have hN : NS s := hT.ns
  refine lv_aload_n hx hb dL_cover_0 rfl (lv_at hl 3 rfl) ?_
  refine lv_iconst (v := 0) hx hb dL_cover_1 (by decide) ?_
  refine lv_aload_n hx hb dL_cover_2 rfl (lv_at hl 0 rfl) ?_
  refine lv_iload_n hx hb dL_cover_3 rfl (lv_at hl 1 rfl) ?_
  refine lv_iload_n hx hb dL_cover_4 rfl (lv_at hl 2 rfl) ?_
  have hFc := va_free (wc := [((a 0), .inr (7, [.ref (a 1), .ref (a 2), .ref (a 3), .int 0, .int 0, .int 0, .int 0, .int 0, .int 0, .int 0])), ((a 1), .inr (6, [.ref (a 4), .ref (a 5), .ref (a 6), .ref (a 7)])), ((a 2), .inr (4, [.ref (a 8), .ref (a 9), .ref (a 10)])), ((a 3), .inl (cS, 3, .inr (.inr (.inr (.inr (fun _ => none)))))), ((a 4), .inl (cI, 21, .inl (f 0))), ((a 5), .inl (cI, 21, .inl (f 1))), ((a 6), .inl (cI, 21, .inl (f 2))), ((a 7), .inl (cI, 21, .inl (f 3))), ((a 8), .inl (cI, 4, .inl (fun _ => 0))), ((a 9), .inl (cI, 4, .inl (fun _ => 0))), ((a 10), .inl (cI, 4, .inl (f 4)))]) hD hS hA [0, 1, 2, 3, 4, 5, 6, 7, 8, 9, 10] rfl
  refine vx_calli (vx_runV (As := [.int p0, .int p1]) (rest := [.int 0, .ref o]) ⟨hx, hb, hml, hown, hts⟩ (k_cover l hlt dC dI _ a cI cS f p0 p1) (cwV 2 hts gL_cover_X3_cover rfl rfl rfl (by decide +kernel) ⟨Nat.le_of_ble_eq_true rfl, Nat.le_of_ble_eq_true rfl⟩) ⟨fb_PT, va_recv hK hP (ci := 7) (q0 := 0) rfl rfl, fun U hU hW => ⟨rfl, PT.give hP hK hD hS hA hT [0, 1, 2, 3, 4, 5, 6, 7, 8, 9, 10] [0, 1] rfl rfl rfl rfl hU hW⟩⟩ rfl rfl hl.1 rfl (lv_room (Nat.le_of_ble_eq_true rfl)) dL_cover_5 ⟨(Nat.le_of_ble_eq_true rfl), (Nat.le_of_ble_eq_true rfl)⟩) hS (fun q _ h => hFc q h) hFc (fun q _ h => hFc q h) (fun E ce q9 u t H locs ht hvm hpx hBX hz1 hk1 hS hcell hvn hcl => ?_) (fun r1 u t H locs ht hvm hw2 hB hz1 hk1 hS => ?_)
  · skip
    obtain rfl := hBX
    obtain ⟨rfl, -⟩ := hpx
    refine vx_catch (E := "java/lang/IndexOutOfBoundsException") (name := "java/lang/IndexOutOfBoundsException") hown [] ⟨0, 17, 20, 54⟩ [] (by rw [htab]; rfl) (fun z hz => absurd hz List.not_mem_nil) rfl (by decide) (hts (.classLink RL 54 "java/lang/IndexOutOfBoundsException") (by decide +kernel)) (th_any (a := #[]) rfl (hT.1 (.castable "java/lang/IndexOutOfBoundsException" "java/lang/IndexOutOfBoundsException") (by decide +kernel))) hcell hvn hcl ?_
    obtain ⟨hP, hD⟩ := aft0 [0, 1, 2, 3, 4, 5, 6, 7, 8, 9, 10] [11] hP hD rfl (wr := [(o, .inl (cJ, 1, .inr (.inl g)))]) rfl rfl (by decide) hFc hk1
    have hP : va_P (dC, dI) vwCl ([(o, .inl (cJ, 1, .inr (.inl g)))]) H := hP
    have hD : va_D A ([(o, .inl (cJ, 1, .inr (.inl g)))]) := hD
    refine W.eq (g2 := F0 m 20 ls [.ref q9]) rfl ?_
    refine lv_astore (lv' := [(4, .ref q9), (0, .ref (a 0)), (1, .int p0), (2, .int p1), (3, .ref o)]) hx hb dL_cover_20 hl (by decide) rfl (fun ls hl => ?_)
    refine lv_iconst (v := 1) hx hb dL_cover_22 (by decide) ?_
    refine W.widen (k := 1) (n := 6) (Nat.le_of_ble_eq_true rfl) (Nat.le_of_ble_eq_true rfl) ?_
    exact W.iret (v := 1) hx hb hr (fun t ht hW => ⟨⟨1, (), rfl, rfl, trivial⟩, hS.F ht⟩) hS.2.2 dL_cover_23
  · skip
    obtain ⟨hP, hD⟩ := aft0 [0, 1, 2, 3, 4, 5, 6, 7, 8, 9, 10] [11] hP hD rfl (wr := [(o, .inl (cJ, 1, .inr (.inl g)))]) rfl rfl (by decide) hFc hk1
    have hP : va_P (dC, dI) vwCl ([(o, .inl (cJ, 1, .inr (.inl g)))]) H := hP
    have hD : va_D A ([(o, .inl (cJ, 1, .inr (.inl g)))]) := hD
    exact hw2.elim

set_option maxHeartbeats 4000000 in
set_option maxRecDepth 100000 in
/-- lamp: caught -/
theorem h_lamp (l : Launch) (hlt : l.stackTraces = false) (dC : Nat → ClassId) (dI : Nat → Nat → Nat) (sz : Nat) (a : Nat → Nat) (cI cS : ClassId) (f : Nat → Nat → Int32) (cJ : ClassId) (o : Nat) (g : Nat → Int64) (p0 : Int32) (p1 : Int32) (p2 : Int32) (p3 : Int32)  : Met l yL_lamp wzL_lamp ({ frames := 7, cells := 1, slots := 6, locals := 109 }) (va_Pc [.ref (a 0), .int p0, .int p1, .int p2, .int p3, .ref o] (PT dC dI (wX a cI cS f ++ [(o, .inl (cJ, 1, .inr (.inl g)))]) [(cI, .int), (cS, .object "Snowpalace$Site"), (cJ, .long)] sz)) (va_Qi (fun (r : Int32) (u : Unit) => r = 1) (fun (u : Unit) t => True) (va_A (wX a cI cS f ++ [(o, .inl (cJ, 1, .inr (.inl g)))]) sz)) 1 6 (va_A (wX a cI cS f ++ [(o, .inl (cJ, 1, .inr (.inl g)))]) sz) := by
  refine va_MetW (cc := cL_lamp) (maxL := 7) (ret := (some .int)) (hh := [(0, 21, 24, 54), (0, 21, 28, 64), (0, 21, 32, 15)]) (by decide +kernel) rfl ?_
  intro p e s m args below meth c s₁ B hml hv
  obtain ⟨rfl, ⟨hsz, hP, hK, hD0⟩, hT⟩ := hv
  have hx := B.exec
  have hb := B.bytes
  have hr := B.returns
  have hts := atoms_spec (ws := wzL_lamp) B.pre
  have hown : s.vm.findClass RL = some m.cls := findClass_of_methodNamed B.named
  have hlocks := B.notSynchronized
  have htab : c.exceptionTable.toList = tableOf [(0, 21, 24, 54), (0, 21, 28, 64), (0, 21, 32, 15)] := vx_table (x := yL_lamp) B (hts _ List.mem_cons_self)
  subst hsz
  have hD := hD0.self (sz := s.heap.size)
  generalize hAe : va_A (wX a cI cS f ++ [(o, .inl (cJ, 1, .inr (.inl g)))]) s.heap.size = A at hD hT ⊢
  have hA : ∀ q : Nat, s.heap.size ≤ q → A q := fun q h => by rw [← hAe]; exact Or.inr h
  have hS : va_S A s.heap s.heap [] := va_S.rf
  have hl := lv_entry ([.ref (a 0), .int p0, .int p1, .int p2, .int p3, .ref o]) (n := 7) (Nat.le_of_ble_eq_true rfl)
  rw [lg_entry_eq]
  generalize (lg_sl ([.ref (a 0), .int p0, .int p1, .int p2, .int p3, .ref o]) ++ List.replicate (7 - (lg_sl ([.ref (a 0), .int p0, .int p1, .int p2, .int p3, .ref o])).length) Slot.unset).toArray = ls at hl ⊢
  have hl : lv_has ls 7 [(0, .ref (a 0)), (1, .int p0), (2, .int p1), (3, .int p2), (4, .int p3), (5, .ref o)] := hl
  have hN : NS s := hT.ns
  refine lv_aload hx hb dL_lamp_0 (lv_at hl 5 rfl) ?_
  refine lv_iconst (v := 0) hx hb dL_lamp_2 (by decide) ?_
  refine lv_aload_n hx hb dL_lamp_3 rfl (lv_at hl 0 rfl) ?_
  refine lv_iload_n hx hb dL_lamp_4 rfl (lv_at hl 1 rfl) ?_
  refine lv_iload_n hx hb dL_lamp_5 rfl (lv_at hl 2 rfl) ?_
  refine lv_iload_n hx hb dL_lamp_6 rfl (lv_at hl 3 rfl) ?_
  refine lv_iload hx hb dL_lamp_7 (lv_at hl 4 rfl) ?_
  have hFc := va_free (wc := [((a 0), .inr (7, [.ref (a 1), .ref (a 2), .ref (a 3), .int 0, .int 0, .int 0, .int 0, .int 0, .int 0, .int 0])), ((a 1), .inr (6, [.ref (a 4), .ref (a 5), .ref (a 6), .ref (a 7)])), ((a 2), .inr (4, [.ref (a 8), .ref (a 9), .ref (a 10)])), ((a 3), .inl (cS, 3, .inr (.inr (.inr (.inr (fun _ => none)))))), ((a 4), .inl (cI, 21, .inl (f 0))), ((a 5), .inl (cI, 21, .inl (f 1))), ((a 6), .inl (cI, 21, .inl (f 2))), ((a 7), .inl (cI, 21, .inl (f 3))), ((a 8), .inl (cI, 4, .inl (fun _ => 0))), ((a 9), .inl (cI, 4, .inl (fun _ => 0))), ((a 10), .inl (cI, 4, .inl (f 4)))]) hD hS hA [0, 1, 2, 3, 4, 5, 6, 7, 8, 9, 10] rfl
  refine vx_calli (vx_runV (As := [.int p0, .int p1, .int p2, .int p3]) (rest := [.int 0, .ref o]) ⟨hx, hb, hml, hown, hts⟩ (k_lamp l hlt dC dI _ a cI cS f p0 p1 p2 p3) (cwV 4 hts gL_lamp_X3_lamp rfl rfl rfl (by decide +kernel) ⟨Nat.le_of_ble_eq_true rfl, Nat.le_of_ble_eq_true rfl⟩) ⟨fb_PT, va_recv hK hP (ci := 7) (q0 := 0) rfl rfl, fun U hU hW => ⟨rfl, PT.give hP hK hD hS hA hT [0, 1, 2, 3, 4, 5, 6, 7, 8, 9, 10] [0, 1] rfl rfl rfl rfl hU hW⟩⟩ rfl rfl hl.1 rfl (lv_room (Nat.le_of_ble_eq_true rfl)) dL_lamp_9 ⟨(Nat.le_of_ble_eq_true rfl), (Nat.le_of_ble_eq_true rfl)⟩) hS (fun q _ h => hFc q h) hFc (fun q _ h => hFc q h) (fun E ce q9 u t H locs ht hvm hpx hBX hz1 hk1 hS hcell hvn hcl => ?_) (fun r1 u t H locs ht hvm hw2 hB hz1 hk1 hS => ?_)
  · skip
    obtain rfl := hBX
    obtain ⟨rfl, -⟩ := hpx
    refine vx_catch (E := "java/lang/IndexOutOfBoundsException") (name := "java/lang/IndexOutOfBoundsException") hown [] ⟨0, 21, 24, 54⟩ [⟨0, 21, 28, 64⟩, ⟨0, 21, 32, 15⟩] (by rw [htab]; rfl) (fun z hz => absurd hz List.not_mem_nil) rfl (by decide) (hts (.classLink RL 54 "java/lang/IndexOutOfBoundsException") (by decide +kernel)) (th_any (a := #[]) rfl (hT.1 (.castable "java/lang/IndexOutOfBoundsException" "java/lang/IndexOutOfBoundsException") (by decide +kernel))) hcell hvn hcl ?_
    obtain ⟨hP, hD⟩ := aft0 [0, 1, 2, 3, 4, 5, 6, 7, 8, 9, 10] [11] hP hD rfl (wr := [(o, .inl (cJ, 1, .inr (.inl g)))]) rfl rfl (by decide) hFc hk1
    have hP : va_P (dC, dI) vwCl ([(o, .inl (cJ, 1, .inr (.inl g)))]) H := hP
    have hD : va_D A ([(o, .inl (cJ, 1, .inr (.inl g)))]) := hD
    refine W.eq (g2 := F0 m 24 ls [.ref q9]) rfl ?_
    refine lv_astore (lv' := [(6, .ref q9), (0, .ref (a 0)), (1, .int p0), (2, .int p1), (3, .int p2), (4, .int p3), (5, .ref o)]) hx hb dL_lamp_24 hl (by decide) rfl (fun ls hl => ?_)
    refine lv_iconst (v := 1) hx hb dL_lamp_26 (by decide) ?_
    refine W.widen (k := 1) (n := 6) (Nat.le_of_ble_eq_true rfl) (Nat.le_of_ble_eq_true rfl) ?_
    exact W.iret (v := 1) hx hb hr (fun t ht hW => ⟨⟨1, (), rfl, rfl, trivial⟩, hS.F ht⟩) hS.2.2 dL_lamp_27
  · skip
    obtain ⟨hP, hD⟩ := aft0 [0, 1, 2, 3, 4, 5, 6, 7, 8, 9, 10] [11] hP hD rfl (wr := [(o, .inl (cJ, 1, .inr (.inl g)))]) rfl rfl (by decide) hFc hk1
    have hP : va_P (dC, dI) vwCl ([(o, .inl (cJ, 1, .inr (.inl g)))]) H := hP
    have hD : va_D A ([(o, .inl (cJ, 1, .inr (.inl g)))]) := hD
    exact hw2.elim

