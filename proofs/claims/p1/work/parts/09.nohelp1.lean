set_option maxHeartbeats 4000000 in
set_option maxRecDepth 100000 in
/-- lightBits: caught -/
theorem h_lightBits (l : Launch) (hlt : l.stackTraces = false) (dC : Nat → ClassId) (dI : Nat → Nat → Nat) (sz : Nat) (a : Nat → Nat) (cI cS : ClassId) (f : Nat → Nat → Int32) (cJ : ClassId) (o : Nat) (g : Nat → Int64) (p0 : Int32) (p1 : Int32) (p2 : Int32)  : Met l yL_lightBits wsL_lightBits ({ frames := 7, cells := 1, slots := 6, locals := 106 }) (va_Pc [.ref (a 0), .int p0, .int p1, .int p2, .ref o] (PT dC dI (wX a cI cS f ++ [(o, .inl (cJ, 1, .inr (.inl g)))]) [(cI, .int), (cS, .object "Snowpalace$Site"), (cJ, .long)] sz)) (va_Qi (fun (r : Int32) (u : Unit) => r = 1) (fun (u : Unit) t => True) (va_A (wX a cI cS f ++ [(o, .inl (cJ, 1, .inr (.inl g)))]) sz)) 1 6 (va_A (wX a cI cS f ++ [(o, .inl (cJ, 1, .inr (.inl g)))]) sz) := by
  refine va_MetW (cc := cL_lightBits) (maxL := 6) (ret := (some .int)) (hh := [(0, 12, 15, 54)]) (by decide +kernel) rfl ?_
  intro p e s m args below meth c s₁ B hml hv
  obtain ⟨rfl, ⟨hsz, hP, hK, hD0⟩, hT⟩ := hv
  have hx := B.exec
  have hb := B.bytes
  have hr := B.returns
  have hts := atoms_spec (ws := wsL_lightBits) B.pre
  have hown : s.vm.findClass RL = some m.cls := findClass_of_methodNamed B.named
  have hlocks := B.notSynchronized
  have htab : c.exceptionTable.toList = tableOf [(0, 12, 15, 54)] := vx_table (x := yL_lightBits) B (hts _ List.mem_cons_self)
  subst hsz
  have hD := hD0.self (sz := s.heap.size)
  generalize hAe : va_A (wX a cI cS f ++ [(o, .inl (cJ, 1, .inr (.inl g)))]) s.heap.size = A at hD hT ⊢
  have hA : ∀ q : Nat, s.heap.size ≤ q → A q := fun q h => by rw [← hAe]; exact Or.inr h
  have hS : va_S A s.heap s.heap [] := va_S.rf
  have hl := lv_entry ([.ref (a 0), .int p0, .int p1, .int p2, .ref o]) (n := 6) (Nat.le_of_ble_eq_true rfl)
  rw [lg_entry_eq]
  generalize (lg_sl ([.ref (a 0), .int p0, .int p1, .int p2, .ref o]) ++ List.replicate (6 - (lg_sl ([.ref (a 0), .int p0, .int p1, .int p2, .ref o])).length) Slot.unset).toArray = ls at hl ⊢
  have hl : lv_has ls 6 [(0, .ref (a 0)), (1, .int p0), (2, .int p1), (3, .int p2), (4, .ref o)] := hl
  have hN : NS s := hT.ns
  refine lv_aload hx hb dL_lightBits_0 (lv_at hl 4 rfl) ?_
  refine lv_iconst (v := 0) hx hb dL_lightBits_2 (by decide) ?_
  refine lv_aload_n hx hb dL_lightBits_3 rfl (lv_at hl 0 rfl) ?_
  refine lv_iload_n hx hb dL_lightBits_4 rfl (lv_at hl 1 rfl) ?_
  refine lv_iload_n hx hb dL_lightBits_5 rfl (lv_at hl 2 rfl) ?_
  refine lv_iload_n hx hb dL_lightBits_6 rfl (lv_at hl 3 rfl) ?_
  have hFc := va_free (wc := [((a 0), .inr (7, [.ref (a 1), .ref (a 2), .ref (a 3), .int 0, .int 0, .int 0, .int 0, .int 0, .int 0, .int 0])), ((a 1), .inr (6, [.ref (a 4), .ref (a 5), .ref (a 6), .ref (a 7)])), ((a 2), .inr (4, [.ref (a 8), .ref (a 9), .ref (a 10)])), ((a 3), .inl (cS, 3, .inr (.inr (.inr (.inr (fun _ => none)))))), ((a 4), .inl (cI, 21, .inl (f 0))), ((a 5), .inl (cI, 21, .inl (f 1))), ((a 6), .inl (cI, 21, .inl (f 2))), ((a 7), .inl (cI, 21, .inl (f 3))), ((a 8), .inl (cI, 4, .inl (fun _ => 0))), ((a 9), .inl (cI, 4, .inl (fun _ => 0))), ((a 10), .inl (cI, 4, .inl (f 4)))]) hD hS hA [0, 1, 2, 3, 4, 5, 6, 7, 8, 9, 10] rfl
  refine vx_calli (vx_runV (As := [.int p0, .int p1, .int p2]) (rest := [.int 0, .ref o]) ⟨hx, hb, hml, hown, hts⟩ (k_lightBits l hlt dC dI _ a cI cS f p0 p1 p2) (cwV 3 hts gL_lightBits_X3_lightBits rfl rfl rfl (by decide +kernel) ⟨Nat.le_of_ble_eq_true rfl, Nat.le_of_ble_eq_true rfl⟩) ⟨fb_PT, va_recv hK hP (ci := 7) (q0 := 0) rfl rfl, fun U hU hW => ⟨rfl, PT.give hP hK hD hS hA hT [0, 1, 2, 3, 4, 5, 6, 7, 8, 9, 10] [0, 1] rfl rfl rfl rfl hU hW⟩⟩ rfl rfl hl.1 rfl (lv_room (Nat.le_of_ble_eq_true rfl)) dL_lightBits_7 ⟨(Nat.le_of_ble_eq_true rfl), (Nat.le_of_ble_eq_true rfl)⟩) hS (fun q _ h => hFc q h) hFc (fun q _ h => hFc q h) (fun E ce q9 u t H locs ht hvm hpx hBX hz1 hk1 hS hcell hvn hcl => ?_) (fun r1 u t H locs ht hvm hw2 hB hz1 hk1 hS => ?_)
  · skip
    obtain rfl := hBX
    obtain ⟨rfl, -⟩ := hpx
    refine vx_catch (E := "java/lang/IndexOutOfBoundsException") (name := "java/lang/IndexOutOfBoundsException") hown [] ⟨0, 12, 15, 54⟩ [] (by rw [htab]; rfl) (fun z hz => absurd hz List.not_mem_nil) rfl (by decide) (hts (.classLink RL 54 "java/lang/IndexOutOfBoundsException") (by decide +kernel)) (th_any (a := #[]) rfl (hT.1 (.castable "java/lang/IndexOutOfBoundsException" "java/lang/IndexOutOfBoundsException") (by decide +kernel))) hcell hvn hcl ?_
    obtain ⟨hP, hD⟩ := aft0 [0, 1, 2, 3, 4, 5, 6, 7, 8, 9, 10] [11] hP hD rfl (wr := [(o, .inl (cJ, 1, .inr (.inl g)))]) rfl rfl (by decide) hFc hk1
    have hP : va_P (dC, dI) vwCl ([(o, .inl (cJ, 1, .inr (.inl g)))]) H := hP
    have hD : va_D A ([(o, .inl (cJ, 1, .inr (.inl g)))]) := hD
    refine W.eq (g2 := F0 m 15 ls [.ref q9]) rfl ?_
    refine lv_astore (lv' := [(5, .ref q9), (0, .ref (a 0)), (1, .int p0), (2, .int p1), (3, .int p2), (4, .ref o)]) hx hb dL_lightBits_15 hl (by decide) rfl (fun ls hl => ?_)
    refine lv_iconst (v := 1) hx hb dL_lightBits_17 (by decide) ?_
    refine W.widen (k := 1) (n := 6) (Nat.le_of_ble_eq_true rfl) (Nat.le_of_ble_eq_true rfl) ?_
    exact W.iret (v := 1) hx hb hr (fun t ht hW => ⟨⟨1, (), rfl, rfl, trivial⟩, hS.F ht⟩) hS.2.2 dL_lightBits_18
  · skip
    obtain ⟨hP, hD⟩ := aft0 [0, 1, 2, 3, 4, 5, 6, 7, 8, 9, 10] [11] hP hD rfl (wr := [(o, .inl (cJ, 1, .inr (.inl g)))]) rfl rfl (by decide) hFc hk1
    have hP : va_P (dC, dI) vwCl ([(o, .inl (cJ, 1, .inr (.inl g)))]) H := hP
    have hD : va_D A ([(o, .inl (cJ, 1, .inr (.inl g)))]) := hD
    exact hw2.elim

set_option maxHeartbeats 4000000 in
set_option maxRecDepth 100000 in
/-- isOpen: caught -/
theorem h_isOpen (l : Launch) (hlt : l.stackTraces = false) (dC : Nat → ClassId) (dI : Nat → Nat → Nat) (sz : Nat) (a : Nat → Nat) (cI cS : ClassId) (f : Nat → Nat → Int32) (cJ : ClassId) (o : Nat) (g : Nat → Int64) (p0 : Int32)  : Met l yL_isOpen wsL_isOpen ({ frames := 7, cells := 1, slots := 6, locals := 104 }) (va_Pc [.ref (a 0), .int p0, .ref o] (PT dC dI (wX a cI cS f ++ [(o, .inl (cJ, 1, .inr (.inl g)))]) [(cI, .int), (cS, .object "Snowpalace$Site"), (cJ, .long)] sz)) (va_Qi (fun (r : Int32) (u : Unit) => r = 1) (fun (u : Unit) t => True) (va_A (wX a cI cS f ++ [(o, .inl (cJ, 1, .inr (.inl g)))]) sz)) 1 6 (va_A (wX a cI cS f ++ [(o, .inl (cJ, 1, .inr (.inl g)))]) sz) := by
  refine va_MetW (cc := cL_isOpen) (maxL := 4) (ret := (some .int)) (hh := [(0, 16, 19, 54)]) (by decide +kernel) rfl ?_
  intro p e s m args below meth c s₁ B hml hv
  obtain ⟨rfl, ⟨hsz, hP, hK, hD0⟩, hT⟩ := hv
  have hx := B.exec
  have hb := B.bytes
  have hr := B.returns
  have hts := atoms_spec (ws := wsL_isOpen) B.pre
  have hown : s.vm.findClass RL = some m.cls := findClass_of_methodNamed B.named
  have hlocks := B.notSynchronized
  have htab : c.exceptionTable.toList = tableOf [(0, 16, 19, 54)] := vx_table (x := yL_isOpen) B (hts _ List.mem_cons_self)
  subst hsz
  have hD := hD0.self (sz := s.heap.size)
  generalize hAe : va_A (wX a cI cS f ++ [(o, .inl (cJ, 1, .inr (.inl g)))]) s.heap.size = A at hD hT ⊢
  have hA : ∀ q : Nat, s.heap.size ≤ q → A q := fun q h => by rw [← hAe]; exact Or.inr h
  have hS : va_S A s.heap s.heap [] := va_S.rf
  have hl := lv_entry ([.ref (a 0), .int p0, .ref o]) (n := 4) (Nat.le_of_ble_eq_true rfl)
  rw [lg_entry_eq]
  generalize (lg_sl ([.ref (a 0), .int p0, .ref o]) ++ List.replicate (4 - (lg_sl ([.ref (a 0), .int p0, .ref o])).length) Slot.unset).toArray = ls at hl ⊢
  have hl : lv_has ls 4 [(0, .ref (a 0)), (1, .int p0), (2, .ref o)] := hl
  have hN : NS s := hT.ns
  refine lv_aload_n hx hb dL_isOpen_0 rfl (lv_at hl 2 rfl) ?_
  refine lv_iconst (v := 0) hx hb dL_isOpen_1 (by decide) ?_
  refine lv_aload_n hx hb dL_isOpen_2 rfl (lv_at hl 0 rfl) ?_
  refine lv_iload_n hx hb dL_isOpen_3 rfl (lv_at hl 1 rfl) ?_
  have hFc := va_free (wc := [((a 0), .inr (7, [.ref (a 1), .ref (a 2), .ref (a 3), .int 0, .int 0, .int 0, .int 0, .int 0, .int 0, .int 0])), ((a 1), .inr (6, [.ref (a 4), .ref (a 5), .ref (a 6), .ref (a 7)])), ((a 2), .inr (4, [.ref (a 8), .ref (a 9), .ref (a 10)])), ((a 3), .inl (cS, 3, .inr (.inr (.inr (.inr (fun _ => none)))))), ((a 4), .inl (cI, 21, .inl (f 0))), ((a 5), .inl (cI, 21, .inl (f 1))), ((a 6), .inl (cI, 21, .inl (f 2))), ((a 7), .inl (cI, 21, .inl (f 3))), ((a 8), .inl (cI, 4, .inl (fun _ => 0))), ((a 9), .inl (cI, 4, .inl (fun _ => 0))), ((a 10), .inl (cI, 4, .inl (f 4)))]) hD hS hA [0, 1, 2, 3, 4, 5, 6, 7, 8, 9, 10] rfl
  refine vx_calli (vx_runV (As := [.int p0]) (rest := [.int 0, .ref o]) ⟨hx, hb, hml, hown, hts⟩ (k_isOpen l hlt dC dI _ a cI cS f p0) (cwV 1 hts gL_isOpen_X3_isOpen rfl rfl rfl (by decide +kernel) ⟨Nat.le_of_ble_eq_true rfl, Nat.le_of_ble_eq_true rfl⟩) ⟨fb_PT, va_recv hK hP (ci := 7) (q0 := 0) rfl rfl, fun U hU hW => ⟨rfl, PT.give hP hK hD hS hA hT [0, 1, 2, 3, 4, 5, 6, 7, 8, 9, 10] [0, 1] rfl rfl rfl rfl hU hW⟩⟩ rfl rfl hl.1 rfl (lv_room (Nat.le_of_ble_eq_true rfl)) dL_isOpen_4 ⟨(Nat.le_of_ble_eq_true rfl), (Nat.le_of_ble_eq_true rfl)⟩) hS (fun q _ h => hFc q h) hFc (fun q _ h => hFc q h) (fun E ce q9 u t H locs ht hvm hpx hBX hz1 hk1 hS hcell hvn hcl => ?_) (fun r1 u t H locs ht hvm hw2 hB hz1 hk1 hS => ?_)
  · skip
    obtain rfl := hBX
    obtain ⟨rfl, -⟩ := hpx
    refine vx_catch (E := "java/lang/IndexOutOfBoundsException") (name := "java/lang/IndexOutOfBoundsException") hown [] ⟨0, 16, 19, 54⟩ [] (by rw [htab]; rfl) (fun z hz => absurd hz List.not_mem_nil) rfl (by decide) (hts (.classLink RL 54 "java/lang/IndexOutOfBoundsException") (by decide +kernel)) (th_any (a := #[]) rfl (hT.1 (.castable "java/lang/IndexOutOfBoundsException" "java/lang/IndexOutOfBoundsException") (by decide +kernel))) hcell hvn hcl ?_
    obtain ⟨hP, hD⟩ := aft0 [0, 1, 2, 3, 4, 5, 6, 7, 8, 9, 10] [11] hP hD rfl (wr := [(o, .inl (cJ, 1, .inr (.inl g)))]) rfl rfl (by decide) hFc hk1
    have hP : va_P (dC, dI) vwCl ([(o, .inl (cJ, 1, .inr (.inl g)))]) H := hP
    have hD : va_D A ([(o, .inl (cJ, 1, .inr (.inl g)))]) := hD
    refine W.eq (g2 := F0 m 19 ls [.ref q9]) rfl ?_
    refine lv_astore_n (lv' := [(3, .ref q9), (0, .ref (a 0)), (1, .int p0), (2, .ref o)]) hx hb dL_isOpen_19 rfl hl (by decide) rfl (fun ls hl => ?_)
    refine lv_iconst (v := 1) hx hb dL_isOpen_20 (by decide) ?_
    refine W.widen (k := 1) (n := 6) (Nat.le_of_ble_eq_true rfl) (Nat.le_of_ble_eq_true rfl) ?_
    exact W.iret (v := 1) hx hb hr (fun t ht hW => ⟨⟨1, (), rfl, rfl, trivial⟩, hS.F ht⟩) hS.2.2 dL_isOpen_21
  · skip
    obtain ⟨hP, hD⟩ := aft0 [0, 1, 2, 3, 4, 5, 6, 7, 8, 9, 10] [11] hP hD rfl (wr := [(o, .inl (cJ, 1, .inr (.inl g)))]) rfl rfl (by decide) hFc hk1
    have hP : va_P (dC, dI) vwCl ([(o, .inl (cJ, 1, .inr (.inl g)))]) H := hP
    have hD : va_D A ([(o, .inl (cJ, 1, .inr (.inl g)))]) := hD
    exact hw2.elim

set_option maxHeartbeats 4000000 in
set_option maxRecDepth 100000 in
/-- carries: caught -/
theorem h_carries (l : Launch) (hlt : l.stackTraces = false) (dC : Nat → ClassId) (dI : Nat → Nat → Nat) (sz : Nat) (a : Nat → Nat) (cI cS : ClassId) (f : Nat → Nat → Int32) (cJ : ClassId) (o : Nat) (g : Nat → Int64) (p0 : Int32) (p1 : Int32)  : Met l yL_carries wzL_carries ({ frames := 7, cells := 1, slots := 6, locals := 106 }) (va_Pc [.ref (a 0), .int p0, .int p1, .ref o] (PT dC dI (wX a cI cS f ++ [(o, .inl (cJ, 1, .inr (.inl g)))]) [(cI, .int), (cS, .object "Snowpalace$Site"), (cJ, .long)] sz)) (va_Qi (fun (r : Int32) (u : Unit) => r = 1) (fun (u : Unit) t => True) (va_A (wX a cI cS f ++ [(o, .inl (cJ, 1, .inr (.inl g)))]) sz)) 1 6 (va_A (wX a cI cS f ++ [(o, .inl (cJ, 1, .inr (.inl g)))]) sz) := by
  refine va_MetW (cc := cL_carries) (maxL := 5) (ret := (some .int)) (hh := [(0, 10, 13, 54), (0, 10, 17, 64)]) (by decide +kernel) rfl ?_
  intro p e s m args below meth c s₁ B hml hv
  obtain ⟨rfl, ⟨hsz, hP, hK, hD0⟩, hT⟩ := hv
  have hx := B.exec
  have hb := B.bytes
  have hr := B.returns
  have hts := atoms_spec (ws := wzL_carries) B.pre
  have hown : s.vm.findClass RL = some m.cls := findClass_of_methodNamed B.named
  have hlocks := B.notSynchronized
  have htab : c.exceptionTable.toList = tableOf [(0, 10, 13, 54), (0, 10, 17, 64)] := vx_table (x := yL_carries) B (hts _ List.mem_cons_self)
  subst hsz
  have hD := hD0.self (sz := s.heap.size)
  generalize hAe : va_A (wX a cI cS f ++ [(o, .inl (cJ, 1, .inr (.inl g)))]) s.heap.size = A at hD hT ⊢
  have hA : ∀ q : Nat, s.heap.size ≤ q → A q := fun q h => by rw [← hAe]; exact Or.inr h
  have hS : va_S A s.heap s.heap [] := va_S.rf
  have hl := lv_entry ([.ref (a 0), .int p0, .int p1, .ref o]) (n := 5) (Nat.le_of_ble_eq_true rfl)
  rw [lg_entry_eq]
  generalize (lg_sl ([.ref (a 0), .int p0, .int p1, .ref o]) ++ List.replicate (5 - (lg_sl ([.ref (a 0), .int p0, .int p1, .ref o])).length) Slot.unset).toArray = ls at hl ⊢
  have hl : lv_has ls 5 [(0, .ref (a 0)), (1, .int p0), (2, .int p1), (3, .ref o)] := hl
  have hN : NS s := hT.ns
  refine lv_aload_n hx hb dL_carries_0 rfl (lv_at hl 3 rfl) ?_
  refine lv_iconst (v := 0) hx hb dL_carries_1 (by decide) ?_
  refine lv_aload_n hx hb dL_carries_2 rfl (lv_at hl 0 rfl) ?_
  refine lv_iload_n hx hb dL_carries_3 rfl (lv_at hl 1 rfl) ?_
  refine lv_iload_n hx hb dL_carries_4 rfl (lv_at hl 2 rfl) ?_
  have hFc := va_free (wc := [((a 0), .inr (7, [.ref (a 1), .ref (a 2), .ref (a 3), .int 0, .int 0, .int 0, .int 0, .int 0, .int 0, .int 0])), ((a 1), .inr (6, [.ref (a 4), .ref (a 5), .ref (a 6), .ref (a 7)])), ((a 2), .inr (4, [.ref (a 8), .ref (a 9), .ref (a 10)])), ((a 3), .inl (cS, 3, .inr (.inr (.inr (.inr (fun _ => none)))))), ((a 4), .inl (cI, 21, .inl (f 0))), ((a 5), .inl (cI, 21, .inl (f 1))), ((a 6), .inl (cI, 21, .inl (f 2))), ((a 7), .inl (cI, 21, .inl (f 3))), ((a 8), .inl (cI, 4, .inl (fun _ => 0))), ((a 9), .inl (cI, 4, .inl (fun _ => 0))), ((a 10), .inl (cI, 4, .inl (f 4)))]) hD hS hA [0, 1, 2, 3, 4, 5, 6, 7, 8, 9, 10] rfl
  refine vx_calli (vx_runV (As := [.int p0, .int p1]) (rest := [.int 0, .ref o]) ⟨hx, hb, hml, hown, hts⟩ (k_carries l hlt dC dI _ a cI cS f p0 p1) (cwV 2 hts gL_carries_X3_carries rfl rfl rfl (by decide +kernel) ⟨Nat.le_of_ble_eq_true rfl, Nat.le_of_ble_eq_true rfl⟩) ⟨fb_PT, va_recv hK hP (ci := 7) (q0 := 0) rfl rfl, fun U hU hW => ⟨rfl, PT.give hP hK hD hS hA hT [0, 1, 2, 3, 4, 5, 6, 7, 8, 9, 10] [0, 1] rfl rfl rfl rfl hU hW⟩⟩ rfl rfl hl.1 rfl (lv_room (Nat.le_of_ble_eq_true rfl)) dL_carries_5 ⟨(Nat.le_of_ble_eq_true rfl), (Nat.le_of_ble_eq_true rfl)⟩) hS (fun q _ h => hFc q h) hFc (fun q _ h => hFc q h) (fun E ce q9 u t H locs ht hvm hpx hBX hz1 hk1 hS hcell hvn hcl => ?_) (fun r1 u t H locs ht hvm hw2 hB hz1 hk1 hS => ?_)
  · skip
    obtain rfl := hBX
    obtain ⟨rfl, -⟩ := hpx
    refine vx_catch (E := "java/lang/IndexOutOfBoundsException") (name := "java/lang/IndexOutOfBoundsException") hown [] ⟨0, 10, 13, 54⟩ [⟨0, 10, 17, 64⟩] (by rw [htab]; rfl) (fun z hz => absurd hz List.not_mem_nil) rfl (by decide) (hts (.classLink RL 54 "java/lang/IndexOutOfBoundsException") (by decide +kernel)) (th_any (a := #[]) rfl (hT.1 (.castable "java/lang/IndexOutOfBoundsException" "java/lang/IndexOutOfBoundsException") (by decide +kernel))) hcell hvn hcl ?_
    obtain ⟨hP, hD⟩ := aft0 [0, 1, 2, 3, 4, 5, 6, 7, 8, 9, 10] [11] hP hD rfl (wr := [(o, .inl (cJ, 1, .inr (.inl g)))]) rfl rfl (by decide) hFc hk1
    have hP : va_P (dC, dI) vwCl ([(o, .inl (cJ, 1, .inr (.inl g)))]) H := hP
    have hD : va_D A ([(o, .inl (cJ, 1, .inr (.inl g)))]) := hD
    refine W.eq (g2 := F0 m 13 ls [.ref q9]) rfl ?_
    refine lv_astore (lv' := [(4, .ref q9), (0, .ref (a 0)), (1, .int p0), (2, .int p1), (3, .ref o)]) hx hb dL_carries_13 hl (by decide) rfl (fun ls hl => ?_)
    refine lv_iconst (v := 1) hx hb dL_carries_15 (by decide) ?_
    refine W.widen (k := 1) (n := 6) (Nat.le_of_ble_eq_true rfl) (Nat.le_of_ble_eq_true rfl) ?_
    exact W.iret (v := 1) hx hb hr (fun t ht hW => ⟨⟨1, (), rfl, rfl, trivial⟩, hS.F ht⟩) hS.2.2 dL_carries_16
  · skip
    obtain ⟨hP, hD⟩ := aft0 [0, 1, 2, 3, 4, 5, 6, 7, 8, 9, 10] [11] hP hD rfl (wr := [(o, .inl (cJ, 1, .inr (.inl g)))]) rfl rfl (by decide) hFc hk1
    have hP : va_P (dC, dI) vwCl ([(o, .inl (cJ, 1, .inr (.inl g)))]) H := hP
    have hD : va_D A ([(o, .inl (cJ, 1, .inr (.inl g)))]) := hD
    exact hw2.elim

set_option maxHeartbeats 4000000 in
set_option maxRecDepth 100000 in
/-- visit: caught -/
theorem h_visit (l : Launch) (hlt : l.stackTraces = false) (dC : Nat → ClassId) (dI : Nat → Nat → Nat) (sz : Nat) (a : Nat → Nat) (cI cS : ClassId) (f : Nat → Nat → Int32) (cJ : ClassId) (o : Nat) (g : Nat → Int64) (p0 : Int32) (p1 : Int32)  : Met l yL_visit wsL_visit ({ frames := 7, cells := 1, slots := 6, locals := 105 }) (va_Pc [.ref (a 0), .int p0, .int p1, .ref o] (PT dC dI (wX a cI cS f ++ [(o, .inl (cJ, 1, .inr (.inl g)))]) [(cI, .int), (cS, .object "Snowpalace$Site"), (cJ, .long)] sz)) (va_Qi (fun (r : Int32) (u : Unit) => r = 1) (fun (u : Unit) t => True) (va_A (wX a cI cS f ++ [(o, .inl (cJ, 1, .inr (.inl g)))]) sz)) 1 6 (va_A (wX a cI cS f ++ [(o, .inl (cJ, 1, .inr (.inl g)))]) sz) := by
  refine va_MetW (cc := cL_visit) (maxL := 5) (ret := (some .int)) (hh := [(0, 10, 13, 54), (0, 10, 17, 13), (0, 10, 21, 15)]) (by decide +kernel) rfl ?_
  intro p e s m args below meth c s₁ B hml hv
  obtain ⟨rfl, ⟨hsz, hP, hK, hD0⟩, hT⟩ := hv
  have hx := B.exec
  have hb := B.bytes
  have hr := B.returns
  have hts := atoms_spec (ws := wsL_visit) B.pre
  have hown : s.vm.findClass RL = some m.cls := findClass_of_methodNamed B.named
  have hlocks := B.notSynchronized
  have htab : c.exceptionTable.toList = tableOf [(0, 10, 13, 54), (0, 10, 17, 13), (0, 10, 21, 15)] := vx_table (x := yL_visit) B (hts _ List.mem_cons_self)
  subst hsz
  have hD := hD0.self (sz := s.heap.size)
  generalize hAe : va_A (wX a cI cS f ++ [(o, .inl (cJ, 1, .inr (.inl g)))]) s.heap.size = A at hD hT ⊢
  have hA : ∀ q : Nat, s.heap.size ≤ q → A q := fun q h => by rw [← hAe]; exact Or.inr h
  have hS : va_S A s.heap s.heap [] := va_S.rf
  have hl := lv_entry ([.ref (a 0), .int p0, .int p1, .ref o]) (n := 5) (Nat.le_of_ble_eq_true rfl)
  rw [lg_entry_eq]
  generalize (lg_sl ([.ref (a 0), .int p0, .int p1, .ref o]) ++ List.replicate (5 - (lg_sl ([.ref (a 0), .int p0, .int p1, .ref o])).length) Slot.unset).toArray = ls at hl ⊢
  have hl : lv_has ls 5 [(0, .ref (a 0)), (1, .int p0), (2, .int p1), (3, .ref o)] := hl
  have hN : NS s := hT.ns
  refine lv_aload_n hx hb dL_visit_0 rfl (lv_at hl 3 rfl) ?_
  refine lv_iconst (v := 0) hx hb dL_visit_1 (by decide) ?_
  refine lv_aload_n hx hb dL_visit_2 rfl (lv_at hl 0 rfl) ?_
  refine lv_iload_n hx hb dL_visit_3 rfl (lv_at hl 1 rfl) ?_
  refine lv_iload_n hx hb dL_visit_4 rfl (lv_at hl 2 rfl) ?_
  have hFc := va_free (wc := [((a 0), .inr (7, [.ref (a 1), .ref (a 2), .ref (a 3), .int 0, .int 0, .int 0, .int 0, .int 0, .int 0, .int 0])), ((a 1), .inr (6, [.ref (a 4), .ref (a 5), .ref (a 6), .ref (a 7)])), ((a 2), .inr (4, [.ref (a 8), .ref (a 9), .ref (a 10)])), ((a 3), .inl (cS, 3, .inr (.inr (.inr (.inr (fun _ => none)))))), ((a 4), .inl (cI, 21, .inl (f 0))), ((a 5), .inl (cI, 21, .inl (f 1))), ((a 6), .inl (cI, 21, .inl (f 2))), ((a 7), .inl (cI, 21, .inl (f 3))), ((a 8), .inl (cI, 4, .inl (fun _ => 0))), ((a 9), .inl (cI, 4, .inl (fun _ => 0))), ((a 10), .inl (cI, 4, .inl (f 4)))]) hD hS hA [0, 1, 2, 3, 4, 5, 6, 7, 8, 9, 10] rfl
  refine vx_calli (vx_runV (As := [.int p0, .int p1]) (rest := [.int 0, .ref o]) ⟨hx, hb, hml, hown, hts⟩ (k_visit l hlt dC dI _ a cI cS f p0 p1) (cwV 2 hts gL_visit_X3_visit rfl rfl rfl (by decide +kernel) ⟨Nat.le_of_ble_eq_true rfl, Nat.le_of_ble_eq_true rfl⟩) ⟨fb_PT, va_recv hK hP (ci := 7) (q0 := 0) rfl rfl, fun U hU hW => ⟨rfl, PT.give hP hK hD hS hA hT [0, 1, 2, 3, 4, 5, 6, 7, 8, 9, 10] [0, 1] rfl rfl rfl rfl hU hW⟩⟩ rfl rfl hl.1 rfl (lv_room (Nat.le_of_ble_eq_true rfl)) dL_visit_5 ⟨(Nat.le_of_ble_eq_true rfl), (Nat.le_of_ble_eq_true rfl)⟩) hS (fun q _ h => hFc q h) hFc (fun q _ h => hFc q h) (fun E ce q9 u t H locs ht hvm hpx hBX hz1 hk1 hS hcell hvn hcl => ?_) (fun r1 u t H locs ht hvm hw2 hB hz1 hk1 hS => ?_)
  · skip
    obtain rfl := hBX
    obtain ⟨rfl, -⟩ := hpx
    refine vx_catch (E := "java/lang/IndexOutOfBoundsException") (name := "java/lang/IndexOutOfBoundsException") hown [] ⟨0, 10, 13, 54⟩ [⟨0, 10, 17, 13⟩, ⟨0, 10, 21, 15⟩] (by rw [htab]; rfl) (fun z hz => absurd hz List.not_mem_nil) rfl (by decide) (hts (.classLink RL 54 "java/lang/IndexOutOfBoundsException") (by decide +kernel)) (th_any (a := #[]) rfl (hT.1 (.castable "java/lang/IndexOutOfBoundsException" "java/lang/IndexOutOfBoundsException") (by decide +kernel))) hcell hvn hcl ?_
    obtain ⟨hP, hD⟩ := aft0 [0, 1, 2, 3, 4, 5, 6, 7, 8, 9, 10] [11] hP hD rfl (wr := [(o, .inl (cJ, 1, .inr (.inl g)))]) rfl rfl (by decide) hFc hk1
    have hP : va_P (dC, dI) vwCl ([(o, .inl (cJ, 1, .inr (.inl g)))]) H := hP
    have hD : va_D A ([(o, .inl (cJ, 1, .inr (.inl g)))]) := hD
    refine W.eq (g2 := F0 m 13 ls [.ref q9]) rfl ?_
    refine lv_astore (lv' := [(4, .ref q9), (0, .ref (a 0)), (1, .int p0), (2, .int p1), (3, .ref o)]) hx hb dL_visit_13 hl (by decide) rfl (fun ls hl => ?_)
    refine lv_iconst (v := 1) hx hb dL_visit_15 (by decide) ?_
    refine W.widen (k := 1) (n := 6) (Nat.le_of_ble_eq_true rfl) (Nat.le_of_ble_eq_true rfl) ?_
    exact W.iret (v := 1) hx hb hr (fun t ht hW => ⟨⟨1, (), rfl, rfl, trivial⟩, hS.F ht⟩) hS.2.2 dL_visit_16
  · skip
    obtain ⟨hP, hD⟩ := aft0 [0, 1, 2, 3, 4, 5, 6, 7, 8, 9, 10] [11] hP hD rfl (wr := [(o, .inl (cJ, 1, .inr (.inl g)))]) rfl rfl (by decide) hFc hk1
    have hP : va_P (dC, dI) vwCl ([(o, .inl (cJ, 1, .inr (.inl g)))]) H := hP
    have hD : va_D A ([(o, .inl (cJ, 1, .inr (.inl g)))]) := hD
    exact hw2.elim

set_option maxHeartbeats 4000000 in
set_option maxRecDepth 100000 in
/-- plan: caught -/
theorem h_plan (l : Launch) (hlt : l.stackTraces = false) (dC : Nat → ClassId) (dI : Nat → Nat → Nat) (sz : Nat) (a : Nat → Nat) (cI cS : ClassId) (f : Nat → Nat → Int32) (cJ : ClassId) (o : Nat) (g : Nat → Int64) (p0 : Int32) (p1 : Int32) (p2 : Int32) (p3 : Int32)  : Met l yL_plan wsL_plan ({ frames := 7, cells := 1, slots := 6, locals := 107 }) (va_Pc [.ref (a 0), .int p0, .int p1, .int p2, .int p3, .ref o] (PT dC dI (wX a cI cS f ++ [(o, .inl (cJ, 1, .inr (.inl g)))]) [(cI, .int), (cS, .object "Snowpalace$Site"), (cJ, .long)] sz)) (va_Qi (fun (r : Int32) (u : Unit) => r = 1) (fun (u : Unit) t => True) (va_A (wX a cI cS f ++ [(o, .inl (cJ, 1, .inr (.inl g)))]) sz)) 1 6 (va_A (wX a cI cS f ++ [(o, .inl (cJ, 1, .inr (.inl g)))]) sz) := by
  refine va_MetW (cc := cL_plan) (maxL := 7) (ret := (some .int)) (hh := [(0, 14, 17, 54)]) (by decide +kernel) rfl ?_
  intro p e s m args below meth c s₁ B hml hv
  obtain ⟨rfl, ⟨hsz, hP, hK, hD0⟩, hT⟩ := hv
  have hx := B.exec
  have hb := B.bytes
  have hr := B.returns
  have hts := atoms_spec (ws := wsL_plan) B.pre
  have hown : s.vm.findClass RL = some m.cls := findClass_of_methodNamed B.named
  have hlocks := B.notSynchronized
  have htab : c.exceptionTable.toList = tableOf [(0, 14, 17, 54)] := vx_table (x := yL_plan) B (hts _ List.mem_cons_self)
  subst hsz
  have hD := hD0.self (sz := s.heap.size)
  generalize hAe : va_A (wX a cI cS f ++ [(o, .inl (cJ, 1, .inr (.inl g)))]) s.heap.size = A at hD hT ⊢
  have hA : ∀ q : Nat, s.heap.size ≤ q → A q := fun q h => by rw [← hAe]; exact Or.inr h
  have hS : va_S A s.heap s.heap [] := va_S.rf
  have hl := lv_entry ([.ref (a 0), .int p0, .int p1, .int p2, .int p3, .ref o]) (n := 7) (Nat.le_of_ble_eq_true rfl)
  rw [lg_entry_eq]
  generalize (lg_sl ([.ref (a 0), .int p0, .int p1, .int p2, .int p3, .ref o]) ++ List.replicate (7 - (lg_sl ([.ref (a 0), .int p0, .int p1, .int p2, .int p3, .ref o])).length) Slot.unset).toArray = ls at hl ⊢
  have hl : lv_has ls 7 [(0, .ref (a 0)), (1, .int p0), (2, .int p1), (3, .int p2), (4, .int p3), (5, .ref o)] := hl
  have hN : NS s := hT.ns
  refine lv_aload hx hb dL_plan_0 (lv_at hl 5 rfl) ?_
  refine lv_iconst (v := 0) hx hb dL_plan_2 (by decide) ?_
  refine lv_aload_n hx hb dL_plan_3 rfl (lv_at hl 0 rfl) ?_
  refine lv_iload_n hx hb dL_plan_4 rfl (lv_at hl 1 rfl) ?_
  refine lv_iload_n hx hb dL_plan_5 rfl (lv_at hl 2 rfl) ?_
  refine lv_iload_n hx hb dL_plan_6 rfl (lv_at hl 3 rfl) ?_
  refine lv_iload hx hb dL_plan_7 (lv_at hl 4 rfl) ?_
  have hFc := va_free (wc := [((a 0), .inr (7, [.ref (a 1), .ref (a 2), .ref (a 3), .int 0, .int 0, .int 0, .int 0, .int 0, .int 0, .int 0])), ((a 1), .inr (6, [.ref (a 4), .ref (a 5), .ref (a 6), .ref (a 7)])), ((a 2), .inr (4, [.ref (a 8), .ref (a 9), .ref (a 10)])), ((a 3), .inl (cS, 3, .inr (.inr (.inr (.inr (fun _ => none)))))), ((a 4), .inl (cI, 21, .inl (f 0))), ((a 5), .inl (cI, 21, .inl (f 1))), ((a 6), .inl (cI, 21, .inl (f 2))), ((a 7), .inl (cI, 21, .inl (f 3))), ((a 8), .inl (cI, 4, .inl (fun _ => 0))), ((a 9), .inl (cI, 4, .inl (fun _ => 0))), ((a 10), .inl (cI, 4, .inl (f 4)))]) hD hS hA [0, 1, 2, 3, 4, 5, 6, 7, 8, 9, 10] rfl
  refine vx_calli (vx_runV (As := [.int p0, .int p1, .int p2, .int p3]) (rest := [.int 0, .ref o]) ⟨hx, hb, hml, hown, hts⟩ (k_plan l hlt dC dI _ a cI cS f p0 p1 p2 p3) (cwV 4 hts gL_plan_X3_plan rfl rfl rfl (by decide +kernel) ⟨Nat.le_of_ble_eq_true rfl, Nat.le_of_ble_eq_true rfl⟩) ⟨fb_PT, va_recv hK hP (ci := 7) (q0 := 0) rfl rfl, fun U hU hW => ⟨rfl, PT.give hP hK hD hS hA hT [0, 1, 2, 3, 4, 5, 6, 7, 8, 9, 10] [0, 1] rfl rfl rfl rfl hU hW⟩⟩ rfl rfl hl.1 rfl (lv_room (Nat.le_of_ble_eq_true rfl)) dL_plan_9 ⟨(Nat.le_of_ble_eq_true rfl), (Nat.le_of_ble_eq_true rfl)⟩) hS (fun q _ h => hFc q h) hFc (fun q _ h => hFc q h) (fun E ce q9 u t H locs ht hvm hpx hBX hz1 hk1 hS hcell hvn hcl => ?_) (fun r1 u t H locs ht hvm hw2 hB hz1 hk1 hS => ?_)
  · skip
    obtain rfl := hBX
    obtain ⟨rfl, -⟩ := hpx
    refine vx_catch (E := "java/lang/IndexOutOfBoundsException") (name := "java/lang/IndexOutOfBoundsException") hown [] ⟨0, 14, 17, 54⟩ [] (by rw [htab]; rfl) (fun z hz => absurd hz List.not_mem_nil) rfl (by decide) (hts (.classLink RL 54 "java/lang/IndexOutOfBoundsException") (by decide +kernel)) (th_any (a := #[]) rfl (hT.1 (.castable "java/lang/IndexOutOfBoundsException" "java/lang/IndexOutOfBoundsException") (by decide +kernel))) hcell hvn hcl ?_
    obtain ⟨hP, hD⟩ := aft0 [0, 1, 2, 3, 4, 5, 6, 7, 8, 9, 10] [11] hP hD rfl (wr := [(o, .inl (cJ, 1, .inr (.inl g)))]) rfl rfl (by decide) hFc hk1
    have hP : va_P (dC, dI) vwCl ([(o, .inl (cJ, 1, .inr (.inl g)))]) H := hP
    have hD : va_D A ([(o, .inl (cJ, 1, .inr (.inl g)))]) := hD
    refine W.eq (g2 := F0 m 17 ls [.ref q9]) rfl ?_
    refine lv_astore (lv' := [(6, .ref q9), (0, .ref (a 0)), (1, .int p0), (2, .int p1), (3, .int p2), (4, .int p3), (5, .ref o)]) hx hb dL_plan_17 hl (by decide) rfl (fun ls hl => ?_)
    refine lv_iconst (v := 1) hx hb dL_plan_19 (by decide) ?_
    refine W.widen (k := 1) (n := 6) (Nat.le_of_ble_eq_true rfl) (Nat.le_of_ble_eq_true rfl) ?_
    exact W.iret (v := 1) hx hb hr (fun t ht hW => ⟨⟨1, (), rfl, rfl, trivial⟩, hS.F ht⟩) hS.2.2 dL_plan_20
  · skip
    obtain ⟨hP, hD⟩ := aft0 [0, 1, 2, 3, 4, 5, 6, 7, 8, 9, 10] [11] hP hD rfl (wr := [(o, .inl (cJ, 1, .inr (.inl g)))]) rfl rfl (by decide) hFc hk1
    have hP : va_P (dC, dI) vwCl ([(o, .inl (cJ, 1, .inr (.inl g)))]) H := hP
    have hD : va_D A ([(o, .inl (cJ, 1, .inr (.inl g)))]) := hD
    exact hw2.elim

set_option maxHeartbeats 4000000 in
set_option maxRecDepth 100000 in
/-- carve: caught -/
theorem h_carve (l : Launch) (hlt : l.stackTraces = false) (dC : Nat → ClassId) (dI : Nat → Nat → Nat) (sz : Nat) (a : Nat → Nat) (cI cS : ClassId) (f : Nat → Nat → Int32) (cJ : ClassId) (o : Nat) (g : Nat → Int64) (p0 : Int32) (p1 : Int32) (p2 : Int32) (p3 : Int32)  : Met l yL_carve wzL_carve ({ frames := 7, cells := 1, slots := 6, locals := 108 }) (va_Pc [.ref (a 0), .int p0, .int p1, .int p2, .int p3, .ref o] (PT dC dI (wX a cI cS f ++ [(o, .inl (cJ, 1, .inr (.inl g)))]) [(cI, .int), (cS, .object "Snowpalace$Site"), (cJ, .long)] sz)) (va_Qi (fun (r : Int32) (u : Unit) => r = 1) (fun (u : Unit) t => True) (va_A (wX a cI cS f ++ [(o, .inl (cJ, 1, .inr (.inl g)))]) sz)) 1 6 (va_A (wX a cI cS f ++ [(o, .inl (cJ, 1, .inr (.inl g)))]) sz) := by
  refine va_MetW (cc := cL_carve) (maxL := 7) (ret := (some .int)) (hh := [(0, 14, 17, 54), (0, 14, 21, 13), (0, 14, 25, 64), (0, 14, 29, 27), (0, 14, 33, 15)]) (by decide +kernel) rfl ?_
  intro p e s m args below meth c s₁ B hml hv
  obtain ⟨rfl, ⟨hsz, hP, hK, hD0⟩, hT⟩ := hv
  have hx := B.exec
  have hb := B.bytes
  have hr := B.returns
  have hts := atoms_spec (ws := wzL_carve) B.pre
  have hown : s.vm.findClass RL = some m.cls := findClass_of_methodNamed B.named
  have hlocks := B.notSynchronized
  have htab : c.exceptionTable.toList = tableOf [(0, 14, 17, 54), (0, 14, 21, 13), (0, 14, 25, 64), (0, 14, 29, 27), (0, 14, 33, 15)] := vx_table (x := yL_carve) B (hts _ List.mem_cons_self)
  subst hsz
  have hD := hD0.self (sz := s.heap.size)
  generalize hAe : va_A (wX a cI cS f ++ [(o, .inl (cJ, 1, .inr (.inl g)))]) s.heap.size = A at hD hT ⊢
  have hA : ∀ q : Nat, s.heap.size ≤ q → A q := fun q h => by rw [← hAe]; exact Or.inr h
  have hS : va_S A s.heap s.heap [] := va_S.rf
  have hl := lv_entry ([.ref (a 0), .int p0, .int p1, .int p2, .int p3, .ref o]) (n := 7) (Nat.le_of_ble_eq_true rfl)
  rw [lg_entry_eq]
  generalize (lg_sl ([.ref (a 0), .int p0, .int p1, .int p2, .int p3, .ref o]) ++ List.replicate (7 - (lg_sl ([.ref (a 0), .int p0, .int p1, .int p2, .int p3, .ref o])).length) Slot.unset).toArray = ls at hl ⊢
  have hl : lv_has ls 7 [(0, .ref (a 0)), (1, .int p0), (2, .int p1), (3, .int p2), (4, .int p3), (5, .ref o)] := hl
  have hN : NS s := hT.ns
  refine lv_aload hx hb dL_carve_0 (lv_at hl 5 rfl) ?_
  refine lv_iconst (v := 0) hx hb dL_carve_2 (by decide) ?_
  refine lv_aload_n hx hb dL_carve_3 rfl (lv_at hl 0 rfl) ?_
  refine lv_iload_n hx hb dL_carve_4 rfl (lv_at hl 1 rfl) ?_
  refine lv_iload_n hx hb dL_carve_5 rfl (lv_at hl 2 rfl) ?_
  refine lv_iload_n hx hb dL_carve_6 rfl (lv_at hl 3 rfl) ?_
  refine lv_iload hx hb dL_carve_7 (lv_at hl 4 rfl) ?_
  have hFc := va_free (wc := [((a 0), .inr (7, [.ref (a 1), .ref (a 2), .ref (a 3), .int 0, .int 0, .int 0, .int 0, .int 0, .int 0, .int 0])), ((a 1), .inr (6, [.ref (a 4), .ref (a 5), .ref (a 6), .ref (a 7)])), ((a 2), .inr (4, [.ref (a 8), .ref (a 9), .ref (a 10)])), ((a 3), .inl (cS, 3, .inr (.inr (.inr (.inr (fun _ => none)))))), ((a 4), .inl (cI, 21, .inl (f 0))), ((a 5), .inl (cI, 21, .inl (f 1))), ((a 6), .inl (cI, 21, .inl (f 2))), ((a 7), .inl (cI, 21, .inl (f 3))), ((a 8), .inl (cI, 4, .inl (fun _ => 0))), ((a 9), .inl (cI, 4, .inl (fun _ => 0))), ((a 10), .inl (cI, 4, .inl (f 4)))]) hD hS hA [0, 1, 2, 3, 4, 5, 6, 7, 8, 9, 10] rfl
  refine vx_calli (vx_runV (As := [.int p0, .int p1, .int p2, .int p3]) (rest := [.int 0, .ref o]) ⟨hx, hb, hml, hown, hts⟩ (k_carve l hlt dC dI _ a cI cS f p0 p1 p2 p3) (cwV 4 hts gL_carve_X3_carve rfl rfl rfl (by decide +kernel) ⟨Nat.le_of_ble_eq_true rfl, Nat.le_of_ble_eq_true rfl⟩) ⟨fb_PT, va_recv hK hP (ci := 7) (q0 := 0) rfl rfl, fun U hU hW => ⟨rfl, PT.give hP hK hD hS hA hT [0, 1, 2, 3, 4, 5, 6, 7, 8, 9, 10] [0, 1] rfl rfl rfl rfl hU hW⟩⟩ rfl rfl hl.1 rfl (lv_room (Nat.le_of_ble_eq_true rfl)) dL_carve_9 ⟨(Nat.le_of_ble_eq_true rfl), (Nat.le_of_ble_eq_true rfl)⟩) hS (fun q _ h => hFc q h) hFc (fun q _ h => hFc q h) (fun E ce q9 u t H locs ht hvm hpx hBX hz1 hk1 hS hcell hvn hcl => ?_) (fun r1 u t H locs ht hvm hw2 hB hz1 hk1 hS => ?_)
  · skip
    obtain rfl := hBX
    obtain ⟨rfl, -⟩ := hpx
    refine vx_catch (E := "java/lang/IndexOutOfBoundsException") (name := "java/lang/IndexOutOfBoundsException") hown [] ⟨0, 14, 17, 54⟩ [⟨0, 14, 21, 13⟩, ⟨0, 14, 25, 64⟩, ⟨0, 14, 29, 27⟩, ⟨0, 14, 33, 15⟩] (by rw [htab]; rfl) (fun z hz => absurd hz List.not_mem_nil) rfl (by decide) (hts (.classLink RL 54 "java/lang/IndexOutOfBoundsException") (by decide +kernel)) (th_any (a := #[]) rfl (hT.1 (.castable "java/lang/IndexOutOfBoundsException" "java/lang/IndexOutOfBoundsException") (by decide +kernel))) hcell hvn hcl ?_
    obtain ⟨hP, hD⟩ := aft0 [0, 1, 2, 3, 4, 5, 6, 7, 8, 9, 10] [11] hP hD rfl (wr := [(o, .inl (cJ, 1, .inr (.inl g)))]) rfl rfl (by decide) hFc hk1
    have hP : va_P (dC, dI) vwCl ([(o, .inl (cJ, 1, .inr (.inl g)))]) H := hP
    have hD : va_D A ([(o, .inl (cJ, 1, .inr (.inl g)))]) := hD
    refine W.eq (g2 := F0 m 17 ls [.ref q9]) rfl ?_
    refine lv_astore (lv' := [(6, .ref q9), (0, .ref (a 0)), (1, .int p0), (2, .int p1), (3, .int p2), (4, .int p3), (5, .ref o)]) hx hb dL_carve_17 hl (by decide) rfl (fun ls hl => ?_)
    refine lv_iconst (v := 1) hx hb dL_carve_19 (by decide) ?_
    refine W.widen (k := 1) (n := 6) (Nat.le_of_ble_eq_true rfl) (Nat.le_of_ble_eq_true rfl) ?_
    exact W.iret (v := 1) hx hb hr (fun t ht hW => ⟨⟨1, (), rfl, rfl, trivial⟩, hS.F ht⟩) hS.2.2 dL_carve_20
  · skip
    obtain ⟨hP, hD⟩ := aft0 [0, 1, 2, 3, 4, 5, 6, 7, 8, 9, 10] [11] hP hD rfl (wr := [(o, .inl (cJ, 1, .inr (.inl g)))]) rfl rfl (by decide) hFc hk1
    have hP : va_P (dC, dI) vwCl ([(o, .inl (cJ, 1, .inr (.inl g)))]) H := hP
    have hD : va_D A ([(o, .inl (cJ, 1, .inr (.inl g)))]) := hD
    exact hw2.elim

set_option maxHeartbeats 4000000 in
set_option maxRecDepth 100000 in
/-- hours: caught -/
theorem h_hours (l : Launch) (hlt : l.stackTraces = false) (dC : Nat → ClassId) (dI : Nat → Nat → Nat) (sz : Nat) (a : Nat → Nat) (cI cS : ClassId) (f : Nat → Nat → Int32) (cJ : ClassId) (o : Nat) (g : Nat → Int64) (p0 : Int32)  : Met l yL_hours wsL_hours ({ frames := 7, cells := 1, slots := 6, locals := 104 }) (va_Pc [.ref (a 0), .int p0, .ref o] (PT dC dI (wX a cI cS f ++ [(o, .inl (cJ, 1, .inr (.inl g)))]) [(cI, .int), (cS, .object "Snowpalace$Site"), (cJ, .long)] sz)) (va_Qi (fun (r : Int32) (u : Unit) => r = 1) (fun (u : Unit) t => True) (va_A (wX a cI cS f ++ [(o, .inl (cJ, 1, .inr (.inl g)))]) sz)) 1 6 (va_A (wX a cI cS f ++ [(o, .inl (cJ, 1, .inr (.inl g)))]) sz) := by
  refine va_MetW (cc := cL_hours) (maxL := 4) (ret := (some .int)) (hh := [(0, 9, 12, 54)]) (by decide +kernel) rfl ?_
  intro p e s m args below meth c s₁ B hml hv
  obtain ⟨rfl, ⟨hsz, hP, hK, hD0⟩, hT⟩ := hv
  have hx := B.exec
  have hb := B.bytes
  have hr := B.returns
  have hts := atoms_spec (ws := wsL_hours) B.pre
  have hown : s.vm.findClass RL = some m.cls := findClass_of_methodNamed B.named
  have hlocks := B.notSynchronized
  have htab : c.exceptionTable.toList = tableOf [(0, 9, 12, 54)] := vx_table (x := yL_hours) B (hts _ List.mem_cons_self)
  subst hsz
  have hD := hD0.self (sz := s.heap.size)
  generalize hAe : va_A (wX a cI cS f ++ [(o, .inl (cJ, 1, .inr (.inl g)))]) s.heap.size = A at hD hT ⊢
  have hA : ∀ q : Nat, s.heap.size ≤ q → A q := fun q h => by rw [← hAe]; exact Or.inr h
  have hS : va_S A s.heap s.heap [] := va_S.rf
  have hl := lv_entry ([.ref (a 0), .int p0, .ref o]) (n := 4) (Nat.le_of_ble_eq_true rfl)
  rw [lg_entry_eq]
  generalize (lg_sl ([.ref (a 0), .int p0, .ref o]) ++ List.replicate (4 - (lg_sl ([.ref (a 0), .int p0, .ref o])).length) Slot.unset).toArray = ls at hl ⊢
  have hl : lv_has ls 4 [(0, .ref (a 0)), (1, .int p0), (2, .ref o)] := hl
  have hN : NS s := hT.ns
  refine lv_aload_n hx hb dL_hours_0 rfl (lv_at hl 2 rfl) ?_
  refine lv_iconst (v := 0) hx hb dL_hours_1 (by decide) ?_
  refine lv_aload_n hx hb dL_hours_2 rfl (lv_at hl 0 rfl) ?_
  refine lv_iload_n hx hb dL_hours_3 rfl (lv_at hl 1 rfl) ?_
  have hFc := va_free (wc := [((a 0), .inr (7, [.ref (a 1), .ref (a 2), .ref (a 3), .int 0, .int 0, .int 0, .int 0, .int 0, .int 0, .int 0])), ((a 1), .inr (6, [.ref (a 4), .ref (a 5), .ref (a 6), .ref (a 7)])), ((a 2), .inr (4, [.ref (a 8), .ref (a 9), .ref (a 10)])), ((a 3), .inl (cS, 3, .inr (.inr (.inr (.inr (fun _ => none)))))), ((a 4), .inl (cI, 21, .inl (f 0))), ((a 5), .inl (cI, 21, .inl (f 1))), ((a 6), .inl (cI, 21, .inl (f 2))), ((a 7), .inl (cI, 21, .inl (f 3))), ((a 8), .inl (cI, 4, .inl (fun _ => 0))), ((a 9), .inl (cI, 4, .inl (fun _ => 0))), ((a 10), .inl (cI, 4, .inl (f 4)))]) hD hS hA [0, 1, 2, 3, 4, 5, 6, 7, 8, 9, 10] rfl
  refine vx_calli (vx_runV (As := [.int p0]) (rest := [.int 0, .ref o]) ⟨hx, hb, hml, hown, hts⟩ (k_hours l hlt dC dI _ a cI cS f p0) (cwV 1 hts gL_hours_X3_hours rfl rfl rfl (by decide +kernel) ⟨Nat.le_of_ble_eq_true rfl, Nat.le_of_ble_eq_true rfl⟩) ⟨fb_PT, va_recv hK hP (ci := 7) (q0 := 0) rfl rfl, fun U hU hW => ⟨rfl, PT.give hP hK hD hS hA hT [0, 1, 2, 3, 4, 5, 6, 7, 8, 9, 10] [0, 1] rfl rfl rfl rfl hU hW⟩⟩ rfl rfl hl.1 rfl (lv_room (Nat.le_of_ble_eq_true rfl)) dL_hours_4 ⟨(Nat.le_of_ble_eq_true rfl), (Nat.le_of_ble_eq_true rfl)⟩) hS (fun q _ h => hFc q h) hFc (fun q _ h => hFc q h) (fun E ce q9 u t H locs ht hvm hpx hBX hz1 hk1 hS hcell hvn hcl => ?_) (fun r1 u t H locs ht hvm hw2 hB hz1 hk1 hS => ?_)
  · skip
    obtain rfl := hBX
    obtain ⟨rfl, -⟩ := hpx
    refine vx_catch (E := "java/lang/IndexOutOfBoundsException") (name := "java/lang/IndexOutOfBoundsException") hown [] ⟨0, 9, 12, 54⟩ [] (by rw [htab]; rfl) (fun z hz => absurd hz List.not_mem_nil) rfl (by decide) (hts (.classLink RL 54 "java/lang/IndexOutOfBoundsException") (by decide +kernel)) (th_any (a := #[]) rfl (hT.1 (.castable "java/lang/IndexOutOfBoundsException" "java/lang/IndexOutOfBoundsException") (by decide +kernel))) hcell hvn hcl ?_
    obtain ⟨hP, hD⟩ := aft0 [0, 1, 2, 3, 4, 5, 6, 7, 8, 9, 10] [11] hP hD rfl (wr := [(o, .inl (cJ, 1, .inr (.inl g)))]) rfl rfl (by decide) hFc hk1
    have hP : va_P (dC, dI) vwCl ([(o, .inl (cJ, 1, .inr (.inl g)))]) H := hP
    have hD : va_D A ([(o, .inl (cJ, 1, .inr (.inl g)))]) := hD
    refine W.eq (g2 := F0 m 12 ls [.ref q9]) rfl ?_
    refine lv_astore_n (lv' := [(3, .ref q9), (0, .ref (a 0)), (1, .int p0), (2, .ref o)]) hx hb dL_hours_12 rfl hl (by decide) rfl (fun ls hl => ?_)
    refine lv_iconst (v := 1) hx hb dL_hours_13 (by decide) ?_
    refine W.widen (k := 1) (n := 6) (Nat.le_of_ble_eq_true rfl) (Nat.le_of_ble_eq_true rfl) ?_
    exact W.iret (v := 1) hx hb hr (fun t ht hW => ⟨⟨1, (), rfl, rfl, trivial⟩, hS.F ht⟩) hS.2.2 dL_hours_14
  · skip
    obtain ⟨hP, hD⟩ := aft0 [0, 1, 2, 3, 4, 5, 6, 7, 8, 9, 10] [11] hP hD rfl (wr := [(o, .inl (cJ, 1, .inr (.inl g)))]) rfl rfl (by decide) hFc hk1
    have hP : va_P (dC, dI) vwCl ([(o, .inl (cJ, 1, .inr (.inl g)))]) H := hP
    have hD : va_D A ([(o, .inl (cJ, 1, .inr (.inl g)))]) := hD
    exact hw2.elim

set_option maxHeartbeats 4000000 in
set_option maxRecDepth 100000 in
/-- judge: caught -/
theorem h_judge (l : Launch) (hlt : l.stackTraces = false) (dC : Nat → ClassId) (dI : Nat → Nat → Nat) (sz : Nat) (a : Nat → Nat) (cI cS : ClassId) (f : Nat → Nat → Int32) (cJ : ClassId) (o : Nat) (g : Nat → UInt64) (p0 : Int32)  : Met l yL_judge wsL_judge ({ frames := 7, cells := 1, slots := 6, locals := 104 }) (va_Pc [.ref (a 0), .int p0, .ref o] (PT dC dI (wX a cI cS f ++ [(o, .inl (cJ, 1, .inr (.inr (.inr (.inl g)))))]) [(cI, .int), (cS, .object "Snowpalace$Site"), (cJ, .double)] sz)) (va_Qi (fun (r : Int32) (u : Unit) => r = 1) (fun (u : Unit) t => True) (va_A (wX a cI cS f ++ [(o, .inl (cJ, 1, .inr (.inr (.inr (.inl g)))))]) sz)) 1 6 (va_A (wX a cI cS f ++ [(o, .inl (cJ, 1, .inr (.inr (.inr (.inl g)))))]) sz) := by
  refine va_MetW (cc := cL_judge) (maxL := 4) (ret := (some .int)) (hh := [(0, 8, 11, 54)]) (by decide +kernel) rfl ?_
  intro p e s m args below meth c s₁ B hml hv
  obtain ⟨rfl, ⟨hsz, hP, hK, hD0⟩, hT⟩ := hv
  have hx := B.exec
  have hb := B.bytes
  have hr := B.returns
  have hts := atoms_spec (ws := wsL_judge) B.pre
  have hown : s.vm.findClass RL = some m.cls := findClass_of_methodNamed B.named
  have hlocks := B.notSynchronized
  have htab : c.exceptionTable.toList = tableOf [(0, 8, 11, 54)] := vx_table (x := yL_judge) B (hts _ List.mem_cons_self)
  subst hsz
  have hD := hD0.self (sz := s.heap.size)
  generalize hAe : va_A (wX a cI cS f ++ [(o, .inl (cJ, 1, .inr (.inr (.inr (.inl g)))))]) s.heap.size = A at hD hT ⊢
  have hA : ∀ q : Nat, s.heap.size ≤ q → A q := fun q h => by rw [← hAe]; exact Or.inr h
  have hS : va_S A s.heap s.heap [] := va_S.rf
  have hl := lv_entry ([.ref (a 0), .int p0, .ref o]) (n := 4) (Nat.le_of_ble_eq_true rfl)
  rw [lg_entry_eq]
  generalize (lg_sl ([.ref (a 0), .int p0, .ref o]) ++ List.replicate (4 - (lg_sl ([.ref (a 0), .int p0, .ref o])).length) Slot.unset).toArray = ls at hl ⊢
  have hl : lv_has ls 4 [(0, .ref (a 0)), (1, .int p0), (2, .ref o)] := hl
  have hN : NS s := hT.ns
  refine lv_aload_n hx hb dL_judge_0 rfl (lv_at hl 2 rfl) ?_
  refine lv_iconst (v := 0) hx hb dL_judge_1 (by decide) ?_
  refine lv_aload_n hx hb dL_judge_2 rfl (lv_at hl 0 rfl) ?_
  refine lv_iload_n hx hb dL_judge_3 rfl (lv_at hl 1 rfl) ?_
  have hFc := va_free (wc := [((a 0), .inr (7, [.ref (a 1), .ref (a 2), .ref (a 3), .int 0, .int 0, .int 0, .int 0, .int 0, .int 0, .int 0])), ((a 1), .inr (6, [.ref (a 4), .ref (a 5), .ref (a 6), .ref (a 7)])), ((a 2), .inr (4, [.ref (a 8), .ref (a 9), .ref (a 10)])), ((a 3), .inl (cS, 3, .inr (.inr (.inr (.inr (fun _ => none)))))), ((a 4), .inl (cI, 21, .inl (f 0))), ((a 5), .inl (cI, 21, .inl (f 1))), ((a 6), .inl (cI, 21, .inl (f 2))), ((a 7), .inl (cI, 21, .inl (f 3))), ((a 8), .inl (cI, 4, .inl (fun _ => 0))), ((a 9), .inl (cI, 4, .inl (fun _ => 0))), ((a 10), .inl (cI, 4, .inl (f 4)))]) hD hS hA [0, 1, 2, 3, 4, 5, 6, 7, 8, 9, 10] rfl
  refine vx_calld (vx_runV (As := [.int p0]) (rest := [.int 0, .ref o]) ⟨hx, hb, hml, hown, hts⟩ (k_judge l hlt dC dI _ a cI cS f p0) (cwV 1 hts gL_judge_X3_judge rfl rfl rfl (by decide +kernel) ⟨Nat.le_of_ble_eq_true rfl, Nat.le_of_ble_eq_true rfl⟩) ⟨fb_PT, va_recv hK hP (ci := 7) (q0 := 0) rfl rfl, fun U hU hW => ⟨rfl, PT.give hP hK hD hS hA hT [0, 1, 2, 3, 4, 5, 6, 7, 8, 9, 10] [0, 1] rfl rfl rfl rfl hU hW⟩⟩ rfl rfl hl.1 rfl (lv_room (Nat.le_of_ble_eq_true rfl)) dL_judge_4 ⟨(Nat.le_of_ble_eq_true rfl), (Nat.le_of_ble_eq_true rfl)⟩) hS (fun q _ h => hFc q h) hFc (fun q _ h => hFc q h) (fun E ce q9 u t H locs ht hvm hpx hBX hz1 hk1 hS hcell hvn hcl => ?_) (fun r1 u t H locs ht hvm hw2 hB hz1 hk1 hS => ?_)
  · skip
    obtain rfl := hBX
    obtain ⟨rfl, -⟩ := hpx
    refine vx_catch (E := "java/lang/IndexOutOfBoundsException") (name := "java/lang/IndexOutOfBoundsException") hown [] ⟨0, 8, 11, 54⟩ [] (by rw [htab]; rfl) (fun z hz => absurd hz List.not_mem_nil) rfl (by decide) (hts (.classLink RL 54 "java/lang/IndexOutOfBoundsException") (by decide +kernel)) (th_any (a := #[]) rfl (hT.1 (.castable "java/lang/IndexOutOfBoundsException" "java/lang/IndexOutOfBoundsException") (by decide +kernel))) hcell hvn hcl ?_
    obtain ⟨hP, hD⟩ := aft0 [0, 1, 2, 3, 4, 5, 6, 7, 8, 9, 10] [11] hP hD rfl (wr := [(o, .inl (cJ, 1, .inr (.inr (.inr (.inl g)))))]) rfl rfl (by decide) hFc hk1
    have hP : va_P (dC, dI) vwCl ([(o, .inl (cJ, 1, .inr (.inr (.inr (.inl g)))))]) H := hP
    have hD : va_D A ([(o, .inl (cJ, 1, .inr (.inr (.inr (.inl g)))))]) := hD
    refine W.eq (g2 := F0 m 11 ls [.ref q9]) rfl ?_
    refine lv_astore_n (lv' := [(3, .ref q9), (0, .ref (a 0)), (1, .int p0), (2, .ref o)]) hx hb dL_judge_11 rfl hl (by decide) rfl (fun ls hl => ?_)
    refine lv_iconst (v := 1) hx hb dL_judge_12 (by decide) ?_
    refine W.widen (k := 1) (n := 6) (Nat.le_of_ble_eq_true rfl) (Nat.le_of_ble_eq_true rfl) ?_
    exact W.iret (v := 1) hx hb hr (fun t ht hW => ⟨⟨1, (), rfl, rfl, trivial⟩, hS.F ht⟩) hS.2.2 dL_judge_13
  · skip
    obtain ⟨hP, hD⟩ := aft0 [0, 1, 2, 3, 4, 5, 6, 7, 8, 9, 10] [11] hP hD rfl (wr := [(o, .inl (cJ, 1, .inr (.inr (.inr (.inl g)))))]) rfl rfl (by decide) hFc hk1
    have hP : va_P (dC, dI) vwCl ([(o, .inl (cJ, 1, .inr (.inr (.inr (.inl g)))))]) H := hP
    have hD : va_D A ([(o, .inl (cJ, 1, .inr (.inr (.inr (.inl g)))))]) := hD
    exact hw2.elim

set_option maxHeartbeats 4000000 in
set_option maxRecDepth 100000 in
/-- mark: caught -/
theorem h_mark (l : Launch) (hlt : l.stackTraces = false) (dC : Nat → ClassId) (dI : Nat → Nat → Nat) (sz : Nat) (a : Nat → Nat) (cI cS : ClassId) (f : Nat → Nat → Int32) (cJ : ClassId) (o : Nat) (g : Nat → UInt64) (p0 : Int32)  : Met l yL_mark wzL_mark ({ frames := 7, cells := 1, slots := 6, locals := 104 }) (va_Pc [.ref (a 0), .int p0, .ref o] (PT dC dI (wX a cI cS f ++ [(o, .inl (cJ, 1, .inr (.inr (.inr (.inl g)))))]) [(cI, .int), (cS, .object "Snowpalace$Site"), (cJ, .double)] sz)) (va_Qi (fun (r : Int32) (u : Unit) => r = 1) (fun (u : Unit) t => True) (va_A (wX a cI cS f ++ [(o, .inl (cJ, 1, .inr (.inr (.inr (.inl g)))))]) sz)) 1 6 (va_A (wX a cI cS f ++ [(o, .inl (cJ, 1, .inr (.inr (.inr (.inl g)))))]) sz) := by
  refine va_MetW (cc := cL_mark) (maxL := 4) (ret := (some .int)) (hh := [(0, 8, 11, 54), (0, 8, 14, 64)]) (by decide +kernel) rfl ?_
  intro p e s m args below meth c s₁ B hml hv
  obtain ⟨rfl, ⟨hsz, hP, hK, hD0⟩, hT⟩ := hv
  have hx := B.exec
  have hb := B.bytes
  have hr := B.returns
  have hts := atoms_spec (ws := wzL_mark) B.pre
  have hown : s.vm.findClass RL = some m.cls := findClass_of_methodNamed B.named
  have hlocks := B.notSynchronized
  have htab : c.exceptionTable.toList = tableOf [(0, 8, 11, 54), (0, 8, 14, 64)] := vx_table (x := yL_mark) B (hts _ List.mem_cons_self)
  subst hsz
  have hD := hD0.self (sz := s.heap.size)
  generalize hAe : va_A (wX a cI cS f ++ [(o, .inl (cJ, 1, .inr (.inr (.inr (.inl g)))))]) s.heap.size = A at hD hT ⊢
  have hA : ∀ q : Nat, s.heap.size ≤ q → A q := fun q h => by rw [← hAe]; exact Or.inr h
  have hS : va_S A s.heap s.heap [] := va_S.rf
  have hl := lv_entry ([.ref (a 0), .int p0, .ref o]) (n := 4) (Nat.le_of_ble_eq_true rfl)
  rw [lg_entry_eq]
  generalize (lg_sl ([.ref (a 0), .int p0, .ref o]) ++ List.replicate (4 - (lg_sl ([.ref (a 0), .int p0, .ref o])).length) Slot.unset).toArray = ls at hl ⊢
  have hl : lv_has ls 4 [(0, .ref (a 0)), (1, .int p0), (2, .ref o)] := hl
  have hN : NS s := hT.ns
  refine lv_aload_n hx hb dL_mark_0 rfl (lv_at hl 2 rfl) ?_
  refine lv_iconst (v := 0) hx hb dL_mark_1 (by decide) ?_
  refine lv_aload_n hx hb dL_mark_2 rfl (lv_at hl 0 rfl) ?_
  refine lv_iload_n hx hb dL_mark_3 rfl (lv_at hl 1 rfl) ?_
  have hFc := va_free (wc := [((a 0), .inr (7, [.ref (a 1), .ref (a 2), .ref (a 3), .int 0, .int 0, .int 0, .int 0, .int 0, .int 0, .int 0])), ((a 1), .inr (6, [.ref (a 4), .ref (a 5), .ref (a 6), .ref (a 7)])), ((a 2), .inr (4, [.ref (a 8), .ref (a 9), .ref (a 10)])), ((a 3), .inl (cS, 3, .inr (.inr (.inr (.inr (fun _ => none)))))), ((a 4), .inl (cI, 21, .inl (f 0))), ((a 5), .inl (cI, 21, .inl (f 1))), ((a 6), .inl (cI, 21, .inl (f 2))), ((a 7), .inl (cI, 21, .inl (f 3))), ((a 8), .inl (cI, 4, .inl (fun _ => 0))), ((a 9), .inl (cI, 4, .inl (fun _ => 0))), ((a 10), .inl (cI, 4, .inl (f 4)))]) hD hS hA [0, 1, 2, 3, 4, 5, 6, 7, 8, 9, 10] rfl
  refine vx_calld (vx_runV (As := [.int p0]) (rest := [.int 0, .ref o]) ⟨hx, hb, hml, hown, hts⟩ (k_mark l hlt dC dI _ a cI cS f p0) (cwV 1 hts gL_mark_X3_mark rfl rfl rfl (by decide +kernel) ⟨Nat.le_of_ble_eq_true rfl, Nat.le_of_ble_eq_true rfl⟩) ⟨fb_PT, va_recv hK hP (ci := 7) (q0 := 0) rfl rfl, fun U hU hW => ⟨rfl, PT.give hP hK hD hS hA hT [0, 1, 2, 3, 4, 5, 6, 7, 8, 9, 10] [0, 1] rfl rfl rfl rfl hU hW⟩⟩ rfl rfl hl.1 rfl (lv_room (Nat.le_of_ble_eq_true rfl)) dL_mark_4 ⟨(Nat.le_of_ble_eq_true rfl), (Nat.le_of_ble_eq_true rfl)⟩) hS (fun q _ h => hFc q h) hFc (fun q _ h => hFc q h) (fun E ce q9 u t H locs ht hvm hpx hBX hz1 hk1 hS hcell hvn hcl => ?_) (fun r1 u t H locs ht hvm hw2 hB hz1 hk1 hS => ?_)
  · skip
    obtain rfl := hBX
    obtain ⟨rfl, -⟩ := hpx
    refine vx_catch (E := "java/lang/IndexOutOfBoundsException") (name := "java/lang/IndexOutOfBoundsException") hown [] ⟨0, 8, 11, 54⟩ [⟨0, 8, 14, 64⟩] (by rw [htab]; rfl) (fun z hz => absurd hz List.not_mem_nil) rfl (by decide) (hts (.classLink RL 54 "java/lang/IndexOutOfBoundsException") (by decide +kernel)) (th_any (a := #[]) rfl (hT.1 (.castable "java/lang/IndexOutOfBoundsException" "java/lang/IndexOutOfBoundsException") (by decide +kernel))) hcell hvn hcl ?_
    obtain ⟨hP, hD⟩ := aft0 [0, 1, 2, 3, 4, 5, 6, 7, 8, 9, 10] [11] hP hD rfl (wr := [(o, .inl (cJ, 1, .inr (.inr (.inr (.inl g)))))]) rfl rfl (by decide) hFc hk1
    have hP : va_P (dC, dI) vwCl ([(o, .inl (cJ, 1, .inr (.inr (.inr (.inl g)))))]) H := hP
    have hD : va_D A ([(o, .inl (cJ, 1, .inr (.inr (.inr (.inl g)))))]) := hD
    refine W.eq (g2 := F0 m 11 ls [.ref q9]) rfl ?_
    refine lv_astore_n (lv' := [(3, .ref q9), (0, .ref (a 0)), (1, .int p0), (2, .ref o)]) hx hb dL_mark_11 rfl hl (by decide) rfl (fun ls hl => ?_)
    refine lv_iconst (v := 1) hx hb dL_mark_12 (by decide) ?_
    refine W.widen (k := 1) (n := 6) (Nat.le_of_ble_eq_true rfl) (Nat.le_of_ble_eq_true rfl) ?_
    exact W.iret (v := 1) hx hb hr (fun t ht hW => ⟨⟨1, (), rfl, rfl, trivial⟩, hS.F ht⟩) hS.2.2 dL_mark_13
  · skip
    obtain ⟨hP, hD⟩ := aft0 [0, 1, 2, 3, 4, 5, 6, 7, 8, 9, 10] [11] hP hD rfl (wr := [(o, .inl (cJ, 1, .inr (.inr (.inr (.inl g)))))]) rfl rfl (by decide) hFc hk1
    have hP : va_P (dC, dI) vwCl ([(o, .inl (cJ, 1, .inr (.inr (.inr (.inl g)))))]) H := hP
    have hD : va_D A ([(o, .inl (cJ, 1, .inr (.inr (.inr (.inl g)))))]) := hD
    exact hw2.elim

set_option maxHeartbeats 4000000 in
set_option maxRecDepth 100000 in
/-- take: caught -/
theorem h_take (l : Launch) (hlt : l.stackTraces = false) (dC : Nat → ClassId) (dI : Nat → Nat → Nat) (sz : Nat) (a : Nat → Nat) (cI cS : ClassId) (f : Nat → Nat → Int32) (cJ : ClassId) (o : Nat) (g : Nat → Int64) (p0 : Int32) (p1 : Int32) (p2 : Int32)  : Met l yL_take wzL_take ({ frames := 7, cells := 1, slots := 6, locals := 108 }) (va_Pc [.ref (a 0), .int p0, .int p1, .int p2, .ref o] (PT dC dI (wX a cI cS f ++ [(o, .inl (cJ, 1, .inr (.inl g)))]) [(cI, .int), (cS, .object "Snowpalace$Site"), (cJ, .long)] sz)) (va_Qi (fun (r : Int32) (u : Unit) => r = 1) (fun (u : Unit) t => True) (va_A (wX a cI cS f ++ [(o, .inl (cJ, 1, .inr (.inl g)))]) sz)) 1 6 (va_A (wX a cI cS f ++ [(o, .inl (cJ, 1, .inr (.inl g)))]) sz) := by
  refine va_MetW (cc := cL_take) (maxL := 6) (ret := (some .int)) (hh := [(0, 12, 15, 54), (0, 12, 19, 64), (0, 12, 23, 15)]) (by decide +kernel) rfl ?_
  intro p e s m args below meth c s₁ B hml hv
  obtain ⟨rfl, ⟨hsz, hP, hK, hD0⟩, hT⟩ := hv
  have hx := B.exec
  have hb := B.bytes
  have hr := B.returns
  have hts := atoms_spec (ws := wzL_take) B.pre
  have hown : s.vm.findClass RL = some m.cls := findClass_of_methodNamed B.named
  have hlocks := B.notSynchronized
  have htab : c.exceptionTable.toList = tableOf [(0, 12, 15, 54), (0, 12, 19, 64), (0, 12, 23, 15)] := vx_table (x := yL_take) B (hts _ List.mem_cons_self)
  subst hsz
  have hD := hD0.self (sz := s.heap.size)
  generalize hAe : va_A (wX a cI cS f ++ [(o, .inl (cJ, 1, .inr (.inl g)))]) s.heap.size = A at hD hT ⊢
  have hA : ∀ q : Nat, s.heap.size ≤ q → A q := fun q h => by rw [← hAe]; exact Or.inr h
  have hS : va_S A s.heap s.heap [] := va_S.rf
  have hl := lv_entry ([.ref (a 0), .int p0, .int p1, .int p2, .ref o]) (n := 6) (Nat.le_of_ble_eq_true rfl)
  rw [lg_entry_eq]
  generalize (lg_sl ([.ref (a 0), .int p0, .int p1, .int p2, .ref o]) ++ List.replicate (6 - (lg_sl ([.ref (a 0), .int p0, .int p1, .int p2, .ref o])).length) Slot.unset).toArray = ls at hl ⊢
  have hl : lv_has ls 6 [(0, .ref (a 0)), (1, .int p0), (2, .int p1), (3, .int p2), (4, .ref o)] := hl
  have hN : NS s := hT.ns
  refine lv_aload hx hb dL_take_0 (lv_at hl 4 rfl) ?_
  refine lv_iconst (v := 0) hx hb dL_take_2 (by decide) ?_
  refine lv_aload_n hx hb dL_take_3 rfl (lv_at hl 0 rfl) ?_
  refine lv_iload_n hx hb dL_take_4 rfl (lv_at hl 1 rfl) ?_
  refine lv_iload_n hx hb dL_take_5 rfl (lv_at hl 2 rfl) ?_
  refine lv_iload_n hx hb dL_take_6 rfl (lv_at hl 3 rfl) ?_
  have hFc := va_free (wc := [((a 0), .inr (7, [.ref (a 1), .ref (a 2), .ref (a 3), .int 0, .int 0, .int 0, .int 0, .int 0, .int 0, .int 0])), ((a 1), .inr (6, [.ref (a 4), .ref (a 5), .ref (a 6), .ref (a 7)])), ((a 2), .inr (4, [.ref (a 8), .ref (a 9), .ref (a 10)])), ((a 3), .inl (cS, 3, .inr (.inr (.inr (.inr (fun _ => none)))))), ((a 4), .inl (cI, 21, .inl (f 0))), ((a 5), .inl (cI, 21, .inl (f 1))), ((a 6), .inl (cI, 21, .inl (f 2))), ((a 7), .inl (cI, 21, .inl (f 3))), ((a 8), .inl (cI, 4, .inl (fun _ => 0))), ((a 9), .inl (cI, 4, .inl (fun _ => 0))), ((a 10), .inl (cI, 4, .inl (f 4)))]) hD hS hA [0, 1, 2, 3, 4, 5, 6, 7, 8, 9, 10] rfl
  refine vx_calli (vx_runV (As := [.int p0, .int p1, .int p2]) (rest := [.int 0, .ref o]) ⟨hx, hb, hml, hown, hts⟩ (k_take l hlt dC dI _ a cI cS f p0 p1 p2) (cwV 3 hts gL_take_X3_take rfl rfl rfl (by decide +kernel) ⟨Nat.le_of_ble_eq_true rfl, Nat.le_of_ble_eq_true rfl⟩) ⟨fb_PT, va_recv hK hP (ci := 7) (q0 := 0) rfl rfl, fun U hU hW => ⟨rfl, PT.give hP hK hD hS hA hT [0, 1, 2, 3, 4, 5, 6, 7, 8, 9, 10] [0, 1] rfl rfl rfl rfl hU hW⟩⟩ rfl rfl hl.1 rfl (lv_room (Nat.le_of_ble_eq_true rfl)) dL_take_7 ⟨(Nat.le_of_ble_eq_true rfl), (Nat.le_of_ble_eq_true rfl)⟩) hS (fun q _ h => hFc q h) hFc (fun q _ h => hFc q h) (fun E ce q9 u t H locs ht hvm hpx hBX hz1 hk1 hS hcell hvn hcl => ?_) (fun r1 u t H locs ht hvm hw2 hB hz1 hk1 hS => ?_)
  · skip
    obtain rfl := hBX
    obtain ⟨rfl, -⟩ := hpx
    refine vx_catch (E := "java/lang/IndexOutOfBoundsException") (name := "java/lang/IndexOutOfBoundsException") hown [] ⟨0, 12, 15, 54⟩ [⟨0, 12, 19, 64⟩, ⟨0, 12, 23, 15⟩] (by rw [htab]; rfl) (fun z hz => absurd hz List.not_mem_nil) rfl (by decide) (hts (.classLink RL 54 "java/lang/IndexOutOfBoundsException") (by decide +kernel)) (th_any (a := #[]) rfl (hT.1 (.castable "java/lang/IndexOutOfBoundsException" "java/lang/IndexOutOfBoundsException") (by decide +kernel))) hcell hvn hcl ?_
    obtain ⟨hP, hD⟩ := aft0 [0, 1, 2, 3, 4, 5, 6, 7, 8, 9, 10] [11] hP hD rfl (wr := [(o, .inl (cJ, 1, .inr (.inl g)))]) rfl rfl (by decide) hFc hk1
    have hP : va_P (dC, dI) vwCl ([(o, .inl (cJ, 1, .inr (.inl g)))]) H := hP
    have hD : va_D A ([(o, .inl (cJ, 1, .inr (.inl g)))]) := hD
    refine W.eq (g2 := F0 m 15 ls [.ref q9]) rfl ?_
    refine lv_astore (lv' := [(5, .ref q9), (0, .ref (a 0)), (1, .int p0), (2, .int p1), (3, .int p2), (4, .ref o)]) hx hb dL_take_15 hl (by decide) rfl (fun ls hl => ?_)
    refine lv_iconst (v := 1) hx hb dL_take_17 (by decide) ?_
    refine W.widen (k := 1) (n := 6) (Nat.le_of_ble_eq_true rfl) (Nat.le_of_ble_eq_true rfl) ?_
    exact W.iret (v := 1) hx hb hr (fun t ht hW => ⟨⟨1, (), rfl, rfl, trivial⟩, hS.F ht⟩) hS.2.2 dL_take_18
  · skip
    obtain ⟨hP, hD⟩ := aft0 [0, 1, 2, 3, 4, 5, 6, 7, 8, 9, 10] [11] hP hD rfl (wr := [(o, .inl (cJ, 1, .inr (.inl g)))]) rfl rfl (by decide) hFc hk1
    have hP : va_P (dC, dI) vwCl ([(o, .inl (cJ, 1, .inr (.inl g)))]) H := hP
    have hD : va_D A ([(o, .inl (cJ, 1, .inr (.inl g)))]) := hD
    exact hw2.elim

set_option maxHeartbeats 4000000 in
set_option maxRecDepth 100000 in
/-- count: caught -/
theorem h_count (l : Launch) (hlt : l.stackTraces = false) (dC : Nat → ClassId) (dI : Nat → Nat → Nat) (sz : Nat) (a : Nat → Nat) (cI cS : ClassId) (f : Nat → Nat → Int32) (cJ : ClassId) (o : Nat) (g : Nat → Int64) (p0 : Int32)  : Met l yL_count wsL_count ({ frames := 7, cells := 1, slots := 6, locals := 104 }) (va_Pc [.ref (a 0), .int p0, .ref o] (PT dC dI (wX a cI cS f ++ [(o, .inl (cJ, 1, .inr (.inl g)))]) [(cI, .int), (cS, .object "Snowpalace$Site"), (cJ, .long)] sz)) (va_Qi (fun (r : Int32) (u : Unit) => r = 1) (fun (u : Unit) t => True) (va_A (wX a cI cS f ++ [(o, .inl (cJ, 1, .inr (.inl g)))]) sz)) 1 6 (va_A (wX a cI cS f ++ [(o, .inl (cJ, 1, .inr (.inl g)))]) sz) := by
  refine va_MetW (cc := cL_count) (maxL := 4) (ret := (some .int)) (hh := [(0, 9, 12, 54)]) (by decide +kernel) rfl ?_
  intro p e s m args below meth c s₁ B hml hv
  obtain ⟨rfl, ⟨hsz, hP, hK, hD0⟩, hT⟩ := hv
  have hx := B.exec
  have hb := B.bytes
  have hr := B.returns
  have hts := atoms_spec (ws := wsL_count) B.pre
  have hown : s.vm.findClass RL = some m.cls := findClass_of_methodNamed B.named
  have hlocks := B.notSynchronized
  have htab : c.exceptionTable.toList = tableOf [(0, 9, 12, 54)] := vx_table (x := yL_count) B (hts _ List.mem_cons_self)
  subst hsz
  have hD := hD0.self (sz := s.heap.size)
  generalize hAe : va_A (wX a cI cS f ++ [(o, .inl (cJ, 1, .inr (.inl g)))]) s.heap.size = A at hD hT ⊢
  have hA : ∀ q : Nat, s.heap.size ≤ q → A q := fun q h => by rw [← hAe]; exact Or.inr h
  have hS : va_S A s.heap s.heap [] := va_S.rf
  have hl := lv_entry ([.ref (a 0), .int p0, .ref o]) (n := 4) (Nat.le_of_ble_eq_true rfl)
  rw [lg_entry_eq]
  generalize (lg_sl ([.ref (a 0), .int p0, .ref o]) ++ List.replicate (4 - (lg_sl ([.ref (a 0), .int p0, .ref o])).length) Slot.unset).toArray = ls at hl ⊢
  have hl : lv_has ls 4 [(0, .ref (a 0)), (1, .int p0), (2, .ref o)] := hl
  have hN : NS s := hT.ns
  refine lv_aload_n hx hb dL_count_0 rfl (lv_at hl 2 rfl) ?_
  refine lv_iconst (v := 0) hx hb dL_count_1 (by decide) ?_
  refine lv_aload_n hx hb dL_count_2 rfl (lv_at hl 0 rfl) ?_
  refine lv_iload_n hx hb dL_count_3 rfl (lv_at hl 1 rfl) ?_
  have hFc := va_free (wc := [((a 0), .inr (7, [.ref (a 1), .ref (a 2), .ref (a 3), .int 0, .int 0, .int 0, .int 0, .int 0, .int 0, .int 0])), ((a 1), .inr (6, [.ref (a 4), .ref (a 5), .ref (a 6), .ref (a 7)])), ((a 2), .inr (4, [.ref (a 8), .ref (a 9), .ref (a 10)])), ((a 3), .inl (cS, 3, .inr (.inr (.inr (.inr (fun _ => none)))))), ((a 4), .inl (cI, 21, .inl (f 0))), ((a 5), .inl (cI, 21, .inl (f 1))), ((a 6), .inl (cI, 21, .inl (f 2))), ((a 7), .inl (cI, 21, .inl (f 3))), ((a 8), .inl (cI, 4, .inl (fun _ => 0))), ((a 9), .inl (cI, 4, .inl (fun _ => 0))), ((a 10), .inl (cI, 4, .inl (f 4)))]) hD hS hA [0, 1, 2, 3, 4, 5, 6, 7, 8, 9, 10] rfl
  refine vx_calli (vx_runV (As := [.int p0]) (rest := [.int 0, .ref o]) ⟨hx, hb, hml, hown, hts⟩ (k_count l hlt dC dI _ a cI cS f p0) (cwV 1 hts gL_count_X3_count rfl rfl rfl (by decide +kernel) ⟨Nat.le_of_ble_eq_true rfl, Nat.le_of_ble_eq_true rfl⟩) ⟨fb_PT, va_recv hK hP (ci := 7) (q0 := 0) rfl rfl, fun U hU hW => ⟨rfl, PT.give hP hK hD hS hA hT [0, 1, 2, 3, 4, 5, 6, 7, 8, 9, 10] [0, 1] rfl rfl rfl rfl hU hW⟩⟩ rfl rfl hl.1 rfl (lv_room (Nat.le_of_ble_eq_true rfl)) dL_count_4 ⟨(Nat.le_of_ble_eq_true rfl), (Nat.le_of_ble_eq_true rfl)⟩) hS (fun q _ h => hFc q h) hFc (fun q _ h => hFc q h) (fun E ce q9 u t H locs ht hvm hpx hBX hz1 hk1 hS hcell hvn hcl => ?_) (fun r1 u t H locs ht hvm hw2 hB hz1 hk1 hS => ?_)
  · skip
    obtain rfl := hBX
    obtain ⟨rfl, -⟩ := hpx
    refine vx_catch (E := "java/lang/IndexOutOfBoundsException") (name := "java/lang/IndexOutOfBoundsException") hown [] ⟨0, 9, 12, 54⟩ [] (by rw [htab]; rfl) (fun z hz => absurd hz List.not_mem_nil) rfl (by decide) (hts (.classLink RL 54 "java/lang/IndexOutOfBoundsException") (by decide +kernel)) (th_any (a := #[]) rfl (hT.1 (.castable "java/lang/IndexOutOfBoundsException" "java/lang/IndexOutOfBoundsException") (by decide +kernel))) hcell hvn hcl ?_
    obtain ⟨hP, hD⟩ := aft0 [0, 1, 2, 3, 4, 5, 6, 7, 8, 9, 10] [11] hP hD rfl (wr := [(o, .inl (cJ, 1, .inr (.inl g)))]) rfl rfl (by decide) hFc hk1
    have hP : va_P (dC, dI) vwCl ([(o, .inl (cJ, 1, .inr (.inl g)))]) H := hP
    have hD : va_D A ([(o, .inl (cJ, 1, .inr (.inl g)))]) := hD
    refine W.eq (g2 := F0 m 12 ls [.ref q9]) rfl ?_
    refine lv_astore_n (lv' := [(3, .ref q9), (0, .ref (a 0)), (1, .int p0), (2, .ref o)]) hx hb dL_count_12 rfl hl (by decide) rfl (fun ls hl => ?_)
    refine lv_iconst (v := 1) hx hb dL_count_13 (by decide) ?_
    refine W.widen (k := 1) (n := 6) (Nat.le_of_ble_eq_true rfl) (Nat.le_of_ble_eq_true rfl) ?_
    exact W.iret (v := 1) hx hb hr (fun t ht hW => ⟨⟨1, (), rfl, rfl, trivial⟩, hS.F ht⟩) hS.2.2 dL_count_14
  · skip
    obtain ⟨hP, hD⟩ := aft0 [0, 1, 2, 3, 4, 5, 6, 7, 8, 9, 10] [11] hP hD rfl (wr := [(o, .inl (cJ, 1, .inr (.inl g)))]) rfl rfl (by decide) hFc hk1
    have hP : va_P (dC, dI) vwCl ([(o, .inl (cJ, 1, .inr (.inl g)))]) H := hP
    have hD : va_D A ([(o, .inl (cJ, 1, .inr (.inl g)))]) := hD
    exact hw2.elim

set_option maxHeartbeats 4000000 in
set_option maxRecDepth 100000 in
/-- meanCreep: caught -/
theorem h_meanCreep (l : Launch) (hlt : l.stackTraces = false) (dC : Nat → ClassId) (dI : Nat → Nat → Nat) (sz : Nat) (a : Nat → Nat) (cI cS : ClassId) (f : Nat → Nat → Int32) (cJ : ClassId) (o : Nat) (g : Nat → UInt64) (p0 : Int32)  : Met l yL_meanCreep wsL_meanCreep ({ frames := 7, cells := 1, slots := 6, locals := 105 }) (va_Pc [.ref (a 0), .int p0, .ref o] (PT dC dI (wX a cI cS f ++ [(o, .inl (cJ, 1, .inr (.inr (.inr (.inl g)))))]) [(cI, .int), (cS, .object "Snowpalace$Site"), (cJ, .double)] sz)) (va_Qi (fun (r : Int32) (u : Unit) => r = 1) (fun (u : Unit) t => True) (va_A (wX a cI cS f ++ [(o, .inl (cJ, 1, .inr (.inr (.inr (.inl g)))))]) sz)) 1 6 (va_A (wX a cI cS f ++ [(o, .inl (cJ, 1, .inr (.inr (.inr (.inl g)))))]) sz) := by
  refine va_MetW (cc := cL_meanCreep) (maxL := 4) (ret := (some .int)) (hh := [(0, 8, 11, 54), (0, 8, 14, 140)]) (by decide +kernel) rfl ?_
  intro p e s m args below meth c s₁ B hml hv
  obtain ⟨rfl, ⟨hsz, hP, hK, hD0⟩, hT⟩ := hv
  have hx := B.exec
  have hb := B.bytes
  have hr := B.returns
  have hts := atoms_spec (ws := wsL_meanCreep) B.pre
  have hown : s.vm.findClass RL = some m.cls := findClass_of_methodNamed B.named
  have hlocks := B.notSynchronized
  have htab : c.exceptionTable.toList = tableOf [(0, 8, 11, 54), (0, 8, 14, 140)] := vx_table (x := yL_meanCreep) B (hts _ List.mem_cons_self)
  subst hsz
  have hD := hD0.self (sz := s.heap.size)
  generalize hAe : va_A (wX a cI cS f ++ [(o, .inl (cJ, 1, .inr (.inr (.inr (.inl g)))))]) s.heap.size = A at hD hT ⊢
  have hA : ∀ q : Nat, s.heap.size ≤ q → A q := fun q h => by rw [← hAe]; exact Or.inr h
  have hS : va_S A s.heap s.heap [] := va_S.rf
  have hl := lv_entry ([.ref (a 0), .int p0, .ref o]) (n := 4) (Nat.le_of_ble_eq_true rfl)
  rw [lg_entry_eq]
  generalize (lg_sl ([.ref (a 0), .int p0, .ref o]) ++ List.replicate (4 - (lg_sl ([.ref (a 0), .int p0, .ref o])).length) Slot.unset).toArray = ls at hl ⊢
  have hl : lv_has ls 4 [(0, .ref (a 0)), (1, .int p0), (2, .ref o)] := hl
  have hN : NS s := hT.ns
  refine lv_aload_n hx hb dL_meanCreep_0 rfl (lv_at hl 2 rfl) ?_
  refine lv_iconst (v := 0) hx hb dL_meanCreep_1 (by decide) ?_
  refine lv_aload_n hx hb dL_meanCreep_2 rfl (lv_at hl 0 rfl) ?_
  refine lv_iload_n hx hb dL_meanCreep_3 rfl (lv_at hl 1 rfl) ?_
  have hFc := va_free (wc := [((a 0), .inr (7, [.ref (a 1), .ref (a 2), .ref (a 3), .int 0, .int 0, .int 0, .int 0, .int 0, .int 0, .int 0])), ((a 1), .inr (6, [.ref (a 4), .ref (a 5), .ref (a 6), .ref (a 7)])), ((a 2), .inr (4, [.ref (a 8), .ref (a 9), .ref (a 10)])), ((a 3), .inl (cS, 3, .inr (.inr (.inr (.inr (fun _ => none)))))), ((a 4), .inl (cI, 21, .inl (f 0))), ((a 5), .inl (cI, 21, .inl (f 1))), ((a 6), .inl (cI, 21, .inl (f 2))), ((a 7), .inl (cI, 21, .inl (f 3))), ((a 8), .inl (cI, 4, .inl (fun _ => 0))), ((a 9), .inl (cI, 4, .inl (fun _ => 0))), ((a 10), .inl (cI, 4, .inl (f 4)))]) hD hS hA [0, 1, 2, 3, 4, 5, 6, 7, 8, 9, 10] rfl
  refine vx_calld (vx_runV (As := [.int p0]) (rest := [.int 0, .ref o]) ⟨hx, hb, hml, hown, hts⟩ (k_meanCreep l hlt dC dI _ a cI cS f p0) (cwV 1 hts gL_meanCreep_X3_meanCreep rfl rfl rfl (by decide +kernel) ⟨Nat.le_of_ble_eq_true rfl, Nat.le_of_ble_eq_true rfl⟩) ⟨fb_PT, va_recv hK hP (ci := 7) (q0 := 0) rfl rfl, fun U hU hW => ⟨rfl, PT.give hP hK hD hS hA hT [0, 1, 2, 3, 4, 5, 6, 7, 8, 9, 10] [0, 1] rfl rfl rfl rfl hU hW⟩⟩ rfl rfl hl.1 rfl (lv_room (Nat.le_of_ble_eq_true rfl)) dL_meanCreep_4 ⟨(Nat.le_of_ble_eq_true rfl), (Nat.le_of_ble_eq_true rfl)⟩) hS (fun q _ h => hFc q h) hFc (fun q _ h => hFc q h) (fun E ce q9 u t H locs ht hvm hpx hBX hz1 hk1 hS hcell hvn hcl => ?_) (fun r1 u t H locs ht hvm hw2 hB hz1 hk1 hS => ?_)
  · skip
    obtain rfl := hBX
    obtain ⟨rfl, -⟩ := hpx
    refine vx_catch (E := "java/lang/IndexOutOfBoundsException") (name := "java/lang/IndexOutOfBoundsException") hown [] ⟨0, 8, 11, 54⟩ [⟨0, 8, 14, 140⟩] (by rw [htab]; rfl) (fun z hz => absurd hz List.not_mem_nil) rfl (by decide) (hts (.classLink RL 54 "java/lang/IndexOutOfBoundsException") (by decide +kernel)) (th_any (a := #[]) rfl (hT.1 (.castable "java/lang/IndexOutOfBoundsException" "java/lang/IndexOutOfBoundsException") (by decide +kernel))) hcell hvn hcl ?_
    obtain ⟨hP, hD⟩ := aft0 [0, 1, 2, 3, 4, 5, 6, 7, 8, 9, 10] [11] hP hD rfl (wr := [(o, .inl (cJ, 1, .inr (.inr (.inr (.inl g)))))]) rfl rfl (by decide) hFc hk1
    have hP : va_P (dC, dI) vwCl ([(o, .inl (cJ, 1, .inr (.inr (.inr (.inl g)))))]) H := hP
    have hD : va_D A ([(o, .inl (cJ, 1, .inr (.inr (.inr (.inl g)))))]) := hD
    refine W.eq (g2 := F0 m 11 ls [.ref q9]) rfl ?_
    refine lv_astore_n (lv' := [(3, .ref q9), (0, .ref (a 0)), (1, .int p0), (2, .ref o)]) hx hb dL_meanCreep_11 rfl hl (by decide) rfl (fun ls hl => ?_)
    refine lv_iconst (v := 1) hx hb dL_meanCreep_12 (by decide) ?_
    refine W.widen (k := 1) (n := 6) (Nat.le_of_ble_eq_true rfl) (Nat.le_of_ble_eq_true rfl) ?_
    exact W.iret (v := 1) hx hb hr (fun t ht hW => ⟨⟨1, (), rfl, rfl, trivial⟩, hS.F ht⟩) hS.2.2 dL_meanCreep_13
  · skip
    obtain ⟨hP, hD⟩ := aft0 [0, 1, 2, 3, 4, 5, 6, 7, 8, 9, 10] [11] hP hD rfl (wr := [(o, .inl (cJ, 1, .inr (.inr (.inr (.inl g)))))]) rfl rfl (by decide) hFc hk1
    have hP : va_P (dC, dI) vwCl ([(o, .inl (cJ, 1, .inr (.inr (.inr (.inl g)))))]) H := hP
    have hD : va_D A ([(o, .inl (cJ, 1, .inr (.inr (.inr (.inl g)))))]) := hD
    exact hw2.elim

