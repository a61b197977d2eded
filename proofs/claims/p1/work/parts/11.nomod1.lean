set_option maxHeartbeats 4000000 in
set_option maxRecDepth 100000 in
theorem m_lightBits (l : Launch) (dC : Nat → ClassId) (dI : Nat → Nat → Nat) (sz : Nat) (b : Nat → Nat) (eD : Nat) (p0 : Int32) (p1 : Int32) (p2 : Int32)  : Met l yX6_lightBits wsX6_lightBits ({ frames := 2, cells := 0, slots := 0, locals := 48 }) (va_Pc [.ref (b 0), .int p0, .int p1, .int p2] (PM dC dI ([((b 0), .inr (10, [.int 0, .ref (b 1), .int 0, .int 0, .ref (b 2), .ref (b 3), .ref (b 4), .ref (b 5), .int 0, .int 0, .ref (b 6)])), ((b 6), .inr (3, [.int 0, .ref eD, .int 0]))]) [] sz)) (va_Qi (fun (r : Int32) (u : Unit) => True) (fun (u : Unit) t => BW dC dI (va_A ([((b 0), .inr (10, [.int 0, .ref (b 1), .int 0, .int 0, .ref (b 2), .ref (b 3), .ref (b 4), .ref (b 5), .int 0, .int 0, .ref (b 6)])), ((b 6), .inr (3, [.int 0, .ref eD, .int 0]))]) sz) [((b 6), .inr (3, [.int 0, .ref eD, .int 0])), ((b 0), .inr (10, [.int 1, .ref (b 1), .int 0, .int 0, .ref (b 2), .ref (b 3), .ref (b 4), .ref (b 5), .int 0, .int 0, .ref (b 6)]))] [] t) (va_A ([((b 0), .inr (10, [.int 0, .ref (b 1), .int 0, .int 0, .ref (b 2), .ref (b 3), .ref (b 4), .ref (b 5), .int 0, .int 0, .ref (b 6)])), ((b 6), .inr (3, [.int 0, .ref eD, .int 0]))]) sz)) 0 0 (va_A ([((b 0), .inr (10, [.int 0, .ref (b 1), .int 0, .int 0, .ref (b 2), .ref (b 3), .ref (b 4), .ref (b 5), .int 0, .int 0, .ref (b 6)])), ((b 6), .inr (3, [.int 0, .ref eD, .int 0]))]) sz) := by
  refine Met.ofW (cc := cX6_lightBits) (maxL := 10) (ret := (some .int)) (by decide +kernel) rfl ?_
  intro p e s m args below meth c s₁ B hml hv
  obtain ⟨rfl, ⟨hsz, hP, hK, hD0⟩, hM⟩ := hv
  have hx := B.exec
  have hb := B.bytes
  have hr := B.returns
  have hts := atoms_spec (ws := wsX6_lightBits) B.pre
  have hown : s.vm.findClass RX6 = some m.cls := findClass_of_methodNamed B.named
  have hlocks := B.notSynchronized
  subst hsz
  have hD := hD0.self (sz := s.heap.size)
  generalize hAe : va_A ([((b 0), .inr (10, [.int 0, .ref (b 1), .int 0, .int 0, .ref (b 2), .ref (b 3), .ref (b 4), .ref (b 5), .int 0, .int 0, .ref (b 6)])), ((b 6), .inr (3, [.int 0, .ref eD, .int 0]))]) s.heap.size = A at hD ⊢
  have hA : ∀ q : Nat, s.heap.size ≤ q → A q := fun q h => by rw [← hAe]; exact Or.inr h
  have hS : va_S A s.heap s.heap [] := va_S.rf
  have hl := lv_entry ([.ref (b 0), .int p0, .int p1, .int p2]) (n := 10) (Nat.le_of_ble_eq_true rfl)
  rw [lg_entry_eq]
  generalize (lg_sl ([.ref (b 0), .int p0, .int p1, .int p2]) ++ List.replicate (10 - (lg_sl ([.ref (b 0), .int p0, .int p1, .int p2])).length) Slot.unset).toArray = ls at hl ⊢
  have hl : lv_has ls 10 [(0, .ref (b 0)), (1, .int p0), (2, .int p1), (3, .int p2)] := hl
  have hN : NS s := hM.2.2.2.2.2.2
  refine lv_aload_n hx hb dX6_lightBits_0 rfl (lv_at hl 0 rfl) ?_
  refine lv_iload_n hx hb dX6_lightBits_1 rfl (lv_at hl 1 rfl) ?_
  refine lv_iload_n hx hb dX6_lightBits_2 rfl (lv_at hl 2 rfl) ?_
  refine lv_iload_n hx hb dX6_lightBits_3 rfl (lv_at hl 3 rfl) ?_
  have hFc := va_free (wc := [((b 0), .inr (10, [.int 0, .ref (b 1), .int 0, .int 0, .ref (b 2), .ref (b 3), .ref (b 4), .ref (b 5), .int 0, .int 0, .ref (b 6)])), ((b 6), .inr (3, [.int 0, .ref eD, .int 0]))]) hD hS hA [0, 1] rfl
  refine va_calli (va_runV (As := [.int p0, .int p1, .int p2]) (rest := []) ⟨hx, hb, hml, hown, hts⟩ (m_isNoPlace l dC dI _ b eD p0 p1 p2) (cwV 3 hts gX6_lightBits_X6_isNoPlace rfl rfl rfl (by decide +kernel) ⟨Nat.le_of_ble_eq_true rfl, Nat.le_of_ble_eq_true rfl⟩) ⟨fb_PM, va_recv hK hP (ci := 10) (q0 := 0) rfl rfl, fun U hU hW => ⟨rfl, PM.give hP hK hD hM [0, 1] [] rfl rfl rfl rfl hU hW⟩⟩ rfl rfl hl.1 rfl (lv_room (Nat.le_of_ble_eq_true rfl)) dX6_lightBits_4 ⟨(Nat.le_of_ble_eq_true rfl), (Nat.le_of_ble_eq_true rfl)⟩) hS (fun q _ h => hFc q h) hFc (fun r1 u t H locs ht hvm hw2 hB hz1 hk1 hS => ?_)
  obtain ⟨hP, hD, hK⟩ := aft [0, 1] [] hP hK hD rfl (wr := []) rfl rfl (by decide) hFc hB ht hvm hk1
  have hP : va_P (dC, dI) vwCl ([((b 6), .inr (3, [.int 0, .ref eD, .int 0])), ((b 0), .inr (10, [.int 1, .ref (b 1), .int 0, .int 0, .ref (b 2), .ref (b 3), .ref (b 4), .ref (b 5), .int 0, .int 0, .ref (b 6)]))]) H := hP
  have hD : va_D A ([((b 6), .inr (3, [.int 0, .ref eD, .int 0])), ((b 0), .inr (10, [.int 1, .ref (b 1), .int 0, .int 0, .ref (b 2), .ref (b 3), .ref (b 4), .ref (b 5), .int 0, .int 0, .ref (b 6)]))]) := hD
  have hK : va_K (dC, dI) vwCl [] s := hK
  obtain rfl : r1 = 1 := hw2
  refine lv_if_eq (tgt := 12) hx hb dX6_lightBits_7 (by decide) (fun cx => by first | exact absurd cx (by decide) | exact absurd (by decide) cx) (fun _ => ?_)
  refine lv_iconst (v := 0) hx hb dX6_lightBits_10 (by decide) ?_
  refine W.widen (k := 0) (n := 0) (Nat.le_of_ble_eq_true rfl) (Nat.le_of_ble_eq_true rfl) ?_
  exact W.iret (v := 0) hx hb hr (fun t ht hW => ⟨⟨0, (), rfl, trivial, BW.end hP hK hD [0, 1] [] rfl rfl rfl rfl ht hW⟩, hS.F ht⟩) hS.2.2 dX6_lightBits_11

set_option maxHeartbeats 4000000 in
set_option maxRecDepth 100000 in
theorem m_isOpen (l : Launch) (dC : Nat → ClassId) (dI : Nat → Nat → Nat) (sz : Nat) (b : Nat → Nat) (eD : Nat) (p0 : Int32)  : Met l yX6_isOpen wsX6_isOpen ({ frames := 2, cells := 0, slots := 0, locals := 46 }) (va_Pc [.ref (b 0), .int p0] (PM dC dI ([((b 0), .inr (10, [.int 0, .ref (b 1), .int 0, .int 0, .ref (b 2), .ref (b 3), .ref (b 4), .ref (b 5), .int 0, .int 0, .ref (b 6)])), ((b 6), .inr (3, [.int 0, .ref eD, .int 0]))]) [] sz)) (va_Qi (fun (r : Int32) (u : Unit) => True) (fun (u : Unit) t => BW dC dI (va_A ([((b 0), .inr (10, [.int 0, .ref (b 1), .int 0, .int 0, .ref (b 2), .ref (b 3), .ref (b 4), .ref (b 5), .int 0, .int 0, .ref (b 6)])), ((b 6), .inr (3, [.int 0, .ref eD, .int 0]))]) sz) [((b 6), .inr (3, [.int 0, .ref eD, .int 0])), ((b 0), .inr (10, [.int 1, .ref (b 1), .int 0, .int 0, .ref (b 2), .ref (b 3), .ref (b 4), .ref (b 5), .int 0, .int 0, .ref (b 6)]))] [] t) (va_A ([((b 0), .inr (10, [.int 0, .ref (b 1), .int 0, .int 0, .ref (b 2), .ref (b 3), .ref (b 4), .ref (b 5), .int 0, .int 0, .ref (b 6)])), ((b 6), .inr (3, [.int 0, .ref eD, .int 0]))]) sz)) 0 0 (va_A ([((b 0), .inr (10, [.int 0, .ref (b 1), .int 0, .int 0, .ref (b 2), .ref (b 3), .ref (b 4), .ref (b 5), .int 0, .int 0, .ref (b 6)])), ((b 6), .inr (3, [.int 0, .ref eD, .int 0]))]) sz) := by
  refine Met.ofW (cc := cX6_isOpen) (maxL := 2) (ret := (some .boolean)) (by decide +kernel) rfl ?_
  intro p e s m args below meth c s₁ B hml hv
  obtain ⟨rfl, ⟨hsz, hP, hK, hD0⟩, hM⟩ := hv
  have hx := B.exec
  have hb := B.bytes
  have hr := B.returns
  have hts := atoms_spec (ws := wsX6_isOpen) B.pre
  have hown : s.vm.findClass RX6 = some m.cls := findClass_of_methodNamed B.named
  have hlocks := B.notSynchronized
  subst hsz
  have hD := hD0.self (sz := s.heap.size)
  generalize hAe : va_A ([((b 0), .inr (10, [.int 0, .ref (b 1), .int 0, .int 0, .ref (b 2), .ref (b 3), .ref (b 4), .ref (b 5), .int 0, .int 0, .ref (b 6)])), ((b 6), .inr (3, [.int 0, .ref eD, .int 0]))]) s.heap.size = A at hD ⊢
  have hA : ∀ q : Nat, s.heap.size ≤ q → A q := fun q h => by rw [← hAe]; exact Or.inr h
  have hS : va_S A s.heap s.heap [] := va_S.rf
  have hl := lv_entry ([.ref (b 0), .int p0]) (n := 2) (Nat.le_of_ble_eq_true rfl)
  rw [lg_entry_eq]
  generalize (lg_sl ([.ref (b 0), .int p0]) ++ List.replicate (2 - (lg_sl ([.ref (b 0), .int p0])).length) Slot.unset).toArray = ls at hl ⊢
  have hl : lv_has ls 2 [(0, .ref (b 0)), (1, .int p0)] := hl
  have hN : NS s := hM.2.2.2.2.2.2
  refine lv_aload_n hx hb dX6_isOpen_0 rfl (lv_at hl 0 rfl) ?_
  refine lv_iload_n hx hb dX6_isOpen_1 rfl (lv_at hl 1 rfl) ?_
  have hFc := va_free (wc := [((b 0), .inr (10, [.int 0, .ref (b 1), .int 0, .int 0, .ref (b 2), .ref (b 3), .ref (b 4), .ref (b 5), .int 0, .int 0, .ref (b 6)])), ((b 6), .inr (3, [.int 0, .ref eD, .int 0]))]) hD hS hA [0, 1] rfl
  refine va_calli (va_runV (As := [.int p0]) (rest := []) ⟨hx, hb, hml, hown, hts⟩ (m_isNoSite l dC dI _ b eD p0) (cwV 1 hts gX6_isOpen_X6_isNoSite rfl rfl rfl (by decide +kernel) ⟨Nat.le_of_ble_eq_true rfl, Nat.le_of_ble_eq_true rfl⟩) ⟨fb_PM, va_recv hK hP (ci := 10) (q0 := 0) rfl rfl, fun U hU hW => ⟨rfl, PM.give hP hK hD hM [0, 1] [] rfl rfl rfl rfl hU hW⟩⟩ rfl rfl hl.1 rfl (lv_room (Nat.le_of_ble_eq_true rfl)) dX6_isOpen_2 ⟨(Nat.le_of_ble_eq_true rfl), (Nat.le_of_ble_eq_true rfl)⟩) hS (fun q _ h => hFc q h) hFc (fun r1 u t H locs ht hvm hw2 hB hz1 hk1 hS => ?_)
  obtain ⟨hP, hD, hK⟩ := aft [0, 1] [] hP hK hD rfl (wr := []) rfl rfl (by decide) hFc hB ht hvm hk1
  have hP : va_P (dC, dI) vwCl ([((b 6), .inr (3, [.int 0, .ref eD, .int 0])), ((b 0), .inr (10, [.int 1, .ref (b 1), .int 0, .int 0, .ref (b 2), .ref (b 3), .ref (b 4), .ref (b 5), .int 0, .int 0, .ref (b 6)]))]) H := hP
  have hD : va_D A ([((b 6), .inr (3, [.int 0, .ref eD, .int 0])), ((b 0), .inr (10, [.int 1, .ref (b 1), .int 0, .int 0, .ref (b 2), .ref (b 3), .ref (b 4), .ref (b 5), .int 0, .int 0, .ref (b 6)]))]) := hD
  have hK : va_K (dC, dI) vwCl [] s := hK
  obtain rfl : r1 = 1 := hw2
  refine lv_if_ne (tgt := 33) hx hb dX6_isOpen_5 (by decide) (fun _ => ?_) (fun cx => by first | exact absurd (by decide) cx | exact absurd cx (by decide))
  refine lv_iconst (v := 0) hx hb dX6_isOpen_33 (by decide) ?_
  refine W.widen (k := 0) (n := 0) (Nat.le_of_ble_eq_true rfl) (Nat.le_of_ble_eq_true rfl) ?_
  exact W.zret (v := 0) (ty := .boolean) hx hb hr rfl (fun t ht hW => ⟨⟨0, (), rfl, trivial, BW.end hP hK hD [0, 1] [] rfl rfl rfl rfl ht hW⟩, hS.F ht⟩) hS.2.2 dX6_isOpen_34

set_option maxHeartbeats 4000000 in
set_option maxRecDepth 100000 in
theorem m_carries (l : Launch) (dC : Nat → ClassId) (dI : Nat → Nat → Nat) (sz : Nat) (b : Nat → Nat) (eD : Nat) (p0 : Int32) (p1 : Int32)  : Met l yX6_carries wsX6_carries ({ frames := 2, cells := 0, slots := 0, locals := 48 }) (va_Pc [.ref (b 0), .int p0, .int p1] (PM dC dI ([((b 0), .inr (10, [.int 0, .ref (b 1), .int 0, .int 0, .ref (b 2), .ref (b 3), .ref (b 4), .ref (b 5), .int 0, .int 0, .ref (b 6)])), ((b 6), .inr (3, [.int 0, .ref eD, .int 0]))]) [] sz)) (va_Qi (fun (r : Int32) (u : Unit) => True) (fun (u : Unit) t => BW dC dI (va_A ([((b 0), .inr (10, [.int 0, .ref (b 1), .int 0, .int 0, .ref (b 2), .ref (b 3), .ref (b 4), .ref (b 5), .int 0, .int 0, .ref (b 6)])), ((b 6), .inr (3, [.int 0, .ref eD, .int 0]))]) sz) [((b 6), .inr (3, [.int 0, .ref eD, .int 0])), ((b 0), .inr (10, [.int 1, .ref (b 1), .int 0, .int 0, .ref (b 2), .ref (b 3), .ref (b 4), .ref (b 5), .int 0, .int 0, .ref (b 6)]))] [] t) (va_A ([((b 0), .inr (10, [.int 0, .ref (b 1), .int 0, .int 0, .ref (b 2), .ref (b 3), .ref (b 4), .ref (b 5), .int 0, .int 0, .ref (b 6)])), ((b 6), .inr (3, [.int 0, .ref eD, .int 0]))]) sz)) 0 0 (va_A ([((b 0), .inr (10, [.int 0, .ref (b 1), .int 0, .int 0, .ref (b 2), .ref (b 3), .ref (b 4), .ref (b 5), .int 0, .int 0, .ref (b 6)])), ((b 6), .inr (3, [.int 0, .ref eD, .int 0]))]) sz) := by
  refine Met.ofW (cc := cX6_carries) (maxL := 5) (ret := (some .int)) (by decide +kernel) rfl ?_
  intro p e s m args below meth c s₁ B hml hv
  obtain ⟨rfl, ⟨hsz, hP, hK, hD0⟩, hM⟩ := hv
  have hx := B.exec
  have hb := B.bytes
  have hr := B.returns
  have hts := atoms_spec (ws := wsX6_carries) B.pre
  have hown : s.vm.findClass RX6 = some m.cls := findClass_of_methodNamed B.named
  have hlocks := B.notSynchronized
  subst hsz
  have hD := hD0.self (sz := s.heap.size)
  generalize hAe : va_A ([((b 0), .inr (10, [.int 0, .ref (b 1), .int 0, .int 0, .ref (b 2), .ref (b 3), .ref (b 4), .ref (b 5), .int 0, .int 0, .ref (b 6)])), ((b 6), .inr (3, [.int 0, .ref eD, .int 0]))]) s.heap.size = A at hD ⊢
  have hA : ∀ q : Nat, s.heap.size ≤ q → A q := fun q h => by rw [← hAe]; exact Or.inr h
  have hS : va_S A s.heap s.heap [] := va_S.rf
  have hl := lv_entry ([.ref (b 0), .int p0, .int p1]) (n := 5) (Nat.le_of_ble_eq_true rfl)
  rw [lg_entry_eq]
  generalize (lg_sl ([.ref (b 0), .int p0, .int p1]) ++ List.replicate (5 - (lg_sl ([.ref (b 0), .int p0, .int p1])).length) Slot.unset).toArray = ls at hl ⊢
  have hl : lv_has ls 5 [(0, .ref (b 0)), (1, .int p0), (2, .int p1)] := hl
  have hN : NS s := hM.2.2.2.2.2.2
  refine lv_aload_n hx hb dX6_carries_0 rfl (lv_at hl 0 rfl) ?_
  refine lv_iload_n hx hb dX6_carries_1 rfl (lv_at hl 1 rfl) ?_
  refine lv_iload_n hx hb dX6_carries_2 rfl (lv_at hl 2 rfl) ?_
  refine lv_iconst (v := 0) hx hb dX6_carries_3 (by decide) ?_
  have hFc := va_free (wc := [((b 0), .inr (10, [.int 0, .ref (b 1), .int 0, .int 0, .ref (b 2), .ref (b 3), .ref (b 4), .ref (b 5), .int 0, .int 0, .ref (b 6)])), ((b 6), .inr (3, [.int 0, .ref eD, .int 0]))]) hD hS hA [0, 1] rfl
  refine va_calli (va_runV (As := [.int p0, .int p1, .int 0]) (rest := []) ⟨hx, hb, hml, hown, hts⟩ (m_isNoPlace l dC dI _ b eD p0 p1 0) (cwV 3 hts gX6_carries_X6_isNoPlace rfl rfl rfl (by decide +kernel) ⟨Nat.le_of_ble_eq_true rfl, Nat.le_of_ble_eq_true rfl⟩) ⟨fb_PM, va_recv hK hP (ci := 10) (q0 := 0) rfl rfl, fun U hU hW => ⟨rfl, PM.give hP hK hD hM [0, 1] [] rfl rfl rfl rfl hU hW⟩⟩ rfl rfl hl.1 rfl (lv_room (Nat.le_of_ble_eq_true rfl)) dX6_carries_4 ⟨(Nat.le_of_ble_eq_true rfl), (Nat.le_of_ble_eq_true rfl)⟩) hS (fun q _ h => hFc q h) hFc (fun r1 u t H locs ht hvm hw2 hB hz1 hk1 hS => ?_)
  obtain ⟨hP, hD, hK⟩ := aft [0, 1] [] hP hK hD rfl (wr := []) rfl rfl (by decide) hFc hB ht hvm hk1
  have hP : va_P (dC, dI) vwCl ([((b 6), .inr (3, [.int 0, .ref eD, .int 0])), ((b 0), .inr (10, [.int 1, .ref (b 1), .int 0, .int 0, .ref (b 2), .ref (b 3), .ref (b 4), .ref (b 5), .int 0, .int 0, .ref (b 6)]))]) H := hP
  have hD : va_D A ([((b 6), .inr (3, [.int 0, .ref eD, .int 0])), ((b 0), .inr (10, [.int 1, .ref (b 1), .int 0, .int 0, .ref (b 2), .ref (b 3), .ref (b 4), .ref (b 5), .int 0, .int 0, .ref (b 6)]))]) := hD
  have hK : va_K (dC, dI) vwCl [] s := hK
  obtain rfl : r1 = 1 := hw2
  refine lv_if_eq (tgt := 12) hx hb dX6_carries_7 (by decide) (fun cx => by first | exact absurd cx (by decide) | exact absurd (by decide) cx) (fun _ => ?_)
  refine lv_iconst (v := 0) hx hb dX6_carries_10 (by decide) ?_
  refine W.widen (k := 0) (n := 0) (Nat.le_of_ble_eq_true rfl) (Nat.le_of_ble_eq_true rfl) ?_
  exact W.iret (v := 0) hx hb hr (fun t ht hW => ⟨⟨0, (), rfl, trivial, BW.end hP hK hD [0, 1] [] rfl rfl rfl rfl ht hW⟩, hS.F ht⟩) hS.2.2 dX6_carries_11

set_option maxHeartbeats 4000000 in
set_option maxRecDepth 100000 in
theorem m_visit (l : Launch) (dC : Nat → ClassId) (dI : Nat → Nat → Nat) (sz : Nat) (b : Nat → Nat) (eD : Nat) (p0 : Int32) (p1 : Int32)  : Met l yX6_visit wsX6_visit ({ frames := 2, cells := 0, slots := 0, locals := 46 }) (va_Pc [.ref (b 0), .int p0, .int p1] (PM dC dI ([((b 0), .inr (10, [.int 0, .ref (b 1), .int 0, .int 0, .ref (b 2), .ref (b 3), .ref (b 4), .ref (b 5), .int 0, .int 0, .ref (b 6)])), ((b 6), .inr (3, [.int 0, .ref eD, .int 0]))]) [] sz)) (va_Qi (fun (r : Int32) (u : Unit) => True) (fun (u : Unit) t => BW dC dI (va_A ([((b 0), .inr (10, [.int 0, .ref (b 1), .int 0, .int 0, .ref (b 2), .ref (b 3), .ref (b 4), .ref (b 5), .int 0, .int 0, .ref (b 6)])), ((b 6), .inr (3, [.int 0, .ref eD, .int 0]))]) sz) [((b 6), .inr (3, [.int 0, .ref eD, .int 0])), ((b 0), .inr (10, [.int 1, .ref (b 1), .int 0, .int 0, .ref (b 2), .ref (b 3), .ref (b 4), .ref (b 5), .int 0, .int 0, .ref (b 6)]))] [] t) (va_A ([((b 0), .inr (10, [.int 0, .ref (b 1), .int 0, .int 0, .ref (b 2), .ref (b 3), .ref (b 4), .ref (b 5), .int 0, .int 0, .ref (b 6)])), ((b 6), .inr (3, [.int 0, .ref eD, .int 0]))]) sz)) 0 0 (va_A ([((b 0), .inr (10, [.int 0, .ref (b 1), .int 0, .int 0, .ref (b 2), .ref (b 3), .ref (b 4), .ref (b 5), .int 0, .int 0, .ref (b 6)])), ((b 6), .inr (3, [.int 0, .ref eD, .int 0]))]) sz) := by
  refine Met.ofW (cc := cX6_visit) (maxL := 3) (ret := (some .int)) (by decide +kernel) rfl ?_
  intro p e s m args below meth c s₁ B hml hv
  obtain ⟨rfl, ⟨hsz, hP, hK, hD0⟩, hM⟩ := hv
  have hx := B.exec
  have hb := B.bytes
  have hr := B.returns
  have hts := atoms_spec (ws := wsX6_visit) B.pre
  have hown : s.vm.findClass RX6 = some m.cls := findClass_of_methodNamed B.named
  have hlocks := B.notSynchronized
  subst hsz
  have hD := hD0.self (sz := s.heap.size)
  generalize hAe : va_A ([((b 0), .inr (10, [.int 0, .ref (b 1), .int 0, .int 0, .ref (b 2), .ref (b 3), .ref (b 4), .ref (b 5), .int 0, .int 0, .ref (b 6)])), ((b 6), .inr (3, [.int 0, .ref eD, .int 0]))]) s.heap.size = A at hD ⊢
  have hA : ∀ q : Nat, s.heap.size ≤ q → A q := fun q h => by rw [← hAe]; exact Or.inr h
  have hS : va_S A s.heap s.heap [] := va_S.rf
  have hl := lv_entry ([.ref (b 0), .int p0, .int p1]) (n := 3) (Nat.le_of_ble_eq_true rfl)
  rw [lg_entry_eq]
  generalize (lg_sl ([.ref (b 0), .int p0, .int p1]) ++ List.replicate (3 - (lg_sl ([.ref (b 0), .int p0, .int p1])).length) Slot.unset).toArray = ls at hl ⊢
  have hl : lv_has ls 3 [(0, .ref (b 0)), (1, .int p0), (2, .int p1)] := hl
  have hN : NS s := hM.2.2.2.2.2.2
  refine lv_aload_n hx hb dX6_visit_0 rfl (lv_at hl 0 rfl) ?_
  refine lv_iload_n hx hb dX6_visit_1 rfl (lv_at hl 1 rfl) ?_
  have hFc := va_free (wc := [((b 0), .inr (10, [.int 0, .ref (b 1), .int 0, .int 0, .ref (b 2), .ref (b 3), .ref (b 4), .ref (b 5), .int 0, .int 0, .ref (b 6)])), ((b 6), .inr (3, [.int 0, .ref eD, .int 0]))]) hD hS hA [0, 1] rfl
  refine va_calli (va_runV (As := [.int p0]) (rest := []) ⟨hx, hb, hml, hown, hts⟩ (m_isNoSite l dC dI _ b eD p0) (cwV 1 hts gX6_visit_X6_isNoSite rfl rfl rfl (by decide +kernel) ⟨Nat.le_of_ble_eq_true rfl, Nat.le_of_ble_eq_true rfl⟩) ⟨fb_PM, va_recv hK hP (ci := 10) (q0 := 0) rfl rfl, fun U hU hW => ⟨rfl, PM.give hP hK hD hM [0, 1] [] rfl rfl rfl rfl hU hW⟩⟩ rfl rfl hl.1 rfl (lv_room (Nat.le_of_ble_eq_true rfl)) dX6_visit_2 ⟨(Nat.le_of_ble_eq_true rfl), (Nat.le_of_ble_eq_true rfl)⟩) hS (fun q _ h => hFc q h) hFc (fun r1 u t H locs ht hvm hw2 hB hz1 hk1 hS => ?_)
  obtain ⟨hP, hD, hK⟩ := aft [0, 1] [] hP hK hD rfl (wr := []) rfl rfl (by decide) hFc hB ht hvm hk1
  have hP : va_P (dC, dI) vwCl ([((b 6), .inr (3, [.int 0, .ref eD, .int 0])), ((b 0), .inr (10, [.int 1, .ref (b 1), .int 0, .int 0, .ref (b 2), .ref (b 3), .ref (b 4), .ref (b 5), .int 0, .int 0, .ref (b 6)]))]) H := hP
  have hD : va_D A ([((b 6), .inr (3, [.int 0, .ref eD, .int 0])), ((b 0), .inr (10, [.int 1, .ref (b 1), .int 0, .int 0, .ref (b 2), .ref (b 3), .ref (b 4), .ref (b 5), .int 0, .int 0, .ref (b 6)]))]) := hD
  have hK : va_K (dC, dI) vwCl [] s := hK
  obtain rfl : r1 = 1 := hw2
  refine lv_if_ne (tgt := 57) hx hb dX6_visit_5 (by decide) (fun _ => ?_) (fun cx => by first | exact absurd (by decide) cx | exact absurd cx (by decide))
  refine lv_iconst (v := 0) hx hb dX6_visit_57 (by decide) ?_
  refine W.widen (k := 0) (n := 0) (Nat.le_of_ble_eq_true rfl) (Nat.le_of_ble_eq_true rfl) ?_
  exact W.iret (v := 0) hx hb hr (fun t ht hW => ⟨⟨0, (), rfl, trivial, BW.end hP hK hD [0, 1] [] rfl rfl rfl rfl ht hW⟩, hS.F ht⟩) hS.2.2 dX6_visit_58

set_option maxHeartbeats 4000000 in
set_option maxRecDepth 100000 in
theorem m_plan (l : Launch) (dC : Nat → ClassId) (dI : Nat → Nat → Nat) (sz : Nat) (b : Nat → Nat) (eD : Nat) (p0 : Int32) (p1 : Int32) (p2 : Int32) (p3 : Int32)  : Met l yX6_plan wsX6_plan ({ frames := 2, cells := 0, slots := 0, locals := 48 }) (va_Pc [.ref (b 0), .int p0, .int p1, .int p2, .int p3] (PM dC dI ([((b 0), .inr (10, [.int 0, .ref (b 1), .int 0, .int 0, .ref (b 2), .ref (b 3), .ref (b 4), .ref (b 5), .int 0, .int 0, .ref (b 6)])), ((b 6), .inr (3, [.int 0, .ref eD, .int 0]))]) [] sz)) (va_Qi (fun (r : Int32) (u : Unit) => True) (fun (u : Unit) t => BW dC dI (va_A ([((b 0), .inr (10, [.int 0, .ref (b 1), .int 0, .int 0, .ref (b 2), .ref (b 3), .ref (b 4), .ref (b 5), .int 0, .int 0, .ref (b 6)])), ((b 6), .inr (3, [.int 0, .ref eD, .int 0]))]) sz) [((b 6), .inr (3, [.int 0, .ref eD, .int 0])), ((b 0), .inr (10, [.int 1, .ref (b 1), .int 0, .int 0, .ref (b 2), .ref (b 3), .ref (b 4), .ref (b 5), .int 0, .int 0, .ref (b 6)]))] [] t) (va_A ([((b 0), .inr (10, [.int 0, .ref (b 1), .int 0, .int 0, .ref (b 2), .ref (b 3), .ref (b 4), .ref (b 5), .int 0, .int 0, .ref (b 6)])), ((b 6), .inr (3, [.int 0, .ref eD, .int 0]))]) sz)) 0 0 (va_A ([((b 0), .inr (10, [.int 0, .ref (b 1), .int 0, .int 0, .ref (b 2), .ref (b 3), .ref (b 4), .ref (b 5), .int 0, .int 0, .ref (b 6)])), ((b 6), .inr (3, [.int 0, .ref eD, .int 0]))]) sz) := by
  refine Met.ofW (cc := cX6_plan) (maxL := 14) (ret := (some .int)) (by decide +kernel) rfl ?_
  intro p e s m args below meth c s₁ B hml hv
  obtain ⟨rfl, ⟨hsz, hP, hK, hD0⟩, hM⟩ := hv
  have hx := B.exec
  have hb := B.bytes
  have hr := B.returns
  have hts := atoms_spec (ws := wsX6_plan) B.pre
  have hown : s.vm.findClass RX6 = some m.cls := findClass_of_methodNamed B.named
  have hlocks := B.notSynchronized
  subst hsz
  have hD := hD0.self (sz := s.heap.size)
  generalize hAe : va_A ([((b 0), .inr (10, [.int 0, .ref (b 1), .int 0, .int 0, .ref (b 2), .ref (b 3), .ref (b 4), .ref (b 5), .int 0, .int 0, .ref (b 6)])), ((b 6), .inr (3, [.int 0, .ref eD, .int 0]))]) s.heap.size = A at hD ⊢
  have hA : ∀ q : Nat, s.heap.size ≤ q → A q := fun q h => by rw [← hAe]; exact Or.inr h
  have hS : va_S A s.heap s.heap [] := va_S.rf
  have hl := lv_entry ([.ref (b 0), .int p0, .int p1, .int p2, .int p3]) (n := 14) (Nat.le_of_ble_eq_true rfl)
  rw [lg_entry_eq]
  generalize (lg_sl ([.ref (b 0), .int p0, .int p1, .int p2, .int p3]) ++ List.replicate (14 - (lg_sl ([.ref (b 0), .int p0, .int p1, .int p2, .int p3])).length) Slot.unset).toArray = ls at hl ⊢
  have hl : lv_has ls 14 [(0, .ref (b 0)), (1, .int p0), (2, .int p1), (3, .int p2), (4, .int p3)] := hl
  have hN : NS s := hM.2.2.2.2.2.2
  refine lv_aload_n hx hb dX6_plan_0 rfl (lv_at hl 0 rfl) ?_
  refine lv_iload_n hx hb dX6_plan_1 rfl (lv_at hl 1 rfl) ?_
  refine lv_iload_n hx hb dX6_plan_2 rfl (lv_at hl 2 rfl) ?_
  refine lv_iload_n hx hb dX6_plan_3 rfl (lv_at hl 3 rfl) ?_
  have hFc := va_free (wc := [((b 0), .inr (10, [.int 0, .ref (b 1), .int 0, .int 0, .ref (b 2), .ref (b 3), .ref (b 4), .ref (b 5), .int 0, .int 0, .ref (b 6)])), ((b 6), .inr (3, [.int 0, .ref eD, .int 0]))]) hD hS hA [0, 1] rfl
  refine va_calli (va_runV (As := [.int p0, .int p1, .int p2]) (rest := []) ⟨hx, hb, hml, hown, hts⟩ (m_isNoPlace l dC dI _ b eD p0 p1 p2) (cwV 3 hts gX6_plan_X6_isNoPlace rfl rfl rfl (by decide +kernel) ⟨Nat.le_of_ble_eq_true rfl, Nat.le_of_ble_eq_true rfl⟩) ⟨fb_PM, va_recv hK hP (ci := 10) (q0 := 0) rfl rfl, fun U hU hW => ⟨rfl, PM.give hP hK hD hM [0, 1] [] rfl rfl rfl rfl hU hW⟩⟩ rfl rfl hl.1 rfl (lv_room (Nat.le_of_ble_eq_true rfl)) dX6_plan_4 ⟨(Nat.le_of_ble_eq_true rfl), (Nat.le_of_ble_eq_true rfl)⟩) hS (fun q _ h => hFc q h) hFc (fun r1 u t H locs ht hvm hw2 hB hz1 hk1 hS => ?_)
  obtain ⟨hP, hD, hK⟩ := aft [0, 1] [] hP hK hD rfl (wr := []) rfl rfl (by decide) hFc hB ht hvm hk1
  have hP : va_P (dC, dI) vwCl ([((b 6), .inr (3, [.int 0, .ref eD, .int 0])), ((b 0), .inr (10, [.int 1, .ref (b 1), .int 0, .int 0, .ref (b 2), .ref (b 3), .ref (b 4), .ref (b 5), .int 0, .int 0, .ref (b 6)]))]) H := hP
  have hD : va_D A ([((b 6), .inr (3, [.int 0, .ref eD, .int 0])), ((b 0), .inr (10, [.int 1, .ref (b 1), .int 0, .int 0, .ref (b 2), .ref (b 3), .ref (b 4), .ref (b 5), .int 0, .int 0, .ref (b 6)]))]) := hD
  have hK : va_K (dC, dI) vwCl [] s := hK
  obtain rfl : r1 = 1 := hw2
  refine lv_if_eq (tgt := 12) hx hb dX6_plan_7 (by decide) (fun cx => by first | exact absurd cx (by decide) | exact absurd (by decide) cx) (fun _ => ?_)
  refine lv_iconst (v := 0) hx hb dX6_plan_10 (by decide) ?_
  refine W.widen (k := 0) (n := 0) (Nat.le_of_ble_eq_true rfl) (Nat.le_of_ble_eq_true rfl) ?_
  exact W.iret (v := 0) hx hb hr (fun t ht hW => ⟨⟨0, (), rfl, trivial, BW.end hP hK hD [0, 1] [] rfl rfl rfl rfl ht hW⟩, hS.F ht⟩) hS.2.2 dX6_plan_11

set_option maxHeartbeats 4000000 in
set_option maxRecDepth 100000 in
theorem m_carve (l : Launch) (dC : Nat → ClassId) (dI : Nat → Nat → Nat) (sz : Nat) (b : Nat → Nat) (eD : Nat) (p0 : Int32) (p1 : Int32) (p2 : Int32) (p3 : Int32)  : Met l yX6_carve wsX6_carve ({ frames := 2, cells := 0, slots := 0, locals := 48 }) (va_Pc [.ref (b 0), .int p0, .int p1, .int p2, .int p3] (PM dC dI ([((b 0), .inr (10, [.int 0, .ref (b 1), .int 0, .int 0, .ref (b 2), .ref (b 3), .ref (b 4), .ref (b 5), .int 0, .int 0, .ref (b 6)])), ((b 6), .inr (3, [.int 0, .ref eD, .int 0]))]) [] sz)) (va_Qi (fun (r : Int32) (u : Unit) => True) (fun (u : Unit) t => BW dC dI (va_A ([((b 0), .inr (10, [.int 0, .ref (b 1), .int 0, .int 0, .ref (b 2), .ref (b 3), .ref (b 4), .ref (b 5), .int 0, .int 0, .ref (b 6)])), ((b 6), .inr (3, [.int 0, .ref eD, .int 0]))]) sz) [((b 6), .inr (3, [.int 0, .ref eD, .int 0])), ((b 0), .inr (10, [.int 1, .ref (b 1), .int 0, .int 0, .ref (b 2), .ref (b 3), .ref (b 4), .ref (b 5), .int 0, .int 0, .ref (b 6)]))] [] t) (va_A ([((b 0), .inr (10, [.int 0, .ref (b 1), .int 0, .int 0, .ref (b 2), .ref (b 3), .ref (b 4), .ref (b 5), .int 0, .int 0, .ref (b 6)])), ((b 6), .inr (3, [.int 0, .ref eD, .int 0]))]) sz)) 0 0 (va_A ([((b 0), .inr (10, [.int 0, .ref (b 1), .int 0, .int 0, .ref (b 2), .ref (b 3), .ref (b 4), .ref (b 5), .int 0, .int 0, .ref (b 6)])), ((b 6), .inr (3, [.int 0, .ref eD, .int 0]))]) sz) := by
  refine Met.ofW (cc := cX6_carve) (maxL := 7) (ret := (some .int)) (by decide +kernel) rfl ?_
  intro p e s m args below meth c s₁ B hml hv
  obtain ⟨rfl, ⟨hsz, hP, hK, hD0⟩, hM⟩ := hv
  have hx := B.exec
  have hb := B.bytes
  have hr := B.returns
  have hts := atoms_spec (ws := wsX6_carve) B.pre
  have hown : s.vm.findClass RX6 = some m.cls := findClass_of_methodNamed B.named
  have hlocks := B.notSynchronized
  subst hsz
  have hD := hD0.self (sz := s.heap.size)
  generalize hAe : va_A ([((b 0), .inr (10, [.int 0, .ref (b 1), .int 0, .int 0, .ref (b 2), .ref (b 3), .ref (b 4), .ref (b 5), .int 0, .int 0, .ref (b 6)])), ((b 6), .inr (3, [.int 0, .ref eD, .int 0]))]) s.heap.size = A at hD ⊢
  have hA : ∀ q : Nat, s.heap.size ≤ q → A q := fun q h => by rw [← hAe]; exact Or.inr h
  have hS : va_S A s.heap s.heap [] := va_S.rf
  have hl := lv_entry ([.ref (b 0), .int p0, .int p1, .int p2, .int p3]) (n := 7) (Nat.le_of_ble_eq_true rfl)
  rw [lg_entry_eq]
  generalize (lg_sl ([.ref (b 0), .int p0, .int p1, .int p2, .int p3]) ++ List.replicate (7 - (lg_sl ([.ref (b 0), .int p0, .int p1, .int p2, .int p3])).length) Slot.unset).toArray = ls at hl ⊢
  have hl : lv_has ls 7 [(0, .ref (b 0)), (1, .int p0), (2, .int p1), (3, .int p2), (4, .int p3)] := hl
  have hN : NS s := hM.2.2.2.2.2.2
  refine lv_aload_n hx hb dX6_carve_0 rfl (lv_at hl 0 rfl) ?_
  refine lv_iload_n hx hb dX6_carve_1 rfl (lv_at hl 1 rfl) ?_
  refine lv_iload_n hx hb dX6_carve_2 rfl (lv_at hl 2 rfl) ?_
  refine lv_iload_n hx hb dX6_carve_3 rfl (lv_at hl 3 rfl) ?_
  have hFc := va_free (wc := [((b 0), .inr (10, [.int 0, .ref (b 1), .int 0, .int 0, .ref (b 2), .ref (b 3), .ref (b 4), .ref (b 5), .int 0, .int 0, .ref (b 6)])), ((b 6), .inr (3, [.int 0, .ref eD, .int 0]))]) hD hS hA [0, 1] rfl
  refine va_calli (va_runV (As := [.int p0, .int p1, .int p2]) (rest := []) ⟨hx, hb, hml, hown, hts⟩ (m_isNoPlace l dC dI _ b eD p0 p1 p2) (cwV 3 hts gX6_carve_X6_isNoPlace rfl rfl rfl (by decide +kernel) ⟨Nat.le_of_ble_eq_true rfl, Nat.le_of_ble_eq_true rfl⟩) ⟨fb_PM, va_recv hK hP (ci := 10) (q0 := 0) rfl rfl, fun U hU hW => ⟨rfl, PM.give hP hK hD hM [0, 1] [] rfl rfl rfl rfl hU hW⟩⟩ rfl rfl hl.1 rfl (lv_room (Nat.le_of_ble_eq_true rfl)) dX6_carve_4 ⟨(Nat.le_of_ble_eq_true rfl), (Nat.le_of_ble_eq_true rfl)⟩) hS (fun q _ h => hFc q h) hFc (fun r1 u t H locs ht hvm hw2 hB hz1 hk1 hS => ?_)
  obtain ⟨hP, hD, hK⟩ := aft [0, 1] [] hP hK hD rfl (wr := []) rfl rfl (by decide) hFc hB ht hvm hk1
  have hP : va_P (dC, dI) vwCl ([((b 6), .inr (3, [.int 0, .ref eD, .int 0])), ((b 0), .inr (10, [.int 1, .ref (b 1), .int 0, .int 0, .ref (b 2), .ref (b 3), .ref (b 4), .ref (b 5), .int 0, .int 0, .ref (b 6)]))]) H := hP
  have hD : va_D A ([((b 6), .inr (3, [.int 0, .ref eD, .int 0])), ((b 0), .inr (10, [.int 1, .ref (b 1), .int 0, .int 0, .ref (b 2), .ref (b 3), .ref (b 4), .ref (b 5), .int 0, .int 0, .ref (b 6)]))]) := hD
  have hK : va_K (dC, dI) vwCl [] s := hK
  obtain rfl : r1 = 1 := hw2
  refine lv_if_eq (tgt := 12) hx hb dX6_carve_7 (by decide) (fun cx => by first | exact absurd cx (by decide) | exact absurd (by decide) cx) (fun _ => ?_)
  refine lv_iconst (v := 0) hx hb dX6_carve_10 (by decide) ?_
  refine W.widen (k := 0) (n := 0) (Nat.le_of_ble_eq_true rfl) (Nat.le_of_ble_eq_true rfl) ?_
  exact W.iret (v := 0) hx hb hr (fun t ht hW => ⟨⟨0, (), rfl, trivial, BW.end hP hK hD [0, 1] [] rfl rfl rfl rfl ht hW⟩, hS.F ht⟩) hS.2.2 dX6_carve_11

set_option maxHeartbeats 4000000 in
set_option maxRecDepth 100000 in
theorem m_hours (l : Launch) (dC : Nat → ClassId) (dI : Nat → Nat → Nat) (sz : Nat) (b : Nat → Nat) (eD : Nat) (p0 : Int32)  : Met l yX6_hours wsX6_hours ({ frames := 2, cells := 0, slots := 0, locals := 46 }) (va_Pc [.ref (b 0), .int p0] (PM dC dI ([((b 0), .inr (10, [.int 0, .ref (b 1), .int 0, .int 0, .ref (b 2), .ref (b 3), .ref (b 4), .ref (b 5), .int 0, .int 0, .ref (b 6)])), ((b 6), .inr (3, [.int 0, .ref eD, .int 0]))]) [] sz)) (va_Qi (fun (r : Int32) (u : Unit) => True) (fun (u : Unit) t => BW dC dI (va_A ([((b 0), .inr (10, [.int 0, .ref (b 1), .int 0, .int 0, .ref (b 2), .ref (b 3), .ref (b 4), .ref (b 5), .int 0, .int 0, .ref (b 6)])), ((b 6), .inr (3, [.int 0, .ref eD, .int 0]))]) sz) [((b 6), .inr (3, [.int 0, .ref eD, .int 0])), ((b 0), .inr (10, [.int 1, .ref (b 1), .int 0, .int 0, .ref (b 2), .ref (b 3), .ref (b 4), .ref (b 5), .int 0, .int 0, .ref (b 6)]))] [] t) (va_A ([((b 0), .inr (10, [.int 0, .ref (b 1), .int 0, .int 0, .ref (b 2), .ref (b 3), .ref (b 4), .ref (b 5), .int 0, .int 0, .ref (b 6)])), ((b 6), .inr (3, [.int 0, .ref eD, .int 0]))]) sz)) 0 0 (va_A ([((b 0), .inr (10, [.int 0, .ref (b 1), .int 0, .int 0, .ref (b 2), .ref (b 3), .ref (b 4), .ref (b 5), .int 0, .int 0, .ref (b 6)])), ((b 6), .inr (3, [.int 0, .ref eD, .int 0]))]) sz) := by
  refine Met.ofW (cc := cX6_hours) (maxL := 2) (ret := (some .int)) (by decide +kernel) rfl ?_
  intro p e s m args below meth c s₁ B hml hv
  obtain ⟨rfl, ⟨hsz, hP, hK, hD0⟩, hM⟩ := hv
  have hx := B.exec
  have hb := B.bytes
  have hr := B.returns
  have hts := atoms_spec (ws := wsX6_hours) B.pre
  have hown : s.vm.findClass RX6 = some m.cls := findClass_of_methodNamed B.named
  have hlocks := B.notSynchronized
  subst hsz
  have hD := hD0.self (sz := s.heap.size)
  generalize hAe : va_A ([((b 0), .inr (10, [.int 0, .ref (b 1), .int 0, .int 0, .ref (b 2), .ref (b 3), .ref (b 4), .ref (b 5), .int 0, .int 0, .ref (b 6)])), ((b 6), .inr (3, [.int 0, .ref eD, .int 0]))]) s.heap.size = A at hD ⊢
  have hA : ∀ q : Nat, s.heap.size ≤ q → A q := fun q h => by rw [← hAe]; exact Or.inr h
  have hS : va_S A s.heap s.heap [] := va_S.rf
  have hl := lv_entry ([.ref (b 0), .int p0]) (n := 2) (Nat.le_of_ble_eq_true rfl)
  rw [lg_entry_eq]
  generalize (lg_sl ([.ref (b 0), .int p0]) ++ List.replicate (2 - (lg_sl ([.ref (b 0), .int p0])).length) Slot.unset).toArray = ls at hl ⊢
  have hl : lv_has ls 2 [(0, .ref (b 0)), (1, .int p0)] := hl
  have hN : NS s := hM.2.2.2.2.2.2
  refine lv_aload_n hx hb dX6_hours_0 rfl (lv_at hl 0 rfl) ?_
  refine lv_iload_n hx hb dX6_hours_1 rfl (lv_at hl 1 rfl) ?_
  have hFc := va_free (wc := [((b 0), .inr (10, [.int 0, .ref (b 1), .int 0, .int 0, .ref (b 2), .ref (b 3), .ref (b 4), .ref (b 5), .int 0, .int 0, .ref (b 6)])), ((b 6), .inr (3, [.int 0, .ref eD, .int 0]))]) hD hS hA [0, 1] rfl
  refine va_calli (va_runV (As := [.int p0]) (rest := []) ⟨hx, hb, hml, hown, hts⟩ (m_isNoSite l dC dI _ b eD p0) (cwV 1 hts gX6_hours_X6_isNoSite rfl rfl rfl (by decide +kernel) ⟨Nat.le_of_ble_eq_true rfl, Nat.le_of_ble_eq_true rfl⟩) ⟨fb_PM, va_recv hK hP (ci := 10) (q0 := 0) rfl rfl, fun U hU hW => ⟨rfl, PM.give hP hK hD hM [0, 1] [] rfl rfl rfl rfl hU hW⟩⟩ rfl rfl hl.1 rfl (lv_room (Nat.le_of_ble_eq_true rfl)) dX6_hours_2 ⟨(Nat.le_of_ble_eq_true rfl), (Nat.le_of_ble_eq_true rfl)⟩) hS (fun q _ h => hFc q h) hFc (fun r1 u t H locs ht hvm hw2 hB hz1 hk1 hS => ?_)
  obtain ⟨hP, hD, hK⟩ := aft [0, 1] [] hP hK hD rfl (wr := []) rfl rfl (by decide) hFc hB ht hvm hk1
  have hP : va_P (dC, dI) vwCl ([((b 6), .inr (3, [.int 0, .ref eD, .int 0])), ((b 0), .inr (10, [.int 1, .ref (b 1), .int 0, .int 0, .ref (b 2), .ref (b 3), .ref (b 4), .ref (b 5), .int 0, .int 0, .ref (b 6)]))]) H := hP
  have hD : va_D A ([((b 6), .inr (3, [.int 0, .ref eD, .int 0])), ((b 0), .inr (10, [.int 1, .ref (b 1), .int 0, .int 0, .ref (b 2), .ref (b 3), .ref (b 4), .ref (b 5), .int 0, .int 0, .ref (b 6)]))]) := hD
  have hK : va_K (dC, dI) vwCl [] s := hK
  obtain rfl : r1 = 1 := hw2
  refine lv_if_eq (tgt := 12) hx hb dX6_hours_5 (by decide) (fun cx => by first | exact absurd cx (by decide) | exact absurd (by decide) cx) (fun _ => ?_)
  refine lv_iconst (v := 0) hx hb dX6_hours_8 (by decide) ?_
  refine lv_goto (tgt := 31) hx hb dX6_hours_9 (by decide) ?_
  refine W.widen (k := 0) (n := 0) (Nat.le_of_ble_eq_true rfl) (Nat.le_of_ble_eq_true rfl) ?_
  exact W.iret (v := 0) hx hb hr (fun t ht hW => ⟨⟨0, (), rfl, trivial, BW.end hP hK hD [0, 1] [] rfl rfl rfl rfl ht hW⟩, hS.F ht⟩) hS.2.2 dX6_hours_31

set_option maxHeartbeats 4000000 in
set_option maxRecDepth 100000 in
theorem m_judge (l : Launch) (dC : Nat → ClassId) (dI : Nat → Nat → Nat) (sz : Nat) (b : Nat → Nat) (eD : Nat) (p0 : Int32)  : Met l yX6_judge wsX6_judge ({ frames := 2, cells := 0, slots := 0, locals := 46 }) (va_Pc [.ref (b 0), .int p0] (PM dC dI ([((b 0), .inr (10, [.int 0, .ref (b 1), .int 0, .int 0, .ref (b 2), .ref (b 3), .ref (b 4), .ref (b 5), .int 0, .int 0, .ref (b 6)])), ((b 6), .inr (3, [.int 0, .ref eD, .int 0]))]) [] sz)) (va_Qd (fun (r : UInt64) (u : Unit) => True) (fun (u : Unit) t => BW dC dI (va_A ([((b 0), .inr (10, [.int 0, .ref (b 1), .int 0, .int 0, .ref (b 2), .ref (b 3), .ref (b 4), .ref (b 5), .int 0, .int 0, .ref (b 6)])), ((b 6), .inr (3, [.int 0, .ref eD, .int 0]))]) sz) [((b 6), .inr (3, [.int 0, .ref eD, .int 0])), ((b 0), .inr (10, [.int 1, .ref (b 1), .int 0, .int 0, .ref (b 2), .ref (b 3), .ref (b 4), .ref (b 5), .int 0, .int 0, .ref (b 6)]))] [] t) (va_A ([((b 0), .inr (10, [.int 0, .ref (b 1), .int 0, .int 0, .ref (b 2), .ref (b 3), .ref (b 4), .ref (b 5), .int 0, .int 0, .ref (b 6)])), ((b 6), .inr (3, [.int 0, .ref eD, .int 0]))]) sz)) 0 0 (va_A ([((b 0), .inr (10, [.int 0, .ref (b 1), .int 0, .int 0, .ref (b 2), .ref (b 3), .ref (b 4), .ref (b 5), .int 0, .int 0, .ref (b 6)])), ((b 6), .inr (3, [.int 0, .ref eD, .int 0]))]) sz) := by
  refine Met.ofW (cc := cX6_judge) (maxL := 5) (ret := (some .double)) (by decide +kernel) rfl ?_
  intro p e s m args below meth c s₁ B hml hv
  obtain ⟨rfl, ⟨hsz, hP, hK, hD0⟩, hM⟩ := hv
  have hx := B.exec
  have hb := B.bytes
  have hr := B.returns
  have hts := atoms_spec (ws := wsX6_judge) B.pre
  have hown : s.vm.findClass RX6 = some m.cls := findClass_of_methodNamed B.named
  have hlocks := B.notSynchronized
  subst hsz
  have hD := hD0.self (sz := s.heap.size)
  generalize hAe : va_A ([((b 0), .inr (10, [.int 0, .ref (b 1), .int 0, .int 0, .ref (b 2), .ref (b 3), .ref (b 4), .ref (b 5), .int 0, .int 0, .ref (b 6)])), ((b 6), .inr (3, [.int 0, .ref eD, .int 0]))]) s.heap.size = A at hD ⊢
  have hA : ∀ q : Nat, s.heap.size ≤ q → A q := fun q h => by rw [← hAe]; exact Or.inr h
  have hS : va_S A s.heap s.heap [] := va_S.rf
  have hl := lv_entry ([.ref (b 0), .int p0]) (n := 5) (Nat.le_of_ble_eq_true rfl)
  rw [lg_entry_eq]
  generalize (lg_sl ([.ref (b 0), .int p0]) ++ List.replicate (5 - (lg_sl ([.ref (b 0), .int p0])).length) Slot.unset).toArray = ls at hl ⊢
  have hl : lv_has ls 5 [(0, .ref (b 0)), (1, .int p0)] := hl
  have hN : NS s := hM.2.2.2.2.2.2
  refine lv_aload_n hx hb dX6_judge_0 rfl (lv_at hl 0 rfl) ?_
  refine lv_iload_n hx hb dX6_judge_1 rfl (lv_at hl 1 rfl) ?_
  have hFc := va_free (wc := [((b 0), .inr (10, [.int 0, .ref (b 1), .int 0, .int 0, .ref (b 2), .ref (b 3), .ref (b 4), .ref (b 5), .int 0, .int 0, .ref (b 6)])), ((b 6), .inr (3, [.int 0, .ref eD, .int 0]))]) hD hS hA [0, 1] rfl
  refine va_calli (va_runV (As := [.int p0]) (rest := []) ⟨hx, hb, hml, hown, hts⟩ (m_isNoSite l dC dI _ b eD p0) (cwV 1 hts gX6_judge_X6_isNoSite rfl rfl rfl (by decide +kernel) ⟨Nat.le_of_ble_eq_true rfl, Nat.le_of_ble_eq_true rfl⟩) ⟨fb_PM, va_recv hK hP (ci := 10) (q0 := 0) rfl rfl, fun U hU hW => ⟨rfl, PM.give hP hK hD hM [0, 1] [] rfl rfl rfl rfl hU hW⟩⟩ rfl rfl hl.1 rfl (lv_room (Nat.le_of_ble_eq_true rfl)) dX6_judge_2 ⟨(Nat.le_of_ble_eq_true rfl), (Nat.le_of_ble_eq_true rfl)⟩) hS (fun q _ h => hFc q h) hFc (fun r1 u t H locs ht hvm hw2 hB hz1 hk1 hS => ?_)
  obtain ⟨hP, hD, hK⟩ := aft [0, 1] [] hP hK hD rfl (wr := []) rfl rfl (by decide) hFc hB ht hvm hk1
  have hP : va_P (dC, dI) vwCl ([((b 6), .inr (3, [.int 0, .ref eD, .int 0])), ((b 0), .inr (10, [.int 1, .ref (b 1), .int 0, .int 0, .ref (b 2), .ref (b 3), .ref (b 4), .ref (b 5), .int 0, .int 0, .ref (b 6)]))]) H := hP
  have hD : va_D A ([((b 6), .inr (3, [.int 0, .ref eD, .int 0])), ((b 0), .inr (10, [.int 1, .ref (b 1), .int 0, .int 0, .ref (b 2), .ref (b 3), .ref (b 4), .ref (b 5), .int 0, .int 0, .ref (b 6)]))]) := hD
  have hK : va_K (dC, dI) vwCl [] s := hK
  obtain rfl : r1 = 1 := hw2
  refine lv_if_eq (tgt := 10) hx hb dX6_judge_5 (by decide) (fun cx => by first | exact absurd cx (by decide) | exact absurd (by decide) cx) (fun _ => ?_)
  refine lv_dconst0 hx hb dX6_judge_8 ?_
  refine W.widen (k := 0) (n := 0) (Nat.le_of_ble_eq_true rfl) (Nat.le_of_ble_eq_true rfl) ?_
  exact W.dret (v := FP.dconst0) hx hb hr (fun t ht hW => ⟨⟨FP.dconst0, (), rfl, trivial, BW.end hP hK hD [0, 1] [] rfl rfl rfl rfl ht hW⟩, hS.F ht⟩) hS.2.2 dX6_judge_9

set_option maxHeartbeats 4000000 in
set_option maxRecDepth 100000 in
theorem m_mark (l : Launch) (dC : Nat → ClassId) (dI : Nat → Nat → Nat) (sz : Nat) (b : Nat → Nat) (eD : Nat) (p0 : Int32)  : Met l yX6_mark wsX6_mark ({ frames := 2, cells := 0, slots := 0, locals := 46 }) (va_Pc [.ref (b 0), .int p0] (PM dC dI ([((b 0), .inr (10, [.int 0, .ref (b 1), .int 0, .int 0, .ref (b 2), .ref (b 3), .ref (b 4), .ref (b 5), .int 0, .int 0, .ref (b 6)])), ((b 6), .inr (3, [.int 0, .ref eD, .int 0]))]) [] sz)) (va_Qd (fun (r : UInt64) (u : Unit) => True) (fun (u : Unit) t => BW dC dI (va_A ([((b 0), .inr (10, [.int 0, .ref (b 1), .int 0, .int 0, .ref (b 2), .ref (b 3), .ref (b 4), .ref (b 5), .int 0, .int 0, .ref (b 6)])), ((b 6), .inr (3, [.int 0, .ref eD, .int 0]))]) sz) [((b 6), .inr (3, [.int 0, .ref eD, .int 0])), ((b 0), .inr (10, [.int 1, .ref (b 1), .int 0, .int 0, .ref (b 2), .ref (b 3), .ref (b 4), .ref (b 5), .int 0, .int 0, .ref (b 6)]))] [] t) (va_A ([((b 0), .inr (10, [.int 0, .ref (b 1), .int 0, .int 0, .ref (b 2), .ref (b 3), .ref (b 4), .ref (b 5), .int 0, .int 0, .ref (b 6)])), ((b 6), .inr (3, [.int 0, .ref eD, .int 0]))]) sz)) 0 0 (va_A ([((b 0), .inr (10, [.int 0, .ref (b 1), .int 0, .int 0, .ref (b 2), .ref (b 3), .ref (b 4), .ref (b 5), .int 0, .int 0, .ref (b 6)])), ((b 6), .inr (3, [.int 0, .ref eD, .int 0]))]) sz) := by
  refine Met.ofW (cc := cX6_mark) (maxL := 2) (ret := (some .double)) (by decide +kernel) rfl ?_
  intro p e s m args below meth c s₁ B hml hv
  obtain ⟨rfl, ⟨hsz, hP, hK, hD0⟩, hM⟩ := hv
  have hx := B.exec
  have hb := B.bytes
  have hr := B.returns
  have hts := atoms_spec (ws := wsX6_mark) B.pre
  have hown : s.vm.findClass RX6 = some m.cls := findClass_of_methodNamed B.named
  have hlocks := B.notSynchronized
  subst hsz
  have hD := hD0.self (sz := s.heap.size)
  generalize hAe : va_A ([((b 0), .inr (10, [.int 0, .ref (b 1), .int 0, .int 0, .ref (b 2), .ref (b 3), .ref (b 4), .ref (b 5), .int 0, .int 0, .ref (b 6)])), ((b 6), .inr (3, [.int 0, .ref eD, .int 0]))]) s.heap.size = A at hD ⊢
  have hA : ∀ q : Nat, s.heap.size ≤ q → A q := fun q h => by rw [← hAe]; exact Or.inr h
  have hS : va_S A s.heap s.heap [] := va_S.rf
  have hl := lv_entry ([.ref (b 0), .int p0]) (n := 2) (Nat.le_of_ble_eq_true rfl)
  rw [lg_entry_eq]
  generalize (lg_sl ([.ref (b 0), .int p0]) ++ List.replicate (2 - (lg_sl ([.ref (b 0), .int p0])).length) Slot.unset).toArray = ls at hl ⊢
  have hl : lv_has ls 2 [(0, .ref (b 0)), (1, .int p0)] := hl
  have hN : NS s := hM.2.2.2.2.2.2
  refine lv_aload_n hx hb dX6_mark_0 rfl (lv_at hl 0 rfl) ?_
  refine lv_iload_n hx hb dX6_mark_1 rfl (lv_at hl 1 rfl) ?_
  have hFc := va_free (wc := [((b 0), .inr (10, [.int 0, .ref (b 1), .int 0, .int 0, .ref (b 2), .ref (b 3), .ref (b 4), .ref (b 5), .int 0, .int 0, .ref (b 6)])), ((b 6), .inr (3, [.int 0, .ref eD, .int 0]))]) hD hS hA [0, 1] rfl
  refine va_calli (va_runV (As := [.int p0]) (rest := []) ⟨hx, hb, hml, hown, hts⟩ (m_isNoSite l dC dI _ b eD p0) (cwV 1 hts gX6_mark_X6_isNoSite rfl rfl rfl (by decide +kernel) ⟨Nat.le_of_ble_eq_true rfl, Nat.le_of_ble_eq_true rfl⟩) ⟨fb_PM, va_recv hK hP (ci := 10) (q0 := 0) rfl rfl, fun U hU hW => ⟨rfl, PM.give hP hK hD hM [0, 1] [] rfl rfl rfl rfl hU hW⟩⟩ rfl rfl hl.1 rfl (lv_room (Nat.le_of_ble_eq_true rfl)) dX6_mark_2 ⟨(Nat.le_of_ble_eq_true rfl), (Nat.le_of_ble_eq_true rfl)⟩) hS (fun q _ h => hFc q h) hFc (fun r1 u t H locs ht hvm hw2 hB hz1 hk1 hS => ?_)
  obtain ⟨hP, hD, hK⟩ := aft [0, 1] [] hP hK hD rfl (wr := []) rfl rfl (by decide) hFc hB ht hvm hk1
  have hP : va_P (dC, dI) vwCl ([((b 6), .inr (3, [.int 0, .ref eD, .int 0])), ((b 0), .inr (10, [.int 1, .ref (b 1), .int 0, .int 0, .ref (b 2), .ref (b 3), .ref (b 4), .ref (b 5), .int 0, .int 0, .ref (b 6)]))]) H := hP
  have hD : va_D A ([((b 6), .inr (3, [.int 0, .ref eD, .int 0])), ((b 0), .inr (10, [.int 1, .ref (b 1), .int 0, .int 0, .ref (b 2), .ref (b 3), .ref (b 4), .ref (b 5), .int 0, .int 0, .ref (b 6)]))]) := hD
  have hK : va_K (dC, dI) vwCl [] s := hK
  obtain rfl : r1 = 1 := hw2
  refine lv_if_ne (tgt := 39) hx hb dX6_mark_5 (by decide) (fun _ => ?_) (fun cx => by first | exact absurd (by decide) cx | exact absurd cx (by decide))
  refine lv_dconst0 hx hb dX6_mark_39 ?_
  refine lv_goto (tgt := 59) hx hb dX6_mark_40 (by decide) ?_
  refine W.widen (k := 0) (n := 0) (Nat.le_of_ble_eq_true rfl) (Nat.le_of_ble_eq_true rfl) ?_
  exact W.dret (v := FP.dconst0) hx hb hr (fun t ht hW => ⟨⟨FP.dconst0, (), rfl, trivial, BW.end hP hK hD [0, 1] [] rfl rfl rfl rfl ht hW⟩, hS.F ht⟩) hS.2.2 dX6_mark_59

set_option maxHeartbeats 4000000 in
set_option maxRecDepth 100000 in
theorem m_take (l : Launch) (dC : Nat → ClassId) (dI : Nat → Nat → Nat) (sz : Nat) (b : Nat → Nat) (eD : Nat) (p0 : Int32) (p1 : Int32) (p2 : Int32)  : Met l yX6_take wsX6_take ({ frames := 3, cells := 0, slots := 0, locals := 71 }) (va_Pc [.ref (b 0), .int p0, .int p1, .int p2] (PM dC dI ([((b 0), .inr (10, [.int 0, .ref (b 1), .int 0, .int 0, .ref (b 2), .ref (b 3), .ref (b 4), .ref (b 5), .int 0, .int 0, .ref (b 6)])), ((b 6), .inr (3, [.int 0, .ref eD, .int 0]))]) [] sz)) (va_Qi (fun (r : Int32) (u : Unit) => True) (fun (u : Unit) t => BW dC dI (va_A ([((b 0), .inr (10, [.int 0, .ref (b 1), .int 0, .int 0, .ref (b 2), .ref (b 3), .ref (b 4), .ref (b 5), .int 0, .int 0, .ref (b 6)])), ((b 6), .inr (3, [.int 0, .ref eD, .int 0]))]) sz) [((b 6), .inr (3, [.int 0, .ref eD, .int 0])), ((b 0), .inr (10, [.int 1, .ref (b 1), .int 0, .int 0, .ref (b 2), .ref (b 3), .ref (b 4), .ref (b 5), .int 0, .int 0, .ref (b 6)]))] [] t) (va_A ([((b 0), .inr (10, [.int 0, .ref (b 1), .int 0, .int 0, .ref (b 2), .ref (b 3), .ref (b 4), .ref (b 5), .int 0, .int 0, .ref (b 6)])), ((b 6), .inr (3, [.int 0, .ref eD, .int 0]))]) sz)) 0 0 (va_A ([((b 0), .inr (10, [.int 0, .ref (b 1), .int 0, .int 0, .ref (b 2), .ref (b 3), .ref (b 4), .ref (b 5), .int 0, .int 0, .ref (b 6)])), ((b 6), .inr (3, [.int 0, .ref eD, .int 0]))]) sz) := by
  refine Met.ofW (cc := cX6_take) (maxL := 15) (ret := (some .int)) (by decide +kernel) rfl ?_
  intro p e s m args below meth c s₁ B hml hv
  obtain ⟨rfl, ⟨hsz, hP, hK, hD0⟩, hM⟩ := hv
  have hx := B.exec
  have hb := B.bytes
  have hr := B.returns
  have hts := atoms_spec (ws := wsX6_take) B.pre
  have hown : s.vm.findClass RX6 = some m.cls := findClass_of_methodNamed B.named
  have hlocks := B.notSynchronized
  subst hsz
  have hD := hD0.self (sz := s.heap.size)
  generalize hAe : va_A ([((b 0), .inr (10, [.int 0, .ref (b 1), .int 0, .int 0, .ref (b 2), .ref (b 3), .ref (b 4), .ref (b 5), .int 0, .int 0, .ref (b 6)])), ((b 6), .inr (3, [.int 0, .ref eD, .int 0]))]) s.heap.size = A at hD ⊢
  have hA : ∀ q : Nat, s.heap.size ≤ q → A q := fun q h => by rw [← hAe]; exact Or.inr h
  have hS : va_S A s.heap s.heap [] := va_S.rf
  have hl := lv_entry ([.ref (b 0), .int p0, .int p1, .int p2]) (n := 15) (Nat.le_of_ble_eq_true rfl)
  rw [lg_entry_eq]
  generalize (lg_sl ([.ref (b 0), .int p0, .int p1, .int p2]) ++ List.replicate (15 - (lg_sl ([.ref (b 0), .int p0, .int p1, .int p2])).length) Slot.unset).toArray = ls at hl ⊢
  have hl : lv_has ls 15 [(0, .ref (b 0)), (1, .int p0), (2, .int p1), (3, .int p2)] := hl
  have hN : NS s := hM.2.2.2.2.2.2
  refine lv_aload_n hx hb dX6_take_0 rfl (lv_at hl 0 rfl) ?_
  refine lv_iload_n hx hb dX6_take_1 rfl (lv_at hl 1 rfl) ?_
  refine lv_iload_n hx hb dX6_take_2 rfl (lv_at hl 2 rfl) ?_
  refine lv_iload_n hx hb dX6_take_3 rfl (lv_at hl 3 rfl) ?_
  have hFc := va_free (wc := [((b 0), .inr (10, [.int 0, .ref (b 1), .int 0, .int 0, .ref (b 2), .ref (b 3), .ref (b 4), .ref (b 5), .int 0, .int 0, .ref (b 6)])), ((b 6), .inr (3, [.int 0, .ref eD, .int 0]))]) hD hS hA [0, 1] rfl
  refine va_calli (va_runV (As := [.int p0, .int p1, .int p2]) (rest := []) ⟨hx, hb, hml, hown, hts⟩ (m_isNoCell l dC dI _ b eD p0 p1 p2) (cwV 3 hts gX6_take_X6_isNoCell rfl rfl rfl (by decide +kernel) ⟨Nat.le_of_ble_eq_true rfl, Nat.le_of_ble_eq_true rfl⟩) ⟨fb_PM, va_recv hK hP (ci := 10) (q0 := 0) rfl rfl, fun U hU hW => ⟨rfl, PM.give hP hK hD hM [0, 1] [] rfl rfl rfl rfl hU hW⟩⟩ rfl rfl hl.1 rfl (lv_room (Nat.le_of_ble_eq_true rfl)) dX6_take_4 ⟨(Nat.le_of_ble_eq_true rfl), (Nat.le_of_ble_eq_true rfl)⟩) hS (fun q _ h => hFc q h) hFc (fun r1 u t H locs ht hvm hw2 hB hz1 hk1 hS => ?_)
  obtain ⟨hP, hD, hK⟩ := aft [0, 1] [] hP hK hD rfl (wr := []) rfl rfl (by decide) hFc hB ht hvm hk1
  have hP : va_P (dC, dI) vwCl ([((b 6), .inr (3, [.int 0, .ref eD, .int 0])), ((b 0), .inr (10, [.int 1, .ref (b 1), .int 0, .int 0, .ref (b 2), .ref (b 3), .ref (b 4), .ref (b 5), .int 0, .int 0, .ref (b 6)]))]) H := hP
  have hD : va_D A ([((b 6), .inr (3, [.int 0, .ref eD, .int 0])), ((b 0), .inr (10, [.int 1, .ref (b 1), .int 0, .int 0, .ref (b 2), .ref (b 3), .ref (b 4), .ref (b 5), .int 0, .int 0, .ref (b 6)]))]) := hD
  have hK : va_K (dC, dI) vwCl [] s := hK
  obtain rfl : r1 = 1 := hw2
  refine lv_if_eq (tgt := 12) hx hb dX6_take_7 (by decide) (fun cx => by first | exact absurd cx (by decide) | exact absurd (by decide) cx) (fun _ => ?_)
  refine lv_iconst (v := 0) hx hb dX6_take_10 (by decide) ?_
  refine W.widen (k := 0) (n := 0) (Nat.le_of_ble_eq_true rfl) (Nat.le_of_ble_eq_true rfl) ?_
  exact W.iret (v := 0) hx hb hr (fun t ht hW => ⟨⟨0, (), rfl, trivial, BW.end hP hK hD [0, 1] [] rfl rfl rfl rfl ht hW⟩, hS.F ht⟩) hS.2.2 dX6_take_11

set_option maxHeartbeats 4000000 in
set_option maxRecDepth 100000 in
theorem m_count (l : Launch) (dC : Nat → ClassId) (dI : Nat → Nat → Nat) (sz : Nat) (b : Nat → Nat) (eD : Nat) (p0 : Int32)  : Met l yX6_count wsX6_count ({ frames := 2, cells := 0, slots := 0, locals := 46 }) (va_Pc [.ref (b 0), .int p0] (PM dC dI ([((b 0), .inr (10, [.int 0, .ref (b 1), .int 0, .int 0, .ref (b 2), .ref (b 3), .ref (b 4), .ref (b 5), .int 0, .int 0, .ref (b 6)])), ((b 6), .inr (3, [.int 0, .ref eD, .int 0]))]) [] sz)) (va_Qi (fun (r : Int32) (u : Unit) => True) (fun (u : Unit) t => BW dC dI (va_A ([((b 0), .inr (10, [.int 0, .ref (b 1), .int 0, .int 0, .ref (b 2), .ref (b 3), .ref (b 4), .ref (b 5), .int 0, .int 0, .ref (b 6)])), ((b 6), .inr (3, [.int 0, .ref eD, .int 0]))]) sz) [((b 6), .inr (3, [.int 0, .ref eD, .int 0])), ((b 0), .inr (10, [.int 1, .ref (b 1), .int 0, .int 0, .ref (b 2), .ref (b 3), .ref (b 4), .ref (b 5), .int 0, .int 0, .ref (b 6)]))] [] t) (va_A ([((b 0), .inr (10, [.int 0, .ref (b 1), .int 0, .int 0, .ref (b 2), .ref (b 3), .ref (b 4), .ref (b 5), .int 0, .int 0, .ref (b 6)])), ((b 6), .inr (3, [.int 0, .ref eD, .int 0]))]) sz)) 0 0 (va_A ([((b 0), .inr (10, [.int 0, .ref (b 1), .int 0, .int 0, .ref (b 2), .ref (b 3), .ref (b 4), .ref (b 5), .int 0, .int 0, .ref (b 6)])), ((b 6), .inr (3, [.int 0, .ref eD, .int 0]))]) sz) := by
  refine Met.ofW (cc := cX6_count) (maxL := 2) (ret := (some .int)) (by decide +kernel) rfl ?_
  intro p e s m args below meth c s₁ B hml hv
  obtain ⟨rfl, ⟨hsz, hP, hK, hD0⟩, hM⟩ := hv
  have hx := B.exec
  have hb := B.bytes
  have hr := B.returns
  have hts := atoms_spec (ws := wsX6_count) B.pre
  have hown : s.vm.findClass RX6 = some m.cls := findClass_of_methodNamed B.named
  have hlocks := B.notSynchronized
  subst hsz
  have hD := hD0.self (sz := s.heap.size)
  generalize hAe : va_A ([((b 0), .inr (10, [.int 0, .ref (b 1), .int 0, .int 0, .ref (b 2), .ref (b 3), .ref (b 4), .ref (b 5), .int 0, .int 0, .ref (b 6)])), ((b 6), .inr (3, [.int 0, .ref eD, .int 0]))]) s.heap.size = A at hD ⊢
  have hA : ∀ q : Nat, s.heap.size ≤ q → A q := fun q h => by rw [← hAe]; exact Or.inr h
  have hS : va_S A s.heap s.heap [] := va_S.rf
  have hl := lv_entry ([.ref (b 0), .int p0]) (n := 2) (Nat.le_of_ble_eq_true rfl)
  rw [lg_entry_eq]
  generalize (lg_sl ([.ref (b 0), .int p0]) ++ List.replicate (2 - (lg_sl ([.ref (b 0), .int p0])).length) Slot.unset).toArray = ls at hl ⊢
  have hl : lv_has ls 2 [(0, .ref (b 0)), (1, .int p0)] := hl
  have hN : NS s := hM.2.2.2.2.2.2
  refine lv_aload_n hx hb dX6_count_0 rfl (lv_at hl 0 rfl) ?_
  refine lv_iload_n hx hb dX6_count_1 rfl (lv_at hl 1 rfl) ?_
  have hFc := va_free (wc := [((b 0), .inr (10, [.int 0, .ref (b 1), .int 0, .int 0, .ref (b 2), .ref (b 3), .ref (b 4), .ref (b 5), .int 0, .int 0, .ref (b 6)])), ((b 6), .inr (3, [.int 0, .ref eD, .int 0]))]) hD hS hA [0, 1] rfl
  refine va_calli (va_runV (As := [.int p0]) (rest := []) ⟨hx, hb, hml, hown, hts⟩ (m_isNoSite l dC dI _ b eD p0) (cwV 1 hts gX6_count_X6_isNoSite rfl rfl rfl (by decide +kernel) ⟨Nat.le_of_ble_eq_true rfl, Nat.le_of_ble_eq_true rfl⟩) ⟨fb_PM, va_recv hK hP (ci := 10) (q0 := 0) rfl rfl, fun U hU hW => ⟨rfl, PM.give hP hK hD hM [0, 1] [] rfl rfl rfl rfl hU hW⟩⟩ rfl rfl hl.1 rfl (lv_room (Nat.le_of_ble_eq_true rfl)) dX6_count_2 ⟨(Nat.le_of_ble_eq_true rfl), (Nat.le_of_ble_eq_true rfl)⟩) hS (fun q _ h => hFc q h) hFc (fun r1 u t H locs ht hvm hw2 hB hz1 hk1 hS => ?_)
  obtain ⟨hP, hD, hK⟩ := aft [0, 1] [] hP hK hD rfl (wr := []) rfl rfl (by decide) hFc hB ht hvm hk1
  have hP : va_P (dC, dI) vwCl ([((b 6), .inr (3, [.int 0, .ref eD, .int 0])), ((b 0), .inr (10, [.int 1, .ref (b 1), .int 0, .int 0, .ref (b 2), .ref (b 3), .ref (b 4), .ref (b 5), .int 0, .int 0, .ref (b 6)]))]) H := hP
  have hD : va_D A ([((b 6), .inr (3, [.int 0, .ref eD, .int 0])), ((b 0), .inr (10, [.int 1, .ref (b 1), .int 0, .int 0, .ref (b 2), .ref (b 3), .ref (b 4), .ref (b 5), .int 0, .int 0, .ref (b 6)]))]) := hD
  have hK : va_K (dC, dI) vwCl [] s := hK
  obtain rfl : r1 = 1 := hw2
  refine lv_if_eq (tgt := 12) hx hb dX6_count_5 (by decide) (fun cx => by first | exact absurd cx (by decide) | exact absurd (by decide) cx) (fun _ => ?_)
  refine lv_iconst (v := 0) hx hb dX6_count_8 (by decide) ?_
  refine lv_goto (tgt := 28) hx hb dX6_count_9 (by decide) ?_
  refine W.widen (k := 0) (n := 0) (Nat.le_of_ble_eq_true rfl) (Nat.le_of_ble_eq_true rfl) ?_
  exact W.iret (v := 0) hx hb hr (fun t ht hW => ⟨⟨0, (), rfl, trivial, BW.end hP hK hD [0, 1] [] rfl rfl rfl rfl ht hW⟩, hS.F ht⟩) hS.2.2 dX6_count_28

set_option maxHeartbeats 4000000 in
set_option maxRecDepth 100000 in
theorem m_meanCreep (l : Launch) (dC : Nat → ClassId) (dI : Nat → Nat → Nat) (sz : Nat) (b : Nat → Nat) (eD : Nat) (p0 : Int32)  : Met l yX6_meanCreep wsX6_meanCreep ({ frames := 2, cells := 0, slots := 0, locals := 46 }) (va_Pc [.ref (b 0), .int p0] (PM dC dI ([((b 0), .inr (10, [.int 0, .ref (b 1), .int 0, .int 0, .ref (b 2), .ref (b 3), .ref (b 4), .ref (b 5), .int 0, .int 0, .ref (b 6)])), ((b 6), .inr (3, [.int 0, .ref eD, .int 0]))]) [] sz)) (va_Qd (fun (r : UInt64) (u : Unit) => True) (fun (u : Unit) t => BW dC dI (va_A ([((b 0), .inr (10, [.int 0, .ref (b 1), .int 0, .int 0, .ref (b 2), .ref (b 3), .ref (b 4), .ref (b 5), .int 0, .int 0, .ref (b 6)])), ((b 6), .inr (3, [.int 0, .ref eD, .int 0]))]) sz) [((b 6), .inr (3, [.int 0, .ref eD, .int 0])), ((b 0), .inr (10, [.int 1, .ref (b 1), .int 0, .int 0, .ref (b 2), .ref (b 3), .ref (b 4), .ref (b 5), .int 0, .int 0, .ref (b 6)]))] [] t) (va_A ([((b 0), .inr (10, [.int 0, .ref (b 1), .int 0, .int 0, .ref (b 2), .ref (b 3), .ref (b 4), .ref (b 5), .int 0, .int 0, .ref (b 6)])), ((b 6), .inr (3, [.int 0, .ref eD, .int 0]))]) sz)) 0 0 (va_A ([((b 0), .inr (10, [.int 0, .ref (b 1), .int 0, .int 0, .ref (b 2), .ref (b 3), .ref (b 4), .ref (b 5), .int 0, .int 0, .ref (b 6)])), ((b 6), .inr (3, [.int 0, .ref eD, .int 0]))]) sz) := by
  refine Met.ofW (cc := cX6_meanCreep) (maxL := 11) (ret := (some .double)) (by decide +kernel) rfl ?_
  intro p e s m args below meth c s₁ B hml hv
  obtain ⟨rfl, ⟨hsz, hP, hK, hD0⟩, hM⟩ := hv
  have hx := B.exec
  have hb := B.bytes
  have hr := B.returns
  have hts := atoms_spec (ws := wsX6_meanCreep) B.pre
  have hown : s.vm.findClass RX6 = some m.cls := findClass_of_methodNamed B.named
  have hlocks := B.notSynchronized
  subst hsz
  have hD := hD0.self (sz := s.heap.size)
  generalize hAe : va_A ([((b 0), .inr (10, [.int 0, .ref (b 1), .int 0, .int 0, .ref (b 2), .ref (b 3), .ref (b 4), .ref (b 5), .int 0, .int 0, .ref (b 6)])), ((b 6), .inr (3, [.int 0, .ref eD, .int 0]))]) s.heap.size = A at hD ⊢
  have hA : ∀ q : Nat, s.heap.size ≤ q → A q := fun q h => by rw [← hAe]; exact Or.inr h
  have hS : va_S A s.heap s.heap [] := va_S.rf
  have hl := lv_entry ([.ref (b 0), .int p0]) (n := 11) (Nat.le_of_ble_eq_true rfl)
  rw [lg_entry_eq]
  generalize (lg_sl ([.ref (b 0), .int p0]) ++ List.replicate (11 - (lg_sl ([.ref (b 0), .int p0])).length) Slot.unset).toArray = ls at hl ⊢
  have hl : lv_has ls 11 [(0, .ref (b 0)), (1, .int p0)] := hl
  have hN : NS s := hM.2.2.2.2.2.2
  refine lv_aload_n hx hb dX6_meanCreep_0 rfl (lv_at hl 0 rfl) ?_
  refine lv_iload_n hx hb dX6_meanCreep_1 rfl (lv_at hl 1 rfl) ?_
  have hFc := va_free (wc := [((b 0), .inr (10, [.int 0, .ref (b 1), .int 0, .int 0, .ref (b 2), .ref (b 3), .ref (b 4), .ref (b 5), .int 0, .int 0, .ref (b 6)])), ((b 6), .inr (3, [.int 0, .ref eD, .int 0]))]) hD hS hA [0, 1] rfl
  refine va_calli (va_runV (As := [.int p0]) (rest := []) ⟨hx, hb, hml, hown, hts⟩ (m_isNoSite l dC dI _ b eD p0) (cwV 1 hts gX6_meanCreep_X6_isNoSite rfl rfl rfl (by decide +kernel) ⟨Nat.le_of_ble_eq_true rfl, Nat.le_of_ble_eq_true rfl⟩) ⟨fb_PM, va_recv hK hP (ci := 10) (q0 := 0) rfl rfl, fun U hU hW => ⟨rfl, PM.give hP hK hD hM [0, 1] [] rfl rfl rfl rfl hU hW⟩⟩ rfl rfl hl.1 rfl (lv_room (Nat.le_of_ble_eq_true rfl)) dX6_meanCreep_2 ⟨(Nat.le_of_ble_eq_true rfl), (Nat.le_of_ble_eq_true rfl)⟩) hS (fun q _ h => hFc q h) hFc (fun r1 u t H locs ht hvm hw2 hB hz1 hk1 hS => ?_)
  obtain ⟨hP, hD, hK⟩ := aft [0, 1] [] hP hK hD rfl (wr := []) rfl rfl (by decide) hFc hB ht hvm hk1
  have hP : va_P (dC, dI) vwCl ([((b 6), .inr (3, [.int 0, .ref eD, .int 0])), ((b 0), .inr (10, [.int 1, .ref (b 1), .int 0, .int 0, .ref (b 2), .ref (b 3), .ref (b 4), .ref (b 5), .int 0, .int 0, .ref (b 6)]))]) H := hP
  have hD : va_D A ([((b 6), .inr (3, [.int 0, .ref eD, .int 0])), ((b 0), .inr (10, [.int 1, .ref (b 1), .int 0, .int 0, .ref (b 2), .ref (b 3), .ref (b 4), .ref (b 5), .int 0, .int 0, .ref (b 6)]))]) := hD
  have hK : va_K (dC, dI) vwCl [] s := hK
  obtain rfl : r1 = 1 := hw2
  refine lv_if_eq (tgt := 10) hx hb dX6_meanCreep_5 (by decide) (fun cx => by first | exact absurd cx (by decide) | exact absurd (by decide) cx) (fun _ => ?_)
  refine lv_dconst0 hx hb dX6_meanCreep_8 ?_
  refine W.widen (k := 0) (n := 0) (Nat.le_of_ble_eq_true rfl) (Nat.le_of_ble_eq_true rfl) ?_
  exact W.dret (v := FP.dconst0) hx hb hr (fun t ht hW => ⟨⟨FP.dconst0, (), rfl, trivial, BW.end hP hK hD [0, 1] [] rfl rfl rfl rfl ht hW⟩, hS.F ht⟩) hS.2.2 dX6_meanCreep_9

