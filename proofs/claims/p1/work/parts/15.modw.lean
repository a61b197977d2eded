set_option maxHeartbeats 4000000 in
set_option maxRecDepth 100000 in
theorem m_warmthOf (l : Launch) (dC : Nat → ClassId) (dI : Nat → Nat → Nat) (sz : Nat) (b : Nat → Nat) (cI c2 : ClassId) (dg : Nat → Option Nat) (Ld : List Nat) (hDG : ∀ i, i < 21 → ∃ y, dg i = some y ∧ y ∈ Ld) (th hh : Int32) (n : Nat) (hn : n ≤ 504)   : Met l yX6_warmthOf wsX6_warmthOf ({ frames := 0, cells := 0, slots := 0, locals := 0 }) (va_Pc [.ref (b 0), .int (nI n)] (PW dC dI ([((b 0), .inr (10, [.int th, .ref (b 1), .int hh, .int 0, .ref (b 2), .ref (b 3), .ref (b 4), .ref (b 5), .int 0, .int 0, .ref (b 6)])), ((b 1), .inl (c2, 21, .inr (.inr (.inr (.inr dg)))))] ++ va_pl Ld (fun _ => .inl (cI, 4, .inl wRow))) [(cI, .int), (c2, .array .int)] sz)) (va_Qi (fun (r : Int32) (u : Unit) => r = w0 n) (fun (u : Unit) t => True) (fun _ => False)) 0 0 (fun _ => False) := by
  refine Met.ofW (cc := cX6_warmthOf) (maxL := 4) (ret := (some .int)) (by decide +kernel) rfl ?_
  intro p e s m args below meth c s₁ B hml hv
  obtain ⟨rfl, hsz, hP, hK, hD0⟩ := hv
  have hx := B.exec
  have hb := B.bytes
  have hr := B.returns
  have hts := atoms_spec (ws := wsX6_warmthOf) B.pre
  have hown : s.vm.findClass RX6 = some m.cls := findClass_of_methodNamed B.named
  have hlocks := B.notSynchronized
  subst hsz
  have hD := hD0
  have hS : va_S (fun _ => False) s.heap s.heap [] := va_S.rf
  have hl := lv_entry ([.ref (b 0), .int (nI n)]) (n := 4) (Nat.le_of_ble_eq_true rfl)
  rw [lg_entry_eq]
  generalize (lg_sl ([.ref (b 0), .int (nI n)]) ++ List.replicate (4 - (lg_sl ([.ref (b 0), .int (nI n)])).length) Slot.unset).toArray = ls at hl ⊢
  have hl : lv_has ls 4 [(0, .ref (b 0)), (1, .int (nI n))] := hl
  refine lv_iload_n hx hb dX6_warmthOf_0 rfl (lv_at hl 1 rfl) ?_
  refine lv_sipush (v := 504) hx hb dX6_warmthOf_1 (by decide) ?_
  refine lv_icmp_ne (tgt := 11) hx hb dX6_warmthOf_4 (by decide) (fun c1 => ?_) (fun c1 => ?_)
  · skip
    have hn3 : n ≠ 504 := fun z => c1 (by rw [z]; rfl)
    refine lv_iload_n hx hb dX6_warmthOf_11 rfl (lv_at hl 1 rfl) ?_
    refine lv_bipush (v := 24) hx hb dX6_warmthOf_12 (by decide) ?_
    refine lv_irem hx hb dX6_warmthOf_14 (by decide) ?_
    refine lv_topi (fun v2 e3 => ?_)
    obtain rfl : v2 = (nI (n % 24) : Int32) := e3.trans (rm24 hn)
    refine lv_istore_n (lv' := [(2, .int (nI (n % 24))), (0, .ref (b 0)), (1, .int (nI n))]) hx hb dX6_warmthOf_15 rfl hl (by decide) rfl (fun ls hl => ?_)
    refine lv_aload_n hx hb dX6_warmthOf_16 rfl (lv_at hl 1 rfl) ?_
    refine va_get (D := (dC, dI)) (ci := 10) (v := .ref (b 1)) (C := RX6) (T := TX6) (N := 11) hx hb hts (by decide +kernel) hown hK hP 0 rfl rfl 1 (by decide) (hts (.fieldLink RX6 15 "SnowpalaceModel" "days" "[[I") (by decide +kernel)) (fun _ h9 => h9) rfl dX6_warmthOf_17 ?_
    refine lv_iload_n hx hb dX6_warmthOf_20 rfl (lv_at hl 2 rfl) ?_
    refine lv_bipush (v := 24) hx hb dX6_warmthOf_21 (by decide) ?_
    refine lv_idiv hx hb dX6_warmthOf_23 (by decide) ?_
    refine lv_topi (fun v4 e5 => ?_)
    obtain rfl : v4 = (nI (n / 24) : Int32) := e5.trans (dv24 hn)
    obtain ⟨y9, hy9, hL9⟩ := hDG (n / 24) (by omega)
    refine my_ald2 (D := (dC, dI)) hx hb hK hP 1 1 rfl rfl (vp_in_nI (by omega) (by decide)) (y := y9) (by rw [nI_clamp (by omega)]; exact hy9) dX6_warmthOf_24 ?_
    obtain ⟨k9, hk9⟩ := va_pl_get (X := [((b 0), .inr (10, [.int th, .ref (b 1), .int hh, .int 0, .ref (b 2), .ref (b 3), .ref (b 4), .ref (b 5), .int 0, .int 0, .ref (b 6)])), ((b 1), .inl (c2, 21, .inr (.inr (.inr (.inr dg)))))]) (f := fun _ => .inl (cI, 4, .inl wRow)) hL9
    refine lv_astore_n (lv' := [(3, .ref y9), (2, .int (nI (n % 24))), (0, .ref (b 0)), (1, .int (nI n))]) hx hb dX6_warmthOf_25 rfl hl (by decide) rfl (fun ls hl => ?_)
    refine lv_aload_n hx hb dX6_warmthOf_26 rfl (lv_at hl 0 rfl) ?_
    refine lv_iconst (v := 0) hx hb dX6_warmthOf_27 (by decide) ?_
    refine va_iald (D := (dC, dI)) hx hb hK hP k9 0 hk9 rfl (by unfold vp_in; decide) dX6_warmthOf_28 ?_
    refine lv_topi (fun v6 e7 => ?_)
    obtain rfl : v6 = ((-150) : Int32) := e7.trans rfl
    refine lv_aload_n hx hb dX6_warmthOf_29 rfl (lv_at hl 0 rfl) ?_
    refine lv_iconst (v := 1) hx hb dX6_warmthOf_30 (by decide) ?_
    refine va_iald (D := (dC, dI)) hx hb hK hP k9 0 hk9 rfl (by unfold vp_in; decide) dX6_warmthOf_31 ?_
    refine lv_topi (fun v8 e9 => ?_)
    obtain rfl : v8 = ((-50) : Int32) := e9.trans rfl
    refine lv_aload_n hx hb dX6_warmthOf_32 rfl (lv_at hl 0 rfl) ?_
    refine lv_iconst (v := 0) hx hb dX6_warmthOf_33 (by decide) ?_
    refine va_iald (D := (dC, dI)) hx hb hK hP k9 0 hk9 rfl (by unfold vp_in; decide) dX6_warmthOf_34 ?_
    refine lv_topi (fun v10 e11 => ?_)
    obtain rfl : v10 = ((-150) : Int32) := e11.trans rfl
    refine lv_isub hx hb dX6_warmthOf_35 ?_
    refine lv_topi (fun v12 e13 => ?_)
    obtain rfl : v12 = (100 : Int32) := e13.trans (by decide)
    refine lv_iload_n hx hb dX6_warmthOf_36 rfl (lv_at hl 1 rfl) ?_
    refine lv_bipush (v := 12) hx hb dX6_warmthOf_37 (by decide) ?_
    refine lv_icmp_gt (tgt := 46) hx hb dX6_warmthOf_39 (by decide) (fun c14 => ?_) (fun c14 => ?_)
    · skip
      have hk : ¬ n % 24 ≤ 12 := by rw [lt12 (by omega)] at c14; omega
      refine lv_bipush (v := 24) hx hb dX6_warmthOf_46 (by decide) ?_
      refine lv_iload_n hx hb dX6_warmthOf_48 rfl (lv_at hl 1 rfl) ?_
      refine lv_isub hx hb dX6_warmthOf_49 ?_
      refine lv_topi (fun v15 e16 => ?_)
      refine lv_imul hx hb dX6_warmthOf_50 ?_
      refine lv_topi (fun v17 e18 => ?_)
      refine lv_bipush (v := 12) hx hb dX6_warmthOf_51 (by decide) ?_
      refine lv_idiv hx hb dX6_warmthOf_53 (by decide) ?_
      refine lv_topi (fun v19 e20 => ?_)
      refine lv_iadd hx hb dX6_warmthOf_54 ?_
      refine lv_topi (fun v21 e22 => ?_)
      refine W.widen (k := 0) (n := 0) (Nat.le_of_ble_eq_true rfl) (Nat.le_of_ble_eq_true rfl) ?_
      exact W.iret (v := v21) hx hb hr (fun t ht hW => ⟨⟨v21, (), rfl, (by rw [e22, e20, e18, e16]; first | exact (w0_1 hn3 hk).symm | exact (w0_2 hn3 hk).symm), trivial⟩, hS.F ht⟩) hS.2.2 dX6_warmthOf_55
    · skip
      have hk : n % 24 ≤ 12 := by rw [lt12 (by omega)] at c14; omega
      refine lv_iload_n hx hb dX6_warmthOf_42 rfl (lv_at hl 1 rfl) ?_
      refine lv_goto (tgt := 50) hx hb dX6_warmthOf_43 (by decide) ?_
      refine lv_imul hx hb dX6_warmthOf_50 ?_
      refine lv_topi (fun v23 e24 => ?_)
      refine lv_bipush (v := 12) hx hb dX6_warmthOf_51 (by decide) ?_
      refine lv_idiv hx hb dX6_warmthOf_53 (by decide) ?_
      refine lv_topi (fun v25 e26 => ?_)
      refine lv_iadd hx hb dX6_warmthOf_54 ?_
      refine lv_topi (fun v27 e28 => ?_)
      refine W.widen (k := 0) (n := 0) (Nat.le_of_ble_eq_true rfl) (Nat.le_of_ble_eq_true rfl) ?_
      exact W.iret (v := v27) hx hb hr (fun t ht hW => ⟨⟨v27, (), rfl, (by rw [e28, e26, e24]; first | exact (w0_1 hn3 hk).symm | exact (w0_2 hn3 hk).symm), trivial⟩, hS.F ht⟩) hS.2.2 dX6_warmthOf_55
  · skip
    have h504 : n = 504 := (nI_eq (a := n) (b := 504) (by omega) (by decide)).mp c1
    refine lv_sipush (v := (-150)) hx hb dX6_warmthOf_7 (by decide) ?_
    refine W.widen (k := 0) (n := 0) (Nat.le_of_ble_eq_true rfl) (Nat.le_of_ble_eq_true rfl) ?_
    exact W.iret (v := (-150)) hx hb hr (fun t ht hW => ⟨⟨(-150), (), rfl, (by rw [h504]; exact w0_4.symm), trivial⟩, hS.F ht⟩) hS.2.2 dX6_warmthOf_10

set_option maxHeartbeats 4000000 in
set_option maxRecDepth 100000 in
theorem m_wetOf (l : Launch) (dC : Nat → ClassId) (dI : Nat → Nat → Nat) (sz : Nat) (b : Nat → Nat) (cI c2 : ClassId) (dg : Nat → Option Nat) (Ld : List Nat) (hDG : ∀ i, i < 21 → ∃ y, dg i = some y ∧ y ∈ Ld) (th hh : Int32) (n : Nat) (hn : n ≤ 503)   : Met l yX6_wetOf wsX6_wetOf ({ frames := 1, cells := 0, slots := 0, locals := 23 }) (va_Pc [.ref (b 0), .int (nI n)] (PW dC dI ([((b 0), .inr (10, [.int th, .ref (b 1), .int hh, .int 0, .ref (b 2), .ref (b 3), .ref (b 4), .ref (b 5), .int 0, .int 0, .ref (b 6)])), ((b 1), .inl (c2, 21, .inr (.inr (.inr (.inr dg)))))] ++ va_pl Ld (fun _ => .inl (cI, 4, .inl wRow))) [(cI, .int), (c2, .array .int)] sz)) (va_Qi (fun (r : Int32) (u : Unit) => r = w0 n - 10) (fun (u : Unit) t => True) (fun _ => False)) 0 0 (fun _ => False) := by
  refine Met.ofW (cc := cX6_wetOf) (maxL := 2) (ret := (some .int)) (by decide +kernel) rfl ?_
  intro p e s m args below meth c s₁ B hml hv
  obtain ⟨rfl, hsz, hP, hK, hD0⟩ := hv
  have hx := B.exec
  have hb := B.bytes
  have hr := B.returns
  have hts := atoms_spec (ws := wsX6_wetOf) B.pre
  have hown : s.vm.findClass RX6 = some m.cls := findClass_of_methodNamed B.named
  have hlocks := B.notSynchronized
  subst hsz
  have hD := hD0
  have hS : va_S (fun _ => False) s.heap s.heap [] := va_S.rf
  have hl := lv_entry ([.ref (b 0), .int (nI n)]) (n := 2) (Nat.le_of_ble_eq_true rfl)
  rw [lg_entry_eq]
  generalize (lg_sl ([.ref (b 0), .int (nI n)]) ++ List.replicate (2 - (lg_sl ([.ref (b 0), .int (nI n)])).length) Slot.unset).toArray = ls at hl ⊢
  have hl : lv_has ls 2 [(0, .ref (b 0)), (1, .int (nI n))] := hl
  refine lv_aload_n hx hb dX6_wetOf_0 rfl (lv_at hl 0 rfl) ?_
  refine lv_iload_n hx hb dX6_wetOf_1 rfl (lv_at hl 1 rfl) ?_
  refine va_calli (va_runV (As := [.int (nI n)]) (rest := []) ⟨hx, hb, hml, hown, hts⟩ (m_warmthOf l dC dI _ b cI c2 dg Ld hDG th hh n (by omega)) (cwV 1 hts gX6_wetOf_X6_warmthOf rfl rfl rfl (by decide +kernel) ⟨Nat.le_of_ble_eq_true rfl, Nat.le_of_ble_eq_true rfl⟩) ⟨fb_PW, va_recv hK hP (ci := 10) (q0 := 0) rfl rfl, fun U hU hW => ⟨rfl, PW.giveP hP hK hD [0, 1] [0, 1] rfl rfl rfl hU hW⟩⟩ rfl rfl hl.1 rfl (lv_room (Nat.le_of_ble_eq_true rfl)) dX6_wetOf_2 ⟨(Nat.le_of_ble_eq_true rfl), (Nat.le_of_ble_eq_true rfl)⟩) hS (fun q _ h => h.elim) (fun q h => h.elim) (fun r1 u t H locs ht hvm hw2 hB hz1 hk1 hS => ?_)
  have hP := kp_P hP hk1
  have hP : va_P (dC, dI) vwCl (([((b 0), .inr (10, [.int th, .ref (b 1), .int hh, .int 0, .ref (b 2), .ref (b 3), .ref (b 4), .ref (b 5), .int 0, .int 0, .ref (b 6)])), ((b 1), .inl (c2, 21, .inr (.inr (.inr (.inr dg)))))]) ++ va_pl Ld (fun _ => .inl (cI, 4, .inl wRow))) H := hP
  have hD : va_D (fun _ => True) (([((b 0), .inr (10, [.int th, .ref (b 1), .int hh, .int 0, .ref (b 2), .ref (b 3), .ref (b 4), .ref (b 5), .int 0, .int 0, .ref (b 6)])), ((b 1), .inl (c2, 21, .inr (.inr (.inr (.inr dg)))))]) ++ va_pl Ld (fun _ => .inl (cI, 4, .inl wRow))) := hD
  have hw2 : r1 = w0 n := hw2
  refine lv_bipush (v := 100) hx hb dX6_wetOf_5 (by decide) ?_
  refine lv_aload_n hx hb dX6_wetOf_7 rfl (lv_at hl 0 rfl) ?_
  refine va_get (D := (dC, dI)) (ci := 10) (v := .ref (b 1)) (C := RX6) (T := TX6) (N := 11) hx hb hts (by decide +kernel) hown hK hP 0 rfl rfl 1 (by decide) (hts (.fieldLink RX6 15 "SnowpalaceModel" "days" "[[I") (by decide +kernel)) (fun _ h9 => h9) rfl dX6_wetOf_8 ?_
  refine lv_iload_n hx hb dX6_wetOf_11 rfl (lv_at hl 1 rfl) ?_
  refine lv_bipush (v := 24) hx hb dX6_wetOf_12 (by decide) ?_
  refine lv_idiv hx hb dX6_wetOf_14 (by decide) ?_
  refine lv_topi (fun v3 e4 => ?_)
  obtain rfl : v3 = (nI (n / 24) : Int32) := e4.trans (dv24 (by omega))
  obtain ⟨y9, hy9, hL9⟩ := hDG (n / 24) (by omega)
  refine my_ald2 (D := (dC, dI)) hx hb hK hP 1 1 rfl rfl (vp_in_nI (by omega) (by decide)) (y := y9) (by rw [nI_clamp (by omega)]; exact hy9) dX6_wetOf_15 ?_
  obtain ⟨k9, hk9⟩ := va_pl_get (X := [((b 0), .inr (10, [.int th, .ref (b 1), .int hh, .int 0, .ref (b 2), .ref (b 3), .ref (b 4), .ref (b 5), .int 0, .int 0, .ref (b 6)])), ((b 1), .inl (c2, 21, .inr (.inr (.inr (.inr dg)))))]) (f := fun _ => .inl (cI, 4, .inl wRow)) hL9
  refine lv_iconst (v := 3) hx hb dX6_wetOf_16 (by decide) ?_
  refine va_iald (D := (dC, dI)) hx hb hK hP k9 0 hk9 rfl (by unfold vp_in; decide) dX6_wetOf_17 ?_
  refine lv_topi (fun v5 e6 => ?_)
  obtain rfl : v5 = (80 : Int32) := e6.trans rfl
  refine lv_isub hx hb dX6_wetOf_18 ?_
  refine lv_topi (fun v7 e8 => ?_)
  obtain rfl : v7 = (20 : Int32) := e8.trans (by decide)
  refine lv_iconst (v := 2) hx hb dX6_wetOf_19 (by decide) ?_
  refine lv_idiv hx hb dX6_wetOf_20 (by decide) ?_
  refine lv_topi (fun v9 e10 => ?_)
  obtain rfl : v9 = (10 : Int32) := e10.trans (by decide)
  refine lv_isub hx hb dX6_wetOf_21 ?_
  refine lv_topi (fun v11 e12 => ?_)
  refine W.widen (k := 0) (n := 0) (Nat.le_of_ble_eq_true rfl) (Nat.le_of_ble_eq_true rfl) ?_
  exact W.iret (v := v11) hx hb hr (fun t ht hW => ⟨⟨v11, (), rfl, (by rw [e12, hw2]), trivial⟩, hS.F ht⟩) hS.2.2 dX6_wetOf_22

set_option maxHeartbeats 4000000 in
set_option maxRecDepth 100000 in
theorem m_warmth (l : Launch) (dC : Nat → ClassId) (dI : Nat → Nat → Nat) (sz : Nat) (b : Nat → Nat) (cI c2 : ClassId) (dg : Nat → Option Nat) (Ld : List Nat) (hDG : ∀ i, i < 21 → ∃ y, dg i = some y ∧ y ∈ Ld) (p0 : Int32)  : Met l yX6_warmth wsX6_warmth ({ frames := 1, cells := 0, slots := 0, locals := 25 }) (va_Pc [.ref (b 0), .int p0] (PM dC dI ([((b 0), .inr (10, [.int 0, .ref (b 1), .int 0, .int 0, .ref (b 2), .ref (b 3), .ref (b 4), .ref (b 5), .int 0, .int 0, .ref (b 6)])), ((b 1), .inl (c2, 21, .inr (.inr (.inr (.inr dg)))))] ++ va_pl Ld (fun _ => .inl (cI, 4, .inl wRow))) [(cI, .int), (c2, .array .int)] sz)) (va_Qi (fun (r : Int32) (u : Int32 × List Value) => ((0 ≤ p0.toInt ∧ p0.toInt ≤ 504) ∧ u.1 = 0 ∧ r = w0 p0.toNatClampNeg) ∨ (¬ (0 ≤ p0.toInt ∧ p0.toInt ≤ 504) ∧ u.1 = 1)) (fun (u : Int32 × List Value) t => BW dC dI (va_A ([((b 0), .inr (10, [.int 0, .ref (b 1), .int 0, .int 0, .ref (b 2), .ref (b 3), .ref (b 4), .ref (b 5), .int 0, .int 0, .ref (b 6)])), ((b 1), .inl (c2, 21, .inr (.inr (.inr (.inr dg)))))] ++ va_pl Ld (fun _ => .inl (cI, 4, .inl wRow))) sz) [((b 0), .inr (10, .int u.1 :: u.2))] [] t) (va_A ([((b 0), .inr (10, [.int 0, .ref (b 1), .int 0, .int 0, .ref (b 2), .ref (b 3), .ref (b 4), .ref (b 5), .int 0, .int 0, .ref (b 6)])), ((b 1), .inl (c2, 21, .inr (.inr (.inr (.inr dg)))))] ++ va_pl Ld (fun _ => .inl (cI, 4, .inl wRow))) sz)) 0 0 (va_A ([((b 0), .inr (10, [.int 0, .ref (b 1), .int 0, .int 0, .ref (b 2), .ref (b 3), .ref (b 4), .ref (b 5), .int 0, .int 0, .ref (b 6)])), ((b 1), .inl (c2, 21, .inr (.inr (.inr (.inr dg)))))] ++ va_pl Ld (fun _ => .inl (cI, 4, .inl wRow))) sz) := by
  refine Met.ofW (cc := cX6_warmth) (maxL := 2) (ret := (some .int)) (by decide +kernel) rfl ?_
  intro p e s m args below meth c s₁ B hml hv
  obtain ⟨rfl, ⟨hsz, hP, hK, hD0⟩, hM⟩ := hv
  have hx := B.exec
  have hb := B.bytes
  have hr := B.returns
  have hts := atoms_spec (ws := wsX6_warmth) B.pre
  have hown : s.vm.findClass RX6 = some m.cls := findClass_of_methodNamed B.named
  have hlocks := B.notSynchronized
  subst hsz
  have hD := hD0.self (sz := s.heap.size)
  generalize hAe : va_A ([((b 0), .inr (10, [.int 0, .ref (b 1), .int 0, .int 0, .ref (b 2), .ref (b 3), .ref (b 4), .ref (b 5), .int 0, .int 0, .ref (b 6)])), ((b 1), .inl (c2, 21, .inr (.inr (.inr (.inr dg)))))] ++ va_pl Ld (fun _ => .inl (cI, 4, .inl wRow))) s.heap.size = A at hD ⊢
  have hA : ∀ q : Nat, s.heap.size ≤ q → A q := fun q h => by rw [← hAe]; exact Or.inr h
  have hS : va_S A s.heap s.heap [] := va_S.rf
  have hl := lv_entry ([.ref (b 0), .int p0]) (n := 2) (Nat.le_of_ble_eq_true rfl)
  rw [lg_entry_eq]
  generalize (lg_sl ([.ref (b 0), .int p0]) ++ List.replicate (2 - (lg_sl ([.ref (b 0), .int p0])).length) Slot.unset).toArray = ls at hl ⊢
  have hl : lv_has ls 2 [(0, .ref (b 0)), (1, .int p0)] := hl
  have hN : NS s := hM.2.2.2.2.2.2
  refine lv_aload_n hx hb dX6_warmth_0 rfl (lv_at hl 0 rfl) ?_
  refine lv_iload_n hx hb dX6_warmth_1 rfl (lv_at hl 1 rfl) ?_
  refine lv_i2l hx hb dX6_warmth_2 rfl ?_
  refine lv_lconst (v := 0) hx hb dX6_warmth_3 (by decide) ?_
  refine lv_ldc2 hx hb hown (hts (.constantLong RX6 65 504) (by decide +kernel)) dX6_warmth_4 ?_
  refine va_calli (va_runS (As := [.long p0.toInt64, .long 0, .long 504]) (rest := [.ref (b 0)]) ⟨hx, hb, hml, hown, hts⟩ (m_isBetween l p0.toInt64 0 504 (p0.toInt) (0) (504) (Int32.toInt_toInt64 _) (by decide) (by decide)) (va_cwS 3 hts gX6_warmth_X6_isBetween rfl rfl rfl (by decide +kernel) ⟨Nat.le_of_ble_eq_true rfl, Nat.le_of_ble_eq_true rfl⟩) ⟨fun a U g mk q => q, fun U hU hW => ⟨rfl, trivial⟩⟩ rfl rfl hl.1 rfl (lv_room (Nat.le_of_ble_eq_true rfl)) dX6_warmth_7 ⟨(Nat.le_of_ble_eq_true rfl), (Nat.le_of_ble_eq_true rfl)⟩) hS (fun q _ h => h.elim) (fun q h => h.elim) (fun r1 u t H locs ht hvm hw2 hB hz1 hk1 hS => ?_)
  have hP := kp_P hP hk1
  have hP : va_P (dC, dI) vwCl (([((b 0), .inr (10, [.int 0, .ref (b 1), .int 0, .int 0, .ref (b 2), .ref (b 3), .ref (b 4), .ref (b 5), .int 0, .int 0, .ref (b 6)])), ((b 1), .inl (c2, 21, .inr (.inr (.inr (.inr dg)))))]) ++ va_pl Ld (fun _ => .inl (cI, 4, .inl wRow))) H := hP
  have hD : va_D A (([((b 0), .inr (10, [.int 0, .ref (b 1), .int 0, .int 0, .ref (b 2), .ref (b 3), .ref (b 4), .ref (b 5), .int 0, .int 0, .ref (b 6)])), ((b 1), .inl (c2, 21, .inr (.inr (.inr (.inr dg)))))]) ++ va_pl Ld (fun _ => .inl (cI, 4, .inl wRow))) := hD
  have hw2 : r1 = bI ((0 : Int) ≤ p0.toInt ∧ p0.toInt ≤ (504 : Int)) := hw2
  refine lv_if_eq (tgt := 17) hx hb dX6_warmth_10 (by decide) (fun c3 => ?_) (fun c3 => ?_)
  · skip
    have g4 : ¬ ((0 : Int) ≤ p0.toInt ∧ p0.toInt ≤ (504 : Int)) := bI_f hw2 c3
    have zg4 : r1 = 0 := bI_f0 hw2 g4
    refine lv_iconst (v := 1) hx hb dX6_warmth_17 (by decide) ?_
    have hFc := va_free (wc := [((b 0), .inr (10, [.int 0, .ref (b 1), .int 0, .int 0, .ref (b 2), .ref (b 3), .ref (b 4), .ref (b 5), .int 0, .int 0, .ref (b 6)]))]) hD hS hA [0] rfl
    refine va_calli (va_runV (As := [.int 1]) (rest := []) ⟨hx, hb, hml, hown, hts⟩ (m_isWrong l dC dI _ (b 0) 0 [.ref (b 1), .int 0, .int 0, .ref (b 2), .ref (b 3), .ref (b 4), .ref (b 5), .int 0, .int 0, .ref (b 6)] 1) (cwV 1 hts gX6_warmth_X6_isWrong rfl rfl rfl (by decide +kernel) ⟨Nat.le_of_ble_eq_true rfl, Nat.le_of_ble_eq_true rfl⟩) ⟨fb_PW, va_recv hK hP (ci := 10) (q0 := 0) rfl rfl, fun U hU hW => ⟨rfl, PW.give hP hK hD [0] [] rfl rfl rfl rfl hU hW⟩⟩ rfl rfl hl.1 rfl (lv_room (Nat.le_of_ble_eq_true rfl)) dX6_warmth_18 ⟨(Nat.le_of_ble_eq_true rfl), (Nat.le_of_ble_eq_true rfl)⟩) hS (fun q _ h => hFc q h) hFc (fun r5 u t H locs ht hvm hw6 hB hz1 hk1 hS => ?_)
    obtain ⟨hP, hD, hK⟩ := aftQ [0] [1] hP hK hD rfl (wr := [((b 1), .inl (c2, 21, .inr (.inr (.inr (.inr dg)))))]) rfl rfl (by decide) hFc hB ht hvm hk1
    have hP : va_P (dC, dI) vwCl (([((b 1), .inl (c2, 21, .inr (.inr (.inr (.inr dg))))), ((b 0), .inr (10, [.int 1, .ref (b 1), .int 0, .int 0, .ref (b 2), .ref (b 3), .ref (b 4), .ref (b 5), .int 0, .int 0, .ref (b 6)]))]) ++ va_pl Ld (fun _ => .inl (cI, 4, .inl wRow))) H := hP
    have hD : va_D A (([((b 1), .inl (c2, 21, .inr (.inr (.inr (.inr dg))))), ((b 0), .inr (10, [.int 1, .ref (b 1), .int 0, .int 0, .ref (b 2), .ref (b 3), .ref (b 4), .ref (b 5), .int 0, .int 0, .ref (b 6)]))]) ++ va_pl Ld (fun _ => .inl (cI, 4, .inl wRow))) := hD
    have hK : va_K (dC, dI) vwCl [(cI, .int), (c2, .array .int)] s := hK
    have hw6 : r5 = bI (0 < 1) := hw6
    obtain rfl : r5 = 1 := hw6.trans (by decide)
    refine lv_if_eq (tgt := 28) hx hb dX6_warmth_21 (by decide) (fun cx => by first | exact absurd cx (by decide) | exact absurd (by decide) cx) (fun _ => ?_)
    refine lv_iconst (v := 0) hx hb dX6_warmth_24 (by decide) ?_
    refine lv_goto (tgt := 33) hx hb dX6_warmth_25 (by decide) ?_
    refine W.widen (k := 0) (n := 0) (Nat.le_of_ble_eq_true rfl) (Nat.le_of_ble_eq_true rfl) ?_
    exact W.iret (v := 0) hx hb hr (fun t ht hW => ⟨⟨0, (1, [.ref (b 1), .int 0, .int 0, .ref (b 2), .ref (b 3), .ref (b 4), .ref (b 5), .int 0, .int 0, .ref (b 6)]), rfl, Or.inr ⟨by omega, rfl⟩, BW.endP hP hK hD [1] [] rfl rfl rfl ht hW⟩, hS.F ht⟩) hS.2.2 dX6_warmth_33
  · skip
    have g7 : (0 : Int) ≤ p0.toInt ∧ p0.toInt ≤ (504 : Int) := bI_t hw2 c3
    have zg7 : r1 = 1 := bI_t1 hw2 g7
    obtain ⟨n, hn, hnn⟩ := toN (p := p0) (k := 504) (‹_ ∧ _›).1 (‹_ ∧ _›).2 (by decide)
    subst hnn
    refine lv_iconst (v := 0) hx hb dX6_warmth_13 (by decide) ?_
    refine lv_goto (tgt := 18) hx hb dX6_warmth_14 (by decide) ?_
    have hFc := va_free (wc := [((b 0), .inr (10, [.int 0, .ref (b 1), .int 0, .int 0, .ref (b 2), .ref (b 3), .ref (b 4), .ref (b 5), .int 0, .int 0, .ref (b 6)]))]) hD hS hA [0] rfl
    refine va_calli (va_runV (As := [.int 0]) (rest := []) ⟨hx, hb, hml, hown, hts⟩ (m_isWrong l dC dI _ (b 0) 0 [.ref (b 1), .int 0, .int 0, .ref (b 2), .ref (b 3), .ref (b 4), .ref (b 5), .int 0, .int 0, .ref (b 6)] 0) (cwV 1 hts gX6_warmth_X6_isWrong rfl rfl rfl (by decide +kernel) ⟨Nat.le_of_ble_eq_true rfl, Nat.le_of_ble_eq_true rfl⟩) ⟨fb_PW, va_recv hK hP (ci := 10) (q0 := 0) rfl rfl, fun U hU hW => ⟨rfl, PW.give hP hK hD [0] [] rfl rfl rfl rfl hU hW⟩⟩ rfl rfl hl.1 rfl (lv_room (Nat.le_of_ble_eq_true rfl)) dX6_warmth_18 ⟨(Nat.le_of_ble_eq_true rfl), (Nat.le_of_ble_eq_true rfl)⟩) hS (fun q _ h => hFc q h) hFc (fun r8 u t H locs ht hvm hw9 hB hz1 hk1 hS => ?_)
    obtain ⟨hP, hD, hK⟩ := aftQ [0] [1] hP hK hD rfl (wr := [((b 1), .inl (c2, 21, .inr (.inr (.inr (.inr dg)))))]) rfl rfl (by decide) hFc hB ht hvm hk1
    have hP : va_P (dC, dI) vwCl (([((b 1), .inl (c2, 21, .inr (.inr (.inr (.inr dg))))), ((b 0), .inr (10, [.int 0, .ref (b 1), .int 0, .int 0, .ref (b 2), .ref (b 3), .ref (b 4), .ref (b 5), .int 0, .int 0, .ref (b 6)]))]) ++ va_pl Ld (fun _ => .inl (cI, 4, .inl wRow))) H := hP
    have hD : va_D A (([((b 1), .inl (c2, 21, .inr (.inr (.inr (.inr dg))))), ((b 0), .inr (10, [.int 0, .ref (b 1), .int 0, .int 0, .ref (b 2), .ref (b 3), .ref (b 4), .ref (b 5), .int 0, .int 0, .ref (b 6)]))]) ++ va_pl Ld (fun _ => .inl (cI, 4, .inl wRow))) := hD
    have hK : va_K (dC, dI) vwCl [(cI, .int), (c2, .array .int)] s := hK
    have hw9 : r8 = bI (0 < 0) := hw9
    obtain rfl : r8 = 0 := hw9.trans (by decide)
    refine lv_if_eq (tgt := 28) hx hb dX6_warmth_21 (by decide) (fun _ => ?_) (fun cx => by first | exact absurd (by decide) cx | exact absurd cx (by decide))
    refine lv_aload_n hx hb dX6_warmth_28 rfl (lv_at hl 0 rfl) ?_
    refine lv_iload_n hx hb dX6_warmth_29 rfl (lv_at hl 1 rfl) ?_
    refine va_calli (va_runV (As := [.int (nI n)]) (rest := []) ⟨hx, hb, hml, hown, hts⟩ (m_warmthOf l dC dI _ b cI c2 dg Ld hDG 0 0 n (by omega)) (cwV 1 hts gX6_warmth_X6_warmthOf rfl rfl rfl (by decide +kernel) ⟨Nat.le_of_ble_eq_true rfl, Nat.le_of_ble_eq_true rfl⟩) ⟨fb_PW, va_recv hK hP (ci := 10) (q0 := 1) rfl rfl, fun U hU hW => ⟨rfl, PW.giveP hP hK hD [1, 0] [0, 1] rfl rfl rfl hU hW⟩⟩ rfl rfl hl.1 rfl (lv_room (Nat.le_of_ble_eq_true rfl)) dX6_warmth_30 ⟨(Nat.le_of_ble_eq_true rfl), (Nat.le_of_ble_eq_true rfl)⟩) hS (fun q _ h => h.elim) (fun q h => h.elim) (fun r10 u t H locs ht hvm hw11 hB hz1 hk1 hS => ?_)
    have hP := kp_P hP hk1
    have hP : va_P (dC, dI) vwCl (([((b 1), .inl (c2, 21, .inr (.inr (.inr (.inr dg))))), ((b 0), .inr (10, [.int 0, .ref (b 1), .int 0, .int 0, .ref (b 2), .ref (b 3), .ref (b 4), .ref (b 5), .int 0, .int 0, .ref (b 6)]))]) ++ va_pl Ld (fun _ => .inl (cI, 4, .inl wRow))) H := hP
    have hD : va_D A (([((b 1), .inl (c2, 21, .inr (.inr (.inr (.inr dg))))), ((b 0), .inr (10, [.int 0, .ref (b 1), .int 0, .int 0, .ref (b 2), .ref (b 3), .ref (b 4), .ref (b 5), .int 0, .int 0, .ref (b 6)]))]) ++ va_pl Ld (fun _ => .inl (cI, 4, .inl wRow))) := hD
    refine W.widen (k := 0) (n := 0) (Nat.le_of_ble_eq_true rfl) (Nat.le_of_ble_eq_true rfl) ?_
    exact W.iret (v := r10) hx hb hr (fun t ht hW => ⟨⟨r10, (0, [.ref (b 1), .int 0, .int 0, .ref (b 2), .ref (b 3), .ref (b 4), .ref (b 5), .int 0, .int 0, .ref (b 6)]), rfl, Or.inl ⟨by assumption, rfl, by rw [nI_clamp (by omega)]; exact hw11⟩, BW.endP hP hK hD [1] [] rfl rfl rfl ht hW⟩, hS.F ht⟩) hS.2.2 dX6_warmth_33

set_option maxHeartbeats 4000000 in
set_option maxRecDepth 100000 in
theorem m_wet (l : Launch) (dC : Nat → ClassId) (dI : Nat → Nat → Nat) (sz : Nat) (b : Nat → Nat) (cI c2 : ClassId) (dg : Nat → Option Nat) (Ld : List Nat) (hDG : ∀ i, i < 21 → ∃ y, dg i = some y ∧ y ∈ Ld) (p0 : Int32)  : Met l yX6_wet wsX6_wet ({ frames := 2, cells := 0, slots := 0, locals := 44 }) (va_Pc [.ref (b 0), .int p0] (PM dC dI ([((b 0), .inr (10, [.int 0, .ref (b 1), .int 0, .int 0, .ref (b 2), .ref (b 3), .ref (b 4), .ref (b 5), .int 0, .int 0, .ref (b 6)])), ((b 1), .inl (c2, 21, .inr (.inr (.inr (.inr dg)))))] ++ va_pl Ld (fun _ => .inl (cI, 4, .inl wRow))) [(cI, .int), (c2, .array .int)] sz)) (va_Qi (fun (r : Int32) (u : Int32 × List Value) => ((0 ≤ p0.toInt ∧ p0.toInt ≤ 503) ∧ u.1 = 0 ∧ r = w0 p0.toNatClampNeg - 10) ∨ (¬ (0 ≤ p0.toInt ∧ p0.toInt ≤ 503) ∧ u.1 = 1)) (fun (u : Int32 × List Value) t => BW dC dI (va_A ([((b 0), .inr (10, [.int 0, .ref (b 1), .int 0, .int 0, .ref (b 2), .ref (b 3), .ref (b 4), .ref (b 5), .int 0, .int 0, .ref (b 6)])), ((b 1), .inl (c2, 21, .inr (.inr (.inr (.inr dg)))))] ++ va_pl Ld (fun _ => .inl (cI, 4, .inl wRow))) sz) [((b 0), .inr (10, .int u.1 :: u.2))] [] t) (va_A ([((b 0), .inr (10, [.int 0, .ref (b 1), .int 0, .int 0, .ref (b 2), .ref (b 3), .ref (b 4), .ref (b 5), .int 0, .int 0, .ref (b 6)])), ((b 1), .inl (c2, 21, .inr (.inr (.inr (.inr dg)))))] ++ va_pl Ld (fun _ => .inl (cI, 4, .inl wRow))) sz)) 0 0 (va_A ([((b 0), .inr (10, [.int 0, .ref (b 1), .int 0, .int 0, .ref (b 2), .ref (b 3), .ref (b 4), .ref (b 5), .int 0, .int 0, .ref (b 6)])), ((b 1), .inl (c2, 21, .inr (.inr (.inr (.inr dg)))))] ++ va_pl Ld (fun _ => .inl (cI, 4, .inl wRow))) sz) := by
  refine Met.ofW (cc := cX6_wet) (maxL := 2) (ret := (some .int)) (by decide +kernel) rfl ?_
  intro p e s m args below meth c s₁ B hml hv
  obtain ⟨rfl, ⟨hsz, hP, hK, hD0⟩, hM⟩ := hv
  have hx := B.exec
  have hb := B.bytes
  have hr := B.returns
  have hts := atoms_spec (ws := wsX6_wet) B.pre
  have hown : s.vm.findClass RX6 = some m.cls := findClass_of_methodNamed B.named
  have hlocks := B.notSynchronized
  subst hsz
  have hD := hD0.self (sz := s.heap.size)
  generalize hAe : va_A ([((b 0), .inr (10, [.int 0, .ref (b 1), .int 0, .int 0, .ref (b 2), .ref (b 3), .ref (b 4), .ref (b 5), .int 0, .int 0, .ref (b 6)])), ((b 1), .inl (c2, 21, .inr (.inr (.inr (.inr dg)))))] ++ va_pl Ld (fun _ => .inl (cI, 4, .inl wRow))) s.heap.size = A at hD ⊢
  have hA : ∀ q : Nat, s.heap.size ≤ q → A q := fun q h => by rw [← hAe]; exact Or.inr h
  have hS : va_S A s.heap s.heap [] := va_S.rf
  have hl := lv_entry ([.ref (b 0), .int p0]) (n := 2) (Nat.le_of_ble_eq_true rfl)
  rw [lg_entry_eq]
  generalize (lg_sl ([.ref (b 0), .int p0]) ++ List.replicate (2 - (lg_sl ([.ref (b 0), .int p0])).length) Slot.unset).toArray = ls at hl ⊢
  have hl : lv_has ls 2 [(0, .ref (b 0)), (1, .int p0)] := hl
  have hN : NS s := hM.2.2.2.2.2.2
  refine lv_aload_n hx hb dX6_wet_0 rfl (lv_at hl 0 rfl) ?_
  refine lv_iload_n hx hb dX6_wet_1 rfl (lv_at hl 1 rfl) ?_
  refine lv_i2l hx hb dX6_wet_2 rfl ?_
  refine lv_lconst (v := 0) hx hb dX6_wet_3 (by decide) ?_
  refine lv_ldc2 hx hb hown (hts (.constantLong RX6 71 503) (by decide +kernel)) dX6_wet_4 ?_
  refine va_calli (va_runS (As := [.long p0.toInt64, .long 0, .long 503]) (rest := [.ref (b 0)]) ⟨hx, hb, hml, hown, hts⟩ (m_isBetween l p0.toInt64 0 503 (p0.toInt) (0) (503) (Int32.toInt_toInt64 _) (by decide) (by decide)) (va_cwS 3 hts gX6_wet_X6_isBetween rfl rfl rfl (by decide +kernel) ⟨Nat.le_of_ble_eq_true rfl, Nat.le_of_ble_eq_true rfl⟩) ⟨fun a U g mk q => q, fun U hU hW => ⟨rfl, trivial⟩⟩ rfl rfl hl.1 rfl (lv_room (Nat.le_of_ble_eq_true rfl)) dX6_wet_7 ⟨(Nat.le_of_ble_eq_true rfl), (Nat.le_of_ble_eq_true rfl)⟩) hS (fun q _ h => h.elim) (fun q h => h.elim) (fun r1 u t H locs ht hvm hw2 hB hz1 hk1 hS => ?_)
  have hP := kp_P hP hk1
  have hP : va_P (dC, dI) vwCl (([((b 0), .inr (10, [.int 0, .ref (b 1), .int 0, .int 0, .ref (b 2), .ref (b 3), .ref (b 4), .ref (b 5), .int 0, .int 0, .ref (b 6)])), ((b 1), .inl (c2, 21, .inr (.inr (.inr (.inr dg)))))]) ++ va_pl Ld (fun _ => .inl (cI, 4, .inl wRow))) H := hP
  have hD : va_D A (([((b 0), .inr (10, [.int 0, .ref (b 1), .int 0, .int 0, .ref (b 2), .ref (b 3), .ref (b 4), .ref (b 5), .int 0, .int 0, .ref (b 6)])), ((b 1), .inl (c2, 21, .inr (.inr (.inr (.inr dg)))))]) ++ va_pl Ld (fun _ => .inl (cI, 4, .inl wRow))) := hD
  have hw2 : r1 = bI ((0 : Int) ≤ p0.toInt ∧ p0.toInt ≤ (503 : Int)) := hw2
  refine lv_if_eq (tgt := 17) hx hb dX6_wet_10 (by decide) (fun c3 => ?_) (fun c3 => ?_)
  · skip
    have g4 : ¬ ((0 : Int) ≤ p0.toInt ∧ p0.toInt ≤ (503 : Int)) := bI_f hw2 c3
    have zg4 : r1 = 0 := bI_f0 hw2 g4
    refine lv_iconst (v := 1) hx hb dX6_wet_17 (by decide) ?_
    have hFc := va_free (wc := [((b 0), .inr (10, [.int 0, .ref (b 1), .int 0, .int 0, .ref (b 2), .ref (b 3), .ref (b 4), .ref (b 5), .int 0, .int 0, .ref (b 6)]))]) hD hS hA [0] rfl
    refine va_calli (va_runV (As := [.int 1]) (rest := []) ⟨hx, hb, hml, hown, hts⟩ (m_isWrong l dC dI _ (b 0) 0 [.ref (b 1), .int 0, .int 0, .ref (b 2), .ref (b 3), .ref (b 4), .ref (b 5), .int 0, .int 0, .ref (b 6)] 1) (cwV 1 hts gX6_wet_X6_isWrong rfl rfl rfl (by decide +kernel) ⟨Nat.le_of_ble_eq_true rfl, Nat.le_of_ble_eq_true rfl⟩) ⟨fb_PW, va_recv hK hP (ci := 10) (q0 := 0) rfl rfl, fun U hU hW => ⟨rfl, PW.give hP hK hD [0] [] rfl rfl rfl rfl hU hW⟩⟩ rfl rfl hl.1 rfl (lv_room (Nat.le_of_ble_eq_true rfl)) dX6_wet_18 ⟨(Nat.le_of_ble_eq_true rfl), (Nat.le_of_ble_eq_true rfl)⟩) hS (fun q _ h => hFc q h) hFc (fun r5 u t H locs ht hvm hw6 hB hz1 hk1 hS => ?_)
    obtain ⟨hP, hD, hK⟩ := aftQ [0] [1] hP hK hD rfl (wr := [((b 1), .inl (c2, 21, .inr (.inr (.inr (.inr dg)))))]) rfl rfl (by decide) hFc hB ht hvm hk1
    have hP : va_P (dC, dI) vwCl (([((b 1), .inl (c2, 21, .inr (.inr (.inr (.inr dg))))), ((b 0), .inr (10, [.int 1, .ref (b 1), .int 0, .int 0, .ref (b 2), .ref (b 3), .ref (b 4), .ref (b 5), .int 0, .int 0, .ref (b 6)]))]) ++ va_pl Ld (fun _ => .inl (cI, 4, .inl wRow))) H := hP
    have hD : va_D A (([((b 1), .inl (c2, 21, .inr (.inr (.inr (.inr dg))))), ((b 0), .inr (10, [.int 1, .ref (b 1), .int 0, .int 0, .ref (b 2), .ref (b 3), .ref (b 4), .ref (b 5), .int 0, .int 0, .ref (b 6)]))]) ++ va_pl Ld (fun _ => .inl (cI, 4, .inl wRow))) := hD
    have hK : va_K (dC, dI) vwCl [(cI, .int), (c2, .array .int)] s := hK
    have hw6 : r5 = bI (0 < 1) := hw6
    obtain rfl : r5 = 1 := hw6.trans (by decide)
    refine lv_if_eq (tgt := 28) hx hb dX6_wet_21 (by decide) (fun cx => by first | exact absurd cx (by decide) | exact absurd (by decide) cx) (fun _ => ?_)
    refine lv_iconst (v := 0) hx hb dX6_wet_24 (by decide) ?_
    refine lv_goto (tgt := 33) hx hb dX6_wet_25 (by decide) ?_
    refine W.widen (k := 0) (n := 0) (Nat.le_of_ble_eq_true rfl) (Nat.le_of_ble_eq_true rfl) ?_
    exact W.iret (v := 0) hx hb hr (fun t ht hW => ⟨⟨0, (1, [.ref (b 1), .int 0, .int 0, .ref (b 2), .ref (b 3), .ref (b 4), .ref (b 5), .int 0, .int 0, .ref (b 6)]), rfl, Or.inr ⟨by omega, rfl⟩, BW.endP hP hK hD [1] [] rfl rfl rfl ht hW⟩, hS.F ht⟩) hS.2.2 dX6_wet_33
  · skip
    have g7 : (0 : Int) ≤ p0.toInt ∧ p0.toInt ≤ (503 : Int) := bI_t hw2 c3
    have zg7 : r1 = 1 := bI_t1 hw2 g7
    obtain ⟨n, hn, hnn⟩ := toN (p := p0) (k := 503) (‹_ ∧ _›).1 (‹_ ∧ _›).2 (by decide)
    subst hnn
    refine lv_iconst (v := 0) hx hb dX6_wet_13 (by decide) ?_
    refine lv_goto (tgt := 18) hx hb dX6_wet_14 (by decide) ?_
    have hFc := va_free (wc := [((b 0), .inr (10, [.int 0, .ref (b 1), .int 0, .int 0, .ref (b 2), .ref (b 3), .ref (b 4), .ref (b 5), .int 0, .int 0, .ref (b 6)]))]) hD hS hA [0] rfl
    refine va_calli (va_runV (As := [.int 0]) (rest := []) ⟨hx, hb, hml, hown, hts⟩ (m_isWrong l dC dI _ (b 0) 0 [.ref (b 1), .int 0, .int 0, .ref (b 2), .ref (b 3), .ref (b 4), .ref (b 5), .int 0, .int 0, .ref (b 6)] 0) (cwV 1 hts gX6_wet_X6_isWrong rfl rfl rfl (by decide +kernel) ⟨Nat.le_of_ble_eq_true rfl, Nat.le_of_ble_eq_true rfl⟩) ⟨fb_PW, va_recv hK hP (ci := 10) (q0 := 0) rfl rfl, fun U hU hW => ⟨rfl, PW.give hP hK hD [0] [] rfl rfl rfl rfl hU hW⟩⟩ rfl rfl hl.1 rfl (lv_room (Nat.le_of_ble_eq_true rfl)) dX6_wet_18 ⟨(Nat.le_of_ble_eq_true rfl), (Nat.le_of_ble_eq_true rfl)⟩) hS (fun q _ h => hFc q h) hFc (fun r8 u t H locs ht hvm hw9 hB hz1 hk1 hS => ?_)
    obtain ⟨hP, hD, hK⟩ := aftQ [0] [1] hP hK hD rfl (wr := [((b 1), .inl (c2, 21, .inr (.inr (.inr (.inr dg)))))]) rfl rfl (by decide) hFc hB ht hvm hk1
    have hP : va_P (dC, dI) vwCl (([((b 1), .inl (c2, 21, .inr (.inr (.inr (.inr dg))))), ((b 0), .inr (10, [.int 0, .ref (b 1), .int 0, .int 0, .ref (b 2), .ref (b 3), .ref (b 4), .ref (b 5), .int 0, .int 0, .ref (b 6)]))]) ++ va_pl Ld (fun _ => .inl (cI, 4, .inl wRow))) H := hP
    have hD : va_D A (([((b 1), .inl (c2, 21, .inr (.inr (.inr (.inr dg))))), ((b 0), .inr (10, [.int 0, .ref (b 1), .int 0, .int 0, .ref (b 2), .ref (b 3), .ref (b 4), .ref (b 5), .int 0, .int 0, .ref (b 6)]))]) ++ va_pl Ld (fun _ => .inl (cI, 4, .inl wRow))) := hD
    have hK : va_K (dC, dI) vwCl [(cI, .int), (c2, .array .int)] s := hK
    have hw9 : r8 = bI (0 < 0) := hw9
    obtain rfl : r8 = 0 := hw9.trans (by decide)
    refine lv_if_eq (tgt := 28) hx hb dX6_wet_21 (by decide) (fun _ => ?_) (fun cx => by first | exact absurd (by decide) cx | exact absurd cx (by decide))
    refine lv_aload_n hx hb dX6_wet_28 rfl (lv_at hl 0 rfl) ?_
    refine lv_iload_n hx hb dX6_wet_29 rfl (lv_at hl 1 rfl) ?_
    refine va_calli (va_runV (As := [.int (nI n)]) (rest := []) ⟨hx, hb, hml, hown, hts⟩ (m_wetOf l dC dI _ b cI c2 dg Ld hDG 0 0 n (by omega)) (cwV 1 hts gX6_wet_X6_wetOf rfl rfl rfl (by decide +kernel) ⟨Nat.le_of_ble_eq_true rfl, Nat.le_of_ble_eq_true rfl⟩) ⟨fb_PW, va_recv hK hP (ci := 10) (q0 := 1) rfl rfl, fun U hU hW => ⟨rfl, PW.giveP hP hK hD [1, 0] [0, 1] rfl rfl rfl hU hW⟩⟩ rfl rfl hl.1 rfl (lv_room (Nat.le_of_ble_eq_true rfl)) dX6_wet_30 ⟨(Nat.le_of_ble_eq_true rfl), (Nat.le_of_ble_eq_true rfl)⟩) hS (fun q _ h => h.elim) (fun q h => h.elim) (fun r10 u t H locs ht hvm hw11 hB hz1 hk1 hS => ?_)
    have hP := kp_P hP hk1
    have hP : va_P (dC, dI) vwCl (([((b 1), .inl (c2, 21, .inr (.inr (.inr (.inr dg))))), ((b 0), .inr (10, [.int 0, .ref (b 1), .int 0, .int 0, .ref (b 2), .ref (b 3), .ref (b 4), .ref (b 5), .int 0, .int 0, .ref (b 6)]))]) ++ va_pl Ld (fun _ => .inl (cI, 4, .inl wRow))) H := hP
    have hD : va_D A (([((b 1), .inl (c2, 21, .inr (.inr (.inr (.inr dg))))), ((b 0), .inr (10, [.int 0, .ref (b 1), .int 0, .int 0, .ref (b 2), .ref (b 3), .ref (b 4), .ref (b 5), .int 0, .int 0, .ref (b 6)]))]) ++ va_pl Ld (fun _ => .inl (cI, 4, .inl wRow))) := hD
    refine W.widen (k := 0) (n := 0) (Nat.le_of_ble_eq_true rfl) (Nat.le_of_ble_eq_true rfl) ?_
    exact W.iret (v := r10) hx hb hr (fun t ht hW => ⟨⟨r10, (0, [.ref (b 1), .int 0, .int 0, .ref (b 2), .ref (b 3), .ref (b 4), .ref (b 5), .int 0, .int 0, .ref (b 6)]), rfl, Or.inl ⟨by assumption, rfl, by rw [nI_clamp (by omega)]; exact hw11⟩, BW.endP hP hK hD [1] [] rfl rfl rfl ht hW⟩, hS.F ht⟩) hS.2.2 dX6_wet_33

set_option maxHeartbeats 4000000 in
set_option maxRecDepth 100000 in
theorem m_weather (l : Launch) (dC : Nat → ClassId) (dI : Nat → Nat → Nat) (sz : Nat) (b : Nat → Nat) (cI c2 : ClassId) (dg : Nat → Option Nat) (Ld : List Nat) (hDG : ∀ i, i < 21 → ∃ y, dg i = some y ∧ y ∈ Ld) (p0 : Int32) (p1 : Int32) (p2 : Int32) (p3 : Int32) (p4 : Int32)  : Met l yX6_weather wsX6_weather ({ frames := 1, cells := 1, slots := 4, locals := 25 }) (va_Pc [.ref (b 0), .int p0, .int p1, .int p2, .int p3, .int p4] (PM dC dI ([((b 0), .inr (10, [.int 0, .ref (b 1), .int 0, .int 0, .ref (b 2), .ref (b 3), .ref (b 4), .ref (b 5), .int 0, .int 0, .ref (b 6)])), ((b 1), .inl (c2, 21, .inr (.inr (.inr (.inr dg)))))] ++ va_pl Ld (fun _ => .inl (cI, 4, .inl wRow))) [(cI, .int), (c2, .array .int)] sz)) (va_Qi (fun (r : Int32) (u : Int32 × List Value) => (((0 ≤ p0.toInt ∧ p0.toInt ≤ 20) ∧ (-400 ≤ p1.toInt ∧ p1.toInt ≤ 200) ∧ (p1.toInt ≤ p2.toInt ∧ p2.toInt ≤ 200) ∧ (0 ≤ p3.toInt ∧ p3.toInt ≤ 30) ∧ 0 ≤ p4.toInt ∧ p4.toInt ≤ 100) ∧ u.1 = 0 ∧ r = (-150)) ∨ (¬ ((0 ≤ p0.toInt ∧ p0.toInt ≤ 20) ∧ (-400 ≤ p1.toInt ∧ p1.toInt ≤ 200) ∧ (p1.toInt ≤ p2.toInt ∧ p2.toInt ≤ 200) ∧ (0 ≤ p3.toInt ∧ p3.toInt ≤ 30) ∧ 0 ≤ p4.toInt ∧ p4.toInt ≤ 100) ∧ u.1 = 1)) (fun (u : Int32 × List Value) t => BW dC dI (va_A ([((b 0), .inr (10, [.int 0, .ref (b 1), .int 0, .int 0, .ref (b 2), .ref (b 3), .ref (b 4), .ref (b 5), .int 0, .int 0, .ref (b 6)])), ((b 1), .inl (c2, 21, .inr (.inr (.inr (.inr dg)))))] ++ va_pl Ld (fun _ => .inl (cI, 4, .inl wRow))) sz) [((b 0), .inr (10, .int u.1 :: u.2))] [] t) (va_A ([((b 0), .inr (10, [.int 0, .ref (b 1), .int 0, .int 0, .ref (b 2), .ref (b 3), .ref (b 4), .ref (b 5), .int 0, .int 0, .ref (b 6)])), ((b 1), .inl (c2, 21, .inr (.inr (.inr (.inr dg)))))] ++ va_pl Ld (fun _ => .inl (cI, 4, .inl wRow))) sz)) 1 4 (va_A ([((b 0), .inr (10, [.int 0, .ref (b 1), .int 0, .int 0, .ref (b 2), .ref (b 3), .ref (b 4), .ref (b 5), .int 0, .int 0, .ref (b 6)])), ((b 1), .inl (c2, 21, .inr (.inr (.inr (.inr dg)))))] ++ va_pl Ld (fun _ => .inl (cI, 4, .inl wRow))) sz) := by
  refine Met.ofW (cc := cX6_weather) (maxL := 8) (ret := (some .int)) (by decide +kernel) rfl ?_
  intro p e s m args below meth c s₁ B hml hv
  obtain ⟨rfl, ⟨hsz, hP, hK, hD0⟩, hM⟩ := hv
  have hx := B.exec
  have hb := B.bytes
  have hr := B.returns
  have hts := atoms_spec (ws := wsX6_weather) B.pre
  have hown : s.vm.findClass RX6 = some m.cls := findClass_of_methodNamed B.named
  have hlocks := B.notSynchronized
  subst hsz
  have hD := hD0.self (sz := s.heap.size)
  generalize hAe : va_A ([((b 0), .inr (10, [.int 0, .ref (b 1), .int 0, .int 0, .ref (b 2), .ref (b 3), .ref (b 4), .ref (b 5), .int 0, .int 0, .ref (b 6)])), ((b 1), .inl (c2, 21, .inr (.inr (.inr (.inr dg)))))] ++ va_pl Ld (fun _ => .inl (cI, 4, .inl wRow))) s.heap.size = A at hD ⊢
  have hA : ∀ q : Nat, s.heap.size ≤ q → A q := fun q h => by rw [← hAe]; exact Or.inr h
  have hS : va_S A s.heap s.heap [] := va_S.rf
  have hl := lv_entry ([.ref (b 0), .int p0, .int p1, .int p2, .int p3, .int p4]) (n := 8) (Nat.le_of_ble_eq_true rfl)
  rw [lg_entry_eq]
  generalize (lg_sl ([.ref (b 0), .int p0, .int p1, .int p2, .int p3, .int p4]) ++ List.replicate (8 - (lg_sl ([.ref (b 0), .int p0, .int p1, .int p2, .int p3, .int p4])).length) Slot.unset).toArray = ls at hl ⊢
  have hl : lv_has ls 8 [(0, .ref (b 0)), (1, .int p0), (2, .int p1), (3, .int p2), (4, .int p3), (5, .int p4)] := hl
  have hN : NS s := hM.2.2.2.2.2.2
  refine lv_iload_n hx hb dX6_weather_0 rfl (lv_at hl 1 rfl) ?_
  refine lv_i2l hx hb dX6_weather_1 rfl ?_
  refine lv_lconst (v := 0) hx hb dX6_weather_2 (by decide) ?_
  refine lv_ldc2 hx hb hown (hts (.constantLong RX6 44 20) (by decide +kernel)) dX6_weather_3 ?_
  refine va_calli (va_runS (As := [.long p0.toInt64, .long 0, .long 20]) (rest := []) ⟨hx, hb, hml, hown, hts⟩ (m_isBetween l p0.toInt64 0 20 (p0.toInt) (0) (20) (Int32.toInt_toInt64 _) (by decide) (by decide)) (va_cwS 3 hts gX6_weather_X6_isBetween rfl rfl rfl (by decide +kernel) ⟨Nat.le_of_ble_eq_true rfl, Nat.le_of_ble_eq_true rfl⟩) ⟨fun a U g mk q => q, fun U hU hW => ⟨rfl, trivial⟩⟩ rfl rfl hl.1 rfl (lv_room (Nat.le_of_ble_eq_true rfl)) dX6_weather_6 ⟨(Nat.le_of_ble_eq_true rfl), (Nat.le_of_ble_eq_true rfl)⟩) hS (fun q _ h => h.elim) (fun q h => h.elim) (fun r1 u t H locs ht hvm hw2 hB hz1 hk1 hS => ?_)
  have hP := kp_P hP hk1
  have hP : va_P (dC, dI) vwCl (([((b 0), .inr (10, [.int 0, .ref (b 1), .int 0, .int 0, .ref (b 2), .ref (b 3), .ref (b 4), .ref (b 5), .int 0, .int 0, .ref (b 6)])), ((b 1), .inl (c2, 21, .inr (.inr (.inr (.inr dg)))))]) ++ va_pl Ld (fun _ => .inl (cI, 4, .inl wRow))) H := hP
  have hD : va_D A (([((b 0), .inr (10, [.int 0, .ref (b 1), .int 0, .int 0, .ref (b 2), .ref (b 3), .ref (b 4), .ref (b 5), .int 0, .int 0, .ref (b 6)])), ((b 1), .inl (c2, 21, .inr (.inr (.inr (.inr dg)))))]) ++ va_pl Ld (fun _ => .inl (cI, 4, .inl wRow))) := hD
  have hw2 : r1 = bI ((0 : Int) ≤ p0.toInt ∧ p0.toInt ≤ (20 : Int)) := hw2
  refine lv_if_eq (tgt := 69) hx hb dX6_weather_9 (by decide) (fun c3 => ?_) (fun c3 => ?_)
  · skip
    have g4 : ¬ ((0 : Int) ≤ p0.toInt ∧ p0.toInt ≤ (20 : Int)) := bI_f hw2 c3
    have zg4 : r1 = 0 := bI_f0 hw2 g4
    refine lv_iconst (v := 0) hx hb dX6_weather_69 (by decide) ?_
    refine lv_istore (lv' := [(6, .int 0), (0, .ref (b 0)), (1, .int p0), (2, .int p1), (3, .int p2), (4, .int p3), (5, .int p4)]) hx hb dX6_weather_70 hl (by decide) rfl (fun ls hl => ?_)
    refine lv_aload_n hx hb dX6_weather_72 rfl (lv_at hl 1 rfl) ?_
    refine lv_iload hx hb dX6_weather_73 (lv_at hl 0 rfl) ?_
    refine lv_if_ne (tgt := 82) hx hb dX6_weather_75 (by decide) (fun cx => by first | exact absurd cx (by decide) | exact absurd (by decide) cx) (fun _ => ?_)
    refine lv_iconst (v := 1) hx hb dX6_weather_78 (by decide) ?_
    refine lv_goto (tgt := 98) hx hb dX6_weather_79 (by decide) ?_
    have hFc := va_free (wc := [((b 0), .inr (10, [.int 0, .ref (b 1), .int 0, .int 0, .ref (b 2), .ref (b 3), .ref (b 4), .ref (b 5), .int 0, .int 0, .ref (b 6)]))]) hD hS hA [0] rfl
    refine va_calli (va_runV (As := [.int 1]) (rest := []) ⟨hx, hb, hml, hown, hts⟩ (m_isWrong l dC dI _ (b 0) 0 [.ref (b 1), .int 0, .int 0, .ref (b 2), .ref (b 3), .ref (b 4), .ref (b 5), .int 0, .int 0, .ref (b 6)] 1) (cwV 1 hts gX6_weather_X6_isWrong rfl rfl rfl (by decide +kernel) ⟨Nat.le_of_ble_eq_true rfl, Nat.le_of_ble_eq_true rfl⟩) ⟨fb_PW, va_recv hK hP (ci := 10) (q0 := 0) rfl rfl, fun U hU hW => ⟨rfl, PW.give hP hK hD [0] [] rfl rfl rfl rfl hU hW⟩⟩ rfl rfl hl.1 rfl (lv_room (Nat.le_of_ble_eq_true rfl)) dX6_weather_98 ⟨(Nat.le_of_ble_eq_true rfl), (Nat.le_of_ble_eq_true rfl)⟩) hS (fun q _ h => hFc q h) hFc (fun r5 u t H locs ht hvm hw6 hB hz1 hk1 hS => ?_)
    obtain ⟨hP, hD, hK⟩ := aftQ [0] [1] hP hK hD rfl (wr := [((b 1), .inl (c2, 21, .inr (.inr (.inr (.inr dg)))))]) rfl rfl (by decide) hFc hB ht hvm hk1
    have hP : va_P (dC, dI) vwCl (([((b 1), .inl (c2, 21, .inr (.inr (.inr (.inr dg))))), ((b 0), .inr (10, [.int 1, .ref (b 1), .int 0, .int 0, .ref (b 2), .ref (b 3), .ref (b 4), .ref (b 5), .int 0, .int 0, .ref (b 6)]))]) ++ va_pl Ld (fun _ => .inl (cI, 4, .inl wRow))) H := hP
    have hD : va_D A (([((b 1), .inl (c2, 21, .inr (.inr (.inr (.inr dg))))), ((b 0), .inr (10, [.int 1, .ref (b 1), .int 0, .int 0, .ref (b 2), .ref (b 3), .ref (b 4), .ref (b 5), .int 0, .int 0, .ref (b 6)]))]) ++ va_pl Ld (fun _ => .inl (cI, 4, .inl wRow))) := hD
    have hK : va_K (dC, dI) vwCl [(cI, .int), (c2, .array .int)] s := hK
    have hw6 : r5 = bI (0 < 1) := hw6
    obtain rfl : r5 = 1 := hw6.trans (by decide)
    refine lv_if_eq (tgt := 106) hx hb dX6_weather_101 (by decide) (fun cx => by first | exact absurd cx (by decide) | exact absurd (by decide) cx) (fun _ => ?_)
    refine lv_iconst (v := 0) hx hb dX6_weather_104 (by decide) ?_
    refine W.widen (k := 1) (n := 4) (Nat.le_of_ble_eq_true rfl) (Nat.le_of_ble_eq_true rfl) ?_
    exact W.iret (v := 0) hx hb hr (fun t ht hW => ⟨⟨0, (1, [.ref (b 1), .int 0, .int 0, .ref (b 2), .ref (b 3), .ref (b 4), .ref (b 5), .int 0, .int 0, .ref (b 6)]), rfl, Or.inr ⟨by omega, rfl⟩, BW.endP hP hK hD [1] [] rfl rfl rfl ht hW⟩, hS.F ht⟩) hS.2.2 dX6_weather_105
  · skip
    have g7 : (0 : Int) ≤ p0.toInt ∧ p0.toInt ≤ (20 : Int) := bI_t hw2 c3
    have zg7 : r1 = 1 := bI_t1 hw2 g7
    refine lv_iload_n hx hb dX6_weather_12 rfl (lv_at hl 2 rfl) ?_
    refine lv_i2l hx hb dX6_weather_13 rfl ?_
    refine lv_ldc2 hx hb hown (hts (.constantLong RX6 50 (-400)) (by decide +kernel)) dX6_weather_14 ?_
    refine lv_ldc2 hx hb hown (hts (.constantLong RX6 52 200) (by decide +kernel)) dX6_weather_17 ?_
    refine va_calli (va_runS (As := [.long p1.toInt64, .long (-400), .long 200]) (rest := []) ⟨hx, hb, hml, hown, hts⟩ (m_isBetween l p1.toInt64 (-400) 200 (p1.toInt) (-400) (200) (Int32.toInt_toInt64 _) (by decide) (by decide)) (va_cwS 3 hts gX6_weather_X6_isBetween rfl rfl rfl (by decide +kernel) ⟨Nat.le_of_ble_eq_true rfl, Nat.le_of_ble_eq_true rfl⟩) ⟨fun a U g mk q => q, fun U hU hW => ⟨rfl, trivial⟩⟩ rfl rfl hl.1 rfl (lv_room (Nat.le_of_ble_eq_true rfl)) dX6_weather_20 ⟨(Nat.le_of_ble_eq_true rfl), (Nat.le_of_ble_eq_true rfl)⟩) hS (fun q _ h => h.elim) (fun q h => h.elim) (fun r8 u t H locs ht hvm hw9 hB hz1 hk1 hS => ?_)
    have hP := kp_P hP hk1
    have hP : va_P (dC, dI) vwCl (([((b 0), .inr (10, [.int 0, .ref (b 1), .int 0, .int 0, .ref (b 2), .ref (b 3), .ref (b 4), .ref (b 5), .int 0, .int 0, .ref (b 6)])), ((b 1), .inl (c2, 21, .inr (.inr (.inr (.inr dg)))))]) ++ va_pl Ld (fun _ => .inl (cI, 4, .inl wRow))) H := hP
    have hD : va_D A (([((b 0), .inr (10, [.int 0, .ref (b 1), .int 0, .int 0, .ref (b 2), .ref (b 3), .ref (b 4), .ref (b 5), .int 0, .int 0, .ref (b 6)])), ((b 1), .inl (c2, 21, .inr (.inr (.inr (.inr dg)))))]) ++ va_pl Ld (fun _ => .inl (cI, 4, .inl wRow))) := hD
    have hw9 : r8 = bI ((-400 : Int) ≤ p1.toInt ∧ p1.toInt ≤ (200 : Int)) := hw9
    refine lv_if_eq (tgt := 69) hx hb dX6_weather_23 (by decide) (fun c10 => ?_) (fun c10 => ?_)
    · skip
      have g11 : ¬ ((-400 : Int) ≤ p1.toInt ∧ p1.toInt ≤ (200 : Int)) := bI_f hw9 c10
      have zg11 : r8 = 0 := bI_f0 hw9 g11
      refine lv_iconst (v := 0) hx hb dX6_weather_69 (by decide) ?_
      refine lv_istore (lv' := [(6, .int 0), (0, .ref (b 0)), (1, .int p0), (2, .int p1), (3, .int p2), (4, .int p3), (5, .int p4)]) hx hb dX6_weather_70 hl (by decide) rfl (fun ls hl => ?_)
      refine lv_aload_n hx hb dX6_weather_72 rfl (lv_at hl 1 rfl) ?_
      refine lv_iload hx hb dX6_weather_73 (lv_at hl 0 rfl) ?_
      refine lv_if_ne (tgt := 82) hx hb dX6_weather_75 (by decide) (fun cx => by first | exact absurd cx (by decide) | exact absurd (by decide) cx) (fun _ => ?_)
      refine lv_iconst (v := 1) hx hb dX6_weather_78 (by decide) ?_
      refine lv_goto (tgt := 98) hx hb dX6_weather_79 (by decide) ?_
      have hFc := va_free (wc := [((b 0), .inr (10, [.int 0, .ref (b 1), .int 0, .int 0, .ref (b 2), .ref (b 3), .ref (b 4), .ref (b 5), .int 0, .int 0, .ref (b 6)]))]) hD hS hA [0] rfl
      refine va_calli (va_runV (As := [.int 1]) (rest := []) ⟨hx, hb, hml, hown, hts⟩ (m_isWrong l dC dI _ (b 0) 0 [.ref (b 1), .int 0, .int 0, .ref (b 2), .ref (b 3), .ref (b 4), .ref (b 5), .int 0, .int 0, .ref (b 6)] 1) (cwV 1 hts gX6_weather_X6_isWrong rfl rfl rfl (by decide +kernel) ⟨Nat.le_of_ble_eq_true rfl, Nat.le_of_ble_eq_true rfl⟩) ⟨fb_PW, va_recv hK hP (ci := 10) (q0 := 0) rfl rfl, fun U hU hW => ⟨rfl, PW.give hP hK hD [0] [] rfl rfl rfl rfl hU hW⟩⟩ rfl rfl hl.1 rfl (lv_room (Nat.le_of_ble_eq_true rfl)) dX6_weather_98 ⟨(Nat.le_of_ble_eq_true rfl), (Nat.le_of_ble_eq_true rfl)⟩) hS (fun q _ h => hFc q h) hFc (fun r12 u t H locs ht hvm hw13 hB hz1 hk1 hS => ?_)
      obtain ⟨hP, hD, hK⟩ := aftQ [0] [1] hP hK hD rfl (wr := [((b 1), .inl (c2, 21, .inr (.inr (.inr (.inr dg)))))]) rfl rfl (by decide) hFc hB ht hvm hk1
      have hP : va_P (dC, dI) vwCl (([((b 1), .inl (c2, 21, .inr (.inr (.inr (.inr dg))))), ((b 0), .inr (10, [.int 1, .ref (b 1), .int 0, .int 0, .ref (b 2), .ref (b 3), .ref (b 4), .ref (b 5), .int 0, .int 0, .ref (b 6)]))]) ++ va_pl Ld (fun _ => .inl (cI, 4, .inl wRow))) H := hP
      have hD : va_D A (([((b 1), .inl (c2, 21, .inr (.inr (.inr (.inr dg))))), ((b 0), .inr (10, [.int 1, .ref (b 1), .int 0, .int 0, .ref (b 2), .ref (b 3), .ref (b 4), .ref (b 5), .int 0, .int 0, .ref (b 6)]))]) ++ va_pl Ld (fun _ => .inl (cI, 4, .inl wRow))) := hD
      have hK : va_K (dC, dI) vwCl [(cI, .int), (c2, .array .int)] s := hK
      have hw13 : r12 = bI (0 < 1) := hw13
      obtain rfl : r12 = 1 := hw13.trans (by decide)
      refine lv_if_eq (tgt := 106) hx hb dX6_weather_101 (by decide) (fun cx => by first | exact absurd cx (by decide) | exact absurd (by decide) cx) (fun _ => ?_)
      refine lv_iconst (v := 0) hx hb dX6_weather_104 (by decide) ?_
      refine W.widen (k := 1) (n := 4) (Nat.le_of_ble_eq_true rfl) (Nat.le_of_ble_eq_true rfl) ?_
      exact W.iret (v := 0) hx hb hr (fun t ht hW => ⟨⟨0, (1, [.ref (b 1), .int 0, .int 0, .ref (b 2), .ref (b 3), .ref (b 4), .ref (b 5), .int 0, .int 0, .ref (b 6)]), rfl, Or.inr ⟨by omega, rfl⟩, BW.endP hP hK hD [1] [] rfl rfl rfl ht hW⟩, hS.F ht⟩) hS.2.2 dX6_weather_105
    · skip
      have g14 : (-400 : Int) ≤ p1.toInt ∧ p1.toInt ≤ (200 : Int) := bI_t hw9 c10
      have zg14 : r8 = 1 := bI_t1 hw9 g14
      refine lv_iload_n hx hb dX6_weather_26 rfl (lv_at hl 3 rfl) ?_
      refine lv_i2l hx hb dX6_weather_27 rfl ?_
      refine lv_iload_n hx hb dX6_weather_28 rfl (lv_at hl 2 rfl) ?_
      refine lv_i2l hx hb dX6_weather_29 rfl ?_
      refine lv_ldc2 hx hb hown (hts (.constantLong RX6 52 200) (by decide +kernel)) dX6_weather_30 ?_
      refine va_calli (va_runS (As := [.long p2.toInt64, .long p1.toInt64, .long 200]) (rest := []) ⟨hx, hb, hml, hown, hts⟩ (m_isBetween l p2.toInt64 p1.toInt64 200 (p2.toInt) (p1.toInt) (200) (Int32.toInt_toInt64 _) (Int32.toInt_toInt64 _) (by decide)) (va_cwS 3 hts gX6_weather_X6_isBetween rfl rfl rfl (by decide +kernel) ⟨Nat.le_of_ble_eq_true rfl, Nat.le_of_ble_eq_true rfl⟩) ⟨fun a U g mk q => q, fun U hU hW => ⟨rfl, trivial⟩⟩ rfl rfl hl.1 rfl (lv_room (Nat.le_of_ble_eq_true rfl)) dX6_weather_33 ⟨(Nat.le_of_ble_eq_true rfl), (Nat.le_of_ble_eq_true rfl)⟩) hS (fun q _ h => h.elim) (fun q h => h.elim) (fun r15 u t H locs ht hvm hw16 hB hz1 hk1 hS => ?_)
      have hP := kp_P hP hk1
      have hP : va_P (dC, dI) vwCl (([((b 0), .inr (10, [.int 0, .ref (b 1), .int 0, .int 0, .ref (b 2), .ref (b 3), .ref (b 4), .ref (b 5), .int 0, .int 0, .ref (b 6)])), ((b 1), .inl (c2, 21, .inr (.inr (.inr (.inr dg)))))]) ++ va_pl Ld (fun _ => .inl (cI, 4, .inl wRow))) H := hP
      have hD : va_D A (([((b 0), .inr (10, [.int 0, .ref (b 1), .int 0, .int 0, .ref (b 2), .ref (b 3), .ref (b 4), .ref (b 5), .int 0, .int 0, .ref (b 6)])), ((b 1), .inl (c2, 21, .inr (.inr (.inr (.inr dg)))))]) ++ va_pl Ld (fun _ => .inl (cI, 4, .inl wRow))) := hD
      have hw16 : r15 = bI (p1.toInt ≤ p2.toInt ∧ p2.toInt ≤ (200 : Int)) := hw16
      refine lv_if_eq (tgt := 69) hx hb dX6_weather_36 (by decide) (fun c17 => ?_) (fun c17 => ?_)
      · skip
        have g18 : ¬ (p1.toInt ≤ p2.toInt ∧ p2.toInt ≤ (200 : Int)) := bI_f hw16 c17
        have zg18 : r15 = 0 := bI_f0 hw16 g18
        refine lv_iconst (v := 0) hx hb dX6_weather_69 (by decide) ?_
        refine lv_istore (lv' := [(6, .int 0), (0, .ref (b 0)), (1, .int p0), (2, .int p1), (3, .int p2), (4, .int p3), (5, .int p4)]) hx hb dX6_weather_70 hl (by decide) rfl (fun ls hl => ?_)
        refine lv_aload_n hx hb dX6_weather_72 rfl (lv_at hl 1 rfl) ?_
        refine lv_iload hx hb dX6_weather_73 (lv_at hl 0 rfl) ?_
        refine lv_if_ne (tgt := 82) hx hb dX6_weather_75 (by decide) (fun cx => by first | exact absurd cx (by decide) | exact absurd (by decide) cx) (fun _ => ?_)
        refine lv_iconst (v := 1) hx hb dX6_weather_78 (by decide) ?_
        refine lv_goto (tgt := 98) hx hb dX6_weather_79 (by decide) ?_
        have hFc := va_free (wc := [((b 0), .inr (10, [.int 0, .ref (b 1), .int 0, .int 0, .ref (b 2), .ref (b 3), .ref (b 4), .ref (b 5), .int 0, .int 0, .ref (b 6)]))]) hD hS hA [0] rfl
        refine va_calli (va_runV (As := [.int 1]) (rest := []) ⟨hx, hb, hml, hown, hts⟩ (m_isWrong l dC dI _ (b 0) 0 [.ref (b 1), .int 0, .int 0, .ref (b 2), .ref (b 3), .ref (b 4), .ref (b 5), .int 0, .int 0, .ref (b 6)] 1) (cwV 1 hts gX6_weather_X6_isWrong rfl rfl rfl (by decide +kernel) ⟨Nat.le_of_ble_eq_true rfl, Nat.le_of_ble_eq_true rfl⟩) ⟨fb_PW, va_recv hK hP (ci := 10) (q0 := 0) rfl rfl, fun U hU hW => ⟨rfl, PW.give hP hK hD [0] [] rfl rfl rfl rfl hU hW⟩⟩ rfl rfl hl.1 rfl (lv_room (Nat.le_of_ble_eq_true rfl)) dX6_weather_98 ⟨(Nat.le_of_ble_eq_true rfl), (Nat.le_of_ble_eq_true rfl)⟩) hS (fun q _ h => hFc q h) hFc (fun r19 u t H locs ht hvm hw20 hB hz1 hk1 hS => ?_)
        obtain ⟨hP, hD, hK⟩ := aftQ [0] [1] hP hK hD rfl (wr := [((b 1), .inl (c2, 21, .inr (.inr (.inr (.inr dg)))))]) rfl rfl (by decide) hFc hB ht hvm hk1
        have hP : va_P (dC, dI) vwCl (([((b 1), .inl (c2, 21, .inr (.inr (.inr (.inr dg))))), ((b 0), .inr (10, [.int 1, .ref (b 1), .int 0, .int 0, .ref (b 2), .ref (b 3), .ref (b 4), .ref (b 5), .int 0, .int 0, .ref (b 6)]))]) ++ va_pl Ld (fun _ => .inl (cI, 4, .inl wRow))) H := hP
        have hD : va_D A (([((b 1), .inl (c2, 21, .inr (.inr (.inr (.inr dg))))), ((b 0), .inr (10, [.int 1, .ref (b 1), .int 0, .int 0, .ref (b 2), .ref (b 3), .ref (b 4), .ref (b 5), .int 0, .int 0, .ref (b 6)]))]) ++ va_pl Ld (fun _ => .inl (cI, 4, .inl wRow))) := hD
        have hK : va_K (dC, dI) vwCl [(cI, .int), (c2, .array .int)] s := hK
        have hw20 : r19 = bI (0 < 1) := hw20
        obtain rfl : r19 = 1 := hw20.trans (by decide)
        refine lv_if_eq (tgt := 106) hx hb dX6_weather_101 (by decide) (fun cx => by first | exact absurd cx (by decide) | exact absurd (by decide) cx) (fun _ => ?_)
        refine lv_iconst (v := 0) hx hb dX6_weather_104 (by decide) ?_
        refine W.widen (k := 1) (n := 4) (Nat.le_of_ble_eq_true rfl) (Nat.le_of_ble_eq_true rfl) ?_
        exact W.iret (v := 0) hx hb hr (fun t ht hW => ⟨⟨0, (1, [.ref (b 1), .int 0, .int 0, .ref (b 2), .ref (b 3), .ref (b 4), .ref (b 5), .int 0, .int 0, .ref (b 6)]), rfl, Or.inr ⟨by omega, rfl⟩, BW.endP hP hK hD [1] [] rfl rfl rfl ht hW⟩, hS.F ht⟩) hS.2.2 dX6_weather_105
      · skip
        have g21 : p1.toInt ≤ p2.toInt ∧ p2.toInt ≤ (200 : Int) := bI_t hw16 c17
        have zg21 : r15 = 1 := bI_t1 hw16 g21
        refine lv_iload hx hb dX6_weather_39 (lv_at hl 4 rfl) ?_
        refine lv_i2l hx hb dX6_weather_41 rfl ?_
        refine lv_lconst (v := 0) hx hb dX6_weather_42 (by decide) ?_
        refine lv_ldc2 hx hb hown (hts (.constantLong RX6 54 30) (by decide +kernel)) dX6_weather_43 ?_
        refine va_calli (va_runS (As := [.long p3.toInt64, .long 0, .long 30]) (rest := []) ⟨hx, hb, hml, hown, hts⟩ (m_isBetween l p3.toInt64 0 30 (p3.toInt) (0) (30) (Int32.toInt_toInt64 _) (by decide) (by decide)) (va_cwS 3 hts gX6_weather_X6_isBetween rfl rfl rfl (by decide +kernel) ⟨Nat.le_of_ble_eq_true rfl, Nat.le_of_ble_eq_true rfl⟩) ⟨fun a U g mk q => q, fun U hU hW => ⟨rfl, trivial⟩⟩ rfl rfl hl.1 rfl (lv_room (Nat.le_of_ble_eq_true rfl)) dX6_weather_46 ⟨(Nat.le_of_ble_eq_true rfl), (Nat.le_of_ble_eq_true rfl)⟩) hS (fun q _ h => h.elim) (fun q h => h.elim) (fun r22 u t H locs ht hvm hw23 hB hz1 hk1 hS => ?_)
        have hP := kp_P hP hk1
        have hP : va_P (dC, dI) vwCl (([((b 0), .inr (10, [.int 0, .ref (b 1), .int 0, .int 0, .ref (b 2), .ref (b 3), .ref (b 4), .ref (b 5), .int 0, .int 0, .ref (b 6)])), ((b 1), .inl (c2, 21, .inr (.inr (.inr (.inr dg)))))]) ++ va_pl Ld (fun _ => .inl (cI, 4, .inl wRow))) H := hP
        have hD : va_D A (([((b 0), .inr (10, [.int 0, .ref (b 1), .int 0, .int 0, .ref (b 2), .ref (b 3), .ref (b 4), .ref (b 5), .int 0, .int 0, .ref (b 6)])), ((b 1), .inl (c2, 21, .inr (.inr (.inr (.inr dg)))))]) ++ va_pl Ld (fun _ => .inl (cI, 4, .inl wRow))) := hD
        have hw23 : r22 = bI ((0 : Int) ≤ p3.toInt ∧ p3.toInt ≤ (30 : Int)) := hw23
        refine lv_if_eq (tgt := 69) hx hb dX6_weather_49 (by decide) (fun c24 => ?_) (fun c24 => ?_)
        · skip
          have g25 : ¬ ((0 : Int) ≤ p3.toInt ∧ p3.toInt ≤ (30 : Int)) := bI_f hw23 c24
          have zg25 : r22 = 0 := bI_f0 hw23 g25
          refine lv_iconst (v := 0) hx hb dX6_weather_69 (by decide) ?_
          refine lv_istore (lv' := [(6, .int 0), (0, .ref (b 0)), (1, .int p0), (2, .int p1), (3, .int p2), (4, .int p3), (5, .int p4)]) hx hb dX6_weather_70 hl (by decide) rfl (fun ls hl => ?_)
          refine lv_aload_n hx hb dX6_weather_72 rfl (lv_at hl 1 rfl) ?_
          refine lv_iload hx hb dX6_weather_73 (lv_at hl 0 rfl) ?_
          refine lv_if_ne (tgt := 82) hx hb dX6_weather_75 (by decide) (fun cx => by first | exact absurd cx (by decide) | exact absurd (by decide) cx) (fun _ => ?_)
          refine lv_iconst (v := 1) hx hb dX6_weather_78 (by decide) ?_
          refine lv_goto (tgt := 98) hx hb dX6_weather_79 (by decide) ?_
          have hFc := va_free (wc := [((b 0), .inr (10, [.int 0, .ref (b 1), .int 0, .int 0, .ref (b 2), .ref (b 3), .ref (b 4), .ref (b 5), .int 0, .int 0, .ref (b 6)]))]) hD hS hA [0] rfl
          refine va_calli (va_runV (As := [.int 1]) (rest := []) ⟨hx, hb, hml, hown, hts⟩ (m_isWrong l dC dI _ (b 0) 0 [.ref (b 1), .int 0, .int 0, .ref (b 2), .ref (b 3), .ref (b 4), .ref (b 5), .int 0, .int 0, .ref (b 6)] 1) (cwV 1 hts gX6_weather_X6_isWrong rfl rfl rfl (by decide +kernel) ⟨Nat.le_of_ble_eq_true rfl, Nat.le_of_ble_eq_true rfl⟩) ⟨fb_PW, va_recv hK hP (ci := 10) (q0 := 0) rfl rfl, fun U hU hW => ⟨rfl, PW.give hP hK hD [0] [] rfl rfl rfl rfl hU hW⟩⟩ rfl rfl hl.1 rfl (lv_room (Nat.le_of_ble_eq_true rfl)) dX6_weather_98 ⟨(Nat.le_of_ble_eq_true rfl), (Nat.le_of_ble_eq_true rfl)⟩) hS (fun q _ h => hFc q h) hFc (fun r26 u t H locs ht hvm hw27 hB hz1 hk1 hS => ?_)
          obtain ⟨hP, hD, hK⟩ := aftQ [0] [1] hP hK hD rfl (wr := [((b 1), .inl (c2, 21, .inr (.inr (.inr (.inr dg)))))]) rfl rfl (by decide) hFc hB ht hvm hk1
          have hP : va_P (dC, dI) vwCl (([((b 1), .inl (c2, 21, .inr (.inr (.inr (.inr dg))))), ((b 0), .inr (10, [.int 1, .ref (b 1), .int 0, .int 0, .ref (b 2), .ref (b 3), .ref (b 4), .ref (b 5), .int 0, .int 0, .ref (b 6)]))]) ++ va_pl Ld (fun _ => .inl (cI, 4, .inl wRow))) H := hP
          have hD : va_D A (([((b 1), .inl (c2, 21, .inr (.inr (.inr (.inr dg))))), ((b 0), .inr (10, [.int 1, .ref (b 1), .int 0, .int 0, .ref (b 2), .ref (b 3), .ref (b 4), .ref (b 5), .int 0, .int 0, .ref (b 6)]))]) ++ va_pl Ld (fun _ => .inl (cI, 4, .inl wRow))) := hD
          have hK : va_K (dC, dI) vwCl [(cI, .int), (c2, .array .int)] s := hK
          have hw27 : r26 = bI (0 < 1) := hw27
          obtain rfl : r26 = 1 := hw27.trans (by decide)
          refine lv_if_eq (tgt := 106) hx hb dX6_weather_101 (by decide) (fun cx => by first | exact absurd cx (by decide) | exact absurd (by decide) cx) (fun _ => ?_)
          refine lv_iconst (v := 0) hx hb dX6_weather_104 (by decide) ?_
          refine W.widen (k := 1) (n := 4) (Nat.le_of_ble_eq_true rfl) (Nat.le_of_ble_eq_true rfl) ?_
          exact W.iret (v := 0) hx hb hr (fun t ht hW => ⟨⟨0, (1, [.ref (b 1), .int 0, .int 0, .ref (b 2), .ref (b 3), .ref (b 4), .ref (b 5), .int 0, .int 0, .ref (b 6)]), rfl, Or.inr ⟨by omega, rfl⟩, BW.endP hP hK hD [1] [] rfl rfl rfl ht hW⟩, hS.F ht⟩) hS.2.2 dX6_weather_105
        · skip
          have g28 : (0 : Int) ≤ p3.toInt ∧ p3.toInt ≤ (30 : Int) := bI_t hw23 c24
          have zg28 : r22 = 1 := bI_t1 hw23 g28
          refine lv_iload hx hb dX6_weather_52 (lv_at hl 5 rfl) ?_
          refine lv_i2l hx hb dX6_weather_54 rfl ?_
          refine lv_lconst (v := 0) hx hb dX6_weather_55 (by decide) ?_
          refine lv_ldc2 hx hb hown (hts (.constantLong RX6 56 100) (by decide +kernel)) dX6_weather_56 ?_
          refine va_calli (va_runS (As := [.long p4.toInt64, .long 0, .long 100]) (rest := []) ⟨hx, hb, hml, hown, hts⟩ (m_isBetween l p4.toInt64 0 100 (p4.toInt) (0) (100) (Int32.toInt_toInt64 _) (by decide) (by decide)) (va_cwS 3 hts gX6_weather_X6_isBetween rfl rfl rfl (by decide +kernel) ⟨Nat.le_of_ble_eq_true rfl, Nat.le_of_ble_eq_true rfl⟩) ⟨fun a U g mk q => q, fun U hU hW => ⟨rfl, trivial⟩⟩ rfl rfl hl.1 rfl (lv_room (Nat.le_of_ble_eq_true rfl)) dX6_weather_59 ⟨(Nat.le_of_ble_eq_true rfl), (Nat.le_of_ble_eq_true rfl)⟩) hS (fun q _ h => h.elim) (fun q h => h.elim) (fun r29 u t H locs ht hvm hw30 hB hz1 hk1 hS => ?_)
          have hP := kp_P hP hk1
          have hP : va_P (dC, dI) vwCl (([((b 0), .inr (10, [.int 0, .ref (b 1), .int 0, .int 0, .ref (b 2), .ref (b 3), .ref (b 4), .ref (b 5), .int 0, .int 0, .ref (b 6)])), ((b 1), .inl (c2, 21, .inr (.inr (.inr (.inr dg)))))]) ++ va_pl Ld (fun _ => .inl (cI, 4, .inl wRow))) H := hP
          have hD : va_D A (([((b 0), .inr (10, [.int 0, .ref (b 1), .int 0, .int 0, .ref (b 2), .ref (b 3), .ref (b 4), .ref (b 5), .int 0, .int 0, .ref (b 6)])), ((b 1), .inl (c2, 21, .inr (.inr (.inr (.inr dg)))))]) ++ va_pl Ld (fun _ => .inl (cI, 4, .inl wRow))) := hD
          have hw30 : r29 = bI ((0 : Int) ≤ p4.toInt ∧ p4.toInt ≤ (100 : Int)) := hw30
          refine lv_if_eq (tgt := 69) hx hb dX6_weather_62 (by decide) (fun c31 => ?_) (fun c31 => ?_)
          · skip
            have g32 : ¬ ((0 : Int) ≤ p4.toInt ∧ p4.toInt ≤ (100 : Int)) := bI_f hw30 c31
            have zg32 : r29 = 0 := bI_f0 hw30 g32
            refine lv_iconst (v := 0) hx hb dX6_weather_69 (by decide) ?_
            refine lv_istore (lv' := [(6, .int 0), (0, .ref (b 0)), (1, .int p0), (2, .int p1), (3, .int p2), (4, .int p3), (5, .int p4)]) hx hb dX6_weather_70 hl (by decide) rfl (fun ls hl => ?_)
            refine lv_aload_n hx hb dX6_weather_72 rfl (lv_at hl 1 rfl) ?_
            refine lv_iload hx hb dX6_weather_73 (lv_at hl 0 rfl) ?_
            refine lv_if_ne (tgt := 82) hx hb dX6_weather_75 (by decide) (fun cx => by first | exact absurd cx (by decide) | exact absurd (by decide) cx) (fun _ => ?_)
            refine lv_iconst (v := 1) hx hb dX6_weather_78 (by decide) ?_
            refine lv_goto (tgt := 98) hx hb dX6_weather_79 (by decide) ?_
            have hFc := va_free (wc := [((b 0), .inr (10, [.int 0, .ref (b 1), .int 0, .int 0, .ref (b 2), .ref (b 3), .ref (b 4), .ref (b 5), .int 0, .int 0, .ref (b 6)]))]) hD hS hA [0] rfl
            refine va_calli (va_runV (As := [.int 1]) (rest := []) ⟨hx, hb, hml, hown, hts⟩ (m_isWrong l dC dI _ (b 0) 0 [.ref (b 1), .int 0, .int 0, .ref (b 2), .ref (b 3), .ref (b 4), .ref (b 5), .int 0, .int 0, .ref (b 6)] 1) (cwV 1 hts gX6_weather_X6_isWrong rfl rfl rfl (by decide +kernel) ⟨Nat.le_of_ble_eq_true rfl, Nat.le_of_ble_eq_true rfl⟩) ⟨fb_PW, va_recv hK hP (ci := 10) (q0 := 0) rfl rfl, fun U hU hW => ⟨rfl, PW.give hP hK hD [0] [] rfl rfl rfl rfl hU hW⟩⟩ rfl rfl hl.1 rfl (lv_room (Nat.le_of_ble_eq_true rfl)) dX6_weather_98 ⟨(Nat.le_of_ble_eq_true rfl), (Nat.le_of_ble_eq_true rfl)⟩) hS (fun q _ h => hFc q h) hFc (fun r33 u t H locs ht hvm hw34 hB hz1 hk1 hS => ?_)
            obtain ⟨hP, hD, hK⟩ := aftQ [0] [1] hP hK hD rfl (wr := [((b 1), .inl (c2, 21, .inr (.inr (.inr (.inr dg)))))]) rfl rfl (by decide) hFc hB ht hvm hk1
            have hP : va_P (dC, dI) vwCl (([((b 1), .inl (c2, 21, .inr (.inr (.inr (.inr dg))))), ((b 0), .inr (10, [.int 1, .ref (b 1), .int 0, .int 0, .ref (b 2), .ref (b 3), .ref (b 4), .ref (b 5), .int 0, .int 0, .ref (b 6)]))]) ++ va_pl Ld (fun _ => .inl (cI, 4, .inl wRow))) H := hP
            have hD : va_D A (([((b 1), .inl (c2, 21, .inr (.inr (.inr (.inr dg))))), ((b 0), .inr (10, [.int 1, .ref (b 1), .int 0, .int 0, .ref (b 2), .ref (b 3), .ref (b 4), .ref (b 5), .int 0, .int 0, .ref (b 6)]))]) ++ va_pl Ld (fun _ => .inl (cI, 4, .inl wRow))) := hD
            have hK : va_K (dC, dI) vwCl [(cI, .int), (c2, .array .int)] s := hK
            have hw34 : r33 = bI (0 < 1) := hw34
            obtain rfl : r33 = 1 := hw34.trans (by decide)
            refine lv_if_eq (tgt := 106) hx hb dX6_weather_101 (by decide) (fun cx => by first | exact absurd cx (by decide) | exact absurd (by decide) cx) (fun _ => ?_)
            refine lv_iconst (v := 0) hx hb dX6_weather_104 (by decide) ?_
            refine W.widen (k := 1) (n := 4) (Nat.le_of_ble_eq_true rfl) (Nat.le_of_ble_eq_true rfl) ?_
            exact W.iret (v := 0) hx hb hr (fun t ht hW => ⟨⟨0, (1, [.ref (b 1), .int 0, .int 0, .ref (b 2), .ref (b 3), .ref (b 4), .ref (b 5), .int 0, .int 0, .ref (b 6)]), rfl, Or.inr ⟨by omega, rfl⟩, BW.endP hP hK hD [1] [] rfl rfl rfl ht hW⟩, hS.F ht⟩) hS.2.2 dX6_weather_105
          · skip
            have g35 : (0 : Int) ≤ p4.toInt ∧ p4.toInt ≤ (100 : Int) := bI_t hw30 c31
            have zg35 : r29 = 1 := bI_t1 hw30 g35
            refine lv_iconst (v := 1) hx hb dX6_weather_65 (by decide) ?_
            refine lv_goto (tgt := 70) hx hb dX6_weather_66 (by decide) ?_
            refine lv_istore (lv' := [(6, .int 1), (0, .ref (b 0)), (1, .int p0), (2, .int p1), (3, .int p2), (4, .int p3), (5, .int p4)]) hx hb dX6_weather_70 hl (by decide) rfl (fun ls hl => ?_)
            refine lv_aload_n hx hb dX6_weather_72 rfl (lv_at hl 1 rfl) ?_
            refine lv_iload hx hb dX6_weather_73 (lv_at hl 0 rfl) ?_
            refine lv_if_ne (tgt := 82) hx hb dX6_weather_75 (by decide) (fun _ => ?_) (fun cx => by first | exact absurd (by decide) cx | exact absurd cx (by decide))
            refine lv_aload_n hx hb dX6_weather_82 rfl (lv_at hl 1 rfl) ?_
            refine va_get (D := (dC, dI)) (ci := 10) (v := .int 0) (C := RX6) (T := TX6) (N := 11) hx hb hts (by decide +kernel) hown hK hP 0 rfl rfl 2 (by decide) (hts (.fieldLink RX6 58 "SnowpalaceModel" "hour" "I") (by decide +kernel)) (fun _ h9 => h9) rfl dX6_weather_83 ?_
            refine lv_bipush (v := 24) hx hb dX6_weather_86 (by decide) ?_
            refine lv_iload_n hx hb dX6_weather_88 rfl (lv_at hl 2 rfl) ?_
            refine lv_imul hx hb dX6_weather_89 ?_
            refine lv_topi (fun v36 e37 => ?_)
            refine lv_icmp_le (tgt := 97) hx hb dX6_weather_90 (by decide) (fun c38 => ?_) (fun c38 => ?_)
            · skip
              refine lv_iconst (v := 0) hx hb dX6_weather_97 (by decide) ?_
              have hFc := va_free (wc := [((b 0), .inr (10, [.int 0, .ref (b 1), .int 0, .int 0, .ref (b 2), .ref (b 3), .ref (b 4), .ref (b 5), .int 0, .int 0, .ref (b 6)]))]) hD hS hA [0] rfl
              refine va_calli (va_runV (As := [.int 0]) (rest := []) ⟨hx, hb, hml, hown, hts⟩ (m_isWrong l dC dI _ (b 0) 0 [.ref (b 1), .int 0, .int 0, .ref (b 2), .ref (b 3), .ref (b 4), .ref (b 5), .int 0, .int 0, .ref (b 6)] 0) (cwV 1 hts gX6_weather_X6_isWrong rfl rfl rfl (by decide +kernel) ⟨Nat.le_of_ble_eq_true rfl, Nat.le_of_ble_eq_true rfl⟩) ⟨fb_PW, va_recv hK hP (ci := 10) (q0 := 0) rfl rfl, fun U hU hW => ⟨rfl, PW.give hP hK hD [0] [] rfl rfl rfl rfl hU hW⟩⟩ rfl rfl hl.1 rfl (lv_room (Nat.le_of_ble_eq_true rfl)) dX6_weather_98 ⟨(Nat.le_of_ble_eq_true rfl), (Nat.le_of_ble_eq_true rfl)⟩) hS (fun q _ h => hFc q h) hFc (fun r39 u t H locs ht hvm hw40 hB hz1 hk1 hS => ?_)
              obtain ⟨hP, hD, hK⟩ := aftQ [0] [1] hP hK hD rfl (wr := [((b 1), .inl (c2, 21, .inr (.inr (.inr (.inr dg)))))]) rfl rfl (by decide) hFc hB ht hvm hk1
              have hP : va_P (dC, dI) vwCl (([((b 1), .inl (c2, 21, .inr (.inr (.inr (.inr dg))))), ((b 0), .inr (10, [.int 0, .ref (b 1), .int 0, .int 0, .ref (b 2), .ref (b 3), .ref (b 4), .ref (b 5), .int 0, .int 0, .ref (b 6)]))]) ++ va_pl Ld (fun _ => .inl (cI, 4, .inl wRow))) H := hP
              have hD : va_D A (([((b 1), .inl (c2, 21, .inr (.inr (.inr (.inr dg))))), ((b 0), .inr (10, [.int 0, .ref (b 1), .int 0, .int 0, .ref (b 2), .ref (b 3), .ref (b 4), .ref (b 5), .int 0, .int 0, .ref (b 6)]))]) ++ va_pl Ld (fun _ => .inl (cI, 4, .inl wRow))) := hD
              have hK : va_K (dC, dI) vwCl [(cI, .int), (c2, .array .int)] s := hK
              have hw40 : r39 = bI (0 < 0) := hw40
              obtain rfl : r39 = 0 := hw40.trans (by decide)
              refine lv_if_eq (tgt := 106) hx hb dX6_weather_101 (by decide) (fun _ => ?_) (fun cx => by first | exact absurd (by decide) cx | exact absurd cx (by decide))
              refine lv_aload_n hx hb dX6_weather_106 rfl (lv_at hl 1 rfl) ?_
              refine va_get (D := (dC, dI)) (ci := 10) (v := .ref (b 1)) (C := RX6) (T := TX6) (N := 11) hx hb hts (by decide +kernel) hown hK hP 1 rfl rfl 1 (by decide) (hts (.fieldLink RX6 15 "SnowpalaceModel" "days" "[[I") (by decide +kernel)) (fun _ h9 => h9) rfl dX6_weather_107 ?_
              refine lv_iload_n hx hb dX6_weather_110 rfl (lv_at hl 2 rfl) ?_
              have hw20 : 0 ≤ p0.toInt ∧ p0.toInt ≤ 20 := by constructor <;> omega
              obtain ⟨y9, hy9, hL9⟩ := hDG (p0.toNatClampNeg) (clI (inI hw20.1 (by have := hw20.2; omega)))
              refine my_ald2 (D := (dC, dI)) hx hb hK hP 0 1 rfl rfl (inI hw20.1 (by have := hw20.2; omega)) (y := y9) hy9 dX6_weather_111 ?_
              obtain ⟨k9, hk9⟩ := va_pl_get (X := [((b 1), .inl (c2, 21, .inr (.inr (.inr (.inr dg))))), ((b 0), .inr (10, [.int 0, .ref (b 1), .int 0, .int 0, .ref (b 2), .ref (b 3), .ref (b 4), .ref (b 5), .int 0, .int 0, .ref (b 6)]))]) (f := fun _ => .inl (cI, 4, .inl wRow)) hL9
              refine lv_iconst (v := 0) hx hb dX6_weather_112 (by decide) ?_
              refine va_iald (D := (dC, dI)) hx hb hK hP k9 0 hk9 rfl (by unfold vp_in; decide) dX6_weather_113 ?_
              refine lv_topi (fun v41 e42 => ?_)
              obtain rfl : v41 = ((-150) : Int32) := e42.trans rfl
              refine lv_istore (lv' := [(7, .int (-150)), (6, .int 1), (0, .ref (b 0)), (1, .int p0), (2, .int p1), (3, .int p2), (4, .int p3), (5, .int p4)]) hx hb dX6_weather_114 hl (by decide) rfl (fun ls hl => ?_)
              refine lv_aload_n hx hb dX6_weather_116 rfl (lv_at hl 2 rfl) ?_
              refine va_get (D := (dC, dI)) (ci := 10) (v := .ref (b 1)) (C := RX6) (T := TX6) (N := 11) hx hb hts (by decide +kernel) hown hK hP 1 rfl rfl 1 (by decide) (hts (.fieldLink RX6 15 "SnowpalaceModel" "days" "[[I") (by decide +kernel)) (fun _ h9 => h9) rfl dX6_weather_117 ?_
              refine lv_iload_n hx hb dX6_weather_120 rfl (lv_at hl 3 rfl) ?_
              refine lv_iconst (v := 4) hx hb dX6_weather_121 (by decide) ?_
              have hP := hP.sub (ws' := [((b 1), .inl (c2, 21, .inr (.inr (.inr (.inr dg))))), ((b 0), .inr (10, [.int 0, .ref (b 1), .int 0, .int 0, .ref (b 2), .ref (b 3), .ref (b 4), .ref (b 5), .int 0, .int 0, .ref (b 6)]))]) [0, 1] rfl
              have hD := hD.sub (ws' := [((b 1), .inl (c2, 21, .inr (.inr (.inr (.inr dg))))), ((b 0), .inr (10, [.int 0, .ref (b 1), .int 0, .int 0, .ref (b 2), .ref (b 3), .ref (b 4), .ref (b 5), .int 0, .int 0, .ref (b 6)]))]) [0, 1] rfl rfl
              have hP : va_P (dC, dI) vwCl ([((b 1), .inl (c2, 21, .inr (.inr (.inr (.inr dg))))), ((b 0), .inr (10, [.int 0, .ref (b 1), .int 0, .int 0, .ref (b 2), .ref (b 3), .ref (b 4), .ref (b 5), .int 0, .int 0, .ref (b 6)]))]) H := hP
              have hD : va_D A ([((b 1), .inl (c2, 21, .inr (.inr (.inr (.inr dg))))), ((b 0), .inr (10, [.int 0, .ref (b 1), .int 0, .int 0, .ref (b 2), .ref (b 3), .ref (b 4), .ref (b 5), .int 0, .int 0, .ref (b 6)]))]) := hD
              refine va_newa (D := (dC, dI)) (atype := .int) (a0 := (4, .inl (fun _ => 0))) hx hb (hts (.arrayClass .int) (by decide +kernel)) (ty := .int) rfl hK hP hD hS hA (N' := 4) (fun _ => rfl) (by decide) (by decide) (Nat.le_of_ble_eq_true rfl) (Nat.le_of_ble_eq_true rfl) (Nat.le_of_ble_eq_true rfl) dX6_weather_122 (fun q43 cA44 H hK hP hD hS => ?_)
              have eq43 : cI = cA44 := K_eq hK 0 2 rfl rfl
              subst eq43
              have hK : va_K (dC, dI) vwCl [(cI, .int), (c2, .array .int)] s := hK.sub [0, 1] rfl
              have hP : va_P (dC, dI) vwCl ([((b 1), .inl (c2, 21, .inr (.inr (.inr (.inr dg))))), ((b 0), .inr (10, [.int 0, .ref (b 1), .int 0, .int 0, .ref (b 2), .ref (b 3), .ref (b 4), .ref (b 5), .int 0, .int 0, .ref (b 6)])), (q43, .inl (cI, 4, .inl (fun _ => 0)))]) H := hP
              have hD : va_D A ([((b 1), .inl (c2, 21, .inr (.inr (.inr (.inr dg))))), ((b 0), .inr (10, [.int 0, .ref (b 1), .int 0, .int 0, .ref (b 2), .ref (b 3), .ref (b 4), .ref (b 5), .int 0, .int 0, .ref (b 6)])), (q43, .inl (cI, 4, .inl (fun _ => 0)))]) := hD
              refine lv_dup hx hb dX6_weather_124 rfl ?_
              refine lv_iconst (v := 0) hx hb dX6_weather_125 (by decide) ?_
              refine lv_iload_n hx hb dX6_weather_126 rfl (lv_at hl 4 rfl) ?_
              refine va_iast (D := (dC, dI)) hx hb hK hP hD hS 2 0 rfl rfl (by unfold vp_in; decide) dX6_weather_127 (fun H locs hP hD hS => ?_)
              have hP : va_P (dC, dI) vwCl ([((b 1), .inl (c2, 21, .inr (.inr (.inr (.inr dg))))), ((b 0), .inr (10, [.int 0, .ref (b 1), .int 0, .int 0, .ref (b 2), .ref (b 3), .ref (b 4), .ref (b 5), .int 0, .int 0, .ref (b 6)])), (q43, .inl (cI, 4, .inl (upd (fun _ => 0) (0 : Int32).toNatClampNeg p1)))]) H := hP
              have hD : va_D A ([((b 1), .inl (c2, 21, .inr (.inr (.inr (.inr dg))))), ((b 0), .inr (10, [.int 0, .ref (b 1), .int 0, .int 0, .ref (b 2), .ref (b 3), .ref (b 4), .ref (b 5), .int 0, .int 0, .ref (b 6)])), (q43, .inl (cI, 4, .inl (upd (fun _ => 0) (0 : Int32).toNatClampNeg p1)))]) := hD
              refine lv_dup hx hb dX6_weather_128 rfl ?_
              refine lv_iconst (v := 1) hx hb dX6_weather_129 (by decide) ?_
              refine lv_iload_n hx hb dX6_weather_130 rfl (lv_at hl 5 rfl) ?_
              refine va_iast (D := (dC, dI)) hx hb hK hP hD hS 2 0 rfl rfl (by unfold vp_in; decide) dX6_weather_131 (fun H locs hP hD hS => ?_)
              have hP : va_P (dC, dI) vwCl ([((b 1), .inl (c2, 21, .inr (.inr (.inr (.inr dg))))), ((b 0), .inr (10, [.int 0, .ref (b 1), .int 0, .int 0, .ref (b 2), .ref (b 3), .ref (b 4), .ref (b 5), .int 0, .int 0, .ref (b 6)])), (q43, .inl (cI, 4, .inl (upd (upd (fun _ => 0) (0 : Int32).toNatClampNeg p1) (1 : Int32).toNatClampNeg p2)))]) H := hP
              have hD : va_D A ([((b 1), .inl (c2, 21, .inr (.inr (.inr (.inr dg))))), ((b 0), .inr (10, [.int 0, .ref (b 1), .int 0, .int 0, .ref (b 2), .ref (b 3), .ref (b 4), .ref (b 5), .int 0, .int 0, .ref (b 6)])), (q43, .inl (cI, 4, .inl (upd (upd (fun _ => 0) (0 : Int32).toNatClampNeg p1) (1 : Int32).toNatClampNeg p2)))]) := hD
              refine lv_dup hx hb dX6_weather_132 rfl ?_
              refine lv_iconst (v := 2) hx hb dX6_weather_133 (by decide) ?_
              refine lv_iload hx hb dX6_weather_134 (lv_at hl 6 rfl) ?_
              refine va_iast (D := (dC, dI)) hx hb hK hP hD hS 2 0 rfl rfl (by unfold vp_in; decide) dX6_weather_136 (fun H locs hP hD hS => ?_)
              have hP : va_P (dC, dI) vwCl ([((b 1), .inl (c2, 21, .inr (.inr (.inr (.inr dg))))), ((b 0), .inr (10, [.int 0, .ref (b 1), .int 0, .int 0, .ref (b 2), .ref (b 3), .ref (b 4), .ref (b 5), .int 0, .int 0, .ref (b 6)])), (q43, .inl (cI, 4, .inl (upd (upd (upd (fun _ => 0) (0 : Int32).toNatClampNeg p1) (1 : Int32).toNatClampNeg p2) (2 : Int32).toNatClampNeg p3)))]) H := hP
              have hD : va_D A ([((b 1), .inl (c2, 21, .inr (.inr (.inr (.inr dg))))), ((b 0), .inr (10, [.int 0, .ref (b 1), .int 0, .int 0, .ref (b 2), .ref (b 3), .ref (b 4), .ref (b 5), .int 0, .int 0, .ref (b 6)])), (q43, .inl (cI, 4, .inl (upd (upd (upd (fun _ => 0) (0 : Int32).toNatClampNeg p1) (1 : Int32).toNatClampNeg p2) (2 : Int32).toNatClampNeg p3)))]) := hD
              refine lv_dup hx hb dX6_weather_137 rfl ?_
              refine lv_iconst (v := 3) hx hb dX6_weather_138 (by decide) ?_
              refine lv_iload hx hb dX6_weather_139 (lv_at hl 7 rfl) ?_
              refine va_iast (D := (dC, dI)) hx hb hK hP hD hS 2 0 rfl rfl (by unfold vp_in; decide) dX6_weather_141 (fun H locs hP hD hS => ?_)
              have hP : va_P (dC, dI) vwCl ([((b 1), .inl (c2, 21, .inr (.inr (.inr (.inr dg))))), ((b 0), .inr (10, [.int 0, .ref (b 1), .int 0, .int 0, .ref (b 2), .ref (b 3), .ref (b 4), .ref (b 5), .int 0, .int 0, .ref (b 6)])), (q43, .inl (cI, 4, .inl (upd (upd (upd (upd (fun _ => 0) (0 : Int32).toNatClampNeg p1) (1 : Int32).toNatClampNeg p2) (2 : Int32).toNatClampNeg p3) (3 : Int32).toNatClampNeg p4)))]) H := hP
              have hD : va_D A ([((b 1), .inl (c2, 21, .inr (.inr (.inr (.inr dg))))), ((b 0), .inr (10, [.int 0, .ref (b 1), .int 0, .int 0, .ref (b 2), .ref (b 3), .ref (b 4), .ref (b 5), .int 0, .int 0, .ref (b 6)])), (q43, .inl (cI, 4, .inl (upd (upd (upd (upd (fun _ => 0) (0 : Int32).toNatClampNeg p1) (1 : Int32).toNatClampNeg p2) (2 : Int32).toNatClampNeg p3) (3 : Int32).toNatClampNeg p4)))]) := hD
              refine my_ast2 (D := (dC, dI)) hx hb hM.2.2.2.2.2.1 hK hP hD hS 0 1 2 0 rfl rfl rfl rfl (inI hw20.1 (by have := hw20.2; omega)) dX6_weather_142 (fun H locs hP hD hS => ?_)
              have hP : va_P (dC, dI) vwCl ([((b 1), .inl (c2, 21, .inr (.inr (.inr (.inr (va_up dg p0.toNatClampNeg (some q43))))))), ((b 0), .inr (10, [.int 0, .ref (b 1), .int 0, .int 0, .ref (b 2), .ref (b 3), .ref (b 4), .ref (b 5), .int 0, .int 0, .ref (b 6)])), (q43, .inl (cI, 4, .inl (upd (upd (upd (upd (fun _ => 0) (0 : Int32).toNatClampNeg p1) (1 : Int32).toNatClampNeg p2) (2 : Int32).toNatClampNeg p3) (3 : Int32).toNatClampNeg p4)))]) H := hP
              have hD : va_D A ([((b 1), .inl (c2, 21, .inr (.inr (.inr (.inr (va_up dg p0.toNatClampNeg (some q43))))))), ((b 0), .inr (10, [.int 0, .ref (b 1), .int 0, .int 0, .ref (b 2), .ref (b 3), .ref (b 4), .ref (b 5), .int 0, .int 0, .ref (b 6)])), (q43, .inl (cI, 4, .inl (upd (upd (upd (upd (fun _ => 0) (0 : Int32).toNatClampNeg p1) (1 : Int32).toNatClampNeg p2) (2 : Int32).toNatClampNeg p3) (3 : Int32).toNatClampNeg p4)))]) := hD
              refine lv_iload hx hb dX6_weather_143 (lv_at hl 0 rfl) ?_
              refine W.widen (k := 1) (n := 4) (Nat.le_of_ble_eq_true rfl) (Nat.le_of_ble_eq_true rfl) ?_
              exact W.iret (v := (-150)) hx hb hr (fun t ht hW => ⟨⟨(-150), (0, [.ref (b 1), .int 0, .int 0, .ref (b 2), .ref (b 3), .ref (b 4), .ref (b 5), .int 0, .int 0, .ref (b 6)]), rfl, Or.inl ⟨by omega, rfl, rfl⟩, BW.end hP hK hD [1] [] rfl rfl rfl rfl ht hW⟩, hS.F ht⟩) hS.2.2 dX6_weather_145
            · skip
              exact (c38 (by rw [e37]; exact d24 (by omega) (by omega))).elim

