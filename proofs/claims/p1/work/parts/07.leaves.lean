set_option maxHeartbeats 4000000 in
set_option maxRecDepth 100000 in
/-- isWithin -/
theorem k_isWithin (l : Launch)  (x : Int32) (lo : Int32) (hi : Int32) (lo2 hi2 : Int) (hlo : lo.toInt = lo2) (hhi : hi.toInt = hi2) : Met l yX3_isWithin wsX3_isWithin ({ frames := 0, cells := 0, slots := 0, locals := 0 }) (va_Pc [.int x, .int lo, .int hi] (fun _ => True)) (va_Qi (fun (r : Int32) (u : Unit) => r = bI (lo2 ≤ x.toInt ∧ x.toInt ≤ hi2)) (fun (u : Unit) t => True) (fun _ => False)) 0 0 (fun _ => False) := by
  refine Met.ofW (cc := cX3_isWithin) (maxL := 3) (ret := (some .boolean)) (by decide +kernel) rfl ?_
  intro p e s m args below meth c s₁ B hml hv
  obtain ⟨rfl, -⟩ := hv
  have hx := B.exec
  have hb := B.bytes
  have hr := B.returns
  have hts := atoms_spec (ws := wsX3_isWithin) B.pre
  have hown : s.vm.findClass RX3 = some m.cls := findClass_of_methodNamed B.named
  have hlocks := B.notSynchronized
  have hS : va_S (fun _ => False) s.heap s.heap [] := va_S.rf
  have hl := lv_entry ([.int x, .int lo, .int hi]) (n := 3) (Nat.le_of_ble_eq_true rfl)
  rw [lg_entry_eq]
  generalize (lg_sl ([.int x, .int lo, .int hi]) ++ List.replicate (3 - (lg_sl ([.int x, .int lo, .int hi])).length) Slot.unset).toArray = ls at hl ⊢
  have hl : lv_has ls 3 [(0, .int x), (1, .int lo), (2, .int hi)] := hl
  refine lv_iload_n hx hb dX3_isWithin_0 rfl (lv_at hl 0 rfl) ?_
  refine lv_iload_n hx hb dX3_isWithin_1 rfl (lv_at hl 1 rfl) ?_
  refine lv_icmp_lt (tgt := 14) hx hb dX3_isWithin_2 (by decide) (fun c1 => ?_) (fun c1 => ?_)
  · skip
    refine lv_iconst (v := 0) hx hb dX3_isWithin_14 (by decide) ?_
    refine W.widen (k := 0) (n := 0) (Nat.le_of_ble_eq_true rfl) (Nat.le_of_ble_eq_true rfl) ?_
    exact W.zret (v := 0) (ty := .boolean) hx hb hr rfl (fun t ht hW => ⟨⟨0, (), rfl, (by first | exact isW_1 hlo hhi ‹_› ‹_› | exact isW_0 hlo hhi (Or.inl ‹_›) | exact isW_0 hlo hhi (Or.inr ‹_›)), trivial⟩, hS.F ht⟩) hS.2.2 dX3_isWithin_15
  · skip
    refine lv_iload_n hx hb dX3_isWithin_5 rfl (lv_at hl 0 rfl) ?_
    refine lv_iload_n hx hb dX3_isWithin_6 rfl (lv_at hl 2 rfl) ?_
    refine lv_icmp_gt (tgt := 14) hx hb dX3_isWithin_7 (by decide) (fun c2 => ?_) (fun c2 => ?_)
    · skip
      refine lv_iconst (v := 0) hx hb dX3_isWithin_14 (by decide) ?_
      refine W.widen (k := 0) (n := 0) (Nat.le_of_ble_eq_true rfl) (Nat.le_of_ble_eq_true rfl) ?_
      exact W.zret (v := 0) (ty := .boolean) hx hb hr rfl (fun t ht hW => ⟨⟨0, (), rfl, (by first | exact isW_1 hlo hhi ‹_› ‹_› | exact isW_0 hlo hhi (Or.inl ‹_›) | exact isW_0 hlo hhi (Or.inr ‹_›)), trivial⟩, hS.F ht⟩) hS.2.2 dX3_isWithin_15
    · skip
      refine lv_iconst (v := 1) hx hb dX3_isWithin_10 (by decide) ?_
      refine lv_goto (tgt := 15) hx hb dX3_isWithin_11 (by decide) ?_
      refine W.widen (k := 0) (n := 0) (Nat.le_of_ble_eq_true rfl) (Nat.le_of_ble_eq_true rfl) ?_
      exact W.zret (v := 1) (ty := .boolean) hx hb hr rfl (fun t ht hW => ⟨⟨1, (), rfl, (by first | exact isW_1 hlo hhi ‹_› ‹_› | exact isW_0 hlo hhi (Or.inl ‹_›) | exact isW_0 hlo hhi (Or.inr ‹_›)), trivial⟩, hS.F ht⟩) hS.2.2 dX3_isWithin_15

set_option maxHeartbeats 4000000 in
set_option maxRecDepth 100000 in
/-- no site has a number -/
theorem k_numberedSite (l : Launch) (dC : Nat → ClassId) (dI : Nat → Nat → Nat) (sz : Nat) (h0 q1 q2 q3 : Nat) (site : Int32)  : Met l yX3_numberedSite wsX3_numberedSite ({ frames := 1, cells := 0, slots := 0, locals := 22 }) (va_Pc [.ref h0, .int site] (PW dC dI ([(h0, .inr (7, [.ref q1, .ref q2, .ref q3, .int 0, .int 0, .int 0, .int 0, .int 0, .int 0, .int 0]))]) [] sz)) (va_Qq (fun (r : Option Nat) (u : Unit) => r = none) (fun (u : Unit) t => True) (fun _ => False)) 0 0 (fun _ => False) := by
  refine Met.ofW (cc := cX3_numberedSite) (maxL := 2) (ret := (some (.object "Snowpalace$Site"))) (by decide +kernel) rfl ?_
  intro p e s m args below meth c s₁ B hml hv
  obtain ⟨rfl, hsz, hP, hK, hD0⟩ := hv
  have hx := B.exec
  have hb := B.bytes
  have hr := B.returns
  have hts := atoms_spec (ws := wsX3_numberedSite) B.pre
  have hown : s.vm.findClass RX3 = some m.cls := findClass_of_methodNamed B.named
  have hlocks := B.notSynchronized
  subst hsz
  have hD := hD0
  have hS : va_S (fun _ => False) s.heap s.heap [] := va_S.rf
  have hl := lv_entry ([.ref h0, .int site]) (n := 2) (Nat.le_of_ble_eq_true rfl)
  rw [lg_entry_eq]
  generalize (lg_sl ([.ref h0, .int site]) ++ List.replicate (2 - (lg_sl ([.ref h0, .int site])).length) Slot.unset).toArray = ls at hl ⊢
  have hl : lv_has ls 2 [(0, .ref h0), (1, .int site)] := hl
  refine lv_iload_n hx hb dX3_numberedSite_0 rfl (lv_at hl 1 rfl) ?_
  refine lv_iconst (v := 0) hx hb dX3_numberedSite_1 (by decide) ?_
  refine lv_aload_n hx hb dX3_numberedSite_2 rfl (lv_at hl 0 rfl) ?_
  refine va_get (D := (dC, dI)) (ci := 7) (v := .int 0) (C := RX3) (T := TX3) (N := 10) hx hb hts (by decide +kernel) hown hK hP 0 rfl rfl 3 (by decide) (hts (.fieldLink RX3 29 "Snowpalace" "siteCount" "I") (by decide +kernel)) (fun _ h9 => h9) rfl dX3_numberedSite_3 ?_
  refine lv_iconst (v := 1) hx hb dX3_numberedSite_6 (by decide) ?_
  refine lv_isub hx hb dX3_numberedSite_7 ?_
  refine lv_topi (fun v1 e2 => ?_)
  obtain rfl : v1 = ((-1) : Int32) := e2.trans (by decide)
  refine va_calli (va_runS (As := [.int site, .int 0, .int (-1)]) (rest := []) ⟨hx, hb, hml, hown, hts⟩ (k_isWithin l site 0 (-1) (0) (-1) (by decide) (by decide)) (va_cwS 3 hts gX3_numberedSite_X3_isWithin rfl rfl rfl (by decide +kernel) ⟨Nat.le_of_ble_eq_true rfl, Nat.le_of_ble_eq_true rfl⟩) ⟨fun a U g mk q => q, fun U hU hW => ⟨rfl, trivial⟩⟩ rfl rfl hl.1 rfl (lv_room (Nat.le_of_ble_eq_true rfl)) dX3_numberedSite_8 ⟨(Nat.le_of_ble_eq_true rfl), (Nat.le_of_ble_eq_true rfl)⟩) hS (fun q _ h => h.elim) (fun q h => h.elim) (fun r3 u t H locs ht hvm hw4 hB hz1 hk1 hS => ?_)
  have hP := kp_P hP hk1
  have hP : va_P (dC, dI) vwCl ([(h0, .inr (7, [.ref q1, .ref q2, .ref q3, .int 0, .int 0, .int 0, .int 0, .int 0, .int 0, .int 0]))]) H := hP
  have hD : va_D (fun _ => True) ([(h0, .inr (7, [.ref q1, .ref q2, .ref q3, .int 0, .int 0, .int 0, .int 0, .int 0, .int 0, .int 0]))]) := hD
  have hw4 : r3 = bI ((0 : Int) ≤ site.toInt ∧ site.toInt ≤ (-1 : Int)) := hw4
  refine lv_if_eq (tgt := 23) hx hb dX3_numberedSite_11 (by decide) (fun c5 => ?_) (fun c5 => ?_)
  · skip
    have g6 : ¬ ((0 : Int) ≤ site.toInt ∧ site.toInt ≤ (-1 : Int)) := bI_f hw4 c5
    have zg6 : r3 = 0 := bI_f0 hw4 g6
    refine lv_null hx hb dX3_numberedSite_23 ?_
    refine W.widen (k := 0) (n := 0) (Nat.le_of_ble_eq_true rfl) (Nat.le_of_ble_eq_true rfl) ?_
    exact W.aret (v := .null) hx hb hr (Or.inl ⟨_, rfl⟩) (Or.inl rfl) (fun t ht hW => ⟨⟨none, (), rfl, rfl, trivial⟩, hS.F ht⟩) hS.2.2 dX3_numberedSite_24
  · skip
    have g7 : (0 : Int) ≤ site.toInt ∧ site.toInt ≤ (-1 : Int) := bI_t hw4 c5
    have zg7 : r3 = 1 := bI_t1 hw4 g7
    exact absurd (And.intro (‹_ ∧ _›).1 (‹_ ∧ _›).2) (by omega)

set_option maxHeartbeats 4000000 in
set_option maxRecDepth 100000 in
/-- no place is there -/
theorem k_placedSite (l : Launch) (dC : Nat → ClassId) (dI : Nat → Nat → Nat) (sz : Nat) (h0 q1 q2 q3 : Nat) (site : Int32) (x : Int32) (y : Int32)  : Met l yX3_placedSite wsX3_placedSite ({ frames := 2, cells := 0, slots := 0, locals := 43 }) (va_Pc [.ref h0, .int site, .int x, .int y] (PW dC dI ([(h0, .inr (7, [.ref q1, .ref q2, .ref q3, .int 0, .int 0, .int 0, .int 0, .int 0, .int 0, .int 0]))]) [] sz)) (va_Qq (fun (r : Option Nat) (u : Unit) => r = none) (fun (u : Unit) t => True) (fun _ => False)) 0 0 (fun _ => False) := by
  refine Met.ofW (cc := cX3_placedSite) (maxL := 4) (ret := (some (.object "Snowpalace$Site"))) (by decide +kernel) rfl ?_
  intro p e s m args below meth c s₁ B hml hv
  obtain ⟨rfl, hsz, hP, hK, hD0⟩ := hv
  have hx := B.exec
  have hb := B.bytes
  have hr := B.returns
  have hts := atoms_spec (ws := wsX3_placedSite) B.pre
  have hown : s.vm.findClass RX3 = some m.cls := findClass_of_methodNamed B.named
  have hlocks := B.notSynchronized
  subst hsz
  have hD := hD0
  have hS : va_S (fun _ => False) s.heap s.heap [] := va_S.rf
  have hl := lv_entry ([.ref h0, .int site, .int x, .int y]) (n := 4) (Nat.le_of_ble_eq_true rfl)
  rw [lg_entry_eq]
  generalize (lg_sl ([.ref h0, .int site, .int x, .int y]) ++ List.replicate (4 - (lg_sl ([.ref h0, .int site, .int x, .int y])).length) Slot.unset).toArray = ls at hl ⊢
  have hl : lv_has ls 4 [(0, .ref h0), (1, .int site), (2, .int x), (3, .int y)] := hl
  refine lv_iload_n hx hb dX3_placedSite_0 rfl (lv_at hl 2 rfl) ?_
  refine lv_iconst (v := 0) hx hb dX3_placedSite_1 (by decide) ?_
  refine lv_bipush (v := 7) hx hb dX3_placedSite_2 (by decide) ?_
  refine va_calli (va_runS (As := [.int x, .int 0, .int 7]) (rest := []) ⟨hx, hb, hml, hown, hts⟩ (k_isWithin l x 0 7 (0) (7) (by decide) (by decide)) (va_cwS 3 hts gX3_placedSite_X3_isWithin rfl rfl rfl (by decide +kernel) ⟨Nat.le_of_ble_eq_true rfl, Nat.le_of_ble_eq_true rfl⟩) ⟨fun a U g mk q => q, fun U hU hW => ⟨rfl, trivial⟩⟩ rfl rfl hl.1 rfl (lv_room (Nat.le_of_ble_eq_true rfl)) dX3_placedSite_4 ⟨(Nat.le_of_ble_eq_true rfl), (Nat.le_of_ble_eq_true rfl)⟩) hS (fun q _ h => h.elim) (fun q h => h.elim) (fun r1 u t H locs ht hvm hw2 hB hz1 hk1 hS => ?_)
  have hP := kp_P hP hk1
  have hP : va_P (dC, dI) vwCl ([(h0, .inr (7, [.ref q1, .ref q2, .ref q3, .int 0, .int 0, .int 0, .int 0, .int 0, .int 0, .int 0]))]) H := hP
  have hD : va_D (fun _ => True) ([(h0, .inr (7, [.ref q1, .ref q2, .ref q3, .int 0, .int 0, .int 0, .int 0, .int 0, .int 0, .int 0]))]) := hD
  have hw2 : r1 = bI ((0 : Int) ≤ x.toInt ∧ x.toInt ≤ (7 : Int)) := hw2
  refine lv_if_eq (tgt := 27) hx hb dX3_placedSite_7 (by decide) (fun c3 => ?_) (fun c3 => ?_)
  · skip
    have g4 : ¬ ((0 : Int) ≤ x.toInt ∧ x.toInt ≤ (7 : Int)) := bI_f hw2 c3
    have zg4 : r1 = 0 := bI_f0 hw2 g4
    refine lv_null hx hb dX3_placedSite_27 ?_
    refine W.widen (k := 0) (n := 0) (Nat.le_of_ble_eq_true rfl) (Nat.le_of_ble_eq_true rfl) ?_
    exact W.aret (v := .null) hx hb hr (Or.inl ⟨_, rfl⟩) (Or.inl rfl) (fun t ht hW => ⟨⟨none, (), rfl, rfl, trivial⟩, hS.F ht⟩) hS.2.2 dX3_placedSite_28
  · skip
    have g5 : (0 : Int) ≤ x.toInt ∧ x.toInt ≤ (7 : Int) := bI_t hw2 c3
    have zg5 : r1 = 1 := bI_t1 hw2 g5
    refine lv_iload_n hx hb dX3_placedSite_10 rfl (lv_at hl 3 rfl) ?_
    refine lv_iconst (v := 0) hx hb dX3_placedSite_11 (by decide) ?_
    refine lv_iconst (v := 5) hx hb dX3_placedSite_12 (by decide) ?_
    refine va_calli (va_runS (As := [.int y, .int 0, .int 5]) (rest := []) ⟨hx, hb, hml, hown, hts⟩ (k_isWithin l y 0 5 (0) (5) (by decide) (by decide)) (va_cwS 3 hts gX3_placedSite_X3_isWithin rfl rfl rfl (by decide +kernel) ⟨Nat.le_of_ble_eq_true rfl, Nat.le_of_ble_eq_true rfl⟩) ⟨fun a U g mk q => q, fun U hU hW => ⟨rfl, trivial⟩⟩ rfl rfl hl.1 rfl (lv_room (Nat.le_of_ble_eq_true rfl)) dX3_placedSite_13 ⟨(Nat.le_of_ble_eq_true rfl), (Nat.le_of_ble_eq_true rfl)⟩) hS (fun q _ h => h.elim) (fun q h => h.elim) (fun r6 u t H locs ht hvm hw7 hB hz1 hk1 hS => ?_)
    have hP := kp_P hP hk1
    have hP : va_P (dC, dI) vwCl ([(h0, .inr (7, [.ref q1, .ref q2, .ref q3, .int 0, .int 0, .int 0, .int 0, .int 0, .int 0, .int 0]))]) H := hP
    have hD : va_D (fun _ => True) ([(h0, .inr (7, [.ref q1, .ref q2, .ref q3, .int 0, .int 0, .int 0, .int 0, .int 0, .int 0, .int 0]))]) := hD
    have hw7 : r6 = bI ((0 : Int) ≤ y.toInt ∧ y.toInt ≤ (5 : Int)) := hw7
    refine lv_if_eq (tgt := 27) hx hb dX3_placedSite_16 (by decide) (fun c8 => ?_) (fun c8 => ?_)
    · skip
      have g9 : ¬ ((0 : Int) ≤ y.toInt ∧ y.toInt ≤ (5 : Int)) := bI_f hw7 c8
      have zg9 : r6 = 0 := bI_f0 hw7 g9
      refine lv_null hx hb dX3_placedSite_27 ?_
      refine W.widen (k := 0) (n := 0) (Nat.le_of_ble_eq_true rfl) (Nat.le_of_ble_eq_true rfl) ?_
      exact W.aret (v := .null) hx hb hr (Or.inl ⟨_, rfl⟩) (Or.inl rfl) (fun t ht hW => ⟨⟨none, (), rfl, rfl, trivial⟩, hS.F ht⟩) hS.2.2 dX3_placedSite_28
    · skip
      have g10 : (0 : Int) ≤ y.toInt ∧ y.toInt ≤ (5 : Int) := bI_t hw7 c8
      have zg10 : r6 = 1 := bI_t1 hw7 g10
      refine lv_aload_n hx hb dX3_placedSite_19 rfl (lv_at hl 0 rfl) ?_
      refine lv_iload_n hx hb dX3_placedSite_20 rfl (lv_at hl 1 rfl) ?_
      refine va_callq (va_runV (As := [.int site]) (rest := []) ⟨hx, hb, hml, hown, hts⟩ (k_numberedSite l dC dI _ h0 q1 q2 q3 site) (cwV 1 hts gX3_placedSite_X3_numberedSite rfl rfl rfl (by decide +kernel) ⟨Nat.le_of_ble_eq_true rfl, Nat.le_of_ble_eq_true rfl⟩) ⟨fb_PW, va_recv hK hP (ci := 7) (q0 := 0) rfl rfl, fun U hU hW => ⟨rfl, PW.give hP hK hD [0] [] rfl rfl rfl rfl hU hW⟩⟩ rfl rfl hl.1 rfl (lv_room (Nat.le_of_ble_eq_true rfl)) dX3_placedSite_21 ⟨(Nat.le_of_ble_eq_true rfl), (Nat.le_of_ble_eq_true rfl)⟩) hS (fun q _ h => h.elim) (fun q h => h.elim) (fun r11 u t H locs ht hvm hw12 hB hz1 hk1 hS => ?_)
      have hP := kp_P hP hk1
      have hP : va_P (dC, dI) vwCl ([(h0, .inr (7, [.ref q1, .ref q2, .ref q3, .int 0, .int 0, .int 0, .int 0, .int 0, .int 0, .int 0]))]) H := hP
      have hD : va_D (fun _ => True) ([(h0, .inr (7, [.ref q1, .ref q2, .ref q3, .int 0, .int 0, .int 0, .int 0, .int 0, .int 0, .int 0]))]) := hD
      obtain rfl : r11 = none := hw12
      refine W.eq (g2 := F0 m 24 ls [.null]) rfl ?_
      refine lv_goto (tgt := 28) hx hb dX3_placedSite_24 (by decide) ?_
      refine W.widen (k := 0) (n := 0) (Nat.le_of_ble_eq_true rfl) (Nat.le_of_ble_eq_true rfl) ?_
      exact W.aret (v := .null) hx hb hr (Or.inl ⟨_, rfl⟩) (Or.inl rfl) (fun t ht hW => ⟨⟨none, (), rfl, rfl, trivial⟩, hS.F ht⟩) hS.2.2 dX3_placedSite_28

