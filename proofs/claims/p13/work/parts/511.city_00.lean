set_option maxHeartbeats 4000000 in
set_option maxRecDepth 100000 in
theorem rk_numberedSite (l : Launch) (dC : Nat → ClassId) (dI : Nat → Nat → Nat) (kA : Nat → ClassId) (eD b : Nat) (g : Gh) (o : Nat) (site : Int32) (hto : tg g o = 1)  : Met l yX3_numberedSite wsX3_numberedSite ({ frames := 1, cells := 0, slots := 0, locals := 22 }) (va_Pc [.ref o, .int site] (CX (dC, dI) kA eD b g)) (va_Qq (fun (r : Option Nat) (u : Unit) => (r = none ∧ ¬ (0 ≤ site.toInt ∧ site.toInt < (pI g o 0).toInt)) ∨ ∃ j a, r = some a ∧ site = nI j ∧ (j : Int) < (pI g o 0).toInt ∧ pO g (pF g o 2) j = some a ∧ tg g a = 12 + 64 * j) (fun (u : Unit) t => CX (dC, dI) kA eD b g t) (fun q => b ≤ q)) 0 0 (fun q => b ≤ q) := by
  refine Met.ofW (cc := cX3_numberedSite) (maxL := 2) (ret := (some (.object "Snowpalace$Site"))) (by decide +kernel) rfl ?_
  intro p e s m args below meth c s₁ B hml hv
  obtain ⟨rfl, hb0, hM, hK, hG, hE⟩ := hv
  have hx := B.exec
  have hb := B.bytes
  have hr := B.returns
  have hts := atoms_spec (ws := wsX3_numberedSite) B.pre
  have hown : s.vm.findClass RX3 = some m.cls := findClass_of_methodNamed B.named
  have hlocks := B.notSynchronized
  have hT := hE.1
  have hN := hE.2.2.2.2.2.2.2.1
  have hS : va_S (fun q => b ≤ q) s.heap s.heap [] := va_S.rf
  have hl := lv_entry ([.ref o, .int site]) (n := 2) (Nat.le_of_ble_eq_true rfl)
  rw [lg_entry_eq]
  generalize (lg_sl ([.ref o, .int site]) ++ List.replicate (2 - (lg_sl ([.ref o, .int site])).length) Slot.unset).toArray = ls at hl ⊢
  have hl : lv_has ls 2 [(0, .ref o), (1, .int site)] := hl
  generalize ([.ref o, .int site] : List Value).toArray = args at hts ⊢
  refine lv_iload_n hx hb dX3_numberedSite_0 rfl (lv_at hl 1 rfl) ?_
  refine lv_iconst (v := 0) hx hb dX3_numberedSite_1 (by decide) ?_
  refine lv_aload_n hx hb dX3_numberedSite_2 rfl (lv_at hl 0 rfl) ?_
  obtain ⟨u1, u2, u3, u4, hP, hf⟩ := o_sno (i := 0) (q := o) hM (by omega)
  refine va_get (D := (dC, dI)) (ci := 7) (v := .int (pI g o 0)) (C := RX3) (T := TX3) (N := 10) hx hb hts (by decide +kernel) hown hK hP 0 rfl rfl 3 (by decide) (hts (.fieldLink RX3 29 "Snowpalace" "siteCount" "I") (by decide +kernel)) (fun _ h9 => h9) rfl dX3_numberedSite_3 ?_
  have hv5 := hf.2.2.2.1
  refine lv_iconst (v := 1) hx hb dX3_numberedSite_6 (by decide) ?_
  refine lv_isub hx hb dX3_numberedSite_7 ?_
  refine lv_topi (fun v6 e7 => ?_)
  subst e7
  have hm1 := m1_3 hv5
  refine va_calli (va_runS (As := [.int site, .int 0, .int ((pI g o 0) - 1)]) (rest := []) ⟨hx, hb, hml, hown, hts⟩ (rk_isWithin l site 0 ((pI g o 0) - 1) (0) (((pI g o 0) - 1).toInt) (by decide) rfl) (va_cwS 3 hts gX3_numberedSite_X3_isWithin rfl rfl rfl (by decide +kernel) ⟨Nat.le_of_ble_eq_true rfl, Nat.le_of_ble_eq_true rfl⟩) ⟨fun a U g mk q => q, fun U hU hW => ⟨rfl, trivial⟩⟩ rfl rfl hl.1 rfl (lv_room (Nat.le_of_ble_eq_true rfl)) dX3_numberedSite_8 ⟨(Nat.le_of_ble_eq_true rfl), (Nat.le_of_ble_eq_true rfl)⟩) hS (fun q _ h => h.elim) (fun q h => h.elim) (fun r8 u t H locs ht hvm hw9 hB hz1 hk1 hS => ?_)
  have hM := hM.keep (fun p hp => hk1 p hp (fun z => z))
  have hw9 : r8 = bI ((0 : Int) ≤ site.toInt ∧ site.toInt ≤ (((pI g o 0) - 1).toInt : Int)) := hw9
  refine lv_if_eq (tgt := 23) hx hb dX3_numberedSite_11 (by decide) (fun c10 => ?_) (fun c10 => ?_)
  · skip
    have g11 : ¬ ((0 : Int) ≤ site.toInt ∧ site.toInt ≤ (((pI g o 0) - 1).toInt : Int)) := bI_f hw9 c10
    have zg11 : r8 = 0 := bI_f0 hw9 g11
    refine lv_null hx hb dX3_numberedSite_23 ?_
    refine W.widen (k := 0) (n := 0) (Nat.le_of_ble_eq_true rfl) (Nat.le_of_ble_eq_true rfl) ?_
    exact W.aret (v := .null) hx hb hr (Or.inl ⟨_, rfl⟩) (Or.inl rfl) (fun t ht hW => ⟨⟨none, (), rfl, (Or.inl ⟨rfl, by omega⟩), CX.give hb0 hM hK hG hE hS ht hW⟩, hS.F ht⟩) hS.2.2 dX3_numberedSite_24
  · skip
    have g12 : (0 : Int) ≤ site.toInt ∧ site.toInt ≤ (((pI g o 0) - 1).toInt : Int) := bI_t hw9 c10
    have zg12 : r8 = 1 := bI_t1 hw9 g12
    obtain ⟨j, hj, rfl⟩ := toN (p := site) (k := 2) (by omega) (by omega) (by decide)
    have hl : lv_has ls 2 [(0, .ref o), (1, .int (nI j))] := hl
    have ej : (nI j).toInt = (j : Int) := nI_toInt (by omega)
    obtain ⟨sa, hsa⟩ := hG.2.1 o hto j (by omega)
    refine lv_aload_n hx hb dX3_numberedSite_14 rfl (lv_at hl 0 rfl) ?_
    obtain ⟨u13, u14, u15, u16, hP, hf⟩ := o_sno (i := 0) (q := o) hM (by omega)
    refine va_get (D := (dC, dI)) (ci := 7) (v := .ref (pF g o 2)) (C := RX3) (T := TX3) (N := 10) hx hb hts (by decide +kernel) hown hK hP 0 rfl rfl 2 (by decide) (hts (.fieldLink RX3 25 "Snowpalace" "sites" "[LSnowpalace$Site;") (by decide +kernel)) (fun _ h9 => h9) rfl dX3_numberedSite_15 ?_
    have ht17 : tg g (pF g o 2) = 4 := hf.2.2.1
    refine lv_iload_n hx hb dX3_numberedSite_18 rfl (lv_at hl 1 rfl) ?_
    obtain ⟨hP, hf⟩ := o_sit (i := 0) (q := (pF g o 2)) hM (by omega)
    refine va_aldq (D := (dC, dI)) hx hb hK hP 0 5 rfl rfl (vp_in_nI (by omega) (by decide)) dX3_numberedSite_19 ?_
    have ec : ((nI j) : Int32).toNatClampNeg = j := nI_clamp (by omega)
    rw [ec]
    have hq18 := hf j (by omega)
    rw [hsa]
    have ht19 : tg g sa = 12 + 64 * j := hq18 sa hsa
    refine lv_goto (tgt := 24) hx hb dX3_numberedSite_20 (by decide) ?_
    refine W.widen (k := 0) (n := 0) (Nat.le_of_ble_eq_true rfl) (Nat.le_of_ble_eq_true rfl) ?_
    exact W.aret (v := .ref sa) hx hb hr (Or.inl ⟨_, rfl⟩) (Or.inr ⟨_, rfl⟩) (fun t ht hW => ⟨⟨(some sa), (), rfl, (Or.inr ⟨j, sa, rfl, rfl, by omega, hsa, ht19⟩), CX.give hb0 hM hK hG hE hS ht hW⟩, hS.F ht⟩) hS.2.2 dX3_numberedSite_24

set_option maxHeartbeats 4000000 in
set_option maxRecDepth 100000 in
theorem rk_placedSite (l : Launch) (dC : Nat → ClassId) (dI : Nat → Nat → Nat) (kA : Nat → ClassId) (eD b : Nat) (g : Gh) (o : Nat) (site x y : Int32) (hto : tg g o = 1)  : Met l yX3_placedSite wsX3_placedSite ({ frames := 2, cells := 0, slots := 0, locals := 43 }) (va_Pc [.ref o, .int site, .int x, .int y] (CX (dC, dI) kA eD b g)) (va_Qq (fun (r : Option Nat) (u : Unit) => (r = none ∧ ¬ ((0 ≤ site.toInt ∧ site.toInt < (pI g o 0).toInt) ∧ (0 ≤ x.toInt ∧ x.toInt ≤ 7) ∧ 0 ≤ y.toInt ∧ y.toInt ≤ 5)) ∨ ∃ j a jx jy, r = some a ∧ site = nI j ∧ x = nI jx ∧ y = nI jy ∧ jx < 8 ∧ jy < 6 ∧ (j : Int) < (pI g o 0).toInt ∧ pO g (pF g o 2) j = some a ∧ tg g a = 12 + 64 * j) (fun (u : Unit) t => CX (dC, dI) kA eD b g t) (fun q => b ≤ q)) 0 0 (fun q => b ≤ q) := by
  refine Met.ofW (cc := cX3_placedSite) (maxL := 4) (ret := (some (.object "Snowpalace$Site"))) (by decide +kernel) rfl ?_
  intro p e s m args below meth c s₁ B hml hv
  obtain ⟨rfl, hb0, hM, hK, hG, hE⟩ := hv
  have hx := B.exec
  have hb := B.bytes
  have hr := B.returns
  have hts := atoms_spec (ws := wsX3_placedSite) B.pre
  have hown : s.vm.findClass RX3 = some m.cls := findClass_of_methodNamed B.named
  have hlocks := B.notSynchronized
  have hT := hE.1
  have hN := hE.2.2.2.2.2.2.2.1
  have hS : va_S (fun q => b ≤ q) s.heap s.heap [] := va_S.rf
  have hl := lv_entry ([.ref o, .int site, .int x, .int y]) (n := 4) (Nat.le_of_ble_eq_true rfl)
  rw [lg_entry_eq]
  generalize (lg_sl ([.ref o, .int site, .int x, .int y]) ++ List.replicate (4 - (lg_sl ([.ref o, .int site, .int x, .int y])).length) Slot.unset).toArray = ls at hl ⊢
  have hl : lv_has ls 4 [(0, .ref o), (1, .int site), (2, .int x), (3, .int y)] := hl
  generalize ([.ref o, .int site, .int x, .int y] : List Value).toArray = args at hts ⊢
  refine lv_iload_n hx hb dX3_placedSite_0 rfl (lv_at hl 2 rfl) ?_
  refine lv_iconst (v := 0) hx hb dX3_placedSite_1 (by decide) ?_
  refine lv_bipush (v := 7) hx hb dX3_placedSite_2 (by decide) ?_
  refine va_calli (va_runS (As := [.int x, .int 0, .int 7]) (rest := []) ⟨hx, hb, hml, hown, hts⟩ (rk_isWithin l x 0 7 (0) (7) (by decide) (by decide)) (va_cwS 3 hts gX3_placedSite_X3_isWithin rfl rfl rfl (by decide +kernel) ⟨Nat.le_of_ble_eq_true rfl, Nat.le_of_ble_eq_true rfl⟩) ⟨fun a U g mk q => q, fun U hU hW => ⟨rfl, trivial⟩⟩ rfl rfl hl.1 rfl (lv_room (Nat.le_of_ble_eq_true rfl)) dX3_placedSite_4 ⟨(Nat.le_of_ble_eq_true rfl), (Nat.le_of_ble_eq_true rfl)⟩) hS (fun q _ h => h.elim) (fun q h => h.elim) (fun r1 u t H locs ht hvm hw2 hB hz1 hk1 hS => ?_)
  have hM := hM.keep (fun p hp => hk1 p hp (fun z => z))
  have hw2 : r1 = bI ((0 : Int) ≤ x.toInt ∧ x.toInt ≤ (7 : Int)) := hw2
  refine lv_if_eq (tgt := 27) hx hb dX3_placedSite_7 (by decide) (fun c3 => ?_) (fun c3 => ?_)
  · skip
    have g4 : ¬ ((0 : Int) ≤ x.toInt ∧ x.toInt ≤ (7 : Int)) := bI_f hw2 c3
    have zg4 : r1 = 0 := bI_f0 hw2 g4
    refine lv_null hx hb dX3_placedSite_27 ?_
    refine W.widen (k := 0) (n := 0) (Nat.le_of_ble_eq_true rfl) (Nat.le_of_ble_eq_true rfl) ?_
    exact W.aret (v := .null) hx hb hr (Or.inl ⟨_, rfl⟩) (Or.inl rfl) (fun t ht hW => ⟨⟨none, (), rfl, (Or.inl ⟨rfl, by omega⟩), CX.give hb0 hM hK hG hE hS ht hW⟩, hS.F ht⟩) hS.2.2 dX3_placedSite_28
  · skip
    have g5 : (0 : Int) ≤ x.toInt ∧ x.toInt ≤ (7 : Int) := bI_t hw2 c3
    have zg5 : r1 = 1 := bI_t1 hw2 g5
    refine lv_iload_n hx hb dX3_placedSite_10 rfl (lv_at hl 3 rfl) ?_
    refine lv_iconst (v := 0) hx hb dX3_placedSite_11 (by decide) ?_
    refine lv_iconst (v := 5) hx hb dX3_placedSite_12 (by decide) ?_
    refine va_calli (va_runS (As := [.int y, .int 0, .int 5]) (rest := []) ⟨hx, hb, hml, hown, hts⟩ (rk_isWithin l y 0 5 (0) (5) (by decide) (by decide)) (va_cwS 3 hts gX3_placedSite_X3_isWithin rfl rfl rfl (by decide +kernel) ⟨Nat.le_of_ble_eq_true rfl, Nat.le_of_ble_eq_true rfl⟩) ⟨fun a U g mk q => q, fun U hU hW => ⟨rfl, trivial⟩⟩ rfl rfl hl.1 rfl (lv_room (Nat.le_of_ble_eq_true rfl)) dX3_placedSite_13 ⟨(Nat.le_of_ble_eq_true rfl), (Nat.le_of_ble_eq_true rfl)⟩) hS (fun q _ h => h.elim) (fun q h => h.elim) (fun r6 u t H locs ht hvm hw7 hB hz1 hk1 hS => ?_)
    have hM := hM.keep (fun p hp => hk1 p hp (fun z => z))
    have hw7 : r6 = bI ((0 : Int) ≤ y.toInt ∧ y.toInt ≤ (5 : Int)) := hw7
    refine lv_if_eq (tgt := 27) hx hb dX3_placedSite_16 (by decide) (fun c8 => ?_) (fun c8 => ?_)
    · skip
      have g9 : ¬ ((0 : Int) ≤ y.toInt ∧ y.toInt ≤ (5 : Int)) := bI_f hw7 c8
      have zg9 : r6 = 0 := bI_f0 hw7 g9
      refine lv_null hx hb dX3_placedSite_27 ?_
      refine W.widen (k := 0) (n := 0) (Nat.le_of_ble_eq_true rfl) (Nat.le_of_ble_eq_true rfl) ?_
      exact W.aret (v := .null) hx hb hr (Or.inl ⟨_, rfl⟩) (Or.inl rfl) (fun t ht hW => ⟨⟨none, (), rfl, (Or.inl ⟨rfl, by omega⟩), CX.give hb0 hM hK hG hE hS ht hW⟩, hS.F ht⟩) hS.2.2 dX3_placedSite_28
    · skip
      have g10 : (0 : Int) ≤ y.toInt ∧ y.toInt ≤ (5 : Int) := bI_t hw7 c8
      have zg10 : r6 = 1 := bI_t1 hw7 g10
      obtain ⟨jx, hjx, rfl⟩ := toN (p := x) (k := 7) (by omega) (by omega) (by decide)
      have hl : lv_has ls 4 [(0, .ref o), (1, .int site), (2, .int (nI jx)), (3, .int y)] := hl
      obtain ⟨jy, hjy, rfl⟩ := toN (p := y) (k := 5) (by omega) (by omega) (by decide)
      have hl : lv_has ls 4 [(0, .ref o), (1, .int site), (2, .int (nI jx)), (3, .int (nI jy))] := hl
      refine lv_aload_n hx hb dX3_placedSite_19 rfl (lv_at hl 0 rfl) ?_
      refine lv_iload_n hx hb dX3_placedSite_20 rfl (lv_at hl 1 rfl) ?_
      obtain ⟨u11, u12, u13, u14, hP, hf⟩ := o_sno (i := 0) (q := o) hM (by omega)
      refine va_callq (va_runV (As := [.int site]) (rest := []) ⟨hx, hb, hml, hown, hts⟩ (rk_numberedSite l dC dI kA eD b g o site (by omega)) (cwV 1 hts gX3_placedSite_X3_numberedSite rfl rfl rfl (by decide +kernel) ⟨Nat.le_of_ble_eq_true rfl, Nat.le_of_ble_eq_true rfl⟩) ⟨fb_CX, va_recv hK hP (ci := 7) (q0 := 0) rfl rfl, fun U hU hW => ⟨rfl, CX.give hb0 hM hK hG hE hS hU hW⟩⟩ rfl rfl hl.1 rfl (lv_room (Nat.le_of_ble_eq_true rfl)) dX3_placedSite_21 ⟨(Nat.le_of_ble_eq_true rfl), (Nat.le_of_ble_eq_true rfl)⟩) hS (fun q _ h => h) (fun q h => h) (fun r15 u t H locs ht hvm hw16 hB hz1 hk1 hS => ?_)
      have hM := hB.back ht
      have hG := hB.2.2.2.1
      rcases hw16 with ⟨rfl, hn22⟩ | ⟨j17, a18, rfl, hs9, hj21, ho19, ht20⟩
      · skip
        refine lv_goto (tgt := 28) hx hb dX3_placedSite_24 (by decide) ?_
        refine W.widen (k := 0) (n := 0) (Nat.le_of_ble_eq_true rfl) (Nat.le_of_ble_eq_true rfl) ?_
        exact W.aret (v := .null) hx hb hr (Or.inl ⟨_, rfl⟩) (Or.inl rfl) (fun t ht hW => ⟨⟨none, (), rfl, (Or.inl ⟨rfl, by omega⟩), CX.give hb0 hM hK hG hE hS ht hW⟩, hS.F ht⟩) hS.2.2 dX3_placedSite_28
      · skip
        subst hs9
        have hl : lv_has ls 4 [(0, .ref o), (1, .int (nI j17)), (2, .int (nI jx)), (3, .int (nI jy))] := hl
        refine lv_goto (tgt := 28) hx hb dX3_placedSite_24 (by decide) ?_
        refine W.widen (k := 0) (n := 0) (Nat.le_of_ble_eq_true rfl) (Nat.le_of_ble_eq_true rfl) ?_
        exact W.aret (v := .ref a18) hx hb hr (Or.inl ⟨_, rfl⟩) (Or.inr ⟨_, rfl⟩) (fun t ht hW => ⟨⟨(some a18), (), rfl, (Or.inr ⟨j17, a18, jx, jy, rfl, rfl, rfl, rfl, by omega, by omega, by omega, ho19, ht20⟩), CX.give hb0 hM hK hG hE hS ht hW⟩, hS.F ht⟩) hS.2.2 dX3_placedSite_28

set_option maxHeartbeats 4000000 in
set_option maxRecDepth 100000 in
theorem rk_hasStuffFor (l : Launch) (dC : Nat → ClassId) (dI : Nat → Nat → Nat) (kA : Nat → ClassId) (eD b : Nat) (g : Gh) (o : Nat) (kd : Int32) (hto : tg g o = 1)  : Met l yX3_hasStuffFor wsX3_hasStuffFor ({ frames := 0, cells := 0, slots := 0, locals := 0 }) (va_Pc [.ref o, .int kd] (CX (dC, dI) kA eD b g)) (va_Qi (fun (r : Int32) (u : Unit) => r = 0 ∨ r = 1) (fun (u : Unit) t => CX (dC, dI) kA eD b g t) (fun q => b ≤ q)) 0 0 (fun q => b ≤ q) := by
  refine Met.ofW (cc := cX3_hasStuffFor) (maxL := 2) (ret := (some .boolean)) (by decide +kernel) rfl ?_
  intro p e s m args below meth c s₁ B hml hv
  obtain ⟨rfl, hb0, hM, hK, hG, hE⟩ := hv
  have hx := B.exec
  have hb := B.bytes
  have hr := B.returns
  have hts := atoms_spec (ws := wsX3_hasStuffFor) B.pre
  have hown : s.vm.findClass RX3 = some m.cls := findClass_of_methodNamed B.named
  have hlocks := B.notSynchronized
  have hT := hE.1
  have hN := hE.2.2.2.2.2.2.2.1
  have hS : va_S (fun q => b ≤ q) s.heap s.heap [] := va_S.rf
  have hl := lv_entry ([.ref o, .int kd]) (n := 2) (Nat.le_of_ble_eq_true rfl)
  rw [lg_entry_eq]
  generalize (lg_sl ([.ref o, .int kd]) ++ List.replicate (2 - (lg_sl ([.ref o, .int kd])).length) Slot.unset).toArray = ls at hl ⊢
  have hl : lv_has ls 2 [(0, .ref o), (1, .int kd)] := hl
  generalize ([.ref o, .int kd] : List Value).toArray = args at hts ⊢
  refine W.q (fun Q hQ => ?_)
  refine lv_iload_n hx hb dX3_hasStuffFor_0 rfl (lv_at hl 1 rfl) ?_
  refine lv_bipush (v := 115) hx hb dX3_hasStuffFor_1 (by decide) ?_
  refine lv_icmp_ne (tgt := 20) hx hb dX3_hasStuffFor_3 (by decide) (fun c1 => ?_) (fun c1 => ?_)
  · skip
    refine lv_iload_n hx hb dX3_hasStuffFor_20 rfl (lv_at hl 1 rfl) ?_
    refine lv_bipush (v := 99) hx hb dX3_hasStuffFor_21 (by decide) ?_
    have jn3 : ∀ (x2 : Int32) (H : Heap) (locs : List Loc) (ls : Array Slot), (x2 = 0 ∨ x2 = 1) → TM (dC, dI) kA b g H → va_S (fun q => b ≤ q) s.heap H locs → lv_has ls 2 [(0, .ref o), (1, .int kd)] → W p l e (headSpec wsX3_hasStuffFor ({ frames := 0, cells := 0, slots := 0, locals := 0 })).room s m args below meth c H locs 0 0 Q (F0 m 53 ls [.int x2]) := by
      intro x2 H locs ls hj4 hM hS hl
      subst hQ
      refine W.widen (k := 0) (n := 0) (Nat.le_of_ble_eq_true rfl) (Nat.le_of_ble_eq_true rfl) ?_
      exact W.zret (v := x2) (ty := .boolean) hx hb hr (z01n hj4) (fun t ht hW => ⟨⟨x2, (), rfl, hj4, CX.give hb0 hM hK hG hE hS ht hW⟩, hS.F ht⟩) hS.2.2 dX3_hasStuffFor_53
    refine lv_icmp_ne (tgt := 41) hx hb dX3_hasStuffFor_23 (by decide) (fun c5 => ?_) (fun c5 => ?_)
    · skip
      refine lv_aload_n hx hb dX3_hasStuffFor_41 rfl (lv_at hl 0 rfl) ?_
      obtain ⟨u6, u7, u8, u9, hP, hf⟩ := o_sno (i := 0) (q := o) hM (by omega)
      refine va_get (D := (dC, dI)) (ci := 7) (v := .int u7) (C := RX3) (T := TX3) (N := 10) hx hb hts (by decide +kernel) hown hK hP 0 rfl rfl 6 (by decide) (hts (.fieldLink RX3 39 "Snowpalace" "otherBlocks" "I") (by decide +kernel)) (fun _ h9 => h9) rfl dX3_hasStuffFor_42 ?_
      refine lv_if_le (tgt := 52) hx hb dX3_hasStuffFor_45 (by decide) (fun c10 => ?_) (fun c10 => ?_)
      · skip
        have i11 := (Int32.le_iff_toInt_le).mp c10
        have ii11 : (0 : Int32).toInt = 0 := by decide
        have i11 := i11
        refine lv_iconst (v := 0) hx hb dX3_hasStuffFor_52 (by decide) ?_
        exact jn3 0 s.heap _ ls (Or.inl rfl) hM hS (lv_sub hl [0, 1] rfl)
      · skip
        have i12 := fun z => c10 ((Int32.le_iff_toInt_le).mpr z)
        have ii12 : (0 : Int32).toInt = 0 := by decide
        have i12 : ¬ ((u7 : Int32).toInt ≤ (0 : Int32).toInt) := i12
        refine lv_iconst (v := 1) hx hb dX3_hasStuffFor_48 (by decide) ?_
        refine lv_goto (tgt := 53) hx hb dX3_hasStuffFor_49 (by decide) ?_
        exact jn3 1 s.heap _ ls (Or.inr rfl) hM hS (lv_sub hl [0, 1] rfl)
    · skip
      refine lv_aload_n hx hb dX3_hasStuffFor_26 rfl (lv_at hl 0 rfl) ?_
      obtain ⟨u13, u14, u15, u16, hP, hf⟩ := o_sno (i := 0) (q := o) hM (by omega)
      refine va_get (D := (dC, dI)) (ci := 7) (v := .int u13) (C := RX3) (T := TX3) (N := 10) hx hb hts (by decide +kernel) hown hK hP 0 rfl rfl 5 (by decide) (hts (.fieldLink RX3 36 "Snowpalace" "clearBlocks" "I") (by decide +kernel)) (fun _ h9 => h9) rfl dX3_hasStuffFor_27 ?_
      refine lv_if_le (tgt := 37) hx hb dX3_hasStuffFor_30 (by decide) (fun c17 => ?_) (fun c17 => ?_)
      · skip
        have i18 := (Int32.le_iff_toInt_le).mp c17
        have ii18 : (0 : Int32).toInt = 0 := by decide
        have i18 := i18
        refine lv_iconst (v := 0) hx hb dX3_hasStuffFor_37 (by decide) ?_
        refine lv_goto (tgt := 53) hx hb dX3_hasStuffFor_38 (by decide) ?_
        exact jn3 0 s.heap _ ls (Or.inl rfl) hM hS (lv_sub hl [0, 1] rfl)
      · skip
        have i19 := fun z => c17 ((Int32.le_iff_toInt_le).mpr z)
        have ii19 : (0 : Int32).toInt = 0 := by decide
        have i19 : ¬ ((u13 : Int32).toInt ≤ (0 : Int32).toInt) := i19
        refine lv_iconst (v := 1) hx hb dX3_hasStuffFor_33 (by decide) ?_
        refine lv_goto (tgt := 53) hx hb dX3_hasStuffFor_34 (by decide) ?_
        exact jn3 1 s.heap _ ls (Or.inr rfl) hM hS (lv_sub hl [0, 1] rfl)
  · skip
    refine lv_aload_n hx hb dX3_hasStuffFor_6 rfl (lv_at hl 0 rfl) ?_
    obtain ⟨u20, u21, u22, u23, hP, hf⟩ := o_sno (i := 0) (q := o) hM (by omega)
    refine va_get (D := (dC, dI)) (ci := 7) (v := .int u22) (C := RX3) (T := TX3) (N := 10) hx hb hts (by decide +kernel) hown hK hP 0 rfl rfl 7 (by decide) (hts (.fieldLink RX3 42 "Snowpalace" "storedSnow" "I") (by decide +kernel)) (fun _ h9 => h9) rfl dX3_hasStuffFor_7 ?_
    refine lv_iconst (v := 4) hx hb dX3_hasStuffFor_10 (by decide) ?_
    have jn25 : ∀ (x24 : Int32) (H : Heap) (locs : List Loc) (ls : Array Slot), (x24 = 0 ∨ x24 = 1) → TM (dC, dI) kA b g H → va_S (fun q => b ≤ q) s.heap H locs → lv_has ls 2 [(0, .ref o), (1, .int kd)] → W p l e (headSpec wsX3_hasStuffFor ({ frames := 0, cells := 0, slots := 0, locals := 0 })).room s m args below meth c H locs 0 0 Q (F0 m 19 ls [.int x24]) := by
      intro x24 H locs ls hj26 hM hS hl
      subst hQ
      refine W.widen (k := 0) (n := 0) (Nat.le_of_ble_eq_true rfl) (Nat.le_of_ble_eq_true rfl) ?_
      exact W.zret (v := x24) (ty := .boolean) hx hb hr (z01n hj26) (fun t ht hW => ⟨⟨x24, (), rfl, hj26, CX.give hb0 hM hK hG hE hS ht hW⟩, hS.F ht⟩) hS.2.2 dX3_hasStuffFor_19
    refine lv_icmp_lt (tgt := 18) hx hb dX3_hasStuffFor_11 (by decide) (fun c27 => ?_) (fun c27 => ?_)
    · skip
      have i28 := (Int32.lt_iff_toInt_lt).mp c27
      have ii28 : (4 : Int32).toInt = 4 := by decide
      have i28 := i28
      refine lv_iconst (v := 0) hx hb dX3_hasStuffFor_18 (by decide) ?_
      exact jn25 0 s.heap _ ls (Or.inl rfl) hM hS (lv_sub hl [0, 1] rfl)
    · skip
      have i29 := fun z => c27 ((Int32.lt_iff_toInt_lt).mpr z)
      have ii29 : (4 : Int32).toInt = 4 := by decide
      have i29 : ¬ ((u22 : Int32).toInt < (4 : Int32).toInt) := i29
      refine lv_iconst (v := 1) hx hb dX3_hasStuffFor_14 (by decide) ?_
      refine lv_goto (tgt := 19) hx hb dX3_hasStuffFor_15 (by decide) ?_
      exact jn25 1 s.heap _ ls (Or.inr rfl) hM hS (lv_sub hl [0, 1] rfl)

set_option maxHeartbeats 4000000 in
set_option maxRecDepth 100000 in
theorem rk_useStuffFor (l : Launch) (dC : Nat → ClassId) (dI : Nat → Nat → Nat) (kA : Nat → ClassId) (eD b : Nat) (g : Gh) (o : Nat) (kd : Int32) (hto : tg g o = 1)  : Met l yX3_useStuffFor wsX3_useStuffFor ({ frames := 0, cells := 0, slots := 0, locals := 0 }) (va_Pc [.ref o, .int kd] (CX (dC, dI) kA eD b g)) (va_Qv (fun (u : Unit) => True) (fun (u : Unit) t => CX (dC, dI) kA eD b g t) (fun q => b ≤ q)) 0 0 (fun q => b ≤ q) := by
  refine Met.ofW (cc := cX3_useStuffFor) (maxL := 2) (ret := none) (by decide +kernel) rfl ?_
  intro p e s m args below meth c s₁ B hml hv
  obtain ⟨rfl, hb0, hM, hK, hG, hE⟩ := hv
  have hx := B.exec
  have hb := B.bytes
  have hr := B.returns
  have hts := atoms_spec (ws := wsX3_useStuffFor) B.pre
  have hown : s.vm.findClass RX3 = some m.cls := findClass_of_methodNamed B.named
  have hlocks := B.notSynchronized
  have hT := hE.1
  have hN := hE.2.2.2.2.2.2.2.1
  have hS : va_S (fun q => b ≤ q) s.heap s.heap [] := va_S.rf
  have hl := lv_entry ([.ref o, .int kd]) (n := 2) (Nat.le_of_ble_eq_true rfl)
  rw [lg_entry_eq]
  generalize (lg_sl ([.ref o, .int kd]) ++ List.replicate (2 - (lg_sl ([.ref o, .int kd])).length) Slot.unset).toArray = ls at hl ⊢
  have hl : lv_has ls 2 [(0, .ref o), (1, .int kd)] := hl
  generalize ([.ref o, .int kd] : List Value).toArray = args at hts ⊢
  refine W.q (fun Q hQ => ?_)
  refine lv_iload_n hx hb dX3_useStuffFor_0 rfl (lv_at hl 1 rfl) ?_
  refine lv_bipush (v := 115) hx hb dX3_useStuffFor_1 (by decide) ?_
  have jn1 : ∀  (H : Heap) (locs : List Loc) (ls : Array Slot), TM (dC, dI) kA b g H → va_S (fun q => b ≤ q) s.heap H locs → lv_has ls 2 [(0, .ref o), (1, .int kd)] → W p l e (headSpec wsX3_useStuffFor ({ frames := 0, cells := 0, slots := 0, locals := 0 })).room s m args below meth c H locs 0 0 Q (F0 m 48 ls []) := by
    intro H locs ls hM hS hl
    subst hQ
    refine W.widen (k := 0) (n := 0) (Nat.le_of_ble_eq_true rfl) (Nat.le_of_ble_eq_true rfl) ?_
    exact W.vret hx hb hr (fun t ht hW => ⟨⟨(), rfl, trivial, CX.give hb0 hM hK hG hE hS ht hW⟩, hS.F ht⟩) hS.2.2 dX3_useStuffFor_48
  refine lv_icmp_ne (tgt := 19) hx hb dX3_useStuffFor_3 (by decide) (fun c2 => ?_) (fun c2 => ?_)
  · skip
    refine lv_iload_n hx hb dX3_useStuffFor_19 rfl (lv_at hl 1 rfl) ?_
    refine lv_bipush (v := 99) hx hb dX3_useStuffFor_20 (by decide) ?_
    refine lv_icmp_ne (tgt := 38) hx hb dX3_useStuffFor_22 (by decide) (fun c3 => ?_) (fun c3 => ?_)
    · skip
      refine lv_aload_n hx hb dX3_useStuffFor_38 rfl (lv_at hl 0 rfl) ?_
      refine lv_dup hx hb dX3_useStuffFor_39 rfl ?_
      obtain ⟨u4, u5, u6, u7, hP, hf⟩ := o_sno (i := 0) (q := o) hM (by omega)
      refine va_get (D := (dC, dI)) (ci := 7) (v := .int u5) (C := RX3) (T := TX3) (N := 10) hx hb hts (by decide +kernel) hown hK hP 0 rfl rfl 6 (by decide) (hts (.fieldLink RX3 39 "Snowpalace" "otherBlocks" "I") (by decide +kernel)) (fun _ h9 => h9) rfl dX3_useStuffFor_40 ?_
      refine lv_iconst (v := 1) hx hb dX3_useStuffFor_43 (by decide) ?_
      refine lv_isub hx hb dX3_useStuffFor_44 ?_
      refine lv_topi (fun v8 e9 => ?_)
      obtain ⟨u10, u11, u12, u13, hP, hf⟩ := o_sno (i := 0) (q := o) hM (by omega)
      refine rt_put (D := (dC, dI)) (ci := 7) (v := .int v8) (ty := .int) (C := RX3) (T := TX3) (N := 10) hx hb hts (by decide +kernel) tyX3 tyX3_ok nmX3 hown hK hP (hM.ge (by omega)) hS rfl 6 (by decide) (hts (.fieldLink RX3 39 "Snowpalace" "otherBlocks" "I") (by decide +kernel)) (fun _ h9 => h9) rfl (by decide +kernel) rfl rfl (Nat.le_of_ble_eq_true rfl) dX3_useStuffFor_45 (fun H locs hP hz ho hS => ?_)
      have hM := s_sno (i := 0) hM (by omega) hP ho hf
      exact jn1 H _ ls hM hS (lv_sub hl [0, 1] rfl)
    · skip
      refine lv_aload_n hx hb dX3_useStuffFor_25 rfl (lv_at hl 0 rfl) ?_
      refine lv_dup hx hb dX3_useStuffFor_26 rfl ?_
      obtain ⟨u14, u15, u16, u17, hP, hf⟩ := o_sno (i := 0) (q := o) hM (by omega)
      refine va_get (D := (dC, dI)) (ci := 7) (v := .int u14) (C := RX3) (T := TX3) (N := 10) hx hb hts (by decide +kernel) hown hK hP 0 rfl rfl 5 (by decide) (hts (.fieldLink RX3 36 "Snowpalace" "clearBlocks" "I") (by decide +kernel)) (fun _ h9 => h9) rfl dX3_useStuffFor_27 ?_
      refine lv_iconst (v := 1) hx hb dX3_useStuffFor_30 (by decide) ?_
      refine lv_isub hx hb dX3_useStuffFor_31 ?_
      refine lv_topi (fun v18 e19 => ?_)
      obtain ⟨u20, u21, u22, u23, hP, hf⟩ := o_sno (i := 0) (q := o) hM (by omega)
      refine rt_put (D := (dC, dI)) (ci := 7) (v := .int v18) (ty := .int) (C := RX3) (T := TX3) (N := 10) hx hb hts (by decide +kernel) tyX3 tyX3_ok nmX3 hown hK hP (hM.ge (by omega)) hS rfl 5 (by decide) (hts (.fieldLink RX3 36 "Snowpalace" "clearBlocks" "I") (by decide +kernel)) (fun _ h9 => h9) rfl (by decide +kernel) rfl rfl (Nat.le_of_ble_eq_true rfl) dX3_useStuffFor_32 (fun H locs hP hz ho hS => ?_)
      have hM := s_sno (i := 0) hM (by omega) hP ho hf
      refine lv_goto (tgt := 48) hx hb dX3_useStuffFor_35 (by decide) ?_
      exact jn1 H _ ls hM hS (lv_sub hl [0, 1] rfl)
  · skip
    refine lv_aload_n hx hb dX3_useStuffFor_6 rfl (lv_at hl 0 rfl) ?_
    refine lv_dup hx hb dX3_useStuffFor_7 rfl ?_
    obtain ⟨u24, u25, u26, u27, hP, hf⟩ := o_sno (i := 0) (q := o) hM (by omega)
    refine va_get (D := (dC, dI)) (ci := 7) (v := .int u26) (C := RX3) (T := TX3) (N := 10) hx hb hts (by decide +kernel) hown hK hP 0 rfl rfl 7 (by decide) (hts (.fieldLink RX3 42 "Snowpalace" "storedSnow" "I") (by decide +kernel)) (fun _ h9 => h9) rfl dX3_useStuffFor_8 ?_
    refine lv_iconst (v := 4) hx hb dX3_useStuffFor_11 (by decide) ?_
    refine lv_isub hx hb dX3_useStuffFor_12 ?_
    refine lv_topi (fun v28 e29 => ?_)
    obtain ⟨u30, u31, u32, u33, hP, hf⟩ := o_sno (i := 0) (q := o) hM (by omega)
    refine rt_put (D := (dC, dI)) (ci := 7) (v := .int v28) (ty := .int) (C := RX3) (T := TX3) (N := 10) hx hb hts (by decide +kernel) tyX3 tyX3_ok nmX3 hown hK hP (hM.ge (by omega)) hS rfl 7 (by decide) (hts (.fieldLink RX3 42 "Snowpalace" "storedSnow" "I") (by decide +kernel)) (fun _ h9 => h9) rfl (by decide +kernel) rfl rfl (Nat.le_of_ble_eq_true rfl) dX3_useStuffFor_13 (fun H locs hP hz ho hS => ?_)
    have hM := s_sno (i := 0) hM (by omega) hP ho hf
    refine lv_goto (tgt := 48) hx hb dX3_useStuffFor_16 (by decide) ?_
    exact jn1 H _ ls hM hS (lv_sub hl [0, 1] rfl)

set_option maxHeartbeats 4000000 in
set_option maxRecDepth 100000 in
theorem rk_storeSnow (l : Launch) (dC : Nat → ClassId) (dI : Nat → Nat → Nat) (kA : Nat → ClassId) (eD b : Nat) (g : Gh) (o : Nat) (mo : Int32) (hto : tg g o = 1)  : Met l yX3_storeSnow wsX3_storeSnow ({ frames := 1, cells := 0, slots := 0, locals := 14 }) (va_Pc [.ref o, .int mo] (CX (dC, dI) kA eD b g)) (va_Qv (fun (u : Unit) => True) (fun (u : Unit) t => CX (dC, dI) kA eD b g t) (fun q => b ≤ q)) 0 0 (fun q => b ≤ q) := by
  refine Met.ofW (cc := cX3_storeSnow) (maxL := 2) (ret := none) (by decide +kernel) rfl ?_
  intro p e s m args below meth c s₁ B hml hv
  obtain ⟨rfl, hb0, hM, hK, hG, hE⟩ := hv
  have hx := B.exec
  have hb := B.bytes
  have hr := B.returns
  have hts := atoms_spec (ws := wsX3_storeSnow) B.pre
  have hown : s.vm.findClass RX3 = some m.cls := findClass_of_methodNamed B.named
  have hlocks := B.notSynchronized
  have hT := hE.1
  have hN := hE.2.2.2.2.2.2.2.1
  have hS : va_S (fun q => b ≤ q) s.heap s.heap [] := va_S.rf
  have hl := lv_entry ([.ref o, .int mo]) (n := 2) (Nat.le_of_ble_eq_true rfl)
  rw [lg_entry_eq]
  generalize (lg_sl ([.ref o, .int mo]) ++ List.replicate (2 - (lg_sl ([.ref o, .int mo])).length) Slot.unset).toArray = ls at hl ⊢
  have hl : lv_has ls 2 [(0, .ref o), (1, .int mo)] := hl
  generalize ([.ref o, .int mo] : List Value).toArray = args at hts ⊢
  refine lv_aload_n hx hb dX3_storeSnow_0 rfl (lv_at hl 0 rfl) ?_
  refine lv_sipush (v := 500) hx hb dX3_storeSnow_1 (by decide) ?_
  refine lv_aload_n hx hb dX3_storeSnow_4 rfl (lv_at hl 0 rfl) ?_
  obtain ⟨u1, u2, u3, u4, hP, hf⟩ := o_sno (i := 0) (q := o) hM (by omega)
  refine va_get (D := (dC, dI)) (ci := 7) (v := .int u3) (C := RX3) (T := TX3) (N := 10) hx hb hts (by decide +kernel) hown hK hP 0 rfl rfl 7 (by decide) (hts (.fieldLink RX3 42 "Snowpalace" "storedSnow" "I") (by decide +kernel)) (fun _ h9 => h9) rfl dX3_storeSnow_5 ?_
  refine lv_iload_n hx hb dX3_storeSnow_8 rfl (lv_at hl 1 rfl) ?_
  refine lv_iadd hx hb dX3_storeSnow_9 ?_
  refine lv_topi (fun v5 e6 => ?_)
  refine va_mmin hx hb (hml.trans hl.1.symm) hown (hts (.methodLink RX3 322 Lib.Math.min.name) (by decide +kernel)) (hts (.static Lib.Math.min.name) (by decide +kernel)) (hts (.initialized "java/lang/Math") (by decide +kernel)) (hts (.code Lib.Math.min.name Lib.Math.min.code 2 (some .int)) (by decide +kernel)) (Nat.le_of_ble_eq_true rfl) (Nat.le_of_ble_eq_true rfl) (Nat.le_of_ble_eq_true rfl) (Nat.le_of_ble_eq_true rfl) dX3_storeSnow_10 ?_
  refine lv_topi (fun v7 e8 => ?_)
  obtain ⟨u9, u10, u11, u12, hP, hf⟩ := o_sno (i := 0) (q := o) hM (by omega)
  refine rt_put (D := (dC, dI)) (ci := 7) (v := .int v7) (ty := .int) (C := RX3) (T := TX3) (N := 10) hx hb hts (by decide +kernel) tyX3 tyX3_ok nmX3 hown hK hP (hM.ge (by omega)) hS rfl 7 (by decide) (hts (.fieldLink RX3 42 "Snowpalace" "storedSnow" "I") (by decide +kernel)) (fun _ h9 => h9) rfl (by decide +kernel) rfl rfl (Nat.le_of_ble_eq_true rfl) dX3_storeSnow_13 (fun H locs hP hz ho hS => ?_)
  have hM := s_sno (i := 0) hM (by omega) hP ho hf
  refine W.widen (k := 0) (n := 0) (Nat.le_of_ble_eq_true rfl) (Nat.le_of_ble_eq_true rfl) ?_
  exact W.vret hx hb hr (fun t ht hW => ⟨⟨(), rfl, trivial, CX.give hb0 hM hK hG hE hS ht hW⟩, hS.F ht⟩) hS.2.2 dX3_storeSnow_16

set_option maxHeartbeats 4000000 in
set_option maxRecDepth 100000 in
theorem rk_letFall (l : Launch) (dC : Nat → ClassId) (dI : Nat → Nat → Nat) (kA : Nat → ClassId) (eD b : Nat) (g : Gh) (o : Nat) (sa i : Nat) (hto : tg g o = 1) (hsa : tg g sa = 12 + 64 * i) : Met l yX3_letFall wsX3_letFall ({ frames := 5, cells := 0, slots := 0, locals := 115 }) (va_Pc [.ref o, .ref sa] (CX (dC, dI) kA eD b g)) (va_Qi (fun (r : Int32) (u : Unit) => True) (fun (u : Unit) t => CX (dC, dI) kA eD b g t) (fun q => b ≤ q)) 0 0 (fun q => b ≤ q) := by
  refine Met.ofW (cc := cX3_letFall) (maxL := 3) (ret := (some .int)) (by decide +kernel) rfl ?_
  intro p e s m args below meth c s₁ B hml hv
  obtain ⟨rfl, hb0, hM, hK, hG, hE⟩ := hv
  have hx := B.exec
  have hb := B.bytes
  have hr := B.returns
  have hts := atoms_spec (ws := wsX3_letFall) B.pre
  have hown : s.vm.findClass RX3 = some m.cls := findClass_of_methodNamed B.named
  have hlocks := B.notSynchronized
  have hT := hE.1
  have hN := hE.2.2.2.2.2.2.2.1
  have hS : va_S (fun q => b ≤ q) s.heap s.heap [] := va_S.rf
  have hl := lv_entry ([.ref o, .ref sa]) (n := 3) (Nat.le_of_ble_eq_true rfl)
  rw [lg_entry_eq]
  generalize (lg_sl ([.ref o, .ref sa]) ++ List.replicate (3 - (lg_sl ([.ref o, .ref sa])).length) Slot.unset).toArray = ls at hl ⊢
  have hl : lv_has ls 3 [(0, .ref o), (1, .ref sa)] := hl
  generalize ([.ref o, .ref sa] : List Value).toArray = args at hts ⊢
  refine lv_aload_n hx hb dX3_letFall_0 rfl (lv_at hl 1 rfl) ?_
  refine lv_aload_n hx hb dX3_letFall_1 rfl (lv_at hl 0 rfl) ?_
  obtain ⟨u1, u2, u3, u4, hP, hf⟩ := o_sno (i := 0) (q := o) hM (by omega)
  refine va_get (D := (dC, dI)) (ci := 7) (v := .ref (pF g o 0)) (C := RX3) (T := TX3) (N := 10) hx hb hts (by decide +kernel) hown hK hP 0 rfl rfl 0 (by decide) (hts (.fieldLink RX3 10 "Snowpalace" "sky" "LSnowpalace$Sky;") (by decide +kernel)) (fun _ h9 => h9) rfl dX3_letFall_2 ?_
  have ht5 : tg g (pF g o 0) = 2 := hf.1
  refine lv_aload_n hx hb dX3_letFall_5 rfl (lv_at hl 0 rfl) ?_
  obtain ⟨u6, u7, u8, u9, hP, hf⟩ := o_sno (i := 0) (q := o) hM (by omega)
  refine va_get (D := (dC, dI)) (ci := 7) (v := .int (pI g o 1)) (C := RX3) (T := TX3) (N := 10) hx hb hts (by decide +kernel) hown hK hP 0 rfl rfl 4 (by decide) (hts (.fieldLink RX3 33 "Snowpalace" "clock" "I") (by decide +kernel)) (fun _ h9 => h9) rfl dX3_letFall_6 ?_
  have hv10 := hf.2.2.2.2.1
  obtain ⟨hP, hf⟩ := o_sky (i := 0) (q := (pF g o 0)) hM (by omega)
  refine va_calli (va_runV (As := [.int (pI g o 1)]) (rest := [.ref sa]) ⟨hx, hb, hml, hown, hts⟩ (rk_warmthOf l dC dI kA eD b g (pF g o 0) (pI g o 1) (by omega)) (cwV 1 hts gX3_letFall_X2_warmthOf rfl rfl rfl (by decide +kernel) ⟨Nat.le_of_ble_eq_true rfl, Nat.le_of_ble_eq_true rfl⟩) ⟨fb_CX, va_recv hK hP (ci := 6) (q0 := 0) rfl rfl, fun U hU hW => ⟨rfl, CX.give hb0 hM hK hG hE hS hU hW⟩⟩ rfl rfl hl.1 rfl (lv_room (Nat.le_of_ble_eq_true rfl)) dX3_letFall_9 ⟨(Nat.le_of_ble_eq_true rfl), (Nat.le_of_ble_eq_true rfl)⟩) hS (fun q _ h => h) (fun q h => h) (fun r11 u t H locs ht hvm hw12 hB hz1 hk1 hS => ?_)
  have hM := hB.back ht
  have hG := hB.2.2.2.1
  obtain ⟨u13, u14, u15, u16, u17, u18, hP, hf⟩ := o_st (i := i) (q := sa) hM (by omega)
  refine va_calli (va_runV (As := [.int r11]) (rest := []) ⟨hx, hb, hml, hown, hts⟩ (rk_settle l dC dI kA eD b g sa i r11 (by omega)) (cwV 1 hts gX3_letFall_X1_settle rfl rfl rfl (by decide +kernel) ⟨Nat.le_of_ble_eq_true rfl, Nat.le_of_ble_eq_true rfl⟩) ⟨fb_CX, va_recv hK hP (ci := 5) (q0 := 0) rfl rfl, fun U hU hW => ⟨rfl, CX.give hb0 hM hK hG hE hS hU hW⟩⟩ rfl rfl hl.1 rfl (lv_room (Nat.le_of_ble_eq_true rfl)) dX3_letFall_12 ⟨(Nat.le_of_ble_eq_true rfl), (Nat.le_of_ble_eq_true rfl)⟩) hS (fun q _ h => h) (fun q h => h) (fun r19 u t H locs ht hvm hw20 hB hz1 hk1 hS => ?_)
  have hM := hB.back ht
  have hG := hB.2.2.2.1
  refine lv_istore_n (lv' := [(2, .int r19), (0, .ref o), (1, .ref sa)]) hx hb dX3_letFall_15 rfl hl (by decide) rfl (fun ls hl => ?_)
  refine lv_aload_n hx hb dX3_letFall_16 rfl (lv_at hl 1 rfl) ?_
  refine lv_dup hx hb dX3_letFall_17 rfl ?_
  obtain ⟨u21, u22, u23, u24, hP, hf⟩ := o_sno (i := 0) (q := o) hM (by omega)
  refine va_get (D := (dC, dI)) (ci := 7) (v := .int u24) (C := RX3) (T := TX3) (N := 10) hx hb hts (by decide +kernel) hown hK hP 0 rfl rfl 9 (by decide) (hts (.fieldLink RX3 49 "Snowpalace" "funds" "I") (by decide +kernel)) (fun _ h9 => h9) rfl dX3_letFall_18 ?_
  refine lv_sipush (v := 200) hx hb dX3_letFall_21 (by decide) ?_
  refine lv_iload_n hx hb dX3_letFall_24 rfl (lv_at hl 0 rfl) ?_
  refine lv_imul hx hb dX3_letFall_25 ?_
  refine lv_topi (fun v25 e26 => ?_)
  refine lv_isub hx hb dX3_letFall_26 ?_
  refine lv_topi (fun v27 e28 => ?_)
  obtain ⟨u29, u30, u31, u32, hP, hf⟩ := o_sno (i := 0) (q := o) hM (by omega)
  refine rt_put (D := (dC, dI)) (ci := 7) (v := .int v27) (ty := .int) (C := RX3) (T := TX3) (N := 10) hx hb hts (by decide +kernel) tyX3 tyX3_ok nmX3 hown hK hP (hM.ge (by omega)) hS rfl 9 (by decide) (hts (.fieldLink RX3 49 "Snowpalace" "funds" "I") (by decide +kernel)) (fun _ h9 => h9) rfl (by decide +kernel) rfl rfl (Nat.le_of_ble_eq_true rfl) dX3_letFall_27 (fun H locs hP hz ho hS => ?_)
  have hM := s_sno (i := 0) hM (by omega) hP ho hf
  refine lv_iload_n hx hb dX3_letFall_30 rfl (lv_at hl 0 rfl) ?_
  refine W.widen (k := 0) (n := 0) (Nat.le_of_ble_eq_true rfl) (Nat.le_of_ble_eq_true rfl) ?_
  exact W.iret (v := r19) hx hb hr (fun t ht hW => ⟨⟨r19, (), rfl, trivial, CX.give hb0 hM hK hG hE hS ht hW⟩, hS.F ht⟩) hS.2.2 dX3_letFall_31
