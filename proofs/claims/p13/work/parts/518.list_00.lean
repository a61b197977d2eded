set_option maxHeartbeats 4000000 in
set_option maxRecDepth 100000 in
theorem rj_size (l : Launch) (dC : Nat → ClassId) (dI : Nat → Nat → Nat) (kA : Nat → ClassId) (eD b : Nat) (g : Gh) (q : Nat)  (hto : tg g q = 26)  : Met l yJx4a65c_size_8abf5 wsJx4a65c_size_8abf5 ({ frames := 0, cells := 0, slots := 0, locals := 0 }) (va_Pc [.ref q] (CX (dC, dI) kA eD b g)) (va_Qi (fun (r : Int32) (u : Unit) => r = pI g q 0) (fun (u : Unit) t => CX (dC, dI) kA eD b g t) (fun q => b ≤ q)) 0 0 (fun q => b ≤ q) := by
  refine va_MetF (cc := cJx4a65c_size_8abf5) (maxL := 1) (ret := (some .int)) (by decide +kernel) rfl ?_
  intro p e s m args below meth c s₁ B hml hv
  obtain ⟨rfl, hb0, hM, hK, hG, hE⟩ := hv
  have hx := B.exec
  have hb := B.bytes
  have hr := B.returns
  have hts := atoms_spec (ws := wsJx4a65c_size_8abf5) B.pre
  have hown : s.vm.findClass RJx4a65c = some m.cls := findClass_of_methodNamed B.named
  have hlocks := B.notSynchronized
  have hT := hE.1
  have hN := hE.2.2.2.2.2.2.2.1
  have hS : va_S (fun q => b ≤ q) s.heap s.heap [] := va_S.rf
  have hl := lv_entry ([.ref q]) (n := 1) (Nat.le_of_ble_eq_true rfl)
  rw [lg_entry_eq]
  generalize (lg_sl ([.ref q]) ++ List.replicate (1 - (lg_sl ([.ref q])).length) Slot.unset).toArray = ls at hl ⊢
  have hl : lv_has ls 1 [(0, .ref q)] := hl
  generalize ([.ref q] : List Value).toArray = args at hts ⊢
  refine lv_aload_n hx hb dJx4a65c_size_8abf5_0 rfl (lv_at hl 0 rfl) ?_
  obtain ⟨hP, hf⟩ := o_al (i := 0) (q := q) hM (by omega)
  refine va_get (D := (dC, dI)) (ci := 3) (v := .int (pI g q 0)) (C := RJx4a65c) (T := TJx4a65c) (N := 3) hx hb hts (by decide +kernel) hown hK hP 0 rfl rfl 2 (by decide) (hts (.fieldLink RJx4a65c 48 "java/util/ArrayList" "size" "I") (by decide +kernel)) (fun _ h9 => h9) rfl dJx4a65c_size_8abf5_1 ?_
  have hv1 := hf.1
  have hv2 := hf.2.1
  have hv3 := hf.2.2
  refine W.widen (k := 0) (n := 0) (Nat.le_of_ble_eq_true rfl) (Nat.le_of_ble_eq_true rfl) ?_
  exact W.iret (v := (pI g q 0)) hx hb hr (fun t ht hW => ⟨⟨(pI g q 0), (), rfl, rfl, CX.give hb0 hM hK hG hE hS ht hW⟩, hS.F ht⟩) hS.2.2 dJx4a65c_size_8abf5_4

set_option maxHeartbeats 4000000 in
set_option maxRecDepth 100000 in
theorem rj_isEmpty (l : Launch) (dC : Nat → ClassId) (dI : Nat → Nat → Nat) (kA : Nat → ClassId) (eD b : Nat) (g : Gh) (q : Nat)  (hto : tg g q = 26)  : Met l yJx4a65c_isEmpty_aae02 wsJx4a65c_isEmpty_aae02 ({ frames := 0, cells := 0, slots := 0, locals := 0 }) (va_Pc [.ref q] (CX (dC, dI) kA eD b g)) (va_Qi (fun (r : Int32) (u : Unit) => (r = 0 ∧ ¬ pI g q 0 = 0) ∨ (r = 1 ∧ pI g q 0 = 0)) (fun (u : Unit) t => CX (dC, dI) kA eD b g t) (fun q => b ≤ q)) 0 0 (fun q => b ≤ q) := by
  refine va_MetF (cc := cJx4a65c_isEmpty_aae02) (maxL := 1) (ret := (some .boolean)) (by decide +kernel) rfl ?_
  intro p e s m args below meth c s₁ B hml hv
  obtain ⟨rfl, hb0, hM, hK, hG, hE⟩ := hv
  have hx := B.exec
  have hb := B.bytes
  have hr := B.returns
  have hts := atoms_spec (ws := wsJx4a65c_isEmpty_aae02) B.pre
  have hown : s.vm.findClass RJx4a65c = some m.cls := findClass_of_methodNamed B.named
  have hlocks := B.notSynchronized
  have hT := hE.1
  have hN := hE.2.2.2.2.2.2.2.1
  have hS : va_S (fun q => b ≤ q) s.heap s.heap [] := va_S.rf
  have hl := lv_entry ([.ref q]) (n := 1) (Nat.le_of_ble_eq_true rfl)
  rw [lg_entry_eq]
  generalize (lg_sl ([.ref q]) ++ List.replicate (1 - (lg_sl ([.ref q])).length) Slot.unset).toArray = ls at hl ⊢
  have hl : lv_has ls 1 [(0, .ref q)] := hl
  generalize ([.ref q] : List Value).toArray = args at hts ⊢
  refine lv_aload_n hx hb dJx4a65c_isEmpty_aae02_0 rfl (lv_at hl 0 rfl) ?_
  obtain ⟨hP, hf⟩ := o_al (i := 0) (q := q) hM (by omega)
  refine va_get (D := (dC, dI)) (ci := 3) (v := .int (pI g q 0)) (C := RJx4a65c) (T := TJx4a65c) (N := 3) hx hb hts (by decide +kernel) hown hK hP 0 rfl rfl 2 (by decide) (hts (.fieldLink RJx4a65c 48 "java/util/ArrayList" "size" "I") (by decide +kernel)) (fun _ h9 => h9) rfl dJx4a65c_isEmpty_aae02_1 ?_
  have hv1 := hf.1
  have hv2 := hf.2.1
  have hv3 := hf.2.2
  refine lv_if_ne (tgt := 11) hx hb dJx4a65c_isEmpty_aae02_4 (by decide) (fun c4 => ?_) (fun c4 => ?_)
  · skip
    refine lv_iconst (v := 0) hx hb dJx4a65c_isEmpty_aae02_11 (by decide) ?_
    refine W.widen (k := 0) (n := 0) (Nat.le_of_ble_eq_true rfl) (Nat.le_of_ble_eq_true rfl) ?_
    exact W.zret (v := 0) (ty := .boolean) hx hb hr rfl (fun t ht hW => ⟨⟨0, (), rfl, (Or.inl ⟨rfl, c4⟩), CX.give hb0 hM hK hG hE hS ht hW⟩, hS.F ht⟩) hS.2.2 dJx4a65c_isEmpty_aae02_12
  · skip
    refine lv_iconst (v := 1) hx hb dJx4a65c_isEmpty_aae02_7 (by decide) ?_
    refine lv_goto (tgt := 12) hx hb dJx4a65c_isEmpty_aae02_8 (by decide) ?_
    refine W.widen (k := 0) (n := 0) (Nat.le_of_ble_eq_true rfl) (Nat.le_of_ble_eq_true rfl) ?_
    exact W.zret (v := 1) (ty := .boolean) hx hb hr rfl (fun t ht hW => ⟨⟨1, (), rfl, (Or.inr ⟨rfl, c4⟩), CX.give hb0 hM hK hG hE hS ht hW⟩, hS.F ht⟩) hS.2.2 dJx4a65c_isEmpty_aae02_12

set_option maxHeartbeats 4000000 in
set_option maxRecDepth 100000 in
theorem rj_ck3 (l : Launch)  (x n : Int32) (h0 : 0 ≤ x.toInt) (h1 : x.toInt < n.toInt) : Met l yJ3_checkIndex_8e157 wsJ3_checkIndex_8e157 ({ frames := 0, cells := 0, slots := 0, locals := 0 }) (va_Pc [.int x, .int n, .null] (fun _ => True)) (va_Qi (fun (r : Int32) (u : Unit) => r = x) (fun (u : Unit) t => True) (fun _ => False)) 0 0 (fun _ => False) := by
  refine va_MetF (cc := cJ3_checkIndex_8e157) (maxL := 3) (ret := (some .int)) (by decide +kernel) rfl ?_
  intro p e s m args below meth c s₁ B hml hv
  obtain ⟨rfl, -⟩ := hv
  have hx := B.exec
  have hb := B.bytes
  have hr := B.returns
  have hts := atoms_spec (ws := wsJ3_checkIndex_8e157) B.pre
  have hown : s.vm.findClass RJ3 = some m.cls := findClass_of_methodNamed B.named
  have hlocks := B.notSynchronized
  have hM : True := trivial
  have hS : va_S (fun _ => False) s.heap s.heap [] := va_S.rf
  have hl := lv_entry ([.int x, .int n, .null]) (n := 3) (Nat.le_of_ble_eq_true rfl)
  rw [lg_entry_eq]
  generalize (lg_sl ([.int x, .int n, .null]) ++ List.replicate (3 - (lg_sl ([.int x, .int n, .null])).length) Slot.unset).toArray = ls at hl ⊢
  have hl : lv_has ls 3 [(0, .int x), (1, .int n), (2, .null)] := hl
  generalize ([.int x, .int n, .null] : List Value).toArray = args at hts ⊢
  refine lv_iload_n hx hb dJ3_checkIndex_8e157_0 rfl (lv_at hl 0 rfl) ?_
  refine lv_if_lt (tgt := 9) hx hb dJ3_checkIndex_8e157_1 (by decide) (fun c1 => ?_) (fun c1 => ?_)
  · skip
    have i2 := (Int32.lt_iff_toInt_lt).mp c1
    have ii2 : (0 : Int32).toInt = 0 := by decide
    have i2 := i2
    exfalso; omega
  · skip
    have i3 := fun z => c1 ((Int32.lt_iff_toInt_lt).mpr z)
    have ii3 : (0 : Int32).toInt = 0 := by decide
    have i3 : ¬ ((x : Int32).toInt < (0 : Int32).toInt) := i3
    refine lv_iload_n hx hb dJ3_checkIndex_8e157_4 rfl (lv_at hl 0 rfl) ?_
    refine lv_iload_n hx hb dJ3_checkIndex_8e157_5 rfl (lv_at hl 1 rfl) ?_
    refine lv_icmp_lt (tgt := 16) hx hb dJ3_checkIndex_8e157_6 (by decide) (fun c4 => ?_) (fun c4 => ?_)
    · skip
      have i5 := (Int32.lt_iff_toInt_lt).mp c4
      have i5 := i5
      refine lv_iload_n hx hb dJ3_checkIndex_8e157_16 rfl (lv_at hl 0 rfl) ?_
      refine W.widen (k := 0) (n := 0) (Nat.le_of_ble_eq_true rfl) (Nat.le_of_ble_eq_true rfl) ?_
      exact W.iret (v := x) hx hb hr (fun t ht hW => ⟨⟨x, (), rfl, rfl, trivial⟩, hS.F ht⟩) hS.2.2 dJ3_checkIndex_8e157_17
    · skip
      have i6 := fun z => c4 ((Int32.lt_iff_toInt_lt).mpr z)
      have i6 : ¬ ((x : Int32).toInt < (n : Int32).toInt) := i6
      exfalso; omega

set_option maxHeartbeats 4000000 in
set_option maxRecDepth 100000 in
theorem rj_ck (l : Launch)  (x n : Int32) (h0 : 0 ≤ x.toInt) (h1 : x.toInt < n.toInt) : Met l yJ15_checkIndex_7cf53 wsJ15_checkIndex_7cf53 ({ frames := 1, cells := 0, slots := 0, locals := 22 }) (va_Pc [.int x, .int n] (fun _ => True)) (va_Qi (fun (r : Int32) (u : Unit) => r = x) (fun (u : Unit) t => True) (fun _ => False)) 0 0 (fun _ => False) := by
  refine va_MetF (cc := cJ15_checkIndex_7cf53) (maxL := 2) (ret := (some .int)) (by decide +kernel) rfl ?_
  intro p e s m args below meth c s₁ B hml hv
  obtain ⟨rfl, -⟩ := hv
  have hx := B.exec
  have hb := B.bytes
  have hr := B.returns
  have hts := atoms_spec (ws := wsJ15_checkIndex_7cf53) B.pre
  have hown : s.vm.findClass RJ15 = some m.cls := findClass_of_methodNamed B.named
  have hlocks := B.notSynchronized
  have hM : True := trivial
  have hS : va_S (fun _ => False) s.heap s.heap [] := va_S.rf
  have hl := lv_entry ([.int x, .int n]) (n := 2) (Nat.le_of_ble_eq_true rfl)
  rw [lg_entry_eq]
  generalize (lg_sl ([.int x, .int n]) ++ List.replicate (2 - (lg_sl ([.int x, .int n])).length) Slot.unset).toArray = ls at hl ⊢
  have hl : lv_has ls 2 [(0, .int x), (1, .int n)] := hl
  generalize ([.int x, .int n] : List Value).toArray = args at hts ⊢
  refine lv_iload_n hx hb dJ15_checkIndex_7cf53_0 rfl (lv_at hl 0 rfl) ?_
  refine lv_iload_n hx hb dJ15_checkIndex_7cf53_1 rfl (lv_at hl 1 rfl) ?_
  refine lv_null hx hb dJ15_checkIndex_7cf53_2 ?_
  refine va_calli (va_runS (As := [.int x, .int n, .null]) (rest := []) ⟨hx, hb, hml, hown, hts⟩ (rj_ck3 l x n h0 h1) (va_cwS 3 hts gJ15_checkIndex_7cf53_J3_checkIndex_8e157 rfl rfl rfl (by decide +kernel) ⟨Nat.le_of_ble_eq_true rfl, Nat.le_of_ble_eq_true rfl⟩) ⟨fun a U g mk q => q, fun U hU hW => ⟨rfl, trivial⟩⟩ rfl rfl hl.1 rfl (lv_room (Nat.le_of_ble_eq_true rfl)) dJ15_checkIndex_7cf53_3 ⟨(Nat.le_of_ble_eq_true rfl), (Nat.le_of_ble_eq_true rfl)⟩) hS (fun q _ h => h.elim) (fun q h => h.elim) (fun r1 u t H locs ht hvm hw2 hB hz1 hk1 hS => ?_)
  have hM := hM
  obtain rfl : x = r1 := hw2.symm
  refine W.widen (k := 0) (n := 0) (Nat.le_of_ble_eq_true rfl) (Nat.le_of_ble_eq_true rfl) ?_
  exact W.iret (v := x) hx hb hr (fun t ht hW => ⟨⟨x, (), rfl, rfl, trivial⟩, hS.F ht⟩) hS.2.2 dJ15_checkIndex_7cf53_6

set_option maxHeartbeats 4000000 in
set_option maxRecDepth 100000 in
theorem rj_elem (l : Launch) (dC : Nat → ClassId) (dI : Nat → Nat → Nat) (kA : Nat → ClassId) (eD b : Nat) (g : Gh) (q : Nat) (j : Nat) (hto : tg g q = 26) (hj : (j : Int) < (pI g q 0).toInt) : Met l yJx4a65c_elementData_915e3 wsJx4a65c_elementData_915e3 ({ frames := 0, cells := 0, slots := 0, locals := 0 }) (va_Pc [.ref q, .int (nI j)] (CX (dC, dI) kA eD b g)) (va_Qr (fun (u : Unit) => True) (fun (u : Unit) (ra : Nat) t => (CX (dC, dI) kA eD b g t ∧ tg g ra = 28 + 64 * j ∧ pO g (pF g q 0) j = some ra)) (fun q => b ≤ q)) 0 0 (fun q => b ≤ q) := by
  refine va_MetF (cc := cJx4a65c_elementData_915e3) (maxL := 2) (ret := (some (.object "java/lang/Object"))) (by decide +kernel) rfl ?_
  intro p e s m args below meth c s₁ B hml hv
  obtain ⟨rfl, hb0, hM, hK, hG, hE⟩ := hv
  have hx := B.exec
  have hb := B.bytes
  have hr := B.returns
  have hts := atoms_spec (ws := wsJx4a65c_elementData_915e3) B.pre
  have hown : s.vm.findClass RJx4a65c = some m.cls := findClass_of_methodNamed B.named
  have hlocks := B.notSynchronized
  have hT := hE.1
  have hN := hE.2.2.2.2.2.2.2.1
  have hS : va_S (fun q => b ≤ q) s.heap s.heap [] := va_S.rf
  have hl := lv_entry ([.ref q, .int (nI j)]) (n := 2) (Nat.le_of_ble_eq_true rfl)
  rw [lg_entry_eq]
  generalize (lg_sl ([.ref q, .int (nI j)]) ++ List.replicate (2 - (lg_sl ([.ref q, .int (nI j)])).length) Slot.unset).toArray = ls at hl ⊢
  have hl : lv_has ls 2 [(0, .ref q), (1, .int (nI j))] := hl
  generalize ([.ref q, .int (nI j)] : List Value).toArray = args at hts ⊢
  obtain ⟨hP9, hf9⟩ := o_al (i := 0) (q := q) hM (by omega)
  have h27 := hf9.2.1 (fun z => by have z2 : (pI g q 0).toInt = 0 := z; omega)
  obtain ⟨ra, hra⟩ := hG.1 q hto j hj
  have hj3 := hf9.1
  refine lv_aload_n hx hb dJx4a65c_elementData_915e3_0 rfl (lv_at hl 0 rfl) ?_
  obtain ⟨hP, hf⟩ := o_al (i := 0) (q := q) hM (by omega)
  refine va_get (D := (dC, dI)) (ci := 3) (v := .ref (pF g q 0)) (C := RJx4a65c) (T := TJx4a65c) (N := 3) hx hb hts (by decide +kernel) hown hK hP 0 rfl rfl 1 (by decide) (hts (.fieldLink RJx4a65c 9 "java/util/ArrayList" "elementData" "[Ljava/lang/Object;") (by decide +kernel)) (fun _ h9 => h9) rfl dJx4a65c_elementData_915e3_1 ?_
  refine lv_iload_n hx hb dJx4a65c_elementData_915e3_4 rfl (lv_at hl 1 rfl) ?_
  obtain ⟨hP, hf⟩ := o_el (i := 0) (q := (pF g q 0)) hM (by omega)
  refine va_aldq (D := (dC, dI)) hx hb hK hP 0 10 rfl rfl (vp_in_nI (by omega) (by decide)) dJx4a65c_elementData_915e3_5 ?_
  have ec : ((nI j) : Int32).toNatClampNeg = j := nI_clamp (by omega)
  rw [ec]
  have hq1 := hf j (by omega)
  rw [hra]
  have ht2 : tg g ra = 28 + 64 * j := hq1 ra hra
  refine W.widen (k := 0) (n := 0) (Nat.le_of_ble_eq_true rfl) (Nat.le_of_ble_eq_true rfl) ?_
  exact W.aret (v := .ref ra) hx hb hr (Or.inl ⟨_, rfl⟩) (Or.inr ⟨_, rfl⟩) (fun t ht hW => ⟨⟨(), ra, rfl, trivial, ⟨CX.give hb0 hM hK hG hE hS ht hW, ht2, (by first | exact hra | rfl)⟩⟩, hS.F ht⟩) hS.2.2 dJx4a65c_elementData_915e3_6

set_option maxHeartbeats 4000000 in
set_option maxRecDepth 100000 in
theorem rj_get (l : Launch) (dC : Nat → ClassId) (dI : Nat → Nat → Nat) (kA : Nat → ClassId) (eD b : Nat) (g : Gh) (q : Nat) (j : Nat) (hto : tg g q = 26) (hj : (j : Int) < (pI g q 0).toInt) : Met l yJx4a65c_get_915e3 wsJx4a65c_get_915e3 ({ frames := 2, cells := 0, slots := 0, locals := 43 }) (va_Pc [.ref q, .int (nI j)] (CX (dC, dI) kA eD b g)) (va_Qr (fun (u : Unit) => True) (fun (u : Unit) (ra : Nat) t => (CX (dC, dI) kA eD b g t ∧ tg g ra = 28 + 64 * j ∧ pO g (pF g q 0) j = some ra)) (fun q => b ≤ q)) 0 0 (fun q => b ≤ q) := by
  refine va_MetF (cc := cJx4a65c_get_915e3) (maxL := 2) (ret := (some (.object "java/lang/Object"))) (by decide +kernel) rfl ?_
  intro p e s m args below meth c s₁ B hml hv
  obtain ⟨rfl, hb0, hM, hK, hG, hE⟩ := hv
  have hx := B.exec
  have hb := B.bytes
  have hr := B.returns
  have hts := atoms_spec (ws := wsJx4a65c_get_915e3) B.pre
  have hown : s.vm.findClass RJx4a65c = some m.cls := findClass_of_methodNamed B.named
  have hlocks := B.notSynchronized
  have hT := hE.1
  have hN := hE.2.2.2.2.2.2.2.1
  have hS : va_S (fun q => b ≤ q) s.heap s.heap [] := va_S.rf
  have hl := lv_entry ([.ref q, .int (nI j)]) (n := 2) (Nat.le_of_ble_eq_true rfl)
  rw [lg_entry_eq]
  generalize (lg_sl ([.ref q, .int (nI j)]) ++ List.replicate (2 - (lg_sl ([.ref q, .int (nI j)])).length) Slot.unset).toArray = ls at hl ⊢
  have hl : lv_has ls 2 [(0, .ref q), (1, .int (nI j))] := hl
  generalize ([.ref q, .int (nI j)] : List Value).toArray = args at hts ⊢
  obtain ⟨hP9, hf9⟩ := o_al (i := 0) (q := q) hM (by omega)
  have h27 := hf9.2.1 (fun z => by have z2 : (pI g q 0).toInt = 0 := z; omega)
  obtain ⟨ra, hra⟩ := hG.1 q hto j hj
  have hj3 := hf9.1
  have ej : (nI j).toInt = (j : Int) := nI_toInt (by omega)
  have hlo : 0 ≤ (nI j).toInt := by omega
  have hhi : (nI j).toInt < (pI g q 0).toInt := by omega
  refine lv_iload_n hx hb dJx4a65c_get_915e3_0 rfl (lv_at hl 1 rfl) ?_
  refine lv_aload_n hx hb dJx4a65c_get_915e3_1 rfl (lv_at hl 0 rfl) ?_
  obtain ⟨hP, hf⟩ := o_al (i := 0) (q := q) hM (by omega)
  refine va_get (D := (dC, dI)) (ci := 3) (v := .int (pI g q 0)) (C := RJx4a65c) (T := TJx4a65c) (N := 3) hx hb hts (by decide +kernel) hown hK hP 0 rfl rfl 2 (by decide) (hts (.fieldLink RJx4a65c 48 "java/util/ArrayList" "size" "I") (by decide +kernel)) (fun _ h9 => h9) rfl dJx4a65c_get_915e3_2 ?_
  have hv1 := hf.1
  have hv2 := hf.2.1
  have hv3 := hf.2.2
  refine va_calli (va_runS (As := [.int (nI j), .int (pI g q 0)]) (rest := []) ⟨hx, hb, hml, hown, hts⟩ (rj_ck l (nI j) (pI g q 0) hlo hhi) (va_cwS 2 hts gJx4a65c_get_915e3_J15_checkIndex_7cf53 rfl rfl rfl (by decide +kernel) ⟨Nat.le_of_ble_eq_true rfl, Nat.le_of_ble_eq_true rfl⟩) ⟨fun a U g mk q => q, fun U hU hW => ⟨rfl, trivial⟩⟩ rfl rfl hl.1 rfl (lv_room (Nat.le_of_ble_eq_true rfl)) dJx4a65c_get_915e3_5 ⟨(Nat.le_of_ble_eq_true rfl), (Nat.le_of_ble_eq_true rfl)⟩) hS (fun q _ h => h.elim) (fun q h => h.elim) (fun r4 u t H locs ht hvm hw5 hB hz1 hk1 hS => ?_)
  have hM := hM.keep (fun p hp => hk1 p hp (fun z => z))
  refine lv_pop hx hb dJx4a65c_get_915e3_8 rfl ?_
  refine lv_aload_n hx hb dJx4a65c_get_915e3_9 rfl (lv_at hl 0 rfl) ?_
  refine lv_iload_n hx hb dJx4a65c_get_915e3_10 rfl (lv_at hl 1 rfl) ?_
  obtain ⟨hP, hf⟩ := o_al (i := 0) (q := q) hM (by omega)
  refine va_callr (va_runV (As := [.int (nI j)]) (rest := []) ⟨hx, hb, hml, hown, hts⟩ (rj_elem l dC dI kA eD b g q j (by omega) (by omega)) (cwV 1 hts gJx4a65c_get_915e3_Jx4a65c_elementData_915e3 rfl rfl rfl (by decide +kernel) ⟨Nat.le_of_ble_eq_true rfl, Nat.le_of_ble_eq_true rfl⟩) ⟨fb_CX, va_recv hK hP (ci := 3) (q0 := 0) rfl rfl, fun U hU hW => ⟨rfl, CX.give hb0 hM hK hG hE hS hU hW⟩⟩ rfl rfl hl.1 rfl (lv_room (Nat.le_of_ble_eq_true rfl)) dJx4a65c_get_915e3_11 ⟨(Nat.le_of_ble_eq_true rfl), (Nat.le_of_ble_eq_true rfl)⟩) hS (fun q _ h => h) (fun q h => h) (fun u r6 t H locs ht hvm hw7 hB hz1 hk1 hS => ?_)
  have hM := hB.1.back ht
  have hG := hB.1.2.2.2.1
  have ht8 : tg g r6 = 28 + 64 * j := hB.2.1
  have hg9 : pO g (pF g q 0) j = some r6 := hB.2.2
  refine W.widen (k := 0) (n := 0) (Nat.le_of_ble_eq_true rfl) (Nat.le_of_ble_eq_true rfl) ?_
  exact W.aret (v := .ref r6) hx hb hr (Or.inl ⟨_, rfl⟩) (Or.inr ⟨_, rfl⟩) (fun t ht hW => ⟨⟨(), r6, rfl, trivial, ⟨CX.give hb0 hM hK hG hE hS ht hW, ht8, hg9⟩⟩, hS.F ht⟩) hS.2.2 dJx4a65c_get_915e3_14

set_option maxHeartbeats 4000000 in
set_option maxRecDepth 100000 in
theorem rj_itrI (l : Launch) (dC : Nat → ClassId) (dI : Nat → Nat → Nat) (kA : Nat → ClassId) (eD b : Nat) (g : Gh) (o : Nat) (q mo : Nat) (hto : tg g q = 26) : Met l yJx35411_init_45d68 wsJx35411_init_45d68 ({ frames := 1, cells := 0, slots := 0, locals := 12 }) (va_Pc [.ref o, .ref q] (CXn (dC, dI) kA eD b g o (.inr (2, [.int 0, .int 0, .int 0, .null])))) (va_Qv (fun (u : Gh) => Ext mo X0 g u ∧ tg u o = 40 ∧ pI u o 0 = 0 ∧ pI u o 1 = pI g q 1 ∧ pF u o 0 = q) (fun (u : Gh) t => CX (dC, dI) kA eD b u t) (fun q => b ≤ q)) 0 0 (fun q => b ≤ q) := by
  refine va_MetF (cc := cJx35411_init_45d68) (maxL := 2) (ret := none) (by decide +kernel) rfl ?_
  intro p e s m args below meth c s₁ B hml hv
  obtain ⟨rfl, ⟨hb0, hM, hK, hG, hE⟩, hf0, hbo, hXo⟩ := hv
  have hx := B.exec
  have hb := B.bytes
  have hr := B.returns
  have hts := atoms_spec (ws := wsJx35411_init_45d68) B.pre
  have hown : s.vm.findClass RJx35411 = some m.cls := findClass_of_methodNamed B.named
  have hlocks := B.notSynchronized
  have hin : meth.name = "<init>" := (name_of_methodNamed B.named B.method).1
  have hT := hE.1
  have hN := hE.2.2.2.2.2.2.2.1
  have hS : va_S (fun q => b ≤ q) s.heap s.heap [] := va_S.rf
  have hl := lv_entry ([.ref o, .ref q]) (n := 2) (Nat.le_of_ble_eq_true rfl)
  rw [lg_entry_eq]
  generalize (lg_sl ([.ref o, .ref q]) ++ List.replicate (2 - (lg_sl ([.ref o, .ref q])).length) Slot.unset).toArray = ls at hl ⊢
  have hl : lv_has ls 2 [(0, .ref o), (1, .ref q)] := hl
  generalize ([.ref o, .ref q] : List Value).toArray = args at hts ⊢
  refine lv_aload_n hx hb dJx35411_init_45d68_0 rfl (lv_at hl 0 rfl) ?_
  refine lv_aload_n hx hb dJx35411_init_45d68_1 rfl (lv_at hl 1 rfl) ?_
  refine rt_putF (D := (dC, dI)) (ci := 2) (v := .ref q) (ty := (.object "java/util/ArrayList")) (C := RJx35411) (T := TJx35411) (N := 4) hx hb hts (by decide +kernel) tyJx35411 tyJx35411_ok nmJx35411 hown hK hXo hbo hS rfl 3 (by decide) (hts (.fieldLink RJx35411 1 "java/util/ArrayList$Itr" "this$0" "Ljava/util/ArrayList;") (by decide +kernel)) (fun _ h9 => h9) rfl hin rfl (by decide +kernel) rfl rfl (Nat.le_of_ble_eq_true rfl) dJx35411_init_45d68_2 (fun H locs hP hz ho hS => ?_)
  have hM := hM.out hf0 ho
  have hXo : va_P (dC, dI) vwCl [(o, .inr (2, [.int 0, .int 0, .int 0, .ref q]))] H := hP
  refine lv_aload_n hx hb dJx35411_init_45d68_5 rfl (lv_at hl 0 rfl) ?_
  refine W.objInit hx hb hown (hts (.methodLink RJx35411 7 objectInit) (by decide +kernel)) (hts (.instanceMethod objectInit) (by decide +kernel)) (hts (.code objectInit ⟨#[0xb1]⟩ 1 none) (by decide +kernel)) rfl (by rw [hml]; exact hl.1) rfl dJx35411_init_45d68_6 (Nat.le_of_ble_eq_true rfl) (Nat.le_of_ble_eq_true rfl) ?_
  refine W.eq (g2 := F0 m 9 ls []) rfl ?_
  refine lv_aload_n hx hb dJx35411_init_45d68_9 rfl (lv_at hl 0 rfl) ?_
  refine lv_iconst (v := (-1)) hx hb dJx35411_init_45d68_10 (by decide) ?_
  refine rt_put (D := (dC, dI)) (ci := 2) (v := .int (-1)) (ty := .int) (C := RJx35411) (T := TJx35411) (N := 4) hx hb hts (by decide +kernel) tyJx35411 tyJx35411_ok nmJx35411 hown hK hXo hbo hS rfl 1 (by decide) (hts (.fieldLink RJx35411 13 "java/util/ArrayList$Itr" "lastRet" "I") (by decide +kernel)) (fun _ h9 => h9) rfl (by decide +kernel) rfl rfl (Nat.le_of_ble_eq_true rfl) dJx35411_init_45d68_11 (fun H locs hP hz ho hS => ?_)
  have hM := hM.out hf0 ho
  have hXo : va_P (dC, dI) vwCl [(o, .inr (2, [.int 0, .int (-1), .int 0, .ref q]))] H := hP
  refine lv_aload_n hx hb dJx35411_init_45d68_14 rfl (lv_at hl 0 rfl) ?_
  refine lv_aload_n hx hb dJx35411_init_45d68_15 rfl (lv_at hl 0 rfl) ?_
  refine va_get (D := (dC, dI)) (ci := 2) (v := .ref q) (C := RJx35411) (T := TJx35411) (N := 4) hx hb hts (by decide +kernel) hown hK hXo 0 rfl rfl 3 (by decide) (hts (.fieldLink RJx35411 1 "java/util/ArrayList$Itr" "this$0" "Ljava/util/ArrayList;") (by decide +kernel)) (fun _ h9 => h9) rfl dJx35411_init_45d68_16 ?_
  obtain ⟨hP, hf⟩ := o_al (i := 0) (q := q) hM (by omega)
  refine va_get (D := (dC, dI)) (ci := 3) (v := .int (pI g q 1)) (C := RJx4a65c) (T := TJx4a65c) (N := 3) hx hb hts (by decide +kernel) hown hK hP 0 rfl rfl 0 (by decide) (hts (.fieldLink RJx35411 17 "java/util/ArrayList" "modCount" "I") (by decide +kernel)) (fun x9 h9 => u_same (hts (.sameField "java/util/ArrayList" "java/util/AbstractList" "modCount" "I") (by decide +kernel)) x9 h9) rfl dJx35411_init_45d68_19 ?_
  refine rt_put (D := (dC, dI)) (ci := 2) (v := .int (pI g q 1)) (ty := .int) (C := RJx35411) (T := TJx35411) (N := 4) hx hb hts (by decide +kernel) tyJx35411 tyJx35411_ok nmJx35411 hown hK hXo hbo hS rfl 2 (by decide) (hts (.fieldLink RJx35411 22 "java/util/ArrayList$Itr" "expectedModCount" "I") (by decide +kernel)) (fun _ h9 => h9) rfl (by decide +kernel) rfl rfl (Nat.le_of_ble_eq_true rfl) dJx35411_init_45d68_22 (fun H locs hP hz ho hS => ?_)
  have hM := hM.out hf0 ho
  have hXo : va_P (dC, dI) vwCl [(o, .inr (2, [.int 0, .int (-1), .int (pI g q 1), .ref q]))] H := hP
  have hM9 := hM.tell (t := 40) (fi := (fun j9 => if j9 = 1 then pI g q 1 else 0)) (ff := (fun _ => q)) (fo := (fun _ => none)) (fl := (fun _ => 0)) hf0 hbo hXo (by rw [show 40 % 64 = 40 by omega, show 40 / 64 = 0 by omega]; exact TE.m40 ⟨-1, rfl, (nw_k hto (by decide) hf0)⟩)
  have hG9 := nw_G (t := 40) (fi := (fun j9 => if j9 = 1 then pI g q 1 else 0)) (ff := (fun _ => q)) (fo := (fun _ => none)) (fl := (fun _ => 0)) hG hM hf0 (by omega) (fun h9 => by omega)
  have hx2 : Ext mo X0 g (nw g o 40 (fun j9 => if j9 = 1 then pI g q 1 else 0) (fun _ => q) (fun _ => none) (fun _ => 0)) := Ext.nw hf0
  obtain ⟨g1, hg1⟩ : ∃ z, z = nw g o 40 (fun j9 => if j9 = 1 then pI g q 1 else 0) (fun _ => q) (fun _ => none) (fun _ => 0) := ⟨_, rfl⟩
  rw [← hg1] at hM9 hG9 hx2
  have hM := hM9
  have hG := hG9
  have ht3 : tg g1 q = 26 := hx2.tk hto (by omega)
  have ht4 : tg g1 o = 40 := by rw [hg1]; exact nw_t
  refine W.widen (k := 0) (n := 0) (Nat.le_of_ble_eq_true rfl) (Nat.le_of_ble_eq_true rfl) ?_
  exact W.vret hx hb hr (fun t ht hW => ⟨⟨g1, rfl, ⟨hx2, ht4, by rw [hg1]; exact congrFun nw_I 0, by rw [hg1]; exact congrFun nw_I 1, by rw [hg1]; exact congrFun nw_F 0⟩, CX.give hb0 hM hK hG hE hS ht hW⟩, hS.F ht⟩) hS.2.2 dJx35411_init_45d68_25

set_option maxHeartbeats 4000000 in
set_option maxRecDepth 100000 in
theorem rj_iter (l : Launch) (dC : Nat → ClassId) (dI : Nat → Nat → Nat) (kA : Nat → ClassId) (eD b : Nat) (g : Gh) (q : Nat) (mo : Nat) (hto : tg g q = 26)  : Met l yJx4a65c_iterator_32c93 wsJx4a65c_iterator_32c93 ({ frames := 2, cells := 1, slots := 4, locals := 33 }) (va_Pc [.ref q] (CX (dC, dI) kA eD b g)) (va_Qr (fun (u : Gh) => Ext mo X0 g u ∧ True) (fun (u : Gh) (ra : Nat) t => (CX (dC, dI) kA eD b u t ∧ tg u ra = 40 ∧ pI u ra 0 = 0 ∧ pI u ra 1 = pI g q 1 ∧ pF u ra 0 = q ∧ tg g ra = 0)) (fun q => b ≤ q)) 1 4 (fun q => b ≤ q) := by
  refine va_MetF (cc := cJx4a65c_iterator_32c93) (maxL := 1) (ret := (some (.object "java/util/Iterator"))) (by decide +kernel) rfl ?_
  intro p e s m args below meth c s₁ B hml hv
  obtain ⟨rfl, hb0, hM, hK, hG, hE⟩ := hv
  have hx := B.exec
  have hb := B.bytes
  have hr := B.returns
  have hts := atoms_spec (ws := wsJx4a65c_iterator_32c93) B.pre
  have hown : s.vm.findClass RJx4a65c = some m.cls := findClass_of_methodNamed B.named
  have hlocks := B.notSynchronized
  have hT := hE.1
  have hN := hE.2.2.2.2.2.2.2.1
  have hS : va_S (fun q => b ≤ q) s.heap s.heap [] := va_S.rf
  have hl := lv_entry ([.ref q]) (n := 1) (Nat.le_of_ble_eq_true rfl)
  rw [lg_entry_eq]
  generalize (lg_sl ([.ref q]) ++ List.replicate (1 - (lg_sl ([.ref q])).length) Slot.unset).toArray = ls at hl ⊢
  have hl : lv_has ls 1 [(0, .ref q)] := hl
  generalize ([.ref q] : List Value).toArray = args at hts ⊢
  obtain ⟨q1, hq1⟩ : ∃ z, z = s.heap.size := ⟨_, rfl⟩
  have fq1 : tg g q1 = 0 := by rw [hq1]; exact hM.fresh
  have bq1 : b ≤ q1 := by rw [hq1]; exact Nat.le_trans hb0 hS.1
  refine rt_new (D := (dC, dI)) (ci := 2) (fs := [.int 0, .int 0, .int 0, .null]) (C := RJx35411) (T := TJx35411) (N := 4) hx hb hts (by decide +kernel) tyJx35411 tyJx35411_ok hown (hts (.classLink RJx4a65c 267 RJx35411) (by decide +kernel)) (hts (.instantiable RJx35411 4) (by decide +kernel)) (hts (.initialized RJx35411) (by decide +kernel)) hK hS rfl (fun j hj => by rcases (show j = 0 ∨ j = 1 ∨ j = 2 ∨ j = 3 by omega) with rfl | rfl | rfl | rfl <;> rfl) (Nat.le_of_ble_eq_true rfl) (Nat.le_of_ble_eq_true rfl) dJx4a65c_iterator_32c93_0 (fun H hP hz ho hS => ?_)
  rw [← hq1] at hP ⊢
  have hM := hM.keep ho
  have hXq1 : va_P (dC, dI) vwCl [(q1, .inr (2, [.int 0, .int 0, .int 0, .null]))] H := hP
  refine lv_dup hx hb dJx4a65c_iterator_32c93_3 rfl ?_
  refine lv_aload_n hx hb dJx4a65c_iterator_32c93_4 rfl (lv_at hl 0 rfl) ?_
  refine va_callv (va_runI (As := [.ref q]) (rest := [.ref q1]) ⟨hx, hb, hml, hown, hts⟩ (rj_itrI l dC dI kA eD b g q1 q mo (by omega)) (cwI 1 hts gJx4a65c_iterator_32c93_Jx35411_init_45d68 rfl rfl rfl (hts (.initialized RJx35411) (by decide +kernel)) (hts (.methodLink RJx4a65c 269 yJx35411_init_45d68) (by decide +kernel)) (hts (.instanceMethod yJx35411_init_45d68) (by decide +kernel)) rfl (by decide +kernel) ⟨Nat.le_of_ble_eq_true rfl, Nat.le_of_ble_eq_true rfl⟩) ⟨fb_CXn, fun U hU hW => ⟨rfl, CXn.give (s := s) (locs := []) (CX.give hb0 hM hK hG hE hS hU hW) fq1 bq1 hXq1 hU⟩⟩ rfl rfl hl.1 rfl (lv_room (Nat.le_of_ble_eq_true rfl)) dJx4a65c_iterator_32c93_5 ⟨(Nat.le_of_ble_eq_true rfl), (Nat.le_of_ble_eq_true rfl)⟩) hS (fun q _ h => h) (fun q h => h) (fun g2 t H locs ht hvm hw3 hB hz1 hk1 hS => ?_)
  have hM := hB.back ht
  have hG := hB.2.2.2.1
  have hx4 : Ext mo X0 g g2 := hw3.1
  have ht5 : tg g2 q = 26 := hx4.tk hto (by omega)
  have ht6 : tg g2 q1 = 40 := hw3.2.1
  refine W.widen (k := 1) (n := 4) (Nat.le_of_ble_eq_true rfl) (Nat.le_of_ble_eq_true rfl) ?_
  exact W.aret (v := .ref q1) hx hb hr (Or.inl ⟨_, rfl⟩) (Or.inr ⟨_, rfl⟩) (fun t ht hW => ⟨⟨g2, q1, rfl, ⟨hx4, trivial⟩, ⟨CX.give hb0 hM hK hG hE hS ht hW, ht6, hw3.2.2.1, hw3.2.2.2.1, hw3.2.2.2.2, fq1⟩⟩, hS.F ht⟩) hS.2.2 dJx4a65c_iterator_32c93_8

set_option maxHeartbeats 4000000 in
set_option maxRecDepth 100000 in
theorem rj_hasNext (l : Launch) (dC : Nat → ClassId) (dI : Nat → Nat → Nat) (kA : Nat → ClassId) (eD b : Nat) (g : Gh) (h : Nat)  (hto : tg g h = 40)  : Met l yJx35411_hasNext_aae02 wsJx35411_hasNext_aae02 ({ frames := 0, cells := 0, slots := 0, locals := 0 }) (va_Pc [.ref h] (CX (dC, dI) kA eD b g)) (va_Qi (fun (r : Int32) (u : Unit) => (r = 0 ∧ pI g h 0 = pI g (pF g h 0) 0) ∨ (¬ r = 0 ∧ ¬ pI g h 0 = pI g (pF g h 0) 0)) (fun (u : Unit) t => CX (dC, dI) kA eD b g t) (fun q => b ≤ q)) 0 0 (fun q => b ≤ q) := by
  refine va_MetF (cc := cJx35411_hasNext_aae02) (maxL := 1) (ret := (some .boolean)) (by decide +kernel) rfl ?_
  intro p e s m args below meth c s₁ B hml hv
  obtain ⟨rfl, hb0, hM, hK, hG, hE⟩ := hv
  have hx := B.exec
  have hb := B.bytes
  have hr := B.returns
  have hts := atoms_spec (ws := wsJx35411_hasNext_aae02) B.pre
  have hown : s.vm.findClass RJx35411 = some m.cls := findClass_of_methodNamed B.named
  have hlocks := B.notSynchronized
  have hT := hE.1
  have hN := hE.2.2.2.2.2.2.2.1
  have hS : va_S (fun q => b ≤ q) s.heap s.heap [] := va_S.rf
  have hl := lv_entry ([.ref h]) (n := 1) (Nat.le_of_ble_eq_true rfl)
  rw [lg_entry_eq]
  generalize (lg_sl ([.ref h]) ++ List.replicate (1 - (lg_sl ([.ref h])).length) Slot.unset).toArray = ls at hl ⊢
  have hl : lv_has ls 1 [(0, .ref h)] := hl
  generalize ([.ref h] : List Value).toArray = args at hts ⊢
  refine lv_aload_n hx hb dJx35411_hasNext_aae02_0 rfl (lv_at hl 0 rfl) ?_
  obtain ⟨u1, hP, hf⟩ := o_it (i := 0) (q := h) hM (by omega)
  refine va_get (D := (dC, dI)) (ci := 2) (v := .int (pI g h 0)) (C := RJx35411) (T := TJx35411) (N := 4) hx hb hts (by decide +kernel) hown hK hP 0 rfl rfl 0 (by decide) (hts (.fieldLink RJx35411 25 "java/util/ArrayList$Itr" "cursor" "I") (by decide +kernel)) (fun _ h9 => h9) rfl dJx35411_hasNext_aae02_1 ?_
  refine lv_aload_n hx hb dJx35411_hasNext_aae02_4 rfl (lv_at hl 0 rfl) ?_
  obtain ⟨u2, hP, hf⟩ := o_it (i := 0) (q := h) hM (by omega)
  refine va_get (D := (dC, dI)) (ci := 2) (v := .ref (pF g h 0)) (C := RJx35411) (T := TJx35411) (N := 4) hx hb hts (by decide +kernel) hown hK hP 0 rfl rfl 3 (by decide) (hts (.fieldLink RJx35411 1 "java/util/ArrayList$Itr" "this$0" "Ljava/util/ArrayList;") (by decide +kernel)) (fun _ h9 => h9) rfl dJx35411_hasNext_aae02_5 ?_
  have ht3 : tg g (pF g h 0) = 26 := hf
  obtain ⟨hP, hf⟩ := o_al (i := 0) (q := (pF g h 0)) hM (by omega)
  refine va_getN (D := (dC, dI)) (ci := 3) (v := .int (pI g (pF g h 0) 0)) (C := RJx4a65c) (T := TJx4a65c) (N := 3) hx hb hts (by decide +kernel) hown hK hP 0 rfl rfl 2 (by decide) (hN (.fieldLinkNest RJx35411 28 "java/util/ArrayList" "size" "I" RJx4a65c) (by decide +kernel)) (fun _ h9 => h9) rfl dJx35411_hasNext_aae02_8 ?_
  have hv4 := hf.1
  have hv5 := hf.2.1
  have hv6 := hf.2.2
  refine lv_icmp_eq (tgt := 18) hx hb dJx35411_hasNext_aae02_11 (by decide) (fun c7 => ?_) (fun c7 => ?_)
  · skip
    refine lv_iconst (v := 0) hx hb dJx35411_hasNext_aae02_18 (by decide) ?_
    refine W.widen (k := 0) (n := 0) (Nat.le_of_ble_eq_true rfl) (Nat.le_of_ble_eq_true rfl) ?_
    exact W.zret (v := 0) (ty := .boolean) hx hb hr rfl (fun t ht hW => ⟨⟨0, (), rfl, (Or.inl ⟨rfl, c7⟩), CX.give hb0 hM hK hG hE hS ht hW⟩, hS.F ht⟩) hS.2.2 dJx35411_hasNext_aae02_19
  · skip
    refine lv_iconst (v := 1) hx hb dJx35411_hasNext_aae02_14 (by decide) ?_
    refine lv_goto (tgt := 19) hx hb dJx35411_hasNext_aae02_15 (by decide) ?_
    refine W.widen (k := 0) (n := 0) (Nat.le_of_ble_eq_true rfl) (Nat.le_of_ble_eq_true rfl) ?_
    exact W.zret (v := 1) (ty := .boolean) hx hb hr rfl (fun t ht hW => ⟨⟨1, (), rfl, (Or.inr ⟨by decide, c7⟩), CX.give hb0 hM hK hG hE hS ht hW⟩, hS.F ht⟩) hS.2.2 dJx35411_hasNext_aae02_19

set_option maxHeartbeats 4000000 in
set_option maxRecDepth 100000 in
theorem rj_mod (l : Launch) (dC : Nat → ClassId) (dI : Nat → Nat → Nat) (kA : Nat → ClassId) (eD b : Nat) (g : Gh) (h : Nat)  (hto : tg g h = 40) (hmod : pI g (pF g h 0) 1 = pI g h 1) : Met l yJx35411_checkForComodification_da8c8 wsJx35411_checkForComodification_da8c8 ({ frames := 0, cells := 0, slots := 0, locals := 0 }) (va_Pc [.ref h] (CX (dC, dI) kA eD b g)) (va_Qv (fun (u : Unit) => True) (fun (u : Unit) t => CX (dC, dI) kA eD b g t) (fun q => b ≤ q)) 0 0 (fun q => b ≤ q) := by
  refine va_MetF (cc := cJx35411_checkForComodification_da8c8) (maxL := 1) (ret := none) (by decide +kernel) rfl ?_
  intro p e s m args below meth c s₁ B hml hv
  obtain ⟨rfl, hb0, hM, hK, hG, hE⟩ := hv
  have hx := B.exec
  have hb := B.bytes
  have hr := B.returns
  have hts := atoms_spec (ws := wsJx35411_checkForComodification_da8c8) B.pre
  have hown : s.vm.findClass RJx35411 = some m.cls := findClass_of_methodNamed B.named
  have hlocks := B.notSynchronized
  have hT := hE.1
  have hN := hE.2.2.2.2.2.2.2.1
  have hS : va_S (fun q => b ≤ q) s.heap s.heap [] := va_S.rf
  have hl := lv_entry ([.ref h]) (n := 1) (Nat.le_of_ble_eq_true rfl)
  rw [lg_entry_eq]
  generalize (lg_sl ([.ref h]) ++ List.replicate (1 - (lg_sl ([.ref h])).length) Slot.unset).toArray = ls at hl ⊢
  have hl : lv_has ls 1 [(0, .ref h)] := hl
  generalize ([.ref h] : List Value).toArray = args at hts ⊢
  refine lv_aload_n hx hb dJx35411_checkForComodification_da8c8_0 rfl (lv_at hl 0 rfl) ?_
  obtain ⟨u1, hP, hf⟩ := o_it (i := 0) (q := h) hM (by omega)
  refine va_get (D := (dC, dI)) (ci := 2) (v := .ref (pF g h 0)) (C := RJx35411) (T := TJx35411) (N := 4) hx hb hts (by decide +kernel) hown hK hP 0 rfl rfl 3 (by decide) (hts (.fieldLink RJx35411 1 "java/util/ArrayList$Itr" "this$0" "Ljava/util/ArrayList;") (by decide +kernel)) (fun _ h9 => h9) rfl dJx35411_checkForComodification_da8c8_1 ?_
  have ht2 : tg g (pF g h 0) = 26 := hf
  obtain ⟨hP, hf⟩ := o_al (i := 0) (q := (pF g h 0)) hM (by omega)
  refine va_get (D := (dC, dI)) (ci := 3) (v := .int (pI g (pF g h 0) 1)) (C := RJx4a65c) (T := TJx4a65c) (N := 3) hx hb hts (by decide +kernel) hown hK hP 0 rfl rfl 0 (by decide) (hts (.fieldLink RJx35411 17 "java/util/ArrayList" "modCount" "I") (by decide +kernel)) (fun x9 h9 => u_same (hts (.sameField "java/util/ArrayList" "java/util/AbstractList" "modCount" "I") (by decide +kernel)) x9 h9) rfl dJx35411_checkForComodification_da8c8_4 ?_
  refine lv_aload_n hx hb dJx35411_checkForComodification_da8c8_7 rfl (lv_at hl 0 rfl) ?_
  obtain ⟨u3, hP, hf⟩ := o_it (i := 0) (q := h) hM (by omega)
  refine va_get (D := (dC, dI)) (ci := 2) (v := .int (pI g h 1)) (C := RJx35411) (T := TJx35411) (N := 4) hx hb hts (by decide +kernel) hown hK hP 0 rfl rfl 2 (by decide) (hts (.fieldLink RJx35411 22 "java/util/ArrayList$Itr" "expectedModCount" "I") (by decide +kernel)) (fun _ h9 => h9) rfl dJx35411_checkForComodification_da8c8_8 ?_
  refine lv_icmp_eq (tgt := 22) hx hb dJx35411_checkForComodification_da8c8_11 (by decide) (fun c4 => ?_) (fun c4 => ?_)
  · skip
    refine W.widen (k := 0) (n := 0) (Nat.le_of_ble_eq_true rfl) (Nat.le_of_ble_eq_true rfl) ?_
    exact W.vret hx hb hr (fun t ht hW => ⟨⟨(), rfl, trivial, CX.give hb0 hM hK hG hE hS ht hW⟩, hS.F ht⟩) hS.2.2 dJx35411_checkForComodification_da8c8_22
  · skip
    exact absurd hmod ‹_›

set_option maxHeartbeats 4000000 in
set_option maxRecDepth 100000 in
theorem rj_next (l : Launch) (dC : Nat → ClassId) (dI : Nat → Nat → Nat) (kA : Nat → ClassId) (eD b : Nat) (g : Gh) (h : Nat) (j : Nat) (hto : tg g h = 40) (hc : pI g h 0 = nI j) (hj : (j : Int) < (pI g (pF g h 0) 0).toInt) (hmod : pI g (pF g h 0) 1 = pI g h 1) : Met l yJx35411_next_0502b wsJx35411_next_0502b ({ frames := 1, cells := 0, slots := 0, locals := 20 }) (va_Pc [.ref h] (CX (dC, dI) kA eD b g)) (va_Qr (fun (u : Gh) => u = sI g h 0 (nI (j + 1)) ∧ True) (fun (u : Gh) (ra : Nat) t => (CX (dC, dI) kA eD b u t ∧ tg u ra = 28 + 64 * j ∧ pO g (pF g (pF g h 0) 0) j = some ra)) (fun q => b ≤ q)) 0 0 (fun q => b ≤ q) := by
  refine va_MetF (cc := cJx35411_next_0502b) (maxL := 3) (ret := (some (.object "java/lang/Object"))) (by decide +kernel) rfl ?_
  intro p e s m args below meth c s₁ B hml hv
  obtain ⟨rfl, hb0, hM, hK, hG, hE⟩ := hv
  have hx := B.exec
  have hb := B.bytes
  have hr := B.returns
  have hts := atoms_spec (ws := wsJx35411_next_0502b) B.pre
  have hown : s.vm.findClass RJx35411 = some m.cls := findClass_of_methodNamed B.named
  have hlocks := B.notSynchronized
  have hT := hE.1
  have hN := hE.2.2.2.2.2.2.2.1
  have hS : va_S (fun q => b ≤ q) s.heap s.heap [] := va_S.rf
  have hl := lv_entry ([.ref h]) (n := 3) (Nat.le_of_ble_eq_true rfl)
  rw [lg_entry_eq]
  generalize (lg_sl ([.ref h]) ++ List.replicate (3 - (lg_sl ([.ref h])).length) Slot.unset).toArray = ls at hl ⊢
  have hl : lv_has ls 3 [(0, .ref h)] := hl
  generalize ([.ref h] : List Value).toArray = args at hts ⊢
  obtain ⟨u8, hP8, hf8⟩ := o_it (i := 0) (q := h) hM (by omega)
  have hq26 : tg g (pF g h 0) = 26 := hf8
  obtain ⟨hP9, hf9⟩ := o_al (i := 0) (q := pF g h 0) hM (by omega)
  have h27 := hf9.2.1 (fun z => by have z2 : (pI g (pF g h 0) 0).toInt = 0 := z; omega)
  obtain ⟨ra, hra⟩ := hG.1 _ hq26 j hj
  have hj3 := hf9.1
  have ej : (nI j).toInt = (j : Int) := nI_toInt (by omega)
  refine lv_aload_n hx hb dJx35411_next_0502b_0 rfl (lv_at hl 0 rfl) ?_
  obtain ⟨u1, hP, hf⟩ := o_it (i := 0) (q := h) hM (by omega)
  refine va_callv (va_runV (As := []) (rest := []) ⟨hx, hb, hml, hown, hts⟩ (rj_mod l dC dI kA eD b g h (by omega) hmod) (cwV 0 hts gJx35411_next_0502b_Jx35411_checkForComodification_da8c8 rfl rfl rfl (by decide +kernel) ⟨Nat.le_of_ble_eq_true rfl, Nat.le_of_ble_eq_true rfl⟩) ⟨fb_CX, va_recv hK hP (ci := 2) (q0 := 0) rfl rfl, fun U hU hW => ⟨rfl, CX.give hb0 hM hK hG hE hS hU hW⟩⟩ rfl rfl hl.1 rfl (lv_room (Nat.le_of_ble_eq_true rfl)) dJx35411_next_0502b_1 ⟨(Nat.le_of_ble_eq_true rfl), (Nat.le_of_ble_eq_true rfl)⟩) hS (fun q _ h => h) (fun q h => h) (fun u t H locs ht hvm hw3 hB hz1 hk1 hS => ?_)
  have hM := hB.back ht
  have hG := hB.2.2.2.1
  refine lv_aload_n hx hb dJx35411_next_0502b_4 rfl (lv_at hl 0 rfl) ?_
  obtain ⟨u4, hP, hf⟩ := o_it (i := 0) (q := h) hM (by omega)
  refine va_get (D := (dC, dI)) (ci := 2) (v := .int (pI g h 0)) (C := RJx35411) (T := TJx35411) (N := 4) hx hb hts (by decide +kernel) hown hK hP 0 rfl rfl 0 (by decide) (hts (.fieldLink RJx35411 25 "java/util/ArrayList$Itr" "cursor" "I") (by decide +kernel)) (fun _ h9 => h9) rfl dJx35411_next_0502b_5 ?_
  rw [hc]
  refine lv_istore_n (lv' := [(1, .int (nI j)), (0, .ref h)]) hx hb dJx35411_next_0502b_8 rfl hl (by decide) rfl (fun ls hl => ?_)
  refine lv_iload_n hx hb dJx35411_next_0502b_9 rfl (lv_at hl 0 rfl) ?_
  refine lv_aload_n hx hb dJx35411_next_0502b_10 rfl (lv_at hl 1 rfl) ?_
  obtain ⟨u5, hP, hf⟩ := o_it (i := 0) (q := h) hM (by omega)
  refine va_get (D := (dC, dI)) (ci := 2) (v := .ref (pF g h 0)) (C := RJx35411) (T := TJx35411) (N := 4) hx hb hts (by decide +kernel) hown hK hP 0 rfl rfl 3 (by decide) (hts (.fieldLink RJx35411 1 "java/util/ArrayList$Itr" "this$0" "Ljava/util/ArrayList;") (by decide +kernel)) (fun _ h9 => h9) rfl dJx35411_next_0502b_11 ?_
  obtain ⟨hP, hf⟩ := o_al (i := 0) (q := (pF g h 0)) hM (by omega)
  refine va_getN (D := (dC, dI)) (ci := 3) (v := .int (pI g (pF g h 0) 0)) (C := RJx4a65c) (T := TJx4a65c) (N := 3) hx hb hts (by decide +kernel) hown hK hP 0 rfl rfl 2 (by decide) (hN (.fieldLinkNest RJx35411 28 "java/util/ArrayList" "size" "I" RJx4a65c) (by decide +kernel)) (fun _ h9 => h9) rfl dJx35411_next_0502b_14 ?_
  have hv6 := hf.1
  have hv7 := hf.2.1
  have hv8 := hf.2.2
  refine lv_icmp_lt (tgt := 28) hx hb dJx35411_next_0502b_17 (by decide) (fun c9 => ?_) (fun c9 => ?_)
  · skip
    have i10 := (Int32.lt_iff_toInt_lt).mp c9
    have ii10 : ((nI j) : Int32).toInt = ((j : Nat) : Int) := nI_toInt (by omega)
    have i10 := i10
    refine lv_aload_n hx hb dJx35411_next_0502b_28 rfl (lv_at hl 1 rfl) ?_
    obtain ⟨u11, hP, hf⟩ := o_it (i := 0) (q := h) hM (by omega)
    refine va_get (D := (dC, dI)) (ci := 2) (v := .ref (pF g h 0)) (C := RJx35411) (T := TJx35411) (N := 4) hx hb hts (by decide +kernel) hown hK hP 0 rfl rfl 3 (by decide) (hts (.fieldLink RJx35411 1 "java/util/ArrayList$Itr" "this$0" "Ljava/util/ArrayList;") (by decide +kernel)) (fun _ h9 => h9) rfl dJx35411_next_0502b_29 ?_
    obtain ⟨hP, hf⟩ := o_al (i := 0) (q := (pF g h 0)) hM (by omega)
    refine va_get (D := (dC, dI)) (ci := 3) (v := .ref (pF g (pF g h 0) 0)) (C := RJx4a65c) (T := TJx4a65c) (N := 3) hx hb hts (by decide +kernel) hown hK hP 0 rfl rfl 1 (by decide) (hts (.fieldLink RJx35411 37 "java/util/ArrayList" "elementData" "[Ljava/lang/Object;") (by decide +kernel)) (fun _ h9 => h9) rfl dJx35411_next_0502b_32 ?_
    refine lv_astore_n (lv' := [(2, .ref (pF g (pF g h 0) 0)), (1, .int (nI j)), (0, .ref h)]) hx hb dJx35411_next_0502b_35 rfl hl (by decide) rfl (fun ls hl => ?_)
    refine lv_iload_n hx hb dJx35411_next_0502b_36 rfl (lv_at hl 1 rfl) ?_
    refine lv_aload_n hx hb dJx35411_next_0502b_37 rfl (lv_at hl 0 rfl) ?_
    obtain ⟨hP, hf⟩ := o_el (i := 0) (q := (pF g (pF g h 0) 0)) hM (by omega)
    refine va_alen (D := (dC, dI)) hx hb hK hP 0 10 rfl rfl (v := 10) (by rfl) dJx35411_next_0502b_38 ?_
    refine lv_icmp_lt (tgt := 50) hx hb dJx35411_next_0502b_39 (by decide) (fun c12 => ?_) (fun c12 => ?_)
    · skip
      have k13 : j < 10 := (nI_ltI (a := j) (b := 10) (by omega) (by omega)).mp c12
      refine lv_aload_n hx hb dJx35411_next_0502b_50 rfl (lv_at hl 2 rfl) ?_
      refine lv_iload_n hx hb dJx35411_next_0502b_51 rfl (lv_at hl 1 rfl) ?_
      refine lv_iconst (v := 1) hx hb dJx35411_next_0502b_52 (by decide) ?_
      refine lv_iadd hx hb dJx35411_next_0502b_53 ?_
      refine lv_topi (fun v14 e15 => ?_)
      obtain rfl : v14 = nI (j + 1) := e15.trans (nI_add j 1)
      obtain ⟨u16, hP, hf⟩ := o_it (i := 0) (q := h) hM (by omega)
      refine rt_put (D := (dC, dI)) (ci := 2) (v := .int (nI (j + 1))) (ty := .int) (C := RJx35411) (T := TJx35411) (N := 4) hx hb hts (by decide +kernel) tyJx35411 tyJx35411_ok nmJx35411 hown hK hP (hM.ge (by omega)) hS rfl 0 (by decide) (hts (.fieldLink RJx35411 25 "java/util/ArrayList$Itr" "cursor" "I") (by decide +kernel)) (fun _ h9 => h9) rfl (by decide +kernel) rfl rfl (Nat.le_of_ble_eq_true rfl) dJx35411_next_0502b_54 (fun H locs hP hz ho hS => ?_)
      have hM0 := hM
      have hM := p_it (i := 0) (f := upd (pI g h) 0 (nI (j + 1))) hM (by omega) hP ho hf
      obtain ⟨g18, hg18⟩ : ∃ z, z = uI g h (upd (pI g h) 0 (nI (j + 1))) := ⟨_, rfl⟩
      rw [← hg18] at hM
      have ht19 : tg g18 h = 40 := by rw [hg18]; exact hto
      have ht20 : tg g18 (pF g h 0) = 26 := by rw [hg18]; exact hq26
      have ht21 : tg g18 (pF g (pF g h 0) 0) = 27 := by rw [hg18]; exact h27
      have hG : GOK g18 := by rw [hg18]; exact (hG.uI hM0 (Or.inl (by omega)))
      have hra2 : pO g18 (pF g (pF g h 0) 0) j = some ra := by rw [hg18]; exact hra
      refine lv_aload_n hx hb dJx35411_next_0502b_57 rfl (lv_at hl 0 rfl) ?_
      refine lv_aload_n hx hb dJx35411_next_0502b_58 rfl (lv_at hl 2 rfl) ?_
      refine lv_iload_n hx hb dJx35411_next_0502b_59 rfl (lv_at hl 1 rfl) ?_
      refine lv_dup_x1 hx hb dJx35411_next_0502b_60 rfl rfl ?_
      obtain ⟨u23, hP, hf⟩ := o_it (i := 0) (q := h) hM (by omega)
      refine rt_put (D := (dC, dI)) (ci := 2) (v := .int (nI j)) (ty := .int) (C := RJx35411) (T := TJx35411) (N := 4) hx hb hts (by decide +kernel) tyJx35411 tyJx35411_ok nmJx35411 hown hK hP (hM.ge (by omega)) hS rfl 1 (by decide) (hts (.fieldLink RJx35411 13 "java/util/ArrayList$Itr" "lastRet" "I") (by decide +kernel)) (fun _ h9 => h9) rfl (by decide +kernel) rfl rfl (Nat.le_of_ble_eq_true rfl) dJx35411_next_0502b_61 (fun H locs hP hz ho hS => ?_)
      have hM := s_it (i := 0) hM (by omega) hP ho hf
      obtain ⟨hP, hf⟩ := o_el (i := 0) (q := (pF g (pF g h 0) 0)) hM (by omega)
      refine va_aldq (D := (dC, dI)) hx hb hK hP 0 10 rfl rfl (vp_in_nI (by omega) (by decide)) dJx35411_next_0502b_64 ?_
      have ec : ((nI j) : Int32).toNatClampNeg = j := nI_clamp (by omega)
      rw [ec]
      have hq24 := hf j (by omega)
      rw [hra2]
      have ht25 : tg g18 ra = 28 + 64 * j := hq24 ra hra2
      refine W.widen (k := 0) (n := 0) (Nat.le_of_ble_eq_true rfl) (Nat.le_of_ble_eq_true rfl) ?_
      exact W.aret (v := .ref ra) hx hb hr (Or.inl ⟨_, rfl⟩) (Or.inr ⟨_, rfl⟩) (fun t ht hW => ⟨⟨g18, ra, rfl, ⟨(by subst hg18; rfl), trivial⟩, ⟨CX.give hb0 hM hK hG hE hS ht hW, ht25, hra⟩⟩, hS.F ht⟩) hS.2.2 dJx35411_next_0502b_65
    · skip
      have k26 : ¬ (j < 10) := fun z => c12 ((nI_ltI (a := j) (b := 10) (by omega) (by omega)).mpr z)
      exfalso; omega
  · skip
    have i27 := fun z => c9 ((Int32.lt_iff_toInt_lt).mpr z)
    have ii27 : ((nI j) : Int32).toInt = ((j : Nat) : Int) := nI_toInt (by omega)
    have i27 : ¬ (((nI j) : Int32).toInt < ((pI g (pF g h 0) 0) : Int32).toInt) := i27
    exfalso; omega
