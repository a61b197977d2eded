set_option maxHeartbeats 4000000 in
set_option maxRecDepth 100000 in
theorem rj_grow1 (l : Launch) (dC : Nat → ClassId) (dI : Nat → Nat → Nat) (kA : Nat → ClassId) (eD b : Nat) (g : Gh) (q : Nat)  (hto : tg g q = 26) (h0 : pI g q 0 = 0) (hed : pF g q 0 = eD) : Met l yJx4a65c_grow_92f84 wsJx4a65c_grow_92f84 ({ frames := 1, cells := 1, slots := 10, locals := 14 }) (va_Pc [.ref q, .int 1] (CX (dC, dI) kA eD b g)) (va_Qr (fun (u : Gh) => Gx q g u ∧ pF u q 1 = pF g q 1) (fun (u : Gh) (ra : Nat) t => (CX (dC, dI) kA eD b u t ∧ ra = pF u q 0 ∧ tg u ra = 27)) (fun q => b ≤ q)) 1 10 (fun q => b ≤ q) := by
  refine va_MetF (cc := cJx4a65c_grow_92f84) (maxL := 4) (ret := (some (.array (.object "java/lang/Object")))) (by decide +kernel) rfl ?_
  intro p e s m args below meth c s₁ B hml hv
  obtain ⟨rfl, hb0, hM, hK, hG, hE⟩ := hv
  have hx := B.exec
  have hb := B.bytes
  have hr := B.returns
  have hts := atoms_spec (ws := wsJx4a65c_grow_92f84) B.pre
  have hown : s.vm.findClass RJx4a65c = some m.cls := findClass_of_methodNamed B.named
  have hlocks := B.notSynchronized
  have hT := hE.1
  have hN := hE.2.2.2.2.2.2.2.1
  have hS : va_S (fun q => b ≤ q) s.heap s.heap [] := va_S.rf
  have hl := lv_entry ([.ref q, .int 1]) (n := 4) (Nat.le_of_ble_eq_true rfl)
  rw [lg_entry_eq]
  generalize (lg_sl ([.ref q, .int 1]) ++ List.replicate (4 - (lg_sl ([.ref q, .int 1])).length) Slot.unset).toArray = ls at hl ⊢
  have hl : lv_has ls 4 [(0, .ref q), (1, .int 1)] := hl
  generalize ([.ref q, .int 1] : List Value).toArray = args at hts ⊢
  refine lv_aload_n hx hb dJx4a65c_grow_92f84_0 rfl (lv_at hl 0 rfl) ?_
  obtain ⟨hP, hf⟩ := o_al (i := 0) (q := q) hM (by omega)
  refine va_get (D := (dC, dI)) (ci := 3) (v := .ref (pF g q 0)) (C := RJx4a65c) (T := TJx4a65c) (N := 3) hx hb hts (by decide +kernel) hown hK hP 0 rfl rfl 1 (by decide) (hts (.fieldLink RJx4a65c 9 "java/util/ArrayList" "elementData" "[Ljava/lang/Object;") (by decide +kernel)) (fun _ h9 => h9) rfl dJx4a65c_grow_92f84_1 ?_
  rw [hed]
  refine va_tlen hx hb hE.2.2.2.1.2.1 hS (v := 0) (by decide) dJx4a65c_grow_92f84_4 ?_
  refine lv_istore_n (lv' := [(2, .int 0), (0, .ref q), (1, .int 1)]) hx hb dJx4a65c_grow_92f84_5 rfl hl (by decide) rfl (fun ls hl => ?_)
  refine lv_iload_n hx hb dJx4a65c_grow_92f84_6 rfl (lv_at hl 0 rfl) ?_
  refine lv_if_gt (tgt := 20) hx hb dJx4a65c_grow_92f84_7 (by decide) (fun cx => by first | exact absurd cx (by decide) | exact absurd (by decide) cx) (fun _ => ?_)
  refine lv_aload_n hx hb dJx4a65c_grow_92f84_10 rfl (lv_at hl 1 rfl) ?_
  obtain ⟨hP, hf⟩ := o_al (i := 0) (q := q) hM (by omega)
  refine va_get (D := (dC, dI)) (ci := 3) (v := .ref (pF g q 0)) (C := RJx4a65c) (T := TJx4a65c) (N := 3) hx hb hts (by decide +kernel) hown hK hP 0 rfl rfl 1 (by decide) (hts (.fieldLink RJx4a65c 9 "java/util/ArrayList" "elementData" "[Ljava/lang/Object;") (by decide +kernel)) (fun _ h9 => h9) rfl dJx4a65c_grow_92f84_11 ?_
  rw [hed]
  refine va_gets hx hb hE.2.2.2.1.1 hS hown (hts (.fieldLink RJx4a65c 39 "java/util/ArrayList" "DEFAULTCAPACITY_EMPTY_ELEMENTDATA" "[Ljava/lang/Object;") (by decide +kernel)) (fun _ h9 => h9) dJx4a65c_grow_92f84_14 ?_
  refine lv_acmp_eq (rx := some eD) (ry := some eD) (tgt := 45) hx hb dJx4a65c_grow_92f84_17 (by decide) (fun _ => ?_) (fun c9 => absurd rfl c9)
  refine lv_aload_n hx hb dJx4a65c_grow_92f84_45 rfl (lv_at hl 1 rfl) ?_
  refine lv_bipush (v := 10) hx hb dJx4a65c_grow_92f84_46 (by decide) ?_
  refine lv_iload_n hx hb dJx4a65c_grow_92f84_48 rfl (lv_at hl 2 rfl) ?_
  refine va_mmax hx hb (hml.trans hl.1.symm) hown (hts (.methodLink RJx4a65c 79 Lib.Math.max.name) (by decide +kernel)) (hts (.static Lib.Math.max.name) (by decide +kernel)) (hts (.initialized "java/lang/Math") (by decide +kernel)) (hts (.code Lib.Math.max.name Lib.Math.max.code 2 (some .int)) (by decide +kernel)) (Nat.le_of_ble_eq_true rfl) (Nat.le_of_ble_eq_true rfl) (Nat.le_of_ble_eq_true rfl) (Nat.le_of_ble_eq_true rfl) dJx4a65c_grow_92f84_49 ?_
  refine lv_topi (fun v1 e2 => ?_)
  obtain rfl : v1 = (10 : Int32) := e2.trans (by decide)
  obtain ⟨q3, hq3⟩ : ∃ z, z = s.heap.size := ⟨_, rfl⟩
  have fq3 : tg g q3 = 0 := by rw [hq3]; exact hM.fresh
  have bq3 : b ≤ q3 := by rw [hq3]; exact Nat.le_trans hb0 hS.1
  refine rt_newq (D := (dC, dI)) (t0 := 10) (C := "java/lang/Object") hx hb hown (hts (.classLink RJx4a65c 7 "java/lang/Object") (by decide +kernel)) hE.2.2.2.1.2.2.1 hK rfl hS (n := 10) (by decide) (N' := 10) rfl (by decide) (Nat.le_of_ble_eq_true rfl) (Nat.le_of_ble_eq_true rfl) dJx4a65c_grow_92f84_52 (fun H hP hz ho hS => ?_)
  rw [← hq3] at hP ⊢
  have hM := hM.keep ho
  have hM9 := hM.tell (t := 27) (fi := (fun _ => 0)) (ff := (fun _ => 0)) (fo := (fun _ => none)) (fl := (fun _ => 0)) fq3 bq3 hP (by rw [show 27 % 64 = 27 by omega, show 27 / 64 = 0 by omega]; exact TE.m27 ⟨rfl, fun j hj a9 ha9 => absurd ha9 (by simp)⟩)
  have hG9 := nw_G (t := 27) (fi := (fun _ => 0)) (ff := (fun _ => 0)) (fo := (fun _ => none)) (fl := (fun _ => 0)) hG hM fq3 (by omega) (fun h9 => by omega)
  have hx5 : Ext 0 X0 g (nw g q3 27 (fun _ => 0) (fun _ => 0) (fun _ => none) (fun _ => 0)) := Ext.nw fq3
  obtain ⟨g4, hg4⟩ : ∃ z, z = nw g q3 27 (fun _ => 0) (fun _ => 0) (fun _ => none) (fun _ => 0) := ⟨_, rfl⟩
  rw [← hg4] at hM9 hG9 hx5
  have hM := hM9
  have hG := hG9
  have ht6 : tg g4 q = 26 := hx5.tk hto (by omega)
  have ht7 : tg g4 q3 = 27 := by rw [hg4]; exact nw_t
  refine lv_dup_x1 hx hb dJx4a65c_grow_92f84_55 rfl rfl ?_
  obtain ⟨hP, hf⟩ := o_al (i := 0) (q := q) hM (by omega)
  have h9 : pI g4 q 0 = 0 := by rw [hg4]; exact (congrFun (if_neg (fun z => by have z2 := hto; rw [z] at z2; have z3 := fq3; omega)) 0).trans h0
  refine rt_put (D := (dC, dI)) (ci := 3) (v := .ref q3) (ty := (.array (.object "java/lang/Object"))) (C := RJx4a65c) (T := TJx4a65c) (N := 3) hx hb hts (by decide +kernel) tyJx4a65c tyJx4a65c_ok nmJx4a65c hown hK hP (hM.ge (by omega)) hS rfl 1 (by decide) (hts (.fieldLink RJx4a65c 9 "java/util/ArrayList" "elementData" "[Ljava/lang/Object;") (by decide +kernel)) (fun _ h9 => h9) rfl (by decide +kernel) rfl rfl (Nat.le_of_ble_eq_true rfl) dJx4a65c_grow_92f84_56 (fun H locs hP hz ho hS => ?_)
  have z9 : (pI g4 q 0).toInt = 0 := by rw [h9]; rfl
  have hM2 := pf_al (f := (fun j9 => if j9 = 0 then q3 else pF g4 q j9)) hM ht6 hP ho ⟨⟨by omega, by omega⟩, fun _ => ht7, fun _ => Or.inr ht7⟩
  have hG2 := gok_uF0 (f := (fun j9 => if j9 = 0 then q3 else pF g4 q j9)) hG ht6 z9
  obtain ⟨g8, hg8⟩ : ∃ z, z = uF g4 q (fun j9 => if j9 = 0 then q3 else pF g4 q j9) := ⟨_, rfl⟩
  rw [← hg8] at hM2 hG2
  have hM := hM2
  have hG := hG2
  have ht9 : tg g8 q = 26 := by rw [hg8]; exact ht6
  have ht10 : tg g8 q3 = 27 := by rw [hg8]; exact ht7
  have hgx : Gx q g g8 := fun a ha => by
    have e1 : a ≠ q3 := fun z => ha (by rw [z]; exact fq3)
    rw [hg8, hg4]
    exact ⟨if_neg e1, if_neg e1, fun e2 => (uF_n e2).trans (if_neg e1), if_neg e1, if_neg e1⟩
  have hq1 : pF g8 q 1 = pF g q 1 := by rw [hg8, uF_s]; show pF g4 q 1 = pF g q 1; rw [hg4]; exact congrFun (if_neg (fun z => by have z2 := hto; rw [z] at z2; have z3 := fq3; omega)) 1
  have hq0 : pF g8 q 0 = q3 := by rw [hg8, uF_s]; rfl
  refine W.widen (k := 1) (n := 10) (Nat.le_of_ble_eq_true rfl) (Nat.le_of_ble_eq_true rfl) ?_
  exact W.aret (v := .ref q3) hx hb hr (Or.inr ⟨_, rfl⟩) (Or.inr ⟨_, rfl⟩) (fun t ht hW => ⟨⟨g8, q3, rfl, ⟨hgx, hq1⟩, ⟨CX.give hb0 hM hK hG hE hS ht hW, hq0.symm, ht10⟩⟩, hS.F ht⟩) hS.2.2 dJx4a65c_grow_92f84_59

set_option maxHeartbeats 4000000 in
set_option maxRecDepth 100000 in
theorem rj_grow0 (l : Launch) (dC : Nat → ClassId) (dI : Nat → Nat → Nat) (kA : Nat → ClassId) (eD b : Nat) (g : Gh) (q : Nat)  (hto : tg g q = 26) (h0 : pI g q 0 = 0) (hed : pF g q 0 = eD) : Met l yJx4a65c_grow_d5877 wsJx4a65c_grow_d5877 ({ frames := 2, cells := 1, slots := 10, locals := 37 }) (va_Pc [.ref q] (CX (dC, dI) kA eD b g)) (va_Qr (fun (u : Gh) => Gx q g u ∧ pF u q 1 = pF g q 1) (fun (u : Gh) (ra : Nat) t => (CX (dC, dI) kA eD b u t ∧ ra = pF u q 0 ∧ tg u ra = 27)) (fun q => b ≤ q)) 1 10 (fun q => b ≤ q) := by
  refine va_MetF (cc := cJx4a65c_grow_d5877) (maxL := 1) (ret := (some (.array (.object "java/lang/Object")))) (by decide +kernel) rfl ?_
  intro p e s m args below meth c s₁ B hml hv
  obtain ⟨rfl, hb0, hM, hK, hG, hE⟩ := hv
  have hx := B.exec
  have hb := B.bytes
  have hr := B.returns
  have hts := atoms_spec (ws := wsJx4a65c_grow_d5877) B.pre
  have hown : s.vm.findClass RJx4a65c = some m.cls := findClass_of_methodNamed B.named
  have hlocks := B.notSynchronized
  have hT := hE.1
  have hN := hE.2.2.2.2.2.2.2.1
  have hS : va_S (fun q => b ≤ q) s.heap s.heap [] := va_S.rf
  have hl := lv_entry ([.ref q]) (n := 1) (Nat.le_of_ble_eq_true rfl)
  rw [lg_entry_eq]
  generalize (lg_sl ([.ref q]) ++ List.replicate (1 - (lg_sl ([.ref q])).length) Slot.unset).toArray = ls at hl ⊢
  have hl : lv_has ls 1 [(0, .ref q)] := hl
  generalize ([.ref q] : List Value).toArray = args at hts ⊢
  refine lv_aload_n hx hb dJx4a65c_grow_d5877_0 rfl (lv_at hl 0 rfl) ?_
  refine lv_aload_n hx hb dJx4a65c_grow_d5877_1 rfl (lv_at hl 0 rfl) ?_
  obtain ⟨hP, hf⟩ := o_al (i := 0) (q := q) hM (by omega)
  refine va_get (D := (dC, dI)) (ci := 3) (v := .int (pI g q 0)) (C := RJx4a65c) (T := TJx4a65c) (N := 3) hx hb hts (by decide +kernel) hown hK hP 0 rfl rfl 2 (by decide) (hts (.fieldLink RJx4a65c 48 "java/util/ArrayList" "size" "I") (by decide +kernel)) (fun _ h9 => h9) rfl dJx4a65c_grow_d5877_2 ?_
  have hv1 := hf.1
  have hv2 := hf.2.1
  have hv3 := hf.2.2
  rw [h0]
  refine lv_iconst (v := 1) hx hb dJx4a65c_grow_d5877_5 (by decide) ?_
  refine lv_iadd hx hb dJx4a65c_grow_d5877_6 ?_
  refine lv_topi (fun v4 e5 => ?_)
  obtain rfl : v4 = (1 : Int32) := e5.trans (by decide)
  obtain ⟨hP, hf⟩ := o_al (i := 0) (q := q) hM (by omega)
  refine va_callr (va_runV (As := [.int 1]) (rest := []) ⟨hx, hb, hml, hown, hts⟩ (rj_grow1 l dC dI kA eD b g q (by omega) h0 hed) (cwV 1 hts gJx4a65c_grow_d5877_Jx4a65c_grow_92f84 rfl rfl rfl (by decide +kernel) ⟨Nat.le_of_ble_eq_true rfl, Nat.le_of_ble_eq_true rfl⟩) ⟨fb_CX, va_recv hK hP (ci := 3) (q0 := 0) rfl rfl, fun U hU hW => ⟨rfl, CX.give hb0 hM hK hG hE hS hU hW⟩⟩ rfl rfl hl.1 rfl (lv_room (Nat.le_of_ble_eq_true rfl)) dJx4a65c_grow_d5877_7 ⟨(Nat.le_of_ble_eq_true rfl), (Nat.le_of_ble_eq_true rfl)⟩) hS (fun q _ h => h) (fun q h => h) (fun g8 r6 t H locs ht hvm hw7 hB hz1 hk1 hS => ?_)
  have hM := hB.1.back ht
  have hG := hB.1.2.2.2.1
  have ht9 : tg g8 q = 26 := (hw7.1 q (by omega)).1.trans hto
  have hq11 : r6 = pF g8 q 0 := hB.2.1
  have ht10 : tg g8 r6 = 27 := hB.2.2
  refine W.widen (k := 1) (n := 10) (Nat.le_of_ble_eq_true rfl) (Nat.le_of_ble_eq_true rfl) ?_
  exact W.aret (v := .ref r6) hx hb hr (Or.inr ⟨_, rfl⟩) (Or.inr ⟨_, rfl⟩) (fun t ht hW => ⟨⟨g8, r6, rfl, ⟨hw7.1, hw7.2⟩, ⟨CX.give hb0 hM hK hG hE hS ht hW, hq11, ht10⟩⟩, hS.F ht⟩) hS.2.2 dJx4a65c_grow_d5877_10

set_option maxHeartbeats 4000000 in
set_option maxRecDepth 100000 in
theorem rj_add3 (l : Launch) (dC : Nat → ClassId) (dI : Nat → Nat → Nat) (kA : Nat → ClassId) (eD b : Nat) (g : Gh) (q : Nat) (vv ar k : Nat) (hto : tg g q = 26) (hk : k < 3) (hsz : pI g q 0 = nI k) (hed : pF g q 1 = eD) (hvv : tg g vv = 28 + 64 * k) (har : ar = pF g q 0) : Met l yJx4a65c_add_72be8 wsJx4a65c_add_72be8 ({ frames := 3, cells := 1, slots := 10, locals := 57 }) (va_Pc [.ref q, .ref vv, .ref ar, .int (nI k)] (CX (dC, dI) kA eD b g)) (va_Qv (fun (u : Gh) => Ax q k vv g u) (fun (u : Gh) t => CX (dC, dI) kA eD b u t) (fun q => b ≤ q)) 1 10 (fun q => b ≤ q) := by
  refine va_MetF (cc := cJx4a65c_add_72be8) (maxL := 4) (ret := none) (by decide +kernel) rfl ?_
  intro p e s m args below meth c s₁ B hml hv
  obtain ⟨rfl, hb0, hM, hK, hG, hE⟩ := hv
  have hx := B.exec
  have hb := B.bytes
  have hr := B.returns
  have hts := atoms_spec (ws := wsJx4a65c_add_72be8) B.pre
  have hown : s.vm.findClass RJx4a65c = some m.cls := findClass_of_methodNamed B.named
  have hlocks := B.notSynchronized
  have hT := hE.1
  have hN := hE.2.2.2.2.2.2.2.1
  have hS : va_S (fun q => b ≤ q) s.heap s.heap [] := va_S.rf
  have hl := lv_entry ([.ref q, .ref vv, .ref ar, .int (nI k)]) (n := 4) (Nat.le_of_ble_eq_true rfl)
  rw [lg_entry_eq]
  generalize (lg_sl ([.ref q, .ref vv, .ref ar, .int (nI k)]) ++ List.replicate (4 - (lg_sl ([.ref q, .ref vv, .ref ar, .int (nI k)])).length) Slot.unset).toArray = ls at hl ⊢
  have hl : lv_has ls 4 [(0, .ref q), (1, .ref vv), (2, .ref ar), (3, .int (nI k))] := hl
  generalize ([.ref q, .ref vv, .ref ar, .int (nI k)] : List Value).toArray = args at hts ⊢
  subst har
  have hl : lv_has ls 4 [(0, .ref q), (1, .ref vv), (2, .ref (pF g q 0)), (3, .int (nI k))] := hl
  obtain ⟨hP9, hf9⟩ := o_al (i := 0) (q := q) hM (by omega)
  have ek : (pI g q 0).toInt = (k : Int) := by rw [hsz]; exact nI_toInt (by omega)
  have hcase : (pI g q 0 = 0 ∧ pF g q 0 = eD ∧ k = 0) ∨ tg g (pF g q 0) = 27 := by
    by_cases z : (pI g q 0).toInt = 0
    · rcases hf9.2.2 z with z2 | z2
      · exact Or.inl ⟨Int32.toInt_inj.mp (z.trans (by decide : (0 : Int) = (0 : Int32).toInt)), z2.trans hed, by omega⟩
      · exact Or.inr z2
    · exact Or.inr (hf9.2.1 z)
  rcases hcase with ⟨h0, he0, hk0⟩ | h27
  · skip
    subst hk0
    refine lv_iload_n hx hb dJx4a65c_add_72be8_0 rfl (lv_at hl 3 rfl) ?_
    refine lv_aload_n hx hb dJx4a65c_add_72be8_1 rfl (lv_at hl 2 rfl) ?_
    rw [he0]
    refine va_tlen hx hb hE.2.2.2.1.2.1 hS (v := 0) (by decide) dJx4a65c_add_72be8_2 ?_
    refine lv_icmp_ne (tgt := 11) hx hb dJx4a65c_add_72be8_3 (by decide) (fun c1 => ?_) (fun c1 => ?_)
    · skip
      have k2 : ¬ (0 = 0) := fun z => c1 ((nI_eq (a := 0) (b := 0) (by omega) (by omega)).mpr z)
      exfalso; omega
    · skip
      have k3 : 0 = 0 := (nI_eq (a := 0) (b := 0) (by omega) (by omega)).mp c1
      refine lv_aload_n hx hb dJx4a65c_add_72be8_6 rfl (lv_at hl 0 rfl) ?_
      obtain ⟨hP, hf⟩ := o_al (i := 0) (q := q) hM (by omega)
      have hed0 := hed
      have hed := he0
      refine va_callr (va_runV (As := []) (rest := []) ⟨hx, hb, hml, hown, hts⟩ (rj_grow0 l dC dI kA eD b g q (by omega) h0 hed) (cwV 0 hts gJx4a65c_add_72be8_Jx4a65c_grow_d5877 rfl rfl rfl (by decide +kernel) ⟨Nat.le_of_ble_eq_true rfl, Nat.le_of_ble_eq_true rfl⟩) ⟨fb_CX, va_recv hK hP (ci := 3) (q0 := 0) rfl rfl, fun U hU hW => ⟨rfl, CX.give hb0 hM hK hG hE hS hU hW⟩⟩ rfl rfl hl.1 rfl (lv_room (Nat.le_of_ble_eq_true rfl)) dJx4a65c_add_72be8_7 ⟨(Nat.le_of_ble_eq_true rfl), (Nat.le_of_ble_eq_true rfl)⟩) hS (fun q _ h => h) (fun q h => h) (fun g6 r4 t H locs ht hvm hw5 hB hz1 hk1 hS => ?_)
      have hM := hB.1.back ht
      have hG := hB.1.2.2.2.1
      have ht7 : tg g6 q = 26 := (hw5.1 q (by omega)).1.trans hto
      have ht8 : tg g6 vv = 28 + 64 * 0 := (hw5.1 vv (by omega)).1.trans hvv
      have hq10 : r4 = pF g6 q 0 := hB.2.1
      have ht9 : tg g6 r4 = 27 := hB.2.2
      refine lv_astore_n (lv' := [(2, .ref r4), (0, .ref q), (1, .ref vv), (3, .int (nI 0))]) hx hb dJx4a65c_add_72be8_10 rfl hl (by decide) rfl (fun ls hl => ?_)
      have hG9 := hG
      refine lv_aload_n hx hb dJx4a65c_add_72be8_11 rfl (lv_at hl 0 rfl) ?_
      refine lv_iload_n hx hb dJx4a65c_add_72be8_12 rfl (lv_at hl 3 rfl) ?_
      refine lv_aload_n hx hb dJx4a65c_add_72be8_13 rfl (lv_at hl 2 rfl) ?_
      obtain ⟨hP, hf⟩ := o_el (i := 0) (q := r4) hM (by omega)
      obtain ⟨u11, u12, u13, u14, u15, u16, hP, hf⟩ := o_ms (i := 0) (q := vv) hM (by omega)
      have hPv := hP
      obtain ⟨hP, hf⟩ := o_el (i := 0) (q := r4) hM (by omega)
      refine rt_astqO (D := (dC, dI)) (t0 := 10) (ci := 9) (E := "java/lang/Object") hx hb hK hP (hM.ge (by omega)) hS rfl hE.2.2.2.1.2.2.2 hPv rfl (vp_in_nI (by omega) (by decide)) dJx4a65c_add_72be8_14 (fun H locs hP hz ho hS => ?_)
      have ec : ((nI 0) : Int32).toNatClampNeg = 0 := nI_clamp (by omega)
      rw [ec] at hP
      have hM0 := hM
      have hM := p_el (i := 0) (f := va_up (pO g6 r4) 0 (some vv)) hM (by omega) hP ho (up_some2 (κ := fun j => 28 + 64 * j) hf ht8)
      obtain ⟨g17, hg17⟩ : ∃ z, z = uO g6 r4 (va_up (pO g6 r4) 0 (some vv)) := ⟨_, rfl⟩
      rw [← hg17] at hM
      have ht18 : tg g17 q = 26 := by rw [hg17]; exact ht7
      have ht19 : tg g17 vv = 28 + 64 * 0 := by rw [hg17]; exact ht8
      have ht20 : tg g17 r4 = 27 := by rw [hg17]; exact ht9
      have hG : GOK g17 := by rw [hg17]; exact (gok_uOs hG)
      refine lv_aload_n hx hb dJx4a65c_add_72be8_15 rfl (lv_at hl 1 rfl) ?_
      refine lv_iload_n hx hb dJx4a65c_add_72be8_16 rfl (lv_at hl 3 rfl) ?_
      refine lv_iconst (v := 1) hx hb dJx4a65c_add_72be8_17 (by decide) ?_
      refine lv_iadd hx hb dJx4a65c_add_72be8_18 ?_
      refine lv_topi (fun v22 e23 => ?_)
      obtain rfl : v22 = nI (0 + 1) := e23.trans (nI_add 0 1)
      obtain ⟨hP, hf⟩ := o_al (i := 0) (q := q) hM (by omega)
      refine rt_put (D := (dC, dI)) (ci := 3) (v := .int (nI (0 + 1))) (ty := .int) (C := RJx4a65c) (T := TJx4a65c) (N := 3) hx hb hts (by decide +kernel) tyJx4a65c tyJx4a65c_ok nmJx4a65c hown hK hP (hM.ge (by omega)) hS rfl 2 (by decide) (hts (.fieldLink RJx4a65c 48 "java/util/ArrayList" "size" "I") (by decide +kernel)) (fun _ h9 => h9) rfl (by decide +kernel) rfl rfl (Nat.le_of_ble_eq_true rfl) dJx4a65c_add_72be8_19 (fun H locs hP hz ho hS => ?_)
      have hM0 := hM
      have hM := p_al (i := 0) (f := upd (pI g17 q) 0 (nI (0 + 1))) hM (by omega) hP ho ⟨⟨(show 0 ≤ ((nI (0 + 1))).toInt by rw [nI_toInt (by omega)]; omega), (show ((nI (0 + 1))).toInt ≤ 3 by rw [nI_toInt (by omega)]; omega)⟩, fun _ => (by rw [hg17]; show tg g6 (pF g6 q 0) = 27; rw [hq10.symm]; exact ht9), fun z => absurd (show ((nI (0 + 1))).toInt = 0 from z) (by rw [nI_toInt (by omega)]; omega)⟩
      obtain ⟨g25, hg25⟩ : ∃ z, z = uI g17 q (upd (pI g17 q) 0 (nI (0 + 1))) := ⟨_, rfl⟩
      rw [← hg25] at hM
      have ht26 : tg g25 q = 26 := by rw [hg25]; exact ht18
      have ht27 : tg g25 vv = 28 + 64 * 0 := by rw [hg25]; exact ht19
      have ht28 : tg g25 r4 = 27 := by rw [hg25]; exact ht20
      have hG : GOK g25 := by rw [hg25]; exact (gok_size hG ht18 (by rw [hg17]; exact add_all hG9 ht7 (by rw [(hw5.1 q (by omega)).2.1]; exact h0.trans nI_0.symm) (by omega) hq10.symm))
      refine W.widen (k := 1) (n := 10) (Nat.le_of_ble_eq_true rfl) (Nat.le_of_ble_eq_true rfl) ?_
      exact W.vret hx hb hr (fun t ht hW => ⟨⟨g25, rfl, (by rw [hg25, hg17]; exact add_ax hw5.1 hw5.2 ht9 hq10.symm (fun j hj => absurd hj (by omega))), CX.give hb0 hM hK hG hE hS ht hW⟩, hS.F ht⟩) hS.2.2 dJx4a65c_add_72be8_22
  · skip
    refine lv_iload_n hx hb dJx4a65c_add_72be8_0 rfl (lv_at hl 3 rfl) ?_
    refine lv_aload_n hx hb dJx4a65c_add_72be8_1 rfl (lv_at hl 2 rfl) ?_
    obtain ⟨hP, hf⟩ := o_el (i := 0) (q := (pF g q 0)) hM (by omega)
    refine va_alen (D := (dC, dI)) hx hb hK hP 0 10 rfl rfl (v := 10) (by rfl) dJx4a65c_add_72be8_2 ?_
    refine lv_icmp_ne (tgt := 11) hx hb dJx4a65c_add_72be8_3 (by decide) (fun c30 => ?_) (fun c30 => ?_)
    · skip
      have k31 : ¬ (k = 10) := fun z => c30 ((nI_eq (a := k) (b := 10) (by omega) (by omega)).mpr z)
      have hG9 := hG
      refine lv_aload_n hx hb dJx4a65c_add_72be8_11 rfl (lv_at hl 2 rfl) ?_
      refine lv_iload_n hx hb dJx4a65c_add_72be8_12 rfl (lv_at hl 3 rfl) ?_
      refine lv_aload_n hx hb dJx4a65c_add_72be8_13 rfl (lv_at hl 1 rfl) ?_
      obtain ⟨hP, hf⟩ := o_el (i := 0) (q := (pF g q 0)) hM (by omega)
      obtain ⟨u32, u33, u34, u35, u36, u37, hP, hf⟩ := o_ms (i := k) (q := vv) hM (by omega)
      have hPv := hP
      obtain ⟨hP, hf⟩ := o_el (i := 0) (q := (pF g q 0)) hM (by omega)
      refine rt_astqO (D := (dC, dI)) (t0 := 10) (ci := 9) (E := "java/lang/Object") hx hb hK hP (hM.ge (by omega)) hS rfl hE.2.2.2.1.2.2.2 hPv rfl (vp_in_nI (by omega) (by decide)) dJx4a65c_add_72be8_14 (fun H locs hP hz ho hS => ?_)
      have ec : ((nI k) : Int32).toNatClampNeg = k := nI_clamp (by omega)
      rw [ec] at hP
      have hM0 := hM
      have hM := p_el (i := 0) (f := va_up (pO g (pF g q 0)) k (some vv)) hM (by omega) hP ho (up_some2 (κ := fun j => 28 + 64 * j) hf hvv)
      obtain ⟨g38, hg38⟩ : ∃ z, z = uO g (pF g q 0) (va_up (pO g (pF g q 0)) k (some vv)) := ⟨_, rfl⟩
      rw [← hg38] at hM
      have ht39 : tg g38 q = 26 := by rw [hg38]; exact hto
      have ht40 : tg g38 vv = 28 + 64 * k := by rw [hg38]; exact hvv
      have ht41 : tg g38 (pF g q 0) = 27 := by rw [hg38]; exact h27
      have hG : GOK g38 := by rw [hg38]; exact (gok_uOs hG)
      refine lv_aload_n hx hb dJx4a65c_add_72be8_15 rfl (lv_at hl 0 rfl) ?_
      refine lv_iload_n hx hb dJx4a65c_add_72be8_16 rfl (lv_at hl 3 rfl) ?_
      refine lv_iconst (v := 1) hx hb dJx4a65c_add_72be8_17 (by decide) ?_
      refine lv_iadd hx hb dJx4a65c_add_72be8_18 ?_
      refine lv_topi (fun v43 e44 => ?_)
      obtain rfl : v43 = nI (k + 1) := e44.trans (nI_add k 1)
      obtain ⟨hP, hf⟩ := o_al (i := 0) (q := q) hM (by omega)
      refine rt_put (D := (dC, dI)) (ci := 3) (v := .int (nI (k + 1))) (ty := .int) (C := RJx4a65c) (T := TJx4a65c) (N := 3) hx hb hts (by decide +kernel) tyJx4a65c tyJx4a65c_ok nmJx4a65c hown hK hP (hM.ge (by omega)) hS rfl 2 (by decide) (hts (.fieldLink RJx4a65c 48 "java/util/ArrayList" "size" "I") (by decide +kernel)) (fun _ h9 => h9) rfl (by decide +kernel) rfl rfl (Nat.le_of_ble_eq_true rfl) dJx4a65c_add_72be8_19 (fun H locs hP hz ho hS => ?_)
      have hM0 := hM
      have hM := p_al (i := 0) (f := upd (pI g38 q) 0 (nI (k + 1))) hM (by omega) hP ho ⟨⟨(show 0 ≤ ((nI (k + 1))).toInt by rw [nI_toInt (by omega)]; omega), (show ((nI (k + 1))).toInt ≤ 3 by rw [nI_toInt (by omega)]; omega)⟩, fun _ => (by rw [hg38]; exact h27), fun z => absurd (show ((nI (k + 1))).toInt = 0 from z) (by rw [nI_toInt (by omega)]; omega)⟩
      obtain ⟨g46, hg46⟩ : ∃ z, z = uI g38 q (upd (pI g38 q) 0 (nI (k + 1))) := ⟨_, rfl⟩
      rw [← hg46] at hM
      have ht47 : tg g46 q = 26 := by rw [hg46]; exact ht39
      have ht48 : tg g46 vv = 28 + 64 * k := by rw [hg46]; exact ht40
      have ht49 : tg g46 (pF g q 0) = 27 := by rw [hg46]; exact ht41
      have hG : GOK g46 := by rw [hg46]; exact (gok_size hG ht39 (by rw [hg38]; exact add_all hG9 hto hsz (by omega) rfl))
      refine W.widen (k := 1) (n := 10) (Nat.le_of_ble_eq_true rfl) (Nat.le_of_ble_eq_true rfl) ?_
      exact W.vret hx hb hr (fun t ht hW => ⟨⟨g46, rfl, (by rw [hg46, hg38]; exact add_ax Gx.refl rfl h27 rfl (fun j hj => rfl)), CX.give hb0 hM hK hG hE hS ht hW⟩, hS.F ht⟩) hS.2.2 dJx4a65c_add_72be8_22
    · skip
      have k51 : k = 10 := (nI_eq (a := k) (b := 10) (by omega) (by omega)).mp c30
      exfalso; omega

set_option maxHeartbeats 4000000 in
set_option maxRecDepth 100000 in
theorem rj_add1 (l : Launch) (dC : Nat → ClassId) (dI : Nat → Nat → Nat) (kA : Nat → ClassId) (eD b : Nat) (g : Gh) (q : Nat) (vv k : Nat) (hto : tg g q = 26) (hk : k < 3) (hsz : pI g q 0 = nI k) (hed : pF g q 1 = eD) (hvv : tg g vv = 28 + 64 * k) : Met l yJx4a65c_add_9ea2d wsJx4a65c_add_9ea2d ({ frames := 4, cells := 1, slots := 10, locals := 80 }) (va_Pc [.ref q, .ref vv] (CX (dC, dI) kA eD b g)) (va_Qi (fun (r : Int32) (u : Gh) => r = 1 ∧ Ax q k vv g u) (fun (u : Gh) t => CX (dC, dI) kA eD b u t) (fun q => b ≤ q)) 1 10 (fun q => b ≤ q) := by
  refine va_MetF (cc := cJx4a65c_add_9ea2d) (maxL := 2) (ret := (some .boolean)) (by decide +kernel) rfl ?_
  intro p e s m args below meth c s₁ B hml hv
  obtain ⟨rfl, hb0, hM, hK, hG, hE⟩ := hv
  have hx := B.exec
  have hb := B.bytes
  have hr := B.returns
  have hts := atoms_spec (ws := wsJx4a65c_add_9ea2d) B.pre
  have hown : s.vm.findClass RJx4a65c = some m.cls := findClass_of_methodNamed B.named
  have hlocks := B.notSynchronized
  have hT := hE.1
  have hN := hE.2.2.2.2.2.2.2.1
  have hS : va_S (fun q => b ≤ q) s.heap s.heap [] := va_S.rf
  have hl := lv_entry ([.ref q, .ref vv]) (n := 2) (Nat.le_of_ble_eq_true rfl)
  rw [lg_entry_eq]
  generalize (lg_sl ([.ref q, .ref vv]) ++ List.replicate (2 - (lg_sl ([.ref q, .ref vv])).length) Slot.unset).toArray = ls at hl ⊢
  have hl : lv_has ls 2 [(0, .ref q), (1, .ref vv)] := hl
  generalize ([.ref q, .ref vv] : List Value).toArray = args at hts ⊢
  refine lv_aload_n hx hb dJx4a65c_add_9ea2d_0 rfl (lv_at hl 0 rfl) ?_
  refine lv_dup hx hb dJx4a65c_add_9ea2d_1 rfl ?_
  obtain ⟨hP, hf⟩ := o_al (i := 0) (q := q) hM (by omega)
  refine va_get (D := (dC, dI)) (ci := 3) (v := .int (pI g q 1)) (C := RJx4a65c) (T := TJx4a65c) (N := 3) hx hb hts (by decide +kernel) hown hK hP 0 rfl rfl 0 (by decide) (hts (.fieldLink RJx4a65c 63 "java/util/ArrayList" "modCount" "I") (by decide +kernel)) (fun x9 h9 => u_same (hts (.sameField "java/util/ArrayList" "java/util/AbstractList" "modCount" "I") (by decide +kernel)) x9 h9) rfl dJx4a65c_add_9ea2d_2 ?_
  refine lv_iconst (v := 1) hx hb dJx4a65c_add_9ea2d_5 (by decide) ?_
  refine lv_iadd hx hb dJx4a65c_add_9ea2d_6 ?_
  refine lv_topi (fun v1 e2 => ?_)
  obtain ⟨hP, hf⟩ := o_al (i := 0) (q := q) hM (by omega)
  refine rt_put (D := (dC, dI)) (ci := 3) (v := .int v1) (ty := .int) (C := RJx4a65c) (T := TJx4a65c) (N := 3) hx hb hts (by decide +kernel) tyJx4a65c tyJx4a65c_ok nmJx4a65c hown hK hP (hM.ge (by omega)) hS rfl 0 (by decide) (hts (.fieldLink RJx4a65c 63 "java/util/ArrayList" "modCount" "I") (by decide +kernel)) (fun x9 h9 => u_same (hts (.sameField "java/util/ArrayList" "java/util/AbstractList" "modCount" "I") (by decide +kernel)) x9 h9) rfl (by decide +kernel) rfl rfl (Nat.le_of_ble_eq_true rfl) dJx4a65c_add_9ea2d_7 (fun H locs hP hz ho hS => ?_)
  have hM0 := hM
  have hM := p_al (i := 0) (f := upd (pI g q) 1 v1) hM (by omega) hP ho hf
  obtain ⟨g4, hg4⟩ : ∃ z, z = uI g q (upd (pI g q) 1 v1) := ⟨_, rfl⟩
  rw [← hg4] at hM
  have ht5 : tg g4 q = 26 := by rw [hg4]; exact hto
  have ht6 : tg g4 vv = 28 + 64 * k := by rw [hg4]; exact hvv
  have hG : GOK g4 := by rw [hg4]; exact (hG.uI hM0 (Or.inr rfl))
  refine lv_aload_n hx hb dJx4a65c_add_9ea2d_10 rfl (lv_at hl 0 rfl) ?_
  refine lv_aload_n hx hb dJx4a65c_add_9ea2d_11 rfl (lv_at hl 1 rfl) ?_
  refine lv_aload_n hx hb dJx4a65c_add_9ea2d_12 rfl (lv_at hl 0 rfl) ?_
  obtain ⟨hP, hf⟩ := o_al (i := 0) (q := q) hM (by omega)
  refine va_get (D := (dC, dI)) (ci := 3) (v := .ref (pF g4 q 0)) (C := RJx4a65c) (T := TJx4a65c) (N := 3) hx hb hts (by decide +kernel) hown hK hP 0 rfl rfl 1 (by decide) (hts (.fieldLink RJx4a65c 9 "java/util/ArrayList" "elementData" "[Ljava/lang/Object;") (by decide +kernel)) (fun _ h9 => h9) rfl dJx4a65c_add_9ea2d_13 ?_
  refine lv_aload_n hx hb dJx4a65c_add_9ea2d_16 rfl (lv_at hl 0 rfl) ?_
  obtain ⟨hP, hf⟩ := o_al (i := 0) (q := q) hM (by omega)
  refine va_get (D := (dC, dI)) (ci := 3) (v := .int (pI g4 q 0)) (C := RJx4a65c) (T := TJx4a65c) (N := 3) hx hb hts (by decide +kernel) hown hK hP 0 rfl rfl 2 (by decide) (hts (.fieldLink RJx4a65c 48 "java/util/ArrayList" "size" "I") (by decide +kernel)) (fun _ h9 => h9) rfl dJx4a65c_add_9ea2d_17 ?_
  have hv8 := hf.1
  have hv9 := hf.2.1
  have hv10 := hf.2.2
  rw [show pI g4 q 0 = nI k from by rw [hg4]; exact (congrFun uI_s 0).trans hsz]
  obtain ⟨hP, hf⟩ := o_al (i := 0) (q := q) hM (by omega)
  refine va_callv (va_runV (As := [.ref vv, .ref (pF g4 q 0), .int (nI k)]) (rest := []) ⟨hx, hb, hml, hown, hts⟩ (rj_add3 l dC dI kA eD b g4 q vv (pF g4 q 0) k (by omega) (by omega) (by rw [hg4]; exact (congrFun uI_s 0).trans hsz) (by rw [hg4]; exact hed) (by rw [hg4]; exact hvv) rfl) (cwV 3 hts gJx4a65c_add_9ea2d_Jx4a65c_add_72be8 rfl rfl rfl (by decide +kernel) ⟨Nat.le_of_ble_eq_true rfl, Nat.le_of_ble_eq_true rfl⟩) ⟨fb_CX, va_recv hK hP (ci := 3) (q0 := 0) rfl rfl, fun U hU hW => ⟨rfl, CX.give hb0 hM hK hG hE hS hU hW⟩⟩ rfl rfl hl.1 rfl (lv_room (Nat.le_of_ble_eq_true rfl)) dJx4a65c_add_9ea2d_20 ⟨(Nat.le_of_ble_eq_true rfl), (Nat.le_of_ble_eq_true rfl)⟩) hS (fun q _ h => h) (fun q h => h) (fun g13 t H locs ht hvm hw12 hB hz1 hk1 hS => ?_)
  have hM := hB.back ht
  have hG := hB.2.2.2.1
  have ht14 : tg g13 q = 26 := (hw12.1 q (by omega)).1.trans ht5
  have ht15 : tg g13 vv = 28 + 64 * k := (hw12.1 vv (by omega)).1.trans ht6
  refine lv_iconst (v := 1) hx hb dJx4a65c_add_9ea2d_23 (by decide) ?_
  refine W.widen (k := 1) (n := 10) (Nat.le_of_ble_eq_true rfl) (Nat.le_of_ble_eq_true rfl) ?_
  exact W.zret (v := 1) (ty := .boolean) hx hb hr rfl (fun t ht hW => ⟨⟨1, g13, rfl, ⟨rfl, Ax_mod (f := (upd (pI g q) 1 v1)) (by have h9 := hw12; rw [hg4] at h9; exact h9)⟩, CX.give hb0 hM hK hG hE hS ht hW⟩, hS.F ht⟩) hS.2.2 dJx4a65c_add_9ea2d_24
