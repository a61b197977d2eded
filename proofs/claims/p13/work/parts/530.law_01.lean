set_option maxHeartbeats 4000000 in
set_option maxRecDepth 100000 in
theorem rh_carries (l : Launch) (hlt : l.stackTraces = false) (dC : Nat → ClassId) (dI : Nat → Nat → Nat) (kA : Nat → ClassId) (eD b : Nat) (g : Gh) (o q : Nat) (p0 : Int32) (p1 : Int32)  (hto : tg g o = 1) (htq : tg g q = 34) : Met l yL_carries wzL_carries ({ frames := 7, cells := 1, slots := 6, locals := 143 }) (va_Pc [.ref o, .int p0, .int p1, .ref q] (CX (dC, dI) kA eD b g)) (va_Qi (fun (r : Int32) (u : Gh) => ∃ f, u = uL g q f) (fun (u : Gh) t => CX (dC, dI) kA eD b u t) (fun q => b ≤ q)) 1 6 (fun q => b ≤ q) := by
  refine va_MetW (cc := cL_carries) (maxL := 5) (ret := (some .int)) (hh := [(0, 10, 13, 54), (0, 10, 17, 64)]) (by decide +kernel) rfl ?_
  intro p e s m args below meth c s₁ B hml hv
  obtain ⟨rfl, hb0, hM, hK, hG, hE⟩ := hv
  have hx := B.exec
  have hb := B.bytes
  have hr := B.returns
  have hts := atoms_spec (ws := wzL_carries) B.pre
  have hown : s.vm.findClass RL = some m.cls := findClass_of_methodNamed B.named
  have hlocks := B.notSynchronized
  have htab : c.exceptionTable.toList = tableOf [(0, 10, 13, 54), (0, 10, 17, 64)] := vx_table (x := yL_carries) B (hts _ List.mem_cons_self)
  have hT := hE.1
  have hN := hE.2.2.2.2.2.2.2.1
  have hS : va_S (fun q => b ≤ q) s.heap s.heap [] := va_S.rf
  have hl := lv_entry ([.ref o, .int p0, .int p1, .ref q]) (n := 5) (Nat.le_of_ble_eq_true rfl)
  rw [lg_entry_eq]
  generalize (lg_sl ([.ref o, .int p0, .int p1, .ref q]) ++ List.replicate (5 - (lg_sl ([.ref o, .int p0, .int p1, .ref q])).length) Slot.unset).toArray = ls at hl ⊢
  have hl : lv_has ls 5 [(0, .ref o), (1, .int p0), (2, .int p1), (3, .ref q)] := hl
  generalize ([.ref o, .int p0, .int p1, .ref q] : List Value).toArray = args at hts ⊢
  refine lv_aload_n hx hb dL_carries_0 rfl (lv_at hl 3 rfl) ?_
  refine lv_iconst (v := 0) hx hb dL_carries_1 (by decide) ?_
  refine lv_aload_n hx hb dL_carries_2 rfl (lv_at hl 0 rfl) ?_
  refine lv_iload_n hx hb dL_carries_3 rfl (lv_at hl 1 rfl) ?_
  refine lv_iload_n hx hb dL_carries_4 rfl (lv_at hl 2 rfl) ?_
  obtain ⟨u1, u2, u3, u4, hP, hf⟩ := o_sno (i := 0) (q := o) hM (by omega)
  refine vx_calli (vx_runV (As := [.int p0, .int p1]) (rest := [.int 0, .ref q]) ⟨hx, hb, hml, hown, hts⟩ (rf_carries l hlt dC dI kA eD b g o p0 p1 (by omega)) (cwV 2 hts gL_carries_X3_carries rfl rfl rfl (by decide +kernel) ⟨Nat.le_of_ble_eq_true rfl, Nat.le_of_ble_eq_true rfl⟩) ⟨fb_CX, va_recv hK hP (ci := 7) (q0 := 0) rfl rfl, fun U hU hW => ⟨rfl, CX.give hb0 hM hK hG hE hS hU hW⟩⟩ rfl rfl hl.1 rfl (lv_room (Nat.le_of_ble_eq_true rfl)) dL_carries_5 ⟨(Nat.le_of_ble_eq_true rfl), (Nat.le_of_ble_eq_true rfl)⟩) hS (fun q _ h => h) (fun q h => h) (fun q _ h => h) (fun E ce q9 u9 t H locs ht hvm hpx hBX hz1 hk1 hS hcell hvn hcl => ?_) (fun r5 u t H locs ht hvm hw6 hB hz1 hk1 hS => ?_)
  · skip
    have hM : TM (dC, dI) kA b g H := by rw [← ht]; exact hBX.2
    rcases hBX.1 with rfl | rfl
    · skip
      refine vx_catch (E := "java/lang/IndexOutOfBoundsException") (name := "java/lang/IndexOutOfBoundsException") hown [] ⟨0, 10, 13, 54⟩ [⟨0, 10, 17, 64⟩] (by rw [htab]; rfl) (fun z hz => absurd hz List.not_mem_nil) rfl (by decide) (hts (.classLink RL 54 "java/lang/IndexOutOfBoundsException") (by decide +kernel)) (th_any (a := #[]) rfl (hT.1 (.castable "java/lang/IndexOutOfBoundsException" "java/lang/IndexOutOfBoundsException") (by decide +kernel))) hcell hvn hcl ?_
      refine W.eq (g2 := F0 m 13 ls [.ref q9]) rfl ?_
      refine lv_astore (lv' := [(4, .ref q9), (0, .ref o), (1, .int p0), (2, .int p1), (3, .ref q)]) hx hb dL_carries_13 hl (by decide) rfl (fun ls hl => ?_)
      refine lv_iconst (v := 1) hx hb dL_carries_15 (by decide) ?_
      refine W.widen (k := 1) (n := 6) (Nat.le_of_ble_eq_true rfl) (Nat.le_of_ble_eq_true rfl) ?_
      exact W.iret (v := 1) hx hb hr (fun t ht hW => ⟨⟨1, g, rfl, (⟨pL g q, (uL_id rfl).symm⟩), CX.give hb0 hM hK hG hE hS ht hW⟩, hS.F ht⟩) hS.2.2 dL_carries_16
    · skip
      refine vx_catch (E := "java/util/NoSuchElementException") (name := "java/util/NoSuchElementException") hown [⟨0, 10, 13, 54⟩] ⟨0, 10, 17, 64⟩ [] (by rw [htab]; rfl) (fun z hz => by rcases List.mem_singleton.mp hz with rfl; exact Or.inr ⟨by decide, _, hts (.classLink RL 54 "java/lang/IndexOutOfBoundsException") (by decide +kernel), hT.2.2.1 ("java/util/NoSuchElementException", "java/lang/IndexOutOfBoundsException") (by decide +kernel)⟩) rfl (by decide) (hts (.classLink RL 64 "java/util/NoSuchElementException") (by decide +kernel)) (th_any (a := #[]) rfl (hT.1 (.castable "java/util/NoSuchElementException" "java/util/NoSuchElementException") (by decide +kernel))) hcell hvn hcl ?_
      refine W.eq (g2 := F0 m 17 ls [.ref q9]) rfl ?_
      refine lv_astore (lv' := [(4, .ref q9), (0, .ref o), (1, .int p0), (2, .int p1), (3, .ref q)]) hx hb dL_carries_17 hl (by decide) rfl (fun ls hl => ?_)
      refine lv_iconst (v := 2) hx hb dL_carries_19 (by decide) ?_
      refine W.widen (k := 1) (n := 6) (Nat.le_of_ble_eq_true rfl) (Nat.le_of_ble_eq_true rfl) ?_
      exact W.iret (v := 2) hx hb hr (fun t ht hW => ⟨⟨2, g, rfl, (⟨pL g q, (uL_id rfl).symm⟩), CX.give hb0 hM hK hG hE hS ht hW⟩, hS.F ht⟩) hS.2.2 dL_carries_20
  · skip
    have hM := hB.back ht
    have hG := hB.2.2.2.1
    refine lv_i2l hx hb dL_carries_8 rfl ?_
    obtain ⟨hP, hf⟩ := o_ou (i := 0) (q := q) hM (by omega)
    refine rt_last (D := (dC, dI)) (t0 := 3) hx hb hK hP (hM.ge (by omega)) hS rfl (by unfold vp_in; decide) dL_carries_9 (fun H locs hP hz ho hS => ?_)
    have ec : (0 : Int32).toNatClampNeg = 0 := by decide
    rw [ec] at hP
    have hM0 := hM
    have hM := p_ou (i := 0) (f := vp_updL (pL g q) 0 r5.toInt64) hM (by omega) hP ho hf
    obtain ⟨g7, hg7⟩ : ∃ z, z = uL g q (vp_updL (pL g q) 0 r5.toInt64) := ⟨_, rfl⟩
    rw [← hg7] at hM
    have ht8 : tg g7 o = 1 := by rw [hg7]; exact hto
    have ht9 : tg g7 q = 34 := by rw [hg7]; exact htq
    have hG : GOK g7 := by rw [hg7]; exact (hG.uL hM0)
    refine lv_goto (tgt := 21) hx hb dL_carries_10 (by decide) ?_
    refine lv_iconst (v := 0) hx hb dL_carries_21 (by decide) ?_
    refine W.widen (k := 1) (n := 6) (Nat.le_of_ble_eq_true rfl) (Nat.le_of_ble_eq_true rfl) ?_
    exact W.iret (v := 0) hx hb hr (fun t ht hW => ⟨⟨0, g7, rfl, (⟨_, by rw [hg7]⟩), CX.give hb0 hM hK hG hE hS ht hW⟩, hS.F ht⟩) hS.2.2 dL_carries_22

set_option maxHeartbeats 4000000 in
set_option maxRecDepth 100000 in
theorem rh_visit (l : Launch) (hlt : l.stackTraces = false) (dC : Nat → ClassId) (dI : Nat → Nat → Nat) (kA : Nat → ClassId) (eD b : Nat) (g : Gh) (o q : Nat) (p0 : Int32) (p1 : Int32)  (hto : tg g o = 1) (htq : tg g q = 34) : Met l yL_visit wsL_visit ({ frames := 7, cells := 1, slots := 6, locals := 117 }) (va_Pc [.ref o, .int p0, .int p1, .ref q] (CX (dC, dI) kA eD b g)) (va_Qi (fun (r : Int32) (u : Gh) => ∃ f, u = uL g q f) (fun (u : Gh) t => CX (dC, dI) kA eD b u t) (fun q => b ≤ q)) 1 6 (fun q => b ≤ q) := by
  refine va_MetW (cc := cL_visit) (maxL := 5) (ret := (some .int)) (hh := [(0, 10, 13, 54), (0, 10, 17, 13), (0, 10, 21, 15)]) (by decide +kernel) rfl ?_
  intro p e s m args below meth c s₁ B hml hv
  obtain ⟨rfl, hb0, hM, hK, hG, hE⟩ := hv
  have hx := B.exec
  have hb := B.bytes
  have hr := B.returns
  have hts := atoms_spec (ws := wsL_visit) B.pre
  have hown : s.vm.findClass RL = some m.cls := findClass_of_methodNamed B.named
  have hlocks := B.notSynchronized
  have htab : c.exceptionTable.toList = tableOf [(0, 10, 13, 54), (0, 10, 17, 13), (0, 10, 21, 15)] := vx_table (x := yL_visit) B (hts _ List.mem_cons_self)
  have hT := hE.1
  have hN := hE.2.2.2.2.2.2.2.1
  have hS : va_S (fun q => b ≤ q) s.heap s.heap [] := va_S.rf
  have hl := lv_entry ([.ref o, .int p0, .int p1, .ref q]) (n := 5) (Nat.le_of_ble_eq_true rfl)
  rw [lg_entry_eq]
  generalize (lg_sl ([.ref o, .int p0, .int p1, .ref q]) ++ List.replicate (5 - (lg_sl ([.ref o, .int p0, .int p1, .ref q])).length) Slot.unset).toArray = ls at hl ⊢
  have hl : lv_has ls 5 [(0, .ref o), (1, .int p0), (2, .int p1), (3, .ref q)] := hl
  generalize ([.ref o, .int p0, .int p1, .ref q] : List Value).toArray = args at hts ⊢
  refine lv_aload_n hx hb dL_visit_0 rfl (lv_at hl 3 rfl) ?_
  refine lv_iconst (v := 0) hx hb dL_visit_1 (by decide) ?_
  refine lv_aload_n hx hb dL_visit_2 rfl (lv_at hl 0 rfl) ?_
  refine lv_iload_n hx hb dL_visit_3 rfl (lv_at hl 1 rfl) ?_
  refine lv_iload_n hx hb dL_visit_4 rfl (lv_at hl 2 rfl) ?_
  obtain ⟨u1, u2, u3, u4, hP, hf⟩ := o_sno (i := 0) (q := o) hM (by omega)
  refine vx_calli (vx_runV (As := [.int p0, .int p1]) (rest := [.int 0, .ref q]) ⟨hx, hb, hml, hown, hts⟩ (rf_visit l hlt dC dI kA eD b g o p0 p1 (by omega)) (cwV 2 hts gL_visit_X3_visit rfl rfl rfl (by decide +kernel) ⟨Nat.le_of_ble_eq_true rfl, Nat.le_of_ble_eq_true rfl⟩) ⟨fb_CX, va_recv hK hP (ci := 7) (q0 := 0) rfl rfl, fun U hU hW => ⟨rfl, CX.give hb0 hM hK hG hE hS hU hW⟩⟩ rfl rfl hl.1 rfl (lv_room (Nat.le_of_ble_eq_true rfl)) dL_visit_5 ⟨(Nat.le_of_ble_eq_true rfl), (Nat.le_of_ble_eq_true rfl)⟩) hS (fun q _ h => h) (fun q h => h) (fun q _ h => h) (fun E ce q9 u9 t H locs ht hvm hpx hBX hz1 hk1 hS hcell hvn hcl => ?_) (fun r5 u t H locs ht hvm hw6 hB hz1 hk1 hS => ?_)
  · skip
    have hM : TM (dC, dI) kA b g H := by rw [← ht]; exact hBX.2
    rcases hBX.1 with rfl | rfl | rfl
    · skip
      refine vx_catch (E := "java/lang/IndexOutOfBoundsException") (name := "java/lang/IndexOutOfBoundsException") hown [] ⟨0, 10, 13, 54⟩ [⟨0, 10, 17, 13⟩, ⟨0, 10, 21, 15⟩] (by rw [htab]; rfl) (fun z hz => absurd hz List.not_mem_nil) rfl (by decide) (hts (.classLink RL 54 "java/lang/IndexOutOfBoundsException") (by decide +kernel)) (th_any (a := #[]) rfl (hT.1 (.castable "java/lang/IndexOutOfBoundsException" "java/lang/IndexOutOfBoundsException") (by decide +kernel))) hcell hvn hcl ?_
      refine W.eq (g2 := F0 m 13 ls [.ref q9]) rfl ?_
      refine lv_astore (lv' := [(4, .ref q9), (0, .ref o), (1, .int p0), (2, .int p1), (3, .ref q)]) hx hb dL_visit_13 hl (by decide) rfl (fun ls hl => ?_)
      refine lv_iconst (v := 1) hx hb dL_visit_15 (by decide) ?_
      refine W.widen (k := 1) (n := 6) (Nat.le_of_ble_eq_true rfl) (Nat.le_of_ble_eq_true rfl) ?_
      exact W.iret (v := 1) hx hb hr (fun t ht hW => ⟨⟨1, g, rfl, (⟨pL g q, (uL_id rfl).symm⟩), CX.give hb0 hM hK hG hE hS ht hW⟩, hS.F ht⟩) hS.2.2 dL_visit_16
    · skip
      refine vx_catch (E := "java/lang/IllegalArgumentException") (name := "java/lang/IllegalArgumentException") hown [⟨0, 10, 13, 54⟩] ⟨0, 10, 17, 13⟩ [⟨0, 10, 21, 15⟩] (by rw [htab]; rfl) (fun z hz => by rcases List.mem_singleton.mp hz with rfl; exact Or.inr ⟨by decide, _, hts (.classLink RL 54 "java/lang/IndexOutOfBoundsException") (by decide +kernel), hT.2.2.1 ("java/lang/IllegalArgumentException", "java/lang/IndexOutOfBoundsException") (by decide +kernel)⟩) rfl (by decide) (hts (.classLink RL 13 "java/lang/IllegalArgumentException") (by decide +kernel)) (th_any (a := #[]) rfl (hT.1 (.castable "java/lang/IllegalArgumentException" "java/lang/IllegalArgumentException") (by decide +kernel))) hcell hvn hcl ?_
      refine W.eq (g2 := F0 m 17 ls [.ref q9]) rfl ?_
      refine lv_astore (lv' := [(4, .ref q9), (0, .ref o), (1, .int p0), (2, .int p1), (3, .ref q)]) hx hb dL_visit_17 hl (by decide) rfl (fun ls hl => ?_)
      refine lv_iconst (v := 2) hx hb dL_visit_19 (by decide) ?_
      refine W.widen (k := 1) (n := 6) (Nat.le_of_ble_eq_true rfl) (Nat.le_of_ble_eq_true rfl) ?_
      exact W.iret (v := 2) hx hb hr (fun t ht hW => ⟨⟨2, g, rfl, (⟨pL g q, (uL_id rfl).symm⟩), CX.give hb0 hM hK hG hE hS ht hW⟩, hS.F ht⟩) hS.2.2 dL_visit_20
    · skip
      refine vx_catch (E := "java/lang/UnsupportedOperationException") (name := "java/lang/UnsupportedOperationException") hown [⟨0, 10, 13, 54⟩, ⟨0, 10, 17, 13⟩] ⟨0, 10, 21, 15⟩ [] (by rw [htab]; rfl) (fun z hz => by simp only [List.mem_cons, List.not_mem_nil, or_false] at hz; rcases hz with rfl | rfl <;> first | exact Or.inr ⟨by decide, _, hts (.classLink RL 54 "java/lang/IndexOutOfBoundsException") (by decide +kernel), hT.2.2.1 ("java/lang/UnsupportedOperationException", "java/lang/IndexOutOfBoundsException") (by decide +kernel)⟩ | exact Or.inr ⟨by decide, _, hts (.classLink RL 13 "java/lang/IllegalArgumentException") (by decide +kernel), hT.2.2.1 ("java/lang/UnsupportedOperationException", "java/lang/IllegalArgumentException") (by decide +kernel)⟩) rfl (by decide) (hts (.classLink RL 15 "java/lang/UnsupportedOperationException") (by decide +kernel)) (th_any (a := #[]) rfl (hT.1 (.castable "java/lang/UnsupportedOperationException" "java/lang/UnsupportedOperationException") (by decide +kernel))) hcell hvn hcl ?_
      refine W.eq (g2 := F0 m 21 ls [.ref q9]) rfl ?_
      refine lv_astore (lv' := [(4, .ref q9), (0, .ref o), (1, .int p0), (2, .int p1), (3, .ref q)]) hx hb dL_visit_21 hl (by decide) rfl (fun ls hl => ?_)
      refine lv_iconst (v := 3) hx hb dL_visit_23 (by decide) ?_
      refine W.widen (k := 1) (n := 6) (Nat.le_of_ble_eq_true rfl) (Nat.le_of_ble_eq_true rfl) ?_
      exact W.iret (v := 3) hx hb hr (fun t ht hW => ⟨⟨3, g, rfl, (⟨pL g q, (uL_id rfl).symm⟩), CX.give hb0 hM hK hG hE hS ht hW⟩, hS.F ht⟩) hS.2.2 dL_visit_24
  · skip
    have hM := hB.back ht
    have hG := hB.2.2.2.1
    refine lv_i2l hx hb dL_visit_8 rfl ?_
    obtain ⟨hP, hf⟩ := o_ou (i := 0) (q := q) hM (by omega)
    refine rt_last (D := (dC, dI)) (t0 := 3) hx hb hK hP (hM.ge (by omega)) hS rfl (by unfold vp_in; decide) dL_visit_9 (fun H locs hP hz ho hS => ?_)
    have ec : (0 : Int32).toNatClampNeg = 0 := by decide
    rw [ec] at hP
    have hM0 := hM
    have hM := p_ou (i := 0) (f := vp_updL (pL g q) 0 r5.toInt64) hM (by omega) hP ho hf
    obtain ⟨g7, hg7⟩ : ∃ z, z = uL g q (vp_updL (pL g q) 0 r5.toInt64) := ⟨_, rfl⟩
    rw [← hg7] at hM
    have ht8 : tg g7 o = 1 := by rw [hg7]; exact hto
    have ht9 : tg g7 q = 34 := by rw [hg7]; exact htq
    have hG : GOK g7 := by rw [hg7]; exact (hG.uL hM0)
    refine lv_goto (tgt := 25) hx hb dL_visit_10 (by decide) ?_
    refine lv_iconst (v := 0) hx hb dL_visit_25 (by decide) ?_
    refine W.widen (k := 1) (n := 6) (Nat.le_of_ble_eq_true rfl) (Nat.le_of_ble_eq_true rfl) ?_
    exact W.iret (v := 0) hx hb hr (fun t ht hW => ⟨⟨0, g7, rfl, (⟨_, by rw [hg7]⟩), CX.give hb0 hM hK hG hE hS ht hW⟩, hS.F ht⟩) hS.2.2 dL_visit_26

set_option maxHeartbeats 4000000 in
set_option maxRecDepth 100000 in
theorem rh_squareBits (l : Launch) (hlt : l.stackTraces = false) (dC : Nat → ClassId) (dI : Nat → Nat → Nat) (kA : Nat → ClassId) (eD b : Nat) (g : Gh) (o q : Nat) (dr : Int32) (le : Int32) (mat : Int32)  (hto : tg g o = 1) (htq : tg g q = 34) : Met l yL_squareBits wsL_squareBits ({ frames := 7, cells := 1, slots := 6, locals := 109 }) (va_Pc [.ref o, .int dr, .int le, .int mat, .ref q] (CX (dC, dI) kA eD b g)) (va_Qi (fun (r : Int32) (u : Gh) => (r = 0 ∧ ∃ (rv : Int64), (∃ j k, dr = nI j ∧ le = nI k ∧ (1 ≤ j ∧ j ≤ 20) ∧ (5 ≤ k ∧ k ≤ 60) ∧ rv = sqR (sqw mat (wOf (pI g (pF g (pF g o 0) 0)) (pI g (pF g (pF g o 0) 1)) (pI g o 1))) j k) ∧ u = uL g q (vp_updL (pL g q) 0 rv)) ∨ (r = 1 ∧ (¬ ((1 ≤ dr.toInt ∧ dr.toInt ≤ 20) ∧ 5 ≤ le.toInt ∧ le.toInt ≤ 60)) ∧ u = g)) (fun (u : Gh) t => CX (dC, dI) kA eD b u t) (fun q => b ≤ q)) 1 6 (fun q => b ≤ q) := by
  refine va_MetW (cc := cL_squareBits) (maxL := 6) (ret := (some .int)) (hh := [(0, 11, 14, 13)]) (by decide +kernel) rfl ?_
  intro p e s m args below meth c s₁ B hml hv
  obtain ⟨rfl, hb0, hM, hK, hG, hE⟩ := hv
  have hx := B.exec
  have hb := B.bytes
  have hr := B.returns
  have hts := atoms_spec (ws := wsL_squareBits) B.pre
  have hown : s.vm.findClass RL = some m.cls := findClass_of_methodNamed B.named
  have hlocks := B.notSynchronized
  have htab : c.exceptionTable.toList = tableOf [(0, 11, 14, 13)] := vx_table (x := yL_squareBits) B (hts _ List.mem_cons_self)
  have hT := hE.1
  have hN := hE.2.2.2.2.2.2.2.1
  have hS : va_S (fun q => b ≤ q) s.heap s.heap [] := va_S.rf
  have hl := lv_entry ([.ref o, .int dr, .int le, .int mat, .ref q]) (n := 6) (Nat.le_of_ble_eq_true rfl)
  rw [lg_entry_eq]
  generalize (lg_sl ([.ref o, .int dr, .int le, .int mat, .ref q]) ++ List.replicate (6 - (lg_sl ([.ref o, .int dr, .int le, .int mat, .ref q])).length) Slot.unset).toArray = ls at hl ⊢
  have hl : lv_has ls 6 [(0, .ref o), (1, .int dr), (2, .int le), (3, .int mat), (4, .ref q)] := hl
  generalize ([.ref o, .int dr, .int le, .int mat, .ref q] : List Value).toArray = args at hts ⊢
  refine lv_aload hx hb dL_squareBits_0 (lv_at hl 4 rfl) ?_
  refine lv_iconst (v := 0) hx hb dL_squareBits_2 (by decide) ?_
  refine lv_aload_n hx hb dL_squareBits_3 rfl (lv_at hl 0 rfl) ?_
  refine lv_iload_n hx hb dL_squareBits_4 rfl (lv_at hl 1 rfl) ?_
  refine lv_iload_n hx hb dL_squareBits_5 rfl (lv_at hl 2 rfl) ?_
  refine lv_iload_n hx hb dL_squareBits_6 rfl (lv_at hl 3 rfl) ?_
  obtain ⟨u1, u2, u3, u4, hP, hf⟩ := o_sno (i := 0) (q := o) hM (by omega)
  refine vx_calll (vx_runV (As := [.int dr, .int le, .int mat]) (rest := [.int 0, .ref q]) ⟨hx, hb, hml, hown, hts⟩ (rf_squareBits l hlt dC dI kA eD b g o dr le mat (by omega)) (cwV 3 hts gL_squareBits_X3_squareBits rfl rfl rfl (by decide +kernel) ⟨Nat.le_of_ble_eq_true rfl, Nat.le_of_ble_eq_true rfl⟩) ⟨fb_CX, va_recv hK hP (ci := 7) (q0 := 0) rfl rfl, fun U hU hW => ⟨rfl, CX.give hb0 hM hK hG hE hS hU hW⟩⟩ rfl rfl hl.1 rfl (lv_room (Nat.le_of_ble_eq_true rfl)) dL_squareBits_7 ⟨(Nat.le_of_ble_eq_true rfl), (Nat.le_of_ble_eq_true rfl)⟩) hS (fun q _ h => h) (fun q h => h) (fun q _ h => h) (fun E ce q9 u9 t H locs ht hvm hpx hBX hz1 hk1 hS hcell hvn hcl => ?_) (fun r5 u t H locs ht hvm hw6 hB hz1 hk1 hS => ?_)
  · skip
    have hM : TM (dC, dI) kA b g H := by rw [← ht]; exact hBX.2
    obtain ⟨rfl, hno⟩ := hBX.1
    refine vx_catch (E := "java/lang/IllegalArgumentException") (name := "java/lang/IllegalArgumentException") hown [] ⟨0, 11, 14, 13⟩ [] (by rw [htab]; rfl) (fun z hz => absurd hz List.not_mem_nil) rfl (by decide) (hts (.classLink RL 13 "java/lang/IllegalArgumentException") (by decide +kernel)) (th_any (a := #[]) rfl (hT.1 (.castable "java/lang/IllegalArgumentException" "java/lang/IllegalArgumentException") (by decide +kernel))) hcell hvn hcl ?_
    refine W.eq (g2 := F0 m 14 ls [.ref q9]) rfl ?_
    refine lv_astore (lv' := [(5, .ref q9), (0, .ref o), (1, .int dr), (2, .int le), (3, .int mat), (4, .ref q)]) hx hb dL_squareBits_14 hl (by decide) rfl (fun ls hl => ?_)
    refine lv_iconst (v := 1) hx hb dL_squareBits_16 (by decide) ?_
    refine W.widen (k := 1) (n := 6) (Nat.le_of_ble_eq_true rfl) (Nat.le_of_ble_eq_true rfl) ?_
    exact W.iret (v := 1) hx hb hr (fun t ht hW => ⟨⟨1, g, rfl, (Or.inr (⟨rfl, hno, rfl⟩)), CX.give hb0 hM hK hG hE hS ht hW⟩, hS.F ht⟩) hS.2.2 dL_squareBits_17
  · skip
    have hM := hB.back ht
    have hG := hB.2.2.2.1
    obtain ⟨hP, hf⟩ := o_ou (i := 0) (q := q) hM (by omega)
    refine rt_last (D := (dC, dI)) (t0 := 3) hx hb hK hP (hM.ge (by omega)) hS rfl (by unfold vp_in; decide) dL_squareBits_10 (fun H locs hP hz ho hS => ?_)
    have ec : (0 : Int32).toNatClampNeg = 0 := by decide
    rw [ec] at hP
    have hM0 := hM
    have hM := p_ou (i := 0) (f := vp_updL (pL g q) 0 r5) hM (by omega) hP ho hf
    obtain ⟨g7, hg7⟩ : ∃ z, z = uL g q (vp_updL (pL g q) 0 r5) := ⟨_, rfl⟩
    rw [← hg7] at hM
    have ht8 : tg g7 o = 1 := by rw [hg7]; exact hto
    have ht9 : tg g7 q = 34 := by rw [hg7]; exact htq
    have hG : GOK g7 := by rw [hg7]; exact (hG.uL hM0)
    refine lv_goto (tgt := 18) hx hb dL_squareBits_11 (by decide) ?_
    refine lv_iconst (v := 0) hx hb dL_squareBits_18 (by decide) ?_
    refine W.widen (k := 1) (n := 6) (Nat.le_of_ble_eq_true rfl) (Nat.le_of_ble_eq_true rfl) ?_
    exact W.iret (v := 0) hx hb hr (fun t ht hW => ⟨⟨0, g7, rfl, (Or.inl ⟨rfl, r5, hw6, by rw [hg7]⟩), CX.give hb0 hM hK hG hE hS ht hW⟩, hS.F ht⟩) hS.2.2 dL_squareBits_19

set_option maxHeartbeats 4000000 in
set_option maxRecDepth 100000 in
theorem rh_plan (l : Launch) (hlt : l.stackTraces = false) (dC : Nat → ClassId) (dI : Nat → Nat → Nat) (kA : Nat → ClassId) (eD b : Nat) (g : Gh) (o q : Nat) (site : Int32) (x : Int32) (y : Int32) (is : Int32)  (hto : tg g o = 1) (htq : tg g q = 34) : Met l yL_plan wsL_plan ({ frames := 7, cells := 1, slots := 6, locals := 107 }) (va_Pc [.ref o, .int site, .int x, .int y, .int is, .ref q] (CX (dC, dI) kA eD b g)) (va_Qi (fun (r : Int32) (u : Gh) => (r = 0 ∧ ∃ (rv : Int32) (v8 : Gh), ((∀ a : Nat, tg g a ≠ 0 → tg v8 a = tg g a) ∧ ∃ j a jx jy, site = nI j ∧ x = nI jx ∧ y = nI jy ∧ jx < 8 ∧ jy < 6 ∧ (j : Int) < (pI g o 0).toInt ∧ pO g (pF g o 2) j = some a ∧ rv = pn (pI v8 (pF g a 5)) 48 ∧ v8 = sI g (pF g a 5) (8 * jy + jx) (vp_nar .boolean is)) ∧ u = uL v8 q (vp_updL (pL v8 q) 0 rv.toInt64)) ∨ (r = 1 ∧ (¬ ((0 ≤ site.toInt ∧ site.toInt < (pI g o 0).toInt) ∧ (0 ≤ x.toInt ∧ x.toInt ≤ 7) ∧ 0 ≤ y.toInt ∧ y.toInt ≤ 5)) ∧ u = g)) (fun (u : Gh) t => CX (dC, dI) kA eD b u t) (fun q => b ≤ q)) 1 6 (fun q => b ≤ q) := by
  refine va_MetW (cc := cL_plan) (maxL := 7) (ret := (some .int)) (hh := [(0, 14, 17, 54)]) (by decide +kernel) rfl ?_
  intro p e s m args below meth c s₁ B hml hv
  obtain ⟨rfl, hb0, hM, hK, hG, hE⟩ := hv
  have hx := B.exec
  have hb := B.bytes
  have hr := B.returns
  have hts := atoms_spec (ws := wsL_plan) B.pre
  have hown : s.vm.findClass RL = some m.cls := findClass_of_methodNamed B.named
  have hlocks := B.notSynchronized
  have htab : c.exceptionTable.toList = tableOf [(0, 14, 17, 54)] := vx_table (x := yL_plan) B (hts _ List.mem_cons_self)
  have hT := hE.1
  have hN := hE.2.2.2.2.2.2.2.1
  have hS : va_S (fun q => b ≤ q) s.heap s.heap [] := va_S.rf
  have hl := lv_entry ([.ref o, .int site, .int x, .int y, .int is, .ref q]) (n := 7) (Nat.le_of_ble_eq_true rfl)
  rw [lg_entry_eq]
  generalize (lg_sl ([.ref o, .int site, .int x, .int y, .int is, .ref q]) ++ List.replicate (7 - (lg_sl ([.ref o, .int site, .int x, .int y, .int is, .ref q])).length) Slot.unset).toArray = ls at hl ⊢
  have hl : lv_has ls 7 [(0, .ref o), (1, .int site), (2, .int x), (3, .int y), (4, .int is), (5, .ref q)] := hl
  generalize ([.ref o, .int site, .int x, .int y, .int is, .ref q] : List Value).toArray = args at hts ⊢
  refine lv_aload hx hb dL_plan_0 (lv_at hl 5 rfl) ?_
  refine lv_iconst (v := 0) hx hb dL_plan_2 (by decide) ?_
  refine lv_aload_n hx hb dL_plan_3 rfl (lv_at hl 0 rfl) ?_
  refine lv_iload_n hx hb dL_plan_4 rfl (lv_at hl 1 rfl) ?_
  refine lv_iload_n hx hb dL_plan_5 rfl (lv_at hl 2 rfl) ?_
  refine lv_iload_n hx hb dL_plan_6 rfl (lv_at hl 3 rfl) ?_
  refine lv_iload hx hb dL_plan_7 (lv_at hl 4 rfl) ?_
  obtain ⟨u1, u2, u3, u4, hP, hf⟩ := o_sno (i := 0) (q := o) hM (by omega)
  refine vx_calli (vx_runV (As := [.int site, .int x, .int y, .int is]) (rest := [.int 0, .ref q]) ⟨hx, hb, hml, hown, hts⟩ (rf_plan l hlt dC dI kA eD b g o site x y is (by omega)) (cwV 4 hts gL_plan_X3_plan rfl rfl rfl (by decide +kernel) ⟨Nat.le_of_ble_eq_true rfl, Nat.le_of_ble_eq_true rfl⟩) ⟨fb_CX, va_recv hK hP (ci := 7) (q0 := 0) rfl rfl, fun U hU hW => ⟨rfl, CX.give hb0 hM hK hG hE hS hU hW⟩⟩ rfl rfl hl.1 rfl (lv_room (Nat.le_of_ble_eq_true rfl)) dL_plan_9 ⟨(Nat.le_of_ble_eq_true rfl), (Nat.le_of_ble_eq_true rfl)⟩) hS (fun q _ h => h) (fun q h => h) (fun q _ h => h) (fun E ce q9 u9 t H locs ht hvm hpx hBX hz1 hk1 hS hcell hvn hcl => ?_) (fun r5 g7 t H locs ht hvm hw6 hB hz1 hk1 hS => ?_)
  · skip
    have hM : TM (dC, dI) kA b g H := by rw [← ht]; exact hBX.2
    obtain ⟨rfl, hno⟩ := hBX.1
    refine vx_catch (E := "java/lang/IndexOutOfBoundsException") (name := "java/lang/IndexOutOfBoundsException") hown [] ⟨0, 14, 17, 54⟩ [] (by rw [htab]; rfl) (fun z hz => absurd hz List.not_mem_nil) rfl (by decide) (hts (.classLink RL 54 "java/lang/IndexOutOfBoundsException") (by decide +kernel)) (th_any (a := #[]) rfl (hT.1 (.castable "java/lang/IndexOutOfBoundsException" "java/lang/IndexOutOfBoundsException") (by decide +kernel))) hcell hvn hcl ?_
    refine W.eq (g2 := F0 m 17 ls [.ref q9]) rfl ?_
    refine lv_astore (lv' := [(6, .ref q9), (0, .ref o), (1, .int site), (2, .int x), (3, .int y), (4, .int is), (5, .ref q)]) hx hb dL_plan_17 hl (by decide) rfl (fun ls hl => ?_)
    refine lv_iconst (v := 1) hx hb dL_plan_19 (by decide) ?_
    refine W.widen (k := 1) (n := 6) (Nat.le_of_ble_eq_true rfl) (Nat.le_of_ble_eq_true rfl) ?_
    exact W.iret (v := 1) hx hb hr (fun t ht hW => ⟨⟨1, g, rfl, (Or.inr (⟨rfl, hno, rfl⟩)), CX.give hb0 hM hK hG hE hS ht hW⟩, hS.F ht⟩) hS.2.2 dL_plan_20
  · skip
    have hM := hB.back ht
    have hG := hB.2.2.2.1
    have hkt : ∀ a : Nat, tg g a ≠ 0 → tg g7 a = tg g a := hw6.1
    have ht8 : tg g7 o = 1 := (hkt o (by omega)).trans hto
    have ht9 : tg g7 q = 34 := (hkt q (by omega)).trans htq
    refine lv_i2l hx hb dL_plan_12 rfl ?_
    obtain ⟨hP, hf⟩ := o_ou (i := 0) (q := q) hM (by omega)
    refine rt_last (D := (dC, dI)) (t0 := 3) hx hb hK hP (hM.ge (by omega)) hS rfl (by unfold vp_in; decide) dL_plan_13 (fun H locs hP hz ho hS => ?_)
    have ec : (0 : Int32).toNatClampNeg = 0 := by decide
    rw [ec] at hP
    have hM0 := hM
    have hM := p_ou (i := 0) (f := vp_updL (pL g7 q) 0 r5.toInt64) hM (by omega) hP ho hf
    obtain ⟨g10, hg10⟩ : ∃ z, z = uL g7 q (vp_updL (pL g7 q) 0 r5.toInt64) := ⟨_, rfl⟩
    rw [← hg10] at hM
    have ht11 : tg g10 o = 1 := by rw [hg10]; exact ht8
    have ht12 : tg g10 q = 34 := by rw [hg10]; exact ht9
    have hG : GOK g10 := by rw [hg10]; exact (hG.uL hM0)
    refine lv_goto (tgt := 21) hx hb dL_plan_14 (by decide) ?_
    refine lv_iconst (v := 0) hx hb dL_plan_21 (by decide) ?_
    refine W.widen (k := 1) (n := 6) (Nat.le_of_ble_eq_true rfl) (Nat.le_of_ble_eq_true rfl) ?_
    exact W.iret (v := 0) hx hb hr (fun t ht hW => ⟨⟨0, g10, rfl, (Or.inl ⟨rfl, r5, g7, hw6, by rw [hg10]⟩), CX.give hb0 hM hK hG hE hS ht hW⟩, hS.F ht⟩) hS.2.2 dL_plan_22

set_option maxHeartbeats 4000000 in
set_option maxRecDepth 100000 in
theorem rh_carve (l : Launch) (hlt : l.stackTraces = false) (dC : Nat → ClassId) (dI : Nat → Nat → Nat) (kA : Nat → ClassId) (eD b : Nat) (g : Gh) (o q : Nat) (p0 : Int32) (p1 : Int32) (p2 : Int32) (p3 : Int32)  (hto : tg g o = 1) (htq : tg g q = 34) : Met l yL_carve wzL_carve ({ frames := 7, cells := 1, slots := 6, locals := 163 }) (va_Pc [.ref o, .int p0, .int p1, .int p2, .int p3, .ref q] (CX (dC, dI) kA eD b g)) (va_Qi (fun (r : Int32) (u : Gh) => ∃ f, u = uL g q f) (fun (u : Gh) t => CX (dC, dI) kA eD b u t) (fun q => b ≤ q)) 1 6 (fun q => b ≤ q) := by
  refine va_MetW (cc := cL_carve) (maxL := 7) (ret := (some .int)) (hh := [(0, 14, 17, 54), (0, 14, 21, 13), (0, 14, 25, 64), (0, 14, 29, 27), (0, 14, 33, 15)]) (by decide +kernel) rfl ?_
  intro p e s m args below meth c s₁ B hml hv
  obtain ⟨rfl, hb0, hM, hK, hG, hE⟩ := hv
  have hx := B.exec
  have hb := B.bytes
  have hr := B.returns
  have hts := atoms_spec (ws := wzL_carve) B.pre
  have hown : s.vm.findClass RL = some m.cls := findClass_of_methodNamed B.named
  have hlocks := B.notSynchronized
  have htab : c.exceptionTable.toList = tableOf [(0, 14, 17, 54), (0, 14, 21, 13), (0, 14, 25, 64), (0, 14, 29, 27), (0, 14, 33, 15)] := vx_table (x := yL_carve) B (hts _ List.mem_cons_self)
  have hT := hE.1
  have hN := hE.2.2.2.2.2.2.2.1
  have hS : va_S (fun q => b ≤ q) s.heap s.heap [] := va_S.rf
  have hl := lv_entry ([.ref o, .int p0, .int p1, .int p2, .int p3, .ref q]) (n := 7) (Nat.le_of_ble_eq_true rfl)
  rw [lg_entry_eq]
  generalize (lg_sl ([.ref o, .int p0, .int p1, .int p2, .int p3, .ref q]) ++ List.replicate (7 - (lg_sl ([.ref o, .int p0, .int p1, .int p2, .int p3, .ref q])).length) Slot.unset).toArray = ls at hl ⊢
  have hl : lv_has ls 7 [(0, .ref o), (1, .int p0), (2, .int p1), (3, .int p2), (4, .int p3), (5, .ref q)] := hl
  generalize ([.ref o, .int p0, .int p1, .int p2, .int p3, .ref q] : List Value).toArray = args at hts ⊢
  refine lv_aload hx hb dL_carve_0 (lv_at hl 5 rfl) ?_
  refine lv_iconst (v := 0) hx hb dL_carve_2 (by decide) ?_
  refine lv_aload_n hx hb dL_carve_3 rfl (lv_at hl 0 rfl) ?_
  refine lv_iload_n hx hb dL_carve_4 rfl (lv_at hl 1 rfl) ?_
  refine lv_iload_n hx hb dL_carve_5 rfl (lv_at hl 2 rfl) ?_
  refine lv_iload_n hx hb dL_carve_6 rfl (lv_at hl 3 rfl) ?_
  refine lv_iload hx hb dL_carve_7 (lv_at hl 4 rfl) ?_
  obtain ⟨u1, u2, u3, u4, hP, hf⟩ := o_sno (i := 0) (q := o) hM (by omega)
  refine vx_calli (vx_runV (As := [.int p0, .int p1, .int p2, .int p3]) (rest := [.int 0, .ref q]) ⟨hx, hb, hml, hown, hts⟩ (rf_carve l hlt dC dI kA eD b g o p0 p1 p2 p3 (by omega)) (cwV 4 hts gL_carve_X3_carve rfl rfl rfl (by decide +kernel) ⟨Nat.le_of_ble_eq_true rfl, Nat.le_of_ble_eq_true rfl⟩) ⟨fb_CX, va_recv hK hP (ci := 7) (q0 := 0) rfl rfl, fun U hU hW => ⟨rfl, CX.give hb0 hM hK hG hE hS hU hW⟩⟩ rfl rfl hl.1 rfl (lv_room (Nat.le_of_ble_eq_true rfl)) dL_carve_9 ⟨(Nat.le_of_ble_eq_true rfl), (Nat.le_of_ble_eq_true rfl)⟩) hS (fun q _ h => h) (fun q h => h) (fun q _ h => h) (fun E ce q9 u9 t H locs ht hvm hpx hBX hz1 hk1 hS hcell hvn hcl => ?_) (fun r5 u t H locs ht hvm hw6 hB hz1 hk1 hS => ?_)
  · skip
    have hM : TM (dC, dI) kA b g H := by rw [← ht]; exact hBX.2
    rcases hBX.1 with rfl | rfl | rfl | rfl | rfl
    · skip
      refine vx_catch (E := "java/lang/IndexOutOfBoundsException") (name := "java/lang/IndexOutOfBoundsException") hown [] ⟨0, 14, 17, 54⟩ [⟨0, 14, 21, 13⟩, ⟨0, 14, 25, 64⟩, ⟨0, 14, 29, 27⟩, ⟨0, 14, 33, 15⟩] (by rw [htab]; rfl) (fun z hz => absurd hz List.not_mem_nil) rfl (by decide) (hts (.classLink RL 54 "java/lang/IndexOutOfBoundsException") (by decide +kernel)) (th_any (a := #[]) rfl (hT.1 (.castable "java/lang/IndexOutOfBoundsException" "java/lang/IndexOutOfBoundsException") (by decide +kernel))) hcell hvn hcl ?_
      refine W.eq (g2 := F0 m 17 ls [.ref q9]) rfl ?_
      refine lv_astore (lv' := [(6, .ref q9), (0, .ref o), (1, .int p0), (2, .int p1), (3, .int p2), (4, .int p3), (5, .ref q)]) hx hb dL_carve_17 hl (by decide) rfl (fun ls hl => ?_)
      refine lv_iconst (v := 1) hx hb dL_carve_19 (by decide) ?_
      refine W.widen (k := 1) (n := 6) (Nat.le_of_ble_eq_true rfl) (Nat.le_of_ble_eq_true rfl) ?_
      exact W.iret (v := 1) hx hb hr (fun t ht hW => ⟨⟨1, g, rfl, (⟨pL g q, (uL_id rfl).symm⟩), CX.give hb0 hM hK hG hE hS ht hW⟩, hS.F ht⟩) hS.2.2 dL_carve_20
    · skip
      refine vx_catch (E := "java/lang/IllegalArgumentException") (name := "java/lang/IllegalArgumentException") hown [⟨0, 14, 17, 54⟩] ⟨0, 14, 21, 13⟩ [⟨0, 14, 25, 64⟩, ⟨0, 14, 29, 27⟩, ⟨0, 14, 33, 15⟩] (by rw [htab]; rfl) (fun z hz => by rcases List.mem_singleton.mp hz with rfl; exact Or.inr ⟨by decide, _, hts (.classLink RL 54 "java/lang/IndexOutOfBoundsException") (by decide +kernel), hT.2.2.1 ("java/lang/IllegalArgumentException", "java/lang/IndexOutOfBoundsException") (by decide +kernel)⟩) rfl (by decide) (hts (.classLink RL 13 "java/lang/IllegalArgumentException") (by decide +kernel)) (th_any (a := #[]) rfl (hT.1 (.castable "java/lang/IllegalArgumentException" "java/lang/IllegalArgumentException") (by decide +kernel))) hcell hvn hcl ?_
      refine W.eq (g2 := F0 m 21 ls [.ref q9]) rfl ?_
      refine lv_astore (lv' := [(6, .ref q9), (0, .ref o), (1, .int p0), (2, .int p1), (3, .int p2), (4, .int p3), (5, .ref q)]) hx hb dL_carve_21 hl (by decide) rfl (fun ls hl => ?_)
      refine lv_iconst (v := 2) hx hb dL_carve_23 (by decide) ?_
      refine W.widen (k := 1) (n := 6) (Nat.le_of_ble_eq_true rfl) (Nat.le_of_ble_eq_true rfl) ?_
      exact W.iret (v := 2) hx hb hr (fun t ht hW => ⟨⟨2, g, rfl, (⟨pL g q, (uL_id rfl).symm⟩), CX.give hb0 hM hK hG hE hS ht hW⟩, hS.F ht⟩) hS.2.2 dL_carve_24
    · skip
      refine vx_catch (E := "java/util/NoSuchElementException") (name := "java/util/NoSuchElementException") hown [⟨0, 14, 17, 54⟩, ⟨0, 14, 21, 13⟩] ⟨0, 14, 25, 64⟩ [⟨0, 14, 29, 27⟩, ⟨0, 14, 33, 15⟩] (by rw [htab]; rfl) (fun z hz => by simp only [List.mem_cons, List.not_mem_nil, or_false] at hz; rcases hz with rfl | rfl <;> first | exact Or.inr ⟨by decide, _, hts (.classLink RL 54 "java/lang/IndexOutOfBoundsException") (by decide +kernel), hT.2.2.1 ("java/util/NoSuchElementException", "java/lang/IndexOutOfBoundsException") (by decide +kernel)⟩ | exact Or.inr ⟨by decide, _, hts (.classLink RL 13 "java/lang/IllegalArgumentException") (by decide +kernel), hT.2.2.1 ("java/util/NoSuchElementException", "java/lang/IllegalArgumentException") (by decide +kernel)⟩) rfl (by decide) (hts (.classLink RL 64 "java/util/NoSuchElementException") (by decide +kernel)) (th_any (a := #[]) rfl (hT.1 (.castable "java/util/NoSuchElementException" "java/util/NoSuchElementException") (by decide +kernel))) hcell hvn hcl ?_
      refine W.eq (g2 := F0 m 25 ls [.ref q9]) rfl ?_
      refine lv_astore (lv' := [(6, .ref q9), (0, .ref o), (1, .int p0), (2, .int p1), (3, .int p2), (4, .int p3), (5, .ref q)]) hx hb dL_carve_25 hl (by decide) rfl (fun ls hl => ?_)
      refine lv_iconst (v := 3) hx hb dL_carve_27 (by decide) ?_
      refine W.widen (k := 1) (n := 6) (Nat.le_of_ble_eq_true rfl) (Nat.le_of_ble_eq_true rfl) ?_
      exact W.iret (v := 3) hx hb hr (fun t ht hW => ⟨⟨3, g, rfl, (⟨pL g q, (uL_id rfl).symm⟩), CX.give hb0 hM hK hG hE hS ht hW⟩, hS.F ht⟩) hS.2.2 dL_carve_28
    · skip
      refine vx_catch (E := "java/lang/IllegalStateException") (name := "java/lang/IllegalStateException") hown [⟨0, 14, 17, 54⟩, ⟨0, 14, 21, 13⟩, ⟨0, 14, 25, 64⟩] ⟨0, 14, 29, 27⟩ [⟨0, 14, 33, 15⟩] (by rw [htab]; rfl) (fun z hz => by simp only [List.mem_cons, List.not_mem_nil, or_false] at hz; rcases hz with rfl | rfl | rfl <;> first | exact Or.inr ⟨by decide, _, hts (.classLink RL 54 "java/lang/IndexOutOfBoundsException") (by decide +kernel), hT.2.2.1 ("java/lang/IllegalStateException", "java/lang/IndexOutOfBoundsException") (by decide +kernel)⟩ | exact Or.inr ⟨by decide, _, hts (.classLink RL 13 "java/lang/IllegalArgumentException") (by decide +kernel), hT.2.2.1 ("java/lang/IllegalStateException", "java/lang/IllegalArgumentException") (by decide +kernel)⟩ | exact Or.inr ⟨by decide, _, hts (.classLink RL 64 "java/util/NoSuchElementException") (by decide +kernel), hT.2.2.1 ("java/lang/IllegalStateException", "java/util/NoSuchElementException") (by decide +kernel)⟩) rfl (by decide) (hts (.classLink RL 27 "java/lang/IllegalStateException") (by decide +kernel)) (th_any (a := #[]) rfl (hT.1 (.castable "java/lang/IllegalStateException" "java/lang/IllegalStateException") (by decide +kernel))) hcell hvn hcl ?_
      refine W.eq (g2 := F0 m 29 ls [.ref q9]) rfl ?_
      refine lv_astore (lv' := [(6, .ref q9), (0, .ref o), (1, .int p0), (2, .int p1), (3, .int p2), (4, .int p3), (5, .ref q)]) hx hb dL_carve_29 hl (by decide) rfl (fun ls hl => ?_)
      refine lv_iconst (v := 4) hx hb dL_carve_31 (by decide) ?_
      refine W.widen (k := 1) (n := 6) (Nat.le_of_ble_eq_true rfl) (Nat.le_of_ble_eq_true rfl) ?_
      exact W.iret (v := 4) hx hb hr (fun t ht hW => ⟨⟨4, g, rfl, (⟨pL g q, (uL_id rfl).symm⟩), CX.give hb0 hM hK hG hE hS ht hW⟩, hS.F ht⟩) hS.2.2 dL_carve_32
    · skip
      refine vx_catch (E := "java/lang/UnsupportedOperationException") (name := "java/lang/UnsupportedOperationException") hown [⟨0, 14, 17, 54⟩, ⟨0, 14, 21, 13⟩, ⟨0, 14, 25, 64⟩, ⟨0, 14, 29, 27⟩] ⟨0, 14, 33, 15⟩ [] (by rw [htab]; rfl) (fun z hz => by simp only [List.mem_cons, List.not_mem_nil, or_false] at hz; rcases hz with rfl | rfl | rfl | rfl <;> first | exact Or.inr ⟨by decide, _, hts (.classLink RL 54 "java/lang/IndexOutOfBoundsException") (by decide +kernel), hT.2.2.1 ("java/lang/UnsupportedOperationException", "java/lang/IndexOutOfBoundsException") (by decide +kernel)⟩ | exact Or.inr ⟨by decide, _, hts (.classLink RL 13 "java/lang/IllegalArgumentException") (by decide +kernel), hT.2.2.1 ("java/lang/UnsupportedOperationException", "java/lang/IllegalArgumentException") (by decide +kernel)⟩ | exact Or.inr ⟨by decide, _, hts (.classLink RL 64 "java/util/NoSuchElementException") (by decide +kernel), hT.2.2.1 ("java/lang/UnsupportedOperationException", "java/util/NoSuchElementException") (by decide +kernel)⟩ | exact Or.inr ⟨by decide, _, hts (.classLink RL 27 "java/lang/IllegalStateException") (by decide +kernel), hT.2.2.1 ("java/lang/UnsupportedOperationException", "java/lang/IllegalStateException") (by decide +kernel)⟩) rfl (by decide) (hts (.classLink RL 15 "java/lang/UnsupportedOperationException") (by decide +kernel)) (th_any (a := #[]) rfl (hT.1 (.castable "java/lang/UnsupportedOperationException" "java/lang/UnsupportedOperationException") (by decide +kernel))) hcell hvn hcl ?_
      refine W.eq (g2 := F0 m 33 ls [.ref q9]) rfl ?_
      refine lv_astore (lv' := [(6, .ref q9), (0, .ref o), (1, .int p0), (2, .int p1), (3, .int p2), (4, .int p3), (5, .ref q)]) hx hb dL_carve_33 hl (by decide) rfl (fun ls hl => ?_)
      refine lv_iconst (v := 5) hx hb dL_carve_35 (by decide) ?_
      refine W.widen (k := 1) (n := 6) (Nat.le_of_ble_eq_true rfl) (Nat.le_of_ble_eq_true rfl) ?_
      exact W.iret (v := 5) hx hb hr (fun t ht hW => ⟨⟨5, g, rfl, (⟨pL g q, (uL_id rfl).symm⟩), CX.give hb0 hM hK hG hE hS ht hW⟩, hS.F ht⟩) hS.2.2 dL_carve_36
  · skip
    have hM := hB.back ht
    have hG := hB.2.2.2.1
    refine lv_i2l hx hb dL_carve_12 rfl ?_
    obtain ⟨hP, hf⟩ := o_ou (i := 0) (q := q) hM (by omega)
    refine rt_last (D := (dC, dI)) (t0 := 3) hx hb hK hP (hM.ge (by omega)) hS rfl (by unfold vp_in; decide) dL_carve_13 (fun H locs hP hz ho hS => ?_)
    have ec : (0 : Int32).toNatClampNeg = 0 := by decide
    rw [ec] at hP
    have hM0 := hM
    have hM := p_ou (i := 0) (f := vp_updL (pL g q) 0 r5.toInt64) hM (by omega) hP ho hf
    obtain ⟨g7, hg7⟩ : ∃ z, z = uL g q (vp_updL (pL g q) 0 r5.toInt64) := ⟨_, rfl⟩
    rw [← hg7] at hM
    have ht8 : tg g7 o = 1 := by rw [hg7]; exact hto
    have ht9 : tg g7 q = 34 := by rw [hg7]; exact htq
    have hG : GOK g7 := by rw [hg7]; exact (hG.uL hM0)
    refine lv_goto (tgt := 37) hx hb dL_carve_14 (by decide) ?_
    refine lv_iconst (v := 0) hx hb dL_carve_37 (by decide) ?_
    refine W.widen (k := 1) (n := 6) (Nat.le_of_ble_eq_true rfl) (Nat.le_of_ble_eq_true rfl) ?_
    exact W.iret (v := 0) hx hb hr (fun t ht hW => ⟨⟨0, g7, rfl, (⟨_, by rw [hg7]⟩), CX.give hb0 hM hK hG hE hS ht hW⟩, hS.F ht⟩) hS.2.2 dL_carve_38

set_option maxHeartbeats 4000000 in
set_option maxRecDepth 100000 in
theorem rh_hours (l : Launch) (hlt : l.stackTraces = false) (dC : Nat → ClassId) (dI : Nat → Nat → Nat) (kA : Nat → ClassId) (eD b : Nat) (g : Gh) (o q : Nat) (p0 : Int32)  (hto : tg g o = 1) (htq : tg g q = 34) : Met l yL_hours wsL_hours ({ frames := 7, cells := 1, slots := 6, locals := 104 }) (va_Pc [.ref o, .int p0, .ref q] (CX (dC, dI) kA eD b g)) (va_Qi (fun (r : Int32) (u : Gh) => ∃ f, u = uL g q f) (fun (u : Gh) t => CX (dC, dI) kA eD b u t) (fun q => b ≤ q)) 1 6 (fun q => b ≤ q) := by
  refine va_MetW (cc := cL_hours) (maxL := 4) (ret := (some .int)) (hh := [(0, 9, 12, 54)]) (by decide +kernel) rfl ?_
  intro p e s m args below meth c s₁ B hml hv
  obtain ⟨rfl, hb0, hM, hK, hG, hE⟩ := hv
  have hx := B.exec
  have hb := B.bytes
  have hr := B.returns
  have hts := atoms_spec (ws := wsL_hours) B.pre
  have hown : s.vm.findClass RL = some m.cls := findClass_of_methodNamed B.named
  have hlocks := B.notSynchronized
  have htab : c.exceptionTable.toList = tableOf [(0, 9, 12, 54)] := vx_table (x := yL_hours) B (hts _ List.mem_cons_self)
  have hT := hE.1
  have hN := hE.2.2.2.2.2.2.2.1
  have hS : va_S (fun q => b ≤ q) s.heap s.heap [] := va_S.rf
  have hl := lv_entry ([.ref o, .int p0, .ref q]) (n := 4) (Nat.le_of_ble_eq_true rfl)
  rw [lg_entry_eq]
  generalize (lg_sl ([.ref o, .int p0, .ref q]) ++ List.replicate (4 - (lg_sl ([.ref o, .int p0, .ref q])).length) Slot.unset).toArray = ls at hl ⊢
  have hl : lv_has ls 4 [(0, .ref o), (1, .int p0), (2, .ref q)] := hl
  generalize ([.ref o, .int p0, .ref q] : List Value).toArray = args at hts ⊢
  refine lv_aload_n hx hb dL_hours_0 rfl (lv_at hl 2 rfl) ?_
  refine lv_iconst (v := 0) hx hb dL_hours_1 (by decide) ?_
  refine lv_aload_n hx hb dL_hours_2 rfl (lv_at hl 0 rfl) ?_
  refine lv_iload_n hx hb dL_hours_3 rfl (lv_at hl 1 rfl) ?_
  obtain ⟨u1, u2, u3, u4, hP, hf⟩ := o_sno (i := 0) (q := o) hM (by omega)
  refine vx_calli (vx_runV (As := [.int p0]) (rest := [.int 0, .ref q]) ⟨hx, hb, hml, hown, hts⟩ (rf_hours l hlt dC dI kA eD b g o p0 (by omega)) (cwV 1 hts gL_hours_X3_hours rfl rfl rfl (by decide +kernel) ⟨Nat.le_of_ble_eq_true rfl, Nat.le_of_ble_eq_true rfl⟩) ⟨fb_CX, va_recv hK hP (ci := 7) (q0 := 0) rfl rfl, fun U hU hW => ⟨rfl, CX.give hb0 hM hK hG hE hS hU hW⟩⟩ rfl rfl hl.1 rfl (lv_room (Nat.le_of_ble_eq_true rfl)) dL_hours_4 ⟨(Nat.le_of_ble_eq_true rfl), (Nat.le_of_ble_eq_true rfl)⟩) hS (fun q _ h => h) (fun q h => h) (fun q _ h => h) (fun E ce q9 u9 t H locs ht hvm hpx hBX hz1 hk1 hS hcell hvn hcl => ?_) (fun r5 u t H locs ht hvm hw6 hB hz1 hk1 hS => ?_)
  · skip
    have hM : TM (dC, dI) kA b g H := by rw [← ht]; exact hBX.2
    obtain rfl := hBX.1
    refine vx_catch (E := "java/lang/IndexOutOfBoundsException") (name := "java/lang/IndexOutOfBoundsException") hown [] ⟨0, 9, 12, 54⟩ [] (by rw [htab]; rfl) (fun z hz => absurd hz List.not_mem_nil) rfl (by decide) (hts (.classLink RL 54 "java/lang/IndexOutOfBoundsException") (by decide +kernel)) (th_any (a := #[]) rfl (hT.1 (.castable "java/lang/IndexOutOfBoundsException" "java/lang/IndexOutOfBoundsException") (by decide +kernel))) hcell hvn hcl ?_
    refine W.eq (g2 := F0 m 12 ls [.ref q9]) rfl ?_
    refine lv_astore_n (lv' := [(3, .ref q9), (0, .ref o), (1, .int p0), (2, .ref q)]) hx hb dL_hours_12 rfl hl (by decide) rfl (fun ls hl => ?_)
    refine lv_iconst (v := 1) hx hb dL_hours_13 (by decide) ?_
    refine W.widen (k := 1) (n := 6) (Nat.le_of_ble_eq_true rfl) (Nat.le_of_ble_eq_true rfl) ?_
    exact W.iret (v := 1) hx hb hr (fun t ht hW => ⟨⟨1, g, rfl, (⟨pL g q, (uL_id rfl).symm⟩), CX.give hb0 hM hK hG hE hS ht hW⟩, hS.F ht⟩) hS.2.2 dL_hours_14
  · skip
    have hM := hB.back ht
    have hG := hB.2.2.2.1
    refine lv_i2l hx hb dL_hours_7 rfl ?_
    obtain ⟨hP, hf⟩ := o_ou (i := 0) (q := q) hM (by omega)
    refine rt_last (D := (dC, dI)) (t0 := 3) hx hb hK hP (hM.ge (by omega)) hS rfl (by unfold vp_in; decide) dL_hours_8 (fun H locs hP hz ho hS => ?_)
    have ec : (0 : Int32).toNatClampNeg = 0 := by decide
    rw [ec] at hP
    have hM0 := hM
    have hM := p_ou (i := 0) (f := vp_updL (pL g q) 0 r5.toInt64) hM (by omega) hP ho hf
    obtain ⟨g7, hg7⟩ : ∃ z, z = uL g q (vp_updL (pL g q) 0 r5.toInt64) := ⟨_, rfl⟩
    rw [← hg7] at hM
    have ht8 : tg g7 o = 1 := by rw [hg7]; exact hto
    have ht9 : tg g7 q = 34 := by rw [hg7]; exact htq
    have hG : GOK g7 := by rw [hg7]; exact (hG.uL hM0)
    refine lv_goto (tgt := 15) hx hb dL_hours_9 (by decide) ?_
    refine lv_iconst (v := 0) hx hb dL_hours_15 (by decide) ?_
    refine W.widen (k := 1) (n := 6) (Nat.le_of_ble_eq_true rfl) (Nat.le_of_ble_eq_true rfl) ?_
    exact W.iret (v := 0) hx hb hr (fun t ht hW => ⟨⟨0, g7, rfl, (⟨_, by rw [hg7]⟩), CX.give hb0 hM hK hG hE hS ht hW⟩, hS.F ht⟩) hS.2.2 dL_hours_16

set_option maxHeartbeats 4000000 in
set_option maxRecDepth 100000 in
theorem rh_judge (l : Launch) (hlt : l.stackTraces = false) (dC : Nat → ClassId) (dI : Nat → Nat → Nat) (kA : Nat → ClassId) (eD b : Nat) (g : Gh) (o q : Nat) (p0 : Int32)  (hto : tg g o = 1) (htq : tg g q = 35) : Met l yL_judge wsL_judge ({ frames := 7, cells := 1, slots := 6, locals := 104 }) (va_Pc [.ref o, .int p0, .ref q] (CX (dC, dI) kA eD b g)) (va_Qi (fun (r : Int32) (u : Gh) => u = g) (fun (u : Gh) t => CX (dC, dI) kA eD b u t) (fun q => b ≤ q)) 1 6 (fun q => b ≤ q) := by
  refine va_MetW (cc := cL_judge) (maxL := 4) (ret := (some .int)) (hh := [(0, 8, 11, 54)]) (by decide +kernel) rfl ?_
  intro p e s m args below meth c s₁ B hml hv
  obtain ⟨rfl, hb0, hM, hK, hG, hE⟩ := hv
  have hx := B.exec
  have hb := B.bytes
  have hr := B.returns
  have hts := atoms_spec (ws := wsL_judge) B.pre
  have hown : s.vm.findClass RL = some m.cls := findClass_of_methodNamed B.named
  have hlocks := B.notSynchronized
  have htab : c.exceptionTable.toList = tableOf [(0, 8, 11, 54)] := vx_table (x := yL_judge) B (hts _ List.mem_cons_self)
  have hT := hE.1
  have hN := hE.2.2.2.2.2.2.2.1
  have hS : va_S (fun q => b ≤ q) s.heap s.heap [] := va_S.rf
  have hl := lv_entry ([.ref o, .int p0, .ref q]) (n := 4) (Nat.le_of_ble_eq_true rfl)
  rw [lg_entry_eq]
  generalize (lg_sl ([.ref o, .int p0, .ref q]) ++ List.replicate (4 - (lg_sl ([.ref o, .int p0, .ref q])).length) Slot.unset).toArray = ls at hl ⊢
  have hl : lv_has ls 4 [(0, .ref o), (1, .int p0), (2, .ref q)] := hl
  generalize ([.ref o, .int p0, .ref q] : List Value).toArray = args at hts ⊢
  refine lv_aload_n hx hb dL_judge_0 rfl (lv_at hl 2 rfl) ?_
  refine lv_iconst (v := 0) hx hb dL_judge_1 (by decide) ?_
  refine lv_aload_n hx hb dL_judge_2 rfl (lv_at hl 0 rfl) ?_
  refine lv_iload_n hx hb dL_judge_3 rfl (lv_at hl 1 rfl) ?_
  obtain ⟨u1, u2, u3, u4, hP, hf⟩ := o_sno (i := 0) (q := o) hM (by omega)
  refine vx_calld (vx_runV (As := [.int p0]) (rest := [.int 0, .ref q]) ⟨hx, hb, hml, hown, hts⟩ (rf_judge l hlt dC dI kA eD b g o p0 (by omega)) (cwV 1 hts gL_judge_X3_judge rfl rfl rfl (by decide +kernel) ⟨Nat.le_of_ble_eq_true rfl, Nat.le_of_ble_eq_true rfl⟩) ⟨fb_CX, va_recv hK hP (ci := 7) (q0 := 0) rfl rfl, fun U hU hW => ⟨rfl, CX.give hb0 hM hK hG hE hS hU hW⟩⟩ rfl rfl hl.1 rfl (lv_room (Nat.le_of_ble_eq_true rfl)) dL_judge_4 ⟨(Nat.le_of_ble_eq_true rfl), (Nat.le_of_ble_eq_true rfl)⟩) hS (fun q _ h => h) (fun q h => h) (fun q _ h => h) (fun E ce q9 u9 t H locs ht hvm hpx hBX hz1 hk1 hS hcell hvn hcl => ?_) (fun r5 u t H locs ht hvm hw6 hB hz1 hk1 hS => ?_)
  · skip
    have hM : TM (dC, dI) kA b g H := by rw [← ht]; exact hBX.2
    obtain rfl := hBX.1
    refine vx_catch (E := "java/lang/IndexOutOfBoundsException") (name := "java/lang/IndexOutOfBoundsException") hown [] ⟨0, 8, 11, 54⟩ [] (by rw [htab]; rfl) (fun z hz => absurd hz List.not_mem_nil) rfl (by decide) (hts (.classLink RL 54 "java/lang/IndexOutOfBoundsException") (by decide +kernel)) (th_any (a := #[]) rfl (hT.1 (.castable "java/lang/IndexOutOfBoundsException" "java/lang/IndexOutOfBoundsException") (by decide +kernel))) hcell hvn hcl ?_
    refine W.eq (g2 := F0 m 11 ls [.ref q9]) rfl ?_
    refine lv_astore_n (lv' := [(3, .ref q9), (0, .ref o), (1, .int p0), (2, .ref q)]) hx hb dL_judge_11 rfl hl (by decide) rfl (fun ls hl => ?_)
    refine lv_iconst (v := 1) hx hb dL_judge_12 (by decide) ?_
    refine W.widen (k := 1) (n := 6) (Nat.le_of_ble_eq_true rfl) (Nat.le_of_ble_eq_true rfl) ?_
    exact W.iret (v := 1) hx hb hr (fun t ht hW => ⟨⟨1, g, rfl, (rfl), CX.give hb0 hM hK hG hE hS ht hW⟩, hS.F ht⟩) hS.2.2 dL_judge_13
  · skip
    have hM := hB.back ht
    have hG := hB.2.2.2.1
    obtain ⟨u7, hP, hf⟩ := o_od (i := 0) (q := q) hM (by omega)
    refine rt_dast (D := (dC, dI)) (t0 := 4) hx hb hK hP (hM.ge (by omega)) hS rfl (by unfold vp_in; decide) dL_judge_7 (fun H locs hP hz ho hS => ?_)
    have ec : (0 : Int32).toNatClampNeg = 0 := by decide
    rw [ec] at hP
    have hM := s_od (i := 0) hM (by omega) hP ho hf
    refine lv_goto (tgt := 14) hx hb dL_judge_8 (by decide) ?_
    refine lv_iconst (v := 0) hx hb dL_judge_14 (by decide) ?_
    refine W.widen (k := 1) (n := 6) (Nat.le_of_ble_eq_true rfl) (Nat.le_of_ble_eq_true rfl) ?_
    exact W.iret (v := 0) hx hb hr (fun t ht hW => ⟨⟨0, g, rfl, (rfl), CX.give hb0 hM hK hG hE hS ht hW⟩, hS.F ht⟩) hS.2.2 dL_judge_15

set_option maxHeartbeats 4000000 in
set_option maxRecDepth 100000 in
theorem rh_mark (l : Launch) (hlt : l.stackTraces = false) (dC : Nat → ClassId) (dI : Nat → Nat → Nat) (kA : Nat → ClassId) (eD b : Nat) (g : Gh) (o q : Nat) (p0 : Int32)  (hto : tg g o = 1) (htq : tg g q = 35) : Met l yL_mark wzL_mark ({ frames := 7, cells := 1, slots := 6, locals := 104 }) (va_Pc [.ref o, .int p0, .ref q] (CX (dC, dI) kA eD b g)) (va_Qi (fun (r : Int32) (u : Gh) => u = g) (fun (u : Gh) t => CX (dC, dI) kA eD b u t) (fun q => b ≤ q)) 1 6 (fun q => b ≤ q) := by
  refine va_MetW (cc := cL_mark) (maxL := 4) (ret := (some .int)) (hh := [(0, 8, 11, 54), (0, 8, 14, 64)]) (by decide +kernel) rfl ?_
  intro p e s m args below meth c s₁ B hml hv
  obtain ⟨rfl, hb0, hM, hK, hG, hE⟩ := hv
  have hx := B.exec
  have hb := B.bytes
  have hr := B.returns
  have hts := atoms_spec (ws := wzL_mark) B.pre
  have hown : s.vm.findClass RL = some m.cls := findClass_of_methodNamed B.named
  have hlocks := B.notSynchronized
  have htab : c.exceptionTable.toList = tableOf [(0, 8, 11, 54), (0, 8, 14, 64)] := vx_table (x := yL_mark) B (hts _ List.mem_cons_self)
  have hT := hE.1
  have hN := hE.2.2.2.2.2.2.2.1
  have hS : va_S (fun q => b ≤ q) s.heap s.heap [] := va_S.rf
  have hl := lv_entry ([.ref o, .int p0, .ref q]) (n := 4) (Nat.le_of_ble_eq_true rfl)
  rw [lg_entry_eq]
  generalize (lg_sl ([.ref o, .int p0, .ref q]) ++ List.replicate (4 - (lg_sl ([.ref o, .int p0, .ref q])).length) Slot.unset).toArray = ls at hl ⊢
  have hl : lv_has ls 4 [(0, .ref o), (1, .int p0), (2, .ref q)] := hl
  generalize ([.ref o, .int p0, .ref q] : List Value).toArray = args at hts ⊢
  refine lv_aload_n hx hb dL_mark_0 rfl (lv_at hl 2 rfl) ?_
  refine lv_iconst (v := 0) hx hb dL_mark_1 (by decide) ?_
  refine lv_aload_n hx hb dL_mark_2 rfl (lv_at hl 0 rfl) ?_
  refine lv_iload_n hx hb dL_mark_3 rfl (lv_at hl 1 rfl) ?_
  obtain ⟨u1, u2, u3, u4, hP, hf⟩ := o_sno (i := 0) (q := o) hM (by omega)
  refine vx_calld (vx_runV (As := [.int p0]) (rest := [.int 0, .ref q]) ⟨hx, hb, hml, hown, hts⟩ (rf_mark l hlt dC dI kA eD b g o p0 (by omega)) (cwV 1 hts gL_mark_X3_mark rfl rfl rfl (by decide +kernel) ⟨Nat.le_of_ble_eq_true rfl, Nat.le_of_ble_eq_true rfl⟩) ⟨fb_CX, va_recv hK hP (ci := 7) (q0 := 0) rfl rfl, fun U hU hW => ⟨rfl, CX.give hb0 hM hK hG hE hS hU hW⟩⟩ rfl rfl hl.1 rfl (lv_room (Nat.le_of_ble_eq_true rfl)) dL_mark_4 ⟨(Nat.le_of_ble_eq_true rfl), (Nat.le_of_ble_eq_true rfl)⟩) hS (fun q _ h => h) (fun q h => h) (fun q _ h => h) (fun E ce q9 u9 t H locs ht hvm hpx hBX hz1 hk1 hS hcell hvn hcl => ?_) (fun r5 u t H locs ht hvm hw6 hB hz1 hk1 hS => ?_)
  · skip
    have hM : TM (dC, dI) kA b g H := by rw [← ht]; exact hBX.2
    rcases hBX.1 with rfl | rfl
    · skip
      refine vx_catch (E := "java/lang/IndexOutOfBoundsException") (name := "java/lang/IndexOutOfBoundsException") hown [] ⟨0, 8, 11, 54⟩ [⟨0, 8, 14, 64⟩] (by rw [htab]; rfl) (fun z hz => absurd hz List.not_mem_nil) rfl (by decide) (hts (.classLink RL 54 "java/lang/IndexOutOfBoundsException") (by decide +kernel)) (th_any (a := #[]) rfl (hT.1 (.castable "java/lang/IndexOutOfBoundsException" "java/lang/IndexOutOfBoundsException") (by decide +kernel))) hcell hvn hcl ?_
      refine W.eq (g2 := F0 m 11 ls [.ref q9]) rfl ?_
      refine lv_astore_n (lv' := [(3, .ref q9), (0, .ref o), (1, .int p0), (2, .ref q)]) hx hb dL_mark_11 rfl hl (by decide) rfl (fun ls hl => ?_)
      refine lv_iconst (v := 1) hx hb dL_mark_12 (by decide) ?_
      refine W.widen (k := 1) (n := 6) (Nat.le_of_ble_eq_true rfl) (Nat.le_of_ble_eq_true rfl) ?_
      exact W.iret (v := 1) hx hb hr (fun t ht hW => ⟨⟨1, g, rfl, (rfl), CX.give hb0 hM hK hG hE hS ht hW⟩, hS.F ht⟩) hS.2.2 dL_mark_13
    · skip
      refine vx_catch (E := "java/util/NoSuchElementException") (name := "java/util/NoSuchElementException") hown [⟨0, 8, 11, 54⟩] ⟨0, 8, 14, 64⟩ [] (by rw [htab]; rfl) (fun z hz => by rcases List.mem_singleton.mp hz with rfl; exact Or.inr ⟨by decide, _, hts (.classLink RL 54 "java/lang/IndexOutOfBoundsException") (by decide +kernel), hT.2.2.1 ("java/util/NoSuchElementException", "java/lang/IndexOutOfBoundsException") (by decide +kernel)⟩) rfl (by decide) (hts (.classLink RL 64 "java/util/NoSuchElementException") (by decide +kernel)) (th_any (a := #[]) rfl (hT.1 (.castable "java/util/NoSuchElementException" "java/util/NoSuchElementException") (by decide +kernel))) hcell hvn hcl ?_
      refine W.eq (g2 := F0 m 14 ls [.ref q9]) rfl ?_
      refine lv_astore_n (lv' := [(3, .ref q9), (0, .ref o), (1, .int p0), (2, .ref q)]) hx hb dL_mark_14 rfl hl (by decide) rfl (fun ls hl => ?_)
      refine lv_iconst (v := 2) hx hb dL_mark_15 (by decide) ?_
      refine W.widen (k := 1) (n := 6) (Nat.le_of_ble_eq_true rfl) (Nat.le_of_ble_eq_true rfl) ?_
      exact W.iret (v := 2) hx hb hr (fun t ht hW => ⟨⟨2, g, rfl, (rfl), CX.give hb0 hM hK hG hE hS ht hW⟩, hS.F ht⟩) hS.2.2 dL_mark_16
  · skip
    have hM := hB.back ht
    have hG := hB.2.2.2.1
    obtain ⟨u7, hP, hf⟩ := o_od (i := 0) (q := q) hM (by omega)
    refine rt_dast (D := (dC, dI)) (t0 := 4) hx hb hK hP (hM.ge (by omega)) hS rfl (by unfold vp_in; decide) dL_mark_7 (fun H locs hP hz ho hS => ?_)
    have ec : (0 : Int32).toNatClampNeg = 0 := by decide
    rw [ec] at hP
    have hM := s_od (i := 0) hM (by omega) hP ho hf
    refine lv_goto (tgt := 17) hx hb dL_mark_8 (by decide) ?_
    refine lv_iconst (v := 0) hx hb dL_mark_17 (by decide) ?_
    refine W.widen (k := 1) (n := 6) (Nat.le_of_ble_eq_true rfl) (Nat.le_of_ble_eq_true rfl) ?_
    exact W.iret (v := 0) hx hb hr (fun t ht hW => ⟨⟨0, g, rfl, (rfl), CX.give hb0 hM hK hG hE hS ht hW⟩, hS.F ht⟩) hS.2.2 dL_mark_18

set_option maxHeartbeats 4000000 in
set_option maxRecDepth 100000 in
theorem rh_take (l : Launch) (hlt : l.stackTraces = false) (dC : Nat → ClassId) (dI : Nat → Nat → Nat) (kA : Nat → ClassId) (eD b : Nat) (g : Gh) (o q : Nat) (p0 : Int32) (p1 : Int32) (p2 : Int32)  (hto : tg g o = 1) (htq : tg g q = 34) : Met l yL_take wzL_take ({ frames := 7, cells := 1, slots := 6, locals := 142 }) (va_Pc [.ref o, .int p0, .int p1, .int p2, .ref q] (CX (dC, dI) kA eD b g)) (va_Qi (fun (r : Int32) (u : Gh) => ∃ f, u = uL g q f) (fun (u : Gh) t => CX (dC, dI) kA eD b u t) (fun q => b ≤ q)) 1 6 (fun q => b ≤ q) := by
  refine va_MetW (cc := cL_take) (maxL := 6) (ret := (some .int)) (hh := [(0, 12, 15, 54), (0, 12, 19, 64), (0, 12, 23, 15)]) (by decide +kernel) rfl ?_
  intro p e s m args below meth c s₁ B hml hv
  obtain ⟨rfl, hb0, hM, hK, hG, hE⟩ := hv
  have hx := B.exec
  have hb := B.bytes
  have hr := B.returns
  have hts := atoms_spec (ws := wzL_take) B.pre
  have hown : s.vm.findClass RL = some m.cls := findClass_of_methodNamed B.named
  have hlocks := B.notSynchronized
  have htab : c.exceptionTable.toList = tableOf [(0, 12, 15, 54), (0, 12, 19, 64), (0, 12, 23, 15)] := vx_table (x := yL_take) B (hts _ List.mem_cons_self)
  have hT := hE.1
  have hN := hE.2.2.2.2.2.2.2.1
  have hS : va_S (fun q => b ≤ q) s.heap s.heap [] := va_S.rf
  have hl := lv_entry ([.ref o, .int p0, .int p1, .int p2, .ref q]) (n := 6) (Nat.le_of_ble_eq_true rfl)
  rw [lg_entry_eq]
  generalize (lg_sl ([.ref o, .int p0, .int p1, .int p2, .ref q]) ++ List.replicate (6 - (lg_sl ([.ref o, .int p0, .int p1, .int p2, .ref q])).length) Slot.unset).toArray = ls at hl ⊢
  have hl : lv_has ls 6 [(0, .ref o), (1, .int p0), (2, .int p1), (3, .int p2), (4, .ref q)] := hl
  generalize ([.ref o, .int p0, .int p1, .int p2, .ref q] : List Value).toArray = args at hts ⊢
  refine lv_aload hx hb dL_take_0 (lv_at hl 4 rfl) ?_
  refine lv_iconst (v := 0) hx hb dL_take_2 (by decide) ?_
  refine lv_aload_n hx hb dL_take_3 rfl (lv_at hl 0 rfl) ?_
  refine lv_iload_n hx hb dL_take_4 rfl (lv_at hl 1 rfl) ?_
  refine lv_iload_n hx hb dL_take_5 rfl (lv_at hl 2 rfl) ?_
  refine lv_iload_n hx hb dL_take_6 rfl (lv_at hl 3 rfl) ?_
  obtain ⟨u1, u2, u3, u4, hP, hf⟩ := o_sno (i := 0) (q := o) hM (by omega)
  refine vx_calli (vx_runV (As := [.int p0, .int p1, .int p2]) (rest := [.int 0, .ref q]) ⟨hx, hb, hml, hown, hts⟩ (rf_take l hlt dC dI kA eD b g o p0 p1 p2 (by omega)) (cwV 3 hts gL_take_X3_take rfl rfl rfl (by decide +kernel) ⟨Nat.le_of_ble_eq_true rfl, Nat.le_of_ble_eq_true rfl⟩) ⟨fb_CX, va_recv hK hP (ci := 7) (q0 := 0) rfl rfl, fun U hU hW => ⟨rfl, CX.give hb0 hM hK hG hE hS hU hW⟩⟩ rfl rfl hl.1 rfl (lv_room (Nat.le_of_ble_eq_true rfl)) dL_take_7 ⟨(Nat.le_of_ble_eq_true rfl), (Nat.le_of_ble_eq_true rfl)⟩) hS (fun q _ h => h) (fun q h => h) (fun q _ h => h) (fun E ce q9 u9 t H locs ht hvm hpx hBX hz1 hk1 hS hcell hvn hcl => ?_) (fun r5 u t H locs ht hvm hw6 hB hz1 hk1 hS => ?_)
  · skip
    have hM : TM (dC, dI) kA b g H := by rw [← ht]; exact hBX.2
    rcases hBX.1 with rfl | rfl | rfl
    · skip
      refine vx_catch (E := "java/lang/IndexOutOfBoundsException") (name := "java/lang/IndexOutOfBoundsException") hown [] ⟨0, 12, 15, 54⟩ [⟨0, 12, 19, 64⟩, ⟨0, 12, 23, 15⟩] (by rw [htab]; rfl) (fun z hz => absurd hz List.not_mem_nil) rfl (by decide) (hts (.classLink RL 54 "java/lang/IndexOutOfBoundsException") (by decide +kernel)) (th_any (a := #[]) rfl (hT.1 (.castable "java/lang/IndexOutOfBoundsException" "java/lang/IndexOutOfBoundsException") (by decide +kernel))) hcell hvn hcl ?_
      refine W.eq (g2 := F0 m 15 ls [.ref q9]) rfl ?_
      refine lv_astore (lv' := [(5, .ref q9), (0, .ref o), (1, .int p0), (2, .int p1), (3, .int p2), (4, .ref q)]) hx hb dL_take_15 hl (by decide) rfl (fun ls hl => ?_)
      refine lv_iconst (v := 1) hx hb dL_take_17 (by decide) ?_
      refine W.widen (k := 1) (n := 6) (Nat.le_of_ble_eq_true rfl) (Nat.le_of_ble_eq_true rfl) ?_
      exact W.iret (v := 1) hx hb hr (fun t ht hW => ⟨⟨1, g, rfl, (⟨pL g q, (uL_id rfl).symm⟩), CX.give hb0 hM hK hG hE hS ht hW⟩, hS.F ht⟩) hS.2.2 dL_take_18
    · skip
      refine vx_catch (E := "java/util/NoSuchElementException") (name := "java/util/NoSuchElementException") hown [⟨0, 12, 15, 54⟩] ⟨0, 12, 19, 64⟩ [⟨0, 12, 23, 15⟩] (by rw [htab]; rfl) (fun z hz => by rcases List.mem_singleton.mp hz with rfl; exact Or.inr ⟨by decide, _, hts (.classLink RL 54 "java/lang/IndexOutOfBoundsException") (by decide +kernel), hT.2.2.1 ("java/util/NoSuchElementException", "java/lang/IndexOutOfBoundsException") (by decide +kernel)⟩) rfl (by decide) (hts (.classLink RL 64 "java/util/NoSuchElementException") (by decide +kernel)) (th_any (a := #[]) rfl (hT.1 (.castable "java/util/NoSuchElementException" "java/util/NoSuchElementException") (by decide +kernel))) hcell hvn hcl ?_
      refine W.eq (g2 := F0 m 19 ls [.ref q9]) rfl ?_
      refine lv_astore (lv' := [(5, .ref q9), (0, .ref o), (1, .int p0), (2, .int p1), (3, .int p2), (4, .ref q)]) hx hb dL_take_19 hl (by decide) rfl (fun ls hl => ?_)
      refine lv_iconst (v := 2) hx hb dL_take_21 (by decide) ?_
      refine W.widen (k := 1) (n := 6) (Nat.le_of_ble_eq_true rfl) (Nat.le_of_ble_eq_true rfl) ?_
      exact W.iret (v := 2) hx hb hr (fun t ht hW => ⟨⟨2, g, rfl, (⟨pL g q, (uL_id rfl).symm⟩), CX.give hb0 hM hK hG hE hS ht hW⟩, hS.F ht⟩) hS.2.2 dL_take_22
    · skip
      refine vx_catch (E := "java/lang/UnsupportedOperationException") (name := "java/lang/UnsupportedOperationException") hown [⟨0, 12, 15, 54⟩, ⟨0, 12, 19, 64⟩] ⟨0, 12, 23, 15⟩ [] (by rw [htab]; rfl) (fun z hz => by simp only [List.mem_cons, List.not_mem_nil, or_false] at hz; rcases hz with rfl | rfl <;> first | exact Or.inr ⟨by decide, _, hts (.classLink RL 54 "java/lang/IndexOutOfBoundsException") (by decide +kernel), hT.2.2.1 ("java/lang/UnsupportedOperationException", "java/lang/IndexOutOfBoundsException") (by decide +kernel)⟩ | exact Or.inr ⟨by decide, _, hts (.classLink RL 64 "java/util/NoSuchElementException") (by decide +kernel), hT.2.2.1 ("java/lang/UnsupportedOperationException", "java/util/NoSuchElementException") (by decide +kernel)⟩) rfl (by decide) (hts (.classLink RL 15 "java/lang/UnsupportedOperationException") (by decide +kernel)) (th_any (a := #[]) rfl (hT.1 (.castable "java/lang/UnsupportedOperationException" "java/lang/UnsupportedOperationException") (by decide +kernel))) hcell hvn hcl ?_
      refine W.eq (g2 := F0 m 23 ls [.ref q9]) rfl ?_
      refine lv_astore (lv' := [(5, .ref q9), (0, .ref o), (1, .int p0), (2, .int p1), (3, .int p2), (4, .ref q)]) hx hb dL_take_23 hl (by decide) rfl (fun ls hl => ?_)
      refine lv_iconst (v := 3) hx hb dL_take_25 (by decide) ?_
      refine W.widen (k := 1) (n := 6) (Nat.le_of_ble_eq_true rfl) (Nat.le_of_ble_eq_true rfl) ?_
      exact W.iret (v := 3) hx hb hr (fun t ht hW => ⟨⟨3, g, rfl, (⟨pL g q, (uL_id rfl).symm⟩), CX.give hb0 hM hK hG hE hS ht hW⟩, hS.F ht⟩) hS.2.2 dL_take_26
  · skip
    have hM := hB.back ht
    have hG := hB.2.2.2.1
    refine lv_i2l hx hb dL_take_10 rfl ?_
    obtain ⟨hP, hf⟩ := o_ou (i := 0) (q := q) hM (by omega)
    refine rt_last (D := (dC, dI)) (t0 := 3) hx hb hK hP (hM.ge (by omega)) hS rfl (by unfold vp_in; decide) dL_take_11 (fun H locs hP hz ho hS => ?_)
    have ec : (0 : Int32).toNatClampNeg = 0 := by decide
    rw [ec] at hP
    have hM0 := hM
    have hM := p_ou (i := 0) (f := vp_updL (pL g q) 0 r5.toInt64) hM (by omega) hP ho hf
    obtain ⟨g7, hg7⟩ : ∃ z, z = uL g q (vp_updL (pL g q) 0 r5.toInt64) := ⟨_, rfl⟩
    rw [← hg7] at hM
    have ht8 : tg g7 o = 1 := by rw [hg7]; exact hto
    have ht9 : tg g7 q = 34 := by rw [hg7]; exact htq
    have hG : GOK g7 := by rw [hg7]; exact (hG.uL hM0)
    refine lv_goto (tgt := 27) hx hb dL_take_12 (by decide) ?_
    refine lv_iconst (v := 0) hx hb dL_take_27 (by decide) ?_
    refine W.widen (k := 1) (n := 6) (Nat.le_of_ble_eq_true rfl) (Nat.le_of_ble_eq_true rfl) ?_
    exact W.iret (v := 0) hx hb hr (fun t ht hW => ⟨⟨0, g7, rfl, (⟨_, by rw [hg7]⟩), CX.give hb0 hM hK hG hE hS ht hW⟩, hS.F ht⟩) hS.2.2 dL_take_28

set_option maxHeartbeats 4000000 in
set_option maxRecDepth 100000 in
theorem rh_count (l : Launch) (hlt : l.stackTraces = false) (dC : Nat → ClassId) (dI : Nat → Nat → Nat) (kA : Nat → ClassId) (eD b : Nat) (g : Gh) (o q : Nat) (p0 : Int32)  (hto : tg g o = 1) (htq : tg g q = 34) : Met l yL_count wsL_count ({ frames := 7, cells := 1, slots := 6, locals := 104 }) (va_Pc [.ref o, .int p0, .ref q] (CX (dC, dI) kA eD b g)) (va_Qi (fun (r : Int32) (u : Gh) => ∃ f, u = uL g q f) (fun (u : Gh) t => CX (dC, dI) kA eD b u t) (fun q => b ≤ q)) 1 6 (fun q => b ≤ q) := by
  refine va_MetW (cc := cL_count) (maxL := 4) (ret := (some .int)) (hh := [(0, 9, 12, 54)]) (by decide +kernel) rfl ?_
  intro p e s m args below meth c s₁ B hml hv
  obtain ⟨rfl, hb0, hM, hK, hG, hE⟩ := hv
  have hx := B.exec
  have hb := B.bytes
  have hr := B.returns
  have hts := atoms_spec (ws := wsL_count) B.pre
  have hown : s.vm.findClass RL = some m.cls := findClass_of_methodNamed B.named
  have hlocks := B.notSynchronized
  have htab : c.exceptionTable.toList = tableOf [(0, 9, 12, 54)] := vx_table (x := yL_count) B (hts _ List.mem_cons_self)
  have hT := hE.1
  have hN := hE.2.2.2.2.2.2.2.1
  have hS : va_S (fun q => b ≤ q) s.heap s.heap [] := va_S.rf
  have hl := lv_entry ([.ref o, .int p0, .ref q]) (n := 4) (Nat.le_of_ble_eq_true rfl)
  rw [lg_entry_eq]
  generalize (lg_sl ([.ref o, .int p0, .ref q]) ++ List.replicate (4 - (lg_sl ([.ref o, .int p0, .ref q])).length) Slot.unset).toArray = ls at hl ⊢
  have hl : lv_has ls 4 [(0, .ref o), (1, .int p0), (2, .ref q)] := hl
  generalize ([.ref o, .int p0, .ref q] : List Value).toArray = args at hts ⊢
  refine lv_aload_n hx hb dL_count_0 rfl (lv_at hl 2 rfl) ?_
  refine lv_iconst (v := 0) hx hb dL_count_1 (by decide) ?_
  refine lv_aload_n hx hb dL_count_2 rfl (lv_at hl 0 rfl) ?_
  refine lv_iload_n hx hb dL_count_3 rfl (lv_at hl 1 rfl) ?_
  obtain ⟨u1, u2, u3, u4, hP, hf⟩ := o_sno (i := 0) (q := o) hM (by omega)
  refine vx_calli (vx_runV (As := [.int p0]) (rest := [.int 0, .ref q]) ⟨hx, hb, hml, hown, hts⟩ (rf_count l hlt dC dI kA eD b g o p0 (by omega)) (cwV 1 hts gL_count_X3_count rfl rfl rfl (by decide +kernel) ⟨Nat.le_of_ble_eq_true rfl, Nat.le_of_ble_eq_true rfl⟩) ⟨fb_CX, va_recv hK hP (ci := 7) (q0 := 0) rfl rfl, fun U hU hW => ⟨rfl, CX.give hb0 hM hK hG hE hS hU hW⟩⟩ rfl rfl hl.1 rfl (lv_room (Nat.le_of_ble_eq_true rfl)) dL_count_4 ⟨(Nat.le_of_ble_eq_true rfl), (Nat.le_of_ble_eq_true rfl)⟩) hS (fun q _ h => h) (fun q h => h) (fun q _ h => h) (fun E ce q9 u9 t H locs ht hvm hpx hBX hz1 hk1 hS hcell hvn hcl => ?_) (fun r5 u t H locs ht hvm hw6 hB hz1 hk1 hS => ?_)
  · skip
    have hM : TM (dC, dI) kA b g H := by rw [← ht]; exact hBX.2
    obtain rfl := hBX.1
    refine vx_catch (E := "java/lang/IndexOutOfBoundsException") (name := "java/lang/IndexOutOfBoundsException") hown [] ⟨0, 9, 12, 54⟩ [] (by rw [htab]; rfl) (fun z hz => absurd hz List.not_mem_nil) rfl (by decide) (hts (.classLink RL 54 "java/lang/IndexOutOfBoundsException") (by decide +kernel)) (th_any (a := #[]) rfl (hT.1 (.castable "java/lang/IndexOutOfBoundsException" "java/lang/IndexOutOfBoundsException") (by decide +kernel))) hcell hvn hcl ?_
    refine W.eq (g2 := F0 m 12 ls [.ref q9]) rfl ?_
    refine lv_astore_n (lv' := [(3, .ref q9), (0, .ref o), (1, .int p0), (2, .ref q)]) hx hb dL_count_12 rfl hl (by decide) rfl (fun ls hl => ?_)
    refine lv_iconst (v := 1) hx hb dL_count_13 (by decide) ?_
    refine W.widen (k := 1) (n := 6) (Nat.le_of_ble_eq_true rfl) (Nat.le_of_ble_eq_true rfl) ?_
    exact W.iret (v := 1) hx hb hr (fun t ht hW => ⟨⟨1, g, rfl, (⟨pL g q, (uL_id rfl).symm⟩), CX.give hb0 hM hK hG hE hS ht hW⟩, hS.F ht⟩) hS.2.2 dL_count_14
  · skip
    have hM := hB.back ht
    have hG := hB.2.2.2.1
    refine lv_i2l hx hb dL_count_7 rfl ?_
    obtain ⟨hP, hf⟩ := o_ou (i := 0) (q := q) hM (by omega)
    refine rt_last (D := (dC, dI)) (t0 := 3) hx hb hK hP (hM.ge (by omega)) hS rfl (by unfold vp_in; decide) dL_count_8 (fun H locs hP hz ho hS => ?_)
    have ec : (0 : Int32).toNatClampNeg = 0 := by decide
    rw [ec] at hP
    have hM0 := hM
    have hM := p_ou (i := 0) (f := vp_updL (pL g q) 0 r5.toInt64) hM (by omega) hP ho hf
    obtain ⟨g7, hg7⟩ : ∃ z, z = uL g q (vp_updL (pL g q) 0 r5.toInt64) := ⟨_, rfl⟩
    rw [← hg7] at hM
    have ht8 : tg g7 o = 1 := by rw [hg7]; exact hto
    have ht9 : tg g7 q = 34 := by rw [hg7]; exact htq
    have hG : GOK g7 := by rw [hg7]; exact (hG.uL hM0)
    refine lv_goto (tgt := 15) hx hb dL_count_9 (by decide) ?_
    refine lv_iconst (v := 0) hx hb dL_count_15 (by decide) ?_
    refine W.widen (k := 1) (n := 6) (Nat.le_of_ble_eq_true rfl) (Nat.le_of_ble_eq_true rfl) ?_
    exact W.iret (v := 0) hx hb hr (fun t ht hW => ⟨⟨0, g7, rfl, (⟨_, by rw [hg7]⟩), CX.give hb0 hM hK hG hE hS ht hW⟩, hS.F ht⟩) hS.2.2 dL_count_16

set_option maxHeartbeats 4000000 in
set_option maxRecDepth 100000 in
theorem rh_openShare (l : Launch) (hlt : l.stackTraces = false) (dC : Nat → ClassId) (dI : Nat → Nat → Nat) (kA : Nat → ClassId) (eD b : Nat) (g : Gh) (o q : Nat)   (hto : tg g o = 1) (htq : tg g q = 35) : Met l yL_openShare wsL_openShare ({ frames := 7, cells := 1, slots := 6, locals := 117 }) (va_Pc [.ref o, .ref q] (CX (dC, dI) kA eD b g)) (va_Qi (fun (r : Int32) (u : Gh) => u = g) (fun (u : Gh) t => CX (dC, dI) kA eD b u t) (fun q => b ≤ q)) 1 6 (fun q => b ≤ q) := by
  refine va_MetW (cc := cL_openShare) (maxL := 3) (ret := (some .int)) (hh := [(0, 8, 11, 140)]) (by decide +kernel) rfl ?_
  intro p e s m args below meth c s₁ B hml hv
  obtain ⟨rfl, hb0, hM, hK, hG, hE⟩ := hv
  have hx := B.exec
  have hb := B.bytes
  have hr := B.returns
  have hts := atoms_spec (ws := wsL_openShare) B.pre
  have hown : s.vm.findClass RL = some m.cls := findClass_of_methodNamed B.named
  have hlocks := B.notSynchronized
  have htab : c.exceptionTable.toList = tableOf [(0, 8, 11, 140)] := vx_table (x := yL_openShare) B (hts _ List.mem_cons_self)
  have hT := hE.1
  have hN := hE.2.2.2.2.2.2.2.1
  have hS : va_S (fun q => b ≤ q) s.heap s.heap [] := va_S.rf
  have hl := lv_entry ([.ref o, .ref q]) (n := 3) (Nat.le_of_ble_eq_true rfl)
  rw [lg_entry_eq]
  generalize (lg_sl ([.ref o, .ref q]) ++ List.replicate (3 - (lg_sl ([.ref o, .ref q])).length) Slot.unset).toArray = ls at hl ⊢
  have hl : lv_has ls 3 [(0, .ref o), (1, .ref q)] := hl
  generalize ([.ref o, .ref q] : List Value).toArray = args at hts ⊢
  refine lv_aload_n hx hb dL_openShare_0 rfl (lv_at hl 1 rfl) ?_
  refine lv_iconst (v := 0) hx hb dL_openShare_1 (by decide) ?_
  refine lv_aload_n hx hb dL_openShare_2 rfl (lv_at hl 0 rfl) ?_
  obtain ⟨u1, u2, u3, u4, hP, hf⟩ := o_sno (i := 0) (q := o) hM (by omega)
  refine vx_callf (vx_runV (As := []) (rest := [.int 0, .ref q]) ⟨hx, hb, hml, hown, hts⟩ (rf_openShare l hlt dC dI kA eD b g o  (by omega)) (cwV 0 hts gL_openShare_X3_openShare rfl rfl rfl (by decide +kernel) ⟨Nat.le_of_ble_eq_true rfl, Nat.le_of_ble_eq_true rfl⟩) ⟨fb_CX, va_recv hK hP (ci := 7) (q0 := 0) rfl rfl, fun U hU hW => ⟨rfl, CX.give hb0 hM hK hG hE hS hU hW⟩⟩ rfl rfl hl.1 rfl (lv_room (Nat.le_of_ble_eq_true rfl)) dL_openShare_3 ⟨(Nat.le_of_ble_eq_true rfl), (Nat.le_of_ble_eq_true rfl)⟩) hS (fun q _ h => h) (fun q h => h) (fun q _ h => h) (fun E ce q9 u9 t H locs ht hvm hpx hBX hz1 hk1 hS hcell hvn hcl => ?_) (fun r5 u t H locs ht hvm hw6 hB hz1 hk1 hS => ?_)
  · skip
    have hM : TM (dC, dI) kA b g H := by rw [← ht]; exact hBX.2
    obtain rfl := hBX.1
    refine vx_catch (E := "java/lang/ArithmeticException") (name := "java/lang/ArithmeticException") hown [] ⟨0, 8, 11, 140⟩ [] (by rw [htab]; rfl) (fun z hz => absurd hz List.not_mem_nil) rfl (by decide) (hts (.classLink RL 140 "java/lang/ArithmeticException") (by decide +kernel)) (th_any (a := #[]) rfl (hT.1 (.castable "java/lang/ArithmeticException" "java/lang/ArithmeticException") (by decide +kernel))) hcell hvn hcl ?_
    refine W.eq (g2 := F0 m 11 ls [.ref q9]) rfl ?_
    refine lv_astore_n (lv' := [(2, .ref q9), (0, .ref o), (1, .ref q)]) hx hb dL_openShare_11 rfl hl (by decide) rfl (fun ls hl => ?_)
    refine lv_iconst (v := 1) hx hb dL_openShare_12 (by decide) ?_
    refine W.widen (k := 1) (n := 6) (Nat.le_of_ble_eq_true rfl) (Nat.le_of_ble_eq_true rfl) ?_
    exact W.iret (v := 1) hx hb hr (fun t ht hW => ⟨⟨1, g, rfl, (rfl), CX.give hb0 hM hK hG hE hS ht hW⟩, hS.F ht⟩) hS.2.2 dL_openShare_13
  · skip
    have hM := hB.back ht
    have hG := hB.2.2.2.1
    refine lv_f2d hx hb dL_openShare_6 (nn64 ((FP.f2d_nan _).trans (Jvm.Free.Fl.noNaN32_no.mp hw6))) ?_
    obtain ⟨u7, hP, hf⟩ := o_od (i := 0) (q := q) hM (by omega)
    refine rt_dast (D := (dC, dI)) (t0 := 4) hx hb hK hP (hM.ge (by omega)) hS rfl (by unfold vp_in; decide) dL_openShare_7 (fun H locs hP hz ho hS => ?_)
    have ec : (0 : Int32).toNatClampNeg = 0 := by decide
    rw [ec] at hP
    have hM := s_od (i := 0) hM (by omega) hP ho hf
    refine lv_goto (tgt := 14) hx hb dL_openShare_8 (by decide) ?_
    refine lv_iconst (v := 0) hx hb dL_openShare_14 (by decide) ?_
    refine W.widen (k := 1) (n := 6) (Nat.le_of_ble_eq_true rfl) (Nat.le_of_ble_eq_true rfl) ?_
    exact W.iret (v := 0) hx hb hr (fun t ht hW => ⟨⟨0, g, rfl, (rfl), CX.give hb0 hM hK hG hE hS ht hW⟩, hS.F ht⟩) hS.2.2 dL_openShare_15

set_option maxHeartbeats 4000000 in
set_option maxRecDepth 100000 in
theorem rh_meanCreep (l : Launch) (hlt : l.stackTraces = false) (dC : Nat → ClassId) (dI : Nat → Nat → Nat) (kA : Nat → ClassId) (eD b : Nat) (g : Gh) (o q : Nat) (p0 : Int32)  (hto : tg g o = 1) (htq : tg g q = 35) : Met l yL_meanCreep wsL_meanCreep ({ frames := 7, cells := 1, slots := 6, locals := 105 }) (va_Pc [.ref o, .int p0, .ref q] (CX (dC, dI) kA eD b g)) (va_Qi (fun (r : Int32) (u : Gh) => u = g) (fun (u : Gh) t => CX (dC, dI) kA eD b u t) (fun q => b ≤ q)) 1 6 (fun q => b ≤ q) := by
  refine va_MetW (cc := cL_meanCreep) (maxL := 4) (ret := (some .int)) (hh := [(0, 8, 11, 54), (0, 8, 14, 140)]) (by decide +kernel) rfl ?_
  intro p e s m args below meth c s₁ B hml hv
  obtain ⟨rfl, hb0, hM, hK, hG, hE⟩ := hv
  have hx := B.exec
  have hb := B.bytes
  have hr := B.returns
  have hts := atoms_spec (ws := wsL_meanCreep) B.pre
  have hown : s.vm.findClass RL = some m.cls := findClass_of_methodNamed B.named
  have hlocks := B.notSynchronized
  have htab : c.exceptionTable.toList = tableOf [(0, 8, 11, 54), (0, 8, 14, 140)] := vx_table (x := yL_meanCreep) B (hts _ List.mem_cons_self)
  have hT := hE.1
  have hN := hE.2.2.2.2.2.2.2.1
  have hS : va_S (fun q => b ≤ q) s.heap s.heap [] := va_S.rf
  have hl := lv_entry ([.ref o, .int p0, .ref q]) (n := 4) (Nat.le_of_ble_eq_true rfl)
  rw [lg_entry_eq]
  generalize (lg_sl ([.ref o, .int p0, .ref q]) ++ List.replicate (4 - (lg_sl ([.ref o, .int p0, .ref q])).length) Slot.unset).toArray = ls at hl ⊢
  have hl : lv_has ls 4 [(0, .ref o), (1, .int p0), (2, .ref q)] := hl
  generalize ([.ref o, .int p0, .ref q] : List Value).toArray = args at hts ⊢
  refine lv_aload_n hx hb dL_meanCreep_0 rfl (lv_at hl 2 rfl) ?_
  refine lv_iconst (v := 0) hx hb dL_meanCreep_1 (by decide) ?_
  refine lv_aload_n hx hb dL_meanCreep_2 rfl (lv_at hl 0 rfl) ?_
  refine lv_iload_n hx hb dL_meanCreep_3 rfl (lv_at hl 1 rfl) ?_
  obtain ⟨u1, u2, u3, u4, hP, hf⟩ := o_sno (i := 0) (q := o) hM (by omega)
  refine vx_calld (vx_runV (As := [.int p0]) (rest := [.int 0, .ref q]) ⟨hx, hb, hml, hown, hts⟩ (rf_meanCreep l hlt dC dI kA eD b g o p0 (by omega)) (cwV 1 hts gL_meanCreep_X3_meanCreep rfl rfl rfl (by decide +kernel) ⟨Nat.le_of_ble_eq_true rfl, Nat.le_of_ble_eq_true rfl⟩) ⟨fb_CX, va_recv hK hP (ci := 7) (q0 := 0) rfl rfl, fun U hU hW => ⟨rfl, CX.give hb0 hM hK hG hE hS hU hW⟩⟩ rfl rfl hl.1 rfl (lv_room (Nat.le_of_ble_eq_true rfl)) dL_meanCreep_4 ⟨(Nat.le_of_ble_eq_true rfl), (Nat.le_of_ble_eq_true rfl)⟩) hS (fun q _ h => h) (fun q h => h) (fun q _ h => h) (fun E ce q9 u9 t H locs ht hvm hpx hBX hz1 hk1 hS hcell hvn hcl => ?_) (fun r5 u t H locs ht hvm hw6 hB hz1 hk1 hS => ?_)
  · skip
    have hM : TM (dC, dI) kA b g H := by rw [← ht]; exact hBX.2
    rcases hBX.1 with rfl | rfl
    · skip
      refine vx_catch (E := "java/lang/IndexOutOfBoundsException") (name := "java/lang/IndexOutOfBoundsException") hown [] ⟨0, 8, 11, 54⟩ [⟨0, 8, 14, 140⟩] (by rw [htab]; rfl) (fun z hz => absurd hz List.not_mem_nil) rfl (by decide) (hts (.classLink RL 54 "java/lang/IndexOutOfBoundsException") (by decide +kernel)) (th_any (a := #[]) rfl (hT.1 (.castable "java/lang/IndexOutOfBoundsException" "java/lang/IndexOutOfBoundsException") (by decide +kernel))) hcell hvn hcl ?_
      refine W.eq (g2 := F0 m 11 ls [.ref q9]) rfl ?_
      refine lv_astore_n (lv' := [(3, .ref q9), (0, .ref o), (1, .int p0), (2, .ref q)]) hx hb dL_meanCreep_11 rfl hl (by decide) rfl (fun ls hl => ?_)
      refine lv_iconst (v := 1) hx hb dL_meanCreep_12 (by decide) ?_
      refine W.widen (k := 1) (n := 6) (Nat.le_of_ble_eq_true rfl) (Nat.le_of_ble_eq_true rfl) ?_
      exact W.iret (v := 1) hx hb hr (fun t ht hW => ⟨⟨1, g, rfl, (rfl), CX.give hb0 hM hK hG hE hS ht hW⟩, hS.F ht⟩) hS.2.2 dL_meanCreep_13
    · skip
      refine vx_catch (E := "java/lang/ArithmeticException") (name := "java/lang/ArithmeticException") hown [⟨0, 8, 11, 54⟩] ⟨0, 8, 14, 140⟩ [] (by rw [htab]; rfl) (fun z hz => by rcases List.mem_singleton.mp hz with rfl; exact Or.inr ⟨by decide, _, hts (.classLink RL 54 "java/lang/IndexOutOfBoundsException") (by decide +kernel), hT.2.2.1 ("java/lang/ArithmeticException", "java/lang/IndexOutOfBoundsException") (by decide +kernel)⟩) rfl (by decide) (hts (.classLink RL 140 "java/lang/ArithmeticException") (by decide +kernel)) (th_any (a := #[]) rfl (hT.1 (.castable "java/lang/ArithmeticException" "java/lang/ArithmeticException") (by decide +kernel))) hcell hvn hcl ?_
      refine W.eq (g2 := F0 m 14 ls [.ref q9]) rfl ?_
      refine lv_astore_n (lv' := [(3, .ref q9), (0, .ref o), (1, .int p0), (2, .ref q)]) hx hb dL_meanCreep_14 rfl hl (by decide) rfl (fun ls hl => ?_)
      refine lv_iconst (v := 2) hx hb dL_meanCreep_15 (by decide) ?_
      refine W.widen (k := 1) (n := 6) (Nat.le_of_ble_eq_true rfl) (Nat.le_of_ble_eq_true rfl) ?_
      exact W.iret (v := 2) hx hb hr (fun t ht hW => ⟨⟨2, g, rfl, (rfl), CX.give hb0 hM hK hG hE hS ht hW⟩, hS.F ht⟩) hS.2.2 dL_meanCreep_16
  · skip
    have hM := hB.back ht
    have hG := hB.2.2.2.1
    obtain ⟨u7, hP, hf⟩ := o_od (i := 0) (q := q) hM (by omega)
    refine rt_dast (D := (dC, dI)) (t0 := 4) hx hb hK hP (hM.ge (by omega)) hS rfl (by unfold vp_in; decide) dL_meanCreep_7 (fun H locs hP hz ho hS => ?_)
    have ec : (0 : Int32).toNatClampNeg = 0 := by decide
    rw [ec] at hP
    have hM := s_od (i := 0) hM (by omega) hP ho hf
    refine lv_goto (tgt := 17) hx hb dL_meanCreep_8 (by decide) ?_
    refine lv_iconst (v := 0) hx hb dL_meanCreep_17 (by decide) ?_
    refine W.widen (k := 1) (n := 6) (Nat.le_of_ble_eq_true rfl) (Nat.le_of_ble_eq_true rfl) ?_
    exact W.iret (v := 0) hx hb hr (fun t ht hW => ⟨⟨0, g, rfl, (rfl), CX.give hb0 hM hK hG hE hS ht hW⟩, hS.F ht⟩) hS.2.2 dL_meanCreep_18
