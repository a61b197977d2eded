set_option maxHeartbeats 4000000 in
set_option maxRecDepth 100000 in
theorem rh_weather (l : Launch) (hlt : l.stackTraces = false) (dC : Nat → ClassId) (dI : Nat → Nat → Nat) (kA : Nat → ClassId) (eD b : Nat) (g : Gh) (o q : Nat) (dy : Int32) (lo : Int32) (hi : Int32) (wi : Int32) (hu : Int32)  (hto : tg g o = 1) (htq : tg g q = 34) : Met l yL_weather wsL_weather ({ frames := 7, cells := 1, slots := 6, locals := 108 }) (va_Pc [.ref o, .int dy, .int lo, .int hi, .int wi, .int hu, .ref q] (CX (dC, dI) kA eD b g)) (va_Qi (fun (r : Int32) (u : Gh) => (r = 0 ∧ ∃ (rv : Int32) (v8 : Gh), ((∀ a : Nat, tg g a ≠ 0 → tg v8 a = tg g a) ∧ ∃ j, dy = nI j ∧ j ≤ 20 ∧ ((0 ≤ dy.toInt ∧ dy.toInt ≤ 20) ∧ (-400 ≤ lo.toInt ∧ lo.toInt ≤ 200) ∧ (lo.toInt ≤ hi.toInt ∧ hi.toInt ≤ 200) ∧ (0 ≤ wi.toInt ∧ wi.toInt ≤ 30) ∧ 0 ≤ hu.toInt ∧ hu.toInt ≤ 100) ∧ ¬ 24 * dy.toInt < (pI g o 1).toInt ∧ rv = pI g (pF g (pF g o 0) 0) j ∧ v8 = dayC g o j lo hi wi hu) ∧ u = uL v8 q (vp_updL (pL v8 q) 0 rv.toInt64)) ∨ (r = 1 ∧ (¬ ((0 ≤ dy.toInt ∧ dy.toInt ≤ 20) ∧ (-400 ≤ lo.toInt ∧ lo.toInt ≤ 200) ∧ (lo.toInt ≤ hi.toInt ∧ hi.toInt ≤ 200) ∧ (0 ≤ wi.toInt ∧ wi.toInt ≤ 30) ∧ 0 ≤ hu.toInt ∧ hu.toInt ≤ 100)) ∧ u = g) ∨ (r = 2 ∧ (((0 ≤ dy.toInt ∧ dy.toInt ≤ 20) ∧ (-400 ≤ lo.toInt ∧ lo.toInt ≤ 200) ∧ (lo.toInt ≤ hi.toInt ∧ hi.toInt ≤ 200) ∧ (0 ≤ wi.toInt ∧ wi.toInt ≤ 30) ∧ 0 ≤ hu.toInt ∧ hu.toInt ≤ 100) ∧ 24 * dy.toInt < (pI g o 1).toInt) ∧ u = g)) (fun (u : Gh) t => CX (dC, dI) kA eD b u t) (fun q => b ≤ q)) 1 6 (fun q => b ≤ q) := by
  refine va_MetW (cc := cL_weather) (maxL := 8) (ret := (some .int)) (hh := [(0, 16, 19, 13), (0, 16, 23, 15)]) (by decide +kernel) rfl ?_
  intro p e s m args below meth c s₁ B hml hv
  obtain ⟨rfl, hb0, hM, hK, hG, hE⟩ := hv
  have hx := B.exec
  have hb := B.bytes
  have hr := B.returns
  have hts := atoms_spec (ws := wsL_weather) B.pre
  have hown : s.vm.findClass RL = some m.cls := findClass_of_methodNamed B.named
  have hlocks := B.notSynchronized
  have htab : c.exceptionTable.toList = tableOf [(0, 16, 19, 13), (0, 16, 23, 15)] := vx_table (x := yL_weather) B (hts _ List.mem_cons_self)
  have hT := hE.1
  have hN := hE.2.2.2.2.2.2.2.1
  have hS : va_S (fun q => b ≤ q) s.heap s.heap [] := va_S.rf
  have hl := lv_entry ([.ref o, .int dy, .int lo, .int hi, .int wi, .int hu, .ref q]) (n := 8) (Nat.le_of_ble_eq_true rfl)
  rw [lg_entry_eq]
  generalize (lg_sl ([.ref o, .int dy, .int lo, .int hi, .int wi, .int hu, .ref q]) ++ List.replicate (8 - (lg_sl ([.ref o, .int dy, .int lo, .int hi, .int wi, .int hu, .ref q])).length) Slot.unset).toArray = ls at hl ⊢
  have hl : lv_has ls 8 [(0, .ref o), (1, .int dy), (2, .int lo), (3, .int hi), (4, .int wi), (5, .int hu), (6, .ref q)] := hl
  generalize ([.ref o, .int dy, .int lo, .int hi, .int wi, .int hu, .ref q] : List Value).toArray = args at hts ⊢
  refine lv_aload hx hb dL_weather_0 (lv_at hl 6 rfl) ?_
  refine lv_iconst (v := 0) hx hb dL_weather_2 (by decide) ?_
  refine lv_aload_n hx hb dL_weather_3 rfl (lv_at hl 0 rfl) ?_
  refine lv_iload_n hx hb dL_weather_4 rfl (lv_at hl 1 rfl) ?_
  refine lv_iload_n hx hb dL_weather_5 rfl (lv_at hl 2 rfl) ?_
  refine lv_iload_n hx hb dL_weather_6 rfl (lv_at hl 3 rfl) ?_
  refine lv_iload hx hb dL_weather_7 (lv_at hl 4 rfl) ?_
  refine lv_iload hx hb dL_weather_9 (lv_at hl 5 rfl) ?_
  obtain ⟨u1, u2, u3, u4, hP, hf⟩ := o_sno (i := 0) (q := o) hM (by omega)
  refine vx_calli (vx_runV (As := [.int dy, .int lo, .int hi, .int wi, .int hu]) (rest := [.int 0, .ref q]) ⟨hx, hb, hml, hown, hts⟩ (rf_weather l hlt dC dI kA eD b g o dy lo hi wi hu (by omega)) (cwV 5 hts gL_weather_X3_weather rfl rfl rfl (by decide +kernel) ⟨Nat.le_of_ble_eq_true rfl, Nat.le_of_ble_eq_true rfl⟩) ⟨fb_CX, va_recv hK hP (ci := 7) (q0 := 0) rfl rfl, fun U hU hW => ⟨rfl, CX.give hb0 hM hK hG hE hS hU hW⟩⟩ rfl rfl hl.1 rfl (lv_room (Nat.le_of_ble_eq_true rfl)) dL_weather_11 ⟨(Nat.le_of_ble_eq_true rfl), (Nat.le_of_ble_eq_true rfl)⟩) hS (fun q _ h => h) (fun q h => h) (fun q _ h => h) (fun E ce q9 u9 t H locs ht hvm hpx hBX hz1 hk1 hS hcell hvn hcl => ?_) (fun r5 g7 t H locs ht hvm hw6 hB hz1 hk1 hS => ?_)
  · skip
    have hM : TM (dC, dI) kA b g H := by rw [← ht]; exact hBX.2
    rcases hBX.1 with ⟨rfl, hno⟩ | ⟨rfl, hno⟩
    · skip
      refine vx_catch (E := "java/lang/IllegalArgumentException") (name := "java/lang/IllegalArgumentException") hown [] ⟨0, 16, 19, 13⟩ [⟨0, 16, 23, 15⟩] (by rw [htab]; rfl) (fun z hz => absurd hz List.not_mem_nil) rfl (by decide) (hts (.classLink RL 13 "java/lang/IllegalArgumentException") (by decide +kernel)) (th_any (a := #[]) rfl (hT.1 (.castable "java/lang/IllegalArgumentException" "java/lang/IllegalArgumentException") (by decide +kernel))) hcell hvn hcl ?_
      refine W.eq (g2 := F0 m 19 ls [.ref q9]) rfl ?_
      refine lv_astore (lv' := [(7, .ref q9), (0, .ref o), (1, .int dy), (2, .int lo), (3, .int hi), (4, .int wi), (5, .int hu), (6, .ref q)]) hx hb dL_weather_19 hl (by decide) rfl (fun ls hl => ?_)
      refine lv_iconst (v := 1) hx hb dL_weather_21 (by decide) ?_
      refine W.widen (k := 1) (n := 6) (Nat.le_of_ble_eq_true rfl) (Nat.le_of_ble_eq_true rfl) ?_
      exact W.iret (v := 1) hx hb hr (fun t ht hW => ⟨⟨1, g, rfl, (Or.inr (Or.inl ⟨rfl, hno, rfl⟩)), CX.give hb0 hM hK hG hE hS ht hW⟩, hS.F ht⟩) hS.2.2 dL_weather_22
    · skip
      refine vx_catch (E := "java/lang/UnsupportedOperationException") (name := "java/lang/UnsupportedOperationException") hown [⟨0, 16, 19, 13⟩] ⟨0, 16, 23, 15⟩ [] (by rw [htab]; rfl) (fun z hz => by rcases List.mem_singleton.mp hz with rfl; exact Or.inr ⟨by decide, _, hts (.classLink RL 13 "java/lang/IllegalArgumentException") (by decide +kernel), hT.2.2.1 ("java/lang/UnsupportedOperationException", "java/lang/IllegalArgumentException") (by decide +kernel)⟩) rfl (by decide) (hts (.classLink RL 15 "java/lang/UnsupportedOperationException") (by decide +kernel)) (th_any (a := #[]) rfl (hT.1 (.castable "java/lang/UnsupportedOperationException" "java/lang/UnsupportedOperationException") (by decide +kernel))) hcell hvn hcl ?_
      refine W.eq (g2 := F0 m 23 ls [.ref q9]) rfl ?_
      refine lv_astore (lv' := [(7, .ref q9), (0, .ref o), (1, .int dy), (2, .int lo), (3, .int hi), (4, .int wi), (5, .int hu), (6, .ref q)]) hx hb dL_weather_23 hl (by decide) rfl (fun ls hl => ?_)
      refine lv_iconst (v := 2) hx hb dL_weather_25 (by decide) ?_
      refine W.widen (k := 1) (n := 6) (Nat.le_of_ble_eq_true rfl) (Nat.le_of_ble_eq_true rfl) ?_
      exact W.iret (v := 2) hx hb hr (fun t ht hW => ⟨⟨2, g, rfl, (Or.inr (Or.inr (⟨rfl, hno, rfl⟩))), CX.give hb0 hM hK hG hE hS ht hW⟩, hS.F ht⟩) hS.2.2 dL_weather_26
  · skip
    have hM := hB.back ht
    have hG := hB.2.2.2.1
    have hkt : ∀ a : Nat, tg g a ≠ 0 → tg g7 a = tg g a := hw6.1
    have ht8 : tg g7 o = 1 := (hkt o (by omega)).trans hto
    have ht9 : tg g7 q = 34 := (hkt q (by omega)).trans htq
    refine lv_i2l hx hb dL_weather_14 rfl ?_
    obtain ⟨hP, hf⟩ := o_ou (i := 0) (q := q) hM (by omega)
    refine rt_last (D := (dC, dI)) (t0 := 3) hx hb hK hP (hM.ge (by omega)) hS rfl (by unfold vp_in; decide) dL_weather_15 (fun H locs hP hz ho hS => ?_)
    have ec : (0 : Int32).toNatClampNeg = 0 := by decide
    rw [ec] at hP
    have hM0 := hM
    have hM := p_ou (i := 0) (f := vp_updL (pL g7 q) 0 r5.toInt64) hM (by omega) hP ho hf
    obtain ⟨g10, hg10⟩ : ∃ z, z = uL g7 q (vp_updL (pL g7 q) 0 r5.toInt64) := ⟨_, rfl⟩
    rw [← hg10] at hM
    have ht11 : tg g10 o = 1 := by rw [hg10]; exact ht8
    have ht12 : tg g10 q = 34 := by rw [hg10]; exact ht9
    have hG : GOK g10 := by rw [hg10]; exact (hG.uL hM0)
    refine lv_goto (tgt := 27) hx hb dL_weather_16 (by decide) ?_
    refine lv_iconst (v := 0) hx hb dL_weather_27 (by decide) ?_
    refine W.widen (k := 1) (n := 6) (Nat.le_of_ble_eq_true rfl) (Nat.le_of_ble_eq_true rfl) ?_
    exact W.iret (v := 0) hx hb hr (fun t ht hW => ⟨⟨0, g10, rfl, (Or.inl ⟨rfl, r5, g7, hw6, by rw [hg10]⟩), CX.give hb0 hM hK hG hE hS ht hW⟩, hS.F ht⟩) hS.2.2 dL_weather_28

set_option maxHeartbeats 4000000 in
set_option maxRecDepth 100000 in
theorem rh_warmth (l : Launch) (hlt : l.stackTraces = false) (dC : Nat → ClassId) (dI : Nat → Nat → Nat) (kA : Nat → ClassId) (eD b : Nat) (g : Gh) (o q : Nat) (hou : Int32)  (hto : tg g o = 1) (htq : tg g q = 34) : Met l yL_warmth wsL_warmth ({ frames := 7, cells := 1, slots := 6, locals := 103 }) (va_Pc [.ref o, .int hou, .ref q] (CX (dC, dI) kA eD b g)) (va_Qi (fun (r : Int32) (u : Gh) => (r = 0 ∧ ∃ (rv : Int32), ((0 ≤ hou.toInt ∧ hou.toInt ≤ 504) ∧ rv = wOf (pI g (pF g (pF g o 0) 0)) (pI g (pF g (pF g o 0) 1)) hou) ∧ u = uL g q (vp_updL (pL g q) 0 rv.toInt64)) ∨ (r = 1 ∧ (¬ (0 ≤ hou.toInt ∧ hou.toInt ≤ 504)) ∧ u = g)) (fun (u : Gh) t => CX (dC, dI) kA eD b u t) (fun q => b ≤ q)) 1 6 (fun q => b ≤ q) := by
  refine va_MetW (cc := cL_warmth) (maxL := 4) (ret := (some .int)) (hh := [(0, 9, 12, 13)]) (by decide +kernel) rfl ?_
  intro p e s m args below meth c s₁ B hml hv
  obtain ⟨rfl, hb0, hM, hK, hG, hE⟩ := hv
  have hx := B.exec
  have hb := B.bytes
  have hr := B.returns
  have hts := atoms_spec (ws := wsL_warmth) B.pre
  have hown : s.vm.findClass RL = some m.cls := findClass_of_methodNamed B.named
  have hlocks := B.notSynchronized
  have htab : c.exceptionTable.toList = tableOf [(0, 9, 12, 13)] := vx_table (x := yL_warmth) B (hts _ List.mem_cons_self)
  have hT := hE.1
  have hN := hE.2.2.2.2.2.2.2.1
  have hS : va_S (fun q => b ≤ q) s.heap s.heap [] := va_S.rf
  have hl := lv_entry ([.ref o, .int hou, .ref q]) (n := 4) (Nat.le_of_ble_eq_true rfl)
  rw [lg_entry_eq]
  generalize (lg_sl ([.ref o, .int hou, .ref q]) ++ List.replicate (4 - (lg_sl ([.ref o, .int hou, .ref q])).length) Slot.unset).toArray = ls at hl ⊢
  have hl : lv_has ls 4 [(0, .ref o), (1, .int hou), (2, .ref q)] := hl
  generalize ([.ref o, .int hou, .ref q] : List Value).toArray = args at hts ⊢
  refine lv_aload_n hx hb dL_warmth_0 rfl (lv_at hl 2 rfl) ?_
  refine lv_iconst (v := 0) hx hb dL_warmth_1 (by decide) ?_
  refine lv_aload_n hx hb dL_warmth_2 rfl (lv_at hl 0 rfl) ?_
  refine lv_iload_n hx hb dL_warmth_3 rfl (lv_at hl 1 rfl) ?_
  obtain ⟨u1, u2, u3, u4, hP, hf⟩ := o_sno (i := 0) (q := o) hM (by omega)
  refine vx_calli (vx_runV (As := [.int hou]) (rest := [.int 0, .ref q]) ⟨hx, hb, hml, hown, hts⟩ (rf_warmth l hlt dC dI kA eD b g o hou (by omega)) (cwV 1 hts gL_warmth_X3_warmth rfl rfl rfl (by decide +kernel) ⟨Nat.le_of_ble_eq_true rfl, Nat.le_of_ble_eq_true rfl⟩) ⟨fb_CX, va_recv hK hP (ci := 7) (q0 := 0) rfl rfl, fun U hU hW => ⟨rfl, CX.give hb0 hM hK hG hE hS hU hW⟩⟩ rfl rfl hl.1 rfl (lv_room (Nat.le_of_ble_eq_true rfl)) dL_warmth_4 ⟨(Nat.le_of_ble_eq_true rfl), (Nat.le_of_ble_eq_true rfl)⟩) hS (fun q _ h => h) (fun q h => h) (fun q _ h => h) (fun E ce q9 u9 t H locs ht hvm hpx hBX hz1 hk1 hS hcell hvn hcl => ?_) (fun r5 u t H locs ht hvm hw6 hB hz1 hk1 hS => ?_)
  · skip
    have hM : TM (dC, dI) kA b g H := by rw [← ht]; exact hBX.2
    obtain ⟨rfl, hno⟩ := hBX.1
    refine vx_catch (E := "java/lang/IllegalArgumentException") (name := "java/lang/IllegalArgumentException") hown [] ⟨0, 9, 12, 13⟩ [] (by rw [htab]; rfl) (fun z hz => absurd hz List.not_mem_nil) rfl (by decide) (hts (.classLink RL 13 "java/lang/IllegalArgumentException") (by decide +kernel)) (th_any (a := #[]) rfl (hT.1 (.castable "java/lang/IllegalArgumentException" "java/lang/IllegalArgumentException") (by decide +kernel))) hcell hvn hcl ?_
    refine W.eq (g2 := F0 m 12 ls [.ref q9]) rfl ?_
    refine lv_astore_n (lv' := [(3, .ref q9), (0, .ref o), (1, .int hou), (2, .ref q)]) hx hb dL_warmth_12 rfl hl (by decide) rfl (fun ls hl => ?_)
    refine lv_iconst (v := 1) hx hb dL_warmth_13 (by decide) ?_
    refine W.widen (k := 1) (n := 6) (Nat.le_of_ble_eq_true rfl) (Nat.le_of_ble_eq_true rfl) ?_
    exact W.iret (v := 1) hx hb hr (fun t ht hW => ⟨⟨1, g, rfl, (Or.inr (⟨rfl, hno, rfl⟩)), CX.give hb0 hM hK hG hE hS ht hW⟩, hS.F ht⟩) hS.2.2 dL_warmth_14
  · skip
    have hM := hB.back ht
    have hG := hB.2.2.2.1
    refine lv_i2l hx hb dL_warmth_7 rfl ?_
    obtain ⟨hP, hf⟩ := o_ou (i := 0) (q := q) hM (by omega)
    refine rt_last (D := (dC, dI)) (t0 := 3) hx hb hK hP (hM.ge (by omega)) hS rfl (by unfold vp_in; decide) dL_warmth_8 (fun H locs hP hz ho hS => ?_)
    have ec : (0 : Int32).toNatClampNeg = 0 := by decide
    rw [ec] at hP
    have hM0 := hM
    have hM := p_ou (i := 0) (f := vp_updL (pL g q) 0 r5.toInt64) hM (by omega) hP ho hf
    obtain ⟨g7, hg7⟩ : ∃ z, z = uL g q (vp_updL (pL g q) 0 r5.toInt64) := ⟨_, rfl⟩
    rw [← hg7] at hM
    have ht8 : tg g7 o = 1 := by rw [hg7]; exact hto
    have ht9 : tg g7 q = 34 := by rw [hg7]; exact htq
    have hG : GOK g7 := by rw [hg7]; exact (hG.uL hM0)
    refine lv_goto (tgt := 15) hx hb dL_warmth_9 (by decide) ?_
    refine lv_iconst (v := 0) hx hb dL_warmth_15 (by decide) ?_
    refine W.widen (k := 1) (n := 6) (Nat.le_of_ble_eq_true rfl) (Nat.le_of_ble_eq_true rfl) ?_
    exact W.iret (v := 0) hx hb hr (fun t ht hW => ⟨⟨0, g7, rfl, (Or.inl ⟨rfl, r5, hw6, by rw [hg7]⟩), CX.give hb0 hM hK hG hE hS ht hW⟩, hS.F ht⟩) hS.2.2 dL_warmth_16

set_option maxHeartbeats 4000000 in
set_option maxRecDepth 100000 in
theorem rh_wet (l : Launch) (hlt : l.stackTraces = false) (dC : Nat → ClassId) (dI : Nat → Nat → Nat) (kA : Nat → ClassId) (eD b : Nat) (g : Gh) (o q : Nat) (hou : Int32)  (hto : tg g o = 1) (htq : tg g q = 34) : Met l yL_wet wsL_wet ({ frames := 7, cells := 1, slots := 6, locals := 103 }) (va_Pc [.ref o, .int hou, .ref q] (CX (dC, dI) kA eD b g)) (va_Qi (fun (r : Int32) (u : Gh) => (r = 0 ∧ ∃ (rv : Int32), ((0 ≤ hou.toInt ∧ hou.toInt ≤ 503) ∧ rv = xOf (pI g (pF g (pF g o 0) 0)) (pI g (pF g (pF g o 0) 1)) (pI g (pF g (pF g o 0) 3)) hou) ∧ u = uL g q (vp_updL (pL g q) 0 rv.toInt64)) ∨ (r = 1 ∧ (¬ (0 ≤ hou.toInt ∧ hou.toInt ≤ 503)) ∧ u = g)) (fun (u : Gh) t => CX (dC, dI) kA eD b u t) (fun q => b ≤ q)) 1 6 (fun q => b ≤ q) := by
  refine va_MetW (cc := cL_wet) (maxL := 4) (ret := (some .int)) (hh := [(0, 9, 12, 13)]) (by decide +kernel) rfl ?_
  intro p e s m args below meth c s₁ B hml hv
  obtain ⟨rfl, hb0, hM, hK, hG, hE⟩ := hv
  have hx := B.exec
  have hb := B.bytes
  have hr := B.returns
  have hts := atoms_spec (ws := wsL_wet) B.pre
  have hown : s.vm.findClass RL = some m.cls := findClass_of_methodNamed B.named
  have hlocks := B.notSynchronized
  have htab : c.exceptionTable.toList = tableOf [(0, 9, 12, 13)] := vx_table (x := yL_wet) B (hts _ List.mem_cons_self)
  have hT := hE.1
  have hN := hE.2.2.2.2.2.2.2.1
  have hS : va_S (fun q => b ≤ q) s.heap s.heap [] := va_S.rf
  have hl := lv_entry ([.ref o, .int hou, .ref q]) (n := 4) (Nat.le_of_ble_eq_true rfl)
  rw [lg_entry_eq]
  generalize (lg_sl ([.ref o, .int hou, .ref q]) ++ List.replicate (4 - (lg_sl ([.ref o, .int hou, .ref q])).length) Slot.unset).toArray = ls at hl ⊢
  have hl : lv_has ls 4 [(0, .ref o), (1, .int hou), (2, .ref q)] := hl
  generalize ([.ref o, .int hou, .ref q] : List Value).toArray = args at hts ⊢
  refine lv_aload_n hx hb dL_wet_0 rfl (lv_at hl 2 rfl) ?_
  refine lv_iconst (v := 0) hx hb dL_wet_1 (by decide) ?_
  refine lv_aload_n hx hb dL_wet_2 rfl (lv_at hl 0 rfl) ?_
  refine lv_iload_n hx hb dL_wet_3 rfl (lv_at hl 1 rfl) ?_
  obtain ⟨u1, u2, u3, u4, hP, hf⟩ := o_sno (i := 0) (q := o) hM (by omega)
  refine vx_calli (vx_runV (As := [.int hou]) (rest := [.int 0, .ref q]) ⟨hx, hb, hml, hown, hts⟩ (rf_wet l hlt dC dI kA eD b g o hou (by omega)) (cwV 1 hts gL_wet_X3_wet rfl rfl rfl (by decide +kernel) ⟨Nat.le_of_ble_eq_true rfl, Nat.le_of_ble_eq_true rfl⟩) ⟨fb_CX, va_recv hK hP (ci := 7) (q0 := 0) rfl rfl, fun U hU hW => ⟨rfl, CX.give hb0 hM hK hG hE hS hU hW⟩⟩ rfl rfl hl.1 rfl (lv_room (Nat.le_of_ble_eq_true rfl)) dL_wet_4 ⟨(Nat.le_of_ble_eq_true rfl), (Nat.le_of_ble_eq_true rfl)⟩) hS (fun q _ h => h) (fun q h => h) (fun q _ h => h) (fun E ce q9 u9 t H locs ht hvm hpx hBX hz1 hk1 hS hcell hvn hcl => ?_) (fun r5 u t H locs ht hvm hw6 hB hz1 hk1 hS => ?_)
  · skip
    have hM : TM (dC, dI) kA b g H := by rw [← ht]; exact hBX.2
    obtain ⟨rfl, hno⟩ := hBX.1
    refine vx_catch (E := "java/lang/IllegalArgumentException") (name := "java/lang/IllegalArgumentException") hown [] ⟨0, 9, 12, 13⟩ [] (by rw [htab]; rfl) (fun z hz => absurd hz List.not_mem_nil) rfl (by decide) (hts (.classLink RL 13 "java/lang/IllegalArgumentException") (by decide +kernel)) (th_any (a := #[]) rfl (hT.1 (.castable "java/lang/IllegalArgumentException" "java/lang/IllegalArgumentException") (by decide +kernel))) hcell hvn hcl ?_
    refine W.eq (g2 := F0 m 12 ls [.ref q9]) rfl ?_
    refine lv_astore_n (lv' := [(3, .ref q9), (0, .ref o), (1, .int hou), (2, .ref q)]) hx hb dL_wet_12 rfl hl (by decide) rfl (fun ls hl => ?_)
    refine lv_iconst (v := 1) hx hb dL_wet_13 (by decide) ?_
    refine W.widen (k := 1) (n := 6) (Nat.le_of_ble_eq_true rfl) (Nat.le_of_ble_eq_true rfl) ?_
    exact W.iret (v := 1) hx hb hr (fun t ht hW => ⟨⟨1, g, rfl, (Or.inr (⟨rfl, hno, rfl⟩)), CX.give hb0 hM hK hG hE hS ht hW⟩, hS.F ht⟩) hS.2.2 dL_wet_14
  · skip
    have hM := hB.back ht
    have hG := hB.2.2.2.1
    refine lv_i2l hx hb dL_wet_7 rfl ?_
    obtain ⟨hP, hf⟩ := o_ou (i := 0) (q := q) hM (by omega)
    refine rt_last (D := (dC, dI)) (t0 := 3) hx hb hK hP (hM.ge (by omega)) hS rfl (by unfold vp_in; decide) dL_wet_8 (fun H locs hP hz ho hS => ?_)
    have ec : (0 : Int32).toNatClampNeg = 0 := by decide
    rw [ec] at hP
    have hM0 := hM
    have hM := p_ou (i := 0) (f := vp_updL (pL g q) 0 r5.toInt64) hM (by omega) hP ho hf
    obtain ⟨g7, hg7⟩ : ∃ z, z = uL g q (vp_updL (pL g q) 0 r5.toInt64) := ⟨_, rfl⟩
    rw [← hg7] at hM
    have ht8 : tg g7 o = 1 := by rw [hg7]; exact hto
    have ht9 : tg g7 q = 34 := by rw [hg7]; exact htq
    have hG : GOK g7 := by rw [hg7]; exact (hG.uL hM0)
    refine lv_goto (tgt := 15) hx hb dL_wet_9 (by decide) ?_
    refine lv_iconst (v := 0) hx hb dL_wet_15 (by decide) ?_
    refine W.widen (k := 1) (n := 6) (Nat.le_of_ble_eq_true rfl) (Nat.le_of_ble_eq_true rfl) ?_
    exact W.iret (v := 0) hx hb hr (fun t ht hW => ⟨⟨0, g7, rfl, (Or.inl ⟨rfl, r5, hw6, by rw [hg7]⟩), CX.give hb0 hM hK hG hE hS ht hW⟩, hS.F ht⟩) hS.2.2 dL_wet_16

set_option maxHeartbeats 4000000 in
set_option maxRecDepth 100000 in
theorem rh_go (l : Launch) (hlt : l.stackTraces = false) (dC : Nat → ClassId) (dI : Nat → Nat → Nat) (kA : Nat → ClassId) (eD b : Nat) (g : Gh) (o q : Nat) (hrs : Int32)  (hto : tg g o = 1) (htq : tg g q = 34) : Met l yL_go wsL_go ({ frames := 7, cells := 1, slots := 6, locals := 160 }) (va_Pc [.ref o, .int hrs, .ref q] (CX (dC, dI) kA eD b g)) (va_Qi (fun (r : Int32) (u : Gh) => (r = 0 ∧ ∃ (rv : Int32) (v8 : Gh), ((∀ a : Nat, tg g a ≠ 0 → tg v8 a = tg g a) ∧ ∃ c h, pI g o 1 = nI c ∧ hrs = nI h ∧ (1 ≤ h ∧ h ≤ 48) ∧ c + h ≤ 504 ∧ rv = nI (c + h) ∧ v8 = sI g o 1 (nI (c + h))) ∧ u = uL v8 q (vp_updL (pL v8 q) 0 rv.toInt64)) ∨ (r = 1 ∧ (¬ (1 ≤ hrs.toInt ∧ hrs.toInt ≤ 48)) ∧ u = g) ∨ (r = 2 ∧ ((1 ≤ hrs.toInt ∧ hrs.toInt ≤ 48) ∧ 504 < (pI g o 1).toInt + hrs.toInt) ∧ u = g)) (fun (u : Gh) t => CX (dC, dI) kA eD b u t) (fun q => b ≤ q)) 1 6 (fun q => b ≤ q) := by
  refine va_MetW (cc := cL_go) (maxL := 4) (ret := (some .int)) (hh := [(0, 9, 12, 13), (0, 9, 15, 27)]) (by decide +kernel) rfl ?_
  intro p e s m args below meth c s₁ B hml hv
  obtain ⟨rfl, hb0, hM, hK, hG, hE⟩ := hv
  have hx := B.exec
  have hb := B.bytes
  have hr := B.returns
  have hts := atoms_spec (ws := wsL_go) B.pre
  have hown : s.vm.findClass RL = some m.cls := findClass_of_methodNamed B.named
  have hlocks := B.notSynchronized
  have htab : c.exceptionTable.toList = tableOf [(0, 9, 12, 13), (0, 9, 15, 27)] := vx_table (x := yL_go) B (hts _ List.mem_cons_self)
  have hT := hE.1
  have hN := hE.2.2.2.2.2.2.2.1
  have hS : va_S (fun q => b ≤ q) s.heap s.heap [] := va_S.rf
  have hl := lv_entry ([.ref o, .int hrs, .ref q]) (n := 4) (Nat.le_of_ble_eq_true rfl)
  rw [lg_entry_eq]
  generalize (lg_sl ([.ref o, .int hrs, .ref q]) ++ List.replicate (4 - (lg_sl ([.ref o, .int hrs, .ref q])).length) Slot.unset).toArray = ls at hl ⊢
  have hl : lv_has ls 4 [(0, .ref o), (1, .int hrs), (2, .ref q)] := hl
  generalize ([.ref o, .int hrs, .ref q] : List Value).toArray = args at hts ⊢
  refine lv_aload_n hx hb dL_go_0 rfl (lv_at hl 2 rfl) ?_
  refine lv_iconst (v := 0) hx hb dL_go_1 (by decide) ?_
  refine lv_aload_n hx hb dL_go_2 rfl (lv_at hl 0 rfl) ?_
  refine lv_iload_n hx hb dL_go_3 rfl (lv_at hl 1 rfl) ?_
  obtain ⟨u1, u2, u3, u4, hP, hf⟩ := o_sno (i := 0) (q := o) hM (by omega)
  refine vx_calli (vx_runV (As := [.int hrs]) (rest := [.int 0, .ref q]) ⟨hx, hb, hml, hown, hts⟩ (rf_go l hlt dC dI kA eD b g o hrs (by omega)) (cwV 1 hts gL_go_X3_go rfl rfl rfl (by decide +kernel) ⟨Nat.le_of_ble_eq_true rfl, Nat.le_of_ble_eq_true rfl⟩) ⟨fb_CX, va_recv hK hP (ci := 7) (q0 := 0) rfl rfl, fun U hU hW => ⟨rfl, CX.give hb0 hM hK hG hE hS hU hW⟩⟩ rfl rfl hl.1 rfl (lv_room (Nat.le_of_ble_eq_true rfl)) dL_go_4 ⟨(Nat.le_of_ble_eq_true rfl), (Nat.le_of_ble_eq_true rfl)⟩) hS (fun q _ h => h) (fun q h => h) (fun q _ h => h) (fun E ce q9 u9 t H locs ht hvm hpx hBX hz1 hk1 hS hcell hvn hcl => ?_) (fun r5 g7 t H locs ht hvm hw6 hB hz1 hk1 hS => ?_)
  · skip
    have hM : TM (dC, dI) kA b g H := by rw [← ht]; exact hBX.2
    rcases hBX.1 with ⟨rfl, hno⟩ | ⟨rfl, hno⟩
    · skip
      refine vx_catch (E := "java/lang/IllegalArgumentException") (name := "java/lang/IllegalArgumentException") hown [] ⟨0, 9, 12, 13⟩ [⟨0, 9, 15, 27⟩] (by rw [htab]; rfl) (fun z hz => absurd hz List.not_mem_nil) rfl (by decide) (hts (.classLink RL 13 "java/lang/IllegalArgumentException") (by decide +kernel)) (th_any (a := #[]) rfl (hT.1 (.castable "java/lang/IllegalArgumentException" "java/lang/IllegalArgumentException") (by decide +kernel))) hcell hvn hcl ?_
      refine W.eq (g2 := F0 m 12 ls [.ref q9]) rfl ?_
      refine lv_astore_n (lv' := [(3, .ref q9), (0, .ref o), (1, .int hrs), (2, .ref q)]) hx hb dL_go_12 rfl hl (by decide) rfl (fun ls hl => ?_)
      refine lv_iconst (v := 1) hx hb dL_go_13 (by decide) ?_
      refine W.widen (k := 1) (n := 6) (Nat.le_of_ble_eq_true rfl) (Nat.le_of_ble_eq_true rfl) ?_
      exact W.iret (v := 1) hx hb hr (fun t ht hW => ⟨⟨1, g, rfl, (Or.inr (Or.inl ⟨rfl, hno, rfl⟩)), CX.give hb0 hM hK hG hE hS ht hW⟩, hS.F ht⟩) hS.2.2 dL_go_14
    · skip
      refine vx_catch (E := "java/lang/IllegalStateException") (name := "java/lang/IllegalStateException") hown [⟨0, 9, 12, 13⟩] ⟨0, 9, 15, 27⟩ [] (by rw [htab]; rfl) (fun z hz => by rcases List.mem_singleton.mp hz with rfl; exact Or.inr ⟨by decide, _, hts (.classLink RL 13 "java/lang/IllegalArgumentException") (by decide +kernel), hT.2.2.1 ("java/lang/IllegalStateException", "java/lang/IllegalArgumentException") (by decide +kernel)⟩) rfl (by decide) (hts (.classLink RL 27 "java/lang/IllegalStateException") (by decide +kernel)) (th_any (a := #[]) rfl (hT.1 (.castable "java/lang/IllegalStateException" "java/lang/IllegalStateException") (by decide +kernel))) hcell hvn hcl ?_
      refine W.eq (g2 := F0 m 15 ls [.ref q9]) rfl ?_
      refine lv_astore_n (lv' := [(3, .ref q9), (0, .ref o), (1, .int hrs), (2, .ref q)]) hx hb dL_go_15 rfl hl (by decide) rfl (fun ls hl => ?_)
      refine lv_iconst (v := 2) hx hb dL_go_16 (by decide) ?_
      refine W.widen (k := 1) (n := 6) (Nat.le_of_ble_eq_true rfl) (Nat.le_of_ble_eq_true rfl) ?_
      exact W.iret (v := 2) hx hb hr (fun t ht hW => ⟨⟨2, g, rfl, (Or.inr (Or.inr (⟨rfl, hno, rfl⟩))), CX.give hb0 hM hK hG hE hS ht hW⟩, hS.F ht⟩) hS.2.2 dL_go_17
  · skip
    have hM := hB.back ht
    have hG := hB.2.2.2.1
    have hkt : ∀ a : Nat, tg g a ≠ 0 → tg g7 a = tg g a := hw6.1
    have ht8 : tg g7 o = 1 := (hkt o (by omega)).trans hto
    have ht9 : tg g7 q = 34 := (hkt q (by omega)).trans htq
    refine lv_i2l hx hb dL_go_7 rfl ?_
    obtain ⟨hP, hf⟩ := o_ou (i := 0) (q := q) hM (by omega)
    refine rt_last (D := (dC, dI)) (t0 := 3) hx hb hK hP (hM.ge (by omega)) hS rfl (by unfold vp_in; decide) dL_go_8 (fun H locs hP hz ho hS => ?_)
    have ec : (0 : Int32).toNatClampNeg = 0 := by decide
    rw [ec] at hP
    have hM0 := hM
    have hM := p_ou (i := 0) (f := vp_updL (pL g7 q) 0 r5.toInt64) hM (by omega) hP ho hf
    obtain ⟨g10, hg10⟩ : ∃ z, z = uL g7 q (vp_updL (pL g7 q) 0 r5.toInt64) := ⟨_, rfl⟩
    rw [← hg10] at hM
    have ht11 : tg g10 o = 1 := by rw [hg10]; exact ht8
    have ht12 : tg g10 q = 34 := by rw [hg10]; exact ht9
    have hG : GOK g10 := by rw [hg10]; exact (hG.uL hM0)
    refine lv_goto (tgt := 18) hx hb dL_go_9 (by decide) ?_
    refine lv_iconst (v := 0) hx hb dL_go_18 (by decide) ?_
    refine W.widen (k := 1) (n := 6) (Nat.le_of_ble_eq_true rfl) (Nat.le_of_ble_eq_true rfl) ?_
    exact W.iret (v := 0) hx hb hr (fun t ht hW => ⟨⟨0, g10, rfl, (Or.inl ⟨rfl, r5, g7, hw6, by rw [hg10]⟩), CX.give hb0 hM hK hG hE hS ht hW⟩, hS.F ht⟩) hS.2.2 dL_go_19

set_option maxHeartbeats 4000000 in
set_option maxRecDepth 100000 in
theorem rh_ice (l : Launch) (hlt : l.stackTraces = false) (dC : Nat → ClassId) (dI : Nat → Nat → Nat) (kA : Nat → ClassId) (eD b : Nat) (g : Gh) (o q : Nat) (p0 : Int32)  (hto : tg g o = 1) (htq : tg g q = 34) : Met l yL_ice wsL_ice ({ frames := 7, cells := 1, slots := 6, locals := 103 }) (va_Pc [.ref o, .int p0, .ref q] (CX (dC, dI) kA eD b g)) (va_Qi (fun (r : Int32) (u : Gh) => ∃ f, u = uL g q f) (fun (u : Gh) t => CX (dC, dI) kA eD b u t) (fun q => b ≤ q)) 1 6 (fun q => b ≤ q) := by
  refine va_MetW (cc := cL_ice) (maxL := 4) (ret := (some .int)) (hh := [(0, 9, 12, 13)]) (by decide +kernel) rfl ?_
  intro p e s m args below meth c s₁ B hml hv
  obtain ⟨rfl, hb0, hM, hK, hG, hE⟩ := hv
  have hx := B.exec
  have hb := B.bytes
  have hr := B.returns
  have hts := atoms_spec (ws := wsL_ice) B.pre
  have hown : s.vm.findClass RL = some m.cls := findClass_of_methodNamed B.named
  have hlocks := B.notSynchronized
  have htab : c.exceptionTable.toList = tableOf [(0, 9, 12, 13)] := vx_table (x := yL_ice) B (hts _ List.mem_cons_self)
  have hT := hE.1
  have hN := hE.2.2.2.2.2.2.2.1
  have hS : va_S (fun q => b ≤ q) s.heap s.heap [] := va_S.rf
  have hl := lv_entry ([.ref o, .int p0, .ref q]) (n := 4) (Nat.le_of_ble_eq_true rfl)
  rw [lg_entry_eq]
  generalize (lg_sl ([.ref o, .int p0, .ref q]) ++ List.replicate (4 - (lg_sl ([.ref o, .int p0, .ref q])).length) Slot.unset).toArray = ls at hl ⊢
  have hl : lv_has ls 4 [(0, .ref o), (1, .int p0), (2, .ref q)] := hl
  generalize ([.ref o, .int p0, .ref q] : List Value).toArray = args at hts ⊢
  refine lv_aload_n hx hb dL_ice_0 rfl (lv_at hl 2 rfl) ?_
  refine lv_iconst (v := 0) hx hb dL_ice_1 (by decide) ?_
  refine lv_aload_n hx hb dL_ice_2 rfl (lv_at hl 0 rfl) ?_
  refine lv_iload_n hx hb dL_ice_3 rfl (lv_at hl 1 rfl) ?_
  obtain ⟨u1, u2, u3, u4, hP, hf⟩ := o_sno (i := 0) (q := o) hM (by omega)
  refine vx_calli (vx_runV (As := [.int p0]) (rest := [.int 0, .ref q]) ⟨hx, hb, hml, hown, hts⟩ (rf_ice l hlt dC dI kA eD b g o p0 (by omega)) (cwV 1 hts gL_ice_X3_ice rfl rfl rfl (by decide +kernel) ⟨Nat.le_of_ble_eq_true rfl, Nat.le_of_ble_eq_true rfl⟩) ⟨fb_CX, va_recv hK hP (ci := 7) (q0 := 0) rfl rfl, fun U hU hW => ⟨rfl, CX.give hb0 hM hK hG hE hS hU hW⟩⟩ rfl rfl hl.1 rfl (lv_room (Nat.le_of_ble_eq_true rfl)) dL_ice_4 ⟨(Nat.le_of_ble_eq_true rfl), (Nat.le_of_ble_eq_true rfl)⟩) hS (fun q _ h => h) (fun q h => h) (fun q _ h => h) (fun E ce q9 u9 t H locs ht hvm hpx hBX hz1 hk1 hS hcell hvn hcl => ?_) (fun r5 u t H locs ht hvm hw6 hB hz1 hk1 hS => ?_)
  · skip
    have hM : TM (dC, dI) kA b g H := by rw [← ht]; exact hBX.2
    obtain rfl := hBX.1
    refine vx_catch (E := "java/lang/IllegalArgumentException") (name := "java/lang/IllegalArgumentException") hown [] ⟨0, 9, 12, 13⟩ [] (by rw [htab]; rfl) (fun z hz => absurd hz List.not_mem_nil) rfl (by decide) (hts (.classLink RL 13 "java/lang/IllegalArgumentException") (by decide +kernel)) (th_any (a := #[]) rfl (hT.1 (.castable "java/lang/IllegalArgumentException" "java/lang/IllegalArgumentException") (by decide +kernel))) hcell hvn hcl ?_
    refine W.eq (g2 := F0 m 12 ls [.ref q9]) rfl ?_
    refine lv_astore_n (lv' := [(3, .ref q9), (0, .ref o), (1, .int p0), (2, .ref q)]) hx hb dL_ice_12 rfl hl (by decide) rfl (fun ls hl => ?_)
    refine lv_iconst (v := 1) hx hb dL_ice_13 (by decide) ?_
    refine W.widen (k := 1) (n := 6) (Nat.le_of_ble_eq_true rfl) (Nat.le_of_ble_eq_true rfl) ?_
    exact W.iret (v := 1) hx hb hr (fun t ht hW => ⟨⟨1, g, rfl, (⟨pL g q, (uL_id rfl).symm⟩), CX.give hb0 hM hK hG hE hS ht hW⟩, hS.F ht⟩) hS.2.2 dL_ice_14
  · skip
    have hM := hB.back ht
    have hG := hB.2.2.2.1
    refine lv_i2l hx hb dL_ice_7 rfl ?_
    obtain ⟨hP, hf⟩ := o_ou (i := 0) (q := q) hM (by omega)
    refine rt_last (D := (dC, dI)) (t0 := 3) hx hb hK hP (hM.ge (by omega)) hS rfl (by unfold vp_in; decide) dL_ice_8 (fun H locs hP hz ho hS => ?_)
    have ec : (0 : Int32).toNatClampNeg = 0 := by decide
    rw [ec] at hP
    have hM0 := hM
    have hM := p_ou (i := 0) (f := vp_updL (pL g q) 0 r5.toInt64) hM (by omega) hP ho hf
    obtain ⟨g7, hg7⟩ : ∃ z, z = uL g q (vp_updL (pL g q) 0 r5.toInt64) := ⟨_, rfl⟩
    rw [← hg7] at hM
    have ht8 : tg g7 o = 1 := by rw [hg7]; exact hto
    have ht9 : tg g7 q = 34 := by rw [hg7]; exact htq
    have hG : GOK g7 := by rw [hg7]; exact (hG.uL hM0)
    refine lv_goto (tgt := 15) hx hb dL_ice_9 (by decide) ?_
    refine lv_iconst (v := 0) hx hb dL_ice_15 (by decide) ?_
    refine W.widen (k := 1) (n := 6) (Nat.le_of_ble_eq_true rfl) (Nat.le_of_ble_eq_true rfl) ?_
    exact W.iret (v := 0) hx hb hr (fun t ht hW => ⟨⟨0, g7, rfl, (⟨_, by rw [hg7]⟩), CX.give hb0 hM hK hG hE hS ht hW⟩, hS.F ht⟩) hS.2.2 dL_ice_16

set_option maxHeartbeats 4000000 in
set_option maxRecDepth 100000 in
theorem rh_clear (l : Launch) (hlt : l.stackTraces = false) (dC : Nat → ClassId) (dI : Nat → Nat → Nat) (kA : Nat → ClassId) (eD b : Nat) (g : Gh) (o q : Nat) (p0 : Int32)  (hto : tg g o = 1) (htq : tg g q = 34) : Met l yL_clear wsL_clear ({ frames := 7, cells := 1, slots := 6, locals := 103 }) (va_Pc [.ref o, .int p0, .ref q] (CX (dC, dI) kA eD b g)) (va_Qi (fun (r : Int32) (u : Gh) => ∃ f, u = uL g q f) (fun (u : Gh) t => CX (dC, dI) kA eD b u t) (fun q => b ≤ q)) 1 6 (fun q => b ≤ q) := by
  refine va_MetW (cc := cL_clear) (maxL := 4) (ret := (some .int)) (hh := [(0, 9, 12, 13)]) (by decide +kernel) rfl ?_
  intro p e s m args below meth c s₁ B hml hv
  obtain ⟨rfl, hb0, hM, hK, hG, hE⟩ := hv
  have hx := B.exec
  have hb := B.bytes
  have hr := B.returns
  have hts := atoms_spec (ws := wsL_clear) B.pre
  have hown : s.vm.findClass RL = some m.cls := findClass_of_methodNamed B.named
  have hlocks := B.notSynchronized
  have htab : c.exceptionTable.toList = tableOf [(0, 9, 12, 13)] := vx_table (x := yL_clear) B (hts _ List.mem_cons_self)
  have hT := hE.1
  have hN := hE.2.2.2.2.2.2.2.1
  have hS : va_S (fun q => b ≤ q) s.heap s.heap [] := va_S.rf
  have hl := lv_entry ([.ref o, .int p0, .ref q]) (n := 4) (Nat.le_of_ble_eq_true rfl)
  rw [lg_entry_eq]
  generalize (lg_sl ([.ref o, .int p0, .ref q]) ++ List.replicate (4 - (lg_sl ([.ref o, .int p0, .ref q])).length) Slot.unset).toArray = ls at hl ⊢
  have hl : lv_has ls 4 [(0, .ref o), (1, .int p0), (2, .ref q)] := hl
  generalize ([.ref o, .int p0, .ref q] : List Value).toArray = args at hts ⊢
  refine lv_aload_n hx hb dL_clear_0 rfl (lv_at hl 2 rfl) ?_
  refine lv_iconst (v := 0) hx hb dL_clear_1 (by decide) ?_
  refine lv_aload_n hx hb dL_clear_2 rfl (lv_at hl 0 rfl) ?_
  refine lv_iload_n hx hb dL_clear_3 rfl (lv_at hl 1 rfl) ?_
  obtain ⟨u1, u2, u3, u4, hP, hf⟩ := o_sno (i := 0) (q := o) hM (by omega)
  refine vx_calli (vx_runV (As := [.int p0]) (rest := [.int 0, .ref q]) ⟨hx, hb, hml, hown, hts⟩ (rf_clear l hlt dC dI kA eD b g o p0 (by omega)) (cwV 1 hts gL_clear_X3_clear rfl rfl rfl (by decide +kernel) ⟨Nat.le_of_ble_eq_true rfl, Nat.le_of_ble_eq_true rfl⟩) ⟨fb_CX, va_recv hK hP (ci := 7) (q0 := 0) rfl rfl, fun U hU hW => ⟨rfl, CX.give hb0 hM hK hG hE hS hU hW⟩⟩ rfl rfl hl.1 rfl (lv_room (Nat.le_of_ble_eq_true rfl)) dL_clear_4 ⟨(Nat.le_of_ble_eq_true rfl), (Nat.le_of_ble_eq_true rfl)⟩) hS (fun q _ h => h) (fun q h => h) (fun q _ h => h) (fun E ce q9 u9 t H locs ht hvm hpx hBX hz1 hk1 hS hcell hvn hcl => ?_) (fun r5 u t H locs ht hvm hw6 hB hz1 hk1 hS => ?_)
  · skip
    have hM : TM (dC, dI) kA b g H := by rw [← ht]; exact hBX.2
    obtain rfl := hBX.1
    refine vx_catch (E := "java/lang/IllegalArgumentException") (name := "java/lang/IllegalArgumentException") hown [] ⟨0, 9, 12, 13⟩ [] (by rw [htab]; rfl) (fun z hz => absurd hz List.not_mem_nil) rfl (by decide) (hts (.classLink RL 13 "java/lang/IllegalArgumentException") (by decide +kernel)) (th_any (a := #[]) rfl (hT.1 (.castable "java/lang/IllegalArgumentException" "java/lang/IllegalArgumentException") (by decide +kernel))) hcell hvn hcl ?_
    refine W.eq (g2 := F0 m 12 ls [.ref q9]) rfl ?_
    refine lv_astore_n (lv' := [(3, .ref q9), (0, .ref o), (1, .int p0), (2, .ref q)]) hx hb dL_clear_12 rfl hl (by decide) rfl (fun ls hl => ?_)
    refine lv_iconst (v := 1) hx hb dL_clear_13 (by decide) ?_
    refine W.widen (k := 1) (n := 6) (Nat.le_of_ble_eq_true rfl) (Nat.le_of_ble_eq_true rfl) ?_
    exact W.iret (v := 1) hx hb hr (fun t ht hW => ⟨⟨1, g, rfl, (⟨pL g q, (uL_id rfl).symm⟩), CX.give hb0 hM hK hG hE hS ht hW⟩, hS.F ht⟩) hS.2.2 dL_clear_14
  · skip
    have hM := hB.back ht
    have hG := hB.2.2.2.1
    refine lv_i2l hx hb dL_clear_7 rfl ?_
    obtain ⟨hP, hf⟩ := o_ou (i := 0) (q := q) hM (by omega)
    refine rt_last (D := (dC, dI)) (t0 := 3) hx hb hK hP (hM.ge (by omega)) hS rfl (by unfold vp_in; decide) dL_clear_8 (fun H locs hP hz ho hS => ?_)
    have ec : (0 : Int32).toNatClampNeg = 0 := by decide
    rw [ec] at hP
    have hM0 := hM
    have hM := p_ou (i := 0) (f := vp_updL (pL g q) 0 r5.toInt64) hM (by omega) hP ho hf
    obtain ⟨g7, hg7⟩ : ∃ z, z = uL g q (vp_updL (pL g q) 0 r5.toInt64) := ⟨_, rfl⟩
    rw [← hg7] at hM
    have ht8 : tg g7 o = 1 := by rw [hg7]; exact hto
    have ht9 : tg g7 q = 34 := by rw [hg7]; exact htq
    have hG : GOK g7 := by rw [hg7]; exact (hG.uL hM0)
    refine lv_goto (tgt := 15) hx hb dL_clear_9 (by decide) ?_
    refine lv_iconst (v := 0) hx hb dL_clear_15 (by decide) ?_
    refine W.widen (k := 1) (n := 6) (Nat.le_of_ble_eq_true rfl) (Nat.le_of_ble_eq_true rfl) ?_
    exact W.iret (v := 0) hx hb hr (fun t ht hW => ⟨⟨0, g7, rfl, (⟨_, by rw [hg7]⟩), CX.give hb0 hM hK hG hE hS ht hW⟩, hS.F ht⟩) hS.2.2 dL_clear_16

set_option maxHeartbeats 4000000 in
set_option maxRecDepth 100000 in
theorem rh_bears (l : Launch) (hlt : l.stackTraces = false) (dC : Nat → ClassId) (dI : Nat → Nat → Nat) (kA : Nat → ClassId) (eD b : Nat) (g : Gh) (o q : Nat) (p0 : Int32)  (hto : tg g o = 1) (htq : tg g q = 34) : Met l yL_bears wsL_bears ({ frames := 7, cells := 1, slots := 6, locals := 103 }) (va_Pc [.ref o, .int p0, .ref q] (CX (dC, dI) kA eD b g)) (va_Qi (fun (r : Int32) (u : Gh) => ∃ f, u = uL g q f) (fun (u : Gh) t => CX (dC, dI) kA eD b u t) (fun q => b ≤ q)) 1 6 (fun q => b ≤ q) := by
  refine va_MetW (cc := cL_bears) (maxL := 4) (ret := (some .int)) (hh := [(0, 16, 19, 13)]) (by decide +kernel) rfl ?_
  intro p e s m args below meth c s₁ B hml hv
  obtain ⟨rfl, hb0, hM, hK, hG, hE⟩ := hv
  have hx := B.exec
  have hb := B.bytes
  have hr := B.returns
  have hts := atoms_spec (ws := wsL_bears) B.pre
  have hown : s.vm.findClass RL = some m.cls := findClass_of_methodNamed B.named
  have hlocks := B.notSynchronized
  have htab : c.exceptionTable.toList = tableOf [(0, 16, 19, 13)] := vx_table (x := yL_bears) B (hts _ List.mem_cons_self)
  have hT := hE.1
  have hN := hE.2.2.2.2.2.2.2.1
  have hS : va_S (fun q => b ≤ q) s.heap s.heap [] := va_S.rf
  have hl := lv_entry ([.ref o, .int p0, .ref q]) (n := 4) (Nat.le_of_ble_eq_true rfl)
  rw [lg_entry_eq]
  generalize (lg_sl ([.ref o, .int p0, .ref q]) ++ List.replicate (4 - (lg_sl ([.ref o, .int p0, .ref q])).length) Slot.unset).toArray = ls at hl ⊢
  have hl : lv_has ls 4 [(0, .ref o), (1, .int p0), (2, .ref q)] := hl
  generalize ([.ref o, .int p0, .ref q] : List Value).toArray = args at hts ⊢
  refine W.q (fun Q hQ => ?_)
  refine lv_aload_n hx hb dL_bears_0 rfl (lv_at hl 2 rfl) ?_
  refine lv_iconst (v := 0) hx hb dL_bears_1 (by decide) ?_
  refine lv_aload_n hx hb dL_bears_2 rfl (lv_at hl 0 rfl) ?_
  refine lv_iload_n hx hb dL_bears_3 rfl (lv_at hl 1 rfl) ?_
  obtain ⟨u1, u2, u3, u4, hP, hf⟩ := o_sno (i := 0) (q := o) hM (by omega)
  refine vx_calli (vx_runV (As := [.int p0]) (rest := [.int 0, .ref q]) ⟨hx, hb, hml, hown, hts⟩ (rf_bears l hlt dC dI kA eD b g o p0 (by omega)) (cwV 1 hts gL_bears_X3_bears rfl rfl rfl (by decide +kernel) ⟨Nat.le_of_ble_eq_true rfl, Nat.le_of_ble_eq_true rfl⟩) ⟨fb_CX, va_recv hK hP (ci := 7) (q0 := 0) rfl rfl, fun U hU hW => ⟨rfl, CX.give hb0 hM hK hG hE hS hU hW⟩⟩ rfl rfl hl.1 rfl (lv_room (Nat.le_of_ble_eq_true rfl)) dL_bears_4 ⟨(Nat.le_of_ble_eq_true rfl), (Nat.le_of_ble_eq_true rfl)⟩) hS (fun q _ h => h) (fun q h => h) (fun q _ h => h) (fun E ce q9 u9 t H locs ht hvm hpx hBX hz1 hk1 hS hcell hvn hcl => ?_) (fun r5 u t H locs ht hvm hw6 hB hz1 hk1 hS => ?_)
  · skip
    have hM : TM (dC, dI) kA b g H := by rw [← ht]; exact hBX.2
    obtain rfl := hBX.1
    refine vx_catch (E := "java/lang/IllegalArgumentException") (name := "java/lang/IllegalArgumentException") hown [] ⟨0, 16, 19, 13⟩ [] (by rw [htab]; rfl) (fun z hz => absurd hz List.not_mem_nil) rfl (by decide) (hts (.classLink RL 13 "java/lang/IllegalArgumentException") (by decide +kernel)) (th_any (a := #[]) rfl (hT.1 (.castable "java/lang/IllegalArgumentException" "java/lang/IllegalArgumentException") (by decide +kernel))) hcell hvn hcl ?_
    refine W.eq (g2 := F0 m 19 ls [.ref q9]) rfl ?_
    refine lv_astore_n (lv' := [(3, .ref q9), (0, .ref o), (1, .int p0), (2, .ref q)]) hx hb dL_bears_19 rfl hl (by decide) rfl (fun ls hl => ?_)
    refine lv_iconst (v := 1) hx hb dL_bears_20 (by decide) ?_
    subst hQ
    refine W.widen (k := 1) (n := 6) (Nat.le_of_ble_eq_true rfl) (Nat.le_of_ble_eq_true rfl) ?_
    exact W.iret (v := 1) hx hb hr (fun t ht hW => ⟨⟨1, g, rfl, (⟨pL g q, (uL_id rfl).symm⟩), CX.give hb0 hM hK hG hE hS ht hW⟩, hS.F ht⟩) hS.2.2 dL_bears_21
  · skip
    have hM := hB.back ht
    have hG := hB.2.2.2.1
    have jn8 : ∀ (x7 : Int64) (H : Heap) (locs : List Loc) (ls : Array Slot), TM (dC, dI) kA b g H → va_S (fun q => b ≤ q) s.heap H locs → lv_has ls 4 [(0, .ref o), (1, .int p0), (2, .ref q)] → W p l e (headSpec wsL_bears ({ frames := 7, cells := 1, slots := 6, locals := 103 })).room s m args below meth c H locs 1 6 Q (F0 m 15 ls [.long x7, .int 0, .ref q]) := by
      intro x7 H locs ls hM hS hl
      obtain ⟨hP, hf⟩ := o_ou (i := 0) (q := q) hM (by omega)
      refine rt_last (D := (dC, dI)) (t0 := 3) hx hb hK hP (hM.ge (by omega)) hS rfl (by unfold vp_in; decide) dL_bears_15 (fun H locs hP hz ho hS => ?_)
      have ec : (0 : Int32).toNatClampNeg = 0 := by decide
      rw [ec] at hP
      have hM0 := hM
      have hM := p_ou (i := 0) (f := vp_updL (pL g q) 0 x7) hM (by omega) hP ho hf
      obtain ⟨g9, hg9⟩ : ∃ z, z = uL g q (vp_updL (pL g q) 0 x7) := ⟨_, rfl⟩
      rw [← hg9] at hM
      have ht10 : tg g9 o = 1 := by rw [hg9]; exact hto
      have ht11 : tg g9 q = 34 := by rw [hg9]; exact htq
      have hG : GOK g9 := by rw [hg9]; exact (hG.uL hM0)
      refine lv_goto (tgt := 22) hx hb dL_bears_16 (by decide) ?_
      refine lv_iconst (v := 0) hx hb dL_bears_22 (by decide) ?_
      subst hQ
      refine W.widen (k := 1) (n := 6) (Nat.le_of_ble_eq_true rfl) (Nat.le_of_ble_eq_true rfl) ?_
      exact W.iret (v := 0) hx hb hr (fun t ht hW => ⟨⟨0, g9, rfl, (⟨_, by rw [hg9]⟩), CX.give hb0 hM hK hG hE hS ht hW⟩, hS.F ht⟩) hS.2.2 dL_bears_23
    refine lv_if_eq (tgt := 14) hx hb dL_bears_7 (by decide) (fun c13 => ?_) (fun c13 => ?_)
    · skip
      refine lv_lconst (v := 0) hx hb dL_bears_14 (by decide) ?_
      exact jn8 0 H _ ls hM hS (lv_sub hl [0, 1, 2] rfl)
    · skip
      refine lv_lconst (v := 1) hx hb dL_bears_10 (by decide) ?_
      refine lv_goto (tgt := 15) hx hb dL_bears_11 (by decide) ?_
      exact jn8 1 H _ ls hM hS (lv_sub hl [0, 1, 2] rfl)

set_option maxHeartbeats 4000000 in
set_option maxRecDepth 100000 in
theorem rh_cut (l : Launch) (hlt : l.stackTraces = false) (dC : Nat → ClassId) (dI : Nat → Nat → Nat) (kA : Nat → ClassId) (eD b : Nat) (g : Gh) (o q : Nat) (p0 : Int32) (p1 : Int32)  (hto : tg g o = 1) (htq : tg g q = 34) : Met l yL_cut wsL_cut ({ frames := 7, cells := 1, slots := 6, locals := 104 }) (va_Pc [.ref o, .int p0, .int p1, .ref q] (CX (dC, dI) kA eD b g)) (va_Qi (fun (r : Int32) (u : Gh) => ∃ f, u = uL g q f) (fun (u : Gh) t => CX (dC, dI) kA eD b u t) (fun q => b ≤ q)) 1 6 (fun q => b ≤ q) := by
  refine va_MetW (cc := cL_cut) (maxL := 5) (ret := (some .int)) (hh := [(0, 10, 13, 13), (0, 10, 17, 15), (0, 10, 21, 27)]) (by decide +kernel) rfl ?_
  intro p e s m args below meth c s₁ B hml hv
  obtain ⟨rfl, hb0, hM, hK, hG, hE⟩ := hv
  have hx := B.exec
  have hb := B.bytes
  have hr := B.returns
  have hts := atoms_spec (ws := wsL_cut) B.pre
  have hown : s.vm.findClass RL = some m.cls := findClass_of_methodNamed B.named
  have hlocks := B.notSynchronized
  have htab : c.exceptionTable.toList = tableOf [(0, 10, 13, 13), (0, 10, 17, 15), (0, 10, 21, 27)] := vx_table (x := yL_cut) B (hts _ List.mem_cons_self)
  have hT := hE.1
  have hN := hE.2.2.2.2.2.2.2.1
  have hS : va_S (fun q => b ≤ q) s.heap s.heap [] := va_S.rf
  have hl := lv_entry ([.ref o, .int p0, .int p1, .ref q]) (n := 5) (Nat.le_of_ble_eq_true rfl)
  rw [lg_entry_eq]
  generalize (lg_sl ([.ref o, .int p0, .int p1, .ref q]) ++ List.replicate (5 - (lg_sl ([.ref o, .int p0, .int p1, .ref q])).length) Slot.unset).toArray = ls at hl ⊢
  have hl : lv_has ls 5 [(0, .ref o), (1, .int p0), (2, .int p1), (3, .ref q)] := hl
  generalize ([.ref o, .int p0, .int p1, .ref q] : List Value).toArray = args at hts ⊢
  refine lv_aload_n hx hb dL_cut_0 rfl (lv_at hl 3 rfl) ?_
  refine lv_iconst (v := 0) hx hb dL_cut_1 (by decide) ?_
  refine lv_aload_n hx hb dL_cut_2 rfl (lv_at hl 0 rfl) ?_
  refine lv_iload_n hx hb dL_cut_3 rfl (lv_at hl 1 rfl) ?_
  refine lv_iload_n hx hb dL_cut_4 rfl (lv_at hl 2 rfl) ?_
  obtain ⟨u1, u2, u3, u4, hP, hf⟩ := o_sno (i := 0) (q := o) hM (by omega)
  refine vx_calli (vx_runV (As := [.int p0, .int p1]) (rest := [.int 0, .ref q]) ⟨hx, hb, hml, hown, hts⟩ (rf_cut l hlt dC dI kA eD b g o p0 p1 (by omega)) (cwV 2 hts gL_cut_X3_cut rfl rfl rfl (by decide +kernel) ⟨Nat.le_of_ble_eq_true rfl, Nat.le_of_ble_eq_true rfl⟩) ⟨fb_CX, va_recv hK hP (ci := 7) (q0 := 0) rfl rfl, fun U hU hW => ⟨rfl, CX.give hb0 hM hK hG hE hS hU hW⟩⟩ rfl rfl hl.1 rfl (lv_room (Nat.le_of_ble_eq_true rfl)) dL_cut_5 ⟨(Nat.le_of_ble_eq_true rfl), (Nat.le_of_ble_eq_true rfl)⟩) hS (fun q _ h => h) (fun q h => h) (fun q _ h => h) (fun E ce q9 u9 t H locs ht hvm hpx hBX hz1 hk1 hS hcell hvn hcl => ?_) (fun r5 u t H locs ht hvm hw6 hB hz1 hk1 hS => ?_)
  · skip
    have hM : TM (dC, dI) kA b g H := by rw [← ht]; exact hBX.2
    rcases hBX.1 with rfl | rfl | rfl
    · skip
      refine vx_catch (E := "java/lang/IllegalArgumentException") (name := "java/lang/IllegalArgumentException") hown [] ⟨0, 10, 13, 13⟩ [⟨0, 10, 17, 15⟩, ⟨0, 10, 21, 27⟩] (by rw [htab]; rfl) (fun z hz => absurd hz List.not_mem_nil) rfl (by decide) (hts (.classLink RL 13 "java/lang/IllegalArgumentException") (by decide +kernel)) (th_any (a := #[]) rfl (hT.1 (.castable "java/lang/IllegalArgumentException" "java/lang/IllegalArgumentException") (by decide +kernel))) hcell hvn hcl ?_
      refine W.eq (g2 := F0 m 13 ls [.ref q9]) rfl ?_
      refine lv_astore (lv' := [(4, .ref q9), (0, .ref o), (1, .int p0), (2, .int p1), (3, .ref q)]) hx hb dL_cut_13 hl (by decide) rfl (fun ls hl => ?_)
      refine lv_iconst (v := 1) hx hb dL_cut_15 (by decide) ?_
      refine W.widen (k := 1) (n := 6) (Nat.le_of_ble_eq_true rfl) (Nat.le_of_ble_eq_true rfl) ?_
      exact W.iret (v := 1) hx hb hr (fun t ht hW => ⟨⟨1, g, rfl, (⟨pL g q, (uL_id rfl).symm⟩), CX.give hb0 hM hK hG hE hS ht hW⟩, hS.F ht⟩) hS.2.2 dL_cut_16
    · skip
      refine vx_catch (E := "java/lang/UnsupportedOperationException") (name := "java/lang/UnsupportedOperationException") hown [⟨0, 10, 13, 13⟩] ⟨0, 10, 17, 15⟩ [⟨0, 10, 21, 27⟩] (by rw [htab]; rfl) (fun z hz => by rcases List.mem_singleton.mp hz with rfl; exact Or.inr ⟨by decide, _, hts (.classLink RL 13 "java/lang/IllegalArgumentException") (by decide +kernel), hT.2.2.1 ("java/lang/UnsupportedOperationException", "java/lang/IllegalArgumentException") (by decide +kernel)⟩) rfl (by decide) (hts (.classLink RL 15 "java/lang/UnsupportedOperationException") (by decide +kernel)) (th_any (a := #[]) rfl (hT.1 (.castable "java/lang/UnsupportedOperationException" "java/lang/UnsupportedOperationException") (by decide +kernel))) hcell hvn hcl ?_
      refine W.eq (g2 := F0 m 17 ls [.ref q9]) rfl ?_
      refine lv_astore (lv' := [(4, .ref q9), (0, .ref o), (1, .int p0), (2, .int p1), (3, .ref q)]) hx hb dL_cut_17 hl (by decide) rfl (fun ls hl => ?_)
      refine lv_iconst (v := 2) hx hb dL_cut_19 (by decide) ?_
      refine W.widen (k := 1) (n := 6) (Nat.le_of_ble_eq_true rfl) (Nat.le_of_ble_eq_true rfl) ?_
      exact W.iret (v := 2) hx hb hr (fun t ht hW => ⟨⟨2, g, rfl, (⟨pL g q, (uL_id rfl).symm⟩), CX.give hb0 hM hK hG hE hS ht hW⟩, hS.F ht⟩) hS.2.2 dL_cut_20
    · skip
      refine vx_catch (E := "java/lang/IllegalStateException") (name := "java/lang/IllegalStateException") hown [⟨0, 10, 13, 13⟩, ⟨0, 10, 17, 15⟩] ⟨0, 10, 21, 27⟩ [] (by rw [htab]; rfl) (fun z hz => by simp only [List.mem_cons, List.not_mem_nil, or_false] at hz; rcases hz with rfl | rfl <;> first | exact Or.inr ⟨by decide, _, hts (.classLink RL 13 "java/lang/IllegalArgumentException") (by decide +kernel), hT.2.2.1 ("java/lang/IllegalStateException", "java/lang/IllegalArgumentException") (by decide +kernel)⟩ | exact Or.inr ⟨by decide, _, hts (.classLink RL 15 "java/lang/UnsupportedOperationException") (by decide +kernel), hT.2.2.1 ("java/lang/IllegalStateException", "java/lang/UnsupportedOperationException") (by decide +kernel)⟩) rfl (by decide) (hts (.classLink RL 27 "java/lang/IllegalStateException") (by decide +kernel)) (th_any (a := #[]) rfl (hT.1 (.castable "java/lang/IllegalStateException" "java/lang/IllegalStateException") (by decide +kernel))) hcell hvn hcl ?_
      refine W.eq (g2 := F0 m 21 ls [.ref q9]) rfl ?_
      refine lv_astore (lv' := [(4, .ref q9), (0, .ref o), (1, .int p0), (2, .int p1), (3, .ref q)]) hx hb dL_cut_21 hl (by decide) rfl (fun ls hl => ?_)
      refine lv_iconst (v := 3) hx hb dL_cut_23 (by decide) ?_
      refine W.widen (k := 1) (n := 6) (Nat.le_of_ble_eq_true rfl) (Nat.le_of_ble_eq_true rfl) ?_
      exact W.iret (v := 3) hx hb hr (fun t ht hW => ⟨⟨3, g, rfl, (⟨pL g q, (uL_id rfl).symm⟩), CX.give hb0 hM hK hG hE hS ht hW⟩, hS.F ht⟩) hS.2.2 dL_cut_24
  · skip
    have hM := hB.back ht
    have hG := hB.2.2.2.1
    refine lv_i2l hx hb dL_cut_8 rfl ?_
    obtain ⟨hP, hf⟩ := o_ou (i := 0) (q := q) hM (by omega)
    refine rt_last (D := (dC, dI)) (t0 := 3) hx hb hK hP (hM.ge (by omega)) hS rfl (by unfold vp_in; decide) dL_cut_9 (fun H locs hP hz ho hS => ?_)
    have ec : (0 : Int32).toNatClampNeg = 0 := by decide
    rw [ec] at hP
    have hM0 := hM
    have hM := p_ou (i := 0) (f := vp_updL (pL g q) 0 r5.toInt64) hM (by omega) hP ho hf
    obtain ⟨g7, hg7⟩ : ∃ z, z = uL g q (vp_updL (pL g q) 0 r5.toInt64) := ⟨_, rfl⟩
    rw [← hg7] at hM
    have ht8 : tg g7 o = 1 := by rw [hg7]; exact hto
    have ht9 : tg g7 q = 34 := by rw [hg7]; exact htq
    have hG : GOK g7 := by rw [hg7]; exact (hG.uL hM0)
    refine lv_goto (tgt := 25) hx hb dL_cut_10 (by decide) ?_
    refine lv_iconst (v := 0) hx hb dL_cut_25 (by decide) ?_
    refine W.widen (k := 1) (n := 6) (Nat.le_of_ble_eq_true rfl) (Nat.le_of_ble_eq_true rfl) ?_
    exact W.iret (v := 0) hx hb hr (fun t ht hW => ⟨⟨0, g7, rfl, (⟨_, by rw [hg7]⟩), CX.give hb0 hM hK hG hE hS ht hW⟩, hS.F ht⟩) hS.2.2 dL_cut_26

set_option maxHeartbeats 4000000 in
set_option maxRecDepth 100000 in
theorem rh_lorries (l : Launch) (hlt : l.stackTraces = false) (dC : Nat → ClassId) (dI : Nat → Nat → Nat) (kA : Nat → ClassId) (eD b : Nat) (g : Gh) (o q : Nat) (p0 : Int32)  (hto : tg g o = 1) (htq : tg g q = 34) : Met l yL_lorries wsL_lorries ({ frames := 7, cells := 1, slots := 6, locals := 103 }) (va_Pc [.ref o, .int p0, .ref q] (CX (dC, dI) kA eD b g)) (va_Qi (fun (r : Int32) (u : Gh) => ∃ f, u = uL g q f) (fun (u : Gh) t => CX (dC, dI) kA eD b u t) (fun q => b ≤ q)) 1 6 (fun q => b ≤ q) := by
  refine va_MetW (cc := cL_lorries) (maxL := 4) (ret := (some .int)) (hh := [(0, 9, 12, 13)]) (by decide +kernel) rfl ?_
  intro p e s m args below meth c s₁ B hml hv
  obtain ⟨rfl, hb0, hM, hK, hG, hE⟩ := hv
  have hx := B.exec
  have hb := B.bytes
  have hr := B.returns
  have hts := atoms_spec (ws := wsL_lorries) B.pre
  have hown : s.vm.findClass RL = some m.cls := findClass_of_methodNamed B.named
  have hlocks := B.notSynchronized
  have htab : c.exceptionTable.toList = tableOf [(0, 9, 12, 13)] := vx_table (x := yL_lorries) B (hts _ List.mem_cons_self)
  have hT := hE.1
  have hN := hE.2.2.2.2.2.2.2.1
  have hS : va_S (fun q => b ≤ q) s.heap s.heap [] := va_S.rf
  have hl := lv_entry ([.ref o, .int p0, .ref q]) (n := 4) (Nat.le_of_ble_eq_true rfl)
  rw [lg_entry_eq]
  generalize (lg_sl ([.ref o, .int p0, .ref q]) ++ List.replicate (4 - (lg_sl ([.ref o, .int p0, .ref q])).length) Slot.unset).toArray = ls at hl ⊢
  have hl : lv_has ls 4 [(0, .ref o), (1, .int p0), (2, .ref q)] := hl
  generalize ([.ref o, .int p0, .ref q] : List Value).toArray = args at hts ⊢
  refine lv_aload_n hx hb dL_lorries_0 rfl (lv_at hl 2 rfl) ?_
  refine lv_iconst (v := 0) hx hb dL_lorries_1 (by decide) ?_
  refine lv_aload_n hx hb dL_lorries_2 rfl (lv_at hl 0 rfl) ?_
  refine lv_iload_n hx hb dL_lorries_3 rfl (lv_at hl 1 rfl) ?_
  obtain ⟨u1, u2, u3, u4, hP, hf⟩ := o_sno (i := 0) (q := o) hM (by omega)
  refine vx_calli (vx_runV (As := [.int p0]) (rest := [.int 0, .ref q]) ⟨hx, hb, hml, hown, hts⟩ (rf_lorries l hlt dC dI kA eD b g o p0 (by omega)) (cwV 1 hts gL_lorries_X3_lorries rfl rfl rfl (by decide +kernel) ⟨Nat.le_of_ble_eq_true rfl, Nat.le_of_ble_eq_true rfl⟩) ⟨fb_CX, va_recv hK hP (ci := 7) (q0 := 0) rfl rfl, fun U hU hW => ⟨rfl, CX.give hb0 hM hK hG hE hS hU hW⟩⟩ rfl rfl hl.1 rfl (lv_room (Nat.le_of_ble_eq_true rfl)) dL_lorries_4 ⟨(Nat.le_of_ble_eq_true rfl), (Nat.le_of_ble_eq_true rfl)⟩) hS (fun q _ h => h) (fun q h => h) (fun q _ h => h) (fun E ce q9 u9 t H locs ht hvm hpx hBX hz1 hk1 hS hcell hvn hcl => ?_) (fun r5 u t H locs ht hvm hw6 hB hz1 hk1 hS => ?_)
  · skip
    have hM : TM (dC, dI) kA b g H := by rw [← ht]; exact hBX.2
    obtain rfl := hBX.1
    refine vx_catch (E := "java/lang/IllegalArgumentException") (name := "java/lang/IllegalArgumentException") hown [] ⟨0, 9, 12, 13⟩ [] (by rw [htab]; rfl) (fun z hz => absurd hz List.not_mem_nil) rfl (by decide) (hts (.classLink RL 13 "java/lang/IllegalArgumentException") (by decide +kernel)) (th_any (a := #[]) rfl (hT.1 (.castable "java/lang/IllegalArgumentException" "java/lang/IllegalArgumentException") (by decide +kernel))) hcell hvn hcl ?_
    refine W.eq (g2 := F0 m 12 ls [.ref q9]) rfl ?_
    refine lv_astore_n (lv' := [(3, .ref q9), (0, .ref o), (1, .int p0), (2, .ref q)]) hx hb dL_lorries_12 rfl hl (by decide) rfl (fun ls hl => ?_)
    refine lv_iconst (v := 1) hx hb dL_lorries_13 (by decide) ?_
    refine W.widen (k := 1) (n := 6) (Nat.le_of_ble_eq_true rfl) (Nat.le_of_ble_eq_true rfl) ?_
    exact W.iret (v := 1) hx hb hr (fun t ht hW => ⟨⟨1, g, rfl, (⟨pL g q, (uL_id rfl).symm⟩), CX.give hb0 hM hK hG hE hS ht hW⟩, hS.F ht⟩) hS.2.2 dL_lorries_14
  · skip
    have hM := hB.back ht
    have hG := hB.2.2.2.1
    refine lv_i2l hx hb dL_lorries_7 rfl ?_
    obtain ⟨hP, hf⟩ := o_ou (i := 0) (q := q) hM (by omega)
    refine rt_last (D := (dC, dI)) (t0 := 3) hx hb hK hP (hM.ge (by omega)) hS rfl (by unfold vp_in; decide) dL_lorries_8 (fun H locs hP hz ho hS => ?_)
    have ec : (0 : Int32).toNatClampNeg = 0 := by decide
    rw [ec] at hP
    have hM0 := hM
    have hM := p_ou (i := 0) (f := vp_updL (pL g q) 0 r5.toInt64) hM (by omega) hP ho hf
    obtain ⟨g7, hg7⟩ : ∃ z, z = uL g q (vp_updL (pL g q) 0 r5.toInt64) := ⟨_, rfl⟩
    rw [← hg7] at hM
    have ht8 : tg g7 o = 1 := by rw [hg7]; exact hto
    have ht9 : tg g7 q = 34 := by rw [hg7]; exact htq
    have hG : GOK g7 := by rw [hg7]; exact (hG.uL hM0)
    refine lv_goto (tgt := 15) hx hb dL_lorries_9 (by decide) ?_
    refine lv_iconst (v := 0) hx hb dL_lorries_15 (by decide) ?_
    refine W.widen (k := 1) (n := 6) (Nat.le_of_ble_eq_true rfl) (Nat.le_of_ble_eq_true rfl) ?_
    exact W.iret (v := 0) hx hb hr (fun t ht hW => ⟨⟨0, g7, rfl, (⟨_, by rw [hg7]⟩), CX.give hb0 hM hK hG hE hS ht hW⟩, hS.F ht⟩) hS.2.2 dL_lorries_16

set_option maxHeartbeats 4000000 in
set_option maxRecDepth 100000 in
theorem rh_site (l : Launch) (hlt : l.stackTraces = false) (dC : Nat → ClassId) (dI : Nat → Nat → Nat) (kA : Nat → ClassId) (eD b : Nat) (g : Gh) (o q : Nat)  (mo : Nat) (hto : tg g o = 1) (htq : tg g q = 34) (hmo : tg g mo = 17) : Met l yL_site wsL_site ({ frames := 7, cells := 9, slots := 399, locals := 102 }) (va_Pc [.ref o, .ref q] (CX (dC, dI) kA eD b g)) (va_Qi (fun (r : Int32) (u : Gh) => (r = 0 ∧ ∃ (rv : Int32) (v8 : Gh), ((∀ a : Nat, tg g a ≠ 0 → tg v8 a = tg g a) ∧ ∃ k a v, k < 3 ∧ pI g o 0 = nI k ∧ Ext mo X0 g v ∧ tg v a = 12 + 64 * k ∧ tg v (pF v a 5) = 16 + 64 * k ∧ tg g a = 0 ∧ pI v a 0 = 0 ∧ (∀ x, pI v (pF v a 5) x = 0) ∧ v8 = sI (uO v (pF g o 2) (va_up (pO v (pF g o 2)) k (some a))) o 0 (nI (k + 1)) ∧ rv = nI k) ∧ u = uL v8 q (vp_updL (pL v8 q) 0 rv.toInt64)) ∨ (r = 1 ∧ (¬ (pI g o 0).toInt < 3) ∧ u = g)) (fun (u : Gh) t => CX (dC, dI) kA eD b u t) (fun q => b ≤ q)) 9 399 (fun q => b ≤ q) := by
  refine va_MetW (cc := cL_site) (maxL := 3) (ret := (some .int)) (hh := [(0, 8, 11, 27)]) (by decide +kernel) rfl ?_
  intro p e s m args below meth c s₁ B hml hv
  obtain ⟨rfl, hb0, hM, hK, hG, hE⟩ := hv
  have hx := B.exec
  have hb := B.bytes
  have hr := B.returns
  have hts := atoms_spec (ws := wsL_site) B.pre
  have hown : s.vm.findClass RL = some m.cls := findClass_of_methodNamed B.named
  have hlocks := B.notSynchronized
  have htab : c.exceptionTable.toList = tableOf [(0, 8, 11, 27)] := vx_table (x := yL_site) B (hts _ List.mem_cons_self)
  have hT := hE.1
  have hN := hE.2.2.2.2.2.2.2.1
  have hS : va_S (fun q => b ≤ q) s.heap s.heap [] := va_S.rf
  have hl := lv_entry ([.ref o, .ref q]) (n := 3) (Nat.le_of_ble_eq_true rfl)
  rw [lg_entry_eq]
  generalize (lg_sl ([.ref o, .ref q]) ++ List.replicate (3 - (lg_sl ([.ref o, .ref q])).length) Slot.unset).toArray = ls at hl ⊢
  have hl : lv_has ls 3 [(0, .ref o), (1, .ref q)] := hl
  generalize ([.ref o, .ref q] : List Value).toArray = args at hts ⊢
  refine lv_aload_n hx hb dL_site_0 rfl (lv_at hl 1 rfl) ?_
  refine lv_iconst (v := 0) hx hb dL_site_1 (by decide) ?_
  refine lv_aload_n hx hb dL_site_2 rfl (lv_at hl 0 rfl) ?_
  obtain ⟨u1, u2, u3, u4, hP, hf⟩ := o_sno (i := 0) (q := o) hM (by omega)
  refine vx_calli (vx_runV (As := []) (rest := [.int 0, .ref q]) ⟨hx, hb, hml, hown, hts⟩ (rf_site l hlt dC dI kA eD b g o mo (by omega) (by omega)) (cwV 0 hts gL_site_X3_site rfl rfl rfl (by decide +kernel) ⟨Nat.le_of_ble_eq_true rfl, Nat.le_of_ble_eq_true rfl⟩) ⟨fb_CX, va_recv hK hP (ci := 7) (q0 := 0) rfl rfl, fun U hU hW => ⟨rfl, CX.give hb0 hM hK hG hE hS hU hW⟩⟩ rfl rfl hl.1 rfl (lv_room (Nat.le_of_ble_eq_true rfl)) dL_site_3 ⟨(Nat.le_of_ble_eq_true rfl), (Nat.le_of_ble_eq_true rfl)⟩) hS (fun q _ h => h) (fun q h => h) (fun q _ h => h) (fun E ce q9 u9 t H locs ht hvm hpx hBX hz1 hk1 hS hcell hvn hcl => ?_) (fun r5 g7 t H locs ht hvm hw6 hB hz1 hk1 hS => ?_)
  · skip
    have hM : TM (dC, dI) kA b g H := by rw [← ht]; exact hBX.2
    obtain ⟨rfl, hno⟩ := hBX.1
    refine vx_catch (E := "java/lang/IllegalStateException") (name := "java/lang/IllegalStateException") hown [] ⟨0, 8, 11, 27⟩ [] (by rw [htab]; rfl) (fun z hz => absurd hz List.not_mem_nil) rfl (by decide) (hts (.classLink RL 27 "java/lang/IllegalStateException") (by decide +kernel)) (th_any (a := #[]) rfl (hT.1 (.castable "java/lang/IllegalStateException" "java/lang/IllegalStateException") (by decide +kernel))) hcell hvn hcl ?_
    refine W.eq (g2 := F0 m 11 ls [.ref q9]) rfl ?_
    refine lv_astore_n (lv' := [(2, .ref q9), (0, .ref o), (1, .ref q)]) hx hb dL_site_11 rfl hl (by decide) rfl (fun ls hl => ?_)
    refine lv_iconst (v := 1) hx hb dL_site_12 (by decide) ?_
    refine W.widen (k := 9) (n := 399) (Nat.le_of_ble_eq_true rfl) (Nat.le_of_ble_eq_true rfl) ?_
    exact W.iret (v := 1) hx hb hr (fun t ht hW => ⟨⟨1, g, rfl, (Or.inr (⟨rfl, hno, rfl⟩)), CX.give hb0 hM hK hG hE hS ht hW⟩, hS.F ht⟩) hS.2.2 dL_site_13
  · skip
    have hM := hB.back ht
    have hG := hB.2.2.2.1
    have hkt : ∀ a : Nat, tg g a ≠ 0 → tg g7 a = tg g a := hw6.1
    have ht8 : tg g7 o = 1 := (hkt o (by omega)).trans hto
    have ht9 : tg g7 q = 34 := (hkt q (by omega)).trans htq
    have ht10 : tg g7 mo = 17 := (hkt mo (by omega)).trans hmo
    refine lv_i2l hx hb dL_site_6 rfl ?_
    obtain ⟨hP, hf⟩ := o_ou (i := 0) (q := q) hM (by omega)
    refine rt_last (D := (dC, dI)) (t0 := 3) hx hb hK hP (hM.ge (by omega)) hS rfl (by unfold vp_in; decide) dL_site_7 (fun H locs hP hz ho hS => ?_)
    have ec : (0 : Int32).toNatClampNeg = 0 := by decide
    rw [ec] at hP
    have hM0 := hM
    have hM := p_ou (i := 0) (f := vp_updL (pL g7 q) 0 r5.toInt64) hM (by omega) hP ho hf
    obtain ⟨g11, hg11⟩ : ∃ z, z = uL g7 q (vp_updL (pL g7 q) 0 r5.toInt64) := ⟨_, rfl⟩
    rw [← hg11] at hM
    have ht12 : tg g11 o = 1 := by rw [hg11]; exact ht8
    have ht13 : tg g11 q = 34 := by rw [hg11]; exact ht9
    have ht14 : tg g11 mo = 17 := by rw [hg11]; exact ht10
    have hG : GOK g11 := by rw [hg11]; exact (hG.uL hM0)
    refine lv_goto (tgt := 14) hx hb dL_site_8 (by decide) ?_
    refine lv_iconst (v := 0) hx hb dL_site_14 (by decide) ?_
    refine W.widen (k := 9) (n := 399) (Nat.le_of_ble_eq_true rfl) (Nat.le_of_ble_eq_true rfl) ?_
    exact W.iret (v := 0) hx hb hr (fun t ht hW => ⟨⟨0, g11, rfl, (Or.inl ⟨rfl, r5, g7, hw6, by rw [hg11]⟩), CX.give hb0 hM hK hG hE hS ht hW⟩, hS.F ht⟩) hS.2.2 dL_site_15

set_option maxHeartbeats 4000000 in
set_option maxRecDepth 100000 in
theorem rh_put (l : Launch) (hlt : l.stackTraces = false) (dC : Nat → ClassId) (dI : Nat → Nat → Nat) (kA : Nat → ClassId) (eD b : Nat) (g : Gh) (o q : Nat) (p0 : Int32) (p1 : Int32) (p2 : Int32) (p3 : Int32)  (hto : tg g o = 1) (htq : tg g q = 34) : Met l yL_put wsL_put ({ frames := 7, cells := 1, slots := 6, locals := 163 }) (va_Pc [.ref o, .int p0, .int p1, .int p2, .int p3, .ref q] (CX (dC, dI) kA eD b g)) (va_Qi (fun (r : Int32) (u : Gh) => ∃ f, u = uL g q f) (fun (u : Gh) t => CX (dC, dI) kA eD b u t) (fun q => b ≤ q)) 1 6 (fun q => b ≤ q) := by
  refine va_MetW (cc := cL_put) (maxL := 7) (ret := (some .int)) (hh := [(0, 14, 17, 54), (0, 14, 21, 13), (0, 14, 25, 15), (0, 14, 29, 27)]) (by decide +kernel) rfl ?_
  intro p e s m args below meth c s₁ B hml hv
  obtain ⟨rfl, hb0, hM, hK, hG, hE⟩ := hv
  have hx := B.exec
  have hb := B.bytes
  have hr := B.returns
  have hts := atoms_spec (ws := wsL_put) B.pre
  have hown : s.vm.findClass RL = some m.cls := findClass_of_methodNamed B.named
  have hlocks := B.notSynchronized
  have htab : c.exceptionTable.toList = tableOf [(0, 14, 17, 54), (0, 14, 21, 13), (0, 14, 25, 15), (0, 14, 29, 27)] := vx_table (x := yL_put) B (hts _ List.mem_cons_self)
  have hT := hE.1
  have hN := hE.2.2.2.2.2.2.2.1
  have hS : va_S (fun q => b ≤ q) s.heap s.heap [] := va_S.rf
  have hl := lv_entry ([.ref o, .int p0, .int p1, .int p2, .int p3, .ref q]) (n := 7) (Nat.le_of_ble_eq_true rfl)
  rw [lg_entry_eq]
  generalize (lg_sl ([.ref o, .int p0, .int p1, .int p2, .int p3, .ref q]) ++ List.replicate (7 - (lg_sl ([.ref o, .int p0, .int p1, .int p2, .int p3, .ref q])).length) Slot.unset).toArray = ls at hl ⊢
  have hl : lv_has ls 7 [(0, .ref o), (1, .int p0), (2, .int p1), (3, .int p2), (4, .int p3), (5, .ref q)] := hl
  generalize ([.ref o, .int p0, .int p1, .int p2, .int p3, .ref q] : List Value).toArray = args at hts ⊢
  refine lv_aload hx hb dL_put_0 (lv_at hl 5 rfl) ?_
  refine lv_iconst (v := 0) hx hb dL_put_2 (by decide) ?_
  refine lv_aload_n hx hb dL_put_3 rfl (lv_at hl 0 rfl) ?_
  refine lv_iload_n hx hb dL_put_4 rfl (lv_at hl 1 rfl) ?_
  refine lv_iload_n hx hb dL_put_5 rfl (lv_at hl 2 rfl) ?_
  refine lv_iload_n hx hb dL_put_6 rfl (lv_at hl 3 rfl) ?_
  refine lv_iload hx hb dL_put_7 (lv_at hl 4 rfl) ?_
  obtain ⟨u1, u2, u3, u4, hP, hf⟩ := o_sno (i := 0) (q := o) hM (by omega)
  refine vx_calli (vx_runV (As := [.int p0, .int p1, .int p2, .int p3]) (rest := [.int 0, .ref q]) ⟨hx, hb, hml, hown, hts⟩ (rf_put l hlt dC dI kA eD b g o p0 p1 p2 p3 (by omega)) (cwV 4 hts gL_put_X3_put rfl rfl rfl (by decide +kernel) ⟨Nat.le_of_ble_eq_true rfl, Nat.le_of_ble_eq_true rfl⟩) ⟨fb_CX, va_recv hK hP (ci := 7) (q0 := 0) rfl rfl, fun U hU hW => ⟨rfl, CX.give hb0 hM hK hG hE hS hU hW⟩⟩ rfl rfl hl.1 rfl (lv_room (Nat.le_of_ble_eq_true rfl)) dL_put_9 ⟨(Nat.le_of_ble_eq_true rfl), (Nat.le_of_ble_eq_true rfl)⟩) hS (fun q _ h => h) (fun q h => h) (fun q _ h => h) (fun E ce q9 u9 t H locs ht hvm hpx hBX hz1 hk1 hS hcell hvn hcl => ?_) (fun r5 u t H locs ht hvm hw6 hB hz1 hk1 hS => ?_)
  · skip
    have hM : TM (dC, dI) kA b g H := by rw [← ht]; exact hBX.2
    rcases hBX.1 with rfl | rfl | rfl | rfl
    · skip
      refine vx_catch (E := "java/lang/IndexOutOfBoundsException") (name := "java/lang/IndexOutOfBoundsException") hown [] ⟨0, 14, 17, 54⟩ [⟨0, 14, 21, 13⟩, ⟨0, 14, 25, 15⟩, ⟨0, 14, 29, 27⟩] (by rw [htab]; rfl) (fun z hz => absurd hz List.not_mem_nil) rfl (by decide) (hts (.classLink RL 54 "java/lang/IndexOutOfBoundsException") (by decide +kernel)) (th_any (a := #[]) rfl (hT.1 (.castable "java/lang/IndexOutOfBoundsException" "java/lang/IndexOutOfBoundsException") (by decide +kernel))) hcell hvn hcl ?_
      refine W.eq (g2 := F0 m 17 ls [.ref q9]) rfl ?_
      refine lv_astore (lv' := [(6, .ref q9), (0, .ref o), (1, .int p0), (2, .int p1), (3, .int p2), (4, .int p3), (5, .ref q)]) hx hb dL_put_17 hl (by decide) rfl (fun ls hl => ?_)
      refine lv_iconst (v := 1) hx hb dL_put_19 (by decide) ?_
      refine W.widen (k := 1) (n := 6) (Nat.le_of_ble_eq_true rfl) (Nat.le_of_ble_eq_true rfl) ?_
      exact W.iret (v := 1) hx hb hr (fun t ht hW => ⟨⟨1, g, rfl, (⟨pL g q, (uL_id rfl).symm⟩), CX.give hb0 hM hK hG hE hS ht hW⟩, hS.F ht⟩) hS.2.2 dL_put_20
    · skip
      refine vx_catch (E := "java/lang/IllegalArgumentException") (name := "java/lang/IllegalArgumentException") hown [⟨0, 14, 17, 54⟩] ⟨0, 14, 21, 13⟩ [⟨0, 14, 25, 15⟩, ⟨0, 14, 29, 27⟩] (by rw [htab]; rfl) (fun z hz => by rcases List.mem_singleton.mp hz with rfl; exact Or.inr ⟨by decide, _, hts (.classLink RL 54 "java/lang/IndexOutOfBoundsException") (by decide +kernel), hT.2.2.1 ("java/lang/IllegalArgumentException", "java/lang/IndexOutOfBoundsException") (by decide +kernel)⟩) rfl (by decide) (hts (.classLink RL 13 "java/lang/IllegalArgumentException") (by decide +kernel)) (th_any (a := #[]) rfl (hT.1 (.castable "java/lang/IllegalArgumentException" "java/lang/IllegalArgumentException") (by decide +kernel))) hcell hvn hcl ?_
      refine W.eq (g2 := F0 m 21 ls [.ref q9]) rfl ?_
      refine lv_astore (lv' := [(6, .ref q9), (0, .ref o), (1, .int p0), (2, .int p1), (3, .int p2), (4, .int p3), (5, .ref q)]) hx hb dL_put_21 hl (by decide) rfl (fun ls hl => ?_)
      refine lv_iconst (v := 2) hx hb dL_put_23 (by decide) ?_
      refine W.widen (k := 1) (n := 6) (Nat.le_of_ble_eq_true rfl) (Nat.le_of_ble_eq_true rfl) ?_
      exact W.iret (v := 2) hx hb hr (fun t ht hW => ⟨⟨2, g, rfl, (⟨pL g q, (uL_id rfl).symm⟩), CX.give hb0 hM hK hG hE hS ht hW⟩, hS.F ht⟩) hS.2.2 dL_put_24
    · skip
      refine vx_catch (E := "java/lang/UnsupportedOperationException") (name := "java/lang/UnsupportedOperationException") hown [⟨0, 14, 17, 54⟩, ⟨0, 14, 21, 13⟩] ⟨0, 14, 25, 15⟩ [⟨0, 14, 29, 27⟩] (by rw [htab]; rfl) (fun z hz => by simp only [List.mem_cons, List.not_mem_nil, or_false] at hz; rcases hz with rfl | rfl <;> first | exact Or.inr ⟨by decide, _, hts (.classLink RL 54 "java/lang/IndexOutOfBoundsException") (by decide +kernel), hT.2.2.1 ("java/lang/UnsupportedOperationException", "java/lang/IndexOutOfBoundsException") (by decide +kernel)⟩ | exact Or.inr ⟨by decide, _, hts (.classLink RL 13 "java/lang/IllegalArgumentException") (by decide +kernel), hT.2.2.1 ("java/lang/UnsupportedOperationException", "java/lang/IllegalArgumentException") (by decide +kernel)⟩) rfl (by decide) (hts (.classLink RL 15 "java/lang/UnsupportedOperationException") (by decide +kernel)) (th_any (a := #[]) rfl (hT.1 (.castable "java/lang/UnsupportedOperationException" "java/lang/UnsupportedOperationException") (by decide +kernel))) hcell hvn hcl ?_
      refine W.eq (g2 := F0 m 25 ls [.ref q9]) rfl ?_
      refine lv_astore (lv' := [(6, .ref q9), (0, .ref o), (1, .int p0), (2, .int p1), (3, .int p2), (4, .int p3), (5, .ref q)]) hx hb dL_put_25 hl (by decide) rfl (fun ls hl => ?_)
      refine lv_iconst (v := 3) hx hb dL_put_27 (by decide) ?_
      refine W.widen (k := 1) (n := 6) (Nat.le_of_ble_eq_true rfl) (Nat.le_of_ble_eq_true rfl) ?_
      exact W.iret (v := 3) hx hb hr (fun t ht hW => ⟨⟨3, g, rfl, (⟨pL g q, (uL_id rfl).symm⟩), CX.give hb0 hM hK hG hE hS ht hW⟩, hS.F ht⟩) hS.2.2 dL_put_28
    · skip
      refine vx_catch (E := "java/lang/IllegalStateException") (name := "java/lang/IllegalStateException") hown [⟨0, 14, 17, 54⟩, ⟨0, 14, 21, 13⟩, ⟨0, 14, 25, 15⟩] ⟨0, 14, 29, 27⟩ [] (by rw [htab]; rfl) (fun z hz => by simp only [List.mem_cons, List.not_mem_nil, or_false] at hz; rcases hz with rfl | rfl | rfl <;> first | exact Or.inr ⟨by decide, _, hts (.classLink RL 54 "java/lang/IndexOutOfBoundsException") (by decide +kernel), hT.2.2.1 ("java/lang/IllegalStateException", "java/lang/IndexOutOfBoundsException") (by decide +kernel)⟩ | exact Or.inr ⟨by decide, _, hts (.classLink RL 13 "java/lang/IllegalArgumentException") (by decide +kernel), hT.2.2.1 ("java/lang/IllegalStateException", "java/lang/IllegalArgumentException") (by decide +kernel)⟩ | exact Or.inr ⟨by decide, _, hts (.classLink RL 15 "java/lang/UnsupportedOperationException") (by decide +kernel), hT.2.2.1 ("java/lang/IllegalStateException", "java/lang/UnsupportedOperationException") (by decide +kernel)⟩) rfl (by decide) (hts (.classLink RL 27 "java/lang/IllegalStateException") (by decide +kernel)) (th_any (a := #[]) rfl (hT.1 (.castable "java/lang/IllegalStateException" "java/lang/IllegalStateException") (by decide +kernel))) hcell hvn hcl ?_
      refine W.eq (g2 := F0 m 29 ls [.ref q9]) rfl ?_
      refine lv_astore (lv' := [(6, .ref q9), (0, .ref o), (1, .int p0), (2, .int p1), (3, .int p2), (4, .int p3), (5, .ref q)]) hx hb dL_put_29 hl (by decide) rfl (fun ls hl => ?_)
      refine lv_iconst (v := 4) hx hb dL_put_31 (by decide) ?_
      refine W.widen (k := 1) (n := 6) (Nat.le_of_ble_eq_true rfl) (Nat.le_of_ble_eq_true rfl) ?_
      exact W.iret (v := 4) hx hb hr (fun t ht hW => ⟨⟨4, g, rfl, (⟨pL g q, (uL_id rfl).symm⟩), CX.give hb0 hM hK hG hE hS ht hW⟩, hS.F ht⟩) hS.2.2 dL_put_32
  · skip
    have hM := hB.back ht
    have hG := hB.2.2.2.1
    refine lv_i2l hx hb dL_put_12 rfl ?_
    obtain ⟨hP, hf⟩ := o_ou (i := 0) (q := q) hM (by omega)
    refine rt_last (D := (dC, dI)) (t0 := 3) hx hb hK hP (hM.ge (by omega)) hS rfl (by unfold vp_in; decide) dL_put_13 (fun H locs hP hz ho hS => ?_)
    have ec : (0 : Int32).toNatClampNeg = 0 := by decide
    rw [ec] at hP
    have hM0 := hM
    have hM := p_ou (i := 0) (f := vp_updL (pL g q) 0 r5.toInt64) hM (by omega) hP ho hf
    obtain ⟨g7, hg7⟩ : ∃ z, z = uL g q (vp_updL (pL g q) 0 r5.toInt64) := ⟨_, rfl⟩
    rw [← hg7] at hM
    have ht8 : tg g7 o = 1 := by rw [hg7]; exact hto
    have ht9 : tg g7 q = 34 := by rw [hg7]; exact htq
    have hG : GOK g7 := by rw [hg7]; exact (hG.uL hM0)
    refine lv_goto (tgt := 33) hx hb dL_put_14 (by decide) ?_
    refine lv_iconst (v := 0) hx hb dL_put_33 (by decide) ?_
    refine W.widen (k := 1) (n := 6) (Nat.le_of_ble_eq_true rfl) (Nat.le_of_ble_eq_true rfl) ?_
    exact W.iret (v := 0) hx hb hr (fun t ht hW => ⟨⟨0, g7, rfl, (⟨_, by rw [hg7]⟩), CX.give hb0 hM hK hG hE hS ht hW⟩, hS.F ht⟩) hS.2.2 dL_put_34

set_option maxHeartbeats 4000000 in
set_option maxRecDepth 100000 in
theorem rh_at (l : Launch) (hlt : l.stackTraces = false) (dC : Nat → ClassId) (dI : Nat → Nat → Nat) (kA : Nat → ClassId) (eD b : Nat) (g : Gh) (o q : Nat) (p0 : Int32) (p1 : Int32) (p2 : Int32)  (hto : tg g o = 1) (htq : tg g q = 34) : Met l yL_at wsL_at ({ frames := 7, cells := 1, slots := 6, locals := 106 }) (va_Pc [.ref o, .int p0, .int p1, .int p2, .ref q] (CX (dC, dI) kA eD b g)) (va_Qi (fun (r : Int32) (u : Gh) => ∃ f, u = uL g q f) (fun (u : Gh) t => CX (dC, dI) kA eD b u t) (fun q => b ≤ q)) 1 6 (fun q => b ≤ q) := by
  refine va_MetW (cc := cL_at) (maxL := 6) (ret := (some .int)) (hh := [(0, 12, 15, 54)]) (by decide +kernel) rfl ?_
  intro p e s m args below meth c s₁ B hml hv
  obtain ⟨rfl, hb0, hM, hK, hG, hE⟩ := hv
  have hx := B.exec
  have hb := B.bytes
  have hr := B.returns
  have hts := atoms_spec (ws := wsL_at) B.pre
  have hown : s.vm.findClass RL = some m.cls := findClass_of_methodNamed B.named
  have hlocks := B.notSynchronized
  have htab : c.exceptionTable.toList = tableOf [(0, 12, 15, 54)] := vx_table (x := yL_at) B (hts _ List.mem_cons_self)
  have hT := hE.1
  have hN := hE.2.2.2.2.2.2.2.1
  have hS : va_S (fun q => b ≤ q) s.heap s.heap [] := va_S.rf
  have hl := lv_entry ([.ref o, .int p0, .int p1, .int p2, .ref q]) (n := 6) (Nat.le_of_ble_eq_true rfl)
  rw [lg_entry_eq]
  generalize (lg_sl ([.ref o, .int p0, .int p1, .int p2, .ref q]) ++ List.replicate (6 - (lg_sl ([.ref o, .int p0, .int p1, .int p2, .ref q])).length) Slot.unset).toArray = ls at hl ⊢
  have hl : lv_has ls 6 [(0, .ref o), (1, .int p0), (2, .int p1), (3, .int p2), (4, .ref q)] := hl
  generalize ([.ref o, .int p0, .int p1, .int p2, .ref q] : List Value).toArray = args at hts ⊢
  refine lv_aload hx hb dL_at_0 (lv_at hl 4 rfl) ?_
  refine lv_iconst (v := 0) hx hb dL_at_2 (by decide) ?_
  refine lv_aload_n hx hb dL_at_3 rfl (lv_at hl 0 rfl) ?_
  refine lv_iload_n hx hb dL_at_4 rfl (lv_at hl 1 rfl) ?_
  refine lv_iload_n hx hb dL_at_5 rfl (lv_at hl 2 rfl) ?_
  refine lv_iload_n hx hb dL_at_6 rfl (lv_at hl 3 rfl) ?_
  obtain ⟨u1, u2, u3, u4, hP, hf⟩ := o_sno (i := 0) (q := o) hM (by omega)
  refine vx_calli (vx_runV (As := [.int p0, .int p1, .int p2]) (rest := [.int 0, .ref q]) ⟨hx, hb, hml, hown, hts⟩ (rf_at l hlt dC dI kA eD b g o p0 p1 p2 (by omega)) (cwV 3 hts gL_at_X3_at rfl rfl rfl (by decide +kernel) ⟨Nat.le_of_ble_eq_true rfl, Nat.le_of_ble_eq_true rfl⟩) ⟨fb_CX, va_recv hK hP (ci := 7) (q0 := 0) rfl rfl, fun U hU hW => ⟨rfl, CX.give hb0 hM hK hG hE hS hU hW⟩⟩ rfl rfl hl.1 rfl (lv_room (Nat.le_of_ble_eq_true rfl)) dL_at_7 ⟨(Nat.le_of_ble_eq_true rfl), (Nat.le_of_ble_eq_true rfl)⟩) hS (fun q _ h => h) (fun q h => h) (fun q _ h => h) (fun E ce q9 u9 t H locs ht hvm hpx hBX hz1 hk1 hS hcell hvn hcl => ?_) (fun r5 u t H locs ht hvm hw6 hB hz1 hk1 hS => ?_)
  · skip
    have hM : TM (dC, dI) kA b g H := by rw [← ht]; exact hBX.2
    obtain rfl := hBX.1
    refine vx_catch (E := "java/lang/IndexOutOfBoundsException") (name := "java/lang/IndexOutOfBoundsException") hown [] ⟨0, 12, 15, 54⟩ [] (by rw [htab]; rfl) (fun z hz => absurd hz List.not_mem_nil) rfl (by decide) (hts (.classLink RL 54 "java/lang/IndexOutOfBoundsException") (by decide +kernel)) (th_any (a := #[]) rfl (hT.1 (.castable "java/lang/IndexOutOfBoundsException" "java/lang/IndexOutOfBoundsException") (by decide +kernel))) hcell hvn hcl ?_
    refine W.eq (g2 := F0 m 15 ls [.ref q9]) rfl ?_
    refine lv_astore (lv' := [(5, .ref q9), (0, .ref o), (1, .int p0), (2, .int p1), (3, .int p2), (4, .ref q)]) hx hb dL_at_15 hl (by decide) rfl (fun ls hl => ?_)
    refine lv_iconst (v := 1) hx hb dL_at_17 (by decide) ?_
    refine W.widen (k := 1) (n := 6) (Nat.le_of_ble_eq_true rfl) (Nat.le_of_ble_eq_true rfl) ?_
    exact W.iret (v := 1) hx hb hr (fun t ht hW => ⟨⟨1, g, rfl, (⟨pL g q, (uL_id rfl).symm⟩), CX.give hb0 hM hK hG hE hS ht hW⟩, hS.F ht⟩) hS.2.2 dL_at_18
  · skip
    have hM := hB.back ht
    have hG := hB.2.2.2.1
    refine lv_i2l hx hb dL_at_10 rfl ?_
    obtain ⟨hP, hf⟩ := o_ou (i := 0) (q := q) hM (by omega)
    refine rt_last (D := (dC, dI)) (t0 := 3) hx hb hK hP (hM.ge (by omega)) hS rfl (by unfold vp_in; decide) dL_at_11 (fun H locs hP hz ho hS => ?_)
    have ec : (0 : Int32).toNatClampNeg = 0 := by decide
    rw [ec] at hP
    have hM0 := hM
    have hM := p_ou (i := 0) (f := vp_updL (pL g q) 0 r5.toInt64) hM (by omega) hP ho hf
    obtain ⟨g7, hg7⟩ : ∃ z, z = uL g q (vp_updL (pL g q) 0 r5.toInt64) := ⟨_, rfl⟩
    rw [← hg7] at hM
    have ht8 : tg g7 o = 1 := by rw [hg7]; exact hto
    have ht9 : tg g7 q = 34 := by rw [hg7]; exact htq
    have hG : GOK g7 := by rw [hg7]; exact (hG.uL hM0)
    refine lv_goto (tgt := 19) hx hb dL_at_12 (by decide) ?_
    refine lv_iconst (v := 0) hx hb dL_at_19 (by decide) ?_
    refine W.widen (k := 1) (n := 6) (Nat.le_of_ble_eq_true rfl) (Nat.le_of_ble_eq_true rfl) ?_
    exact W.iret (v := 0) hx hb hr (fun t ht hW => ⟨⟨0, g7, rfl, (⟨_, by rw [hg7]⟩), CX.give hb0 hM hK hG hE hS ht hW⟩, hS.F ht⟩) hS.2.2 dL_at_20

set_option maxHeartbeats 4000000 in
set_option maxRecDepth 100000 in
theorem rh_mass (l : Launch) (hlt : l.stackTraces = false) (dC : Nat → ClassId) (dI : Nat → Nat → Nat) (kA : Nat → ClassId) (eD b : Nat) (g : Gh) (o q : Nat) (p0 : Int32) (p1 : Int32) (p2 : Int32)  (hto : tg g o = 1) (htq : tg g q = 34) : Met l yL_mass wzL_mass ({ frames := 7, cells := 1, slots := 6, locals := 106 }) (va_Pc [.ref o, .int p0, .int p1, .int p2, .ref q] (CX (dC, dI) kA eD b g)) (va_Qi (fun (r : Int32) (u : Gh) => ∃ f, u = uL g q f) (fun (u : Gh) t => CX (dC, dI) kA eD b u t) (fun q => b ≤ q)) 1 6 (fun q => b ≤ q) := by
  refine va_MetW (cc := cL_mass) (maxL := 6) (ret := (some .int)) (hh := [(0, 12, 15, 54), (0, 12, 19, 64)]) (by decide +kernel) rfl ?_
  intro p e s m args below meth c s₁ B hml hv
  obtain ⟨rfl, hb0, hM, hK, hG, hE⟩ := hv
  have hx := B.exec
  have hb := B.bytes
  have hr := B.returns
  have hts := atoms_spec (ws := wzL_mass) B.pre
  have hown : s.vm.findClass RL = some m.cls := findClass_of_methodNamed B.named
  have hlocks := B.notSynchronized
  have htab : c.exceptionTable.toList = tableOf [(0, 12, 15, 54), (0, 12, 19, 64)] := vx_table (x := yL_mass) B (hts _ List.mem_cons_self)
  have hT := hE.1
  have hN := hE.2.2.2.2.2.2.2.1
  have hS : va_S (fun q => b ≤ q) s.heap s.heap [] := va_S.rf
  have hl := lv_entry ([.ref o, .int p0, .int p1, .int p2, .ref q]) (n := 6) (Nat.le_of_ble_eq_true rfl)
  rw [lg_entry_eq]
  generalize (lg_sl ([.ref o, .int p0, .int p1, .int p2, .ref q]) ++ List.replicate (6 - (lg_sl ([.ref o, .int p0, .int p1, .int p2, .ref q])).length) Slot.unset).toArray = ls at hl ⊢
  have hl : lv_has ls 6 [(0, .ref o), (1, .int p0), (2, .int p1), (3, .int p2), (4, .ref q)] := hl
  generalize ([.ref o, .int p0, .int p1, .int p2, .ref q] : List Value).toArray = args at hts ⊢
  refine lv_aload hx hb dL_mass_0 (lv_at hl 4 rfl) ?_
  refine lv_iconst (v := 0) hx hb dL_mass_2 (by decide) ?_
  refine lv_aload_n hx hb dL_mass_3 rfl (lv_at hl 0 rfl) ?_
  refine lv_iload_n hx hb dL_mass_4 rfl (lv_at hl 1 rfl) ?_
  refine lv_iload_n hx hb dL_mass_5 rfl (lv_at hl 2 rfl) ?_
  refine lv_iload_n hx hb dL_mass_6 rfl (lv_at hl 3 rfl) ?_
  obtain ⟨u1, u2, u3, u4, hP, hf⟩ := o_sno (i := 0) (q := o) hM (by omega)
  refine vx_calli (vx_runV (As := [.int p0, .int p1, .int p2]) (rest := [.int 0, .ref q]) ⟨hx, hb, hml, hown, hts⟩ (rf_mass l hlt dC dI kA eD b g o p0 p1 p2 (by omega)) (cwV 3 hts gL_mass_X3_mass rfl rfl rfl (by decide +kernel) ⟨Nat.le_of_ble_eq_true rfl, Nat.le_of_ble_eq_true rfl⟩) ⟨fb_CX, va_recv hK hP (ci := 7) (q0 := 0) rfl rfl, fun U hU hW => ⟨rfl, CX.give hb0 hM hK hG hE hS hU hW⟩⟩ rfl rfl hl.1 rfl (lv_room (Nat.le_of_ble_eq_true rfl)) dL_mass_7 ⟨(Nat.le_of_ble_eq_true rfl), (Nat.le_of_ble_eq_true rfl)⟩) hS (fun q _ h => h) (fun q h => h) (fun q _ h => h) (fun E ce q9 u9 t H locs ht hvm hpx hBX hz1 hk1 hS hcell hvn hcl => ?_) (fun r5 u t H locs ht hvm hw6 hB hz1 hk1 hS => ?_)
  · skip
    have hM : TM (dC, dI) kA b g H := by rw [← ht]; exact hBX.2
    rcases hBX.1 with rfl | rfl
    · skip
      refine vx_catch (E := "java/lang/IndexOutOfBoundsException") (name := "java/lang/IndexOutOfBoundsException") hown [] ⟨0, 12, 15, 54⟩ [⟨0, 12, 19, 64⟩] (by rw [htab]; rfl) (fun z hz => absurd hz List.not_mem_nil) rfl (by decide) (hts (.classLink RL 54 "java/lang/IndexOutOfBoundsException") (by decide +kernel)) (th_any (a := #[]) rfl (hT.1 (.castable "java/lang/IndexOutOfBoundsException" "java/lang/IndexOutOfBoundsException") (by decide +kernel))) hcell hvn hcl ?_
      refine W.eq (g2 := F0 m 15 ls [.ref q9]) rfl ?_
      refine lv_astore (lv' := [(5, .ref q9), (0, .ref o), (1, .int p0), (2, .int p1), (3, .int p2), (4, .ref q)]) hx hb dL_mass_15 hl (by decide) rfl (fun ls hl => ?_)
      refine lv_iconst (v := 1) hx hb dL_mass_17 (by decide) ?_
      refine W.widen (k := 1) (n := 6) (Nat.le_of_ble_eq_true rfl) (Nat.le_of_ble_eq_true rfl) ?_
      exact W.iret (v := 1) hx hb hr (fun t ht hW => ⟨⟨1, g, rfl, (⟨pL g q, (uL_id rfl).symm⟩), CX.give hb0 hM hK hG hE hS ht hW⟩, hS.F ht⟩) hS.2.2 dL_mass_18
    · skip
      refine vx_catch (E := "java/util/NoSuchElementException") (name := "java/util/NoSuchElementException") hown [⟨0, 12, 15, 54⟩] ⟨0, 12, 19, 64⟩ [] (by rw [htab]; rfl) (fun z hz => by rcases List.mem_singleton.mp hz with rfl; exact Or.inr ⟨by decide, _, hts (.classLink RL 54 "java/lang/IndexOutOfBoundsException") (by decide +kernel), hT.2.2.1 ("java/util/NoSuchElementException", "java/lang/IndexOutOfBoundsException") (by decide +kernel)⟩) rfl (by decide) (hts (.classLink RL 64 "java/util/NoSuchElementException") (by decide +kernel)) (th_any (a := #[]) rfl (hT.1 (.castable "java/util/NoSuchElementException" "java/util/NoSuchElementException") (by decide +kernel))) hcell hvn hcl ?_
      refine W.eq (g2 := F0 m 19 ls [.ref q9]) rfl ?_
      refine lv_astore (lv' := [(5, .ref q9), (0, .ref o), (1, .int p0), (2, .int p1), (3, .int p2), (4, .ref q)]) hx hb dL_mass_19 hl (by decide) rfl (fun ls hl => ?_)
      refine lv_iconst (v := 2) hx hb dL_mass_21 (by decide) ?_
      refine W.widen (k := 1) (n := 6) (Nat.le_of_ble_eq_true rfl) (Nat.le_of_ble_eq_true rfl) ?_
      exact W.iret (v := 2) hx hb hr (fun t ht hW => ⟨⟨2, g, rfl, (⟨pL g q, (uL_id rfl).symm⟩), CX.give hb0 hM hK hG hE hS ht hW⟩, hS.F ht⟩) hS.2.2 dL_mass_22
  · skip
    have hM := hB.back ht
    have hG := hB.2.2.2.1
    refine lv_i2l hx hb dL_mass_10 rfl ?_
    obtain ⟨hP, hf⟩ := o_ou (i := 0) (q := q) hM (by omega)
    refine rt_last (D := (dC, dI)) (t0 := 3) hx hb hK hP (hM.ge (by omega)) hS rfl (by unfold vp_in; decide) dL_mass_11 (fun H locs hP hz ho hS => ?_)
    have ec : (0 : Int32).toNatClampNeg = 0 := by decide
    rw [ec] at hP
    have hM0 := hM
    have hM := p_ou (i := 0) (f := vp_updL (pL g q) 0 r5.toInt64) hM (by omega) hP ho hf
    obtain ⟨g7, hg7⟩ : ∃ z, z = uL g q (vp_updL (pL g q) 0 r5.toInt64) := ⟨_, rfl⟩
    rw [← hg7] at hM
    have ht8 : tg g7 o = 1 := by rw [hg7]; exact hto
    have ht9 : tg g7 q = 34 := by rw [hg7]; exact htq
    have hG : GOK g7 := by rw [hg7]; exact (hG.uL hM0)
    refine lv_goto (tgt := 23) hx hb dL_mass_12 (by decide) ?_
    refine lv_iconst (v := 0) hx hb dL_mass_23 (by decide) ?_
    refine W.widen (k := 1) (n := 6) (Nat.le_of_ble_eq_true rfl) (Nat.le_of_ble_eq_true rfl) ?_
    exact W.iret (v := 0) hx hb hr (fun t ht hW => ⟨⟨0, g7, rfl, (⟨_, by rw [hg7]⟩), CX.give hb0 hM hK hG hE hS ht hW⟩, hS.F ht⟩) hS.2.2 dL_mass_24

set_option maxHeartbeats 4000000 in
set_option maxRecDepth 100000 in
theorem rh_load (l : Launch) (hlt : l.stackTraces = false) (dC : Nat → ClassId) (dI : Nat → Nat → Nat) (kA : Nat → ClassId) (eD b : Nat) (g : Gh) (o q : Nat) (p0 : Int32) (p1 : Int32) (p2 : Int32)  (hto : tg g o = 1) (htq : tg g q = 34) : Met l yL_load wzL_load ({ frames := 7, cells := 1, slots := 6, locals := 106 }) (va_Pc [.ref o, .int p0, .int p1, .int p2, .ref q] (CX (dC, dI) kA eD b g)) (va_Qi (fun (r : Int32) (u : Gh) => ∃ f, u = uL g q f) (fun (u : Gh) t => CX (dC, dI) kA eD b u t) (fun q => b ≤ q)) 1 6 (fun q => b ≤ q) := by
  refine va_MetW (cc := cL_load) (maxL := 6) (ret := (some .int)) (hh := [(0, 12, 15, 54), (0, 12, 19, 64)]) (by decide +kernel) rfl ?_
  intro p e s m args below meth c s₁ B hml hv
  obtain ⟨rfl, hb0, hM, hK, hG, hE⟩ := hv
  have hx := B.exec
  have hb := B.bytes
  have hr := B.returns
  have hts := atoms_spec (ws := wzL_load) B.pre
  have hown : s.vm.findClass RL = some m.cls := findClass_of_methodNamed B.named
  have hlocks := B.notSynchronized
  have htab : c.exceptionTable.toList = tableOf [(0, 12, 15, 54), (0, 12, 19, 64)] := vx_table (x := yL_load) B (hts _ List.mem_cons_self)
  have hT := hE.1
  have hN := hE.2.2.2.2.2.2.2.1
  have hS : va_S (fun q => b ≤ q) s.heap s.heap [] := va_S.rf
  have hl := lv_entry ([.ref o, .int p0, .int p1, .int p2, .ref q]) (n := 6) (Nat.le_of_ble_eq_true rfl)
  rw [lg_entry_eq]
  generalize (lg_sl ([.ref o, .int p0, .int p1, .int p2, .ref q]) ++ List.replicate (6 - (lg_sl ([.ref o, .int p0, .int p1, .int p2, .ref q])).length) Slot.unset).toArray = ls at hl ⊢
  have hl : lv_has ls 6 [(0, .ref o), (1, .int p0), (2, .int p1), (3, .int p2), (4, .ref q)] := hl
  generalize ([.ref o, .int p0, .int p1, .int p2, .ref q] : List Value).toArray = args at hts ⊢
  refine lv_aload hx hb dL_load_0 (lv_at hl 4 rfl) ?_
  refine lv_iconst (v := 0) hx hb dL_load_2 (by decide) ?_
  refine lv_aload_n hx hb dL_load_3 rfl (lv_at hl 0 rfl) ?_
  refine lv_iload_n hx hb dL_load_4 rfl (lv_at hl 1 rfl) ?_
  refine lv_iload_n hx hb dL_load_5 rfl (lv_at hl 2 rfl) ?_
  refine lv_iload_n hx hb dL_load_6 rfl (lv_at hl 3 rfl) ?_
  obtain ⟨u1, u2, u3, u4, hP, hf⟩ := o_sno (i := 0) (q := o) hM (by omega)
  refine vx_calli (vx_runV (As := [.int p0, .int p1, .int p2]) (rest := [.int 0, .ref q]) ⟨hx, hb, hml, hown, hts⟩ (rf_load l hlt dC dI kA eD b g o p0 p1 p2 (by omega)) (cwV 3 hts gL_load_X3_load rfl rfl rfl (by decide +kernel) ⟨Nat.le_of_ble_eq_true rfl, Nat.le_of_ble_eq_true rfl⟩) ⟨fb_CX, va_recv hK hP (ci := 7) (q0 := 0) rfl rfl, fun U hU hW => ⟨rfl, CX.give hb0 hM hK hG hE hS hU hW⟩⟩ rfl rfl hl.1 rfl (lv_room (Nat.le_of_ble_eq_true rfl)) dL_load_7 ⟨(Nat.le_of_ble_eq_true rfl), (Nat.le_of_ble_eq_true rfl)⟩) hS (fun q _ h => h) (fun q h => h) (fun q _ h => h) (fun E ce q9 u9 t H locs ht hvm hpx hBX hz1 hk1 hS hcell hvn hcl => ?_) (fun r5 u t H locs ht hvm hw6 hB hz1 hk1 hS => ?_)
  · skip
    have hM : TM (dC, dI) kA b g H := by rw [← ht]; exact hBX.2
    rcases hBX.1 with rfl | rfl
    · skip
      refine vx_catch (E := "java/lang/IndexOutOfBoundsException") (name := "java/lang/IndexOutOfBoundsException") hown [] ⟨0, 12, 15, 54⟩ [⟨0, 12, 19, 64⟩] (by rw [htab]; rfl) (fun z hz => absurd hz List.not_mem_nil) rfl (by decide) (hts (.classLink RL 54 "java/lang/IndexOutOfBoundsException") (by decide +kernel)) (th_any (a := #[]) rfl (hT.1 (.castable "java/lang/IndexOutOfBoundsException" "java/lang/IndexOutOfBoundsException") (by decide +kernel))) hcell hvn hcl ?_
      refine W.eq (g2 := F0 m 15 ls [.ref q9]) rfl ?_
      refine lv_astore (lv' := [(5, .ref q9), (0, .ref o), (1, .int p0), (2, .int p1), (3, .int p2), (4, .ref q)]) hx hb dL_load_15 hl (by decide) rfl (fun ls hl => ?_)
      refine lv_iconst (v := 1) hx hb dL_load_17 (by decide) ?_
      refine W.widen (k := 1) (n := 6) (Nat.le_of_ble_eq_true rfl) (Nat.le_of_ble_eq_true rfl) ?_
      exact W.iret (v := 1) hx hb hr (fun t ht hW => ⟨⟨1, g, rfl, (⟨pL g q, (uL_id rfl).symm⟩), CX.give hb0 hM hK hG hE hS ht hW⟩, hS.F ht⟩) hS.2.2 dL_load_18
    · skip
      refine vx_catch (E := "java/util/NoSuchElementException") (name := "java/util/NoSuchElementException") hown [⟨0, 12, 15, 54⟩] ⟨0, 12, 19, 64⟩ [] (by rw [htab]; rfl) (fun z hz => by rcases List.mem_singleton.mp hz with rfl; exact Or.inr ⟨by decide, _, hts (.classLink RL 54 "java/lang/IndexOutOfBoundsException") (by decide +kernel), hT.2.2.1 ("java/util/NoSuchElementException", "java/lang/IndexOutOfBoundsException") (by decide +kernel)⟩) rfl (by decide) (hts (.classLink RL 64 "java/util/NoSuchElementException") (by decide +kernel)) (th_any (a := #[]) rfl (hT.1 (.castable "java/util/NoSuchElementException" "java/util/NoSuchElementException") (by decide +kernel))) hcell hvn hcl ?_
      refine W.eq (g2 := F0 m 19 ls [.ref q9]) rfl ?_
      refine lv_astore (lv' := [(5, .ref q9), (0, .ref o), (1, .int p0), (2, .int p1), (3, .int p2), (4, .ref q)]) hx hb dL_load_19 hl (by decide) rfl (fun ls hl => ?_)
      refine lv_iconst (v := 2) hx hb dL_load_21 (by decide) ?_
      refine W.widen (k := 1) (n := 6) (Nat.le_of_ble_eq_true rfl) (Nat.le_of_ble_eq_true rfl) ?_
      exact W.iret (v := 2) hx hb hr (fun t ht hW => ⟨⟨2, g, rfl, (⟨pL g q, (uL_id rfl).symm⟩), CX.give hb0 hM hK hG hE hS ht hW⟩, hS.F ht⟩) hS.2.2 dL_load_22
  · skip
    have hM := hB.back ht
    have hG := hB.2.2.2.1
    refine lv_i2l hx hb dL_load_10 rfl ?_
    obtain ⟨hP, hf⟩ := o_ou (i := 0) (q := q) hM (by omega)
    refine rt_last (D := (dC, dI)) (t0 := 3) hx hb hK hP (hM.ge (by omega)) hS rfl (by unfold vp_in; decide) dL_load_11 (fun H locs hP hz ho hS => ?_)
    have ec : (0 : Int32).toNatClampNeg = 0 := by decide
    rw [ec] at hP
    have hM0 := hM
    have hM := p_ou (i := 0) (f := vp_updL (pL g q) 0 r5.toInt64) hM (by omega) hP ho hf
    obtain ⟨g7, hg7⟩ : ∃ z, z = uL g q (vp_updL (pL g q) 0 r5.toInt64) := ⟨_, rfl⟩
    rw [← hg7] at hM
    have ht8 : tg g7 o = 1 := by rw [hg7]; exact hto
    have ht9 : tg g7 q = 34 := by rw [hg7]; exact htq
    have hG : GOK g7 := by rw [hg7]; exact (hG.uL hM0)
    refine lv_goto (tgt := 23) hx hb dL_load_12 (by decide) ?_
    refine lv_iconst (v := 0) hx hb dL_load_23 (by decide) ?_
    refine W.widen (k := 1) (n := 6) (Nat.le_of_ble_eq_true rfl) (Nat.le_of_ble_eq_true rfl) ?_
    exact W.iret (v := 0) hx hb hr (fun t ht hW => ⟨⟨0, g7, rfl, (⟨_, by rw [hg7]⟩), CX.give hb0 hM hK hG hE hS ht hW⟩, hS.F ht⟩) hS.2.2 dL_load_24

set_option maxHeartbeats 4000000 in
set_option maxRecDepth 100000 in
theorem rh_strength (l : Launch) (hlt : l.stackTraces = false) (dC : Nat → ClassId) (dI : Nat → Nat → Nat) (kA : Nat → ClassId) (eD b : Nat) (g : Gh) (o q : Nat) (p0 : Int32) (p1 : Int32) (p2 : Int32)  (hto : tg g o = 1) (htq : tg g q = 34) : Met l yL_strength wzL_strength ({ frames := 7, cells := 1, slots := 6, locals := 106 }) (va_Pc [.ref o, .int p0, .int p1, .int p2, .ref q] (CX (dC, dI) kA eD b g)) (va_Qi (fun (r : Int32) (u : Gh) => ∃ f, u = uL g q f) (fun (u : Gh) t => CX (dC, dI) kA eD b u t) (fun q => b ≤ q)) 1 6 (fun q => b ≤ q) := by
  refine va_MetW (cc := cL_strength) (maxL := 6) (ret := (some .int)) (hh := [(0, 12, 15, 54), (0, 12, 19, 64)]) (by decide +kernel) rfl ?_
  intro p e s m args below meth c s₁ B hml hv
  obtain ⟨rfl, hb0, hM, hK, hG, hE⟩ := hv
  have hx := B.exec
  have hb := B.bytes
  have hr := B.returns
  have hts := atoms_spec (ws := wzL_strength) B.pre
  have hown : s.vm.findClass RL = some m.cls := findClass_of_methodNamed B.named
  have hlocks := B.notSynchronized
  have htab : c.exceptionTable.toList = tableOf [(0, 12, 15, 54), (0, 12, 19, 64)] := vx_table (x := yL_strength) B (hts _ List.mem_cons_self)
  have hT := hE.1
  have hN := hE.2.2.2.2.2.2.2.1
  have hS : va_S (fun q => b ≤ q) s.heap s.heap [] := va_S.rf
  have hl := lv_entry ([.ref o, .int p0, .int p1, .int p2, .ref q]) (n := 6) (Nat.le_of_ble_eq_true rfl)
  rw [lg_entry_eq]
  generalize (lg_sl ([.ref o, .int p0, .int p1, .int p2, .ref q]) ++ List.replicate (6 - (lg_sl ([.ref o, .int p0, .int p1, .int p2, .ref q])).length) Slot.unset).toArray = ls at hl ⊢
  have hl : lv_has ls 6 [(0, .ref o), (1, .int p0), (2, .int p1), (3, .int p2), (4, .ref q)] := hl
  generalize ([.ref o, .int p0, .int p1, .int p2, .ref q] : List Value).toArray = args at hts ⊢
  refine lv_aload hx hb dL_strength_0 (lv_at hl 4 rfl) ?_
  refine lv_iconst (v := 0) hx hb dL_strength_2 (by decide) ?_
  refine lv_aload_n hx hb dL_strength_3 rfl (lv_at hl 0 rfl) ?_
  refine lv_iload_n hx hb dL_strength_4 rfl (lv_at hl 1 rfl) ?_
  refine lv_iload_n hx hb dL_strength_5 rfl (lv_at hl 2 rfl) ?_
  refine lv_iload_n hx hb dL_strength_6 rfl (lv_at hl 3 rfl) ?_
  obtain ⟨u1, u2, u3, u4, hP, hf⟩ := o_sno (i := 0) (q := o) hM (by omega)
  refine vx_calli (vx_runV (As := [.int p0, .int p1, .int p2]) (rest := [.int 0, .ref q]) ⟨hx, hb, hml, hown, hts⟩ (rf_strength l hlt dC dI kA eD b g o p0 p1 p2 (by omega)) (cwV 3 hts gL_strength_X3_strength rfl rfl rfl (by decide +kernel) ⟨Nat.le_of_ble_eq_true rfl, Nat.le_of_ble_eq_true rfl⟩) ⟨fb_CX, va_recv hK hP (ci := 7) (q0 := 0) rfl rfl, fun U hU hW => ⟨rfl, CX.give hb0 hM hK hG hE hS hU hW⟩⟩ rfl rfl hl.1 rfl (lv_room (Nat.le_of_ble_eq_true rfl)) dL_strength_7 ⟨(Nat.le_of_ble_eq_true rfl), (Nat.le_of_ble_eq_true rfl)⟩) hS (fun q _ h => h) (fun q h => h) (fun q _ h => h) (fun E ce q9 u9 t H locs ht hvm hpx hBX hz1 hk1 hS hcell hvn hcl => ?_) (fun r5 u t H locs ht hvm hw6 hB hz1 hk1 hS => ?_)
  · skip
    have hM : TM (dC, dI) kA b g H := by rw [← ht]; exact hBX.2
    rcases hBX.1 with rfl | rfl
    · skip
      refine vx_catch (E := "java/lang/IndexOutOfBoundsException") (name := "java/lang/IndexOutOfBoundsException") hown [] ⟨0, 12, 15, 54⟩ [⟨0, 12, 19, 64⟩] (by rw [htab]; rfl) (fun z hz => absurd hz List.not_mem_nil) rfl (by decide) (hts (.classLink RL 54 "java/lang/IndexOutOfBoundsException") (by decide +kernel)) (th_any (a := #[]) rfl (hT.1 (.castable "java/lang/IndexOutOfBoundsException" "java/lang/IndexOutOfBoundsException") (by decide +kernel))) hcell hvn hcl ?_
      refine W.eq (g2 := F0 m 15 ls [.ref q9]) rfl ?_
      refine lv_astore (lv' := [(5, .ref q9), (0, .ref o), (1, .int p0), (2, .int p1), (3, .int p2), (4, .ref q)]) hx hb dL_strength_15 hl (by decide) rfl (fun ls hl => ?_)
      refine lv_iconst (v := 1) hx hb dL_strength_17 (by decide) ?_
      refine W.widen (k := 1) (n := 6) (Nat.le_of_ble_eq_true rfl) (Nat.le_of_ble_eq_true rfl) ?_
      exact W.iret (v := 1) hx hb hr (fun t ht hW => ⟨⟨1, g, rfl, (⟨pL g q, (uL_id rfl).symm⟩), CX.give hb0 hM hK hG hE hS ht hW⟩, hS.F ht⟩) hS.2.2 dL_strength_18
    · skip
      refine vx_catch (E := "java/util/NoSuchElementException") (name := "java/util/NoSuchElementException") hown [⟨0, 12, 15, 54⟩] ⟨0, 12, 19, 64⟩ [] (by rw [htab]; rfl) (fun z hz => by rcases List.mem_singleton.mp hz with rfl; exact Or.inr ⟨by decide, _, hts (.classLink RL 54 "java/lang/IndexOutOfBoundsException") (by decide +kernel), hT.2.2.1 ("java/util/NoSuchElementException", "java/lang/IndexOutOfBoundsException") (by decide +kernel)⟩) rfl (by decide) (hts (.classLink RL 64 "java/util/NoSuchElementException") (by decide +kernel)) (th_any (a := #[]) rfl (hT.1 (.castable "java/util/NoSuchElementException" "java/util/NoSuchElementException") (by decide +kernel))) hcell hvn hcl ?_
      refine W.eq (g2 := F0 m 19 ls [.ref q9]) rfl ?_
      refine lv_astore (lv' := [(5, .ref q9), (0, .ref o), (1, .int p0), (2, .int p1), (3, .int p2), (4, .ref q)]) hx hb dL_strength_19 hl (by decide) rfl (fun ls hl => ?_)
      refine lv_iconst (v := 2) hx hb dL_strength_21 (by decide) ?_
      refine W.widen (k := 1) (n := 6) (Nat.le_of_ble_eq_true rfl) (Nat.le_of_ble_eq_true rfl) ?_
      exact W.iret (v := 2) hx hb hr (fun t ht hW => ⟨⟨2, g, rfl, (⟨pL g q, (uL_id rfl).symm⟩), CX.give hb0 hM hK hG hE hS ht hW⟩, hS.F ht⟩) hS.2.2 dL_strength_22
  · skip
    have hM := hB.back ht
    have hG := hB.2.2.2.1
    refine lv_i2l hx hb dL_strength_10 rfl ?_
    obtain ⟨hP, hf⟩ := o_ou (i := 0) (q := q) hM (by omega)
    refine rt_last (D := (dC, dI)) (t0 := 3) hx hb hK hP (hM.ge (by omega)) hS rfl (by unfold vp_in; decide) dL_strength_11 (fun H locs hP hz ho hS => ?_)
    have ec : (0 : Int32).toNatClampNeg = 0 := by decide
    rw [ec] at hP
    have hM0 := hM
    have hM := p_ou (i := 0) (f := vp_updL (pL g q) 0 r5.toInt64) hM (by omega) hP ho hf
    obtain ⟨g7, hg7⟩ : ∃ z, z = uL g q (vp_updL (pL g q) 0 r5.toInt64) := ⟨_, rfl⟩
    rw [← hg7] at hM
    have ht8 : tg g7 o = 1 := by rw [hg7]; exact hto
    have ht9 : tg g7 q = 34 := by rw [hg7]; exact htq
    have hG : GOK g7 := by rw [hg7]; exact (hG.uL hM0)
    refine lv_goto (tgt := 23) hx hb dL_strength_12 (by decide) ?_
    refine lv_iconst (v := 0) hx hb dL_strength_23 (by decide) ?_
    refine W.widen (k := 1) (n := 6) (Nat.le_of_ble_eq_true rfl) (Nat.le_of_ble_eq_true rfl) ?_
    exact W.iret (v := 0) hx hb hr (fun t ht hW => ⟨⟨0, g7, rfl, (⟨_, by rw [hg7]⟩), CX.give hb0 hM hK hG hE hS ht hW⟩, hS.F ht⟩) hS.2.2 dL_strength_24

set_option maxHeartbeats 4000000 in
set_option maxRecDepth 100000 in
theorem rh_creep (l : Launch) (hlt : l.stackTraces = false) (dC : Nat → ClassId) (dI : Nat → Nat → Nat) (kA : Nat → ClassId) (eD b : Nat) (g : Gh) (o q : Nat) (p0 : Int32) (p1 : Int32) (p2 : Int32)  (hto : tg g o = 1) (htq : tg g q = 34) : Met l yL_creep wzL_creep ({ frames := 7, cells := 1, slots := 6, locals := 106 }) (va_Pc [.ref o, .int p0, .int p1, .int p2, .ref q] (CX (dC, dI) kA eD b g)) (va_Qi (fun (r : Int32) (u : Gh) => ∃ f, u = uL g q f) (fun (u : Gh) t => CX (dC, dI) kA eD b u t) (fun q => b ≤ q)) 1 6 (fun q => b ≤ q) := by
  refine va_MetW (cc := cL_creep) (maxL := 6) (ret := (some .int)) (hh := [(0, 12, 15, 54), (0, 12, 19, 64)]) (by decide +kernel) rfl ?_
  intro p e s m args below meth c s₁ B hml hv
  obtain ⟨rfl, hb0, hM, hK, hG, hE⟩ := hv
  have hx := B.exec
  have hb := B.bytes
  have hr := B.returns
  have hts := atoms_spec (ws := wzL_creep) B.pre
  have hown : s.vm.findClass RL = some m.cls := findClass_of_methodNamed B.named
  have hlocks := B.notSynchronized
  have htab : c.exceptionTable.toList = tableOf [(0, 12, 15, 54), (0, 12, 19, 64)] := vx_table (x := yL_creep) B (hts _ List.mem_cons_self)
  have hT := hE.1
  have hN := hE.2.2.2.2.2.2.2.1
  have hS : va_S (fun q => b ≤ q) s.heap s.heap [] := va_S.rf
  have hl := lv_entry ([.ref o, .int p0, .int p1, .int p2, .ref q]) (n := 6) (Nat.le_of_ble_eq_true rfl)
  rw [lg_entry_eq]
  generalize (lg_sl ([.ref o, .int p0, .int p1, .int p2, .ref q]) ++ List.replicate (6 - (lg_sl ([.ref o, .int p0, .int p1, .int p2, .ref q])).length) Slot.unset).toArray = ls at hl ⊢
  have hl : lv_has ls 6 [(0, .ref o), (1, .int p0), (2, .int p1), (3, .int p2), (4, .ref q)] := hl
  generalize ([.ref o, .int p0, .int p1, .int p2, .ref q] : List Value).toArray = args at hts ⊢
  refine lv_aload hx hb dL_creep_0 (lv_at hl 4 rfl) ?_
  refine lv_iconst (v := 0) hx hb dL_creep_2 (by decide) ?_
  refine lv_aload_n hx hb dL_creep_3 rfl (lv_at hl 0 rfl) ?_
  refine lv_iload_n hx hb dL_creep_4 rfl (lv_at hl 1 rfl) ?_
  refine lv_iload_n hx hb dL_creep_5 rfl (lv_at hl 2 rfl) ?_
  refine lv_iload_n hx hb dL_creep_6 rfl (lv_at hl 3 rfl) ?_
  obtain ⟨u1, u2, u3, u4, hP, hf⟩ := o_sno (i := 0) (q := o) hM (by omega)
  refine vx_calli (vx_runV (As := [.int p0, .int p1, .int p2]) (rest := [.int 0, .ref q]) ⟨hx, hb, hml, hown, hts⟩ (rf_creep l hlt dC dI kA eD b g o p0 p1 p2 (by omega)) (cwV 3 hts gL_creep_X3_creep rfl rfl rfl (by decide +kernel) ⟨Nat.le_of_ble_eq_true rfl, Nat.le_of_ble_eq_true rfl⟩) ⟨fb_CX, va_recv hK hP (ci := 7) (q0 := 0) rfl rfl, fun U hU hW => ⟨rfl, CX.give hb0 hM hK hG hE hS hU hW⟩⟩ rfl rfl hl.1 rfl (lv_room (Nat.le_of_ble_eq_true rfl)) dL_creep_7 ⟨(Nat.le_of_ble_eq_true rfl), (Nat.le_of_ble_eq_true rfl)⟩) hS (fun q _ h => h) (fun q h => h) (fun q _ h => h) (fun E ce q9 u9 t H locs ht hvm hpx hBX hz1 hk1 hS hcell hvn hcl => ?_) (fun r5 u t H locs ht hvm hw6 hB hz1 hk1 hS => ?_)
  · skip
    have hM : TM (dC, dI) kA b g H := by rw [← ht]; exact hBX.2
    rcases hBX.1 with rfl | rfl
    · skip
      refine vx_catch (E := "java/lang/IndexOutOfBoundsException") (name := "java/lang/IndexOutOfBoundsException") hown [] ⟨0, 12, 15, 54⟩ [⟨0, 12, 19, 64⟩] (by rw [htab]; rfl) (fun z hz => absurd hz List.not_mem_nil) rfl (by decide) (hts (.classLink RL 54 "java/lang/IndexOutOfBoundsException") (by decide +kernel)) (th_any (a := #[]) rfl (hT.1 (.castable "java/lang/IndexOutOfBoundsException" "java/lang/IndexOutOfBoundsException") (by decide +kernel))) hcell hvn hcl ?_
      refine W.eq (g2 := F0 m 15 ls [.ref q9]) rfl ?_
      refine lv_astore (lv' := [(5, .ref q9), (0, .ref o), (1, .int p0), (2, .int p1), (3, .int p2), (4, .ref q)]) hx hb dL_creep_15 hl (by decide) rfl (fun ls hl => ?_)
      refine lv_iconst (v := 1) hx hb dL_creep_17 (by decide) ?_
      refine W.widen (k := 1) (n := 6) (Nat.le_of_ble_eq_true rfl) (Nat.le_of_ble_eq_true rfl) ?_
      exact W.iret (v := 1) hx hb hr (fun t ht hW => ⟨⟨1, g, rfl, (⟨pL g q, (uL_id rfl).symm⟩), CX.give hb0 hM hK hG hE hS ht hW⟩, hS.F ht⟩) hS.2.2 dL_creep_18
    · skip
      refine vx_catch (E := "java/util/NoSuchElementException") (name := "java/util/NoSuchElementException") hown [⟨0, 12, 15, 54⟩] ⟨0, 12, 19, 64⟩ [] (by rw [htab]; rfl) (fun z hz => by rcases List.mem_singleton.mp hz with rfl; exact Or.inr ⟨by decide, _, hts (.classLink RL 54 "java/lang/IndexOutOfBoundsException") (by decide +kernel), hT.2.2.1 ("java/util/NoSuchElementException", "java/lang/IndexOutOfBoundsException") (by decide +kernel)⟩) rfl (by decide) (hts (.classLink RL 64 "java/util/NoSuchElementException") (by decide +kernel)) (th_any (a := #[]) rfl (hT.1 (.castable "java/util/NoSuchElementException" "java/util/NoSuchElementException") (by decide +kernel))) hcell hvn hcl ?_
      refine W.eq (g2 := F0 m 19 ls [.ref q9]) rfl ?_
      refine lv_astore (lv' := [(5, .ref q9), (0, .ref o), (1, .int p0), (2, .int p1), (3, .int p2), (4, .ref q)]) hx hb dL_creep_19 hl (by decide) rfl (fun ls hl => ?_)
      refine lv_iconst (v := 2) hx hb dL_creep_21 (by decide) ?_
      refine W.widen (k := 1) (n := 6) (Nat.le_of_ble_eq_true rfl) (Nat.le_of_ble_eq_true rfl) ?_
      exact W.iret (v := 2) hx hb hr (fun t ht hW => ⟨⟨2, g, rfl, (⟨pL g q, (uL_id rfl).symm⟩), CX.give hb0 hM hK hG hE hS ht hW⟩, hS.F ht⟩) hS.2.2 dL_creep_22
  · skip
    have hM := hB.back ht
    have hG := hB.2.2.2.1
    refine lv_i2l hx hb dL_creep_10 rfl ?_
    obtain ⟨hP, hf⟩ := o_ou (i := 0) (q := q) hM (by omega)
    refine rt_last (D := (dC, dI)) (t0 := 3) hx hb hK hP (hM.ge (by omega)) hS rfl (by unfold vp_in; decide) dL_creep_11 (fun H locs hP hz ho hS => ?_)
    have ec : (0 : Int32).toNatClampNeg = 0 := by decide
    rw [ec] at hP
    have hM0 := hM
    have hM := p_ou (i := 0) (f := vp_updL (pL g q) 0 r5.toInt64) hM (by omega) hP ho hf
    obtain ⟨g7, hg7⟩ : ∃ z, z = uL g q (vp_updL (pL g q) 0 r5.toInt64) := ⟨_, rfl⟩
    rw [← hg7] at hM
    have ht8 : tg g7 o = 1 := by rw [hg7]; exact hto
    have ht9 : tg g7 q = 34 := by rw [hg7]; exact htq
    have hG : GOK g7 := by rw [hg7]; exact (hG.uL hM0)
    refine lv_goto (tgt := 23) hx hb dL_creep_12 (by decide) ?_
    refine lv_iconst (v := 0) hx hb dL_creep_23 (by decide) ?_
    refine W.widen (k := 1) (n := 6) (Nat.le_of_ble_eq_true rfl) (Nat.le_of_ble_eq_true rfl) ?_
    exact W.iret (v := 0) hx hb hr (fun t ht hW => ⟨⟨0, g7, rfl, (⟨_, by rw [hg7]⟩), CX.give hb0 hM hK hG hE hS ht hW⟩, hS.F ht⟩) hS.2.2 dL_creep_24

set_option maxHeartbeats 4000000 in
set_option maxRecDepth 100000 in
theorem rh_age (l : Launch) (hlt : l.stackTraces = false) (dC : Nat → ClassId) (dI : Nat → Nat → Nat) (kA : Nat → ClassId) (eD b : Nat) (g : Gh) (o q : Nat) (p0 : Int32) (p1 : Int32) (p2 : Int32)  (hto : tg g o = 1) (htq : tg g q = 34) : Met l yL_age wzL_age ({ frames := 7, cells := 1, slots := 6, locals := 106 }) (va_Pc [.ref o, .int p0, .int p1, .int p2, .ref q] (CX (dC, dI) kA eD b g)) (va_Qi (fun (r : Int32) (u : Gh) => ∃ f, u = uL g q f) (fun (u : Gh) t => CX (dC, dI) kA eD b u t) (fun q => b ≤ q)) 1 6 (fun q => b ≤ q) := by
  refine va_MetW (cc := cL_age) (maxL := 6) (ret := (some .int)) (hh := [(0, 12, 15, 54), (0, 12, 19, 64)]) (by decide +kernel) rfl ?_
  intro p e s m args below meth c s₁ B hml hv
  obtain ⟨rfl, hb0, hM, hK, hG, hE⟩ := hv
  have hx := B.exec
  have hb := B.bytes
  have hr := B.returns
  have hts := atoms_spec (ws := wzL_age) B.pre
  have hown : s.vm.findClass RL = some m.cls := findClass_of_methodNamed B.named
  have hlocks := B.notSynchronized
  have htab : c.exceptionTable.toList = tableOf [(0, 12, 15, 54), (0, 12, 19, 64)] := vx_table (x := yL_age) B (hts _ List.mem_cons_self)
  have hT := hE.1
  have hN := hE.2.2.2.2.2.2.2.1
  have hS : va_S (fun q => b ≤ q) s.heap s.heap [] := va_S.rf
  have hl := lv_entry ([.ref o, .int p0, .int p1, .int p2, .ref q]) (n := 6) (Nat.le_of_ble_eq_true rfl)
  rw [lg_entry_eq]
  generalize (lg_sl ([.ref o, .int p0, .int p1, .int p2, .ref q]) ++ List.replicate (6 - (lg_sl ([.ref o, .int p0, .int p1, .int p2, .ref q])).length) Slot.unset).toArray = ls at hl ⊢
  have hl : lv_has ls 6 [(0, .ref o), (1, .int p0), (2, .int p1), (3, .int p2), (4, .ref q)] := hl
  generalize ([.ref o, .int p0, .int p1, .int p2, .ref q] : List Value).toArray = args at hts ⊢
  refine lv_aload hx hb dL_age_0 (lv_at hl 4 rfl) ?_
  refine lv_iconst (v := 0) hx hb dL_age_2 (by decide) ?_
  refine lv_aload_n hx hb dL_age_3 rfl (lv_at hl 0 rfl) ?_
  refine lv_iload_n hx hb dL_age_4 rfl (lv_at hl 1 rfl) ?_
  refine lv_iload_n hx hb dL_age_5 rfl (lv_at hl 2 rfl) ?_
  refine lv_iload_n hx hb dL_age_6 rfl (lv_at hl 3 rfl) ?_
  obtain ⟨u1, u2, u3, u4, hP, hf⟩ := o_sno (i := 0) (q := o) hM (by omega)
  refine vx_calli (vx_runV (As := [.int p0, .int p1, .int p2]) (rest := [.int 0, .ref q]) ⟨hx, hb, hml, hown, hts⟩ (rf_age l hlt dC dI kA eD b g o p0 p1 p2 (by omega)) (cwV 3 hts gL_age_X3_age rfl rfl rfl (by decide +kernel) ⟨Nat.le_of_ble_eq_true rfl, Nat.le_of_ble_eq_true rfl⟩) ⟨fb_CX, va_recv hK hP (ci := 7) (q0 := 0) rfl rfl, fun U hU hW => ⟨rfl, CX.give hb0 hM hK hG hE hS hU hW⟩⟩ rfl rfl hl.1 rfl (lv_room (Nat.le_of_ble_eq_true rfl)) dL_age_7 ⟨(Nat.le_of_ble_eq_true rfl), (Nat.le_of_ble_eq_true rfl)⟩) hS (fun q _ h => h) (fun q h => h) (fun q _ h => h) (fun E ce q9 u9 t H locs ht hvm hpx hBX hz1 hk1 hS hcell hvn hcl => ?_) (fun r5 u t H locs ht hvm hw6 hB hz1 hk1 hS => ?_)
  · skip
    have hM : TM (dC, dI) kA b g H := by rw [← ht]; exact hBX.2
    rcases hBX.1 with rfl | rfl
    · skip
      refine vx_catch (E := "java/lang/IndexOutOfBoundsException") (name := "java/lang/IndexOutOfBoundsException") hown [] ⟨0, 12, 15, 54⟩ [⟨0, 12, 19, 64⟩] (by rw [htab]; rfl) (fun z hz => absurd hz List.not_mem_nil) rfl (by decide) (hts (.classLink RL 54 "java/lang/IndexOutOfBoundsException") (by decide +kernel)) (th_any (a := #[]) rfl (hT.1 (.castable "java/lang/IndexOutOfBoundsException" "java/lang/IndexOutOfBoundsException") (by decide +kernel))) hcell hvn hcl ?_
      refine W.eq (g2 := F0 m 15 ls [.ref q9]) rfl ?_
      refine lv_astore (lv' := [(5, .ref q9), (0, .ref o), (1, .int p0), (2, .int p1), (3, .int p2), (4, .ref q)]) hx hb dL_age_15 hl (by decide) rfl (fun ls hl => ?_)
      refine lv_iconst (v := 1) hx hb dL_age_17 (by decide) ?_
      refine W.widen (k := 1) (n := 6) (Nat.le_of_ble_eq_true rfl) (Nat.le_of_ble_eq_true rfl) ?_
      exact W.iret (v := 1) hx hb hr (fun t ht hW => ⟨⟨1, g, rfl, (⟨pL g q, (uL_id rfl).symm⟩), CX.give hb0 hM hK hG hE hS ht hW⟩, hS.F ht⟩) hS.2.2 dL_age_18
    · skip
      refine vx_catch (E := "java/util/NoSuchElementException") (name := "java/util/NoSuchElementException") hown [⟨0, 12, 15, 54⟩] ⟨0, 12, 19, 64⟩ [] (by rw [htab]; rfl) (fun z hz => by rcases List.mem_singleton.mp hz with rfl; exact Or.inr ⟨by decide, _, hts (.classLink RL 54 "java/lang/IndexOutOfBoundsException") (by decide +kernel), hT.2.2.1 ("java/util/NoSuchElementException", "java/lang/IndexOutOfBoundsException") (by decide +kernel)⟩) rfl (by decide) (hts (.classLink RL 64 "java/util/NoSuchElementException") (by decide +kernel)) (th_any (a := #[]) rfl (hT.1 (.castable "java/util/NoSuchElementException" "java/util/NoSuchElementException") (by decide +kernel))) hcell hvn hcl ?_
      refine W.eq (g2 := F0 m 19 ls [.ref q9]) rfl ?_
      refine lv_astore (lv' := [(5, .ref q9), (0, .ref o), (1, .int p0), (2, .int p1), (3, .int p2), (4, .ref q)]) hx hb dL_age_19 hl (by decide) rfl (fun ls hl => ?_)
      refine lv_iconst (v := 2) hx hb dL_age_21 (by decide) ?_
      refine W.widen (k := 1) (n := 6) (Nat.le_of_ble_eq_true rfl) (Nat.le_of_ble_eq_true rfl) ?_
      exact W.iret (v := 2) hx hb hr (fun t ht hW => ⟨⟨2, g, rfl, (⟨pL g q, (uL_id rfl).symm⟩), CX.give hb0 hM hK hG hE hS ht hW⟩, hS.F ht⟩) hS.2.2 dL_age_22
  · skip
    have hM := hB.back ht
    have hG := hB.2.2.2.1
    refine lv_i2l hx hb dL_age_10 rfl ?_
    obtain ⟨hP, hf⟩ := o_ou (i := 0) (q := q) hM (by omega)
    refine rt_last (D := (dC, dI)) (t0 := 3) hx hb hK hP (hM.ge (by omega)) hS rfl (by unfold vp_in; decide) dL_age_11 (fun H locs hP hz ho hS => ?_)
    have ec : (0 : Int32).toNatClampNeg = 0 := by decide
    rw [ec] at hP
    have hM0 := hM
    have hM := p_ou (i := 0) (f := vp_updL (pL g q) 0 r5.toInt64) hM (by omega) hP ho hf
    obtain ⟨g7, hg7⟩ : ∃ z, z = uL g q (vp_updL (pL g q) 0 r5.toInt64) := ⟨_, rfl⟩
    rw [← hg7] at hM
    have ht8 : tg g7 o = 1 := by rw [hg7]; exact hto
    have ht9 : tg g7 q = 34 := by rw [hg7]; exact htq
    have hG : GOK g7 := by rw [hg7]; exact (hG.uL hM0)
    refine lv_goto (tgt := 23) hx hb dL_age_12 (by decide) ?_
    refine lv_iconst (v := 0) hx hb dL_age_23 (by decide) ?_
    refine W.widen (k := 1) (n := 6) (Nat.le_of_ble_eq_true rfl) (Nat.le_of_ble_eq_true rfl) ?_
    exact W.iret (v := 0) hx hb hr (fun t ht hW => ⟨⟨0, g7, rfl, (⟨_, by rw [hg7]⟩), CX.give hb0 hM hK hG hE hS ht hW⟩, hS.F ht⟩) hS.2.2 dL_age_24

set_option maxHeartbeats 4000000 in
set_option maxRecDepth 100000 in
theorem rh_isArch (l : Launch) (hlt : l.stackTraces = false) (dC : Nat → ClassId) (dI : Nat → Nat → Nat) (kA : Nat → ClassId) (eD b : Nat) (g : Gh) (o q : Nat) (p0 : Int32) (p1 : Int32) (p2 : Int32)  (hto : tg g o = 1) (htq : tg g q = 34) : Met l yL_isArch wzL_isArch ({ frames := 7, cells := 1, slots := 6, locals := 106 }) (va_Pc [.ref o, .int p0, .int p1, .int p2, .ref q] (CX (dC, dI) kA eD b g)) (va_Qi (fun (r : Int32) (u : Gh) => ∃ f, u = uL g q f) (fun (u : Gh) t => CX (dC, dI) kA eD b u t) (fun q => b ≤ q)) 1 6 (fun q => b ≤ q) := by
  refine va_MetW (cc := cL_isArch) (maxL := 6) (ret := (some .int)) (hh := [(0, 19, 22, 54), (0, 19, 26, 64)]) (by decide +kernel) rfl ?_
  intro p e s m args below meth c s₁ B hml hv
  obtain ⟨rfl, hb0, hM, hK, hG, hE⟩ := hv
  have hx := B.exec
  have hb := B.bytes
  have hr := B.returns
  have hts := atoms_spec (ws := wzL_isArch) B.pre
  have hown : s.vm.findClass RL = some m.cls := findClass_of_methodNamed B.named
  have hlocks := B.notSynchronized
  have htab : c.exceptionTable.toList = tableOf [(0, 19, 22, 54), (0, 19, 26, 64)] := vx_table (x := yL_isArch) B (hts _ List.mem_cons_self)
  have hT := hE.1
  have hN := hE.2.2.2.2.2.2.2.1
  have hS : va_S (fun q => b ≤ q) s.heap s.heap [] := va_S.rf
  have hl := lv_entry ([.ref o, .int p0, .int p1, .int p2, .ref q]) (n := 6) (Nat.le_of_ble_eq_true rfl)
  rw [lg_entry_eq]
  generalize (lg_sl ([.ref o, .int p0, .int p1, .int p2, .ref q]) ++ List.replicate (6 - (lg_sl ([.ref o, .int p0, .int p1, .int p2, .ref q])).length) Slot.unset).toArray = ls at hl ⊢
  have hl : lv_has ls 6 [(0, .ref o), (1, .int p0), (2, .int p1), (3, .int p2), (4, .ref q)] := hl
  generalize ([.ref o, .int p0, .int p1, .int p2, .ref q] : List Value).toArray = args at hts ⊢
  refine W.q (fun Q hQ => ?_)
  refine lv_aload hx hb dL_isArch_0 (lv_at hl 4 rfl) ?_
  refine lv_iconst (v := 0) hx hb dL_isArch_2 (by decide) ?_
  refine lv_aload_n hx hb dL_isArch_3 rfl (lv_at hl 0 rfl) ?_
  refine lv_iload_n hx hb dL_isArch_4 rfl (lv_at hl 1 rfl) ?_
  refine lv_iload_n hx hb dL_isArch_5 rfl (lv_at hl 2 rfl) ?_
  refine lv_iload_n hx hb dL_isArch_6 rfl (lv_at hl 3 rfl) ?_
  obtain ⟨u1, u2, u3, u4, hP, hf⟩ := o_sno (i := 0) (q := o) hM (by omega)
  refine vx_calli (vx_runV (As := [.int p0, .int p1, .int p2]) (rest := [.int 0, .ref q]) ⟨hx, hb, hml, hown, hts⟩ (rf_isArch l hlt dC dI kA eD b g o p0 p1 p2 (by omega)) (cwV 3 hts gL_isArch_X3_isArch rfl rfl rfl (by decide +kernel) ⟨Nat.le_of_ble_eq_true rfl, Nat.le_of_ble_eq_true rfl⟩) ⟨fb_CX, va_recv hK hP (ci := 7) (q0 := 0) rfl rfl, fun U hU hW => ⟨rfl, CX.give hb0 hM hK hG hE hS hU hW⟩⟩ rfl rfl hl.1 rfl (lv_room (Nat.le_of_ble_eq_true rfl)) dL_isArch_7 ⟨(Nat.le_of_ble_eq_true rfl), (Nat.le_of_ble_eq_true rfl)⟩) hS (fun q _ h => h) (fun q h => h) (fun q _ h => h) (fun E ce q9 u9 t H locs ht hvm hpx hBX hz1 hk1 hS hcell hvn hcl => ?_) (fun r5 u t H locs ht hvm hw6 hB hz1 hk1 hS => ?_)
  · skip
    have hM : TM (dC, dI) kA b g H := by rw [← ht]; exact hBX.2
    rcases hBX.1 with rfl | rfl
    · skip
      refine vx_catch (E := "java/lang/IndexOutOfBoundsException") (name := "java/lang/IndexOutOfBoundsException") hown [] ⟨0, 19, 22, 54⟩ [⟨0, 19, 26, 64⟩] (by rw [htab]; rfl) (fun z hz => absurd hz List.not_mem_nil) rfl (by decide) (hts (.classLink RL 54 "java/lang/IndexOutOfBoundsException") (by decide +kernel)) (th_any (a := #[]) rfl (hT.1 (.castable "java/lang/IndexOutOfBoundsException" "java/lang/IndexOutOfBoundsException") (by decide +kernel))) hcell hvn hcl ?_
      refine W.eq (g2 := F0 m 22 ls [.ref q9]) rfl ?_
      refine lv_astore (lv' := [(5, .ref q9), (0, .ref o), (1, .int p0), (2, .int p1), (3, .int p2), (4, .ref q)]) hx hb dL_isArch_22 hl (by decide) rfl (fun ls hl => ?_)
      refine lv_iconst (v := 1) hx hb dL_isArch_24 (by decide) ?_
      subst hQ
      refine W.widen (k := 1) (n := 6) (Nat.le_of_ble_eq_true rfl) (Nat.le_of_ble_eq_true rfl) ?_
      exact W.iret (v := 1) hx hb hr (fun t ht hW => ⟨⟨1, g, rfl, (⟨pL g q, (uL_id rfl).symm⟩), CX.give hb0 hM hK hG hE hS ht hW⟩, hS.F ht⟩) hS.2.2 dL_isArch_25
    · skip
      refine vx_catch (E := "java/util/NoSuchElementException") (name := "java/util/NoSuchElementException") hown [⟨0, 19, 22, 54⟩] ⟨0, 19, 26, 64⟩ [] (by rw [htab]; rfl) (fun z hz => by rcases List.mem_singleton.mp hz with rfl; exact Or.inr ⟨by decide, _, hts (.classLink RL 54 "java/lang/IndexOutOfBoundsException") (by decide +kernel), hT.2.2.1 ("java/util/NoSuchElementException", "java/lang/IndexOutOfBoundsException") (by decide +kernel)⟩) rfl (by decide) (hts (.classLink RL 64 "java/util/NoSuchElementException") (by decide +kernel)) (th_any (a := #[]) rfl (hT.1 (.castable "java/util/NoSuchElementException" "java/util/NoSuchElementException") (by decide +kernel))) hcell hvn hcl ?_
      refine W.eq (g2 := F0 m 26 ls [.ref q9]) rfl ?_
      refine lv_astore (lv' := [(5, .ref q9), (0, .ref o), (1, .int p0), (2, .int p1), (3, .int p2), (4, .ref q)]) hx hb dL_isArch_26 hl (by decide) rfl (fun ls hl => ?_)
      refine lv_iconst (v := 2) hx hb dL_isArch_28 (by decide) ?_
      subst hQ
      refine W.widen (k := 1) (n := 6) (Nat.le_of_ble_eq_true rfl) (Nat.le_of_ble_eq_true rfl) ?_
      exact W.iret (v := 2) hx hb hr (fun t ht hW => ⟨⟨2, g, rfl, (⟨pL g q, (uL_id rfl).symm⟩), CX.give hb0 hM hK hG hE hS ht hW⟩, hS.F ht⟩) hS.2.2 dL_isArch_29
  · skip
    have hM := hB.back ht
    have hG := hB.2.2.2.1
    have jn8 : ∀ (x7 : Int64) (H : Heap) (locs : List Loc) (ls : Array Slot), TM (dC, dI) kA b g H → va_S (fun q => b ≤ q) s.heap H locs → lv_has ls 6 [(0, .ref o), (1, .int p0), (2, .int p1), (3, .int p2), (4, .ref q)] → W p l e (headSpec wzL_isArch ({ frames := 7, cells := 1, slots := 6, locals := 106 })).room s m args below meth c H locs 1 6 Q (F0 m 18 ls [.long x7, .int 0, .ref q]) := by
      intro x7 H locs ls hM hS hl
      obtain ⟨hP, hf⟩ := o_ou (i := 0) (q := q) hM (by omega)
      refine rt_last (D := (dC, dI)) (t0 := 3) hx hb hK hP (hM.ge (by omega)) hS rfl (by unfold vp_in; decide) dL_isArch_18 (fun H locs hP hz ho hS => ?_)
      have ec : (0 : Int32).toNatClampNeg = 0 := by decide
      rw [ec] at hP
      have hM0 := hM
      have hM := p_ou (i := 0) (f := vp_updL (pL g q) 0 x7) hM (by omega) hP ho hf
      obtain ⟨g9, hg9⟩ : ∃ z, z = uL g q (vp_updL (pL g q) 0 x7) := ⟨_, rfl⟩
      rw [← hg9] at hM
      have ht10 : tg g9 o = 1 := by rw [hg9]; exact hto
      have ht11 : tg g9 q = 34 := by rw [hg9]; exact htq
      have hG : GOK g9 := by rw [hg9]; exact (hG.uL hM0)
      refine lv_goto (tgt := 30) hx hb dL_isArch_19 (by decide) ?_
      refine lv_iconst (v := 0) hx hb dL_isArch_30 (by decide) ?_
      subst hQ
      refine W.widen (k := 1) (n := 6) (Nat.le_of_ble_eq_true rfl) (Nat.le_of_ble_eq_true rfl) ?_
      exact W.iret (v := 0) hx hb hr (fun t ht hW => ⟨⟨0, g9, rfl, (⟨_, by rw [hg9]⟩), CX.give hb0 hM hK hG hE hS ht hW⟩, hS.F ht⟩) hS.2.2 dL_isArch_31
    refine lv_if_eq (tgt := 17) hx hb dL_isArch_10 (by decide) (fun c13 => ?_) (fun c13 => ?_)
    · skip
      refine lv_lconst (v := 0) hx hb dL_isArch_17 (by decide) ?_
      exact jn8 0 H _ ls hM hS (lv_sub hl [0, 1, 2, 3, 4] rfl)
    · skip
      refine lv_lconst (v := 1) hx hb dL_isArch_13 (by decide) ?_
      refine lv_goto (tgt := 18) hx hb dL_isArch_14 (by decide) ?_
      exact jn8 1 H _ ls hM hS (lv_sub hl [0, 1, 2, 3, 4] rfl)

set_option maxHeartbeats 4000000 in
set_option maxRecDepth 100000 in
theorem rh_fell (l : Launch) (hlt : l.stackTraces = false) (dC : Nat → ClassId) (dI : Nat → Nat → Nat) (kA : Nat → ClassId) (eD b : Nat) (g : Gh) (o q : Nat) (p0 : Int32)  (hto : tg g o = 1) (htq : tg g q = 34) : Met l yL_fell wsL_fell ({ frames := 7, cells := 1, slots := 6, locals := 104 }) (va_Pc [.ref o, .int p0, .ref q] (CX (dC, dI) kA eD b g)) (va_Qi (fun (r : Int32) (u : Gh) => ∃ f, u = uL g q f) (fun (u : Gh) t => CX (dC, dI) kA eD b u t) (fun q => b ≤ q)) 1 6 (fun q => b ≤ q) := by
  refine va_MetW (cc := cL_fell) (maxL := 4) (ret := (some .int)) (hh := [(0, 9, 12, 54)]) (by decide +kernel) rfl ?_
  intro p e s m args below meth c s₁ B hml hv
  obtain ⟨rfl, hb0, hM, hK, hG, hE⟩ := hv
  have hx := B.exec
  have hb := B.bytes
  have hr := B.returns
  have hts := atoms_spec (ws := wsL_fell) B.pre
  have hown : s.vm.findClass RL = some m.cls := findClass_of_methodNamed B.named
  have hlocks := B.notSynchronized
  have htab : c.exceptionTable.toList = tableOf [(0, 9, 12, 54)] := vx_table (x := yL_fell) B (hts _ List.mem_cons_self)
  have hT := hE.1
  have hN := hE.2.2.2.2.2.2.2.1
  have hS : va_S (fun q => b ≤ q) s.heap s.heap [] := va_S.rf
  have hl := lv_entry ([.ref o, .int p0, .ref q]) (n := 4) (Nat.le_of_ble_eq_true rfl)
  rw [lg_entry_eq]
  generalize (lg_sl ([.ref o, .int p0, .ref q]) ++ List.replicate (4 - (lg_sl ([.ref o, .int p0, .ref q])).length) Slot.unset).toArray = ls at hl ⊢
  have hl : lv_has ls 4 [(0, .ref o), (1, .int p0), (2, .ref q)] := hl
  generalize ([.ref o, .int p0, .ref q] : List Value).toArray = args at hts ⊢
  refine lv_aload_n hx hb dL_fell_0 rfl (lv_at hl 2 rfl) ?_
  refine lv_iconst (v := 0) hx hb dL_fell_1 (by decide) ?_
  refine lv_aload_n hx hb dL_fell_2 rfl (lv_at hl 0 rfl) ?_
  refine lv_iload_n hx hb dL_fell_3 rfl (lv_at hl 1 rfl) ?_
  obtain ⟨u1, u2, u3, u4, hP, hf⟩ := o_sno (i := 0) (q := o) hM (by omega)
  refine vx_calli (vx_runV (As := [.int p0]) (rest := [.int 0, .ref q]) ⟨hx, hb, hml, hown, hts⟩ (rf_fell l hlt dC dI kA eD b g o p0 (by omega)) (cwV 1 hts gL_fell_X3_fell rfl rfl rfl (by decide +kernel) ⟨Nat.le_of_ble_eq_true rfl, Nat.le_of_ble_eq_true rfl⟩) ⟨fb_CX, va_recv hK hP (ci := 7) (q0 := 0) rfl rfl, fun U hU hW => ⟨rfl, CX.give hb0 hM hK hG hE hS hU hW⟩⟩ rfl rfl hl.1 rfl (lv_room (Nat.le_of_ble_eq_true rfl)) dL_fell_4 ⟨(Nat.le_of_ble_eq_true rfl), (Nat.le_of_ble_eq_true rfl)⟩) hS (fun q _ h => h) (fun q h => h) (fun q _ h => h) (fun E ce q9 u9 t H locs ht hvm hpx hBX hz1 hk1 hS hcell hvn hcl => ?_) (fun r5 u t H locs ht hvm hw6 hB hz1 hk1 hS => ?_)
  · skip
    have hM : TM (dC, dI) kA b g H := by rw [← ht]; exact hBX.2
    obtain rfl := hBX.1
    refine vx_catch (E := "java/lang/IndexOutOfBoundsException") (name := "java/lang/IndexOutOfBoundsException") hown [] ⟨0, 9, 12, 54⟩ [] (by rw [htab]; rfl) (fun z hz => absurd hz List.not_mem_nil) rfl (by decide) (hts (.classLink RL 54 "java/lang/IndexOutOfBoundsException") (by decide +kernel)) (th_any (a := #[]) rfl (hT.1 (.castable "java/lang/IndexOutOfBoundsException" "java/lang/IndexOutOfBoundsException") (by decide +kernel))) hcell hvn hcl ?_
    refine W.eq (g2 := F0 m 12 ls [.ref q9]) rfl ?_
    refine lv_astore_n (lv' := [(3, .ref q9), (0, .ref o), (1, .int p0), (2, .ref q)]) hx hb dL_fell_12 rfl hl (by decide) rfl (fun ls hl => ?_)
    refine lv_iconst (v := 1) hx hb dL_fell_13 (by decide) ?_
    refine W.widen (k := 1) (n := 6) (Nat.le_of_ble_eq_true rfl) (Nat.le_of_ble_eq_true rfl) ?_
    exact W.iret (v := 1) hx hb hr (fun t ht hW => ⟨⟨1, g, rfl, (⟨pL g q, (uL_id rfl).symm⟩), CX.give hb0 hM hK hG hE hS ht hW⟩, hS.F ht⟩) hS.2.2 dL_fell_14
  · skip
    have hM := hB.back ht
    have hG := hB.2.2.2.1
    refine lv_i2l hx hb dL_fell_7 rfl ?_
    obtain ⟨hP, hf⟩ := o_ou (i := 0) (q := q) hM (by omega)
    refine rt_last (D := (dC, dI)) (t0 := 3) hx hb hK hP (hM.ge (by omega)) hS rfl (by unfold vp_in; decide) dL_fell_8 (fun H locs hP hz ho hS => ?_)
    have ec : (0 : Int32).toNatClampNeg = 0 := by decide
    rw [ec] at hP
    have hM0 := hM
    have hM := p_ou (i := 0) (f := vp_updL (pL g q) 0 r5.toInt64) hM (by omega) hP ho hf
    obtain ⟨g7, hg7⟩ : ∃ z, z = uL g q (vp_updL (pL g q) 0 r5.toInt64) := ⟨_, rfl⟩
    rw [← hg7] at hM
    have ht8 : tg g7 o = 1 := by rw [hg7]; exact hto
    have ht9 : tg g7 q = 34 := by rw [hg7]; exact htq
    have hG : GOK g7 := by rw [hg7]; exact (hG.uL hM0)
    refine lv_goto (tgt := 15) hx hb dL_fell_9 (by decide) ?_
    refine lv_iconst (v := 0) hx hb dL_fell_15 (by decide) ?_
    refine W.widen (k := 1) (n := 6) (Nat.le_of_ble_eq_true rfl) (Nat.le_of_ble_eq_true rfl) ?_
    exact W.iret (v := 0) hx hb hr (fun t ht hW => ⟨⟨0, g7, rfl, (⟨_, by rw [hg7]⟩), CX.give hb0 hM hK hG hE hS ht hW⟩, hS.F ht⟩) hS.2.2 dL_fell_16

set_option maxHeartbeats 4000000 in
set_option maxRecDepth 100000 in
theorem rh_lastFell (l : Launch) (hlt : l.stackTraces = false) (dC : Nat → ClassId) (dI : Nat → Nat → Nat) (kA : Nat → ClassId) (eD b : Nat) (g : Gh) (o q : Nat) (p0 : Int32)  (hto : tg g o = 1) (htq : tg g q = 34) : Met l yL_lastFell wzL_lastFell ({ frames := 7, cells := 1, slots := 6, locals := 104 }) (va_Pc [.ref o, .int p0, .ref q] (CX (dC, dI) kA eD b g)) (va_Qi (fun (r : Int32) (u : Gh) => ∃ f, u = uL g q f) (fun (u : Gh) t => CX (dC, dI) kA eD b u t) (fun q => b ≤ q)) 1 6 (fun q => b ≤ q) := by
  refine va_MetW (cc := cL_lastFell) (maxL := 4) (ret := (some .int)) (hh := [(0, 9, 12, 54), (0, 9, 15, 64)]) (by decide +kernel) rfl ?_
  intro p e s m args below meth c s₁ B hml hv
  obtain ⟨rfl, hb0, hM, hK, hG, hE⟩ := hv
  have hx := B.exec
  have hb := B.bytes
  have hr := B.returns
  have hts := atoms_spec (ws := wzL_lastFell) B.pre
  have hown : s.vm.findClass RL = some m.cls := findClass_of_methodNamed B.named
  have hlocks := B.notSynchronized
  have htab : c.exceptionTable.toList = tableOf [(0, 9, 12, 54), (0, 9, 15, 64)] := vx_table (x := yL_lastFell) B (hts _ List.mem_cons_self)
  have hT := hE.1
  have hN := hE.2.2.2.2.2.2.2.1
  have hS : va_S (fun q => b ≤ q) s.heap s.heap [] := va_S.rf
  have hl := lv_entry ([.ref o, .int p0, .ref q]) (n := 4) (Nat.le_of_ble_eq_true rfl)
  rw [lg_entry_eq]
  generalize (lg_sl ([.ref o, .int p0, .ref q]) ++ List.replicate (4 - (lg_sl ([.ref o, .int p0, .ref q])).length) Slot.unset).toArray = ls at hl ⊢
  have hl : lv_has ls 4 [(0, .ref o), (1, .int p0), (2, .ref q)] := hl
  generalize ([.ref o, .int p0, .ref q] : List Value).toArray = args at hts ⊢
  refine lv_aload_n hx hb dL_lastFell_0 rfl (lv_at hl 2 rfl) ?_
  refine lv_iconst (v := 0) hx hb dL_lastFell_1 (by decide) ?_
  refine lv_aload_n hx hb dL_lastFell_2 rfl (lv_at hl 0 rfl) ?_
  refine lv_iload_n hx hb dL_lastFell_3 rfl (lv_at hl 1 rfl) ?_
  obtain ⟨u1, u2, u3, u4, hP, hf⟩ := o_sno (i := 0) (q := o) hM (by omega)
  refine vx_calli (vx_runV (As := [.int p0]) (rest := [.int 0, .ref q]) ⟨hx, hb, hml, hown, hts⟩ (rf_lastFell l hlt dC dI kA eD b g o p0 (by omega)) (cwV 1 hts gL_lastFell_X3_lastFell rfl rfl rfl (by decide +kernel) ⟨Nat.le_of_ble_eq_true rfl, Nat.le_of_ble_eq_true rfl⟩) ⟨fb_CX, va_recv hK hP (ci := 7) (q0 := 0) rfl rfl, fun U hU hW => ⟨rfl, CX.give hb0 hM hK hG hE hS hU hW⟩⟩ rfl rfl hl.1 rfl (lv_room (Nat.le_of_ble_eq_true rfl)) dL_lastFell_4 ⟨(Nat.le_of_ble_eq_true rfl), (Nat.le_of_ble_eq_true rfl)⟩) hS (fun q _ h => h) (fun q h => h) (fun q _ h => h) (fun E ce q9 u9 t H locs ht hvm hpx hBX hz1 hk1 hS hcell hvn hcl => ?_) (fun r5 u t H locs ht hvm hw6 hB hz1 hk1 hS => ?_)
  · skip
    have hM : TM (dC, dI) kA b g H := by rw [← ht]; exact hBX.2
    rcases hBX.1 with rfl | rfl
    · skip
      refine vx_catch (E := "java/lang/IndexOutOfBoundsException") (name := "java/lang/IndexOutOfBoundsException") hown [] ⟨0, 9, 12, 54⟩ [⟨0, 9, 15, 64⟩] (by rw [htab]; rfl) (fun z hz => absurd hz List.not_mem_nil) rfl (by decide) (hts (.classLink RL 54 "java/lang/IndexOutOfBoundsException") (by decide +kernel)) (th_any (a := #[]) rfl (hT.1 (.castable "java/lang/IndexOutOfBoundsException" "java/lang/IndexOutOfBoundsException") (by decide +kernel))) hcell hvn hcl ?_
      refine W.eq (g2 := F0 m 12 ls [.ref q9]) rfl ?_
      refine lv_astore_n (lv' := [(3, .ref q9), (0, .ref o), (1, .int p0), (2, .ref q)]) hx hb dL_lastFell_12 rfl hl (by decide) rfl (fun ls hl => ?_)
      refine lv_iconst (v := 1) hx hb dL_lastFell_13 (by decide) ?_
      refine W.widen (k := 1) (n := 6) (Nat.le_of_ble_eq_true rfl) (Nat.le_of_ble_eq_true rfl) ?_
      exact W.iret (v := 1) hx hb hr (fun t ht hW => ⟨⟨1, g, rfl, (⟨pL g q, (uL_id rfl).symm⟩), CX.give hb0 hM hK hG hE hS ht hW⟩, hS.F ht⟩) hS.2.2 dL_lastFell_14
    · skip
      refine vx_catch (E := "java/util/NoSuchElementException") (name := "java/util/NoSuchElementException") hown [⟨0, 9, 12, 54⟩] ⟨0, 9, 15, 64⟩ [] (by rw [htab]; rfl) (fun z hz => by rcases List.mem_singleton.mp hz with rfl; exact Or.inr ⟨by decide, _, hts (.classLink RL 54 "java/lang/IndexOutOfBoundsException") (by decide +kernel), hT.2.2.1 ("java/util/NoSuchElementException", "java/lang/IndexOutOfBoundsException") (by decide +kernel)⟩) rfl (by decide) (hts (.classLink RL 64 "java/util/NoSuchElementException") (by decide +kernel)) (th_any (a := #[]) rfl (hT.1 (.castable "java/util/NoSuchElementException" "java/util/NoSuchElementException") (by decide +kernel))) hcell hvn hcl ?_
      refine W.eq (g2 := F0 m 15 ls [.ref q9]) rfl ?_
      refine lv_astore_n (lv' := [(3, .ref q9), (0, .ref o), (1, .int p0), (2, .ref q)]) hx hb dL_lastFell_15 rfl hl (by decide) rfl (fun ls hl => ?_)
      refine lv_iconst (v := 2) hx hb dL_lastFell_16 (by decide) ?_
      refine W.widen (k := 1) (n := 6) (Nat.le_of_ble_eq_true rfl) (Nat.le_of_ble_eq_true rfl) ?_
      exact W.iret (v := 2) hx hb hr (fun t ht hW => ⟨⟨2, g, rfl, (⟨pL g q, (uL_id rfl).symm⟩), CX.give hb0 hM hK hG hE hS ht hW⟩, hS.F ht⟩) hS.2.2 dL_lastFell_17
  · skip
    have hM := hB.back ht
    have hG := hB.2.2.2.1
    refine lv_i2l hx hb dL_lastFell_7 rfl ?_
    obtain ⟨hP, hf⟩ := o_ou (i := 0) (q := q) hM (by omega)
    refine rt_last (D := (dC, dI)) (t0 := 3) hx hb hK hP (hM.ge (by omega)) hS rfl (by unfold vp_in; decide) dL_lastFell_8 (fun H locs hP hz ho hS => ?_)
    have ec : (0 : Int32).toNatClampNeg = 0 := by decide
    rw [ec] at hP
    have hM0 := hM
    have hM := p_ou (i := 0) (f := vp_updL (pL g q) 0 r5.toInt64) hM (by omega) hP ho hf
    obtain ⟨g7, hg7⟩ : ∃ z, z = uL g q (vp_updL (pL g q) 0 r5.toInt64) := ⟨_, rfl⟩
    rw [← hg7] at hM
    have ht8 : tg g7 o = 1 := by rw [hg7]; exact hto
    have ht9 : tg g7 q = 34 := by rw [hg7]; exact htq
    have hG : GOK g7 := by rw [hg7]; exact (hG.uL hM0)
    refine lv_goto (tgt := 18) hx hb dL_lastFell_9 (by decide) ?_
    refine lv_iconst (v := 0) hx hb dL_lastFell_18 (by decide) ?_
    refine W.widen (k := 1) (n := 6) (Nat.le_of_ble_eq_true rfl) (Nat.le_of_ble_eq_true rfl) ?_
    exact W.iret (v := 0) hx hb hr (fun t ht hW => ⟨⟨0, g7, rfl, (⟨_, by rw [hg7]⟩), CX.give hb0 hM hK hG hE hS ht hW⟩, hS.F ht⟩) hS.2.2 dL_lastFell_19

set_option maxHeartbeats 4000000 in
set_option maxRecDepth 100000 in
theorem rh_cover (l : Launch) (hlt : l.stackTraces = false) (dC : Nat → ClassId) (dI : Nat → Nat → Nat) (kA : Nat → ClassId) (eD b : Nat) (g : Gh) (o q : Nat) (site : Int32) (is : Int32)  (hto : tg g o = 1) (htq : tg g q = 34) (his : is = 0 ∨ is = 1) : Met l yL_cover wsL_cover ({ frames := 7, cells := 1, slots := 6, locals := 106 }) (va_Pc [.ref o, .int site, .int is, .ref q] (CX (dC, dI) kA eD b g)) (va_Qi (fun (r : Int32) (u : Gh) => (r = 0 ∧ ∃ (rv : Int32) (v8 : Gh), ((∀ a : Nat, tg g a ≠ 0 → tg v8 a = tg g a) ∧ ∃ j a, site = nI j ∧ (j : Int) < (pI g o 0).toInt ∧ pO g (pF g o 2) j = some a ∧ rv = pI g a 0 ∧ v8 = sI g a 0 is) ∧ u = uL v8 q (vp_updL (pL v8 q) 0 (if rv = 0 then 0 else 1))) ∨ (r = 1 ∧ (¬ (0 ≤ site.toInt ∧ site.toInt < (pI g o 0).toInt)) ∧ u = g)) (fun (u : Gh) t => CX (dC, dI) kA eD b u t) (fun q => b ≤ q)) 1 6 (fun q => b ≤ q) := by
  refine va_MetW (cc := cL_cover) (maxL := 5) (ret := (some .int)) (hh := [(0, 17, 20, 54)]) (by decide +kernel) rfl ?_
  intro p e s m args below meth c s₁ B hml hv
  obtain ⟨rfl, hb0, hM, hK, hG, hE⟩ := hv
  have hx := B.exec
  have hb := B.bytes
  have hr := B.returns
  have hts := atoms_spec (ws := wsL_cover) B.pre
  have hown : s.vm.findClass RL = some m.cls := findClass_of_methodNamed B.named
  have hlocks := B.notSynchronized
  have htab : c.exceptionTable.toList = tableOf [(0, 17, 20, 54)] := vx_table (x := yL_cover) B (hts _ List.mem_cons_self)
  have hT := hE.1
  have hN := hE.2.2.2.2.2.2.2.1
  have hS : va_S (fun q => b ≤ q) s.heap s.heap [] := va_S.rf
  have hl := lv_entry ([.ref o, .int site, .int is, .ref q]) (n := 5) (Nat.le_of_ble_eq_true rfl)
  rw [lg_entry_eq]
  generalize (lg_sl ([.ref o, .int site, .int is, .ref q]) ++ List.replicate (5 - (lg_sl ([.ref o, .int site, .int is, .ref q])).length) Slot.unset).toArray = ls at hl ⊢
  have hl : lv_has ls 5 [(0, .ref o), (1, .int site), (2, .int is), (3, .ref q)] := hl
  generalize ([.ref o, .int site, .int is, .ref q] : List Value).toArray = args at hts ⊢
  refine lv_aload_n hx hb dL_cover_0 rfl (lv_at hl 3 rfl) ?_
  refine lv_iconst (v := 0) hx hb dL_cover_1 (by decide) ?_
  refine lv_aload_n hx hb dL_cover_2 rfl (lv_at hl 0 rfl) ?_
  refine lv_iload_n hx hb dL_cover_3 rfl (lv_at hl 1 rfl) ?_
  refine lv_iload_n hx hb dL_cover_4 rfl (lv_at hl 2 rfl) ?_
  obtain ⟨u1, u2, u3, u4, hP, hf⟩ := o_sno (i := 0) (q := o) hM (by omega)
  refine vx_calli (vx_runV (As := [.int site, .int is]) (rest := [.int 0, .ref q]) ⟨hx, hb, hml, hown, hts⟩ (rf_cover l hlt dC dI kA eD b g o site is (by omega) his) (cwV 2 hts gL_cover_X3_cover rfl rfl rfl (by decide +kernel) ⟨Nat.le_of_ble_eq_true rfl, Nat.le_of_ble_eq_true rfl⟩) ⟨fb_CX, va_recv hK hP (ci := 7) (q0 := 0) rfl rfl, fun U hU hW => ⟨rfl, CX.give hb0 hM hK hG hE hS hU hW⟩⟩ rfl rfl hl.1 rfl (lv_room (Nat.le_of_ble_eq_true rfl)) dL_cover_5 ⟨(Nat.le_of_ble_eq_true rfl), (Nat.le_of_ble_eq_true rfl)⟩) hS (fun q _ h => h) (fun q h => h) (fun q _ h => h) (fun E ce q9 u9 t H locs ht hvm hpx hBX hz1 hk1 hS hcell hvn hcl => ?_) (fun r5 g7 t H locs ht hvm hw6 hB hz1 hk1 hS => ?_)
  · skip
    have hM : TM (dC, dI) kA b g H := by rw [← ht]; exact hBX.2
    obtain ⟨rfl, hno⟩ := hBX.1
    refine vx_catch (E := "java/lang/IndexOutOfBoundsException") (name := "java/lang/IndexOutOfBoundsException") hown [] ⟨0, 17, 20, 54⟩ [] (by rw [htab]; rfl) (fun z hz => absurd hz List.not_mem_nil) rfl (by decide) (hts (.classLink RL 54 "java/lang/IndexOutOfBoundsException") (by decide +kernel)) (th_any (a := #[]) rfl (hT.1 (.castable "java/lang/IndexOutOfBoundsException" "java/lang/IndexOutOfBoundsException") (by decide +kernel))) hcell hvn hcl ?_
    refine W.eq (g2 := F0 m 20 ls [.ref q9]) rfl ?_
    refine lv_astore (lv' := [(4, .ref q9), (0, .ref o), (1, .int site), (2, .int is), (3, .ref q)]) hx hb dL_cover_20 hl (by decide) rfl (fun ls hl => ?_)
    refine lv_iconst (v := 1) hx hb dL_cover_22 (by decide) ?_
    refine W.widen (k := 1) (n := 6) (Nat.le_of_ble_eq_true rfl) (Nat.le_of_ble_eq_true rfl) ?_
    exact W.iret (v := 1) hx hb hr (fun t ht hW => ⟨⟨1, g, rfl, (Or.inr (⟨rfl, hno, rfl⟩)), CX.give hb0 hM hK hG hE hS ht hW⟩, hS.F ht⟩) hS.2.2 dL_cover_23
  · skip
    have hM := hB.back ht
    have hG := hB.2.2.2.1
    have hkt : ∀ a : Nat, tg g a ≠ 0 → tg g7 a = tg g a := hw6.1
    have ht8 : tg g7 o = 1 := (hkt o (by omega)).trans hto
    have ht9 : tg g7 q = 34 := (hkt q (by omega)).trans htq
    refine lv_if_eq (tgt := 15) hx hb dL_cover_8 (by decide) (fun c10 => ?_) (fun c10 => ?_)
    · skip
      refine lv_lconst (v := 0) hx hb dL_cover_15 (by decide) ?_
      obtain ⟨hP, hf⟩ := o_ou (i := 0) (q := q) hM (by omega)
      refine rt_last (D := (dC, dI)) (t0 := 3) hx hb hK hP (hM.ge (by omega)) hS rfl (by unfold vp_in; decide) dL_cover_16 (fun H locs hP hz ho hS => ?_)
      have ec : (0 : Int32).toNatClampNeg = 0 := by decide
      rw [ec] at hP
      have hM0 := hM
      have hM := p_ou (i := 0) (f := vp_updL (pL g7 q) 0 0) hM (by omega) hP ho hf
      obtain ⟨g11, hg11⟩ : ∃ z, z = uL g7 q (vp_updL (pL g7 q) 0 0) := ⟨_, rfl⟩
      rw [← hg11] at hM
      have ht12 : tg g11 o = 1 := by rw [hg11]; exact ht8
      have ht13 : tg g11 q = 34 := by rw [hg11]; exact ht9
      have hG : GOK g11 := by rw [hg11]; exact (hG.uL hM0)
      refine lv_goto (tgt := 24) hx hb dL_cover_17 (by decide) ?_
      refine lv_iconst (v := 0) hx hb dL_cover_24 (by decide) ?_
      refine W.widen (k := 1) (n := 6) (Nat.le_of_ble_eq_true rfl) (Nat.le_of_ble_eq_true rfl) ?_
      exact W.iret (v := 0) hx hb hr (fun t ht hW => ⟨⟨0, g11, rfl, (Or.inl ⟨rfl, r5, g7, hw6, by rw [hg11, if_pos c10]⟩), CX.give hb0 hM hK hG hE hS ht hW⟩, hS.F ht⟩) hS.2.2 dL_cover_25
    · skip
      refine lv_lconst (v := 1) hx hb dL_cover_11 (by decide) ?_
      refine lv_goto (tgt := 16) hx hb dL_cover_12 (by decide) ?_
      obtain ⟨hP, hf⟩ := o_ou (i := 0) (q := q) hM (by omega)
      refine rt_last (D := (dC, dI)) (t0 := 3) hx hb hK hP (hM.ge (by omega)) hS rfl (by unfold vp_in; decide) dL_cover_16 (fun H locs hP hz ho hS => ?_)
      have ec : (0 : Int32).toNatClampNeg = 0 := by decide
      rw [ec] at hP
      have hM0 := hM
      have hM := p_ou (i := 0) (f := vp_updL (pL g7 q) 0 1) hM (by omega) hP ho hf
      obtain ⟨g15, hg15⟩ : ∃ z, z = uL g7 q (vp_updL (pL g7 q) 0 1) := ⟨_, rfl⟩
      rw [← hg15] at hM
      have ht16 : tg g15 o = 1 := by rw [hg15]; exact ht8
      have ht17 : tg g15 q = 34 := by rw [hg15]; exact ht9
      have hG : GOK g15 := by rw [hg15]; exact (hG.uL hM0)
      refine lv_goto (tgt := 24) hx hb dL_cover_17 (by decide) ?_
      refine lv_iconst (v := 0) hx hb dL_cover_24 (by decide) ?_
      refine W.widen (k := 1) (n := 6) (Nat.le_of_ble_eq_true rfl) (Nat.le_of_ble_eq_true rfl) ?_
      exact W.iret (v := 0) hx hb hr (fun t ht hW => ⟨⟨0, g15, rfl, (Or.inl ⟨rfl, r5, g7, hw6, by rw [hg15, if_neg c10]⟩), CX.give hb0 hM hK hG hE hS ht hW⟩, hS.F ht⟩) hS.2.2 dL_cover_25

set_option maxHeartbeats 4000000 in
set_option maxRecDepth 100000 in
theorem rh_lamp (l : Launch) (hlt : l.stackTraces = false) (dC : Nat → ClassId) (dI : Nat → Nat → Nat) (kA : Nat → ClassId) (eD b : Nat) (g : Gh) (o q : Nat) (p0 : Int32) (p1 : Int32) (p2 : Int32) (p3 : Int32)  (hto : tg g o = 1) (htq : tg g q = 34) : Met l yL_lamp wzL_lamp ({ frames := 7, cells := 1, slots := 6, locals := 109 }) (va_Pc [.ref o, .int p0, .int p1, .int p2, .int p3, .ref q] (CX (dC, dI) kA eD b g)) (va_Qi (fun (r : Int32) (u : Gh) => ∃ f, u = uL g q f) (fun (u : Gh) t => CX (dC, dI) kA eD b u t) (fun q => b ≤ q)) 1 6 (fun q => b ≤ q) := by
  refine va_MetW (cc := cL_lamp) (maxL := 7) (ret := (some .int)) (hh := [(0, 21, 24, 54), (0, 21, 28, 64), (0, 21, 32, 15)]) (by decide +kernel) rfl ?_
  intro p e s m args below meth c s₁ B hml hv
  obtain ⟨rfl, hb0, hM, hK, hG, hE⟩ := hv
  have hx := B.exec
  have hb := B.bytes
  have hr := B.returns
  have hts := atoms_spec (ws := wzL_lamp) B.pre
  have hown : s.vm.findClass RL = some m.cls := findClass_of_methodNamed B.named
  have hlocks := B.notSynchronized
  have htab : c.exceptionTable.toList = tableOf [(0, 21, 24, 54), (0, 21, 28, 64), (0, 21, 32, 15)] := vx_table (x := yL_lamp) B (hts _ List.mem_cons_self)
  have hT := hE.1
  have hN := hE.2.2.2.2.2.2.2.1
  have hS : va_S (fun q => b ≤ q) s.heap s.heap [] := va_S.rf
  have hl := lv_entry ([.ref o, .int p0, .int p1, .int p2, .int p3, .ref q]) (n := 7) (Nat.le_of_ble_eq_true rfl)
  rw [lg_entry_eq]
  generalize (lg_sl ([.ref o, .int p0, .int p1, .int p2, .int p3, .ref q]) ++ List.replicate (7 - (lg_sl ([.ref o, .int p0, .int p1, .int p2, .int p3, .ref q])).length) Slot.unset).toArray = ls at hl ⊢
  have hl : lv_has ls 7 [(0, .ref o), (1, .int p0), (2, .int p1), (3, .int p2), (4, .int p3), (5, .ref q)] := hl
  generalize ([.ref o, .int p0, .int p1, .int p2, .int p3, .ref q] : List Value).toArray = args at hts ⊢
  refine W.q (fun Q hQ => ?_)
  refine lv_aload hx hb dL_lamp_0 (lv_at hl 5 rfl) ?_
  refine lv_iconst (v := 0) hx hb dL_lamp_2 (by decide) ?_
  refine lv_aload_n hx hb dL_lamp_3 rfl (lv_at hl 0 rfl) ?_
  refine lv_iload_n hx hb dL_lamp_4 rfl (lv_at hl 1 rfl) ?_
  refine lv_iload_n hx hb dL_lamp_5 rfl (lv_at hl 2 rfl) ?_
  refine lv_iload_n hx hb dL_lamp_6 rfl (lv_at hl 3 rfl) ?_
  refine lv_iload hx hb dL_lamp_7 (lv_at hl 4 rfl) ?_
  obtain ⟨u1, u2, u3, u4, hP, hf⟩ := o_sno (i := 0) (q := o) hM (by omega)
  refine vx_calli (vx_runV (As := [.int p0, .int p1, .int p2, .int p3]) (rest := [.int 0, .ref q]) ⟨hx, hb, hml, hown, hts⟩ (rf_lamp l hlt dC dI kA eD b g o p0 p1 p2 p3 (by omega)) (cwV 4 hts gL_lamp_X3_lamp rfl rfl rfl (by decide +kernel) ⟨Nat.le_of_ble_eq_true rfl, Nat.le_of_ble_eq_true rfl⟩) ⟨fb_CX, va_recv hK hP (ci := 7) (q0 := 0) rfl rfl, fun U hU hW => ⟨rfl, CX.give hb0 hM hK hG hE hS hU hW⟩⟩ rfl rfl hl.1 rfl (lv_room (Nat.le_of_ble_eq_true rfl)) dL_lamp_9 ⟨(Nat.le_of_ble_eq_true rfl), (Nat.le_of_ble_eq_true rfl)⟩) hS (fun q _ h => h) (fun q h => h) (fun q _ h => h) (fun E ce q9 u9 t H locs ht hvm hpx hBX hz1 hk1 hS hcell hvn hcl => ?_) (fun r5 u t H locs ht hvm hw6 hB hz1 hk1 hS => ?_)
  · skip
    have hM : TM (dC, dI) kA b g H := by rw [← ht]; exact hBX.2
    rcases hBX.1 with rfl | rfl | rfl
    · skip
      refine vx_catch (E := "java/lang/IndexOutOfBoundsException") (name := "java/lang/IndexOutOfBoundsException") hown [] ⟨0, 21, 24, 54⟩ [⟨0, 21, 28, 64⟩, ⟨0, 21, 32, 15⟩] (by rw [htab]; rfl) (fun z hz => absurd hz List.not_mem_nil) rfl (by decide) (hts (.classLink RL 54 "java/lang/IndexOutOfBoundsException") (by decide +kernel)) (th_any (a := #[]) rfl (hT.1 (.castable "java/lang/IndexOutOfBoundsException" "java/lang/IndexOutOfBoundsException") (by decide +kernel))) hcell hvn hcl ?_
      refine W.eq (g2 := F0 m 24 ls [.ref q9]) rfl ?_
      refine lv_astore (lv' := [(6, .ref q9), (0, .ref o), (1, .int p0), (2, .int p1), (3, .int p2), (4, .int p3), (5, .ref q)]) hx hb dL_lamp_24 hl (by decide) rfl (fun ls hl => ?_)
      refine lv_iconst (v := 1) hx hb dL_lamp_26 (by decide) ?_
      subst hQ
      refine W.widen (k := 1) (n := 6) (Nat.le_of_ble_eq_true rfl) (Nat.le_of_ble_eq_true rfl) ?_
      exact W.iret (v := 1) hx hb hr (fun t ht hW => ⟨⟨1, g, rfl, (⟨pL g q, (uL_id rfl).symm⟩), CX.give hb0 hM hK hG hE hS ht hW⟩, hS.F ht⟩) hS.2.2 dL_lamp_27
    · skip
      refine vx_catch (E := "java/util/NoSuchElementException") (name := "java/util/NoSuchElementException") hown [⟨0, 21, 24, 54⟩] ⟨0, 21, 28, 64⟩ [⟨0, 21, 32, 15⟩] (by rw [htab]; rfl) (fun z hz => by rcases List.mem_singleton.mp hz with rfl; exact Or.inr ⟨by decide, _, hts (.classLink RL 54 "java/lang/IndexOutOfBoundsException") (by decide +kernel), hT.2.2.1 ("java/util/NoSuchElementException", "java/lang/IndexOutOfBoundsException") (by decide +kernel)⟩) rfl (by decide) (hts (.classLink RL 64 "java/util/NoSuchElementException") (by decide +kernel)) (th_any (a := #[]) rfl (hT.1 (.castable "java/util/NoSuchElementException" "java/util/NoSuchElementException") (by decide +kernel))) hcell hvn hcl ?_
      refine W.eq (g2 := F0 m 28 ls [.ref q9]) rfl ?_
      refine lv_astore (lv' := [(6, .ref q9), (0, .ref o), (1, .int p0), (2, .int p1), (3, .int p2), (4, .int p3), (5, .ref q)]) hx hb dL_lamp_28 hl (by decide) rfl (fun ls hl => ?_)
      refine lv_iconst (v := 2) hx hb dL_lamp_30 (by decide) ?_
      subst hQ
      refine W.widen (k := 1) (n := 6) (Nat.le_of_ble_eq_true rfl) (Nat.le_of_ble_eq_true rfl) ?_
      exact W.iret (v := 2) hx hb hr (fun t ht hW => ⟨⟨2, g, rfl, (⟨pL g q, (uL_id rfl).symm⟩), CX.give hb0 hM hK hG hE hS ht hW⟩, hS.F ht⟩) hS.2.2 dL_lamp_31
    · skip
      refine vx_catch (E := "java/lang/UnsupportedOperationException") (name := "java/lang/UnsupportedOperationException") hown [⟨0, 21, 24, 54⟩, ⟨0, 21, 28, 64⟩] ⟨0, 21, 32, 15⟩ [] (by rw [htab]; rfl) (fun z hz => by simp only [List.mem_cons, List.not_mem_nil, or_false] at hz; rcases hz with rfl | rfl <;> first | exact Or.inr ⟨by decide, _, hts (.classLink RL 54 "java/lang/IndexOutOfBoundsException") (by decide +kernel), hT.2.2.1 ("java/lang/UnsupportedOperationException", "java/lang/IndexOutOfBoundsException") (by decide +kernel)⟩ | exact Or.inr ⟨by decide, _, hts (.classLink RL 64 "java/util/NoSuchElementException") (by decide +kernel), hT.2.2.1 ("java/lang/UnsupportedOperationException", "java/util/NoSuchElementException") (by decide +kernel)⟩) rfl (by decide) (hts (.classLink RL 15 "java/lang/UnsupportedOperationException") (by decide +kernel)) (th_any (a := #[]) rfl (hT.1 (.castable "java/lang/UnsupportedOperationException" "java/lang/UnsupportedOperationException") (by decide +kernel))) hcell hvn hcl ?_
      refine W.eq (g2 := F0 m 32 ls [.ref q9]) rfl ?_
      refine lv_astore (lv' := [(6, .ref q9), (0, .ref o), (1, .int p0), (2, .int p1), (3, .int p2), (4, .int p3), (5, .ref q)]) hx hb dL_lamp_32 hl (by decide) rfl (fun ls hl => ?_)
      refine lv_iconst (v := 3) hx hb dL_lamp_34 (by decide) ?_
      subst hQ
      refine W.widen (k := 1) (n := 6) (Nat.le_of_ble_eq_true rfl) (Nat.le_of_ble_eq_true rfl) ?_
      exact W.iret (v := 3) hx hb hr (fun t ht hW => ⟨⟨3, g, rfl, (⟨pL g q, (uL_id rfl).symm⟩), CX.give hb0 hM hK hG hE hS ht hW⟩, hS.F ht⟩) hS.2.2 dL_lamp_35
  · skip
    have hM := hB.back ht
    have hG := hB.2.2.2.1
    have jn8 : ∀ (x7 : Int64) (H : Heap) (locs : List Loc) (ls : Array Slot), TM (dC, dI) kA b g H → va_S (fun q => b ≤ q) s.heap H locs → lv_has ls 7 [(0, .ref o), (1, .int p0), (2, .int p1), (3, .int p2), (4, .int p3), (5, .ref q)] → W p l e (headSpec wzL_lamp ({ frames := 7, cells := 1, slots := 6, locals := 109 })).room s m args below meth c H locs 1 6 Q (F0 m 20 ls [.long x7, .int 0, .ref q]) := by
      intro x7 H locs ls hM hS hl
      obtain ⟨hP, hf⟩ := o_ou (i := 0) (q := q) hM (by omega)
      refine rt_last (D := (dC, dI)) (t0 := 3) hx hb hK hP (hM.ge (by omega)) hS rfl (by unfold vp_in; decide) dL_lamp_20 (fun H locs hP hz ho hS => ?_)
      have ec : (0 : Int32).toNatClampNeg = 0 := by decide
      rw [ec] at hP
      have hM0 := hM
      have hM := p_ou (i := 0) (f := vp_updL (pL g q) 0 x7) hM (by omega) hP ho hf
      obtain ⟨g9, hg9⟩ : ∃ z, z = uL g q (vp_updL (pL g q) 0 x7) := ⟨_, rfl⟩
      rw [← hg9] at hM
      have ht10 : tg g9 o = 1 := by rw [hg9]; exact hto
      have ht11 : tg g9 q = 34 := by rw [hg9]; exact htq
      have hG : GOK g9 := by rw [hg9]; exact (hG.uL hM0)
      refine lv_goto (tgt := 36) hx hb dL_lamp_21 (by decide) ?_
      refine lv_iconst (v := 0) hx hb dL_lamp_36 (by decide) ?_
      subst hQ
      refine W.widen (k := 1) (n := 6) (Nat.le_of_ble_eq_true rfl) (Nat.le_of_ble_eq_true rfl) ?_
      exact W.iret (v := 0) hx hb hr (fun t ht hW => ⟨⟨0, g9, rfl, (⟨_, by rw [hg9]⟩), CX.give hb0 hM hK hG hE hS ht hW⟩, hS.F ht⟩) hS.2.2 dL_lamp_37
    refine lv_if_eq (tgt := 19) hx hb dL_lamp_12 (by decide) (fun c13 => ?_) (fun c13 => ?_)
    · skip
      refine lv_lconst (v := 0) hx hb dL_lamp_19 (by decide) ?_
      exact jn8 0 H _ ls hM hS (lv_sub hl [0, 1, 2, 3, 4, 5] rfl)
    · skip
      refine lv_lconst (v := 1) hx hb dL_lamp_15 (by decide) ?_
      refine lv_goto (tgt := 20) hx hb dL_lamp_16 (by decide) ?_
      exact jn8 1 H _ ls hM hS (lv_sub hl [0, 1, 2, 3, 4, 5] rfl)

set_option maxHeartbeats 4000000 in
set_option maxRecDepth 100000 in
theorem rh_lightBits (l : Launch) (hlt : l.stackTraces = false) (dC : Nat → ClassId) (dI : Nat → Nat → Nat) (kA : Nat → ClassId) (eD b : Nat) (g : Gh) (o q : Nat) (p0 : Int32) (p1 : Int32) (p2 : Int32)  (hto : tg g o = 1) (htq : tg g q = 34) : Met l yL_lightBits wsL_lightBits ({ frames := 7, cells := 1, slots := 6, locals := 106 }) (va_Pc [.ref o, .int p0, .int p1, .int p2, .ref q] (CX (dC, dI) kA eD b g)) (va_Qi (fun (r : Int32) (u : Gh) => ∃ f, u = uL g q f) (fun (u : Gh) t => CX (dC, dI) kA eD b u t) (fun q => b ≤ q)) 1 6 (fun q => b ≤ q) := by
  refine va_MetW (cc := cL_lightBits) (maxL := 6) (ret := (some .int)) (hh := [(0, 12, 15, 54)]) (by decide +kernel) rfl ?_
  intro p e s m args below meth c s₁ B hml hv
  obtain ⟨rfl, hb0, hM, hK, hG, hE⟩ := hv
  have hx := B.exec
  have hb := B.bytes
  have hr := B.returns
  have hts := atoms_spec (ws := wsL_lightBits) B.pre
  have hown : s.vm.findClass RL = some m.cls := findClass_of_methodNamed B.named
  have hlocks := B.notSynchronized
  have htab : c.exceptionTable.toList = tableOf [(0, 12, 15, 54)] := vx_table (x := yL_lightBits) B (hts _ List.mem_cons_self)
  have hT := hE.1
  have hN := hE.2.2.2.2.2.2.2.1
  have hS : va_S (fun q => b ≤ q) s.heap s.heap [] := va_S.rf
  have hl := lv_entry ([.ref o, .int p0, .int p1, .int p2, .ref q]) (n := 6) (Nat.le_of_ble_eq_true rfl)
  rw [lg_entry_eq]
  generalize (lg_sl ([.ref o, .int p0, .int p1, .int p2, .ref q]) ++ List.replicate (6 - (lg_sl ([.ref o, .int p0, .int p1, .int p2, .ref q])).length) Slot.unset).toArray = ls at hl ⊢
  have hl : lv_has ls 6 [(0, .ref o), (1, .int p0), (2, .int p1), (3, .int p2), (4, .ref q)] := hl
  generalize ([.ref o, .int p0, .int p1, .int p2, .ref q] : List Value).toArray = args at hts ⊢
  refine lv_aload hx hb dL_lightBits_0 (lv_at hl 4 rfl) ?_
  refine lv_iconst (v := 0) hx hb dL_lightBits_2 (by decide) ?_
  refine lv_aload_n hx hb dL_lightBits_3 rfl (lv_at hl 0 rfl) ?_
  refine lv_iload_n hx hb dL_lightBits_4 rfl (lv_at hl 1 rfl) ?_
  refine lv_iload_n hx hb dL_lightBits_5 rfl (lv_at hl 2 rfl) ?_
  refine lv_iload_n hx hb dL_lightBits_6 rfl (lv_at hl 3 rfl) ?_
  obtain ⟨u1, u2, u3, u4, hP, hf⟩ := o_sno (i := 0) (q := o) hM (by omega)
  refine vx_calli (vx_runV (As := [.int p0, .int p1, .int p2]) (rest := [.int 0, .ref q]) ⟨hx, hb, hml, hown, hts⟩ (rf_lightBits l hlt dC dI kA eD b g o p0 p1 p2 (by omega)) (cwV 3 hts gL_lightBits_X3_lightBits rfl rfl rfl (by decide +kernel) ⟨Nat.le_of_ble_eq_true rfl, Nat.le_of_ble_eq_true rfl⟩) ⟨fb_CX, va_recv hK hP (ci := 7) (q0 := 0) rfl rfl, fun U hU hW => ⟨rfl, CX.give hb0 hM hK hG hE hS hU hW⟩⟩ rfl rfl hl.1 rfl (lv_room (Nat.le_of_ble_eq_true rfl)) dL_lightBits_7 ⟨(Nat.le_of_ble_eq_true rfl), (Nat.le_of_ble_eq_true rfl)⟩) hS (fun q _ h => h) (fun q h => h) (fun q _ h => h) (fun E ce q9 u9 t H locs ht hvm hpx hBX hz1 hk1 hS hcell hvn hcl => ?_) (fun r5 u t H locs ht hvm hw6 hB hz1 hk1 hS => ?_)
  · skip
    have hM : TM (dC, dI) kA b g H := by rw [← ht]; exact hBX.2
    obtain rfl := hBX.1
    refine vx_catch (E := "java/lang/IndexOutOfBoundsException") (name := "java/lang/IndexOutOfBoundsException") hown [] ⟨0, 12, 15, 54⟩ [] (by rw [htab]; rfl) (fun z hz => absurd hz List.not_mem_nil) rfl (by decide) (hts (.classLink RL 54 "java/lang/IndexOutOfBoundsException") (by decide +kernel)) (th_any (a := #[]) rfl (hT.1 (.castable "java/lang/IndexOutOfBoundsException" "java/lang/IndexOutOfBoundsException") (by decide +kernel))) hcell hvn hcl ?_
    refine W.eq (g2 := F0 m 15 ls [.ref q9]) rfl ?_
    refine lv_astore (lv' := [(5, .ref q9), (0, .ref o), (1, .int p0), (2, .int p1), (3, .int p2), (4, .ref q)]) hx hb dL_lightBits_15 hl (by decide) rfl (fun ls hl => ?_)
    refine lv_iconst (v := 1) hx hb dL_lightBits_17 (by decide) ?_
    refine W.widen (k := 1) (n := 6) (Nat.le_of_ble_eq_true rfl) (Nat.le_of_ble_eq_true rfl) ?_
    exact W.iret (v := 1) hx hb hr (fun t ht hW => ⟨⟨1, g, rfl, (⟨pL g q, (uL_id rfl).symm⟩), CX.give hb0 hM hK hG hE hS ht hW⟩, hS.F ht⟩) hS.2.2 dL_lightBits_18
  · skip
    have hM := hB.back ht
    have hG := hB.2.2.2.1
    refine lv_i2l hx hb dL_lightBits_10 rfl ?_
    obtain ⟨hP, hf⟩ := o_ou (i := 0) (q := q) hM (by omega)
    refine rt_last (D := (dC, dI)) (t0 := 3) hx hb hK hP (hM.ge (by omega)) hS rfl (by unfold vp_in; decide) dL_lightBits_11 (fun H locs hP hz ho hS => ?_)
    have ec : (0 : Int32).toNatClampNeg = 0 := by decide
    rw [ec] at hP
    have hM0 := hM
    have hM := p_ou (i := 0) (f := vp_updL (pL g q) 0 r5.toInt64) hM (by omega) hP ho hf
    obtain ⟨g7, hg7⟩ : ∃ z, z = uL g q (vp_updL (pL g q) 0 r5.toInt64) := ⟨_, rfl⟩
    rw [← hg7] at hM
    have ht8 : tg g7 o = 1 := by rw [hg7]; exact hto
    have ht9 : tg g7 q = 34 := by rw [hg7]; exact htq
    have hG : GOK g7 := by rw [hg7]; exact (hG.uL hM0)
    refine lv_goto (tgt := 19) hx hb dL_lightBits_12 (by decide) ?_
    refine lv_iconst (v := 0) hx hb dL_lightBits_19 (by decide) ?_
    refine W.widen (k := 1) (n := 6) (Nat.le_of_ble_eq_true rfl) (Nat.le_of_ble_eq_true rfl) ?_
    exact W.iret (v := 0) hx hb hr (fun t ht hW => ⟨⟨0, g7, rfl, (⟨_, by rw [hg7]⟩), CX.give hb0 hM hK hG hE hS ht hW⟩, hS.F ht⟩) hS.2.2 dL_lightBits_20

set_option maxHeartbeats 4000000 in
set_option maxRecDepth 100000 in
theorem rh_isOpen (l : Launch) (hlt : l.stackTraces = false) (dC : Nat → ClassId) (dI : Nat → Nat → Nat) (kA : Nat → ClassId) (eD b : Nat) (g : Gh) (o q : Nat) (p0 : Int32)  (hto : tg g o = 1) (htq : tg g q = 34) : Met l yL_isOpen wsL_isOpen ({ frames := 7, cells := 1, slots := 6, locals := 116 }) (va_Pc [.ref o, .int p0, .ref q] (CX (dC, dI) kA eD b g)) (va_Qi (fun (r : Int32) (u : Gh) => ∃ f, u = uL g q f) (fun (u : Gh) t => CX (dC, dI) kA eD b u t) (fun q => b ≤ q)) 1 6 (fun q => b ≤ q) := by
  refine va_MetW (cc := cL_isOpen) (maxL := 4) (ret := (some .int)) (hh := [(0, 16, 19, 54)]) (by decide +kernel) rfl ?_
  intro p e s m args below meth c s₁ B hml hv
  obtain ⟨rfl, hb0, hM, hK, hG, hE⟩ := hv
  have hx := B.exec
  have hb := B.bytes
  have hr := B.returns
  have hts := atoms_spec (ws := wsL_isOpen) B.pre
  have hown : s.vm.findClass RL = some m.cls := findClass_of_methodNamed B.named
  have hlocks := B.notSynchronized
  have htab : c.exceptionTable.toList = tableOf [(0, 16, 19, 54)] := vx_table (x := yL_isOpen) B (hts _ List.mem_cons_self)
  have hT := hE.1
  have hN := hE.2.2.2.2.2.2.2.1
  have hS : va_S (fun q => b ≤ q) s.heap s.heap [] := va_S.rf
  have hl := lv_entry ([.ref o, .int p0, .ref q]) (n := 4) (Nat.le_of_ble_eq_true rfl)
  rw [lg_entry_eq]
  generalize (lg_sl ([.ref o, .int p0, .ref q]) ++ List.replicate (4 - (lg_sl ([.ref o, .int p0, .ref q])).length) Slot.unset).toArray = ls at hl ⊢
  have hl : lv_has ls 4 [(0, .ref o), (1, .int p0), (2, .ref q)] := hl
  generalize ([.ref o, .int p0, .ref q] : List Value).toArray = args at hts ⊢
  refine W.q (fun Q hQ => ?_)
  refine lv_aload_n hx hb dL_isOpen_0 rfl (lv_at hl 2 rfl) ?_
  refine lv_iconst (v := 0) hx hb dL_isOpen_1 (by decide) ?_
  refine lv_aload_n hx hb dL_isOpen_2 rfl (lv_at hl 0 rfl) ?_
  refine lv_iload_n hx hb dL_isOpen_3 rfl (lv_at hl 1 rfl) ?_
  obtain ⟨u1, u2, u3, u4, hP, hf⟩ := o_sno (i := 0) (q := o) hM (by omega)
  refine vx_calli (vx_runV (As := [.int p0]) (rest := [.int 0, .ref q]) ⟨hx, hb, hml, hown, hts⟩ (rf_isOpen l hlt dC dI kA eD b g o p0 (by omega)) (cwV 1 hts gL_isOpen_X3_isOpen rfl rfl rfl (by decide +kernel) ⟨Nat.le_of_ble_eq_true rfl, Nat.le_of_ble_eq_true rfl⟩) ⟨fb_CX, va_recv hK hP (ci := 7) (q0 := 0) rfl rfl, fun U hU hW => ⟨rfl, CX.give hb0 hM hK hG hE hS hU hW⟩⟩ rfl rfl hl.1 rfl (lv_room (Nat.le_of_ble_eq_true rfl)) dL_isOpen_4 ⟨(Nat.le_of_ble_eq_true rfl), (Nat.le_of_ble_eq_true rfl)⟩) hS (fun q _ h => h) (fun q h => h) (fun q _ h => h) (fun E ce q9 u9 t H locs ht hvm hpx hBX hz1 hk1 hS hcell hvn hcl => ?_) (fun r5 u t H locs ht hvm hw6 hB hz1 hk1 hS => ?_)
  · skip
    have hM : TM (dC, dI) kA b g H := by rw [← ht]; exact hBX.2
    obtain rfl := hBX.1
    refine vx_catch (E := "java/lang/IndexOutOfBoundsException") (name := "java/lang/IndexOutOfBoundsException") hown [] ⟨0, 16, 19, 54⟩ [] (by rw [htab]; rfl) (fun z hz => absurd hz List.not_mem_nil) rfl (by decide) (hts (.classLink RL 54 "java/lang/IndexOutOfBoundsException") (by decide +kernel)) (th_any (a := #[]) rfl (hT.1 (.castable "java/lang/IndexOutOfBoundsException" "java/lang/IndexOutOfBoundsException") (by decide +kernel))) hcell hvn hcl ?_
    refine W.eq (g2 := F0 m 19 ls [.ref q9]) rfl ?_
    refine lv_astore_n (lv' := [(3, .ref q9), (0, .ref o), (1, .int p0), (2, .ref q)]) hx hb dL_isOpen_19 rfl hl (by decide) rfl (fun ls hl => ?_)
    refine lv_iconst (v := 1) hx hb dL_isOpen_20 (by decide) ?_
    subst hQ
    refine W.widen (k := 1) (n := 6) (Nat.le_of_ble_eq_true rfl) (Nat.le_of_ble_eq_true rfl) ?_
    exact W.iret (v := 1) hx hb hr (fun t ht hW => ⟨⟨1, g, rfl, (⟨pL g q, (uL_id rfl).symm⟩), CX.give hb0 hM hK hG hE hS ht hW⟩, hS.F ht⟩) hS.2.2 dL_isOpen_21
  · skip
    have hM := hB.back ht
    have hG := hB.2.2.2.1
    have jn8 : ∀ (x7 : Int64) (H : Heap) (locs : List Loc) (ls : Array Slot), TM (dC, dI) kA b g H → va_S (fun q => b ≤ q) s.heap H locs → lv_has ls 4 [(0, .ref o), (1, .int p0), (2, .ref q)] → W p l e (headSpec wsL_isOpen ({ frames := 7, cells := 1, slots := 6, locals := 116 })).room s m args below meth c H locs 1 6 Q (F0 m 15 ls [.long x7, .int 0, .ref q]) := by
      intro x7 H locs ls hM hS hl
      obtain ⟨hP, hf⟩ := o_ou (i := 0) (q := q) hM (by omega)
      refine rt_last (D := (dC, dI)) (t0 := 3) hx hb hK hP (hM.ge (by omega)) hS rfl (by unfold vp_in; decide) dL_isOpen_15 (fun H locs hP hz ho hS => ?_)
      have ec : (0 : Int32).toNatClampNeg = 0 := by decide
      rw [ec] at hP
      have hM0 := hM
      have hM := p_ou (i := 0) (f := vp_updL (pL g q) 0 x7) hM (by omega) hP ho hf
      obtain ⟨g9, hg9⟩ : ∃ z, z = uL g q (vp_updL (pL g q) 0 x7) := ⟨_, rfl⟩
      rw [← hg9] at hM
      have ht10 : tg g9 o = 1 := by rw [hg9]; exact hto
      have ht11 : tg g9 q = 34 := by rw [hg9]; exact htq
      have hG : GOK g9 := by rw [hg9]; exact (hG.uL hM0)
      refine lv_goto (tgt := 22) hx hb dL_isOpen_16 (by decide) ?_
      refine lv_iconst (v := 0) hx hb dL_isOpen_22 (by decide) ?_
      subst hQ
      refine W.widen (k := 1) (n := 6) (Nat.le_of_ble_eq_true rfl) (Nat.le_of_ble_eq_true rfl) ?_
      exact W.iret (v := 0) hx hb hr (fun t ht hW => ⟨⟨0, g9, rfl, (⟨_, by rw [hg9]⟩), CX.give hb0 hM hK hG hE hS ht hW⟩, hS.F ht⟩) hS.2.2 dL_isOpen_23
    refine lv_if_eq (tgt := 14) hx hb dL_isOpen_7 (by decide) (fun c13 => ?_) (fun c13 => ?_)
    · skip
      refine lv_lconst (v := 0) hx hb dL_isOpen_14 (by decide) ?_
      exact jn8 0 H _ ls hM hS (lv_sub hl [0, 1, 2] rfl)
    · skip
      refine lv_lconst (v := 1) hx hb dL_isOpen_10 (by decide) ?_
      refine lv_goto (tgt := 15) hx hb dL_isOpen_11 (by decide) ?_
      exact jn8 1 H _ ls hM hS (lv_sub hl [0, 1, 2] rfl)
