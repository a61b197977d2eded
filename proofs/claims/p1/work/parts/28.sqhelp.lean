set_option maxHeartbeats 4000000 in
set_option maxRecDepth 100000 in
/-- squareBits: its answer, or caught -/
theorem h_squareBits (l : Launch) (hlt : l.stackTraces = false) (dC : Nat → ClassId) (dI : Nat → Nat → Nat) (sz : Nat) (a : Nat → Nat) (cI cS : ClassId) (f : Nat → Nat → Int32) (hF : FX f) (cJ : ClassId) (o : Nat) (g : Nat → Int64) (p0 : Int32) (p1 : Int32) (p2 : Int32)  : Met l yL_squareBits wsL_squareBits ({ frames := 7, cells := 1, slots := 6, locals := 109 }) (va_Pc [.ref (a 0), .int p0, .int p1, .int p2, .ref o] (PT dC dI (wX a cI cS f ++ [(o, .inl (cJ, 1, .inr (.inl g)))]) [(cI, .int), (cS, .object "Snowpalace$Site"), (cJ, .long)] sz)) (va_Qi (fun (r : Int32) (u : Nat → Int64) => (((1 ≤ p0.toInt ∧ p0.toInt ≤ 20) ∧ 5 ≤ p1.toInt ∧ p1.toInt ≤ 60) ∧ r = 0 ∧ u 0 = (if p2 = 0 then sqR false p0.toNatClampNeg p1.toNatClampNeg else sqR true p0.toNatClampNeg p1.toNatClampNeg)) ∨ (¬ ((1 ≤ p0.toInt ∧ p0.toInt ≤ 20) ∧ 5 ≤ p1.toInt ∧ p1.toInt ≤ 60) ∧ r = 1)) (fun (u : Nat → Int64) t => BW dC dI (va_A (wX a cI cS f ++ [(o, .inl (cJ, 1, .inr (.inl g)))]) sz) [(o, .inl (cJ, 1, .inr (.inl u)))] [(cJ, .long)] t) (va_A (wX a cI cS f ++ [(o, .inl (cJ, 1, .inr (.inl g)))]) sz)) 1 6 (va_A (wX a cI cS f ++ [(o, .inl (cJ, 1, .inr (.inl g)))]) sz) := by
  refine va_MetW (cc := cL_squareBits) (maxL := 6) (ret := (some .int)) (hh := [(0, 11, 14, 13)]) (by decide +kernel) rfl ?_
  intro p e s m args below meth c s₁ B hml hv
  obtain ⟨rfl, ⟨hsz, hP, hK, hD0⟩, hT⟩ := hv
  have hx := B.exec
  have hb := B.bytes
  have hr := B.returns
  have hts := atoms_spec (ws := wsL_squareBits) B.pre
  have hown : s.vm.findClass RL = some m.cls := findClass_of_methodNamed B.named
  have hlocks := B.notSynchronized
  have htab : c.exceptionTable.toList = tableOf [(0, 11, 14, 13)] := vx_table (x := yL_squareBits) B (hts _ List.mem_cons_self)
  subst hsz
  have hD := hD0.self (sz := s.heap.size)
  generalize hAe : va_A (wX a cI cS f ++ [(o, .inl (cJ, 1, .inr (.inl g)))]) s.heap.size = A at hD hT ⊢
  have hA : ∀ q : Nat, s.heap.size ≤ q → A q := fun q h => by rw [← hAe]; exact Or.inr h
  have hS : va_S A s.heap s.heap [] := va_S.rf
  have hl := lv_entry ([.ref (a 0), .int p0, .int p1, .int p2, .ref o]) (n := 6) (Nat.le_of_ble_eq_true rfl)
  rw [lg_entry_eq]
  generalize (lg_sl ([.ref (a 0), .int p0, .int p1, .int p2, .ref o]) ++ List.replicate (6 - (lg_sl ([.ref (a 0), .int p0, .int p1, .int p2, .ref o])).length) Slot.unset).toArray = ls at hl ⊢
  have hl : lv_has ls 6 [(0, .ref (a 0)), (1, .int p0), (2, .int p1), (3, .int p2), (4, .ref o)] := hl
  have hN : NS s := hT.ns
  refine lv_aload hx hb dL_squareBits_0 (lv_at hl 4 rfl) ?_
  refine lv_iconst (v := 0) hx hb dL_squareBits_2 (by decide) ?_
  refine lv_aload_n hx hb dL_squareBits_3 rfl (lv_at hl 0 rfl) ?_
  refine lv_iload_n hx hb dL_squareBits_4 rfl (lv_at hl 1 rfl) ?_
  refine lv_iload_n hx hb dL_squareBits_5 rfl (lv_at hl 2 rfl) ?_
  refine lv_iload_n hx hb dL_squareBits_6 rfl (lv_at hl 3 rfl) ?_
  have hFc := va_free (wc := [((a 0), .inr (7, [.ref (a 1), .ref (a 2), .ref (a 3), .int 0, .int 0, .int 0, .int 0, .int 0, .int 0, .int 0])), ((a 1), .inr (6, [.ref (a 4), .ref (a 5), .ref (a 6), .ref (a 7)])), ((a 2), .inr (4, [.ref (a 8), .ref (a 9), .ref (a 10)])), ((a 3), .inl (cS, 3, .inr (.inr (.inr (.inr (fun _ => none)))))), ((a 4), .inl (cI, 21, .inl (f 0))), ((a 5), .inl (cI, 21, .inl (f 1))), ((a 6), .inl (cI, 21, .inl (f 2))), ((a 7), .inl (cI, 21, .inl (f 3))), ((a 8), .inl (cI, 4, .inl (fun _ => 0))), ((a 9), .inl (cI, 4, .inl (fun _ => 0))), ((a 10), .inl (cI, 4, .inl (f 4)))]) hD hS hA [0, 1, 2, 3, 4, 5, 6, 7, 8, 9, 10] rfl
  refine vx_calll (vx_runV (As := [.int p0, .int p1, .int p2]) (rest := [.int 0, .ref o]) ⟨hx, hb, hml, hown, hts⟩ (k_squareBits l hlt dC dI _ a cI cS f hF p0 p1 p2) (cwV 3 hts gL_squareBits_X3_squareBits rfl rfl rfl (by decide +kernel) ⟨Nat.le_of_ble_eq_true rfl, Nat.le_of_ble_eq_true rfl⟩) ⟨fb_PT, va_recv hK hP (ci := 7) (q0 := 0) rfl rfl, fun U hU hW => ⟨rfl, PT.give hP hK hD hS hA hT [0, 1, 2, 3, 4, 5, 6, 7, 8, 9, 10] [0, 1] rfl rfl rfl rfl hU hW⟩⟩ rfl rfl hl.1 rfl (lv_room (Nat.le_of_ble_eq_true rfl)) dL_squareBits_7 ⟨(Nat.le_of_ble_eq_true rfl), (Nat.le_of_ble_eq_true rfl)⟩) hS (fun q _ h => hFc q h) hFc (fun q _ h => hFc q h) (fun E ce q9 u t H locs ht hvm hpx hBX hz1 hk1 hS hcell hvn hcl => ?_) (fun r1 u t H locs ht hvm hw2 hB hz1 hk1 hS => ?_)
  · skip
    obtain rfl := hBX
    obtain ⟨rfl, hno⟩ := hpx
    refine vx_catch (E := "java/lang/IllegalArgumentException") (name := "java/lang/IllegalArgumentException") hown [] ⟨0, 11, 14, 13⟩ [] (by rw [htab]; rfl) (fun z hz => absurd hz List.not_mem_nil) rfl (by decide) (hts (.classLink RL 13 "java/lang/IllegalArgumentException") (by decide +kernel)) (th_any (a := #[]) rfl (hT.1 (.castable "java/lang/IllegalArgumentException" "java/lang/IllegalArgumentException") (by decide +kernel))) hcell hvn hcl ?_
    obtain ⟨hP, hD⟩ := aft0 [0, 1, 2, 3, 4, 5, 6, 7, 8, 9, 10] [11] hP hD rfl (wr := [(o, .inl (cJ, 1, .inr (.inl g)))]) rfl rfl (by decide) hFc hk1
    have hP : va_P (dC, dI) vwCl ([(o, .inl (cJ, 1, .inr (.inl g)))]) H := hP
    have hD : va_D A ([(o, .inl (cJ, 1, .inr (.inl g)))]) := hD
    refine W.eq (g2 := F0 m 14 ls [.ref q9]) rfl ?_
    refine lv_astore (lv' := [(5, .ref q9), (0, .ref (a 0)), (1, .int p0), (2, .int p1), (3, .int p2), (4, .ref o)]) hx hb dL_squareBits_14 hl (by decide) rfl (fun ls hl => ?_)
    refine lv_iconst (v := 1) hx hb dL_squareBits_16 (by decide) ?_
    refine W.widen (k := 1) (n := 6) (Nat.le_of_ble_eq_true rfl) (Nat.le_of_ble_eq_true rfl) ?_
    exact W.iret (v := 1) hx hb hr (fun t ht hW => ⟨⟨1, g, rfl, Or.inr ⟨hno, rfl⟩, BW.end hP hK hD [0] [2] rfl rfl rfl rfl ht hW⟩, hS.F ht⟩) hS.2.2 dL_squareBits_17
  · skip
    obtain ⟨hP, hD⟩ := aft0 [0, 1, 2, 3, 4, 5, 6, 7, 8, 9, 10] [11] hP hD rfl (wr := [(o, .inl (cJ, 1, .inr (.inl g)))]) rfl rfl (by decide) hFc hk1
    have hP : va_P (dC, dI) vwCl ([(o, .inl (cJ, 1, .inr (.inl g)))]) H := hP
    have hD : va_D A ([(o, .inl (cJ, 1, .inr (.inl g)))]) := hD
    obtain ⟨hok, hval⟩ := hw2
    refine va_last (D := (dC, dI)) hx hb hK hP hD hS 0 2 rfl rfl (by unfold vp_in; decide) dL_squareBits_10 (fun H locs hP hD hS => ?_)
    have hP : va_P (dC, dI) vwCl ([(o, .inl (cJ, 1, .inr (.inl (vp_updL g (0 : Int32).toNatClampNeg r1))))]) H := hP
    have hD : va_D A ([(o, .inl (cJ, 1, .inr (.inl (vp_updL g (0 : Int32).toNatClampNeg r1))))]) := hD
    refine lv_goto (tgt := 18) hx hb dL_squareBits_11 (by decide) ?_
    refine lv_iconst (v := 0) hx hb dL_squareBits_18 (by decide) ?_
    refine W.widen (k := 1) (n := 6) (Nat.le_of_ble_eq_true rfl) (Nat.le_of_ble_eq_true rfl) ?_
    exact W.iret (v := 0) hx hb hr (fun t ht hW => ⟨⟨0, (vp_updL g (0 : Int32).toNatClampNeg r1), rfl, Or.inl ⟨hok, rfl, by first | rfl | exact congrArg Int32.toInt64 hval | exact hval⟩, BW.end hP hK hD [0] [2] rfl rfl rfl rfl ht hW⟩, hS.F ht⟩) hS.2.2 dL_squareBits_19

