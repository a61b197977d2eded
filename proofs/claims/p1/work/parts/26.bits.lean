set_option maxHeartbeats 4000000 in
set_option maxRecDepth 100000 in
theorem k_bits (l : Launch) (dC : Nat → ClassId) (dI : Nat → Nat → Nat) (sz : Nat)  (x : UInt64) (hok : pos x = true → bdok x = true) : Met l yX3_bitsOfDouble wsX3_bitsOfDouble ({ frames := 0, cells := 0, slots := 0, locals := 0 }) (va_Pc [.double x] (PW dC dI ([]) [] sz)) (va_Ql (fun (r : Int64) (u : Unit) => r = bdr x) (fun (u : Unit) t => True) (va_A ([]) sz)) 0 0 (va_A ([]) sz) := by
  refine Met.ofW (cc := cX3_bitsOfDouble) (maxL := 7) (ret := (some .long)) (by decide +kernel) rfl ?_
  intro p e s m args below meth c s₁ B hml hv
  obtain ⟨rfl, hsz, hP, hK, hD0⟩ := hv
  have hx := B.exec
  have hb := B.bytes
  have hr := B.returns
  have hts := atoms_spec (ws := wsX3_bitsOfDouble) B.pre
  have hown : s.vm.findClass RX3 = some m.cls := findClass_of_methodNamed B.named
  have hlocks := B.notSynchronized
  subst hsz
  have hD := hD0.self (sz := s.heap.size)
  generalize hAe : va_A ([]) s.heap.size = A at hD ⊢
  have hA : ∀ q : Nat, s.heap.size ≤ q → A q := fun q h => by rw [← hAe]; exact Or.inr h
  have hS : va_S A s.heap s.heap [] := va_S.rf
  have hl := lv_entry ([.double x]) (n := 7) (Nat.le_of_ble_eq_true rfl)
  rw [lg_entry_eq]
  generalize (lg_sl ([.double x]) ++ List.replicate (7 - (lg_sl ([.double x])).length) Slot.unset).toArray = ls at hl ⊢
  have hl : lv_has ls 7 [(0, .double x)] := hl
  refine lv_dload_n hx hb dX3_bitsOfDouble_0 rfl (lv_at hl 0 rfl) ?_
  refine lv_dconst0 hx hb dX3_bitsOfDouble_1 ?_
  refine lv_dcmp hx hb dX3_bitsOfDouble_2 ?_
  refine lv_if_gt (tgt := 8) hx hb dX3_bitsOfDouble_3 (by decide) (fun c1 => ?_) (fun c1 => ?_)
  · skip
    have hpos : pos x = true := pos_lt.mpr c1
    obtain ⟨hk1x, hk2x, hk3x, hk4x⟩ := bdok_of (hok hpos)
    refine lv_dload_n hx hb dX3_bitsOfDouble_8 rfl (lv_at hl 0 rfl) ?_
    refine lv_dstore_n (lv' := [(2, .double x), (0, .double x)]) hx hb dX3_bitsOfDouble_9 rfl hl (by decide) rfl (fun ls hl => ?_)
    refine lv_ldc2 hx hb hown (hts (.constantLong RX3 343 1023) (by decide +kernel)) dX3_bitsOfDouble_10 ?_
    refine lv_lstore (lv' := [(4, .long 1023), (2, .double x), (0, .double x)]) hx hb dX3_bitsOfDouble_13 hl (by decide) rfl (fun ls hl => ?_)
    refine lv_iconst (v := 0) hx hb dX3_bitsOfDouble_15 (by decide) ?_
    refine lv_istore (lv' := [(6, .int 0), (4, .long 1023), (2, .double x), (0, .double x)]) hx hb dX3_bitsOfDouble_16 hl (by decide) rfl (fun ls hl => ?_)
    have hloop2 : ∀ (Q : State → Prop), (∀ (dd : UInt64) (ee : Int64) (H : Heap) (locs : List Loc) (ls : Array Slot), (bd1 (1023 - 1023) dd ee = bd1 1023 x 1023 ∧ bd1ok (1023 - 1023) dd = true) → va_P (dC, dI) vwCl ([]) H → va_D A ([]) → va_S A s.heap H locs → lv_has ls 7 [(2, .double dd), (4, .long ee), (0, .double x)] → W p l e (headSpec wsX3_bitsOfDouble ({ frames := 0, cells := 0, slots := 0, locals := 0 })).room s m ([.double x] : List Value).toArray below meth c H locs 0 0 Q (F0 m 52 ls [])) → ∀ (n i : Nat) (dd : UInt64) (ee : Int64), i ≤ 1023 → 1023 < i + n → ∀ (H : Heap) (locs : List Loc) (ls : Array Slot), (bd1 (1023 - i) dd ee = bd1 1023 x 1023 ∧ bd1ok (1023 - i) dd = true) → va_P (dC, dI) vwCl ([]) H → va_D A ([]) → va_S A s.heap H locs → lv_has ls 7 [(6, .int (nI i)), (2, .double dd), (4, .long ee), (0, .double x)] → W p l e (headSpec wsX3_bitsOfDouble ({ frames := 0, cells := 0, slots := 0, locals := 0 })).room s m ([.double x] : List Value).toArray below meth c H locs 0 0 Q (F0 m 18 ls []) := by
      intro Q hk n
      induction n with
      | zero => intro i dd ee h1 h2; omega
      | succ n ih =>
        intro i dd ee hi hin H locs ls hinv hP hD hS hl
        refine lv_iload hx hb dX3_bitsOfDouble_18 (lv_at hl 0 rfl) ?_
        refine lv_sipush (v := 1023) hx hb dX3_bitsOfDouble_20 (by decide) ?_
        refine lv_icmp_ge (tgt := 52) hx hb dX3_bitsOfDouble_23 (by decide) (fun c3 => ?_) (fun c3 => ?_)
        · skip
          have hi4 : i = 1023 := by
            have := (nI_leI (a := 1023) (b := i) (by omega) (by omega)).mp c3
            omega
          subst hi4
          exact hk dd ee H locs ls hinv hP hD hS (lv_sub hl [1, 2, 3] rfl)
        · skip
          have hlt : i < 1023 := by
            rcases Nat.lt_or_ge i 1023 with q | q
            · exact q
            · exact absurd ((nI_leI (a := 1023) (b := i) (by omega) (by omega)).mpr q) c3
          refine lv_dload_n hx hb dX3_bitsOfDouble_26 rfl (lv_at hl 1 rfl) ?_
          refine lv_ldc2d hx hb hown (hts (.constantDouble RX3 345 4611686018427387904) (by decide +kernel)) dX3_bitsOfDouble_27 ?_
          refine lv_dcmp hx hb dX3_bitsOfDouble_30 ?_
          refine lv_if_lt (tgt := 52) hx hb dX3_bitsOfDouble_31 (by decide) (fun c4 => ?_) (fun c4 => ?_)
          · skip
            have hge : ge2 dd = false := by unfold ge2; rw [decide_eq_true c4]; rfl
            exact hk dd ee H locs ls (bd1_stop hlt hinv hge) hP hD hS (lv_sub hl [1, 2, 3] rfl)
          · skip
            have hge : ge2 dd = true := by unfold ge2; rw [decide_eq_false c4]; rfl
            refine lv_dload_n hx hb dX3_bitsOfDouble_34 rfl (lv_at hl 1 rfl) ?_
            refine lv_ldc2d hx hb hown (hts (.constantDouble RX3 345 4611686018427387904) (by decide +kernel)) dX3_bitsOfDouble_35 ?_
            refine lv_ddiv hx hb dX3_bitsOfDouble_38 (n64b_of (bd1_step hlt hinv hge).1) ?_
            refine lv_dstore_n (lv' := [(2, .double (FP.ddiv dd 4611686018427387904)), (6, .int (nI i)), (4, .long ee), (0, .double x)]) hx hb dX3_bitsOfDouble_39 rfl hl (by decide) rfl (fun ls hl => ?_)
            refine lv_lload hx hb dX3_bitsOfDouble_40 (lv_at hl 2 rfl) ?_
            refine lv_lconst (v := 1) hx hb dX3_bitsOfDouble_42 (by decide) ?_
            refine lv_ladd hx hb dX3_bitsOfDouble_43 ?_
            refine lv_topl (fun v5 e6 => ?_)
            refine lv_lstore (lv' := [(4, .long v5), (2, .double (FP.ddiv dd 4611686018427387904)), (6, .int (nI i)), (0, .double x)]) hx hb dX3_bitsOfDouble_44 hl (by decide) rfl (fun ls hl => ?_)
            refine lv_iinc (v := (nI (i + 1))) (lv' := [(6, .int (nI (i + 1))), (4, .long v5), (2, .double (FP.ddiv dd 4611686018427387904)), (0, .double x)]) hx hb dX3_bitsOfDouble_46 hl (k := 2) rfl (nI_1 i) (by decide) rfl (fun ls hl => ?_)
            refine lv_goto (tgt := 18) hx hb dX3_bitsOfDouble_49 (by decide) ?_
            exact ih (i + 1) (FP.ddiv dd 4611686018427387904) v5 hlt (by omega) H locs ls (by rw [e6]; exact (bd1_step hlt hinv hge).2) hP hD hS (lv_sub hl [0, 2, 1, 3] rfl)
    refine hloop2 _ (fun dd ee H locs ls hinv hP hD hS hl => ?_) (1023 + 1) 0 x 1023 (Nat.zero_le _) (by omega) _ _ ls (⟨rfl, hk1x⟩) hP hD hS (lv_sub hl [0, 2, 1, 3] rfl)
    have hP : va_P (dC, dI) vwCl ([]) H := hP
    have hD : va_D A ([]) := hD
    have hr1 := hinv.1
    obtain ⟨d1, hd1⟩ : ∃ z, z = dd := ⟨_, rfl⟩
    obtain ⟨e1, he1⟩ : ∃ z, z = ee := ⟨_, rfl⟩
    subst hd1 he1
    have hl : lv_has ls 7 [(2, .double d1), (4, .long e1), (0, .double x)] := hl
    refine lv_iconst (v := 0) hx hb dX3_bitsOfDouble_52 (by decide) ?_
    refine lv_istore (lv' := [(6, .int 0), (2, .double d1), (4, .long e1), (0, .double x)]) hx hb dX3_bitsOfDouble_53 hl (by decide) rfl (fun ls hl => ?_)
    have hloop7 : ∀ (Q : State → Prop), (∀ (dd : UInt64) (ee : Int64) (H : Heap) (locs : List Loc) (ls : Array Slot), (bd2 (1022 - 1022) dd ee = bd2 1022 d1 e1 ∧ bd2ok (1022 - 1022) dd = true) → va_P (dC, dI) vwCl ([]) H → va_D A ([]) → va_S A s.heap H locs → lv_has ls 7 [(2, .double dd), (4, .long ee), (0, .double x)] → W p l e (headSpec wsX3_bitsOfDouble ({ frames := 0, cells := 0, slots := 0, locals := 0 })).room s m ([.double x] : List Value).toArray below meth c H locs 0 0 Q (F0 m 87 ls [])) → ∀ (n i : Nat) (dd : UInt64) (ee : Int64), i ≤ 1022 → 1022 < i + n → ∀ (H : Heap) (locs : List Loc) (ls : Array Slot), (bd2 (1022 - i) dd ee = bd2 1022 d1 e1 ∧ bd2ok (1022 - i) dd = true) → va_P (dC, dI) vwCl ([]) H → va_D A ([]) → va_S A s.heap H locs → lv_has ls 7 [(6, .int (nI i)), (2, .double dd), (4, .long ee), (0, .double x)] → W p l e (headSpec wsX3_bitsOfDouble ({ frames := 0, cells := 0, slots := 0, locals := 0 })).room s m ([.double x] : List Value).toArray below meth c H locs 0 0 Q (F0 m 55 ls []) := by
      intro Q hk n
      induction n with
      | zero => intro i dd ee h1 h2; omega
      | succ n ih =>
        intro i dd ee hi hin H locs ls hinv hP hD hS hl
        refine lv_iload hx hb dX3_bitsOfDouble_55 (lv_at hl 0 rfl) ?_
        refine lv_sipush (v := 1022) hx hb dX3_bitsOfDouble_57 (by decide) ?_
        refine lv_icmp_ge (tgt := 87) hx hb dX3_bitsOfDouble_60 (by decide) (fun c8 => ?_) (fun c8 => ?_)
        · skip
          have hi4 : i = 1022 := by
            have := (nI_leI (a := 1022) (b := i) (by omega) (by omega)).mp c8
            omega
          subst hi4
          exact hk dd ee H locs ls hinv hP hD hS (lv_sub hl [1, 2, 3] rfl)
        · skip
          have hlt : i < 1022 := by
            rcases Nat.lt_or_ge i 1022 with q | q
            · exact q
            · exact absurd ((nI_leI (a := 1022) (b := i) (by omega) (by omega)).mpr q) c8
          refine lv_dload_n hx hb dX3_bitsOfDouble_63 rfl (lv_at hl 1 rfl) ?_
          refine lv_dconst1 hx hb dX3_bitsOfDouble_64 ?_
          refine lv_dcmp hx hb dX3_bitsOfDouble_65 ?_
          refine lv_if_ge (tgt := 87) hx hb dX3_bitsOfDouble_66 (by decide) (fun c9 => ?_) (fun c9 => ?_)
          · skip
            have hlo : lt1 dd = false := by unfold lt1; rw [decide_eq_true c9]; rfl
            exact hk dd ee H locs ls (bd2_stop hlt hinv hlo) hP hD hS (lv_sub hl [1, 2, 3] rfl)
          · skip
            have hlo : lt1 dd = true := by unfold lt1; rw [decide_eq_false c9]; rfl
            refine lv_dload_n hx hb dX3_bitsOfDouble_69 rfl (lv_at hl 1 rfl) ?_
            refine lv_ldc2d hx hb hown (hts (.constantDouble RX3 345 4611686018427387904) (by decide +kernel)) dX3_bitsOfDouble_70 ?_
            refine lv_dmul hx hb dX3_bitsOfDouble_73 (n64b_of (bd2_step hlt hinv hlo).1) ?_
            refine lv_dstore_n (lv' := [(2, .double (FP.dmul dd 4611686018427387904)), (6, .int (nI i)), (4, .long ee), (0, .double x)]) hx hb dX3_bitsOfDouble_74 rfl hl (by decide) rfl (fun ls hl => ?_)
            refine lv_lload hx hb dX3_bitsOfDouble_75 (lv_at hl 2 rfl) ?_
            refine lv_lconst (v := 1) hx hb dX3_bitsOfDouble_77 (by decide) ?_
            refine lv_lsub hx hb dX3_bitsOfDouble_78 ?_
            refine lv_topl (fun v10 e11 => ?_)
            refine lv_lstore (lv' := [(4, .long v10), (2, .double (FP.dmul dd 4611686018427387904)), (6, .int (nI i)), (0, .double x)]) hx hb dX3_bitsOfDouble_79 hl (by decide) rfl (fun ls hl => ?_)
            refine lv_iinc (v := (nI (i + 1))) (lv' := [(6, .int (nI (i + 1))), (4, .long v10), (2, .double (FP.dmul dd 4611686018427387904)), (0, .double x)]) hx hb dX3_bitsOfDouble_81 hl (k := 2) rfl (nI_1 i) (by decide) rfl (fun ls hl => ?_)
            refine lv_goto (tgt := 55) hx hb dX3_bitsOfDouble_84 (by decide) ?_
            exact ih (i + 1) (FP.dmul dd 4611686018427387904) v10 hlt (by omega) H locs ls (by rw [e11]; exact (bd2_step hlt hinv hlo).2) hP hD hS (lv_sub hl [0, 2, 1, 3] rfl)
    refine hloop7 _ (fun dd ee H locs ls hinv hP hD hS hl => ?_) (1022 + 1) 0 d1 e1 (Nat.zero_le _) (by omega) _ _ ls (⟨rfl, bd_k2 hr1 hk2x⟩) hP hD hS (lv_sub hl [0, 1, 2, 3] rfl)
    have hP : va_P (dC, dI) vwCl ([]) H := hP
    have hD : va_D A ([]) := hD
    refine lv_lload hx hb dX3_bitsOfDouble_87 (lv_at hl 1 rfl) ?_
    refine lv_bipush (v := 52) hx hb dX3_bitsOfDouble_89 (by decide) ?_
    refine lv_lshl hx hb dX3_bitsOfDouble_91 rfl ?_
    refine lv_dload_n hx hb dX3_bitsOfDouble_92 rfl (lv_at hl 0 rfl) ?_
    refine lv_dconst1 hx hb dX3_bitsOfDouble_93 ?_
    refine lv_dsub hx hb dX3_bitsOfDouble_94 (n64b_of (bd_n3 hr1 hinv hk3x)) ?_
    refine lv_ldc2d hx hb hown (hts (.constantDouble RX3 347 4841369599423283200) (by decide +kernel)) dX3_bitsOfDouble_95 ?_
    refine lv_dmul hx hb dX3_bitsOfDouble_98 (n64b_of (bd_n4 hr1 hinv hk4x)) ?_
    refine lv_d2l hx hb dX3_bitsOfDouble_99 ?_
    refine lv_ladd hx hb dX3_bitsOfDouble_100 ?_
    refine lv_topl (fun v12 e13 => ?_)
    refine W.widen (k := 0) (n := 0) (Nat.le_of_ble_eq_true rfl) (Nat.le_of_ble_eq_true rfl) ?_
    exact W.lret (v := v12) hx hb hr (fun t ht hW => ⟨⟨v12, (), rfl, (by unfold bdr; rw [if_pos hpos]; exact bd_eq hr1 hinv e13), trivial⟩, hS.F ht⟩) hS.2.2 dX3_bitsOfDouble_101
  · skip
    refine lv_lconst (v := 0) hx hb dX3_bitsOfDouble_6 (by decide) ?_
    refine W.widen (k := 0) (n := 0) (Nat.le_of_ble_eq_true rfl) (Nat.le_of_ble_eq_true rfl) ?_
    exact W.lret (v := 0) hx hb hr (fun t ht hW => ⟨⟨0, (), rfl, (by unfold bdr; rw [if_neg (fun z => c1 (pos_lt.mp z))]), trivial⟩, hS.F ht⟩) hS.2.2 dX3_bitsOfDouble_7

