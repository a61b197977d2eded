set_option maxHeartbeats 4000000 in
set_option maxRecDepth 100000 in
theorem rk_weigh (l : Launch) (dC : Nat → ClassId) (dI : Nat → Nat → Nat) (kA : Nat → ClassId) (eD b : Nat) (g : Gh) (o : Nat) (i : Nat) (mp mo : Int32) (hto : tg g o = 12 + 64 * i)  : Met l yX1_weigh wsX1_weigh ({ frames := 2, cells := 0, slots := 0, locals := 43 }) (va_Pc [.ref o, .int mp, .int mo] (CX (dC, dI) kA eD b g)) (va_Qv (fun (u : Unit) => True) (fun (u : Unit) t => CX (dC, dI) kA eD b g t) (fun q => b ≤ q)) 0 0 (fun q => b ≤ q) := by
  refine Met.ofW (cc := cX1_weigh) (maxL := 7) (ret := none) (by decide +kernel) rfl ?_
  intro p e s m args below meth c s₁ B hml hv
  obtain ⟨rfl, hb0, hM, hK, hG, hE⟩ := hv
  have hx := B.exec
  have hb := B.bytes
  have hr := B.returns
  have hts := atoms_spec (ws := wsX1_weigh) B.pre
  have hown : s.vm.findClass RX1 = some m.cls := findClass_of_methodNamed B.named
  have hlocks := B.notSynchronized
  have hT := hE.1
  have hN := hE.2.2.2.2.2.2.2.1
  have hS : va_S (fun q => b ≤ q) s.heap s.heap [] := va_S.rf
  have hl := lv_entry ([.ref o, .int mp, .int mo]) (n := 7) (Nat.le_of_ble_eq_true rfl)
  rw [lg_entry_eq]
  generalize (lg_sl ([.ref o, .int mp, .int mo]) ++ List.replicate (7 - (lg_sl ([.ref o, .int mp, .int mo])).length) Slot.unset).toArray = ls at hl ⊢
  have hl : lv_has ls 7 [(0, .ref o), (1, .int mp), (2, .int mo)] := hl
  generalize ([.ref o, .int mp, .int mo] : List Value).toArray = args at hts ⊢
  refine W.q (fun Q hQ => ?_)
  refine lv_iconst (v := 5) hx hb dX1_weigh_0 (by decide) ?_
  refine lv_istore_n (lv' := [(3, .int 5), (0, .ref o), (1, .int mp), (2, .int mo)]) hx hb dX1_weigh_1 rfl hl (by decide) rfl (fun ls hl => ?_)
  have lp2 : ∀ (j1 : Nat) , j1 ≤ 6 → ∀ (H : Heap) (locs : List Loc) (ls : Array Slot), TM (dC, dI) kA b g H → va_S (fun q => b ≤ q) s.heap H locs → lv_has ls 7 [(3, .int (nI j1 - 1)), (0, .ref o), (1, .int mp), (2, .int mo)] → W p l e (headSpec wsX1_weigh ({ frames := 2, cells := 0, slots := 0, locals := 43 })).room s m args below meth c H locs 0 0 Q (F0 m 2 ls []) := by
    intro j1
    induction j1 with
    | zero =>
      intro hj1 H locs ls hM hS hl
      rw [show (nI 0 - 1 : Int32) = -1 by decide] at hl
      have hl : lv_has ls 7 [(3, .int (-1)), (0, .ref o), (1, .int mp), (2, .int mo)] := hl
      refine lv_iload_n hx hb dX1_weigh_2 rfl (lv_at hl 0 rfl) ?_
      refine lv_if_lt (tgt := 192) hx hb dX1_weigh_3 (by decide) (fun _ => ?_) (fun cx => by first | exact absurd (by decide) cx | exact absurd cx (by decide))
      subst hQ
      refine W.widen (k := 0) (n := 0) (Nat.le_of_ble_eq_true rfl) (Nat.le_of_ble_eq_true rfl) ?_
      exact W.vret hx hb hr (fun t ht hW => ⟨⟨(), rfl, trivial, CX.give hb0 hM hK hG hE hS ht hW⟩, hS.F ht⟩) hS.2.2 dX1_weigh_192
    | succ j1 ih4 =>
      intro hj1 H locs ls hM hS hl
      rw [nI_pred j1] at hl
      have hl : lv_has ls 7 [(3, .int (nI j1)), (0, .ref o), (1, .int mp), (2, .int mo)] := hl
      refine lv_iload_n hx hb dX1_weigh_2 rfl (lv_at hl 0 rfl) ?_
      refine lv_if_lt (tgt := 192) hx hb dX1_weigh_3 (by decide) (fun c5 => ?_) (fun c5 => ?_)
      · skip
        have k6 : j1 < 0 := (nI_ltI (a := j1) (b := 0) (by omega) (by omega)).mp c5
        subst hQ
        refine W.widen (k := 0) (n := 0) (Nat.le_of_ble_eq_true rfl) (Nat.le_of_ble_eq_true rfl) ?_
        exact W.vret hx hb hr (fun t ht hW => ⟨⟨(), rfl, trivial, CX.give hb0 hM hK hG hE hS ht hW⟩, hS.F ht⟩) hS.2.2 dX1_weigh_192
      · skip
        have k7 : ¬ (j1 < 0) := fun z => c5 ((nI_ltI (a := j1) (b := 0) (by omega) (by omega)).mpr z)
        refine lv_iconst (v := 0) hx hb dX1_weigh_6 (by decide) ?_
        refine lv_istore (lv' := [(4, .int 0), (3, .int (nI j1)), (0, .ref o), (1, .int mp), (2, .int mo)]) hx hb dX1_weigh_7 hl (by decide) rfl (fun ls hl => ?_)
        have lp9 : ∀ (n10 j8 : Nat) , 0 ≤ j8 → j8 ≤ 8 → 8 < j8 + n10 → ∀ (H : Heap) (locs : List Loc) (ls : Array Slot), TM (dC, dI) kA b g H → va_S (fun q => b ≤ q) s.heap H locs → lv_has ls 7 [(4, .int (nI j8)), (3, .int (nI j1)), (0, .ref o), (1, .int mp), (2, .int mo)] → W p l e (headSpec wsX1_weigh ({ frames := 2, cells := 0, slots := 0, locals := 43 })).room s m args below meth c H locs 0 0 Q (F0 m 9 ls []) := by
          intro n10
          induction n10 with
          | zero => intro j8 h0 h1 h2; omega
          | succ n10 ih11 =>
            intro j8 lj8 hj8 hn10 H locs ls hM hS hl
            refine lv_iload hx hb dX1_weigh_9 (lv_at hl 0 rfl) ?_
            refine lv_bipush (v := 8) hx hb dX1_weigh_11 (by decide) ?_
            refine lv_icmp_ge (tgt := 97) hx hb dX1_weigh_13 (by decide) (fun c12 => ?_) (fun c12 => ?_)
            · skip
              have k13 : 8 ≤ j8 := (nI_leI (a := 8) (b := j8) (by omega) (by omega)).mp c12
              refine lv_iconst (v := 1) hx hb dX1_weigh_97 (by decide) ?_
              refine lv_istore (lv' := [(4, .int 1), (3, .int (nI j1)), (0, .ref o), (1, .int mp), (2, .int mo)]) hx hb dX1_weigh_98 hl (by decide) rfl (fun ls hl => ?_)
              have lp15 : ∀ (n16 j14 : Nat) , 1 ≤ j14 → j14 ≤ 7 → 7 < j14 + n16 → ∀ (H : Heap) (locs : List Loc) (ls : Array Slot), TM (dC, dI) kA b g H → va_S (fun q => b ≤ q) s.heap H locs → lv_has ls 7 [(4, .int (nI j14)), (3, .int (nI j1)), (0, .ref o), (1, .int mp), (2, .int mo)] → W p l e (headSpec wsX1_weigh ({ frames := 2, cells := 0, slots := 0, locals := 43 })).room s m args below meth c H locs 0 0 Q (F0 m 100 ls []) := by
                intro n16
                induction n16 with
                | zero => intro j14 h0 h1 h2; omega
                | succ n16 ih17 =>
                  intro j14 lj14 hj14 hn16 H locs ls hM hS hl
                  refine lv_iload hx hb dX1_weigh_100 (lv_at hl 0 rfl) ?_
                  refine lv_bipush (v := 7) hx hb dX1_weigh_102 (by decide) ?_
                  refine lv_icmp_ge (tgt := 186) hx hb dX1_weigh_104 (by decide) (fun c18 => ?_) (fun c18 => ?_)
                  · skip
                    have k19 : 7 ≤ j14 := (nI_leI (a := 7) (b := j14) (by omega) (by omega)).mp c18
                    refine lv_iinc (v := ((nI j1) - 1)) (lv' := [(3, .int ((nI j1) - 1)), (4, .int (nI j14)), (0, .ref o), (1, .int mp), (2, .int mo)]) hx hb dX1_weigh_186 hl (k := 1) rfl (i_dec _) (by decide) rfl (fun ls hl => ?_)
                    refine lv_goto (tgt := 2) hx hb dX1_weigh_189 (by decide) ?_
                    exact ih4 (by omega) H _ ls hM hS (lv_sub hl [0, 2, 3, 4] rfl)
                  · skip
                    have k20 : ¬ (7 ≤ j14) := fun z => c18 ((nI_leI (a := 7) (b := j14) (by omega) (by omega)).mpr z)
                    refine lv_iload hx hb dX1_weigh_107 (lv_at hl 0 rfl) ?_
                    refine lv_iload_n hx hb dX1_weigh_109 rfl (lv_at hl 1 rfl) ?_
                    refine va_calli (va_runSN (As := [.int (nI j14), .int (nI j1)]) (rest := []) ⟨hx, hb, hml, hown, hts⟩ (rk_placeOf l (nI j14) (nI j1)) (⟨va_cnB 2 hts gX1_weigh_X3_placeOf_n96 rfl rfl rfl (hN (.methodLinkNest RX1 96 yX3_placeOf RX3) (by decide +kernel)) (hts (.initialized RX3) (by decide +kernel)) (by decide +kernel) ⟨Nat.le_of_ble_eq_true rfl, Nat.le_of_ble_eq_true rfl⟩, hts (.static yX3_placeOf) (by decide +kernel), trivial⟩) ⟨fun a U g mk q => q, fun U hU hW => ⟨rfl, trivial⟩⟩ rfl rfl hl.1 rfl (lv_room (Nat.le_of_ble_eq_true rfl)) dX1_weigh_110 ⟨(Nat.le_of_ble_eq_true rfl), (Nat.le_of_ble_eq_true rfl)⟩) hS (fun q _ h => h.elim) (fun q h => h.elim) (fun r21 u t H locs ht hvm hw22 hB hz1 hk1 hS => ?_)
                    have hM := hM.keep (fun p hp => hk1 p hp (fun z => z))
                    obtain rfl : r21 = nI (8 * j1 + j14) := hw22.trans (by rw [show (8 : Int32) = nI 8 from rfl]; exact (congrArg (· + nI j14) (pk_mul 8 j1)).trans (nI_add _ _))
                    refine lv_istore (lv' := [(5, .int (nI (8 * j1 + j14))), (4, .int (nI j14)), (3, .int (nI j1)), (0, .ref o), (1, .int mp), (2, .int mo)]) hx hb dX1_weigh_113 hl (by decide) rfl (fun ls hl => ?_)
                    refine lv_aload_n hx hb dX1_weigh_115 rfl (lv_at hl 3 rfl) ?_
                    refine lv_iload hx hb dX1_weigh_116 (lv_at hl 0 rfl) ?_
                    obtain ⟨u23, u24, u25, u26, u27, u28, hP, hf⟩ := o_st (i := i) (q := o) hM (by omega)
                    refine va_calli (va_runV (As := [.int (nI (8 * j1 + j14))]) (rest := []) ⟨hx, hb, hml, hown, hts⟩ (rk_has l dC dI kA eD b g o i (nI (8 * j1 + j14)) (by omega)) (cwV 1 hts gX1_weigh_X1_has rfl rfl rfl (by decide +kernel) ⟨Nat.le_of_ble_eq_true rfl, Nat.le_of_ble_eq_true rfl⟩) ⟨fb_CX, va_recv hK hP (ci := 5) (q0 := 0) rfl rfl, fun U hU hW => ⟨rfl, CX.give hb0 hM hK hG hE hS hU hW⟩⟩ rfl rfl hl.1 rfl (lv_room (Nat.le_of_ble_eq_true rfl)) dX1_weigh_118 ⟨(Nat.le_of_ble_eq_true rfl), (Nat.le_of_ble_eq_true rfl)⟩) hS (fun q _ h => h.elim) (fun q h => h.elim) (fun r29 u t H locs ht hvm hw30 hB hz1 hk1 hS => ?_)
                    have hM := hB.back ht
                    have hG := hB.2.2.2.1
                    have jn31 : ∀  (H : Heap) (locs : List Loc) (ls : Array Slot), TM (dC, dI) kA b g H → va_S (fun q => b ≤ q) s.heap H locs → lv_has ls 7 [(5, .int (nI (8 * j1 + j14))), (4, .int (nI j14)), (3, .int (nI j1)), (0, .ref o), (1, .int mp), (2, .int mo)] → W p l e (headSpec wsX1_weigh ({ frames := 2, cells := 0, slots := 0, locals := 43 })).room s m args below meth c H locs 0 0 Q (F0 m 180 ls []) := by
                      intro H locs ls hM hS hl
                      refine lv_iinc (v := (nI (j14 + 1))) (lv' := [(4, .int (nI (j14 + 1))), (5, .int (nI (8 * j1 + j14))), (3, .int (nI j1)), (0, .ref o), (1, .int mp), (2, .int mo)]) hx hb dX1_weigh_180 hl (k := 1) rfl (nI_add j14 1) (by decide) rfl (fun ls hl => ?_)
                      refine lv_goto (tgt := 100) hx hb dX1_weigh_183 (by decide) ?_
                      exact ih17 ((j14 + 1)) (by omega) (by omega) (by omega) H _ ls  hM hS (lv_sub hl [0, 2, 3, 4, 5] rfl)
                    refine lv_if_eq (tgt := 180) hx hb dX1_weigh_121 (by decide) (fun c32 => ?_) (fun c32 => ?_)
                    · skip
                      have hk33 : (pI g (pF g o 0)) (8 * j1 + j14) = 46 := (hw30.resolve_right (fun z => absurd (z.1.symm.trans c32) (by decide))).2 (8 * j1 + j14) rfl (by omega)
                      exact jn31 H _ ls hM hS (lv_sub hl [0, 1, 2, 3, 4, 5] rfl)
                    · skip
                      have hk34 : ¬ (pI g (pF g o 0)) (8 * j1 + j14) = 46 := by obtain ⟨-, jz9, ez9, hz9, hz8⟩ := hw30.resolve_left (fun z => c32 z.1); rw [(nI_eq (a := (8 * j1 + j14)) (b := jz9) (by omega) (by omega)).mp ez9]; exact hz8
                      refine lv_aload_n hx hb dX1_weigh_124 rfl (lv_at hl 3 rfl) ?_
                      refine lv_iload hx hb dX1_weigh_125 (lv_at hl 0 rfl) ?_
                      obtain ⟨u35, u36, u37, u38, u39, u40, hP, hf⟩ := o_st (i := i) (q := o) hM (by omega)
                      refine va_calli (va_runV (As := [.int (nI (8 * j1 + j14))]) (rest := []) ⟨hx, hb, hml, hown, hts⟩ (rk_spans l dC dI kA eD b g o i (8 * j1 + j14) (by omega) (by omega)) (cwV 1 hts gX1_weigh_X1_spans rfl rfl rfl (by decide +kernel) ⟨Nat.le_of_ble_eq_true rfl, Nat.le_of_ble_eq_true rfl⟩) ⟨fb_CX, va_recv hK hP (ci := 5) (q0 := 0) rfl rfl, fun U hU hW => ⟨rfl, CX.give hb0 hM hK hG hE hS hU hW⟩⟩ rfl rfl hl.1 rfl (lv_room (Nat.le_of_ble_eq_true rfl)) dX1_weigh_127 ⟨(Nat.le_of_ble_eq_true rfl), (Nat.le_of_ble_eq_true rfl)⟩) hS (fun q _ h => h.elim) (fun q h => h.elim) (fun r41 u t H locs ht hvm hw42 hB hz1 hk1 hS => ?_)
                      have hM := hB.back ht
                      have hG := hB.2.2.2.1
                      refine lv_if_eq (tgt := 180) hx hb dX1_weigh_130 (by decide) (fun c43 => ?_) (fun c43 => ?_)
                      · skip
                        have hk44 : ¬ SP (pI g (pF g o 0)) (8 * j1 + j14) := (hw42.resolve_right (fun z => absurd (z.1.symm.trans c43) (by decide))).2
                        exact jn31 H _ ls hM hS (lv_sub hl [0, 1, 2, 3, 4, 5] rfl)
                      · skip
                        have hk45 : SP (pI g (pF g o 0)) (8 * j1 + j14) := (hw42.resolve_left (fun z => c43 z.1)).2
                        refine lv_aload_n hx hb dX1_weigh_133 rfl (lv_at hl 3 rfl) ?_
                        obtain ⟨u46, u47, u48, u49, u50, u51, hP, hf⟩ := o_st (i := i) (q := o) hM (by omega)
                        refine va_get (D := (dC, dI)) (ci := 5) (v := .ref (pF g o 6)) (C := RX1) (T := TX1) (N := 15) hx hb hts (by decide +kernel) hown hK hP 0 rfl rfl 6 (by decide) (hts (.fieldLink RX1 32 "Snowpalace$Site" "loads" "[I") (by decide +kernel)) (fun _ h9 => h9) rfl dX1_weigh_134 ?_
                        have ht52 : tg g (pF g o 6) = 23 := hf.2.2.2.2.2.2.1
                        refine lv_iload hx hb dX1_weigh_137 (lv_at hl 0 rfl) ?_
                        obtain ⟨u53, hP, hf⟩ := o_ld (i := 0) (q := (pF g o 6)) hM (by omega)
                        refine va_iald (D := (dC, dI)) hx hb hK hP 0 0 rfl rfl (vp_in_nI (by omega) (by decide)) dX1_weigh_139 ?_
                        refine lv_topi (fun v54 e55 => ?_)
                        have ec : ((nI (8 * j1 + j14)) : Int32).toNatClampNeg = (8 * j1 + j14) := nI_clamp (by omega)
                        rw [ec] at e55
                        refine lv_iconst (v := 2) hx hb dX1_weigh_140 (by decide) ?_
                        refine lv_idiv hx hb dX1_weigh_141 (by decide) ?_
                        refine lv_topi (fun v56 e57 => ?_)
                        refine lv_istore (lv' := [(6, .int v56), (5, .int (nI (8 * j1 + j14))), (4, .int (nI j14)), (3, .int (nI j1)), (0, .ref o), (1, .int mp), (2, .int mo)]) hx hb dX1_weigh_142 hl (by decide) rfl (fun ls hl => ?_)
                        refine lv_aload_n hx hb dX1_weigh_144 rfl (lv_at hl 4 rfl) ?_
                        obtain ⟨u58, u59, u60, u61, u62, u63, hP, hf⟩ := o_st (i := i) (q := o) hM (by omega)
                        refine va_get (D := (dC, dI)) (ci := 5) (v := .ref (pF g o 6)) (C := RX1) (T := TX1) (N := 15) hx hb hts (by decide +kernel) hown hK hP 0 rfl rfl 6 (by decide) (hts (.fieldLink RX1 32 "Snowpalace$Site" "loads" "[I") (by decide +kernel)) (fun _ h9 => h9) rfl dX1_weigh_145 ?_
                        refine lv_iload hx hb dX1_weigh_148 (lv_at hl 1 rfl) ?_
                        refine lv_iconst (v := 1) hx hb dX1_weigh_150 (by decide) ?_
                        refine lv_isub hx hb dX1_weigh_151 ?_
                        refine lv_topi (fun v64 e65 => ?_)
                        obtain rfl : v64 = nI ((8 * j1 + j14) - 1) := e65.trans (pk_sub (a := (8 * j1 + j14)) (b := 1) (by omega))
                        refine lv_dup2_11 hx hb dX1_weigh_152 rfl rfl ?_
                        obtain ⟨u66, hP, hf⟩ := o_ld (i := 0) (q := (pF g o 6)) hM (by omega)
                        refine va_iald (D := (dC, dI)) hx hb hK hP 0 0 rfl rfl (vp_in_nI (by omega) (by decide)) dX1_weigh_153 ?_
                        refine lv_topi (fun v67 e68 => ?_)
                        have ec : ((nI ((8 * j1 + j14) - 1)) : Int32).toNatClampNeg = ((8 * j1 + j14) - 1) := nI_clamp (by omega)
                        rw [ec] at e68
                        refine lv_iload hx hb dX1_weigh_154 (lv_at hl 0 rfl) ?_
                        refine lv_iadd hx hb dX1_weigh_156 ?_
                        refine lv_topi (fun v69 e70 => ?_)
                        obtain ⟨u71, hP, hf⟩ := o_ld (i := 0) (q := (pF g o 6)) hM (by omega)
                        refine rt_iast (D := (dC, dI)) (t0 := 0) hx hb hK hP (hM.ge (by omega)) hS rfl (vp_in_nI (by omega) (by decide)) dX1_weigh_157 (fun H locs hP hz ho hS => ?_)
                        have ec : ((nI ((8 * j1 + j14) - 1)) : Int32).toNatClampNeg = ((8 * j1 + j14) - 1) := nI_clamp (by omega)
                        rw [ec] at hP
                        have hM := s_ld (i := 0) hM (by omega) hP ho hf
                        refine lv_aload_n hx hb dX1_weigh_158 rfl (lv_at hl 4 rfl) ?_
                        obtain ⟨u72, u73, u74, u75, u76, u77, hP, hf⟩ := o_st (i := i) (q := o) hM (by omega)
                        refine va_get (D := (dC, dI)) (ci := 5) (v := .ref (pF g o 6)) (C := RX1) (T := TX1) (N := 15) hx hb hts (by decide +kernel) hown hK hP 0 rfl rfl 6 (by decide) (hts (.fieldLink RX1 32 "Snowpalace$Site" "loads" "[I") (by decide +kernel)) (fun _ h9 => h9) rfl dX1_weigh_159 ?_
                        refine lv_iload hx hb dX1_weigh_162 (lv_at hl 1 rfl) ?_
                        refine lv_iconst (v := 1) hx hb dX1_weigh_164 (by decide) ?_
                        refine lv_iadd hx hb dX1_weigh_165 ?_
                        refine lv_topi (fun v78 e79 => ?_)
                        obtain rfl : v78 = nI ((8 * j1 + j14) + 1) := e79.trans (nI_add (8 * j1 + j14) 1)
                        refine lv_dup2_11 hx hb dX1_weigh_166 rfl rfl ?_
                        obtain ⟨u80, hP, hf⟩ := o_ld (i := 0) (q := (pF g o 6)) hM (by omega)
                        refine va_iald (D := (dC, dI)) hx hb hK hP 0 0 rfl rfl (vp_in_nI (by omega) (by decide)) dX1_weigh_167 ?_
                        refine lv_topi (fun v81 e82 => ?_)
                        have ec : ((nI ((8 * j1 + j14) + 1)) : Int32).toNatClampNeg = ((8 * j1 + j14) + 1) := nI_clamp (by omega)
                        rw [ec] at e82
                        refine lv_aload_n hx hb dX1_weigh_168 rfl (lv_at hl 4 rfl) ?_
                        obtain ⟨u83, u84, u85, u86, u87, u88, hP, hf⟩ := o_st (i := i) (q := o) hM (by omega)
                        refine va_get (D := (dC, dI)) (ci := 5) (v := .ref (pF g o 6)) (C := RX1) (T := TX1) (N := 15) hx hb hts (by decide +kernel) hown hK hP 0 rfl rfl 6 (by decide) (hts (.fieldLink RX1 32 "Snowpalace$Site" "loads" "[I") (by decide +kernel)) (fun _ h9 => h9) rfl dX1_weigh_169 ?_
                        refine lv_iload hx hb dX1_weigh_172 (lv_at hl 1 rfl) ?_
                        obtain ⟨u89, hP, hf⟩ := o_ld (i := 0) (q := (pF g o 6)) hM (by omega)
                        refine va_iald (D := (dC, dI)) hx hb hK hP 0 0 rfl rfl (vp_in_nI (by omega) (by decide)) dX1_weigh_174 ?_
                        refine lv_topi (fun v90 e91 => ?_)
                        have ec : ((nI (8 * j1 + j14)) : Int32).toNatClampNeg = (8 * j1 + j14) := nI_clamp (by omega)
                        rw [ec] at e91
                        refine lv_iload hx hb dX1_weigh_175 (lv_at hl 0 rfl) ?_
                        refine lv_isub hx hb dX1_weigh_177 ?_
                        refine lv_topi (fun v92 e93 => ?_)
                        refine lv_iadd hx hb dX1_weigh_178 ?_
                        refine lv_topi (fun v94 e95 => ?_)
                        obtain ⟨u96, hP, hf⟩ := o_ld (i := 0) (q := (pF g o 6)) hM (by omega)
                        refine rt_iast (D := (dC, dI)) (t0 := 0) hx hb hK hP (hM.ge (by omega)) hS rfl (vp_in_nI (by omega) (by decide)) dX1_weigh_179 (fun H locs hP hz ho hS => ?_)
                        have ec : ((nI ((8 * j1 + j14) + 1)) : Int32).toNatClampNeg = ((8 * j1 + j14) + 1) := nI_clamp (by omega)
                        rw [ec] at hP
                        have hM := s_ld (i := 0) hM (by omega) hP ho hf
                        exact jn31 H _ ls hM hS (lv_sub hl [1, 2, 3, 4, 5, 6] rfl)
              exact lp15 (7 + 1) 1 (by omega) (by omega) (by omega) H _ ls  hM hS (lv_sub hl [0, 1, 2, 3, 4] rfl)
            · skip
              have k97 : ¬ (8 ≤ j8) := fun z => c12 ((nI_leI (a := 8) (b := j8) (by omega) (by omega)).mpr z)
              refine lv_iload hx hb dX1_weigh_16 (lv_at hl 0 rfl) ?_
              refine lv_iload_n hx hb dX1_weigh_18 rfl (lv_at hl 1 rfl) ?_
              refine va_calli (va_runSN (As := [.int (nI j8), .int (nI j1)]) (rest := []) ⟨hx, hb, hml, hown, hts⟩ (rk_placeOf l (nI j8) (nI j1)) (⟨va_cnB 2 hts gX1_weigh_X3_placeOf_n96 rfl rfl rfl (hN (.methodLinkNest RX1 96 yX3_placeOf RX3) (by decide +kernel)) (hts (.initialized RX3) (by decide +kernel)) (by decide +kernel) ⟨Nat.le_of_ble_eq_true rfl, Nat.le_of_ble_eq_true rfl⟩, hts (.static yX3_placeOf) (by decide +kernel), trivial⟩) ⟨fun a U g mk q => q, fun U hU hW => ⟨rfl, trivial⟩⟩ rfl rfl hl.1 rfl (lv_room (Nat.le_of_ble_eq_true rfl)) dX1_weigh_19 ⟨(Nat.le_of_ble_eq_true rfl), (Nat.le_of_ble_eq_true rfl)⟩) hS (fun q _ h => h.elim) (fun q h => h.elim) (fun r98 u t H locs ht hvm hw99 hB hz1 hk1 hS => ?_)
              have hM := hM.keep (fun p hp => hk1 p hp (fun z => z))
              obtain rfl : r98 = nI (8 * j1 + j8) := hw99.trans (by rw [show (8 : Int32) = nI 8 from rfl]; exact (congrArg (· + nI j8) (pk_mul 8 j1)).trans (nI_add _ _))
              refine lv_istore (lv' := [(5, .int (nI (8 * j1 + j8))), (4, .int (nI j8)), (3, .int (nI j1)), (0, .ref o), (1, .int mp), (2, .int mo)]) hx hb dX1_weigh_22 hl (by decide) rfl (fun ls hl => ?_)
              refine lv_aload_n hx hb dX1_weigh_24 rfl (lv_at hl 3 rfl) ?_
              obtain ⟨u100, u101, u102, u103, u104, u105, hP, hf⟩ := o_st (i := i) (q := o) hM (by omega)
              refine va_get (D := (dC, dI)) (ci := 5) (v := .ref (pF g o 6)) (C := RX1) (T := TX1) (N := 15) hx hb hts (by decide +kernel) hown hK hP 0 rfl rfl 6 (by decide) (hts (.fieldLink RX1 32 "Snowpalace$Site" "loads" "[I") (by decide +kernel)) (fun _ h9 => h9) rfl dX1_weigh_25 ?_
              have ht106 : tg g (pF g o 6) = 23 := hf.2.2.2.2.2.2.1
              refine lv_iload hx hb dX1_weigh_28 (lv_at hl 0 rfl) ?_
              refine lv_iconst (v := 0) hx hb dX1_weigh_30 (by decide) ?_
              obtain ⟨u107, hP, hf⟩ := o_ld (i := 0) (q := (pF g o 6)) hM (by omega)
              refine rt_iast (D := (dC, dI)) (t0 := 0) hx hb hK hP (hM.ge (by omega)) hS rfl (vp_in_nI (by omega) (by decide)) dX1_weigh_31 (fun H locs hP hz ho hS => ?_)
              have ec : ((nI (8 * j1 + j8)) : Int32).toNatClampNeg = (8 * j1 + j8) := nI_clamp (by omega)
              rw [ec] at hP
              have hM := s_ld (i := 0) hM (by omega) hP ho hf
              refine lv_aload_n hx hb dX1_weigh_32 rfl (lv_at hl 3 rfl) ?_
              refine lv_iload hx hb dX1_weigh_33 (lv_at hl 0 rfl) ?_
              obtain ⟨u108, u109, u110, u111, u112, u113, hP, hf⟩ := o_st (i := i) (q := o) hM (by omega)
              refine va_calli (va_runV (As := [.int (nI (8 * j1 + j8))]) (rest := []) ⟨hx, hb, hml, hown, hts⟩ (rk_has l dC dI kA eD b g o i (nI (8 * j1 + j8)) (by omega)) (cwV 1 hts gX1_weigh_X1_has rfl rfl rfl (by decide +kernel) ⟨Nat.le_of_ble_eq_true rfl, Nat.le_of_ble_eq_true rfl⟩) ⟨fb_CX, va_recv hK hP (ci := 5) (q0 := 0) rfl rfl, fun U hU hW => ⟨rfl, CX.give hb0 hM hK hG hE hS hU hW⟩⟩ rfl rfl hl.1 rfl (lv_room (Nat.le_of_ble_eq_true rfl)) dX1_weigh_35 ⟨(Nat.le_of_ble_eq_true rfl), (Nat.le_of_ble_eq_true rfl)⟩) hS (fun q _ h => h.elim) (fun q h => h.elim) (fun r114 u t H locs ht hvm hw115 hB hz1 hk1 hS => ?_)
              have hM := hB.back ht
              have hG := hB.2.2.2.1
              have jn116 : ∀  (H : Heap) (locs : List Loc) (ls : Array Slot), TM (dC, dI) kA b g H → va_S (fun q => b ≤ q) s.heap H locs → lv_has ls 7 [(5, .int (nI (8 * j1 + j8))), (4, .int (nI j8)), (3, .int (nI j1)), (0, .ref o), (1, .int mp), (2, .int mo)] → W p l e (headSpec wsX1_weigh ({ frames := 2, cells := 0, slots := 0, locals := 43 })).room s m args below meth c H locs 0 0 Q (F0 m 91 ls []) := by
                intro H locs ls hM hS hl
                refine lv_iinc (v := (nI (j8 + 1))) (lv' := [(4, .int (nI (j8 + 1))), (5, .int (nI (8 * j1 + j8))), (3, .int (nI j1)), (0, .ref o), (1, .int mp), (2, .int mo)]) hx hb dX1_weigh_91 hl (k := 1) rfl (nI_add j8 1) (by decide) rfl (fun ls hl => ?_)
                refine lv_goto (tgt := 9) hx hb dX1_weigh_94 (by decide) ?_
                exact ih11 ((j8 + 1)) (by omega) (by omega) (by omega) H _ ls  hM hS (lv_sub hl [0, 2, 3, 4, 5] rfl)
              refine lv_if_eq (tgt := 91) hx hb dX1_weigh_38 (by decide) (fun c117 => ?_) (fun c117 => ?_)
              · skip
                have hk118 : (pI g (pF g o 0)) (8 * j1 + j8) = 46 := (hw115.resolve_right (fun z => absurd (z.1.symm.trans c117) (by decide))).2 (8 * j1 + j8) rfl (by omega)
                exact jn116 H _ ls hM hS (lv_sub hl [0, 1, 2, 3, 4, 5] rfl)
              · skip
                have hk119 : ¬ (pI g (pF g o 0)) (8 * j1 + j8) = 46 := by obtain ⟨-, jz9, ez9, hz9, hz8⟩ := hw115.resolve_left (fun z => c117 z.1); rw [(nI_eq (a := (8 * j1 + j8)) (b := jz9) (by omega) (by omega)).mp ez9]; exact hz8
                refine lv_iload_n hx hb dX1_weigh_41 rfl (lv_at hl 2 rfl) ?_
                refine lv_iconst (v := 5) hx hb dX1_weigh_42 (by decide) ?_
                have jn121 : ∀ (x120 : Int32) (H : Heap) (locs : List Loc) (ls : Array Slot), TM (dC, dI) kA b g H → va_S (fun q => b ≤ q) s.heap H locs → lv_has ls 7 [(5, .int (nI (8 * j1 + j8))), (4, .int (nI j8)), (3, .int (nI j1)), (0, .ref o), (1, .int mp), (2, .int mo)] → W p l e (headSpec wsX1_weigh ({ frames := 2, cells := 0, slots := 0, locals := 43 })).room s m args below meth c H locs 0 0 Q (F0 m 60 ls [.int x120]) := by
                  intro x120 H locs ls hM hS hl
                  refine lv_istore (lv' := [(6, .int x120), (5, .int (nI (8 * j1 + j8))), (4, .int (nI j8)), (3, .int (nI j1)), (0, .ref o), (1, .int mp), (2, .int mo)]) hx hb dX1_weigh_60 hl (by decide) rfl (fun ls hl => ?_)
                  refine lv_aload_n hx hb dX1_weigh_62 rfl (lv_at hl 4 rfl) ?_
                  obtain ⟨u122, u123, u124, u125, u126, u127, hP, hf⟩ := o_st (i := i) (q := o) hM (by omega)
                  refine va_get (D := (dC, dI)) (ci := 5) (v := .ref (pF g o 6)) (C := RX1) (T := TX1) (N := 15) hx hb hts (by decide +kernel) hown hK hP 0 rfl rfl 6 (by decide) (hts (.fieldLink RX1 32 "Snowpalace$Site" "loads" "[I") (by decide +kernel)) (fun _ h9 => h9) rfl dX1_weigh_63 ?_
                  refine lv_iload hx hb dX1_weigh_66 (lv_at hl 1 rfl) ?_
                  refine lv_aload_n hx hb dX1_weigh_68 rfl (lv_at hl 4 rfl) ?_
                  obtain ⟨u128, u129, u130, u131, u132, u133, hP, hf⟩ := o_st (i := i) (q := o) hM (by omega)
                  refine va_get (D := (dC, dI)) (ci := 5) (v := .ref (pF g o 1)) (C := RX1) (T := TX1) (N := 15) hx hb hts (by decide +kernel) hown hK hP 0 rfl rfl 1 (by decide) (hts (.fieldLink RX1 15 "Snowpalace$Site" "masses" "[I") (by decide +kernel)) (fun _ h9 => h9) rfl dX1_weigh_69 ?_
                  have ht134 : tg g (pF g o 1) = 21 := hf.2.1
                  refine lv_iload hx hb dX1_weigh_72 (lv_at hl 1 rfl) ?_
                  obtain ⟨u135, hP, hf⟩ := o_ma (i := 0) (q := (pF g o 1)) hM (by omega)
                  refine va_iald (D := (dC, dI)) hx hb hK hP 0 0 rfl rfl (vp_in_nI (by omega) (by decide)) dX1_weigh_74 ?_
                  refine lv_topi (fun v136 e137 => ?_)
                  have ec : ((nI (8 * j1 + j8)) : Int32).toNatClampNeg = (8 * j1 + j8) := nI_clamp (by omega)
                  rw [ec] at e137
                  refine lv_iload hx hb dX1_weigh_75 (lv_at hl 0 rfl) ?_
                  refine lv_iadd hx hb dX1_weigh_77 ?_
                  refine lv_topi (fun v138 e139 => ?_)
                  refine lv_iload hx hb dX1_weigh_78 (lv_at hl 1 rfl) ?_
                  refine lv_iload_n hx hb dX1_weigh_80 rfl (lv_at hl 5 rfl) ?_
                  have jn141 : ∀ (x140 : Int32) (H : Heap) (locs : List Loc) (ls : Array Slot), TM (dC, dI) kA b g H → va_S (fun q => b ≤ q) s.heap H locs → lv_has ls 7 [(6, .int x120), (5, .int (nI (8 * j1 + j8))), (4, .int (nI j8)), (3, .int (nI j1)), (0, .ref o), (1, .int mp), (2, .int mo)] → W p l e (headSpec wsX1_weigh ({ frames := 2, cells := 0, slots := 0, locals := 43 })).room s m args below meth c H locs 0 0 Q (F0 m 89 ls [.int x140, .int v138, .int (nI (8 * j1 + j8)), .ref (pF g o 6)]) := by
                    intro x140 H locs ls hM hS hl
                    refine lv_iadd hx hb dX1_weigh_89 ?_
                    refine lv_topi (fun v142 e143 => ?_)
                    obtain ⟨u144, hP, hf⟩ := o_ld (i := 0) (q := (pF g o 6)) hM (by omega)
                    refine rt_iast (D := (dC, dI)) (t0 := 0) hx hb hK hP (hM.ge (by omega)) hS rfl (vp_in_nI (by omega) (by decide)) dX1_weigh_90 (fun H locs hP hz ho hS => ?_)
                    have ec : ((nI (8 * j1 + j8)) : Int32).toNatClampNeg = (8 * j1 + j8) := nI_clamp (by omega)
                    rw [ec] at hP
                    have hM := s_ld (i := 0) hM (by omega) hP ho hf
                    exact jn116 H _ ls hM hS (lv_sub hl [1, 2, 3, 4, 5, 6] rfl)
                  refine lv_icmp_ne (tgt := 88) hx hb dX1_weigh_81 (by decide) (fun c145 => ?_) (fun c145 => ?_)
                  · skip
                    refine lv_iconst (v := 0) hx hb dX1_weigh_88 (by decide) ?_
                    exact jn141 0 H _ ls hM hS (lv_sub hl [0, 1, 2, 3, 4, 5, 6] rfl)
                  · skip
                    refine lv_iload_n hx hb dX1_weigh_84 rfl (lv_at hl 6 rfl) ?_
                    refine lv_goto (tgt := 89) hx hb dX1_weigh_85 (by decide) ?_
                    exact jn141 mo H _ ls hM hS (lv_sub hl [0, 1, 2, 3, 4, 5, 6] rfl)
                refine lv_icmp_ge (tgt := 59) hx hb dX1_weigh_43 (by decide) (fun c146 => ?_) (fun c146 => ?_)
                · skip
                  have k147 : 5 ≤ j1 := (nI_leI (a := 5) (b := j1) (by omega) (by omega)).mp c146
                  refine lv_iconst (v := 0) hx hb dX1_weigh_59 (by decide) ?_
                  exact jn121 0 H _ ls hM hS (lv_sub hl [0, 1, 2, 3, 4, 5] rfl)
                · skip
                  have k148 : ¬ (5 ≤ j1) := fun z => c146 ((nI_leI (a := 5) (b := j1) (by omega) (by omega)).mpr z)
                  refine lv_aload_n hx hb dX1_weigh_46 rfl (lv_at hl 3 rfl) ?_
                  obtain ⟨u149, u150, u151, u152, u153, u154, hP, hf⟩ := o_st (i := i) (q := o) hM (by omega)
                  refine va_get (D := (dC, dI)) (ci := 5) (v := .ref (pF g o 6)) (C := RX1) (T := TX1) (N := 15) hx hb hts (by decide +kernel) hown hK hP 0 rfl rfl 6 (by decide) (hts (.fieldLink RX1 32 "Snowpalace$Site" "loads" "[I") (by decide +kernel)) (fun _ h9 => h9) rfl dX1_weigh_47 ?_
                  refine lv_iload hx hb dX1_weigh_50 (lv_at hl 0 rfl) ?_
                  refine lv_bipush (v := 8) hx hb dX1_weigh_52 (by decide) ?_
                  refine lv_iadd hx hb dX1_weigh_54 ?_
                  refine lv_topi (fun v155 e156 => ?_)
                  obtain rfl : v155 = nI ((8 * j1 + j8) + 8) := e156.trans (nI_add (8 * j1 + j8) 8)
                  obtain ⟨u157, hP, hf⟩ := o_ld (i := 0) (q := (pF g o 6)) hM (by omega)
                  refine va_iald (D := (dC, dI)) hx hb hK hP 0 0 rfl rfl (vp_in_nI (by omega) (by decide)) dX1_weigh_55 ?_
                  refine lv_topi (fun v158 e159 => ?_)
                  have ec : ((nI ((8 * j1 + j8) + 8)) : Int32).toNatClampNeg = ((8 * j1 + j8) + 8) := nI_clamp (by omega)
                  rw [ec] at e159
                  refine lv_goto (tgt := 60) hx hb dX1_weigh_56 (by decide) ?_
                  exact jn121 v158 H _ ls hM hS (lv_sub hl [0, 1, 2, 3, 4, 5] rfl)
        exact lp9 (8 + 1) 0 (by omega) (by omega) (by omega) H _ ls  hM hS (lv_sub hl [0, 1, 2, 3, 4] rfl)
  exact lp2 6 (by omega) s.heap _ ls hM hS (by have hl9 := lv_sub hl [0, 1, 2, 3] rfl; exact hl9)

set_option maxHeartbeats 4000000 in
set_option maxRecDepth 100000 in
theorem rk_markFalling (l : Launch) (dC : Nat → ClassId) (dI : Nat → Nat → Nat) (kA : Nat → ClassId) (eD b : Nat) (g : Gh) (o : Nat) (i : Nat) (wm : Int32) (hto : tg g o = 12 + 64 * i)  : Met l yX1_markFalling wsX1_markFalling ({ frames := 3, cells := 0, slots := 0, locals := 69 }) (va_Pc [.ref o, .int wm] (CX (dC, dI) kA eD b g)) (va_Qi (fun (r : Int32) (u : Gh) => Sx (XF i) g u ∧ MF (pI g (pF g o 0)) (pI u (pF g o 7)) r 48) (fun (u : Gh) t => CX (dC, dI) kA eD b u t) (fun q => b ≤ q)) 0 0 (fun q => b ≤ q) := by
  refine Met.ofW (cc := cX1_markFalling) (maxL := 4) (ret := (some .boolean)) (by decide +kernel) rfl ?_
  intro p e s m args below meth c s₁ B hml hv
  obtain ⟨rfl, hb0, hM, hK, hG, hE⟩ := hv
  have hx := B.exec
  have hb := B.bytes
  have hr := B.returns
  have hts := atoms_spec (ws := wsX1_markFalling) B.pre
  have hown : s.vm.findClass RX1 = some m.cls := findClass_of_methodNamed B.named
  have hlocks := B.notSynchronized
  have hT := hE.1
  have hN := hE.2.2.2.2.2.2.2.1
  have hS : va_S (fun q => b ≤ q) s.heap s.heap [] := va_S.rf
  have hl := lv_entry ([.ref o, .int wm]) (n := 4) (Nat.le_of_ble_eq_true rfl)
  rw [lg_entry_eq]
  generalize (lg_sl ([.ref o, .int wm]) ++ List.replicate (4 - (lg_sl ([.ref o, .int wm])).length) Slot.unset).toArray = ls at hl ⊢
  have hl : lv_has ls 4 [(0, .ref o), (1, .int wm)] := hl
  generalize ([.ref o, .int wm] : List Value).toArray = args at hts ⊢
  refine W.q (fun Q hQ => ?_)
  obtain ⟨_, _, _, _, _, _, -, hst9⟩ := o_st (i := i) (q := o) hM (by omega)
  have ht1 : tg g (pF g o 0) = 13 + 64 * i := hst9.1
  have ht2 : tg g (pF g o 1) = 21 := hst9.2.1
  have ht3 : tg g (pF g o 2) = 14 := hst9.2.2.1
  have ht4 : tg g (pF g o 3) = 14 := hst9.2.2.2.1
  have ht5 : tg g (pF g o 4) = 15 := hst9.2.2.2.2.1
  have ht6 : tg g (pF g o 5) = 16 + 64 * i := hst9.2.2.2.2.2.1
  have ht7 : tg g (pF g o 6) = 23 := hst9.2.2.2.2.2.2.1
  have ht8 : tg g (pF g o 7) = 20 + 64 * i := hst9.2.2.2.2.2.2.2.1
  have hMg := hM
  refine lv_aload_n hx hb dX1_markFalling_0 rfl (lv_at hl 0 rfl) ?_
  refine lv_iconst (v := (-1)) hx hb dX1_markFalling_1 (by decide) ?_
  refine lv_iconst (v := 0) hx hb dX1_markFalling_2 (by decide) ?_
  obtain ⟨u9, u10, u11, u12, u13, u14, hP, hf⟩ := o_st (i := i) (q := o) hM (by omega)
  refine va_callv (va_runV (As := [.int (-1), .int 0]) (rest := []) ⟨hx, hb, hml, hown, hts⟩ (rk_weigh l dC dI kA eD b g o i (-1) 0 (by omega)) (cwV 2 hts gX1_markFalling_X1_weigh rfl rfl rfl (by decide +kernel) ⟨Nat.le_of_ble_eq_true rfl, Nat.le_of_ble_eq_true rfl⟩) ⟨fb_CX, va_recv hK hP (ci := 5) (q0 := 0) rfl rfl, fun U hU hW => ⟨rfl, CX.give hb0 hM hK hG hE hS hU hW⟩⟩ rfl rfl hl.1 rfl (lv_room (Nat.le_of_ble_eq_true rfl)) dX1_markFalling_3 ⟨(Nat.le_of_ble_eq_true rfl), (Nat.le_of_ble_eq_true rfl)⟩) hS (fun q _ h => h) (fun q h => h) (fun u t H locs ht hvm hw16 hB hz1 hk1 hS => ?_)
  have hM := hB.back ht
  have hG := hB.2.2.2.1
  refine lv_iconst (v := 0) hx hb dX1_markFalling_6 (by decide) ?_
  refine lv_istore_n (lv' := [(2, .int 0), (0, .ref o), (1, .int wm)]) hx hb dX1_markFalling_7 rfl hl (by decide) rfl (fun ls hl => ?_)
  refine lv_iconst (v := 0) hx hb dX1_markFalling_8 (by decide) ?_
  refine lv_istore_n (lv' := [(3, .int 0), (2, .int 0), (0, .ref o), (1, .int wm)]) hx hb dX1_markFalling_9 rfl hl (by decide) rfl (fun ls hl => ?_)
  have lp20 : ∀ (n21 j17 : Nat) (g18 : Gh) (x19 : Int32), 0 ≤ j17 → j17 ≤ 48 → 48 < j17 + n21 → ∀ (H : Heap) (locs : List Loc) (ls : Array Slot), (Sx (XF i) g g18) → (GOK g18) → (MF (pI g (pF g o 0)) (pI g18 (pF g o 7)) x19 j17) → TM (dC, dI) kA b g18 H → va_S (fun q => b ≤ q) s.heap H locs → lv_has ls 4 [(3, .int (nI j17)), (2, .int x19), (0, .ref o), (1, .int wm)] → W p l e (headSpec wsX1_markFalling ({ frames := 3, cells := 0, slots := 0, locals := 69 })).room s m args below meth c H locs 0 0 Q (F0 m 10 ls []) := by
    intro n21
    induction n21 with
    | zero => intro j17 g18 x19 h0 h1 h2; omega
    | succ n21 ih22 =>
      intro j17 g18 x19 lj17 hj17 hn21 H locs ls hx23 hG hi24 hM hS hl
      have ht25 : tg g18 o = 12 + 64 * i := hx23.tk hto (by omega)
      have ht26 : tg g18 (pF g o 0) = 13 + 64 * i := hx23.tk ht1 (by omega)
      have ht27 : tg g18 (pF g o 1) = 21 := hx23.tk ht2 (by omega)
      have ht28 : tg g18 (pF g o 2) = 14 := hx23.tk ht3 (by omega)
      have ht29 : tg g18 (pF g o 3) = 14 := hx23.tk ht4 (by omega)
      have ht30 : tg g18 (pF g o 4) = 15 := hx23.tk ht5 (by omega)
      have ht31 : tg g18 (pF g o 5) = 16 + 64 * i := hx23.tk ht6 (by omega)
      have ht32 : tg g18 (pF g o 6) = 23 := hx23.tk ht7 (by omega)
      have ht33 : tg g18 (pF g o 7) = 20 + 64 * i := hx23.tk ht8 (by omega)
      have ef34 : pF g18 o = pF g o := hx23.F
      have hc35 : pI g18 (pF g o 0) = (pI g (pF g o 0)) := (hx23.i (fun z9 => by have h9 := ht1; simp only [XF, XD, XK] at z9; omega))
      refine lv_iload_n hx hb dX1_markFalling_10 rfl (lv_at hl 0 rfl) ?_
      refine lv_bipush (v := 48) hx hb dX1_markFalling_11 (by decide) ?_
      refine lv_icmp_ge (tgt := 83) hx hb dX1_markFalling_13 (by decide) (fun c36 => ?_) (fun c36 => ?_)
      · skip
        have k37 : 48 ≤ j17 := (nI_leI (a := 48) (b := j17) (by omega) (by omega)).mp c36
        refine lv_iload_n hx hb dX1_markFalling_83 rfl (lv_at hl 1 rfl) ?_
        subst hQ
        refine W.widen (k := 0) (n := 0) (Nat.le_of_ble_eq_true rfl) (Nat.le_of_ble_eq_true rfl) ?_
        exact W.zret (v := x19) (ty := .boolean) hx hb hr (z01n (fn01 hi24.2)) (fun t ht hW => ⟨⟨x19, g18, rfl, ⟨hx23, by have h9 := hi24; rw [show j17 = 48 by omega] at h9; exact h9⟩, CX.give hb0 hM hK hG hE hS ht hW⟩, hS.F ht⟩) hS.2.2 dX1_markFalling_84
      · skip
        have k38 : ¬ (48 ≤ j17) := fun z => c36 ((nI_leI (a := 48) (b := j17) (by omega) (by omega)).mpr z)
        refine lv_aload_n hx hb dX1_markFalling_16 rfl (lv_at hl 2 rfl) ?_
        obtain ⟨u39, u40, u41, u42, u43, u44, hP, hf⟩ := o_st (i := i) (q := o) hM (by omega)
        refine va_get (D := (dC, dI)) (ci := 5) (v := .ref (pF g18 o 7)) (C := RX1) (T := TX1) (N := 15) hx hb hts (by decide +kernel) hown hK hP 0 rfl rfl 7 (by decide) (hts (.fieldLink RX1 35 "Snowpalace$Site" "falling" "[Z") (by decide +kernel)) (fun _ h9 => h9) rfl dX1_markFalling_17 ?_
        rw [ef34]
        refine lv_iload_n hx hb dX1_markFalling_20 rfl (lv_at hl 0 rfl) ?_
        refine lv_aload_n hx hb dX1_markFalling_21 rfl (lv_at hl 2 rfl) ?_
        refine lv_iload_n hx hb dX1_markFalling_22 rfl (lv_at hl 0 rfl) ?_
        obtain ⟨u45, u46, u47, u48, u49, u50, hP, hf⟩ := o_st (i := i) (q := o) hM (by omega)
        refine va_calli (va_runV (As := [.int (nI j17)]) (rest := [.int (nI j17), .ref (pF g o 7)]) ⟨hx, hb, hml, hown, hts⟩ (rk_has l dC dI kA eD b g18 o i (nI j17) (by omega)) (cwV 1 hts gX1_markFalling_X1_has rfl rfl rfl (by decide +kernel) ⟨Nat.le_of_ble_eq_true rfl, Nat.le_of_ble_eq_true rfl⟩) ⟨fb_CX, va_recv hK hP (ci := 5) (q0 := 0) rfl rfl, fun U hU hW => ⟨rfl, CX.give hb0 hM hK hG hE hS hU hW⟩⟩ rfl rfl hl.1 rfl (lv_room (Nat.le_of_ble_eq_true rfl)) dX1_markFalling_23 ⟨(Nat.le_of_ble_eq_true rfl), (Nat.le_of_ble_eq_true rfl)⟩) hS (fun q _ h => h.elim) (fun q h => h.elim) (fun r51 u t H locs ht hvm hw52 hB hz1 hk1 hS => ?_)
        have hM := hB.back ht
        have hG := hB.2.2.2.1
        rw [ef34] at hw52
        rw [hc35] at hw52
        refine lv_if_eq (tgt := 56) hx hb dX1_markFalling_26 (by decide) (fun c53 => ?_) (fun c53 => ?_)
        · skip
          have hk54 : (pI g (pF g o 0)) j17 = 46 := (hw52.resolve_right (fun z => absurd (z.1.symm.trans c53) (by decide))).2 j17 rfl (by omega)
          refine lv_iconst (v := 0) hx hb dX1_markFalling_56 (by decide) ?_
          obtain ⟨hP, hf⟩ := o_fa (i := i) (q := (pF g o 7)) hM (by omega)
          refine rt_zast (D := (dC, dI)) (t0 := 1) hx hb hK hP (hM.ge (by omega)) hS rfl (vp_in_nI (by omega) (by decide)) dX1_markFalling_57 (fun H locs hP hz ho hS => ?_)
          have ec : ((nI j17) : Int32).toNatClampNeg = j17 := nI_clamp (by omega)
          rw [ec] at hP
          have hM0 := hM
          have hM := p_fa (i := i) (f := upd (pI g18 (pF g o 7)) j17 (vp_nar .boolean 0)) hM (by omega) hP ho (isZ_updP hf)
          obtain ⟨g55, hg55⟩ : ∃ z, z = uI g18 (pF g o 7) (upd (pI g18 (pF g o 7)) j17 (vp_nar .boolean 0)) := ⟨_, rfl⟩
          rw [← hg55] at hM
          have ht56 : tg g55 o = 12 + 64 * i := by rw [hg55]; exact ht25
          have ht57 : tg g55 (pF g o 0) = 13 + 64 * i := by rw [hg55]; exact ht26
          have ht58 : tg g55 (pF g o 1) = 21 := by rw [hg55]; exact ht27
          have ht59 : tg g55 (pF g o 2) = 14 := by rw [hg55]; exact ht28
          have ht60 : tg g55 (pF g o 3) = 14 := by rw [hg55]; exact ht29
          have ht61 : tg g55 (pF g o 4) = 15 := by rw [hg55]; exact ht30
          have ht62 : tg g55 (pF g o 5) = 16 + 64 * i := by rw [hg55]; exact ht31
          have ht63 : tg g55 (pF g o 6) = 23 := by rw [hg55]; exact ht32
          have ht64 : tg g55 (pF g o 7) = 20 + 64 * i := by rw [hg55]; exact ht33
          have hG : GOK g55 := by rw [hg55]; exact (hG.uI hM0 (Or.inl (by omega)))
          have hx66 : Sx (XF i) g18 g55 := by rw [hg55]; exact Sx.uI (by have h9 := ht33; simp only [XF, XD, XK, XC, XR, XG]; omega)
          have ef67 : pF g55 o = pF g o := (hx66.F).trans ef34
          have z968 : pI g55 (pF g o 7) j17 = (0 : Int32) := by rw [hg55]; exact (congrFun uI_s _).trans ((if_pos rfl).trans (by decide))
          have hc69 : pI g55 (pF g o 0) = (pI g (pF g o 0)) := by rw [hg55]; exact (uI_n (fun e9 => by have h1 := ht26; have h2 := ht33; rw [e9] at h1; omega)).trans hc35
          have hc70 : pI g55 (pF g o 7) = (upd (pI g18 (pF g o 7)) j17 (vp_nar .boolean 0)) := by rw [hg55]; exact uI_s
          refine lv_iload_n hx hb dX1_markFalling_58 rfl (lv_at hl 1 rfl) ?_
          refine lv_if_ne (tgt := 71) hx hb dX1_markFalling_59 (by decide) (fun c71 => ?_) (fun c71 => ?_)
          · skip
            refine lv_iconst (v := 1) hx hb dX1_markFalling_71 (by decide) ?_
            refine lv_goto (tgt := 76) hx hb dX1_markFalling_72 (by decide) ?_
            refine lv_istore_n (lv' := [(2, .int 1), (3, .int (nI j17)), (0, .ref o), (1, .int wm)]) hx hb dX1_markFalling_76 rfl hl (by decide) rfl (fun ls hl => ?_)
            refine lv_iinc (v := (nI (j17 + 1))) (lv' := [(3, .int (nI (j17 + 1))), (2, .int 1), (0, .ref o), (1, .int wm)]) hx hb dX1_markFalling_77 hl (k := 1) rfl (nI_add j17 1) (by decide) rfl (fun ls hl => ?_)
            refine lv_goto (tgt := 10) hx hb dX1_markFalling_80 (by decide) ?_
            exact ih22 ((j17 + 1)) g55 1 (by omega) (by omega) (by omega) H _ ls (hx23.trans hx66) hG (by rw [hc70]; first | exact MF.one hi24 (by decide) (by assumption) | exact MF.none1 hi24 (by decide) (by assumption) (by first | exact Or.inl (by assumption) | exact Or.inr (by assumption)) | exact MF.none0 hi24 (by decide) (by assumption) (by first | exact Or.inl (by assumption) | exact Or.inr (by assumption))) hM hS (lv_sub hl [0, 1, 2, 3] rfl)
          · skip
            refine lv_aload_n hx hb dX1_markFalling_62 rfl (lv_at hl 2 rfl) ?_
            obtain ⟨u72, u73, u74, u75, u76, u77, hP, hf⟩ := o_st (i := i) (q := o) hM (by omega)
            refine va_get (D := (dC, dI)) (ci := 5) (v := .ref (pF g55 o 7)) (C := RX1) (T := TX1) (N := 15) hx hb hts (by decide +kernel) hown hK hP 0 rfl rfl 7 (by decide) (hts (.fieldLink RX1 35 "Snowpalace$Site" "falling" "[Z") (by decide +kernel)) (fun _ h9 => h9) rfl dX1_markFalling_63 ?_
            rw [ef67]
            refine lv_iload_n hx hb dX1_markFalling_66 rfl (lv_at hl 0 rfl) ?_
            obtain ⟨hP, hf⟩ := o_fa (i := i) (q := (pF g o 7)) hM (by omega)
            refine va_zald (D := (dC, dI)) hx hb hK hP 0 1 rfl rfl (vp_in_nI (by omega) (by decide)) dX1_markFalling_67 ?_
            refine lv_topi (fun v78 e79 => ?_)
            have ec : ((nI j17) : Int32).toNatClampNeg = j17 := nI_clamp (by omega)
            rw [ec] at e79
            subst e79
            rw [z968]
            refine lv_if_eq (tgt := 75) hx hb dX1_markFalling_68 (by decide) (fun _ => ?_) (fun cx => by first | exact absurd (by decide) cx | exact absurd cx (by decide))
            refine lv_iconst (v := 0) hx hb dX1_markFalling_75 (by decide) ?_
            refine lv_istore_n (lv' := [(2, .int 0), (3, .int (nI j17)), (0, .ref o), (1, .int wm)]) hx hb dX1_markFalling_76 rfl hl (by decide) rfl (fun ls hl => ?_)
            refine lv_iinc (v := (nI (j17 + 1))) (lv' := [(3, .int (nI (j17 + 1))), (2, .int 0), (0, .ref o), (1, .int wm)]) hx hb dX1_markFalling_77 hl (k := 1) rfl (nI_add j17 1) (by decide) rfl (fun ls hl => ?_)
            refine lv_goto (tgt := 10) hx hb dX1_markFalling_80 (by decide) ?_
            exact ih22 ((j17 + 1)) g55 0 (by omega) (by omega) (by omega) H _ ls (hx23.trans hx66) hG (by rw [hc70]; first | exact MF.one hi24 (by decide) (by assumption) | exact MF.none1 hi24 (by decide) (by assumption) (by first | exact Or.inl (by assumption) | exact Or.inr (by assumption)) | exact MF.none0 hi24 (by decide) (by assumption) (by first | exact Or.inl (by assumption) | exact Or.inr (by assumption))) hM hS (lv_sub hl [0, 1, 2, 3] rfl)
        · skip
          have hk80 : ¬ (pI g (pF g o 0)) j17 = 46 := by obtain ⟨-, jz9, ez9, hz9, hz8⟩ := hw52.resolve_left (fun z => c53 z.1); rw [(nI_eq (a := j17) (b := jz9) (by omega) (by omega)).mp ez9]; exact hz8
          refine lv_aload_n hx hb dX1_markFalling_29 rfl (lv_at hl 2 rfl) ?_
          refine lv_iload_n hx hb dX1_markFalling_30 rfl (lv_at hl 0 rfl) ?_
          obtain ⟨u81, u82, u83, u84, u85, u86, hP, hf⟩ := o_st (i := i) (q := o) hM (by omega)
          refine va_calli (va_runV (As := [.int (nI j17)]) (rest := [.int (nI j17), .ref (pF g o 7)]) ⟨hx, hb, hml, hown, hts⟩ (rk_wouldStand l dC dI kA eD b g18 o i j17 (by omega) (by omega)) (cwV 1 hts gX1_markFalling_X1_wouldStand rfl rfl rfl (by decide +kernel) ⟨Nat.le_of_ble_eq_true rfl, Nat.le_of_ble_eq_true rfl⟩) ⟨fb_CX, va_recv hK hP (ci := 5) (q0 := 0) rfl rfl, fun U hU hW => ⟨rfl, CX.give hb0 hM hK hG hE hS hU hW⟩⟩ rfl rfl hl.1 rfl (lv_room (Nat.le_of_ble_eq_true rfl)) dX1_markFalling_31 ⟨(Nat.le_of_ble_eq_true rfl), (Nat.le_of_ble_eq_true rfl)⟩) hS (fun q _ h => h.elim) (fun q h => h.elim) (fun r87 u t H locs ht hvm hw88 hB hz1 hk1 hS => ?_)
          have hM := hB.back ht
          have hG := hB.2.2.2.1
          rw [ef34] at hw88
          rw [hc35] at hw88
          refine lv_if_eq (tgt := 52) hx hb dX1_markFalling_34 (by decide) (fun c89 => ?_) (fun c89 => ?_)
          · skip
            have hk90 : ¬ WS (pI g (pF g o 0)) j17 := (hw88.resolve_right (fun z => absurd (z.1.symm.trans c89) (by decide))).2
            refine lv_iconst (v := 1) hx hb dX1_markFalling_52 (by decide) ?_
            refine lv_goto (tgt := 57) hx hb dX1_markFalling_53 (by decide) ?_
            obtain ⟨hP, hf⟩ := o_fa (i := i) (q := (pF g o 7)) hM (by omega)
            refine rt_zast (D := (dC, dI)) (t0 := 1) hx hb hK hP (hM.ge (by omega)) hS rfl (vp_in_nI (by omega) (by decide)) dX1_markFalling_57 (fun H locs hP hz ho hS => ?_)
            have ec : ((nI j17) : Int32).toNatClampNeg = j17 := nI_clamp (by omega)
            rw [ec] at hP
            have hM0 := hM
            have hM := p_fa (i := i) (f := upd (pI g18 (pF g o 7)) j17 (vp_nar .boolean 1)) hM (by omega) hP ho (isZ_updP hf)
            obtain ⟨g91, hg91⟩ : ∃ z, z = uI g18 (pF g o 7) (upd (pI g18 (pF g o 7)) j17 (vp_nar .boolean 1)) := ⟨_, rfl⟩
            rw [← hg91] at hM
            have ht92 : tg g91 o = 12 + 64 * i := by rw [hg91]; exact ht25
            have ht93 : tg g91 (pF g o 0) = 13 + 64 * i := by rw [hg91]; exact ht26
            have ht94 : tg g91 (pF g o 1) = 21 := by rw [hg91]; exact ht27
            have ht95 : tg g91 (pF g o 2) = 14 := by rw [hg91]; exact ht28
            have ht96 : tg g91 (pF g o 3) = 14 := by rw [hg91]; exact ht29
            have ht97 : tg g91 (pF g o 4) = 15 := by rw [hg91]; exact ht30
            have ht98 : tg g91 (pF g o 5) = 16 + 64 * i := by rw [hg91]; exact ht31
            have ht99 : tg g91 (pF g o 6) = 23 := by rw [hg91]; exact ht32
            have ht100 : tg g91 (pF g o 7) = 20 + 64 * i := by rw [hg91]; exact ht33
            have hG : GOK g91 := by rw [hg91]; exact (hG.uI hM0 (Or.inl (by omega)))
            have hx102 : Sx (XF i) g18 g91 := by rw [hg91]; exact Sx.uI (by have h9 := ht33; simp only [XF, XD, XK, XC, XR, XG]; omega)
            have ef103 : pF g91 o = pF g o := (hx102.F).trans ef34
            have z9104 : pI g91 (pF g o 7) j17 = (1 : Int32) := by rw [hg91]; exact (congrFun uI_s _).trans ((if_pos rfl).trans (by decide))
            have hc105 : pI g91 (pF g o 0) = (pI g (pF g o 0)) := by rw [hg91]; exact (uI_n (fun e9 => by have h1 := ht26; have h2 := ht33; rw [e9] at h1; omega)).trans hc35
            have hc106 : pI g91 (pF g o 7) = (upd (pI g18 (pF g o 7)) j17 (vp_nar .boolean 1)) := by rw [hg91]; exact uI_s
            refine lv_iload_n hx hb dX1_markFalling_58 rfl (lv_at hl 1 rfl) ?_
            refine lv_if_ne (tgt := 71) hx hb dX1_markFalling_59 (by decide) (fun c107 => ?_) (fun c107 => ?_)
            · skip
              refine lv_iconst (v := 1) hx hb dX1_markFalling_71 (by decide) ?_
              refine lv_goto (tgt := 76) hx hb dX1_markFalling_72 (by decide) ?_
              refine lv_istore_n (lv' := [(2, .int 1), (3, .int (nI j17)), (0, .ref o), (1, .int wm)]) hx hb dX1_markFalling_76 rfl hl (by decide) rfl (fun ls hl => ?_)
              refine lv_iinc (v := (nI (j17 + 1))) (lv' := [(3, .int (nI (j17 + 1))), (2, .int 1), (0, .ref o), (1, .int wm)]) hx hb dX1_markFalling_77 hl (k := 1) rfl (nI_add j17 1) (by decide) rfl (fun ls hl => ?_)
              refine lv_goto (tgt := 10) hx hb dX1_markFalling_80 (by decide) ?_
              exact ih22 ((j17 + 1)) g91 1 (by omega) (by omega) (by omega) H _ ls (hx23.trans hx102) hG (by rw [hc106]; first | exact MF.one hi24 (by decide) (by assumption) | exact MF.none1 hi24 (by decide) (by assumption) (by first | exact Or.inl (by assumption) | exact Or.inr (by assumption)) | exact MF.none0 hi24 (by decide) (by assumption) (by first | exact Or.inl (by assumption) | exact Or.inr (by assumption))) hM hS (lv_sub hl [0, 1, 2, 3] rfl)
            · skip
              refine lv_aload_n hx hb dX1_markFalling_62 rfl (lv_at hl 2 rfl) ?_
              obtain ⟨u108, u109, u110, u111, u112, u113, hP, hf⟩ := o_st (i := i) (q := o) hM (by omega)
              refine va_get (D := (dC, dI)) (ci := 5) (v := .ref (pF g91 o 7)) (C := RX1) (T := TX1) (N := 15) hx hb hts (by decide +kernel) hown hK hP 0 rfl rfl 7 (by decide) (hts (.fieldLink RX1 35 "Snowpalace$Site" "falling" "[Z") (by decide +kernel)) (fun _ h9 => h9) rfl dX1_markFalling_63 ?_
              rw [ef103]
              refine lv_iload_n hx hb dX1_markFalling_66 rfl (lv_at hl 0 rfl) ?_
              obtain ⟨hP, hf⟩ := o_fa (i := i) (q := (pF g o 7)) hM (by omega)
              refine va_zald (D := (dC, dI)) hx hb hK hP 0 1 rfl rfl (vp_in_nI (by omega) (by decide)) dX1_markFalling_67 ?_
              refine lv_topi (fun v114 e115 => ?_)
              have ec : ((nI j17) : Int32).toNatClampNeg = j17 := nI_clamp (by omega)
              rw [ec] at e115
              subst e115
              rw [z9104]
              refine lv_if_eq (tgt := 75) hx hb dX1_markFalling_68 (by decide) (fun cx => by first | exact absurd cx (by decide) | exact absurd (by decide) cx) (fun _ => ?_)
              refine lv_iconst (v := 1) hx hb dX1_markFalling_71 (by decide) ?_
              refine lv_goto (tgt := 76) hx hb dX1_markFalling_72 (by decide) ?_
              refine lv_istore_n (lv' := [(2, .int 1), (3, .int (nI j17)), (0, .ref o), (1, .int wm)]) hx hb dX1_markFalling_76 rfl hl (by decide) rfl (fun ls hl => ?_)
              refine lv_iinc (v := (nI (j17 + 1))) (lv' := [(3, .int (nI (j17 + 1))), (2, .int 1), (0, .ref o), (1, .int wm)]) hx hb dX1_markFalling_77 hl (k := 1) rfl (nI_add j17 1) (by decide) rfl (fun ls hl => ?_)
              refine lv_goto (tgt := 10) hx hb dX1_markFalling_80 (by decide) ?_
              exact ih22 ((j17 + 1)) g91 1 (by omega) (by omega) (by omega) H _ ls (hx23.trans hx102) hG (by rw [hc106]; first | exact MF.one hi24 (by decide) (by assumption) | exact MF.none1 hi24 (by decide) (by assumption) (by first | exact Or.inl (by assumption) | exact Or.inr (by assumption)) | exact MF.none0 hi24 (by decide) (by assumption) (by first | exact Or.inl (by assumption) | exact Or.inr (by assumption))) hM hS (lv_sub hl [0, 1, 2, 3] rfl)
          · skip
            have hk116 : WS (pI g (pF g o 0)) j17 := (hw88.resolve_left (fun z => c89 z.1)).2
            refine lv_aload_n hx hb dX1_markFalling_37 rfl (lv_at hl 2 rfl) ?_
            obtain ⟨u117, u118, u119, u120, u121, u122, hP, hf⟩ := o_st (i := i) (q := o) hM (by omega)
            refine va_get (D := (dC, dI)) (ci := 5) (v := .ref (pF g18 o 6)) (C := RX1) (T := TX1) (N := 15) hx hb hts (by decide +kernel) hown hK hP 0 rfl rfl 6 (by decide) (hts (.fieldLink RX1 32 "Snowpalace$Site" "loads" "[I") (by decide +kernel)) (fun _ h9 => h9) rfl dX1_markFalling_38 ?_
            rw [ef34]
            refine lv_iload_n hx hb dX1_markFalling_41 rfl (lv_at hl 0 rfl) ?_
            obtain ⟨u123, hP, hf⟩ := o_ld (i := 0) (q := (pF g o 6)) hM (by omega)
            refine va_iald (D := (dC, dI)) hx hb hK hP 0 0 rfl rfl (vp_in_nI (by omega) (by decide)) dX1_markFalling_42 ?_
            refine lv_topi (fun v124 e125 => ?_)
            have ec : ((nI j17) : Int32).toNatClampNeg = j17 := nI_clamp (by omega)
            rw [ec] at e125
            refine lv_aload_n hx hb dX1_markFalling_43 rfl (lv_at hl 2 rfl) ?_
            refine lv_iload_n hx hb dX1_markFalling_44 rfl (lv_at hl 0 rfl) ?_
            refine lv_iload_n hx hb dX1_markFalling_45 rfl (lv_at hl 3 rfl) ?_
            obtain ⟨u126, u127, u128, u129, u130, u131, hP, hf⟩ := o_st (i := i) (q := o) hM (by omega)
            refine va_calli (va_runV (As := [.int (nI j17), .int wm]) (rest := [.int v124, .int (nI j17), .ref (pF g o 7)]) ⟨hx, hb, hml, hown, hts⟩ (rk_strengthOf l dC dI kA eD b g18 o i (nI j17) wm (by omega)) (cwV 2 hts gX1_markFalling_X1_strengthOf rfl rfl rfl (by decide +kernel) ⟨Nat.le_of_ble_eq_true rfl, Nat.le_of_ble_eq_true rfl⟩) ⟨fb_CX, va_recv hK hP (ci := 5) (q0 := 0) rfl rfl, fun U hU hW => ⟨rfl, CX.give hb0 hM hK hG hE hS hU hW⟩⟩ rfl rfl hl.1 rfl (lv_room (Nat.le_of_ble_eq_true rfl)) dX1_markFalling_46 ⟨(Nat.le_of_ble_eq_true rfl), (Nat.le_of_ble_eq_true rfl)⟩) hS (fun q _ h => h) (fun q h => h) (fun r132 u t H locs ht hvm hw133 hB hz1 hk1 hS => ?_)
            have hM := hB.back ht
            have hG := hB.2.2.2.1
            refine lv_icmp_le (tgt := 56) hx hb dX1_markFalling_49 (by decide) (fun c134 => ?_) (fun c134 => ?_)
            · skip
              have i135 := (Int32.le_iff_toInt_le).mp c134
              have i135 := i135
              refine lv_iconst (v := 0) hx hb dX1_markFalling_56 (by decide) ?_
              obtain ⟨hP, hf⟩ := o_fa (i := i) (q := (pF g o 7)) hM (by omega)
              refine rt_zast (D := (dC, dI)) (t0 := 1) hx hb hK hP (hM.ge (by omega)) hS rfl (vp_in_nI (by omega) (by decide)) dX1_markFalling_57 (fun H locs hP hz ho hS => ?_)
              have ec : ((nI j17) : Int32).toNatClampNeg = j17 := nI_clamp (by omega)
              rw [ec] at hP
              have hM0 := hM
              have hM := p_fa (i := i) (f := upd (pI g18 (pF g o 7)) j17 (vp_nar .boolean 0)) hM (by omega) hP ho (isZ_updP hf)
              obtain ⟨g136, hg136⟩ : ∃ z, z = uI g18 (pF g o 7) (upd (pI g18 (pF g o 7)) j17 (vp_nar .boolean 0)) := ⟨_, rfl⟩
              rw [← hg136] at hM
              have ht137 : tg g136 o = 12 + 64 * i := by rw [hg136]; exact ht25
              have ht138 : tg g136 (pF g o 0) = 13 + 64 * i := by rw [hg136]; exact ht26
              have ht139 : tg g136 (pF g o 1) = 21 := by rw [hg136]; exact ht27
              have ht140 : tg g136 (pF g o 2) = 14 := by rw [hg136]; exact ht28
              have ht141 : tg g136 (pF g o 3) = 14 := by rw [hg136]; exact ht29
              have ht142 : tg g136 (pF g o 4) = 15 := by rw [hg136]; exact ht30
              have ht143 : tg g136 (pF g o 5) = 16 + 64 * i := by rw [hg136]; exact ht31
              have ht144 : tg g136 (pF g o 6) = 23 := by rw [hg136]; exact ht32
              have ht145 : tg g136 (pF g o 7) = 20 + 64 * i := by rw [hg136]; exact ht33
              have hG : GOK g136 := by rw [hg136]; exact (hG.uI hM0 (Or.inl (by omega)))
              have hx147 : Sx (XF i) g18 g136 := by rw [hg136]; exact Sx.uI (by have h9 := ht33; simp only [XF, XD, XK, XC, XR, XG]; omega)
              have ef148 : pF g136 o = pF g o := (hx147.F).trans ef34
              have z9149 : pI g136 (pF g o 7) j17 = (0 : Int32) := by rw [hg136]; exact (congrFun uI_s _).trans ((if_pos rfl).trans (by decide))
              have hc150 : pI g136 (pF g o 0) = (pI g (pF g o 0)) := by rw [hg136]; exact (uI_n (fun e9 => by have h1 := ht26; have h2 := ht33; rw [e9] at h1; omega)).trans hc35
              have hc151 : pI g136 (pF g o 7) = (upd (pI g18 (pF g o 7)) j17 (vp_nar .boolean 0)) := by rw [hg136]; exact uI_s
              refine lv_iload_n hx hb dX1_markFalling_58 rfl (lv_at hl 1 rfl) ?_
              refine lv_if_ne (tgt := 71) hx hb dX1_markFalling_59 (by decide) (fun c152 => ?_) (fun c152 => ?_)
              · skip
                refine lv_iconst (v := 1) hx hb dX1_markFalling_71 (by decide) ?_
                refine lv_goto (tgt := 76) hx hb dX1_markFalling_72 (by decide) ?_
                refine lv_istore_n (lv' := [(2, .int 1), (3, .int (nI j17)), (0, .ref o), (1, .int wm)]) hx hb dX1_markFalling_76 rfl hl (by decide) rfl (fun ls hl => ?_)
                refine lv_iinc (v := (nI (j17 + 1))) (lv' := [(3, .int (nI (j17 + 1))), (2, .int 1), (0, .ref o), (1, .int wm)]) hx hb dX1_markFalling_77 hl (k := 1) rfl (nI_add j17 1) (by decide) rfl (fun ls hl => ?_)
                refine lv_goto (tgt := 10) hx hb dX1_markFalling_80 (by decide) ?_
                exact ih22 ((j17 + 1)) g136 1 (by omega) (by omega) (by omega) H _ ls (hx23.trans hx147) hG (by rw [hc151]; first | exact MF.one hi24 (by decide) (by assumption) | exact MF.none1 hi24 (by decide) (by assumption) (by first | exact Or.inl (by assumption) | exact Or.inr (by assumption)) | exact MF.none0 hi24 (by decide) (by assumption) (by first | exact Or.inl (by assumption) | exact Or.inr (by assumption))) hM hS (lv_sub hl [0, 1, 2, 3] rfl)
              · skip
                refine lv_aload_n hx hb dX1_markFalling_62 rfl (lv_at hl 2 rfl) ?_
                obtain ⟨u153, u154, u155, u156, u157, u158, hP, hf⟩ := o_st (i := i) (q := o) hM (by omega)
                refine va_get (D := (dC, dI)) (ci := 5) (v := .ref (pF g136 o 7)) (C := RX1) (T := TX1) (N := 15) hx hb hts (by decide +kernel) hown hK hP 0 rfl rfl 7 (by decide) (hts (.fieldLink RX1 35 "Snowpalace$Site" "falling" "[Z") (by decide +kernel)) (fun _ h9 => h9) rfl dX1_markFalling_63 ?_
                rw [ef148]
                refine lv_iload_n hx hb dX1_markFalling_66 rfl (lv_at hl 0 rfl) ?_
                obtain ⟨hP, hf⟩ := o_fa (i := i) (q := (pF g o 7)) hM (by omega)
                refine va_zald (D := (dC, dI)) hx hb hK hP 0 1 rfl rfl (vp_in_nI (by omega) (by decide)) dX1_markFalling_67 ?_
                refine lv_topi (fun v159 e160 => ?_)
                have ec : ((nI j17) : Int32).toNatClampNeg = j17 := nI_clamp (by omega)
                rw [ec] at e160
                subst e160
                rw [z9149]
                refine lv_if_eq (tgt := 75) hx hb dX1_markFalling_68 (by decide) (fun _ => ?_) (fun cx => by first | exact absurd (by decide) cx | exact absurd cx (by decide))
                refine lv_iconst (v := 0) hx hb dX1_markFalling_75 (by decide) ?_
                refine lv_istore_n (lv' := [(2, .int 0), (3, .int (nI j17)), (0, .ref o), (1, .int wm)]) hx hb dX1_markFalling_76 rfl hl (by decide) rfl (fun ls hl => ?_)
                refine lv_iinc (v := (nI (j17 + 1))) (lv' := [(3, .int (nI (j17 + 1))), (2, .int 0), (0, .ref o), (1, .int wm)]) hx hb dX1_markFalling_77 hl (k := 1) rfl (nI_add j17 1) (by decide) rfl (fun ls hl => ?_)
                refine lv_goto (tgt := 10) hx hb dX1_markFalling_80 (by decide) ?_
                exact ih22 ((j17 + 1)) g136 0 (by omega) (by omega) (by omega) H _ ls (hx23.trans hx147) hG (by rw [hc151]; first | exact MF.one hi24 (by decide) (by assumption) | exact MF.none1 hi24 (by decide) (by assumption) (by first | exact Or.inl (by assumption) | exact Or.inr (by assumption)) | exact MF.none0 hi24 (by decide) (by assumption) (by first | exact Or.inl (by assumption) | exact Or.inr (by assumption))) hM hS (lv_sub hl [0, 1, 2, 3] rfl)
            · skip
              have i161 := fun z => c134 ((Int32.le_iff_toInt_le).mpr z)
              have i161 : ¬ ((v124 : Int32).toInt ≤ (r132 : Int32).toInt) := i161
              refine lv_iconst (v := 1) hx hb dX1_markFalling_52 (by decide) ?_
              refine lv_goto (tgt := 57) hx hb dX1_markFalling_53 (by decide) ?_
              obtain ⟨hP, hf⟩ := o_fa (i := i) (q := (pF g o 7)) hM (by omega)
              refine rt_zast (D := (dC, dI)) (t0 := 1) hx hb hK hP (hM.ge (by omega)) hS rfl (vp_in_nI (by omega) (by decide)) dX1_markFalling_57 (fun H locs hP hz ho hS => ?_)
              have ec : ((nI j17) : Int32).toNatClampNeg = j17 := nI_clamp (by omega)
              rw [ec] at hP
              have hM0 := hM
              have hM := p_fa (i := i) (f := upd (pI g18 (pF g o 7)) j17 (vp_nar .boolean 1)) hM (by omega) hP ho (isZ_updP hf)
              obtain ⟨g162, hg162⟩ : ∃ z, z = uI g18 (pF g o 7) (upd (pI g18 (pF g o 7)) j17 (vp_nar .boolean 1)) := ⟨_, rfl⟩
              rw [← hg162] at hM
              have ht163 : tg g162 o = 12 + 64 * i := by rw [hg162]; exact ht25
              have ht164 : tg g162 (pF g o 0) = 13 + 64 * i := by rw [hg162]; exact ht26
              have ht165 : tg g162 (pF g o 1) = 21 := by rw [hg162]; exact ht27
              have ht166 : tg g162 (pF g o 2) = 14 := by rw [hg162]; exact ht28
              have ht167 : tg g162 (pF g o 3) = 14 := by rw [hg162]; exact ht29
              have ht168 : tg g162 (pF g o 4) = 15 := by rw [hg162]; exact ht30
              have ht169 : tg g162 (pF g o 5) = 16 + 64 * i := by rw [hg162]; exact ht31
              have ht170 : tg g162 (pF g o 6) = 23 := by rw [hg162]; exact ht32
              have ht171 : tg g162 (pF g o 7) = 20 + 64 * i := by rw [hg162]; exact ht33
              have hG : GOK g162 := by rw [hg162]; exact (hG.uI hM0 (Or.inl (by omega)))
              have hx173 : Sx (XF i) g18 g162 := by rw [hg162]; exact Sx.uI (by have h9 := ht33; simp only [XF, XD, XK, XC, XR, XG]; omega)
              have ef174 : pF g162 o = pF g o := (hx173.F).trans ef34
              have z9175 : pI g162 (pF g o 7) j17 = (1 : Int32) := by rw [hg162]; exact (congrFun uI_s _).trans ((if_pos rfl).trans (by decide))
              have hc176 : pI g162 (pF g o 0) = (pI g (pF g o 0)) := by rw [hg162]; exact (uI_n (fun e9 => by have h1 := ht26; have h2 := ht33; rw [e9] at h1; omega)).trans hc35
              have hc177 : pI g162 (pF g o 7) = (upd (pI g18 (pF g o 7)) j17 (vp_nar .boolean 1)) := by rw [hg162]; exact uI_s
              refine lv_iload_n hx hb dX1_markFalling_58 rfl (lv_at hl 1 rfl) ?_
              refine lv_if_ne (tgt := 71) hx hb dX1_markFalling_59 (by decide) (fun c178 => ?_) (fun c178 => ?_)
              · skip
                refine lv_iconst (v := 1) hx hb dX1_markFalling_71 (by decide) ?_
                refine lv_goto (tgt := 76) hx hb dX1_markFalling_72 (by decide) ?_
                refine lv_istore_n (lv' := [(2, .int 1), (3, .int (nI j17)), (0, .ref o), (1, .int wm)]) hx hb dX1_markFalling_76 rfl hl (by decide) rfl (fun ls hl => ?_)
                refine lv_iinc (v := (nI (j17 + 1))) (lv' := [(3, .int (nI (j17 + 1))), (2, .int 1), (0, .ref o), (1, .int wm)]) hx hb dX1_markFalling_77 hl (k := 1) rfl (nI_add j17 1) (by decide) rfl (fun ls hl => ?_)
                refine lv_goto (tgt := 10) hx hb dX1_markFalling_80 (by decide) ?_
                exact ih22 ((j17 + 1)) g162 1 (by omega) (by omega) (by omega) H _ ls (hx23.trans hx173) hG (by rw [hc177]; first | exact MF.one hi24 (by decide) (by assumption) | exact MF.none1 hi24 (by decide) (by assumption) (by first | exact Or.inl (by assumption) | exact Or.inr (by assumption)) | exact MF.none0 hi24 (by decide) (by assumption) (by first | exact Or.inl (by assumption) | exact Or.inr (by assumption))) hM hS (lv_sub hl [0, 1, 2, 3] rfl)
              · skip
                refine lv_aload_n hx hb dX1_markFalling_62 rfl (lv_at hl 2 rfl) ?_
                obtain ⟨u179, u180, u181, u182, u183, u184, hP, hf⟩ := o_st (i := i) (q := o) hM (by omega)
                refine va_get (D := (dC, dI)) (ci := 5) (v := .ref (pF g162 o 7)) (C := RX1) (T := TX1) (N := 15) hx hb hts (by decide +kernel) hown hK hP 0 rfl rfl 7 (by decide) (hts (.fieldLink RX1 35 "Snowpalace$Site" "falling" "[Z") (by decide +kernel)) (fun _ h9 => h9) rfl dX1_markFalling_63 ?_
                rw [ef174]
                refine lv_iload_n hx hb dX1_markFalling_66 rfl (lv_at hl 0 rfl) ?_
                obtain ⟨hP, hf⟩ := o_fa (i := i) (q := (pF g o 7)) hM (by omega)
                refine va_zald (D := (dC, dI)) hx hb hK hP 0 1 rfl rfl (vp_in_nI (by omega) (by decide)) dX1_markFalling_67 ?_
                refine lv_topi (fun v185 e186 => ?_)
                have ec : ((nI j17) : Int32).toNatClampNeg = j17 := nI_clamp (by omega)
                rw [ec] at e186
                subst e186
                rw [z9175]
                refine lv_if_eq (tgt := 75) hx hb dX1_markFalling_68 (by decide) (fun cx => by first | exact absurd cx (by decide) | exact absurd (by decide) cx) (fun _ => ?_)
                refine lv_iconst (v := 1) hx hb dX1_markFalling_71 (by decide) ?_
                refine lv_goto (tgt := 76) hx hb dX1_markFalling_72 (by decide) ?_
                refine lv_istore_n (lv' := [(2, .int 1), (3, .int (nI j17)), (0, .ref o), (1, .int wm)]) hx hb dX1_markFalling_76 rfl hl (by decide) rfl (fun ls hl => ?_)
                refine lv_iinc (v := (nI (j17 + 1))) (lv' := [(3, .int (nI (j17 + 1))), (2, .int 1), (0, .ref o), (1, .int wm)]) hx hb dX1_markFalling_77 hl (k := 1) rfl (nI_add j17 1) (by decide) rfl (fun ls hl => ?_)
                refine lv_goto (tgt := 10) hx hb dX1_markFalling_80 (by decide) ?_
                exact ih22 ((j17 + 1)) g162 1 (by omega) (by omega) (by omega) H _ ls (hx23.trans hx173) hG (by rw [hc177]; first | exact MF.one hi24 (by decide) (by assumption) | exact MF.none1 hi24 (by decide) (by assumption) (by first | exact Or.inl (by assumption) | exact Or.inr (by assumption)) | exact MF.none0 hi24 (by decide) (by assumption) (by first | exact Or.inl (by assumption) | exact Or.inr (by assumption))) hM hS (lv_sub hl [0, 1, 2, 3] rfl)
  exact lp20 (48 + 1) 0 g 0 (by omega) (by omega) (by omega) H _ ls Sx.refl hG MF.zero hM hS (lv_sub hl [0, 1, 2, 3] rfl)

set_option maxHeartbeats 4000000 in
set_option maxRecDepth 100000 in
theorem rk_dropMarked (l : Launch) (dC : Nat → ClassId) (dI : Nat → Nat → Nat) (kA : Nat → ClassId) (eD b : Nat) (g : Gh) (o : Nat) (i : Nat) (hto : tg g o = 12 + 64 * i)  : Met l yX1_dropMarked wsX1_dropMarked ({ frames := 3, cells := 0, slots := 0, locals := 65 }) (va_Pc [.ref o] (CX (dC, dI) kA eD b g)) (va_Qi (fun (r : Int32) (u : Gh) => Sx (XD i) g u ∧ (pI u (pF g o 0)) = dm (pI g (pF g o 0)) (pI g (pF g o 7)) 48) (fun (u : Gh) t => CX (dC, dI) kA eD b u t) (fun q => b ≤ q)) 0 0 (fun q => b ≤ q) := by
  refine Met.ofW (cc := cX1_dropMarked) (maxL := 3) (ret := (some .int)) (by decide +kernel) rfl ?_
  intro p e s m args below meth c s₁ B hml hv
  obtain ⟨rfl, hb0, hM, hK, hG, hE⟩ := hv
  have hx := B.exec
  have hb := B.bytes
  have hr := B.returns
  have hts := atoms_spec (ws := wsX1_dropMarked) B.pre
  have hown : s.vm.findClass RX1 = some m.cls := findClass_of_methodNamed B.named
  have hlocks := B.notSynchronized
  have hT := hE.1
  have hN := hE.2.2.2.2.2.2.2.1
  have hS : va_S (fun q => b ≤ q) s.heap s.heap [] := va_S.rf
  have hl := lv_entry ([.ref o]) (n := 3) (Nat.le_of_ble_eq_true rfl)
  rw [lg_entry_eq]
  generalize (lg_sl ([.ref o]) ++ List.replicate (3 - (lg_sl ([.ref o])).length) Slot.unset).toArray = ls at hl ⊢
  have hl : lv_has ls 3 [(0, .ref o)] := hl
  generalize ([.ref o] : List Value).toArray = args at hts ⊢
  refine W.q (fun Q hQ => ?_)
  obtain ⟨_, _, _, _, _, _, -, hst9⟩ := o_st (i := i) (q := o) hM (by omega)
  have ht1 : tg g (pF g o 0) = 13 + 64 * i := hst9.1
  have ht2 : tg g (pF g o 1) = 21 := hst9.2.1
  have ht3 : tg g (pF g o 2) = 14 := hst9.2.2.1
  have ht4 : tg g (pF g o 3) = 14 := hst9.2.2.2.1
  have ht5 : tg g (pF g o 4) = 15 := hst9.2.2.2.2.1
  have ht6 : tg g (pF g o 5) = 16 + 64 * i := hst9.2.2.2.2.2.1
  have ht7 : tg g (pF g o 6) = 23 := hst9.2.2.2.2.2.2.1
  have ht8 : tg g (pF g o 7) = 20 + 64 * i := hst9.2.2.2.2.2.2.2.1
  have hMg := hM
  refine lv_iconst (v := 0) hx hb dX1_dropMarked_0 (by decide) ?_
  refine lv_istore_n (lv' := [(1, .int 0), (0, .ref o)]) hx hb dX1_dropMarked_1 rfl hl (by decide) rfl (fun ls hl => ?_)
  refine lv_iconst (v := 0) hx hb dX1_dropMarked_2 (by decide) ?_
  refine lv_istore_n (lv' := [(2, .int 0), (1, .int 0), (0, .ref o)]) hx hb dX1_dropMarked_3 rfl hl (by decide) rfl (fun ls hl => ?_)
  have lp12 : ∀ (n13 j9 : Nat) (g10 : Gh) (x11 : Int32), 0 ≤ j9 → j9 ≤ 48 → 48 < j9 + n13 → ∀ (H : Heap) (locs : List Loc) (ls : Array Slot), (Sx (XD i) g g10) → (GOK g10) → (pI g10 (pF g o 0) = dm (pI g (pF g o 0)) (pI g (pF g o 7)) j9) → TM (dC, dI) kA b g10 H → va_S (fun q => b ≤ q) s.heap H locs → lv_has ls 3 [(2, .int (nI j9)), (1, .int x11), (0, .ref o)] → W p l e (headSpec wsX1_dropMarked ({ frames := 3, cells := 0, slots := 0, locals := 65 })).room s m args below meth c H locs 0 0 Q (F0 m 4 ls []) := by
    intro n13
    induction n13 with
    | zero => intro j9 g10 x11 h0 h1 h2; omega
    | succ n13 ih14 =>
      intro j9 g10 x11 lj9 hj9 hn13 H locs ls hx15 hG hi16 hM hS hl
      have ht17 : tg g10 o = 12 + 64 * i := hx15.tk hto (by omega)
      have ht18 : tg g10 (pF g o 0) = 13 + 64 * i := hx15.tk ht1 (by omega)
      have ht19 : tg g10 (pF g o 1) = 21 := hx15.tk ht2 (by omega)
      have ht20 : tg g10 (pF g o 2) = 14 := hx15.tk ht3 (by omega)
      have ht21 : tg g10 (pF g o 3) = 14 := hx15.tk ht4 (by omega)
      have ht22 : tg g10 (pF g o 4) = 15 := hx15.tk ht5 (by omega)
      have ht23 : tg g10 (pF g o 5) = 16 + 64 * i := hx15.tk ht6 (by omega)
      have ht24 : tg g10 (pF g o 6) = 23 := hx15.tk ht7 (by omega)
      have ht25 : tg g10 (pF g o 7) = 20 + 64 * i := hx15.tk ht8 (by omega)
      have ef26 : pF g10 o = pF g o := hx15.F
      have hc27 : pI g10 (pF g o 7) = (pI g (pF g o 7)) := (hx15.i (fun z9 => by have h9 := ht8; simp only [XF, XD, XK] at z9; omega))
      refine lv_iload_n hx hb dX1_dropMarked_4 rfl (lv_at hl 0 rfl) ?_
      refine lv_bipush (v := 48) hx hb dX1_dropMarked_5 (by decide) ?_
      refine lv_icmp_ge (tgt := 38) hx hb dX1_dropMarked_7 (by decide) (fun c28 => ?_) (fun c28 => ?_)
      · skip
        have k29 : 48 ≤ j9 := (nI_leI (a := 48) (b := j9) (by omega) (by omega)).mp c28
        refine lv_aload_n hx hb dX1_dropMarked_38 rfl (lv_at hl 2 rfl) ?_
        refine lv_dup hx hb dX1_dropMarked_39 rfl ?_
        obtain ⟨u30, u31, u32, u33, u34, u35, hP, hf⟩ := o_st (i := i) (q := o) hM (by omega)
        refine va_get (D := (dC, dI)) (ci := 5) (v := .int u30) (C := RX1) (T := TX1) (N := 15) hx hb hts (by decide +kernel) hown hK hP 0 rfl rfl 9 (by decide) (hts (.fieldLink RX1 42 "Snowpalace$Site" "fallen" "I") (by decide +kernel)) (fun _ h9 => h9) rfl dX1_dropMarked_40 ?_
        refine lv_iload_n hx hb dX1_dropMarked_43 rfl (lv_at hl 1 rfl) ?_
        refine lv_iadd hx hb dX1_dropMarked_44 ?_
        refine lv_topi (fun v36 e37 => ?_)
        obtain ⟨u38, u39, u40, u41, u42, u43, hP, hf⟩ := o_st (i := i) (q := o) hM (by omega)
        refine rt_put (D := (dC, dI)) (ci := 5) (v := .int v36) (ty := .int) (C := RX1) (T := TX1) (N := 15) hx hb hts (by decide +kernel) tyX1 tyX1_ok nmX1 hown hK hP (hM.ge (by omega)) hS rfl 9 (by decide) (hts (.fieldLink RX1 42 "Snowpalace$Site" "fallen" "I") (by decide +kernel)) (fun _ h9 => h9) rfl (by decide +kernel) rfl rfl (Nat.le_of_ble_eq_true rfl) dX1_dropMarked_45 (fun H locs hP hz ho hS => ?_)
        have hM := s_st (i := i) hM (by omega) hP ho hf
        refine lv_iload_n hx hb dX1_dropMarked_48 rfl (lv_at hl 1 rfl) ?_
        subst hQ
        refine W.widen (k := 0) (n := 0) (Nat.le_of_ble_eq_true rfl) (Nat.le_of_ble_eq_true rfl) ?_
        exact W.iret (v := x11) hx hb hr (fun t ht hW => ⟨⟨x11, g10, rfl, ⟨hx15, by have h9 := hi16; rw [show j9 = 48 by omega] at h9; exact h9⟩, CX.give hb0 hM hK hG hE hS ht hW⟩, hS.F ht⟩) hS.2.2 dX1_dropMarked_49
      · skip
        have k44 : ¬ (48 ≤ j9) := fun z => c28 ((nI_leI (a := 48) (b := j9) (by omega) (by omega)).mpr z)
        refine lv_aload_n hx hb dX1_dropMarked_10 rfl (lv_at hl 2 rfl) ?_
        obtain ⟨u45, u46, u47, u48, u49, u50, hP, hf⟩ := o_st (i := i) (q := o) hM (by omega)
        refine va_get (D := (dC, dI)) (ci := 5) (v := .ref (pF g10 o 7)) (C := RX1) (T := TX1) (N := 15) hx hb hts (by decide +kernel) hown hK hP 0 rfl rfl 7 (by decide) (hts (.fieldLink RX1 35 "Snowpalace$Site" "falling" "[Z") (by decide +kernel)) (fun _ h9 => h9) rfl dX1_dropMarked_11 ?_
        rw [ef26]
        refine lv_iload_n hx hb dX1_dropMarked_14 rfl (lv_at hl 0 rfl) ?_
        obtain ⟨hP, hf⟩ := o_fa (i := i) (q := (pF g o 7)) hM (by omega)
        refine va_zald (D := (dC, dI)) hx hb hK hP 0 1 rfl rfl (vp_in_nI (by omega) (by decide)) dX1_dropMarked_15 ?_
        refine lv_topi (fun v51 e52 => ?_)
        have ec : ((nI j9) : Int32).toNatClampNeg = j9 := nI_clamp (by omega)
        rw [ec] at e52
        subst e52
        have hu53 := hf j9 (by omega)
        refine lv_if_eq (tgt := 32) hx hb dX1_dropMarked_16 (by decide) (fun c54 => ?_) (fun c54 => ?_)
        · skip
          refine lv_iinc (v := (nI (j9 + 1))) (lv' := [(2, .int (nI (j9 + 1))), (1, .int x11), (0, .ref o)]) hx hb dX1_dropMarked_32 hl (k := 0) rfl (nI_add j9 1) (by decide) rfl (fun ls hl => ?_)
          refine lv_goto (tgt := 4) hx hb dX1_dropMarked_35 (by decide) ?_
          exact ih14 ((j9 + 1)) g10 x11 (by omega) (by omega) (by omega) H _ ls hx15 hG (by first | exact hi16.trans (dm_keep (by rw [← hc27]; assumption)).symm | exact hi16.trans (dm_fall (by rw [← hc27]; assumption)).symm) hM hS (lv_sub hl [0, 1, 2] rfl)
        · skip
          refine lv_aload_n hx hb dX1_dropMarked_19 rfl (lv_at hl 2 rfl) ?_
          refine lv_iload_n hx hb dX1_dropMarked_20 rfl (lv_at hl 0 rfl) ?_
          obtain ⟨u55, u56, u57, u58, u59, u60, hP, hf⟩ := o_st (i := i) (q := o) hM (by omega)
          refine va_callv (va_runV (As := [.int (nI j9)]) (rest := []) ⟨hx, hb, hml, hown, hts⟩ (rk_removeCell l dC dI kA eD b g10 o i j9 (by omega) (by omega)) (cwV 1 hts gX1_dropMarked_X1_removeCell rfl rfl rfl (by decide +kernel) ⟨Nat.le_of_ble_eq_true rfl, Nat.le_of_ble_eq_true rfl⟩) ⟨fb_CX, va_recv hK hP (ci := 5) (q0 := 0) rfl rfl, fun U hU hW => ⟨rfl, CX.give hb0 hM hK hG hE hS hU hW⟩⟩ rfl rfl hl.1 rfl (lv_room (Nat.le_of_ble_eq_true rfl)) dX1_dropMarked_21 ⟨(Nat.le_of_ble_eq_true rfl), (Nat.le_of_ble_eq_true rfl)⟩) hS (fun q _ h => h) (fun q h => h) (fun g63 t H locs ht hvm hw62 hB hz1 hk1 hS => ?_)
          have hM := hB.back ht
          have hG := hB.2.2.2.1
          have hx64 : Sx (XD i) g10 g63 := hw62.1
          have ht65 : tg g63 o = 12 + 64 * i := hx64.tk ht17 (by omega)
          have ht66 : tg g63 (pF g o 0) = 13 + 64 * i := hx64.tk ht18 (by omega)
          have ht67 : tg g63 (pF g o 1) = 21 := hx64.tk ht19 (by omega)
          have ht68 : tg g63 (pF g o 2) = 14 := hx64.tk ht20 (by omega)
          have ht69 : tg g63 (pF g o 3) = 14 := hx64.tk ht21 (by omega)
          have ht70 : tg g63 (pF g o 4) = 15 := hx64.tk ht22 (by omega)
          have ht71 : tg g63 (pF g o 5) = 16 + 64 * i := hx64.tk ht23 (by omega)
          have ht72 : tg g63 (pF g o 6) = 23 := hx64.tk ht24 (by omega)
          have ht73 : tg g63 (pF g o 7) = 20 + 64 * i := hx64.tk ht25 (by omega)
          have ef74 : pF g63 o = pF g o := (hx64.F).trans ef26
          have hwk75 := hw62.2
          rw [ef26] at hwk75
          try rw [hi16] at hwk75
          try rw [hc27] at hwk75
          have hc76 : pI g63 (pF g o 7) = (pI g (pF g o 7)) := (hx64.i (fun z9 => by have h9 := ht25; simp only [XF, XD, XK] at z9; omega)).trans hc27
          refine lv_aload_n hx hb dX1_dropMarked_24 rfl (lv_at hl 2 rfl) ?_
          refine lv_iload_n hx hb dX1_dropMarked_25 rfl (lv_at hl 0 rfl) ?_
          obtain ⟨u77, u78, u79, u80, u81, u82, hP, hf⟩ := o_st (i := i) (q := o) hM (by omega)
          refine rt_put (D := (dC, dI)) (ci := 5) (v := .int (nI j9)) (ty := .int) (C := RX1) (T := TX1) (N := 15) hx hb hts (by decide +kernel) tyX1 tyX1_ok nmX1 hown hK hP (hM.ge (by omega)) hS rfl 10 (by decide) (hts (.fieldLink RX1 46 "Snowpalace$Site" "lastFallen" "I") (by decide +kernel)) (fun _ h9 => h9) rfl (by decide +kernel) rfl rfl (Nat.le_of_ble_eq_true rfl) dX1_dropMarked_26 (fun H locs hP hz ho hS => ?_)
          have hM := s_st (i := i) hM (by omega) hP ho hf
          obtain ⟨v83, e84⟩ : ∃ y : Int32, y = x11 + 1 := ⟨_, rfl⟩
          refine lv_iinc (v := v83) (lv' := [(1, .int v83), (2, .int (nI j9)), (0, .ref o)]) hx hb dX1_dropMarked_29 hl (k := 1) rfl (by rw [e84]; rfl) (by decide) rfl (fun ls hl => ?_)
          refine lv_iinc (v := (nI (j9 + 1))) (lv' := [(2, .int (nI (j9 + 1))), (1, .int v83), (0, .ref o)]) hx hb dX1_dropMarked_32 hl (k := 1) rfl (nI_add j9 1) (by decide) rfl (fun ls hl => ?_)
          refine lv_goto (tgt := 4) hx hb dX1_dropMarked_35 (by decide) ?_
          exact ih14 ((j9 + 1)) g63 v83 (by omega) (by omega) (by omega) H _ ls (hx15.trans hx64) hG (by first | exact hi16.trans (dm_keep (by rw [← hc27]; assumption)).symm | exact hwk75.trans (dm_fall (by rw [← hc27]; assumption)).symm) hM hS (lv_sub hl [0, 1, 2] rfl)
  exact lp12 (48 + 1) 0 g 0 (by omega) (by omega) (by omega) s.heap _ ls Sx.refl hG dm_0.symm hM hS (lv_sub hl [0, 1, 2] rfl)

set_option maxHeartbeats 4000000 in
set_option maxRecDepth 100000 in
theorem rk_settle (l : Launch) (dC : Nat → ClassId) (dI : Nat → Nat → Nat) (kA : Nat → ClassId) (eD b : Nat) (g : Gh) (o : Nat) (i : Nat) (wm : Int32) (hto : tg g o = 12 + 64 * i)  : Met l yX1_settle wsX1_settle ({ frames := 4, cells := 0, slots := 0, locals := 92 }) (va_Pc [.ref o, .int wm] (CX (dC, dI) kA eD b g)) (va_Qi (fun (r : Int32) (u : Gh) => Sx (XK i) g u ∧ STF (pI u (pF g o 0))) (fun (u : Gh) t => CX (dC, dI) kA eD b u t) (fun q => b ≤ q)) 0 0 (fun q => b ≤ q) := by
  refine Met.ofW (cc := cX1_settle) (maxL := 4) (ret := (some .int)) (by decide +kernel) rfl ?_
  intro p e s m args below meth c s₁ B hml hv
  obtain ⟨rfl, hb0, hM, hK, hG, hE⟩ := hv
  have hx := B.exec
  have hb := B.bytes
  have hr := B.returns
  have hts := atoms_spec (ws := wsX1_settle) B.pre
  have hown : s.vm.findClass RX1 = some m.cls := findClass_of_methodNamed B.named
  have hlocks := B.notSynchronized
  have hT := hE.1
  have hN := hE.2.2.2.2.2.2.2.1
  have hS : va_S (fun q => b ≤ q) s.heap s.heap [] := va_S.rf
  have hl := lv_entry ([.ref o, .int wm]) (n := 4) (Nat.le_of_ble_eq_true rfl)
  rw [lg_entry_eq]
  generalize (lg_sl ([.ref o, .int wm]) ++ List.replicate (4 - (lg_sl ([.ref o, .int wm])).length) Slot.unset).toArray = ls at hl ⊢
  have hl : lv_has ls 4 [(0, .ref o), (1, .int wm)] := hl
  generalize ([.ref o, .int wm] : List Value).toArray = args at hts ⊢
  refine W.q (fun Q hQ => ?_)
  obtain ⟨_, _, _, _, _, _, -, hst9⟩ := o_st (i := i) (q := o) hM (by omega)
  have ht1 : tg g (pF g o 0) = 13 + 64 * i := hst9.1
  have ht2 : tg g (pF g o 1) = 21 := hst9.2.1
  have ht3 : tg g (pF g o 2) = 14 := hst9.2.2.1
  have ht4 : tg g (pF g o 3) = 14 := hst9.2.2.2.1
  have ht5 : tg g (pF g o 4) = 15 := hst9.2.2.2.2.1
  have ht6 : tg g (pF g o 5) = 16 + 64 * i := hst9.2.2.2.2.2.1
  have ht7 : tg g (pF g o 6) = 23 := hst9.2.2.2.2.2.2.1
  have ht8 : tg g (pF g o 7) = 20 + 64 * i := hst9.2.2.2.2.2.2.2.1
  have hMg := hM
  refine lv_iconst (v := 0) hx hb dX1_settle_0 (by decide) ?_
  refine lv_istore_n (lv' := [(2, .int 0), (0, .ref o), (1, .int wm)]) hx hb dX1_settle_1 rfl hl (by decide) rfl (fun ls hl => ?_)
  refine lv_iconst (v := 0) hx hb dX1_settle_2 (by decide) ?_
  refine lv_istore_n (lv' := [(3, .int 0), (2, .int 0), (0, .ref o), (1, .int wm)]) hx hb dX1_settle_3 rfl hl (by decide) rfl (fun ls hl => ?_)
  have lp12 : ∀ (n13 j9 : Nat) (g10 : Gh) (x11 : Int32), 0 ≤ j9 → j9 ≤ 49 → 49 < j9 + n13 → ∀ (H : Heap) (locs : List Loc) (ls : Array Slot), (Sx (XK i) g g10) → (GOK g10) → (ck (pI g10 (pF g o 0)) + j9 ≤ 48) → TM (dC, dI) kA b g10 H → va_S (fun q => b ≤ q) s.heap H locs → lv_has ls 4 [(3, .int (nI j9)), (2, .int x11), (0, .ref o), (1, .int wm)] → W p l e (headSpec wsX1_settle ({ frames := 4, cells := 0, slots := 0, locals := 92 })).room s m args below meth c H locs 0 0 Q (F0 m 4 ls []) := by
    intro n13
    induction n13 with
    | zero => intro j9 g10 x11 h0 h1 h2; omega
    | succ n13 ih14 =>
      intro j9 g10 x11 lj9 hj9 hn13 H locs ls hx15 hG hi16 hM hS hl
      have ht17 : tg g10 o = 12 + 64 * i := hx15.tk hto (by omega)
      have ht18 : tg g10 (pF g o 0) = 13 + 64 * i := hx15.tk ht1 (by omega)
      have ht19 : tg g10 (pF g o 1) = 21 := hx15.tk ht2 (by omega)
      have ht20 : tg g10 (pF g o 2) = 14 := hx15.tk ht3 (by omega)
      have ht21 : tg g10 (pF g o 3) = 14 := hx15.tk ht4 (by omega)
      have ht22 : tg g10 (pF g o 4) = 15 := hx15.tk ht5 (by omega)
      have ht23 : tg g10 (pF g o 5) = 16 + 64 * i := hx15.tk ht6 (by omega)
      have ht24 : tg g10 (pF g o 6) = 23 := hx15.tk ht7 (by omega)
      have ht25 : tg g10 (pF g o 7) = 20 + 64 * i := hx15.tk ht8 (by omega)
      have ef26 : pF g10 o = pF g o := hx15.F
      refine lv_iload_n hx hb dX1_settle_4 rfl (lv_at hl 0 rfl) ?_
      refine lv_bipush (v := 48) hx hb dX1_settle_5 (by decide) ?_
      refine lv_icmp_gt (tgt := 31) hx hb dX1_settle_7 (by decide) (fun c27 => ?_) (fun c27 => ?_)
      · skip
        have k28 : 48 < j9 := (nI_ltI (a := 48) (b := j9) (by omega) (by omega)).mp c27
        refine lv_iload_n hx hb dX1_settle_31 rfl (lv_at hl 1 rfl) ?_
        subst hQ
        refine W.widen (k := 0) (n := 0) (Nat.le_of_ble_eq_true rfl) (Nat.le_of_ble_eq_true rfl) ?_
        exact W.iret (v := x11) hx hb hr (fun t ht hW => ⟨⟨x11, g10, rfl, ⟨hx15, by exfalso; omega⟩, CX.give hb0 hM hK hG hE hS ht hW⟩, hS.F ht⟩) hS.2.2 dX1_settle_32
      · skip
        have k29 : ¬ (48 < j9) := fun z => c27 ((nI_ltI (a := 48) (b := j9) (by omega) (by omega)).mpr z)
        refine lv_aload_n hx hb dX1_settle_10 rfl (lv_at hl 2 rfl) ?_
        refine lv_iload_n hx hb dX1_settle_11 rfl (lv_at hl 3 rfl) ?_
        obtain ⟨u30, u31, u32, u33, u34, u35, hP, hf⟩ := o_st (i := i) (q := o) hM (by omega)
        refine va_calli (va_runV (As := [.int wm]) (rest := []) ⟨hx, hb, hml, hown, hts⟩ (rk_markFalling l dC dI kA eD b g10 o i wm (by omega)) (cwV 1 hts gX1_settle_X1_markFalling rfl rfl rfl (by decide +kernel) ⟨Nat.le_of_ble_eq_true rfl, Nat.le_of_ble_eq_true rfl⟩) ⟨fb_CX, va_recv hK hP (ci := 5) (q0 := 0) rfl rfl, fun U hU hW => ⟨rfl, CX.give hb0 hM hK hG hE hS hU hW⟩⟩ rfl rfl hl.1 rfl (lv_room (Nat.le_of_ble_eq_true rfl)) dX1_settle_12 ⟨(Nat.le_of_ble_eq_true rfl), (Nat.le_of_ble_eq_true rfl)⟩) hS (fun q _ h => h) (fun q h => h) (fun r36 g38 t H locs ht hvm hw37 hB hz1 hk1 hS => ?_)
        have hM := hB.back ht
        have hG := hB.2.2.2.1
        have hx39 : Sx (XF i) g10 g38 := hw37.1
        have ht40 : tg g38 o = 12 + 64 * i := hx39.tk ht17 (by omega)
        have ht41 : tg g38 (pF g o 0) = 13 + 64 * i := hx39.tk ht18 (by omega)
        have ht42 : tg g38 (pF g o 1) = 21 := hx39.tk ht19 (by omega)
        have ht43 : tg g38 (pF g o 2) = 14 := hx39.tk ht20 (by omega)
        have ht44 : tg g38 (pF g o 3) = 14 := hx39.tk ht21 (by omega)
        have ht45 : tg g38 (pF g o 4) = 15 := hx39.tk ht22 (by omega)
        have ht46 : tg g38 (pF g o 5) = 16 + 64 * i := hx39.tk ht23 (by omega)
        have ht47 : tg g38 (pF g o 6) = 23 := hx39.tk ht24 (by omega)
        have ht48 : tg g38 (pF g o 7) = 20 + 64 * i := hx39.tk ht25 (by omega)
        have ef49 : pF g38 o = pF g o := (hx39.F).trans ef26
        have hmf50 := hw37.2
        rw [ef26] at hmf50
        have hc51 : pI g38 (pF g o 0) = (pI g10 (pF g o 0)) := (hx39.i (fun z9 => by have h9 := ht18; simp only [XF, XD, XK] at z9; omega))
        refine lv_if_eq (tgt := 31) hx hb dX1_settle_15 (by decide) (fun c52 => ?_) (fun c52 => ?_)
        · skip
          have hst53 : STF (pI g10 (pF g o 0)) := (hmf50.2.resolve_right (fun z => absurd (z.1.symm.trans c52) (by decide))).2
          refine lv_iload_n hx hb dX1_settle_31 rfl (lv_at hl 1 rfl) ?_
          subst hQ
          refine W.widen (k := 0) (n := 0) (Nat.le_of_ble_eq_true rfl) (Nat.le_of_ble_eq_true rfl) ?_
          exact W.iret (v := x11) hx hb hr (fun t ht hW => ⟨⟨x11, g38, rfl, ⟨(hx15.trans (hx39.wide (Y := (XK i)) (fun t9 h9 => by simp only [XF, XD, XK, XC, XR, XG] at h9 ⊢; omega))), by rw [hc51]; exact hst53⟩, CX.give hb0 hM hK hG hE hS ht hW⟩, hS.F ht⟩) hS.2.2 dX1_settle_32
        · skip
          have hE54 := (hmf50.2.resolve_left (fun z => c52 z.1)).2
          refine lv_iload_n hx hb dX1_settle_18 rfl (lv_at hl 1 rfl) ?_
          refine lv_aload_n hx hb dX1_settle_19 rfl (lv_at hl 2 rfl) ?_
          obtain ⟨u55, u56, u57, u58, u59, u60, hP, hf⟩ := o_st (i := i) (q := o) hM (by omega)
          refine va_calli (va_runV (As := []) (rest := [.int x11]) ⟨hx, hb, hml, hown, hts⟩ (rk_dropMarked l dC dI kA eD b g38 o i (by omega)) (cwV 0 hts gX1_settle_X1_dropMarked rfl rfl rfl (by decide +kernel) ⟨Nat.le_of_ble_eq_true rfl, Nat.le_of_ble_eq_true rfl⟩) ⟨fb_CX, va_recv hK hP (ci := 5) (q0 := 0) rfl rfl, fun U hU hW => ⟨rfl, CX.give hb0 hM hK hG hE hS hU hW⟩⟩ rfl rfl hl.1 rfl (lv_room (Nat.le_of_ble_eq_true rfl)) dX1_settle_20 ⟨(Nat.le_of_ble_eq_true rfl), (Nat.le_of_ble_eq_true rfl)⟩) hS (fun q _ h => h) (fun q h => h) (fun r61 g63 t H locs ht hvm hw62 hB hz1 hk1 hS => ?_)
          have hM := hB.back ht
          have hG := hB.2.2.2.1
          have hx64 : Sx (XD i) g38 g63 := hw62.1
          have ht65 : tg g63 o = 12 + 64 * i := hx64.tk ht40 (by omega)
          have ht66 : tg g63 (pF g o 0) = 13 + 64 * i := hx64.tk ht41 (by omega)
          have ht67 : tg g63 (pF g o 1) = 21 := hx64.tk ht42 (by omega)
          have ht68 : tg g63 (pF g o 2) = 14 := hx64.tk ht43 (by omega)
          have ht69 : tg g63 (pF g o 3) = 14 := hx64.tk ht44 (by omega)
          have ht70 : tg g63 (pF g o 4) = 15 := hx64.tk ht45 (by omega)
          have ht71 : tg g63 (pF g o 5) = 16 + 64 * i := hx64.tk ht46 (by omega)
          have ht72 : tg g63 (pF g o 6) = 23 := hx64.tk ht47 (by omega)
          have ht73 : tg g63 (pF g o 7) = 20 + 64 * i := hx64.tk ht48 (by omega)
          have ef74 : pF g63 o = pF g o := (hx64.F).trans ef49
          have hwk75 := hw62.2
          rw [ef49] at hwk75
          try rw [hc51] at hwk75
          have hc76 : pI g63 (pF g o 7) = (pI g38 (pF g o 7)) := (hx64.i (fun z9 => by have h9 := ht48; simp only [XF, XD, XK] at z9; omega))
          have hless77 := dm_less hmf50.1 hE54
          refine lv_iadd hx hb dX1_settle_23 ?_
          refine lv_topi (fun v78 e79 => ?_)
          refine lv_istore_n (lv' := [(2, .int v78), (3, .int (nI j9)), (0, .ref o), (1, .int wm)]) hx hb dX1_settle_24 rfl hl (by decide) rfl (fun ls hl => ?_)
          refine lv_iinc (v := (nI (j9 + 1))) (lv' := [(3, .int (nI (j9 + 1))), (2, .int v78), (0, .ref o), (1, .int wm)]) hx hb dX1_settle_25 hl (k := 1) rfl (nI_add j9 1) (by decide) rfl (fun ls hl => ?_)
          refine lv_goto (tgt := 4) hx hb dX1_settle_28 (by decide) ?_
          exact ih14 ((j9 + 1)) g63 v78 (by omega) (by omega) (by omega) H _ ls ((hx15.trans (hx39.wide (Y := (XK i)) (fun t9 h9 => by simp only [XF, XD, XK, XC, XR, XG] at h9 ⊢; omega))).trans (hx64.wide (Y := (XK i)) (fun t9 h9 => by simp only [XF, XD, XK, XC, XR, XG] at h9 ⊢; omega))) hG (by rw [hwk75]; omega) hM hS (lv_sub hl [0, 1, 2, 3] rfl)
  exact lp12 (49 + 1) 0 g 0 (by omega) (by omega) (by omega) s.heap _ ls Sx.refl hG (by have h9 := ck_le (K := (pI g (pF g o 0))); omega) hM hS (lv_sub hl [0, 1, 2, 3] rfl)

set_option maxHeartbeats 4000000 in
set_option maxRecDepth 100000 in
theorem rk_wouldFallWithout (l : Launch) (dC : Nat → ClassId) (dI : Nat → Nat → Nat) (kA : Nat → ClassId) (eD b : Nat) (g : Gh) (o : Nat) (i j : Nat) (wm : Int32) (hto : tg g o = 12 + 64 * i) (hj : j < 48) : Met l yX1_wouldFallWithout wsX1_wouldFallWithout ({ frames := 4, cells := 0, slots := 0, locals := 92 }) (va_Pc [.ref o, .int (nI j), .int wm] (CX (dC, dI) kA eD b g)) (va_Qi (fun (r : Int32) (u : Gh) => Sx (XK i) g u ∧ pI u (pF g o 0) = pI g (pF g o 0) ∧ ((r = 0 ∧ (¬ pI g (pF g o 0) j = 46 → STF (upd (pI g (pF g o 0)) j 46))) ∨ (r = 1 ∧ True))) (fun (u : Gh) t => CX (dC, dI) kA eD b u t) (fun q => b ≤ q)) 0 0 (fun q => b ≤ q) := by
  refine Met.ofW (cc := cX1_wouldFallWithout) (maxL := 5) (ret := (some .boolean)) (by decide +kernel) rfl ?_
  intro p e s m args below meth c s₁ B hml hv
  obtain ⟨rfl, hb0, hM, hK, hG, hE⟩ := hv
  have hx := B.exec
  have hb := B.bytes
  have hr := B.returns
  have hts := atoms_spec (ws := wsX1_wouldFallWithout) B.pre
  have hown : s.vm.findClass RX1 = some m.cls := findClass_of_methodNamed B.named
  have hlocks := B.notSynchronized
  have hT := hE.1
  have hN := hE.2.2.2.2.2.2.2.1
  have hS : va_S (fun q => b ≤ q) s.heap s.heap [] := va_S.rf
  have hl := lv_entry ([.ref o, .int (nI j), .int wm]) (n := 5) (Nat.le_of_ble_eq_true rfl)
  rw [lg_entry_eq]
  generalize (lg_sl ([.ref o, .int (nI j), .int wm]) ++ List.replicate (5 - (lg_sl ([.ref o, .int (nI j), .int wm])).length) Slot.unset).toArray = ls at hl ⊢
  have hl : lv_has ls 5 [(0, .ref o), (1, .int (nI j)), (2, .int wm)] := hl
  generalize ([.ref o, .int (nI j), .int wm] : List Value).toArray = args at hts ⊢
  obtain ⟨_, _, _, _, _, _, -, hst9⟩ := o_st (i := i) (q := o) hM (by omega)
  have ht1 : tg g (pF g o 0) = 13 + 64 * i := hst9.1
  have ht2 : tg g (pF g o 1) = 21 := hst9.2.1
  have ht3 : tg g (pF g o 2) = 14 := hst9.2.2.1
  have ht4 : tg g (pF g o 3) = 14 := hst9.2.2.2.1
  have ht5 : tg g (pF g o 4) = 15 := hst9.2.2.2.2.1
  have ht6 : tg g (pF g o 5) = 16 + 64 * i := hst9.2.2.2.2.2.1
  have ht7 : tg g (pF g o 6) = 23 := hst9.2.2.2.2.2.2.1
  have ht8 : tg g (pF g o 7) = 20 + 64 * i := hst9.2.2.2.2.2.2.2.1
  have hMg := hM
  refine lv_aload_n hx hb dX1_wouldFallWithout_0 rfl (lv_at hl 0 rfl) ?_
  refine lv_iload_n hx hb dX1_wouldFallWithout_1 rfl (lv_at hl 1 rfl) ?_
  obtain ⟨u9, u10, u11, u12, u13, u14, hP, hf⟩ := o_st (i := i) (q := o) hM (by omega)
  refine va_calli (va_runV (As := [.int (nI j)]) (rest := []) ⟨hx, hb, hml, hown, hts⟩ (rk_has l dC dI kA eD b g o i (nI j) (by omega)) (cwV 1 hts gX1_wouldFallWithout_X1_has rfl rfl rfl (by decide +kernel) ⟨Nat.le_of_ble_eq_true rfl, Nat.le_of_ble_eq_true rfl⟩) ⟨fb_CX, va_recv hK hP (ci := 5) (q0 := 0) rfl rfl, fun U hU hW => ⟨rfl, CX.give hb0 hM hK hG hE hS hU hW⟩⟩ rfl rfl hl.1 rfl (lv_room (Nat.le_of_ble_eq_true rfl)) dX1_wouldFallWithout_2 ⟨(Nat.le_of_ble_eq_true rfl), (Nat.le_of_ble_eq_true rfl)⟩) hS (fun q _ h => h.elim) (fun q h => h.elim) (fun r15 u t H locs ht hvm hw16 hB hz1 hk1 hS => ?_)
  have hM := hB.back ht
  have hG := hB.2.2.2.1
  refine lv_if_ne (tgt := 10) hx hb dX1_wouldFallWithout_5 (by decide) (fun c17 => ?_) (fun c17 => ?_)
  · skip
    have hk18 : ¬ (pI g (pF g o 0)) j = 46 := by obtain ⟨-, jz9, ez9, hz9, hz8⟩ := hw16.resolve_left (fun z => c17 z.1); rw [(nI_eq (a := j) (b := jz9) (by omega) (by omega)).mp ez9]; exact hz8
    refine lv_aload_n hx hb dX1_wouldFallWithout_10 rfl (lv_at hl 0 rfl) ?_
    obtain ⟨u19, u20, u21, u22, u23, u24, hP, hf⟩ := o_st (i := i) (q := o) hM (by omega)
    refine va_get (D := (dC, dI)) (ci := 5) (v := .ref (pF g o 0)) (C := RX1) (T := TX1) (N := 15) hx hb hts (by decide +kernel) hown hK hP 0 rfl rfl 0 (by decide) (hts (.fieldLink RX1 9 "Snowpalace$Site" "kinds" "[C") (by decide +kernel)) (fun _ h9 => h9) rfl dX1_wouldFallWithout_11 ?_
    refine lv_iload_n hx hb dX1_wouldFallWithout_14 rfl (lv_at hl 1 rfl) ?_
    obtain ⟨hP, hf⟩ := o_kn (i := i) (q := (pF g o 0)) hM (by omega)
    refine va_cald (D := (dC, dI)) hx hb hK hP 0 2 rfl rfl (vp_in_nI (by omega) (by decide)) dX1_wouldFallWithout_15 ?_
    refine lv_topi (fun v25 e26 => ?_)
    have ec : ((nI j) : Int32).toNatClampNeg = j := nI_clamp (by omega)
    rw [ec] at e26
    subst e26
    have hu27 := hf j (by omega)
    refine lv_istore_n (lv' := [(3, .int (pI g (pF g o 0) j)), (0, .ref o), (1, .int (nI j)), (2, .int wm)]) hx hb dX1_wouldFallWithout_16 rfl hl (by decide) rfl (fun ls hl => ?_)
    refine lv_aload_n hx hb dX1_wouldFallWithout_17 rfl (lv_at hl 1 rfl) ?_
    obtain ⟨u28, u29, u30, u31, u32, u33, hP, hf⟩ := o_st (i := i) (q := o) hM (by omega)
    refine va_get (D := (dC, dI)) (ci := 5) (v := .ref (pF g o 0)) (C := RX1) (T := TX1) (N := 15) hx hb hts (by decide +kernel) hown hK hP 0 rfl rfl 0 (by decide) (hts (.fieldLink RX1 9 "Snowpalace$Site" "kinds" "[C") (by decide +kernel)) (fun _ h9 => h9) rfl dX1_wouldFallWithout_18 ?_
    refine lv_iload_n hx hb dX1_wouldFallWithout_21 rfl (lv_at hl 2 rfl) ?_
    refine lv_bipush (v := 46) hx hb dX1_wouldFallWithout_22 (by decide) ?_
    obtain ⟨hP, hf⟩ := o_kn (i := i) (q := (pF g o 0)) hM (by omega)
    refine rt_cast (D := (dC, dI)) (t0 := 2) hx hb hK hP (hM.ge (by omega)) hS rfl (vp_in_nI (by omega) (by decide)) dX1_wouldFallWithout_24 (fun H locs hP hz ho hS => ?_)
    have ec : ((nI j) : Int32).toNatClampNeg = j := nI_clamp (by omega)
    rw [ec] at hP
    have hM0 := hM
    have hM := p_kn (i := i) (f := upd (pI g (pF g o 0)) j (vp_nar .char 46)) hM (by omega) hP ho (isC_updP hf)
    obtain ⟨g34, hg34⟩ : ∃ z, z = uI g (pF g o 0) (upd (pI g (pF g o 0)) j (vp_nar .char 46)) := ⟨_, rfl⟩
    rw [← hg34] at hM
    have ht35 : tg g34 o = 12 + 64 * i := by rw [hg34]; exact hto
    have ht36 : tg g34 (pF g o 0) = 13 + 64 * i := by rw [hg34]; exact ht1
    have ht37 : tg g34 (pF g o 1) = 21 := by rw [hg34]; exact ht2
    have ht38 : tg g34 (pF g o 2) = 14 := by rw [hg34]; exact ht3
    have ht39 : tg g34 (pF g o 3) = 14 := by rw [hg34]; exact ht4
    have ht40 : tg g34 (pF g o 4) = 15 := by rw [hg34]; exact ht5
    have ht41 : tg g34 (pF g o 5) = 16 + 64 * i := by rw [hg34]; exact ht6
    have ht42 : tg g34 (pF g o 6) = 23 := by rw [hg34]; exact ht7
    have ht43 : tg g34 (pF g o 7) = 20 + 64 * i := by rw [hg34]; exact ht8
    have hG : GOK g34 := by rw [hg34]; exact (hG.uI hM0 (Or.inl (by omega)))
    have hx45 : Sx (XK i) g g34 := by rw [hg34]; exact Sx.uI (by have h9 := ht1; simp only [XF, XD, XK, XC, XR, XG]; omega)
    have ef46 : pF g34 o = pF g o := hx45.F
    have z947 : pI g34 (pF g o 0) j = (46 : Int32) := by rw [hg34]; exact (congrFun uI_s _).trans ((if_pos rfl).trans (by decide))
    have hc48 : pI g34 (pF g o 0) = (upd (pI g (pF g o 0)) j (vp_nar .char 46)) := by rw [hg34]; exact uI_s
    have hc49 : pI g34 (pF g o 7) = (pI g (pF g o 7)) := by rw [hg34]; exact (uI_n (fun e9 => by have h1 := ht8; have h2 := ht1; rw [e9] at h1; omega))
    refine lv_aload_n hx hb dX1_wouldFallWithout_25 rfl (lv_at hl 1 rfl) ?_
    refine lv_iload_n hx hb dX1_wouldFallWithout_26 rfl (lv_at hl 3 rfl) ?_
    obtain ⟨u50, u51, u52, u53, u54, u55, hP, hf⟩ := o_st (i := i) (q := o) hM (by omega)
    refine va_calli (va_runV (As := [.int wm]) (rest := []) ⟨hx, hb, hml, hown, hts⟩ (rk_markFalling l dC dI kA eD b g34 o i wm (by omega)) (cwV 1 hts gX1_wouldFallWithout_X1_markFalling rfl rfl rfl (by decide +kernel) ⟨Nat.le_of_ble_eq_true rfl, Nat.le_of_ble_eq_true rfl⟩) ⟨fb_CX, va_recv hK hP (ci := 5) (q0 := 0) rfl rfl, fun U hU hW => ⟨rfl, CX.give hb0 hM hK hG hE hS hU hW⟩⟩ rfl rfl hl.1 rfl (lv_room (Nat.le_of_ble_eq_true rfl)) dX1_wouldFallWithout_27 ⟨(Nat.le_of_ble_eq_true rfl), (Nat.le_of_ble_eq_true rfl)⟩) hS (fun q _ h => h) (fun q h => h) (fun r56 g58 t H locs ht hvm hw57 hB hz1 hk1 hS => ?_)
    have hM := hB.back ht
    have hG := hB.2.2.2.1
    have hx59 : Sx (XF i) g34 g58 := hw57.1
    have ht60 : tg g58 o = 12 + 64 * i := hx59.tk ht35 (by omega)
    have ht61 : tg g58 (pF g o 0) = 13 + 64 * i := hx59.tk ht36 (by omega)
    have ht62 : tg g58 (pF g o 1) = 21 := hx59.tk ht37 (by omega)
    have ht63 : tg g58 (pF g o 2) = 14 := hx59.tk ht38 (by omega)
    have ht64 : tg g58 (pF g o 3) = 14 := hx59.tk ht39 (by omega)
    have ht65 : tg g58 (pF g o 4) = 15 := hx59.tk ht40 (by omega)
    have ht66 : tg g58 (pF g o 5) = 16 + 64 * i := hx59.tk ht41 (by omega)
    have ht67 : tg g58 (pF g o 6) = 23 := hx59.tk ht42 (by omega)
    have ht68 : tg g58 (pF g o 7) = 20 + 64 * i := hx59.tk ht43 (by omega)
    have ef69 : pF g58 o = pF g o := (hx59.F).trans ef46
    have hmf70 := hw57.2
    rw [ef46] at hmf70
    try rw [hc48] at hmf70
    try rw [hc49] at hmf70
    have hc71 : pI g58 (pF g o 0) = (upd (pI g (pF g o 0)) j (vp_nar .char 46)) := (hx59.i (fun z9 => by have h9 := ht36; simp only [XF, XD, XK] at z9; omega)).trans hc48
    refine lv_istore (lv' := [(4, .int r56), (3, .int (pI g (pF g o 0) j)), (0, .ref o), (1, .int (nI j)), (2, .int wm)]) hx hb dX1_wouldFallWithout_30 hl (by decide) rfl (fun ls hl => ?_)
    refine lv_aload_n hx hb dX1_wouldFallWithout_32 rfl (lv_at hl 2 rfl) ?_
    obtain ⟨u72, u73, u74, u75, u76, u77, hP, hf⟩ := o_st (i := i) (q := o) hM (by omega)
    refine va_get (D := (dC, dI)) (ci := 5) (v := .ref (pF g58 o 0)) (C := RX1) (T := TX1) (N := 15) hx hb hts (by decide +kernel) hown hK hP 0 rfl rfl 0 (by decide) (hts (.fieldLink RX1 9 "Snowpalace$Site" "kinds" "[C") (by decide +kernel)) (fun _ h9 => h9) rfl dX1_wouldFallWithout_33 ?_
    rw [ef69]
    refine lv_iload_n hx hb dX1_wouldFallWithout_36 rfl (lv_at hl 3 rfl) ?_
    refine lv_iload_n hx hb dX1_wouldFallWithout_37 rfl (lv_at hl 1 rfl) ?_
    obtain ⟨hP, hf⟩ := o_kn (i := i) (q := (pF g o 0)) hM (by omega)
    refine rt_cast (D := (dC, dI)) (t0 := 2) hx hb hK hP (hM.ge (by omega)) hS rfl (vp_in_nI (by omega) (by decide)) dX1_wouldFallWithout_38 (fun H locs hP hz ho hS => ?_)
    have ec : ((nI j) : Int32).toNatClampNeg = j := nI_clamp (by omega)
    rw [ec] at hP
    have hM0 := hM
    have hM := p_kn (i := i) (f := upd (pI g58 (pF g o 0)) j (vp_nar .char (pI g (pF g o 0) j))) hM (by omega) hP ho (isC_updP hf)
    obtain ⟨g78, hg78⟩ : ∃ z, z = uI g58 (pF g o 0) (upd (pI g58 (pF g o 0)) j (vp_nar .char (pI g (pF g o 0) j))) := ⟨_, rfl⟩
    rw [← hg78] at hM
    have ht79 : tg g78 o = 12 + 64 * i := by rw [hg78]; exact ht60
    have ht80 : tg g78 (pF g o 0) = 13 + 64 * i := by rw [hg78]; exact ht61
    have ht81 : tg g78 (pF g o 1) = 21 := by rw [hg78]; exact ht62
    have ht82 : tg g78 (pF g o 2) = 14 := by rw [hg78]; exact ht63
    have ht83 : tg g78 (pF g o 3) = 14 := by rw [hg78]; exact ht64
    have ht84 : tg g78 (pF g o 4) = 15 := by rw [hg78]; exact ht65
    have ht85 : tg g78 (pF g o 5) = 16 + 64 * i := by rw [hg78]; exact ht66
    have ht86 : tg g78 (pF g o 6) = 23 := by rw [hg78]; exact ht67
    have ht87 : tg g78 (pF g o 7) = 20 + 64 * i := by rw [hg78]; exact ht68
    have hG : GOK g78 := by rw [hg78]; exact (hG.uI hM0 (Or.inl (by omega)))
    have hx89 : Sx (XK i) g58 g78 := by rw [hg78]; exact Sx.uI (by have h9 := ht61; simp only [XF, XD, XK, XC, XR, XG]; omega)
    have ef90 : pF g78 o = pF g o := (hx89.F).trans ef69
    have hc91 : pI g78 (pF g o 0) = (upd (upd (pI g (pF g o 0)) j (vp_nar .char 46)) j (vp_nar .char (pI g (pF g o 0) j))) := by rw [hg78]; exact uI_s.trans (congrArg (fun z9 => upd z9 j (vp_nar .char (pI g (pF g o 0) j))) hc71)
    have hc92 : pI g78 (pF g o 7) = (pI g58 (pF g o 7)) := by rw [hg78]; exact (uI_n (fun e9 => by have h1 := ht68; have h2 := ht61; rw [e9] at h1; omega))
    refine lv_iload hx hb dX1_wouldFallWithout_39 (lv_at hl 0 rfl) ?_
    refine W.widen (k := 0) (n := 0) (Nat.le_of_ble_eq_true rfl) (Nat.le_of_ble_eq_true rfl) ?_
    exact W.zret (v := r56) (ty := .boolean) hx hb hr (z01n (fn01 hmf70.2)) (fun t ht hW => ⟨⟨r56, g78, rfl, ⟨((hx45.trans (hx59.wide (Y := (XK i)) (fun t9 h9 => by simp only [XF, XD, XK, XC, XR, XG] at h9 ⊢; omega))).trans hx89), hc91.trans (upd_back (by assumption)), hmf70.2.imp (fun z9 => ⟨z9.1, fun _ => z9.2⟩) (fun z9 => ⟨z9.1, trivial⟩)⟩, CX.give hb0 hM hK hG hE hS ht hW⟩, hS.F ht⟩) hS.2.2 dX1_wouldFallWithout_41
  · skip
    have hk93 : (pI g (pF g o 0)) j = 46 := (hw16.resolve_right (fun z => absurd (z.1.symm.trans c17) (by decide))).2 j rfl (by omega)
    refine lv_iconst (v := 0) hx hb dX1_wouldFallWithout_8 (by decide) ?_
    refine W.widen (k := 0) (n := 0) (Nat.le_of_ble_eq_true rfl) (Nat.le_of_ble_eq_true rfl) ?_
    exact W.zret (v := 0) (ty := .boolean) hx hb hr rfl (fun t ht hW => ⟨⟨0, g, rfl, ⟨Sx.refl, rfl, Or.inl ⟨rfl, fun z9 => absurd (by assumption) z9⟩⟩, CX.give hb0 hM hK hG hE hS ht hW⟩, hS.F ht⟩) hS.2.2 dX1_wouldFallWithout_9

set_option maxHeartbeats 4000000 in
set_option maxRecDepth 100000 in
theorem rk_wear (l : Launch) (dC : Nat → ClassId) (dI : Nat → Nat → Nat) (kA : Nat → ClassId) (eD b : Nat) (g : Gh) (o : Nat) (i : Nat) (od wm wi : Int32) (hto : tg g o = 12 + 64 * i)  : Met l yX1_wear wsX1_wear ({ frames := 4, cells := 0, slots := 0, locals := 87 }) (va_Pc [.ref o, .int od, .int wm, .int wi] (CX (dC, dI) kA eD b g)) (va_Qi (fun (r : Int32) (u : Gh) => Sx (XK i) g u) (fun (u : Gh) t => CX (dC, dI) kA eD b u t) (fun q => b ≤ q)) 0 0 (fun q => b ≤ q) := by
  refine Met.ofW (cc := cX1_wear) (maxL := 9) (ret := (some .int)) (by decide +kernel) rfl ?_
  intro p e s m args below meth c s₁ B hml hv
  obtain ⟨rfl, hb0, hM, hK, hG, hE⟩ := hv
  have hx := B.exec
  have hb := B.bytes
  have hr := B.returns
  have hts := atoms_spec (ws := wsX1_wear) B.pre
  have hown : s.vm.findClass RX1 = some m.cls := findClass_of_methodNamed B.named
  have hlocks := B.notSynchronized
  have hT := hE.1
  have hN := hE.2.2.2.2.2.2.2.1
  have hS : va_S (fun q => b ≤ q) s.heap s.heap [] := va_S.rf
  have hl := lv_entry ([.ref o, .int od, .int wm, .int wi]) (n := 9) (Nat.le_of_ble_eq_true rfl)
  rw [lg_entry_eq]
  generalize (lg_sl ([.ref o, .int od, .int wm, .int wi]) ++ List.replicate (9 - (lg_sl ([.ref o, .int od, .int wm, .int wi])).length) Slot.unset).toArray = ls at hl ⊢
  have hl : lv_has ls 9 [(0, .ref o), (1, .int od), (2, .int wm), (3, .int wi)] := hl
  generalize ([.ref o, .int od, .int wm, .int wi] : List Value).toArray = args at hts ⊢
  refine W.q (fun Q hQ => ?_)
  obtain ⟨_, _, _, _, _, _, -, hst9⟩ := o_st (i := i) (q := o) hM (by omega)
  have ht1 : tg g (pF g o 0) = 13 + 64 * i := hst9.1
  have ht2 : tg g (pF g o 1) = 21 := hst9.2.1
  have ht3 : tg g (pF g o 2) = 14 := hst9.2.2.1
  have ht4 : tg g (pF g o 3) = 14 := hst9.2.2.2.1
  have ht5 : tg g (pF g o 4) = 15 := hst9.2.2.2.2.1
  have ht6 : tg g (pF g o 5) = 16 + 64 * i := hst9.2.2.2.2.2.1
  have ht7 : tg g (pF g o 6) = 23 := hst9.2.2.2.2.2.2.1
  have ht8 : tg g (pF g o 7) = 20 + 64 * i := hst9.2.2.2.2.2.2.2.1
  have hMg := hM
  refine lv_iload_n hx hb dX1_wear_0 rfl (lv_at hl 1 rfl) ?_
  refine lv_bipush (v := 10) hx hb dX1_wear_1 (by decide) ?_
  refine lv_bipush (v := 14) hx hb dX1_wear_3 (by decide) ?_
  refine va_calli (va_runSN (As := [.int od, .int 10, .int 14]) (rest := []) ⟨hx, hb, hml, hown, hts⟩ (rk_isWithin l od 10 14 (10) (14) (by decide) (by decide)) (⟨va_cnB 3 hts gX1_wear_X3_isWithin_n72 rfl rfl rfl (hN (.methodLinkNest RX1 72 yX3_isWithin RX3) (by decide +kernel)) (hts (.initialized RX3) (by decide +kernel)) (by decide +kernel) ⟨Nat.le_of_ble_eq_true rfl, Nat.le_of_ble_eq_true rfl⟩, hts (.static yX3_isWithin) (by decide +kernel), trivial⟩) ⟨fun a U g mk q => q, fun U hU hW => ⟨rfl, trivial⟩⟩ rfl rfl hl.1 rfl (lv_room (Nat.le_of_ble_eq_true rfl)) dX1_wear_5 ⟨(Nat.le_of_ble_eq_true rfl), (Nat.le_of_ble_eq_true rfl)⟩) hS (fun q _ h => h.elim) (fun q h => h.elim) (fun r9 u t H locs ht hvm hw10 hB hz1 hk1 hS => ?_)
  have hM := hM.keep (fun p hp => hk1 p hp (fun z => z))
  have hw10 : r9 = bI ((10 : Int) ≤ od.toInt ∧ od.toInt ≤ (14 : Int)) := hw10
  have jn12 : ∀ (x11 : Int32) (H : Heap) (locs : List Loc) (ls : Array Slot), TM (dC, dI) kA b g H → va_S (fun q => b ≤ q) s.heap H locs → lv_has ls 9 [(0, .ref o), (1, .int od), (2, .int wm), (3, .int wi)] → W p l e (headSpec wsX1_wear ({ frames := 4, cells := 0, slots := 0, locals := 87 })).room s m args below meth c H locs 0 0 Q (F0 m 28 ls [.int x11]) := by
    intro x11 H locs ls hM hS hl
    refine lv_istore (lv' := [(4, .int x11), (0, .ref o), (1, .int od), (2, .int wm), (3, .int wi)]) hx hb dX1_wear_28 hl (by decide) rfl (fun ls hl => ?_)
    refine lv_iload_n hx hb dX1_wear_30 rfl (lv_at hl 4 rfl) ?_
    refine lv_bipush (v := 10) hx hb dX1_wear_31 (by decide) ?_
    have jn14 : ∀ (x13 : Int32) (H : Heap) (locs : List Loc) (ls : Array Slot), TM (dC, dI) kA b g H → va_S (fun q => b ≤ q) s.heap H locs → lv_has ls 9 [(4, .int x11), (0, .ref o), (1, .int od), (2, .int wm), (3, .int wi)] → W p l e (headSpec wsX1_wear ({ frames := 4, cells := 0, slots := 0, locals := 87 })).room s m args below meth c H locs 0 0 Q (F0 m 43 ls [.int x13]) := by
      intro x13 H locs ls hM hS hl
      refine lv_istore (lv' := [(5, .int x13), (4, .int x11), (0, .ref o), (1, .int od), (2, .int wm), (3, .int wi)]) hx hb dX1_wear_43 hl (by decide) rfl (fun ls hl => ?_)
      refine lv_iconst (v := 0) hx hb dX1_wear_45 (by decide) ?_
      refine lv_istore (lv' := [(6, .int 0), (5, .int x13), (4, .int x11), (0, .ref o), (1, .int od), (2, .int wm), (3, .int wi)]) hx hb dX1_wear_46 hl (by decide) rfl (fun ls hl => ?_)
      have lp17 : ∀ (n18 j15 : Nat) (g16 : Gh) , 0 ≤ j15 → j15 ≤ 48 → 48 < j15 + n18 → ∀ (H : Heap) (locs : List Loc) (ls : Array Slot), (Sx (XK i) g g16) → (GOK g16) → TM (dC, dI) kA b g16 H → va_S (fun q => b ≤ q) s.heap H locs → lv_has ls 9 [(6, .int (nI j15)), (5, .int x13), (4, .int x11), (0, .ref o), (1, .int od), (2, .int wm), (3, .int wi)] → W p l e (headSpec wsX1_wear ({ frames := 4, cells := 0, slots := 0, locals := 87 })).room s m args below meth c H locs 0 0 Q (F0 m 48 ls []) := by
        intro n18
        induction n18 with
        | zero => intro j15 g16 h0 h1 h2; omega
        | succ n18 ih19 =>
          intro j15 g16 lj15 hj15 hn18 H locs ls hx20 hG hM hS hl
          have ht21 : tg g16 o = 12 + 64 * i := hx20.tk hto (by omega)
          have ht22 : tg g16 (pF g o 0) = 13 + 64 * i := hx20.tk ht1 (by omega)
          have ht23 : tg g16 (pF g o 1) = 21 := hx20.tk ht2 (by omega)
          have ht24 : tg g16 (pF g o 2) = 14 := hx20.tk ht3 (by omega)
          have ht25 : tg g16 (pF g o 3) = 14 := hx20.tk ht4 (by omega)
          have ht26 : tg g16 (pF g o 4) = 15 := hx20.tk ht5 (by omega)
          have ht27 : tg g16 (pF g o 5) = 16 + 64 * i := hx20.tk ht6 (by omega)
          have ht28 : tg g16 (pF g o 6) = 23 := hx20.tk ht7 (by omega)
          have ht29 : tg g16 (pF g o 7) = 20 + 64 * i := hx20.tk ht8 (by omega)
          have ef30 : pF g16 o = pF g o := hx20.F
          refine lv_iload hx hb dX1_wear_48 (lv_at hl 0 rfl) ?_
          refine lv_bipush (v := 48) hx hb dX1_wear_50 (by decide) ?_
          refine lv_icmp_ge (tgt := 189) hx hb dX1_wear_52 (by decide) (fun c31 => ?_) (fun c31 => ?_)
          · skip
            have k32 : 48 ≤ j15 := (nI_leI (a := 48) (b := j15) (by omega) (by omega)).mp c31
            refine lv_aload_n hx hb dX1_wear_189 rfl (lv_at hl 3 rfl) ?_
            obtain ⟨u33, u34, u35, u36, u37, u38, hP, hf⟩ := o_st (i := i) (q := o) hM (by omega)
            refine va_calli (va_runV (As := []) (rest := []) ⟨hx, hb, hml, hown, hts⟩ (rk_dropMarked l dC dI kA eD b g16 o i (by omega)) (cwV 0 hts gX1_wear_X1_dropMarked rfl rfl rfl (by decide +kernel) ⟨Nat.le_of_ble_eq_true rfl, Nat.le_of_ble_eq_true rfl⟩) ⟨fb_CX, va_recv hK hP (ci := 5) (q0 := 0) rfl rfl, fun U hU hW => ⟨rfl, CX.give hb0 hM hK hG hE hS hU hW⟩⟩ rfl rfl hl.1 rfl (lv_room (Nat.le_of_ble_eq_true rfl)) dX1_wear_190 ⟨(Nat.le_of_ble_eq_true rfl), (Nat.le_of_ble_eq_true rfl)⟩) hS (fun q _ h => h) (fun q h => h) (fun r39 g41 t H locs ht hvm hw40 hB hz1 hk1 hS => ?_)
            have hM := hB.back ht
            have hG := hB.2.2.2.1
            have hx42 : Sx (XD i) g16 g41 := hw40.1
            have ht43 : tg g41 o = 12 + 64 * i := hx42.tk ht21 (by omega)
            have ht44 : tg g41 (pF g o 0) = 13 + 64 * i := hx42.tk ht22 (by omega)
            have ht45 : tg g41 (pF g o 1) = 21 := hx42.tk ht23 (by omega)
            have ht46 : tg g41 (pF g o 2) = 14 := hx42.tk ht24 (by omega)
            have ht47 : tg g41 (pF g o 3) = 14 := hx42.tk ht25 (by omega)
            have ht48 : tg g41 (pF g o 4) = 15 := hx42.tk ht26 (by omega)
            have ht49 : tg g41 (pF g o 5) = 16 + 64 * i := hx42.tk ht27 (by omega)
            have ht50 : tg g41 (pF g o 6) = 23 := hx42.tk ht28 (by omega)
            have ht51 : tg g41 (pF g o 7) = 20 + 64 * i := hx42.tk ht29 (by omega)
            have ef52 : pF g41 o = pF g o := (hx42.F).trans ef30
            have hwk53 := hw40.2
            rw [ef30] at hwk53
            have hc54 : pI g41 (pF g o 7) = (pI g16 (pF g o 7)) := (hx42.i (fun z9 => by have h9 := ht29; simp only [XF, XD, XK] at z9; omega))
            subst hQ
            refine W.widen (k := 0) (n := 0) (Nat.le_of_ble_eq_true rfl) (Nat.le_of_ble_eq_true rfl) ?_
            exact W.iret (v := r39) hx hb hr (fun t ht hW => ⟨⟨r39, g41, rfl, (hx20.trans (hx42.wide (Y := (XK i)) (fun t9 h9 => by simp only [XF, XD, XK, XC, XR, XG] at h9 ⊢; omega))), CX.give hb0 hM hK hG hE hS ht hW⟩, hS.F ht⟩) hS.2.2 dX1_wear_193
          · skip
            have k55 : ¬ (48 ≤ j15) := fun z => c31 ((nI_leI (a := 48) (b := j15) (by omega) (by omega)).mpr z)
            refine lv_aload_n hx hb dX1_wear_55 rfl (lv_at hl 3 rfl) ?_
            obtain ⟨u56, u57, u58, u59, u60, u61, hP, hf⟩ := o_st (i := i) (q := o) hM (by omega)
            refine va_get (D := (dC, dI)) (ci := 5) (v := .ref (pF g16 o 7)) (C := RX1) (T := TX1) (N := 15) hx hb hts (by decide +kernel) hown hK hP 0 rfl rfl 7 (by decide) (hts (.fieldLink RX1 35 "Snowpalace$Site" "falling" "[Z") (by decide +kernel)) (fun _ h9 => h9) rfl dX1_wear_56 ?_
            rw [ef30]
            refine lv_iload hx hb dX1_wear_59 (lv_at hl 0 rfl) ?_
            refine lv_iconst (v := 0) hx hb dX1_wear_61 (by decide) ?_
            obtain ⟨hP, hf⟩ := o_fa (i := i) (q := (pF g o 7)) hM (by omega)
            refine rt_zast (D := (dC, dI)) (t0 := 1) hx hb hK hP (hM.ge (by omega)) hS rfl (vp_in_nI (by omega) (by decide)) dX1_wear_62 (fun H locs hP hz ho hS => ?_)
            have ec : ((nI j15) : Int32).toNatClampNeg = j15 := nI_clamp (by omega)
            rw [ec] at hP
            have hM0 := hM
            have hM := p_fa (i := i) (f := upd (pI g16 (pF g o 7)) j15 (vp_nar .boolean 0)) hM (by omega) hP ho (isZ_updP hf)
            obtain ⟨g62, hg62⟩ : ∃ z, z = uI g16 (pF g o 7) (upd (pI g16 (pF g o 7)) j15 (vp_nar .boolean 0)) := ⟨_, rfl⟩
            rw [← hg62] at hM
            have ht63 : tg g62 o = 12 + 64 * i := by rw [hg62]; exact ht21
            have ht64 : tg g62 (pF g o 0) = 13 + 64 * i := by rw [hg62]; exact ht22
            have ht65 : tg g62 (pF g o 1) = 21 := by rw [hg62]; exact ht23
            have ht66 : tg g62 (pF g o 2) = 14 := by rw [hg62]; exact ht24
            have ht67 : tg g62 (pF g o 3) = 14 := by rw [hg62]; exact ht25
            have ht68 : tg g62 (pF g o 4) = 15 := by rw [hg62]; exact ht26
            have ht69 : tg g62 (pF g o 5) = 16 + 64 * i := by rw [hg62]; exact ht27
            have ht70 : tg g62 (pF g o 6) = 23 := by rw [hg62]; exact ht28
            have ht71 : tg g62 (pF g o 7) = 20 + 64 * i := by rw [hg62]; exact ht29
            have hG : GOK g62 := by rw [hg62]; exact (hG.uI hM0 (Or.inl (by omega)))
            have hx73 : Sx (XK i) g16 g62 := by rw [hg62]; exact Sx.uI (by have h9 := ht29; simp only [XF, XD, XK, XC, XR, XG]; omega)
            have ef74 : pF g62 o = pF g o := (hx73.F).trans ef30
            have z975 : pI g62 (pF g o 7) j15 = (0 : Int32) := by rw [hg62]; exact (congrFun uI_s _).trans ((if_pos rfl).trans (by decide))
            have hc76 : pI g62 (pF g o 0) = (pI g16 (pF g o 0)) := by rw [hg62]; exact (uI_n (fun e9 => by have h1 := ht22; have h2 := ht29; rw [e9] at h1; omega))
            have hc77 : pI g62 (pF g o 7) = (upd (pI g16 (pF g o 7)) j15 (vp_nar .boolean 0)) := by rw [hg62]; exact uI_s
            refine lv_aload_n hx hb dX1_wear_63 rfl (lv_at hl 3 rfl) ?_
            refine lv_iload hx hb dX1_wear_64 (lv_at hl 0 rfl) ?_
            obtain ⟨u78, u79, u80, u81, u82, u83, hP, hf⟩ := o_st (i := i) (q := o) hM (by omega)
            refine va_calli (va_runV (As := [.int (nI j15)]) (rest := []) ⟨hx, hb, hml, hown, hts⟩ (rk_has l dC dI kA eD b g62 o i (nI j15) (by omega)) (cwV 1 hts gX1_wear_X1_has rfl rfl rfl (by decide +kernel) ⟨Nat.le_of_ble_eq_true rfl, Nat.le_of_ble_eq_true rfl⟩) ⟨fb_CX, va_recv hK hP (ci := 5) (q0 := 0) rfl rfl, fun U hU hW => ⟨rfl, CX.give hb0 hM hK hG hE hS hU hW⟩⟩ rfl rfl hl.1 rfl (lv_room (Nat.le_of_ble_eq_true rfl)) dX1_wear_66 ⟨(Nat.le_of_ble_eq_true rfl), (Nat.le_of_ble_eq_true rfl)⟩) hS (fun q _ h => h.elim) (fun q h => h.elim) (fun r84 u t H locs ht hvm hw85 hB hz1 hk1 hS => ?_)
            have hM := hB.back ht
            have hG := hB.2.2.2.1
            rw [ef74] at hw85
            rw [hc76] at hw85
            refine lv_if_eq (tgt := 183) hx hb dX1_wear_69 (by decide) (fun c86 => ?_) (fun c86 => ?_)
            · skip
              have hk87 : (pI g16 (pF g o 0)) j15 = 46 := (hw85.resolve_right (fun z => absurd (z.1.symm.trans c86) (by decide))).2 j15 rfl (by omega)
              refine lv_iinc (v := (nI (j15 + 1))) (lv' := [(6, .int (nI (j15 + 1))), (5, .int x13), (4, .int x11), (0, .ref o), (1, .int od), (2, .int wm), (3, .int wi)]) hx hb dX1_wear_183 hl (k := 0) rfl (nI_add j15 1) (by decide) rfl (fun ls hl => ?_)
              refine lv_goto (tgt := 48) hx hb dX1_wear_186 (by decide) ?_
              exact ih19 ((j15 + 1)) g62 (by omega) (by omega) (by omega) H _ ls (hx20.trans hx73) hG hM hS (lv_sub hl [0, 1, 2, 3, 4, 5, 6] rfl)
            · skip
              have hk88 : ¬ (pI g16 (pF g o 0)) j15 = 46 := by obtain ⟨-, jz9, ez9, hz9, hz8⟩ := hw85.resolve_left (fun z => c86 z.1); rw [(nI_eq (a := j15) (b := jz9) (by omega) (by omega)).mp ez9]; exact hz8
              refine lv_iload hx hb dX1_wear_72 (lv_at hl 0 rfl) ?_
              refine lv_bipush (v := 8) hx hb dX1_wear_74 (by decide) ?_
              refine lv_irem hx hb dX1_wear_76 (by decide) ?_
              refine lv_topi (fun v89 e90 => ?_)
              obtain rfl : v89 = nI (j15 % 8) := e90.trans (pk_rem (a := j15) (d := 8) (by omega) (by decide) (by decide))
              refine lv_bipush (v := 7) hx hb dX1_wear_77 (by decide) ?_
              have jn92 : ∀ (x91 : Int32) (H : Heap) (locs : List Loc) (ls : Array Slot), (x91 = 0 ∨ x91 = 1) → TM (dC, dI) kA b g62 H → va_S (fun q => b ≤ q) s.heap H locs → lv_has ls 9 [(6, .int (nI j15)), (5, .int x13), (4, .int x11), (0, .ref o), (1, .int od), (2, .int wm), (3, .int wi)] → W p l e (headSpec wsX1_wear ({ frames := 4, cells := 0, slots := 0, locals := 87 })).room s m args below meth c H locs 0 0 Q (F0 m 98 ls [.int x91]) := by
                intro x91 H locs ls hj93 hM hS hl
                refine lv_istore (lv' := [(7, .int x91), (6, .int (nI j15)), (5, .int x13), (4, .int x11), (0, .ref o), (1, .int od), (2, .int wm), (3, .int wi)]) hx hb dX1_wear_98 hl (by decide) rfl (fun ls hl => ?_)
                refine lv_iload hx hb dX1_wear_100 (lv_at hl 1 rfl) ?_
                refine lv_bipush (v := 8) hx hb dX1_wear_102 (by decide) ?_
                refine lv_irem hx hb dX1_wear_104 (by decide) ?_
                refine lv_topi (fun v94 e95 => ?_)
                obtain rfl : v94 = nI (j15 % 8) := e95.trans (pk_rem (a := j15) (d := 8) (by omega) (by decide) (by decide))
                have jn97 : ∀ (x96 : Int32) (H : Heap) (locs : List Loc) (ls : Array Slot), (x96 = 0 ∨ x96 = 1) → TM (dC, dI) kA b g62 H → va_S (fun q => b ≤ q) s.heap H locs → lv_has ls 9 [(7, .int x91), (6, .int (nI j15)), (5, .int x13), (4, .int x11), (0, .ref o), (1, .int od), (2, .int wm), (3, .int wi)] → W p l e (headSpec wsX1_wear ({ frames := 4, cells := 0, slots := 0, locals := 87 })).room s m args below meth c H locs 0 0 Q (F0 m 124 ls [.int x96]) := by
                  intro x96 H locs ls hj98 hM hS hl
                  refine lv_istore (lv' := [(8, .int x96), (7, .int x91), (6, .int (nI j15)), (5, .int x13), (4, .int x11), (0, .ref o), (1, .int od), (2, .int wm), (3, .int wi)]) hx hb dX1_wear_124 hl (by decide) rfl (fun ls hl => ?_)
                  refine lv_aload_n hx hb dX1_wear_126 rfl (lv_at hl 5 rfl) ?_
                  obtain ⟨u99, u100, u101, u102, u103, u104, hP, hf⟩ := o_st (i := i) (q := o) hM (by omega)
                  refine va_get (D := (dC, dI)) (ci := 5) (v := .ref (pF g62 o 1)) (C := RX1) (T := TX1) (N := 15) hx hb hts (by decide +kernel) hown hK hP 0 rfl rfl 1 (by decide) (hts (.fieldLink RX1 15 "Snowpalace$Site" "masses" "[I") (by decide +kernel)) (fun _ h9 => h9) rfl dX1_wear_127 ?_
                  rw [ef74]
                  refine lv_iload hx hb dX1_wear_130 (lv_at hl 2 rfl) ?_
                  refine lv_dup2_11 hx hb dX1_wear_132 rfl rfl ?_
                  obtain ⟨u105, hP, hf⟩ := o_ma (i := 0) (q := (pF g o 1)) hM (by omega)
                  refine va_iald (D := (dC, dI)) hx hb hK hP 0 0 rfl rfl (vp_in_nI (by omega) (by decide)) dX1_wear_133 ?_
                  refine lv_topi (fun v106 e107 => ?_)
                  have ec : ((nI j15) : Int32).toNatClampNeg = j15 := nI_clamp (by omega)
                  rw [ec] at e107
                  refine lv_iload hx hb dX1_wear_134 (lv_at hl 1 rfl) ?_
                  have jn109 : ∀ (x108 : Int32) (H : Heap) (locs : List Loc) (ls : Array Slot), TM (dC, dI) kA b g62 H → va_S (fun q => b ≤ q) s.heap H locs → lv_has ls 9 [(8, .int x96), (7, .int x91), (6, .int (nI j15)), (5, .int x13), (4, .int x11), (0, .ref o), (1, .int od), (2, .int wm), (3, .int wi)] → W p l e (headSpec wsX1_wear ({ frames := 4, cells := 0, slots := 0, locals := 87 })).room s m args below meth c H locs 0 0 Q (F0 m 145 ls [.int x108, .int v106, .int (nI j15), .ref (pF g o 1)]) := by
                    intro x108 H locs ls hM hS hl
                    refine lv_iload hx hb dX1_wear_145 (lv_at hl 0 rfl) ?_
                    have jn111 : ∀ (x110 : Int32) (H : Heap) (locs : List Loc) (ls : Array Slot), TM (dC, dI) kA b g62 H → va_S (fun q => b ≤ q) s.heap H locs → lv_has ls 9 [(8, .int x96), (7, .int x91), (6, .int (nI j15)), (5, .int x13), (4, .int x11), (0, .ref o), (1, .int od), (2, .int wm), (3, .int wi)] → W p l e (headSpec wsX1_wear ({ frames := 4, cells := 0, slots := 0, locals := 87 })).room s m args below meth c H locs 0 0 Q (F0 m 156 ls [.int x110, .int x108, .int v106, .int (nI j15), .ref (pF g o 1)]) := by
                      intro x110 H locs ls hM hS hl
                      refine lv_iadd hx hb dX1_wear_156 ?_
                      refine lv_topi (fun v112 e113 => ?_)
                      refine lv_isub hx hb dX1_wear_157 ?_
                      refine lv_topi (fun v114 e115 => ?_)
                      obtain ⟨u116, hP, hf⟩ := o_ma (i := 0) (q := (pF g o 1)) hM (by omega)
                      refine rt_iast (D := (dC, dI)) (t0 := 0) hx hb hK hP (hM.ge (by omega)) hS rfl (vp_in_nI (by omega) (by decide)) dX1_wear_158 (fun H locs hP hz ho hS => ?_)
                      have ec : ((nI j15) : Int32).toNatClampNeg = j15 := nI_clamp (by omega)
                      rw [ec] at hP
                      have hM := s_ma (i := 0) hM (by omega) hP ho hf
                      refine lv_aload_n hx hb dX1_wear_159 rfl (lv_at hl 5 rfl) ?_
                      obtain ⟨u117, u118, u119, u120, u121, u122, hP, hf⟩ := o_st (i := i) (q := o) hM (by omega)
                      refine va_get (D := (dC, dI)) (ci := 5) (v := .ref (pF g62 o 7)) (C := RX1) (T := TX1) (N := 15) hx hb hts (by decide +kernel) hown hK hP 0 rfl rfl 7 (by decide) (hts (.fieldLink RX1 35 "Snowpalace$Site" "falling" "[Z") (by decide +kernel)) (fun _ h9 => h9) rfl dX1_wear_160 ?_
                      rw [ef74]
                      refine lv_iload hx hb dX1_wear_163 (lv_at hl 2 rfl) ?_
                      refine lv_aload_n hx hb dX1_wear_165 rfl (lv_at hl 5 rfl) ?_
                      obtain ⟨u123, u124, u125, u126, u127, u128, hP, hf⟩ := o_st (i := i) (q := o) hM (by omega)
                      refine va_get (D := (dC, dI)) (ci := 5) (v := .ref (pF g62 o 1)) (C := RX1) (T := TX1) (N := 15) hx hb hts (by decide +kernel) hown hK hP 0 rfl rfl 1 (by decide) (hts (.fieldLink RX1 15 "Snowpalace$Site" "masses" "[I") (by decide +kernel)) (fun _ h9 => h9) rfl dX1_wear_166 ?_
                      rw [ef74]
                      refine lv_iload hx hb dX1_wear_169 (lv_at hl 2 rfl) ?_
                      obtain ⟨u129, hP, hf⟩ := o_ma (i := 0) (q := (pF g o 1)) hM (by omega)
                      refine va_iald (D := (dC, dI)) hx hb hK hP 0 0 rfl rfl (vp_in_nI (by omega) (by decide)) dX1_wear_171 ?_
                      refine lv_topi (fun v130 e131 => ?_)
                      have ec : ((nI j15) : Int32).toNatClampNeg = j15 := nI_clamp (by omega)
                      rw [ec] at e131
                      refine lv_bipush (v := 100) hx hb dX1_wear_172 (by decide) ?_
                      have jn133 : ∀ (x132 : Int32) (H : Heap) (locs : List Loc) (ls : Array Slot), (x132 = 0 ∨ x132 = 1) → TM (dC, dI) kA b g62 H → va_S (fun q => b ≤ q) s.heap H locs → lv_has ls 9 [(8, .int x96), (7, .int x91), (6, .int (nI j15)), (5, .int x13), (4, .int x11), (0, .ref o), (1, .int od), (2, .int wm), (3, .int wi)] → W p l e (headSpec wsX1_wear ({ frames := 4, cells := 0, slots := 0, locals := 87 })).room s m args below meth c H locs 0 0 Q (F0 m 182 ls [.int x132, .int (nI j15), .ref (pF g o 7)]) := by
                        intro x132 H locs ls hj134 hM hS hl
                        obtain ⟨hP, hf⟩ := o_fa (i := i) (q := (pF g o 7)) hM (by omega)
                        refine rt_zast (D := (dC, dI)) (t0 := 1) hx hb hK hP (hM.ge (by omega)) hS rfl (vp_in_nI (by omega) (by decide)) dX1_wear_182 (fun H locs hP hz ho hS => ?_)
                        have ec : ((nI j15) : Int32).toNatClampNeg = j15 := nI_clamp (by omega)
                        rw [ec] at hP
                        have hM0 := hM
                        have hM := p_fa (i := i) (f := upd (pI g62 (pF g o 7)) j15 (vp_nar .boolean x132)) hM (by omega) hP ho (isZ_updP hf)
                        obtain ⟨g135, hg135⟩ : ∃ z, z = uI g62 (pF g o 7) (upd (pI g62 (pF g o 7)) j15 (vp_nar .boolean x132)) := ⟨_, rfl⟩
                        rw [← hg135] at hM
                        have ht136 : tg g135 o = 12 + 64 * i := by rw [hg135]; exact ht63
                        have ht137 : tg g135 (pF g o 0) = 13 + 64 * i := by rw [hg135]; exact ht64
                        have ht138 : tg g135 (pF g o 1) = 21 := by rw [hg135]; exact ht65
                        have ht139 : tg g135 (pF g o 2) = 14 := by rw [hg135]; exact ht66
                        have ht140 : tg g135 (pF g o 3) = 14 := by rw [hg135]; exact ht67
                        have ht141 : tg g135 (pF g o 4) = 15 := by rw [hg135]; exact ht68
                        have ht142 : tg g135 (pF g o 5) = 16 + 64 * i := by rw [hg135]; exact ht69
                        have ht143 : tg g135 (pF g o 6) = 23 := by rw [hg135]; exact ht70
                        have ht144 : tg g135 (pF g o 7) = 20 + 64 * i := by rw [hg135]; exact ht71
                        have hG : GOK g135 := by rw [hg135]; exact (hG.uI hM0 (Or.inl (by omega)))
                        have hx146 : Sx (XK i) g62 g135 := by rw [hg135]; exact Sx.uI (by have h9 := ht71; simp only [XF, XD, XK, XC, XR, XG]; omega)
                        have ef147 : pF g135 o = pF g o := (hx146.F).trans ef74
                        have hc148 : pI g135 (pF g o 0) = (pI g16 (pF g o 0)) := by rw [hg135]; exact (uI_n (fun e9 => by have h1 := ht64; have h2 := ht71; rw [e9] at h1; omega)).trans hc76
                        have hc149 : pI g135 (pF g o 7) = (upd (upd (pI g16 (pF g o 7)) j15 (vp_nar .boolean 0)) j15 (vp_nar .boolean x132)) := by rw [hg135]; exact uI_s.trans (congrArg (fun z9 => upd z9 j15 (vp_nar .boolean x132)) hc77)
                        refine lv_iinc (v := (nI (j15 + 1))) (lv' := [(6, .int (nI (j15 + 1))), (8, .int x96), (7, .int x91), (5, .int x13), (4, .int x11), (0, .ref o), (1, .int od), (2, .int wm), (3, .int wi)]) hx hb dX1_wear_183 hl (k := 2) rfl (nI_add j15 1) (by decide) rfl (fun ls hl => ?_)
                        refine lv_goto (tgt := 48) hx hb dX1_wear_186 (by decide) ?_
                        exact ih19 ((j15 + 1)) g135 (by omega) (by omega) (by omega) H _ ls ((hx20.trans hx73).trans hx146) hG hM hS (lv_sub hl [0, 3, 4, 5, 6, 7, 8] rfl)
                      refine lv_icmp_gt (tgt := 181) hx hb dX1_wear_174 (by decide) (fun c150 => ?_) (fun c150 => ?_)
                      · skip
                        have i151 := (Int32.lt_iff_toInt_lt).mp c150
                        have ii151 : (100 : Int32).toInt = 100 := by decide
                        have i151 := i151
                        refine lv_iconst (v := 0) hx hb dX1_wear_181 (by decide) ?_
                        exact jn133 0 H _ ls (Or.inl rfl) hM hS (lv_sub hl [0, 1, 2, 3, 4, 5, 6, 7, 8] rfl)
                      · skip
                        have i152 := fun z => c150 ((Int32.lt_iff_toInt_lt).mpr z)
                        have ii152 : (100 : Int32).toInt = 100 := by decide
                        have i152 : ¬ ((100 : Int32).toInt < (v130 : Int32).toInt) := i152
                        refine lv_iconst (v := 1) hx hb dX1_wear_177 (by decide) ?_
                        refine lv_goto (tgt := 182) hx hb dX1_wear_178 (by decide) ?_
                        exact jn133 1 H _ ls (Or.inr rfl) hM hS (lv_sub hl [0, 1, 2, 3, 4, 5, 6, 7, 8] rfl)
                    refine lv_if_eq (tgt := 154) hx hb dX1_wear_147 (by decide) (fun c153 => ?_) (fun c153 => ?_)
                    · skip
                      refine lv_iload hx hb dX1_wear_154 (lv_at hl 3 rfl) ?_
                      exact jn111 x13 H _ ls hM hS (lv_sub hl [0, 1, 2, 3, 4, 5, 6, 7, 8] rfl)
                    · skip
                      refine lv_iconst (v := 0) hx hb dX1_wear_150 (by decide) ?_
                      refine lv_goto (tgt := 156) hx hb dX1_wear_151 (by decide) ?_
                      exact jn111 0 H _ ls hM hS (lv_sub hl [0, 1, 2, 3, 4, 5, 6, 7, 8] rfl)
                  refine lv_if_eq (tgt := 143) hx hb dX1_wear_136 (by decide) (fun c154 => ?_) (fun c154 => ?_)
                  · skip
                    refine lv_iload hx hb dX1_wear_143 (lv_at hl 4 rfl) ?_
                    exact jn109 x11 H _ ls hM hS (lv_sub hl [0, 1, 2, 3, 4, 5, 6, 7, 8] rfl)
                  · skip
                    refine lv_iconst (v := 0) hx hb dX1_wear_139 (by decide) ?_
                    refine lv_goto (tgt := 145) hx hb dX1_wear_140 (by decide) ?_
                    exact jn109 0 H _ ls hM hS (lv_sub hl [0, 1, 2, 3, 4, 5, 6, 7, 8] rfl)
                refine lv_if_le (tgt := 123) hx hb dX1_wear_105 (by decide) (fun c155 => ?_) (fun c155 => ?_)
                · skip
                  have k156 : (j15 % 8) ≤ 0 := (nI_leI (a := (j15 % 8)) (b := 0) (by omega) (by omega)).mp c155
                  refine lv_iconst (v := 0) hx hb dX1_wear_123 (by decide) ?_
                  exact jn97 0 H _ ls (Or.inl rfl) hM hS (lv_sub hl [0, 1, 2, 3, 4, 5, 6, 7] rfl)
                · skip
                  have k157 : ¬ ((j15 % 8) ≤ 0) := fun z => c155 ((nI_leI (a := (j15 % 8)) (b := 0) (by omega) (by omega)).mpr z)
                  refine lv_aload_n hx hb dX1_wear_108 rfl (lv_at hl 4 rfl) ?_
                  refine lv_iload hx hb dX1_wear_109 (lv_at hl 1 rfl) ?_
                  refine lv_iconst (v := 1) hx hb dX1_wear_111 (by decide) ?_
                  refine lv_isub hx hb dX1_wear_112 ?_
                  refine lv_topi (fun v158 e159 => ?_)
                  have tv158 : (v158 : Int32).toInt = ((j15 : Nat) : Int) - ((1 : Nat) : Int) := by rw [e159]; exact pk_sub_toInt (a := j15) (b := 1) (by omega) (by omega)
                  obtain ⟨u160, u161, u162, u163, u164, u165, hP, hf⟩ := o_st (i := i) (q := o) hM (by omega)
                  refine va_calli (va_runV (As := [.int v158]) (rest := []) ⟨hx, hb, hml, hown, hts⟩ (rk_has l dC dI kA eD b g62 o i v158 (by omega)) (cwV 1 hts gX1_wear_X1_has rfl rfl rfl (by decide +kernel) ⟨Nat.le_of_ble_eq_true rfl, Nat.le_of_ble_eq_true rfl⟩) ⟨fb_CX, va_recv hK hP (ci := 5) (q0 := 0) rfl rfl, fun U hU hW => ⟨rfl, CX.give hb0 hM hK hG hE hS hU hW⟩⟩ rfl rfl hl.1 rfl (lv_room (Nat.le_of_ble_eq_true rfl)) dX1_wear_113 ⟨(Nat.le_of_ble_eq_true rfl), (Nat.le_of_ble_eq_true rfl)⟩) hS (fun q _ h => h.elim) (fun q h => h.elim) (fun r166 u t H locs ht hvm hw167 hB hz1 hk1 hS => ?_)
                  have hM := hB.back ht
                  have hG := hB.2.2.2.1
                  rw [ef74] at hw167
                  rw [hc76] at hw167
                  refine lv_if_eq (tgt := 123) hx hb dX1_wear_116 (by decide) (fun c168 => ?_) (fun c168 => ?_)
                  · skip
                    refine lv_iconst (v := 0) hx hb dX1_wear_123 (by decide) ?_
                    exact jn97 0 H _ ls (Or.inl rfl) hM hS (lv_sub hl [0, 1, 2, 3, 4, 5, 6, 7] rfl)
                  · skip
                    obtain ⟨-, jz9, ez9, hz9, hz8⟩ := hw167.resolve_left (fun z => c168 z.1)
                    have hr0 : (v158 : Int32).toInt = ((jz9 : Nat) : Int) := by rw [ez9]; exact nI_toInt (by omega)
                    have hr1 : 0 ≤ (v158 : Int32).toInt := by omega
                    have hr2 : (v158 : Int32).toInt ≤ 47 := by omega
                    refine lv_iconst (v := 1) hx hb dX1_wear_119 (by decide) ?_
                    refine lv_goto (tgt := 124) hx hb dX1_wear_120 (by decide) ?_
                    exact jn97 1 H _ ls (Or.inr rfl) hM hS (lv_sub hl [0, 1, 2, 3, 4, 5, 6, 7] rfl)
              refine lv_icmp_ge (tgt := 97) hx hb dX1_wear_79 (by decide) (fun c169 => ?_) (fun c169 => ?_)
              · skip
                have k170 : 7 ≤ (j15 % 8) := (nI_leI (a := 7) (b := (j15 % 8)) (by omega) (by omega)).mp c169
                refine lv_iconst (v := 0) hx hb dX1_wear_97 (by decide) ?_
                exact jn92 0 H _ ls (Or.inl rfl) hM hS (lv_sub hl [0, 1, 2, 3, 4, 5, 6] rfl)
              · skip
                have k171 : ¬ (7 ≤ (j15 % 8)) := fun z => c169 ((nI_leI (a := 7) (b := (j15 % 8)) (by omega) (by omega)).mpr z)
                refine lv_aload_n hx hb dX1_wear_82 rfl (lv_at hl 3 rfl) ?_
                refine lv_iload hx hb dX1_wear_83 (lv_at hl 0 rfl) ?_
                refine lv_iconst (v := 1) hx hb dX1_wear_85 (by decide) ?_
                refine lv_iadd hx hb dX1_wear_86 ?_
                refine lv_topi (fun v172 e173 => ?_)
                obtain rfl : v172 = nI (j15 + 1) := e173.trans (nI_add j15 1)
                obtain ⟨u174, u175, u176, u177, u178, u179, hP, hf⟩ := o_st (i := i) (q := o) hM (by omega)
                refine va_calli (va_runV (As := [.int (nI (j15 + 1))]) (rest := []) ⟨hx, hb, hml, hown, hts⟩ (rk_has l dC dI kA eD b g62 o i (nI (j15 + 1)) (by omega)) (cwV 1 hts gX1_wear_X1_has rfl rfl rfl (by decide +kernel) ⟨Nat.le_of_ble_eq_true rfl, Nat.le_of_ble_eq_true rfl⟩) ⟨fb_CX, va_recv hK hP (ci := 5) (q0 := 0) rfl rfl, fun U hU hW => ⟨rfl, CX.give hb0 hM hK hG hE hS hU hW⟩⟩ rfl rfl hl.1 rfl (lv_room (Nat.le_of_ble_eq_true rfl)) dX1_wear_87 ⟨(Nat.le_of_ble_eq_true rfl), (Nat.le_of_ble_eq_true rfl)⟩) hS (fun q _ h => h.elim) (fun q h => h.elim) (fun r180 u t H locs ht hvm hw181 hB hz1 hk1 hS => ?_)
                have hM := hB.back ht
                have hG := hB.2.2.2.1
                rw [ef74] at hw181
                rw [hc76] at hw181
                refine lv_if_eq (tgt := 97) hx hb dX1_wear_90 (by decide) (fun c182 => ?_) (fun c182 => ?_)
                · skip
                  have hk183 : (pI g16 (pF g o 0)) (j15 + 1) = 46 := (hw181.resolve_right (fun z => absurd (z.1.symm.trans c182) (by decide))).2 (j15 + 1) rfl (by omega)
                  refine lv_iconst (v := 0) hx hb dX1_wear_97 (by decide) ?_
                  exact jn92 0 H _ ls (Or.inl rfl) hM hS (lv_sub hl [0, 1, 2, 3, 4, 5, 6] rfl)
                · skip
                  have hk184 : ¬ (pI g16 (pF g o 0)) (j15 + 1) = 46 := by obtain ⟨-, jz9, ez9, hz9, hz8⟩ := hw181.resolve_left (fun z => c182 z.1); rw [(nI_eq (a := (j15 + 1)) (b := jz9) (by omega) (by omega)).mp ez9]; exact hz8
                  refine lv_iconst (v := 1) hx hb dX1_wear_93 (by decide) ?_
                  refine lv_goto (tgt := 98) hx hb dX1_wear_94 (by decide) ?_
                  exact jn92 1 H _ ls (Or.inr rfl) hM hS (lv_sub hl [0, 1, 2, 3, 4, 5, 6] rfl)
      exact lp17 (48 + 1) 0 g (by omega) (by omega) (by omega) H _ ls Sx.refl hG hM hS (lv_sub hl [0, 1, 2, 3, 4, 5, 6] rfl)
    refine lv_icmp_lt (tgt := 42) hx hb dX1_wear_33 (by decide) (fun c185 => ?_) (fun c185 => ?_)
    · skip
      have i186 := (Int32.lt_iff_toInt_lt).mp c185
      have ii186 : (10 : Int32).toInt = 10 := by decide
      have i186 := i186
      refine lv_iconst (v := 0) hx hb dX1_wear_42 (by decide) ?_
      exact jn14 0 H _ ls hM hS (lv_sub hl [0, 1, 2, 3, 4] rfl)
    · skip
      have i187 := fun z => c185 ((Int32.lt_iff_toInt_lt).mpr z)
      have ii187 : (10 : Int32).toInt = 10 := by decide
      have i187 : ¬ ((wi : Int32).toInt < (10 : Int32).toInt) := i187
      refine lv_iload_n hx hb dX1_wear_36 rfl (lv_at hl 4 rfl) ?_
      refine lv_iconst (v := 5) hx hb dX1_wear_37 (by decide) ?_
      refine lv_idiv hx hb dX1_wear_38 (by decide) ?_
      refine lv_topi (fun v188 e189 => ?_)
      refine lv_goto (tgt := 43) hx hb dX1_wear_39 (by decide) ?_
      exact jn14 v188 H _ ls hM hS (lv_sub hl [0, 1, 2, 3, 4] rfl)
  refine lv_if_eq (tgt := 27) hx hb dX1_wear_8 (by decide) (fun c190 => ?_) (fun c190 => ?_)
  · skip
    have g191 : ¬ ((10 : Int) ≤ od.toInt ∧ od.toInt ≤ (14 : Int)) := bI_f hw10 c190
    have zg191 : r9 = 0 := bI_f0 hw10 g191
    refine lv_iconst (v := 0) hx hb dX1_wear_27 (by decide) ?_
    exact jn12 0 H _ ls hM hS (lv_sub hl [0, 1, 2, 3] rfl)
  · skip
    have g192 : (10 : Int) ≤ od.toInt ∧ od.toInt ≤ (14 : Int) := bI_t hw10 c190
    have zg192 : r9 = 1 := bI_t1 hw10 g192
    refine lv_iload_n hx hb dX1_wear_11 rfl (lv_at hl 2 rfl) ?_
    refine lv_bipush (v := (-100)) hx hb dX1_wear_12 (by decide) ?_
    refine lv_icmp_le (tgt := 27) hx hb dX1_wear_14 (by decide) (fun c193 => ?_) (fun c193 => ?_)
    · skip
      have i194 := (Int32.le_iff_toInt_le).mp c193
      have ii194 : ((-100) : Int32).toInt = -100 := by decide
      have i194 := i194
      refine lv_iconst (v := 0) hx hb dX1_wear_27 (by decide) ?_
      exact jn12 0 H _ ls hM hS (lv_sub hl [0, 1, 2, 3] rfl)
    · skip
      have i195 := fun z => c193 ((Int32.le_iff_toInt_le).mpr z)
      have ii195 : ((-100) : Int32).toInt = -100 := by decide
      have i195 : ¬ ((wm : Int32).toInt ≤ ((-100) : Int32).toInt) := i195
      refine lv_iload_n hx hb dX1_wear_17 rfl (lv_at hl 2 rfl) ?_
      refine lv_bipush (v := (-100)) hx hb dX1_wear_18 (by decide) ?_
      refine lv_isub hx hb dX1_wear_20 ?_
      refine lv_topi (fun v196 e197 => ?_)
      refine lv_bipush (v := 20) hx hb dX1_wear_21 (by decide) ?_
      refine lv_idiv hx hb dX1_wear_23 (by decide) ?_
      refine lv_topi (fun v198 e199 => ?_)
      refine lv_goto (tgt := 28) hx hb dX1_wear_24 (by decide) ?_
      exact jn12 v198 H _ ls hM hS (lv_sub hl [0, 1, 2, 3] rfl)

set_option maxHeartbeats 4000000 in
set_option maxRecDepth 100000 in
theorem rk_growOld (l : Launch) (dC : Nat → ClassId) (dI : Nat → Nat → Nat) (kA : Nat → ClassId) (eD b : Nat) (g : Gh) (o : Nat) (i : Nat) (wm : Int32) (hto : tg g o = 12 + 64 * i)  : Met l yX1_growOld wsX1_growOld ({ frames := 1, cells := 0, slots := 0, locals := 21 }) (va_Pc [.ref o, .int wm] (CX (dC, dI) kA eD b g)) (va_Qv (fun (u : Unit) => True) (fun (u : Unit) t => CX (dC, dI) kA eD b g t) (fun q => b ≤ q)) 0 0 (fun q => b ≤ q) := by
  refine Met.ofW (cc := cX1_growOld) (maxL := 4) (ret := none) (by decide +kernel) rfl ?_
  intro p e s m args below meth c s₁ B hml hv
  obtain ⟨rfl, hb0, hM, hK, hG, hE⟩ := hv
  have hx := B.exec
  have hb := B.bytes
  have hr := B.returns
  have hts := atoms_spec (ws := wsX1_growOld) B.pre
  have hown : s.vm.findClass RX1 = some m.cls := findClass_of_methodNamed B.named
  have hlocks := B.notSynchronized
  have hT := hE.1
  have hN := hE.2.2.2.2.2.2.2.1
  have hS : va_S (fun q => b ≤ q) s.heap s.heap [] := va_S.rf
  have hl := lv_entry ([.ref o, .int wm]) (n := 4) (Nat.le_of_ble_eq_true rfl)
  rw [lg_entry_eq]
  generalize (lg_sl ([.ref o, .int wm]) ++ List.replicate (4 - (lg_sl ([.ref o, .int wm])).length) Slot.unset).toArray = ls at hl ⊢
  have hl : lv_has ls 4 [(0, .ref o), (1, .int wm)] := hl
  generalize ([.ref o, .int wm] : List Value).toArray = args at hts ⊢
  refine W.q (fun Q hQ => ?_)
  refine lv_iconst (v := 0) hx hb dX1_growOld_0 (by decide) ?_
  refine lv_istore_n (lv' := [(2, .int 0), (0, .ref o), (1, .int wm)]) hx hb dX1_growOld_1 rfl hl (by decide) rfl (fun ls hl => ?_)
  have lp2 : ∀ (n3 j1 : Nat) , 0 ≤ j1 → j1 ≤ 48 → 48 < j1 + n3 → ∀ (H : Heap) (locs : List Loc) (ls : Array Slot), TM (dC, dI) kA b g H → va_S (fun q => b ≤ q) s.heap H locs → lv_has ls 4 [(2, .int (nI j1)), (0, .ref o), (1, .int wm)] → W p l e (headSpec wsX1_growOld ({ frames := 1, cells := 0, slots := 0, locals := 21 })).room s m args below meth c H locs 0 0 Q (F0 m 2 ls []) := by
    intro n3
    induction n3 with
    | zero => intro j1 h0 h1 h2; omega
    | succ n3 ih4 =>
      intro j1 lj1 hj1 hn3 H locs ls hM hS hl
      refine lv_iload_n hx hb dX1_growOld_2 rfl (lv_at hl 0 rfl) ?_
      refine lv_bipush (v := 48) hx hb dX1_growOld_3 (by decide) ?_
      refine lv_icmp_ge (tgt := 77) hx hb dX1_growOld_5 (by decide) (fun c5 => ?_) (fun c5 => ?_)
      · skip
        have k6 : 48 ≤ j1 := (nI_leI (a := 48) (b := j1) (by omega) (by omega)).mp c5
        subst hQ
        refine W.widen (k := 0) (n := 0) (Nat.le_of_ble_eq_true rfl) (Nat.le_of_ble_eq_true rfl) ?_
        exact W.vret hx hb hr (fun t ht hW => ⟨⟨(), rfl, trivial, CX.give hb0 hM hK hG hE hS ht hW⟩, hS.F ht⟩) hS.2.2 dX1_growOld_77
      · skip
        have k7 : ¬ (48 ≤ j1) := fun z => c5 ((nI_leI (a := 48) (b := j1) (by omega) (by omega)).mpr z)
        refine lv_aload_n hx hb dX1_growOld_8 rfl (lv_at hl 1 rfl) ?_
        refine lv_iload_n hx hb dX1_growOld_9 rfl (lv_at hl 0 rfl) ?_
        obtain ⟨u8, u9, u10, u11, u12, u13, hP, hf⟩ := o_st (i := i) (q := o) hM (by omega)
        refine va_calli (va_runV (As := [.int (nI j1)]) (rest := []) ⟨hx, hb, hml, hown, hts⟩ (rk_has l dC dI kA eD b g o i (nI j1) (by omega)) (cwV 1 hts gX1_growOld_X1_has rfl rfl rfl (by decide +kernel) ⟨Nat.le_of_ble_eq_true rfl, Nat.le_of_ble_eq_true rfl⟩) ⟨fb_CX, va_recv hK hP (ci := 5) (q0 := 0) rfl rfl, fun U hU hW => ⟨rfl, CX.give hb0 hM hK hG hE hS hU hW⟩⟩ rfl rfl hl.1 rfl (lv_room (Nat.le_of_ble_eq_true rfl)) dX1_growOld_10 ⟨(Nat.le_of_ble_eq_true rfl), (Nat.le_of_ble_eq_true rfl)⟩) hS (fun q _ h => h.elim) (fun q h => h.elim) (fun r14 u t H locs ht hvm hw15 hB hz1 hk1 hS => ?_)
        have hM := hB.back ht
        have hG := hB.2.2.2.1
        have jn16 : ∀  (H : Heap) (locs : List Loc) (ls : Array Slot), TM (dC, dI) kA b g H → va_S (fun q => b ≤ q) s.heap H locs → lv_has ls 4 [(2, .int (nI j1)), (0, .ref o), (1, .int wm)] → W p l e (headSpec wsX1_growOld ({ frames := 1, cells := 0, slots := 0, locals := 21 })).room s m args below meth c H locs 0 0 Q (F0 m 71 ls []) := by
          intro H locs ls hM hS hl
          refine lv_iinc (v := (nI (j1 + 1))) (lv' := [(2, .int (nI (j1 + 1))), (0, .ref o), (1, .int wm)]) hx hb dX1_growOld_71 hl (k := 0) rfl (nI_add j1 1) (by decide) rfl (fun ls hl => ?_)
          refine lv_goto (tgt := 2) hx hb dX1_growOld_74 (by decide) ?_
          exact ih4 ((j1 + 1)) (by omega) (by omega) (by omega) H _ ls  hM hS (lv_sub hl [0, 1, 2] rfl)
        refine lv_if_eq (tgt := 71) hx hb dX1_growOld_13 (by decide) (fun c17 => ?_) (fun c17 => ?_)
        · skip
          have hk18 : (pI g (pF g o 0)) j1 = 46 := (hw15.resolve_right (fun z => absurd (z.1.symm.trans c17) (by decide))).2 j1 rfl (by omega)
          exact jn16 H _ ls hM hS (lv_sub hl [0, 1, 2] rfl)
        · skip
          have hk19 : ¬ (pI g (pF g o 0)) j1 = 46 := by obtain ⟨-, jz9, ez9, hz9, hz8⟩ := hw15.resolve_left (fun z => c17 z.1); rw [(nI_eq (a := j1) (b := jz9) (by omega) (by omega)).mp ez9]; exact hz8
          refine lv_aload_n hx hb dX1_growOld_16 rfl (lv_at hl 1 rfl) ?_
          obtain ⟨u20, u21, u22, u23, u24, u25, hP, hf⟩ := o_st (i := i) (q := o) hM (by omega)
          refine va_get (D := (dC, dI)) (ci := 5) (v := .ref (pF g o 6)) (C := RX1) (T := TX1) (N := 15) hx hb hts (by decide +kernel) hown hK hP 0 rfl rfl 6 (by decide) (hts (.fieldLink RX1 32 "Snowpalace$Site" "loads" "[I") (by decide +kernel)) (fun _ h9 => h9) rfl dX1_growOld_17 ?_
          have ht26 : tg g (pF g o 6) = 23 := hf.2.2.2.2.2.2.1
          refine lv_iload_n hx hb dX1_growOld_20 rfl (lv_at hl 0 rfl) ?_
          obtain ⟨u27, hP, hf⟩ := o_ld (i := 0) (q := (pF g o 6)) hM (by omega)
          refine va_iald (D := (dC, dI)) hx hb hK hP 0 0 rfl rfl (vp_in_nI (by omega) (by decide)) dX1_growOld_21 ?_
          refine lv_topi (fun v28 e29 => ?_)
          have ec : ((nI j1) : Int32).toNatClampNeg = j1 := nI_clamp (by omega)
          rw [ec] at e29
          refine lv_iconst (v := 0) hx hb dX1_growOld_22 (by decide) ?_
          refine lv_iload_n hx hb dX1_growOld_23 rfl (lv_at hl 2 rfl) ?_
          refine lv_sipush (v := 300) hx hb dX1_growOld_24 (by decide) ?_
          refine lv_iadd hx hb dX1_growOld_27 ?_
          refine lv_topi (fun v30 e31 => ?_)
          refine va_mmax hx hb (hml.trans hl.1.symm) hown (hts (.methodLink RX1 93 Lib.Math.max.name) (by decide +kernel)) (hts (.static Lib.Math.max.name) (by decide +kernel)) (hts (.initialized "java/lang/Math") (by decide +kernel)) (hts (.code Lib.Math.max.name Lib.Math.max.code 2 (some .int)) (by decide +kernel)) (Nat.le_of_ble_eq_true rfl) (Nat.le_of_ble_eq_true rfl) (Nat.le_of_ble_eq_true rfl) (Nat.le_of_ble_eq_true rfl) dX1_growOld_28 ?_
          refine lv_topi (fun v32 e33 => ?_)
          refine lv_imul hx hb dX1_growOld_31 ?_
          refine lv_topi (fun v34 e35 => ?_)
          refine lv_ldc hx hb hown (hts (.constant RX1 120 100000) (by decide +kernel)) dX1_growOld_32 ?_
          refine lv_idiv hx hb dX1_growOld_34 (by decide) ?_
          refine lv_topi (fun v36 e37 => ?_)
          refine lv_istore_n (lv' := [(3, .int v36), (2, .int (nI j1)), (0, .ref o), (1, .int wm)]) hx hb dX1_growOld_35 rfl hl (by decide) rfl (fun ls hl => ?_)
          refine lv_aload_n hx hb dX1_growOld_36 rfl (lv_at hl 2 rfl) ?_
          obtain ⟨u38, u39, u40, u41, u42, u43, hP, hf⟩ := o_st (i := i) (q := o) hM (by omega)
          refine va_get (D := (dC, dI)) (ci := 5) (v := .ref (pF g o 2)) (C := RX1) (T := TX1) (N := 15) hx hb hts (by decide +kernel) hown hK hP 0 rfl rfl 2 (by decide) (hts (.fieldLink RX1 19 "Snowpalace$Site" "creeps" "[I") (by decide +kernel)) (fun _ h9 => h9) rfl dX1_growOld_37 ?_
          have ht44 : tg g (pF g o 2) = 14 := hf.2.2.1
          refine lv_iload_n hx hb dX1_growOld_40 rfl (lv_at hl 1 rfl) ?_
          refine lv_dup2_11 hx hb dX1_growOld_41 rfl rfl ?_
          obtain ⟨u45, hP, hf⟩ := o_in (i := 0) (q := (pF g o 2)) hM (by omega)
          refine va_iald (D := (dC, dI)) hx hb hK hP 0 0 rfl rfl (vp_in_nI (by omega) (by decide)) dX1_growOld_42 ?_
          refine lv_topi (fun v46 e47 => ?_)
          have ec : ((nI j1) : Int32).toNatClampNeg = j1 := nI_clamp (by omega)
          rw [ec] at e47
          refine lv_aload_n hx hb dX1_growOld_43 rfl (lv_at hl 2 rfl) ?_
          obtain ⟨u48, u49, u50, u51, u52, u53, hP, hf⟩ := o_st (i := i) (q := o) hM (by omega)
          refine va_get (D := (dC, dI)) (ci := 5) (v := .ref (pF g o 4)) (C := RX1) (T := TX1) (N := 15) hx hb hts (by decide +kernel) hown hK hP 0 rfl rfl 4 (by decide) (hts (.fieldLink RX1 25 "Snowpalace$Site" "lamps" "[Z") (by decide +kernel)) (fun _ h9 => h9) rfl dX1_growOld_44 ?_
          have ht54 : tg g (pF g o 4) = 15 := hf.2.2.2.2.1
          refine lv_iload_n hx hb dX1_growOld_47 rfl (lv_at hl 1 rfl) ?_
          obtain ⟨u55, hP, hf⟩ := o_bo (i := 0) (q := (pF g o 4)) hM (by omega)
          refine va_zald (D := (dC, dI)) hx hb hK hP 0 1 rfl rfl (vp_in_nI (by omega) (by decide)) dX1_growOld_48 ?_
          refine lv_topi (fun v56 e57 => ?_)
          have ec : ((nI j1) : Int32).toNatClampNeg = j1 := nI_clamp (by omega)
          rw [ec] at e57
          have hu58 := hf j1 (by omega)
          rw [← e57] at hu58
          have jn60 : ∀ (x59 : Int32) (H : Heap) (locs : List Loc) (ls : Array Slot), TM (dC, dI) kA b g H → va_S (fun q => b ≤ q) s.heap H locs → lv_has ls 4 [(3, .int v36), (2, .int (nI j1)), (0, .ref o), (1, .int wm)] → W p l e (headSpec wsX1_growOld ({ frames := 1, cells := 0, slots := 0, locals := 21 })).room s m args below meth c H locs 0 0 Q (F0 m 59 ls [.int x59, .int v46, .int (nI j1), .ref (pF g o 2)]) := by
            intro x59 H locs ls hM hS hl
            refine lv_iadd hx hb dX1_growOld_59 ?_
            refine lv_topi (fun v61 e62 => ?_)
            obtain ⟨u63, hP, hf⟩ := o_in (i := 0) (q := (pF g o 2)) hM (by omega)
            refine rt_iast (D := (dC, dI)) (t0 := 0) hx hb hK hP (hM.ge (by omega)) hS rfl (vp_in_nI (by omega) (by decide)) dX1_growOld_60 (fun H locs hP hz ho hS => ?_)
            have ec : ((nI j1) : Int32).toNatClampNeg = j1 := nI_clamp (by omega)
            rw [ec] at hP
            have hM := s_in (i := 0) hM (by omega) hP ho hf
            refine lv_aload_n hx hb dX1_growOld_61 rfl (lv_at hl 2 rfl) ?_
            obtain ⟨u64, u65, u66, u67, u68, u69, hP, hf⟩ := o_st (i := i) (q := o) hM (by omega)
            refine va_get (D := (dC, dI)) (ci := 5) (v := .ref (pF g o 3)) (C := RX1) (T := TX1) (N := 15) hx hb hts (by decide +kernel) hown hK hP 0 rfl rfl 3 (by decide) (hts (.fieldLink RX1 22 "Snowpalace$Site" "ages" "[I") (by decide +kernel)) (fun _ h9 => h9) rfl dX1_growOld_62 ?_
            have ht70 : tg g (pF g o 3) = 14 := hf.2.2.2.1
            refine lv_iload_n hx hb dX1_growOld_65 rfl (lv_at hl 1 rfl) ?_
            refine lv_dup2_11 hx hb dX1_growOld_66 rfl rfl ?_
            obtain ⟨u71, hP, hf⟩ := o_in (i := 0) (q := (pF g o 3)) hM (by omega)
            refine va_iald (D := (dC, dI)) hx hb hK hP 0 0 rfl rfl (vp_in_nI (by omega) (by decide)) dX1_growOld_67 ?_
            refine lv_topi (fun v72 e73 => ?_)
            have ec : ((nI j1) : Int32).toNatClampNeg = j1 := nI_clamp (by omega)
            rw [ec] at e73
            refine lv_iconst (v := 1) hx hb dX1_growOld_68 (by decide) ?_
            refine lv_iadd hx hb dX1_growOld_69 ?_
            refine lv_topi (fun v74 e75 => ?_)
            obtain ⟨u76, hP, hf⟩ := o_in (i := 0) (q := (pF g o 3)) hM (by omega)
            refine rt_iast (D := (dC, dI)) (t0 := 0) hx hb hK hP (hM.ge (by omega)) hS rfl (vp_in_nI (by omega) (by decide)) dX1_growOld_70 (fun H locs hP hz ho hS => ?_)
            have ec : ((nI j1) : Int32).toNatClampNeg = j1 := nI_clamp (by omega)
            rw [ec] at hP
            have hM := s_in (i := 0) hM (by omega) hP ho hf
            exact jn16 H _ ls hM hS (lv_sub hl [1, 2, 3] rfl)
          refine lv_if_eq (tgt := 58) hx hb dX1_growOld_49 (by decide) (fun c77 => ?_) (fun c77 => ?_)
          · skip
            refine lv_iload_n hx hb dX1_growOld_58 rfl (lv_at hl 0 rfl) ?_
            exact jn60 v36 H _ ls hM hS (lv_sub hl [0, 1, 2, 3] rfl)
          · skip
            refine lv_iconst (v := 2) hx hb dX1_growOld_52 (by decide) ?_
            refine lv_iload_n hx hb dX1_growOld_53 rfl (lv_at hl 0 rfl) ?_
            refine lv_imul hx hb dX1_growOld_54 ?_
            refine lv_topi (fun v78 e79 => ?_)
            refine lv_goto (tgt := 59) hx hb dX1_growOld_55 (by decide) ?_
            exact jn60 v78 H _ ls hM hS (lv_sub hl [0, 1, 2, 3] rfl)
  exact lp2 (48 + 1) 0 (by omega) (by omega) (by omega) s.heap _ ls  hM hS (lv_sub hl [0, 1, 2] rfl)

set_option maxHeartbeats 4000000 in
set_option maxRecDepth 100000 in
theorem rk_isOpenWith (l : Launch) (dC : Nat → ClassId) (dI : Nat → Nat → Nat) (kA : Nat → ClassId) (eD b : Nat) (g : Gh) (o : Nat) (i : Nat) (mp mo wm : Int32) (hto : tg g o = 12 + 64 * i)  : Met l yX1_isOpenWith wsX1_isOpenWith ({ frames := 3, cells := 0, slots := 0, locals := 69 }) (va_Pc [.ref o, .int mp, .int mo, .int wm] (CX (dC, dI) kA eD b g)) (va_Qi (fun (r : Int32) (u : Unit) => r = 0 ∨ r = 1) (fun (u : Unit) t => CX (dC, dI) kA eD b g t) (fun q => b ≤ q)) 0 0 (fun q => b ≤ q) := by
  refine Met.ofW (cc := cX1_isOpenWith) (maxL := 6) (ret := (some .boolean)) (by decide +kernel) rfl ?_
  intro p e s m args below meth c s₁ B hml hv
  obtain ⟨rfl, hb0, hM, hK, hG, hE⟩ := hv
  have hx := B.exec
  have hb := B.bytes
  have hr := B.returns
  have hts := atoms_spec (ws := wsX1_isOpenWith) B.pre
  have hown : s.vm.findClass RX1 = some m.cls := findClass_of_methodNamed B.named
  have hlocks := B.notSynchronized
  have hT := hE.1
  have hN := hE.2.2.2.2.2.2.2.1
  have hS : va_S (fun q => b ≤ q) s.heap s.heap [] := va_S.rf
  have hl := lv_entry ([.ref o, .int mp, .int mo, .int wm]) (n := 6) (Nat.le_of_ble_eq_true rfl)
  rw [lg_entry_eq]
  generalize (lg_sl ([.ref o, .int mp, .int mo, .int wm]) ++ List.replicate (6 - (lg_sl ([.ref o, .int mp, .int mo, .int wm])).length) Slot.unset).toArray = ls at hl ⊢
  have hl : lv_has ls 6 [(0, .ref o), (1, .int mp), (2, .int mo), (3, .int wm)] := hl
  generalize ([.ref o, .int mp, .int mo, .int wm] : List Value).toArray = args at hts ⊢
  refine W.q (fun Q hQ => ?_)
  refine lv_aload_n hx hb dX1_isOpenWith_0 rfl (lv_at hl 0 rfl) ?_
  refine lv_iload_n hx hb dX1_isOpenWith_1 rfl (lv_at hl 1 rfl) ?_
  refine lv_iload_n hx hb dX1_isOpenWith_2 rfl (lv_at hl 2 rfl) ?_
  obtain ⟨u1, u2, u3, u4, u5, u6, hP, hf⟩ := o_st (i := i) (q := o) hM (by omega)
  refine va_callv (va_runV (As := [.int mp, .int mo]) (rest := []) ⟨hx, hb, hml, hown, hts⟩ (rk_weigh l dC dI kA eD b g o i mp mo (by omega)) (cwV 2 hts gX1_isOpenWith_X1_weigh rfl rfl rfl (by decide +kernel) ⟨Nat.le_of_ble_eq_true rfl, Nat.le_of_ble_eq_true rfl⟩) ⟨fb_CX, va_recv hK hP (ci := 5) (q0 := 0) rfl rfl, fun U hU hW => ⟨rfl, CX.give hb0 hM hK hG hE hS hU hW⟩⟩ rfl rfl hl.1 rfl (lv_room (Nat.le_of_ble_eq_true rfl)) dX1_isOpenWith_3 ⟨(Nat.le_of_ble_eq_true rfl), (Nat.le_of_ble_eq_true rfl)⟩) hS (fun q _ h => h) (fun q h => h) (fun u t H locs ht hvm hw8 hB hz1 hk1 hS => ?_)
  have hM := hB.back ht
  have hG := hB.2.2.2.1
  refine lv_iconst (v := 0) hx hb dX1_isOpenWith_6 (by decide) ?_
  refine lv_istore (lv' := [(4, .int 0), (0, .ref o), (1, .int mp), (2, .int mo), (3, .int wm)]) hx hb dX1_isOpenWith_7 hl (by decide) rfl (fun ls hl => ?_)
  refine lv_iconst (v := 0) hx hb dX1_isOpenWith_9 (by decide) ?_
  refine lv_istore (lv' := [(5, .int 0), (4, .int 0), (0, .ref o), (1, .int mp), (2, .int mo), (3, .int wm)]) hx hb dX1_isOpenWith_10 hl (by decide) rfl (fun ls hl => ?_)
  have lp11 : ∀ (n12 j9 : Nat) (x10 : Int32), 0 ≤ j9 → j9 ≤ 48 → 48 < j9 + n12 → ∀ (H : Heap) (locs : List Loc) (ls : Array Slot), (x10 = 0 ∨ x10 = 1) → TM (dC, dI) kA b g H → va_S (fun q => b ≤ q) s.heap H locs → lv_has ls 6 [(5, .int (nI j9)), (4, .int x10), (0, .ref o), (1, .int mp), (2, .int mo), (3, .int wm)] → W p l e (headSpec wsX1_isOpenWith ({ frames := 3, cells := 0, slots := 0, locals := 69 })).room s m args below meth c H locs 0 0 Q (F0 m 12 ls []) := by
    intro n12
    induction n12 with
    | zero => intro j9 x10 h0 h1 h2; omega
    | succ n12 ih13 =>
      intro j9 x10 lj9 hj9 hn12 H locs ls hf14 hM hS hl
      refine lv_iload hx hb dX1_isOpenWith_12 (lv_at hl 0 rfl) ?_
      refine lv_bipush (v := 48) hx hb dX1_isOpenWith_14 (by decide) ?_
      refine lv_icmp_ge (tgt := 71) hx hb dX1_isOpenWith_16 (by decide) (fun c15 => ?_) (fun c15 => ?_)
      · skip
        have k16 : 48 ≤ j9 := (nI_leI (a := 48) (b := j9) (by omega) (by omega)).mp c15
        refine lv_iload hx hb dX1_isOpenWith_71 (lv_at hl 1 rfl) ?_
        subst hQ
        refine W.widen (k := 0) (n := 0) (Nat.le_of_ble_eq_true rfl) (Nat.le_of_ble_eq_true rfl) ?_
        exact W.zret (v := x10) (ty := .boolean) hx hb hr (z01n hf14) (fun t ht hW => ⟨⟨x10, (), rfl, hf14, CX.give hb0 hM hK hG hE hS ht hW⟩, hS.F ht⟩) hS.2.2 dX1_isOpenWith_73
      · skip
        have k17 : ¬ (48 ≤ j9) := fun z => c15 ((nI_leI (a := 48) (b := j9) (by omega) (by omega)).mpr z)
        refine lv_aload_n hx hb dX1_isOpenWith_19 rfl (lv_at hl 2 rfl) ?_
        refine lv_iload hx hb dX1_isOpenWith_20 (lv_at hl 0 rfl) ?_
        obtain ⟨u18, u19, u20, u21, u22, u23, hP, hf⟩ := o_st (i := i) (q := o) hM (by omega)
        refine va_calli (va_runV (As := [.int (nI j9)]) (rest := []) ⟨hx, hb, hml, hown, hts⟩ (rk_has l dC dI kA eD b g o i (nI j9) (by omega)) (cwV 1 hts gX1_isOpenWith_X1_has rfl rfl rfl (by decide +kernel) ⟨Nat.le_of_ble_eq_true rfl, Nat.le_of_ble_eq_true rfl⟩) ⟨fb_CX, va_recv hK hP (ci := 5) (q0 := 0) rfl rfl, fun U hU hW => ⟨rfl, CX.give hb0 hM hK hG hE hS hU hW⟩⟩ rfl rfl hl.1 rfl (lv_room (Nat.le_of_ble_eq_true rfl)) dX1_isOpenWith_22 ⟨(Nat.le_of_ble_eq_true rfl), (Nat.le_of_ble_eq_true rfl)⟩) hS (fun q _ h => h.elim) (fun q h => h.elim) (fun r24 u t H locs ht hvm hw25 hB hz1 hk1 hS => ?_)
        have hM := hB.back ht
        have hG := hB.2.2.2.1
        have jn27 : ∀ (x26 : Int32) (H : Heap) (locs : List Loc) (ls : Array Slot), (x26 = 0 ∨ x26 = 1) → TM (dC, dI) kA b g H → va_S (fun q => b ≤ q) s.heap H locs → lv_has ls 6 [(5, .int (nI j9)), (4, .int x26), (0, .ref o), (1, .int mp), (2, .int mo), (3, .int wm)] → W p l e (headSpec wsX1_isOpenWith ({ frames := 3, cells := 0, slots := 0, locals := 69 })).room s m args below meth c H locs 0 0 Q (F0 m 65 ls []) := by
          intro x26 H locs ls hj28 hM hS hl
          refine lv_iinc (v := (nI (j9 + 1))) (lv' := [(5, .int (nI (j9 + 1))), (4, .int x26), (0, .ref o), (1, .int mp), (2, .int mo), (3, .int wm)]) hx hb dX1_isOpenWith_65 hl (k := 0) rfl (nI_add j9 1) (by decide) rfl (fun ls hl => ?_)
          refine lv_goto (tgt := 12) hx hb dX1_isOpenWith_68 (by decide) ?_
          exact ih13 ((j9 + 1)) x26 (by omega) (by omega) (by omega) H _ ls hj28  hM hS (lv_sub hl [0, 1, 2, 3, 4, 5] rfl)
        refine lv_if_eq (tgt := 65) hx hb dX1_isOpenWith_25 (by decide) (fun c29 => ?_) (fun c29 => ?_)
        · skip
          have hk30 : (pI g (pF g o 0)) j9 = 46 := (hw25.resolve_right (fun z => absurd (z.1.symm.trans c29) (by decide))).2 j9 rfl (by omega)
          exact jn27 x10 H _ ls hf14 hM hS (lv_sub hl [0, 1, 2, 3, 4, 5] rfl)
        · skip
          have hk31 : ¬ (pI g (pF g o 0)) j9 = 46 := by obtain ⟨-, jz9, ez9, hz9, hz8⟩ := hw25.resolve_left (fun z => c29 z.1); rw [(nI_eq (a := j9) (b := jz9) (by omega) (by omega)).mp ez9]; exact hz8
          refine lv_iconst (v := 1) hx hb dX1_isOpenWith_28 (by decide) ?_
          refine lv_istore (lv' := [(4, .int 1), (5, .int (nI j9)), (0, .ref o), (1, .int mp), (2, .int mo), (3, .int wm)]) hx hb dX1_isOpenWith_29 hl (by decide) rfl (fun ls hl => ?_)
          refine lv_aload_n hx hb dX1_isOpenWith_31 rfl (lv_at hl 2 rfl) ?_
          obtain ⟨u32, u33, u34, u35, u36, u37, hP, hf⟩ := o_st (i := i) (q := o) hM (by omega)
          refine va_get (D := (dC, dI)) (ci := 5) (v := .ref (pF g o 2)) (C := RX1) (T := TX1) (N := 15) hx hb hts (by decide +kernel) hown hK hP 0 rfl rfl 2 (by decide) (hts (.fieldLink RX1 19 "Snowpalace$Site" "creeps" "[I") (by decide +kernel)) (fun _ h9 => h9) rfl dX1_isOpenWith_32 ?_
          have ht38 : tg g (pF g o 2) = 14 := hf.2.2.1
          refine lv_iload hx hb dX1_isOpenWith_35 (lv_at hl 1 rfl) ?_
          obtain ⟨u39, hP, hf⟩ := o_in (i := 0) (q := (pF g o 2)) hM (by omega)
          refine va_iald (D := (dC, dI)) hx hb hK hP 0 0 rfl rfl (vp_in_nI (by omega) (by decide)) dX1_isOpenWith_37 ?_
          refine lv_topi (fun v40 e41 => ?_)
          have ec : ((nI j9) : Int32).toNatClampNeg = j9 := nI_clamp (by omega)
          rw [ec] at e41
          refine lv_sipush (v := 200) hx hb dX1_isOpenWith_38 (by decide) ?_
          have jn42 : ∀  (H : Heap) (locs : List Loc) (ls : Array Slot), TM (dC, dI) kA b g H → va_S (fun q => b ≤ q) s.heap H locs → lv_has ls 6 [(4, .int 1), (5, .int (nI j9)), (0, .ref o), (1, .int mp), (2, .int mo), (3, .int wm)] → W p l e (headSpec wsX1_isOpenWith ({ frames := 3, cells := 0, slots := 0, locals := 69 })).room s m args below meth c H locs 0 0 Q (F0 m 63 ls []) := by
            intro H locs ls hM hS hl
            refine lv_iconst (v := 0) hx hb dX1_isOpenWith_63 (by decide) ?_
            subst hQ
            refine W.widen (k := 0) (n := 0) (Nat.le_of_ble_eq_true rfl) (Nat.le_of_ble_eq_true rfl) ?_
            exact W.zret (v := 0) (ty := .boolean) hx hb hr rfl (fun t ht hW => ⟨⟨0, (), rfl, (Or.inl rfl), CX.give hb0 hM hK hG hE hS ht hW⟩, hS.F ht⟩) hS.2.2 dX1_isOpenWith_64
          refine lv_icmp_ge (tgt := 63) hx hb dX1_isOpenWith_41 (by decide) (fun c43 => ?_) (fun c43 => ?_)
          · skip
            have i44 := (Int32.le_iff_toInt_le).mp c43
            have ii44 : (200 : Int32).toInt = 200 := by decide
            have i44 := i44
            exact jn42 H _ ls hM hS (lv_sub hl [0, 1, 2, 3, 4, 5] rfl)
          · skip
            have i45 := fun z => c43 ((Int32.le_iff_toInt_le).mpr z)
            have ii45 : (200 : Int32).toInt = 200 := by decide
            have i45 : ¬ ((200 : Int32).toInt ≤ (v40 : Int32).toInt) := i45
            refine lv_aload_n hx hb dX1_isOpenWith_44 rfl (lv_at hl 2 rfl) ?_
            obtain ⟨u46, u47, u48, u49, u50, u51, hP, hf⟩ := o_st (i := i) (q := o) hM (by omega)
            refine va_get (D := (dC, dI)) (ci := 5) (v := .ref (pF g o 6)) (C := RX1) (T := TX1) (N := 15) hx hb hts (by decide +kernel) hown hK hP 0 rfl rfl 6 (by decide) (hts (.fieldLink RX1 32 "Snowpalace$Site" "loads" "[I") (by decide +kernel)) (fun _ h9 => h9) rfl dX1_isOpenWith_45 ?_
            have ht52 : tg g (pF g o 6) = 23 := hf.2.2.2.2.2.2.1
            refine lv_iload hx hb dX1_isOpenWith_48 (lv_at hl 1 rfl) ?_
            obtain ⟨u53, hP, hf⟩ := o_ld (i := 0) (q := (pF g o 6)) hM (by omega)
            refine va_iald (D := (dC, dI)) hx hb hK hP 0 0 rfl rfl (vp_in_nI (by omega) (by decide)) dX1_isOpenWith_50 ?_
            refine lv_topi (fun v54 e55 => ?_)
            have ec : ((nI j9) : Int32).toNatClampNeg = j9 := nI_clamp (by omega)
            rw [ec] at e55
            refine lv_iconst (v := 2) hx hb dX1_isOpenWith_51 (by decide) ?_
            refine lv_imul hx hb dX1_isOpenWith_52 ?_
            refine lv_topi (fun v56 e57 => ?_)
            refine lv_aload_n hx hb dX1_isOpenWith_53 rfl (lv_at hl 2 rfl) ?_
            refine lv_iload hx hb dX1_isOpenWith_54 (lv_at hl 1 rfl) ?_
            refine lv_iload_n hx hb dX1_isOpenWith_56 rfl (lv_at hl 5 rfl) ?_
            obtain ⟨u58, u59, u60, u61, u62, u63, hP, hf⟩ := o_st (i := i) (q := o) hM (by omega)
            refine va_calli (va_runV (As := [.int (nI j9), .int wm]) (rest := [.int v56]) ⟨hx, hb, hml, hown, hts⟩ (rk_strengthOf l dC dI kA eD b g o i (nI j9) wm (by omega)) (cwV 2 hts gX1_isOpenWith_X1_strengthOf rfl rfl rfl (by decide +kernel) ⟨Nat.le_of_ble_eq_true rfl, Nat.le_of_ble_eq_true rfl⟩) ⟨fb_CX, va_recv hK hP (ci := 5) (q0 := 0) rfl rfl, fun U hU hW => ⟨rfl, CX.give hb0 hM hK hG hE hS hU hW⟩⟩ rfl rfl hl.1 rfl (lv_room (Nat.le_of_ble_eq_true rfl)) dX1_isOpenWith_57 ⟨(Nat.le_of_ble_eq_true rfl), (Nat.le_of_ble_eq_true rfl)⟩) hS (fun q _ h => h) (fun q h => h) (fun r64 u t H locs ht hvm hw65 hB hz1 hk1 hS => ?_)
            have hM := hB.back ht
            have hG := hB.2.2.2.1
            refine lv_icmp_le (tgt := 65) hx hb dX1_isOpenWith_60 (by decide) (fun c66 => ?_) (fun c66 => ?_)
            · skip
              have i67 := (Int32.le_iff_toInt_le).mp c66
              have i67 := i67
              exact jn27 1 H _ ls (Or.inr rfl) hM hS (lv_sub hl [1, 0, 2, 3, 4, 5] rfl)
            · skip
              have i68 := fun z => c66 ((Int32.le_iff_toInt_le).mpr z)
              have i68 : ¬ ((v56 : Int32).toInt ≤ (r64 : Int32).toInt) := i68
              exact jn42 H _ ls hM hS (lv_sub hl [0, 1, 2, 3, 4, 5] rfl)
  exact lp11 (48 + 1) 0 0 (by omega) (by omega) (by omega) H _ ls (Or.inl rfl) hM hS (lv_sub hl [0, 1, 2, 3, 4, 5] rfl)
