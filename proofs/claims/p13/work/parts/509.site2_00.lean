set_option maxHeartbeats 4000000 in
set_option maxRecDepth 100000 in
theorem rk_weigh (l : Launch) (dC : Nat → ClassId) (dI : Nat → Nat → Nat) (kA : Nat → ClassId) (eD b : Nat) (g : Gh) (o : Nat) (i : Nat) (mp mo : Int32) (hto : tg g o = 12 + 64 * i)  : Met l yX1_weigh wsX1_weigh ({ frames := 2, cells := 0, slots := 0, locals := 43 }) (va_Pc [.ref o, .int mp, .int mo] (CX (dC, dI) kA eD b g)) (va_Qv (fun (u : Unit) => True) (fun (u : Unit) t => CX (dC, dI) kA eD b g t) (fun q => b ≤ q)) 0 0 (fun q => b ≤ q) := by
  refine Met.ofW (cc := cX1_weigh) (maxL := 7) (ret := none) (by decide +kernel) rfl ?_
  intro p e s m args below meth c s₁ B hml hv
  obtain ⟨rfl, hb0, hM, hK, hG, hE⟩ := hv
  have hx := B.exec
  have hb := B.bytes
  have hr := B.returns
  have hts := atoms_spec (ws := wsX1_weigh) B.pre
  have hown : s.vm.findClass RX1 = some m.cls := findClass_of_methodNamed B.named
  have hlocks := B.notSynchronized
  have hT := hE.1
  have hN := hE.2.2.2.2.2.2.2.1
  have hS : va_S (fun q => b ≤ q) s.heap s.heap [] := va_S.rf
  have hl := lv_entry ([.ref o, .int mp, .int mo]) (n := 7) (Nat.le_of_ble_eq_true rfl)
  rw [lg_entry_eq]
  generalize (lg_sl ([.ref o, .int mp, .int mo]) ++ List.replicate (7 - (lg_sl ([.ref o, .int mp, .int mo])).length) Slot.unset).toArray = ls at hl ⊢
  have hl : lv_has ls 7 [(0, .ref o), (1, .int mp), (2, .int mo)] := hl
  generalize ([.ref o, .int mp, .int mo] : List Value).toArray = args at hts ⊢
  refine W.q (fun Q hQ => ?_)
  refine lv_iconst (v := 5) hx hb dX1_weigh_0 (by decide) ?_
  refine lv_istore_n (lv' := [(3, .int 5), (0, .ref o), (1, .int mp), (2, .int mo)]) hx hb dX1_weigh_1 rfl hl (by decide) rfl (fun ls hl => ?_)
  have lp2 : ∀ (j1 : Nat) , j1 ≤ 6 → ∀ (H : Heap) (locs : List Loc) (ls : Array Slot), TM (dC, dI) kA b g H → va_S (fun q => b ≤ q) s.heap H locs → lv_has ls 7 [(3, .int (nI j1 - 1)), (0, .ref o), (1, .int mp), (2, .int mo)] → W p l e (headSpec wsX1_weigh ({ frames := 2, cells := 0, slots := 0, locals := 43 })).room s m args below meth c H locs 0 0 Q (F0 m 2 ls []) := by
    intro j1
    induction j1 with
    | zero =>
      intro hj1 H locs ls hM hS hl
      rw [show (nI 0 - 1 : Int32) = -1 by decide] at hl
      have hl : lv_has ls 7 [(3, .int (-1)), (0, .ref o), (1, .int mp), (2, .int mo)] := hl
      refine lv_iload_n hx hb dX1_weigh_2 rfl (lv_at hl 0 rfl) ?_
      refine lv_if_lt (tgt := 192) hx hb dX1_weigh_3 (by decide) (fun _ => ?_) (fun cx => by first | exact absurd (by decide) cx | exact absurd cx (by decide))
      subst hQ
      refine W.widen (k := 0) (n := 0) (Nat.le_of_ble_eq_true rfl) (Nat.le_of_ble_eq_true rfl) ?_
      exact W.vret hx hb hr (fun t ht hW => ⟨⟨(), rfl, trivial, CX.give hb0 hM hK hG hE hS ht hW⟩, hS.F ht⟩) hS.2.2 dX1_weigh_192
    | succ j1 ih4 =>
      intro hj1 H locs ls hM hS hl
      rw [nI_pred j1] at hl
      have hl : lv_has ls 7 [(3, .int (nI j1)), (0, .ref o), (1, .int mp), (2, .int mo)] := hl
      refine lv_iload_n hx hb dX1_weigh_2 rfl (lv_at hl 0 rfl) ?_
      refine lv_if_lt (tgt := 192) hx hb dX1_weigh_3 (by decide) (fun c5 => ?_) (fun c5 => ?_)
      · skip
        have k6 : j1 < 0 := (nI_ltI (a := j1) (b := 0) (by omega) (by omega)).mp c5
        subst hQ
        refine W.widen (k := 0) (n := 0) (Nat.le_of_ble_eq_true rfl) (Nat.le_of_ble_eq_true rfl) ?_
        exact W.vret hx hb hr (fun t ht hW => ⟨⟨(), rfl, trivial, CX.give hb0 hM hK hG hE hS ht hW⟩, hS.F ht⟩) hS.2.2 dX1_weigh_192
      · skip
        have k7 : ¬ (j1 < 0) := fun z => c5 ((nI_ltI (a := j1) (b := 0) (by omega) (by omega)).mpr z)
        refine lv_iconst (v := 0) hx hb dX1_weigh_6 (by decide) ?_
        refine lv_istore (lv' := [(4, .int 0), (3, .int (nI j1)), (0, .ref o), (1, .int mp), (2, .int mo)]) hx hb dX1_weigh_7 hl (by decide) rfl (fun ls hl => ?_)
        have lp9 : ∀ (n10 j8 : Nat) , 0 ≤ j8 → j8 ≤ 8 → 8 < j8 + n10 → ∀ (H : Heap) (locs : List Loc) (ls : Array Slot), TM (dC, dI) kA b g H → va_S (fun q => b ≤ q) s.heap H locs → lv_has ls 7 [(4, .int (nI j8)), (3, .int (nI j1)), (0, .ref o), (1, .int mp), (2, .int mo)] → W p l e (headSpec wsX1_weigh ({ frames := 2, cells := 0, slots := 0, locals := 43 })).room s m args below meth c H locs 0 0 Q (F0 m 9 ls []) := by
          intro n10
          induction n10 with
          | zero => intro j8 h0 h1 h2; omega
          | succ n10 ih11 =>
            intro j8 lj8 hj8 hn10 H locs ls hM hS hl
            refine lv_iload hx hb dX1_weigh_9 (lv_at hl 0 rfl) ?_
            refine lv_bipush (v := 8) hx hb dX1_weigh_11 (by decide) ?_
            refine lv_icmp_ge (tgt := 97) hx hb dX1_weigh_13 (by decide) (fun c12 => ?_) (fun c12 => ?_)
            · skip
              have k13 : 8 ≤ j8 := (nI_leI (a := 8) (b := j8) (by omega) (by omega)).mp c12
              refine lv_iconst (v := 1) hx hb dX1_weigh_97 (by decide) ?_
              refine lv_istore (lv' := [(4, .int 1), (3, .int (nI j1)), (0, .ref o), (1, .int mp), (2, .int mo)]) hx hb dX1_weigh_98 hl (by decide) rfl (fun ls hl => ?_)
              have lp15 : ∀ (n16 j14 : Nat) , 1 ≤ j14 → j14 ≤ 7 → 7 < j14 + n16 → ∀ (H : Heap) (locs : List Loc) (ls : Array Slot), TM (dC, dI) kA b g H → va_S (fun q => b ≤ q) s.heap H locs → lv_has ls 7 [(4, .int (nI j14)), (3, .int (nI j1)), (0, .ref o), (1, .int mp), (2, .int mo)] → W p l e (headSpec wsX1_weigh ({ frames := 2, cells := 0, slots := 0, locals := 43 })).room s m args below meth c H locs 0 0 Q (F0 m 100 ls []) := by
                intro n16
                induction n16 with
                | zero => intro j14 h0 h1 h2; omega
                | succ n16 ih17 =>
                  intro j14 lj14 hj14 hn16 H locs ls hM hS hl
                  refine lv_iload hx hb dX1_weigh_100 (lv_at hl 0 rfl) ?_
                  refine lv_bipush (v := 7) hx hb dX1_weigh_102 (by decide) ?_
                  refine lv_icmp_ge (tgt := 186) hx hb dX1_weigh_104 (by decide) (fun c18 => ?_) (fun c18 => ?_)
                  · skip
                    have k19 : 7 ≤ j14 := (nI_leI (a := 7) (b := j14) (by omega) (by omega)).mp c18
                    refine lv_iinc (v := ((nI j1) - 1)) (lv' := [(3, .int ((nI j1) - 1)), (4, .int (nI j14)), (0, .ref o), (1, .int mp), (2, .int mo)]) hx hb dX1_weigh_186 hl (k := 1) rfl (i_dec _) (by decide) rfl (fun ls hl => ?_)
                    refine lv_goto (tgt := 2) hx hb dX1_weigh_189 (by decide) ?_
                    exact ih4 (by omega) H _ ls hM hS (lv_sub hl [0, 2, 3, 4] rfl)
                  · skip
                    have k20 : ¬ (7 ≤ j14) := fun z => c18 ((nI_leI (a := 7) (b := j14) (by omega) (by omega)).mpr z)
                    refine lv_iload hx hb dX1_weigh_107 (lv_at hl 0 rfl) ?_
                    refine lv_iload_n hx hb dX1_weigh_109 rfl (lv_at hl 1 rfl) ?_
                    refine va_calli (va_runSN (As := [.int (nI j14), .int (nI j1)]) (rest := []) ⟨hx, hb, hml, hown, hts⟩ (rk_placeOf l (nI j14) (nI j1)) (⟨va_cnB 2 hts gX1_weigh_X3_placeOf_n96 rfl rfl rfl (hN (.methodLinkNest RX1 96 yX3_placeOf RX3) (by decide +kernel)) (hts (.initialized RX3) (by decide +kernel)) (by decide +kernel) ⟨Nat.le_of_ble_eq_true rfl, Nat.le_of_ble_eq_true rfl⟩, hts (.static yX3_placeOf) (by decide +kernel), trivial⟩) ⟨fun a U g mk q => q, fun U hU hW => ⟨rfl, trivial⟩⟩ rfl rfl hl.1 rfl (lv_room (Nat.le_of_ble_eq_true rfl)) dX1_weigh_110 ⟨(Nat.le_of_ble_eq_true rfl), (Nat.le_of_ble_eq_true rfl)⟩) hS (fun q _ h => h.elim) (fun q h => h.elim) (fun r21 u t H locs ht hvm hw22 hB hz1 hk1 hS => ?_)
                    have hM := hM.keep (fun p hp => hk1 p hp (fun z => z))
                    obtain rfl : r21 = nI (8 * j1 + j14) := hw22.trans (by rw [show (8 : Int32) = nI 8 from rfl]; exact (congrArg (· + nI j14) (pk_mul 8 j1)).trans (nI_add _ _))
                    refine lv_istore (lv' := [(5, .int (nI (8 * j1 + j14))), (4, .int (nI j14)), (3, .int (nI j1)), (0, .ref o), (1, .int mp), (2, .int mo)]) hx hb dX1_weigh_113 hl (by decide) rfl (fun ls hl => ?_)
                    refine lv_aload_n hx hb dX1_weigh_115 rfl (lv_at hl 3 rfl) ?_
                    refine lv_iload hx hb dX1_weigh_116 (lv_at hl 0 rfl) ?_
                    obtain ⟨u23, u24, u25, u26, u27, u28, hP, hf⟩ := o_st (i := i) (q := o) hM (by omega)
                    refine va_calli (va_runV (As := [.int (nI (8 * j1 + j14))]) (rest := []) ⟨hx, hb, hml, hown, hts⟩ (rk_has l dC dI kA eD b g o i (nI (8 * j1 + j14)) (by omega)) (cwV 1 hts gX1_weigh_X1_has rfl rfl rfl (by decide +kernel) ⟨Nat.le_of_ble_eq_true rfl, Nat.le_of_ble_eq_true rfl⟩) ⟨fb_CX, va_recv hK hP (ci := 5) (q0 := 0) rfl rfl, fun U hU hW => ⟨rfl, CX.give hb0 hM hK hG hE hS hU hW⟩⟩ rfl rfl hl.1 rfl (lv_room (Nat.le_of_ble_eq_true rfl)) dX1_weigh_118 ⟨(Nat.le_of_ble_eq_true rfl), (Nat.le_of_ble_eq_true rfl)⟩) hS (fun q _ h => h) (fun q h => h) (fun r29 u t H locs ht hvm hw30 hB hz1 hk1 hS => ?_)
                    have hM := hB.back ht
                    have hG := hB.2.2.2.1
                    have jn31 : ∀  (H : Heap) (locs : List Loc) (ls : Array Slot), TM (dC, dI) kA b g H → va_S (fun q => b ≤ q) s.heap H locs → lv_has ls 7 [(5, .int (nI (8 * j1 + j14))), (4, .int (nI j14)), (3, .int (nI j1)), (0, .ref o), (1, .int mp), (2, .int mo)] → W p l e (headSpec wsX1_weigh ({ frames := 2, cells := 0, slots := 0, locals := 43 })).room s m args below meth c H locs 0 0 Q (F0 m 180 ls []) := by
                      intro H locs ls hM hS hl
                      refine lv_iinc (v := (nI (j14 + 1))) (lv' := [(4, .int (nI (j14 + 1))), (5, .int (nI (8 * j1 + j14))), (3, .int (nI j1)), (0, .ref o), (1, .int mp), (2, .int mo)]) hx hb dX1_weigh_180 hl (k := 1) rfl (nI_add j14 1) (by decide) rfl (fun ls hl => ?_)
                      refine lv_goto (tgt := 100) hx hb dX1_weigh_183 (by decide) ?_
                      exact ih17 ((j14 + 1)) (by omega) (by omega) (by omega) H _ ls  hM hS (lv_sub hl [0, 2, 3, 4, 5] rfl)
                    refine lv_if_eq (tgt := 180) hx hb dX1_weigh_121 (by decide) (fun c32 => ?_) (fun c32 => ?_)
                    · skip
                      exact jn31 H _ ls hM hS (lv_sub hl [0, 1, 2, 3, 4, 5] rfl)
                    · skip
                      obtain ⟨-, hr1, hr2⟩ := hw30.resolve_left c32
                      refine lv_aload_n hx hb dX1_weigh_124 rfl (lv_at hl 3 rfl) ?_
                      refine lv_iload hx hb dX1_weigh_125 (lv_at hl 0 rfl) ?_
                      obtain ⟨u33, u34, u35, u36, u37, u38, hP, hf⟩ := o_st (i := i) (q := o) hM (by omega)
                      refine va_calli (va_runV (As := [.int (nI (8 * j1 + j14))]) (rest := []) ⟨hx, hb, hml, hown, hts⟩ (rk_spans l dC dI kA eD b g o i (8 * j1 + j14) (by omega) (by omega)) (cwV 1 hts gX1_weigh_X1_spans rfl rfl rfl (by decide +kernel) ⟨Nat.le_of_ble_eq_true rfl, Nat.le_of_ble_eq_true rfl⟩) ⟨fb_CX, va_recv hK hP (ci := 5) (q0 := 0) rfl rfl, fun U hU hW => ⟨rfl, CX.give hb0 hM hK hG hE hS hU hW⟩⟩ rfl rfl hl.1 rfl (lv_room (Nat.le_of_ble_eq_true rfl)) dX1_weigh_127 ⟨(Nat.le_of_ble_eq_true rfl), (Nat.le_of_ble_eq_true rfl)⟩) hS (fun q _ h => h) (fun q h => h) (fun r39 u t H locs ht hvm hw40 hB hz1 hk1 hS => ?_)
                      have hM := hB.back ht
                      have hG := hB.2.2.2.1
                      refine lv_if_eq (tgt := 180) hx hb dX1_weigh_130 (by decide) (fun c41 => ?_) (fun c41 => ?_)
                      · skip
                        exact jn31 H _ ls hM hS (lv_sub hl [0, 1, 2, 3, 4, 5] rfl)
                      · skip
                        refine lv_aload_n hx hb dX1_weigh_133 rfl (lv_at hl 3 rfl) ?_
                        obtain ⟨u42, u43, u44, u45, u46, u47, hP, hf⟩ := o_st (i := i) (q := o) hM (by omega)
                        refine va_get (D := (dC, dI)) (ci := 5) (v := .ref (pF g o 6)) (C := RX1) (T := TX1) (N := 15) hx hb hts (by decide +kernel) hown hK hP 0 rfl rfl 6 (by decide) (hts (.fieldLink RX1 32 "Snowpalace$Site" "loads" "[I") (by decide +kernel)) (fun _ h9 => h9) rfl dX1_weigh_134 ?_
                        have ht48 : tg g (pF g o 6) = 14 := hf.2.2.2.2.2.2.1
                        refine lv_iload hx hb dX1_weigh_137 (lv_at hl 0 rfl) ?_
                        obtain ⟨u49, hP, hf⟩ := o_in (i := 0) (q := (pF g o 6)) hM (by omega)
                        refine va_iald (D := (dC, dI)) hx hb hK hP 0 0 rfl rfl (vp_in_nI (by omega) (by decide)) dX1_weigh_139 ?_
                        refine lv_topi (fun v50 e51 => ?_)
                        have ec : ((nI (8 * j1 + j14)) : Int32).toNatClampNeg = (8 * j1 + j14) := nI_clamp (by omega)
                        rw [ec] at e51
                        refine lv_iconst (v := 2) hx hb dX1_weigh_140 (by decide) ?_
                        refine lv_idiv hx hb dX1_weigh_141 (by decide) ?_
                        refine lv_topi (fun v52 e53 => ?_)
                        refine lv_istore (lv' := [(6, .int v52), (5, .int (nI (8 * j1 + j14))), (4, .int (nI j14)), (3, .int (nI j1)), (0, .ref o), (1, .int mp), (2, .int mo)]) hx hb dX1_weigh_142 hl (by decide) rfl (fun ls hl => ?_)
                        refine lv_aload_n hx hb dX1_weigh_144 rfl (lv_at hl 4 rfl) ?_
                        obtain ⟨u54, u55, u56, u57, u58, u59, hP, hf⟩ := o_st (i := i) (q := o) hM (by omega)
                        refine va_get (D := (dC, dI)) (ci := 5) (v := .ref (pF g o 6)) (C := RX1) (T := TX1) (N := 15) hx hb hts (by decide +kernel) hown hK hP 0 rfl rfl 6 (by decide) (hts (.fieldLink RX1 32 "Snowpalace$Site" "loads" "[I") (by decide +kernel)) (fun _ h9 => h9) rfl dX1_weigh_145 ?_
                        refine lv_iload hx hb dX1_weigh_148 (lv_at hl 1 rfl) ?_
                        refine lv_iconst (v := 1) hx hb dX1_weigh_150 (by decide) ?_
                        refine lv_isub hx hb dX1_weigh_151 ?_
                        refine lv_topi (fun v60 e61 => ?_)
                        obtain rfl : v60 = nI ((8 * j1 + j14) - 1) := e61.trans (pk_sub (a := (8 * j1 + j14)) (b := 1) (by omega))
                        refine lv_dup2_11 hx hb dX1_weigh_152 rfl rfl ?_
                        obtain ⟨u62, hP, hf⟩ := o_in (i := 0) (q := (pF g o 6)) hM (by omega)
                        refine va_iald (D := (dC, dI)) hx hb hK hP 0 0 rfl rfl (vp_in_nI (by omega) (by decide)) dX1_weigh_153 ?_
                        refine lv_topi (fun v63 e64 => ?_)
                        have ec : ((nI ((8 * j1 + j14) - 1)) : Int32).toNatClampNeg = ((8 * j1 + j14) - 1) := nI_clamp (by omega)
                        rw [ec] at e64
                        refine lv_iload hx hb dX1_weigh_154 (lv_at hl 0 rfl) ?_
                        refine lv_iadd hx hb dX1_weigh_156 ?_
                        refine lv_topi (fun v65 e66 => ?_)
                        obtain ⟨u67, hP, hf⟩ := o_in (i := 0) (q := (pF g o 6)) hM (by omega)
                        refine rt_iast (D := (dC, dI)) (t0 := 0) hx hb hK hP (hM.ge (by omega)) hS rfl (vp_in_nI (by omega) (by decide)) dX1_weigh_157 (fun H locs hP hz ho hS => ?_)
                        have ec : ((nI ((8 * j1 + j14) - 1)) : Int32).toNatClampNeg = ((8 * j1 + j14) - 1) := nI_clamp (by omega)
                        rw [ec] at hP
                        have hM := s_in (i := 0) hM (by omega) hP ho hf
                        refine lv_aload_n hx hb dX1_weigh_158 rfl (lv_at hl 4 rfl) ?_
                        obtain ⟨u68, u69, u70, u71, u72, u73, hP, hf⟩ := o_st (i := i) (q := o) hM (by omega)
                        refine va_get (D := (dC, dI)) (ci := 5) (v := .ref (pF g o 6)) (C := RX1) (T := TX1) (N := 15) hx hb hts (by decide +kernel) hown hK hP 0 rfl rfl 6 (by decide) (hts (.fieldLink RX1 32 "Snowpalace$Site" "loads" "[I") (by decide +kernel)) (fun _ h9 => h9) rfl dX1_weigh_159 ?_
                        refine lv_iload hx hb dX1_weigh_162 (lv_at hl 1 rfl) ?_
                        refine lv_iconst (v := 1) hx hb dX1_weigh_164 (by decide) ?_
                        refine lv_iadd hx hb dX1_weigh_165 ?_
                        refine lv_topi (fun v74 e75 => ?_)
                        obtain rfl : v74 = nI ((8 * j1 + j14) + 1) := e75.trans (nI_add (8 * j1 + j14) 1)
                        refine lv_dup2_11 hx hb dX1_weigh_166 rfl rfl ?_
                        obtain ⟨u76, hP, hf⟩ := o_in (i := 0) (q := (pF g o 6)) hM (by omega)
                        refine va_iald (D := (dC, dI)) hx hb hK hP 0 0 rfl rfl (vp_in_nI (by omega) (by decide)) dX1_weigh_167 ?_
                        refine lv_topi (fun v77 e78 => ?_)
                        have ec : ((nI ((8 * j1 + j14) + 1)) : Int32).toNatClampNeg = ((8 * j1 + j14) + 1) := nI_clamp (by omega)
                        rw [ec] at e78
                        refine lv_aload_n hx hb dX1_weigh_168 rfl (lv_at hl 4 rfl) ?_
                        obtain ⟨u79, u80, u81, u82, u83, u84, hP, hf⟩ := o_st (i := i) (q := o) hM (by omega)
                        refine va_get (D := (dC, dI)) (ci := 5) (v := .ref (pF g o 6)) (C := RX1) (T := TX1) (N := 15) hx hb hts (by decide +kernel) hown hK hP 0 rfl rfl 6 (by decide) (hts (.fieldLink RX1 32 "Snowpalace$Site" "loads" "[I") (by decide +kernel)) (fun _ h9 => h9) rfl dX1_weigh_169 ?_
                        refine lv_iload hx hb dX1_weigh_172 (lv_at hl 1 rfl) ?_
                        obtain ⟨u85, hP, hf⟩ := o_in (i := 0) (q := (pF g o 6)) hM (by omega)
                        refine va_iald (D := (dC, dI)) hx hb hK hP 0 0 rfl rfl (vp_in_nI (by omega) (by decide)) dX1_weigh_174 ?_
                        refine lv_topi (fun v86 e87 => ?_)
                        have ec : ((nI (8 * j1 + j14)) : Int32).toNatClampNeg = (8 * j1 + j14) := nI_clamp (by omega)
                        rw [ec] at e87
                        refine lv_iload hx hb dX1_weigh_175 (lv_at hl 0 rfl) ?_
                        refine lv_isub hx hb dX1_weigh_177 ?_
                        refine lv_topi (fun v88 e89 => ?_)
                        refine lv_iadd hx hb dX1_weigh_178 ?_
                        refine lv_topi (fun v90 e91 => ?_)
                        obtain ⟨u92, hP, hf⟩ := o_in (i := 0) (q := (pF g o 6)) hM (by omega)
                        refine rt_iast (D := (dC, dI)) (t0 := 0) hx hb hK hP (hM.ge (by omega)) hS rfl (vp_in_nI (by omega) (by decide)) dX1_weigh_179 (fun H locs hP hz ho hS => ?_)
                        have ec : ((nI ((8 * j1 + j14) + 1)) : Int32).toNatClampNeg = ((8 * j1 + j14) + 1) := nI_clamp (by omega)
                        rw [ec] at hP
                        have hM := s_in (i := 0) hM (by omega) hP ho hf
                        exact jn31 H _ ls hM hS (lv_sub hl [1, 2, 3, 4, 5, 6] rfl)
              exact lp15 (7 + 1) 1 (by omega) (by omega) (by omega) H _ ls  hM hS (lv_sub hl [0, 1, 2, 3, 4] rfl)
            · skip
              have k93 : ¬ (8 ≤ j8) := fun z => c12 ((nI_leI (a := 8) (b := j8) (by omega) (by omega)).mpr z)
              refine lv_iload hx hb dX1_weigh_16 (lv_at hl 0 rfl) ?_
              refine lv_iload_n hx hb dX1_weigh_18 rfl (lv_at hl 1 rfl) ?_
              refine va_calli (va_runSN (As := [.int (nI j8), .int (nI j1)]) (rest := []) ⟨hx, hb, hml, hown, hts⟩ (rk_placeOf l (nI j8) (nI j1)) (⟨va_cnB 2 hts gX1_weigh_X3_placeOf_n96 rfl rfl rfl (hN (.methodLinkNest RX1 96 yX3_placeOf RX3) (by decide +kernel)) (hts (.initialized RX3) (by decide +kernel)) (by decide +kernel) ⟨Nat.le_of_ble_eq_true rfl, Nat.le_of_ble_eq_true rfl⟩, hts (.static yX3_placeOf) (by decide +kernel), trivial⟩) ⟨fun a U g mk q => q, fun U hU hW => ⟨rfl, trivial⟩⟩ rfl rfl hl.1 rfl (lv_room (Nat.le_of_ble_eq_true rfl)) dX1_weigh_19 ⟨(Nat.le_of_ble_eq_true rfl), (Nat.le_of_ble_eq_true rfl)⟩) hS (fun q _ h => h.elim) (fun q h => h.elim) (fun r94 u t H locs ht hvm hw95 hB hz1 hk1 hS => ?_)
              have hM := hM.keep (fun p hp => hk1 p hp (fun z => z))
              obtain rfl : r94 = nI (8 * j1 + j8) := hw95.trans (by rw [show (8 : Int32) = nI 8 from rfl]; exact (congrArg (· + nI j8) (pk_mul 8 j1)).trans (nI_add _ _))
              refine lv_istore (lv' := [(5, .int (nI (8 * j1 + j8))), (4, .int (nI j8)), (3, .int (nI j1)), (0, .ref o), (1, .int mp), (2, .int mo)]) hx hb dX1_weigh_22 hl (by decide) rfl (fun ls hl => ?_)
              refine lv_aload_n hx hb dX1_weigh_24 rfl (lv_at hl 3 rfl) ?_
              obtain ⟨u96, u97, u98, u99, u100, u101, hP, hf⟩ := o_st (i := i) (q := o) hM (by omega)
              refine va_get (D := (dC, dI)) (ci := 5) (v := .ref (pF g o 6)) (C := RX1) (T := TX1) (N := 15) hx hb hts (by decide +kernel) hown hK hP 0 rfl rfl 6 (by decide) (hts (.fieldLink RX1 32 "Snowpalace$Site" "loads" "[I") (by decide +kernel)) (fun _ h9 => h9) rfl dX1_weigh_25 ?_
              have ht102 : tg g (pF g o 6) = 14 := hf.2.2.2.2.2.2.1
              refine lv_iload hx hb dX1_weigh_28 (lv_at hl 0 rfl) ?_
              refine lv_iconst (v := 0) hx hb dX1_weigh_30 (by decide) ?_
              obtain ⟨u103, hP, hf⟩ := o_in (i := 0) (q := (pF g o 6)) hM (by omega)
              refine rt_iast (D := (dC, dI)) (t0 := 0) hx hb hK hP (hM.ge (by omega)) hS rfl (vp_in_nI (by omega) (by decide)) dX1_weigh_31 (fun H locs hP hz ho hS => ?_)
              have ec : ((nI (8 * j1 + j8)) : Int32).toNatClampNeg = (8 * j1 + j8) := nI_clamp (by omega)
              rw [ec] at hP
              have hM := s_in (i := 0) hM (by omega) hP ho hf
              refine lv_aload_n hx hb dX1_weigh_32 rfl (lv_at hl 3 rfl) ?_
              refine lv_iload hx hb dX1_weigh_33 (lv_at hl 0 rfl) ?_
              obtain ⟨u104, u105, u106, u107, u108, u109, hP, hf⟩ := o_st (i := i) (q := o) hM (by omega)
              refine va_calli (va_runV (As := [.int (nI (8 * j1 + j8))]) (rest := []) ⟨hx, hb, hml, hown, hts⟩ (rk_has l dC dI kA eD b g o i (nI (8 * j1 + j8)) (by omega)) (cwV 1 hts gX1_weigh_X1_has rfl rfl rfl (by decide +kernel) ⟨Nat.le_of_ble_eq_true rfl, Nat.le_of_ble_eq_true rfl⟩) ⟨fb_CX, va_recv hK hP (ci := 5) (q0 := 0) rfl rfl, fun U hU hW => ⟨rfl, CX.give hb0 hM hK hG hE hS hU hW⟩⟩ rfl rfl hl.1 rfl (lv_room (Nat.le_of_ble_eq_true rfl)) dX1_weigh_35 ⟨(Nat.le_of_ble_eq_true rfl), (Nat.le_of_ble_eq_true rfl)⟩) hS (fun q _ h => h) (fun q h => h) (fun r110 u t H locs ht hvm hw111 hB hz1 hk1 hS => ?_)
              have hM := hB.back ht
              have hG := hB.2.2.2.1
              have jn112 : ∀  (H : Heap) (locs : List Loc) (ls : Array Slot), TM (dC, dI) kA b g H → va_S (fun q => b ≤ q) s.heap H locs → lv_has ls 7 [(5, .int (nI (8 * j1 + j8))), (4, .int (nI j8)), (3, .int (nI j1)), (0, .ref o), (1, .int mp), (2, .int mo)] → W p l e (headSpec wsX1_weigh ({ frames := 2, cells := 0, slots := 0, locals := 43 })).room s m args below meth c H locs 0 0 Q (F0 m 91 ls []) := by
                intro H locs ls hM hS hl
                refine lv_iinc (v := (nI (j8 + 1))) (lv' := [(4, .int (nI (j8 + 1))), (5, .int (nI (8 * j1 + j8))), (3, .int (nI j1)), (0, .ref o), (1, .int mp), (2, .int mo)]) hx hb dX1_weigh_91 hl (k := 1) rfl (nI_add j8 1) (by decide) rfl (fun ls hl => ?_)
                refine lv_goto (tgt := 9) hx hb dX1_weigh_94 (by decide) ?_
                exact ih11 ((j8 + 1)) (by omega) (by omega) (by omega) H _ ls  hM hS (lv_sub hl [0, 2, 3, 4, 5] rfl)
              refine lv_if_eq (tgt := 91) hx hb dX1_weigh_38 (by decide) (fun c113 => ?_) (fun c113 => ?_)
              · skip
                exact jn112 H _ ls hM hS (lv_sub hl [0, 1, 2, 3, 4, 5] rfl)
              · skip
                obtain ⟨-, hr1, hr2⟩ := hw111.resolve_left c113
                refine lv_iload_n hx hb dX1_weigh_41 rfl (lv_at hl 2 rfl) ?_
                refine lv_iconst (v := 5) hx hb dX1_weigh_42 (by decide) ?_
                have jn115 : ∀ (x114 : Int32) (H : Heap) (locs : List Loc) (ls : Array Slot), TM (dC, dI) kA b g H → va_S (fun q => b ≤ q) s.heap H locs → lv_has ls 7 [(5, .int (nI (8 * j1 + j8))), (4, .int (nI j8)), (3, .int (nI j1)), (0, .ref o), (1, .int mp), (2, .int mo)] → W p l e (headSpec wsX1_weigh ({ frames := 2, cells := 0, slots := 0, locals := 43 })).room s m args below meth c H locs 0 0 Q (F0 m 60 ls [.int x114]) := by
                  intro x114 H locs ls hM hS hl
                  refine lv_istore (lv' := [(6, .int x114), (5, .int (nI (8 * j1 + j8))), (4, .int (nI j8)), (3, .int (nI j1)), (0, .ref o), (1, .int mp), (2, .int mo)]) hx hb dX1_weigh_60 hl (by decide) rfl (fun ls hl => ?_)
                  refine lv_aload_n hx hb dX1_weigh_62 rfl (lv_at hl 4 rfl) ?_
                  obtain ⟨u116, u117, u118, u119, u120, u121, hP, hf⟩ := o_st (i := i) (q := o) hM (by omega)
                  refine va_get (D := (dC, dI)) (ci := 5) (v := .ref (pF g o 6)) (C := RX1) (T := TX1) (N := 15) hx hb hts (by decide +kernel) hown hK hP 0 rfl rfl 6 (by decide) (hts (.fieldLink RX1 32 "Snowpalace$Site" "loads" "[I") (by decide +kernel)) (fun _ h9 => h9) rfl dX1_weigh_63 ?_
                  refine lv_iload hx hb dX1_weigh_66 (lv_at hl 1 rfl) ?_
                  refine lv_aload_n hx hb dX1_weigh_68 rfl (lv_at hl 4 rfl) ?_
                  obtain ⟨u122, u123, u124, u125, u126, u127, hP, hf⟩ := o_st (i := i) (q := o) hM (by omega)
                  refine va_get (D := (dC, dI)) (ci := 5) (v := .ref (pF g o 1)) (C := RX1) (T := TX1) (N := 15) hx hb hts (by decide +kernel) hown hK hP 0 rfl rfl 1 (by decide) (hts (.fieldLink RX1 15 "Snowpalace$Site" "masses" "[I") (by decide +kernel)) (fun _ h9 => h9) rfl dX1_weigh_69 ?_
                  have ht128 : tg g (pF g o 1) = 14 := hf.2.1
                  refine lv_iload hx hb dX1_weigh_72 (lv_at hl 1 rfl) ?_
                  obtain ⟨u129, hP, hf⟩ := o_in (i := 0) (q := (pF g o 1)) hM (by omega)
                  refine va_iald (D := (dC, dI)) hx hb hK hP 0 0 rfl rfl (vp_in_nI (by omega) (by decide)) dX1_weigh_74 ?_
                  refine lv_topi (fun v130 e131 => ?_)
                  have ec : ((nI (8 * j1 + j8)) : Int32).toNatClampNeg = (8 * j1 + j8) := nI_clamp (by omega)
                  rw [ec] at e131
                  refine lv_iload hx hb dX1_weigh_75 (lv_at hl 0 rfl) ?_
                  refine lv_iadd hx hb dX1_weigh_77 ?_
                  refine lv_topi (fun v132 e133 => ?_)
                  refine lv_iload hx hb dX1_weigh_78 (lv_at hl 1 rfl) ?_
                  refine lv_iload_n hx hb dX1_weigh_80 rfl (lv_at hl 5 rfl) ?_
                  have jn135 : ∀ (x134 : Int32) (H : Heap) (locs : List Loc) (ls : Array Slot), TM (dC, dI) kA b g H → va_S (fun q => b ≤ q) s.heap H locs → lv_has ls 7 [(6, .int x114), (5, .int (nI (8 * j1 + j8))), (4, .int (nI j8)), (3, .int (nI j1)), (0, .ref o), (1, .int mp), (2, .int mo)] → W p l e (headSpec wsX1_weigh ({ frames := 2, cells := 0, slots := 0, locals := 43 })).room s m args below meth c H locs 0 0 Q (F0 m 89 ls [.int x134, .int v132, .int (nI (8 * j1 + j8)), .ref (pF g o 6)]) := by
                    intro x134 H locs ls hM hS hl
                    refine lv_iadd hx hb dX1_weigh_89 ?_
                    refine lv_topi (fun v136 e137 => ?_)
                    obtain ⟨u138, hP, hf⟩ := o_in (i := 0) (q := (pF g o 6)) hM (by omega)
                    refine rt_iast (D := (dC, dI)) (t0 := 0) hx hb hK hP (hM.ge (by omega)) hS rfl (vp_in_nI (by omega) (by decide)) dX1_weigh_90 (fun H locs hP hz ho hS => ?_)
                    have ec : ((nI (8 * j1 + j8)) : Int32).toNatClampNeg = (8 * j1 + j8) := nI_clamp (by omega)
                    rw [ec] at hP
                    have hM := s_in (i := 0) hM (by omega) hP ho hf
                    exact jn112 H _ ls hM hS (lv_sub hl [1, 2, 3, 4, 5, 6] rfl)
                  refine lv_icmp_ne (tgt := 88) hx hb dX1_weigh_81 (by decide) (fun c139 => ?_) (fun c139 => ?_)
                  · skip
                    refine lv_iconst (v := 0) hx hb dX1_weigh_88 (by decide) ?_
                    exact jn135 0 H _ ls hM hS (lv_sub hl [0, 1, 2, 3, 4, 5, 6] rfl)
                  · skip
                    refine lv_iload_n hx hb dX1_weigh_84 rfl (lv_at hl 6 rfl) ?_
                    refine lv_goto (tgt := 89) hx hb dX1_weigh_85 (by decide) ?_
                    exact jn135 mo H _ ls hM hS (lv_sub hl [0, 1, 2, 3, 4, 5, 6] rfl)
                refine lv_icmp_ge (tgt := 59) hx hb dX1_weigh_43 (by decide) (fun c140 => ?_) (fun c140 => ?_)
                · skip
                  have k141 : 5 ≤ j1 := (nI_leI (a := 5) (b := j1) (by omega) (by omega)).mp c140
                  refine lv_iconst (v := 0) hx hb dX1_weigh_59 (by decide) ?_
                  exact jn115 0 H _ ls hM hS (lv_sub hl [0, 1, 2, 3, 4, 5] rfl)
                · skip
                  have k142 : ¬ (5 ≤ j1) := fun z => c140 ((nI_leI (a := 5) (b := j1) (by omega) (by omega)).mpr z)
                  refine lv_aload_n hx hb dX1_weigh_46 rfl (lv_at hl 3 rfl) ?_
                  obtain ⟨u143, u144, u145, u146, u147, u148, hP, hf⟩ := o_st (i := i) (q := o) hM (by omega)
                  refine va_get (D := (dC, dI)) (ci := 5) (v := .ref (pF g o 6)) (C := RX1) (T := TX1) (N := 15) hx hb hts (by decide +kernel) hown hK hP 0 rfl rfl 6 (by decide) (hts (.fieldLink RX1 32 "Snowpalace$Site" "loads" "[I") (by decide +kernel)) (fun _ h9 => h9) rfl dX1_weigh_47 ?_
                  refine lv_iload hx hb dX1_weigh_50 (lv_at hl 0 rfl) ?_
                  refine lv_bipush (v := 8) hx hb dX1_weigh_52 (by decide) ?_
                  refine lv_iadd hx hb dX1_weigh_54 ?_
                  refine lv_topi (fun v149 e150 => ?_)
                  obtain rfl : v149 = nI ((8 * j1 + j8) + 8) := e150.trans (nI_add (8 * j1 + j8) 8)
                  obtain ⟨u151, hP, hf⟩ := o_in (i := 0) (q := (pF g o 6)) hM (by omega)
                  refine va_iald (D := (dC, dI)) hx hb hK hP 0 0 rfl rfl (vp_in_nI (by omega) (by decide)) dX1_weigh_55 ?_
                  refine lv_topi (fun v152 e153 => ?_)
                  have ec : ((nI ((8 * j1 + j8) + 8)) : Int32).toNatClampNeg = ((8 * j1 + j8) + 8) := nI_clamp (by omega)
                  rw [ec] at e153
                  refine lv_goto (tgt := 60) hx hb dX1_weigh_56 (by decide) ?_
                  exact jn115 v152 H _ ls hM hS (lv_sub hl [0, 1, 2, 3, 4, 5] rfl)
        exact lp9 (8 + 1) 0 (by omega) (by omega) (by omega) H _ ls  hM hS (lv_sub hl [0, 1, 2, 3, 4] rfl)
  exact lp2 6 (by omega) s.heap _ ls hM hS (by have hl9 := lv_sub hl [0, 1, 2, 3] rfl; exact hl9)

set_option maxHeartbeats 4000000 in
set_option maxRecDepth 100000 in
theorem rk_markFalling (l : Launch) (dC : Nat → ClassId) (dI : Nat → Nat → Nat) (kA : Nat → ClassId) (eD b : Nat) (g : Gh) (o : Nat) (i : Nat) (wm : Int32) (hto : tg g o = 12 + 64 * i)  : Met l yX1_markFalling wsX1_markFalling ({ frames := 3, cells := 0, slots := 0, locals := 69 }) (va_Pc [.ref o, .int wm] (CX (dC, dI) kA eD b g)) (va_Qi (fun (r : Int32) (u : Unit) => r = 0 ∨ r = 1) (fun (u : Unit) t => CX (dC, dI) kA eD b g t) (fun q => b ≤ q)) 0 0 (fun q => b ≤ q) := by
  refine Met.ofW (cc := cX1_markFalling) (maxL := 4) (ret := (some .boolean)) (by decide +kernel) rfl ?_
  intro p e s m args below meth c s₁ B hml hv
  obtain ⟨rfl, hb0, hM, hK, hG, hE⟩ := hv
  have hx := B.exec
  have hb := B.bytes
  have hr := B.returns
  have hts := atoms_spec (ws := wsX1_markFalling) B.pre
  have hown : s.vm.findClass RX1 = some m.cls := findClass_of_methodNamed B.named
  have hlocks := B.notSynchronized
  have hT := hE.1
  have hN := hE.2.2.2.2.2.2.2.1
  have hS : va_S (fun q => b ≤ q) s.heap s.heap [] := va_S.rf
  have hl := lv_entry ([.ref o, .int wm]) (n := 4) (Nat.le_of_ble_eq_true rfl)
  rw [lg_entry_eq]
  generalize (lg_sl ([.ref o, .int wm]) ++ List.replicate (4 - (lg_sl ([.ref o, .int wm])).length) Slot.unset).toArray = ls at hl ⊢
  have hl : lv_has ls 4 [(0, .ref o), (1, .int wm)] := hl
  generalize ([.ref o, .int wm] : List Value).toArray = args at hts ⊢
  refine W.q (fun Q hQ => ?_)
  refine lv_aload_n hx hb dX1_markFalling_0 rfl (lv_at hl 0 rfl) ?_
  refine lv_iconst (v := (-1)) hx hb dX1_markFalling_1 (by decide) ?_
  refine lv_iconst (v := 0) hx hb dX1_markFalling_2 (by decide) ?_
  obtain ⟨u1, u2, u3, u4, u5, u6, hP, hf⟩ := o_st (i := i) (q := o) hM (by omega)
  refine va_callv (va_runV (As := [.int (-1), .int 0]) (rest := []) ⟨hx, hb, hml, hown, hts⟩ (rk_weigh l dC dI kA eD b g o i (-1) 0 (by omega)) (cwV 2 hts gX1_markFalling_X1_weigh rfl rfl rfl (by decide +kernel) ⟨Nat.le_of_ble_eq_true rfl, Nat.le_of_ble_eq_true rfl⟩) ⟨fb_CX, va_recv hK hP (ci := 5) (q0 := 0) rfl rfl, fun U hU hW => ⟨rfl, CX.give hb0 hM hK hG hE hS hU hW⟩⟩ rfl rfl hl.1 rfl (lv_room (Nat.le_of_ble_eq_true rfl)) dX1_markFalling_3 ⟨(Nat.le_of_ble_eq_true rfl), (Nat.le_of_ble_eq_true rfl)⟩) hS (fun q _ h => h) (fun q h => h) (fun u t H locs ht hvm hw8 hB hz1 hk1 hS => ?_)
  have hM := hB.back ht
  have hG := hB.2.2.2.1
  refine lv_iconst (v := 0) hx hb dX1_markFalling_6 (by decide) ?_
  refine lv_istore_n (lv' := [(2, .int 0), (0, .ref o), (1, .int wm)]) hx hb dX1_markFalling_7 rfl hl (by decide) rfl (fun ls hl => ?_)
  refine lv_iconst (v := 0) hx hb dX1_markFalling_8 (by decide) ?_
  refine lv_istore_n (lv' := [(3, .int 0), (2, .int 0), (0, .ref o), (1, .int wm)]) hx hb dX1_markFalling_9 rfl hl (by decide) rfl (fun ls hl => ?_)
  have lp11 : ∀ (n12 j9 : Nat) (x10 : Int32), 0 ≤ j9 → j9 ≤ 48 → 48 < j9 + n12 → ∀ (H : Heap) (locs : List Loc) (ls : Array Slot), (x10 = 0 ∨ x10 = 1) → TM (dC, dI) kA b g H → va_S (fun q => b ≤ q) s.heap H locs → lv_has ls 4 [(3, .int (nI j9)), (2, .int x10), (0, .ref o), (1, .int wm)] → W p l e (headSpec wsX1_markFalling ({ frames := 3, cells := 0, slots := 0, locals := 69 })).room s m args below meth c H locs 0 0 Q (F0 m 10 ls []) := by
    intro n12
    induction n12 with
    | zero => intro j9 x10 h0 h1 h2; omega
    | succ n12 ih13 =>
      intro j9 x10 lj9 hj9 hn12 H locs ls hf14 hM hS hl
      refine lv_iload_n hx hb dX1_markFalling_10 rfl (lv_at hl 0 rfl) ?_
      refine lv_bipush (v := 48) hx hb dX1_markFalling_11 (by decide) ?_
      refine lv_icmp_ge (tgt := 83) hx hb dX1_markFalling_13 (by decide) (fun c15 => ?_) (fun c15 => ?_)
      · skip
        have k16 : 48 ≤ j9 := (nI_leI (a := 48) (b := j9) (by omega) (by omega)).mp c15
        refine lv_iload_n hx hb dX1_markFalling_83 rfl (lv_at hl 1 rfl) ?_
        subst hQ
        refine W.widen (k := 0) (n := 0) (Nat.le_of_ble_eq_true rfl) (Nat.le_of_ble_eq_true rfl) ?_
        exact W.zret (v := x10) (ty := .boolean) hx hb hr (z01n hf14) (fun t ht hW => ⟨⟨x10, (), rfl, hf14, CX.give hb0 hM hK hG hE hS ht hW⟩, hS.F ht⟩) hS.2.2 dX1_markFalling_84
      · skip
        have k17 : ¬ (48 ≤ j9) := fun z => c15 ((nI_leI (a := 48) (b := j9) (by omega) (by omega)).mpr z)
        refine lv_aload_n hx hb dX1_markFalling_16 rfl (lv_at hl 2 rfl) ?_
        obtain ⟨u18, u19, u20, u21, u22, u23, hP, hf⟩ := o_st (i := i) (q := o) hM (by omega)
        refine va_get (D := (dC, dI)) (ci := 5) (v := .ref (pF g o 7)) (C := RX1) (T := TX1) (N := 15) hx hb hts (by decide +kernel) hown hK hP 0 rfl rfl 7 (by decide) (hts (.fieldLink RX1 35 "Snowpalace$Site" "falling" "[Z") (by decide +kernel)) (fun _ h9 => h9) rfl dX1_markFalling_17 ?_
        have ht24 : tg g (pF g o 7) = 15 := hf.2.2.2.2.2.2.2.1
        refine lv_iload_n hx hb dX1_markFalling_20 rfl (lv_at hl 0 rfl) ?_
        refine lv_aload_n hx hb dX1_markFalling_21 rfl (lv_at hl 2 rfl) ?_
        refine lv_iload_n hx hb dX1_markFalling_22 rfl (lv_at hl 0 rfl) ?_
        obtain ⟨u25, u26, u27, u28, u29, u30, hP, hf⟩ := o_st (i := i) (q := o) hM (by omega)
        refine va_calli (va_runV (As := [.int (nI j9)]) (rest := [.int (nI j9), .ref (pF g o 7)]) ⟨hx, hb, hml, hown, hts⟩ (rk_has l dC dI kA eD b g o i (nI j9) (by omega)) (cwV 1 hts gX1_markFalling_X1_has rfl rfl rfl (by decide +kernel) ⟨Nat.le_of_ble_eq_true rfl, Nat.le_of_ble_eq_true rfl⟩) ⟨fb_CX, va_recv hK hP (ci := 5) (q0 := 0) rfl rfl, fun U hU hW => ⟨rfl, CX.give hb0 hM hK hG hE hS hU hW⟩⟩ rfl rfl hl.1 rfl (lv_room (Nat.le_of_ble_eq_true rfl)) dX1_markFalling_23 ⟨(Nat.le_of_ble_eq_true rfl), (Nat.le_of_ble_eq_true rfl)⟩) hS (fun q _ h => h) (fun q h => h) (fun r31 u t H locs ht hvm hw32 hB hz1 hk1 hS => ?_)
        have hM := hB.back ht
        have hG := hB.2.2.2.1
        have jn34 : ∀ (x33 : Int32) (H : Heap) (locs : List Loc) (ls : Array Slot), (x33 = 0 ∨ x33 = 1) → TM (dC, dI) kA b g H → va_S (fun q => b ≤ q) s.heap H locs → lv_has ls 4 [(3, .int (nI j9)), (2, .int x10), (0, .ref o), (1, .int wm)] → W p l e (headSpec wsX1_markFalling ({ frames := 3, cells := 0, slots := 0, locals := 69 })).room s m args below meth c H locs 0 0 Q (F0 m 57 ls [.int x33, .int (nI j9), .ref (pF g o 7)]) := by
          intro x33 H locs ls hj35 hM hS hl
          obtain ⟨u36, hP, hf⟩ := o_bo (i := 0) (q := (pF g o 7)) hM (by omega)
          refine rt_zast (D := (dC, dI)) (t0 := 1) hx hb hK hP (hM.ge (by omega)) hS rfl (vp_in_nI (by omega) (by decide)) dX1_markFalling_57 (fun H locs hP hz ho hS => ?_)
          have ec : ((nI j9) : Int32).toNatClampNeg = j9 := nI_clamp (by omega)
          rw [ec] at hP
          have hM := s_bo (i := 0) hM (by omega) hP ho (isZ_upd hf)
          refine lv_iload_n hx hb dX1_markFalling_58 rfl (lv_at hl 1 rfl) ?_
          have jn38 : ∀ (x37 : Int32) (H : Heap) (locs : List Loc) (ls : Array Slot), (x37 = 0 ∨ x37 = 1) → TM (dC, dI) kA b g H → va_S (fun q => b ≤ q) s.heap H locs → lv_has ls 4 [(3, .int (nI j9)), (2, .int x10), (0, .ref o), (1, .int wm)] → W p l e (headSpec wsX1_markFalling ({ frames := 3, cells := 0, slots := 0, locals := 69 })).room s m args below meth c H locs 0 0 Q (F0 m 76 ls [.int x37]) := by
            intro x37 H locs ls hj39 hM hS hl
            refine lv_istore_n (lv' := [(2, .int x37), (3, .int (nI j9)), (0, .ref o), (1, .int wm)]) hx hb dX1_markFalling_76 rfl hl (by decide) rfl (fun ls hl => ?_)
            refine lv_iinc (v := (nI (j9 + 1))) (lv' := [(3, .int (nI (j9 + 1))), (2, .int x37), (0, .ref o), (1, .int wm)]) hx hb dX1_markFalling_77 hl (k := 1) rfl (nI_add j9 1) (by decide) rfl (fun ls hl => ?_)
            refine lv_goto (tgt := 10) hx hb dX1_markFalling_80 (by decide) ?_
            exact ih13 ((j9 + 1)) x37 (by omega) (by omega) (by omega) H _ ls hj39  hM hS (lv_sub hl [0, 1, 2, 3] rfl)
          refine lv_if_ne (tgt := 71) hx hb dX1_markFalling_59 (by decide) (fun c40 => ?_) (fun c40 => ?_)
          · skip
            refine lv_iconst (v := 1) hx hb dX1_markFalling_71 (by decide) ?_
            refine lv_goto (tgt := 76) hx hb dX1_markFalling_72 (by decide) ?_
            exact jn38 1 H _ ls (Or.inr rfl) hM hS (lv_sub hl [0, 1, 2, 3] rfl)
          · skip
            refine lv_aload_n hx hb dX1_markFalling_62 rfl (lv_at hl 2 rfl) ?_
            obtain ⟨u41, u42, u43, u44, u45, u46, hP, hf⟩ := o_st (i := i) (q := o) hM (by omega)
            refine va_get (D := (dC, dI)) (ci := 5) (v := .ref (pF g o 7)) (C := RX1) (T := TX1) (N := 15) hx hb hts (by decide +kernel) hown hK hP 0 rfl rfl 7 (by decide) (hts (.fieldLink RX1 35 "Snowpalace$Site" "falling" "[Z") (by decide +kernel)) (fun _ h9 => h9) rfl dX1_markFalling_63 ?_
            refine lv_iload_n hx hb dX1_markFalling_66 rfl (lv_at hl 0 rfl) ?_
            obtain ⟨u47, hP, hf⟩ := o_bo (i := 0) (q := (pF g o 7)) hM (by omega)
            refine va_zald (D := (dC, dI)) hx hb hK hP 0 1 rfl rfl (vp_in_nI (by omega) (by decide)) dX1_markFalling_67 ?_
            refine lv_topi (fun v48 e49 => ?_)
            have ec : ((nI j9) : Int32).toNatClampNeg = j9 := nI_clamp (by omega)
            rw [ec] at e49
            have hu50 := hf j9 (by omega)
            rw [← e49] at hu50
            refine lv_if_eq (tgt := 75) hx hb dX1_markFalling_68 (by decide) (fun c51 => ?_) (fun c51 => ?_)
            · skip
              refine lv_iconst (v := 0) hx hb dX1_markFalling_75 (by decide) ?_
              exact jn38 0 H _ ls (Or.inl rfl) hM hS (lv_sub hl [0, 1, 2, 3] rfl)
            · skip
              refine lv_iconst (v := 1) hx hb dX1_markFalling_71 (by decide) ?_
              refine lv_goto (tgt := 76) hx hb dX1_markFalling_72 (by decide) ?_
              exact jn38 1 H _ ls (Or.inr rfl) hM hS (lv_sub hl [0, 1, 2, 3] rfl)
        refine lv_if_eq (tgt := 56) hx hb dX1_markFalling_26 (by decide) (fun c52 => ?_) (fun c52 => ?_)
        · skip
          refine lv_iconst (v := 0) hx hb dX1_markFalling_56 (by decide) ?_
          exact jn34 0 H _ ls (Or.inl rfl) hM hS (lv_sub hl [0, 1, 2, 3] rfl)
        · skip
          obtain ⟨-, hr1, hr2⟩ := hw32.resolve_left c52
          refine lv_aload_n hx hb dX1_markFalling_29 rfl (lv_at hl 2 rfl) ?_
          refine lv_iload_n hx hb dX1_markFalling_30 rfl (lv_at hl 0 rfl) ?_
          obtain ⟨u53, u54, u55, u56, u57, u58, hP, hf⟩ := o_st (i := i) (q := o) hM (by omega)
          refine va_calli (va_runV (As := [.int (nI j9)]) (rest := [.int (nI j9), .ref (pF g o 7)]) ⟨hx, hb, hml, hown, hts⟩ (rk_wouldStand l dC dI kA eD b g o i j9 (by omega) (by omega)) (cwV 1 hts gX1_markFalling_X1_wouldStand rfl rfl rfl (by decide +kernel) ⟨Nat.le_of_ble_eq_true rfl, Nat.le_of_ble_eq_true rfl⟩) ⟨fb_CX, va_recv hK hP (ci := 5) (q0 := 0) rfl rfl, fun U hU hW => ⟨rfl, CX.give hb0 hM hK hG hE hS hU hW⟩⟩ rfl rfl hl.1 rfl (lv_room (Nat.le_of_ble_eq_true rfl)) dX1_markFalling_31 ⟨(Nat.le_of_ble_eq_true rfl), (Nat.le_of_ble_eq_true rfl)⟩) hS (fun q _ h => h) (fun q h => h) (fun r59 u t H locs ht hvm hw60 hB hz1 hk1 hS => ?_)
          have hM := hB.back ht
          have hG := hB.2.2.2.1
          have jn61 : ∀  (H : Heap) (locs : List Loc) (ls : Array Slot), TM (dC, dI) kA b g H → va_S (fun q => b ≤ q) s.heap H locs → lv_has ls 4 [(3, .int (nI j9)), (2, .int x10), (0, .ref o), (1, .int wm)] → W p l e (headSpec wsX1_markFalling ({ frames := 3, cells := 0, slots := 0, locals := 69 })).room s m args below meth c H locs 0 0 Q (F0 m 52 ls [.int (nI j9), .ref (pF g o 7)]) := by
            intro H locs ls hM hS hl
            refine lv_iconst (v := 1) hx hb dX1_markFalling_52 (by decide) ?_
            refine lv_goto (tgt := 57) hx hb dX1_markFalling_53 (by decide) ?_
            exact jn34 1 H _ ls (Or.inr rfl) hM hS (lv_sub hl [0, 1, 2, 3] rfl)
          refine lv_if_eq (tgt := 52) hx hb dX1_markFalling_34 (by decide) (fun c62 => ?_) (fun c62 => ?_)
          · skip
            exact jn61 H _ ls hM hS (lv_sub hl [0, 1, 2, 3] rfl)
          · skip
            refine lv_aload_n hx hb dX1_markFalling_37 rfl (lv_at hl 2 rfl) ?_
            obtain ⟨u63, u64, u65, u66, u67, u68, hP, hf⟩ := o_st (i := i) (q := o) hM (by omega)
            refine va_get (D := (dC, dI)) (ci := 5) (v := .ref (pF g o 6)) (C := RX1) (T := TX1) (N := 15) hx hb hts (by decide +kernel) hown hK hP 0 rfl rfl 6 (by decide) (hts (.fieldLink RX1 32 "Snowpalace$Site" "loads" "[I") (by decide +kernel)) (fun _ h9 => h9) rfl dX1_markFalling_38 ?_
            have ht69 : tg g (pF g o 6) = 14 := hf.2.2.2.2.2.2.1
            refine lv_iload_n hx hb dX1_markFalling_41 rfl (lv_at hl 0 rfl) ?_
            obtain ⟨u70, hP, hf⟩ := o_in (i := 0) (q := (pF g o 6)) hM (by omega)
            refine va_iald (D := (dC, dI)) hx hb hK hP 0 0 rfl rfl (vp_in_nI (by omega) (by decide)) dX1_markFalling_42 ?_
            refine lv_topi (fun v71 e72 => ?_)
            have ec : ((nI j9) : Int32).toNatClampNeg = j9 := nI_clamp (by omega)
            rw [ec] at e72
            refine lv_aload_n hx hb dX1_markFalling_43 rfl (lv_at hl 2 rfl) ?_
            refine lv_iload_n hx hb dX1_markFalling_44 rfl (lv_at hl 0 rfl) ?_
            refine lv_iload_n hx hb dX1_markFalling_45 rfl (lv_at hl 3 rfl) ?_
            obtain ⟨u73, u74, u75, u76, u77, u78, hP, hf⟩ := o_st (i := i) (q := o) hM (by omega)
            refine va_calli (va_runV (As := [.int (nI j9), .int wm]) (rest := [.int v71, .int (nI j9), .ref (pF g o 7)]) ⟨hx, hb, hml, hown, hts⟩ (rk_strengthOf l dC dI kA eD b g o i (nI j9) wm (by omega)) (cwV 2 hts gX1_markFalling_X1_strengthOf rfl rfl rfl (by decide +kernel) ⟨Nat.le_of_ble_eq_true rfl, Nat.le_of_ble_eq_true rfl⟩) ⟨fb_CX, va_recv hK hP (ci := 5) (q0 := 0) rfl rfl, fun U hU hW => ⟨rfl, CX.give hb0 hM hK hG hE hS hU hW⟩⟩ rfl rfl hl.1 rfl (lv_room (Nat.le_of_ble_eq_true rfl)) dX1_markFalling_46 ⟨(Nat.le_of_ble_eq_true rfl), (Nat.le_of_ble_eq_true rfl)⟩) hS (fun q _ h => h) (fun q h => h) (fun r79 u t H locs ht hvm hw80 hB hz1 hk1 hS => ?_)
            have hM := hB.back ht
            have hG := hB.2.2.2.1
            refine lv_icmp_le (tgt := 56) hx hb dX1_markFalling_49 (by decide) (fun c81 => ?_) (fun c81 => ?_)
            · skip
              have i82 := (Int32.le_iff_toInt_le).mp c81
              have i82 := i82
              refine lv_iconst (v := 0) hx hb dX1_markFalling_56 (by decide) ?_
              exact jn34 0 H _ ls (Or.inl rfl) hM hS (lv_sub hl [0, 1, 2, 3] rfl)
            · skip
              have i83 := fun z => c81 ((Int32.le_iff_toInt_le).mpr z)
              have i83 : ¬ ((v71 : Int32).toInt ≤ (r79 : Int32).toInt) := i83
              exact jn61 H _ ls hM hS (lv_sub hl [0, 1, 2, 3] rfl)
  exact lp11 (48 + 1) 0 0 (by omega) (by omega) (by omega) H _ ls (Or.inl rfl) hM hS (lv_sub hl [0, 1, 2, 3] rfl)

set_option maxHeartbeats 4000000 in
set_option maxRecDepth 100000 in
theorem rk_dropMarked (l : Launch) (dC : Nat → ClassId) (dI : Nat → Nat → Nat) (kA : Nat → ClassId) (eD b : Nat) (g : Gh) (o : Nat) (i : Nat) (hto : tg g o = 12 + 64 * i)  : Met l yX1_dropMarked wsX1_dropMarked ({ frames := 3, cells := 0, slots := 0, locals := 65 }) (va_Pc [.ref o] (CX (dC, dI) kA eD b g)) (va_Qi (fun (r : Int32) (u : Unit) => True) (fun (u : Unit) t => CX (dC, dI) kA eD b g t) (fun q => b ≤ q)) 0 0 (fun q => b ≤ q) := by
  refine Met.ofW (cc := cX1_dropMarked) (maxL := 3) (ret := (some .int)) (by decide +kernel) rfl ?_
  intro p e s m args below meth c s₁ B hml hv
  obtain ⟨rfl, hb0, hM, hK, hG, hE⟩ := hv
  have hx := B.exec
  have hb := B.bytes
  have hr := B.returns
  have hts := atoms_spec (ws := wsX1_dropMarked) B.pre
  have hown : s.vm.findClass RX1 = some m.cls := findClass_of_methodNamed B.named
  have hlocks := B.notSynchronized
  have hT := hE.1
  have hN := hE.2.2.2.2.2.2.2.1
  have hS : va_S (fun q => b ≤ q) s.heap s.heap [] := va_S.rf
  have hl := lv_entry ([.ref o]) (n := 3) (Nat.le_of_ble_eq_true rfl)
  rw [lg_entry_eq]
  generalize (lg_sl ([.ref o]) ++ List.replicate (3 - (lg_sl ([.ref o])).length) Slot.unset).toArray = ls at hl ⊢
  have hl : lv_has ls 3 [(0, .ref o)] := hl
  generalize ([.ref o] : List Value).toArray = args at hts ⊢
  refine W.q (fun Q hQ => ?_)
  refine lv_iconst (v := 0) hx hb dX1_dropMarked_0 (by decide) ?_
  refine lv_istore_n (lv' := [(1, .int 0), (0, .ref o)]) hx hb dX1_dropMarked_1 rfl hl (by decide) rfl (fun ls hl => ?_)
  refine lv_iconst (v := 0) hx hb dX1_dropMarked_2 (by decide) ?_
  refine lv_istore_n (lv' := [(2, .int 0), (1, .int 0), (0, .ref o)]) hx hb dX1_dropMarked_3 rfl hl (by decide) rfl (fun ls hl => ?_)
  have lp3 : ∀ (n4 j1 : Nat) (x2 : Int32), 0 ≤ j1 → j1 ≤ 48 → 48 < j1 + n4 → ∀ (H : Heap) (locs : List Loc) (ls : Array Slot), TM (dC, dI) kA b g H → va_S (fun q => b ≤ q) s.heap H locs → lv_has ls 3 [(2, .int (nI j1)), (1, .int x2), (0, .ref o)] → W p l e (headSpec wsX1_dropMarked ({ frames := 3, cells := 0, slots := 0, locals := 65 })).room s m args below meth c H locs 0 0 Q (F0 m 4 ls []) := by
    intro n4
    induction n4 with
    | zero => intro j1 x2 h0 h1 h2; omega
    | succ n4 ih5 =>
      intro j1 x2 lj1 hj1 hn4 H locs ls hM hS hl
      refine lv_iload_n hx hb dX1_dropMarked_4 rfl (lv_at hl 0 rfl) ?_
      refine lv_bipush (v := 48) hx hb dX1_dropMarked_5 (by decide) ?_
      refine lv_icmp_ge (tgt := 38) hx hb dX1_dropMarked_7 (by decide) (fun c6 => ?_) (fun c6 => ?_)
      · skip
        have k7 : 48 ≤ j1 := (nI_leI (a := 48) (b := j1) (by omega) (by omega)).mp c6
        refine lv_aload_n hx hb dX1_dropMarked_38 rfl (lv_at hl 2 rfl) ?_
        refine lv_dup hx hb dX1_dropMarked_39 rfl ?_
        obtain ⟨u8, u9, u10, u11, u12, u13, hP, hf⟩ := o_st (i := i) (q := o) hM (by omega)
        refine va_get (D := (dC, dI)) (ci := 5) (v := .int u8) (C := RX1) (T := TX1) (N := 15) hx hb hts (by decide +kernel) hown hK hP 0 rfl rfl 9 (by decide) (hts (.fieldLink RX1 42 "Snowpalace$Site" "fallen" "I") (by decide +kernel)) (fun _ h9 => h9) rfl dX1_dropMarked_40 ?_
        refine lv_iload_n hx hb dX1_dropMarked_43 rfl (lv_at hl 1 rfl) ?_
        refine lv_iadd hx hb dX1_dropMarked_44 ?_
        refine lv_topi (fun v14 e15 => ?_)
        obtain ⟨u16, u17, u18, u19, u20, u21, hP, hf⟩ := o_st (i := i) (q := o) hM (by omega)
        refine rt_put (D := (dC, dI)) (ci := 5) (v := .int v14) (ty := .int) (C := RX1) (T := TX1) (N := 15) hx hb hts (by decide +kernel) tyX1 tyX1_ok nmX1 hown hK hP (hM.ge (by omega)) hS rfl 9 (by decide) (hts (.fieldLink RX1 42 "Snowpalace$Site" "fallen" "I") (by decide +kernel)) (fun _ h9 => h9) rfl (by decide +kernel) rfl rfl (Nat.le_of_ble_eq_true rfl) dX1_dropMarked_45 (fun H locs hP hz ho hS => ?_)
        have hM := s_st (i := i) hM (by omega) hP ho hf
        refine lv_iload_n hx hb dX1_dropMarked_48 rfl (lv_at hl 1 rfl) ?_
        subst hQ
        refine W.widen (k := 0) (n := 0) (Nat.le_of_ble_eq_true rfl) (Nat.le_of_ble_eq_true rfl) ?_
        exact W.iret (v := x2) hx hb hr (fun t ht hW => ⟨⟨x2, (), rfl, trivial, CX.give hb0 hM hK hG hE hS ht hW⟩, hS.F ht⟩) hS.2.2 dX1_dropMarked_49
      · skip
        have k22 : ¬ (48 ≤ j1) := fun z => c6 ((nI_leI (a := 48) (b := j1) (by omega) (by omega)).mpr z)
        refine lv_aload_n hx hb dX1_dropMarked_10 rfl (lv_at hl 2 rfl) ?_
        obtain ⟨u23, u24, u25, u26, u27, u28, hP, hf⟩ := o_st (i := i) (q := o) hM (by omega)
        refine va_get (D := (dC, dI)) (ci := 5) (v := .ref (pF g o 7)) (C := RX1) (T := TX1) (N := 15) hx hb hts (by decide +kernel) hown hK hP 0 rfl rfl 7 (by decide) (hts (.fieldLink RX1 35 "Snowpalace$Site" "falling" "[Z") (by decide +kernel)) (fun _ h9 => h9) rfl dX1_dropMarked_11 ?_
        have ht29 : tg g (pF g o 7) = 15 := hf.2.2.2.2.2.2.2.1
        refine lv_iload_n hx hb dX1_dropMarked_14 rfl (lv_at hl 0 rfl) ?_
        obtain ⟨u30, hP, hf⟩ := o_bo (i := 0) (q := (pF g o 7)) hM (by omega)
        refine va_zald (D := (dC, dI)) hx hb hK hP 0 1 rfl rfl (vp_in_nI (by omega) (by decide)) dX1_dropMarked_15 ?_
        refine lv_topi (fun v31 e32 => ?_)
        have ec : ((nI j1) : Int32).toNatClampNeg = j1 := nI_clamp (by omega)
        rw [ec] at e32
        have hu33 := hf j1 (by omega)
        rw [← e32] at hu33
        have jn35 : ∀ (x34 : Int32) (H : Heap) (locs : List Loc) (ls : Array Slot), TM (dC, dI) kA b g H → va_S (fun q => b ≤ q) s.heap H locs → lv_has ls 3 [(2, .int (nI j1)), (1, .int x34), (0, .ref o)] → W p l e (headSpec wsX1_dropMarked ({ frames := 3, cells := 0, slots := 0, locals := 65 })).room s m args below meth c H locs 0 0 Q (F0 m 32 ls []) := by
          intro x34 H locs ls hM hS hl
          refine lv_iinc (v := (nI (j1 + 1))) (lv' := [(2, .int (nI (j1 + 1))), (1, .int x34), (0, .ref o)]) hx hb dX1_dropMarked_32 hl (k := 0) rfl (nI_add j1 1) (by decide) rfl (fun ls hl => ?_)
          refine lv_goto (tgt := 4) hx hb dX1_dropMarked_35 (by decide) ?_
          exact ih5 ((j1 + 1)) x34 (by omega) (by omega) (by omega) H _ ls  hM hS (lv_sub hl [0, 1, 2] rfl)
        refine lv_if_eq (tgt := 32) hx hb dX1_dropMarked_16 (by decide) (fun c36 => ?_) (fun c36 => ?_)
        · skip
          exact jn35 x2 H _ ls hM hS (lv_sub hl [0, 1, 2] rfl)
        · skip
          refine lv_aload_n hx hb dX1_dropMarked_19 rfl (lv_at hl 2 rfl) ?_
          refine lv_iload_n hx hb dX1_dropMarked_20 rfl (lv_at hl 0 rfl) ?_
          obtain ⟨u37, u38, u39, u40, u41, u42, hP, hf⟩ := o_st (i := i) (q := o) hM (by omega)
          refine va_callv (va_runV (As := [.int (nI j1)]) (rest := []) ⟨hx, hb, hml, hown, hts⟩ (rk_removeCell l dC dI kA eD b g o i (nI j1) (by omega)) (cwV 1 hts gX1_dropMarked_X1_removeCell rfl rfl rfl (by decide +kernel) ⟨Nat.le_of_ble_eq_true rfl, Nat.le_of_ble_eq_true rfl⟩) ⟨fb_CX, va_recv hK hP (ci := 5) (q0 := 0) rfl rfl, fun U hU hW => ⟨rfl, CX.give hb0 hM hK hG hE hS hU hW⟩⟩ rfl rfl hl.1 rfl (lv_room (Nat.le_of_ble_eq_true rfl)) dX1_dropMarked_21 ⟨(Nat.le_of_ble_eq_true rfl), (Nat.le_of_ble_eq_true rfl)⟩) hS (fun q _ h => h) (fun q h => h) (fun u t H locs ht hvm hw44 hB hz1 hk1 hS => ?_)
          have hM := hB.back ht
          have hG := hB.2.2.2.1
          refine lv_aload_n hx hb dX1_dropMarked_24 rfl (lv_at hl 2 rfl) ?_
          refine lv_iload_n hx hb dX1_dropMarked_25 rfl (lv_at hl 0 rfl) ?_
          obtain ⟨u45, u46, u47, u48, u49, u50, hP, hf⟩ := o_st (i := i) (q := o) hM (by omega)
          refine rt_put (D := (dC, dI)) (ci := 5) (v := .int (nI j1)) (ty := .int) (C := RX1) (T := TX1) (N := 15) hx hb hts (by decide +kernel) tyX1 tyX1_ok nmX1 hown hK hP (hM.ge (by omega)) hS rfl 10 (by decide) (hts (.fieldLink RX1 46 "Snowpalace$Site" "lastFallen" "I") (by decide +kernel)) (fun _ h9 => h9) rfl (by decide +kernel) rfl rfl (Nat.le_of_ble_eq_true rfl) dX1_dropMarked_26 (fun H locs hP hz ho hS => ?_)
          have hM := s_st (i := i) hM (by omega) hP ho hf
          obtain ⟨v51, e52⟩ : ∃ y : Int32, y = x2 + 1 := ⟨_, rfl⟩
          refine lv_iinc (v := v51) (lv' := [(1, .int v51), (2, .int (nI j1)), (0, .ref o)]) hx hb dX1_dropMarked_29 hl (k := 1) rfl (by rw [e52]; rfl) (by decide) rfl (fun ls hl => ?_)
          exact jn35 v51 H _ ls hM hS (lv_sub hl [1, 0, 2] rfl)
  exact lp3 (48 + 1) 0 0 (by omega) (by omega) (by omega) s.heap _ ls  hM hS (lv_sub hl [0, 1, 2] rfl)

set_option maxHeartbeats 4000000 in
set_option maxRecDepth 100000 in
theorem rk_settle (l : Launch) (dC : Nat → ClassId) (dI : Nat → Nat → Nat) (kA : Nat → ClassId) (eD b : Nat) (g : Gh) (o : Nat) (i : Nat) (wm : Int32) (hto : tg g o = 12 + 64 * i)  : Met l yX1_settle wsX1_settle ({ frames := 4, cells := 0, slots := 0, locals := 92 }) (va_Pc [.ref o, .int wm] (CX (dC, dI) kA eD b g)) (va_Qi (fun (r : Int32) (u : Unit) => True) (fun (u : Unit) t => CX (dC, dI) kA eD b g t) (fun q => b ≤ q)) 0 0 (fun q => b ≤ q) := by
  refine Met.ofW (cc := cX1_settle) (maxL := 4) (ret := (some .int)) (by decide +kernel) rfl ?_
  intro p e s m args below meth c s₁ B hml hv
  obtain ⟨rfl, hb0, hM, hK, hG, hE⟩ := hv
  have hx := B.exec
  have hb := B.bytes
  have hr := B.returns
  have hts := atoms_spec (ws := wsX1_settle) B.pre
  have hown : s.vm.findClass RX1 = some m.cls := findClass_of_methodNamed B.named
  have hlocks := B.notSynchronized
  have hT := hE.1
  have hN := hE.2.2.2.2.2.2.2.1
  have hS : va_S (fun q => b ≤ q) s.heap s.heap [] := va_S.rf
  have hl := lv_entry ([.ref o, .int wm]) (n := 4) (Nat.le_of_ble_eq_true rfl)
  rw [lg_entry_eq]
  generalize (lg_sl ([.ref o, .int wm]) ++ List.replicate (4 - (lg_sl ([.ref o, .int wm])).length) Slot.unset).toArray = ls at hl ⊢
  have hl : lv_has ls 4 [(0, .ref o), (1, .int wm)] := hl
  generalize ([.ref o, .int wm] : List Value).toArray = args at hts ⊢
  refine W.q (fun Q hQ => ?_)
  refine lv_iconst (v := 0) hx hb dX1_settle_0 (by decide) ?_
  refine lv_istore_n (lv' := [(2, .int 0), (0, .ref o), (1, .int wm)]) hx hb dX1_settle_1 rfl hl (by decide) rfl (fun ls hl => ?_)
  refine lv_iconst (v := 0) hx hb dX1_settle_2 (by decide) ?_
  refine lv_istore_n (lv' := [(3, .int 0), (2, .int 0), (0, .ref o), (1, .int wm)]) hx hb dX1_settle_3 rfl hl (by decide) rfl (fun ls hl => ?_)
  have lp3 : ∀ (n4 j1 : Nat) (x2 : Int32), 0 ≤ j1 → j1 ≤ 49 → 49 < j1 + n4 → ∀ (H : Heap) (locs : List Loc) (ls : Array Slot), TM (dC, dI) kA b g H → va_S (fun q => b ≤ q) s.heap H locs → lv_has ls 4 [(3, .int (nI j1)), (2, .int x2), (0, .ref o), (1, .int wm)] → W p l e (headSpec wsX1_settle ({ frames := 4, cells := 0, slots := 0, locals := 92 })).room s m args below meth c H locs 0 0 Q (F0 m 4 ls []) := by
    intro n4
    induction n4 with
    | zero => intro j1 x2 h0 h1 h2; omega
    | succ n4 ih5 =>
      intro j1 x2 lj1 hj1 hn4 H locs ls hM hS hl
      refine lv_iload_n hx hb dX1_settle_4 rfl (lv_at hl 0 rfl) ?_
      refine lv_bipush (v := 48) hx hb dX1_settle_5 (by decide) ?_
      have jn6 : ∀  (H : Heap) (locs : List Loc) (ls : Array Slot), TM (dC, dI) kA b g H → va_S (fun q => b ≤ q) s.heap H locs → lv_has ls 4 [(3, .int (nI j1)), (2, .int x2), (0, .ref o), (1, .int wm)] → W p l e (headSpec wsX1_settle ({ frames := 4, cells := 0, slots := 0, locals := 92 })).room s m args below meth c H locs 0 0 Q (F0 m 31 ls []) := by
        intro H locs ls hM hS hl
        refine lv_iload_n hx hb dX1_settle_31 rfl (lv_at hl 1 rfl) ?_
        subst hQ
        refine W.widen (k := 0) (n := 0) (Nat.le_of_ble_eq_true rfl) (Nat.le_of_ble_eq_true rfl) ?_
        exact W.iret (v := x2) hx hb hr (fun t ht hW => ⟨⟨x2, (), rfl, trivial, CX.give hb0 hM hK hG hE hS ht hW⟩, hS.F ht⟩) hS.2.2 dX1_settle_32
      refine lv_icmp_gt (tgt := 31) hx hb dX1_settle_7 (by decide) (fun c7 => ?_) (fun c7 => ?_)
      · skip
        have k8 : 48 < j1 := (nI_ltI (a := 48) (b := j1) (by omega) (by omega)).mp c7
        exact jn6 H _ ls hM hS (lv_sub hl [0, 1, 2, 3] rfl)
      · skip
        have k9 : ¬ (48 < j1) := fun z => c7 ((nI_ltI (a := 48) (b := j1) (by omega) (by omega)).mpr z)
        refine lv_aload_n hx hb dX1_settle_10 rfl (lv_at hl 2 rfl) ?_
        refine lv_iload_n hx hb dX1_settle_11 rfl (lv_at hl 3 rfl) ?_
        obtain ⟨u10, u11, u12, u13, u14, u15, hP, hf⟩ := o_st (i := i) (q := o) hM (by omega)
        refine va_calli (va_runV (As := [.int wm]) (rest := []) ⟨hx, hb, hml, hown, hts⟩ (rk_markFalling l dC dI kA eD b g o i wm (by omega)) (cwV 1 hts gX1_settle_X1_markFalling rfl rfl rfl (by decide +kernel) ⟨Nat.le_of_ble_eq_true rfl, Nat.le_of_ble_eq_true rfl⟩) ⟨fb_CX, va_recv hK hP (ci := 5) (q0 := 0) rfl rfl, fun U hU hW => ⟨rfl, CX.give hb0 hM hK hG hE hS hU hW⟩⟩ rfl rfl hl.1 rfl (lv_room (Nat.le_of_ble_eq_true rfl)) dX1_settle_12 ⟨(Nat.le_of_ble_eq_true rfl), (Nat.le_of_ble_eq_true rfl)⟩) hS (fun q _ h => h) (fun q h => h) (fun r16 u t H locs ht hvm hw17 hB hz1 hk1 hS => ?_)
        have hM := hB.back ht
        have hG := hB.2.2.2.1
        refine lv_if_eq (tgt := 31) hx hb dX1_settle_15 (by decide) (fun c18 => ?_) (fun c18 => ?_)
        · skip
          exact jn6 H _ ls hM hS (lv_sub hl [0, 1, 2, 3] rfl)
        · skip
          refine lv_iload_n hx hb dX1_settle_18 rfl (lv_at hl 1 rfl) ?_
          refine lv_aload_n hx hb dX1_settle_19 rfl (lv_at hl 2 rfl) ?_
          obtain ⟨u19, u20, u21, u22, u23, u24, hP, hf⟩ := o_st (i := i) (q := o) hM (by omega)
          refine va_calli (va_runV (As := []) (rest := [.int x2]) ⟨hx, hb, hml, hown, hts⟩ (rk_dropMarked l dC dI kA eD b g o i (by omega)) (cwV 0 hts gX1_settle_X1_dropMarked rfl rfl rfl (by decide +kernel) ⟨Nat.le_of_ble_eq_true rfl, Nat.le_of_ble_eq_true rfl⟩) ⟨fb_CX, va_recv hK hP (ci := 5) (q0 := 0) rfl rfl, fun U hU hW => ⟨rfl, CX.give hb0 hM hK hG hE hS hU hW⟩⟩ rfl rfl hl.1 rfl (lv_room (Nat.le_of_ble_eq_true rfl)) dX1_settle_20 ⟨(Nat.le_of_ble_eq_true rfl), (Nat.le_of_ble_eq_true rfl)⟩) hS (fun q _ h => h) (fun q h => h) (fun r25 u t H locs ht hvm hw26 hB hz1 hk1 hS => ?_)
          have hM := hB.back ht
          have hG := hB.2.2.2.1
          refine lv_iadd hx hb dX1_settle_23 ?_
          refine lv_topi (fun v27 e28 => ?_)
          refine lv_istore_n (lv' := [(2, .int v27), (3, .int (nI j1)), (0, .ref o), (1, .int wm)]) hx hb dX1_settle_24 rfl hl (by decide) rfl (fun ls hl => ?_)
          refine lv_iinc (v := (nI (j1 + 1))) (lv' := [(3, .int (nI (j1 + 1))), (2, .int v27), (0, .ref o), (1, .int wm)]) hx hb dX1_settle_25 hl (k := 1) rfl (nI_add j1 1) (by decide) rfl (fun ls hl => ?_)
          refine lv_goto (tgt := 4) hx hb dX1_settle_28 (by decide) ?_
          exact ih5 ((j1 + 1)) v27 (by omega) (by omega) (by omega) H _ ls  hM hS (lv_sub hl [0, 1, 2, 3] rfl)
  exact lp3 (49 + 1) 0 0 (by omega) (by omega) (by omega) s.heap _ ls  hM hS (lv_sub hl [0, 1, 2, 3] rfl)

set_option maxHeartbeats 4000000 in
set_option maxRecDepth 100000 in
theorem rk_wouldFallWithout (l : Launch) (dC : Nat → ClassId) (dI : Nat → Nat → Nat) (kA : Nat → ClassId) (eD b : Nat) (g : Gh) (o : Nat) (i : Nat) (pl wm : Int32) (hto : tg g o = 12 + 64 * i)  : Met l yX1_wouldFallWithout wsX1_wouldFallWithout ({ frames := 4, cells := 0, slots := 0, locals := 92 }) (va_Pc [.ref o, .int pl, .int wm] (CX (dC, dI) kA eD b g)) (va_Qi (fun (r : Int32) (u : Unit) => r = 0 ∨ r = 1) (fun (u : Unit) t => CX (dC, dI) kA eD b g t) (fun q => b ≤ q)) 0 0 (fun q => b ≤ q) := by
  refine Met.ofW (cc := cX1_wouldFallWithout) (maxL := 5) (ret := (some .boolean)) (by decide +kernel) rfl ?_
  intro p e s m args below meth c s₁ B hml hv
  obtain ⟨rfl, hb0, hM, hK, hG, hE⟩ := hv
  have hx := B.exec
  have hb := B.bytes
  have hr := B.returns
  have hts := atoms_spec (ws := wsX1_wouldFallWithout) B.pre
  have hown : s.vm.findClass RX1 = some m.cls := findClass_of_methodNamed B.named
  have hlocks := B.notSynchronized
  have hT := hE.1
  have hN := hE.2.2.2.2.2.2.2.1
  have hS : va_S (fun q => b ≤ q) s.heap s.heap [] := va_S.rf
  have hl := lv_entry ([.ref o, .int pl, .int wm]) (n := 5) (Nat.le_of_ble_eq_true rfl)
  rw [lg_entry_eq]
  generalize (lg_sl ([.ref o, .int pl, .int wm]) ++ List.replicate (5 - (lg_sl ([.ref o, .int pl, .int wm])).length) Slot.unset).toArray = ls at hl ⊢
  have hl : lv_has ls 5 [(0, .ref o), (1, .int pl), (2, .int wm)] := hl
  generalize ([.ref o, .int pl, .int wm] : List Value).toArray = args at hts ⊢
  refine lv_aload_n hx hb dX1_wouldFallWithout_0 rfl (lv_at hl 0 rfl) ?_
  refine lv_iload_n hx hb dX1_wouldFallWithout_1 rfl (lv_at hl 1 rfl) ?_
  obtain ⟨u1, u2, u3, u4, u5, u6, hP, hf⟩ := o_st (i := i) (q := o) hM (by omega)
  refine va_calli (va_runV (As := [.int pl]) (rest := []) ⟨hx, hb, hml, hown, hts⟩ (rk_has l dC dI kA eD b g o i pl (by omega)) (cwV 1 hts gX1_wouldFallWithout_X1_has rfl rfl rfl (by decide +kernel) ⟨Nat.le_of_ble_eq_true rfl, Nat.le_of_ble_eq_true rfl⟩) ⟨fb_CX, va_recv hK hP (ci := 5) (q0 := 0) rfl rfl, fun U hU hW => ⟨rfl, CX.give hb0 hM hK hG hE hS hU hW⟩⟩ rfl rfl hl.1 rfl (lv_room (Nat.le_of_ble_eq_true rfl)) dX1_wouldFallWithout_2 ⟨(Nat.le_of_ble_eq_true rfl), (Nat.le_of_ble_eq_true rfl)⟩) hS (fun q _ h => h) (fun q h => h) (fun r7 u t H locs ht hvm hw8 hB hz1 hk1 hS => ?_)
  have hM := hB.back ht
  have hG := hB.2.2.2.1
  refine lv_if_ne (tgt := 10) hx hb dX1_wouldFallWithout_5 (by decide) (fun c9 => ?_) (fun c9 => ?_)
  · skip
    obtain ⟨-, hr1, hr2⟩ := hw8.resolve_left c9
    refine lv_aload_n hx hb dX1_wouldFallWithout_10 rfl (lv_at hl 0 rfl) ?_
    obtain ⟨u10, u11, u12, u13, u14, u15, hP, hf⟩ := o_st (i := i) (q := o) hM (by omega)
    refine va_get (D := (dC, dI)) (ci := 5) (v := .ref (pF g o 0)) (C := RX1) (T := TX1) (N := 15) hx hb hts (by decide +kernel) hown hK hP 0 rfl rfl 0 (by decide) (hts (.fieldLink RX1 9 "Snowpalace$Site" "kinds" "[C") (by decide +kernel)) (fun _ h9 => h9) rfl dX1_wouldFallWithout_11 ?_
    have ht16 : tg g (pF g o 0) = 13 := hf.1
    refine lv_iload_n hx hb dX1_wouldFallWithout_14 rfl (lv_at hl 1 rfl) ?_
    obtain ⟨u17, hP, hf⟩ := o_kn (i := 0) (q := (pF g o 0)) hM (by omega)
    refine va_cald (D := (dC, dI)) hx hb hK hP 0 2 rfl rfl (inI (by omega) (by omega)) dX1_wouldFallWithout_15 ?_
    refine lv_topi (fun v18 e19 => ?_)
    have hu20 := hf ((pl : Int32).toNatClampNeg) (clI (inI (by omega) (by omega)))
    rw [← e19] at hu20
    refine lv_istore_n (lv' := [(3, .int v18), (0, .ref o), (1, .int pl), (2, .int wm)]) hx hb dX1_wouldFallWithout_16 rfl hl (by decide) rfl (fun ls hl => ?_)
    refine lv_aload_n hx hb dX1_wouldFallWithout_17 rfl (lv_at hl 1 rfl) ?_
    obtain ⟨u21, u22, u23, u24, u25, u26, hP, hf⟩ := o_st (i := i) (q := o) hM (by omega)
    refine va_get (D := (dC, dI)) (ci := 5) (v := .ref (pF g o 0)) (C := RX1) (T := TX1) (N := 15) hx hb hts (by decide +kernel) hown hK hP 0 rfl rfl 0 (by decide) (hts (.fieldLink RX1 9 "Snowpalace$Site" "kinds" "[C") (by decide +kernel)) (fun _ h9 => h9) rfl dX1_wouldFallWithout_18 ?_
    refine lv_iload_n hx hb dX1_wouldFallWithout_21 rfl (lv_at hl 2 rfl) ?_
    refine lv_bipush (v := 46) hx hb dX1_wouldFallWithout_22 (by decide) ?_
    obtain ⟨u27, hP, hf⟩ := o_kn (i := 0) (q := (pF g o 0)) hM (by omega)
    refine rt_cast (D := (dC, dI)) (t0 := 2) hx hb hK hP (hM.ge (by omega)) hS rfl (inI (by omega) (by omega)) dX1_wouldFallWithout_24 (fun H locs hP hz ho hS => ?_)
    have hM := s_kn (i := 0) hM (by omega) hP ho (isC_upd hf)
    refine lv_aload_n hx hb dX1_wouldFallWithout_25 rfl (lv_at hl 1 rfl) ?_
    refine lv_iload_n hx hb dX1_wouldFallWithout_26 rfl (lv_at hl 3 rfl) ?_
    obtain ⟨u28, u29, u30, u31, u32, u33, hP, hf⟩ := o_st (i := i) (q := o) hM (by omega)
    refine va_calli (va_runV (As := [.int wm]) (rest := []) ⟨hx, hb, hml, hown, hts⟩ (rk_markFalling l dC dI kA eD b g o i wm (by omega)) (cwV 1 hts gX1_wouldFallWithout_X1_markFalling rfl rfl rfl (by decide +kernel) ⟨Nat.le_of_ble_eq_true rfl, Nat.le_of_ble_eq_true rfl⟩) ⟨fb_CX, va_recv hK hP (ci := 5) (q0 := 0) rfl rfl, fun U hU hW => ⟨rfl, CX.give hb0 hM hK hG hE hS hU hW⟩⟩ rfl rfl hl.1 rfl (lv_room (Nat.le_of_ble_eq_true rfl)) dX1_wouldFallWithout_27 ⟨(Nat.le_of_ble_eq_true rfl), (Nat.le_of_ble_eq_true rfl)⟩) hS (fun q _ h => h) (fun q h => h) (fun r34 u t H locs ht hvm hw35 hB hz1 hk1 hS => ?_)
    have hM := hB.back ht
    have hG := hB.2.2.2.1
    refine lv_istore (lv' := [(4, .int r34), (3, .int v18), (0, .ref o), (1, .int pl), (2, .int wm)]) hx hb dX1_wouldFallWithout_30 hl (by decide) rfl (fun ls hl => ?_)
    refine lv_aload_n hx hb dX1_wouldFallWithout_32 rfl (lv_at hl 2 rfl) ?_
    obtain ⟨u36, u37, u38, u39, u40, u41, hP, hf⟩ := o_st (i := i) (q := o) hM (by omega)
    refine va_get (D := (dC, dI)) (ci := 5) (v := .ref (pF g o 0)) (C := RX1) (T := TX1) (N := 15) hx hb hts (by decide +kernel) hown hK hP 0 rfl rfl 0 (by decide) (hts (.fieldLink RX1 9 "Snowpalace$Site" "kinds" "[C") (by decide +kernel)) (fun _ h9 => h9) rfl dX1_wouldFallWithout_33 ?_
    refine lv_iload_n hx hb dX1_wouldFallWithout_36 rfl (lv_at hl 3 rfl) ?_
    refine lv_iload_n hx hb dX1_wouldFallWithout_37 rfl (lv_at hl 1 rfl) ?_
    obtain ⟨u42, hP, hf⟩ := o_kn (i := 0) (q := (pF g o 0)) hM (by omega)
    refine rt_cast (D := (dC, dI)) (t0 := 2) hx hb hK hP (hM.ge (by omega)) hS rfl (inI (by omega) (by omega)) dX1_wouldFallWithout_38 (fun H locs hP hz ho hS => ?_)
    have hM := s_kn (i := 0) hM (by omega) hP ho (isC_upd hf)
    refine lv_iload hx hb dX1_wouldFallWithout_39 (lv_at hl 0 rfl) ?_
    refine W.widen (k := 0) (n := 0) (Nat.le_of_ble_eq_true rfl) (Nat.le_of_ble_eq_true rfl) ?_
    exact W.zret (v := r34) (ty := .boolean) hx hb hr (z01n hw35) (fun t ht hW => ⟨⟨r34, (), rfl, hw35, CX.give hb0 hM hK hG hE hS ht hW⟩, hS.F ht⟩) hS.2.2 dX1_wouldFallWithout_41
  · skip
    refine lv_iconst (v := 0) hx hb dX1_wouldFallWithout_8 (by decide) ?_
    refine W.widen (k := 0) (n := 0) (Nat.le_of_ble_eq_true rfl) (Nat.le_of_ble_eq_true rfl) ?_
    exact W.zret (v := 0) (ty := .boolean) hx hb hr rfl (fun t ht hW => ⟨⟨0, (), rfl, (Or.inl rfl), CX.give hb0 hM hK hG hE hS ht hW⟩, hS.F ht⟩) hS.2.2 dX1_wouldFallWithout_9

set_option maxHeartbeats 4000000 in
set_option maxRecDepth 100000 in
theorem rk_wear (l : Launch) (dC : Nat → ClassId) (dI : Nat → Nat → Nat) (kA : Nat → ClassId) (eD b : Nat) (g : Gh) (o : Nat) (i : Nat) (od wm wi : Int32) (hto : tg g o = 12 + 64 * i)  : Met l yX1_wear wsX1_wear ({ frames := 4, cells := 0, slots := 0, locals := 87 }) (va_Pc [.ref o, .int od, .int wm, .int wi] (CX (dC, dI) kA eD b g)) (va_Qi (fun (r : Int32) (u : Unit) => True) (fun (u : Unit) t => CX (dC, dI) kA eD b g t) (fun q => b ≤ q)) 0 0 (fun q => b ≤ q) := by
  refine Met.ofW (cc := cX1_wear) (maxL := 9) (ret := (some .int)) (by decide +kernel) rfl ?_
  intro p e s m args below meth c s₁ B hml hv
  obtain ⟨rfl, hb0, hM, hK, hG, hE⟩ := hv
  have hx := B.exec
  have hb := B.bytes
  have hr := B.returns
  have hts := atoms_spec (ws := wsX1_wear) B.pre
  have hown : s.vm.findClass RX1 = some m.cls := findClass_of_methodNamed B.named
  have hlocks := B.notSynchronized
  have hT := hE.1
  have hN := hE.2.2.2.2.2.2.2.1
  have hS : va_S (fun q => b ≤ q) s.heap s.heap [] := va_S.rf
  have hl := lv_entry ([.ref o, .int od, .int wm, .int wi]) (n := 9) (Nat.le_of_ble_eq_true rfl)
  rw [lg_entry_eq]
  generalize (lg_sl ([.ref o, .int od, .int wm, .int wi]) ++ List.replicate (9 - (lg_sl ([.ref o, .int od, .int wm, .int wi])).length) Slot.unset).toArray = ls at hl ⊢
  have hl : lv_has ls 9 [(0, .ref o), (1, .int od), (2, .int wm), (3, .int wi)] := hl
  generalize ([.ref o, .int od, .int wm, .int wi] : List Value).toArray = args at hts ⊢
  refine W.q (fun Q hQ => ?_)
  refine lv_iload_n hx hb dX1_wear_0 rfl (lv_at hl 1 rfl) ?_
  refine lv_bipush (v := 10) hx hb dX1_wear_1 (by decide) ?_
  refine lv_bipush (v := 14) hx hb dX1_wear_3 (by decide) ?_
  refine va_calli (va_runSN (As := [.int od, .int 10, .int 14]) (rest := []) ⟨hx, hb, hml, hown, hts⟩ (rk_isWithin l od 10 14 (10) (14) (by decide) (by decide)) (⟨va_cnB 3 hts gX1_wear_X3_isWithin_n72 rfl rfl rfl (hN (.methodLinkNest RX1 72 yX3_isWithin RX3) (by decide +kernel)) (hts (.initialized RX3) (by decide +kernel)) (by decide +kernel) ⟨Nat.le_of_ble_eq_true rfl, Nat.le_of_ble_eq_true rfl⟩, hts (.static yX3_isWithin) (by decide +kernel), trivial⟩) ⟨fun a U g mk q => q, fun U hU hW => ⟨rfl, trivial⟩⟩ rfl rfl hl.1 rfl (lv_room (Nat.le_of_ble_eq_true rfl)) dX1_wear_5 ⟨(Nat.le_of_ble_eq_true rfl), (Nat.le_of_ble_eq_true rfl)⟩) hS (fun q _ h => h.elim) (fun q h => h.elim) (fun r1 u t H locs ht hvm hw2 hB hz1 hk1 hS => ?_)
  have hM := hM.keep (fun p hp => hk1 p hp (fun z => z))
  have hw2 : r1 = bI ((10 : Int) ≤ od.toInt ∧ od.toInt ≤ (14 : Int)) := hw2
  have jn4 : ∀ (x3 : Int32) (H : Heap) (locs : List Loc) (ls : Array Slot), TM (dC, dI) kA b g H → va_S (fun q => b ≤ q) s.heap H locs → lv_has ls 9 [(0, .ref o), (1, .int od), (2, .int wm), (3, .int wi)] → W p l e (headSpec wsX1_wear ({ frames := 4, cells := 0, slots := 0, locals := 87 })).room s m args below meth c H locs 0 0 Q (F0 m 28 ls [.int x3]) := by
    intro x3 H locs ls hM hS hl
    refine lv_istore (lv' := [(4, .int x3), (0, .ref o), (1, .int od), (2, .int wm), (3, .int wi)]) hx hb dX1_wear_28 hl (by decide) rfl (fun ls hl => ?_)
    refine lv_iload_n hx hb dX1_wear_30 rfl (lv_at hl 4 rfl) ?_
    refine lv_bipush (v := 10) hx hb dX1_wear_31 (by decide) ?_
    have jn6 : ∀ (x5 : Int32) (H : Heap) (locs : List Loc) (ls : Array Slot), TM (dC, dI) kA b g H → va_S (fun q => b ≤ q) s.heap H locs → lv_has ls 9 [(4, .int x3), (0, .ref o), (1, .int od), (2, .int wm), (3, .int wi)] → W p l e (headSpec wsX1_wear ({ frames := 4, cells := 0, slots := 0, locals := 87 })).room s m args below meth c H locs 0 0 Q (F0 m 43 ls [.int x5]) := by
      intro x5 H locs ls hM hS hl
      refine lv_istore (lv' := [(5, .int x5), (4, .int x3), (0, .ref o), (1, .int od), (2, .int wm), (3, .int wi)]) hx hb dX1_wear_43 hl (by decide) rfl (fun ls hl => ?_)
      refine lv_iconst (v := 0) hx hb dX1_wear_45 (by decide) ?_
      refine lv_istore (lv' := [(6, .int 0), (5, .int x5), (4, .int x3), (0, .ref o), (1, .int od), (2, .int wm), (3, .int wi)]) hx hb dX1_wear_46 hl (by decide) rfl (fun ls hl => ?_)
      have lp8 : ∀ (n9 j7 : Nat) , 0 ≤ j7 → j7 ≤ 48 → 48 < j7 + n9 → ∀ (H : Heap) (locs : List Loc) (ls : Array Slot), TM (dC, dI) kA b g H → va_S (fun q => b ≤ q) s.heap H locs → lv_has ls 9 [(6, .int (nI j7)), (5, .int x5), (4, .int x3), (0, .ref o), (1, .int od), (2, .int wm), (3, .int wi)] → W p l e (headSpec wsX1_wear ({ frames := 4, cells := 0, slots := 0, locals := 87 })).room s m args below meth c H locs 0 0 Q (F0 m 48 ls []) := by
        intro n9
        induction n9 with
        | zero => intro j7 h0 h1 h2; omega
        | succ n9 ih10 =>
          intro j7 lj7 hj7 hn9 H locs ls hM hS hl
          refine lv_iload hx hb dX1_wear_48 (lv_at hl 0 rfl) ?_
          refine lv_bipush (v := 48) hx hb dX1_wear_50 (by decide) ?_
          refine lv_icmp_ge (tgt := 189) hx hb dX1_wear_52 (by decide) (fun c11 => ?_) (fun c11 => ?_)
          · skip
            have k12 : 48 ≤ j7 := (nI_leI (a := 48) (b := j7) (by omega) (by omega)).mp c11
            refine lv_aload_n hx hb dX1_wear_189 rfl (lv_at hl 3 rfl) ?_
            obtain ⟨u13, u14, u15, u16, u17, u18, hP, hf⟩ := o_st (i := i) (q := o) hM (by omega)
            refine va_calli (va_runV (As := []) (rest := []) ⟨hx, hb, hml, hown, hts⟩ (rk_dropMarked l dC dI kA eD b g o i (by omega)) (cwV 0 hts gX1_wear_X1_dropMarked rfl rfl rfl (by decide +kernel) ⟨Nat.le_of_ble_eq_true rfl, Nat.le_of_ble_eq_true rfl⟩) ⟨fb_CX, va_recv hK hP (ci := 5) (q0 := 0) rfl rfl, fun U hU hW => ⟨rfl, CX.give hb0 hM hK hG hE hS hU hW⟩⟩ rfl rfl hl.1 rfl (lv_room (Nat.le_of_ble_eq_true rfl)) dX1_wear_190 ⟨(Nat.le_of_ble_eq_true rfl), (Nat.le_of_ble_eq_true rfl)⟩) hS (fun q _ h => h) (fun q h => h) (fun r19 u t H locs ht hvm hw20 hB hz1 hk1 hS => ?_)
            have hM := hB.back ht
            have hG := hB.2.2.2.1
            subst hQ
            refine W.widen (k := 0) (n := 0) (Nat.le_of_ble_eq_true rfl) (Nat.le_of_ble_eq_true rfl) ?_
            exact W.iret (v := r19) hx hb hr (fun t ht hW => ⟨⟨r19, (), rfl, trivial, CX.give hb0 hM hK hG hE hS ht hW⟩, hS.F ht⟩) hS.2.2 dX1_wear_193
          · skip
            have k21 : ¬ (48 ≤ j7) := fun z => c11 ((nI_leI (a := 48) (b := j7) (by omega) (by omega)).mpr z)
            refine lv_aload_n hx hb dX1_wear_55 rfl (lv_at hl 3 rfl) ?_
            obtain ⟨u22, u23, u24, u25, u26, u27, hP, hf⟩ := o_st (i := i) (q := o) hM (by omega)
            refine va_get (D := (dC, dI)) (ci := 5) (v := .ref (pF g o 7)) (C := RX1) (T := TX1) (N := 15) hx hb hts (by decide +kernel) hown hK hP 0 rfl rfl 7 (by decide) (hts (.fieldLink RX1 35 "Snowpalace$Site" "falling" "[Z") (by decide +kernel)) (fun _ h9 => h9) rfl dX1_wear_56 ?_
            have ht28 : tg g (pF g o 7) = 15 := hf.2.2.2.2.2.2.2.1
            refine lv_iload hx hb dX1_wear_59 (lv_at hl 0 rfl) ?_
            refine lv_iconst (v := 0) hx hb dX1_wear_61 (by decide) ?_
            obtain ⟨u29, hP, hf⟩ := o_bo (i := 0) (q := (pF g o 7)) hM (by omega)
            refine rt_zast (D := (dC, dI)) (t0 := 1) hx hb hK hP (hM.ge (by omega)) hS rfl (vp_in_nI (by omega) (by decide)) dX1_wear_62 (fun H locs hP hz ho hS => ?_)
            have ec : ((nI j7) : Int32).toNatClampNeg = j7 := nI_clamp (by omega)
            rw [ec] at hP
            have hM := s_bo (i := 0) hM (by omega) hP ho (isZ_upd hf)
            refine lv_aload_n hx hb dX1_wear_63 rfl (lv_at hl 3 rfl) ?_
            refine lv_iload hx hb dX1_wear_64 (lv_at hl 0 rfl) ?_
            obtain ⟨u30, u31, u32, u33, u34, u35, hP, hf⟩ := o_st (i := i) (q := o) hM (by omega)
            refine va_calli (va_runV (As := [.int (nI j7)]) (rest := []) ⟨hx, hb, hml, hown, hts⟩ (rk_has l dC dI kA eD b g o i (nI j7) (by omega)) (cwV 1 hts gX1_wear_X1_has rfl rfl rfl (by decide +kernel) ⟨Nat.le_of_ble_eq_true rfl, Nat.le_of_ble_eq_true rfl⟩) ⟨fb_CX, va_recv hK hP (ci := 5) (q0 := 0) rfl rfl, fun U hU hW => ⟨rfl, CX.give hb0 hM hK hG hE hS hU hW⟩⟩ rfl rfl hl.1 rfl (lv_room (Nat.le_of_ble_eq_true rfl)) dX1_wear_66 ⟨(Nat.le_of_ble_eq_true rfl), (Nat.le_of_ble_eq_true rfl)⟩) hS (fun q _ h => h) (fun q h => h) (fun r36 u t H locs ht hvm hw37 hB hz1 hk1 hS => ?_)
            have hM := hB.back ht
            have hG := hB.2.2.2.1
            have jn38 : ∀  (H : Heap) (locs : List Loc) (ls : Array Slot), TM (dC, dI) kA b g H → va_S (fun q => b ≤ q) s.heap H locs → lv_has ls 9 [(6, .int (nI j7)), (5, .int x5), (4, .int x3), (0, .ref o), (1, .int od), (2, .int wm), (3, .int wi)] → W p l e (headSpec wsX1_wear ({ frames := 4, cells := 0, slots := 0, locals := 87 })).room s m args below meth c H locs 0 0 Q (F0 m 183 ls []) := by
              intro H locs ls hM hS hl
              refine lv_iinc (v := (nI (j7 + 1))) (lv' := [(6, .int (nI (j7 + 1))), (5, .int x5), (4, .int x3), (0, .ref o), (1, .int od), (2, .int wm), (3, .int wi)]) hx hb dX1_wear_183 hl (k := 0) rfl (nI_add j7 1) (by decide) rfl (fun ls hl => ?_)
              refine lv_goto (tgt := 48) hx hb dX1_wear_186 (by decide) ?_
              exact ih10 ((j7 + 1)) (by omega) (by omega) (by omega) H _ ls  hM hS (lv_sub hl [0, 1, 2, 3, 4, 5, 6] rfl)
            refine lv_if_eq (tgt := 183) hx hb dX1_wear_69 (by decide) (fun c39 => ?_) (fun c39 => ?_)
            · skip
              exact jn38 H _ ls hM hS (lv_sub hl [0, 1, 2, 3, 4, 5, 6] rfl)
            · skip
              obtain ⟨-, hr1, hr2⟩ := hw37.resolve_left c39
              refine lv_iload hx hb dX1_wear_72 (lv_at hl 0 rfl) ?_
              refine lv_bipush (v := 8) hx hb dX1_wear_74 (by decide) ?_
              refine lv_irem hx hb dX1_wear_76 (by decide) ?_
              refine lv_topi (fun v40 e41 => ?_)
              obtain rfl : v40 = nI (j7 % 8) := e41.trans (pk_rem (a := j7) (d := 8) (by omega) (by decide) (by decide))
              refine lv_bipush (v := 7) hx hb dX1_wear_77 (by decide) ?_
              have jn43 : ∀ (x42 : Int32) (H : Heap) (locs : List Loc) (ls : Array Slot), (x42 = 0 ∨ x42 = 1) → TM (dC, dI) kA b g H → va_S (fun q => b ≤ q) s.heap H locs → lv_has ls 9 [(6, .int (nI j7)), (5, .int x5), (4, .int x3), (0, .ref o), (1, .int od), (2, .int wm), (3, .int wi)] → W p l e (headSpec wsX1_wear ({ frames := 4, cells := 0, slots := 0, locals := 87 })).room s m args below meth c H locs 0 0 Q (F0 m 98 ls [.int x42]) := by
                intro x42 H locs ls hj44 hM hS hl
                refine lv_istore (lv' := [(7, .int x42), (6, .int (nI j7)), (5, .int x5), (4, .int x3), (0, .ref o), (1, .int od), (2, .int wm), (3, .int wi)]) hx hb dX1_wear_98 hl (by decide) rfl (fun ls hl => ?_)
                refine lv_iload hx hb dX1_wear_100 (lv_at hl 1 rfl) ?_
                refine lv_bipush (v := 8) hx hb dX1_wear_102 (by decide) ?_
                refine lv_irem hx hb dX1_wear_104 (by decide) ?_
                refine lv_topi (fun v45 e46 => ?_)
                obtain rfl : v45 = nI (j7 % 8) := e46.trans (pk_rem (a := j7) (d := 8) (by omega) (by decide) (by decide))
                have jn48 : ∀ (x47 : Int32) (H : Heap) (locs : List Loc) (ls : Array Slot), (x47 = 0 ∨ x47 = 1) → TM (dC, dI) kA b g H → va_S (fun q => b ≤ q) s.heap H locs → lv_has ls 9 [(7, .int x42), (6, .int (nI j7)), (5, .int x5), (4, .int x3), (0, .ref o), (1, .int od), (2, .int wm), (3, .int wi)] → W p l e (headSpec wsX1_wear ({ frames := 4, cells := 0, slots := 0, locals := 87 })).room s m args below meth c H locs 0 0 Q (F0 m 124 ls [.int x47]) := by
                  intro x47 H locs ls hj49 hM hS hl
                  refine lv_istore (lv' := [(8, .int x47), (7, .int x42), (6, .int (nI j7)), (5, .int x5), (4, .int x3), (0, .ref o), (1, .int od), (2, .int wm), (3, .int wi)]) hx hb dX1_wear_124 hl (by decide) rfl (fun ls hl => ?_)
                  refine lv_aload_n hx hb dX1_wear_126 rfl (lv_at hl 5 rfl) ?_
                  obtain ⟨u50, u51, u52, u53, u54, u55, hP, hf⟩ := o_st (i := i) (q := o) hM (by omega)
                  refine va_get (D := (dC, dI)) (ci := 5) (v := .ref (pF g o 1)) (C := RX1) (T := TX1) (N := 15) hx hb hts (by decide +kernel) hown hK hP 0 rfl rfl 1 (by decide) (hts (.fieldLink RX1 15 "Snowpalace$Site" "masses" "[I") (by decide +kernel)) (fun _ h9 => h9) rfl dX1_wear_127 ?_
                  have ht56 : tg g (pF g o 1) = 14 := hf.2.1
                  refine lv_iload hx hb dX1_wear_130 (lv_at hl 2 rfl) ?_
                  refine lv_dup2_11 hx hb dX1_wear_132 rfl rfl ?_
                  obtain ⟨u57, hP, hf⟩ := o_in (i := 0) (q := (pF g o 1)) hM (by omega)
                  refine va_iald (D := (dC, dI)) hx hb hK hP 0 0 rfl rfl (vp_in_nI (by omega) (by decide)) dX1_wear_133 ?_
                  refine lv_topi (fun v58 e59 => ?_)
                  have ec : ((nI j7) : Int32).toNatClampNeg = j7 := nI_clamp (by omega)
                  rw [ec] at e59
                  refine lv_iload hx hb dX1_wear_134 (lv_at hl 1 rfl) ?_
                  have jn61 : ∀ (x60 : Int32) (H : Heap) (locs : List Loc) (ls : Array Slot), TM (dC, dI) kA b g H → va_S (fun q => b ≤ q) s.heap H locs → lv_has ls 9 [(8, .int x47), (7, .int x42), (6, .int (nI j7)), (5, .int x5), (4, .int x3), (0, .ref o), (1, .int od), (2, .int wm), (3, .int wi)] → W p l e (headSpec wsX1_wear ({ frames := 4, cells := 0, slots := 0, locals := 87 })).room s m args below meth c H locs 0 0 Q (F0 m 145 ls [.int x60, .int v58, .int (nI j7), .ref (pF g o 1)]) := by
                    intro x60 H locs ls hM hS hl
                    refine lv_iload hx hb dX1_wear_145 (lv_at hl 0 rfl) ?_
                    have jn63 : ∀ (x62 : Int32) (H : Heap) (locs : List Loc) (ls : Array Slot), TM (dC, dI) kA b g H → va_S (fun q => b ≤ q) s.heap H locs → lv_has ls 9 [(8, .int x47), (7, .int x42), (6, .int (nI j7)), (5, .int x5), (4, .int x3), (0, .ref o), (1, .int od), (2, .int wm), (3, .int wi)] → W p l e (headSpec wsX1_wear ({ frames := 4, cells := 0, slots := 0, locals := 87 })).room s m args below meth c H locs 0 0 Q (F0 m 156 ls [.int x62, .int x60, .int v58, .int (nI j7), .ref (pF g o 1)]) := by
                      intro x62 H locs ls hM hS hl
                      refine lv_iadd hx hb dX1_wear_156 ?_
                      refine lv_topi (fun v64 e65 => ?_)
                      refine lv_isub hx hb dX1_wear_157 ?_
                      refine lv_topi (fun v66 e67 => ?_)
                      obtain ⟨u68, hP, hf⟩ := o_in (i := 0) (q := (pF g o 1)) hM (by omega)
                      refine rt_iast (D := (dC, dI)) (t0 := 0) hx hb hK hP (hM.ge (by omega)) hS rfl (vp_in_nI (by omega) (by decide)) dX1_wear_158 (fun H locs hP hz ho hS => ?_)
                      have ec : ((nI j7) : Int32).toNatClampNeg = j7 := nI_clamp (by omega)
                      rw [ec] at hP
                      have hM := s_in (i := 0) hM (by omega) hP ho hf
                      refine lv_aload_n hx hb dX1_wear_159 rfl (lv_at hl 5 rfl) ?_
                      obtain ⟨u69, u70, u71, u72, u73, u74, hP, hf⟩ := o_st (i := i) (q := o) hM (by omega)
                      refine va_get (D := (dC, dI)) (ci := 5) (v := .ref (pF g o 7)) (C := RX1) (T := TX1) (N := 15) hx hb hts (by decide +kernel) hown hK hP 0 rfl rfl 7 (by decide) (hts (.fieldLink RX1 35 "Snowpalace$Site" "falling" "[Z") (by decide +kernel)) (fun _ h9 => h9) rfl dX1_wear_160 ?_
                      refine lv_iload hx hb dX1_wear_163 (lv_at hl 2 rfl) ?_
                      refine lv_aload_n hx hb dX1_wear_165 rfl (lv_at hl 5 rfl) ?_
                      obtain ⟨u75, u76, u77, u78, u79, u80, hP, hf⟩ := o_st (i := i) (q := o) hM (by omega)
                      refine va_get (D := (dC, dI)) (ci := 5) (v := .ref (pF g o 1)) (C := RX1) (T := TX1) (N := 15) hx hb hts (by decide +kernel) hown hK hP 0 rfl rfl 1 (by decide) (hts (.fieldLink RX1 15 "Snowpalace$Site" "masses" "[I") (by decide +kernel)) (fun _ h9 => h9) rfl dX1_wear_166 ?_
                      refine lv_iload hx hb dX1_wear_169 (lv_at hl 2 rfl) ?_
                      obtain ⟨u81, hP, hf⟩ := o_in (i := 0) (q := (pF g o 1)) hM (by omega)
                      refine va_iald (D := (dC, dI)) hx hb hK hP 0 0 rfl rfl (vp_in_nI (by omega) (by decide)) dX1_wear_171 ?_
                      refine lv_topi (fun v82 e83 => ?_)
                      have ec : ((nI j7) : Int32).toNatClampNeg = j7 := nI_clamp (by omega)
                      rw [ec] at e83
                      refine lv_bipush (v := 100) hx hb dX1_wear_172 (by decide) ?_
                      have jn85 : ∀ (x84 : Int32) (H : Heap) (locs : List Loc) (ls : Array Slot), (x84 = 0 ∨ x84 = 1) → TM (dC, dI) kA b g H → va_S (fun q => b ≤ q) s.heap H locs → lv_has ls 9 [(8, .int x47), (7, .int x42), (6, .int (nI j7)), (5, .int x5), (4, .int x3), (0, .ref o), (1, .int od), (2, .int wm), (3, .int wi)] → W p l e (headSpec wsX1_wear ({ frames := 4, cells := 0, slots := 0, locals := 87 })).room s m args below meth c H locs 0 0 Q (F0 m 182 ls [.int x84, .int (nI j7), .ref (pF g o 7)]) := by
                        intro x84 H locs ls hj86 hM hS hl
                        obtain ⟨u87, hP, hf⟩ := o_bo (i := 0) (q := (pF g o 7)) hM (by omega)
                        refine rt_zast (D := (dC, dI)) (t0 := 1) hx hb hK hP (hM.ge (by omega)) hS rfl (vp_in_nI (by omega) (by decide)) dX1_wear_182 (fun H locs hP hz ho hS => ?_)
                        have ec : ((nI j7) : Int32).toNatClampNeg = j7 := nI_clamp (by omega)
                        rw [ec] at hP
                        have hM := s_bo (i := 0) hM (by omega) hP ho (isZ_upd hf)
                        exact jn38 H _ ls hM hS (lv_sub hl [2, 3, 4, 5, 6, 7, 8] rfl)
                      refine lv_icmp_gt (tgt := 181) hx hb dX1_wear_174 (by decide) (fun c88 => ?_) (fun c88 => ?_)
                      · skip
                        have i89 := (Int32.lt_iff_toInt_lt).mp c88
                        have ii89 : (100 : Int32).toInt = 100 := by decide
                        have i89 := i89
                        refine lv_iconst (v := 0) hx hb dX1_wear_181 (by decide) ?_
                        exact jn85 0 H _ ls (Or.inl rfl) hM hS (lv_sub hl [0, 1, 2, 3, 4, 5, 6, 7, 8] rfl)
                      · skip
                        have i90 := fun z => c88 ((Int32.lt_iff_toInt_lt).mpr z)
                        have ii90 : (100 : Int32).toInt = 100 := by decide
                        have i90 : ¬ ((100 : Int32).toInt < (v82 : Int32).toInt) := i90
                        refine lv_iconst (v := 1) hx hb dX1_wear_177 (by decide) ?_
                        refine lv_goto (tgt := 182) hx hb dX1_wear_178 (by decide) ?_
                        exact jn85 1 H _ ls (Or.inr rfl) hM hS (lv_sub hl [0, 1, 2, 3, 4, 5, 6, 7, 8] rfl)
                    refine lv_if_eq (tgt := 154) hx hb dX1_wear_147 (by decide) (fun c91 => ?_) (fun c91 => ?_)
                    · skip
                      refine lv_iload hx hb dX1_wear_154 (lv_at hl 3 rfl) ?_
                      exact jn63 x5 H _ ls hM hS (lv_sub hl [0, 1, 2, 3, 4, 5, 6, 7, 8] rfl)
                    · skip
                      refine lv_iconst (v := 0) hx hb dX1_wear_150 (by decide) ?_
                      refine lv_goto (tgt := 156) hx hb dX1_wear_151 (by decide) ?_
                      exact jn63 0 H _ ls hM hS (lv_sub hl [0, 1, 2, 3, 4, 5, 6, 7, 8] rfl)
                  refine lv_if_eq (tgt := 143) hx hb dX1_wear_136 (by decide) (fun c92 => ?_) (fun c92 => ?_)
                  · skip
                    refine lv_iload hx hb dX1_wear_143 (lv_at hl 4 rfl) ?_
                    exact jn61 x3 H _ ls hM hS (lv_sub hl [0, 1, 2, 3, 4, 5, 6, 7, 8] rfl)
                  · skip
                    refine lv_iconst (v := 0) hx hb dX1_wear_139 (by decide) ?_
                    refine lv_goto (tgt := 145) hx hb dX1_wear_140 (by decide) ?_
                    exact jn61 0 H _ ls hM hS (lv_sub hl [0, 1, 2, 3, 4, 5, 6, 7, 8] rfl)
                refine lv_if_le (tgt := 123) hx hb dX1_wear_105 (by decide) (fun c93 => ?_) (fun c93 => ?_)
                · skip
                  have k94 : (j7 % 8) ≤ 0 := (nI_leI (a := (j7 % 8)) (b := 0) (by omega) (by omega)).mp c93
                  refine lv_iconst (v := 0) hx hb dX1_wear_123 (by decide) ?_
                  exact jn48 0 H _ ls (Or.inl rfl) hM hS (lv_sub hl [0, 1, 2, 3, 4, 5, 6, 7] rfl)
                · skip
                  have k95 : ¬ ((j7 % 8) ≤ 0) := fun z => c93 ((nI_leI (a := (j7 % 8)) (b := 0) (by omega) (by omega)).mpr z)
                  refine lv_aload_n hx hb dX1_wear_108 rfl (lv_at hl 4 rfl) ?_
                  refine lv_iload hx hb dX1_wear_109 (lv_at hl 1 rfl) ?_
                  refine lv_iconst (v := 1) hx hb dX1_wear_111 (by decide) ?_
                  refine lv_isub hx hb dX1_wear_112 ?_
                  refine lv_topi (fun v96 e97 => ?_)
                  have tv96 : (v96 : Int32).toInt = ((j7 : Nat) : Int) - ((1 : Nat) : Int) := by rw [e97]; exact pk_sub_toInt (a := j7) (b := 1) (by omega) (by omega)
                  obtain ⟨u98, u99, u100, u101, u102, u103, hP, hf⟩ := o_st (i := i) (q := o) hM (by omega)
                  refine va_calli (va_runV (As := [.int v96]) (rest := []) ⟨hx, hb, hml, hown, hts⟩ (rk_has l dC dI kA eD b g o i v96 (by omega)) (cwV 1 hts gX1_wear_X1_has rfl rfl rfl (by decide +kernel) ⟨Nat.le_of_ble_eq_true rfl, Nat.le_of_ble_eq_true rfl⟩) ⟨fb_CX, va_recv hK hP (ci := 5) (q0 := 0) rfl rfl, fun U hU hW => ⟨rfl, CX.give hb0 hM hK hG hE hS hU hW⟩⟩ rfl rfl hl.1 rfl (lv_room (Nat.le_of_ble_eq_true rfl)) dX1_wear_113 ⟨(Nat.le_of_ble_eq_true rfl), (Nat.le_of_ble_eq_true rfl)⟩) hS (fun q _ h => h) (fun q h => h) (fun r104 u t H locs ht hvm hw105 hB hz1 hk1 hS => ?_)
                  have hM := hB.back ht
                  have hG := hB.2.2.2.1
                  refine lv_if_eq (tgt := 123) hx hb dX1_wear_116 (by decide) (fun c106 => ?_) (fun c106 => ?_)
                  · skip
                    refine lv_iconst (v := 0) hx hb dX1_wear_123 (by decide) ?_
                    exact jn48 0 H _ ls (Or.inl rfl) hM hS (lv_sub hl [0, 1, 2, 3, 4, 5, 6, 7] rfl)
                  · skip
                    obtain ⟨-, hr1, hr2⟩ := hw105.resolve_left c106
                    refine lv_iconst (v := 1) hx hb dX1_wear_119 (by decide) ?_
                    refine lv_goto (tgt := 124) hx hb dX1_wear_120 (by decide) ?_
                    exact jn48 1 H _ ls (Or.inr rfl) hM hS (lv_sub hl [0, 1, 2, 3, 4, 5, 6, 7] rfl)
              refine lv_icmp_ge (tgt := 97) hx hb dX1_wear_79 (by decide) (fun c107 => ?_) (fun c107 => ?_)
              · skip
                have k108 : 7 ≤ (j7 % 8) := (nI_leI (a := 7) (b := (j7 % 8)) (by omega) (by omega)).mp c107
                refine lv_iconst (v := 0) hx hb dX1_wear_97 (by decide) ?_
                exact jn43 0 H _ ls (Or.inl rfl) hM hS (lv_sub hl [0, 1, 2, 3, 4, 5, 6] rfl)
              · skip
                have k109 : ¬ (7 ≤ (j7 % 8)) := fun z => c107 ((nI_leI (a := 7) (b := (j7 % 8)) (by omega) (by omega)).mpr z)
                refine lv_aload_n hx hb dX1_wear_82 rfl (lv_at hl 3 rfl) ?_
                refine lv_iload hx hb dX1_wear_83 (lv_at hl 0 rfl) ?_
                refine lv_iconst (v := 1) hx hb dX1_wear_85 (by decide) ?_
                refine lv_iadd hx hb dX1_wear_86 ?_
                refine lv_topi (fun v110 e111 => ?_)
                obtain rfl : v110 = nI (j7 + 1) := e111.trans (nI_add j7 1)
                obtain ⟨u112, u113, u114, u115, u116, u117, hP, hf⟩ := o_st (i := i) (q := o) hM (by omega)
                refine va_calli (va_runV (As := [.int (nI (j7 + 1))]) (rest := []) ⟨hx, hb, hml, hown, hts⟩ (rk_has l dC dI kA eD b g o i (nI (j7 + 1)) (by omega)) (cwV 1 hts gX1_wear_X1_has rfl rfl rfl (by decide +kernel) ⟨Nat.le_of_ble_eq_true rfl, Nat.le_of_ble_eq_true rfl⟩) ⟨fb_CX, va_recv hK hP (ci := 5) (q0 := 0) rfl rfl, fun U hU hW => ⟨rfl, CX.give hb0 hM hK hG hE hS hU hW⟩⟩ rfl rfl hl.1 rfl (lv_room (Nat.le_of_ble_eq_true rfl)) dX1_wear_87 ⟨(Nat.le_of_ble_eq_true rfl), (Nat.le_of_ble_eq_true rfl)⟩) hS (fun q _ h => h) (fun q h => h) (fun r118 u t H locs ht hvm hw119 hB hz1 hk1 hS => ?_)
                have hM := hB.back ht
                have hG := hB.2.2.2.1
                refine lv_if_eq (tgt := 97) hx hb dX1_wear_90 (by decide) (fun c120 => ?_) (fun c120 => ?_)
                · skip
                  refine lv_iconst (v := 0) hx hb dX1_wear_97 (by decide) ?_
                  exact jn43 0 H _ ls (Or.inl rfl) hM hS (lv_sub hl [0, 1, 2, 3, 4, 5, 6] rfl)
                · skip
                  obtain ⟨-, hr1, hr2⟩ := hw119.resolve_left c120
                  refine lv_iconst (v := 1) hx hb dX1_wear_93 (by decide) ?_
                  refine lv_goto (tgt := 98) hx hb dX1_wear_94 (by decide) ?_
                  exact jn43 1 H _ ls (Or.inr rfl) hM hS (lv_sub hl [0, 1, 2, 3, 4, 5, 6] rfl)
      exact lp8 (48 + 1) 0 (by omega) (by omega) (by omega) H _ ls  hM hS (lv_sub hl [0, 1, 2, 3, 4, 5, 6] rfl)
    refine lv_icmp_lt (tgt := 42) hx hb dX1_wear_33 (by decide) (fun c121 => ?_) (fun c121 => ?_)
    · skip
      have i122 := (Int32.lt_iff_toInt_lt).mp c121
      have ii122 : (10 : Int32).toInt = 10 := by decide
      have i122 := i122
      refine lv_iconst (v := 0) hx hb dX1_wear_42 (by decide) ?_
      exact jn6 0 H _ ls hM hS (lv_sub hl [0, 1, 2, 3, 4] rfl)
    · skip
      have i123 := fun z => c121 ((Int32.lt_iff_toInt_lt).mpr z)
      have ii123 : (10 : Int32).toInt = 10 := by decide
      have i123 : ¬ ((wi : Int32).toInt < (10 : Int32).toInt) := i123
      refine lv_iload_n hx hb dX1_wear_36 rfl (lv_at hl 4 rfl) ?_
      refine lv_iconst (v := 5) hx hb dX1_wear_37 (by decide) ?_
      refine lv_idiv hx hb dX1_wear_38 (by decide) ?_
      refine lv_topi (fun v124 e125 => ?_)
      refine lv_goto (tgt := 43) hx hb dX1_wear_39 (by decide) ?_
      exact jn6 v124 H _ ls hM hS (lv_sub hl [0, 1, 2, 3, 4] rfl)
  refine lv_if_eq (tgt := 27) hx hb dX1_wear_8 (by decide) (fun c126 => ?_) (fun c126 => ?_)
  · skip
    have g127 : ¬ ((10 : Int) ≤ od.toInt ∧ od.toInt ≤ (14 : Int)) := bI_f hw2 c126
    have zg127 : r1 = 0 := bI_f0 hw2 g127
    refine lv_iconst (v := 0) hx hb dX1_wear_27 (by decide) ?_
    exact jn4 0 H _ ls hM hS (lv_sub hl [0, 1, 2, 3] rfl)
  · skip
    have g128 : (10 : Int) ≤ od.toInt ∧ od.toInt ≤ (14 : Int) := bI_t hw2 c126
    have zg128 : r1 = 1 := bI_t1 hw2 g128
    refine lv_iload_n hx hb dX1_wear_11 rfl (lv_at hl 2 rfl) ?_
    refine lv_bipush (v := (-100)) hx hb dX1_wear_12 (by decide) ?_
    refine lv_icmp_le (tgt := 27) hx hb dX1_wear_14 (by decide) (fun c129 => ?_) (fun c129 => ?_)
    · skip
      have i130 := (Int32.le_iff_toInt_le).mp c129
      have ii130 : ((-100) : Int32).toInt = -100 := by decide
      have i130 := i130
      refine lv_iconst (v := 0) hx hb dX1_wear_27 (by decide) ?_
      exact jn4 0 H _ ls hM hS (lv_sub hl [0, 1, 2, 3] rfl)
    · skip
      have i131 := fun z => c129 ((Int32.le_iff_toInt_le).mpr z)
      have ii131 : ((-100) : Int32).toInt = -100 := by decide
      have i131 : ¬ ((wm : Int32).toInt ≤ ((-100) : Int32).toInt) := i131
      refine lv_iload_n hx hb dX1_wear_17 rfl (lv_at hl 2 rfl) ?_
      refine lv_bipush (v := (-100)) hx hb dX1_wear_18 (by decide) ?_
      refine lv_isub hx hb dX1_wear_20 ?_
      refine lv_topi (fun v132 e133 => ?_)
      refine lv_bipush (v := 20) hx hb dX1_wear_21 (by decide) ?_
      refine lv_idiv hx hb dX1_wear_23 (by decide) ?_
      refine lv_topi (fun v134 e135 => ?_)
      refine lv_goto (tgt := 28) hx hb dX1_wear_24 (by decide) ?_
      exact jn4 v134 H _ ls hM hS (lv_sub hl [0, 1, 2, 3] rfl)

set_option maxHeartbeats 4000000 in
set_option maxRecDepth 100000 in
theorem rk_growOld (l : Launch) (dC : Nat → ClassId) (dI : Nat → Nat → Nat) (kA : Nat → ClassId) (eD b : Nat) (g : Gh) (o : Nat) (i : Nat) (wm : Int32) (hto : tg g o = 12 + 64 * i)  : Met l yX1_growOld wsX1_growOld ({ frames := 1, cells := 0, slots := 0, locals := 21 }) (va_Pc [.ref o, .int wm] (CX (dC, dI) kA eD b g)) (va_Qv (fun (u : Unit) => True) (fun (u : Unit) t => CX (dC, dI) kA eD b g t) (fun q => b ≤ q)) 0 0 (fun q => b ≤ q) := by
  refine Met.ofW (cc := cX1_growOld) (maxL := 4) (ret := none) (by decide +kernel) rfl ?_
  intro p e s m args below meth c s₁ B hml hv
  obtain ⟨rfl, hb0, hM, hK, hG, hE⟩ := hv
  have hx := B.exec
  have hb := B.bytes
  have hr := B.returns
  have hts := atoms_spec (ws := wsX1_growOld) B.pre
  have hown : s.vm.findClass RX1 = some m.cls := findClass_of_methodNamed B.named
  have hlocks := B.notSynchronized
  have hT := hE.1
  have hN := hE.2.2.2.2.2.2.2.1
  have hS : va_S (fun q => b ≤ q) s.heap s.heap [] := va_S.rf
  have hl := lv_entry ([.ref o, .int wm]) (n := 4) (Nat.le_of_ble_eq_true rfl)
  rw [lg_entry_eq]
  generalize (lg_sl ([.ref o, .int wm]) ++ List.replicate (4 - (lg_sl ([.ref o, .int wm])).length) Slot.unset).toArray = ls at hl ⊢
  have hl : lv_has ls 4 [(0, .ref o), (1, .int wm)] := hl
  generalize ([.ref o, .int wm] : List Value).toArray = args at hts ⊢
  refine W.q (fun Q hQ => ?_)
  refine lv_iconst (v := 0) hx hb dX1_growOld_0 (by decide) ?_
  refine lv_istore_n (lv' := [(2, .int 0), (0, .ref o), (1, .int wm)]) hx hb dX1_growOld_1 rfl hl (by decide) rfl (fun ls hl => ?_)
  have lp2 : ∀ (n3 j1 : Nat) , 0 ≤ j1 → j1 ≤ 48 → 48 < j1 + n3 → ∀ (H : Heap) (locs : List Loc) (ls : Array Slot), TM (dC, dI) kA b g H → va_S (fun q => b ≤ q) s.heap H locs → lv_has ls 4 [(2, .int (nI j1)), (0, .ref o), (1, .int wm)] → W p l e (headSpec wsX1_growOld ({ frames := 1, cells := 0, slots := 0, locals := 21 })).room s m args below meth c H locs 0 0 Q (F0 m 2 ls []) := by
    intro n3
    induction n3 with
    | zero => intro j1 h0 h1 h2; omega
    | succ n3 ih4 =>
      intro j1 lj1 hj1 hn3 H locs ls hM hS hl
      refine lv_iload_n hx hb dX1_growOld_2 rfl (lv_at hl 0 rfl) ?_
      refine lv_bipush (v := 48) hx hb dX1_growOld_3 (by decide) ?_
      refine lv_icmp_ge (tgt := 77) hx hb dX1_growOld_5 (by decide) (fun c5 => ?_) (fun c5 => ?_)
      · skip
        have k6 : 48 ≤ j1 := (nI_leI (a := 48) (b := j1) (by omega) (by omega)).mp c5
        subst hQ
        refine W.widen (k := 0) (n := 0) (Nat.le_of_ble_eq_true rfl) (Nat.le_of_ble_eq_true rfl) ?_
        exact W.vret hx hb hr (fun t ht hW => ⟨⟨(), rfl, trivial, CX.give hb0 hM hK hG hE hS ht hW⟩, hS.F ht⟩) hS.2.2 dX1_growOld_77
      · skip
        have k7 : ¬ (48 ≤ j1) := fun z => c5 ((nI_leI (a := 48) (b := j1) (by omega) (by omega)).mpr z)
        refine lv_aload_n hx hb dX1_growOld_8 rfl (lv_at hl 1 rfl) ?_
        refine lv_iload_n hx hb dX1_growOld_9 rfl (lv_at hl 0 rfl) ?_
        obtain ⟨u8, u9, u10, u11, u12, u13, hP, hf⟩ := o_st (i := i) (q := o) hM (by omega)
        refine va_calli (va_runV (As := [.int (nI j1)]) (rest := []) ⟨hx, hb, hml, hown, hts⟩ (rk_has l dC dI kA eD b g o i (nI j1) (by omega)) (cwV 1 hts gX1_growOld_X1_has rfl rfl rfl (by decide +kernel) ⟨Nat.le_of_ble_eq_true rfl, Nat.le_of_ble_eq_true rfl⟩) ⟨fb_CX, va_recv hK hP (ci := 5) (q0 := 0) rfl rfl, fun U hU hW => ⟨rfl, CX.give hb0 hM hK hG hE hS hU hW⟩⟩ rfl rfl hl.1 rfl (lv_room (Nat.le_of_ble_eq_true rfl)) dX1_growOld_10 ⟨(Nat.le_of_ble_eq_true rfl), (Nat.le_of_ble_eq_true rfl)⟩) hS (fun q _ h => h) (fun q h => h) (fun r14 u t H locs ht hvm hw15 hB hz1 hk1 hS => ?_)
        have hM := hB.back ht
        have hG := hB.2.2.2.1
        have jn16 : ∀  (H : Heap) (locs : List Loc) (ls : Array Slot), TM (dC, dI) kA b g H → va_S (fun q => b ≤ q) s.heap H locs → lv_has ls 4 [(2, .int (nI j1)), (0, .ref o), (1, .int wm)] → W p l e (headSpec wsX1_growOld ({ frames := 1, cells := 0, slots := 0, locals := 21 })).room s m args below meth c H locs 0 0 Q (F0 m 71 ls []) := by
          intro H locs ls hM hS hl
          refine lv_iinc (v := (nI (j1 + 1))) (lv' := [(2, .int (nI (j1 + 1))), (0, .ref o), (1, .int wm)]) hx hb dX1_growOld_71 hl (k := 0) rfl (nI_add j1 1) (by decide) rfl (fun ls hl => ?_)
          refine lv_goto (tgt := 2) hx hb dX1_growOld_74 (by decide) ?_
          exact ih4 ((j1 + 1)) (by omega) (by omega) (by omega) H _ ls  hM hS (lv_sub hl [0, 1, 2] rfl)
        refine lv_if_eq (tgt := 71) hx hb dX1_growOld_13 (by decide) (fun c17 => ?_) (fun c17 => ?_)
        · skip
          exact jn16 H _ ls hM hS (lv_sub hl [0, 1, 2] rfl)
        · skip
          obtain ⟨-, hr1, hr2⟩ := hw15.resolve_left c17
          refine lv_aload_n hx hb dX1_growOld_16 rfl (lv_at hl 1 rfl) ?_
          obtain ⟨u18, u19, u20, u21, u22, u23, hP, hf⟩ := o_st (i := i) (q := o) hM (by omega)
          refine va_get (D := (dC, dI)) (ci := 5) (v := .ref (pF g o 6)) (C := RX1) (T := TX1) (N := 15) hx hb hts (by decide +kernel) hown hK hP 0 rfl rfl 6 (by decide) (hts (.fieldLink RX1 32 "Snowpalace$Site" "loads" "[I") (by decide +kernel)) (fun _ h9 => h9) rfl dX1_growOld_17 ?_
          have ht24 : tg g (pF g o 6) = 14 := hf.2.2.2.2.2.2.1
          refine lv_iload_n hx hb dX1_growOld_20 rfl (lv_at hl 0 rfl) ?_
          obtain ⟨u25, hP, hf⟩ := o_in (i := 0) (q := (pF g o 6)) hM (by omega)
          refine va_iald (D := (dC, dI)) hx hb hK hP 0 0 rfl rfl (vp_in_nI (by omega) (by decide)) dX1_growOld_21 ?_
          refine lv_topi (fun v26 e27 => ?_)
          have ec : ((nI j1) : Int32).toNatClampNeg = j1 := nI_clamp (by omega)
          rw [ec] at e27
          refine lv_iconst (v := 0) hx hb dX1_growOld_22 (by decide) ?_
          refine lv_iload_n hx hb dX1_growOld_23 rfl (lv_at hl 2 rfl) ?_
          refine lv_sipush (v := 300) hx hb dX1_growOld_24 (by decide) ?_
          refine lv_iadd hx hb dX1_growOld_27 ?_
          refine lv_topi (fun v28 e29 => ?_)
          refine va_mmax hx hb (hml.trans hl.1.symm) hown (hts (.methodLink RX1 93 Lib.Math.max.name) (by decide +kernel)) (hts (.static Lib.Math.max.name) (by decide +kernel)) (hts (.initialized "java/lang/Math") (by decide +kernel)) (hts (.code Lib.Math.max.name Lib.Math.max.code 2 (some .int)) (by decide +kernel)) (Nat.le_of_ble_eq_true rfl) (Nat.le_of_ble_eq_true rfl) (Nat.le_of_ble_eq_true rfl) (Nat.le_of_ble_eq_true rfl) dX1_growOld_28 ?_
          refine lv_topi (fun v30 e31 => ?_)
          refine lv_imul hx hb dX1_growOld_31 ?_
          refine lv_topi (fun v32 e33 => ?_)
          refine lv_ldc hx hb hown (hts (.constant RX1 120 100000) (by decide +kernel)) dX1_growOld_32 ?_
          refine lv_idiv hx hb dX1_growOld_34 (by decide) ?_
          refine lv_topi (fun v34 e35 => ?_)
          refine lv_istore_n (lv' := [(3, .int v34), (2, .int (nI j1)), (0, .ref o), (1, .int wm)]) hx hb dX1_growOld_35 rfl hl (by decide) rfl (fun ls hl => ?_)
          refine lv_aload_n hx hb dX1_growOld_36 rfl (lv_at hl 2 rfl) ?_
          obtain ⟨u36, u37, u38, u39, u40, u41, hP, hf⟩ := o_st (i := i) (q := o) hM (by omega)
          refine va_get (D := (dC, dI)) (ci := 5) (v := .ref (pF g o 2)) (C := RX1) (T := TX1) (N := 15) hx hb hts (by decide +kernel) hown hK hP 0 rfl rfl 2 (by decide) (hts (.fieldLink RX1 19 "Snowpalace$Site" "creeps" "[I") (by decide +kernel)) (fun _ h9 => h9) rfl dX1_growOld_37 ?_
          have ht42 : tg g (pF g o 2) = 14 := hf.2.2.1
          refine lv_iload_n hx hb dX1_growOld_40 rfl (lv_at hl 1 rfl) ?_
          refine lv_dup2_11 hx hb dX1_growOld_41 rfl rfl ?_
          obtain ⟨u43, hP, hf⟩ := o_in (i := 0) (q := (pF g o 2)) hM (by omega)
          refine va_iald (D := (dC, dI)) hx hb hK hP 0 0 rfl rfl (vp_in_nI (by omega) (by decide)) dX1_growOld_42 ?_
          refine lv_topi (fun v44 e45 => ?_)
          have ec : ((nI j1) : Int32).toNatClampNeg = j1 := nI_clamp (by omega)
          rw [ec] at e45
          refine lv_aload_n hx hb dX1_growOld_43 rfl (lv_at hl 2 rfl) ?_
          obtain ⟨u46, u47, u48, u49, u50, u51, hP, hf⟩ := o_st (i := i) (q := o) hM (by omega)
          refine va_get (D := (dC, dI)) (ci := 5) (v := .ref (pF g o 4)) (C := RX1) (T := TX1) (N := 15) hx hb hts (by decide +kernel) hown hK hP 0 rfl rfl 4 (by decide) (hts (.fieldLink RX1 25 "Snowpalace$Site" "lamps" "[Z") (by decide +kernel)) (fun _ h9 => h9) rfl dX1_growOld_44 ?_
          have ht52 : tg g (pF g o 4) = 15 := hf.2.2.2.2.1
          refine lv_iload_n hx hb dX1_growOld_47 rfl (lv_at hl 1 rfl) ?_
          obtain ⟨u53, hP, hf⟩ := o_bo (i := 0) (q := (pF g o 4)) hM (by omega)
          refine va_zald (D := (dC, dI)) hx hb hK hP 0 1 rfl rfl (vp_in_nI (by omega) (by decide)) dX1_growOld_48 ?_
          refine lv_topi (fun v54 e55 => ?_)
          have ec : ((nI j1) : Int32).toNatClampNeg = j1 := nI_clamp (by omega)
          rw [ec] at e55
          have hu56 := hf j1 (by omega)
          rw [← e55] at hu56
          have jn58 : ∀ (x57 : Int32) (H : Heap) (locs : List Loc) (ls : Array Slot), TM (dC, dI) kA b g H → va_S (fun q => b ≤ q) s.heap H locs → lv_has ls 4 [(3, .int v34), (2, .int (nI j1)), (0, .ref o), (1, .int wm)] → W p l e (headSpec wsX1_growOld ({ frames := 1, cells := 0, slots := 0, locals := 21 })).room s m args below meth c H locs 0 0 Q (F0 m 59 ls [.int x57, .int v44, .int (nI j1), .ref (pF g o 2)]) := by
            intro x57 H locs ls hM hS hl
            refine lv_iadd hx hb dX1_growOld_59 ?_
            refine lv_topi (fun v59 e60 => ?_)
            obtain ⟨u61, hP, hf⟩ := o_in (i := 0) (q := (pF g o 2)) hM (by omega)
            refine rt_iast (D := (dC, dI)) (t0 := 0) hx hb hK hP (hM.ge (by omega)) hS rfl (vp_in_nI (by omega) (by decide)) dX1_growOld_60 (fun H locs hP hz ho hS => ?_)
            have ec : ((nI j1) : Int32).toNatClampNeg = j1 := nI_clamp (by omega)
            rw [ec] at hP
            have hM := s_in (i := 0) hM (by omega) hP ho hf
            refine lv_aload_n hx hb dX1_growOld_61 rfl (lv_at hl 2 rfl) ?_
            obtain ⟨u62, u63, u64, u65, u66, u67, hP, hf⟩ := o_st (i := i) (q := o) hM (by omega)
            refine va_get (D := (dC, dI)) (ci := 5) (v := .ref (pF g o 3)) (C := RX1) (T := TX1) (N := 15) hx hb hts (by decide +kernel) hown hK hP 0 rfl rfl 3 (by decide) (hts (.fieldLink RX1 22 "Snowpalace$Site" "ages" "[I") (by decide +kernel)) (fun _ h9 => h9) rfl dX1_growOld_62 ?_
            have ht68 : tg g (pF g o 3) = 14 := hf.2.2.2.1
            refine lv_iload_n hx hb dX1_growOld_65 rfl (lv_at hl 1 rfl) ?_
            refine lv_dup2_11 hx hb dX1_growOld_66 rfl rfl ?_
            obtain ⟨u69, hP, hf⟩ := o_in (i := 0) (q := (pF g o 3)) hM (by omega)
            refine va_iald (D := (dC, dI)) hx hb hK hP 0 0 rfl rfl (vp_in_nI (by omega) (by decide)) dX1_growOld_67 ?_
            refine lv_topi (fun v70 e71 => ?_)
            have ec : ((nI j1) : Int32).toNatClampNeg = j1 := nI_clamp (by omega)
            rw [ec] at e71
            refine lv_iconst (v := 1) hx hb dX1_growOld_68 (by decide) ?_
            refine lv_iadd hx hb dX1_growOld_69 ?_
            refine lv_topi (fun v72 e73 => ?_)
            obtain ⟨u74, hP, hf⟩ := o_in (i := 0) (q := (pF g o 3)) hM (by omega)
            refine rt_iast (D := (dC, dI)) (t0 := 0) hx hb hK hP (hM.ge (by omega)) hS rfl (vp_in_nI (by omega) (by decide)) dX1_growOld_70 (fun H locs hP hz ho hS => ?_)
            have ec : ((nI j1) : Int32).toNatClampNeg = j1 := nI_clamp (by omega)
            rw [ec] at hP
            have hM := s_in (i := 0) hM (by omega) hP ho hf
            exact jn16 H _ ls hM hS (lv_sub hl [1, 2, 3] rfl)
          refine lv_if_eq (tgt := 58) hx hb dX1_growOld_49 (by decide) (fun c75 => ?_) (fun c75 => ?_)
          · skip
            refine lv_iload_n hx hb dX1_growOld_58 rfl (lv_at hl 0 rfl) ?_
            exact jn58 v34 H _ ls hM hS (lv_sub hl [0, 1, 2, 3] rfl)
          · skip
            refine lv_iconst (v := 2) hx hb dX1_growOld_52 (by decide) ?_
            refine lv_iload_n hx hb dX1_growOld_53 rfl (lv_at hl 0 rfl) ?_
            refine lv_imul hx hb dX1_growOld_54 ?_
            refine lv_topi (fun v76 e77 => ?_)
            refine lv_goto (tgt := 59) hx hb dX1_growOld_55 (by decide) ?_
            exact jn58 v76 H _ ls hM hS (lv_sub hl [0, 1, 2, 3] rfl)
  exact lp2 (48 + 1) 0 (by omega) (by omega) (by omega) s.heap _ ls  hM hS (lv_sub hl [0, 1, 2] rfl)

set_option maxHeartbeats 4000000 in
set_option maxRecDepth 100000 in
theorem rk_isOpenWith (l : Launch) (dC : Nat → ClassId) (dI : Nat → Nat → Nat) (kA : Nat → ClassId) (eD b : Nat) (g : Gh) (o : Nat) (i : Nat) (mp mo wm : Int32) (hto : tg g o = 12 + 64 * i)  : Met l yX1_isOpenWith wsX1_isOpenWith ({ frames := 3, cells := 0, slots := 0, locals := 69 }) (va_Pc [.ref o, .int mp, .int mo, .int wm] (CX (dC, dI) kA eD b g)) (va_Qi (fun (r : Int32) (u : Unit) => r = 0 ∨ r = 1) (fun (u : Unit) t => CX (dC, dI) kA eD b g t) (fun q => b ≤ q)) 0 0 (fun q => b ≤ q) := by
  refine Met.ofW (cc := cX1_isOpenWith) (maxL := 6) (ret := (some .boolean)) (by decide +kernel) rfl ?_
  intro p e s m args below meth c s₁ B hml hv
  obtain ⟨rfl, hb0, hM, hK, hG, hE⟩ := hv
  have hx := B.exec
  have hb := B.bytes
  have hr := B.returns
  have hts := atoms_spec (ws := wsX1_isOpenWith) B.pre
  have hown : s.vm.findClass RX1 = some m.cls := findClass_of_methodNamed B.named
  have hlocks := B.notSynchronized
  have hT := hE.1
  have hN := hE.2.2.2.2.2.2.2.1
  have hS : va_S (fun q => b ≤ q) s.heap s.heap [] := va_S.rf
  have hl := lv_entry ([.ref o, .int mp, .int mo, .int wm]) (n := 6) (Nat.le_of_ble_eq_true rfl)
  rw [lg_entry_eq]
  generalize (lg_sl ([.ref o, .int mp, .int mo, .int wm]) ++ List.replicate (6 - (lg_sl ([.ref o, .int mp, .int mo, .int wm])).length) Slot.unset).toArray = ls at hl ⊢
  have hl : lv_has ls 6 [(0, .ref o), (1, .int mp), (2, .int mo), (3, .int wm)] := hl
  generalize ([.ref o, .int mp, .int mo, .int wm] : List Value).toArray = args at hts ⊢
  refine W.q (fun Q hQ => ?_)
  refine lv_aload_n hx hb dX1_isOpenWith_0 rfl (lv_at hl 0 rfl) ?_
  refine lv_iload_n hx hb dX1_isOpenWith_1 rfl (lv_at hl 1 rfl) ?_
  refine lv_iload_n hx hb dX1_isOpenWith_2 rfl (lv_at hl 2 rfl) ?_
  obtain ⟨u1, u2, u3, u4, u5, u6, hP, hf⟩ := o_st (i := i) (q := o) hM (by omega)
  refine va_callv (va_runV (As := [.int mp, .int mo]) (rest := []) ⟨hx, hb, hml, hown, hts⟩ (rk_weigh l dC dI kA eD b g o i mp mo (by omega)) (cwV 2 hts gX1_isOpenWith_X1_weigh rfl rfl rfl (by decide +kernel) ⟨Nat.le_of_ble_eq_true rfl, Nat.le_of_ble_eq_true rfl⟩) ⟨fb_CX, va_recv hK hP (ci := 5) (q0 := 0) rfl rfl, fun U hU hW => ⟨rfl, CX.give hb0 hM hK hG hE hS hU hW⟩⟩ rfl rfl hl.1 rfl (lv_room (Nat.le_of_ble_eq_true rfl)) dX1_isOpenWith_3 ⟨(Nat.le_of_ble_eq_true rfl), (Nat.le_of_ble_eq_true rfl)⟩) hS (fun q _ h => h) (fun q h => h) (fun u t H locs ht hvm hw8 hB hz1 hk1 hS => ?_)
  have hM := hB.back ht
  have hG := hB.2.2.2.1
  refine lv_iconst (v := 0) hx hb dX1_isOpenWith_6 (by decide) ?_
  refine lv_istore (lv' := [(4, .int 0), (0, .ref o), (1, .int mp), (2, .int mo), (3, .int wm)]) hx hb dX1_isOpenWith_7 hl (by decide) rfl (fun ls hl => ?_)
  refine lv_iconst (v := 0) hx hb dX1_isOpenWith_9 (by decide) ?_
  refine lv_istore (lv' := [(5, .int 0), (4, .int 0), (0, .ref o), (1, .int mp), (2, .int mo), (3, .int wm)]) hx hb dX1_isOpenWith_10 hl (by decide) rfl (fun ls hl => ?_)
  have lp11 : ∀ (n12 j9 : Nat) (x10 : Int32), 0 ≤ j9 → j9 ≤ 48 → 48 < j9 + n12 → ∀ (H : Heap) (locs : List Loc) (ls : Array Slot), (x10 = 0 ∨ x10 = 1) → TM (dC, dI) kA b g H → va_S (fun q => b ≤ q) s.heap H locs → lv_has ls 6 [(5, .int (nI j9)), (4, .int x10), (0, .ref o), (1, .int mp), (2, .int mo), (3, .int wm)] → W p l e (headSpec wsX1_isOpenWith ({ frames := 3, cells := 0, slots := 0, locals := 69 })).room s m args below meth c H locs 0 0 Q (F0 m 12 ls []) := by
    intro n12
    induction n12 with
    | zero => intro j9 x10 h0 h1 h2; omega
    | succ n12 ih13 =>
      intro j9 x10 lj9 hj9 hn12 H locs ls hf14 hM hS hl
      refine lv_iload hx hb dX1_isOpenWith_12 (lv_at hl 0 rfl) ?_
      refine lv_bipush (v := 48) hx hb dX1_isOpenWith_14 (by decide) ?_
      refine lv_icmp_ge (tgt := 71) hx hb dX1_isOpenWith_16 (by decide) (fun c15 => ?_) (fun c15 => ?_)
      · skip
        have k16 : 48 ≤ j9 := (nI_leI (a := 48) (b := j9) (by omega) (by omega)).mp c15
        refine lv_iload hx hb dX1_isOpenWith_71 (lv_at hl 1 rfl) ?_
        subst hQ
        refine W.widen (k := 0) (n := 0) (Nat.le_of_ble_eq_true rfl) (Nat.le_of_ble_eq_true rfl) ?_
        exact W.zret (v := x10) (ty := .boolean) hx hb hr (z01n hf14) (fun t ht hW => ⟨⟨x10, (), rfl, hf14, CX.give hb0 hM hK hG hE hS ht hW⟩, hS.F ht⟩) hS.2.2 dX1_isOpenWith_73
      · skip
        have k17 : ¬ (48 ≤ j9) := fun z => c15 ((nI_leI (a := 48) (b := j9) (by omega) (by omega)).mpr z)
        refine lv_aload_n hx hb dX1_isOpenWith_19 rfl (lv_at hl 2 rfl) ?_
        refine lv_iload hx hb dX1_isOpenWith_20 (lv_at hl 0 rfl) ?_
        obtain ⟨u18, u19, u20, u21, u22, u23, hP, hf⟩ := o_st (i := i) (q := o) hM (by omega)
        refine va_calli (va_runV (As := [.int (nI j9)]) (rest := []) ⟨hx, hb, hml, hown, hts⟩ (rk_has l dC dI kA eD b g o i (nI j9) (by omega)) (cwV 1 hts gX1_isOpenWith_X1_has rfl rfl rfl (by decide +kernel) ⟨Nat.le_of_ble_eq_true rfl, Nat.le_of_ble_eq_true rfl⟩) ⟨fb_CX, va_recv hK hP (ci := 5) (q0 := 0) rfl rfl, fun U hU hW => ⟨rfl, CX.give hb0 hM hK hG hE hS hU hW⟩⟩ rfl rfl hl.1 rfl (lv_room (Nat.le_of_ble_eq_true rfl)) dX1_isOpenWith_22 ⟨(Nat.le_of_ble_eq_true rfl), (Nat.le_of_ble_eq_true rfl)⟩) hS (fun q _ h => h) (fun q h => h) (fun r24 u t H locs ht hvm hw25 hB hz1 hk1 hS => ?_)
        have hM := hB.back ht
        have hG := hB.2.2.2.1
        have jn27 : ∀ (x26 : Int32) (H : Heap) (locs : List Loc) (ls : Array Slot), (x26 = 0 ∨ x26 = 1) → TM (dC, dI) kA b g H → va_S (fun q => b ≤ q) s.heap H locs → lv_has ls 6 [(5, .int (nI j9)), (4, .int x26), (0, .ref o), (1, .int mp), (2, .int mo), (3, .int wm)] → W p l e (headSpec wsX1_isOpenWith ({ frames := 3, cells := 0, slots := 0, locals := 69 })).room s m args below meth c H locs 0 0 Q (F0 m 65 ls []) := by
          intro x26 H locs ls hj28 hM hS hl
          refine lv_iinc (v := (nI (j9 + 1))) (lv' := [(5, .int (nI (j9 + 1))), (4, .int x26), (0, .ref o), (1, .int mp), (2, .int mo), (3, .int wm)]) hx hb dX1_isOpenWith_65 hl (k := 0) rfl (nI_add j9 1) (by decide) rfl (fun ls hl => ?_)
          refine lv_goto (tgt := 12) hx hb dX1_isOpenWith_68 (by decide) ?_
          exact ih13 ((j9 + 1)) x26 (by omega) (by omega) (by omega) H _ ls hj28  hM hS (lv_sub hl [0, 1, 2, 3, 4, 5] rfl)
        refine lv_if_eq (tgt := 65) hx hb dX1_isOpenWith_25 (by decide) (fun c29 => ?_) (fun c29 => ?_)
        · skip
          exact jn27 x10 H _ ls hf14 hM hS (lv_sub hl [0, 1, 2, 3, 4, 5] rfl)
        · skip
          obtain ⟨-, hr1, hr2⟩ := hw25.resolve_left c29
          refine lv_iconst (v := 1) hx hb dX1_isOpenWith_28 (by decide) ?_
          refine lv_istore (lv' := [(4, .int 1), (5, .int (nI j9)), (0, .ref o), (1, .int mp), (2, .int mo), (3, .int wm)]) hx hb dX1_isOpenWith_29 hl (by decide) rfl (fun ls hl => ?_)
          refine lv_aload_n hx hb dX1_isOpenWith_31 rfl (lv_at hl 2 rfl) ?_
          obtain ⟨u30, u31, u32, u33, u34, u35, hP, hf⟩ := o_st (i := i) (q := o) hM (by omega)
          refine va_get (D := (dC, dI)) (ci := 5) (v := .ref (pF g o 2)) (C := RX1) (T := TX1) (N := 15) hx hb hts (by decide +kernel) hown hK hP 0 rfl rfl 2 (by decide) (hts (.fieldLink RX1 19 "Snowpalace$Site" "creeps" "[I") (by decide +kernel)) (fun _ h9 => h9) rfl dX1_isOpenWith_32 ?_
          have ht36 : tg g (pF g o 2) = 14 := hf.2.2.1
          refine lv_iload hx hb dX1_isOpenWith_35 (lv_at hl 1 rfl) ?_
          obtain ⟨u37, hP, hf⟩ := o_in (i := 0) (q := (pF g o 2)) hM (by omega)
          refine va_iald (D := (dC, dI)) hx hb hK hP 0 0 rfl rfl (vp_in_nI (by omega) (by decide)) dX1_isOpenWith_37 ?_
          refine lv_topi (fun v38 e39 => ?_)
          have ec : ((nI j9) : Int32).toNatClampNeg = j9 := nI_clamp (by omega)
          rw [ec] at e39
          refine lv_sipush (v := 200) hx hb dX1_isOpenWith_38 (by decide) ?_
          have jn40 : ∀  (H : Heap) (locs : List Loc) (ls : Array Slot), TM (dC, dI) kA b g H → va_S (fun q => b ≤ q) s.heap H locs → lv_has ls 6 [(4, .int 1), (5, .int (nI j9)), (0, .ref o), (1, .int mp), (2, .int mo), (3, .int wm)] → W p l e (headSpec wsX1_isOpenWith ({ frames := 3, cells := 0, slots := 0, locals := 69 })).room s m args below meth c H locs 0 0 Q (F0 m 63 ls []) := by
            intro H locs ls hM hS hl
            refine lv_iconst (v := 0) hx hb dX1_isOpenWith_63 (by decide) ?_
            subst hQ
            refine W.widen (k := 0) (n := 0) (Nat.le_of_ble_eq_true rfl) (Nat.le_of_ble_eq_true rfl) ?_
            exact W.zret (v := 0) (ty := .boolean) hx hb hr rfl (fun t ht hW => ⟨⟨0, (), rfl, (Or.inl rfl), CX.give hb0 hM hK hG hE hS ht hW⟩, hS.F ht⟩) hS.2.2 dX1_isOpenWith_64
          refine lv_icmp_ge (tgt := 63) hx hb dX1_isOpenWith_41 (by decide) (fun c41 => ?_) (fun c41 => ?_)
          · skip
            have i42 := (Int32.le_iff_toInt_le).mp c41
            have ii42 : (200 : Int32).toInt = 200 := by decide
            have i42 := i42
            exact jn40 H _ ls hM hS (lv_sub hl [0, 1, 2, 3, 4, 5] rfl)
          · skip
            have i43 := fun z => c41 ((Int32.le_iff_toInt_le).mpr z)
            have ii43 : (200 : Int32).toInt = 200 := by decide
            have i43 : ¬ ((200 : Int32).toInt ≤ (v38 : Int32).toInt) := i43
            refine lv_aload_n hx hb dX1_isOpenWith_44 rfl (lv_at hl 2 rfl) ?_
            obtain ⟨u44, u45, u46, u47, u48, u49, hP, hf⟩ := o_st (i := i) (q := o) hM (by omega)
            refine va_get (D := (dC, dI)) (ci := 5) (v := .ref (pF g o 6)) (C := RX1) (T := TX1) (N := 15) hx hb hts (by decide +kernel) hown hK hP 0 rfl rfl 6 (by decide) (hts (.fieldLink RX1 32 "Snowpalace$Site" "loads" "[I") (by decide +kernel)) (fun _ h9 => h9) rfl dX1_isOpenWith_45 ?_
            have ht50 : tg g (pF g o 6) = 14 := hf.2.2.2.2.2.2.1
            refine lv_iload hx hb dX1_isOpenWith_48 (lv_at hl 1 rfl) ?_
            obtain ⟨u51, hP, hf⟩ := o_in (i := 0) (q := (pF g o 6)) hM (by omega)
            refine va_iald (D := (dC, dI)) hx hb hK hP 0 0 rfl rfl (vp_in_nI (by omega) (by decide)) dX1_isOpenWith_50 ?_
            refine lv_topi (fun v52 e53 => ?_)
            have ec : ((nI j9) : Int32).toNatClampNeg = j9 := nI_clamp (by omega)
            rw [ec] at e53
            refine lv_iconst (v := 2) hx hb dX1_isOpenWith_51 (by decide) ?_
            refine lv_imul hx hb dX1_isOpenWith_52 ?_
            refine lv_topi (fun v54 e55 => ?_)
            refine lv_aload_n hx hb dX1_isOpenWith_53 rfl (lv_at hl 2 rfl) ?_
            refine lv_iload hx hb dX1_isOpenWith_54 (lv_at hl 1 rfl) ?_
            refine lv_iload_n hx hb dX1_isOpenWith_56 rfl (lv_at hl 5 rfl) ?_
            obtain ⟨u56, u57, u58, u59, u60, u61, hP, hf⟩ := o_st (i := i) (q := o) hM (by omega)
            refine va_calli (va_runV (As := [.int (nI j9), .int wm]) (rest := [.int v54]) ⟨hx, hb, hml, hown, hts⟩ (rk_strengthOf l dC dI kA eD b g o i (nI j9) wm (by omega)) (cwV 2 hts gX1_isOpenWith_X1_strengthOf rfl rfl rfl (by decide +kernel) ⟨Nat.le_of_ble_eq_true rfl, Nat.le_of_ble_eq_true rfl⟩) ⟨fb_CX, va_recv hK hP (ci := 5) (q0 := 0) rfl rfl, fun U hU hW => ⟨rfl, CX.give hb0 hM hK hG hE hS hU hW⟩⟩ rfl rfl hl.1 rfl (lv_room (Nat.le_of_ble_eq_true rfl)) dX1_isOpenWith_57 ⟨(Nat.le_of_ble_eq_true rfl), (Nat.le_of_ble_eq_true rfl)⟩) hS (fun q _ h => h) (fun q h => h) (fun r62 u t H locs ht hvm hw63 hB hz1 hk1 hS => ?_)
            have hM := hB.back ht
            have hG := hB.2.2.2.1
            refine lv_icmp_le (tgt := 65) hx hb dX1_isOpenWith_60 (by decide) (fun c64 => ?_) (fun c64 => ?_)
            · skip
              have i65 := (Int32.le_iff_toInt_le).mp c64
              have i65 := i65
              exact jn27 1 H _ ls (Or.inr rfl) hM hS (lv_sub hl [1, 0, 2, 3, 4, 5] rfl)
            · skip
              have i66 := fun z => c64 ((Int32.le_iff_toInt_le).mpr z)
              have i66 : ¬ ((v54 : Int32).toInt ≤ (r62 : Int32).toInt) := i66
              exact jn40 H _ ls hM hS (lv_sub hl [0, 1, 2, 3, 4, 5] rfl)
  exact lp11 (48 + 1) 0 0 (by omega) (by omega) (by omega) H _ ls (Or.inl rfl) hM hS (lv_sub hl [0, 1, 2, 3, 4, 5] rfl)

set_option maxHeartbeats 4000000 in
set_option maxRecDepth 100000 in
theorem rk_bearsItself (l : Launch) (dC : Nat → ClassId) (dI : Nat → Nat → Nat) (kA : Nat → ClassId) (eD b : Nat) (g : Gh) (o : Nat) (i : Nat) (hto : tg g o = 12 + 64 * i)  : Met l yX1_bearsItself wsX1_bearsItself ({ frames := 3, cells := 0, slots := 0, locals := 69 }) (va_Pc [.ref o] (CX (dC, dI) kA eD b g)) (va_Qi (fun (r : Int32) (u : Unit) => r = 0 ∨ r = 1) (fun (u : Unit) t => CX (dC, dI) kA eD b g t) (fun q => b ≤ q)) 0 0 (fun q => b ≤ q) := by
  refine Met.ofW (cc := cX1_bearsItself) (maxL := 4) (ret := (some .boolean)) (by decide +kernel) rfl ?_
  intro p e s m args below meth c s₁ B hml hv
  obtain ⟨rfl, hb0, hM, hK, hG, hE⟩ := hv
  have hx := B.exec
  have hb := B.bytes
  have hr := B.returns
  have hts := atoms_spec (ws := wsX1_bearsItself) B.pre
  have hown : s.vm.findClass RX1 = some m.cls := findClass_of_methodNamed B.named
  have hlocks := B.notSynchronized
  have hT := hE.1
  have hN := hE.2.2.2.2.2.2.2.1
  have hS : va_S (fun q => b ≤ q) s.heap s.heap [] := va_S.rf
  have hl := lv_entry ([.ref o]) (n := 4) (Nat.le_of_ble_eq_true rfl)
  rw [lg_entry_eq]
  generalize (lg_sl ([.ref o]) ++ List.replicate (4 - (lg_sl ([.ref o])).length) Slot.unset).toArray = ls at hl ⊢
  have hl : lv_has ls 4 [(0, .ref o)] := hl
  generalize ([.ref o] : List Value).toArray = args at hts ⊢
  refine W.q (fun Q hQ => ?_)
  refine lv_aload_n hx hb dX1_bearsItself_0 rfl (lv_at hl 0 rfl) ?_
  refine lv_iconst (v := (-1)) hx hb dX1_bearsItself_1 (by decide) ?_
  refine lv_iconst (v := 0) hx hb dX1_bearsItself_2 (by decide) ?_
  obtain ⟨u1, u2, u3, u4, u5, u6, hP, hf⟩ := o_st (i := i) (q := o) hM (by omega)
  refine va_callv (va_runV (As := [.int (-1), .int 0]) (rest := []) ⟨hx, hb, hml, hown, hts⟩ (rk_weigh l dC dI kA eD b g o i (-1) 0 (by omega)) (cwV 2 hts gX1_bearsItself_X1_weigh rfl rfl rfl (by decide +kernel) ⟨Nat.le_of_ble_eq_true rfl, Nat.le_of_ble_eq_true rfl⟩) ⟨fb_CX, va_recv hK hP (ci := 5) (q0 := 0) rfl rfl, fun U hU hW => ⟨rfl, CX.give hb0 hM hK hG hE hS hU hW⟩⟩ rfl rfl hl.1 rfl (lv_room (Nat.le_of_ble_eq_true rfl)) dX1_bearsItself_3 ⟨(Nat.le_of_ble_eq_true rfl), (Nat.le_of_ble_eq_true rfl)⟩) hS (fun q _ h => h) (fun q h => h) (fun u t H locs ht hvm hw8 hB hz1 hk1 hS => ?_)
  have hM := hB.back ht
  have hG := hB.2.2.2.1
  refine lv_iconst (v := 0) hx hb dX1_bearsItself_6 (by decide) ?_
  refine lv_istore_n (lv' := [(1, .int 0), (0, .ref o)]) hx hb dX1_bearsItself_7 rfl hl (by decide) rfl (fun ls hl => ?_)
  refine lv_iconst (v := 0) hx hb dX1_bearsItself_8 (by decide) ?_
  refine lv_istore_n (lv' := [(2, .int 0), (1, .int 0), (0, .ref o)]) hx hb dX1_bearsItself_9 rfl hl (by decide) rfl (fun ls hl => ?_)
  refine lv_iconst (v := 0) hx hb dX1_bearsItself_10 (by decide) ?_
  refine lv_istore_n (lv' := [(3, .int 0), (2, .int 0), (1, .int 0), (0, .ref o)]) hx hb dX1_bearsItself_11 rfl hl (by decide) rfl (fun ls hl => ?_)
  have lp12 : ∀ (n13 j9 : Nat) (x10 : Int32) (x11 : Int32), 0 ≤ j9 → j9 ≤ 48 → 48 < j9 + n13 → ∀ (H : Heap) (locs : List Loc) (ls : Array Slot), TM (dC, dI) kA b g H → va_S (fun q => b ≤ q) s.heap H locs → lv_has ls 4 [(3, .int (nI j9)), (2, .int x10), (1, .int x11), (0, .ref o)] → W p l e (headSpec wsX1_bearsItself ({ frames := 3, cells := 0, slots := 0, locals := 69 })).room s m args below meth c H locs 0 0 Q (F0 m 12 ls []) := by
    intro n13
    induction n13 with
    | zero => intro j9 x10 x11 h0 h1 h2; omega
    | succ n13 ih14 =>
      intro j9 x10 x11 lj9 hj9 hn13 H locs ls hM hS hl
      refine lv_iload_n hx hb dX1_bearsItself_12 rfl (lv_at hl 0 rfl) ?_
      refine lv_bipush (v := 48) hx hb dX1_bearsItself_13 (by decide) ?_
      refine lv_icmp_ge (tgt := 70) hx hb dX1_bearsItself_15 (by decide) (fun c15 => ?_) (fun c15 => ?_)
      · skip
        have k16 : 48 ≤ j9 := (nI_leI (a := 48) (b := j9) (by omega) (by omega)).mp c15
        refine lv_iload_n hx hb dX1_bearsItself_70 rfl (lv_at hl 2 rfl) ?_
        refine lv_iload_n hx hb dX1_bearsItself_71 rfl (lv_at hl 1 rfl) ?_
        have jn18 : ∀ (x17 : Int32) (H : Heap) (locs : List Loc) (ls : Array Slot), (x17 = 0 ∨ x17 = 1) → TM (dC, dI) kA b g H → va_S (fun q => b ≤ q) s.heap H locs → lv_has ls 4 [(3, .int (nI j9)), (2, .int x10), (1, .int x11), (0, .ref o)] → W p l e (headSpec wsX1_bearsItself ({ frames := 3, cells := 0, slots := 0, locals := 69 })).room s m args below meth c H locs 0 0 Q (F0 m 80 ls [.int x17]) := by
          intro x17 H locs ls hj19 hM hS hl
          subst hQ
          refine W.widen (k := 0) (n := 0) (Nat.le_of_ble_eq_true rfl) (Nat.le_of_ble_eq_true rfl) ?_
          exact W.zret (v := x17) (ty := .boolean) hx hb hr (z01n hj19) (fun t ht hW => ⟨⟨x17, (), rfl, hj19, CX.give hb0 hM hK hG hE hS ht hW⟩, hS.F ht⟩) hS.2.2 dX1_bearsItself_80
        refine lv_icmp_ne (tgt := 79) hx hb dX1_bearsItself_72 (by decide) (fun c20 => ?_) (fun c20 => ?_)
        · skip
          refine lv_iconst (v := 0) hx hb dX1_bearsItself_79 (by decide) ?_
          exact jn18 0 H _ ls (Or.inl rfl) hM hS (lv_sub hl [0, 1, 2, 3] rfl)
        · skip
          refine lv_iconst (v := 1) hx hb dX1_bearsItself_75 (by decide) ?_
          refine lv_goto (tgt := 80) hx hb dX1_bearsItself_76 (by decide) ?_
          exact jn18 1 H _ ls (Or.inr rfl) hM hS (lv_sub hl [0, 1, 2, 3] rfl)
      · skip
        have k21 : ¬ (48 ≤ j9) := fun z => c15 ((nI_leI (a := 48) (b := j9) (by omega) (by omega)).mpr z)
        refine lv_aload_n hx hb dX1_bearsItself_18 rfl (lv_at hl 3 rfl) ?_
        refine lv_iload_n hx hb dX1_bearsItself_19 rfl (lv_at hl 0 rfl) ?_
        obtain ⟨u22, u23, u24, u25, u26, u27, hP, hf⟩ := o_st (i := i) (q := o) hM (by omega)
        refine va_calli (va_runV (As := [.int (nI j9)]) (rest := []) ⟨hx, hb, hml, hown, hts⟩ (rk_has l dC dI kA eD b g o i (nI j9) (by omega)) (cwV 1 hts gX1_bearsItself_X1_has rfl rfl rfl (by decide +kernel) ⟨Nat.le_of_ble_eq_true rfl, Nat.le_of_ble_eq_true rfl⟩) ⟨fb_CX, va_recv hK hP (ci := 5) (q0 := 0) rfl rfl, fun U hU hW => ⟨rfl, CX.give hb0 hM hK hG hE hS hU hW⟩⟩ rfl rfl hl.1 rfl (lv_room (Nat.le_of_ble_eq_true rfl)) dX1_bearsItself_20 ⟨(Nat.le_of_ble_eq_true rfl), (Nat.le_of_ble_eq_true rfl)⟩) hS (fun q _ h => h) (fun q h => h) (fun r28 u t H locs ht hvm hw29 hB hz1 hk1 hS => ?_)
        have hM := hB.back ht
        have hG := hB.2.2.2.1
        have jn32 : ∀ (x30 : Int32) (x31 : Int32) (H : Heap) (locs : List Loc) (ls : Array Slot), TM (dC, dI) kA b g H → va_S (fun q => b ≤ q) s.heap H locs → lv_has ls 4 [(3, .int (nI j9)), (2, .int x30), (1, .int x31), (0, .ref o)] → W p l e (headSpec wsX1_bearsItself ({ frames := 3, cells := 0, slots := 0, locals := 69 })).room s m args below meth c H locs 0 0 Q (F0 m 64 ls []) := by
          intro x30 x31 H locs ls hM hS hl
          refine lv_iinc (v := (nI (j9 + 1))) (lv' := [(3, .int (nI (j9 + 1))), (2, .int x30), (1, .int x31), (0, .ref o)]) hx hb dX1_bearsItself_64 hl (k := 0) rfl (nI_add j9 1) (by decide) rfl (fun ls hl => ?_)
          refine lv_goto (tgt := 12) hx hb dX1_bearsItself_67 (by decide) ?_
          exact ih14 ((j9 + 1)) x30 x31 (by omega) (by omega) (by omega) H _ ls  hM hS (lv_sub hl [0, 1, 2, 3] rfl)
        refine lv_if_eq (tgt := 64) hx hb dX1_bearsItself_23 (by decide) (fun c33 => ?_) (fun c33 => ?_)
        · skip
          exact jn32 x10 x11 H _ ls hM hS (lv_sub hl [0, 1, 2, 3] rfl)
        · skip
          obtain ⟨-, hr1, hr2⟩ := hw29.resolve_left c33
          refine lv_aload_n hx hb dX1_bearsItself_26 rfl (lv_at hl 3 rfl) ?_
          refine lv_iload_n hx hb dX1_bearsItself_27 rfl (lv_at hl 0 rfl) ?_
          obtain ⟨u34, u35, u36, u37, u38, u39, hP, hf⟩ := o_st (i := i) (q := o) hM (by omega)
          refine va_calli (va_runV (As := [.int (nI j9)]) (rest := []) ⟨hx, hb, hml, hown, hts⟩ (rk_wouldStand l dC dI kA eD b g o i j9 (by omega) (by omega)) (cwV 1 hts gX1_bearsItself_X1_wouldStand rfl rfl rfl (by decide +kernel) ⟨Nat.le_of_ble_eq_true rfl, Nat.le_of_ble_eq_true rfl⟩) ⟨fb_CX, va_recv hK hP (ci := 5) (q0 := 0) rfl rfl, fun U hU hW => ⟨rfl, CX.give hb0 hM hK hG hE hS hU hW⟩⟩ rfl rfl hl.1 rfl (lv_room (Nat.le_of_ble_eq_true rfl)) dX1_bearsItself_28 ⟨(Nat.le_of_ble_eq_true rfl), (Nat.le_of_ble_eq_true rfl)⟩) hS (fun q _ h => h) (fun q h => h) (fun r40 u t H locs ht hvm hw41 hB hz1 hk1 hS => ?_)
          have hM := hB.back ht
          have hG := hB.2.2.2.1
          refine lv_if_ne (tgt := 36) hx hb dX1_bearsItself_31 (by decide) (fun c42 => ?_) (fun c42 => ?_)
          · skip
            refine lv_iload_n hx hb dX1_bearsItself_36 rfl (lv_at hl 2 rfl) ?_
            refine lv_aload_n hx hb dX1_bearsItself_37 rfl (lv_at hl 3 rfl) ?_
            obtain ⟨u43, u44, u45, u46, u47, u48, hP, hf⟩ := o_st (i := i) (q := o) hM (by omega)
            refine va_get (D := (dC, dI)) (ci := 5) (v := .ref (pF g o 1)) (C := RX1) (T := TX1) (N := 15) hx hb hts (by decide +kernel) hown hK hP 0 rfl rfl 1 (by decide) (hts (.fieldLink RX1 15 "Snowpalace$Site" "masses" "[I") (by decide +kernel)) (fun _ h9 => h9) rfl dX1_bearsItself_38 ?_
            have ht49 : tg g (pF g o 1) = 14 := hf.2.1
            refine lv_iload_n hx hb dX1_bearsItself_41 rfl (lv_at hl 0 rfl) ?_
            obtain ⟨u50, hP, hf⟩ := o_in (i := 0) (q := (pF g o 1)) hM (by omega)
            refine va_iald (D := (dC, dI)) hx hb hK hP 0 0 rfl rfl (vp_in_nI (by omega) (by decide)) dX1_bearsItself_42 ?_
            refine lv_topi (fun v51 e52 => ?_)
            have ec : ((nI j9) : Int32).toNatClampNeg = j9 := nI_clamp (by omega)
            rw [ec] at e52
            refine lv_iadd hx hb dX1_bearsItself_43 ?_
            refine lv_topi (fun v53 e54 => ?_)
            refine lv_istore_n (lv' := [(1, .int v53), (3, .int (nI j9)), (2, .int x10), (0, .ref o)]) hx hb dX1_bearsItself_44 rfl hl (by decide) rfl (fun ls hl => ?_)
            refine lv_iload_n hx hb dX1_bearsItself_45 rfl (lv_at hl 2 rfl) ?_
            refine lv_iload_n hx hb dX1_bearsItself_46 rfl (lv_at hl 1 rfl) ?_
            refine lv_bipush (v := 8) hx hb dX1_bearsItself_47 (by decide) ?_
            have jn56 : ∀ (x55 : Int32) (H : Heap) (locs : List Loc) (ls : Array Slot), TM (dC, dI) kA b g H → va_S (fun q => b ≤ q) s.heap H locs → lv_has ls 4 [(1, .int v53), (3, .int (nI j9)), (2, .int x10), (0, .ref o)] → W p l e (headSpec wsX1_bearsItself ({ frames := 3, cells := 0, slots := 0, locals := 69 })).room s m args below meth c H locs 0 0 Q (F0 m 62 ls [.int x55, .int x10]) := by
              intro x55 H locs ls hM hS hl
              refine lv_iadd hx hb dX1_bearsItself_62 ?_
              refine lv_topi (fun v57 e58 => ?_)
              refine lv_istore_n (lv' := [(2, .int v57), (1, .int v53), (3, .int (nI j9)), (0, .ref o)]) hx hb dX1_bearsItself_63 rfl hl (by decide) rfl (fun ls hl => ?_)
              exact jn32 v57 v53 H _ ls hM hS (lv_sub hl [2, 0, 1, 3] rfl)
            refine lv_icmp_ge (tgt := 61) hx hb dX1_bearsItself_49 (by decide) (fun c59 => ?_) (fun c59 => ?_)
            · skip
              have k60 : 8 ≤ j9 := (nI_leI (a := 8) (b := j9) (by omega) (by omega)).mp c59
              refine lv_iconst (v := 0) hx hb dX1_bearsItself_61 (by decide) ?_
              exact jn56 0 H _ ls hM hS (lv_sub hl [0, 1, 2, 3] rfl)
            · skip
              have k61 : ¬ (8 ≤ j9) := fun z => c59 ((nI_leI (a := 8) (b := j9) (by omega) (by omega)).mpr z)
              refine lv_aload_n hx hb dX1_bearsItself_52 rfl (lv_at hl 3 rfl) ?_
              obtain ⟨u62, u63, u64, u65, u66, u67, hP, hf⟩ := o_st (i := i) (q := o) hM (by omega)
              refine va_get (D := (dC, dI)) (ci := 5) (v := .ref (pF g o 6)) (C := RX1) (T := TX1) (N := 15) hx hb hts (by decide +kernel) hown hK hP 0 rfl rfl 6 (by decide) (hts (.fieldLink RX1 32 "Snowpalace$Site" "loads" "[I") (by decide +kernel)) (fun _ h9 => h9) rfl dX1_bearsItself_53 ?_
              have ht68 : tg g (pF g o 6) = 14 := hf.2.2.2.2.2.2.1
              refine lv_iload_n hx hb dX1_bearsItself_56 rfl (lv_at hl 1 rfl) ?_
              obtain ⟨u69, hP, hf⟩ := o_in (i := 0) (q := (pF g o 6)) hM (by omega)
              refine va_iald (D := (dC, dI)) hx hb hK hP 0 0 rfl rfl (vp_in_nI (by omega) (by decide)) dX1_bearsItself_57 ?_
              refine lv_topi (fun v70 e71 => ?_)
              have ec : ((nI j9) : Int32).toNatClampNeg = j9 := nI_clamp (by omega)
              rw [ec] at e71
              refine lv_goto (tgt := 62) hx hb dX1_bearsItself_58 (by decide) ?_
              exact jn56 v70 H _ ls hM hS (lv_sub hl [0, 1, 2, 3] rfl)
          · skip
            refine lv_iconst (v := 0) hx hb dX1_bearsItself_34 (by decide) ?_
            subst hQ
            refine W.widen (k := 0) (n := 0) (Nat.le_of_ble_eq_true rfl) (Nat.le_of_ble_eq_true rfl) ?_
            exact W.zret (v := 0) (ty := .boolean) hx hb hr rfl (fun t ht hW => ⟨⟨0, (), rfl, (Or.inl rfl), CX.give hb0 hM hK hG hE hS ht hW⟩, hS.F ht⟩) hS.2.2 dX1_bearsItself_35
  exact lp12 (48 + 1) 0 0 0 (by omega) (by omega) (by omega) H _ ls  hM hS (lv_sub hl [0, 1, 2, 3] rfl)
