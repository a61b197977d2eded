set_option maxHeartbeats 4000000 in
set_option maxRecDepth 100000 in
theorem rk_weighT (l : Launch) (dC : Nat → ClassId) (dI : Nat → Nat → Nat) (kA : Nat → ClassId) (eD b : Nat) (g : Gh) (o : Nat) (i : Nat) (M0 L0 : Nat → Int32) (mp mo : Int32) (hto : tg g o = 12 + 64 * i)  : Met l yX1_weigh wsX1_weigh ({ frames := 2, cells := 0, slots := 0, locals := 43 }) (va_Pc [.ref o, .int mp, .int mo] (fun U => CX (dC, dI) kA eD b g U ∧ va_P (dC, dI) vwCl [((pF g o 1), .inl (kA 0, 48, .inl M0))] U.heap ∧ va_P (dC, dI) vwCl [((pF g o 6), .inl (kA 0, 48, .inl L0))] U.heap)) (va_Qv (fun (u : Unit) => True) (fun (u : Unit) t => (CX (dC, dI) kA eD b g t ∧ (va_P (dC, dI) vwCl [((pF g o 1), .inl (kA 0, 48, .inl M0))] t.heap ∧ va_P (dC, dI) vwCl [((pF g o 6), .inl (kA 0, 48, .inl (wW (pI g (pF g o 0)) M0 mp mo L0 6)))] t.heap))) (fun q => b ≤ q)) 0 0 (fun q => b ≤ q) := by
  refine Met.ofW (cc := cX1_weigh) (maxL := 7) (ret := none) (by decide +kernel) rfl ?_
  intro p e s m args below meth c s₁ B hml hv
  obtain ⟨rfl, ⟨hb0, hM, hK, hG, hE⟩, hpre⟩ := hv
  have hx := B.exec
  have hb := B.bytes
  have hr := B.returns
  have hts := atoms_spec (ws := wsX1_weigh) B.pre
  have hown : s.vm.findClass RX1 = some m.cls := findClass_of_methodNamed B.named
  have hlocks := B.notSynchronized
  have hT := hE.1
  have hN := hE.2.2.2.2.2.2.2.1
  have hS : va_S (fun q => b ≤ q) s.heap s.heap [] := va_S.rf
  have hl := lv_entry ([.ref o, .int mp, .int mo]) (n := 7) (Nat.le_of_ble_eq_true rfl)
  rw [lg_entry_eq]
  generalize (lg_sl ([.ref o, .int mp, .int mo]) ++ List.replicate (7 - (lg_sl ([.ref o, .int mp, .int mo])).length) Slot.unset).toArray = ls at hl ⊢
  have hl : lv_has ls 7 [(0, .ref o), (1, .int mp), (2, .int mo)] := hl
  generalize ([.ref o, .int mp, .int mo] : List Value).toArray = args at hts ⊢
  refine W.q (fun Q hQ => ?_)
  obtain ⟨hPm, hPl⟩ := hpre
  obtain ⟨_, _, _, _, _, _, -, hst9⟩ := o_st (i := i) (q := o) hM (by omega)
  have ht1 : tg g (pF g o 1) = 21 := hst9.2.1
  have ht2 : tg g (pF g o 6) = 23 := hst9.2.2.2.2.2.2.1
  refine lv_iconst (v := 5) hx hb dX1_weigh_0 (by decide) ?_
  refine lv_istore_n (lv' := [(3, .int 5), (0, .ref o), (1, .int mp), (2, .int mo)]) hx hb dX1_weigh_1 rfl hl (by decide) rfl (fun ls hl => ?_)
  have lp5 : ∀ (j3 : Nat), j3 ≤ 6 → ∀ (H : Heap) (locs : List Loc) (ls : Array Slot), va_P (dC, dI) vwCl [((pF g o 1), .inl (kA 0, 48, .inl M0))] H → va_P (dC, dI) vwCl [((pF g o 6), .inl (kA 0, 48, .inl (wW (pI g (pF g o 0)) M0 mp mo L0 (6 - j3))))] H → TM (dC, dI) kA b g H → va_S (fun q => b ≤ q) s.heap H locs → lv_has ls 7 [(3, .int (nI j3 - 1)), (0, .ref o), (1, .int mp), (2, .int mo)] → W p l e (headSpec wsX1_weigh ({ frames := 2, cells := 0, slots := 0, locals := 43 })).room s m args below meth c H locs 0 0 Q (F0 m 2 ls []) := by
    intro j3
    induction j3 with
    | zero =>
      intro hj3 H locs ls hPm hPl hM hS hl
      rw [show (nI 0 - 1 : Int32) = -1 by decide] at hl
      have hl : lv_has ls 7 [(3, .int (-1)), (0, .ref o), (1, .int mp), (2, .int mo)] := hl
      refine lv_iload_n hx hb dX1_weigh_2 rfl (lv_at hl 0 rfl) ?_
      refine lv_if_lt (tgt := 192) hx hb dX1_weigh_3 (by decide) (fun _ => ?_) (fun cx => by first | exact absurd (by decide) cx | exact absurd cx (by decide))
      subst hQ
      refine W.widen (k := 0) (n := 0) (Nat.le_of_ble_eq_true rfl) (Nat.le_of_ble_eq_true rfl) ?_
      exact W.vret hx hb hr (fun t ht hW => ⟨⟨(), rfl, trivial, ⟨CX.give hb0 hM hK hG hE hS ht hW, by rw [ht]; exact hPm, by first | (rw [ht]; exact hPl) | (exfalso; omega)⟩⟩, hS.F ht⟩) hS.2.2 dX1_weigh_192
    | succ j3 ih4 =>
      intro hj3 H locs ls hPm hPl hM hS hl
      rw [nI_pred j3] at hl
      have hl : lv_has ls 7 [(3, .int (nI j3)), (0, .ref o), (1, .int mp), (2, .int mo)] := hl
      have hl9 := hPl
      rw [show (wW (pI g (pF g o 0)) M0 mp mo L0 (6 - (j3 + 1))) = (wW (pI g (pF g o 0)) M0 mp mo L0 (5 - j3)) from (by rw [show 6 - (j3 + 1) = 5 - j3 by omega])] at hl9
      have hPl := hl9
      refine lv_iload_n hx hb dX1_weigh_2 rfl (lv_at hl 0 rfl) ?_
      refine lv_if_lt (tgt := 192) hx hb dX1_weigh_3 (by decide) (fun c6 => ?_) (fun c6 => ?_)
      · skip
        have k7 : j3 < 0 := (nI_ltI (a := j3) (b := 0) (by omega) (by omega)).mp c6
        subst hQ
        refine W.widen (k := 0) (n := 0) (Nat.le_of_ble_eq_true rfl) (Nat.le_of_ble_eq_true rfl) ?_
        exact W.vret hx hb hr (fun t ht hW => ⟨⟨(), rfl, trivial, ⟨CX.give hb0 hM hK hG hE hS ht hW, by rw [ht]; exact hPm, by first | (rw [ht]; exact hPl) | (exfalso; omega)⟩⟩, hS.F ht⟩) hS.2.2 dX1_weigh_192
      · skip
        have k8 : ¬ (j3 < 0) := fun z => c6 ((nI_ltI (a := j3) (b := 0) (by omega) (by omega)).mpr z)
        refine lv_iconst (v := 0) hx hb dX1_weigh_6 (by decide) ?_
        refine lv_istore (lv' := [(4, .int 0), (3, .int (nI j3)), (0, .ref o), (1, .int mp), (2, .int mo)]) hx hb dX1_weigh_7 hl (by decide) rfl (fun ls hl => ?_)
        have lp12 : ∀ (n10 j9 : Nat), 0 ≤ j9 → j9 ≤ 8 → 8 < j9 + n10 → ∀ (H : Heap) (locs : List Loc) (ls : Array Slot), va_P (dC, dI) vwCl [((pF g o 1), .inl (kA 0, 48, .inl M0))] H → va_P (dC, dI) vwCl [((pF g o 6), .inl (kA 0, 48, .inl (wA (pI g (pF g o 0)) M0 mp mo j3 (wW (pI g (pF g o 0)) M0 mp mo L0 (5 - j3)) j9)))] H → TM (dC, dI) kA b g H → va_S (fun q => b ≤ q) s.heap H locs → lv_has ls 7 [(4, .int (nI j9)), (3, .int (nI j3)), (0, .ref o), (1, .int mp), (2, .int mo)] → W p l e (headSpec wsX1_weigh ({ frames := 2, cells := 0, slots := 0, locals := 43 })).room s m args below meth c H locs 0 0 Q (F0 m 9 ls []) := by
          intro n10
          induction n10 with
          | zero => intro j9 h0 h1 h2; omega
          | succ n10 ih11 =>
            intro j9 lj9 hj9 hn10 H locs ls hPm hPl hM hS hl
            refine lv_iload hx hb dX1_weigh_9 (lv_at hl 0 rfl) ?_
            refine lv_bipush (v := 8) hx hb dX1_weigh_11 (by decide) ?_
            refine lv_icmp_ge (tgt := 97) hx hb dX1_weigh_13 (by decide) (fun c13 => ?_) (fun c13 => ?_)
            · skip
              have k14 : 8 ≤ j9 := (nI_leI (a := 8) (b := j9) (by omega) (by omega)).mp c13
              refine lv_iconst (v := 1) hx hb dX1_weigh_97 (by decide) ?_
              refine lv_istore (lv' := [(4, .int 1), (3, .int (nI j3)), (0, .ref o), (1, .int mp), (2, .int mo)]) hx hb dX1_weigh_98 hl (by decide) rfl (fun ls hl => ?_)
              have lp18 : ∀ (n16 j15 : Nat), 1 ≤ j15 → j15 ≤ 7 → 7 < j15 + n16 → ∀ (H : Heap) (locs : List Loc) (ls : Array Slot), va_P (dC, dI) vwCl [((pF g o 1), .inl (kA 0, 48, .inl M0))] H → va_P (dC, dI) vwCl [((pF g o 6), .inl (kA 0, 48, .inl (wB (pI g (pF g o 0)) j3 (wA (pI g (pF g o 0)) M0 mp mo j3 (wW (pI g (pF g o 0)) M0 mp mo L0 (5 - j3)) 8) (j15 - 1))))] H → TM (dC, dI) kA b g H → va_S (fun q => b ≤ q) s.heap H locs → lv_has ls 7 [(4, .int (nI j15)), (3, .int (nI j3)), (0, .ref o), (1, .int mp), (2, .int mo)] → W p l e (headSpec wsX1_weigh ({ frames := 2, cells := 0, slots := 0, locals := 43 })).room s m args below meth c H locs 0 0 Q (F0 m 100 ls []) := by
                intro n16
                induction n16 with
                | zero => intro j15 h0 h1 h2; omega
                | succ n16 ih17 =>
                  intro j15 lj15 hj15 hn16 H locs ls hPm hPl hM hS hl
                  refine lv_iload hx hb dX1_weigh_100 (lv_at hl 0 rfl) ?_
                  refine lv_bipush (v := 7) hx hb dX1_weigh_102 (by decide) ?_
                  refine lv_icmp_ge (tgt := 186) hx hb dX1_weigh_104 (by decide) (fun c19 => ?_) (fun c19 => ?_)
                  · skip
                    have k20 : 7 ≤ j15 := (nI_leI (a := 7) (b := j15) (by omega) (by omega)).mp c19
                    refine lv_iinc (v := ((nI j3) - 1)) (lv' := [(3, .int ((nI j3) - 1)), (4, .int (nI j15)), (0, .ref o), (1, .int mp), (2, .int mo)]) hx hb dX1_weigh_186 hl (k := 1) rfl (i_dec _) (by decide) rfl (fun ls hl => ?_)
                    refine lv_goto (tgt := 2) hx hb dX1_weigh_189 (by decide) ?_
                    have hPl := hPl
                    rw [show (wB (pI g (pF g o 0)) j3 (wA (pI g (pF g o 0)) M0 mp mo j3 (wW (pI g (pF g o 0)) M0 mp mo L0 (5 - j3)) 8) (j15 - 1)) = (wW (pI g (pF g o 0)) M0 mp mo L0 (6 - j3)) from (by have e9 : j15 = 7 := (by omega); rw [e9]; exact (wW_step (by omega)).symm)] at hPl
                    exact ih4 (by omega) H _ ls hPm hPl hM hS (lv_sub hl [0, 2, 3, 4] rfl)
                  · skip
                    have k21 : ¬ (7 ≤ j15) := fun z => c19 ((nI_leI (a := 7) (b := j15) (by omega) (by omega)).mpr z)
                    refine lv_iload hx hb dX1_weigh_107 (lv_at hl 0 rfl) ?_
                    refine lv_iload_n hx hb dX1_weigh_109 rfl (lv_at hl 1 rfl) ?_
                    refine va_calli (va_runSN (As := [.int (nI j15), .int (nI j3)]) (rest := []) ⟨hx, hb, hml, hown, hts⟩ (rk_placeOf l (nI j15) (nI j3)) (⟨va_cnB 2 hts gX1_weigh_X3_placeOf_n96 rfl rfl rfl (hN (.methodLinkNest RX1 96 yX3_placeOf RX3) (by decide +kernel)) (hts (.initialized RX3) (by decide +kernel)) (by decide +kernel) ⟨Nat.le_of_ble_eq_true rfl, Nat.le_of_ble_eq_true rfl⟩, hts (.static yX3_placeOf) (by decide +kernel), trivial⟩) ⟨fun a U g mk q => q, fun U hU hW => ⟨rfl, trivial⟩⟩ rfl rfl hl.1 rfl (lv_room (Nat.le_of_ble_eq_true rfl)) dX1_weigh_110 ⟨(Nat.le_of_ble_eq_true rfl), (Nat.le_of_ble_eq_true rfl)⟩) hS (fun q _ h => h.elim) (fun q h => h.elim) (fun r22 u t H locs ht hvm hw23 hB hz1 hk1 hS => ?_)
                    have hM := hM.keep (fun p hp => hk1 p hp (fun z => z))
                    have hPm := pin_keep hPm hk1
                    have hPl := pin_keep hPl hk1
                    obtain rfl : r22 = nI (8 * j3 + j15) := hw23.trans (by rw [show (8 : Int32) = nI 8 from rfl]; exact (congrArg (· + nI j15) (pk_mul 8 j3)).trans (nI_add _ _))
                    refine lv_istore (lv' := [(5, .int (nI (8 * j3 + j15))), (4, .int (nI j15)), (3, .int (nI j3)), (0, .ref o), (1, .int mp), (2, .int mo)]) hx hb dX1_weigh_113 hl (by decide) rfl (fun ls hl => ?_)
                    refine lv_aload_n hx hb dX1_weigh_115 rfl (lv_at hl 3 rfl) ?_
                    refine lv_iload hx hb dX1_weigh_116 (lv_at hl 0 rfl) ?_
                    obtain ⟨u24, u25, u26, u27, u28, u29, hP, hf⟩ := o_st (i := i) (q := o) hM (by omega)
                    refine va_calli (va_runV (As := [.int (nI (8 * j3 + j15))]) (rest := []) ⟨hx, hb, hml, hown, hts⟩ (rk_has l dC dI kA eD b g o i (nI (8 * j3 + j15)) (by omega)) (cwV 1 hts gX1_weigh_X1_has rfl rfl rfl (by decide +kernel) ⟨Nat.le_of_ble_eq_true rfl, Nat.le_of_ble_eq_true rfl⟩) ⟨fb_CX, va_recv hK hP (ci := 5) (q0 := 0) rfl rfl, fun U hU hW => ⟨rfl, CX.give hb0 hM hK hG hE hS hU hW⟩⟩ rfl rfl hl.1 rfl (lv_room (Nat.le_of_ble_eq_true rfl)) dX1_weigh_118 ⟨(Nat.le_of_ble_eq_true rfl), (Nat.le_of_ble_eq_true rfl)⟩) hS (fun q _ h => h.elim) (fun q h => h.elim) (fun r30 u t H locs ht hvm hw31 hB hz1 hk1 hS => ?_)
                    have hM := hB.back ht
                    have hPm := pin_keep hPm hk1
                    have hPl := pin_keep hPl hk1
                    have hG := hB.2.2.2.1
                    refine lv_if_eq (tgt := 180) hx hb dX1_weigh_121 (by decide) (fun c32 => ?_) (fun c32 => ?_)
                    · skip
                      have hk33 : (pI g (pF g o 0)) (8 * j3 + j15) = 46 := (hw31.resolve_right (fun z => absurd (z.1.symm.trans c32) (by decide))).2 (8 * j3 + j15) rfl (by omega)
                      refine lv_iinc (v := (nI (j15 + 1))) (lv' := [(4, .int (nI (j15 + 1))), (5, .int (nI (8 * j3 + j15))), (3, .int (nI j3)), (0, .ref o), (1, .int mp), (2, .int mo)]) hx hb dX1_weigh_180 hl (k := 1) rfl (nI_add j15 1) (by decide) rfl (fun ls hl => ?_)
                      refine lv_goto (tgt := 100) hx hb dX1_weigh_183 (by decide) ?_
                      have hPl := hPl
                      rw [show (wB (pI g (pF g o 0)) j3 (wA (pI g (pF g o 0)) M0 mp mo j3 (wW (pI g (pF g o 0)) M0 mp mo L0 (5 - j3)) 8) (j15 - 1)) = (wB (pI g (pF g o 0)) j3 (wA (pI g (pF g o 0)) M0 mp mo j3 (wW (pI g (pF g o 0)) M0 mp mo L0 (5 - j3)) 8) ((j15 + 1) - 1)) from (by first | exact (wB_none j15 lj15 (by assumption)).symm | exact (wB_none2 j15 lj15 (by assumption)).symm | exact (wB_arch j15 lj15 (by assumption) (by assumption)).symm)] at hPl
                      exact ih17 ((j15 + 1)) (by omega) (by omega) (by omega) H _ ls hPm hPl hM hS (lv_sub hl [0, 2, 3, 4, 5] rfl)
                    · skip
                      have hk34 : ¬ (pI g (pF g o 0)) (8 * j3 + j15) = 46 := by obtain ⟨-, jz9, ez9, hz9, hz8⟩ := hw31.resolve_left (fun z => c32 z.1); rw [(nI_eq (a := (8 * j3 + j15)) (b := jz9) (by omega) (by omega)).mp ez9]; exact hz8
                      refine lv_aload_n hx hb dX1_weigh_124 rfl (lv_at hl 3 rfl) ?_
                      refine lv_iload hx hb dX1_weigh_125 (lv_at hl 0 rfl) ?_
                      obtain ⟨u35, u36, u37, u38, u39, u40, hP, hf⟩ := o_st (i := i) (q := o) hM (by omega)
                      refine va_calli (va_runV (As := [.int (nI (8 * j3 + j15))]) (rest := []) ⟨hx, hb, hml, hown, hts⟩ (rk_spans l dC dI kA eD b g o i (8 * j3 + j15) (by omega) (by omega)) (cwV 1 hts gX1_weigh_X1_spans rfl rfl rfl (by decide +kernel) ⟨Nat.le_of_ble_eq_true rfl, Nat.le_of_ble_eq_true rfl⟩) ⟨fb_CX, va_recv hK hP (ci := 5) (q0 := 0) rfl rfl, fun U hU hW => ⟨rfl, CX.give hb0 hM hK hG hE hS hU hW⟩⟩ rfl rfl hl.1 rfl (lv_room (Nat.le_of_ble_eq_true rfl)) dX1_weigh_127 ⟨(Nat.le_of_ble_eq_true rfl), (Nat.le_of_ble_eq_true rfl)⟩) hS (fun q _ h => h.elim) (fun q h => h.elim) (fun r41 u t H locs ht hvm hw42 hB hz1 hk1 hS => ?_)
                      have hM := hB.back ht
                      have hPm := pin_keep hPm hk1
                      have hPl := pin_keep hPl hk1
                      have hG := hB.2.2.2.1
                      refine lv_if_eq (tgt := 180) hx hb dX1_weigh_130 (by decide) (fun c43 => ?_) (fun c43 => ?_)
                      · skip
                        have hk44 : ¬ SP (pI g (pF g o 0)) (8 * j3 + j15) := (hw42.resolve_right (fun z => absurd (z.1.symm.trans c43) (by decide))).2
                        refine lv_iinc (v := (nI (j15 + 1))) (lv' := [(4, .int (nI (j15 + 1))), (5, .int (nI (8 * j3 + j15))), (3, .int (nI j3)), (0, .ref o), (1, .int mp), (2, .int mo)]) hx hb dX1_weigh_180 hl (k := 1) rfl (nI_add j15 1) (by decide) rfl (fun ls hl => ?_)
                        refine lv_goto (tgt := 100) hx hb dX1_weigh_183 (by decide) ?_
                        have hPl := hPl
                        rw [show (wB (pI g (pF g o 0)) j3 (wA (pI g (pF g o 0)) M0 mp mo j3 (wW (pI g (pF g o 0)) M0 mp mo L0 (5 - j3)) 8) (j15 - 1)) = (wB (pI g (pF g o 0)) j3 (wA (pI g (pF g o 0)) M0 mp mo j3 (wW (pI g (pF g o 0)) M0 mp mo L0 (5 - j3)) 8) ((j15 + 1) - 1)) from (by first | exact (wB_none j15 lj15 (by assumption)).symm | exact (wB_none2 j15 lj15 (by assumption)).symm | exact (wB_arch j15 lj15 (by assumption) (by assumption)).symm)] at hPl
                        exact ih17 ((j15 + 1)) (by omega) (by omega) (by omega) H _ ls hPm hPl hM hS (lv_sub hl [0, 2, 3, 4, 5] rfl)
                      · skip
                        have hk45 : SP (pI g (pF g o 0)) (8 * j3 + j15) := (hw42.resolve_left (fun z => c43 z.1)).2
                        refine lv_aload_n hx hb dX1_weigh_133 rfl (lv_at hl 3 rfl) ?_
                        obtain ⟨u46, u47, u48, u49, u50, u51, hP, hf⟩ := o_st (i := i) (q := o) hM (by omega)
                        refine va_get (D := (dC, dI)) (ci := 5) (v := .ref (pF g o 6)) (C := RX1) (T := TX1) (N := 15) hx hb hts (by decide +kernel) hown hK hP 0 rfl rfl 6 (by decide) (hts (.fieldLink RX1 32 "Snowpalace$Site" "loads" "[I") (by decide +kernel)) (fun _ h9 => h9) rfl dX1_weigh_134 ?_
                        refine lv_iload hx hb dX1_weigh_137 (lv_at hl 0 rfl) ?_
                        have hP := hPl
                        have hf : True := trivial
                        refine va_iald (D := (dC, dI)) hx hb hK hP 0 0 rfl rfl (vp_in_nI (by omega) (by decide)) dX1_weigh_139 ?_
                        refine lv_topi (fun v52 e53 => ?_)
                        have ec : ((nI (8 * j3 + j15)) : Int32).toNatClampNeg = (8 * j3 + j15) := nI_clamp (by omega)
                        rw [ec] at e53
                        subst e53
                        refine lv_iconst (v := 2) hx hb dX1_weigh_140 (by decide) ?_
                        refine lv_idiv hx hb dX1_weigh_141 (by decide) ?_
                        refine lv_topi (fun v54 e55 => ?_)
                        subst e55
                        refine lv_istore (lv' := [(6, .int (((wB (pI g (pF g o 0)) j3 (wA (pI g (pF g o 0)) M0 mp mo j3 (wW (pI g (pF g o 0)) M0 mp mo L0 (5 - j3)) 8) (j15 - 1)) (8 * j3 + j15)) / 2)), (5, .int (nI (8 * j3 + j15))), (4, .int (nI j15)), (3, .int (nI j3)), (0, .ref o), (1, .int mp), (2, .int mo)]) hx hb dX1_weigh_142 hl (by decide) rfl (fun ls hl => ?_)
                        refine lv_aload_n hx hb dX1_weigh_144 rfl (lv_at hl 4 rfl) ?_
                        obtain ⟨u56, u57, u58, u59, u60, u61, hP, hf⟩ := o_st (i := i) (q := o) hM (by omega)
                        refine va_get (D := (dC, dI)) (ci := 5) (v := .ref (pF g o 6)) (C := RX1) (T := TX1) (N := 15) hx hb hts (by decide +kernel) hown hK hP 0 rfl rfl 6 (by decide) (hts (.fieldLink RX1 32 "Snowpalace$Site" "loads" "[I") (by decide +kernel)) (fun _ h9 => h9) rfl dX1_weigh_145 ?_
                        refine lv_iload hx hb dX1_weigh_148 (lv_at hl 1 rfl) ?_
                        refine lv_iconst (v := 1) hx hb dX1_weigh_150 (by decide) ?_
                        refine lv_isub hx hb dX1_weigh_151 ?_
                        refine lv_topi (fun v62 e63 => ?_)
                        obtain rfl : v62 = nI ((8 * j3 + j15) - 1) := e63.trans (pk_sub (a := (8 * j3 + j15)) (b := 1) (by omega))
                        refine lv_dup2_11 hx hb dX1_weigh_152 rfl rfl ?_
                        have hP := hPl
                        have hf : True := trivial
                        refine va_iald (D := (dC, dI)) hx hb hK hP 0 0 rfl rfl (vp_in_nI (by omega) (by decide)) dX1_weigh_153 ?_
                        refine lv_topi (fun v64 e65 => ?_)
                        have ec : ((nI ((8 * j3 + j15) - 1)) : Int32).toNatClampNeg = ((8 * j3 + j15) - 1) := nI_clamp (by omega)
                        rw [ec] at e65
                        subst e65
                        refine lv_iload hx hb dX1_weigh_154 (lv_at hl 0 rfl) ?_
                        refine lv_iadd hx hb dX1_weigh_156 ?_
                        refine lv_topi (fun v66 e67 => ?_)
                        subst e67
                        have hP := hPl
                        have hf : True := trivial
                        refine rt_iast (D := (dC, dI)) (t0 := 0) hx hb hK hP (hM.ge (by omega)) hS rfl (vp_in_nI (by omega) (by decide)) dX1_weigh_157 (fun H locs hP hz ho hS => ?_)
                        have ec : ((nI ((8 * j3 + j15) - 1)) : Int32).toNatClampNeg = ((8 * j3 + j15) - 1) := nI_clamp (by omega)
                        rw [ec] at hP
                        have hM := s_ld (i := 0) hM (by omega) hP ho hf
                        have hPm := xk hPm ho (fun e9 => by have h1 := ht1; have h2 := ht2; rw [e9] at h1; omega)
                        have hPl := hP
                        refine lv_aload_n hx hb dX1_weigh_158 rfl (lv_at hl 4 rfl) ?_
                        obtain ⟨u68, u69, u70, u71, u72, u73, hP, hf⟩ := o_st (i := i) (q := o) hM (by omega)
                        refine va_get (D := (dC, dI)) (ci := 5) (v := .ref (pF g o 6)) (C := RX1) (T := TX1) (N := 15) hx hb hts (by decide +kernel) hown hK hP 0 rfl rfl 6 (by decide) (hts (.fieldLink RX1 32 "Snowpalace$Site" "loads" "[I") (by decide +kernel)) (fun _ h9 => h9) rfl dX1_weigh_159 ?_
                        refine lv_iload hx hb dX1_weigh_162 (lv_at hl 1 rfl) ?_
                        refine lv_iconst (v := 1) hx hb dX1_weigh_164 (by decide) ?_
                        refine lv_iadd hx hb dX1_weigh_165 ?_
                        refine lv_topi (fun v74 e75 => ?_)
                        obtain rfl : v74 = nI ((8 * j3 + j15) + 1) := e75.trans (nI_add (8 * j3 + j15) 1)
                        refine lv_dup2_11 hx hb dX1_weigh_166 rfl rfl ?_
                        have hP := hPl
                        have hf : True := trivial
                        refine va_iald (D := (dC, dI)) hx hb hK hP 0 0 rfl rfl (vp_in_nI (by omega) (by decide)) dX1_weigh_167 ?_
                        refine lv_topi (fun v76 e77 => ?_)
                        have ec : ((nI ((8 * j3 + j15) + 1)) : Int32).toNatClampNeg = ((8 * j3 + j15) + 1) := nI_clamp (by omega)
                        rw [ec] at e77
                        subst e77
                        refine lv_aload_n hx hb dX1_weigh_168 rfl (lv_at hl 4 rfl) ?_
                        obtain ⟨u78, u79, u80, u81, u82, u83, hP, hf⟩ := o_st (i := i) (q := o) hM (by omega)
                        refine va_get (D := (dC, dI)) (ci := 5) (v := .ref (pF g o 6)) (C := RX1) (T := TX1) (N := 15) hx hb hts (by decide +kernel) hown hK hP 0 rfl rfl 6 (by decide) (hts (.fieldLink RX1 32 "Snowpalace$Site" "loads" "[I") (by decide +kernel)) (fun _ h9 => h9) rfl dX1_weigh_169 ?_
                        refine lv_iload hx hb dX1_weigh_172 (lv_at hl 1 rfl) ?_
                        have hP := hPl
                        have hf : True := trivial
                        refine va_iald (D := (dC, dI)) hx hb hK hP 0 0 rfl rfl (vp_in_nI (by omega) (by decide)) dX1_weigh_174 ?_
                        refine lv_topi (fun v84 e85 => ?_)
                        have ec : ((nI (8 * j3 + j15)) : Int32).toNatClampNeg = (8 * j3 + j15) := nI_clamp (by omega)
                        rw [ec] at e85
                        subst e85
                        refine lv_iload hx hb dX1_weigh_175 (lv_at hl 0 rfl) ?_
                        refine lv_isub hx hb dX1_weigh_177 ?_
                        refine lv_topi (fun v86 e87 => ?_)
                        subst e87
                        refine lv_iadd hx hb dX1_weigh_178 ?_
                        refine lv_topi (fun v88 e89 => ?_)
                        subst e89
                        have hP := hPl
                        have hf : True := trivial
                        refine rt_iast (D := (dC, dI)) (t0 := 0) hx hb hK hP (hM.ge (by omega)) hS rfl (vp_in_nI (by omega) (by decide)) dX1_weigh_179 (fun H locs hP hz ho hS => ?_)
                        have ec : ((nI ((8 * j3 + j15) + 1)) : Int32).toNatClampNeg = ((8 * j3 + j15) + 1) := nI_clamp (by omega)
                        rw [ec] at hP
                        have hM := s_ld (i := 0) hM (by omega) hP ho hf
                        have hPm := xk hPm ho (fun e9 => by have h1 := ht1; have h2 := ht2; rw [e9] at h1; omega)
                        have hPl := hP
                        refine lv_iinc (v := (nI (j15 + 1))) (lv' := [(4, .int (nI (j15 + 1))), (6, .int (((wB (pI g (pF g o 0)) j3 (wA (pI g (pF g o 0)) M0 mp mo j3 (wW (pI g (pF g o 0)) M0 mp mo L0 (5 - j3)) 8) (j15 - 1)) (8 * j3 + j15)) / 2)), (5, .int (nI (8 * j3 + j15))), (3, .int (nI j3)), (0, .ref o), (1, .int mp), (2, .int mo)]) hx hb dX1_weigh_180 hl (k := 2) rfl (nI_add j15 1) (by decide) rfl (fun ls hl => ?_)
                        refine lv_goto (tgt := 100) hx hb dX1_weigh_183 (by decide) ?_
                        have hPl := hPl
                        rw [show (upd (upd (wB (pI g (pF g o 0)) j3 (wA (pI g (pF g o 0)) M0 mp mo j3 (wW (pI g (pF g o 0)) M0 mp mo L0 (5 - j3)) 8) (j15 - 1)) ((8 * j3 + j15) - 1) (((wB (pI g (pF g o 0)) j3 (wA (pI g (pF g o 0)) M0 mp mo j3 (wW (pI g (pF g o 0)) M0 mp mo L0 (5 - j3)) 8) (j15 - 1)) ((8 * j3 + j15) - 1)) + (((wB (pI g (pF g o 0)) j3 (wA (pI g (pF g o 0)) M0 mp mo j3 (wW (pI g (pF g o 0)) M0 mp mo L0 (5 - j3)) 8) (j15 - 1)) (8 * j3 + j15)) / 2))) ((8 * j3 + j15) + 1) (((upd (wB (pI g (pF g o 0)) j3 (wA (pI g (pF g o 0)) M0 mp mo j3 (wW (pI g (pF g o 0)) M0 mp mo L0 (5 - j3)) 8) (j15 - 1)) ((8 * j3 + j15) - 1) (((wB (pI g (pF g o 0)) j3 (wA (pI g (pF g o 0)) M0 mp mo j3 (wW (pI g (pF g o 0)) M0 mp mo L0 (5 - j3)) 8) (j15 - 1)) ((8 * j3 + j15) - 1)) + (((wB (pI g (pF g o 0)) j3 (wA (pI g (pF g o 0)) M0 mp mo j3 (wW (pI g (pF g o 0)) M0 mp mo L0 (5 - j3)) 8) (j15 - 1)) (8 * j3 + j15)) / 2))) ((8 * j3 + j15) + 1)) + (((upd (wB (pI g (pF g o 0)) j3 (wA (pI g (pF g o 0)) M0 mp mo j3 (wW (pI g (pF g o 0)) M0 mp mo L0 (5 - j3)) 8) (j15 - 1)) ((8 * j3 + j15) - 1) (((wB (pI g (pF g o 0)) j3 (wA (pI g (pF g o 0)) M0 mp mo j3 (wW (pI g (pF g o 0)) M0 mp mo L0 (5 - j3)) 8) (j15 - 1)) ((8 * j3 + j15) - 1)) + (((wB (pI g (pF g o 0)) j3 (wA (pI g (pF g o 0)) M0 mp mo j3 (wW (pI g (pF g o 0)) M0 mp mo L0 (5 - j3)) 8) (j15 - 1)) (8 * j3 + j15)) / 2))) (8 * j3 + j15)) - (((wB (pI g (pF g o 0)) j3 (wA (pI g (pF g o 0)) M0 mp mo j3 (wW (pI g (pF g o 0)) M0 mp mo L0 (5 - j3)) 8) (j15 - 1)) (8 * j3 + j15)) / 2)))) = (wB (pI g (pF g o 0)) j3 (wA (pI g (pF g o 0)) M0 mp mo j3 (wW (pI g (pF g o 0)) M0 mp mo L0 (5 - j3)) 8) ((j15 + 1) - 1)) from (by first | exact (wB_none j15 lj15 (by assumption)).symm | exact (wB_none2 j15 lj15 (by assumption)).symm | exact (wB_arch j15 lj15 (by assumption) (by assumption)).symm)] at hPl
                        exact ih17 ((j15 + 1)) (by omega) (by omega) (by omega) H _ ls hPm hPl hM hS (lv_sub hl [0, 3, 4, 5, 6] rfl)
              have hPl := hPl
              rw [show (wA (pI g (pF g o 0)) M0 mp mo j3 (wW (pI g (pF g o 0)) M0 mp mo L0 (5 - j3)) j9) = (wB (pI g (pF g o 0)) j3 (wA (pI g (pF g o 0)) M0 mp mo j3 (wW (pI g (pF g o 0)) M0 mp mo L0 (5 - j3)) 8) (1 - 1)) from (by have e9 : j9 = 8 := (by omega); rw [e9]; rfl)] at hPl
              exact lp18 (7 + 1) 1 (by omega) (by omega) (by omega) H _ ls hPm hPl hM hS (lv_sub hl [0, 1, 2, 3, 4] rfl)
            · skip
              have k90 : ¬ (8 ≤ j9) := fun z => c13 ((nI_leI (a := 8) (b := j9) (by omega) (by omega)).mpr z)
              refine lv_iload hx hb dX1_weigh_16 (lv_at hl 0 rfl) ?_
              refine lv_iload_n hx hb dX1_weigh_18 rfl (lv_at hl 1 rfl) ?_
              refine va_calli (va_runSN (As := [.int (nI j9), .int (nI j3)]) (rest := []) ⟨hx, hb, hml, hown, hts⟩ (rk_placeOf l (nI j9) (nI j3)) (⟨va_cnB 2 hts gX1_weigh_X3_placeOf_n96 rfl rfl rfl (hN (.methodLinkNest RX1 96 yX3_placeOf RX3) (by decide +kernel)) (hts (.initialized RX3) (by decide +kernel)) (by decide +kernel) ⟨Nat.le_of_ble_eq_true rfl, Nat.le_of_ble_eq_true rfl⟩, hts (.static yX3_placeOf) (by decide +kernel), trivial⟩) ⟨fun a U g mk q => q, fun U hU hW => ⟨rfl, trivial⟩⟩ rfl rfl hl.1 rfl (lv_room (Nat.le_of_ble_eq_true rfl)) dX1_weigh_19 ⟨(Nat.le_of_ble_eq_true rfl), (Nat.le_of_ble_eq_true rfl)⟩) hS (fun q _ h => h.elim) (fun q h => h.elim) (fun r91 u t H locs ht hvm hw92 hB hz1 hk1 hS => ?_)
              have hM := hM.keep (fun p hp => hk1 p hp (fun z => z))
              have hPm := pin_keep hPm hk1
              have hPl := pin_keep hPl hk1
              obtain rfl : r91 = nI (8 * j3 + j9) := hw92.trans (by rw [show (8 : Int32) = nI 8 from rfl]; exact (congrArg (· + nI j9) (pk_mul 8 j3)).trans (nI_add _ _))
              refine lv_istore (lv' := [(5, .int (nI (8 * j3 + j9))), (4, .int (nI j9)), (3, .int (nI j3)), (0, .ref o), (1, .int mp), (2, .int mo)]) hx hb dX1_weigh_22 hl (by decide) rfl (fun ls hl => ?_)
              refine lv_aload_n hx hb dX1_weigh_24 rfl (lv_at hl 3 rfl) ?_
              obtain ⟨u93, u94, u95, u96, u97, u98, hP, hf⟩ := o_st (i := i) (q := o) hM (by omega)
              refine va_get (D := (dC, dI)) (ci := 5) (v := .ref (pF g o 6)) (C := RX1) (T := TX1) (N := 15) hx hb hts (by decide +kernel) hown hK hP 0 rfl rfl 6 (by decide) (hts (.fieldLink RX1 32 "Snowpalace$Site" "loads" "[I") (by decide +kernel)) (fun _ h9 => h9) rfl dX1_weigh_25 ?_
              refine lv_iload hx hb dX1_weigh_28 (lv_at hl 0 rfl) ?_
              refine lv_iconst (v := 0) hx hb dX1_weigh_30 (by decide) ?_
              have hP := hPl
              have hf : True := trivial
              refine rt_iast (D := (dC, dI)) (t0 := 0) hx hb hK hP (hM.ge (by omega)) hS rfl (vp_in_nI (by omega) (by decide)) dX1_weigh_31 (fun H locs hP hz ho hS => ?_)
              have ec : ((nI (8 * j3 + j9)) : Int32).toNatClampNeg = (8 * j3 + j9) := nI_clamp (by omega)
              rw [ec] at hP
              have hM := s_ld (i := 0) hM (by omega) hP ho hf
              have hPm := xk hPm ho (fun e9 => by have h1 := ht1; have h2 := ht2; rw [e9] at h1; omega)
              have hPl := hP
              refine lv_aload_n hx hb dX1_weigh_32 rfl (lv_at hl 3 rfl) ?_
              refine lv_iload hx hb dX1_weigh_33 (lv_at hl 0 rfl) ?_
              obtain ⟨u99, u100, u101, u102, u103, u104, hP, hf⟩ := o_st (i := i) (q := o) hM (by omega)
              refine va_calli (va_runV (As := [.int (nI (8 * j3 + j9))]) (rest := []) ⟨hx, hb, hml, hown, hts⟩ (rk_has l dC dI kA eD b g o i (nI (8 * j3 + j9)) (by omega)) (cwV 1 hts gX1_weigh_X1_has rfl rfl rfl (by decide +kernel) ⟨Nat.le_of_ble_eq_true rfl, Nat.le_of_ble_eq_true rfl⟩) ⟨fb_CX, va_recv hK hP (ci := 5) (q0 := 0) rfl rfl, fun U hU hW => ⟨rfl, CX.give hb0 hM hK hG hE hS hU hW⟩⟩ rfl rfl hl.1 rfl (lv_room (Nat.le_of_ble_eq_true rfl)) dX1_weigh_35 ⟨(Nat.le_of_ble_eq_true rfl), (Nat.le_of_ble_eq_true rfl)⟩) hS (fun q _ h => h.elim) (fun q h => h.elim) (fun r105 u t H locs ht hvm hw106 hB hz1 hk1 hS => ?_)
              have hM := hB.back ht
              have hPm := pin_keep hPm hk1
              have hPl := pin_keep hPl hk1
              have hG := hB.2.2.2.1
              refine lv_if_eq (tgt := 91) hx hb dX1_weigh_38 (by decide) (fun c107 => ?_) (fun c107 => ?_)
              · skip
                have hk108 : (pI g (pF g o 0)) (8 * j3 + j9) = 46 := (hw106.resolve_right (fun z => absurd (z.1.symm.trans c107) (by decide))).2 (8 * j3 + j9) rfl (by omega)
                refine lv_iinc (v := (nI (j9 + 1))) (lv' := [(4, .int (nI (j9 + 1))), (5, .int (nI (8 * j3 + j9))), (3, .int (nI j3)), (0, .ref o), (1, .int mp), (2, .int mo)]) hx hb dX1_weigh_91 hl (k := 1) rfl (nI_add j9 1) (by decide) rfl (fun ls hl => ?_)
                refine lv_goto (tgt := 9) hx hb dX1_weigh_94 (by decide) ?_
                have hPl := hPl
                rw [show (upd (wA (pI g (pF g o 0)) M0 mp mo j3 (wW (pI g (pF g o 0)) M0 mp mo L0 (5 - j3)) j9) (8 * j3 + j9) 0) = (wA (pI g (pF g o 0)) M0 mp mo j3 (wW (pI g (pF g o 0)) M0 mp mo L0 (5 - j3)) (j9 + 1)) from (by first | exact (wA_none (by assumption)).symm | exact (wA_has (by assumption) (by first | exact (if_neg (by omega)).symm | exact (upd_ne (by omega)).trans (if_pos (by omega)).symm) (by first | exact (if_pos (by assumption)).symm | exact (if_neg (by assumption)).symm)).symm)] at hPl
                exact ih11 ((j9 + 1)) (by omega) (by omega) (by omega) H _ ls hPm hPl hM hS (lv_sub hl [0, 2, 3, 4, 5] rfl)
              · skip
                have hk109 : ¬ (pI g (pF g o 0)) (8 * j3 + j9) = 46 := by obtain ⟨-, jz9, ez9, hz9, hz8⟩ := hw106.resolve_left (fun z => c107 z.1); rw [(nI_eq (a := (8 * j3 + j9)) (b := jz9) (by omega) (by omega)).mp ez9]; exact hz8
                refine lv_iload_n hx hb dX1_weigh_41 rfl (lv_at hl 2 rfl) ?_
                refine lv_iconst (v := 5) hx hb dX1_weigh_42 (by decide) ?_
                refine lv_icmp_ge (tgt := 59) hx hb dX1_weigh_43 (by decide) (fun c110 => ?_) (fun c110 => ?_)
                · skip
                  have k111 : 5 ≤ j3 := (nI_leI (a := 5) (b := j3) (by omega) (by omega)).mp c110
                  refine lv_iconst (v := 0) hx hb dX1_weigh_59 (by decide) ?_
                  refine lv_istore (lv' := [(6, .int 0), (5, .int (nI (8 * j3 + j9))), (4, .int (nI j9)), (3, .int (nI j3)), (0, .ref o), (1, .int mp), (2, .int mo)]) hx hb dX1_weigh_60 hl (by decide) rfl (fun ls hl => ?_)
                  refine lv_aload_n hx hb dX1_weigh_62 rfl (lv_at hl 4 rfl) ?_
                  obtain ⟨u112, u113, u114, u115, u116, u117, hP, hf⟩ := o_st (i := i) (q := o) hM (by omega)
                  refine va_get (D := (dC, dI)) (ci := 5) (v := .ref (pF g o 6)) (C := RX1) (T := TX1) (N := 15) hx hb hts (by decide +kernel) hown hK hP 0 rfl rfl 6 (by decide) (hts (.fieldLink RX1 32 "Snowpalace$Site" "loads" "[I") (by decide +kernel)) (fun _ h9 => h9) rfl dX1_weigh_63 ?_
                  refine lv_iload hx hb dX1_weigh_66 (lv_at hl 1 rfl) ?_
                  refine lv_aload_n hx hb dX1_weigh_68 rfl (lv_at hl 4 rfl) ?_
                  obtain ⟨u118, u119, u120, u121, u122, u123, hP, hf⟩ := o_st (i := i) (q := o) hM (by omega)
                  refine va_get (D := (dC, dI)) (ci := 5) (v := .ref (pF g o 1)) (C := RX1) (T := TX1) (N := 15) hx hb hts (by decide +kernel) hown hK hP 0 rfl rfl 1 (by decide) (hts (.fieldLink RX1 15 "Snowpalace$Site" "masses" "[I") (by decide +kernel)) (fun _ h9 => h9) rfl dX1_weigh_69 ?_
                  refine lv_iload hx hb dX1_weigh_72 (lv_at hl 1 rfl) ?_
                  have hP := hPm
                  have hf : True := trivial
                  refine va_iald (D := (dC, dI)) hx hb hK hP 0 0 rfl rfl (vp_in_nI (by omega) (by decide)) dX1_weigh_74 ?_
                  refine lv_topi (fun v124 e125 => ?_)
                  have ec : ((nI (8 * j3 + j9)) : Int32).toNatClampNeg = (8 * j3 + j9) := nI_clamp (by omega)
                  rw [ec] at e125
                  subst e125
                  refine lv_iload hx hb dX1_weigh_75 (lv_at hl 0 rfl) ?_
                  refine lv_iadd hx hb dX1_weigh_77 ?_
                  refine lv_topi (fun v126 e127 => ?_)
                  subst e127
                  refine lv_iload hx hb dX1_weigh_78 (lv_at hl 1 rfl) ?_
                  refine lv_iload_n hx hb dX1_weigh_80 rfl (lv_at hl 5 rfl) ?_
                  refine lv_icmp_ne (tgt := 88) hx hb dX1_weigh_81 (by decide) (fun c128 => ?_) (fun c128 => ?_)
                  · skip
                    refine lv_iconst (v := 0) hx hb dX1_weigh_88 (by decide) ?_
                    refine lv_iadd hx hb dX1_weigh_89 ?_
                    refine lv_topi (fun v129 e130 => ?_)
                    subst e130
                    have hP := hPl
                    have hf : True := trivial
                    refine rt_iast (D := (dC, dI)) (t0 := 0) hx hb hK hP (hM.ge (by omega)) hS rfl (vp_in_nI (by omega) (by decide)) dX1_weigh_90 (fun H locs hP hz ho hS => ?_)
                    have ec : ((nI (8 * j3 + j9)) : Int32).toNatClampNeg = (8 * j3 + j9) := nI_clamp (by omega)
                    rw [ec] at hP
                    have hM := s_ld (i := 0) hM (by omega) hP ho hf
                    have hPm := xk hPm ho (fun e9 => by have h1 := ht1; have h2 := ht2; rw [e9] at h1; omega)
                    have hPl := hP
                    refine lv_iinc (v := (nI (j9 + 1))) (lv' := [(4, .int (nI (j9 + 1))), (6, .int 0), (5, .int (nI (8 * j3 + j9))), (3, .int (nI j3)), (0, .ref o), (1, .int mp), (2, .int mo)]) hx hb dX1_weigh_91 hl (k := 2) rfl (nI_add j9 1) (by decide) rfl (fun ls hl => ?_)
                    refine lv_goto (tgt := 9) hx hb dX1_weigh_94 (by decide) ?_
                    have hPl := hPl
                    rw [show (upd (upd (wA (pI g (pF g o 0)) M0 mp mo j3 (wW (pI g (pF g o 0)) M0 mp mo L0 (5 - j3)) j9) (8 * j3 + j9) 0) (8 * j3 + j9) (((M0 (8 * j3 + j9)) + 0) + 0)) = (wA (pI g (pF g o 0)) M0 mp mo j3 (wW (pI g (pF g o 0)) M0 mp mo L0 (5 - j3)) (j9 + 1)) from (by first | exact (wA_none (by assumption)).symm | exact (wA_has (by assumption) (by first | exact (if_neg (by omega)).symm | exact (upd_ne (by omega)).trans (if_pos (by omega)).symm) (by first | exact (if_pos (by assumption)).symm | exact (if_neg (by assumption)).symm)).symm)] at hPl
                    exact ih11 ((j9 + 1)) (by omega) (by omega) (by omega) H _ ls hPm hPl hM hS (lv_sub hl [0, 3, 4, 5, 6] rfl)
                  · skip
                    refine lv_iload_n hx hb dX1_weigh_84 rfl (lv_at hl 6 rfl) ?_
                    refine lv_goto (tgt := 89) hx hb dX1_weigh_85 (by decide) ?_
                    refine lv_iadd hx hb dX1_weigh_89 ?_
                    refine lv_topi (fun v131 e132 => ?_)
                    subst e132
                    have hP := hPl
                    have hf : True := trivial
                    refine rt_iast (D := (dC, dI)) (t0 := 0) hx hb hK hP (hM.ge (by omega)) hS rfl (vp_in_nI (by omega) (by decide)) dX1_weigh_90 (fun H locs hP hz ho hS => ?_)
                    have ec : ((nI (8 * j3 + j9)) : Int32).toNatClampNeg = (8 * j3 + j9) := nI_clamp (by omega)
                    rw [ec] at hP
                    have hM := s_ld (i := 0) hM (by omega) hP ho hf
                    have hPm := xk hPm ho (fun e9 => by have h1 := ht1; have h2 := ht2; rw [e9] at h1; omega)
                    have hPl := hP
                    refine lv_iinc (v := (nI (j9 + 1))) (lv' := [(4, .int (nI (j9 + 1))), (6, .int 0), (5, .int (nI (8 * j3 + j9))), (3, .int (nI j3)), (0, .ref o), (1, .int mp), (2, .int mo)]) hx hb dX1_weigh_91 hl (k := 2) rfl (nI_add j9 1) (by decide) rfl (fun ls hl => ?_)
                    refine lv_goto (tgt := 9) hx hb dX1_weigh_94 (by decide) ?_
                    have hPl := hPl
                    rw [show (upd (upd (wA (pI g (pF g o 0)) M0 mp mo j3 (wW (pI g (pF g o 0)) M0 mp mo L0 (5 - j3)) j9) (8 * j3 + j9) 0) (8 * j3 + j9) (((M0 (8 * j3 + j9)) + 0) + mo)) = (wA (pI g (pF g o 0)) M0 mp mo j3 (wW (pI g (pF g o 0)) M0 mp mo L0 (5 - j3)) (j9 + 1)) from (by first | exact (wA_none (by assumption)).symm | exact (wA_has (by assumption) (by first | exact (if_neg (by omega)).symm | exact (upd_ne (by omega)).trans (if_pos (by omega)).symm) (by first | exact (if_pos (by assumption)).symm | exact (if_neg (by assumption)).symm)).symm)] at hPl
                    exact ih11 ((j9 + 1)) (by omega) (by omega) (by omega) H _ ls hPm hPl hM hS (lv_sub hl [0, 3, 4, 5, 6] rfl)
                · skip
                  have k133 : ¬ (5 ≤ j3) := fun z => c110 ((nI_leI (a := 5) (b := j3) (by omega) (by omega)).mpr z)
                  refine lv_aload_n hx hb dX1_weigh_46 rfl (lv_at hl 3 rfl) ?_
                  obtain ⟨u134, u135, u136, u137, u138, u139, hP, hf⟩ := o_st (i := i) (q := o) hM (by omega)
                  refine va_get (D := (dC, dI)) (ci := 5) (v := .ref (pF g o 6)) (C := RX1) (T := TX1) (N := 15) hx hb hts (by decide +kernel) hown hK hP 0 rfl rfl 6 (by decide) (hts (.fieldLink RX1 32 "Snowpalace$Site" "loads" "[I") (by decide +kernel)) (fun _ h9 => h9) rfl dX1_weigh_47 ?_
                  refine lv_iload hx hb dX1_weigh_50 (lv_at hl 0 rfl) ?_
                  refine lv_bipush (v := 8) hx hb dX1_weigh_52 (by decide) ?_
                  refine lv_iadd hx hb dX1_weigh_54 ?_
                  refine lv_topi (fun v140 e141 => ?_)
                  obtain rfl : v140 = nI ((8 * j3 + j9) + 8) := e141.trans (nI_add (8 * j3 + j9) 8)
                  have hP := hPl
                  have hf : True := trivial
                  refine va_iald (D := (dC, dI)) hx hb hK hP 0 0 rfl rfl (vp_in_nI (by omega) (by decide)) dX1_weigh_55 ?_
                  refine lv_topi (fun v142 e143 => ?_)
                  have ec : ((nI ((8 * j3 + j9) + 8)) : Int32).toNatClampNeg = ((8 * j3 + j9) + 8) := nI_clamp (by omega)
                  rw [ec] at e143
                  subst e143
                  refine lv_goto (tgt := 60) hx hb dX1_weigh_56 (by decide) ?_
                  refine lv_istore (lv' := [(6, .int ((upd (wA (pI g (pF g o 0)) M0 mp mo j3 (wW (pI g (pF g o 0)) M0 mp mo L0 (5 - j3)) j9) (8 * j3 + j9) 0) ((8 * j3 + j9) + 8))), (5, .int (nI (8 * j3 + j9))), (4, .int (nI j9)), (3, .int (nI j3)), (0, .ref o), (1, .int mp), (2, .int mo)]) hx hb dX1_weigh_60 hl (by decide) rfl (fun ls hl => ?_)
                  refine lv_aload_n hx hb dX1_weigh_62 rfl (lv_at hl 4 rfl) ?_
                  obtain ⟨u144, u145, u146, u147, u148, u149, hP, hf⟩ := o_st (i := i) (q := o) hM (by omega)
                  refine va_get (D := (dC, dI)) (ci := 5) (v := .ref (pF g o 6)) (C := RX1) (T := TX1) (N := 15) hx hb hts (by decide +kernel) hown hK hP 0 rfl rfl 6 (by decide) (hts (.fieldLink RX1 32 "Snowpalace$Site" "loads" "[I") (by decide +kernel)) (fun _ h9 => h9) rfl dX1_weigh_63 ?_
                  refine lv_iload hx hb dX1_weigh_66 (lv_at hl 1 rfl) ?_
                  refine lv_aload_n hx hb dX1_weigh_68 rfl (lv_at hl 4 rfl) ?_
                  obtain ⟨u150, u151, u152, u153, u154, u155, hP, hf⟩ := o_st (i := i) (q := o) hM (by omega)
                  refine va_get (D := (dC, dI)) (ci := 5) (v := .ref (pF g o 1)) (C := RX1) (T := TX1) (N := 15) hx hb hts (by decide +kernel) hown hK hP 0 rfl rfl 1 (by decide) (hts (.fieldLink RX1 15 "Snowpalace$Site" "masses" "[I") (by decide +kernel)) (fun _ h9 => h9) rfl dX1_weigh_69 ?_
                  refine lv_iload hx hb dX1_weigh_72 (lv_at hl 1 rfl) ?_
                  have hP := hPm
                  have hf : True := trivial
                  refine va_iald (D := (dC, dI)) hx hb hK hP 0 0 rfl rfl (vp_in_nI (by omega) (by decide)) dX1_weigh_74 ?_
                  refine lv_topi (fun v156 e157 => ?_)
                  have ec : ((nI (8 * j3 + j9)) : Int32).toNatClampNeg = (8 * j3 + j9) := nI_clamp (by omega)
                  rw [ec] at e157
                  subst e157
                  refine lv_iload hx hb dX1_weigh_75 (lv_at hl 0 rfl) ?_
                  refine lv_iadd hx hb dX1_weigh_77 ?_
                  refine lv_topi (fun v158 e159 => ?_)
                  subst e159
                  refine lv_iload hx hb dX1_weigh_78 (lv_at hl 1 rfl) ?_
                  refine lv_iload_n hx hb dX1_weigh_80 rfl (lv_at hl 5 rfl) ?_
                  refine lv_icmp_ne (tgt := 88) hx hb dX1_weigh_81 (by decide) (fun c160 => ?_) (fun c160 => ?_)
                  · skip
                    refine lv_iconst (v := 0) hx hb dX1_weigh_88 (by decide) ?_
                    refine lv_iadd hx hb dX1_weigh_89 ?_
                    refine lv_topi (fun v161 e162 => ?_)
                    subst e162
                    have hP := hPl
                    have hf : True := trivial
                    refine rt_iast (D := (dC, dI)) (t0 := 0) hx hb hK hP (hM.ge (by omega)) hS rfl (vp_in_nI (by omega) (by decide)) dX1_weigh_90 (fun H locs hP hz ho hS => ?_)
                    have ec : ((nI (8 * j3 + j9)) : Int32).toNatClampNeg = (8 * j3 + j9) := nI_clamp (by omega)
                    rw [ec] at hP
                    have hM := s_ld (i := 0) hM (by omega) hP ho hf
                    have hPm := xk hPm ho (fun e9 => by have h1 := ht1; have h2 := ht2; rw [e9] at h1; omega)
                    have hPl := hP
                    refine lv_iinc (v := (nI (j9 + 1))) (lv' := [(4, .int (nI (j9 + 1))), (6, .int ((upd (wA (pI g (pF g o 0)) M0 mp mo j3 (wW (pI g (pF g o 0)) M0 mp mo L0 (5 - j3)) j9) (8 * j3 + j9) 0) ((8 * j3 + j9) + 8))), (5, .int (nI (8 * j3 + j9))), (3, .int (nI j3)), (0, .ref o), (1, .int mp), (2, .int mo)]) hx hb dX1_weigh_91 hl (k := 2) rfl (nI_add j9 1) (by decide) rfl (fun ls hl => ?_)
                    refine lv_goto (tgt := 9) hx hb dX1_weigh_94 (by decide) ?_
                    have hPl := hPl
                    rw [show (upd (upd (wA (pI g (pF g o 0)) M0 mp mo j3 (wW (pI g (pF g o 0)) M0 mp mo L0 (5 - j3)) j9) (8 * j3 + j9) 0) (8 * j3 + j9) (((M0 (8 * j3 + j9)) + ((upd (wA (pI g (pF g o 0)) M0 mp mo j3 (wW (pI g (pF g o 0)) M0 mp mo L0 (5 - j3)) j9) (8 * j3 + j9) 0) ((8 * j3 + j9) + 8))) + 0)) = (wA (pI g (pF g o 0)) M0 mp mo j3 (wW (pI g (pF g o 0)) M0 mp mo L0 (5 - j3)) (j9 + 1)) from (by first | exact (wA_none (by assumption)).symm | exact (wA_has (by assumption) (by first | exact (if_neg (by omega)).symm | exact (upd_ne (by omega)).trans (if_pos (by omega)).symm) (by first | exact (if_pos (by assumption)).symm | exact (if_neg (by assumption)).symm)).symm)] at hPl
                    exact ih11 ((j9 + 1)) (by omega) (by omega) (by omega) H _ ls hPm hPl hM hS (lv_sub hl [0, 3, 4, 5, 6] rfl)
                  · skip
                    refine lv_iload_n hx hb dX1_weigh_84 rfl (lv_at hl 6 rfl) ?_
                    refine lv_goto (tgt := 89) hx hb dX1_weigh_85 (by decide) ?_
                    refine lv_iadd hx hb dX1_weigh_89 ?_
                    refine lv_topi (fun v163 e164 => ?_)
                    subst e164
                    have hP := hPl
                    have hf : True := trivial
                    refine rt_iast (D := (dC, dI)) (t0 := 0) hx hb hK hP (hM.ge (by omega)) hS rfl (vp_in_nI (by omega) (by decide)) dX1_weigh_90 (fun H locs hP hz ho hS => ?_)
                    have ec : ((nI (8 * j3 + j9)) : Int32).toNatClampNeg = (8 * j3 + j9) := nI_clamp (by omega)
                    rw [ec] at hP
                    have hM := s_ld (i := 0) hM (by omega) hP ho hf
                    have hPm := xk hPm ho (fun e9 => by have h1 := ht1; have h2 := ht2; rw [e9] at h1; omega)
                    have hPl := hP
                    refine lv_iinc (v := (nI (j9 + 1))) (lv' := [(4, .int (nI (j9 + 1))), (6, .int ((upd (wA (pI g (pF g o 0)) M0 mp mo j3 (wW (pI g (pF g o 0)) M0 mp mo L0 (5 - j3)) j9) (8 * j3 + j9) 0) ((8 * j3 + j9) + 8))), (5, .int (nI (8 * j3 + j9))), (3, .int (nI j3)), (0, .ref o), (1, .int mp), (2, .int mo)]) hx hb dX1_weigh_91 hl (k := 2) rfl (nI_add j9 1) (by decide) rfl (fun ls hl => ?_)
                    refine lv_goto (tgt := 9) hx hb dX1_weigh_94 (by decide) ?_
                    have hPl := hPl
                    rw [show (upd (upd (wA (pI g (pF g o 0)) M0 mp mo j3 (wW (pI g (pF g o 0)) M0 mp mo L0 (5 - j3)) j9) (8 * j3 + j9) 0) (8 * j3 + j9) (((M0 (8 * j3 + j9)) + ((upd (wA (pI g (pF g o 0)) M0 mp mo j3 (wW (pI g (pF g o 0)) M0 mp mo L0 (5 - j3)) j9) (8 * j3 + j9) 0) ((8 * j3 + j9) + 8))) + mo)) = (wA (pI g (pF g o 0)) M0 mp mo j3 (wW (pI g (pF g o 0)) M0 mp mo L0 (5 - j3)) (j9 + 1)) from (by first | exact (wA_none (by assumption)).symm | exact (wA_has (by assumption) (by first | exact (if_neg (by omega)).symm | exact (upd_ne (by omega)).trans (if_pos (by omega)).symm) (by first | exact (if_pos (by assumption)).symm | exact (if_neg (by assumption)).symm)).symm)] at hPl
                    exact ih11 ((j9 + 1)) (by omega) (by omega) (by omega) H _ ls hPm hPl hM hS (lv_sub hl [0, 3, 4, 5, 6] rfl)
        have hPl := hPl
        rw [show (wW (pI g (pF g o 0)) M0 mp mo L0 (5 - j3)) = (wA (pI g (pF g o 0)) M0 mp mo j3 (wW (pI g (pF g o 0)) M0 mp mo L0 (5 - j3)) 0) from rfl] at hPl
        exact lp12 (8 + 1) 0 (by omega) (by omega) (by omega) H _ ls hPm hPl hM hS (lv_sub hl [0, 1, 2, 3, 4] rfl)
  have hPl := hPl
  rw [show L0 = (wW (pI g (pF g o 0)) M0 mp mo L0 (6 - 6)) from rfl] at hPl
  exact lp5 6 (by omega) s.heap _ ls hPm hPl hM hS (by have hl9 := lv_sub hl [0, 1, 2, 3] rfl; exact hl9)

set_option maxHeartbeats 4000000 in
set_option maxRecDepth 100000 in
theorem rk_bearsItself (l : Launch) (dC : Nat → ClassId) (dI : Nat → Nat → Nat) (kA : Nat → ClassId) (eD b : Nat) (g : Gh) (o : Nat) (i : Nat) (hto : tg g o = 12 + 64 * i) (hst : STF (pI g (pF g o 0))) : Met l yX1_bearsItself wsX1_bearsItself ({ frames := 3, cells := 0, slots := 0, locals := 69 }) (va_Pc [.ref o] (CX (dC, dI) kA eD b g)) (va_Qi (fun (r : Int32) (u : Unit) => r = 1) (fun (u : Unit) t => CX (dC, dI) kA eD b g t) (fun q => b ≤ q)) 0 0 (fun q => b ≤ q) := by
  refine Met.ofW (cc := cX1_bearsItself) (maxL := 4) (ret := (some .boolean)) (by decide +kernel) rfl ?_
  intro p e s m args below meth c s₁ B hml hv
  obtain ⟨rfl, hb0, hM, hK, hG, hE⟩ := hv
  have hx := B.exec
  have hb := B.bytes
  have hr := B.returns
  have hts := atoms_spec (ws := wsX1_bearsItself) B.pre
  have hown : s.vm.findClass RX1 = some m.cls := findClass_of_methodNamed B.named
  have hlocks := B.notSynchronized
  have hT := hE.1
  have hN := hE.2.2.2.2.2.2.2.1
  have hS : va_S (fun q => b ≤ q) s.heap s.heap [] := va_S.rf
  have hl := lv_entry ([.ref o]) (n := 4) (Nat.le_of_ble_eq_true rfl)
  rw [lg_entry_eq]
  generalize (lg_sl ([.ref o]) ++ List.replicate (4 - (lg_sl ([.ref o])).length) Slot.unset).toArray = ls at hl ⊢
  have hl : lv_has ls 4 [(0, .ref o)] := hl
  generalize ([.ref o] : List Value).toArray = args at hts ⊢
  refine W.q (fun Q hQ => ?_)
  obtain ⟨_, _, _, _, _, _, -, hst9⟩ := o_st (i := i) (q := o) hM (by omega)
  have ht1 : tg g (pF g o 1) = 21 := hst9.2.1
  have ht2 : tg g (pF g o 6) = 23 := hst9.2.2.2.2.2.2.1
  obtain ⟨M0, hPm, -⟩ := o_ma (i := 0) (q := (pF g o 1)) hM (by omega)
  obtain ⟨L0, hPl, -⟩ := o_ld (i := 0) (q := (pF g o 6)) hM (by omega)
  refine lv_aload_n hx hb dX1_bearsItself_0 rfl (lv_at hl 0 rfl) ?_
  refine lv_iconst (v := (-1)) hx hb dX1_bearsItself_1 (by decide) ?_
  refine lv_iconst (v := 0) hx hb dX1_bearsItself_2 (by decide) ?_
  obtain ⟨u3, u4, u5, u6, u7, u8, hP, hf⟩ := o_st (i := i) (q := o) hM (by omega)
  refine va_callv (va_runV (As := [.int (-1), .int 0]) (rest := []) ⟨hx, hb, hml, hown, hts⟩ (rk_weighT l dC dI kA eD b g o i M0 L0 (-1) 0 (by omega)) (cwV 2 hts gX1_bearsItself_X1_weigh rfl rfl rfl (by decide +kernel) ⟨Nat.le_of_ble_eq_true rfl, Nat.le_of_ble_eq_true rfl⟩) ⟨fb_CXp (Pn := fun H9 => va_P (dC, dI) vwCl [((pF g o 1), .inl (kA 0, 48, .inl M0))] H9 ∧ va_P (dC, dI) vwCl [((pF g o 6), .inl (kA 0, 48, .inl L0))] H9), va_recv hK hP (ci := 5) (q0 := 0) rfl rfl, fun U hU hW => ⟨rfl, CX.give hb0 hM hK hG hE hS hU hW, by rw [hU]; exact hPm, by rw [hU]; exact hPl⟩⟩ rfl rfl hl.1 rfl (lv_room (Nat.le_of_ble_eq_true rfl)) dX1_bearsItself_3 ⟨(Nat.le_of_ble_eq_true rfl), (Nat.le_of_ble_eq_true rfl)⟩) hS (fun q _ h => h) (fun q h => h) (fun u t H locs ht hvm hw10 hB hz1 hk1 hS => ?_)
  have hM := hB.1.back ht
  have hG := hB.1.2.2.2.1
  have hPm := hB.2.1
  have hPl := hB.2.2
  rw [ht] at hPm hPl
  refine lv_iconst (v := 0) hx hb dX1_bearsItself_6 (by decide) ?_
  refine lv_istore_n (lv' := [(1, .int 0), (0, .ref o)]) hx hb dX1_bearsItself_7 rfl hl (by decide) rfl (fun ls hl => ?_)
  refine lv_iconst (v := 0) hx hb dX1_bearsItself_8 (by decide) ?_
  refine lv_istore_n (lv' := [(2, .int 0), (1, .int 0), (0, .ref o)]) hx hb dX1_bearsItself_9 rfl hl (by decide) rfl (fun ls hl => ?_)
  refine lv_iconst (v := 0) hx hb dX1_bearsItself_10 (by decide) ?_
  refine lv_istore_n (lv' := [(3, .int 0), (2, .int 0), (1, .int 0), (0, .ref o)]) hx hb dX1_bearsItself_11 rfl hl (by decide) rfl (fun ls hl => ?_)
  have lp14 : ∀ (n15 j11 : Nat) (x12 : Int32) (x13 : Int32), 0 ≤ j11 → j11 ≤ 48 → 48 < j11 + n15 → ∀ (H : Heap) (locs : List Loc) (ls : Array Slot), x12 = su (fun n => if (pI g (pF g o 0)) n = 46 then 0 else if n < 8 then wW (pI g (pF g o 0)) M0 (-1) 0 L0 6 n else 0) j11 → x13 = su (fun n => if (pI g (pF g o 0)) n = 46 then 0 else M0 n) j11 → va_P (dC, dI) vwCl [((pF g o 1), .inl (kA 0, 48, .inl M0))] H → va_P (dC, dI) vwCl [((pF g o 6), .inl (kA 0, 48, .inl (wW (pI g (pF g o 0)) M0 (-1) 0 L0 6)))] H → TM (dC, dI) kA b g H → va_S (fun q => b ≤ q) s.heap H locs → lv_has ls 4 [(3, .int (nI j11)), (2, .int x12), (1, .int x13), (0, .ref o)] → W p l e (headSpec wsX1_bearsItself ({ frames := 3, cells := 0, slots := 0, locals := 69 })).room s m args below meth c H locs 0 0 Q (F0 m 12 ls []) := by
    intro n15
    induction n15 with
    | zero => intro j11 x12 x13 h0 h1 h2; omega
    | succ n15 ih16 =>
      intro j11 x12 x13 lj11 hj11 hn15 H locs ls hf17 hf18 hPm hPl hM hS hl
      refine lv_iload_n hx hb dX1_bearsItself_12 rfl (lv_at hl 0 rfl) ?_
      refine lv_bipush (v := 48) hx hb dX1_bearsItself_13 (by decide) ?_
      refine lv_icmp_ge (tgt := 70) hx hb dX1_bearsItself_15 (by decide) (fun c19 => ?_) (fun c19 => ?_)
      · skip
        have k20 : 48 ≤ j11 := (nI_leI (a := 48) (b := j11) (by omega) (by omega)).mp c19
        refine lv_iload_n hx hb dX1_bearsItself_70 rfl (lv_at hl 2 rfl) ?_
        refine lv_iload_n hx hb dX1_bearsItself_71 rfl (lv_at hl 1 rfl) ?_
        refine lv_icmp_ne (tgt := 79) hx hb dX1_bearsItself_72 (by decide) (fun c21 => ?_) (fun c21 => ?_)
        · skip
          exact absurd (by have e9 : j11 = 48 := (by omega); have e1 := hf18; have e2 := hf17; rw [e9] at e1 e2; rw [e1, e2]; exact wW_all no_place hst) c21
        · skip
          refine lv_iconst (v := 1) hx hb dX1_bearsItself_75 (by decide) ?_
          refine lv_goto (tgt := 80) hx hb dX1_bearsItself_76 (by decide) ?_
          subst hQ
          refine W.widen (k := 0) (n := 0) (Nat.le_of_ble_eq_true rfl) (Nat.le_of_ble_eq_true rfl) ?_
          exact W.zret (v := 1) (ty := .boolean) hx hb hr rfl (fun t ht hW => ⟨⟨1, (), rfl, rfl, CX.give hb0 hM hK hG hE hS ht hW⟩, hS.F ht⟩) hS.2.2 dX1_bearsItself_80
      · skip
        have k22 : ¬ (48 ≤ j11) := fun z => c19 ((nI_leI (a := 48) (b := j11) (by omega) (by omega)).mpr z)
        refine lv_aload_n hx hb dX1_bearsItself_18 rfl (lv_at hl 3 rfl) ?_
        refine lv_iload_n hx hb dX1_bearsItself_19 rfl (lv_at hl 0 rfl) ?_
        obtain ⟨u23, u24, u25, u26, u27, u28, hP, hf⟩ := o_st (i := i) (q := o) hM (by omega)
        refine va_calli (va_runV (As := [.int (nI j11)]) (rest := []) ⟨hx, hb, hml, hown, hts⟩ (rk_has l dC dI kA eD b g o i (nI j11) (by omega)) (cwV 1 hts gX1_bearsItself_X1_has rfl rfl rfl (by decide +kernel) ⟨Nat.le_of_ble_eq_true rfl, Nat.le_of_ble_eq_true rfl⟩) ⟨fb_CX, va_recv hK hP (ci := 5) (q0 := 0) rfl rfl, fun U hU hW => ⟨rfl, CX.give hb0 hM hK hG hE hS hU hW⟩⟩ rfl rfl hl.1 rfl (lv_room (Nat.le_of_ble_eq_true rfl)) dX1_bearsItself_20 ⟨(Nat.le_of_ble_eq_true rfl), (Nat.le_of_ble_eq_true rfl)⟩) hS (fun q _ h => h.elim) (fun q h => h.elim) (fun r29 u t H locs ht hvm hw30 hB hz1 hk1 hS => ?_)
        have hM := hB.back ht
        have hPm := pin_keep hPm hk1
        have hPl := pin_keep hPl hk1
        have hG := hB.2.2.2.1
        refine lv_if_eq (tgt := 64) hx hb dX1_bearsItself_23 (by decide) (fun c31 => ?_) (fun c31 => ?_)
        · skip
          have hk32 : (pI g (pF g o 0)) j11 = 46 := (hw30.resolve_right (fun z => absurd (z.1.symm.trans c31) (by decide))).2 j11 rfl (by omega)
          refine lv_iinc (v := (nI (j11 + 1))) (lv' := [(3, .int (nI (j11 + 1))), (2, .int x12), (1, .int x13), (0, .ref o)]) hx hb dX1_bearsItself_64 hl (k := 0) rfl (nI_add j11 1) (by decide) rfl (fun ls hl => ?_)
          refine lv_goto (tgt := 12) hx hb dX1_bearsItself_67 (by decide) ?_
          exact ih16 ((j11 + 1)) x12 x13 (by omega) (by omega) (by omega) H _ ls ((hf17).trans (su_skip (by first | exact if_pos (by assumption))).symm) ((hf18).trans (su_skip (by first | exact if_pos (by assumption))).symm) hPm hPl hM hS (lv_sub hl [0, 1, 2, 3] rfl)
        · skip
          have hk33 : ¬ (pI g (pF g o 0)) j11 = 46 := by obtain ⟨-, jz9, ez9, hz9, hz8⟩ := hw30.resolve_left (fun z => c31 z.1); rw [(nI_eq (a := j11) (b := jz9) (by omega) (by omega)).mp ez9]; exact hz8
          refine lv_aload_n hx hb dX1_bearsItself_26 rfl (lv_at hl 3 rfl) ?_
          refine lv_iload_n hx hb dX1_bearsItself_27 rfl (lv_at hl 0 rfl) ?_
          obtain ⟨u34, u35, u36, u37, u38, u39, hP, hf⟩ := o_st (i := i) (q := o) hM (by omega)
          refine va_calli (va_runV (As := [.int (nI j11)]) (rest := []) ⟨hx, hb, hml, hown, hts⟩ (rk_wouldStand l dC dI kA eD b g o i j11 (by omega) (by omega)) (cwV 1 hts gX1_bearsItself_X1_wouldStand rfl rfl rfl (by decide +kernel) ⟨Nat.le_of_ble_eq_true rfl, Nat.le_of_ble_eq_true rfl⟩) ⟨fb_CX, va_recv hK hP (ci := 5) (q0 := 0) rfl rfl, fun U hU hW => ⟨rfl, CX.give hb0 hM hK hG hE hS hU hW⟩⟩ rfl rfl hl.1 rfl (lv_room (Nat.le_of_ble_eq_true rfl)) dX1_bearsItself_28 ⟨(Nat.le_of_ble_eq_true rfl), (Nat.le_of_ble_eq_true rfl)⟩) hS (fun q _ h => h.elim) (fun q h => h.elim) (fun r40 u t H locs ht hvm hw41 hB hz1 hk1 hS => ?_)
          have hM := hB.back ht
          have hPm := pin_keep hPm hk1
          have hPl := pin_keep hPl hk1
          have hG := hB.2.2.2.1
          refine lv_if_ne (tgt := 36) hx hb dX1_bearsItself_31 (by decide) (fun c42 => ?_) (fun c42 => ?_)
          · skip
            have hk43 : WS (pI g (pF g o 0)) j11 := (hw41.resolve_left (fun z => c42 z.1)).2
            refine lv_iload_n hx hb dX1_bearsItself_36 rfl (lv_at hl 2 rfl) ?_
            refine lv_aload_n hx hb dX1_bearsItself_37 rfl (lv_at hl 3 rfl) ?_
            obtain ⟨u44, u45, u46, u47, u48, u49, hP, hf⟩ := o_st (i := i) (q := o) hM (by omega)
            refine va_get (D := (dC, dI)) (ci := 5) (v := .ref (pF g o 1)) (C := RX1) (T := TX1) (N := 15) hx hb hts (by decide +kernel) hown hK hP 0 rfl rfl 1 (by decide) (hts (.fieldLink RX1 15 "Snowpalace$Site" "masses" "[I") (by decide +kernel)) (fun _ h9 => h9) rfl dX1_bearsItself_38 ?_
            refine lv_iload_n hx hb dX1_bearsItself_41 rfl (lv_at hl 0 rfl) ?_
            have hP := hPm
            have hf : True := trivial
            refine va_iald (D := (dC, dI)) hx hb hK hP 0 0 rfl rfl (vp_in_nI (by omega) (by decide)) dX1_bearsItself_42 ?_
            refine lv_topi (fun v50 e51 => ?_)
            have ec : ((nI j11) : Int32).toNatClampNeg = j11 := nI_clamp (by omega)
            rw [ec] at e51
            subst e51
            refine lv_iadd hx hb dX1_bearsItself_43 ?_
            refine lv_topi (fun v52 e53 => ?_)
            subst e53
            refine lv_istore_n (lv' := [(1, .int (x13 + (M0 j11))), (3, .int (nI j11)), (2, .int x12), (0, .ref o)]) hx hb dX1_bearsItself_44 rfl hl (by decide) rfl (fun ls hl => ?_)
            refine lv_iload_n hx hb dX1_bearsItself_45 rfl (lv_at hl 2 rfl) ?_
            refine lv_iload_n hx hb dX1_bearsItself_46 rfl (lv_at hl 1 rfl) ?_
            refine lv_bipush (v := 8) hx hb dX1_bearsItself_47 (by decide) ?_
            refine lv_icmp_ge (tgt := 61) hx hb dX1_bearsItself_49 (by decide) (fun c54 => ?_) (fun c54 => ?_)
            · skip
              have k55 : 8 ≤ j11 := (nI_leI (a := 8) (b := j11) (by omega) (by omega)).mp c54
              refine lv_iconst (v := 0) hx hb dX1_bearsItself_61 (by decide) ?_
              refine lv_iadd hx hb dX1_bearsItself_62 ?_
              refine lv_topi (fun v56 e57 => ?_)
              subst e57
              refine lv_istore_n (lv' := [(2, .int (x12 + 0)), (1, .int (x13 + (M0 j11))), (3, .int (nI j11)), (0, .ref o)]) hx hb dX1_bearsItself_63 rfl hl (by decide) rfl (fun ls hl => ?_)
              refine lv_iinc (v := (nI (j11 + 1))) (lv' := [(3, .int (nI (j11 + 1))), (2, .int (x12 + 0)), (1, .int (x13 + (M0 j11))), (0, .ref o)]) hx hb dX1_bearsItself_64 hl (k := 2) rfl (nI_add j11 1) (by decide) rfl (fun ls hl => ?_)
              refine lv_goto (tgt := 12) hx hb dX1_bearsItself_67 (by decide) ?_
              exact ih16 ((j11 + 1)) (x12 + 0) (x13 + (M0 j11)) (by omega) (by omega) (by omega) H _ ls (by rw [hf17]; first | exact (su_more (if_neg (by assumption))).symm | exact (su_more ((if_neg (by assumption)).trans (if_pos (by omega)))).symm | exact (su_more ((if_neg (by assumption)).trans (if_neg (by omega)))).symm) (by rw [hf18]; first | exact (su_more (if_neg (by assumption))).symm | exact (su_more ((if_neg (by assumption)).trans (if_pos (by omega)))).symm | exact (su_more ((if_neg (by assumption)).trans (if_neg (by omega)))).symm) hPm hPl hM hS (lv_sub hl [0, 1, 2, 3] rfl)
            · skip
              have k58 : ¬ (8 ≤ j11) := fun z => c54 ((nI_leI (a := 8) (b := j11) (by omega) (by omega)).mpr z)
              refine lv_aload_n hx hb dX1_bearsItself_52 rfl (lv_at hl 3 rfl) ?_
              obtain ⟨u59, u60, u61, u62, u63, u64, hP, hf⟩ := o_st (i := i) (q := o) hM (by omega)
              refine va_get (D := (dC, dI)) (ci := 5) (v := .ref (pF g o 6)) (C := RX1) (T := TX1) (N := 15) hx hb hts (by decide +kernel) hown hK hP 0 rfl rfl 6 (by decide) (hts (.fieldLink RX1 32 "Snowpalace$Site" "loads" "[I") (by decide +kernel)) (fun _ h9 => h9) rfl dX1_bearsItself_53 ?_
              refine lv_iload_n hx hb dX1_bearsItself_56 rfl (lv_at hl 1 rfl) ?_
              have hP := hPl
              have hf : True := trivial
              refine va_iald (D := (dC, dI)) hx hb hK hP 0 0 rfl rfl (vp_in_nI (by omega) (by decide)) dX1_bearsItself_57 ?_
              refine lv_topi (fun v65 e66 => ?_)
              have ec : ((nI j11) : Int32).toNatClampNeg = j11 := nI_clamp (by omega)
              rw [ec] at e66
              subst e66
              refine lv_goto (tgt := 62) hx hb dX1_bearsItself_58 (by decide) ?_
              refine lv_iadd hx hb dX1_bearsItself_62 ?_
              refine lv_topi (fun v67 e68 => ?_)
              subst e68
              refine lv_istore_n (lv' := [(2, .int (x12 + ((wW (pI g (pF g o 0)) M0 (-1) 0 L0 6) j11))), (1, .int (x13 + (M0 j11))), (3, .int (nI j11)), (0, .ref o)]) hx hb dX1_bearsItself_63 rfl hl (by decide) rfl (fun ls hl => ?_)
              refine lv_iinc (v := (nI (j11 + 1))) (lv' := [(3, .int (nI (j11 + 1))), (2, .int (x12 + ((wW (pI g (pF g o 0)) M0 (-1) 0 L0 6) j11))), (1, .int (x13 + (M0 j11))), (0, .ref o)]) hx hb dX1_bearsItself_64 hl (k := 2) rfl (nI_add j11 1) (by decide) rfl (fun ls hl => ?_)
              refine lv_goto (tgt := 12) hx hb dX1_bearsItself_67 (by decide) ?_
              exact ih16 ((j11 + 1)) (x12 + ((wW (pI g (pF g o 0)) M0 (-1) 0 L0 6) j11)) (x13 + (M0 j11)) (by omega) (by omega) (by omega) H _ ls (by rw [hf17]; first | exact (su_more (if_neg (by assumption))).symm | exact (su_more ((if_neg (by assumption)).trans (if_pos (by omega)))).symm | exact (su_more ((if_neg (by assumption)).trans (if_neg (by omega)))).symm) (by rw [hf18]; first | exact (su_more (if_neg (by assumption))).symm | exact (su_more ((if_neg (by assumption)).trans (if_pos (by omega)))).symm | exact (su_more ((if_neg (by assumption)).trans (if_neg (by omega)))).symm) hPm hPl hM hS (lv_sub hl [0, 1, 2, 3] rfl)
          · skip
            have hk69 : ¬ WS (pI g (pF g o 0)) j11 := (hw41.resolve_right (fun z => absurd (z.1.symm.trans c42) (by decide))).2
            exact absurd (hst j11 (by omega) (by assumption)) (by assumption)
  exact lp14 (48 + 1) 0 0 0 (by omega) (by omega) (by omega) H _ ls rfl rfl hPm hPl hM hS (lv_sub hl [0, 1, 2, 3] rfl)
