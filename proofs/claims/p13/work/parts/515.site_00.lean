set_option maxHeartbeats 4000000 in
set_option maxRecDepth 100000 in
theorem rm_loads (l : Launch) (dC : Nat → ClassId) (dI : Nat → Nat → Nat) (kA : Nat → ClassId) (eD b : Nat) (g : Gh) (o : Nat) (i mo me : Nat) (co pe : Int32) (hto : tg g o = 28 + 64 * i) (hmo : tg g mo = 17) (hme : me < b ∨ tg g me = 17) : Met l yX5_loads wsX5_loads ({ frames := 4, cells := 7, slots := 54, locals := 91 }) (va_Pc [.ref o, .int co, .int pe] (CX (dC, dI) kA eD b g)) (va_Qr (fun (u : Gh) => Ext me X0 g u) (fun (u : Gh) (ra : Nat) t => (CX (dC, dI) kA eD b u t ∧ tg u ra = 36)) (fun q => b ≤ q)) 7 54 (fun q => b ≤ q) := by
  refine Met.ofW (cc := cX5_loads) (maxL := 7) (ret := (some (.array (.array .int)))) (by decide +kernel) rfl ?_
  intro p e s m args below meth c s₁ B hml hv
  obtain ⟨rfl, hb0, hM, hK, hG, hE⟩ := hv
  have hx := B.exec
  have hb := B.bytes
  have hr := B.returns
  have hts := atoms_spec (ws := wsX5_loads) B.pre
  have hown : s.vm.findClass RX5 = some m.cls := findClass_of_methodNamed B.named
  have hlocks := B.notSynchronized
  have hT := hE.1
  have hN := hE.2.2.2.2.2.2.2.1
  have hS : va_S (fun q => b ≤ q) s.heap s.heap [] := va_S.rf
  have hl := lv_entry ([.ref o, .int co, .int pe]) (n := 7) (Nat.le_of_ble_eq_true rfl)
  rw [lg_entry_eq]
  generalize (lg_sl ([.ref o, .int co, .int pe]) ++ List.replicate (7 - (lg_sl ([.ref o, .int co, .int pe])).length) Slot.unset).toArray = ls at hl ⊢
  have hl : lv_has ls 7 [(0, .ref o), (1, .int co), (2, .int pe)] := hl
  generalize ([.ref o, .int co, .int pe] : List Value).toArray = args at hts ⊢
  refine W.q (fun Q hQ => ?_)
  refine lv_bipush (v := 6) hx hb dX5_loads_0 (by decide) ?_
  refine lv_bipush (v := 8) hx hb dX5_loads_2 (by decide) ?_
  obtain ⟨q1, hq1⟩ : ∃ z, z = s.heap.size := ⟨_, rfl⟩
  have hbq : b ≤ s.heap.size := Nat.le_trans hb0 hS.1
  refine rt_mna (D := (dC, dI)) (t0 := 6) (t1 := 0) (ty := .int) hx hb hown (by rw [show "[" ++ (FieldType.array .int).toString = "[[I" from by decide +kernel]; exact hts (.classLink RX5 47 "[[I") (by decide +kernel)) hE.2.1.2.2.2.2.2.1 (hts (.arrayClass .int) (by decide +kernel)) hK rfl rfl hS (n := 6) (k := 8) (N' := 6) (K' := 8) (z := (8, .inl (fun _ => 0))) (by decide) (by decide) (by decide) (by decide) (by decide) (by decide) (by decide) (by decide) (by decide) (Nat.le_of_ble_eq_true rfl) (Nat.le_of_ble_eq_true rfl) (fun c => inn_i c) dX5_loads_4 (fun H hP9 hR9 hz9 ho9 hS => ?_)
  have hM9 := gmn_TM (t := 36) (tr := (fun _ => 37)) hM hbq hz9 ho9 hP9 hR9 (TE.m36 ⟨rfl, fun j hj => gmn_r hj⟩) (fun j hj => TE.m37 ⟨fun _ => 0, rfl, trivial⟩)
  have hx3 := gmn_ext (m := me) (X := X0) (t := 36) (tr := (fun _ => 37)) hM
  have hG := gmn_GOK (t := 36) (tr := (fun _ => 37)) hG hM (by omega) (fun j => by omega)
  rw [← hq1] at hM9 hx3 hG
  rw [← hq1]
  obtain ⟨g2, hg2⟩ : ∃ z, z = gmn g q1 36 (fun _ => 37) := ⟨_, rfl⟩
  rw [← hg2] at hM9 hx3 hG
  have hM := hM9
  have ht4 : tg g2 o = 28 + 64 * i := hx3.tk hto (by omega)
  have ht5 : tg g2 mo = 17 := hx3.tk hmo (by omega)
  have ht6 : tg g2 q1 = 36 := by rw [hg2]; exact gmn_o
  refine lv_astore_n (lv' := [(3, .ref q1), (0, .ref o), (1, .int co), (2, .int pe)]) hx hb dX5_loads_8 rfl hl (by decide) rfl (fun ls hl => ?_)
  refine lv_iconst (v := 5) hx hb dX5_loads_9 (by decide) ?_
  refine lv_istore (lv' := [(4, .int 5), (3, .ref q1), (0, .ref o), (1, .int co), (2, .int pe)]) hx hb dX5_loads_10 hl (by decide) rfl (fun ls hl => ?_)
  have lp8 : ∀ (j7 : Nat) , j7 ≤ 6 → ∀ (H : Heap) (locs : List Loc) (ls : Array Slot), TM (dC, dI) kA b g2 H → va_S (fun q => b ≤ q) s.heap H locs → lv_has ls 7 [(4, .int (nI j7 - 1)), (3, .ref q1), (0, .ref o), (1, .int co), (2, .int pe)] → W p l e (headSpec wsX5_loads ({ frames := 4, cells := 7, slots := 54, locals := 91 })).room s m args below meth c H locs 7 54 Q (F0 m 12 ls []) := by
    intro j7
    induction j7 with
    | zero =>
      intro hj7 H locs ls hM hS hl
      rw [show (nI 0 - 1 : Int32) = -1 by decide] at hl
      have hl : lv_has ls 7 [(4, .int (-1)), (3, .ref q1), (0, .ref o), (1, .int co), (2, .int pe)] := hl
      refine lv_iload hx hb dX5_loads_12 (lv_at hl 0 rfl) ?_
      refine lv_if_lt (tgt := 232) hx hb dX5_loads_14 (by decide) (fun _ => ?_) (fun cx => by first | exact absurd (by decide) cx | exact absurd cx (by decide))
      refine lv_aload_n hx hb dX5_loads_232 rfl (lv_at hl 1 rfl) ?_
      subst hQ
      refine W.widen (k := 7) (n := 54) (Nat.le_of_ble_eq_true rfl) (Nat.le_of_ble_eq_true rfl) ?_
      exact W.aret (v := .ref q1) hx hb hr (Or.inr ⟨_, rfl⟩) (Or.inr ⟨_, rfl⟩) (fun t ht hW => ⟨⟨g2, q1, rfl, hx3, ⟨CX.give hb0 hM hK hG hE hS ht hW, ht6⟩⟩, hS.F ht⟩) hS.2.2 dX5_loads_233
    | succ j7 ih10 =>
      intro hj7 H locs ls hM hS hl
      rw [nI_pred j7] at hl
      have hl : lv_has ls 7 [(4, .int (nI j7)), (3, .ref q1), (0, .ref o), (1, .int co), (2, .int pe)] := hl
      refine lv_iload hx hb dX5_loads_12 (lv_at hl 0 rfl) ?_
      refine lv_if_lt (tgt := 232) hx hb dX5_loads_14 (by decide) (fun c11 => ?_) (fun c11 => ?_)
      · skip
        have k12 : j7 < 0 := (nI_ltI (a := j7) (b := 0) (by omega) (by omega)).mp c11
        refine lv_aload_n hx hb dX5_loads_232 rfl (lv_at hl 1 rfl) ?_
        subst hQ
        refine W.widen (k := 7) (n := 54) (Nat.le_of_ble_eq_true rfl) (Nat.le_of_ble_eq_true rfl) ?_
        exact W.aret (v := .ref q1) hx hb hr (Or.inr ⟨_, rfl⟩) (Or.inr ⟨_, rfl⟩) (fun t ht hW => ⟨⟨g2, q1, rfl, hx3, ⟨CX.give hb0 hM hK hG hE hS ht hW, ht6⟩⟩, hS.F ht⟩) hS.2.2 dX5_loads_233
      · skip
        have k13 : ¬ (j7 < 0) := fun z => c11 ((nI_ltI (a := j7) (b := 0) (by omega) (by omega)).mpr z)
        refine lv_iconst (v := 0) hx hb dX5_loads_17 (by decide) ?_
        refine lv_istore (lv' := [(5, .int 0), (4, .int (nI j7)), (3, .ref q1), (0, .ref o), (1, .int co), (2, .int pe)]) hx hb dX5_loads_18 hl (by decide) rfl (fun ls hl => ?_)
        have lp15 : ∀ (n16 j14 : Nat) , 0 ≤ j14 → j14 ≤ 8 → 8 < j14 + n16 → ∀ (H : Heap) (locs : List Loc) (ls : Array Slot), TM (dC, dI) kA b g2 H → va_S (fun q => b ≤ q) s.heap H locs → lv_has ls 7 [(5, .int (nI j14)), (4, .int (nI j7)), (3, .ref q1), (0, .ref o), (1, .int co), (2, .int pe)] → W p l e (headSpec wsX5_loads ({ frames := 4, cells := 7, slots := 54, locals := 91 })).room s m args below meth c H locs 7 54 Q (F0 m 20 ls []) := by
          intro n16
          induction n16 with
          | zero => intro j14 h0 h1 h2; omega
          | succ n16 ih17 =>
            intro j14 lj14 hj14 hn16 H locs ls hM hS hl
            refine lv_iload hx hb dX5_loads_20 (lv_at hl 0 rfl) ?_
            refine lv_bipush (v := 8) hx hb dX5_loads_22 (by decide) ?_
            refine lv_icmp_ge (tgt := 135) hx hb dX5_loads_24 (by decide) (fun c18 => ?_) (fun c18 => ?_)
            · skip
              have k19 : 8 ≤ j14 := (nI_leI (a := 8) (b := j14) (by omega) (by omega)).mp c18
              refine lv_iconst (v := 0) hx hb dX5_loads_135 (by decide) ?_
              refine lv_istore (lv' := [(5, .int 0), (4, .int (nI j7)), (3, .ref q1), (0, .ref o), (1, .int co), (2, .int pe)]) hx hb dX5_loads_136 hl (by decide) rfl (fun ls hl => ?_)
              have lp21 : ∀ (n22 j20 : Nat) , 0 ≤ j20 → j20 ≤ 8 → 8 < j20 + n22 → ∀ (H : Heap) (locs : List Loc) (ls : Array Slot), TM (dC, dI) kA b g2 H → va_S (fun q => b ≤ q) s.heap H locs → lv_has ls 7 [(5, .int (nI j20)), (4, .int (nI j7)), (3, .ref q1), (0, .ref o), (1, .int co), (2, .int pe)] → W p l e (headSpec wsX5_loads ({ frames := 4, cells := 7, slots := 54, locals := 91 })).room s m args below meth c H locs 7 54 Q (F0 m 138 ls []) := by
                intro n22
                induction n22 with
                | zero => intro j20 h0 h1 h2; omega
                | succ n22 ih23 =>
                  intro j20 lj20 hj20 hn22 H locs ls hM hS hl
                  refine lv_iload hx hb dX5_loads_138 (lv_at hl 0 rfl) ?_
                  refine lv_bipush (v := 8) hx hb dX5_loads_140 (by decide) ?_
                  refine lv_icmp_ge (tgt := 226) hx hb dX5_loads_142 (by decide) (fun c24 => ?_) (fun c24 => ?_)
                  · skip
                    have k25 : 8 ≤ j20 := (nI_leI (a := 8) (b := j20) (by omega) (by omega)).mp c24
                    refine lv_iinc (v := ((nI j7) - 1)) (lv' := [(4, .int ((nI j7) - 1)), (5, .int (nI j20)), (3, .ref q1), (0, .ref o), (1, .int co), (2, .int pe)]) hx hb dX5_loads_226 hl (k := 1) rfl (i_dec _) (by decide) rfl (fun ls hl => ?_)
                    refine lv_goto (tgt := 12) hx hb dX5_loads_229 (by decide) ?_
                    exact ih10 (by omega) H _ ls hM hS (lv_sub hl [0, 2, 3, 4, 5] rfl)
                  · skip
                    have k26 : ¬ (8 ≤ j20) := fun z => c24 ((nI_leI (a := 8) (b := j20) (by omega) (by omega)).mpr z)
                    refine lv_aload_n hx hb dX5_loads_145 rfl (lv_at hl 3 rfl) ?_
                    refine lv_iload hx hb dX5_loads_146 (lv_at hl 0 rfl) ?_
                    refine lv_iload hx hb dX5_loads_148 (lv_at hl 1 rfl) ?_
                    obtain ⟨u27, u28, u29, u30, u31, u32, hP, hf⟩ := o_ms (i := i) (q := o) hM (by omega)
                    refine va_calli (va_runV (As := [.int (nI j20), .int (nI j7)]) (rest := []) ⟨hx, hb, hml, hown, hts⟩ (rm_has l dC dI kA eD b g2 o i (nI j20) (nI j7) (by omega)) (cwV 2 hts gX5_loads_X5_has rfl rfl rfl (by decide +kernel) ⟨Nat.le_of_ble_eq_true rfl, Nat.le_of_ble_eq_true rfl⟩) ⟨fb_CX, va_recv hK hP (ci := 9) (q0 := 0) rfl rfl, fun U hU hW => ⟨rfl, CX.give hb0 hM hK hG hE hS hU hW⟩⟩ rfl rfl hl.1 rfl (lv_room (Nat.le_of_ble_eq_true rfl)) dX5_loads_150 ⟨(Nat.le_of_ble_eq_true rfl), (Nat.le_of_ble_eq_true rfl)⟩) hS (fun q _ h => h) (fun q h => h) (fun r33 u t H locs ht hvm hw34 hB hz1 hk1 hS => ?_)
                    have hM := hB.back ht
                    have hG := hB.2.2.2.1
                    have jn35 : ∀  (H : Heap) (locs : List Loc) (ls : Array Slot), TM (dC, dI) kA b g2 H → va_S (fun q => b ≤ q) s.heap H locs → lv_has ls 7 [(5, .int (nI j20)), (4, .int (nI j7)), (3, .ref q1), (0, .ref o), (1, .int co), (2, .int pe)] → W p l e (headSpec wsX5_loads ({ frames := 4, cells := 7, slots := 54, locals := 91 })).room s m args below meth c H locs 7 54 Q (F0 m 220 ls []) := by
                      intro H locs ls hM hS hl
                      refine lv_iinc (v := (nI (j20 + 1))) (lv' := [(5, .int (nI (j20 + 1))), (4, .int (nI j7)), (3, .ref q1), (0, .ref o), (1, .int co), (2, .int pe)]) hx hb dX5_loads_220 hl (k := 0) rfl (nI_add j20 1) (by decide) rfl (fun ls hl => ?_)
                      refine lv_goto (tgt := 138) hx hb dX5_loads_223 (by decide) ?_
                      exact ih23 ((j20 + 1)) (by omega) (by omega) (by omega) H _ ls  hM hS (lv_sub hl [0, 1, 2, 3, 4, 5] rfl)
                    refine lv_if_eq (tgt := 220) hx hb dX5_loads_153 (by decide) (fun c36 => ?_) (fun c36 => ?_)
                    · skip
                      exact jn35 H _ ls hM hS (lv_sub hl [0, 1, 2, 3, 4, 5] rfl)
                    · skip
                      obtain ⟨-, jx37, jy38, cl39, hp40, hp41, hj42, hj43, hc44⟩ := hw34.resolve_left c36
                      have ej45 : jx37 = j20 := ((nI_eq (a := j20) (b := jx37) (by omega) (by omega)).mp hp40).symm
                      rw [ej45] at hc44
                      have ej46 : jy38 = j7 := ((nI_eq (a := j7) (b := jy38) (by omega) (by omega)).mp hp41).symm
                      rw [ej46] at hc44
                      refine lv_aload_n hx hb dX5_loads_156 rfl (lv_at hl 3 rfl) ?_
                      refine lv_iload hx hb dX5_loads_157 (lv_at hl 0 rfl) ?_
                      refine lv_iload hx hb dX5_loads_159 (lv_at hl 1 rfl) ?_
                      obtain ⟨u47, u48, u49, u50, u51, u52, hP, hf⟩ := o_ms (i := i) (q := o) hM (by omega)
                      refine va_calli (va_runV (As := [.int (nI j20), .int (nI j7)]) (rest := []) ⟨hx, hb, hml, hown, hts⟩ (rm_isArch l dC dI kA eD b g2 o i j20 j7 (by omega) (by omega) (by omega)) (cwV 2 hts gX5_loads_X5_isArch rfl rfl rfl (by decide +kernel) ⟨Nat.le_of_ble_eq_true rfl, Nat.le_of_ble_eq_true rfl⟩) ⟨fb_CX, va_recv hK hP (ci := 9) (q0 := 0) rfl rfl, fun U hU hW => ⟨rfl, CX.give hb0 hM hK hG hE hS hU hW⟩⟩ rfl rfl hl.1 rfl (lv_room (Nat.le_of_ble_eq_true rfl)) dX5_loads_161 ⟨(Nat.le_of_ble_eq_true rfl), (Nat.le_of_ble_eq_true rfl)⟩) hS (fun q _ h => h) (fun q h => h) (fun r53 u t H locs ht hvm hw54 hB hz1 hk1 hS => ?_)
                      have hM := hB.back ht
                      have hG := hB.2.2.2.1
                      refine lv_if_ne (tgt := 170) hx hb dX5_loads_164 (by decide) (fun c55 => ?_) (fun c55 => ?_)
                      · skip
                        obtain ⟨-, hr1, hr2⟩ := hw54.resolve_left c55
                        refine lv_aload_n hx hb dX5_loads_170 rfl (lv_at hl 2 rfl) ?_
                        refine lv_iload hx hb dX5_loads_171 (lv_at hl 1 rfl) ?_
                        obtain ⟨hP, hf⟩ := o_lt (i := 0) (q := q1) hM (by omega)
                        have ec : ((nI j7) : Int32).toNatClampNeg = j7 := nI_clamp (by omega)
                        refine rt_aldA (D := (dC, dI)) (t0 := 6) hx hb hK hP rfl (vp_in_nI (by omega) (by decide)) (y := (pF g2 q1 j7)) ((congrArg (fun z => if z < 6 then some (pF g2 q1 z) else none) ec).trans (if_pos (by omega))) dX5_loads_173 ?_
                        have ht56 : tg g2 (pF g2 q1 j7) = 37 := hf j7 (by omega)
                        refine lv_iload hx hb dX5_loads_174 (lv_at hl 0 rfl) ?_
                        refine lv_iconst (v := 1) hx hb dX5_loads_176 (by decide) ?_
                        refine lv_isub hx hb dX5_loads_177 ?_
                        refine lv_topi (fun v57 e58 => ?_)
                        obtain rfl : v57 = nI (j20 - 1) := e58.trans (pk_sub (a := j20) (b := 1) (by omega))
                        refine lv_dup2_11 hx hb dX5_loads_178 rfl rfl ?_
                        obtain ⟨u59, hP, hf⟩ := o_lr (i := 0) (q := (pF g2 q1 j7)) hM (by omega)
                        refine va_iald (D := (dC, dI)) hx hb hK hP 0 0 rfl rfl (vp_in_nI (by omega) (by decide)) dX5_loads_179 ?_
                        refine lv_topi (fun v60 e61 => ?_)
                        have ec : ((nI (j20 - 1)) : Int32).toNatClampNeg = (j20 - 1) := nI_clamp (by omega)
                        rw [ec] at e61
                        refine lv_aload_n hx hb dX5_loads_180 rfl (lv_at hl 2 rfl) ?_
                        refine lv_iload hx hb dX5_loads_181 (lv_at hl 1 rfl) ?_
                        obtain ⟨hP, hf⟩ := o_lt (i := 0) (q := q1) hM (by omega)
                        have ec : ((nI j7) : Int32).toNatClampNeg = j7 := nI_clamp (by omega)
                        refine rt_aldA (D := (dC, dI)) (t0 := 6) hx hb hK hP rfl (vp_in_nI (by omega) (by decide)) (y := (pF g2 q1 j7)) ((congrArg (fun z => if z < 6 then some (pF g2 q1 z) else none) ec).trans (if_pos (by omega))) dX5_loads_183 ?_
                        have ht62 : tg g2 (pF g2 q1 j7) = 37 := hf j7 (by omega)
                        refine lv_iload hx hb dX5_loads_184 (lv_at hl 0 rfl) ?_
                        obtain ⟨u63, hP, hf⟩ := o_lr (i := 0) (q := (pF g2 q1 j7)) hM (by omega)
                        refine va_iald (D := (dC, dI)) hx hb hK hP 0 0 rfl rfl (vp_in_nI (by omega) (by decide)) dX5_loads_186 ?_
                        refine lv_topi (fun v64 e65 => ?_)
                        have ec : ((nI j20) : Int32).toNatClampNeg = j20 := nI_clamp (by omega)
                        rw [ec] at e65
                        refine lv_iconst (v := 2) hx hb dX5_loads_187 (by decide) ?_
                        refine lv_idiv hx hb dX5_loads_188 (by decide) ?_
                        refine lv_topi (fun v66 e67 => ?_)
                        refine lv_iadd hx hb dX5_loads_189 ?_
                        refine lv_topi (fun v68 e69 => ?_)
                        obtain ⟨u70, hP, hf⟩ := o_lr (i := 0) (q := (pF g2 q1 j7)) hM (by omega)
                        refine rt_iast (D := (dC, dI)) (t0 := 0) hx hb hK hP (hM.ge (by omega)) hS rfl (vp_in_nI (by omega) (by decide)) dX5_loads_190 (fun H locs hP hz ho hS => ?_)
                        have ec : ((nI (j20 - 1)) : Int32).toNatClampNeg = (j20 - 1) := nI_clamp (by omega)
                        rw [ec] at hP
                        have hM := s_lr (i := 0) hM (by omega) hP ho hf
                        refine lv_aload_n hx hb dX5_loads_191 rfl (lv_at hl 2 rfl) ?_
                        refine lv_iload hx hb dX5_loads_192 (lv_at hl 1 rfl) ?_
                        obtain ⟨hP, hf⟩ := o_lt (i := 0) (q := q1) hM (by omega)
                        have ec : ((nI j7) : Int32).toNatClampNeg = j7 := nI_clamp (by omega)
                        refine rt_aldA (D := (dC, dI)) (t0 := 6) hx hb hK hP rfl (vp_in_nI (by omega) (by decide)) (y := (pF g2 q1 j7)) ((congrArg (fun z => if z < 6 then some (pF g2 q1 z) else none) ec).trans (if_pos (by omega))) dX5_loads_194 ?_
                        have ht71 : tg g2 (pF g2 q1 j7) = 37 := hf j7 (by omega)
                        refine lv_iload hx hb dX5_loads_195 (lv_at hl 0 rfl) ?_
                        refine lv_iconst (v := 1) hx hb dX5_loads_197 (by decide) ?_
                        refine lv_iadd hx hb dX5_loads_198 ?_
                        refine lv_topi (fun v72 e73 => ?_)
                        obtain rfl : v72 = nI (j20 + 1) := e73.trans (nI_add j20 1)
                        refine lv_dup2_11 hx hb dX5_loads_199 rfl rfl ?_
                        obtain ⟨u74, hP, hf⟩ := o_lr (i := 0) (q := (pF g2 q1 j7)) hM (by omega)
                        refine va_iald (D := (dC, dI)) hx hb hK hP 0 0 rfl rfl (vp_in_nI (by omega) (by decide)) dX5_loads_200 ?_
                        refine lv_topi (fun v75 e76 => ?_)
                        have ec : ((nI (j20 + 1)) : Int32).toNatClampNeg = (j20 + 1) := nI_clamp (by omega)
                        rw [ec] at e76
                        refine lv_aload_n hx hb dX5_loads_201 rfl (lv_at hl 2 rfl) ?_
                        refine lv_iload hx hb dX5_loads_202 (lv_at hl 1 rfl) ?_
                        obtain ⟨hP, hf⟩ := o_lt (i := 0) (q := q1) hM (by omega)
                        have ec : ((nI j7) : Int32).toNatClampNeg = j7 := nI_clamp (by omega)
                        refine rt_aldA (D := (dC, dI)) (t0 := 6) hx hb hK hP rfl (vp_in_nI (by omega) (by decide)) (y := (pF g2 q1 j7)) ((congrArg (fun z => if z < 6 then some (pF g2 q1 z) else none) ec).trans (if_pos (by omega))) dX5_loads_204 ?_
                        have ht77 : tg g2 (pF g2 q1 j7) = 37 := hf j7 (by omega)
                        refine lv_iload hx hb dX5_loads_205 (lv_at hl 0 rfl) ?_
                        obtain ⟨u78, hP, hf⟩ := o_lr (i := 0) (q := (pF g2 q1 j7)) hM (by omega)
                        refine va_iald (D := (dC, dI)) hx hb hK hP 0 0 rfl rfl (vp_in_nI (by omega) (by decide)) dX5_loads_207 ?_
                        refine lv_topi (fun v79 e80 => ?_)
                        have ec : ((nI j20) : Int32).toNatClampNeg = j20 := nI_clamp (by omega)
                        rw [ec] at e80
                        refine lv_aload_n hx hb dX5_loads_208 rfl (lv_at hl 2 rfl) ?_
                        refine lv_iload hx hb dX5_loads_209 (lv_at hl 1 rfl) ?_
                        obtain ⟨hP, hf⟩ := o_lt (i := 0) (q := q1) hM (by omega)
                        have ec : ((nI j7) : Int32).toNatClampNeg = j7 := nI_clamp (by omega)
                        refine rt_aldA (D := (dC, dI)) (t0 := 6) hx hb hK hP rfl (vp_in_nI (by omega) (by decide)) (y := (pF g2 q1 j7)) ((congrArg (fun z => if z < 6 then some (pF g2 q1 z) else none) ec).trans (if_pos (by omega))) dX5_loads_211 ?_
                        have ht81 : tg g2 (pF g2 q1 j7) = 37 := hf j7 (by omega)
                        refine lv_iload hx hb dX5_loads_212 (lv_at hl 0 rfl) ?_
                        obtain ⟨u82, hP, hf⟩ := o_lr (i := 0) (q := (pF g2 q1 j7)) hM (by omega)
                        refine va_iald (D := (dC, dI)) hx hb hK hP 0 0 rfl rfl (vp_in_nI (by omega) (by decide)) dX5_loads_214 ?_
                        refine lv_topi (fun v83 e84 => ?_)
                        have ec : ((nI j20) : Int32).toNatClampNeg = j20 := nI_clamp (by omega)
                        rw [ec] at e84
                        refine lv_iconst (v := 2) hx hb dX5_loads_215 (by decide) ?_
                        refine lv_idiv hx hb dX5_loads_216 (by decide) ?_
                        refine lv_topi (fun v85 e86 => ?_)
                        refine lv_isub hx hb dX5_loads_217 ?_
                        refine lv_topi (fun v87 e88 => ?_)
                        refine lv_iadd hx hb dX5_loads_218 ?_
                        refine lv_topi (fun v89 e90 => ?_)
                        obtain ⟨u91, hP, hf⟩ := o_lr (i := 0) (q := (pF g2 q1 j7)) hM (by omega)
                        refine rt_iast (D := (dC, dI)) (t0 := 0) hx hb hK hP (hM.ge (by omega)) hS rfl (vp_in_nI (by omega) (by decide)) dX5_loads_219 (fun H locs hP hz ho hS => ?_)
                        have ec : ((nI (j20 + 1)) : Int32).toNatClampNeg = (j20 + 1) := nI_clamp (by omega)
                        rw [ec] at hP
                        have hM := s_lr (i := 0) hM (by omega) hP ho hf
                        exact jn35 H _ ls hM hS (lv_sub hl [0, 1, 2, 3, 4, 5] rfl)
                      · skip
                        refine lv_goto (tgt := 220) hx hb dX5_loads_167 (by decide) ?_
                        exact jn35 H _ ls hM hS (lv_sub hl [0, 1, 2, 3, 4, 5] rfl)
              exact lp21 (8 + 1) 0 (by omega) (by omega) (by omega) H _ ls  hM hS (lv_sub hl [0, 1, 2, 3, 4, 5] rfl)
            · skip
              have k92 : ¬ (8 ≤ j14) := fun z => c18 ((nI_leI (a := 8) (b := j14) (by omega) (by omega)).mpr z)
              refine lv_aload_n hx hb dX5_loads_27 rfl (lv_at hl 3 rfl) ?_
              refine lv_iload hx hb dX5_loads_28 (lv_at hl 0 rfl) ?_
              refine lv_iload hx hb dX5_loads_30 (lv_at hl 1 rfl) ?_
              obtain ⟨u93, u94, u95, u96, u97, u98, hP, hf⟩ := o_ms (i := i) (q := o) hM (by omega)
              refine va_calli (va_runV (As := [.int (nI j14), .int (nI j7)]) (rest := []) ⟨hx, hb, hml, hown, hts⟩ (rm_has l dC dI kA eD b g2 o i (nI j14) (nI j7) (by omega)) (cwV 2 hts gX5_loads_X5_has rfl rfl rfl (by decide +kernel) ⟨Nat.le_of_ble_eq_true rfl, Nat.le_of_ble_eq_true rfl⟩) ⟨fb_CX, va_recv hK hP (ci := 9) (q0 := 0) rfl rfl, fun U hU hW => ⟨rfl, CX.give hb0 hM hK hG hE hS hU hW⟩⟩ rfl rfl hl.1 rfl (lv_room (Nat.le_of_ble_eq_true rfl)) dX5_loads_32 ⟨(Nat.le_of_ble_eq_true rfl), (Nat.le_of_ble_eq_true rfl)⟩) hS (fun q _ h => h) (fun q h => h) (fun r99 u t H locs ht hvm hw100 hB hz1 hk1 hS => ?_)
              have hM := hB.back ht
              have hG := hB.2.2.2.1
              have jn101 : ∀  (H : Heap) (locs : List Loc) (ls : Array Slot), TM (dC, dI) kA b g2 H → va_S (fun q => b ≤ q) s.heap H locs → lv_has ls 7 [(5, .int (nI j14)), (4, .int (nI j7)), (3, .ref q1), (0, .ref o), (1, .int co), (2, .int pe)] → W p l e (headSpec wsX5_loads ({ frames := 4, cells := 7, slots := 54, locals := 91 })).room s m args below meth c H locs 7 54 Q (F0 m 129 ls []) := by
                intro H locs ls hM hS hl
                refine lv_iinc (v := (nI (j14 + 1))) (lv' := [(5, .int (nI (j14 + 1))), (4, .int (nI j7)), (3, .ref q1), (0, .ref o), (1, .int co), (2, .int pe)]) hx hb dX5_loads_129 hl (k := 0) rfl (nI_add j14 1) (by decide) rfl (fun ls hl => ?_)
                refine lv_goto (tgt := 20) hx hb dX5_loads_132 (by decide) ?_
                exact ih17 ((j14 + 1)) (by omega) (by omega) (by omega) H _ ls  hM hS (lv_sub hl [0, 1, 2, 3, 4, 5] rfl)
              refine lv_if_ne (tgt := 41) hx hb dX5_loads_35 (by decide) (fun c102 => ?_) (fun c102 => ?_)
              · skip
                obtain ⟨-, jx103, jy104, cl105, hp106, hp107, hj108, hj109, hc110⟩ := hw100.resolve_left c102
                have ej111 : jx103 = j14 := ((nI_eq (a := j14) (b := jx103) (by omega) (by omega)).mp hp106).symm
                rw [ej111] at hc110
                have ej112 : jy104 = j7 := ((nI_eq (a := j7) (b := jy104) (by omega) (by omega)).mp hp107).symm
                rw [ej112] at hc110
                refine lv_iload hx hb dX5_loads_41 (lv_at hl 0 rfl) ?_
                refine lv_iload_n hx hb dX5_loads_43 rfl (lv_at hl 4 rfl) ?_
                have jn114 : ∀ (x113 : Int32) (H : Heap) (locs : List Loc) (ls : Array Slot), (x113 = 0 ∨ x113 = 1) → TM (dC, dI) kA b g2 H → va_S (fun q => b ≤ q) s.heap H locs → lv_has ls 7 [(5, .int (nI j14)), (4, .int (nI j7)), (3, .ref q1), (0, .ref o), (1, .int co), (2, .int pe)] → W p l e (headSpec wsX5_loads ({ frames := 4, cells := 7, slots := 54, locals := 91 })).room s m args below meth c H locs 7 54 Q (F0 m 63 ls [.int x113]) := by
                  intro x113 H locs ls hj115 hM hS hl
                  refine lv_istore (lv' := [(6, .int x113), (5, .int (nI j14)), (4, .int (nI j7)), (3, .ref q1), (0, .ref o), (1, .int co), (2, .int pe)]) hx hb dX5_loads_63 hl (by decide) rfl (fun ls hl => ?_)
                  refine lv_aload_n hx hb dX5_loads_65 rfl (lv_at hl 3 rfl) ?_
                  refine lv_iload hx hb dX5_loads_66 (lv_at hl 2 rfl) ?_
                  obtain ⟨hP, hf⟩ := o_lt (i := 0) (q := q1) hM (by omega)
                  have ec : ((nI j7) : Int32).toNatClampNeg = j7 := nI_clamp (by omega)
                  refine rt_aldA (D := (dC, dI)) (t0 := 6) hx hb hK hP rfl (vp_in_nI (by omega) (by decide)) (y := (pF g2 q1 j7)) ((congrArg (fun z => if z < 6 then some (pF g2 q1 z) else none) ec).trans (if_pos (by omega))) dX5_loads_68 ?_
                  have ht116 : tg g2 (pF g2 q1 j7) = 37 := hf j7 (by omega)
                  refine lv_iload hx hb dX5_loads_69 (lv_at hl 1 rfl) ?_
                  refine lv_dup2_11 hx hb dX5_loads_71 rfl rfl ?_
                  obtain ⟨u117, hP, hf⟩ := o_lr (i := 0) (q := (pF g2 q1 j7)) hM (by omega)
                  refine va_iald (D := (dC, dI)) hx hb hK hP 0 0 rfl rfl (vp_in_nI (by omega) (by decide)) dX5_loads_72 ?_
                  refine lv_topi (fun v118 e119 => ?_)
                  have ec : ((nI j14) : Int32).toNatClampNeg = j14 := nI_clamp (by omega)
                  rw [ec] at e119
                  refine lv_aload_n hx hb dX5_loads_73 rfl (lv_at hl 4 rfl) ?_
                  obtain ⟨u120, u121, u122, u123, u124, u125, hP, hf⟩ := o_ms (i := i) (q := o) hM (by omega)
                  refine va_get (D := (dC, dI)) (ci := 9) (v := .ref (pF g2 o 0)) (C := RX5) (T := TX5) (N := 10) hx hb hts (by decide +kernel) hown hK hP 0 rfl rfl 0 (by decide) (hts (.fieldLink RX5 17 "SnowpalaceModel$Site" "cells" "[[LSnowpalaceModel$Cell;") (by decide +kernel)) (fun _ h9 => h9) rfl dX5_loads_74 ?_
                  have ht126 : tg g2 (pF g2 o 0) = 29 + 64 * i := hf.1
                  refine lv_iload hx hb dX5_loads_77 (lv_at hl 2 rfl) ?_
                  obtain ⟨hP, hf⟩ := o_co (i := i) (q := (pF g2 o 0)) hM (by omega)
                  have ec : ((nI j7) : Int32).toNatClampNeg = j7 := nI_clamp (by omega)
                  refine rt_aldA (D := (dC, dI)) (t0 := 9) hx hb hK hP rfl (vp_in_nI (by omega) (by decide)) (y := (pF g2 (pF g2 o 0) j7)) ((congrArg (fun z => if z < 6 then some (pF g2 (pF g2 o 0) z) else none) ec).trans (if_pos (by omega))) dX5_loads_79 ?_
                  have ht127 : tg g2 (pF g2 (pF g2 o 0) j7) = 30 + 64 * (8 * i + j7) := (hf j7 (by omega))
                  refine lv_iload hx hb dX5_loads_80 (lv_at hl 1 rfl) ?_
                  obtain ⟨hP, hf⟩ := o_cr (i := (8 * i + j7)) (q := (pF g2 (pF g2 o 0) j7)) hM (by omega)
                  refine va_aldq (D := (dC, dI)) hx hb hK hP 0 8 rfl rfl (vp_in_nI (by omega) (by decide)) dX5_loads_82 ?_
                  have ec : ((nI j14) : Int32).toNatClampNeg = j14 := nI_clamp (by omega)
                  rw [ec]
                  have hq128 := hf j14 (by omega)
                  rw [hc110]
                  have ht129 : tg g2 cl105 = 31 := hq128 cl105 hc110
                  obtain ⟨u130, u131, u132, u133, u134, hP, hf⟩ := o_ce (i := 0) (q := cl105) hM (by omega)
                  refine va_getN (D := (dC, dI)) (ci := 8) (v := .int u131) (C := RX4) (T := TX4) (N := 5) hx hb hts (by decide +kernel) hown hK hP 0 rfl rfl 1 (by decide) (hN (.fieldLinkNest RX5 53 "SnowpalaceModel$Cell" "mass" "I" RX6) (by decide +kernel)) (fun _ h9 => h9) rfl dX5_loads_83 ?_
                  refine lv_aload_n hx hb dX5_loads_86 rfl (lv_at hl 4 rfl) ?_
                  refine lv_iload hx hb dX5_loads_87 (lv_at hl 1 rfl) ?_
                  refine lv_iload hx hb dX5_loads_89 (lv_at hl 2 rfl) ?_
                  refine lv_iconst (v := 1) hx hb dX5_loads_91 (by decide) ?_
                  refine lv_iadd hx hb dX5_loads_92 ?_
                  refine lv_topi (fun v135 e136 => ?_)
                  obtain rfl : v135 = nI (j7 + 1) := e136.trans (nI_add j7 1)
                  obtain ⟨u137, u138, u139, u140, u141, u142, hP, hf⟩ := o_ms (i := i) (q := o) hM (by omega)
                  refine va_calli (va_runV (As := [.int (nI j14), .int (nI (j7 + 1))]) (rest := [.int u131, .int v118, .int (nI j14), .ref (pF g2 q1 j7)]) ⟨hx, hb, hml, hown, hts⟩ (rm_has l dC dI kA eD b g2 o i (nI j14) (nI (j7 + 1)) (by omega)) (cwV 2 hts gX5_loads_X5_has rfl rfl rfl (by decide +kernel) ⟨Nat.le_of_ble_eq_true rfl, Nat.le_of_ble_eq_true rfl⟩) ⟨fb_CX, va_recv hK hP (ci := 9) (q0 := 0) rfl rfl, fun U hU hW => ⟨rfl, CX.give hb0 hM hK hG hE hS hU hW⟩⟩ rfl rfl hl.1 rfl (lv_room (Nat.le_of_ble_eq_true rfl)) dX5_loads_93 ⟨(Nat.le_of_ble_eq_true rfl), (Nat.le_of_ble_eq_true rfl)⟩) hS (fun q _ h => h) (fun q h => h) (fun r143 u t H locs ht hvm hw144 hB hz1 hk1 hS => ?_)
                  have hM := hB.back ht
                  have hG := hB.2.2.2.1
                  have jn146 : ∀ (x145 : Int32) (H : Heap) (locs : List Loc) (ls : Array Slot), TM (dC, dI) kA b g2 H → va_S (fun q => b ≤ q) s.heap H locs → lv_has ls 7 [(6, .int x113), (5, .int (nI j14)), (4, .int (nI j7)), (3, .ref q1), (0, .ref o), (1, .int co), (2, .int pe)] → W p l e (headSpec wsX5_loads ({ frames := 4, cells := 7, slots := 54, locals := 91 })).room s m args below meth c H locs 7 54 Q (F0 m 112 ls [.int x145, .int u131, .int v118, .int (nI j14), .ref (pF g2 q1 j7)]) := by
                    intro x145 H locs ls hM hS hl
                    refine lv_iadd hx hb dX5_loads_112 ?_
                    refine lv_topi (fun v147 e148 => ?_)
                    refine lv_iload hx hb dX5_loads_113 (lv_at hl 0 rfl) ?_
                    have jn150 : ∀ (x149 : Int32) (H : Heap) (locs : List Loc) (ls : Array Slot), TM (dC, dI) kA b g2 H → va_S (fun q => b ≤ q) s.heap H locs → lv_has ls 7 [(6, .int x113), (5, .int (nI j14)), (4, .int (nI j7)), (3, .ref q1), (0, .ref o), (1, .int co), (2, .int pe)] → W p l e (headSpec wsX5_loads ({ frames := 4, cells := 7, slots := 54, locals := 91 })).room s m args below meth c H locs 7 54 Q (F0 m 126 ls [.int x149, .int v147, .int v118, .int (nI j14), .ref (pF g2 q1 j7)]) := by
                      intro x149 H locs ls hM hS hl
                      refine lv_iadd hx hb dX5_loads_126 ?_
                      refine lv_topi (fun v151 e152 => ?_)
                      refine lv_iadd hx hb dX5_loads_127 ?_
                      refine lv_topi (fun v153 e154 => ?_)
                      obtain ⟨u155, hP, hf⟩ := o_lr (i := 0) (q := (pF g2 q1 j7)) hM (by omega)
                      refine rt_iast (D := (dC, dI)) (t0 := 0) hx hb hK hP (hM.ge (by omega)) hS rfl (vp_in_nI (by omega) (by decide)) dX5_loads_128 (fun H locs hP hz ho hS => ?_)
                      have ec : ((nI j14) : Int32).toNatClampNeg = j14 := nI_clamp (by omega)
                      rw [ec] at hP
                      have hM := s_lr (i := 0) hM (by omega) hP ho hf
                      exact jn101 H _ ls hM hS (lv_sub hl [1, 2, 3, 4, 5, 6] rfl)
                    refine lv_if_eq (tgt := 125) hx hb dX5_loads_115 (by decide) (fun c156 => ?_) (fun c156 => ?_)
                    · skip
                      refine lv_iconst (v := 0) hx hb dX5_loads_125 (by decide) ?_
                      exact jn150 0 H _ ls hM hS (lv_sub hl [0, 1, 2, 3, 4, 5, 6] rfl)
                    · skip
                      refine lv_bipush (v := 70) hx hb dX5_loads_118 (by decide) ?_
                      refine lv_iload_n hx hb dX5_loads_120 rfl (lv_at hl 6 rfl) ?_
                      refine lv_imul hx hb dX5_loads_121 ?_
                      refine lv_topi (fun v157 e158 => ?_)
                      refine lv_goto (tgt := 126) hx hb dX5_loads_122 (by decide) ?_
                      exact jn150 v157 H _ ls hM hS (lv_sub hl [0, 1, 2, 3, 4, 5, 6] rfl)
                  refine lv_if_eq (tgt := 111) hx hb dX5_loads_96 (by decide) (fun c159 => ?_) (fun c159 => ?_)
                  · skip
                    refine lv_iconst (v := 0) hx hb dX5_loads_111 (by decide) ?_
                    exact jn146 0 H _ ls hM hS (lv_sub hl [0, 1, 2, 3, 4, 5, 6] rfl)
                  · skip
                    obtain ⟨-, jx160, jy161, cl162, hp163, hp164, hj165, hj166, hc167⟩ := hw144.resolve_left c159
                    have ej168 : jx160 = j14 := ((nI_eq (a := j14) (b := jx160) (by omega) (by omega)).mp hp163).symm
                    rw [ej168] at hc167
                    have ej169 : jy161 = (j7 + 1) := ((nI_eq (a := (j7 + 1)) (b := jy161) (by omega) (by omega)).mp hp164).symm
                    rw [ej169] at hc167
                    refine lv_aload_n hx hb dX5_loads_99 rfl (lv_at hl 3 rfl) ?_
                    refine lv_iload hx hb dX5_loads_100 (lv_at hl 2 rfl) ?_
                    refine lv_iconst (v := 1) hx hb dX5_loads_102 (by decide) ?_
                    refine lv_iadd hx hb dX5_loads_103 ?_
                    refine lv_topi (fun v170 e171 => ?_)
                    obtain rfl : v170 = nI (j7 + 1) := e171.trans (nI_add j7 1)
                    obtain ⟨hP, hf⟩ := o_lt (i := 0) (q := q1) hM (by omega)
                    have ec : ((nI (j7 + 1)) : Int32).toNatClampNeg = (j7 + 1) := nI_clamp (by omega)
                    refine rt_aldA (D := (dC, dI)) (t0 := 6) hx hb hK hP rfl (vp_in_nI (by omega) (by decide)) (y := (pF g2 q1 (j7 + 1))) ((congrArg (fun z => if z < 6 then some (pF g2 q1 z) else none) ec).trans (if_pos (by omega))) dX5_loads_104 ?_
                    have ht172 : tg g2 (pF g2 q1 (j7 + 1)) = 37 := hf (j7 + 1) (by omega)
                    refine lv_iload hx hb dX5_loads_105 (lv_at hl 1 rfl) ?_
                    obtain ⟨u173, hP, hf⟩ := o_lr (i := 0) (q := (pF g2 q1 (j7 + 1))) hM (by omega)
                    refine va_iald (D := (dC, dI)) hx hb hK hP 0 0 rfl rfl (vp_in_nI (by omega) (by decide)) dX5_loads_107 ?_
                    refine lv_topi (fun v174 e175 => ?_)
                    have ec : ((nI j14) : Int32).toNatClampNeg = j14 := nI_clamp (by omega)
                    rw [ec] at e175
                    refine lv_goto (tgt := 112) hx hb dX5_loads_108 (by decide) ?_
                    exact jn146 v174 H _ ls hM hS (lv_sub hl [0, 1, 2, 3, 4, 5, 6] rfl)
                refine lv_icmp_ne (tgt := 62) hx hb dX5_loads_44 (by decide) (fun c176 => ?_) (fun c176 => ?_)
                · skip
                  refine lv_iconst (v := 0) hx hb dX5_loads_62 (by decide) ?_
                  exact jn114 0 H _ ls (Or.inl rfl) hM hS (lv_sub hl [0, 1, 2, 3, 4, 5] rfl)
                · skip
                  refine lv_aload_n hx hb dX5_loads_47 rfl (lv_at hl 3 rfl) ?_
                  refine lv_iload hx hb dX5_loads_48 (lv_at hl 0 rfl) ?_
                  obtain ⟨u177, u178, u179, u180, u181, u182, hP, hf⟩ := o_ms (i := i) (q := o) hM (by omega)
                  refine va_calli (va_runV (As := [.int (nI j14)]) (rest := []) ⟨hx, hb, hml, hown, hts⟩ (rm_top l dC dI kA eD b g2 o i (nI j14) (by omega)) (cwV 1 hts gX5_loads_X5_top rfl rfl rfl (by decide +kernel) ⟨Nat.le_of_ble_eq_true rfl, Nat.le_of_ble_eq_true rfl⟩) ⟨fb_CX, va_recv hK hP (ci := 9) (q0 := 0) rfl rfl, fun U hU hW => ⟨rfl, CX.give hb0 hM hK hG hE hS hU hW⟩⟩ rfl rfl hl.1 rfl (lv_room (Nat.le_of_ble_eq_true rfl)) dX5_loads_50 ⟨(Nat.le_of_ble_eq_true rfl), (Nat.le_of_ble_eq_true rfl)⟩) hS (fun q _ h => h) (fun q h => h) (fun r183 u t H locs ht hvm hw184 hB hz1 hk1 hS => ?_)
                  have hM := hB.back ht
                  have hG := hB.2.2.2.1
                  refine lv_iload hx hb dX5_loads_53 (lv_at hl 1 rfl) ?_
                  refine lv_icmp_ne (tgt := 62) hx hb dX5_loads_55 (by decide) (fun c185 => ?_) (fun c185 => ?_)
                  · skip
                    refine lv_iconst (v := 0) hx hb dX5_loads_62 (by decide) ?_
                    exact jn114 0 H _ ls (Or.inl rfl) hM hS (lv_sub hl [0, 1, 2, 3, 4, 5] rfl)
                  · skip
                    refine lv_iconst (v := 1) hx hb dX5_loads_58 (by decide) ?_
                    refine lv_goto (tgt := 63) hx hb dX5_loads_59 (by decide) ?_
                    exact jn114 1 H _ ls (Or.inr rfl) hM hS (lv_sub hl [0, 1, 2, 3, 4, 5] rfl)
              · skip
                refine lv_goto (tgt := 129) hx hb dX5_loads_38 (by decide) ?_
                exact jn101 H _ ls hM hS (lv_sub hl [0, 1, 2, 3, 4, 5] rfl)
        exact lp15 (8 + 1) 0 (by omega) (by omega) (by omega) H _ ls  hM hS (lv_sub hl [0, 1, 2, 3, 4, 5] rfl)
  exact lp8 6 (by omega) H _ ls hM hS (by have hl9 := lv_sub hl [0, 1, 2, 3, 4] rfl; exact hl9)

set_option maxHeartbeats 4000000 in
set_option maxRecDepth 100000 in
theorem rm_weak (l : Launch) (dC : Nat → ClassId) (dI : Nat → Nat → Nat) (kA : Nat → ClassId) (eD b : Nat) (g : Gh) (o : Nat) (i mo me : Nat) (wm : Int32) (hto : tg g o = 28 + 64 * i) (hmo : tg g mo = 17) (hme : me < b ∨ tg g me = 17) : Met l yX5_weak wsX5_weak ({ frames := 5, cells := 14, slots := 108, locals := 117 }) (va_Pc [.ref o, .int wm] (CX (dC, dI) kA eD b g)) (va_Qr (fun (u : Gh) => Ext me X0 g u) (fun (u : Gh) (ra : Nat) t => (CX (dC, dI) kA eD b u t ∧ tg u ra = 38 ∧ FI g u o ra)) (fun q => b ≤ q)) 14 108 (fun q => b ≤ q) := by
  refine Met.ofW (cc := cX5_weak) (maxL := 6) (ret := (some (.array (.array .boolean)))) (by decide +kernel) rfl ?_
  intro p e s m args below meth c s₁ B hml hv
  obtain ⟨rfl, hb0, hM, hK, hG, hE⟩ := hv
  have hx := B.exec
  have hb := B.bytes
  have hr := B.returns
  have hts := atoms_spec (ws := wsX5_weak) B.pre
  have hown : s.vm.findClass RX5 = some m.cls := findClass_of_methodNamed B.named
  have hlocks := B.notSynchronized
  have hT := hE.1
  have hN := hE.2.2.2.2.2.2.2.1
  have hS : va_S (fun q => b ≤ q) s.heap s.heap [] := va_S.rf
  have hl := lv_entry ([.ref o, .int wm]) (n := 6) (Nat.le_of_ble_eq_true rfl)
  rw [lg_entry_eq]
  generalize (lg_sl ([.ref o, .int wm]) ++ List.replicate (6 - (lg_sl ([.ref o, .int wm])).length) Slot.unset).toArray = ls at hl ⊢
  have hl : lv_has ls 6 [(0, .ref o), (1, .int wm)] := hl
  generalize ([.ref o, .int wm] : List Value).toArray = args at hts ⊢
  refine W.q (fun Q hQ => ?_)
  have hgt := grid_tags hM hto
  have hMg := hM
  refine lv_bipush (v := 6) hx hb dX5_weak_0 (by decide) ?_
  refine lv_bipush (v := 8) hx hb dX5_weak_2 (by decide) ?_
  obtain ⟨q1, hq1⟩ : ∃ z, z = s.heap.size := ⟨_, rfl⟩
  have hbq : b ≤ s.heap.size := Nat.le_trans hb0 hS.1
  refine rt_mna (D := (dC, dI)) (t0 := 7) (t1 := 1) (ty := .boolean) hx hb hown (by rw [show "[" ++ (FieldType.array .boolean).toString = "[[Z" from by decide +kernel]; exact hts (.classLink RX5 20 "[[Z") (by decide +kernel)) hE.2.2.1.2.2.1 (hts (.arrayClass .boolean) (by decide +kernel)) hK rfl rfl hS (n := 6) (k := 8) (N' := 6) (K' := 8) (z := (8, .inl (fun _ => 0))) (by decide) (by decide) (by decide) (by decide) (by decide) (by decide) (by decide) (by decide) (by decide) (Nat.le_of_ble_eq_true rfl) (Nat.le_of_ble_eq_true rfl) (fun c => inn_b c) dX5_weak_4 (fun H hP9 hR9 hz9 ho9 hS => ?_)
  have hM9 := gmn_TM (t := 38) (tr := (fun j => 39 + 64 * j)) hM hbq hz9 ho9 hP9 hR9 (TE.m38 ⟨rfl, fun j hj => gmn_r hj⟩) (fun j hj => (by rw [show (39 + 64 * (j)) % 64 = 39 by omega, show (39 + 64 * (j)) / 64 = j by omega]; exact TE.m39 ⟨rfl, trivial⟩))
  have hx3 := gmn_ext (m := me) (X := X0) (t := 38) (tr := (fun j => 39 + 64 * j)) hM
  have hG := gmn_GOK (t := 38) (tr := (fun j => 39 + 64 * j)) hG hM (by omega) (fun j => by omega)
  rw [← hq1] at hM9 hx3 hG
  rw [← hq1]
  obtain ⟨g2, hg2⟩ : ∃ z, z = gmn g q1 38 (fun j => 39 + 64 * j) := ⟨_, rfl⟩
  rw [← hg2] at hM9 hx3 hG
  have hM := hM9
  have ht4 : tg g2 o = 28 + 64 * i := hx3.tk hto (by omega)
  have ht5 : tg g2 mo = 17 := hx3.tk hmo (by omega)
  have ht6 : tg g2 q1 = 38 := by rw [hg2]; exact gmn_o
  have hFI : FI g g2 o q1 := by rw [hg2]; exact FI.zero (fun y => gmn_f) (fun y x hy => gmn_i hy)
  have hz0 : ∀ y, y < 6 → tg g (q1 + 1 + y) = 0 := fun y hy => Nat.eq_zero_of_not_pos (fun z => by have := hMg.lt (by omega : tg g (q1 + 1 + y) ≠ 0); omega)
  have hMn := hM
  have hmen : me < b ∨ tg g2 me = 17 := (hme.imp id (fun h9 => (hx3).tk h9 (by decide)))
  refine lv_astore_n (lv' := [(2, .ref q1), (0, .ref o), (1, .int wm)]) hx hb dX5_weak_8 rfl hl (by decide) rfl (fun ls hl => ?_)
  refine lv_aload_n hx hb dX5_weak_9 rfl (lv_at hl 1 rfl) ?_
  refine lv_iconst (v := (-1)) hx hb dX5_weak_10 (by decide) ?_
  refine lv_iconst (v := 0) hx hb dX5_weak_11 (by decide) ?_
  obtain ⟨u7, u8, u9, u10, u11, u12, hP, hf⟩ := o_ms (i := i) (q := o) hM (by omega)
  refine va_callr (va_runV (As := [.int (-1), .int 0]) (rest := []) ⟨hx, hb, hml, hown, hts⟩ (rm_loads l dC dI kA eD b g2 o i mo me (-1) 0 (by omega) (by omega) (hme.imp id (fun h9 => (hx3).tk h9 (by decide)))) (cwV 2 hts gX5_weak_X5_loads rfl rfl rfl (by decide +kernel) ⟨Nat.le_of_ble_eq_true rfl, Nat.le_of_ble_eq_true rfl⟩) ⟨fb_CX, va_recv hK hP (ci := 9) (q0 := 0) rfl rfl, fun U hU hW => ⟨rfl, CX.give hb0 hM hK hG hE hS hU hW⟩⟩ rfl rfl hl.1 rfl (lv_room (Nat.le_of_ble_eq_true rfl)) dX5_weak_12 ⟨(Nat.le_of_ble_eq_true rfl), (Nat.le_of_ble_eq_true rfl)⟩) hS (fun q _ h => h) (fun q h => h) (fun g15 r13 t H locs ht hvm hw14 hB hz1 hk1 hS => ?_)
  have hM := hB.1.back ht
  have hG := hB.1.2.2.2.1
  have hx16 : Ext me X0 g2 g15 := hw14
  have ht17 : tg g15 o = 28 + 64 * i := hx16.tk ht4 (by omega)
  have ht18 : tg g15 mo = 17 := hx16.tk ht5 (by omega)
  have ht19 : tg g15 q1 = 38 := hx16.tk ht6 (by omega)
  have ht20 : tg g15 r13 = 36 := hB.2
  have hrw1 : ∀ y, y < 6 → tg g2 (q1 + 1 + y) = 39 + 64 * y := fun y hy => by rw [hg2]; exact gmn_r hy
  have hFI21 : FI g g15 o q1 := hFI.ext (hx16.f (by have := ht6; omega)) (fun y hy => funext fun x => hx16.i (by have := hrw1 y hy; omega) (Or.inl (me_no hMn hmen (hrw1 y hy) (by omega) (by omega))))
  refine lv_astore_n (lv' := [(3, .ref r13), (2, .ref q1), (0, .ref o), (1, .int wm)]) hx hb dX5_weak_15 rfl hl (by decide) rfl (fun ls hl => ?_)
  refine lv_iconst (v := 0) hx hb dX5_weak_16 (by decide) ?_
  refine lv_istore (lv' := [(4, .int 0), (3, .ref r13), (2, .ref q1), (0, .ref o), (1, .int wm)]) hx hb dX5_weak_17 hl (by decide) rfl (fun ls hl => ?_)
  have lp24 : ∀ (n25 j22 : Nat) (g23 : Gh) , 0 ≤ j22 → j22 ≤ 6 → 6 < j22 + n25 → ∀ (H : Heap) (locs : List Loc) (ls : Array Slot), (Ext me X0 g g23) → (GOK g23) → (tg g23 q1 = 38) → (tg g23 r13 = 36) → (FI g g23 o q1) → TM (dC, dI) kA b g23 H → va_S (fun q => b ≤ q) s.heap H locs → lv_has ls 6 [(4, .int (nI j22)), (3, .ref r13), (2, .ref q1), (0, .ref o), (1, .int wm)] → W p l e (headSpec wsX5_weak ({ frames := 5, cells := 14, slots := 108, locals := 117 })).room s m args below meth c H locs 14 108 Q (F0 m 19 ls []) := by
    intro n25
    induction n25 with
    | zero => intro j22 g23 h0 h1 h2; omega
    | succ n25 ih26 =>
      intro j22 g23 lj22 hj22 hn25 H locs ls hx27 hG ht28 ht29 hi30 hM hS hl
      have ht31 : tg g23 o = 28 + 64 * i := hx27.tk hto (by omega)
      have ht32 : tg g23 mo = 17 := hx27.tk hmo (by omega)
      refine lv_iload hx hb dX5_weak_19 (lv_at hl 0 rfl) ?_
      refine lv_bipush (v := 6) hx hb dX5_weak_21 (by decide) ?_
      refine lv_icmp_ge (tgt := 101) hx hb dX5_weak_23 (by decide) (fun c33 => ?_) (fun c33 => ?_)
      · skip
        have k34 : 6 ≤ j22 := (nI_leI (a := 6) (b := j22) (by omega) (by omega)).mp c33
        refine lv_aload_n hx hb dX5_weak_101 rfl (lv_at hl 2 rfl) ?_
        subst hQ
        refine W.widen (k := 14) (n := 108) (Nat.le_of_ble_eq_true rfl) (Nat.le_of_ble_eq_true rfl) ?_
        exact W.aret (v := .ref q1) hx hb hr (Or.inr ⟨_, rfl⟩) (Or.inr ⟨_, rfl⟩) (fun t ht hW => ⟨⟨g23, q1, rfl, hx27, ⟨CX.give hb0 hM hK hG hE hS ht hW, ht28, hi30⟩⟩, hS.F ht⟩) hS.2.2 dX5_weak_102
      · skip
        have k35 : ¬ (6 ≤ j22) := fun z => c33 ((nI_leI (a := 6) (b := j22) (by omega) (by omega)).mpr z)
        refine lv_iconst (v := 0) hx hb dX5_weak_26 (by decide) ?_
        refine lv_istore (lv' := [(5, .int 0), (4, .int (nI j22)), (3, .ref r13), (2, .ref q1), (0, .ref o), (1, .int wm)]) hx hb dX5_weak_27 hl (by decide) rfl (fun ls hl => ?_)
        have lp38 : ∀ (n39 j36 : Nat) (g37 : Gh) , 0 ≤ j36 → j36 ≤ 8 → 8 < j36 + n39 → ∀ (H : Heap) (locs : List Loc) (ls : Array Slot), (Ext me X0 g g37) → (GOK g37) → (tg g37 q1 = 38) → (tg g37 r13 = 36) → (FI g g37 o q1) → TM (dC, dI) kA b g37 H → va_S (fun q => b ≤ q) s.heap H locs → lv_has ls 6 [(5, .int (nI j36)), (4, .int (nI j22)), (3, .ref r13), (2, .ref q1), (0, .ref o), (1, .int wm)] → W p l e (headSpec wsX5_weak ({ frames := 5, cells := 14, slots := 108, locals := 117 })).room s m args below meth c H locs 14 108 Q (F0 m 29 ls []) := by
          intro n39
          induction n39 with
          | zero => intro j36 g37 h0 h1 h2; omega
          | succ n39 ih40 =>
            intro j36 g37 lj36 hj36 hn39 H locs ls hx41 hG ht42 ht43 hi44 hM hS hl
            have ht45 : tg g37 o = 28 + 64 * i := hx41.tk hto (by omega)
            have ht46 : tg g37 mo = 17 := hx41.tk hmo (by omega)
            refine lv_iload hx hb dX5_weak_29 (lv_at hl 0 rfl) ?_
            refine lv_bipush (v := 8) hx hb dX5_weak_31 (by decide) ?_
            refine lv_icmp_ge (tgt := 95) hx hb dX5_weak_33 (by decide) (fun c47 => ?_) (fun c47 => ?_)
            · skip
              have k48 : 8 ≤ j36 := (nI_leI (a := 8) (b := j36) (by omega) (by omega)).mp c47
              refine lv_iinc (v := (nI (j22 + 1))) (lv' := [(4, .int (nI (j22 + 1))), (5, .int (nI j36)), (3, .ref r13), (2, .ref q1), (0, .ref o), (1, .int wm)]) hx hb dX5_weak_95 hl (k := 1) rfl (nI_add j22 1) (by decide) rfl (fun ls hl => ?_)
              refine lv_goto (tgt := 19) hx hb dX5_weak_98 (by decide) ?_
              exact ih26 ((j22 + 1)) g37 (by omega) (by omega) (by omega) H _ ls hx41 hG ht42 ht43 hi44 hM hS (lv_sub hl [0, 2, 3, 4, 5] rfl)
            · skip
              have k49 : ¬ (8 ≤ j36) := fun z => c47 ((nI_leI (a := 8) (b := j36) (by omega) (by omega)).mpr z)
              refine lv_aload_n hx hb dX5_weak_36 rfl (lv_at hl 3 rfl) ?_
              refine lv_iload hx hb dX5_weak_37 (lv_at hl 1 rfl) ?_
              obtain ⟨hP, hf⟩ := o_ft (i := 0) (q := q1) hM (by omega)
              have ec : ((nI j22) : Int32).toNatClampNeg = j22 := nI_clamp (by omega)
              refine rt_aldA (D := (dC, dI)) (t0 := 7) hx hb hK hP rfl (vp_in_nI (by omega) (by decide)) (y := (pF g37 q1 j22)) ((congrArg (fun z => if z < 6 then some (pF g37 q1 z) else none) ec).trans (if_pos (by omega))) dX5_weak_39 ?_
              have ht50 : tg g37 (pF g37 q1 j22) = 39 + 64 * j22 := (hf j22 (by omega))
              refine lv_iload hx hb dX5_weak_40 (lv_at hl 0 rfl) ?_
              refine lv_aload_n hx hb dX5_weak_42 rfl (lv_at hl 4 rfl) ?_
              refine lv_iload hx hb dX5_weak_43 (lv_at hl 0 rfl) ?_
              refine lv_iload hx hb dX5_weak_45 (lv_at hl 1 rfl) ?_
              obtain ⟨u51, u52, u53, u54, u55, u56, hP, hf⟩ := o_ms (i := i) (q := o) hM (by omega)
              refine va_calli (va_runV (As := [.int (nI j36), .int (nI j22)]) (rest := [.int (nI j36), .ref (pF g37 q1 j22)]) ⟨hx, hb, hml, hown, hts⟩ (rm_has l dC dI kA eD b g37 o i (nI j36) (nI j22) (by omega)) (cwV 2 hts gX5_weak_X5_has rfl rfl rfl (by decide +kernel) ⟨Nat.le_of_ble_eq_true rfl, Nat.le_of_ble_eq_true rfl⟩) ⟨fb_CX, va_recv hK hP (ci := 9) (q0 := 0) rfl rfl, fun U hU hW => ⟨rfl, CX.give hb0 hM hK hG hE hS hU hW⟩⟩ rfl rfl hl.1 rfl (lv_room (Nat.le_of_ble_eq_true rfl)) dX5_weak_47 ⟨(Nat.le_of_ble_eq_true rfl), (Nat.le_of_ble_eq_true rfl)⟩) hS (fun q _ h => h) (fun q h => h) (fun r57 u t H locs ht hvm hw58 hB hz1 hk1 hS => ?_)
              have hM := hB.back ht
              have hG := hB.2.2.2.1
              refine lv_if_eq (tgt := 87) hx hb dX5_weak_50 (by decide) (fun c59 => ?_) (fun c59 => ?_)
              · skip
                refine lv_iconst (v := 0) hx hb dX5_weak_87 (by decide) ?_
                obtain ⟨hP, hf⟩ := o_fr (i := j22) (q := (pF g37 q1 j22)) hM (by omega)
                refine rt_zast (D := (dC, dI)) (t0 := 1) hx hb hK hP (hM.ge (by omega)) hS rfl (vp_in_nI (by omega) (by decide)) dX5_weak_88 (fun H locs hP hz ho hS => ?_)
                have ec : ((nI j36) : Int32).toNatClampNeg = j36 := nI_clamp (by omega)
                rw [ec] at hP
                have hM0 := hM
                have hM := p_fr (i := j22) (f := upd (pI g37 (pF g37 q1 j22)) j36 (vp_nar .boolean 0)) hM (by omega) hP ho trivial
                obtain ⟨g60, hg60⟩ : ∃ z, z = uI g37 (pF g37 q1 j22) (upd (pI g37 (pF g37 q1 j22)) j36 (vp_nar .boolean 0)) := ⟨_, rfl⟩
                rw [← hg60] at hM
                have ht61 : tg g60 o = 28 + 64 * i := by rw [hg60]; exact ht45
                have ht62 : tg g60 mo = 17 := by rw [hg60]; exact ht46
                have ht63 : tg g60 q1 = 38 := by rw [hg60]; exact ht42
                have ht64 : tg g60 r13 = 36 := by rw [hg60]; exact ht43
                have ht65 : tg g60 (pF g37 q1 j22) = 39 + 64 * j22 := by rw [hg60]; exact ht50
                have hG : GOK g60 := by rw [hg60]; exact (hG.uI hM0 (Or.inl (by omega)))
                have hx67 : Ext me X0 g g60 := by rw [hg60]; exact (hx41).newI (by rw [hi44.1]; exact hz0 _ (by omega))
                have hi68 : FI g g60 o q1 := by rw [hg60]; exact hi44.step (Or.inl rfl)
                refine lv_iinc (v := (nI (j36 + 1))) (lv' := [(5, .int (nI (j36 + 1))), (4, .int (nI j22)), (3, .ref r13), (2, .ref q1), (0, .ref o), (1, .int wm)]) hx hb dX5_weak_89 hl (k := 0) rfl (nI_add j36 1) (by decide) rfl (fun ls hl => ?_)
                refine lv_goto (tgt := 29) hx hb dX5_weak_92 (by decide) ?_
                exact ih40 ((j36 + 1)) g60 (by omega) (by omega) (by omega) H _ ls hx67 hG ht63 ht64 hi68 hM hS (lv_sub hl [0, 1, 2, 3, 4, 5] rfl)
              · skip
                obtain ⟨-, jx69, jy70, cl71, hp72, hp73, hj74, hj75, hc76⟩ := hw58.resolve_left c59
                have ej77 : jx69 = j36 := ((nI_eq (a := j36) (b := jx69) (by omega) (by omega)).mp hp72).symm
                rw [ej77] at hc76
                have ej78 : jy70 = j22 := ((nI_eq (a := j22) (b := jy70) (by omega) (by omega)).mp hp73).symm
                rw [ej78] at hc76
                refine lv_aload_n hx hb dX5_weak_53 rfl (lv_at hl 4 rfl) ?_
                refine lv_iload hx hb dX5_weak_54 (lv_at hl 0 rfl) ?_
                refine lv_iload hx hb dX5_weak_56 (lv_at hl 1 rfl) ?_
                obtain ⟨u79, u80, u81, u82, u83, u84, hP, hf⟩ := o_ms (i := i) (q := o) hM (by omega)
                refine va_calli (va_runV (As := [.int (nI j36), .int (nI j22)]) (rest := [.int (nI j36), .ref (pF g37 q1 j22)]) ⟨hx, hb, hml, hown, hts⟩ (rm_stands l dC dI kA eD b g37 o i j36 j22 (by omega) (by omega) (by omega)) (cwV 2 hts gX5_weak_X5_stands rfl rfl rfl (by decide +kernel) ⟨Nat.le_of_ble_eq_true rfl, Nat.le_of_ble_eq_true rfl⟩) ⟨fb_CX, va_recv hK hP (ci := 9) (q0 := 0) rfl rfl, fun U hU hW => ⟨rfl, CX.give hb0 hM hK hG hE hS hU hW⟩⟩ rfl rfl hl.1 rfl (lv_room (Nat.le_of_ble_eq_true rfl)) dX5_weak_58 ⟨(Nat.le_of_ble_eq_true rfl), (Nat.le_of_ble_eq_true rfl)⟩) hS (fun q _ h => h) (fun q h => h) (fun r85 u t H locs ht hvm hw86 hB hz1 hk1 hS => ?_)
                have hM := hB.back ht
                have hG := hB.2.2.2.1
                refine lv_if_eq (tgt := 83) hx hb dX5_weak_61 (by decide) (fun c87 => ?_) (fun c87 => ?_)
                · skip
                  refine lv_iconst (v := 1) hx hb dX5_weak_83 (by decide) ?_
                  refine lv_goto (tgt := 88) hx hb dX5_weak_84 (by decide) ?_
                  obtain ⟨hP, hf⟩ := o_fr (i := j22) (q := (pF g37 q1 j22)) hM (by omega)
                  refine rt_zast (D := (dC, dI)) (t0 := 1) hx hb hK hP (hM.ge (by omega)) hS rfl (vp_in_nI (by omega) (by decide)) dX5_weak_88 (fun H locs hP hz ho hS => ?_)
                  have ec : ((nI j36) : Int32).toNatClampNeg = j36 := nI_clamp (by omega)
                  rw [ec] at hP
                  have hM0 := hM
                  have hM := p_fr (i := j22) (f := upd (pI g37 (pF g37 q1 j22)) j36 (vp_nar .boolean 1)) hM (by omega) hP ho trivial
                  obtain ⟨g88, hg88⟩ : ∃ z, z = uI g37 (pF g37 q1 j22) (upd (pI g37 (pF g37 q1 j22)) j36 (vp_nar .boolean 1)) := ⟨_, rfl⟩
                  rw [← hg88] at hM
                  have ht89 : tg g88 o = 28 + 64 * i := by rw [hg88]; exact ht45
                  have ht90 : tg g88 mo = 17 := by rw [hg88]; exact ht46
                  have ht91 : tg g88 q1 = 38 := by rw [hg88]; exact ht42
                  have ht92 : tg g88 r13 = 36 := by rw [hg88]; exact ht43
                  have ht93 : tg g88 (pF g37 q1 j22) = 39 + 64 * j22 := by rw [hg88]; exact ht50
                  have hG : GOK g88 := by rw [hg88]; exact (hG.uI hM0 (Or.inl (by omega)))
                  have hx95 : Ext me X0 g g88 := by rw [hg88]; exact (hx41).newI (by rw [hi44.1]; exact hz0 _ (by omega))
                  have hi96 : FI g g88 o q1 := by rw [hg88]; exact hi44.step (Or.inr ⟨cl71, by rw [← row_ext hx41 hto hgt.1 (hgt.2 j22 (by omega)) (fun z => z)]; exact hc76⟩)
                  refine lv_iinc (v := (nI (j36 + 1))) (lv' := [(5, .int (nI (j36 + 1))), (4, .int (nI j22)), (3, .ref r13), (2, .ref q1), (0, .ref o), (1, .int wm)]) hx hb dX5_weak_89 hl (k := 0) rfl (nI_add j36 1) (by decide) rfl (fun ls hl => ?_)
                  refine lv_goto (tgt := 29) hx hb dX5_weak_92 (by decide) ?_
                  exact ih40 ((j36 + 1)) g88 (by omega) (by omega) (by omega) H _ ls hx95 hG ht91 ht92 hi96 hM hS (lv_sub hl [0, 1, 2, 3, 4, 5] rfl)
                · skip
                  refine lv_aload_n hx hb dX5_weak_64 rfl (lv_at hl 2 rfl) ?_
                  refine lv_iload hx hb dX5_weak_65 (lv_at hl 1 rfl) ?_
                  obtain ⟨hP, hf⟩ := o_lt (i := 0) (q := r13) hM (by omega)
                  have ec : ((nI j22) : Int32).toNatClampNeg = j22 := nI_clamp (by omega)
                  refine rt_aldA (D := (dC, dI)) (t0 := 6) hx hb hK hP rfl (vp_in_nI (by omega) (by decide)) (y := (pF g37 r13 j22)) ((congrArg (fun z => if z < 6 then some (pF g37 r13 z) else none) ec).trans (if_pos (by omega))) dX5_weak_67 ?_
                  have ht97 : tg g37 (pF g37 r13 j22) = 37 := hf j22 (by omega)
                  refine lv_iload hx hb dX5_weak_68 (lv_at hl 0 rfl) ?_
                  obtain ⟨u98, hP, hf⟩ := o_lr (i := 0) (q := (pF g37 r13 j22)) hM (by omega)
                  refine va_iald (D := (dC, dI)) hx hb hK hP 0 0 rfl rfl (vp_in_nI (by omega) (by decide)) dX5_weak_70 ?_
                  refine lv_topi (fun v99 e100 => ?_)
                  have ec : ((nI j36) : Int32).toNatClampNeg = j36 := nI_clamp (by omega)
                  rw [ec] at e100
                  refine lv_aload_n hx hb dX5_weak_71 rfl (lv_at hl 4 rfl) ?_
                  refine lv_iload hx hb dX5_weak_72 (lv_at hl 0 rfl) ?_
                  refine lv_iload hx hb dX5_weak_74 (lv_at hl 1 rfl) ?_
                  refine lv_iload_n hx hb dX5_weak_76 rfl (lv_at hl 5 rfl) ?_
                  obtain ⟨u101, u102, u103, u104, u105, u106, hP, hf⟩ := o_ms (i := i) (q := o) hM (by omega)
                  refine va_calli (va_runV (As := [.int (nI j36), .int (nI j22), .int wm]) (rest := [.int v99, .int (nI j36), .ref (pF g37 q1 j22)]) ⟨hx, hb, hml, hown, hts⟩ (rm_strength l dC dI kA eD b g37 o i j36 j22 cl71 wm (by omega) (by omega) (by omega) hc76) (cwV 3 hts gX5_weak_X5_strength rfl rfl rfl (by decide +kernel) ⟨Nat.le_of_ble_eq_true rfl, Nat.le_of_ble_eq_true rfl⟩) ⟨fb_CX, va_recv hK hP (ci := 9) (q0 := 0) rfl rfl, fun U hU hW => ⟨rfl, CX.give hb0 hM hK hG hE hS hU hW⟩⟩ rfl rfl hl.1 rfl (lv_room (Nat.le_of_ble_eq_true rfl)) dX5_weak_77 ⟨(Nat.le_of_ble_eq_true rfl), (Nat.le_of_ble_eq_true rfl)⟩) hS (fun q _ h => h) (fun q h => h) (fun r107 u t H locs ht hvm hw108 hB hz1 hk1 hS => ?_)
                  have hM := hB.back ht
                  have hG := hB.2.2.2.1
                  refine lv_icmp_le (tgt := 87) hx hb dX5_weak_80 (by decide) (fun c109 => ?_) (fun c109 => ?_)
                  · skip
                    have i110 := (Int32.le_iff_toInt_le).mp c109
                    have i110 := i110
                    refine lv_iconst (v := 0) hx hb dX5_weak_87 (by decide) ?_
                    obtain ⟨hP, hf⟩ := o_fr (i := j22) (q := (pF g37 q1 j22)) hM (by omega)
                    refine rt_zast (D := (dC, dI)) (t0 := 1) hx hb hK hP (hM.ge (by omega)) hS rfl (vp_in_nI (by omega) (by decide)) dX5_weak_88 (fun H locs hP hz ho hS => ?_)
                    have ec : ((nI j36) : Int32).toNatClampNeg = j36 := nI_clamp (by omega)
                    rw [ec] at hP
                    have hM0 := hM
                    have hM := p_fr (i := j22) (f := upd (pI g37 (pF g37 q1 j22)) j36 (vp_nar .boolean 0)) hM (by omega) hP ho trivial
                    obtain ⟨g111, hg111⟩ : ∃ z, z = uI g37 (pF g37 q1 j22) (upd (pI g37 (pF g37 q1 j22)) j36 (vp_nar .boolean 0)) := ⟨_, rfl⟩
                    rw [← hg111] at hM
                    have ht112 : tg g111 o = 28 + 64 * i := by rw [hg111]; exact ht45
                    have ht113 : tg g111 mo = 17 := by rw [hg111]; exact ht46
                    have ht114 : tg g111 q1 = 38 := by rw [hg111]; exact ht42
                    have ht115 : tg g111 r13 = 36 := by rw [hg111]; exact ht43
                    have ht116 : tg g111 (pF g37 q1 j22) = 39 + 64 * j22 := by rw [hg111]; exact ht50
                    have ht117 : tg g111 (pF g37 r13 j22) = 37 := by rw [hg111]; exact ht97
                    have hG : GOK g111 := by rw [hg111]; exact (hG.uI hM0 (Or.inl (by omega)))
                    have hx119 : Ext me X0 g g111 := by rw [hg111]; exact (hx41).newI (by rw [hi44.1]; exact hz0 _ (by omega))
                    have hi120 : FI g g111 o q1 := by rw [hg111]; exact hi44.step (Or.inl rfl)
                    refine lv_iinc (v := (nI (j36 + 1))) (lv' := [(5, .int (nI (j36 + 1))), (4, .int (nI j22)), (3, .ref r13), (2, .ref q1), (0, .ref o), (1, .int wm)]) hx hb dX5_weak_89 hl (k := 0) rfl (nI_add j36 1) (by decide) rfl (fun ls hl => ?_)
                    refine lv_goto (tgt := 29) hx hb dX5_weak_92 (by decide) ?_
                    exact ih40 ((j36 + 1)) g111 (by omega) (by omega) (by omega) H _ ls hx119 hG ht114 ht115 hi120 hM hS (lv_sub hl [0, 1, 2, 3, 4, 5] rfl)
                  · skip
                    have i121 := fun z => c109 ((Int32.le_iff_toInt_le).mpr z)
                    have i121 : ¬ ((v99 : Int32).toInt ≤ (r107 : Int32).toInt) := i121
                    refine lv_iconst (v := 1) hx hb dX5_weak_83 (by decide) ?_
                    refine lv_goto (tgt := 88) hx hb dX5_weak_84 (by decide) ?_
                    obtain ⟨hP, hf⟩ := o_fr (i := j22) (q := (pF g37 q1 j22)) hM (by omega)
                    refine rt_zast (D := (dC, dI)) (t0 := 1) hx hb hK hP (hM.ge (by omega)) hS rfl (vp_in_nI (by omega) (by decide)) dX5_weak_88 (fun H locs hP hz ho hS => ?_)
                    have ec : ((nI j36) : Int32).toNatClampNeg = j36 := nI_clamp (by omega)
                    rw [ec] at hP
                    have hM0 := hM
                    have hM := p_fr (i := j22) (f := upd (pI g37 (pF g37 q1 j22)) j36 (vp_nar .boolean 1)) hM (by omega) hP ho trivial
                    obtain ⟨g122, hg122⟩ : ∃ z, z = uI g37 (pF g37 q1 j22) (upd (pI g37 (pF g37 q1 j22)) j36 (vp_nar .boolean 1)) := ⟨_, rfl⟩
                    rw [← hg122] at hM
                    have ht123 : tg g122 o = 28 + 64 * i := by rw [hg122]; exact ht45
                    have ht124 : tg g122 mo = 17 := by rw [hg122]; exact ht46
                    have ht125 : tg g122 q1 = 38 := by rw [hg122]; exact ht42
                    have ht126 : tg g122 r13 = 36 := by rw [hg122]; exact ht43
                    have ht127 : tg g122 (pF g37 q1 j22) = 39 + 64 * j22 := by rw [hg122]; exact ht50
                    have ht128 : tg g122 (pF g37 r13 j22) = 37 := by rw [hg122]; exact ht97
                    have hG : GOK g122 := by rw [hg122]; exact (hG.uI hM0 (Or.inl (by omega)))
                    have hx130 : Ext me X0 g g122 := by rw [hg122]; exact (hx41).newI (by rw [hi44.1]; exact hz0 _ (by omega))
                    have hi131 : FI g g122 o q1 := by rw [hg122]; exact hi44.step (Or.inr ⟨cl71, by rw [← row_ext hx41 hto hgt.1 (hgt.2 j22 (by omega)) (fun z => z)]; exact hc76⟩)
                    refine lv_iinc (v := (nI (j36 + 1))) (lv' := [(5, .int (nI (j36 + 1))), (4, .int (nI j22)), (3, .ref r13), (2, .ref q1), (0, .ref o), (1, .int wm)]) hx hb dX5_weak_89 hl (k := 0) rfl (nI_add j36 1) (by decide) rfl (fun ls hl => ?_)
                    refine lv_goto (tgt := 29) hx hb dX5_weak_92 (by decide) ?_
                    exact ih40 ((j36 + 1)) g122 (by omega) (by omega) (by omega) H _ ls hx130 hG ht125 ht126 hi131 hM hS (lv_sub hl [0, 1, 2, 3, 4, 5] rfl)
        exact lp38 (8 + 1) 0 g23 (by omega) (by omega) (by omega) H _ ls hx27 hG ht28 ht29 hi30 hM hS (lv_sub hl [0, 1, 2, 3, 4, 5] rfl)
  exact lp24 (6 + 1) 0 g15 (by omega) (by omega) (by omega) H _ ls (hx3.trans hx16) hG ht19 ht20 hFI21 hM hS (lv_sub hl [0, 1, 2, 3, 4] rfl)

set_option maxHeartbeats 4000000 in
set_option maxRecDepth 100000 in
theorem rm_falls (l : Launch) (dC : Nat → ClassId) (dI : Nat → Nat → Nat) (kA : Nat → ClassId) (eD b : Nat) (g : Gh) (o : Nat) (i mo me fa : Nat) (hto : tg g o = 28 + 64 * i) (hmo : tg g mo = 17) (hme : me < b ∨ tg g me = 17) (hfa : tg g fa = 38) (hfi : FI g g o fa) : Met l yX5_falls wsX5_falls ({ frames := 0, cells := 0, slots := 0, locals := 0 }) (va_Pc [.ref o, .ref fa] (CX (dC, dI) kA eD b g)) (va_Qi (fun (r : Int32) (u : Gh) => Ext me (XS i) g u ∧ ∃ q, r = nI q ∧ gc u o + q = gc g o) (fun (u : Gh) t => CX (dC, dI) kA eD b u t) (fun q => b ≤ q)) 0 0 (fun q => b ≤ q) := by
  refine Met.ofW (cc := cX5_falls) (maxL := 4) (ret := (some .int)) (by decide +kernel) rfl ?_
  intro p e s m args below meth c s₁ B hml hv
  obtain ⟨rfl, hb0, hM, hK, hG, hE⟩ := hv
  have hx := B.exec
  have hb := B.bytes
  have hr := B.returns
  have hts := atoms_spec (ws := wsX5_falls) B.pre
  have hown : s.vm.findClass RX5 = some m.cls := findClass_of_methodNamed B.named
  have hlocks := B.notSynchronized
  have hT := hE.1
  have hN := hE.2.2.2.2.2.2.2.1
  have hS : va_S (fun q => b ≤ q) s.heap s.heap [] := va_S.rf
  have hl := lv_entry ([.ref o, .ref fa]) (n := 4) (Nat.le_of_ble_eq_true rfl)
  rw [lg_entry_eq]
  generalize (lg_sl ([.ref o, .ref fa]) ++ List.replicate (4 - (lg_sl ([.ref o, .ref fa])).length) Slot.unset).toArray = ls at hl ⊢
  have hl : lv_has ls 4 [(0, .ref o), (1, .ref fa)] := hl
  generalize ([.ref o, .ref fa] : List Value).toArray = args at hts ⊢
  refine W.q (fun Q hQ => ?_)
  have hfr : ∀ y, y < 6 → tg g (fa + 1 + y) = 39 + 64 * y := fun y hy => by have h1 := (o_ft (i := 0) (q := fa) hM (by omega)).2 y hy; rw [hfi.1] at h1; exact h1
  have hgt := grid_tags hM hto
  have hMg := hM
  have hc0 : gc g o + 0 = gc g o ∧ ∀ k, 0 ≤ k → k < 48 → cf g o k = cf g o k := ⟨rfl, fun _ _ _ => rfl⟩
  refine lv_iconst (v := 0) hx hb dX5_falls_0 (by decide) ?_
  refine lv_istore_n (lv' := [(2, .int 0), (0, .ref o), (1, .ref fa)]) hx hb dX5_falls_1 rfl hl (by decide) rfl (fun ls hl => ?_)
  refine lv_iconst (v := 0) hx hb dX5_falls_2 (by decide) ?_
  refine lv_istore_n (lv' := [(3, .int 0), (2, .int 0), (0, .ref o), (1, .ref fa)]) hx hb dX5_falls_3 rfl hl (by decide) rfl (fun ls hl => ?_)
  have lp4 : ∀ (n5 j1 : Nat) (g2 : Gh) (q3 : Nat), 0 ≤ j1 → j1 ≤ 48 → 48 < j1 + n5 → ∀ (H : Heap) (locs : List Loc) (ls : Array Slot), (Ext me (XS i) g g2) → (GOK g2) → (gc g2 o + q3 = gc g o ∧ ∀ k, j1 ≤ k → k < 48 → cf g2 o k = cf g o k) → TM (dC, dI) kA b g2 H → va_S (fun q => b ≤ q) s.heap H locs → lv_has ls 4 [(3, .int (nI j1)), (2, .int (nI q3)), (0, .ref o), (1, .ref fa)] → W p l e (headSpec wsX5_falls ({ frames := 0, cells := 0, slots := 0, locals := 0 })).room s m args below meth c H locs 0 0 Q (F0 m 4 ls []) := by
    intro n5
    induction n5 with
    | zero => intro j1 g2 q3 h0 h1 h2; omega
    | succ n5 ih6 =>
      intro j1 g2 q3 lj1 hj1 hn5 H locs ls hx7 hG hi8 hM hS hl
      have ht9 : tg g2 o = 28 + 64 * i := hx7.tk hto (by omega)
      have ht10 : tg g2 mo = 17 := hx7.tk hmo (by omega)
      have ht11 : tg g2 fa = 38 := hx7.tk hfa (by omega)
      refine lv_iload_n hx hb dX5_falls_4 rfl (lv_at hl 0 rfl) ?_
      refine lv_bipush (v := 48) hx hb dX5_falls_5 (by decide) ?_
      refine lv_icmp_ge (tgt := 56) hx hb dX5_falls_7 (by decide) (fun c12 => ?_) (fun c12 => ?_)
      · skip
        have k13 : 48 ≤ j1 := (nI_leI (a := 48) (b := j1) (by omega) (by omega)).mp c12
        refine lv_aload_n hx hb dX5_falls_56 rfl (lv_at hl 2 rfl) ?_
        refine lv_dup hx hb dX5_falls_57 rfl ?_
        obtain ⟨u14, u15, u16, u17, u18, u19, hP, hf⟩ := o_ms (i := i) (q := o) hM (by omega)
        refine va_get (D := (dC, dI)) (ci := 9) (v := .int u15) (C := RX5) (T := TX5) (N := 10) hx hb hts (by decide +kernel) hown hK hP 0 rfl rfl 4 (by decide) (hts (.fieldLink RX5 78 "SnowpalaceModel$Site" "fell" "I") (by decide +kernel)) (fun _ h9 => h9) rfl dX5_falls_58 ?_
        refine lv_iload_n hx hb dX5_falls_61 rfl (lv_at hl 1 rfl) ?_
        refine lv_iadd hx hb dX5_falls_62 ?_
        refine lv_topi (fun v20 e21 => ?_)
        obtain ⟨u22, u23, u24, u25, u26, u27, hP, hf⟩ := o_ms (i := i) (q := o) hM (by omega)
        refine rt_put (D := (dC, dI)) (ci := 9) (v := .int v20) (ty := .int) (C := RX5) (T := TX5) (N := 10) hx hb hts (by decide +kernel) tyX5 tyX5_ok nmX5 hown hK hP (hM.ge (by omega)) hS rfl 4 (by decide) (hts (.fieldLink RX5 78 "SnowpalaceModel$Site" "fell" "I") (by decide +kernel)) (fun _ h9 => h9) rfl (by decide +kernel) rfl rfl (Nat.le_of_ble_eq_true rfl) dX5_falls_63 (fun H locs hP hz ho hS => ?_)
        have hM := s_ms (i := i) hM (by omega) hP ho hf
        refine lv_aload_n hx hb dX5_falls_66 rfl (lv_at hl 2 rfl) ?_
        obtain ⟨u28, u29, u30, u31, u32, u33, hP, hf⟩ := o_ms (i := i) (q := o) hM (by omega)
        refine va_get (D := (dC, dI)) (ci := 9) (v := .ref (pF g2 o 2)) (C := RX5) (T := TX5) (N := 10) hx hb hts (by decide +kernel) hown hK hP 0 rfl rfl 9 (by decide) (hts (.fieldLink RX5 3 "SnowpalaceModel$Site" "this$0" "LSnowpalaceModel;") (by decide +kernel)) (fun _ h9 => h9) rfl dX5_falls_67 ?_
        have ht34 : tg g2 (pF g2 o 2) = 17 := hf.2.2.1
        have hth35 : (pF g2 o 2) = mo := hG.2.2.1 o mo (by omega) (by omega)
        rw [hth35]
        refine lv_dup hx hb dX5_falls_70 rfl ?_
        obtain ⟨u36, u37, hP, hf⟩ := o_mo (i := 0) (q := mo) hM (by omega)
        refine va_getN (D := (dC, dI)) (ci := 10) (v := .int u36) (C := RX6) (T := TX6) (N := 11) hx hb hts (by decide +kernel) hown hK hP 0 rfl rfl 3 (by decide) (hN (.fieldLinkNest RX5 81 "SnowpalaceModel" "money" "I" RX6) (by decide +kernel)) (fun _ h9 => h9) rfl dX5_falls_71 ?_
        refine lv_sipush (v := 200) hx hb dX5_falls_74 (by decide) ?_
        refine lv_iload_n hx hb dX5_falls_77 rfl (lv_at hl 1 rfl) ?_
        refine lv_imul hx hb dX5_falls_78 ?_
        refine lv_topi (fun v38 e39 => ?_)
        obtain rfl : v38 = nI (200 * q3) := e39.trans (pk_mul 200 q3)
        refine lv_isub hx hb dX5_falls_79 ?_
        refine lv_topi (fun v40 e41 => ?_)
        obtain ⟨u42, u43, hP, hf⟩ := o_mo (i := 0) (q := mo) hM (by omega)
        refine rt_putN (D := (dC, dI)) (ci := 10) (v := .int v40) (ty := .int) (C := RX6) (T := TX6) (N := 11) hx hb hts (by decide +kernel) tyX6 tyX6_ok nmX6 hown hK hP (hM.ge (by omega)) hS rfl 3 (by decide) (hN (.fieldLinkNest RX5 81 "SnowpalaceModel" "money" "I" RX6) (by decide +kernel)) (fun _ h9 => h9) rfl (by decide +kernel) rfl rfl (Nat.le_of_ble_eq_true rfl) dX5_falls_80 (fun H locs hP hz ho hS => ?_)
        have hM := s_mo (i := 0) hM (by omega) hP ho hf
        refine lv_iload_n hx hb dX5_falls_83 rfl (lv_at hl 1 rfl) ?_
        subst hQ
        refine W.widen (k := 0) (n := 0) (Nat.le_of_ble_eq_true rfl) (Nat.le_of_ble_eq_true rfl) ?_
        exact W.iret (v := (nI q3)) hx hb hr (fun t ht hW => ⟨⟨(nI q3), g2, rfl, ⟨hx7, q3, rfl, hi8.1⟩, CX.give hb0 hM hK hG hE hS ht hW⟩, hS.F ht⟩) hS.2.2 dX5_falls_84
      · skip
        have k44 : ¬ (48 ≤ j1) := fun z => c12 ((nI_leI (a := 48) (b := j1) (by omega) (by omega)).mpr z)
        refine lv_aload_n hx hb dX5_falls_10 rfl (lv_at hl 3 rfl) ?_
        refine lv_iload_n hx hb dX5_falls_11 rfl (lv_at hl 0 rfl) ?_
        refine lv_bipush (v := 8) hx hb dX5_falls_12 (by decide) ?_
        refine lv_idiv hx hb dX5_falls_14 (by decide) ?_
        refine lv_topi (fun v45 e46 => ?_)
        obtain rfl : v45 = nI (j1 / 8) := e46.trans (pk_div (a := j1) (d := 8) (by omega) (by decide) (by decide))
        obtain ⟨hP, hf⟩ := o_ft (i := 0) (q := fa) hM (by omega)
        have ec : ((nI (j1 / 8)) : Int32).toNatClampNeg = (j1 / 8) := nI_clamp (by omega)
        refine rt_aldA (D := (dC, dI)) (t0 := 7) hx hb hK hP rfl (vp_in_nI (by omega) (by decide)) (y := (pF g2 fa (j1 / 8))) ((congrArg (fun z => if z < 6 then some (pF g2 fa z) else none) ec).trans (if_pos (by omega))) dX5_falls_15 ?_
        have ht47 : tg g2 (pF g2 fa (j1 / 8)) = 39 + 64 * (j1 / 8) := (hf (j1 / 8) (by omega))
        refine lv_iload_n hx hb dX5_falls_16 rfl (lv_at hl 0 rfl) ?_
        refine lv_bipush (v := 8) hx hb dX5_falls_17 (by decide) ?_
        refine lv_irem hx hb dX5_falls_19 (by decide) ?_
        refine lv_topi (fun v48 e49 => ?_)
        obtain rfl : v48 = nI (j1 % 8) := e49.trans (pk_rem (a := j1) (d := 8) (by omega) (by decide) (by decide))
        obtain ⟨hP, hf⟩ := o_fr (i := (j1 / 8)) (q := (pF g2 fa (j1 / 8))) hM (by omega)
        refine va_zald (D := (dC, dI)) hx hb hK hP 0 1 rfl rfl (vp_in_nI (by omega) (by decide)) dX5_falls_20 ?_
        refine lv_topi (fun v50 e51 => ?_)
        have ec : ((nI (j1 % 8)) : Int32).toNatClampNeg = (j1 % 8) := nI_clamp (by omega)
        rw [ec] at e51
        subst e51
        refine lv_if_ne (tgt := 27) hx hb dX5_falls_21 (by decide) (fun c52 => ?_) (fun c52 => ?_)
        · skip
          refine lv_aload_n hx hb dX5_falls_27 rfl (lv_at hl 2 rfl) ?_
          obtain ⟨u53, u54, u55, u56, u57, u58, hP, hf⟩ := o_ms (i := i) (q := o) hM (by omega)
          refine va_get (D := (dC, dI)) (ci := 9) (v := .ref (pF g2 o 0)) (C := RX5) (T := TX5) (N := 10) hx hb hts (by decide +kernel) hown hK hP 0 rfl rfl 0 (by decide) (hts (.fieldLink RX5 17 "SnowpalaceModel$Site" "cells" "[[LSnowpalaceModel$Cell;") (by decide +kernel)) (fun _ h9 => h9) rfl dX5_falls_28 ?_
          have ht59 : tg g2 (pF g2 o 0) = 29 + 64 * i := hf.1
          refine lv_iload_n hx hb dX5_falls_31 rfl (lv_at hl 0 rfl) ?_
          refine lv_bipush (v := 8) hx hb dX5_falls_32 (by decide) ?_
          refine lv_idiv hx hb dX5_falls_34 (by decide) ?_
          refine lv_topi (fun v60 e61 => ?_)
          obtain rfl : v60 = nI (j1 / 8) := e61.trans (pk_div (a := j1) (d := 8) (by omega) (by decide) (by decide))
          obtain ⟨hP, hf⟩ := o_co (i := i) (q := (pF g2 o 0)) hM (by omega)
          have ec : ((nI (j1 / 8)) : Int32).toNatClampNeg = (j1 / 8) := nI_clamp (by omega)
          refine rt_aldA (D := (dC, dI)) (t0 := 9) hx hb hK hP rfl (vp_in_nI (by omega) (by decide)) (y := (pF g2 (pF g2 o 0) (j1 / 8))) ((congrArg (fun z => if z < 6 then some (pF g2 (pF g2 o 0) z) else none) ec).trans (if_pos (by omega))) dX5_falls_35 ?_
          have ht62 : tg g2 (pF g2 (pF g2 o 0) (j1 / 8)) = 30 + 64 * (8 * i + (j1 / 8)) := (hf (j1 / 8) (by omega))
          refine lv_iload_n hx hb dX5_falls_36 rfl (lv_at hl 0 rfl) ?_
          refine lv_bipush (v := 8) hx hb dX5_falls_37 (by decide) ?_
          refine lv_irem hx hb dX5_falls_39 (by decide) ?_
          refine lv_topi (fun v63 e64 => ?_)
          obtain rfl : v63 = nI (j1 % 8) := e64.trans (pk_rem (a := j1) (d := 8) (by omega) (by decide) (by decide))
          refine lv_null hx hb dX5_falls_40 ?_
          have hfx : pI g2 (pF g2 fa (j1 / 8)) (j1 % 8) = pI g (fa + 1 + j1 / 8) (j1 % 8) := by rw [(hx7).f (by omega), hfi.1]; exact (hx7).i (by have := hfr (j1 / 8) (by omega); omega) (Or.inl (me_no hMg hme (hfr (j1 / 8) (by omega)) (by omega) (by omega)))
          obtain ⟨cl, hcl⟩ := hfi.2 (j1 / 8) (j1 % 8) (by omega) (by omega) (by rw [← hfx]; exact c52)
          have hcu : cf g2 o j1 = some cl := (hi8.2 j1 (by omega) (by omega)).trans hcl
          have hgu := fl_step (fun y hy => by rw [grid_ext hx7 hto hgt.1]; exact (hx7).tk (hgt.2 y hy) (by omega)) ht59 ht9 (j := j1) (by omega) hcu
          obtain ⟨hP, hf⟩ := o_cr (i := (8 * i + (j1 / 8))) (q := (pF g2 (pF g2 o 0) (j1 / 8))) hM (by omega)
          refine rt_astqN (D := (dC, dI)) (t0 := 8) hx hb hK hP (hM.ge (by omega)) hS rfl (vp_in_nI (by omega) (by decide)) dX5_falls_41 (fun H locs hP hz ho hS => ?_)
          have ec : ((nI (j1 % 8)) : Int32).toNatClampNeg = (j1 % 8) := nI_clamp (by omega)
          rw [ec] at hP
          have hM0 := hM
          have hM := p_cr (i := (8 * i + (j1 / 8))) (f := va_up (pO g2 (pF g2 (pF g2 o 0) (j1 / 8))) (j1 % 8) (none)) hM (by omega) hP ho (up_none hf)
          obtain ⟨g65, hg65⟩ : ∃ z, z = uO g2 (pF g2 (pF g2 o 0) (j1 / 8)) (va_up (pO g2 (pF g2 (pF g2 o 0) (j1 / 8))) (j1 % 8) (none)) := ⟨_, rfl⟩
          rw [← hg65] at hM
          have ht66 : tg g65 o = 28 + 64 * i := by rw [hg65]; exact ht9
          have ht67 : tg g65 mo = 17 := by rw [hg65]; exact ht10
          have ht68 : tg g65 fa = 38 := by rw [hg65]; exact ht11
          have ht69 : tg g65 (pF g2 fa (j1 / 8)) = 39 + 64 * (j1 / 8) := by rw [hg65]; exact ht47
          have ht70 : tg g65 (pF g2 o 0) = 29 + 64 * i := by rw [hg65]; exact ht59
          have ht71 : tg g65 (pF g2 (pF g2 o 0) (j1 / 8)) = 30 + 64 * (8 * i + (j1 / 8)) := by rw [hg65]; exact ht62
          have hG : GOK g65 := by rw [hg65]; exact (hG.uO hM0 (by omega))
          have hx73 : Ext me (XS i) g2 g65 := by rw [hg65]; exact Ext.row (X := XS i) ⟨j1 / 8, by omega, by omega⟩
          rw [← hg65] at hgu
          refine lv_aload_n hx hb dX5_falls_42 rfl (lv_at hl 2 rfl) ?_
          refine lv_iload_n hx hb dX5_falls_43 rfl (lv_at hl 0 rfl) ?_
          obtain ⟨u74, u75, u76, u77, u78, u79, hP, hf⟩ := o_ms (i := i) (q := o) hM (by omega)
          refine rt_put (D := (dC, dI)) (ci := 9) (v := .int (nI j1)) (ty := .int) (C := RX5) (T := TX5) (N := 10) hx hb hts (by decide +kernel) tyX5 tyX5_ok nmX5 hown hK hP (hM.ge (by omega)) hS rfl 5 (by decide) (hts (.fieldLink RX5 25 "SnowpalaceModel$Site" "last" "I") (by decide +kernel)) (fun _ h9 => h9) rfl (by decide +kernel) rfl rfl (Nat.le_of_ble_eq_true rfl) dX5_falls_44 (fun H locs hP hz ho hS => ?_)
          have hM := s_ms (i := i) hM (by omega) hP ho hf
          refine lv_iinc (v := (nI (q3 + 1))) (lv' := [(2, .int (nI (q3 + 1))), (3, .int (nI j1)), (0, .ref o), (1, .ref fa)]) hx hb dX5_falls_47 hl (k := 1) rfl (nI_add q3 1) (by decide) rfl (fun ls hl => ?_)
          refine lv_iinc (v := (nI (j1 + 1))) (lv' := [(3, .int (nI (j1 + 1))), (2, .int (nI (q3 + 1))), (0, .ref o), (1, .ref fa)]) hx hb dX5_falls_50 hl (k := 1) rfl (nI_add j1 1) (by decide) rfl (fun ls hl => ?_)
          refine lv_goto (tgt := 4) hx hb dX5_falls_53 (by decide) ?_
          exact ih6 ((j1 + 1)) g65 (q3 + 1) (by omega) (by omega) (by omega) H _ ls (hx7.trans hx73) hG ⟨by have h1 := hi8.1; have h2 := hgu.1; omega, fun k h1 h2 => (hgu.2 k h2 (by omega)).trans (hi8.2 k (by omega) h2)⟩ hM hS (lv_sub hl [0, 1, 2, 3] rfl)
        · skip
          refine lv_goto (tgt := 50) hx hb dX5_falls_24 (by decide) ?_
          refine lv_iinc (v := (nI (j1 + 1))) (lv' := [(3, .int (nI (j1 + 1))), (2, .int (nI q3)), (0, .ref o), (1, .ref fa)]) hx hb dX5_falls_50 hl (k := 0) rfl (nI_add j1 1) (by decide) rfl (fun ls hl => ?_)
          refine lv_goto (tgt := 4) hx hb dX5_falls_53 (by decide) ?_
          exact ih6 ((j1 + 1)) g2 q3 (by omega) (by omega) (by omega) H _ ls hx7 hG ⟨by have := hi8.1; omega, fun k h1 h2 => hi8.2 k (by omega) h2⟩ hM hS (lv_sub hl [0, 1, 2, 3] rfl)
  exact lp4 (48 + 1) 0 g 0 (by omega) (by omega) (by omega) s.heap _ ls Ext.refl hG hc0 hM hS (lv_sub hl [0, 1, 2, 3] rfl)

set_option maxHeartbeats 4000000 in
set_option maxRecDepth 100000 in
theorem rm_settles (l : Launch) (dC : Nat → ClassId) (dI : Nat → Nat → Nat) (kA : Nat → ClassId) (eD b : Nat) (g : Gh) (sz sg : Nat) (o : Nat) (i mo me : Nat) (wm : Int32) (hto : tg g o = 28 + 64 * i) (hmo : tg g mo = 17) (hme : me < b ∨ tg g me = 17) : Met l yX5_settles wsX5_settles ({ frames := 6, cells := 686, slots := 5292, locals := 142 }) (va_Pc [.ref o, .int wm] (CXs (dC, dI) kA eD b g sz sg)) (va_Qi (fun (r : Int32) (u : Gh × Nat) => Ext me (XS i) g u.1 ∧ gc u.1 o + u.2 = gc g o) (fun (u : Gh × Nat) t => (CX (dC, dI) kA eD b u.1 t ∧ (t.heap.size ≤ sz + 14 * (1 + u.2) ∧ SH t.heap ≤ sg + 108 * (1 + u.2)))) (fun q => b ≤ q)) 686 5292 (fun q => b ≤ q) := by
  refine Met.ofW (cc := cX5_settles) (maxL := 4) (ret := (some .int)) (by decide +kernel) rfl ?_
  intro p e s m args below meth c s₁ B hml hv
  obtain ⟨rfl, ⟨hb0, hM, hK, hG, hE⟩, hsz, hsg⟩ := hv
  have hx := B.exec
  have hb := B.bytes
  have hr := B.returns
  have hts := atoms_spec (ws := wsX5_settles) B.pre
  have hown : s.vm.findClass RX5 = some m.cls := findClass_of_methodNamed B.named
  have hlocks := B.notSynchronized
  have hT := hE.1
  have hN := hE.2.2.2.2.2.2.2.1
  have hS : va_S (fun q => b ≤ q) s.heap s.heap [] := va_S.rf
  have hl := lv_entry ([.ref o, .int wm]) (n := 4) (Nat.le_of_ble_eq_true rfl)
  rw [lg_entry_eq]
  generalize (lg_sl ([.ref o, .int wm]) ++ List.replicate (4 - (lg_sl ([.ref o, .int wm])).length) Slot.unset).toArray = ls at hl ⊢
  have hl : lv_has ls 4 [(0, .ref o), (1, .int wm)] := hl
  generalize ([.ref o, .int wm] : List Value).toArray = args at hts ⊢
  refine W.q (fun Q hQ => ?_)
  have hgl := gc_le (g := g) (o := o)
  refine lv_iconst (v := 0) hx hb dX5_settles_0 (by decide) ?_
  refine lv_istore_n (lv' := [(2, .int 0), (0, .ref o), (1, .int wm)]) hx hb dX5_settles_1 rfl hl (by decide) rfl (fun ls hl => ?_)
  refine lv_aload_n hx hb dX5_settles_2 rfl (lv_at hl 1 rfl) ?_
  refine lv_aload_n hx hb dX5_settles_3 rfl (lv_at hl 1 rfl) ?_
  refine lv_iload_n hx hb dX5_settles_4 rfl (lv_at hl 2 rfl) ?_
  obtain ⟨u1, u2, u3, u4, u5, u6, hP, hf⟩ := o_ms (i := i) (q := o) hM (by omega)
  have hgo := grid_tags hM hto
  have hgw := fun (v9 : Gh) (hv9 : Ext me X0 g v9) => gc_ext hM hv9 hto (fun y _ z => z)
  refine va_callr (va_runV (As := [.int wm]) (rest := [.ref o]) ⟨hx, hb, hml, hown, hts⟩ (rm_weak l dC dI kA eD b g o i mo me wm (by omega) (by omega) hme) (cwV 1 hts gX5_settles_X5_weak rfl rfl rfl (by decide +kernel) ⟨Nat.le_of_ble_eq_true rfl, Nat.le_of_ble_eq_true rfl⟩) ⟨fb_CX, va_recv hK hP (ci := 9) (q0 := 0) rfl rfl, fun U hU hW => ⟨rfl, CX.give hb0 hM hK hG hE hS hU hW⟩⟩ rfl rfl hl.1 rfl (lv_room (Nat.le_of_ble_eq_true rfl)) dX5_settles_5 ⟨(Nat.le_of_ble_eq_true rfl), (Nat.le_of_ble_eq_true rfl)⟩) hS (fun q _ h => h) (fun q h => h) (fun g9 r7 t H locs ht hvm hw8 hB hz1 hk1 hS => ?_)
  have hM := hB.1.back ht
  have hG := hB.1.2.2.2.1
  have hx10 : Ext me X0 g g9 := hw8
  have ht11 : tg g9 o = 28 + 64 * i := hx10.tk hto (by omega)
  have ht12 : tg g9 mo = 17 := hx10.tk hmo (by omega)
  have ht13 : tg g9 r7 = 38 := hB.2.1
  have hfi14 := hB.2.2
  have hfs15 : FI g9 g9 o r7 := hfi14.self hx10 hto hgo.1 hgo.2 (fun y _ z => z)
  obtain ⟨u16, u17, u18, u19, u20, u21, hP, hf⟩ := o_ms (i := i) (q := o) hM (by omega)
  refine va_calli (va_runV (As := [.ref r7]) (rest := []) ⟨hx, hb, hml, hown, hts⟩ (rm_falls l dC dI kA eD b g9 o i mo me r7 (by omega) (by omega) (hme.imp id (fun h9 => ((hx10.wide0 (Y := (XS i)))).tk h9 (by decide))) (by omega) hfs15) (cwV 1 hts gX5_settles_X5_falls rfl rfl rfl (by decide +kernel) ⟨Nat.le_of_ble_eq_true rfl, Nat.le_of_ble_eq_true rfl⟩) ⟨fb_CX, va_recv hK hP (ci := 9) (q0 := 0) rfl rfl, fun U hU hW => ⟨rfl, CX.give hb0 hM hK hG hE hS hU hW⟩⟩ rfl rfl hl.1 rfl (lv_room (Nat.le_of_ble_eq_true rfl)) dX5_settles_8 ⟨(Nat.le_of_ble_eq_true rfl), (Nat.le_of_ble_eq_true rfl)⟩) hS (fun q _ h => h) (fun q h => h) (fun r22 g24 t H locs ht hvm hw23 hB hz1 hk1 hS => ?_)
  have hM := hB.back ht
  have hG := hB.2.2.2.1
  have hx25 : Ext me (XS i) g9 g24 := hw23.1
  have ht26 : tg g24 o = 28 + 64 * i := hx25.tk ht11 (by omega)
  have ht27 : tg g24 mo = 17 := hx25.tk ht12 (by omega)
  have ht28 : tg g24 r7 = 38 := hx25.tk ht13 (by omega)
  obtain ⟨-, q29, hq30, hq31⟩ := hw23
  obtain rfl := hq30
  refine lv_istore_n (lv' := [(3, .int (nI q29)), (2, .int 0), (0, .ref o), (1, .int wm)]) hx hb dX5_settles_11 rfl hl (by decide) rfl (fun ls hl => ?_)
  have hgc32 : gc g24 o + q29 = gc g o := hq31.trans (hgw g9 hx10)
  have lp9 : ∀ (n9 d9 q9 : Nat) (u9 : Gh) (x9 : Int32), gc u9 o + q9 + d9 = gc g o → gc u9 o + q9 < n9 → ∀ (H : Heap) (locs : List Loc) (ls : Array Slot), Ext me (XS i) g u9 → GOK u9 → TM (dC, dI) kA b u9 H → va_S (fun q => b ≤ q) s.heap H locs → lv_has ls 4 [(2, .int x9), (3, .int (nI q9)), (0, .ref o), (1, .int wm)] → W p l e (headSpec wsX5_settles ({ frames := 6, cells := 686, slots := 5292, locals := 142 })).room s m args below meth c H locs (14 * (d9 + 1)) (108 * (d9 + 1)) Q (F0 m 12 ls []) := by
    intro n9
    induction n9 with
    | zero => intro d9 q9 u9 x9 h1 h2; omega
    | succ n9 ih9 =>
      intro d9 q9 u9 x9 h91 h92 H locs ls hx9 hG hM hS hl
      have ht33 : tg u9 o = 28 + 64 * i := hx9.tk hto (by omega)
      have ht34 : tg u9 mo = 17 := hx9.tk hmo (by omega)
      refine lv_iload_n hx hb dX5_settles_12 rfl (lv_at hl 1 rfl) ?_
      refine lv_if_le (tgt := 33) hx hb dX5_settles_13 (by decide) (fun c35 => ?_) (fun c35 => ?_)
      · skip
        have k36 : q9 ≤ 0 := (nI_leI (a := q9) (b := 0) (by omega) (by omega)).mp c35
        refine lv_iload_n hx hb dX5_settles_33 rfl (lv_at hl 0 rfl) ?_
        refine W.know (fun hkn1 hkn2 => ?_)
        subst hQ
        refine W.widen (k := 686) (n := 5292) (by omega) (by omega) ?_
        exact W.iret (v := x9) hx hb hr (fun t ht hW => ⟨⟨x9, (u9, d9), rfl, ⟨hx9, by show gc u9 o + d9 = gc g o; omega⟩, ⟨CX.give hb0 hM hK hG hE hS ht hW, by rw [ht]; show _ ≤ sz + 14 * (1 + d9); omega, by rw [ht]; show _ ≤ sg + 108 * (1 + d9); omega⟩⟩, hS.F ht⟩) hS.2.2 dX5_settles_34
      · skip
        have k37 : ¬ (q9 ≤ 0) := fun z => c35 ((nI_leI (a := q9) (b := 0) (by omega) (by omega)).mpr z)
        refine lv_iload_n hx hb dX5_settles_16 rfl (lv_at hl 0 rfl) ?_
        refine lv_iload_n hx hb dX5_settles_17 rfl (lv_at hl 1 rfl) ?_
        refine lv_iadd hx hb dX5_settles_18 ?_
        refine lv_topi (fun v38 e39 => ?_)
        refine lv_istore_n (lv' := [(2, .int v38), (3, .int (nI q9)), (0, .ref o), (1, .int wm)]) hx hb dX5_settles_19 rfl hl (by decide) rfl (fun ls hl => ?_)
        refine lv_aload_n hx hb dX5_settles_20 rfl (lv_at hl 2 rfl) ?_
        refine lv_aload_n hx hb dX5_settles_21 rfl (lv_at hl 2 rfl) ?_
        refine lv_iload_n hx hb dX5_settles_22 rfl (lv_at hl 3 rfl) ?_
        obtain ⟨u40, u41, u42, u43, u44, u45, hP, hf⟩ := o_ms (i := i) (q := o) hM (by omega)
        have hgo := grid_tags hM ht33
        have hgw := fun (v9 : Gh) (hv9 : Ext me X0 u9 v9) => gc_ext hM hv9 ht33 (fun y _ z => z)
        refine va_callr (va_runV (As := [.int wm]) (rest := [.ref o]) ⟨hx, hb, hml, hown, hts⟩ (rm_weak l dC dI kA eD b u9 o i mo me wm (by omega) (by omega) (hme.imp id (fun h9 => (hx9).tk h9 (by decide)))) (cwV 1 hts gX5_settles_X5_weak rfl rfl rfl (by decide +kernel) ⟨Nat.le_of_ble_eq_true rfl, Nat.le_of_ble_eq_true rfl⟩) ⟨fb_CX, va_recv hK hP (ci := 9) (q0 := 0) rfl rfl, fun U hU hW => ⟨rfl, CX.give hb0 hM hK hG hE hS hU hW⟩⟩ rfl rfl hl.1 rfl (lv_room (Nat.le_of_ble_eq_true rfl)) dX5_settles_23 ⟨(show 14 * (d9 + 1) + 14 ≤ 686 by omega), (show 108 * (d9 + 1) + 108 ≤ 5292 by omega)⟩) hS (fun q _ h => h) (fun q h => h) (fun g48 r46 t H locs ht hvm hw47 hB hz1 hk1 hS => ?_)
        have hM := hB.1.back ht
        have hG := hB.1.2.2.2.1
        have hx49 : Ext me X0 u9 g48 := hw47
        have ht50 : tg g48 o = 28 + 64 * i := hx49.tk ht33 (by omega)
        have ht51 : tg g48 mo = 17 := hx49.tk ht34 (by omega)
        have ht52 : tg g48 r46 = 38 := hB.2.1
        have hfi53 := hB.2.2
        have hfs54 : FI g48 g48 o r46 := hfi53.self hx49 ht33 hgo.1 hgo.2 (fun y _ z => z)
        obtain ⟨u55, u56, u57, u58, u59, u60, hP, hf⟩ := o_ms (i := i) (q := o) hM (by omega)
        refine va_calli (va_runV (As := [.ref r46]) (rest := []) ⟨hx, hb, hml, hown, hts⟩ (rm_falls l dC dI kA eD b g48 o i mo me r46 (by omega) (by omega) (hme.imp id (fun h9 => ((hx9.trans (hx49.wide0 (Y := (XS i))))).tk h9 (by decide))) (by omega) hfs54) (cwV 1 hts gX5_settles_X5_falls rfl rfl rfl (by decide +kernel) ⟨Nat.le_of_ble_eq_true rfl, Nat.le_of_ble_eq_true rfl⟩) ⟨fb_CX, va_recv hK hP (ci := 9) (q0 := 0) rfl rfl, fun U hU hW => ⟨rfl, CX.give hb0 hM hK hG hE hS hU hW⟩⟩ rfl rfl hl.1 rfl (lv_room (Nat.le_of_ble_eq_true rfl)) dX5_settles_26 ⟨(show 14 * (d9 + 1) + 14 + 0 ≤ 686 by omega), (show 108 * (d9 + 1) + 108 + 0 ≤ 5292 by omega)⟩) hS (fun q _ h => h) (fun q h => h) (fun r61 g63 t H locs ht hvm hw62 hB hz1 hk1 hS => ?_)
        have hM := hB.back ht
        have hG := hB.2.2.2.1
        have hx64 : Ext me (XS i) g48 g63 := hw62.1
        have ht65 : tg g63 o = 28 + 64 * i := hx64.tk ht50 (by omega)
        have ht66 : tg g63 mo = 17 := hx64.tk ht51 (by omega)
        have ht67 : tg g63 r46 = 38 := hx64.tk ht52 (by omega)
        obtain ⟨-, q68, hq69, hq70⟩ := hw62
        obtain rfl := hq69
        refine lv_istore_n (lv' := [(3, .int (nI q68)), (2, .int v38), (0, .ref o), (1, .int wm)]) hx hb dX5_settles_29 rfl hl (by decide) rfl (fun ls hl => ?_)
        refine lv_goto (tgt := 12) hx hb dX5_settles_30 (by decide) ?_
        have hgc71 : gc g63 o + q68 = gc u9 o := hq70.trans (hgw g48 hx49)
        refine W.widen (k := 14 * (d9 + q9 + 1)) (n := 108 * (d9 + q9 + 1)) (by omega) (by omega) ?_
        exact ih9 (d9 + q9) q68 g63 v38 (by omega) (by omega) H _ ls ((hx9.trans (hx49.wide0 (Y := (XS i)))).trans hx64) hG hM hS (lv_sub hl [1, 0, 2, 3] rfl)
  exact lp9 49 0 q29 g24 0 (by omega) (by omega) H _ ls ((hx10.wide0 (Y := (XS i))).trans hx25) hG hM hS (lv_sub hl [1, 0, 2, 3] rfl)

set_option maxHeartbeats 4000000 in
set_option maxRecDepth 100000 in
theorem rm_many (l : Launch) (dC : Nat → ClassId) (dI : Nat → Nat → Nat) (kA : Nat → ClassId) (eD b : Nat) (g : Gh) (o : Nat) (i : Nat) (hto : tg g o = 28 + 64 * i)  : Met l yX5_many wsX5_many ({ frames := 0, cells := 0, slots := 0, locals := 0 }) (va_Pc [.ref o] (CX (dC, dI) kA eD b g)) (va_Qi (fun (r : Int32) (u : Unit) => ∃ q, q ≤ 48 ∧ r = nI q) (fun (u : Unit) t => CX (dC, dI) kA eD b g t) (fun q => b ≤ q)) 0 0 (fun q => b ≤ q) := by
  refine Met.ofW (cc := cX5_many) (maxL := 10) (ret := (some .int)) (by decide +kernel) rfl ?_
  intro p e s m args below meth c s₁ B hml hv
  obtain ⟨rfl, hb0, hM, hK, hG, hE⟩ := hv
  have hx := B.exec
  have hb := B.bytes
  have hr := B.returns
  have hts := atoms_spec (ws := wsX5_many) B.pre
  have hown : s.vm.findClass RX5 = some m.cls := findClass_of_methodNamed B.named
  have hlocks := B.notSynchronized
  have hT := hE.1
  have hN := hE.2.2.2.2.2.2.2.1
  have hS : va_S (fun q => b ≤ q) s.heap s.heap [] := va_S.rf
  have hl := lv_entry ([.ref o]) (n := 10) (Nat.le_of_ble_eq_true rfl)
  rw [lg_entry_eq]
  generalize (lg_sl ([.ref o]) ++ List.replicate (10 - (lg_sl ([.ref o])).length) Slot.unset).toArray = ls at hl ⊢
  have hl : lv_has ls 10 [(0, .ref o)] := hl
  generalize ([.ref o] : List Value).toArray = args at hts ⊢
  refine W.q (fun Q hQ => ?_)
  refine lv_iconst (v := 0) hx hb dX5_many_0 (by decide) ?_
  refine lv_istore_n (lv' := [(1, .int 0), (0, .ref o)]) hx hb dX5_many_1 rfl hl (by decide) rfl (fun ls hl => ?_)
  refine lv_aload_n hx hb dX5_many_2 rfl (lv_at hl 1 rfl) ?_
  obtain ⟨u1, u2, u3, u4, u5, u6, hP, hf⟩ := o_ms (i := i) (q := o) hM (by omega)
  refine va_get (D := (dC, dI)) (ci := 9) (v := .ref (pF g o 0)) (C := RX5) (T := TX5) (N := 10) hx hb hts (by decide +kernel) hown hK hP 0 rfl rfl 0 (by decide) (hts (.fieldLink RX5 17 "SnowpalaceModel$Site" "cells" "[[LSnowpalaceModel$Cell;") (by decide +kernel)) (fun _ h9 => h9) rfl dX5_many_3 ?_
  have ht7 : tg g (pF g o 0) = 29 + 64 * i := hf.1
  refine lv_astore_n (lv' := [(2, .ref (pF g o 0)), (1, .int 0), (0, .ref o)]) hx hb dX5_many_6 rfl hl (by decide) rfl (fun ls hl => ?_)
  refine lv_aload_n hx hb dX5_many_7 rfl (lv_at hl 0 rfl) ?_
  obtain ⟨hP, hf⟩ := o_co (i := i) (q := (pF g o 0)) hM (by omega)
  refine va_alen (D := (dC, dI)) hx hb hK hP 0 9 rfl rfl (v := 6) (by rfl) dX5_many_8 ?_
  refine lv_istore_n (lv' := [(3, .int 6), (2, .ref (pF g o 0)), (1, .int 0), (0, .ref o)]) hx hb dX5_many_9 rfl hl (by decide) rfl (fun ls hl => ?_)
  refine lv_iconst (v := 0) hx hb dX5_many_10 (by decide) ?_
  refine lv_istore (lv' := [(4, .int 0), (3, .int 6), (2, .ref (pF g o 0)), (1, .int 0), (0, .ref o)]) hx hb dX5_many_11 hl (by decide) rfl (fun ls hl => ?_)
  have lp10 : ∀ (n11 j8 : Nat) (q9 : Nat), 0 ≤ j8 → j8 ≤ 6 → 6 < j8 + n11 → ∀ (H : Heap) (locs : List Loc) (ls : Array Slot), q9 ≤ 8 * j8 → TM (dC, dI) kA b g H → va_S (fun q => b ≤ q) s.heap H locs → lv_has ls 10 [(4, .int (nI j8)), (3, .int 6), (2, .ref (pF g o 0)), (1, .int (nI q9)), (0, .ref o)] → W p l e (headSpec wsX5_many ({ frames := 0, cells := 0, slots := 0, locals := 0 })).room s m args below meth c H locs 0 0 Q (F0 m 13 ls []) := by
    intro n11
    induction n11 with
    | zero => intro j8 q9 h0 h1 h2; omega
    | succ n11 ih12 =>
      intro j8 q9 lj8 hj8 hn11 H locs ls hf13 hM hS hl
      refine lv_iload hx hb dX5_many_13 (lv_at hl 0 rfl) ?_
      refine lv_iload_n hx hb dX5_many_15 rfl (lv_at hl 1 rfl) ?_
      refine lv_icmp_ge (tgt := 76) hx hb dX5_many_16 (by decide) (fun c14 => ?_) (fun c14 => ?_)
      · skip
        have k15 : 6 ≤ j8 := (nI_leI (a := 6) (b := j8) (by omega) (by omega)).mp c14
        refine lv_iload_n hx hb dX5_many_76 rfl (lv_at hl 3 rfl) ?_
        subst hQ
        refine W.widen (k := 0) (n := 0) (Nat.le_of_ble_eq_true rfl) (Nat.le_of_ble_eq_true rfl) ?_
        exact W.iret (v := (nI q9)) hx hb hr (fun t ht hW => ⟨⟨(nI q9), (), rfl, ⟨q9, by omega, rfl⟩, CX.give hb0 hM hK hG hE hS ht hW⟩, hS.F ht⟩) hS.2.2 dX5_many_77
      · skip
        have k16 : ¬ (6 ≤ j8) := fun z => c14 ((nI_leI (a := 6) (b := j8) (by omega) (by omega)).mpr z)
        refine lv_aload_n hx hb dX5_many_19 rfl (lv_at hl 2 rfl) ?_
        refine lv_iload hx hb dX5_many_20 (lv_at hl 0 rfl) ?_
        obtain ⟨hP, hf⟩ := o_co (i := i) (q := (pF g o 0)) hM (by omega)
        have ec : ((nI j8) : Int32).toNatClampNeg = j8 := nI_clamp (by omega)
        refine rt_aldA (D := (dC, dI)) (t0 := 9) hx hb hK hP rfl (vp_in_nI (by omega) (by decide)) (y := (pF g (pF g o 0) j8)) ((congrArg (fun z => if z < 6 then some (pF g (pF g o 0) z) else none) ec).trans (if_pos (by omega))) dX5_many_22 ?_
        have ht17 : tg g (pF g (pF g o 0) j8) = 30 + 64 * (8 * i + j8) := (hf j8 (by omega))
        refine lv_astore (lv' := [(5, .ref (pF g (pF g o 0) j8)), (4, .int (nI j8)), (3, .int 6), (2, .ref (pF g o 0)), (1, .int (nI q9)), (0, .ref o)]) hx hb dX5_many_23 hl (by decide) rfl (fun ls hl => ?_)
        refine lv_aload hx hb dX5_many_25 (lv_at hl 0 rfl) ?_
        refine lv_astore (lv' := [(6, .ref (pF g (pF g o 0) j8)), (5, .ref (pF g (pF g o 0) j8)), (4, .int (nI j8)), (3, .int 6), (2, .ref (pF g o 0)), (1, .int (nI q9)), (0, .ref o)]) hx hb dX5_many_27 hl (by decide) rfl (fun ls hl => ?_)
        refine lv_aload hx hb dX5_many_29 (lv_at hl 0 rfl) ?_
        obtain ⟨hP, hf⟩ := o_cr (i := (8 * i + j8)) (q := (pF g (pF g o 0) j8)) hM (by omega)
        refine va_alen (D := (dC, dI)) hx hb hK hP 0 8 rfl rfl (v := 8) (by rfl) dX5_many_31 ?_
        refine lv_istore (lv' := [(7, .int 8), (6, .ref (pF g (pF g o 0) j8)), (5, .ref (pF g (pF g o 0) j8)), (4, .int (nI j8)), (3, .int 6), (2, .ref (pF g o 0)), (1, .int (nI q9)), (0, .ref o)]) hx hb dX5_many_32 hl (by decide) rfl (fun ls hl => ?_)
        refine lv_iconst (v := 0) hx hb dX5_many_34 (by decide) ?_
        refine lv_istore (lv' := [(8, .int 0), (7, .int 8), (6, .ref (pF g (pF g o 0) j8)), (5, .ref (pF g (pF g o 0) j8)), (4, .int (nI j8)), (3, .int 6), (2, .ref (pF g o 0)), (1, .int (nI q9)), (0, .ref o)]) hx hb dX5_many_35 hl (by decide) rfl (fun ls hl => ?_)
        have lp20 : ∀ (n21 j18 : Nat) (q19 : Nat), 0 ≤ j18 → j18 ≤ 8 → 8 < j18 + n21 → ∀ (H : Heap) (locs : List Loc) (ls : Array Slot), q19 ≤ 8 * j8 + j18 → TM (dC, dI) kA b g H → va_S (fun q => b ≤ q) s.heap H locs → lv_has ls 10 [(8, .int (nI j18)), (7, .int 8), (6, .ref (pF g (pF g o 0) j8)), (5, .ref (pF g (pF g o 0) j8)), (4, .int (nI j8)), (3, .int 6), (2, .ref (pF g o 0)), (1, .int (nI q19)), (0, .ref o)] → W p l e (headSpec wsX5_many ({ frames := 0, cells := 0, slots := 0, locals := 0 })).room s m args below meth c H locs 0 0 Q (F0 m 37 ls []) := by
          intro n21
          induction n21 with
          | zero => intro j18 q19 h0 h1 h2; omega
          | succ n21 ih22 =>
            intro j18 q19 lj18 hj18 hn21 H locs ls hf23 hM hS hl
            refine lv_iload hx hb dX5_many_37 (lv_at hl 0 rfl) ?_
            refine lv_iload hx hb dX5_many_39 (lv_at hl 1 rfl) ?_
            refine lv_icmp_ge (tgt := 70) hx hb dX5_many_41 (by decide) (fun c24 => ?_) (fun c24 => ?_)
            · skip
              have k25 : 8 ≤ j18 := (nI_leI (a := 8) (b := j18) (by omega) (by omega)).mp c24
              refine lv_iinc (v := (nI (j8 + 1))) (lv' := [(4, .int (nI (j8 + 1))), (8, .int (nI j18)), (7, .int 8), (6, .ref (pF g (pF g o 0) j8)), (5, .ref (pF g (pF g o 0) j8)), (3, .int 6), (2, .ref (pF g o 0)), (1, .int (nI q19)), (0, .ref o)]) hx hb dX5_many_70 hl (k := 4) rfl (nI_add j8 1) (by decide) rfl (fun ls hl => ?_)
              refine lv_goto (tgt := 13) hx hb dX5_many_73 (by decide) ?_
              exact ih12 ((j8 + 1)) q19 (by omega) (by omega) (by omega) H _ ls (by omega) hM hS (lv_sub hl [0, 5, 6, 7, 8] rfl)
            · skip
              have k26 : ¬ (8 ≤ j18) := fun z => c24 ((nI_leI (a := 8) (b := j18) (by omega) (by omega)).mpr z)
              refine lv_aload hx hb dX5_many_44 (lv_at hl 2 rfl) ?_
              refine lv_iload hx hb dX5_many_46 (lv_at hl 0 rfl) ?_
              obtain ⟨hP, hf⟩ := o_cr (i := (8 * i + j8)) (q := (pF g (pF g o 0) j8)) hM (by omega)
              refine va_aldq (D := (dC, dI)) hx hb hK hP 0 8 rfl rfl (vp_in_nI (by omega) (by decide)) dX5_many_48 ?_
              have ec : ((nI j18) : Int32).toNatClampNeg = j18 := nI_clamp (by omega)
              rw [ec]
              have hq27 := hf j18 (by omega)
              refine rt_astore (lv' := [(9, va_rf (pO g (pF g (pF g o 0) j8) j18)), (8, .int (nI j18)), (7, .int 8), (6, .ref (pF g (pF g o 0) j8)), (5, .ref (pF g (pF g o 0) j8)), (4, .int (nI j8)), (3, .int 6), (2, .ref (pF g o 0)), (1, .int (nI q19)), (0, .ref o)]) hx hb dX5_many_49 hl (by decide) rfl (fun ls hl => ?_)
              refine lv_iload_n hx hb dX5_many_51 rfl (lv_at hl 8 rfl) ?_
              refine rt_aload hx hb dX5_many_52 (lv_at hl 0 rfl) ?_
              rcases hy29 : (pO g (pF g (pF g o 0) j8) j18) with _ | y28
              · skip
                try rw [hy29] at hl
                have hl : lv_has ls 10 [(9, .null), (8, .int (nI j18)), (7, .int 8), (6, .ref (pF g (pF g o 0) j8)), (5, .ref (pF g (pF g o 0) j8)), (4, .int (nI j8)), (3, .int 6), (2, .ref (pF g o 0)), (1, .int (nI q19)), (0, .ref o)] := hl
                refine lv_ifnonnullN hx hb dX5_many_54 ?_
                refine lv_iconst (v := 0) hx hb dX5_many_57 (by decide) ?_
                refine lv_goto (tgt := 62) hx hb dX5_many_58 (by decide) ?_
                refine lv_iadd hx hb dX5_many_62 ?_
                refine lv_topi (fun v30 e31 => ?_)
                obtain rfl : v30 = nI (q19 + 0) := e31.trans (nI_add q19 0)
                refine lv_istore_n (lv' := [(1, .int (nI (q19 + 0))), (9, .null), (8, .int (nI j18)), (7, .int 8), (6, .ref (pF g (pF g o 0) j8)), (5, .ref (pF g (pF g o 0) j8)), (4, .int (nI j8)), (3, .int 6), (2, .ref (pF g o 0)), (0, .ref o)]) hx hb dX5_many_63 rfl hl (by decide) rfl (fun ls hl => ?_)
                refine lv_iinc (v := (nI (j18 + 1))) (lv' := [(8, .int (nI (j18 + 1))), (1, .int (nI (q19 + 0))), (9, .null), (7, .int 8), (6, .ref (pF g (pF g o 0) j8)), (5, .ref (pF g (pF g o 0) j8)), (4, .int (nI j8)), (3, .int 6), (2, .ref (pF g o 0)), (0, .ref o)]) hx hb dX5_many_64 hl (k := 2) rfl (nI_add j18 1) (by decide) rfl (fun ls hl => ?_)
                refine lv_goto (tgt := 37) hx hb dX5_many_67 (by decide) ?_
                exact ih22 ((j18 + 1)) (q19 + 0) (by omega) (by omega) (by omega) H _ ls (by omega) hM hS (lv_sub hl [0, 3, 4, 5, 6, 7, 8, 1, 9] rfl)
              · skip
                try rw [hy29] at hl
                have hl : lv_has ls 10 [(9, .ref y28), (8, .int (nI j18)), (7, .int 8), (6, .ref (pF g (pF g o 0) j8)), (5, .ref (pF g (pF g o 0) j8)), (4, .int (nI j8)), (3, .int 6), (2, .ref (pF g o 0)), (1, .int (nI q19)), (0, .ref o)] := hl
                have ht32 : tg g y28 = 31 := hq27 y28 hy29
                refine lv_ifnonnull (tgt := 61) hx hb dX5_many_54 (by decide) ?_
                refine lv_iconst (v := 1) hx hb dX5_many_61 (by decide) ?_
                refine lv_iadd hx hb dX5_many_62 ?_
                refine lv_topi (fun v33 e34 => ?_)
                obtain rfl : v33 = nI (q19 + 1) := e34.trans (nI_add q19 1)
                refine lv_istore_n (lv' := [(1, .int (nI (q19 + 1))), (9, .ref y28), (8, .int (nI j18)), (7, .int 8), (6, .ref (pF g (pF g o 0) j8)), (5, .ref (pF g (pF g o 0) j8)), (4, .int (nI j8)), (3, .int 6), (2, .ref (pF g o 0)), (0, .ref o)]) hx hb dX5_many_63 rfl hl (by decide) rfl (fun ls hl => ?_)
                refine lv_iinc (v := (nI (j18 + 1))) (lv' := [(8, .int (nI (j18 + 1))), (1, .int (nI (q19 + 1))), (9, .ref y28), (7, .int 8), (6, .ref (pF g (pF g o 0) j8)), (5, .ref (pF g (pF g o 0) j8)), (4, .int (nI j8)), (3, .int 6), (2, .ref (pF g o 0)), (0, .ref o)]) hx hb dX5_many_64 hl (k := 2) rfl (nI_add j18 1) (by decide) rfl (fun ls hl => ?_)
                refine lv_goto (tgt := 37) hx hb dX5_many_67 (by decide) ?_
                exact ih22 ((j18 + 1)) (q19 + 1) (by omega) (by omega) (by omega) H _ ls (by omega) hM hS (lv_sub hl [0, 3, 4, 5, 6, 7, 8, 1, 9] rfl)
        exact lp20 (8 + 1) 0 q9 (by omega) (by omega) (by omega) H _ ls (by omega) hM hS (lv_sub hl [0, 1, 2, 3, 4, 5, 6, 7, 8] rfl)
  exact lp10 (6 + 1) 0 0 (by omega) (by omega) (by omega) s.heap _ ls (by omega) hM hS (lv_sub hl [0, 1, 2, 3, 4] rfl)

set_option maxHeartbeats 4000000 in
set_option maxRecDepth 100000 in
theorem rm_warmthOf (l : Launch) (dC : Nat → ClassId) (dI : Nat → Nat → Nat) (kA : Nat → ClassId) (eD b : Nat) (g : Gh) (o : Nat) (j : Nat) (hto : tg g o = 17) (hj : j ≤ 504) : Met l yX6_warmthOf wsX6_warmthOf ({ frames := 0, cells := 0, slots := 0, locals := 0 }) (va_Pc [.ref o, .int (nI j)] (CX (dC, dI) kA eD b g)) (va_Qi (fun (r : Int32) (u : Unit) => r = wOf (fun d => pI g ((pO g (pF g o 0) d).getD 0) 0) (fun d => pI g ((pO g (pF g o 0) d).getD 0) 1) (nI j)) (fun (u : Unit) t => CX (dC, dI) kA eD b g t) (fun q => b ≤ q)) 0 0 (fun q => b ≤ q) := by
  refine Met.ofW (cc := cX6_warmthOf) (maxL := 4) (ret := (some .int)) (by decide +kernel) rfl ?_
  intro p e s m args below meth c s₁ B hml hv
  obtain ⟨rfl, hb0, hM, hK, hG, hE⟩ := hv
  have hx := B.exec
  have hb := B.bytes
  have hr := B.returns
  have hts := atoms_spec (ws := wsX6_warmthOf) B.pre
  have hown : s.vm.findClass RX6 = some m.cls := findClass_of_methodNamed B.named
  have hlocks := B.notSynchronized
  have hT := hE.1
  have hN := hE.2.2.2.2.2.2.2.1
  have hS : va_S (fun q => b ≤ q) s.heap s.heap [] := va_S.rf
  have hl := lv_entry ([.ref o, .int (nI j)]) (n := 4) (Nat.le_of_ble_eq_true rfl)
  rw [lg_entry_eq]
  generalize (lg_sl ([.ref o, .int (nI j)]) ++ List.replicate (4 - (lg_sl ([.ref o, .int (nI j)])).length) Slot.unset).toArray = ls at hl ⊢
  have hl : lv_has ls 4 [(0, .ref o), (1, .int (nI j))] := hl
  generalize ([.ref o, .int (nI j)] : List Value).toArray = args at hts ⊢
  refine lv_iload_n hx hb dX6_warmthOf_0 rfl (lv_at hl 1 rfl) ?_
  refine lv_sipush (v := 504) hx hb dX6_warmthOf_1 (by decide) ?_
  refine lv_icmp_ne (tgt := 11) hx hb dX6_warmthOf_4 (by decide) (fun c1 => ?_) (fun c1 => ?_)
  · skip
    have k2 : ¬ (j = 504) := fun z => c1 ((nI_eq (a := j) (b := 504) (by omega) (by omega)).mpr z)
    refine lv_iload_n hx hb dX6_warmthOf_11 rfl (lv_at hl 1 rfl) ?_
    refine lv_bipush (v := 24) hx hb dX6_warmthOf_12 (by decide) ?_
    refine lv_irem hx hb dX6_warmthOf_14 (by decide) ?_
    refine lv_topi (fun v3 e4 => ?_)
    obtain rfl : v3 = nI (j % 24) := e4.trans (pk_rem (a := j) (d := 24) (by omega) (by decide) (by decide))
    refine lv_istore_n (lv' := [(2, .int (nI (j % 24))), (0, .ref o), (1, .int (nI j))]) hx hb dX6_warmthOf_15 rfl hl (by decide) rfl (fun ls hl => ?_)
    refine lv_aload_n hx hb dX6_warmthOf_16 rfl (lv_at hl 1 rfl) ?_
    obtain ⟨u5, u6, hP, hf⟩ := o_mo (i := 0) (q := o) hM (by omega)
    refine va_get (D := (dC, dI)) (ci := 10) (v := .ref (pF g o 0)) (C := RX6) (T := TX6) (N := 11) hx hb hts (by decide +kernel) hown hK hP 0 rfl rfl 1 (by decide) (hts (.fieldLink RX6 15 "SnowpalaceModel" "days" "[[I") (by decide +kernel)) (fun _ h9 => h9) rfl dX6_warmthOf_17 ?_
    have ht7 : tg g (pF g o 0) = 18 := hf.1
    refine lv_iload_n hx hb dX6_warmthOf_20 rfl (lv_at hl 2 rfl) ?_
    refine lv_bipush (v := 24) hx hb dX6_warmthOf_21 (by decide) ?_
    refine lv_idiv hx hb dX6_warmthOf_23 (by decide) ?_
    refine lv_topi (fun v8 e9 => ?_)
    obtain rfl : v8 = nI (j / 24) := e9.trans (pk_div (a := j) (d := 24) (by omega) (by decide) (by decide))
    obtain ⟨hP, hf⟩ := o_da (i := 0) (q := (pF g o 0)) hM (by omega)
    have ec : ((nI (j / 24)) : Int32).toNatClampNeg = (j / 24) := nI_clamp (by omega)
    refine rt_aldA (D := (dC, dI)) (t0 := 6) hx hb hK hP rfl (vp_in_nI (by omega) (by decide)) (y := ((pO g (pF g o 0) (j / 24)).getD 0)) ((congrArg (pO g (pF g o 0)) ec).trans (hf (j / 24) (by omega)).1) dX6_warmthOf_24 ?_
    have ht10 : tg g ((pO g (pF g o 0) (j / 24)).getD 0) = 22 := (hf (j / 24) (by omega)).2
    refine lv_astore_n (lv' := [(3, .ref ((pO g (pF g o 0) (j / 24)).getD 0)), (2, .int (nI (j % 24))), (0, .ref o), (1, .int (nI j))]) hx hb dX6_warmthOf_25 rfl hl (by decide) rfl (fun ls hl => ?_)
    refine lv_aload_n hx hb dX6_warmthOf_26 rfl (lv_at hl 0 rfl) ?_
    refine lv_iconst (v := 0) hx hb dX6_warmthOf_27 (by decide) ?_
    obtain ⟨hP, hf⟩ := o_ro (i := 0) (q := ((pO g (pF g o 0) (j / 24)).getD 0)) hM (by omega)
    refine va_iald (D := (dC, dI)) hx hb hK hP 0 0 rfl rfl (by unfold vp_in; decide) dX6_warmthOf_28 ?_
    refine lv_topi (fun v11 e12 => ?_)
    have ec : (0 : Int32).toNatClampNeg = 0 := by decide
    rw [ec] at e12
    subst e12
    refine lv_aload_n hx hb dX6_warmthOf_29 rfl (lv_at hl 0 rfl) ?_
    refine lv_iconst (v := 1) hx hb dX6_warmthOf_30 (by decide) ?_
    obtain ⟨hP, hf⟩ := o_ro (i := 0) (q := ((pO g (pF g o 0) (j / 24)).getD 0)) hM (by omega)
    refine va_iald (D := (dC, dI)) hx hb hK hP 0 0 rfl rfl (by unfold vp_in; decide) dX6_warmthOf_31 ?_
    refine lv_topi (fun v14 e15 => ?_)
    have ec : (1 : Int32).toNatClampNeg = 1 := by decide
    rw [ec] at e15
    subst e15
    refine lv_aload_n hx hb dX6_warmthOf_32 rfl (lv_at hl 0 rfl) ?_
    refine lv_iconst (v := 0) hx hb dX6_warmthOf_33 (by decide) ?_
    obtain ⟨hP, hf⟩ := o_ro (i := 0) (q := ((pO g (pF g o 0) (j / 24)).getD 0)) hM (by omega)
    refine va_iald (D := (dC, dI)) hx hb hK hP 0 0 rfl rfl (by unfold vp_in; decide) dX6_warmthOf_34 ?_
    refine lv_topi (fun v17 e18 => ?_)
    have ec : (0 : Int32).toNatClampNeg = 0 := by decide
    rw [ec] at e18
    subst e18
    refine lv_isub hx hb dX6_warmthOf_35 ?_
    refine lv_topi (fun v20 e21 => ?_)
    subst e21
    refine lv_iload_n hx hb dX6_warmthOf_36 rfl (lv_at hl 1 rfl) ?_
    refine lv_bipush (v := 12) hx hb dX6_warmthOf_37 (by decide) ?_
    refine lv_icmp_gt (tgt := 46) hx hb dX6_warmthOf_39 (by decide) (fun c22 => ?_) (fun c22 => ?_)
    · skip
      have k23 : 12 < (j % 24) := (nI_ltI (a := 12) (b := (j % 24)) (by omega) (by omega)).mp c22
      refine lv_bipush (v := 24) hx hb dX6_warmthOf_46 (by decide) ?_
      refine lv_iload_n hx hb dX6_warmthOf_48 rfl (lv_at hl 1 rfl) ?_
      refine lv_isub hx hb dX6_warmthOf_49 ?_
      refine lv_topi (fun v24 e25 => ?_)
      have tv24 : (v24 : Int32).toInt = ((24 : Nat) : Int) - (((j % 24) : Nat) : Int) := by rw [e25]; exact pk_sub_toInt (a := 24) (b := (j % 24)) (by omega) (by omega)
      refine lv_imul hx hb dX6_warmthOf_50 ?_
      refine lv_topi (fun v26 e27 => ?_)
      subst e27
      refine lv_bipush (v := 12) hx hb dX6_warmthOf_51 (by decide) ?_
      refine lv_idiv hx hb dX6_warmthOf_53 (by decide) ?_
      refine lv_topi (fun v28 e29 => ?_)
      subst e29
      refine lv_iadd hx hb dX6_warmthOf_54 ?_
      refine lv_topi (fun v30 e31 => ?_)
      subst e31
      refine W.widen (k := 0) (n := 0) (Nat.le_of_ble_eq_true rfl) (Nat.le_of_ble_eq_true rfl) ?_
      exact W.iret (v := ((pI g ((pO g (pF g o 0) (j / 24)).getD 0) 0) + ((((pI g ((pO g (pF g o 0) (j / 24)).getD 0) 1) - (pI g ((pO g (pF g o 0) (j / 24)).getD 0) 0)) * v24) / 12))) hx hb hr (fun t ht hW => ⟨⟨((pI g ((pO g (pF g o 0) (j / 24)).getD 0) 0) + ((((pI g ((pO g (pF g o 0) (j / 24)).getD 0) 1) - (pI g ((pO g (pF g o 0) (j / 24)).getD 0) 0)) * v24) / 12)), (), rfl, (by rw [e25]; exact wOf_2 (lo := (fun d => pI g ((pO g (pF g o 0) d).getD 0) 0)) (hi := (fun d => pI g ((pO g (pF g o 0) d).getD 0) 1)) (j := j) (by omega) (by omega)), CX.give hb0 hM hK hG hE hS ht hW⟩, hS.F ht⟩) hS.2.2 dX6_warmthOf_55
    · skip
      have k32 : ¬ (12 < (j % 24)) := fun z => c22 ((nI_ltI (a := 12) (b := (j % 24)) (by omega) (by omega)).mpr z)
      refine lv_iload_n hx hb dX6_warmthOf_42 rfl (lv_at hl 1 rfl) ?_
      refine lv_goto (tgt := 50) hx hb dX6_warmthOf_43 (by decide) ?_
      refine lv_imul hx hb dX6_warmthOf_50 ?_
      refine lv_topi (fun v33 e34 => ?_)
      subst e34
      refine lv_bipush (v := 12) hx hb dX6_warmthOf_51 (by decide) ?_
      refine lv_idiv hx hb dX6_warmthOf_53 (by decide) ?_
      refine lv_topi (fun v35 e36 => ?_)
      subst e36
      refine lv_iadd hx hb dX6_warmthOf_54 ?_
      refine lv_topi (fun v37 e38 => ?_)
      subst e38
      refine W.widen (k := 0) (n := 0) (Nat.le_of_ble_eq_true rfl) (Nat.le_of_ble_eq_true rfl) ?_
      exact W.iret (v := ((pI g ((pO g (pF g o 0) (j / 24)).getD 0) 0) + ((((pI g ((pO g (pF g o 0) (j / 24)).getD 0) 1) - (pI g ((pO g (pF g o 0) (j / 24)).getD 0) 0)) * (nI (j % 24))) / 12))) hx hb hr (fun t ht hW => ⟨⟨((pI g ((pO g (pF g o 0) (j / 24)).getD 0) 0) + ((((pI g ((pO g (pF g o 0) (j / 24)).getD 0) 1) - (pI g ((pO g (pF g o 0) (j / 24)).getD 0) 0)) * (nI (j % 24))) / 12)), (), rfl, (wOf_1 (lo := (fun d => pI g ((pO g (pF g o 0) d).getD 0) 0)) (hi := (fun d => pI g ((pO g (pF g o 0) d).getD 0) 1)) (j := j) (by omega) (by omega)), CX.give hb0 hM hK hG hE hS ht hW⟩, hS.F ht⟩) hS.2.2 dX6_warmthOf_55
  · skip
    have k39 : j = 504 := (nI_eq (a := j) (b := 504) (by omega) (by omega)).mp c1
    refine lv_sipush (v := (-150)) hx hb dX6_warmthOf_7 (by decide) ?_
    refine W.widen (k := 0) (n := 0) (Nat.le_of_ble_eq_true rfl) (Nat.le_of_ble_eq_true rfl) ?_
    exact W.iret (v := (-150)) hx hb hr (fun t ht hW => ⟨⟨(-150), (), rfl, (wOf_out (by have := nI_toInt (n := j) (by omega); omega)), CX.give hb0 hM hK hG hE hS ht hW⟩, hS.F ht⟩) hS.2.2 dX6_warmthOf_10

set_option maxHeartbeats 4000000 in
set_option maxRecDepth 100000 in
theorem rm_isOpen (l : Launch) (dC : Nat → ClassId) (dI : Nat → Nat → Nat) (kA : Nat → ClassId) (eD b : Nat) (g : Gh) (o : Nat) (i mo me : Nat) (co pe : Int32) (hto : tg g o = 28 + 64 * i) (hmo : tg g mo = 17) (hme : me < b ∨ tg g me = 17) : Met l yX5_isOpen wsX5_isOpen ({ frames := 5, cells := 7, slots := 54, locals := 117 }) (va_Pc [.ref o, .int co, .int pe] (CX (dC, dI) kA eD b g)) (va_Qi (fun (r : Int32) (u : Gh) => Ext me X0 g u ∧ (r = 0 ∨ r = 1)) (fun (u : Gh) t => CX (dC, dI) kA eD b u t) (fun q => b ≤ q)) 7 54 (fun q => b ≤ q) := by
  refine Met.ofW (cc := cX5_isOpen) (maxL := 8) (ret := (some .boolean)) (by decide +kernel) rfl ?_
  intro p e s m args below meth c s₁ B hml hv
  obtain ⟨rfl, hb0, hM, hK, hG, hE⟩ := hv
  have hx := B.exec
  have hb := B.bytes
  have hr := B.returns
  have hts := atoms_spec (ws := wsX5_isOpen) B.pre
  have hown : s.vm.findClass RX5 = some m.cls := findClass_of_methodNamed B.named
  have hlocks := B.notSynchronized
  have hT := hE.1
  have hN := hE.2.2.2.2.2.2.2.1
  have hS : va_S (fun q => b ≤ q) s.heap s.heap [] := va_S.rf
  have hl := lv_entry ([.ref o, .int co, .int pe]) (n := 8) (Nat.le_of_ble_eq_true rfl)
  rw [lg_entry_eq]
  generalize (lg_sl ([.ref o, .int co, .int pe]) ++ List.replicate (8 - (lg_sl ([.ref o, .int co, .int pe])).length) Slot.unset).toArray = ls at hl ⊢
  have hl : lv_has ls 8 [(0, .ref o), (1, .int co), (2, .int pe)] := hl
  generalize ([.ref o, .int co, .int pe] : List Value).toArray = args at hts ⊢
  refine W.q (fun Q hQ => ?_)
  refine lv_aload_n hx hb dX5_isOpen_0 rfl (lv_at hl 0 rfl) ?_
  refine lv_iload_n hx hb dX5_isOpen_1 rfl (lv_at hl 1 rfl) ?_
  refine lv_iload_n hx hb dX5_isOpen_2 rfl (lv_at hl 2 rfl) ?_
  obtain ⟨u1, u2, u3, u4, u5, u6, hP, hf⟩ := o_ms (i := i) (q := o) hM (by omega)
  refine va_callr (va_runV (As := [.int co, .int pe]) (rest := []) ⟨hx, hb, hml, hown, hts⟩ (rm_loads l dC dI kA eD b g o i mo me co pe (by omega) (by omega) hme) (cwV 2 hts gX5_isOpen_X5_loads rfl rfl rfl (by decide +kernel) ⟨Nat.le_of_ble_eq_true rfl, Nat.le_of_ble_eq_true rfl⟩) ⟨fb_CX, va_recv hK hP (ci := 9) (q0 := 0) rfl rfl, fun U hU hW => ⟨rfl, CX.give hb0 hM hK hG hE hS hU hW⟩⟩ rfl rfl hl.1 rfl (lv_room (Nat.le_of_ble_eq_true rfl)) dX5_isOpen_3 ⟨(Nat.le_of_ble_eq_true rfl), (Nat.le_of_ble_eq_true rfl)⟩) hS (fun q _ h => h) (fun q h => h) (fun g9 r7 t H locs ht hvm hw8 hB hz1 hk1 hS => ?_)
  have hM := hB.1.back ht
  have hG := hB.1.2.2.2.1
  have hx10 : Ext me X0 g g9 := hw8
  have ht11 : tg g9 o = 28 + 64 * i := hx10.tk hto (by omega)
  have ht12 : tg g9 mo = 17 := hx10.tk hmo (by omega)
  have ht13 : tg g9 r7 = 36 := hB.2
  refine lv_astore_n (lv' := [(3, .ref r7), (0, .ref o), (1, .int co), (2, .int pe)]) hx hb dX5_isOpen_6 rfl hl (by decide) rfl (fun ls hl => ?_)
  refine lv_aload_n hx hb dX5_isOpen_7 rfl (lv_at hl 1 rfl) ?_
  obtain ⟨u14, u15, u16, u17, u18, u19, hP, hf⟩ := o_ms (i := i) (q := o) hM (by omega)
  refine va_get (D := (dC, dI)) (ci := 9) (v := .ref (pF g9 o 2)) (C := RX5) (T := TX5) (N := 10) hx hb hts (by decide +kernel) hown hK hP 0 rfl rfl 9 (by decide) (hts (.fieldLink RX5 3 "SnowpalaceModel$Site" "this$0" "LSnowpalaceModel;") (by decide +kernel)) (fun _ h9 => h9) rfl dX5_isOpen_8 ?_
  have ht20 : tg g9 (pF g9 o 2) = 17 := hf.2.2.1
  have hth21 : (pF g9 o 2) = mo := hG.2.2.1 o mo (by omega) (by omega)
  rw [hth21]
  refine lv_aload_n hx hb dX5_isOpen_11 rfl (lv_at hl 1 rfl) ?_
  obtain ⟨u22, u23, u24, u25, u26, u27, hP, hf⟩ := o_ms (i := i) (q := o) hM (by omega)
  refine va_get (D := (dC, dI)) (ci := 9) (v := .ref (pF g9 o 2)) (C := RX5) (T := TX5) (N := 10) hx hb hts (by decide +kernel) hown hK hP 0 rfl rfl 9 (by decide) (hts (.fieldLink RX5 3 "SnowpalaceModel$Site" "this$0" "LSnowpalaceModel;") (by decide +kernel)) (fun _ h9 => h9) rfl dX5_isOpen_12 ?_
  have ht28 : tg g9 (pF g9 o 2) = 17 := hf.2.2.1
  have hth29 : (pF g9 o 2) = mo := hG.2.2.1 o mo (by omega) (by omega)
  rw [hth29]
  obtain ⟨u30, u31, hP, hf⟩ := o_mo (i := 0) (q := mo) hM (by omega)
  refine va_getN (D := (dC, dI)) (ci := 10) (v := .int (pI g9 mo 0)) (C := RX6) (T := TX6) (N := 11) hx hb hts (by decide +kernel) hown hK hP 0 rfl rfl 2 (by decide) (hN (.fieldLinkNest RX5 103 "SnowpalaceModel" "hour" "I" RX6) (by decide +kernel)) (fun _ h9 => h9) rfl dX5_isOpen_15 ?_
  have hv32 := hf.2.2.2.2.2.2.1
  obtain ⟨j33, hj33, en34⟩ := toN (p := (pI g9 mo 0)) (k := 504) (by omega) (by omega) (by decide)
  rw [en34]
  try rw [en34] at hl
  have hl : lv_has ls 8 [(3, .ref r7), (0, .ref o), (1, .int co), (2, .int pe)] := hl
  obtain ⟨u35, u36, hP, hf⟩ := o_mo (i := 0) (q := mo) hM (by omega)
  refine va_calli (va_runVN (As := [.int (nI j33)]) (rest := []) ⟨hx, hb, hml, hown, hts⟩ (rm_warmthOf l dC dI kA eD b g9 mo j33 (by omega) (by omega)) (⟨va_cnB 1 hts gX5_isOpen_X6_warmthOf_n123 rfl rfl rfl (hN (.methodLinkNest RX5 123 yX6_warmthOf RX6) (by decide +kernel)) (hts (.initialized RX6) (by decide +kernel)) (by decide +kernel) ⟨Nat.le_of_ble_eq_true rfl, Nat.le_of_ble_eq_true rfl⟩, hts (.instanceMethod yX6_warmthOf) (by decide +kernel), hts (.selects RX6 yX6_warmthOf yX6_warmthOf) (by decide +kernel)⟩) ⟨fb_CX, va_recv hK hP (ci := 10) (q0 := 0) rfl rfl, fun U hU hW => ⟨rfl, CX.give hb0 hM hK hG hE hS hU hW⟩⟩ rfl rfl hl.1 rfl (lv_room (Nat.le_of_ble_eq_true rfl)) dX5_isOpen_18 ⟨(Nat.le_of_ble_eq_true rfl), (Nat.le_of_ble_eq_true rfl)⟩) hS (fun q _ h => h) (fun q h => h) (fun r37 u t H locs ht hvm hw38 hB hz1 hk1 hS => ?_)
  have hM := hB.back ht
  have hG := hB.2.2.2.1
  refine lv_istore (lv' := [(4, .int r37), (3, .ref r7), (0, .ref o), (1, .int co), (2, .int pe)]) hx hb dX5_isOpen_21 hl (by decide) rfl (fun ls hl => ?_)
  refine lv_aload_n hx hb dX5_isOpen_23 rfl (lv_at hl 2 rfl) ?_
  obtain ⟨u39, u40, u41, u42, u43, u44, hP, hf⟩ := o_ms (i := i) (q := o) hM (by omega)
  refine va_calli (va_runV (As := []) (rest := []) ⟨hx, hb, hml, hown, hts⟩ (rm_many l dC dI kA eD b g9 o i (by omega)) (cwV 0 hts gX5_isOpen_X5_many rfl rfl rfl (by decide +kernel) ⟨Nat.le_of_ble_eq_true rfl, Nat.le_of_ble_eq_true rfl⟩) ⟨fb_CX, va_recv hK hP (ci := 9) (q0 := 0) rfl rfl, fun U hU hW => ⟨rfl, CX.give hb0 hM hK hG hE hS hU hW⟩⟩ rfl rfl hl.1 rfl (lv_room (Nat.le_of_ble_eq_true rfl)) dX5_isOpen_24 ⟨(Nat.le_of_ble_eq_true rfl), (Nat.le_of_ble_eq_true rfl)⟩) hS (fun q _ h => h) (fun q h => h) (fun r45 u t H locs ht hvm hw46 hB hz1 hk1 hS => ?_)
  have hM := hB.back ht
  have hG := hB.2.2.2.1
  obtain ⟨q47, hq48, rfl⟩ := hw46
  have jn50 : ∀ (x49 : Int32) (H : Heap) (locs : List Loc) (ls : Array Slot), (x49 = 0 ∨ x49 = 1) → TM (dC, dI) kA b g9 H → va_S (fun q => b ≤ q) s.heap H locs → lv_has ls 8 [(4, .int r37), (3, .ref r7), (0, .ref o), (1, .int co), (2, .int pe)] → W p l e (headSpec wsX5_isOpen ({ frames := 5, cells := 7, slots := 54, locals := 117 })).room s m args below meth c H locs 7 54 Q (F0 m 35 ls [.int x49]) := by
    intro x49 H locs ls hj51 hM hS hl
    refine lv_istore (lv' := [(5, .int x49), (4, .int r37), (3, .ref r7), (0, .ref o), (1, .int co), (2, .int pe)]) hx hb dX5_isOpen_35 hl (by decide) rfl (fun ls hl => ?_)
    refine lv_iconst (v := 0) hx hb dX5_isOpen_37 (by decide) ?_
    refine lv_istore (lv' := [(6, .int 0), (5, .int x49), (4, .int r37), (3, .ref r7), (0, .ref o), (1, .int co), (2, .int pe)]) hx hb dX5_isOpen_38 hl (by decide) rfl (fun ls hl => ?_)
    have lp54 : ∀ (n55 j52 : Nat) (x53 : Int32), 0 ≤ j52 → j52 ≤ 6 → 6 < j52 + n55 → ∀ (H : Heap) (locs : List Loc) (ls : Array Slot), (x53 = 0 ∨ x53 = 1) → TM (dC, dI) kA b g9 H → va_S (fun q => b ≤ q) s.heap H locs → lv_has ls 8 [(6, .int (nI j52)), (5, .int x53), (4, .int r37), (3, .ref r7), (0, .ref o), (1, .int co), (2, .int pe)] → W p l e (headSpec wsX5_isOpen ({ frames := 5, cells := 7, slots := 54, locals := 117 })).room s m args below meth c H locs 7 54 Q (F0 m 40 ls []) := by
      intro n55
      induction n55 with
      | zero => intro j52 x53 h0 h1 h2; omega
      | succ n55 ih56 =>
        intro j52 x53 lj52 hj52 hn55 H locs ls hf57 hM hS hl
        refine lv_iload hx hb dX5_isOpen_40 (lv_at hl 0 rfl) ?_
        refine lv_bipush (v := 6) hx hb dX5_isOpen_42 (by decide) ?_
        refine lv_icmp_ge (tgt := 131) hx hb dX5_isOpen_44 (by decide) (fun c58 => ?_) (fun c58 => ?_)
        · skip
          have k59 : 6 ≤ j52 := (nI_leI (a := 6) (b := j52) (by omega) (by omega)).mp c58
          refine lv_iload hx hb dX5_isOpen_131 (lv_at hl 1 rfl) ?_
          subst hQ
          refine W.widen (k := 7) (n := 54) (Nat.le_of_ble_eq_true rfl) (Nat.le_of_ble_eq_true rfl) ?_
          exact W.zret (v := x53) (ty := .boolean) hx hb hr (z01n hf57) (fun t ht hW => ⟨⟨x53, g9, rfl, ⟨hx10, hf57⟩, CX.give hb0 hM hK hG hE hS ht hW⟩, hS.F ht⟩) hS.2.2 dX5_isOpen_133
        · skip
          have k60 : ¬ (6 ≤ j52) := fun z => c58 ((nI_leI (a := 6) (b := j52) (by omega) (by omega)).mpr z)
          refine lv_iconst (v := 0) hx hb dX5_isOpen_47 (by decide) ?_
          refine lv_istore (lv' := [(7, .int 0), (6, .int (nI j52)), (5, .int x53), (4, .int r37), (3, .ref r7), (0, .ref o), (1, .int co), (2, .int pe)]) hx hb dX5_isOpen_48 hl (by decide) rfl (fun ls hl => ?_)
          have lp63 : ∀ (n64 j61 : Nat) (x62 : Int32), 0 ≤ j61 → j61 ≤ 8 → 8 < j61 + n64 → ∀ (H : Heap) (locs : List Loc) (ls : Array Slot), (x62 = 0 ∨ x62 = 1) → TM (dC, dI) kA b g9 H → va_S (fun q => b ≤ q) s.heap H locs → lv_has ls 8 [(7, .int (nI j61)), (6, .int (nI j52)), (5, .int x62), (4, .int r37), (3, .ref r7), (0, .ref o), (1, .int co), (2, .int pe)] → W p l e (headSpec wsX5_isOpen ({ frames := 5, cells := 7, slots := 54, locals := 117 })).room s m args below meth c H locs 7 54 Q (F0 m 50 ls []) := by
            intro n64
            induction n64 with
            | zero => intro j61 x62 h0 h1 h2; omega
            | succ n64 ih65 =>
              intro j61 x62 lj61 hj61 hn64 H locs ls hf66 hM hS hl
              refine lv_iload hx hb dX5_isOpen_50 (lv_at hl 0 rfl) ?_
              refine lv_bipush (v := 8) hx hb dX5_isOpen_52 (by decide) ?_
              refine lv_icmp_ge (tgt := 125) hx hb dX5_isOpen_54 (by decide) (fun c67 => ?_) (fun c67 => ?_)
              · skip
                have k68 : 8 ≤ j61 := (nI_leI (a := 8) (b := j61) (by omega) (by omega)).mp c67
                refine lv_iinc (v := (nI (j52 + 1))) (lv' := [(6, .int (nI (j52 + 1))), (7, .int (nI j61)), (5, .int x62), (4, .int r37), (3, .ref r7), (0, .ref o), (1, .int co), (2, .int pe)]) hx hb dX5_isOpen_125 hl (k := 1) rfl (nI_add j52 1) (by decide) rfl (fun ls hl => ?_)
                refine lv_goto (tgt := 40) hx hb dX5_isOpen_128 (by decide) ?_
                exact ih56 ((j52 + 1)) x62 (by omega) (by omega) (by omega) H _ ls hf66  hM hS (lv_sub hl [0, 2, 3, 4, 5, 6, 7] rfl)
              · skip
                have k69 : ¬ (8 ≤ j61) := fun z => c67 ((nI_leI (a := 8) (b := j61) (by omega) (by omega)).mpr z)
                refine lv_iload hx hb dX5_isOpen_57 (lv_at hl 2 rfl) ?_
                refine lv_aload_n hx hb dX5_isOpen_59 rfl (lv_at hl 5 rfl) ?_
                refine lv_iload hx hb dX5_isOpen_60 (lv_at hl 0 rfl) ?_
                refine lv_iload hx hb dX5_isOpen_62 (lv_at hl 1 rfl) ?_
                obtain ⟨u70, u71, u72, u73, u74, u75, hP, hf⟩ := o_ms (i := i) (q := o) hM (by omega)
                refine va_calli (va_runV (As := [.int (nI j61), .int (nI j52)]) (rest := [.int x62]) ⟨hx, hb, hml, hown, hts⟩ (rm_has l dC dI kA eD b g9 o i (nI j61) (nI j52) (by omega)) (cwV 2 hts gX5_isOpen_X5_has rfl rfl rfl (by decide +kernel) ⟨Nat.le_of_ble_eq_true rfl, Nat.le_of_ble_eq_true rfl⟩) ⟨fb_CX, va_recv hK hP (ci := 9) (q0 := 0) rfl rfl, fun U hU hW => ⟨rfl, CX.give hb0 hM hK hG hE hS hU hW⟩⟩ rfl rfl hl.1 rfl (lv_room (Nat.le_of_ble_eq_true rfl)) dX5_isOpen_64 ⟨(Nat.le_of_ble_eq_true rfl), (Nat.le_of_ble_eq_true rfl)⟩) hS (fun q _ h => h) (fun q h => h) (fun r76 u t H locs ht hvm hw77 hB hz1 hk1 hS => ?_)
                have hM := hB.back ht
                have hG := hB.2.2.2.1
                have jn79 : ∀ (x78 : Int32) (H : Heap) (locs : List Loc) (ls : Array Slot), (x78 = 0 ∨ x78 = 1) → TM (dC, dI) kA b g9 H → va_S (fun q => b ≤ q) s.heap H locs → lv_has ls 8 [(7, .int (nI j61)), (6, .int (nI j52)), (5, .int x62), (4, .int r37), (3, .ref r7), (0, .ref o), (1, .int co), (2, .int pe)] → W p l e (headSpec wsX5_isOpen ({ frames := 5, cells := 7, slots := 54, locals := 117 })).room s m args below meth c H locs 7 54 Q (F0 m 116 ls [.int x78, .int x62]) := by
                  intro x78 H locs ls hj80 hM hS hl
                  refine lv_iand hx hb dX5_isOpen_116 ?_
                  refine lv_topi (fun v81 e82 => ?_)
                  have hb83 : v81 = 0 ∨ v81 = 1 := by rw [e82]; exact and01 hf66 hj80
                  refine lv_istore (lv' := [(5, .int v81), (7, .int (nI j61)), (6, .int (nI j52)), (4, .int r37), (3, .ref r7), (0, .ref o), (1, .int co), (2, .int pe)]) hx hb dX5_isOpen_117 hl (by decide) rfl (fun ls hl => ?_)
                  refine lv_iinc (v := (nI (j61 + 1))) (lv' := [(7, .int (nI (j61 + 1))), (5, .int v81), (6, .int (nI j52)), (4, .int r37), (3, .ref r7), (0, .ref o), (1, .int co), (2, .int pe)]) hx hb dX5_isOpen_119 hl (k := 1) rfl (nI_add j61 1) (by decide) rfl (fun ls hl => ?_)
                  refine lv_goto (tgt := 50) hx hb dX5_isOpen_122 (by decide) ?_
                  exact ih65 ((j61 + 1)) v81 (by omega) (by omega) (by omega) H _ ls hb83  hM hS (lv_sub hl [0, 2, 1, 3, 4, 5, 6, 7] rfl)
                refine lv_if_eq (tgt := 111) hx hb dX5_isOpen_67 (by decide) (fun c84 => ?_) (fun c84 => ?_)
                · skip
                  refine lv_iconst (v := 1) hx hb dX5_isOpen_111 (by decide) ?_
                  refine lv_goto (tgt := 116) hx hb dX5_isOpen_112 (by decide) ?_
                  exact jn79 1 H _ ls (Or.inr rfl) hM hS (lv_sub hl [0, 1, 2, 3, 4, 5, 6, 7] rfl)
                · skip
                  obtain ⟨-, jx85, jy86, cl87, hp88, hp89, hj90, hj91, hc92⟩ := hw77.resolve_left c84
                  have ej93 : jx85 = j61 := ((nI_eq (a := j61) (b := jx85) (by omega) (by omega)).mp hp88).symm
                  rw [ej93] at hc92
                  have ej94 : jy86 = j52 := ((nI_eq (a := j52) (b := jy86) (by omega) (by omega)).mp hp89).symm
                  rw [ej94] at hc92
                  refine lv_aload_n hx hb dX5_isOpen_70 rfl (lv_at hl 5 rfl) ?_
                  obtain ⟨u95, u96, u97, u98, u99, u100, hP, hf⟩ := o_ms (i := i) (q := o) hM (by omega)
                  refine va_get (D := (dC, dI)) (ci := 9) (v := .ref (pF g9 o 0)) (C := RX5) (T := TX5) (N := 10) hx hb hts (by decide +kernel) hown hK hP 0 rfl rfl 0 (by decide) (hts (.fieldLink RX5 17 "SnowpalaceModel$Site" "cells" "[[LSnowpalaceModel$Cell;") (by decide +kernel)) (fun _ h9 => h9) rfl dX5_isOpen_71 ?_
                  have ht101 : tg g9 (pF g9 o 0) = 29 + 64 * i := hf.1
                  refine lv_iload hx hb dX5_isOpen_74 (lv_at hl 1 rfl) ?_
                  obtain ⟨hP, hf⟩ := o_co (i := i) (q := (pF g9 o 0)) hM (by omega)
                  have ec : ((nI j52) : Int32).toNatClampNeg = j52 := nI_clamp (by omega)
                  refine rt_aldA (D := (dC, dI)) (t0 := 9) hx hb hK hP rfl (vp_in_nI (by omega) (by decide)) (y := (pF g9 (pF g9 o 0) j52)) ((congrArg (fun z => if z < 6 then some (pF g9 (pF g9 o 0) z) else none) ec).trans (if_pos (by omega))) dX5_isOpen_76 ?_
                  have ht102 : tg g9 (pF g9 (pF g9 o 0) j52) = 30 + 64 * (8 * i + j52) := (hf j52 (by omega))
                  refine lv_iload hx hb dX5_isOpen_77 (lv_at hl 0 rfl) ?_
                  obtain ⟨hP, hf⟩ := o_cr (i := (8 * i + j52)) (q := (pF g9 (pF g9 o 0) j52)) hM (by omega)
                  refine va_aldq (D := (dC, dI)) hx hb hK hP 0 8 rfl rfl (vp_in_nI (by omega) (by decide)) dX5_isOpen_79 ?_
                  have ec : ((nI j61) : Int32).toNatClampNeg = j61 := nI_clamp (by omega)
                  rw [ec]
                  have hq103 := hf j61 (by omega)
                  rw [hc92]
                  have ht104 : tg g9 cl87 = 31 := hq103 cl87 hc92
                  obtain ⟨u105, u106, u107, u108, u109, hP, hf⟩ := o_ce (i := 0) (q := cl87) hM (by omega)
                  refine va_getN (D := (dC, dI)) (ci := 8) (v := .int u108) (C := RX4) (T := TX4) (N := 5) hx hb hts (by decide +kernel) hown hK hP 0 rfl rfl 3 (by decide) (hN (.fieldLinkNest RX5 120 "SnowpalaceModel$Cell" "creep" "I" RX6) (by decide +kernel)) (fun _ h9 => h9) rfl dX5_isOpen_80 ?_
                  refine lv_sipush (v := 200) hx hb dX5_isOpen_83 (by decide) ?_
                  have jn110 : ∀  (H : Heap) (locs : List Loc) (ls : Array Slot), TM (dC, dI) kA b g9 H → va_S (fun q => b ≤ q) s.heap H locs → lv_has ls 8 [(7, .int (nI j61)), (6, .int (nI j52)), (5, .int x62), (4, .int r37), (3, .ref r7), (0, .ref o), (1, .int co), (2, .int pe)] → W p l e (headSpec wsX5_isOpen ({ frames := 5, cells := 7, slots := 54, locals := 117 })).room s m args below meth c H locs 7 54 Q (F0 m 115 ls [.int x62]) := by
                    intro H locs ls hM hS hl
                    refine lv_iconst (v := 0) hx hb dX5_isOpen_115 (by decide) ?_
                    exact jn79 0 H _ ls (Or.inl rfl) hM hS (lv_sub hl [0, 1, 2, 3, 4, 5, 6, 7] rfl)
                  refine lv_icmp_ge (tgt := 115) hx hb dX5_isOpen_86 (by decide) (fun c111 => ?_) (fun c111 => ?_)
                  · skip
                    have i112 := (Int32.le_iff_toInt_le).mp c111
                    have ii112 : (200 : Int32).toInt = 200 := by decide
                    have i112 := i112
                    exact jn110 H _ ls hM hS (lv_sub hl [0, 1, 2, 3, 4, 5, 6, 7] rfl)
                  · skip
                    have i113 := fun z => c111 ((Int32.le_iff_toInt_le).mpr z)
                    have ii113 : (200 : Int32).toInt = 200 := by decide
                    have i113 : ¬ ((200 : Int32).toInt ≤ (u108 : Int32).toInt) := i113
                    refine lv_iconst (v := 2) hx hb dX5_isOpen_89 (by decide) ?_
                    refine lv_aload_n hx hb dX5_isOpen_90 rfl (lv_at hl 4 rfl) ?_
                    refine lv_iload hx hb dX5_isOpen_91 (lv_at hl 1 rfl) ?_
                    obtain ⟨hP, hf⟩ := o_lt (i := 0) (q := r7) hM (by omega)
                    have ec : ((nI j52) : Int32).toNatClampNeg = j52 := nI_clamp (by omega)
                    refine rt_aldA (D := (dC, dI)) (t0 := 6) hx hb hK hP rfl (vp_in_nI (by omega) (by decide)) (y := (pF g9 r7 j52)) ((congrArg (fun z => if z < 6 then some (pF g9 r7 z) else none) ec).trans (if_pos (by omega))) dX5_isOpen_93 ?_
                    have ht114 : tg g9 (pF g9 r7 j52) = 37 := hf j52 (by omega)
                    refine lv_iload hx hb dX5_isOpen_94 (lv_at hl 0 rfl) ?_
                    obtain ⟨u115, hP, hf⟩ := o_lr (i := 0) (q := (pF g9 r7 j52)) hM (by omega)
                    refine va_iald (D := (dC, dI)) hx hb hK hP 0 0 rfl rfl (vp_in_nI (by omega) (by decide)) dX5_isOpen_96 ?_
                    refine lv_topi (fun v116 e117 => ?_)
                    have ec : ((nI j61) : Int32).toNatClampNeg = j61 := nI_clamp (by omega)
                    rw [ec] at e117
                    refine lv_imul hx hb dX5_isOpen_97 ?_
                    refine lv_topi (fun v118 e119 => ?_)
                    refine lv_aload_n hx hb dX5_isOpen_98 rfl (lv_at hl 5 rfl) ?_
                    refine lv_iload hx hb dX5_isOpen_99 (lv_at hl 0 rfl) ?_
                    refine lv_iload hx hb dX5_isOpen_101 (lv_at hl 1 rfl) ?_
                    refine lv_iload hx hb dX5_isOpen_103 (lv_at hl 3 rfl) ?_
                    obtain ⟨u120, u121, u122, u123, u124, u125, hP, hf⟩ := o_ms (i := i) (q := o) hM (by omega)
                    refine va_calli (va_runV (As := [.int (nI j61), .int (nI j52), .int r37]) (rest := [.int v118, .int x62]) ⟨hx, hb, hml, hown, hts⟩ (rm_strength l dC dI kA eD b g9 o i j61 j52 cl87 r37 (by omega) (by omega) (by omega) hc92) (cwV 3 hts gX5_isOpen_X5_strength rfl rfl rfl (by decide +kernel) ⟨Nat.le_of_ble_eq_true rfl, Nat.le_of_ble_eq_true rfl⟩) ⟨fb_CX, va_recv hK hP (ci := 9) (q0 := 0) rfl rfl, fun U hU hW => ⟨rfl, CX.give hb0 hM hK hG hE hS hU hW⟩⟩ rfl rfl hl.1 rfl (lv_room (Nat.le_of_ble_eq_true rfl)) dX5_isOpen_105 ⟨(Nat.le_of_ble_eq_true rfl), (Nat.le_of_ble_eq_true rfl)⟩) hS (fun q _ h => h) (fun q h => h) (fun r126 u t H locs ht hvm hw127 hB hz1 hk1 hS => ?_)
                    have hM := hB.back ht
                    have hG := hB.2.2.2.1
                    refine lv_icmp_gt (tgt := 115) hx hb dX5_isOpen_108 (by decide) (fun c128 => ?_) (fun c128 => ?_)
                    · skip
                      have i129 := (Int32.lt_iff_toInt_lt).mp c128
                      have i129 := i129
                      exact jn110 H _ ls hM hS (lv_sub hl [0, 1, 2, 3, 4, 5, 6, 7] rfl)
                    · skip
                      have i130 := fun z => c128 ((Int32.lt_iff_toInt_lt).mpr z)
                      have i130 : ¬ ((r126 : Int32).toInt < (v118 : Int32).toInt) := i130
                      refine lv_iconst (v := 1) hx hb dX5_isOpen_111 (by decide) ?_
                      refine lv_goto (tgt := 116) hx hb dX5_isOpen_112 (by decide) ?_
                      exact jn79 1 H _ ls (Or.inr rfl) hM hS (lv_sub hl [0, 1, 2, 3, 4, 5, 6, 7] rfl)
          exact lp63 (8 + 1) 0 x53 (by omega) (by omega) (by omega) H _ ls hf57 hM hS (lv_sub hl [0, 1, 2, 3, 4, 5, 6, 7] rfl)
    exact lp54 (6 + 1) 0 x49 (by omega) (by omega) (by omega) H _ ls hj51 hM hS (lv_sub hl [0, 1, 2, 3, 4, 5, 6] rfl)
  refine lv_if_le (tgt := 34) hx hb dX5_isOpen_27 (by decide) (fun c131 => ?_) (fun c131 => ?_)
  · skip
    have k132 : q47 ≤ 0 := (nI_leI (a := q47) (b := 0) (by omega) (by omega)).mp c131
    refine lv_iconst (v := 0) hx hb dX5_isOpen_34 (by decide) ?_
    exact jn50 0 H _ ls (Or.inl rfl) hM hS (lv_sub hl [0, 1, 2, 3, 4] rfl)
  · skip
    have k133 : ¬ (q47 ≤ 0) := fun z => c131 ((nI_leI (a := q47) (b := 0) (by omega) (by omega)).mpr z)
    refine lv_iconst (v := 1) hx hb dX5_isOpen_30 (by decide) ?_
    refine lv_goto (tgt := 35) hx hb dX5_isOpen_31 (by decide) ?_
    exact jn50 1 H _ ls (Or.inr rfl) hM hS (lv_sub hl [0, 1, 2, 3, 4] rfl)
