set_option maxHeartbeats 4000000 in
set_option maxRecDepth 100000 in
theorem m_go (l : Launch) (dC : Nat → ClassId) (dI : Nat → Nat → Nat) (sz : Nat) (b : Nat → Nat) (cI c2 : ClassId) (dg : Nat → Option Nat) (Ld : List Nat) (hDG : ∀ i, i < 21 → ∃ y, dg i = some y ∧ y ∈ Ld) (eD : Nat) (p0 : Int32)  : Met l yX6_go wsX6_go ({ frames := 3, cells := 48, slots := 192, locals := 53 }) (va_Pc [.ref (b 0), .int p0] (PM dC dI ([((b 0), .inr (10, [.int 0, .ref (b 1), .int 0, .int 0, .ref (b 2), .ref (b 3), .ref (b 4), .ref (b 5), .int 0, .int 0, .ref (b 6)])), ((b 1), .inl (c2, 21, .inr (.inr (.inr (.inr dg))))), ((b 2), .inl (cI, 4, .inl (fun _ => 0))), ((b 3), .inl (cI, 4, .inl (fun _ => 0))), ((b 6), .inr (3, [.int 0, .ref eD, .int 0]))] ++ va_pl Ld (fun _ => .inl (cI, 4, .inl wRow))) [(cI, .int), (c2, .array .int)] sz)) (va_Qi (fun (r : Int32) (u : Int32 × List Value) => ((1 ≤ p0.toInt ∧ p0.toInt ≤ 48) ∧ u.1 = 0 ∧ r = p0) ∨ (¬ (1 ≤ p0.toInt ∧ p0.toInt ≤ 48) ∧ u.1 = 1)) (fun (u : Int32 × List Value) t => BW dC dI (va_A ([((b 0), .inr (10, [.int 0, .ref (b 1), .int 0, .int 0, .ref (b 2), .ref (b 3), .ref (b 4), .ref (b 5), .int 0, .int 0, .ref (b 6)])), ((b 1), .inl (c2, 21, .inr (.inr (.inr (.inr dg))))), ((b 2), .inl (cI, 4, .inl (fun _ => 0))), ((b 3), .inl (cI, 4, .inl (fun _ => 0))), ((b 6), .inr (3, [.int 0, .ref eD, .int 0]))] ++ va_pl Ld (fun _ => .inl (cI, 4, .inl wRow))) sz) [((b 0), .inr (10, .int u.1 :: u.2))] [] t) (va_A ([((b 0), .inr (10, [.int 0, .ref (b 1), .int 0, .int 0, .ref (b 2), .ref (b 3), .ref (b 4), .ref (b 5), .int 0, .int 0, .ref (b 6)])), ((b 1), .inl (c2, 21, .inr (.inr (.inr (.inr dg))))), ((b 2), .inl (cI, 4, .inl (fun _ => 0))), ((b 3), .inl (cI, 4, .inl (fun _ => 0))), ((b 6), .inr (3, [.int 0, .ref eD, .int 0]))] ++ va_pl Ld (fun _ => .inl (cI, 4, .inl wRow))) sz)) 48 192 (va_A ([((b 0), .inr (10, [.int 0, .ref (b 1), .int 0, .int 0, .ref (b 2), .ref (b 3), .ref (b 4), .ref (b 5), .int 0, .int 0, .ref (b 6)])), ((b 1), .inl (c2, 21, .inr (.inr (.inr (.inr dg))))), ((b 2), .inl (cI, 4, .inl (fun _ => 0))), ((b 3), .inl (cI, 4, .inl (fun _ => 0))), ((b 6), .inr (3, [.int 0, .ref eD, .int 0]))] ++ va_pl Ld (fun _ => .inl (cI, 4, .inl wRow))) sz) := by
  refine Met.ofW (cc := cX6_go) (maxL := 6) (ret := (some .int)) (by decide +kernel) rfl ?_
  intro p e s m args below meth c s₁ B hml hv
  obtain ⟨rfl, ⟨hsz, hP, hK, hD0⟩, hM⟩ := hv
  have hx := B.exec
  have hb := B.bytes
  have hr := B.returns
  have hts := atoms_spec (ws := wsX6_go) B.pre
  have hown : s.vm.findClass RX6 = some m.cls := findClass_of_methodNamed B.named
  have hlocks := B.notSynchronized
  subst hsz
  have hD := hD0.self (sz := s.heap.size)
  generalize hAe : va_A ([((b 0), .inr (10, [.int 0, .ref (b 1), .int 0, .int 0, .ref (b 2), .ref (b 3), .ref (b 4), .ref (b 5), .int 0, .int 0, .ref (b 6)])), ((b 1), .inl (c2, 21, .inr (.inr (.inr (.inr dg))))), ((b 2), .inl (cI, 4, .inl (fun _ => 0))), ((b 3), .inl (cI, 4, .inl (fun _ => 0))), ((b 6), .inr (3, [.int 0, .ref eD, .int 0]))] ++ va_pl Ld (fun _ => .inl (cI, 4, .inl wRow))) s.heap.size = A at hD ⊢
  have hA : ∀ q : Nat, s.heap.size ≤ q → A q := fun q h => by rw [← hAe]; exact Or.inr h
  have hS : va_S A s.heap s.heap [] := va_S.rf
  have hl := lv_entry ([.ref (b 0), .int p0]) (n := 6) (Nat.le_of_ble_eq_true rfl)
  rw [lg_entry_eq]
  generalize (lg_sl ([.ref (b 0), .int p0]) ++ List.replicate (6 - (lg_sl ([.ref (b 0), .int p0])).length) Slot.unset).toArray = ls at hl ⊢
  have hl : lv_has ls 6 [(0, .ref (b 0)), (1, .int p0)] := hl
  have hN : NS s := hM.2.2.2.2.2.2
  refine lv_aload_n hx hb dX6_go_0 rfl (lv_at hl 0 rfl) ?_
  refine lv_iload_n hx hb dX6_go_1 rfl (lv_at hl 1 rfl) ?_
  refine lv_i2l hx hb dX6_go_2 rfl ?_
  refine lv_lconst (v := 1) hx hb dX6_go_3 (by decide) ?_
  refine lv_ldc2 hx hb hown (hts (.constantLong RX6 103 48) (by decide +kernel)) dX6_go_4 ?_
  refine va_calli (va_runS (As := [.long p0.toInt64, .long 1, .long 48]) (rest := [.ref (b 0)]) ⟨hx, hb, hml, hown, hts⟩ (m_isBetween l p0.toInt64 1 48 (p0.toInt) (1) (48) (Int32.toInt_toInt64 _) (by decide) (by decide)) (va_cwS 3 hts gX6_go_X6_isBetween rfl rfl rfl (by decide +kernel) ⟨Nat.le_of_ble_eq_true rfl, Nat.le_of_ble_eq_true rfl⟩) ⟨fun a U g mk q => q, fun U hU hW => ⟨rfl, trivial⟩⟩ rfl rfl hl.1 rfl (lv_room (Nat.le_of_ble_eq_true rfl)) dX6_go_7 ⟨(Nat.le_of_ble_eq_true rfl), (Nat.le_of_ble_eq_true rfl)⟩) hS (fun q _ h => h.elim) (fun q h => h.elim) (fun r1 u t H locs ht hvm hw2 hB hz1 hk1 hS => ?_)
  have hP := kp_P hP hk1
  have hP : va_P (dC, dI) vwCl (([((b 0), .inr (10, [.int 0, .ref (b 1), .int 0, .int 0, .ref (b 2), .ref (b 3), .ref (b 4), .ref (b 5), .int 0, .int 0, .ref (b 6)])), ((b 1), .inl (c2, 21, .inr (.inr (.inr (.inr dg))))), ((b 2), .inl (cI, 4, .inl (fun _ => 0))), ((b 3), .inl (cI, 4, .inl (fun _ => 0))), ((b 6), .inr (3, [.int 0, .ref eD, .int 0]))]) ++ va_pl Ld (fun _ => .inl (cI, 4, .inl wRow))) H := hP
  have hD : va_D A (([((b 0), .inr (10, [.int 0, .ref (b 1), .int 0, .int 0, .ref (b 2), .ref (b 3), .ref (b 4), .ref (b 5), .int 0, .int 0, .ref (b 6)])), ((b 1), .inl (c2, 21, .inr (.inr (.inr (.inr dg))))), ((b 2), .inl (cI, 4, .inl (fun _ => 0))), ((b 3), .inl (cI, 4, .inl (fun _ => 0))), ((b 6), .inr (3, [.int 0, .ref eD, .int 0]))]) ++ va_pl Ld (fun _ => .inl (cI, 4, .inl wRow))) := hD
  have hw2 : r1 = bI ((1 : Int) ≤ p0.toInt ∧ p0.toInt ≤ (48 : Int)) := hw2
  refine lv_if_ne (tgt := 17) hx hb dX6_go_10 (by decide) (fun c3 => ?_) (fun c3 => ?_)
  · skip
    have g4 : (1 : Int) ≤ p0.toInt ∧ p0.toInt ≤ (48 : Int) := bI_t hw2 c3
    have zg4 : r1 = 1 := bI_t1 hw2 g4
    refine lv_aload_n hx hb dX6_go_17 rfl (lv_at hl 0 rfl) ?_
    refine va_get (D := (dC, dI)) (ci := 10) (v := .int 0) (C := RX6) (T := TX6) (N := 11) hx hb hts (by decide +kernel) hown hK hP 0 rfl rfl 2 (by decide) (hts (.fieldLink RX6 58 "SnowpalaceModel" "hour" "I") (by decide +kernel)) (fun _ h9 => h9) rfl dX6_go_18 ?_
    refine lv_iload_n hx hb dX6_go_21 rfl (lv_at hl 1 rfl) ?_
    refine lv_iadd hx hb dX6_go_22 ?_
    refine lv_topi (fun v5 e6 => ?_)
    refine lv_sipush (v := 504) hx hb dX6_go_23 (by decide) ?_
    refine lv_icmp_le (tgt := 33) hx hb dX6_go_26 (by decide) (fun c7 => ?_) (fun c7 => ?_)
    · skip
      refine lv_iconst (v := 0) hx hb dX6_go_33 (by decide) ?_
      have hFc := va_free (wc := [((b 0), .inr (10, [.int 0, .ref (b 1), .int 0, .int 0, .ref (b 2), .ref (b 3), .ref (b 4), .ref (b 5), .int 0, .int 0, .ref (b 6)]))]) hD hS hA [0] rfl
      refine va_calli (va_runV (As := [.int 0]) (rest := []) ⟨hx, hb, hml, hown, hts⟩ (m_isWrong l dC dI _ (b 0) 0 [.ref (b 1), .int 0, .int 0, .ref (b 2), .ref (b 3), .ref (b 4), .ref (b 5), .int 0, .int 0, .ref (b 6)] 0) (cwV 1 hts gX6_go_X6_isWrong rfl rfl rfl (by decide +kernel) ⟨Nat.le_of_ble_eq_true rfl, Nat.le_of_ble_eq_true rfl⟩) ⟨fb_PW, va_recv hK hP (ci := 10) (q0 := 0) rfl rfl, fun U hU hW => ⟨rfl, PW.give hP hK hD [0] [] rfl rfl rfl rfl hU hW⟩⟩ rfl rfl hl.1 rfl (lv_room (Nat.le_of_ble_eq_true rfl)) dX6_go_34 ⟨(Nat.le_of_ble_eq_true rfl), (Nat.le_of_ble_eq_true rfl)⟩) hS (fun q _ h => hFc q h) hFc (fun r8 u t H locs ht hvm hw9 hB hz1 hk1 hS => ?_)
      obtain ⟨hP, hD, hK⟩ := aftQ [0] [1, 2, 3, 4] hP hK hD rfl (wr := [((b 1), .inl (c2, 21, .inr (.inr (.inr (.inr dg))))), ((b 2), .inl (cI, 4, .inl (fun _ => 0))), ((b 3), .inl (cI, 4, .inl (fun _ => 0))), ((b 6), .inr (3, [.int 0, .ref eD, .int 0]))]) rfl rfl (by decide) hFc hB ht hvm hk1
      have hP : va_P (dC, dI) vwCl (([((b 1), .inl (c2, 21, .inr (.inr (.inr (.inr dg))))), ((b 2), .inl (cI, 4, .inl (fun _ => 0))), ((b 3), .inl (cI, 4, .inl (fun _ => 0))), ((b 6), .inr (3, [.int 0, .ref eD, .int 0])), ((b 0), .inr (10, [.int 0, .ref (b 1), .int 0, .int 0, .ref (b 2), .ref (b 3), .ref (b 4), .ref (b 5), .int 0, .int 0, .ref (b 6)]))]) ++ va_pl Ld (fun _ => .inl (cI, 4, .inl wRow))) H := hP
      have hD : va_D A (([((b 1), .inl (c2, 21, .inr (.inr (.inr (.inr dg))))), ((b 2), .inl (cI, 4, .inl (fun _ => 0))), ((b 3), .inl (cI, 4, .inl (fun _ => 0))), ((b 6), .inr (3, [.int 0, .ref eD, .int 0])), ((b 0), .inr (10, [.int 0, .ref (b 1), .int 0, .int 0, .ref (b 2), .ref (b 3), .ref (b 4), .ref (b 5), .int 0, .int 0, .ref (b 6)]))]) ++ va_pl Ld (fun _ => .inl (cI, 4, .inl wRow))) := hD
      have hK : va_K (dC, dI) vwCl [(cI, .int), (c2, .array .int)] s := hK
      have hw9 : r8 = bI (0 < 0) := hw9
      obtain rfl : r8 = 0 := hw9.trans (by decide)
      refine lv_if_eq (tgt := 42) hx hb dX6_go_37 (by decide) (fun _ => ?_) (fun cx => by first | exact absurd (by decide) cx | exact absurd cx (by decide))
      refine lv_iconst (v := 0) hx hb dX6_go_42 (by decide) ?_
      refine lv_istore_n (lv' := [(2, .int 0), (0, .ref (b 0)), (1, .int p0)]) hx hb dX6_go_43 rfl hl (by decide) rfl (fun ls hl => ?_)
      obtain ⟨k, hk, hkk⟩ := toN (p := p0) (k := 48) (by omega) (by omega) (by decide)
      subst hkk
      have hloop10 : ∀ (Q : State → Prop), (∀ (fi : Nat → Int32) (fc : Nat → Int32) (H : Heap) (locs : List Loc) (ls : Array Slot), (∀ j, j < 4 → (0 : Int) ≤ (fi j).toInt ∧ (fi j).toInt ≤ 2000) → va_P (dC, dI) vwCl ([((b 0), .inr (10, [.int 0, .ref (b 1), .int (nI k), .int 0, .ref (b 2), .ref (b 3), .ref (b 4), .ref (b 5), .int 0, .int 0, .ref (b 6)])), ((b 1), .inl (c2, 21, .inr (.inr (.inr (.inr dg))))), ((b 2), .inl (cI, 4, .inl fi)), ((b 3), .inl (cI, 4, .inl fc)), ((b 6), .inr (3, [.int 0, .ref eD, .int 0]))] ++ va_pl Ld (fun _ => .inl (cI, 4, .inl wRow))) H → va_D A ([((b 0), .inr (10, [.int 0, .ref (b 1), .int (nI k), .int 0, .ref (b 2), .ref (b 3), .ref (b 4), .ref (b 5), .int 0, .int 0, .ref (b 6)])), ((b 1), .inl (c2, 21, .inr (.inr (.inr (.inr dg))))), ((b 2), .inl (cI, 4, .inl fi)), ((b 3), .inl (cI, 4, .inl fc)), ((b 6), .inr (3, [.int 0, .ref eD, .int 0]))] ++ va_pl Ld (fun _ => .inl (cI, 4, .inl wRow))) → va_S A s.heap H locs → lv_has ls 6 [(0, .ref (b 0)), (1, .int (nI k))] → W p l e (headSpec wsX6_go ({ frames := 3, cells := 48, slots := 192, locals := 53 })).room s m ([.ref (b 0), .int (nI k)] : List Value).toArray below meth c H locs (0 + 1 * k) (0 + 4 * k) Q (F0 m 121 ls [])) → ∀ (n i : Nat) (fi : Nat → Int32) (fc : Nat → Int32), i ≤ k → k < i + n → ∀ (H : Heap) (locs : List Loc) (ls : Array Slot), (∀ j, j < 4 → (0 : Int) ≤ (fi j).toInt ∧ (fi j).toInt ≤ 2000) → va_P (dC, dI) vwCl ([((b 0), .inr (10, [.int 0, .ref (b 1), .int (nI i), .int 0, .ref (b 2), .ref (b 3), .ref (b 4), .ref (b 5), .int 0, .int 0, .ref (b 6)])), ((b 1), .inl (c2, 21, .inr (.inr (.inr (.inr dg))))), ((b 2), .inl (cI, 4, .inl fi)), ((b 3), .inl (cI, 4, .inl fc)), ((b 6), .inr (3, [.int 0, .ref eD, .int 0]))] ++ va_pl Ld (fun _ => .inl (cI, 4, .inl wRow))) H → va_D A ([((b 0), .inr (10, [.int 0, .ref (b 1), .int (nI i), .int 0, .ref (b 2), .ref (b 3), .ref (b 4), .ref (b 5), .int 0, .int 0, .ref (b 6)])), ((b 1), .inl (c2, 21, .inr (.inr (.inr (.inr dg))))), ((b 2), .inl (cI, 4, .inl fi)), ((b 3), .inl (cI, 4, .inl fc)), ((b 6), .inr (3, [.int 0, .ref eD, .int 0]))] ++ va_pl Ld (fun _ => .inl (cI, 4, .inl wRow))) → va_S A s.heap H locs → lv_has ls 6 [(2, .int (nI i)), (0, .ref (b 0)), (1, .int (nI k))] → W p l e (headSpec wsX6_go ({ frames := 3, cells := 48, slots := 192, locals := 53 })).room s m ([.ref (b 0), .int (nI k)] : List Value).toArray below meth c H locs (0 + 1 * i) (0 + 4 * i) Q (F0 m 44 ls []) := by
        intro Q hk n
        induction n with
        | zero => intro i fi fc h1 h2; omega
        | succ n ih =>
          intro i fi fc hi hin H locs ls hinv hP hD hS hl
          refine lv_iload_n hx hb dX6_go_44 rfl (lv_at hl 0 rfl) ?_
          refine lv_iload_n hx hb dX6_go_45 rfl (lv_at hl 2 rfl) ?_
          refine lv_icmp_ge (tgt := 121) hx hb dX6_go_46 (by decide) (fun c11 => ?_) (fun c11 => ?_)
          · skip
            have hi4 : i = k := by
              have := (nI_leI (a := k) (b := i) (by omega) (by omega)).mp c11
              omega
            subst hi4
            exact hk fi fc H locs ls hinv hP hD hS (lv_sub hl [1, 2] rfl)
          · skip
            have hlt : i < k := by
              rcases Nat.lt_or_ge i k with q | q
              · exact q
              · exact absurd ((nI_leI (a := k) (b := i) (by omega) (by omega)).mpr q) c11
            refine lv_aload_n hx hb dX6_go_49 rfl (lv_at hl 1 rfl) ?_
            refine lv_aload_n hx hb dX6_go_50 rfl (lv_at hl 1 rfl) ?_
            refine va_get (D := (dC, dI)) (ci := 10) (v := .int (nI i)) (C := RX6) (T := TX6) (N := 11) hx hb hts (by decide +kernel) hown hK hP 0 rfl rfl 2 (by decide) (hts (.fieldLink RX6 58 "SnowpalaceModel" "hour" "I") (by decide +kernel)) (fun _ h9 => h9) rfl dX6_go_51 ?_
            refine va_calli (va_runV (As := [.int (nI i)]) (rest := []) ⟨hx, hb, hml, hown, hts⟩ (m_warmthOf l dC dI _ b cI c2 dg Ld hDG 0 (nI i) i (by omega)) (cwV 1 hts gX6_go_X6_warmthOf rfl rfl rfl (by decide +kernel) ⟨Nat.le_of_ble_eq_true rfl, Nat.le_of_ble_eq_true rfl⟩) ⟨fb_PW, va_recv hK hP (ci := 10) (q0 := 0) rfl rfl, fun U hU hW => ⟨rfl, PW.giveP hP hK hD [0, 1] [0, 1] rfl rfl rfl hU hW⟩⟩ rfl rfl hl.1 rfl (lv_room (Nat.le_of_ble_eq_true rfl)) dX6_go_54 ⟨(by show _ ≤ 48; omega), (by show _ ≤ 192; omega)⟩) hS (fun q _ h => h.elim) (fun q h => h.elim) (fun r12 u t H locs ht hvm hw13 hB hz1 hk1 hS => ?_)
            have hP := kp_P hP hk1
            have hP : va_P (dC, dI) vwCl (([((b 0), .inr (10, [.int 0, .ref (b 1), .int (nI i), .int 0, .ref (b 2), .ref (b 3), .ref (b 4), .ref (b 5), .int 0, .int 0, .ref (b 6)])), ((b 1), .inl (c2, 21, .inr (.inr (.inr (.inr dg))))), ((b 2), .inl (cI, 4, .inl fi)), ((b 3), .inl (cI, 4, .inl fc)), ((b 6), .inr (3, [.int 0, .ref eD, .int 0]))]) ++ va_pl Ld (fun _ => .inl (cI, 4, .inl wRow))) H := hP
            have hD : va_D A (([((b 0), .inr (10, [.int 0, .ref (b 1), .int (nI i), .int 0, .ref (b 2), .ref (b 3), .ref (b 4), .ref (b 5), .int 0, .int 0, .ref (b 6)])), ((b 1), .inl (c2, 21, .inr (.inr (.inr (.inr dg))))), ((b 2), .inl (cI, 4, .inl fi)), ((b 3), .inl (cI, 4, .inl fc)), ((b 6), .inr (3, [.int 0, .ref eD, .int 0]))]) ++ va_pl Ld (fun _ => .inl (cI, 4, .inl wRow))) := hD
            refine lv_istore_n (lv' := [(3, .int r12), (2, .int (nI i)), (0, .ref (b 0)), (1, .int (nI k))]) hx hb dX6_go_57 rfl hl (by decide) rfl (fun ls hl => ?_)
            refine lv_aload_n hx hb dX6_go_58 rfl (lv_at hl 2 rfl) ?_
            refine lv_iload_n hx hb dX6_go_59 rfl (lv_at hl 0 rfl) ?_
            have hFc := va_free (wc := [((b 0), .inr (10, [.int 0, .ref (b 1), .int (nI i), .int 0, .ref (b 2), .ref (b 3), .ref (b 4), .ref (b 5), .int 0, .int 0, .ref (b 6)])), ((b 2), .inl (cI, 4, .inl fi)), ((b 3), .inl (cI, 4, .inl fc))]) hD hS hA [0, 2, 3] rfl
            refine va_callv (va_runV (As := [.int r12]) (rest := []) ⟨hx, hb, hml, hown, hts⟩ (m_freezes l dC dI _ b cI 0 (nI i) fi fc r12 (by rw [show r12 = _ from hw13]; exact w0_lo (by omega)) hinv) (cwV 1 hts gX6_go_X6_freezes rfl rfl rfl (by decide +kernel) ⟨Nat.le_of_ble_eq_true rfl, Nat.le_of_ble_eq_true rfl⟩) ⟨fb_PW, va_recv hK hP (ci := 10) (q0 := 0) rfl rfl, fun U hU hW => ⟨rfl, PW.give hP hK hD [0, 2, 3] [0] rfl rfl rfl rfl hU hW⟩⟩ rfl rfl hl.1 rfl (lv_room (Nat.le_of_ble_eq_true rfl)) dX6_go_60 ⟨(by show _ ≤ 48; omega), (by show _ ≤ 192; omega)⟩) hS (fun q _ h => hFc q h) hFc (fun u t H locs ht hvm hw15 hB hz1 hk1 hS => ?_)
            obtain ⟨fi16, fc17⟩ := u
            have hfr18 : ∀ j, j < 4 → (0 : Int) ≤ (fi16 j).toInt ∧ (fi16 j).toInt ≤ 2000 := hw15
            obtain ⟨hP, hD, hK⟩ := aftQ [0, 2, 3] [1, 4] hP hK hD rfl (wr := [((b 1), .inl (c2, 21, .inr (.inr (.inr (.inr dg))))), ((b 6), .inr (3, [.int 0, .ref eD, .int 0]))]) rfl rfl (by decide) hFc hB ht hvm hk1
            have hP : va_P (dC, dI) vwCl (([((b 1), .inl (c2, 21, .inr (.inr (.inr (.inr dg))))), ((b 6), .inr (3, [.int 0, .ref eD, .int 0])), ((b 0), .inr (10, [.int 0, .ref (b 1), .int (nI i), .int 0, .ref (b 2), .ref (b 3), .ref (b 4), .ref (b 5), .int 0, .int 0, .ref (b 6)])), ((b 2), .inl (cI, 4, .inl fi16)), ((b 3), .inl (cI, 4, .inl fc17))]) ++ va_pl Ld (fun _ => .inl (cI, 4, .inl wRow))) H := hP
            have hD : va_D A (([((b 1), .inl (c2, 21, .inr (.inr (.inr (.inr dg))))), ((b 6), .inr (3, [.int 0, .ref eD, .int 0])), ((b 0), .inr (10, [.int 0, .ref (b 1), .int (nI i), .int 0, .ref (b 2), .ref (b 3), .ref (b 4), .ref (b 5), .int 0, .int 0, .ref (b 6)])), ((b 2), .inl (cI, 4, .inl fi16)), ((b 3), .inl (cI, 4, .inl fc17))]) ++ va_pl Ld (fun _ => .inl (cI, 4, .inl wRow))) := hD
            have hK : va_K (dC, dI) vwCl [(cI, .int), (c2, .array .int)] s := hK.sub [0, 1] rfl
            refine lv_aload_n hx hb dX6_go_63 rfl (lv_at hl 2 rfl) ?_
            refine va_get (D := (dC, dI)) (ci := 10) (v := .ref (b 6)) (C := RX6) (T := TX6) (N := 11) hx hb hts (by decide +kernel) hown hK hP 2 rfl rfl 10 (by decide) (hts (.fieldLink RX6 34 "SnowpalaceModel" "sites" "Ljava/util/List;") (by decide +kernel)) (fun _ h9 => h9) rfl dX6_go_64 ?_
            have hFc := va_free (wc := [((b 6), .inr (3, [.int 0, .ref eD, .int 0]))]) hD hS hA [1] rfl
            refine va_callFr (va_runF (hK.1 3 _ rfl).2 (As := []) (rest := []) ⟨hx, hb, hml, hown, hts⟩ (j_iter l dC dI _ b eD) (va_cwF 0 hts gX6_go_Jx4a65c_iterator_32c93_f109Jx4a65c rfl rfl rfl hM.2.1 (by decide +kernel) ⟨Nat.le_of_ble_eq_true rfl, Nat.le_of_ble_eq_true rfl⟩) ⟨fb_PW, va_recv hK hP (ci := 3) (q0 := 1) rfl rfl, fun U hU hW => ⟨rfl, PW.give hP hK hD [1] [] rfl rfl rfl rfl hU hW⟩⟩ rfl rfl hl.1 rfl (lv_room (Nat.le_of_ble_eq_true rfl)) dX6_go_67 ⟨(by show _ ≤ 48; omega), (by show _ ≤ 192; omega)⟩) hS (fun q _ h => hFc q h) hFc (fun u r19 t H locs ht hvm hw20 hB hz1 hk1 hS => ?_)
            obtain ⟨hP, hD, hK⟩ := aftQ [1] [0, 2, 3, 4] hP hK hD rfl (wr := [((b 1), .inl (c2, 21, .inr (.inr (.inr (.inr dg))))), ((b 0), .inr (10, [.int 0, .ref (b 1), .int (nI i), .int 0, .ref (b 2), .ref (b 3), .ref (b 4), .ref (b 5), .int 0, .int 0, .ref (b 6)])), ((b 2), .inl (cI, 4, .inl fi16)), ((b 3), .inl (cI, 4, .inl fc17))]) rfl rfl (by decide) hFc hB ht hvm hk1
            have hP : va_P (dC, dI) vwCl (([((b 1), .inl (c2, 21, .inr (.inr (.inr (.inr dg))))), ((b 0), .inr (10, [.int 0, .ref (b 1), .int (nI i), .int 0, .ref (b 2), .ref (b 3), .ref (b 4), .ref (b 5), .int 0, .int 0, .ref (b 6)])), ((b 2), .inl (cI, 4, .inl fi16)), ((b 3), .inl (cI, 4, .inl fc17)), (r19, .inr (2, [.int 0, .int (-1), .int 0, .ref (b 6)])), ((b 6), .inr (3, [.int 0, .ref eD, .int 0]))]) ++ va_pl Ld (fun _ => .inl (cI, 4, .inl wRow))) H := hP
            have hD : va_D A (([((b 1), .inl (c2, 21, .inr (.inr (.inr (.inr dg))))), ((b 0), .inr (10, [.int 0, .ref (b 1), .int (nI i), .int 0, .ref (b 2), .ref (b 3), .ref (b 4), .ref (b 5), .int 0, .int 0, .ref (b 6)])), ((b 2), .inl (cI, 4, .inl fi16)), ((b 3), .inl (cI, 4, .inl fc17)), (r19, .inr (2, [.int 0, .int (-1), .int 0, .ref (b 6)])), ((b 6), .inr (3, [.int 0, .ref eD, .int 0]))]) ++ va_pl Ld (fun _ => .inl (cI, 4, .inl wRow))) := hD
            have hK : va_K (dC, dI) vwCl [(cI, .int), (c2, .array .int)] s := hK.sub [0, 1] rfl
            refine lv_astore (lv' := [(4, .ref r19), (3, .int r12), (2, .int (nI i)), (0, .ref (b 0)), (1, .int (nI k))]) hx hb dX6_go_72 hl (by decide) rfl (fun ls hl => ?_)
            refine lv_aload hx hb dX6_go_74 (lv_at hl 0 rfl) ?_
            refine va_callFi (va_runF (hK.1 2 _ rfl).2 (As := []) (rest := []) ⟨hx, hb, hml, hown, hts⟩ (j_hasNext l dC dI _ b eD r19) (va_cwF 0 hts gX6_go_Jx35411_hasNext_aae02_f115Jx35411 rfl rfl rfl hM.2.2.1 (by decide +kernel) ⟨Nat.le_of_ble_eq_true rfl, Nat.le_of_ble_eq_true rfl⟩) ⟨fb_PN, va_recv hK hP (ci := 2) (q0 := 4) rfl rfl, fun U hU hW => ⟨rfl, PN.give hP hK hD hN [4, 5] [] rfl rfl rfl rfl hU hW⟩⟩ rfl rfl hl.1 rfl (lv_room (Nat.le_of_ble_eq_true rfl)) dX6_go_76 ⟨(by show _ ≤ 48; omega), (by show _ ≤ 192; omega)⟩) hS (fun q _ h => h.elim) (fun q h => h.elim) (fun r21 u t H locs ht hvm hw22 hB hz1 hk1 hS => ?_)
            have hP := kp_P hP hk1
            have hP : va_P (dC, dI) vwCl (([((b 1), .inl (c2, 21, .inr (.inr (.inr (.inr dg))))), ((b 0), .inr (10, [.int 0, .ref (b 1), .int (nI i), .int 0, .ref (b 2), .ref (b 3), .ref (b 4), .ref (b 5), .int 0, .int 0, .ref (b 6)])), ((b 2), .inl (cI, 4, .inl fi16)), ((b 3), .inl (cI, 4, .inl fc17)), (r19, .inr (2, [.int 0, .int (-1), .int 0, .ref (b 6)])), ((b 6), .inr (3, [.int 0, .ref eD, .int 0]))]) ++ va_pl Ld (fun _ => .inl (cI, 4, .inl wRow))) H := hP
            have hD : va_D A (([((b 1), .inl (c2, 21, .inr (.inr (.inr (.inr dg))))), ((b 0), .inr (10, [.int 0, .ref (b 1), .int (nI i), .int 0, .ref (b 2), .ref (b 3), .ref (b 4), .ref (b 5), .int 0, .int 0, .ref (b 6)])), ((b 2), .inl (cI, 4, .inl fi16)), ((b 3), .inl (cI, 4, .inl fc17)), (r19, .inr (2, [.int 0, .int (-1), .int 0, .ref (b 6)])), ((b 6), .inr (3, [.int 0, .ref eD, .int 0]))]) ++ va_pl Ld (fun _ => .inl (cI, 4, .inl wRow))) := hD
            obtain rfl : r21 = 0 := hw22
            refine lv_if_eq (tgt := 105) hx hb dX6_go_81 (by decide) (fun _ => ?_) (fun cx => by first | exact absurd (by decide) cx | exact absurd cx (by decide))
            refine lv_aload_n hx hb dX6_go_105 rfl (lv_at hl 3 rfl) ?_
            refine lv_dup hx hb dX6_go_106 rfl ?_
            refine va_get (D := (dC, dI)) (ci := 10) (v := .int (nI i)) (C := RX6) (T := TX6) (N := 11) hx hb hts (by decide +kernel) hown hK hP 1 rfl rfl 2 (by decide) (hts (.fieldLink RX6 58 "SnowpalaceModel" "hour" "I") (by decide +kernel)) (fun _ h9 => h9) rfl dX6_go_107 ?_
            refine lv_iconst (v := 1) hx hb dX6_go_110 (by decide) ?_
            refine lv_iadd hx hb dX6_go_111 ?_
            refine lv_topi (fun v23 e24 => ?_)
            obtain rfl : v23 = (nI (i + 1) : Int32) := e24.trans (nI_1 i)
            refine va_put (D := (dC, dI)) (ci := 10) (v := .int (nI (i + 1))) (ty := .int) (C := RX6) (T := TX6) (N := 11) hx hb hts (by decide +kernel) tyX6 tyX6_ok nmX6 hown hK hP hD hS 1 rfl rfl 2 (by decide) (hts (.fieldLink RX6 58 "SnowpalaceModel" "hour" "I") (by decide +kernel)) (fun _ h9 => h9) rfl (by decide +kernel) rfl rfl (Nat.le_of_ble_eq_true rfl) dX6_go_112 (fun H locs hP hD hS => ?_)
            have hP : va_P (dC, dI) vwCl (([((b 1), .inl (c2, 21, .inr (.inr (.inr (.inr dg))))), ((b 0), .inr (10, [.int 0, .ref (b 1), .int (nI (i + 1)), .int 0, .ref (b 2), .ref (b 3), .ref (b 4), .ref (b 5), .int 0, .int 0, .ref (b 6)])), ((b 2), .inl (cI, 4, .inl fi16)), ((b 3), .inl (cI, 4, .inl fc17)), (r19, .inr (2, [.int 0, .int (-1), .int 0, .ref (b 6)])), ((b 6), .inr (3, [.int 0, .ref eD, .int 0]))]) ++ va_pl Ld (fun _ => .inl (cI, 4, .inl wRow))) H := hP
            have hD : va_D A (([((b 1), .inl (c2, 21, .inr (.inr (.inr (.inr dg))))), ((b 0), .inr (10, [.int 0, .ref (b 1), .int (nI (i + 1)), .int 0, .ref (b 2), .ref (b 3), .ref (b 4), .ref (b 5), .int 0, .int 0, .ref (b 6)])), ((b 2), .inl (cI, 4, .inl fi16)), ((b 3), .inl (cI, 4, .inl fc17)), (r19, .inr (2, [.int 0, .int (-1), .int 0, .ref (b 6)])), ((b 6), .inr (3, [.int 0, .ref eD, .int 0]))]) ++ va_pl Ld (fun _ => .inl (cI, 4, .inl wRow))) := hD
            refine lv_iinc (v := (nI (i + 1))) (lv' := [(2, .int (nI (i + 1))), (4, .ref r19), (3, .int r12), (0, .ref (b 0)), (1, .int (nI k))]) hx hb dX6_go_115 hl (k := 2) rfl (nI_1 i) (by decide) rfl (fun ls hl => ?_)
            refine lv_goto (tgt := 44) hx hb dX6_go_118 (by decide) ?_
            refine W.widen (k := 0 + 1 * (i + 1)) (n := 0 + 4 * (i + 1)) (by omega) (by omega) ?_
            exact ih (i + 1) fi16 fc17 hlt (by omega) H locs ls hfr18 (hP.part [1, 0, 2, 3, 5] rfl) (hD.part [1, 0, 2, 3, 5] (by decide) rfl) hS (lv_sub hl [0, 3, 4] rfl)
      refine hloop10 _ (fun fi fc H locs ls hinv hP hD hS hl => ?_) (k + 1) 0 (fun _ => 0) (fun _ => 0) (Nat.zero_le _) (by omega) _ _ ls (fr_zero) (hP.part [4, 0, 1, 2, 3] rfl) (hD.part [4, 0, 1, 2, 3] (by decide) rfl) hS (lv_sub hl [0, 1, 2] rfl)
      have hP : va_P (dC, dI) vwCl (([((b 0), .inr (10, [.int 0, .ref (b 1), .int (nI k), .int 0, .ref (b 2), .ref (b 3), .ref (b 4), .ref (b 5), .int 0, .int 0, .ref (b 6)])), ((b 1), .inl (c2, 21, .inr (.inr (.inr (.inr dg))))), ((b 2), .inl (cI, 4, .inl fi)), ((b 3), .inl (cI, 4, .inl fc)), ((b 6), .inr (3, [.int 0, .ref eD, .int 0]))]) ++ va_pl Ld (fun _ => .inl (cI, 4, .inl wRow))) H := hP
      have hD : va_D A (([((b 0), .inr (10, [.int 0, .ref (b 1), .int (nI k), .int 0, .ref (b 2), .ref (b 3), .ref (b 4), .ref (b 5), .int 0, .int 0, .ref (b 6)])), ((b 1), .inl (c2, 21, .inr (.inr (.inr (.inr dg))))), ((b 2), .inl (cI, 4, .inl fi)), ((b 3), .inl (cI, 4, .inl fc)), ((b 6), .inr (3, [.int 0, .ref eD, .int 0]))]) ++ va_pl Ld (fun _ => .inl (cI, 4, .inl wRow))) := hD
      refine W.widen (k := 48) (n := 192) (by omega) (by omega) ?_
      refine lv_aload_n hx hb dX6_go_121 rfl (lv_at hl 0 rfl) ?_
      refine va_get (D := (dC, dI)) (ci := 10) (v := .int (nI k)) (C := RX6) (T := TX6) (N := 11) hx hb hts (by decide +kernel) hown hK hP 0 rfl rfl 2 (by decide) (hts (.fieldLink RX6 58 "SnowpalaceModel" "hour" "I") (by decide +kernel)) (fun _ h9 => h9) rfl dX6_go_122 ?_
      refine W.widen (k := 48) (n := 192) (Nat.le_of_ble_eq_true rfl) (Nat.le_of_ble_eq_true rfl) ?_
      exact W.iret (v := (nI k)) hx hb hr (fun t ht hW => ⟨⟨(nI k), (0, [.ref (b 1), .int (nI k), .int 0, .ref (b 2), .ref (b 3), .ref (b 4), .ref (b 5), .int 0, .int 0, .ref (b 6)]), rfl, Or.inl ⟨by omega, rfl, rfl⟩, BW.endP hP hK hD [0] [] rfl rfl rfl ht hW⟩, hS.F ht⟩) hS.2.2 dX6_go_125
    · skip
      exact (c7 (by rw [e6]; exact go504 (by omega))).elim
  · skip
    have g25 : ¬ ((1 : Int) ≤ p0.toInt ∧ p0.toInt ≤ (48 : Int)) := bI_f hw2 c3
    have zg25 : r1 = 0 := bI_f0 hw2 g25
    refine lv_iconst (v := 1) hx hb dX6_go_13 (by decide) ?_
    refine lv_goto (tgt := 34) hx hb dX6_go_14 (by decide) ?_
    have hFc := va_free (wc := [((b 0), .inr (10, [.int 0, .ref (b 1), .int 0, .int 0, .ref (b 2), .ref (b 3), .ref (b 4), .ref (b 5), .int 0, .int 0, .ref (b 6)]))]) hD hS hA [0] rfl
    refine va_calli (va_runV (As := [.int 1]) (rest := []) ⟨hx, hb, hml, hown, hts⟩ (m_isWrong l dC dI _ (b 0) 0 [.ref (b 1), .int 0, .int 0, .ref (b 2), .ref (b 3), .ref (b 4), .ref (b 5), .int 0, .int 0, .ref (b 6)] 1) (cwV 1 hts gX6_go_X6_isWrong rfl rfl rfl (by decide +kernel) ⟨Nat.le_of_ble_eq_true rfl, Nat.le_of_ble_eq_true rfl⟩) ⟨fb_PW, va_recv hK hP (ci := 10) (q0 := 0) rfl rfl, fun U hU hW => ⟨rfl, PW.give hP hK hD [0] [] rfl rfl rfl rfl hU hW⟩⟩ rfl rfl hl.1 rfl (lv_room (Nat.le_of_ble_eq_true rfl)) dX6_go_34 ⟨(Nat.le_of_ble_eq_true rfl), (Nat.le_of_ble_eq_true rfl)⟩) hS (fun q _ h => hFc q h) hFc (fun r26 u t H locs ht hvm hw27 hB hz1 hk1 hS => ?_)
    obtain ⟨hP, hD, hK⟩ := aftQ [0] [1, 2, 3, 4] hP hK hD rfl (wr := [((b 1), .inl (c2, 21, .inr (.inr (.inr (.inr dg))))), ((b 2), .inl (cI, 4, .inl (fun _ => 0))), ((b 3), .inl (cI, 4, .inl (fun _ => 0))), ((b 6), .inr (3, [.int 0, .ref eD, .int 0]))]) rfl rfl (by decide) hFc hB ht hvm hk1
    have hP : va_P (dC, dI) vwCl (([((b 1), .inl (c2, 21, .inr (.inr (.inr (.inr dg))))), ((b 2), .inl (cI, 4, .inl (fun _ => 0))), ((b 3), .inl (cI, 4, .inl (fun _ => 0))), ((b 6), .inr (3, [.int 0, .ref eD, .int 0])), ((b 0), .inr (10, [.int 1, .ref (b 1), .int 0, .int 0, .ref (b 2), .ref (b 3), .ref (b 4), .ref (b 5), .int 0, .int 0, .ref (b 6)]))]) ++ va_pl Ld (fun _ => .inl (cI, 4, .inl wRow))) H := hP
    have hD : va_D A (([((b 1), .inl (c2, 21, .inr (.inr (.inr (.inr dg))))), ((b 2), .inl (cI, 4, .inl (fun _ => 0))), ((b 3), .inl (cI, 4, .inl (fun _ => 0))), ((b 6), .inr (3, [.int 0, .ref eD, .int 0])), ((b 0), .inr (10, [.int 1, .ref (b 1), .int 0, .int 0, .ref (b 2), .ref (b 3), .ref (b 4), .ref (b 5), .int 0, .int 0, .ref (b 6)]))]) ++ va_pl Ld (fun _ => .inl (cI, 4, .inl wRow))) := hD
    have hK : va_K (dC, dI) vwCl [(cI, .int), (c2, .array .int)] s := hK
    have hw27 : r26 = bI (0 < 1) := hw27
    obtain rfl : r26 = 1 := hw27.trans (by decide)
    refine lv_if_eq (tgt := 42) hx hb dX6_go_37 (by decide) (fun cx => by first | exact absurd cx (by decide) | exact absurd (by decide) cx) (fun _ => ?_)
    refine lv_iconst (v := 0) hx hb dX6_go_40 (by decide) ?_
    refine W.widen (k := 48) (n := 192) (Nat.le_of_ble_eq_true rfl) (Nat.le_of_ble_eq_true rfl) ?_
    exact W.iret (v := 0) hx hb hr (fun t ht hW => ⟨⟨0, (1, [.ref (b 1), .int 0, .int 0, .ref (b 2), .ref (b 3), .ref (b 4), .ref (b 5), .int 0, .int 0, .ref (b 6)]), rfl, Or.inr ⟨by omega, rfl⟩, BW.endP hP hK hD [4] [] rfl rfl rfl ht hW⟩, hS.F ht⟩) hS.2.2 dX6_go_41

