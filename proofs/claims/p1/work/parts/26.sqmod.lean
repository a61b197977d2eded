set_option maxHeartbeats 4000000 in
set_option maxRecDepth 100000 in
theorem m_squareBits (l : Launch) (dC : Nat → ClassId) (dI : Nat → Nat → Nat) (sz : Nat) (b : Nat → Nat) (cI c2 : ClassId) (dg : Nat → Option Nat) (Ld : List Nat) (hDG : ∀ i, i < 21 → ∃ y, dg i = some y ∧ y ∈ Ld) (p0 : Int32) (p1 : Int32) (p2 : Int32)  : Met l yX6_squareBits wsX6_squareBits ({ frames := 2, cells := 0, slots := 0, locals := 42 }) (va_Pc [.ref (b 0), .int p0, .int p1, .int p2] (PM dC dI ([((b 0), .inr (10, [.int 0, .ref (b 1), .int 0, .int 0, .ref (b 2), .ref (b 3), .ref (b 4), .ref (b 5), .int 0, .int 0, .ref (b 6)])), ((b 1), .inl (c2, 21, .inr (.inr (.inr (.inr dg)))))] ++ va_pl Ld (fun _ => .inl (cI, 4, .inl wRow))) [(cI, .int), (c2, .array .int)] sz)) (va_Ql (fun (r : Int64) (u : Int32 × List Value) => (((1 ≤ p0.toInt ∧ p0.toInt ≤ 20) ∧ 5 ≤ p1.toInt ∧ p1.toInt ≤ 60) ∧ u.1 = 0 ∧ r = (if p2 = 0 then sqR false p0.toNatClampNeg p1.toNatClampNeg else sqR true p0.toNatClampNeg p1.toNatClampNeg)) ∨ (¬ ((1 ≤ p0.toInt ∧ p0.toInt ≤ 20) ∧ 5 ≤ p1.toInt ∧ p1.toInt ≤ 60) ∧ u.1 = 1)) (fun (u : Int32 × List Value) t => BW dC dI (va_A ([((b 0), .inr (10, [.int 0, .ref (b 1), .int 0, .int 0, .ref (b 2), .ref (b 3), .ref (b 4), .ref (b 5), .int 0, .int 0, .ref (b 6)])), ((b 1), .inl (c2, 21, .inr (.inr (.inr (.inr dg)))))] ++ va_pl Ld (fun _ => .inl (cI, 4, .inl wRow))) sz) [((b 0), .inr (10, .int u.1 :: u.2))] [] t) (va_A ([((b 0), .inr (10, [.int 0, .ref (b 1), .int 0, .int 0, .ref (b 2), .ref (b 3), .ref (b 4), .ref (b 5), .int 0, .int 0, .ref (b 6)])), ((b 1), .inl (c2, 21, .inr (.inr (.inr (.inr dg)))))] ++ va_pl Ld (fun _ => .inl (cI, 4, .inl wRow))) sz)) 0 0 (va_A ([((b 0), .inr (10, [.int 0, .ref (b 1), .int 0, .int 0, .ref (b 2), .ref (b 3), .ref (b 4), .ref (b 5), .int 0, .int 0, .ref (b 6)])), ((b 1), .inl (c2, 21, .inr (.inr (.inr (.inr dg)))))] ++ va_pl Ld (fun _ => .inl (cI, 4, .inl wRow))) sz) := by
  refine Met.ofW (cc := cX6_squareBits) (maxL := 8) (ret := (some .long)) (by decide +kernel) rfl ?_
  intro p e s m args below meth c s₁ B hml hv
  obtain ⟨rfl, ⟨hsz, hP, hK, hD0⟩, hM⟩ := hv
  have hx := B.exec
  have hb := B.bytes
  have hr := B.returns
  have hts := atoms_spec (ws := wsX6_squareBits) B.pre
  have hown : s.vm.findClass RX6 = some m.cls := findClass_of_methodNamed B.named
  have hlocks := B.notSynchronized
  subst hsz
  have hD := hD0.self (sz := s.heap.size)
  generalize hAe : va_A ([((b 0), .inr (10, [.int 0, .ref (b 1), .int 0, .int 0, .ref (b 2), .ref (b 3), .ref (b 4), .ref (b 5), .int 0, .int 0, .ref (b 6)])), ((b 1), .inl (c2, 21, .inr (.inr (.inr (.inr dg)))))] ++ va_pl Ld (fun _ => .inl (cI, 4, .inl wRow))) s.heap.size = A at hD ⊢
  have hA : ∀ q : Nat, s.heap.size ≤ q → A q := fun q h => by rw [← hAe]; exact Or.inr h
  have hS : va_S A s.heap s.heap [] := va_S.rf
  have hl := lv_entry ([.ref (b 0), .int p0, .int p1, .int p2]) (n := 8) (Nat.le_of_ble_eq_true rfl)
  rw [lg_entry_eq]
  generalize (lg_sl ([.ref (b 0), .int p0, .int p1, .int p2]) ++ List.replicate (8 - (lg_sl ([.ref (b 0), .int p0, .int p1, .int p2])).length) Slot.unset).toArray = ls at hl ⊢
  have hl : lv_has ls 8 [(0, .ref (b 0)), (1, .int p0), (2, .int p1), (3, .int p2)] := hl
  have hN : NS s := hM.2.2.2.2.2.2
  refine lv_aload_n hx hb dX6_squareBits_0 rfl (lv_at hl 0 rfl) ?_
  refine lv_iload_n hx hb dX6_squareBits_1 rfl (lv_at hl 1 rfl) ?_
  refine lv_i2l hx hb dX6_squareBits_2 rfl ?_
  refine lv_lconst (v := 1) hx hb dX6_squareBits_3 (by decide) ?_
  refine lv_ldc2 hx hb hown (hts (.constantLong RX6 44 20) (by decide +kernel)) dX6_squareBits_4 ?_
  refine va_calli (va_runS (As := [.long p0.toInt64, .long 1, .long 20]) (rest := [.ref (b 0)]) ⟨hx, hb, hml, hown, hts⟩ (m_isBetween l p0.toInt64 1 20 (p0.toInt) (1) (20) (Int32.toInt_toInt64 _) (by decide) (by decide)) (va_cwS 3 hts gX6_squareBits_X6_isBetween rfl rfl rfl (by decide +kernel) ⟨Nat.le_of_ble_eq_true rfl, Nat.le_of_ble_eq_true rfl⟩) ⟨fun a U g mk q => q, fun U hU hW => ⟨rfl, trivial⟩⟩ rfl rfl hl.1 rfl (lv_room (Nat.le_of_ble_eq_true rfl)) dX6_squareBits_7 ⟨(Nat.le_of_ble_eq_true rfl), (Nat.le_of_ble_eq_true rfl)⟩) hS (fun q _ h => h.elim) (fun q h => h.elim) (fun r1 u t H locs ht hvm hw2 hB hz1 hk1 hS => ?_)
  have hP := kp_P hP hk1
  have hP : va_P (dC, dI) vwCl (([((b 0), .inr (10, [.int 0, .ref (b 1), .int 0, .int 0, .ref (b 2), .ref (b 3), .ref (b 4), .ref (b 5), .int 0, .int 0, .ref (b 6)])), ((b 1), .inl (c2, 21, .inr (.inr (.inr (.inr dg)))))]) ++ va_pl Ld (fun _ => .inl (cI, 4, .inl wRow))) H := hP
  have hD : va_D A (([((b 0), .inr (10, [.int 0, .ref (b 1), .int 0, .int 0, .ref (b 2), .ref (b 3), .ref (b 4), .ref (b 5), .int 0, .int 0, .ref (b 6)])), ((b 1), .inl (c2, 21, .inr (.inr (.inr (.inr dg)))))]) ++ va_pl Ld (fun _ => .inl (cI, 4, .inl wRow))) := hD
  have hw2 : r1 = bI ((1 : Int) ≤ p0.toInt ∧ p0.toInt ≤ (20 : Int)) := hw2
  refine lv_if_eq (tgt := 27) hx hb dX6_squareBits_10 (by decide) (fun c3 => ?_) (fun c3 => ?_)
  · skip
    have g4 : ¬ ((1 : Int) ≤ p0.toInt ∧ p0.toInt ≤ (20 : Int)) := bI_f hw2 c3
    have zg4 : r1 = 0 := bI_f0 hw2 g4
    refine lv_iconst (v := 1) hx hb dX6_squareBits_27 (by decide) ?_
    refine lv_goto (tgt := 32) hx hb dX6_squareBits_28 (by decide) ?_
    have hFc := va_free (wc := [((b 0), .inr (10, [.int 0, .ref (b 1), .int 0, .int 0, .ref (b 2), .ref (b 3), .ref (b 4), .ref (b 5), .int 0, .int 0, .ref (b 6)]))]) hD hS hA [0] rfl
    refine va_calli (va_runV (As := [.int 1]) (rest := []) ⟨hx, hb, hml, hown, hts⟩ (m_isWrong l dC dI _ (b 0) 0 [.ref (b 1), .int 0, .int 0, .ref (b 2), .ref (b 3), .ref (b 4), .ref (b 5), .int 0, .int 0, .ref (b 6)] 1) (cwV 1 hts gX6_squareBits_X6_isWrong rfl rfl rfl (by decide +kernel) ⟨Nat.le_of_ble_eq_true rfl, Nat.le_of_ble_eq_true rfl⟩) ⟨fb_PW, va_recv hK hP (ci := 10) (q0 := 0) rfl rfl, fun U hU hW => ⟨rfl, PW.give hP hK hD [0] [] rfl rfl rfl rfl hU hW⟩⟩ rfl rfl hl.1 rfl (lv_room (Nat.le_of_ble_eq_true rfl)) dX6_squareBits_32 ⟨(Nat.le_of_ble_eq_true rfl), (Nat.le_of_ble_eq_true rfl)⟩) hS (fun q _ h => hFc q h) hFc (fun r5 u t H locs ht hvm hw6 hB hz1 hk1 hS => ?_)
    obtain ⟨hP, hD, hK⟩ := aftQ [0] [1] hP hK hD rfl (wr := [((b 1), .inl (c2, 21, .inr (.inr (.inr (.inr dg)))))]) rfl rfl (by decide) hFc hB ht hvm hk1
    have hP : va_P (dC, dI) vwCl (([((b 1), .inl (c2, 21, .inr (.inr (.inr (.inr dg))))), ((b 0), .inr (10, [.int 1, .ref (b 1), .int 0, .int 0, .ref (b 2), .ref (b 3), .ref (b 4), .ref (b 5), .int 0, .int 0, .ref (b 6)]))]) ++ va_pl Ld (fun _ => .inl (cI, 4, .inl wRow))) H := hP
    have hD : va_D A (([((b 1), .inl (c2, 21, .inr (.inr (.inr (.inr dg))))), ((b 0), .inr (10, [.int 1, .ref (b 1), .int 0, .int 0, .ref (b 2), .ref (b 3), .ref (b 4), .ref (b 5), .int 0, .int 0, .ref (b 6)]))]) ++ va_pl Ld (fun _ => .inl (cI, 4, .inl wRow))) := hD
    have hK : va_K (dC, dI) vwCl [(cI, .int), (c2, .array .int)] s := hK
    have hw6 : r5 = bI (0 < 1) := hw6
    obtain rfl : r5 = 1 := hw6.trans (by decide)
    refine lv_if_eq (tgt := 40) hx hb dX6_squareBits_35 (by decide) (fun cx => by first | exact absurd cx (by decide) | exact absurd (by decide) cx) (fun _ => ?_)
    refine lv_lconst (v := 0) hx hb dX6_squareBits_38 (by decide) ?_
    refine W.widen (k := 0) (n := 0) (Nat.le_of_ble_eq_true rfl) (Nat.le_of_ble_eq_true rfl) ?_
    exact W.lret (v := 0) hx hb hr (fun t ht hW => ⟨⟨0, (1, [.ref (b 1), .int 0, .int 0, .ref (b 2), .ref (b 3), .ref (b 4), .ref (b 5), .int 0, .int 0, .ref (b 6)]), rfl, Or.inr ⟨by omega, rfl⟩, BW.endP hP hK hD [1] [] rfl rfl rfl ht hW⟩, hS.F ht⟩) hS.2.2 dX6_squareBits_39
  · skip
    have g7 : (1 : Int) ≤ p0.toInt ∧ p0.toInt ≤ (20 : Int) := bI_t hw2 c3
    have zg7 : r1 = 1 := bI_t1 hw2 g7
    refine lv_iload_n hx hb dX6_squareBits_13 rfl (lv_at hl 2 rfl) ?_
    refine lv_i2l hx hb dX6_squareBits_14 rfl ?_
    refine lv_ldc2 hx hb hown (hts (.constantLong RX6 143 5) (by decide +kernel)) dX6_squareBits_15 ?_
    refine lv_ldc2 hx hb hown (hts (.constantLong RX6 238 60) (by decide +kernel)) dX6_squareBits_18 ?_
    refine va_calli (va_runS (As := [.long p1.toInt64, .long 5, .long 60]) (rest := [.ref (b 0)]) ⟨hx, hb, hml, hown, hts⟩ (m_isBetween l p1.toInt64 5 60 (p1.toInt) (5) (60) (Int32.toInt_toInt64 _) (by decide) (by decide)) (va_cwS 3 hts gX6_squareBits_X6_isBetween rfl rfl rfl (by decide +kernel) ⟨Nat.le_of_ble_eq_true rfl, Nat.le_of_ble_eq_true rfl⟩) ⟨fun a U g mk q => q, fun U hU hW => ⟨rfl, trivial⟩⟩ rfl rfl hl.1 rfl (lv_room (Nat.le_of_ble_eq_true rfl)) dX6_squareBits_21 ⟨(Nat.le_of_ble_eq_true rfl), (Nat.le_of_ble_eq_true rfl)⟩) hS (fun q _ h => h.elim) (fun q h => h.elim) (fun r8 u t H locs ht hvm hw9 hB hz1 hk1 hS => ?_)
    have hP := kp_P hP hk1
    have hP : va_P (dC, dI) vwCl (([((b 0), .inr (10, [.int 0, .ref (b 1), .int 0, .int 0, .ref (b 2), .ref (b 3), .ref (b 4), .ref (b 5), .int 0, .int 0, .ref (b 6)])), ((b 1), .inl (c2, 21, .inr (.inr (.inr (.inr dg)))))]) ++ va_pl Ld (fun _ => .inl (cI, 4, .inl wRow))) H := hP
    have hD : va_D A (([((b 0), .inr (10, [.int 0, .ref (b 1), .int 0, .int 0, .ref (b 2), .ref (b 3), .ref (b 4), .ref (b 5), .int 0, .int 0, .ref (b 6)])), ((b 1), .inl (c2, 21, .inr (.inr (.inr (.inr dg)))))]) ++ va_pl Ld (fun _ => .inl (cI, 4, .inl wRow))) := hD
    have hw9 : r8 = bI ((5 : Int) ≤ p1.toInt ∧ p1.toInt ≤ (60 : Int)) := hw9
    refine lv_if_ne (tgt := 31) hx hb dX6_squareBits_24 (by decide) (fun c10 => ?_) (fun c10 => ?_)
    · skip
      have g11 : (5 : Int) ≤ p1.toInt ∧ p1.toInt ≤ (60 : Int) := bI_t hw9 c10
      have zg11 : r8 = 1 := bI_t1 hw9 g11
      refine lv_iconst (v := 0) hx hb dX6_squareBits_31 (by decide) ?_
      have hFc := va_free (wc := [((b 0), .inr (10, [.int 0, .ref (b 1), .int 0, .int 0, .ref (b 2), .ref (b 3), .ref (b 4), .ref (b 5), .int 0, .int 0, .ref (b 6)]))]) hD hS hA [0] rfl
      refine va_calli (va_runV (As := [.int 0]) (rest := []) ⟨hx, hb, hml, hown, hts⟩ (m_isWrong l dC dI _ (b 0) 0 [.ref (b 1), .int 0, .int 0, .ref (b 2), .ref (b 3), .ref (b 4), .ref (b 5), .int 0, .int 0, .ref (b 6)] 0) (cwV 1 hts gX6_squareBits_X6_isWrong rfl rfl rfl (by decide +kernel) ⟨Nat.le_of_ble_eq_true rfl, Nat.le_of_ble_eq_true rfl⟩) ⟨fb_PW, va_recv hK hP (ci := 10) (q0 := 0) rfl rfl, fun U hU hW => ⟨rfl, PW.give hP hK hD [0] [] rfl rfl rfl rfl hU hW⟩⟩ rfl rfl hl.1 rfl (lv_room (Nat.le_of_ble_eq_true rfl)) dX6_squareBits_32 ⟨(Nat.le_of_ble_eq_true rfl), (Nat.le_of_ble_eq_true rfl)⟩) hS (fun q _ h => hFc q h) hFc (fun r12 u t H locs ht hvm hw13 hB hz1 hk1 hS => ?_)
      obtain ⟨hP, hD, hK⟩ := aftQ [0] [1] hP hK hD rfl (wr := [((b 1), .inl (c2, 21, .inr (.inr (.inr (.inr dg)))))]) rfl rfl (by decide) hFc hB ht hvm hk1
      have hP : va_P (dC, dI) vwCl (([((b 1), .inl (c2, 21, .inr (.inr (.inr (.inr dg))))), ((b 0), .inr (10, [.int 0, .ref (b 1), .int 0, .int 0, .ref (b 2), .ref (b 3), .ref (b 4), .ref (b 5), .int 0, .int 0, .ref (b 6)]))]) ++ va_pl Ld (fun _ => .inl (cI, 4, .inl wRow))) H := hP
      have hD : va_D A (([((b 1), .inl (c2, 21, .inr (.inr (.inr (.inr dg))))), ((b 0), .inr (10, [.int 0, .ref (b 1), .int 0, .int 0, .ref (b 2), .ref (b 3), .ref (b 4), .ref (b 5), .int 0, .int 0, .ref (b 6)]))]) ++ va_pl Ld (fun _ => .inl (cI, 4, .inl wRow))) := hD
      have hK : va_K (dC, dI) vwCl [(cI, .int), (c2, .array .int)] s := hK
      have hw13 : r12 = bI (0 < 0) := hw13
      obtain rfl : r12 = 0 := hw13.trans (by decide)
      refine lv_if_eq (tgt := 40) hx hb dX6_squareBits_35 (by decide) (fun _ => ?_) (fun cx => by first | exact absurd (by decide) cx | exact absurd cx (by decide))
      refine lv_iload_n hx hb dX6_squareBits_40 rfl (lv_at hl 3 rfl) ?_
      refine lv_if_eq (tgt := 50) hx hb dX6_squareBits_41 (by decide) (fun c14 => ?_) (fun c14 => ?_)
      · skip
        refine lv_ldc2d hx hb hown (hts (.constantDouble RX6 242 4587366580439587226) (by decide +kernel)) dX6_squareBits_50 ?_
        obtain ⟨j, hj, hjj⟩ := toN (p := p0) (k := 20) (by omega) (by omega) (by decide)
        obtain ⟨k, hk, hkk⟩ := toN (p := p1) (k := 60) (by omega) (by omega) (by decide)
        subst hjj
        subst hkk
        obtain ⟨ht1, ht2, ht3, ht4, ht5, ht6⟩ := sq_tab false hj hk
        refine lv_aload_n hx hb dX6_squareBits_53 rfl (lv_at hl 0 rfl) ?_
        refine lv_aload_n hx hb dX6_squareBits_54 rfl (lv_at hl 0 rfl) ?_
        refine va_get (D := (dC, dI)) (ci := 10) (v := .int 0) (C := RX6) (T := TX6) (N := 11) hx hb hts (by decide +kernel) hown hK hP 1 rfl rfl 2 (by decide) (hts (.fieldLink RX6 58 "SnowpalaceModel" "hour" "I") (by decide +kernel)) (fun _ h9 => h9) rfl dX6_squareBits_55 ?_
        refine va_calli (va_runV (As := [.int 0]) (rest := [.double 4587366580439587226]) ⟨hx, hb, hml, hown, hts⟩ (m_warmthOf l dC dI _ b cI c2 dg Ld hDG 0 0 0 (by omega)) (cwV 1 hts gX6_squareBits_X6_warmthOf rfl rfl rfl (by decide +kernel) ⟨Nat.le_of_ble_eq_true rfl, Nat.le_of_ble_eq_true rfl⟩) ⟨fb_PW, va_recv hK hP (ci := 10) (q0 := 1) rfl rfl, fun U hU hW => ⟨rfl, PW.giveP hP hK hD [1, 0] [0, 1] rfl rfl rfl hU hW⟩⟩ rfl rfl hl.1 rfl (lv_room (Nat.le_of_ble_eq_true rfl)) dX6_squareBits_58 ⟨(Nat.le_of_ble_eq_true rfl), (Nat.le_of_ble_eq_true rfl)⟩) hS (fun q _ h => h.elim) (fun q h => h.elim) (fun r15 u t H locs ht hvm hw16 hB hz1 hk1 hS => ?_)
        have hP := kp_P hP hk1
        have hP : va_P (dC, dI) vwCl (([((b 1), .inl (c2, 21, .inr (.inr (.inr (.inr dg))))), ((b 0), .inr (10, [.int 0, .ref (b 1), .int 0, .int 0, .ref (b 2), .ref (b 3), .ref (b 4), .ref (b 5), .int 0, .int 0, .ref (b 6)]))]) ++ va_pl Ld (fun _ => .inl (cI, 4, .inl wRow))) H := hP
        have hD : va_D A (([((b 1), .inl (c2, 21, .inr (.inr (.inr (.inr dg))))), ((b 0), .inr (10, [.int 0, .ref (b 1), .int 0, .int 0, .ref (b 2), .ref (b 3), .ref (b 4), .ref (b 5), .int 0, .int 0, .ref (b 6)]))]) ++ va_pl Ld (fun _ => .inl (cI, 4, .inl wRow))) := hD
        obtain rfl : r15 = (-150) := (show r15 = w0 0 from hw16).trans (by decide)
        refine lv_if_le (tgt := 70) hx hb dX6_squareBits_61 (by decide) (fun _ => ?_) (fun cx => by first | exact absurd (by decide) cx | exact absurd cx (by decide))
        refine lv_dconst0 hx hb dX6_squareBits_70 ?_
        refine lv_dadd hx hb dX6_squareBits_71 (by rw [sq_d0]; exact n64b_of (by decide +kernel)) ?_
        rw [sq_d0]
        refine lv_dstore (lv' := [(4, .double 4587366580439587226), (0, .ref (b 0)), (1, .int (nI j)), (2, .int (nI k)), (3, .int p2)]) hx hb dX6_squareBits_72 hl (by decide) rfl (fun ls hl => ?_)
        refine lv_ldc2d hx hb hown (hts (.constantDouble RX6 244 4626215756725191967) (by decide +kernel)) dX6_squareBits_74 ?_
        refine lv_iload_n hx hb dX6_squareBits_77 rfl (lv_at hl 2 rfl) ?_
        refine lv_i2d hx hb dX6_squareBits_78 ?_
        refine lv_dload hx hb dX6_squareBits_79 (lv_at hl 0 rfl) ?_
        refine lv_iload_n hx hb dX6_squareBits_81 rfl (lv_at hl 3 rfl) ?_
        refine lv_i2d hx hb dX6_squareBits_82 ?_
        refine lv_dmul hx hb dX6_squareBits_83 (n64b_of ht1) ?_
        refine lv_dsub hx hb dX6_squareBits_84 (n64b_of ht2) ?_
        refine lv_dmul hx hb dX6_squareBits_85 (n64b_of ht3) ?_
        refine lv_dstore (lv' := [(6, .double (FP.dmul 4626215756725191967 (FP.dsub (FP.i2d (nI j)) (FP.dmul 4587366580439587226 (FP.i2d (nI k)))))), (4, .double 4587366580439587226), (0, .ref (b 0)), (1, .int (nI j)), (2, .int (nI k)), (3, .int p2)]) hx hb dX6_squareBits_86 hl (by decide) rfl (fun ls hl => ?_)
        refine lv_dload hx hb dX6_squareBits_88 (lv_at hl 0 rfl) ?_
        refine lv_dconst0 hx hb dX6_squareBits_90 ?_
        refine lv_dcmp hx hb dX6_squareBits_91 ?_
        refine lv_if_le (tgt := 100) hx hb dX6_squareBits_92 (by decide) (fun c17 => ?_) (fun c17 => ?_)
        · skip
          have hnp : ¬ pos (sqx false j k) = true := fun z => pos_le.mp (ht4 ▸ z) c17
          refine lv_dconst0 hx hb dX6_squareBits_100 ?_
          refine va_calll (va_runS (As := [.double FP.dconst0]) (rest := []) ⟨hx, hb, hml, hown, hts⟩ (j_d2l l FP.dconst0 sq_zn) (va_cwS 1 hts gX6_squareBits_Jxe99ae_doubleToLongBits_ccdee rfl rfl rfl (by decide +kernel) ⟨Nat.le_of_ble_eq_true rfl, Nat.le_of_ble_eq_true rfl⟩) ⟨fun a U g mk q => q, fun U hU hW => ⟨rfl, trivial⟩⟩ rfl rfl hl.1 rfl (lv_room (Nat.le_of_ble_eq_true rfl)) dX6_squareBits_101 ⟨(Nat.le_of_ble_eq_true rfl), (Nat.le_of_ble_eq_true rfl)⟩) hS (fun q _ h => h.elim) (fun q h => h.elim) (fun r18 u t H locs ht hvm hw19 hB hz1 hk1 hS => ?_)
          have hP := kp_P hP hk1
          have hP : va_P (dC, dI) vwCl (([((b 1), .inl (c2, 21, .inr (.inr (.inr (.inr dg))))), ((b 0), .inr (10, [.int 0, .ref (b 1), .int 0, .int 0, .ref (b 2), .ref (b 3), .ref (b 4), .ref (b 5), .int 0, .int 0, .ref (b 6)]))]) ++ va_pl Ld (fun _ => .inl (cI, 4, .inl wRow))) H := hP
          have hD : va_D A (([((b 1), .inl (c2, 21, .inr (.inr (.inr (.inr dg))))), ((b 0), .inr (10, [.int 0, .ref (b 1), .int 0, .int 0, .ref (b 2), .ref (b 3), .ref (b 4), .ref (b 5), .int 0, .int 0, .ref (b 6)]))]) ++ va_pl Ld (fun _ => .inl (cI, 4, .inl wRow))) := hD
          refine W.widen (k := 0) (n := 0) (Nat.le_of_ble_eq_true rfl) (Nat.le_of_ble_eq_true rfl) ?_
          exact W.lret (v := r18) hx hb hr (fun t ht hW => ⟨⟨r18, (0, [.ref (b 1), .int 0, .int 0, .ref (b 2), .ref (b 3), .ref (b 4), .ref (b 5), .int 0, .int 0, .ref (b 6)]), rfl, Or.inl ⟨by omega, rfl, by rw [if_pos c14, nI_clamp (by omega), nI_clamp (by omega)]; rw [show r18 = _ from hw19]; unfold sqR; rw [if_neg hnp]; decide +kernel⟩, BW.endP hP hK hD [1] [] rfl rfl rfl ht hW⟩, hS.F ht⟩) hS.2.2 dX6_squareBits_104
        · skip
          have hpp : pos (sqx false j k) = true := ht4.trans (pos_le.mpr c17)
          refine lv_dload hx hb dX6_squareBits_95 (lv_at hl 0 rfl) ?_
          refine lv_goto (tgt := 101) hx hb dX6_squareBits_97 (by decide) ?_
          refine va_calll (va_runS (As := [.double (FP.dmul 4626215756725191967 (FP.dsub (FP.i2d (nI j)) (FP.dmul 4587366580439587226 (FP.i2d (nI k)))))]) (rest := []) ⟨hx, hb, hml, hown, hts⟩ (j_d2l l (FP.dmul 4626215756725191967 (FP.dsub (FP.i2d (nI j)) (FP.dmul 4587366580439587226 (FP.i2d (nI k))))) ht5) (va_cwS 1 hts gX6_squareBits_Jxe99ae_doubleToLongBits_ccdee rfl rfl rfl (by decide +kernel) ⟨Nat.le_of_ble_eq_true rfl, Nat.le_of_ble_eq_true rfl⟩) ⟨fun a U g mk q => q, fun U hU hW => ⟨rfl, trivial⟩⟩ rfl rfl hl.1 rfl (lv_room (Nat.le_of_ble_eq_true rfl)) dX6_squareBits_101 ⟨(Nat.le_of_ble_eq_true rfl), (Nat.le_of_ble_eq_true rfl)⟩) hS (fun q _ h => h.elim) (fun q h => h.elim) (fun r20 u t H locs ht hvm hw21 hB hz1 hk1 hS => ?_)
          have hP := kp_P hP hk1
          have hP : va_P (dC, dI) vwCl (([((b 1), .inl (c2, 21, .inr (.inr (.inr (.inr dg))))), ((b 0), .inr (10, [.int 0, .ref (b 1), .int 0, .int 0, .ref (b 2), .ref (b 3), .ref (b 4), .ref (b 5), .int 0, .int 0, .ref (b 6)]))]) ++ va_pl Ld (fun _ => .inl (cI, 4, .inl wRow))) H := hP
          have hD : va_D A (([((b 1), .inl (c2, 21, .inr (.inr (.inr (.inr dg))))), ((b 0), .inr (10, [.int 0, .ref (b 1), .int 0, .int 0, .ref (b 2), .ref (b 3), .ref (b 4), .ref (b 5), .int 0, .int 0, .ref (b 6)]))]) ++ va_pl Ld (fun _ => .inl (cI, 4, .inl wRow))) := hD
          refine W.widen (k := 0) (n := 0) (Nat.le_of_ble_eq_true rfl) (Nat.le_of_ble_eq_true rfl) ?_
          exact W.lret (v := r20) hx hb hr (fun t ht hW => ⟨⟨r20, (0, [.ref (b 1), .int 0, .int 0, .ref (b 2), .ref (b 3), .ref (b 4), .ref (b 5), .int 0, .int 0, .ref (b 6)]), rfl, Or.inl ⟨by omega, rfl, by rw [if_pos c14, nI_clamp (by omega), nI_clamp (by omega)]; rw [show r20 = _ from hw21]; unfold sqR; rw [if_pos hpp]; rfl⟩, BW.endP hP hK hD [1] [] rfl rfl rfl ht hW⟩, hS.F ht⟩) hS.2.2 dX6_squareBits_104
      · skip
        refine lv_ldc2d hx hb hown (hts (.constantDouble RX6 240 4591870180066957722) (by decide +kernel)) dX6_squareBits_44 ?_
        refine lv_goto (tgt := 53) hx hb dX6_squareBits_47 (by decide) ?_
        obtain ⟨j, hj, hjj⟩ := toN (p := p0) (k := 20) (by omega) (by omega) (by decide)
        obtain ⟨k, hk, hkk⟩ := toN (p := p1) (k := 60) (by omega) (by omega) (by decide)
        subst hjj
        subst hkk
        obtain ⟨ht1, ht2, ht3, ht4, ht5, ht6⟩ := sq_tab true hj hk
        refine lv_aload_n hx hb dX6_squareBits_53 rfl (lv_at hl 0 rfl) ?_
        refine lv_aload_n hx hb dX6_squareBits_54 rfl (lv_at hl 0 rfl) ?_
        refine va_get (D := (dC, dI)) (ci := 10) (v := .int 0) (C := RX6) (T := TX6) (N := 11) hx hb hts (by decide +kernel) hown hK hP 1 rfl rfl 2 (by decide) (hts (.fieldLink RX6 58 "SnowpalaceModel" "hour" "I") (by decide +kernel)) (fun _ h9 => h9) rfl dX6_squareBits_55 ?_
        refine va_calli (va_runV (As := [.int 0]) (rest := [.double 4591870180066957722]) ⟨hx, hb, hml, hown, hts⟩ (m_warmthOf l dC dI _ b cI c2 dg Ld hDG 0 0 0 (by omega)) (cwV 1 hts gX6_squareBits_X6_warmthOf rfl rfl rfl (by decide +kernel) ⟨Nat.le_of_ble_eq_true rfl, Nat.le_of_ble_eq_true rfl⟩) ⟨fb_PW, va_recv hK hP (ci := 10) (q0 := 1) rfl rfl, fun U hU hW => ⟨rfl, PW.giveP hP hK hD [1, 0] [0, 1] rfl rfl rfl hU hW⟩⟩ rfl rfl hl.1 rfl (lv_room (Nat.le_of_ble_eq_true rfl)) dX6_squareBits_58 ⟨(Nat.le_of_ble_eq_true rfl), (Nat.le_of_ble_eq_true rfl)⟩) hS (fun q _ h => h.elim) (fun q h => h.elim) (fun r22 u t H locs ht hvm hw23 hB hz1 hk1 hS => ?_)
        have hP := kp_P hP hk1
        have hP : va_P (dC, dI) vwCl (([((b 1), .inl (c2, 21, .inr (.inr (.inr (.inr dg))))), ((b 0), .inr (10, [.int 0, .ref (b 1), .int 0, .int 0, .ref (b 2), .ref (b 3), .ref (b 4), .ref (b 5), .int 0, .int 0, .ref (b 6)]))]) ++ va_pl Ld (fun _ => .inl (cI, 4, .inl wRow))) H := hP
        have hD : va_D A (([((b 1), .inl (c2, 21, .inr (.inr (.inr (.inr dg))))), ((b 0), .inr (10, [.int 0, .ref (b 1), .int 0, .int 0, .ref (b 2), .ref (b 3), .ref (b 4), .ref (b 5), .int 0, .int 0, .ref (b 6)]))]) ++ va_pl Ld (fun _ => .inl (cI, 4, .inl wRow))) := hD
        obtain rfl : r22 = (-150) := (show r22 = w0 0 from hw23).trans (by decide)
        refine lv_if_le (tgt := 70) hx hb dX6_squareBits_61 (by decide) (fun _ => ?_) (fun cx => by first | exact absurd (by decide) cx | exact absurd cx (by decide))
        refine lv_dconst0 hx hb dX6_squareBits_70 ?_
        refine lv_dadd hx hb dX6_squareBits_71 (by rw [sq_d1]; exact n64b_of (by decide +kernel)) ?_
        rw [sq_d1]
        refine lv_dstore (lv' := [(4, .double 4591870180066957722), (0, .ref (b 0)), (1, .int (nI j)), (2, .int (nI k)), (3, .int p2)]) hx hb dX6_squareBits_72 hl (by decide) rfl (fun ls hl => ?_)
        refine lv_ldc2d hx hb hown (hts (.constantDouble RX6 244 4626215756725191967) (by decide +kernel)) dX6_squareBits_74 ?_
        refine lv_iload_n hx hb dX6_squareBits_77 rfl (lv_at hl 2 rfl) ?_
        refine lv_i2d hx hb dX6_squareBits_78 ?_
        refine lv_dload hx hb dX6_squareBits_79 (lv_at hl 0 rfl) ?_
        refine lv_iload_n hx hb dX6_squareBits_81 rfl (lv_at hl 3 rfl) ?_
        refine lv_i2d hx hb dX6_squareBits_82 ?_
        refine lv_dmul hx hb dX6_squareBits_83 (n64b_of ht1) ?_
        refine lv_dsub hx hb dX6_squareBits_84 (n64b_of ht2) ?_
        refine lv_dmul hx hb dX6_squareBits_85 (n64b_of ht3) ?_
        refine lv_dstore (lv' := [(6, .double (FP.dmul 4626215756725191967 (FP.dsub (FP.i2d (nI j)) (FP.dmul 4591870180066957722 (FP.i2d (nI k)))))), (4, .double 4591870180066957722), (0, .ref (b 0)), (1, .int (nI j)), (2, .int (nI k)), (3, .int p2)]) hx hb dX6_squareBits_86 hl (by decide) rfl (fun ls hl => ?_)
        refine lv_dload hx hb dX6_squareBits_88 (lv_at hl 0 rfl) ?_
        refine lv_dconst0 hx hb dX6_squareBits_90 ?_
        refine lv_dcmp hx hb dX6_squareBits_91 ?_
        refine lv_if_le (tgt := 100) hx hb dX6_squareBits_92 (by decide) (fun c24 => ?_) (fun c24 => ?_)
        · skip
          have hnp : ¬ pos (sqx true j k) = true := fun z => pos_le.mp (ht4 ▸ z) c24
          refine lv_dconst0 hx hb dX6_squareBits_100 ?_
          refine va_calll (va_runS (As := [.double FP.dconst0]) (rest := []) ⟨hx, hb, hml, hown, hts⟩ (j_d2l l FP.dconst0 sq_zn) (va_cwS 1 hts gX6_squareBits_Jxe99ae_doubleToLongBits_ccdee rfl rfl rfl (by decide +kernel) ⟨Nat.le_of_ble_eq_true rfl, Nat.le_of_ble_eq_true rfl⟩) ⟨fun a U g mk q => q, fun U hU hW => ⟨rfl, trivial⟩⟩ rfl rfl hl.1 rfl (lv_room (Nat.le_of_ble_eq_true rfl)) dX6_squareBits_101 ⟨(Nat.le_of_ble_eq_true rfl), (Nat.le_of_ble_eq_true rfl)⟩) hS (fun q _ h => h.elim) (fun q h => h.elim) (fun r25 u t H locs ht hvm hw26 hB hz1 hk1 hS => ?_)
          have hP := kp_P hP hk1
          have hP : va_P (dC, dI) vwCl (([((b 1), .inl (c2, 21, .inr (.inr (.inr (.inr dg))))), ((b 0), .inr (10, [.int 0, .ref (b 1), .int 0, .int 0, .ref (b 2), .ref (b 3), .ref (b 4), .ref (b 5), .int 0, .int 0, .ref (b 6)]))]) ++ va_pl Ld (fun _ => .inl (cI, 4, .inl wRow))) H := hP
          have hD : va_D A (([((b 1), .inl (c2, 21, .inr (.inr (.inr (.inr dg))))), ((b 0), .inr (10, [.int 0, .ref (b 1), .int 0, .int 0, .ref (b 2), .ref (b 3), .ref (b 4), .ref (b 5), .int 0, .int 0, .ref (b 6)]))]) ++ va_pl Ld (fun _ => .inl (cI, 4, .inl wRow))) := hD
          refine W.widen (k := 0) (n := 0) (Nat.le_of_ble_eq_true rfl) (Nat.le_of_ble_eq_true rfl) ?_
          exact W.lret (v := r25) hx hb hr (fun t ht hW => ⟨⟨r25, (0, [.ref (b 1), .int 0, .int 0, .ref (b 2), .ref (b 3), .ref (b 4), .ref (b 5), .int 0, .int 0, .ref (b 6)]), rfl, Or.inl ⟨by omega, rfl, by rw [if_neg c14, nI_clamp (by omega), nI_clamp (by omega)]; rw [show r25 = _ from hw26]; unfold sqR; rw [if_neg hnp]; decide +kernel⟩, BW.endP hP hK hD [1] [] rfl rfl rfl ht hW⟩, hS.F ht⟩) hS.2.2 dX6_squareBits_104
        · skip
          have hpp : pos (sqx true j k) = true := ht4.trans (pos_le.mpr c24)
          refine lv_dload hx hb dX6_squareBits_95 (lv_at hl 0 rfl) ?_
          refine lv_goto (tgt := 101) hx hb dX6_squareBits_97 (by decide) ?_
          refine va_calll (va_runS (As := [.double (FP.dmul 4626215756725191967 (FP.dsub (FP.i2d (nI j)) (FP.dmul 4591870180066957722 (FP.i2d (nI k)))))]) (rest := []) ⟨hx, hb, hml, hown, hts⟩ (j_d2l l (FP.dmul 4626215756725191967 (FP.dsub (FP.i2d (nI j)) (FP.dmul 4591870180066957722 (FP.i2d (nI k))))) ht5) (va_cwS 1 hts gX6_squareBits_Jxe99ae_doubleToLongBits_ccdee rfl rfl rfl (by decide +kernel) ⟨Nat.le_of_ble_eq_true rfl, Nat.le_of_ble_eq_true rfl⟩) ⟨fun a U g mk q => q, fun U hU hW => ⟨rfl, trivial⟩⟩ rfl rfl hl.1 rfl (lv_room (Nat.le_of_ble_eq_true rfl)) dX6_squareBits_101 ⟨(Nat.le_of_ble_eq_true rfl), (Nat.le_of_ble_eq_true rfl)⟩) hS (fun q _ h => h.elim) (fun q h => h.elim) (fun r27 u t H locs ht hvm hw28 hB hz1 hk1 hS => ?_)
          have hP := kp_P hP hk1
          have hP : va_P (dC, dI) vwCl (([((b 1), .inl (c2, 21, .inr (.inr (.inr (.inr dg))))), ((b 0), .inr (10, [.int 0, .ref (b 1), .int 0, .int 0, .ref (b 2), .ref (b 3), .ref (b 4), .ref (b 5), .int 0, .int 0, .ref (b 6)]))]) ++ va_pl Ld (fun _ => .inl (cI, 4, .inl wRow))) H := hP
          have hD : va_D A (([((b 1), .inl (c2, 21, .inr (.inr (.inr (.inr dg))))), ((b 0), .inr (10, [.int 0, .ref (b 1), .int 0, .int 0, .ref (b 2), .ref (b 3), .ref (b 4), .ref (b 5), .int 0, .int 0, .ref (b 6)]))]) ++ va_pl Ld (fun _ => .inl (cI, 4, .inl wRow))) := hD
          refine W.widen (k := 0) (n := 0) (Nat.le_of_ble_eq_true rfl) (Nat.le_of_ble_eq_true rfl) ?_
          exact W.lret (v := r27) hx hb hr (fun t ht hW => ⟨⟨r27, (0, [.ref (b 1), .int 0, .int 0, .ref (b 2), .ref (b 3), .ref (b 4), .ref (b 5), .int 0, .int 0, .ref (b 6)]), rfl, Or.inl ⟨by omega, rfl, by rw [if_neg c14, nI_clamp (by omega), nI_clamp (by omega)]; rw [show r27 = _ from hw28]; unfold sqR; rw [if_pos hpp]; rfl⟩, BW.endP hP hK hD [1] [] rfl rfl rfl ht hW⟩, hS.F ht⟩) hS.2.2 dX6_squareBits_104
    · skip
      have g29 : ¬ ((5 : Int) ≤ p1.toInt ∧ p1.toInt ≤ (60 : Int)) := bI_f hw9 c10
      have zg29 : r8 = 0 := bI_f0 hw9 g29
      refine lv_iconst (v := 1) hx hb dX6_squareBits_27 (by decide) ?_
      refine lv_goto (tgt := 32) hx hb dX6_squareBits_28 (by decide) ?_
      have hFc := va_free (wc := [((b 0), .inr (10, [.int 0, .ref (b 1), .int 0, .int 0, .ref (b 2), .ref (b 3), .ref (b 4), .ref (b 5), .int 0, .int 0, .ref (b 6)]))]) hD hS hA [0] rfl
      refine va_calli (va_runV (As := [.int 1]) (rest := []) ⟨hx, hb, hml, hown, hts⟩ (m_isWrong l dC dI _ (b 0) 0 [.ref (b 1), .int 0, .int 0, .ref (b 2), .ref (b 3), .ref (b 4), .ref (b 5), .int 0, .int 0, .ref (b 6)] 1) (cwV 1 hts gX6_squareBits_X6_isWrong rfl rfl rfl (by decide +kernel) ⟨Nat.le_of_ble_eq_true rfl, Nat.le_of_ble_eq_true rfl⟩) ⟨fb_PW, va_recv hK hP (ci := 10) (q0 := 0) rfl rfl, fun U hU hW => ⟨rfl, PW.give hP hK hD [0] [] rfl rfl rfl rfl hU hW⟩⟩ rfl rfl hl.1 rfl (lv_room (Nat.le_of_ble_eq_true rfl)) dX6_squareBits_32 ⟨(Nat.le_of_ble_eq_true rfl), (Nat.le_of_ble_eq_true rfl)⟩) hS (fun q _ h => hFc q h) hFc (fun r30 u t H locs ht hvm hw31 hB hz1 hk1 hS => ?_)
      obtain ⟨hP, hD, hK⟩ := aftQ [0] [1] hP hK hD rfl (wr := [((b 1), .inl (c2, 21, .inr (.inr (.inr (.inr dg)))))]) rfl rfl (by decide) hFc hB ht hvm hk1
      have hP : va_P (dC, dI) vwCl (([((b 1), .inl (c2, 21, .inr (.inr (.inr (.inr dg))))), ((b 0), .inr (10, [.int 1, .ref (b 1), .int 0, .int 0, .ref (b 2), .ref (b 3), .ref (b 4), .ref (b 5), .int 0, .int 0, .ref (b 6)]))]) ++ va_pl Ld (fun _ => .inl (cI, 4, .inl wRow))) H := hP
      have hD : va_D A (([((b 1), .inl (c2, 21, .inr (.inr (.inr (.inr dg))))), ((b 0), .inr (10, [.int 1, .ref (b 1), .int 0, .int 0, .ref (b 2), .ref (b 3), .ref (b 4), .ref (b 5), .int 0, .int 0, .ref (b 6)]))]) ++ va_pl Ld (fun _ => .inl (cI, 4, .inl wRow))) := hD
      have hK : va_K (dC, dI) vwCl [(cI, .int), (c2, .array .int)] s := hK
      have hw31 : r30 = bI (0 < 1) := hw31
      obtain rfl : r30 = 1 := hw31.trans (by decide)
      refine lv_if_eq (tgt := 40) hx hb dX6_squareBits_35 (by decide) (fun cx => by first | exact absurd cx (by decide) | exact absurd (by decide) cx) (fun _ => ?_)
      refine lv_lconst (v := 0) hx hb dX6_squareBits_38 (by decide) ?_
      refine W.widen (k := 0) (n := 0) (Nat.le_of_ble_eq_true rfl) (Nat.le_of_ble_eq_true rfl) ?_
      exact W.lret (v := 0) hx hb hr (fun t ht hW => ⟨⟨0, (1, [.ref (b 1), .int 0, .int 0, .ref (b 2), .ref (b 3), .ref (b 4), .ref (b 5), .int 0, .int 0, .ref (b 6)]), rfl, Or.inr ⟨by omega, rfl⟩, BW.endP hP hK hD [1] [] rfl rfl rfl ht hW⟩, hS.F ht⟩) hS.2.2 dX6_squareBits_39

