set_option maxHeartbeats 4000000 in
set_option maxRecDepth 100000 in
/-- the loop, over any number of calls -/
theorem law_loop {p : Program} {l : Launch} {e : Env} {s : State} {m : MethodId} {below : List Frame} {meth : Method} {c : Code} (hlt : l.stackTraces = false) {b0 L : Nat} {xs : Nat → Int32} (C0 : lw_At p s m meth c b0 L xs) (hL : L ≤ 3072) (dC : Nat → ClassId) (dI : Nat → Nat → Nat) (kA : Nat → ClassId) (eD b o mo q q2 : Nat) (hb9 : b = s.heap.size) (hb0 : b ≤ s.heap.size) (hK : va_K (dC, dI) vwCl (TYS kA) s) (hE : EX eD b s) : ∀ (n k : Nat), 6 * k ≤ L → L < 6 * k + 6 * n → ∀ (g : Gh) (H : Heap) (locs : List Loc) (ls : Array Slot) (C S : Nat), LI (dC, dI) kA b eD o mo q q2 g H → RI g mo C S k → va_S (fun q => b ≤ q) s.heap H locs → lv_has ls 9 [(0, .ref b0), (1, .ref o), (2, .ref mo), (3, .ref q), (4, .ref q2), (5, .int (nI (6 * k)))] → W p l e room_1 s m #[Value.ref b0] below meth c H locs C S (lw_Z below #[Value.ref b0] s) (F0 m 28 ls []) := by
  obtain ⟨hx, hb, hr, hml, hown, hts0, hX, hbl, hlocks, hgv⟩ := id C0
  have hbA : ¬ (fun q : Nat => b ≤ q) b0 := by show ¬ b ≤ b0; omega
  intro n
  induction n with
  | zero => intro k h1 h2; omega
  | succ n ih =>
    intro k hk hn g H locs ls C S hI hR hS hl
    have hC9 : C ≤ 960594 ∧ S ≤ 6134452 := by have h9 := hR; unfold RI at h9; omega
    have ek : (nI (6 * k)).toInt = ((6 * k : Nat) : Int) := nI_toInt (by omega)
    have eL : (Int32.ofNat L).toInt = (L : Int) := nI_toInt (by omega)
    refine lv_iload hx hb dL_law_28 (lv_at hl 5 rfl) ?_
    refine lv_aload_n hx hb dL_law_30 rfl (lv_at hl 0 rfl) ?_
    refine va_slen hx hb hX hbl hbA hS dL_law_31 ?_
    refine lv_bipush (v := 6) hx hb dL_law_32 (by decide) ?_
    refine lv_isub hx hb dL_law_34 ?_
    refine lv_topi (fun v3 e4 => ?_)
    have ev : v3.toInt = (L : Int) - 6 := by rw [e4, sub_i (by omega) (by decide), eL]; rfl
    refine lv_icmp_gt (tgt := 1919) hx hb dL_law_35 (by decide) (fun c1 => ?_) (fun c1 => ?_)
    · skip
      refine lv_iconst (v := 1) hx hb dL_law_1919 (by decide) ?_
      refine va_forget (fun q hq => by have h9 := hS.2.2 q hq; rw [← hb9]; exact h9) ?_
      refine W.widen (k := 960594) (n := 6134452) hC9.1 hC9.2 ?_
      refine W.base ?_
      exact lw_ret (Drawn.sameBut.refl s.drawn lw_cs) hx hb hr hlocks dL_law_1920
    · skip
      have hk6 : 6 * k + 6 ≤ L := Decidable.byContradiction (fun z => c1 (Int32.lt_iff_toInt_lt.mpr (by rw [ev, ek]; omega)))
      have hnext : ∀ (g : Gh) (H : Heap) (locs : List Loc) (ls : Array Slot) (C S : Nat), LI (dC, dI) kA b eD o mo q q2 g H → RI g mo C S (k + 1) → va_S (fun q => b ≤ q) s.heap H locs → lv_has ls 9 [(0, .ref b0), (1, .ref o), (2, .ref mo), (3, .ref q), (4, .ref q2), (5, .int (nI (6 * k)))] → W p l e room_1 s m #[Value.ref b0] below meth c H locs C S (lw_Z below #[Value.ref b0] s) (F0 m 1913 ls []) := by
        intro g H locs ls C S hI hR hS hl
        refine lv_iinc (v := nI (6 * (k + 1))) (lv' := [(5, .int (nI (6 * (k + 1)))), (0, .ref b0), (1, .ref o), (2, .ref mo), (3, .ref q), (4, .ref q2)]) hx hb dL_law_1913 hl (k := 5) rfl (nI_add (6 * k) 6) (by decide) rfl (fun ls hl => ?_)
        refine lv_goto (tgt := 28) hx hb dL_law_1916 (by decide) ?_
        exact ih (k + 1) (by omega) (by omega) g H locs ls C S hI hR hS (lv_sub hl [1, 2, 3, 4, 5, 0] rfl)
      refine lv_aload_n hx hb dL_law_38 rfl (lv_at hl 0 rfl) ?_
      refine lv_iload hx hb dL_law_39 (lv_at hl 5 rfl) ?_
      refine va_sld hx hb hX hbl hbA hS (vp_in_nI (by omega) (by omega)) dL_law_41 ?_
      refine lv_bipush (v := 63) hx hb dL_law_42 (by decide) ?_
      refine lv_iand hx hb dL_law_44 ?_
      refine lv_topi (fun v5 e6 => ?_)
      by_cases hout : v5.toInt < 0 ∨ 42 < v5.toInt
      · refine lv_tableOut (tgt := 1913) hx hb dL_law_45 hout (by decide) ?_
        exact hnext g H locs ls C S hI (by have h9 := hR; unfold RI at h9 ⊢; omega) hS hl
      have hy : v5.toInt = 0 ∨ v5.toInt = 1 ∨ v5.toInt = 2 ∨ v5.toInt = 3 ∨ v5.toInt = 4 ∨ v5.toInt = 5 ∨ v5.toInt = 6 ∨ v5.toInt = 7 ∨ v5.toInt = 8 ∨ v5.toInt = 9 ∨ v5.toInt = 10 ∨ v5.toInt = 11 ∨ v5.toInt = 12 ∨ v5.toInt = 13 ∨ v5.toInt = 14 ∨ v5.toInt = 15 ∨ v5.toInt = 16 ∨ v5.toInt = 17 ∨ v5.toInt = 18 ∨ v5.toInt = 19 ∨ v5.toInt = 20 ∨ v5.toInt = 21 ∨ v5.toInt = 22 ∨ v5.toInt = 23 ∨ v5.toInt = 24 ∨ v5.toInt = 25 ∨ v5.toInt = 26 ∨ v5.toInt = 27 ∨ v5.toInt = 28 ∨ v5.toInt = 29 ∨ v5.toInt = 30 ∨ v5.toInt = 31 ∨ v5.toInt = 32 ∨ v5.toInt = 33 ∨ v5.toInt = 34 ∨ v5.toInt = 35 ∨ v5.toInt = 36 ∨ v5.toInt = 37 ∨ v5.toInt = 38 ∨ v5.toInt = 39 ∨ v5.toInt = 40 ∨ v5.toInt = 41 ∨ v5.toInt = 42 := by omega
      rcases hy with h | h | h | h | h | h | h | h | h | h | h | h | h | h | h | h | h | h | h | h | h | h | h | h | h | h | h | h | h | h | h | h | h | h | h | h | h | h | h | h | h | h | h
      · exact lv_tableIn (off := 187) (tgt := 232) hx hb dL_law_45 (by rw [h]; decide) (by rw [h]; decide) (by rw [h]; rfl) (by decide) (case_0 hlt C0 hL dC dI kA eD b o mo q q2 k hb9 hb0 hk6 hK hE hnext hI hR hS hl)
      · exact lv_tableIn (off := 263) (tgt := 308) hx hb dL_law_45 (by rw [h]; decide) (by rw [h]; decide) (by rw [h]; rfl) (by decide) (case_1 hlt C0 hL dC dI kA eD b o mo q q2 k hb9 hb0 hk6 hK hE hnext hI hR hS hl)
      · exact lv_tableIn (off := 291) (tgt := 336) hx hb dL_law_45 (by rw [h]; decide) (by rw [h]; decide) (by rw [h]; rfl) (by decide) (case_2 hlt C0 hL dC dI kA eD b o mo q q2 k hb9 hb0 hk6 hK hE hnext hI hR hS hl)
      · exact lv_tableIn (off := 319) (tgt := 364) hx hb dL_law_45 (by rw [h]; decide) (by rw [h]; decide) (by rw [h]; rfl) (by decide) (case_3 hlt C0 hL dC dI kA eD b o mo q q2 k hb9 hb0 hk6 hK hE hnext hI hR hS hl)
      · exact lv_tableIn (off := 347) (tgt := 392) hx hb dL_law_45 (by rw [h]; decide) (by rw [h]; decide) (by rw [h]; rfl) (by decide) (case_4 hlt C0 hL dC dI kA eD b o mo q q2 k hb9 hb0 hk6 hK hE hnext hI hR hS hl)
      · exact lv_tableIn (off := 360) (tgt := 405) hx hb dL_law_45 (by rw [h]; decide) (by rw [h]; decide) (by rw [h]; rfl) (by decide) (case_5 hlt C0 hL dC dI kA eD b o mo q q2 k hb9 hb0 hk6 hK hE hnext hI hR hS hl)
      · exact lv_tableIn (off := 388) (tgt := 433) hx hb dL_law_45 (by rw [h]; decide) (by rw [h]; decide) (by rw [h]; rfl) (by decide) (case_6 hlt C0 hL dC dI kA eD b o mo q q2 k hb9 hb0 hk6 hK hE hnext hI hR hS hl)
      · exact lv_tableIn (off := 416) (tgt := 461) hx hb dL_law_45 (by rw [h]; decide) (by rw [h]; decide) (by rw [h]; rfl) (by decide) (case_7 hlt C0 hL dC dI kA eD b o mo q q2 k hb9 hb0 hk6 hK hE hnext hI hR hS hl)
      · exact lv_tableIn (off := 444) (tgt := 489) hx hb dL_law_45 (by rw [h]; decide) (by rw [h]; decide) (by rw [h]; rfl) (by decide) (case_8 hlt C0 hL dC dI kA eD b o mo q q2 k hb9 hb0 hk6 hK hE hnext hI hR hS hl)
      · exact lv_tableIn (off := 484) (tgt := 529) hx hb dL_law_45 (by rw [h]; decide) (by rw [h]; decide) (by rw [h]; rfl) (by decide) (case_9 hlt C0 hL dC dI kA eD b o mo q q2 k hb9 hb0 hk6 hK hE hnext hI hR hS hl)
      · exact lv_tableIn (off := 525) (tgt := 570) hx hb dL_law_45 (by rw [h]; decide) (by rw [h]; decide) (by rw [h]; rfl) (by decide) (case_10 hlt C0 hL dC dI kA eD b o mo q q2 k hb9 hb0 hk6 hK hE hnext hI hR hS hl)
      · exact lv_tableIn (off := 553) (tgt := 598) hx hb dL_law_45 (by rw [h]; decide) (by rw [h]; decide) (by rw [h]; rfl) (by decide) (case_11 hlt C0 hL dC dI kA eD b o mo q q2 k hb9 hb0 hk6 hK hE hnext hI hR hS hl)
      · exact lv_tableIn (off := 594) (tgt := 639) hx hb dL_law_45 (by rw [h]; decide) (by rw [h]; decide) (by rw [h]; rfl) (by decide) (case_12 hlt C0 hL dC dI kA eD b o mo q q2 k hb9 hb0 hk6 hK hE hnext hI hR hS hl)
      · exact lv_tableIn (off := 607) (tgt := 652) hx hb dL_law_45 (by rw [h]; decide) (by rw [h]; decide) (by rw [h]; rfl) (by decide) (case_13 hlt C0 hL dC dI kA eD b o mo q q2 k hb9 hb0 hk6 hK hE hnext hI hR hS hl)
      · exact lv_tableIn (off := 623) (tgt := 668) hx hb dL_law_45 (by rw [h]; decide) (by rw [h]; decide) (by rw [h]; rfl) (by decide) (case_14 hlt C0 hL dC dI kA eD b o mo q q2 k hb9 hb0 hk6 hK hE hnext hI hR hS hl)
      · exact lv_tableIn (off := 689) (tgt := 734) hx hb dL_law_45 (by rw [h]; decide) (by rw [h]; decide) (by rw [h]; rfl) (by decide) (case_15 hlt C0 hL dC dI kA eD b o mo q q2 k hb9 hb0 hk6 hK hE hnext hI hR hS hl)
      · exact lv_tableIn (off := 741) (tgt := 786) hx hb dL_law_45 (by rw [h]; decide) (by rw [h]; decide) (by rw [h]; rfl) (by decide) (case_16 hlt C0 hL dC dI kA eD b o mo q q2 k hb9 hb0 hk6 hK hE hnext hI hR hS hl)
      · exact lv_tableIn (off := 793) (tgt := 838) hx hb dL_law_45 (by rw [h]; decide) (by rw [h]; decide) (by rw [h]; rfl) (by decide) (case_17 hlt C0 hL dC dI kA eD b o mo q q2 k hb9 hb0 hk6 hK hE hnext hI hR hS hl)
      · exact lv_tableIn (off := 845) (tgt := 890) hx hb dL_law_45 (by rw [h]; decide) (by rw [h]; decide) (by rw [h]; rfl) (by decide) (case_18 hlt C0 hL dC dI kA eD b o mo q q2 k hb9 hb0 hk6 hK hE hnext hI hR hS hl)
      · exact lv_tableIn (off := 897) (tgt := 942) hx hb dL_law_45 (by rw [h]; decide) (by rw [h]; decide) (by rw [h]; rfl) (by decide) (case_19 hlt C0 hL dC dI kA eD b o mo q q2 k hb9 hb0 hk6 hK hE hnext hI hR hS hl)
      · exact lv_tableIn (off := 949) (tgt := 994) hx hb dL_law_45 (by rw [h]; decide) (by rw [h]; decide) (by rw [h]; rfl) (by decide) (case_20 hlt C0 hL dC dI kA eD b o mo q q2 k hb9 hb0 hk6 hK hE hnext hI hR hS hl)
      · exact lv_tableIn (off := 1001) (tgt := 1046) hx hb dL_law_45 (by rw [h]; decide) (by rw [h]; decide) (by rw [h]; rfl) (by decide) (case_21 hlt C0 hL dC dI kA eD b o mo q q2 k hb9 hb0 hk6 hK hE hnext hI hR hS hl)
      · exact lv_tableIn (off := 1053) (tgt := 1098) hx hb dL_law_45 (by rw [h]; decide) (by rw [h]; decide) (by rw [h]; rfl) (by decide) (case_22 hlt C0 hL dC dI kA eD b o mo q q2 k hb9 hb0 hk6 hK hE hnext hI hR hS hl)
      · exact lv_tableIn (off := 1081) (tgt := 1126) hx hb dL_law_45 (by rw [h]; decide) (by rw [h]; decide) (by rw [h]; rfl) (by decide) (case_23 hlt C0 hL dC dI kA eD b o mo q q2 k hb9 hb0 hk6 hK hE hnext hI hR hS hl)
      · exact lv_tableIn (off := 1109) (tgt := 1154) hx hb dL_law_45 (by rw [h]; decide) (by rw [h]; decide) (by rw [h]; rfl) (by decide) (case_24 hlt C0 hL dC dI kA eD b o mo q q2 k hb9 hb0 hk6 hK hE hnext hI hR hS hl)
      · exact lv_tableIn (off := 1165) (tgt := 1210) hx hb dL_law_45 (by rw [h]; decide) (by rw [h]; decide) (by rw [h]; rfl) (by decide) (case_25 hlt C0 hL dC dI kA eD b o mo q q2 k hb9 hb0 hk6 hK hE hnext hI hR hS hl)
      · exact lv_tableIn (off := 1245) (tgt := 1290) hx hb dL_law_45 (by rw [h]; decide) (by rw [h]; decide) (by rw [h]; rfl) (by decide) (case_26 hlt C0 hL dC dI kA eD b o mo q q2 k hb9 hb0 hk6 hK hE hnext hI hR hS hl)
      · exact lv_tableIn (off := 1297) (tgt := 1342) hx hb dL_law_45 (by rw [h]; decide) (by rw [h]; decide) (by rw [h]; rfl) (by decide) (case_27 hlt C0 hL dC dI kA eD b o mo q q2 k hb9 hb0 hk6 hK hE hnext hI hR hS hl)
      · exact lv_tableIn (off := 1325) (tgt := 1370) hx hb dL_law_45 (by rw [h]; decide) (by rw [h]; decide) (by rw [h]; rfl) (by decide) (case_28 hlt C0 hL dC dI kA eD b o mo q q2 k hb9 hb0 hk6 hK hE hnext hI hR hS hl)
      · exact lv_tableIn (off := 1365) (tgt := 1410) hx hb dL_law_45 (by rw [h]; decide) (by rw [h]; decide) (by rw [h]; rfl) (by decide) (case_29 hlt C0 hL dC dI kA eD b o mo q q2 k hb9 hb0 hk6 hK hE hnext hI hR hS hl)
      · exact lv_tableIn (off := 1405) (tgt := 1450) hx hb dL_law_45 (by rw [h]; decide) (by rw [h]; decide) (by rw [h]; rfl) (by decide) (case_30 hlt C0 hL dC dI kA eD b o mo q q2 k hb9 hb0 hk6 hK hE hnext hI hR hS hl)
      · exact lv_tableIn (off := 1473) (tgt := 1518) hx hb dL_law_45 (by rw [h]; decide) (by rw [h]; decide) (by rw [h]; rfl) (by decide) (case_31 hlt C0 hL dC dI kA eD b o mo q q2 k hb9 hb0 hk6 hK hE hnext hI hR hS hl)
      · exact lv_tableIn (off := 1553) (tgt := 1598) hx hb dL_law_45 (by rw [h]; decide) (by rw [h]; decide) (by rw [h]; rfl) (by decide) (case_32 hlt C0 hL dC dI kA eD b o mo q q2 k hb9 hb0 hk6 hK hE hnext hI hR hS hl)
      · exact lv_tableIn (off := 1617) (tgt := 1662) hx hb dL_law_45 (by rw [h]; decide) (by rw [h]; decide) (by rw [h]; rfl) (by decide) (case_33 hlt C0 hL dC dI kA eD b o mo q q2 k hb9 hb0 hk6 hK hE hnext hI hR hS hl)
      · exact lv_tableIn (off := 1645) (tgt := 1690) hx hb dL_law_45 (by rw [h]; decide) (by rw [h]; decide) (by rw [h]; rfl) (by decide) (case_34 hlt C0 hL dC dI kA eD b o mo q q2 k hb9 hb0 hk6 hK hE hnext hI hR hS hl)
      · exact lv_tableIn (off := 1674) (tgt := 1719) hx hb dL_law_45 (by rw [h]; decide) (by rw [h]; decide) (by rw [h]; rfl) (by decide) (case_35 hlt C0 hL dC dI kA eD b o mo q q2 k hb9 hb0 hk6 hK hE hnext hI hR hS hl)
      · exact lv_tableIn (off := 1703) (tgt := 1748) hx hb dL_law_45 (by rw [h]; decide) (by rw [h]; decide) (by rw [h]; rfl) (by decide) (case_36 hlt C0 hL dC dI kA eD b o mo q q2 k hb9 hb0 hk6 hK hE hnext hI hR hS hl)
      · exact lv_tableIn (off := 1755) (tgt := 1800) hx hb dL_law_45 (by rw [h]; decide) (by rw [h]; decide) (by rw [h]; rfl) (by decide) (case_37 hlt C0 hL dC dI kA eD b o mo q q2 k hb9 hb0 hk6 hK hE hnext hI hR hS hl)
      · exact lv_tableIn (off := 1768) (tgt := 1813) hx hb dL_law_45 (by rw [h]; decide) (by rw [h]; decide) (by rw [h]; rfl) (by decide) (case_38 hlt C0 hL dC dI kA eD b o mo q q2 k hb9 hb0 hk6 hK hE hnext hI hR hS hl)
      · exact lv_tableIn (off := 1796) (tgt := 1841) hx hb dL_law_45 (by rw [h]; decide) (by rw [h]; decide) (by rw [h]; rfl) (by decide) (case_39 hlt C0 hL dC dI kA eD b o mo q q2 k hb9 hb0 hk6 hK hE hnext hI hR hS hl)
      · exact lv_tableIn (off := 1813) (tgt := 1858) hx hb dL_law_45 (by rw [h]; decide) (by rw [h]; decide) (by rw [h]; rfl) (by decide) (case_40 hlt C0 hL dC dI kA eD b o mo q q2 k hb9 hb0 hk6 hK hE hnext hI hR hS hl)
      · exact lv_tableIn (off := 1842) (tgt := 1887) hx hb dL_law_45 (by rw [h]; decide) (by rw [h]; decide) (by rw [h]; rfl) (by decide) (case_41 hlt C0 hL dC dI kA eD b o mo q q2 k hb9 hb0 hk6 hK hE hnext hI hR hS hl)
      · exact lv_tableIn (off := 1855) (tgt := 1900) hx hb dL_law_45 (by rw [h]; decide) (by rw [h]; decide) (by rw [h]; rfl) (by decide) (case_42 hlt C0 hL dC dI kA eD b o mo q q2 k hb9 hb0 hk6 hK hE hnext hI hR hS hl)
