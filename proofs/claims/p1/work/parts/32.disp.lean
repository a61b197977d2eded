set_option maxHeartbeats 4000000 in
set_option maxRecDepth 100000 in
/-- the loop, its first round -/
theorem law_disp {p : Program} {l : Launch} {e : Env} {s : State} {m : MethodId} {below : List Frame} {meth : Method} {c : Code} (hlt : l.stackTraces = false) {b0 : Nat} {xs : Nat → Int32} (C0 : lw_At p s m meth c b0 6 xs) (dC : Nat → ClassId) (dI : Nat → Nat → Nat) (a : Nat → Nat) (cI cS : ClassId) (f : Nat → Nat → Int32) (b : Nat → Nat) (c2 : ClassId) (dg : Nat → Option Nat) (dl : Nat → Int32) (eD o o2 : Nat) (cJ cE : ClassId) (Ld : List Nat) {H : Heap} {locs : List Loc} (hw0 : LW dC dI s H locs a cI cS f b c2 dg dl eD o o2 cJ cE Ld) (hE : EZ eD (fun q : Nat => s.heap.size ≤ q) s) (hY : YZ s) {ls : Array Slot} (hl : lv_has ls 9 [(0, .ref b0), (1, .ref (a 0)), (2, .ref (b 0)), (3, .ref o), (4, .ref o2), (5, .int 0)]) :
    W p l e room_1 s m #[Value.ref b0] below meth c H locs 200 2000 (lw_Z below #[Value.ref b0] s) (F0 m 28 ls []) := by
  obtain ⟨hx, hb, hr, hml, hown, hts0, hX, hbl, hlocks, hgv⟩ := id C0
  have hts : ∀ w ∈ wzL_law, w.before #[Value.ref b0] s = true := fun w h => hts0 w (wzL_law_in w h)
  have hbA : ¬ (fun q : Nat => s.heap.size ≤ q) b0 := Nat.not_le.mpr hbl
  have hS := hw0.2.2.2.1
  refine lv_iload hx hb dL_law_28 (lv_at hl 5 rfl) ?_
  refine lv_aload_n hx hb dL_law_30 rfl (lv_at hl 0 rfl) ?_
  refine va_slen hx hb hX hbl hbA hS dL_law_31 ?_
  refine lv_topi (fun v1 e2 => ?_)
  obtain rfl : v1 = (6 : Int32) := e2.trans (by decide)
  refine lv_bipush (v := 6) hx hb dL_law_32 (by decide) ?_
  refine lv_isub hx hb dL_law_34 ?_
  refine lv_topi (fun v3 e4 => ?_)
  obtain rfl : v3 = (0 : Int32) := e4.trans (by decide)
  refine lv_icmp_gt (tgt := 3043) hx hb dL_law_35 (by decide) (fun cx => by first | exact absurd cx (by decide) | exact absurd (by decide) cx) (fun _ => ?_)
  refine lv_aload_n hx hb dL_law_38 rfl (lv_at hl 0 rfl) ?_
  refine lv_iload hx hb dL_law_39 (lv_at hl 5 rfl) ?_
  refine va_sld hx hb hX hbl hbA hS (by unfold vp_in; decide) dL_law_41 ?_
  refine lv_bipush (v := 63) hx hb dL_law_42 (by decide) ?_
  refine lv_iand hx hb dL_law_44 ?_
  refine lv_topi (fun v5 e6 => ?_)
  by_cases hout : v5.toInt < 0 ∨ 42 < v5.toInt
  · refine lv_tableOut (tgt := 3037) hx hb dL_law_45 hout (by decide) ?_
    exact law_exit C0 hS (Nat.le_of_ble_eq_true rfl) (Nat.le_of_ble_eq_true rfl) (lv_sub hl [0, 5] rfl)
  have hy : v5.toInt = 0 ∨ v5.toInt = 1 ∨ v5.toInt = 2 ∨ v5.toInt = 3 ∨ v5.toInt = 4 ∨ v5.toInt = 5 ∨ v5.toInt = 6 ∨ v5.toInt = 7 ∨ v5.toInt = 8 ∨ v5.toInt = 9 ∨ v5.toInt = 10 ∨ v5.toInt = 11 ∨ v5.toInt = 12 ∨ v5.toInt = 13 ∨ v5.toInt = 14 ∨ v5.toInt = 15 ∨ v5.toInt = 16 ∨ v5.toInt = 17 ∨ v5.toInt = 18 ∨ v5.toInt = 19 ∨ v5.toInt = 20 ∨ v5.toInt = 21 ∨ v5.toInt = 22 ∨ v5.toInt = 23 ∨ v5.toInt = 24 ∨ v5.toInt = 25 ∨ v5.toInt = 26 ∨ v5.toInt = 27 ∨ v5.toInt = 28 ∨ v5.toInt = 29 ∨ v5.toInt = 30 ∨ v5.toInt = 31 ∨ v5.toInt = 32 ∨ v5.toInt = 33 ∨ v5.toInt = 34 ∨ v5.toInt = 35 ∨ v5.toInt = 36 ∨ v5.toInt = 37 ∨ v5.toInt = 38 ∨ v5.toInt = 39 ∨ v5.toInt = 40 ∨ v5.toInt = 41 ∨ v5.toInt = 42 := by omega
  rcases hy with h | h | h | h | h | h | h | h | h | h | h | h | h | h | h | h | h | h | h | h | h | h | h | h | h | h | h | h | h | h | h | h | h | h | h | h | h | h | h | h | h | h | h
  · exact lv_tableIn (off := 187) (tgt := 232) hx hb dL_law_45 (by rw [h]; decide) (by rw [h]; decide) (by rw [h]; rfl) (by decide) (case_0 hlt C0 dC dI a cI cS f b c2 dg dl eD o o2 cJ cE Ld hw0 hl)
  · exact lv_tableIn (off := 291) (tgt := 336) hx hb dL_law_45 (by rw [h]; decide) (by rw [h]; decide) (by rw [h]; rfl) (by decide) (case_1 hlt C0 dC dI a cI cS f b c2 dg dl eD o o2 cJ cE Ld hw0 hl)
  · exact lv_tableIn (off := 347) (tgt := 392) hx hb dL_law_45 (by rw [h]; decide) (by rw [h]; decide) (by rw [h]; rfl) (by decide) (case_2 hlt C0 dC dI a cI cS f b c2 dg dl eD o o2 cJ cE Ld hw0 hl)
  · exact lv_tableIn (off := 403) (tgt := 448) hx hb dL_law_45 (by rw [h]; decide) (by rw [h]; decide) (by rw [h]; rfl) (by decide) (case_3 hlt C0 dC dI a cI cS f b c2 dg dl eD o o2 cJ cE Ld hw0 hl)
  · exact lv_tableIn (off := 459) (tgt := 504) hx hb dL_law_45 (by rw [h]; decide) (by rw [h]; decide) (by rw [h]; rfl) (by decide) (case_4 hlt C0 dC dI a cI cS f b c2 dg dl eD o o2 cJ cE Ld hw0 hl)
  · exact lv_tableIn (off := 472) (tgt := 517) hx hb dL_law_45 (by rw [h]; decide) (by rw [h]; decide) (by rw [h]; rfl) (by decide) (case_5 hlt C0 dC dI a cI cS f b c2 dg dl eD o o2 cJ cE Ld hw0 hl)
  · exact lv_tableIn (off := 528) (tgt := 573) hx hb dL_law_45 (by rw [h]; decide) (by rw [h]; decide) (by rw [h]; rfl) (by decide) (case_6 hlt C0 dC dI a cI cS f b c2 dg dl eD o o2 cJ cE Ld hw0 hl)
  · exact lv_tableIn (off := 584) (tgt := 629) hx hb dL_law_45 (by rw [h]; decide) (by rw [h]; decide) (by rw [h]; rfl) (by decide) (case_7 hlt C0 dC dI a cI cS f b c2 dg dl eD o o2 cJ cE Ld hw0 hl)
  · exact lv_tableIn (off := 647) (tgt := 692) hx hb dL_law_45 (by rw [h]; decide) (by rw [h]; decide) (by rw [h]; rfl) (by decide) (case_8 hlt C0 dC dI a cI cS f b c2 dg dl eD o o2 cJ cE Ld hw0 hl)
  · exact lv_tableIn (off := 715) (tgt := 760) hx hb dL_law_45 (by rw [h]; decide) (by rw [h]; decide) (by rw [h]; rfl) (by decide) (case_9 hlt C0 dC dI a cI cS f b c2 dg dl eD o o2 cJ cE Ld hw0 hl)
  · exact lv_tableIn (off := 756) (tgt := 801) hx hb dL_law_45 (by rw [h]; decide) (by rw [h]; decide) (by rw [h]; rfl) (by decide) (case_10 hlt C0 dC dI a cI cS f b c2 dg dl eD o o2 cJ cE Ld hw0 hl)
  · exact lv_tableIn (off := 812) (tgt := 857) hx hb dL_law_45 (by rw [h]; decide) (by rw [h]; decide) (by rw [h]; rfl) (by decide) (case_11 hlt C0 dC dI a cI cS f b c2 dg dl eD o o2 cJ cE Ld hw0 hl)
  · exact lv_tableIn (off := 853) (tgt := 898) hx hb dL_law_45 (by rw [h]; decide) (by rw [h]; decide) (by rw [h]; rfl) (by decide) (case_12 hlt C0 dC dI a cI cS f b c2 dg dl eD o o2 cJ cE Ld hw0 hl)
  · exact lv_tableIn (off := 866) (tgt := 911) hx hb dL_law_45 (by rw [h]; decide) (by rw [h]; decide) (by rw [h]; rfl) (by decide) (case_13 hlt C0 dC dI a cI cS f b c2 dg dl eD o o2 cJ cE Ld hw0 hE hY hl)
  · exact lv_tableIn (off := 910) (tgt := 955) hx hb dL_law_45 (by rw [h]; decide) (by rw [h]; decide) (by rw [h]; rfl) (by decide) (case_14 hlt C0 dC dI a cI cS f b c2 dg dl eD o o2 cJ cE Ld hw0 hl)
  · exact lv_tableIn (off := 1004) (tgt := 1049) hx hb dL_law_45 (by rw [h]; decide) (by rw [h]; decide) (by rw [h]; rfl) (by decide) (case_15 hlt C0 dC dI a cI cS f b c2 dg dl eD o o2 cJ cE Ld hw0 hl)
  · exact lv_tableIn (off := 1084) (tgt := 1129) hx hb dL_law_45 (by rw [h]; decide) (by rw [h]; decide) (by rw [h]; rfl) (by decide) (case_16 hlt C0 dC dI a cI cS f b c2 dg dl eD o o2 cJ cE Ld hw0 hl)
  · exact lv_tableIn (off := 1164) (tgt := 1209) hx hb dL_law_45 (by rw [h]; decide) (by rw [h]; decide) (by rw [h]; rfl) (by decide) (case_17 hlt C0 dC dI a cI cS f b c2 dg dl eD o o2 cJ cE Ld hw0 hl)
  · exact lv_tableIn (off := 1244) (tgt := 1289) hx hb dL_law_45 (by rw [h]; decide) (by rw [h]; decide) (by rw [h]; rfl) (by decide) (case_18 hlt C0 dC dI a cI cS f b c2 dg dl eD o o2 cJ cE Ld hw0 hl)
  · exact lv_tableIn (off := 1324) (tgt := 1369) hx hb dL_law_45 (by rw [h]; decide) (by rw [h]; decide) (by rw [h]; rfl) (by decide) (case_19 hlt C0 dC dI a cI cS f b c2 dg dl eD o o2 cJ cE Ld hw0 hl)
  · exact lv_tableIn (off := 1404) (tgt := 1449) hx hb dL_law_45 (by rw [h]; decide) (by rw [h]; decide) (by rw [h]; rfl) (by decide) (case_20 hlt C0 dC dI a cI cS f b c2 dg dl eD o o2 cJ cE Ld hw0 hl)
  · exact lv_tableIn (off := 1484) (tgt := 1529) hx hb dL_law_45 (by rw [h]; decide) (by rw [h]; decide) (by rw [h]; rfl) (by decide) (case_21 hlt C0 dC dI a cI cS f b c2 dg dl eD o o2 cJ cE Ld hw0 hl)
  · exact lv_tableIn (off := 1571) (tgt := 1616) hx hb dL_law_45 (by rw [h]; decide) (by rw [h]; decide) (by rw [h]; rfl) (by decide) (case_22 hlt C0 dC dI a cI cS f b c2 dg dl eD o o2 cJ cE Ld hw0 hl)
  · exact lv_tableIn (off := 1627) (tgt := 1672) hx hb dL_law_45 (by rw [h]; decide) (by rw [h]; decide) (by rw [h]; rfl) (by decide) (case_23 hlt C0 dC dI a cI cS f b c2 dg dl eD o o2 cJ cE Ld hw0 hl)
  · exact lv_tableIn (off := 1683) (tgt := 1728) hx hb dL_law_45 (by rw [h]; decide) (by rw [h]; decide) (by rw [h]; rfl) (by decide) (case_24 hlt C0 dC dI a cI cS f b c2 dg dl eD o o2 cJ cE Ld hw0 hl)
  · exact lv_tableIn (off := 1774) (tgt := 1819) hx hb dL_law_45 (by rw [h]; decide) (by rw [h]; decide) (by rw [h]; rfl) (by decide) (case_25 hlt C0 dC dI a cI cS f b c2 dg dl eD o o2 cJ cE Ld hw0 hl)
  · exact lv_tableIn (off := 1889) (tgt := 1934) hx hb dL_law_45 (by rw [h]; decide) (by rw [h]; decide) (by rw [h]; rfl) (by decide) (case_26 hlt C0 dC dI a cI cS f b c2 dg dl eD o o2 cJ cE Ld hw0 hl)
  · exact lv_tableIn (off := 1969) (tgt := 2014) hx hb dL_law_45 (by rw [h]; decide) (by rw [h]; decide) (by rw [h]; rfl) (by decide) (case_27 hlt C0 dC dI a cI cS f b c2 dg dl eD o o2 cJ cE Ld hw0 hl)
  · exact lv_tableIn (off := 2032) (tgt := 2077) hx hb dL_law_45 (by rw [h]; decide) (by rw [h]; decide) (by rw [h]; rfl) (by decide) (case_28 hlt C0 dC dI a cI cS f b c2 dg dl eD o o2 cJ cE Ld hw0 hl)
  · exact lv_tableIn (off := 2100) (tgt := 2145) hx hb dL_law_45 (by rw [h]; decide) (by rw [h]; decide) (by rw [h]; rfl) (by decide) (case_29 hlt C0 dC dI a cI cS f b c2 dg dl eD o o2 cJ cE Ld hw0 hl)
  · exact lv_tableIn (off := 2168) (tgt := 2213) hx hb dL_law_45 (by rw [h]; decide) (by rw [h]; decide) (by rw [h]; rfl) (by decide) (case_30 hlt C0 dC dI a cI cS f b c2 dg dl eD o o2 cJ cE Ld hw0 hl)
  · exact lv_tableIn (off := 2263) (tgt := 2308) hx hb dL_law_45 (by rw [h]; decide) (by rw [h]; decide) (by rw [h]; rfl) (by decide) (case_31 hlt C0 dC dI a cI cS f b c2 dg dl eD o o2 cJ cE Ld hw0 hl)
  · exact lv_tableIn (off := 2371) (tgt := 2416) hx hb dL_law_45 (by rw [h]; decide) (by rw [h]; decide) (by rw [h]; rfl) (by decide) (case_32 hlt C0 dC dI a cI cS f b c2 dg dl eD o o2 cJ cE Ld hw0 hl)
  · exact lv_tableIn (off := 2463) (tgt := 2508) hx hb dL_law_45 (by rw [h]; decide) (by rw [h]; decide) (by rw [h]; rfl) (by decide) (case_33 hlt C0 dC dI a cI cS f b c2 dg dl eD o o2 cJ cE Ld hw0 hl)
  · exact lv_tableIn (off := 2519) (tgt := 2564) hx hb dL_law_45 (by rw [h]; decide) (by rw [h]; decide) (by rw [h]; rfl) (by decide) (case_34 hlt C0 dC dI a cI cS f b c2 dg dl eD o o2 cJ cE Ld hw0 hl)
  · exact lv_tableIn (off := 2596) (tgt := 2641) hx hb dL_law_45 (by rw [h]; decide) (by rw [h]; decide) (by rw [h]; rfl) (by decide) (case_35 hlt C0 dC dI a cI cS f b c2 dg dl eD o o2 cJ cE Ld hw0 hl)
  · exact lv_tableIn (off := 2673) (tgt := 2718) hx hb dL_law_45 (by rw [h]; decide) (by rw [h]; decide) (by rw [h]; rfl) (by decide) (case_36 hlt C0 dC dI a cI cS f b c2 dg dl eD o o2 cJ cE Ld hw0 hl)
  · exact lv_tableIn (off := 2753) (tgt := 2798) hx hb dL_law_45 (by rw [h]; decide) (by rw [h]; decide) (by rw [h]; rfl) (by decide) (case_37 hlt C0 dC dI a cI cS f b c2 dg dl eD o o2 cJ cE Ld hw0 hl)
  · exact lv_tableIn (off := 2766) (tgt := 2811) hx hb dL_law_45 (by rw [h]; decide) (by rw [h]; decide) (by rw [h]; rfl) (by decide) (case_38 hlt C0 dC dI a cI cS f b c2 dg dl eD o o2 cJ cE Ld hw0 hl)
  · exact lv_tableIn (off := 2822) (tgt := 2867) hx hb dL_law_45 (by rw [h]; decide) (by rw [h]; decide) (by rw [h]; rfl) (by decide) (case_39 hlt C0 dC dI a cI cS f b c2 dg dl eD o o2 cJ cE Ld hw0 hl)
  · exact lv_tableIn (off := 2888) (tgt := 2933) hx hb dL_law_45 (by rw [h]; decide) (by rw [h]; decide) (by rw [h]; rfl) (by decide) (case_40 hlt C0 dC dI a cI cS f b c2 dg dl eD o o2 cJ cE Ld hw0 hl)
  · exact lv_tableIn (off := 2965) (tgt := 3010) hx hb dL_law_45 (by rw [h]; decide) (by rw [h]; decide) (by rw [h]; rfl) (by decide) (case_41 hlt C0 dC dI a cI cS f b c2 dg dl eD o o2 cJ cE Ld hw0 hl)
  · exact lv_tableIn (off := 2979) (tgt := 3024) hx hb dL_law_45 (by rw [h]; decide) (by rw [h]; decide) (by rw [h]; rfl) (by decide) (case_42 hlt C0 dC dI a cI cS f b c2 dg dl eD o o2 cJ cE Ld hw0 hl)

