theorem sq_t0 : ∀ p, p < 21 → ∀ q, q < 61 → sqok 0 p q = true := by
  intro p hp
  rcases Nat.eq_or_lt_of_le (show 0 ≤ p by omega) with h0 | h0
  · subst h0; exact sq_a0_0
  rcases Nat.eq_or_lt_of_le (show 1 ≤ p by omega) with h1 | h1
  · subst h1; exact sq_a0_1
  rcases Nat.eq_or_lt_of_le (show 2 ≤ p by omega) with h2 | h2
  · subst h2; exact sq_a0_2
  rcases Nat.eq_or_lt_of_le (show 3 ≤ p by omega) with h3 | h3
  · subst h3; exact sq_a0_3
  rcases Nat.eq_or_lt_of_le (show 4 ≤ p by omega) with h4 | h4
  · subst h4; exact sq_a0_4
  rcases Nat.eq_or_lt_of_le (show 5 ≤ p by omega) with h5 | h5
  · subst h5; exact sq_a0_5
  rcases Nat.eq_or_lt_of_le (show 6 ≤ p by omega) with h6 | h6
  · subst h6; exact sq_a0_6
  rcases Nat.eq_or_lt_of_le (show 7 ≤ p by omega) with h7 | h7
  · subst h7; exact sq_a0_7
  rcases Nat.eq_or_lt_of_le (show 8 ≤ p by omega) with h8 | h8
  · subst h8; exact sq_a0_8
  rcases Nat.eq_or_lt_of_le (show 9 ≤ p by omega) with h9 | h9
  · subst h9; exact sq_a0_9
  rcases Nat.eq_or_lt_of_le (show 10 ≤ p by omega) with h10 | h10
  · subst h10; exact sq_a0_10
  rcases Nat.eq_or_lt_of_le (show 11 ≤ p by omega) with h11 | h11
  · subst h11; exact sq_a0_11
  rcases Nat.eq_or_lt_of_le (show 12 ≤ p by omega) with h12 | h12
  · subst h12; exact sq_a0_12
  rcases Nat.eq_or_lt_of_le (show 13 ≤ p by omega) with h13 | h13
  · subst h13; exact sq_a0_13
  rcases Nat.eq_or_lt_of_le (show 14 ≤ p by omega) with h14 | h14
  · subst h14; exact sq_a0_14
  rcases Nat.eq_or_lt_of_le (show 15 ≤ p by omega) with h15 | h15
  · subst h15; exact sq_a0_15
  rcases Nat.eq_or_lt_of_le (show 16 ≤ p by omega) with h16 | h16
  · subst h16; exact sq_a0_16
  rcases Nat.eq_or_lt_of_le (show 17 ≤ p by omega) with h17 | h17
  · subst h17; exact sq_a0_17
  rcases Nat.eq_or_lt_of_le (show 18 ≤ p by omega) with h18 | h18
  · subst h18; exact sq_a0_18
  rcases Nat.eq_or_lt_of_le (show 19 ≤ p by omega) with h19 | h19
  · subst h19; exact sq_a0_19
  rcases Nat.eq_or_lt_of_le (show 20 ≤ p by omega) with h20 | h20
  · subst h20; exact sq_a0_20
  exact absurd hp (by omega)
theorem sq_t1 : ∀ p, p < 21 → ∀ q, q < 61 → sqok 1 p q = true := by
  intro p hp
  rcases Nat.eq_or_lt_of_le (show 0 ≤ p by omega) with h0 | h0
  · subst h0; exact sq_a1_0
  rcases Nat.eq_or_lt_of_le (show 1 ≤ p by omega) with h1 | h1
  · subst h1; exact sq_a1_1
  rcases Nat.eq_or_lt_of_le (show 2 ≤ p by omega) with h2 | h2
  · subst h2; exact sq_a1_2
  rcases Nat.eq_or_lt_of_le (show 3 ≤ p by omega) with h3 | h3
  · subst h3; exact sq_a1_3
  rcases Nat.eq_or_lt_of_le (show 4 ≤ p by omega) with h4 | h4
  · subst h4; exact sq_a1_4
  rcases Nat.eq_or_lt_of_le (show 5 ≤ p by omega) with h5 | h5
  · subst h5; exact sq_a1_5
  rcases Nat.eq_or_lt_of_le (show 6 ≤ p by omega) with h6 | h6
  · subst h6; exact sq_a1_6
  rcases Nat.eq_or_lt_of_le (show 7 ≤ p by omega) with h7 | h7
  · subst h7; exact sq_a1_7
  rcases Nat.eq_or_lt_of_le (show 8 ≤ p by omega) with h8 | h8
  · subst h8; exact sq_a1_8
  rcases Nat.eq_or_lt_of_le (show 9 ≤ p by omega) with h9 | h9
  · subst h9; exact sq_a1_9
  rcases Nat.eq_or_lt_of_le (show 10 ≤ p by omega) with h10 | h10
  · subst h10; exact sq_a1_10
  rcases Nat.eq_or_lt_of_le (show 11 ≤ p by omega) with h11 | h11
  · subst h11; exact sq_a1_11
  rcases Nat.eq_or_lt_of_le (show 12 ≤ p by omega) with h12 | h12
  · subst h12; exact sq_a1_12
  rcases Nat.eq_or_lt_of_le (show 13 ≤ p by omega) with h13 | h13
  · subst h13; exact sq_a1_13
  rcases Nat.eq_or_lt_of_le (show 14 ≤ p by omega) with h14 | h14
  · subst h14; exact sq_a1_14
  rcases Nat.eq_or_lt_of_le (show 15 ≤ p by omega) with h15 | h15
  · subst h15; exact sq_a1_15
  rcases Nat.eq_or_lt_of_le (show 16 ≤ p by omega) with h16 | h16
  · subst h16; exact sq_a1_16
  rcases Nat.eq_or_lt_of_le (show 17 ≤ p by omega) with h17 | h17
  · subst h17; exact sq_a1_17
  rcases Nat.eq_or_lt_of_le (show 18 ≤ p by omega) with h18 | h18
  · subst h18; exact sq_a1_18
  rcases Nat.eq_or_lt_of_le (show 19 ≤ p by omega) with h19 | h19
  · subst h19; exact sq_a1_19
  rcases Nat.eq_or_lt_of_le (show 20 ≤ p by omega) with h20 | h20
  · subst h20; exact sq_a1_20
  exact absurd hp (by omega)
theorem sq_t2 : ∀ p, p < 21 → ∀ q, q < 61 → sqok 2 p q = true := by
  intro p hp
  rcases Nat.eq_or_lt_of_le (show 0 ≤ p by omega) with h0 | h0
  · subst h0; exact sq_a2_0
  rcases Nat.eq_or_lt_of_le (show 1 ≤ p by omega) with h1 | h1
  · subst h1; exact sq_a2_1
  rcases Nat.eq_or_lt_of_le (show 2 ≤ p by omega) with h2 | h2
  · subst h2; exact sq_a2_2
  rcases Nat.eq_or_lt_of_le (show 3 ≤ p by omega) with h3 | h3
  · subst h3; exact sq_a2_3
  rcases Nat.eq_or_lt_of_le (show 4 ≤ p by omega) with h4 | h4
  · subst h4; exact sq_a2_4
  rcases Nat.eq_or_lt_of_le (show 5 ≤ p by omega) with h5 | h5
  · subst h5; exact sq_a2_5
  rcases Nat.eq_or_lt_of_le (show 6 ≤ p by omega) with h6 | h6
  · subst h6; exact sq_a2_6
  rcases Nat.eq_or_lt_of_le (show 7 ≤ p by omega) with h7 | h7
  · subst h7; exact sq_a2_7
  rcases Nat.eq_or_lt_of_le (show 8 ≤ p by omega) with h8 | h8
  · subst h8; exact sq_a2_8
  rcases Nat.eq_or_lt_of_le (show 9 ≤ p by omega) with h9 | h9
  · subst h9; exact sq_a2_9
  rcases Nat.eq_or_lt_of_le (show 10 ≤ p by omega) with h10 | h10
  · subst h10; exact sq_a2_10
  rcases Nat.eq_or_lt_of_le (show 11 ≤ p by omega) with h11 | h11
  · subst h11; exact sq_a2_11
  rcases Nat.eq_or_lt_of_le (show 12 ≤ p by omega) with h12 | h12
  · subst h12; exact sq_a2_12
  rcases Nat.eq_or_lt_of_le (show 13 ≤ p by omega) with h13 | h13
  · subst h13; exact sq_a2_13
  rcases Nat.eq_or_lt_of_le (show 14 ≤ p by omega) with h14 | h14
  · subst h14; exact sq_a2_14
  rcases Nat.eq_or_lt_of_le (show 15 ≤ p by omega) with h15 | h15
  · subst h15; exact sq_a2_15
  rcases Nat.eq_or_lt_of_le (show 16 ≤ p by omega) with h16 | h16
  · subst h16; exact sq_a2_16
  rcases Nat.eq_or_lt_of_le (show 17 ≤ p by omega) with h17 | h17
  · subst h17; exact sq_a2_17
  rcases Nat.eq_or_lt_of_le (show 18 ≤ p by omega) with h18 | h18
  · subst h18; exact sq_a2_18
  rcases Nat.eq_or_lt_of_le (show 19 ≤ p by omega) with h19 | h19
  · subst h19; exact sq_a2_19
  rcases Nat.eq_or_lt_of_le (show 20 ≤ p by omega) with h20 | h20
  · subst h20; exact sq_a2_20
  exact absurd hp (by omega)
noncomputable def sqR (w : Nat) (p q : Nat) : Int64 := if pos (sqx w p q) = true then (sqv w p q).toInt64 else 0
theorem sq_tab (w : Nat) {p q : Nat} (hw : w ≤ 2) (hp : p ≤ 20) (hq : q ≤ 60) : n64b (sqy w q) = true ∧ n64b (sqx w p q) = true ∧ n64b (sqv w p q) = true ∧ pos (sqx w p q) = pos (sqv w p q) ∧ nnan (sqv w p q) ∧ (pos (sqx w p q) = true → bdok (sqv w p q) = true ∧ bd (sqv w p q) = (sqv w p q).toInt64) := by
  have h : sqok w p q = true := by
    rcases w with _ | _ | _ | w
    · exact sq_t0 p (by omega) q (by omega)
    · exact sq_t1 p (by omega) q (by omega)
    · exact sq_t2 p (by omega) q (by omega)
    · exact absurd hw (by omega)
  unfold sqok at h
  simp only [Bool.and_eq_true, beq_iff_eq, decide_eq_true_eq, Bool.or_eq_true, Bool.not_eq_true'] at h
  obtain ⟨h1, h2, h3, h4, h5, h6⟩ := h
  exact ⟨h1, h2, h3, h4, h5, fun hx => h6.elim (fun z => absurd (hx.symm.trans z) (by decide)) id⟩
theorem sq_r {w : Nat} {p q : Nat} {r : Int64} (h : pos (sqx w p q) = true) (h4 : pos (sqx w p q) = pos (sqv w p q)) (h6 : bd (sqv w p q) = (sqv w p q).toInt64) (hr : r = bdr (sqv w p q)) : r = sqR w p q := by
  rw [hr]
  unfold bdr sqR
  rw [if_pos h, if_pos (h4 ▸ h), h6]
theorem sq_r0 {w : Nat} {p q : Nat} {r : Int64} (h : ¬ pos (sqx w p q) = true) (hr : r = bdr FP.dconst0) : r = sqR w p q := by
  rw [hr]
  unfold sqR
  rw [if_neg h]
  decide +kernel
theorem sq_z : pos FP.dconst0 = false := by decide +kernel
theorem sq_zn : nnan FP.dconst0 := by unfold nnan; decide +kernel
theorem sq_d0 : FP.dadd 4587366580439587226 FP.dconst0 = 4587366580439587226 := by decide +kernel
theorem sq_d1 : FP.dadd 4591870180066957722 FP.dconst0 = 4591870180066957722 := by decide +kernel
theorem sq_a0 : FP.dadd 4587366580439587226 4587366580439587226 = sqk 1 := by decide +kernel
theorem sq_a1 : FP.dadd 4591870180066957722 4587366580439587226 = sqk 2 := by decide +kernel
noncomputable def sqw (mat wm : Int32) : Nat := (if mat = 0 then 0 else 1) + (if 0 < wm then 1 else 0)


