
theorem add_i {x y : Int32} (hx : -100000000 ≤ x.toInt ∧ x.toInt ≤ 100000000) (hy : -100000000 ≤ y.toInt ∧ y.toInt ≤ 100000000) : (x + y).toInt = x.toInt + y.toInt := by
  rw [Int32.toInt_add]
  exact Int.bmod_eq_of_le (by omega) (by omega)
theorem sub_i {x y : Int32} (hx : -100000000 ≤ x.toInt ∧ x.toInt ≤ 100000000) (hy : -100000000 ≤ y.toInt ∧ y.toInt ≤ 100000000) : (x - y).toInt = x.toInt - y.toInt := by
  rw [Int32.toInt_sub]
  exact Int.bmod_eq_of_le (by omega) (by omega)
theorem neg_i {x : Int32} (hx : -100000000 ≤ x.toInt ∧ x.toInt ≤ 100000000) : (-x).toInt = -x.toInt := by
  rw [Int32.toInt_neg]
  exact Int.bmod_eq_of_le (by omega) (by omega)
/-- a warmth lies between the day's two -/
theorem wN_bd {lo hi : Nat → Int32} {j : Nat} (h : -400 ≤ (lo (j / 24)).toInt ∧ (lo (j / 24)).toInt ≤ (hi (j / 24)).toInt ∧ (hi (j / 24)).toInt ≤ 200) : -400 ≤ (wN lo hi j).toInt ∧ (wN lo hi j).toInt ≤ 200 := by
  unfold wN
  have hd : (hi (j / 24) - lo (j / 24)).toInt = (hi (j / 24)).toInt - (lo (j / 24)).toInt := sub_i (by omega) (by omega)
  obtain ⟨d, hd6, ed⟩ := toN (p := hi (j / 24) - lo (j / 24)) (k := 600) (by omega) (by omega) (by decide)
  have hk : ∃ k, k ≤ 12 ∧ (if j % 24 ≤ 12 then nI (j % 24) else 24 - nI (j % 24)) = nI k := by
    by_cases q : j % 24 ≤ 12
    · exact ⟨j % 24, q, if_pos q⟩
    · exact ⟨24 - j % 24, by omega, (if_neg q).trans (pk_sub (a := 24) (b := j % 24) (by omega))⟩
  obtain ⟨k, hk12, ek⟩ := hk
  rw [ek, ed]
  rw [ed, nI_toInt (by omega)] at hd
  have em : nI d * nI k = nI (d * k) := pk_mul d k
  have hm : d * k ≤ d * 12 := Nat.mul_le_mul_left d hk12
  have e2 : nI (d * k) / 12 = nI (d * k / 12) := pk_div (a := d * k) (d := 12) (by omega) (by decide) (by decide)
  have hq : d * k / 12 ≤ d := by omega
  rw [em, e2, add_i (by omega) (by rw [nI_toInt (by omega)]; omega), nI_toInt (by omega)]
  omega
theorem isI_upd {n k : Nat} {f : Nat → Int32} {x : Int32} (h : isI n f) (hx : 0 ≤ x.toInt ∧ x.toInt ≤ 2000) : isI n (upd f k x) := fun j hj => by
  unfold upd
  by_cases e : j = k
  · rw [if_pos e]; exact hx
  · rw [if_neg e]; exact h j hj
theorem fr2_den {x : Int32} (hx : (0 : Int) ≤ x.toInt ∧ x.toInt ≤ 2000) : ∃ j : Nat, j ≤ 2000 ∧ x = nI j ∧ (10 : Int32) + x / 20 = nI (10 + j / 20) := by
  obtain ⟨j, hj, rfl⟩ := toN (p := x) (k := 2000) hx.1 hx.2 (by decide)
  refine ⟨j, hj, rfl, ?_⟩
  rw [show (nI j : Int32) / 20 = nI (j / 20) from pk_div (a := j) (d := 20) (by omega) (by decide) (by decide)]
  exact nI_add 10 (j / 20)
theorem fr2_ne {x : Int32} (hx : (0 : Int) ≤ x.toInt ∧ x.toInt ≤ 2000) : ¬ (10 : Int32) + x / 20 = 0 := by
  obtain ⟨j, hj, -, e⟩ := fr2_den hx
  rw [e]
  exact nI_ne0 (by omega) (by omega)
theorem fr2_inv {x v : Int32} (hx : (0 : Int) ≤ x.toInt ∧ x.toInt ≤ 2000) (hv : (-400 : Int) ≤ v.toInt ∧ v.toInt < 0) : (0 : Int) ≤ (x + (if -v / (10 + x / 20) < 2000 - x then -v / (10 + x / 20) else 2000 - x)).toInt ∧ (x + (if -v / (10 + x / 20) < 2000 - x then -v / (10 + x / 20) else 2000 - x)).toInt ≤ 2000 := by
  obtain ⟨j, hj, ex, e⟩ := fr2_den hx
  have en : (-v).toInt = -v.toInt := neg_i (by omega)
  obtain ⟨k, hk, ek⟩ := toN (p := -v) (k := 400) (by omega) (by omega) (by decide)
  rw [e, ek, ex]
  rw [show (nI k : Int32) / nI (10 + j / 20) = nI (k / (10 + j / 20)) from pk_div (by omega) (by omega) (by omega)]
  rw [show (2000 : Int32) - nI j = nI (2000 - j) from pk_sub (a := 2000) hj]
  have hd : k / (10 + j / 20) ≤ k := Nat.div_le_self _ _
  generalize k / (10 + j / 20) = q at hd ⊢
  by_cases h : (nI q : Int32) < nI (2000 - j)
  · rw [if_pos h]
    rw [Int32.lt_iff_toInt_lt, nI_toInt (by omega), nI_toInt (by omega)] at h
    rw [nI_add, nI_toInt (by omega)]
    omega
  · rw [if_neg h, nI_add, nI_toInt (by omega)]
    omega
theorem fr2_max {x v : Int32} (hx : (0 : Int) ≤ x.toInt ∧ x.toInt ≤ 2000) (hv : (0 : Int) < v.toInt ∧ v.toInt ≤ 200) : (0 : Int) ≤ (if 0 < x - v / 10 then x - v / 10 else 0 : Int32).toInt ∧ (if 0 < x - v / 10 then x - v / 10 else 0 : Int32).toInt ≤ 2000 := by
  obtain ⟨j, hj, rfl⟩ := toN (p := x) (k := 2000) hx.1 hx.2 (by decide)
  obtain ⟨k, hk, rfl⟩ := toN (p := v) (k := 200) (by omega) (by omega) (by decide)
  rw [show (nI k : Int32) / 10 = nI (k / 10) from pk_div (a := k) (d := 10) (by omega) (by decide) (by decide)]
  have es := pk_sub_toInt (a := j) (b := k / 10) (by omega) (by omega)
  by_cases h : (0 : Int32) < nI j - nI (k / 10)
  · rw [if_pos h, es]
    rw [Int32.lt_iff_toInt_lt, es] at h
    have z : (0 : Int32).toInt = 0 := by decide
    omega
  · rw [if_neg h]
    exact ⟨by decide, by decide⟩

theorem ncmp32 {x : UInt32} (h : FP.Core.fIsNaN x = false) : Op.cmpValue (FP.fcmp x x) .l = (0 : Int32) := by
  rw [show FP.fcmp x x = some .eq from FP.Core.fcmp_self ((FP.Core.notNaN_iff32 x).mp h)]
  rfl

