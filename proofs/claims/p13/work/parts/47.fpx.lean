
noncomputable def FM (K : Nat) (x : UInt32) : Prop := x.toNat % 2147483648 < K * 8388608
theorem nn32 {x : UInt32} (h : FP.Core.fIsNaN x = false) : vf_n32 x := Jvm.Free.Fl.noNaN32_no.mpr h
theorem nn64 {x : UInt64} (h : FP.Core.dIsNaN x = false) : vf_n64 x := Jvm.Free.Fl.noNaN64_no.mpr h
theorem FM.nn {K : Nat} {x : UInt32} (h : FM K x) (hK : K ≤ 255) : FP.Core.fIsNaN x = false := (FP.Core.fin_of_lt32 (K := K) h hK).notNaN
theorem FM.mono {K L : Nat} {x : UInt32} (h : FM K x) (hK : K ≤ L) : FM L x := Nat.lt_of_lt_of_le h (Nat.mul_le_mul_right _ hK)
theorem FM.mul {K : Nat} {x c : UInt32} (h : FM K x) (hc : FM 127 c) (hK : 2 ≤ K ∧ K ≤ 255) : FM (K + 1) (FP.fmul x c) := by
  have e := FP.Core.fmul_mag (a := x) (b := c) (Ka := K) (Kb := 127) h hc hK.2 (by decide)
  exact Nat.lt_of_lt_of_le e (Nat.mul_le_mul_right _ (by omega))
theorem FM.add {K : Nat} {x c : UInt32} (h : FM K x) (hc : FM K c) (hK : K ≤ 255) : FM (K + 2) (FP.fadd x c) := FP.Core.fadd_mag (a := x) (b := c) (K := K) h hc hK
theorem fc2_fin : FP.Core.FFin FP.fconst2 := (FP.Core.fin_bits32 _).mpr (by decide +kernel)
theorem fc1_fin : FP.Core.FFin FP.fconst1 := (FP.Core.fin_bits32 _).mpr (by decide +kernel)
noncomputable def cofF (d : FP.Core.Datum) : Nat := match d with | .fin _ c _ => c | _ => 0
theorem fnz {x : UInt32} (h0 : cofF (FP.Core.val32 x) ≠ 0) : ¬ FP.Core.FZero x := fun ⟨s, q, h⟩ => h0 (congrArg cofF h)
theorem dnz {x : UInt64} (h0 : cofF (FP.Core.val64 x) ≠ 0) : ¬ FP.Core.DZero x := fun ⟨s, q, h⟩ => h0 (congrArg cofF h)
theorem fc2_nz : ¬ FP.Core.FZero FP.fconst2 := fnz (by decide +kernel)
theorem c23_fin : FP.Core.FFin 1258291200 := (FP.Core.fin_bits32 _).mpr (by decide +kernel)
theorem c23_nz : ¬ FP.Core.FZero 1258291200 := fnz (by decide +kernel)
theorem i32_pos {x : Int32} {k : Int} (h : 0 ≤ x.toInt ∧ x.toInt ≤ k) (hn : ¬ x = 0) : 0 < x.toInt := by
  rcases Int.lt_or_eq_of_le h.1 with q | q
  · exact q
  · exact absurd (Int32.toInt_inj.mp (q.symm.trans (by decide : (0 : Int) = (0 : Int32).toInt))) hn
theorem i2f_tab : ∀ j, j < 4 → 0 < j → cofF (FP.Core.val32 (FP.i2f (nI j))) ≠ 0 := by decide +kernel
theorem i2f_nz {n : Int32} (h : 0 < n.toInt ∧ n.toInt ≤ 3) : ¬ FP.Core.FZero (FP.i2f n) := by
  obtain ⟨j, hj, rfl⟩ := toN (p := n) (k := 3) (by omega) (by omega) (by decide)
  rw [nI_toInt (by omega)] at h
  exact fnz (i2f_tab j (by omega) (by omega))
theorem d48_fin : FP.Core.DFin 4631952216750555136 := (FP.Core.fin_bits _).mpr (by decide +kernel)
theorem d48_nz : ¬ FP.Core.DZero 4631952216750555136 := dnz (by decide +kernel)
theorem d05_fin : FP.Core.DFin 4587366580439587226 := (FP.Core.fin_bits _).mpr (by decide +kernel)
theorem i2d_tab : ∀ j, j < 49 → 0 < j → cofF (FP.Core.val64 (FP.i2d (nI j))) ≠ 0 := by decide +kernel
theorem i2d_nz {n : Int32} (h : 0 < n.toInt ∧ n.toInt ≤ 48) : ¬ FP.Core.DZero (FP.i2d n) := by
  obtain ⟨j, hj, rfl⟩ := toN (p := n) (k := 48) (by omega) (by omega) (by decide)
  rw [nI_toInt (by omega)] at h
  exact dnz (i2d_tab j (by omega) (by omega))
/-- 0.05 times a number of cells is no infinity: its size is bounded -/
theorem d05_out {a : UInt64} {n : Int32} (ha : FP.Core.dIsNaN a = false) : FP.Core.dIsNaN (FP.dsub a (FP.dmul 4587366580439587226 (FP.i2d n))) = false := by
  have h1 := FP.Core.dmul_mag (a := 4587366580439587226) (b := FP.i2d n) (Ka := 1020) (Kb := 1056) (by decide +kernel) (FP.Core.i2d_mag n) (by decide) (by decide)
  exact FP.Core.dsub_out ha (FP.Core.fin_of_lt (K := 1056) (Nat.lt_of_lt_of_le h1 (Nat.mul_le_mul_right _ (by decide))) (by decide))

