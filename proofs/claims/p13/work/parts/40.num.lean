
noncomputable def wN (lo hi : Nat → Int32) (j : Nat) : Int32 := lo (j / 24) + (hi (j / 24) - lo (j / 24)) * (if j % 24 ≤ 12 then nI (j % 24) else 24 - nI (j % 24)) / 12
noncomputable def wOf (lo hi : Nat → Int32) (h : Int32) : Int32 := if 0 ≤ h.toInt ∧ h.toInt ≤ 503 then wN lo hi h.toInt.toNat else -150
noncomputable def xN (lo hi hu : Nat → Int32) (j : Nat) : Int32 := wN lo hi j - (100 - hu (j / 24)) / 2
noncomputable def xOf (lo hi hu : Nat → Int32) (h : Int32) : Int32 := if 0 ≤ h.toInt ∧ h.toInt ≤ 503 then xN lo hi hu h.toInt.toNat else -150
theorem wOf_in {lo hi : Nat → Int32} {j : Nat} (hj : j ≤ 503) : wOf lo hi (nI j) = wN lo hi j := by
  have e : (nI j).toInt = (j : Int) := nI_toInt (by omega)
  unfold wOf
  rw [if_pos ⟨by omega, by omega⟩, e]
  rfl
theorem wOf_out {lo hi : Nat → Int32} {h : Int32} (q : ¬ (0 ≤ h.toInt ∧ h.toInt ≤ 503)) : (-150 : Int32) = wOf lo hi h := (if_neg q).symm
theorem wOf_1 {lo hi : Nat → Int32} {j : Nat} (hj : j ≤ 503) (h : j % 24 ≤ 12) : lo (j / 24) + (hi (j / 24) - lo (j / 24)) * nI (j % 24) / 12 = wOf lo hi (nI j) := by
  rw [wOf_in hj]
  unfold wN
  rw [if_pos h]
theorem wOf_2 {lo hi : Nat → Int32} {j : Nat} (hj : j ≤ 503) (h : ¬ j % 24 ≤ 12) : lo (j / 24) + (hi (j / 24) - lo (j / 24)) * (24 - nI (j % 24)) / 12 = wOf lo hi (nI j) := by
  rw [wOf_in hj]
  unfold wN
  rw [if_neg h]
theorem xOf_in {lo hi hu : Nat → Int32} {j : Nat} (hj : j ≤ 503) : wOf lo hi (nI j) - (100 - hu (j / 24)) / 2 = xOf lo hi hu (nI j) := by
  have e : (nI j).toInt = (j : Int) := nI_toInt (by omega)
  rw [wOf_in hj]
  unfold xOf
  rw [if_pos ⟨by omega, by omega⟩, e]
  rfl
theorem xOf_out {lo hi hu : Nat → Int32} {h : Int32} (q : ¬ (0 ≤ h.toInt ∧ h.toInt ≤ 503)) : (-150 : Int32) = xOf lo hi hu h := (if_neg q).symm
theorem m1_3 {x : Int32} (h : 0 ≤ x.toInt ∧ x.toInt ≤ 3) : (x - 1).toInt = x.toInt - 1 := by
  obtain ⟨j, hj, rfl⟩ := toN (k := 3) h.1 (by omega) (by decide)
  rcases j with _ | j
  · decide
  · rw [nI_pred, nI_toInt (by omega), nI_toInt (by omega)]
    omega
theorem nar01 (x : Int32) : vp_nar .boolean x = 0 ∨ vp_nar .boolean x = 1 := by
  obtain ⟨j, hj, e⟩ := pk_andE x (m := 1) 1 (by decide)
  have e2 : vp_nar .boolean x = nI j := e
  rcases j with _ | _ | j
  · exact Or.inl e2
  · exact Or.inr e2
  · omega
theorem narC (x : Int32) : vp_nar .char (vp_nar .char x) = vp_nar .char x := by
  rw [vp_nar_char, vp_nar_char]
  simp
  exact congrArg UInt32.toInt32 (UInt32.toNat_inj.mp (by rw [UInt32.toNat_mod, UInt32.toNat_mod]; exact Nat.mod_mod _ _))
theorem z01n {x : Int32} (h : x = 0 ∨ x = 1) : narrow .boolean (.int x) = .int x := by rcases h with rfl | rfl <;> rfl
theorem z01f {x : Int32} (h : x = 0 ∨ x = 1) : fits .boolean (.int x) = true := by rcases h with rfl | rfl <;> decide
theorem or01 {x : Int32} {p : Prop} (h : x = 0 ∨ (x = 1 ∧ p)) : x = 0 ∨ x = 1 := h.elim Or.inl (fun q => Or.inr q.1)
theorem bI_01 {c : Prop} [Decidable c] {r : Int32} (h : r = bI c) : r = 0 ∨ r = 1 := by
  by_cases q : c
  · exact Or.inr (bI_t1 h q)
  · exact Or.inl (bI_f0 h q)
theorem and01 {x y : Int32} (hx : x = 0 ∨ x = 1) (hy : y = 0 ∨ y = 1) : x &&& y = 0 ∨ x &&& y = 1 := by
  rcases hx with rfl | rfl <;> rcases hy with rfl | rfl <;> decide

