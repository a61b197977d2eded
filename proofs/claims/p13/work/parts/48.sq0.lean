/-! the bits of a double as the class makes them -/
noncomputable def n64b (r : UInt64) : Bool := decide (r &&& 0x7fffffffffffffff ≤ 0x7ff0000000000000)
theorem n64b_of {r : UInt64} (h : n64b r = true) : vf_n64 r :=
  show r &&& 0x7fffffffffffffff ≤ 0x7ff0000000000000 from of_decide_eq_true (p := r &&& 0x7fffffffffffffff ≤ 0x7ff0000000000000) h
noncomputable def ge2 (d : UInt64) : Bool := ! decide (Op.cmpValue (FP.dcmp d 4611686018427387904) .l < (0 : Int32))
noncomputable def lt1 (d : UInt64) : Bool := ! decide ((0 : Int32) ≤ Op.cmpValue (FP.dcmp d FP.dconst1) .g)
noncomputable def pos (x : UInt64) : Bool := ! decide (Op.cmpValue (FP.dcmp x FP.dconst0) .l ≤ (0 : Int32))
theorem pos_le {x : UInt64} : pos x = true ↔ ¬ Op.cmpValue (FP.dcmp x FP.dconst0) .l ≤ (0 : Int32) := by unfold pos; simp
theorem pos_lt {x : UInt64} : pos x = true ↔ (0 : Int32) < Op.cmpValue (FP.dcmp x FP.dconst0) .l := by rw [pos_le]; exact Int32.not_le
noncomputable def bd1 : Nat → UInt64 → Int64 → UInt64 × Int64
  | 0, d, e => (d, e)
  | n + 1, d, e => if ge2 d = true then bd1 n (FP.ddiv d 4611686018427387904) (e + 1) else (d, e)
noncomputable def bd1ok : Nat → UInt64 → Bool
  | 0, _ => true
  | n + 1, d => if ge2 d = true then n64b (FP.ddiv d 4611686018427387904) && bd1ok n (FP.ddiv d 4611686018427387904) else true
noncomputable def bd2 : Nat → UInt64 → Int64 → UInt64 × Int64
  | 0, d, e => (d, e)
  | n + 1, d, e => if lt1 d = true then bd2 n (FP.dmul d 4611686018427387904) (e - 1) else (d, e)
noncomputable def bd2ok : Nat → UInt64 → Bool
  | 0, _ => true
  | n + 1, d => if lt1 d = true then n64b (FP.dmul d 4611686018427387904) && bd2ok n (FP.dmul d 4611686018427387904) else true
theorem bd1_step {i : Nat} {d : UInt64} {e : Int64} {R : UInt64 × Int64} (hi : i < 1023) (h : bd1 (1023 - i) d e = R ∧ bd1ok (1023 - i) d = true) (hg : ge2 d = true) : n64b (FP.ddiv d 4611686018427387904) = true ∧ bd1 (1023 - (i + 1)) (FP.ddiv d 4611686018427387904) (e + 1) = R ∧ bd1ok (1023 - (i + 1)) (FP.ddiv d 4611686018427387904) = true := by
  rw [show 1023 - i = (1023 - (i + 1)) + 1 by omega] at h
  generalize 1023 - (i + 1) = n at h ⊢
  rw [bd1, bd1ok, if_pos hg, if_pos hg, Bool.and_eq_true] at h
  exact ⟨h.2.1, h.1, h.2.2⟩
theorem bd1_stop {i : Nat} {d : UInt64} {e : Int64} {R : UInt64 × Int64} (hi : i < 1023) (h : bd1 (1023 - i) d e = R ∧ bd1ok (1023 - i) d = true) (hg : ge2 d = false) : bd1 (1023 - 1023) d e = R ∧ bd1ok (1023 - 1023) d = true := by
  rw [show 1023 - i = (1023 - (i + 1)) + 1 by omega] at h
  generalize 1023 - (i + 1) = n at h
  rw [bd1, if_neg (by rw [hg]; decide)] at h
  exact ⟨h.1, rfl⟩
theorem bd2_step {i : Nat} {d : UInt64} {e : Int64} {R : UInt64 × Int64} (hi : i < 1022) (h : bd2 (1022 - i) d e = R ∧ bd2ok (1022 - i) d = true) (hg : lt1 d = true) : n64b (FP.dmul d 4611686018427387904) = true ∧ bd2 (1022 - (i + 1)) (FP.dmul d 4611686018427387904) (e - 1) = R ∧ bd2ok (1022 - (i + 1)) (FP.dmul d 4611686018427387904) = true := by
  rw [show 1022 - i = (1022 - (i + 1)) + 1 by omega] at h
  generalize 1022 - (i + 1) = n at h ⊢
  rw [bd2, bd2ok, if_pos hg, if_pos hg, Bool.and_eq_true] at h
  exact ⟨h.2.1, h.1, h.2.2⟩
theorem bd2_stop {i : Nat} {d : UInt64} {e : Int64} {R : UInt64 × Int64} (hi : i < 1022) (h : bd2 (1022 - i) d e = R ∧ bd2ok (1022 - i) d = true) (hg : lt1 d = false) : bd2 (1022 - 1022) d e = R ∧ bd2ok (1022 - 1022) d = true := by
  rw [show 1022 - i = (1022 - (i + 1)) + 1 by omega] at h
  generalize 1022 - (i + 1) = n at h
  rw [bd2, if_neg (by rw [hg]; decide)] at h
  exact ⟨h.1, rfl⟩
noncomputable def bdm (d : UInt64) : UInt64 := FP.dmul (FP.dsub d FP.dconst1) 4841369599423283200
noncomputable def bd (x : UInt64) : Int64 := ((bd2 1022 (bd1 1023 x 1023).1 (bd1 1023 x 1023).2).2 <<< ((52 : Int32).toInt64 &&& 63)) + FP.d2l (bdm (bd2 1022 (bd1 1023 x 1023).1 (bd1 1023 x 1023).2).1)
noncomputable def bdr (x : UInt64) : Int64 := if pos x = true then bd x else 0
noncomputable def bdok (x : UInt64) : Bool := bd1ok 1023 x && (bd2ok 1022 (bd1 1023 x 1023).1 && (n64b (FP.dsub (bd2 1022 (bd1 1023 x 1023).1 (bd1 1023 x 1023).2).1 FP.dconst1) && n64b (bdm (bd2 1022 (bd1 1023 x 1023).1 (bd1 1023 x 1023).2).1)))
theorem bdok_of {x : UInt64} (h : bdok x = true) : bd1ok 1023 x = true ∧ bd2ok 1022 (bd1 1023 x 1023).1 = true ∧ n64b (FP.dsub (bd2 1022 (bd1 1023 x 1023).1 (bd1 1023 x 1023).2).1 FP.dconst1) = true ∧ n64b (bdm (bd2 1022 (bd1 1023 x 1023).1 (bd1 1023 x 1023).2).1) = true := by
  unfold bdok at h
  rw [Bool.and_eq_true, Bool.and_eq_true, Bool.and_eq_true] at h
  exact h
theorem bd_k2 {x d1 : UInt64} {e1 : Int64} (hr : bd1 (1023 - 1023) d1 e1 = bd1 1023 x 1023) (h : bd2ok 1022 (bd1 1023 x 1023).1 = true) : bd2ok (1022 - 0) d1 = true := by
  rw [← hr] at h
  exact h
theorem bd_n3 {x d1 d2 : UInt64} {e1 e2 : Int64} (hr : bd1 (1023 - 1023) d1 e1 = bd1 1023 x 1023) (h2 : bd2 (1022 - 1022) d2 e2 = bd2 1022 d1 e1 ∧ bd2ok (1022 - 1022) d2 = true) (h : n64b (FP.dsub (bd2 1022 (bd1 1023 x 1023).1 (bd1 1023 x 1023).2).1 FP.dconst1) = true) : n64b (FP.dsub d2 FP.dconst1) = true := by
  rw [← hr] at h
  have e : bd2 1022 (bd1 (1023 - 1023) d1 e1).1 (bd1 (1023 - 1023) d1 e1).2 = (d2, e2) := h2.1.symm
  rw [e] at h
  exact h
theorem bd_n4 {x d1 d2 : UInt64} {e1 e2 : Int64} (hr : bd1 (1023 - 1023) d1 e1 = bd1 1023 x 1023) (h2 : bd2 (1022 - 1022) d2 e2 = bd2 1022 d1 e1 ∧ bd2ok (1022 - 1022) d2 = true) (h : n64b (bdm (bd2 1022 (bd1 1023 x 1023).1 (bd1 1023 x 1023).2).1) = true) : n64b (FP.dmul (FP.dsub d2 FP.dconst1) 4841369599423283200) = true := by
  rw [← hr] at h
  have e : bd2 1022 (bd1 (1023 - 1023) d1 e1).1 (bd1 (1023 - 1023) d1 e1).2 = (d2, e2) := h2.1.symm
  rw [e] at h
  exact h
theorem bd_eq {x d1 d2 : UInt64} {e1 e2 r : Int64} (hr : bd1 (1023 - 1023) d1 e1 = bd1 1023 x 1023) (h2 : bd2 (1022 - 1022) d2 e2 = bd2 1022 d1 e1 ∧ bd2ok (1022 - 1022) d2 = true) (h : r = (e2 <<< ((52 : Int32).toInt64 &&& 63)) + FP.d2l (FP.dmul (FP.dsub d2 FP.dconst1) 4841369599423283200)) : r = bd x := by
  unfold bd bdm
  rw [← hr]
  have e : bd2 1022 (bd1 (1023 - 1023) d1 e1).1 (bd1 (1023 - 1023) d1 e1).2 = (d2, e2) := h2.1.symm
  rw [e]
  exact h
noncomputable def sqk (w : Nat) : UInt64 := if w = 0 then 4587366580439587226 else if w = 1 then 4591870180066957722 else 4594572339843380020
noncomputable def sqy (w : Nat) (q : Nat) : UInt64 := FP.dmul (sqk w) (FP.i2d (nI q))
noncomputable def sqx (w : Nat) (p q : Nat) : UInt64 := FP.dsub (FP.i2d (nI p)) (sqy w q)
noncomputable def sqv (w : Nat) (p q : Nat) : UInt64 := FP.dmul 4626215756725191967 (sqx w p q)
noncomputable def nnan (v : UInt64) : Prop := Op.cmpValue (FP.dcmp v v) .l = (0 : Int32)
noncomputable def sqok (w : Nat) (p q : Nat) : Bool := n64b (sqy w q) && (n64b (sqx w p q) && (n64b (sqv w p q) && ((pos (sqx w p q) == pos (sqv w p q)) && (decide (Op.cmpValue (FP.dcmp (sqv w p q) (sqv w p q)) .l = (0 : Int32)) && (! pos (sqx w p q) || (bdok (sqv w p q) && (bd (sqv w p q) == (sqv w p q).toInt64)))))))

