/-! the class and the reference side by side -/
noncomputable def mrow (g : Gh) (m j k : Nat) : Int32 := pI g ((pO g (pF g m 0) j).getD 0) k
noncomputable def LR (g : Gh) (o m : Nat) : Prop := pI g o 1 = pI g m 0 ∧ pI g o 2 = pI g m 1 ∧ pI g o 0 = pI g (pF g m 5) 0 ∧
  (∀ j, j < 21 → pI g (pF g (pF g o 0) 0) j = mrow g m j 0 ∧ pI g (pF g (pF g o 0) 1) j = mrow g m j 1 ∧ pI g (pF g (pF g o 0) 3) j = mrow g m j 3) ∧
  ∀ j : Nat, (j : Int) < (pI g o 0).toInt → ∀ a c, pO g (pF g o 2) j = some a → pO g (pF g (pF g m 5) 0) j = some c → pI g a 0 = pI g c 0 ∧ ∀ y x, y < 6 → x < 8 → pI g (pF g a 5) (8 * y + x) = pI g (pF g (pF g c 1) y) x
/-- the tags that the relation speaks of; no told number is in it -/
noncomputable def TGS (g : Gh) (o m : Nat) : Prop := tg g o = 1 ∧ tg g m = 17 ∧ tg g (pF g o 0) = 2 ∧ tg g (pF g o 2) = 4 ∧ tg g (pF g (pF g o 0) 0) = 5 ∧ tg g (pF g (pF g o 0) 1) = 6 ∧ tg g (pF g (pF g o 0) 2) = 7 ∧ tg g (pF g (pF g o 0) 3) = 8 ∧ tg g (pF g m 5) = 26 ∧ tg g (pF g m 0) = 18 ∧ (∀ j, j < 21 → tg g ((pO g (pF g m 0) j).getD 0) = 22) ∧
  ∀ j a c : Nat, (j : Int) < (pI g o 0).toInt → pO g (pF g o 2) j = some a → pO g (pF g (pF g m 5) 0) j = some c → tg g a = 12 + 64 * j ∧ tg g c = 28 + 64 * j ∧ tg g (pF g a 5) = 16 + 64 * j ∧ tg g (pF g c 1) = 32 + 64 * j ∧ ∀ y, y < 6 → tg g (pF g (pF g c 1) y) = 33 + 64 * (8 * j + y)
/-- how many sites the class has, and that the list is an array then -/
noncomputable def NSI (g : Gh) (o m : Nat) : Prop := (0 ≤ (pI g o 0).toInt ∧ (pI g o 0).toInt ≤ 3) ∧ ((pI g o 0).toInt ≠ 0 → tg g (pF g (pF g m 5) 0) = 27)
section LRL
variable {D : va_G} {kA : Nat → ClassId} {b o m : Nat} {g u w : Gh} {H : Heap} {X : Nat → Prop}
theorem NSI.of (hM : TM D kA b g H) (ho : tg g o = 1) (hm : tg g m = 17) (h : LR g o m) : NSI g o m := by
  obtain ⟨_, _, _, _, -, h1⟩ := o_sno (i := 0) (q := o) hM (by omega)
  obtain ⟨h26, -, -⟩ := mo_list hM hm
  obtain ⟨-, hl⟩ := o_al (i := 0) (q := pF g m 5) hM (by omega)
  exact ⟨h1.2.2.2.1, fun hz => hl.2.1 (by rw [← h.2.2.1]; exact hz)⟩
theorem TGS.of (hM : TM D kA b g H) (ho : tg g o = 1) (hm : tg g m = 17) (hN : NSI g o m) : TGS g o m := by
  obtain ⟨_, _, _, _, -, h1⟩ := o_sno (i := 0) (q := o) hM (by omega)
  have hs := h1.1
  have h4 := h1.2.2.1
  obtain ⟨-, h5⟩ := o_sky (i := 0) (q := pF g o 0) hM (by omega)
  obtain ⟨_, _, -, h7⟩ := o_mo (i := 0) (q := m) hM (by omega)
  have h18 := h7.1
  have h26 := h7.2.2.2.2.2.1
  obtain ⟨-, hd⟩ := o_da (i := 0) (q := pF g m 0) hM (by omega)
  obtain ⟨-, h2⟩ := o_sit (i := 0) (q := pF g o 2) hM (by omega)
  refine ⟨ho, hm, hs, h4, h5.1, h5.2.1, h5.2.2.1, h5.2.2.2, h26, h18, fun j hj => (hd j hj).2, fun j a c hj ha hc => ?_⟩
  have hj3 : j < 3 := by have := hN.1; omega
  have h27 : tg g (pF g (pF g m 5) 0) = 27 := hN.2 (by omega)
  have hta := h2 j hj3 a ha
  obtain ⟨-, he⟩ := o_el (i := 0) (q := pF g (pF g m 5) 0) hM (by omega)
  have htc := he j (by omega) c hc
  obtain ⟨_, _, _, _, _, _, -, h8⟩ := o_st (i := j) (q := a) hM (by omega)
  obtain ⟨_, _, _, _, _, _, -, h6⟩ := o_ms (i := j) (q := c) hM (by omega)
  have h32 := h6.2.1
  obtain ⟨-, h9⟩ := o_po (i := j) (q := pF g c 1) hM (by omega)
  exact ⟨hta, htc, h8.2.2.2.2.2.1, h32, h9⟩
/-- what is told goes on by Ext: the relation stays (what was thrown is not in it) -/
theorem LR.ext (h : LR g o m) (hT : TGS g o m) (hN : NSI g o m) (hx : Ext m X g u) (hX : ¬ X 4 ∧ ¬ X 18 ∧ ¬ X 27) : LR u o m := by
  obtain ⟨ho, hm, t1, t2, t3, t4, t5, t6, t7, t8, t9, ts⟩ := hT
  have hom : o ≠ m := fun e => by rw [e] at ho; omega
  obtain ⟨h1, h2, h3, h4, h5⟩ := h
  have eo : pF u o = pF g o := hx.f (q := o) (by omega)
  have em : pF u m = pF g m := hx.f (q := m) (by omega)
  have es : pF u (pF g o 0) = pF g (pF g o 0) := hx.f (q := pF g o 0) (by omega)
  have ed : pO u (pF g m 0) = pO g (pF g m 0) := hx.o (q := pF g m 0) (by omega) (by rw [t8]; exact hX.2.1)
  have hI : ∀ q, tg g q ≠ 0 → tg g q ≠ 17 → ∀ j, pI u q j = pI g q j := fun q hq h17 j => hx.i hq (Or.inl (fun e => h17 (by rw [e]; exact hm)))
  refine ⟨?_, ?_, ?_, fun j hj => ?_, fun j hj a c ha hc => ?_⟩
  · rw [hI o (by omega) (by omega), hx.i (q := m) (j := 0) (by omega) (Or.inr (by decide))]
    exact h1
  · rw [hI o (by omega) (by omega), hx.i (q := m) (j := 1) (by omega) (Or.inr (by decide))]
    exact h2
  · rw [hI o (by omega) (by omega), em, hI _ (by omega) (by omega)]
    exact h3
  · have h9 := t9 j hj
    unfold mrow
    rw [eo, es, em, ed, hI (pF g (pF g o 0) 0) (by omega) (by omega), hI (pF g (pF g o 0) 1) (by omega) (by omega), hI (pF g (pF g o 0) 3) (by omega) (by omega), hI _ (by omega) (by omega), hI _ (by omega) (by omega), hI _ (by omega) (by omega)]
    exact h4 j hj
  · rw [hI o (by omega) (by omega)] at hj
    have hj3 : j < 3 := by have := hN.1; omega
    have t27 : tg g (pF g (pF g m 5) 0) = 27 := hN.2 (by omega)
    rw [eo, hx.o (q := pF g o 2) (by omega) (by rw [t2]; exact hX.1)] at ha
    rw [em, hx.f (q := pF g m 5) (by omega), hx.o (q := pF g (pF g m 5) 0) (by omega) (by rw [t27]; exact hX.2.2)] at hc
    obtain ⟨s1, s2, s4, s5, s6⟩ := ts j a c hj ha hc
    obtain ⟨k1, k2⟩ := h5 j hj a c ha hc
    refine ⟨?_, fun y x hy hx8 => ?_⟩
    · rw [hI a (by omega) (by omega), hI c (by omega) (by omega)]
      exact k1
    · have s7 := s6 y hy
      rw [hx.f (q := a) (by omega), hx.f (q := c) (by omega), hx.f (q := pF g c 1) (by omega), hI _ (by omega) (by omega), hI _ (by omega) (by omega)]
      exact k2 y x hy hx8
theorem LR.ext0 (h : LR g o m) (hT : TGS g o m) (hN : NSI g o m) (hx : Ext m X0 g u) : LR u o m := h.ext hT hN hx ⟨fun z => z, fun z => z, fun z => z⟩
theorem LR.extA (h : LR g o m) (hT : TGS g o m) (hN : NSI g o m) (hx : Ext m XA g u) : LR u o m := h.ext hT hN hx ⟨fun z => absurd (show 4 % 64 = 30 from z) (by decide), fun z => absurd (show 18 % 64 = 30 from z) (by decide), fun z => absurd (show 27 % 64 = 30 from z) (by decide)⟩
theorem TGS.ext0 (h : TGS g o m) (hN : NSI g o m) (hx : Ext m X0 g u) : TGS u o m := by
  obtain ⟨ho, hm, t1, t2, t3, t4, t5, t6, t7, t8, t9, ts⟩ := h
  have eo : pF u o = pF g o := hx.f (q := o) (by omega)
  have em : pF u m = pF g m := hx.f (q := m) (by omega)
  have es : pF u (pF g o 0) = pF g (pF g o 0) := hx.f (q := pF g o 0) (by omega)
  have ed : pO u (pF g m 0) = pO g (pF g m 0) := hx.o (q := pF g m 0) (by omega) (fun z => z)
  have el : pF u (pF g m 5) = pF g (pF g m 5) := hx.f (q := pF g m 5) (by omega)
  refine ⟨hx.tk ho (by omega), hx.tk hm (by omega), ?_, ?_, ?_, ?_, ?_, ?_, ?_, ?_, fun j hj => ?_, fun j a c hj ha hc => ?_⟩
  · rw [eo]; exact hx.tk t1 (by omega)
  · rw [eo]; exact hx.tk t2 (by omega)
  · rw [eo, es]; exact hx.tk t3 (by omega)
  · rw [eo, es]; exact hx.tk t4 (by omega)
  · rw [eo, es]; exact hx.tk t5 (by omega)
  · rw [eo, es]; exact hx.tk t6 (by omega)
  · rw [em]; exact hx.tk t7 (by omega)
  · rw [em]; exact hx.tk t8 (by omega)
  · rw [em, ed]; exact hx.tk (t9 j hj) (by omega)
  · rw [hx.i (q := o) (by omega) (Or.inl (fun e => by rw [e] at ho; omega))] at hj
    have t27 : tg g (pF g (pF g m 5) 0) = 27 := hN.2 (by omega)
    rw [eo, hx.o (q := pF g o 2) (by omega) (fun z => z)] at ha
    rw [em, el, hx.o (q := pF g (pF g m 5) 0) (by omega) (fun z => z)] at hc
    obtain ⟨s1, s2, s4, s5, s6⟩ := ts j a c hj ha hc
    refine ⟨hx.tk s1 (by omega), hx.tk s2 (by omega), ?_, ?_, fun y hy => ?_⟩
    · rw [hx.f (q := a) (by omega)]; exact hx.tk s4 (by omega)
    · rw [hx.f (q := c) (by omega)]; exact hx.tk s5 (by omega)
    · rw [hx.f (q := c) (by omega), hx.f (q := pF g c 1) (by omega)]; exact hx.tk (s6 y hy) (by omega)
theorem NSI.ext0 (h : NSI g o m) (hT : TGS g o m) (hx : Ext m X0 g u) : NSI u o m := by
  have ho := hT.1
  have hm := hT.2.1
  have h26 := hT.2.2.2.2.2.2.2.2.1
  have e : pI u o 0 = pI g o 0 := hx.i (q := o) (by omega) (Or.inl (fun e => by rw [e] at ho; omega))
  refine ⟨by rw [e]; exact h.1, fun hz => ?_⟩
  rw [e] at hz
  rw [hx.f (q := m) (by omega), hx.f (q := pF g m 5) (by omega)]
  exact hx.tk (h.2 hz) (by omega)
theorem LR.uL {q : Nat} {f : Nat → Int64} (h : LR g o m) : LR (uL g q f) o m := h
/-- numbers of the two heads alone change -/
theorem LR.chg (h : LR g o m) (hT : TGS g o m) (hN : NSI g o m) (hF : pF w = pF g) (hO : pO w = pO g) (hI : ∀ q, q ≠ o → q ≠ m → pI w q = pI g q) (h1 : pI w o 1 = pI w m 0) (h2 : pI w o 2 = pI w m 1) (h0 : pI w o 0 = pI g o 0) : LR w o m := by
  obtain ⟨ho, hm, t1, t2, t3, t4, t5, t6, t7, t8, t9, ts⟩ := hT
  obtain ⟨-, -, h3, h4, h5⟩ := h
  have hI2 : ∀ q, tg g q ≠ 1 → tg g q ≠ 17 → pI w q = pI g q := fun q k1 k2 => hI q (fun e => k1 (by rw [e]; exact ho)) (fun e => k2 (by rw [e]; exact hm))
  refine ⟨h1, h2, ?_, fun j hj => ?_, fun j hj a c ha hc => ?_⟩
  · rw [hF, h0, hI2 _ (by omega) (by omega)]
    exact h3
  · have h9 := t9 j hj
    unfold mrow
    rw [hF, hO, hI2 (pF g (pF g o 0) 0) (by omega) (by omega), hI2 (pF g (pF g o 0) 1) (by omega) (by omega), hI2 (pF g (pF g o 0) 3) (by omega) (by omega), hI2 _ (by omega) (by omega)]
    exact h4 j hj
  · rw [h0] at hj
    rw [hF, hO] at ha hc
    have hj3 : j < 3 := by have := hN.1; omega
    have t27 : tg g (pF g (pF g m 5) 0) = 27 := hN.2 (by omega)
    obtain ⟨s1, s2, s4, s5, s6⟩ := ts j a c hj ha hc
    obtain ⟨k1, k2⟩ := h5 j hj a c ha hc
    refine ⟨?_, fun y x hy hx8 => ?_⟩
    · rw [hI2 a (by omega) (by omega), hI2 c (by omega) (by omega)]
      exact k1
    · have s7 := s6 y hy
      rw [hF, hI2 _ (by omega) (by omega), hI2 _ (by omega) (by omega)]
      exact k2 y x hy hx8
/-- machine -/
theorem LR.mach {x : Int32} (h : LR g o m) (hT : TGS g o m) (hN : NSI g o m) : LR (sI (sI (sI g o 2 x) m 2 0) m 1 x) o m := by
  have hom : o ≠ m := fun e => by have h1 := hT.1; have h2 := hT.2.1; rw [e] at h1; omega
  refine h.chg hT hN rfl rfl (fun q k1 k2 => funext fun j => ?_) ?_ ?_ ?_
  · rw [sI_ne (Or.inl k2), sI_ne (Or.inl k2), sI_ne (Or.inl k1)]
  · rw [sI_ne (Or.inl hom), sI_ne (Or.inl hom), sI_ne (Or.inr (by decide)), sI_ne (Or.inr (by decide)), sI_ne (Or.inr (by decide)), sI_ne (Or.inl (Ne.symm hom))]
    exact h.1
  · rw [sI_ne (Or.inl hom), sI_ne (Or.inl hom), sI_at, sI_at]
  · rw [sI_ne (Or.inl hom), sI_ne (Or.inl hom), sI_ne (Or.inr (by decide))]
/-- the clock -/
theorem LR.clock {x : Int32} (h : LR g o m) (hT : TGS g o m) (hN : NSI g o m) : LR (sI (sI g o 1 x) m 0 x) o m := by
  have hom : o ≠ m := fun e => by have h1 := hT.1; have h2 := hT.2.1; rw [e] at h1; omega
  refine h.chg hT hN rfl rfl (fun q k1 k2 => funext fun j => ?_) ?_ ?_ ?_
  · rw [sI_ne (Or.inl k2), sI_ne (Or.inl k1)]
  · rw [sI_ne (Or.inl hom), sI_at, sI_at]
  · rw [sI_ne (Or.inl hom), sI_ne (Or.inr (by decide)), sI_ne (Or.inr (by decide)), sI_ne (Or.inl (Ne.symm hom))]
    exact h.2.1
  · rw [sI_ne (Or.inl hom), sI_ne (Or.inr (by decide))]
theorem TGS.keep {q k : Nat} {x : Int32} (h : TGS g o m) (hq : q ≠ o ∨ k ≠ 0) : TGS (sI g q k x) o m := by
  have e : pI (sI g q k x) o 0 = pI g o 0 := sI_ne (hq.imp Ne.symm Ne.symm)
  unfold TGS
  rw [e]
  exact h
theorem NSI.keep {q k : Nat} {x : Int32} (h : NSI g o m) (hq : q ≠ o ∨ k ≠ 0) : NSI (sI g q k x) o m := by
  have e : pI (sI g q k x) o 0 = pI g o 0 := sI_ne (hq.imp Ne.symm Ne.symm)
  unfold NSI
  rw [e]
  exact h
/-- go: the class's clock, then the reference's hours -/
theorem LR.go {v : Gh} {c n : Nat} (h : LR g o m) (hT : TGS g o m) (hN : NSI g o m) (hv : Ext m X0 (sI g o 1 (nI (c + n))) v) (hu : Ext m XA (sI v m 0 (nI (c + n))) u) : LR u o m := by
  have hom : o ≠ m := fun e => by have h1 := hT.1; have h2 := hT.2.1; rw [e] at h1; omega
  have h1 : LR (sI (sI g o 1 (nI (c + n))) m 0 (nI (c + n))) o m := h.clock hT hN
  have hN1 : NSI (sI (sI g o 1 (nI (c + n))) m 0 (nI (c + n))) o m := (hN.keep (Or.inr (by decide))).keep (Or.inl (Ne.symm hom))
  have hT1 : TGS (sI (sI g o 1 (nI (c + n))) m 0 (nI (c + n))) o m := (hT.keep (Or.inr (by decide))).keep (Or.inl (Ne.symm hom))
  have h2 : LR (sI v m 0 (nI (c + n))) o m := h1.ext0 hT1 hN1 hv.setI
  have hT2 : TGS (sI v m 0 (nI (c + n))) o m := hT1.ext0 hN1 hv.setI
  have hN2 : NSI (sI v m 0 (nI (c + n))) o m := hN1.ext0 hT1 hv.setI
  exact h2.extA hT2 hN2 hu
/-- weather: a day of the class is written -/
theorem day_ne {j q k : Nat} {lo hi wi hu : Int32} (hT : TGS g o m) (hq : (tg g q ≠ 5 ∧ tg g q ≠ 6 ∧ tg g q ≠ 7 ∧ tg g q ≠ 8) ∨ k ≠ j) : pI (dayC g o j lo hi wi hu) q k = pI g q k := by
  obtain ⟨-, -, -, -, t3, t4, t5, t6, -⟩ := hT
  unfold dayC
  rw [sI_ne (hq.imp (fun z e => z.2.2.2 (by rw [e]; exact t6)) id), sI_ne (hq.imp (fun z e => z.2.2.1 (by rw [e]; exact t5)) id), sI_ne (hq.imp (fun z e => z.2.1 (by rw [e]; exact t4)) id), sI_ne (hq.imp (fun z e => z.1 (by rw [e]; exact t3)) id)]
theorem day_at {j : Nat} {lo hi wi hu : Int32} (hT : TGS g o m) : pI (dayC g o j lo hi wi hu) (pF g (pF g o 0) 0) j = lo ∧ pI (dayC g o j lo hi wi hu) (pF g (pF g o 0) 1) j = hi ∧ pI (dayC g o j lo hi wi hu) (pF g (pF g o 0) 3) j = hu := by
  obtain ⟨-, -, -, -, t3, t4, t5, t6, -⟩ := hT
  have n01 : pF g (pF g o 0) 0 ≠ pF g (pF g o 0) 1 := fun e => by rw [e] at t3; omega
  have n02 : pF g (pF g o 0) 0 ≠ pF g (pF g o 0) 2 := fun e => by rw [e] at t3; omega
  have n03 : pF g (pF g o 0) 0 ≠ pF g (pF g o 0) 3 := fun e => by rw [e] at t3; omega
  have n12 : pF g (pF g o 0) 1 ≠ pF g (pF g o 0) 2 := fun e => by rw [e] at t4; omega
  have n13 : pF g (pF g o 0) 1 ≠ pF g (pF g o 0) 3 := fun e => by rw [e] at t4; omega
  unfold dayC
  refine ⟨?_, ?_, sI_at⟩
  · rw [sI_ne (Or.inl n03), sI_ne (Or.inl n02), sI_ne (Or.inl n01), sI_at]
  · rw [sI_ne (Or.inl n13), sI_ne (Or.inl n12), sI_at]
/-- the day that the reference answers -/
theorem LR.weather_r {j : Nat} {lo hi wi hu : Int32} (h : LR g o m) (hT : TGS g o m) (hj : j < 21) (hx : Ext m X0 (dayC g o j lo hi wi hu) w) : pI w ((pO w (pF w m 0) j).getD 0) 0 = pI g (pF g (pF g o 0) 0) j := by
  have h9 := hT.2.2.2.2.2.2.2.2.2.2.1 j hj
  have t8 := hT.2.2.2.2.2.2.2.2.2.1
  have hm := hT.2.1
  have em : pF w m = pF g m := hx.f (q := m) (show tg g m ≠ 0 by omega)
  have ed : pO w (pF g m 0) = pO g (pF g m 0) := hx.o (q := pF g m 0) (show tg g (pF g m 0) ≠ 0 by omega) (fun z => z)
  rw [em, ed, show pI w ((pO g (pF g m 0) j).getD 0) 0 = pI (dayC g o j lo hi wi hu) ((pO g (pF g m 0) j).getD 0) 0 from hx.i (show tg g ((pO g (pF g m 0) j).getD 0) ≠ 0 by omega) (Or.inr (by decide)), day_ne hT (Or.inl ⟨by omega, by omega, by omega, by omega⟩)]
  exact (h.2.2.2.1 j hj).1.symm
/-- weather: the class's day, then the reference's new row -/
theorem LR.weather {j a : Nat} {lo hi wi hu : Int32} (h : LR g o m) (hT : TGS g o m) (hN : NSI g o m) (hx : Ext m X0 (dayC g o j lo hi wi hu) w) (a0 : pI w a 0 = lo) (a1 : pI w a 1 = hi) (a3 : pI w a 3 = hu) : LR (uO w (pF w m 0) (va_up (pO w (pF w m 0)) j (some a))) o m := by
  have hT0 := hT
  obtain ⟨ho, hm, t1, t2, t3, t4, t5, t6, t7, t8, t9, ts⟩ := hT
  obtain ⟨r1, r2, r3, r4, r5⟩ := h
  have hI : ∀ q k, tg g q ≠ 0 → (q ≠ m ∨ k ≠ 2) → ((tg g q ≠ 5 ∧ tg g q ≠ 6 ∧ tg g q ≠ 7 ∧ tg g q ≠ 8) ∨ k ≠ j) → pI w q k = pI g q k := fun q k k0 k2 k5 => (hx.i (show tg g q ≠ 0 from k0) k2).trans (day_ne hT0 k5)
  have hF : ∀ q, tg g q ≠ 0 → pF w q = pF g q := fun q k0 => hx.f (show tg g q ≠ 0 from k0)
  have hO : ∀ q, tg g q ≠ 0 → pO w q = pO g q := fun q k0 => hx.o (show tg g q ≠ 0 from k0) (fun z => z)
  have eo := hF o (by omega)
  have em := hF m (by omega)
  have es := hF (pF g o 0) (by omega)
  have e0 : pI w o 0 = pI g o 0 := hI o 0 (by omega) (Or.inr (by decide)) (Or.inl ⟨by omega, by omega, by omega, by omega⟩)
  have nm : ∀ q, tg g q ≠ 17 → q ≠ m := fun q k e => k (by rw [e]; exact hm)
  refine ⟨?_, ?_, ?_, fun k hk => ?_, fun k hk b c hb hc => ?_⟩
  · show pI w o 1 = pI w m 0
    rw [hI o 1 (by omega) (Or.inr (by decide)) (Or.inl ⟨by omega, by omega, by omega, by omega⟩), hI m 0 (by omega) (Or.inr (by decide)) (Or.inl ⟨by omega, by omega, by omega, by omega⟩)]
    exact r1
  · show pI w o 2 = pI w m 1
    rw [hI o 2 (by omega) (Or.inl (nm o (by omega))) (Or.inl ⟨by omega, by omega, by omega, by omega⟩), hI m 1 (by omega) (Or.inr (by decide)) (Or.inl ⟨by omega, by omega, by omega, by omega⟩)]
    exact r2
  · show pI w o 0 = pI w (pF w m 5) 0
    rw [em, e0, hI (pF g m 5) 0 (by omega) (Or.inr (by decide)) (Or.inl ⟨by omega, by omega, by omega, by omega⟩)]
    exact r3
  · show pI w (pF w (pF w o 0) 0) k = pI w ((pO (uO w (pF w m 0) (va_up (pO w (pF w m 0)) j (some a))) (pF w m 0) k).getD 0) 0 ∧ pI w (pF w (pF w o 0) 1) k = pI w ((pO (uO w (pF w m 0) (va_up (pO w (pF w m 0)) j (some a))) (pF w m 0) k).getD 0) 1 ∧ pI w (pF w (pF w o 0) 3) k = pI w ((pO (uO w (pF w m 0) (va_up (pO w (pF w m 0)) j (some a))) (pF w m 0) k).getD 0) 3
    rw [uO_s, eo, es]
    by_cases e : k = j
    · have eu : va_up (pO w (pF w m 0)) j (some a) k = some a := if_pos e
      obtain ⟨d0, d1, d3⟩ := day_at (j := j) (lo := lo) (hi := hi) (wi := wi) (hu := hu) hT0
      rw [eu, e]
      show pI w (pF g (pF g o 0) 0) j = pI w a 0 ∧ pI w (pF g (pF g o 0) 1) j = pI w a 1 ∧ pI w (pF g (pF g o 0) 3) j = pI w a 3
      rw [a0, a1, a3]
      exact ⟨(hx.i (show tg g (pF g (pF g o 0) 0) ≠ 0 by omega) (Or.inl (nm _ (by omega)))).trans d0, (hx.i (show tg g (pF g (pF g o 0) 1) ≠ 0 by omega) (Or.inl (nm _ (by omega)))).trans d1, (hx.i (show tg g (pF g (pF g o 0) 3) ≠ 0 by omega) (Or.inl (nm _ (by omega)))).trans d3⟩
    · have eu : va_up (pO w (pF w m 0)) j (some a) k = pO g (pF g m 0) k := (if_neg e).trans (by rw [em, hO (pF g m 0) (by omega)])
      have h9 := t9 k hk
      rw [eu, hI (pF g (pF g o 0) 0) k (by omega) (Or.inl (nm _ (by omega))) (Or.inr e), hI (pF g (pF g o 0) 1) k (by omega) (Or.inl (nm _ (by omega))) (Or.inr e), hI (pF g (pF g o 0) 3) k (by omega) (Or.inl (nm _ (by omega))) (Or.inr e)]
      have hR : ∀ i, pI w ((pO g (pF g m 0) k).getD 0) i = pI g ((pO g (pF g m 0) k).getD 0) i := fun i => hI _ i (by omega) (Or.inl (nm _ (by omega))) (Or.inl ⟨by omega, by omega, by omega, by omega⟩)
      rw [hR 0, hR 1, hR 3]
      exact r4 k hk
  · have hk2 : (k : Int) < (pI g o 0).toInt := by rw [← e0]; exact hk
    have hk3 : k < 3 := by have := hN.1; omega
    have t27 : tg g (pF g (pF g m 5) 0) = 27 := hN.2 (by omega)
    have eb : pO (uO w (pF w m 0) (va_up (pO w (pF w m 0)) j (some a))) (pF w o 2) = pO g (pF g o 2) := by
      rw [eo, em, uO_n (fun e => by rw [e] at t2; omega)]
      exact hO (pF g o 2) (by omega)
    have el := hF (pF g m 5) (by omega)
    have ec : pO (uO w (pF w m 0) (va_up (pO w (pF w m 0)) j (some a))) (pF w (pF w m 5) 0) = pO g (pF g (pF g m 5) 0) := by
      rw [em, el, uO_n (fun e => by rw [e] at t27; omega)]
      exact hO (pF g (pF g m 5) 0) (by omega)
    have hb2 : pO g (pF g o 2) k = some b := by rw [← eb]; exact hb
    have hc2 : pO g (pF g (pF g m 5) 0) k = some c := by rw [← ec]; exact hc
    obtain ⟨s1, s2, s4, s5, s6⟩ := ts k b c hk2 hb2 hc2
    obtain ⟨k1, k2⟩ := r5 k hk2 b c hb2 hc2
    refine ⟨?_, fun y x hy hx8 => ?_⟩
    · show pI w b 0 = pI w c 0
      rw [hI b 0 (by omega) (Or.inr (by decide)) (Or.inl ⟨by omega, by omega, by omega, by omega⟩), hI c 0 (by omega) (Or.inr (by decide)) (Or.inl ⟨by omega, by omega, by omega, by omega⟩)]
      exact k1
    · have s7 := s6 y hy
      show pI w (pF w b 5) (8 * y + x) = pI w (pF w (pF w c 1) y) x
      rw [hF b (by omega), hF c (by omega), hF (pF g c 1) (by omega), hI (pF g b 5) (8 * y + x) (by omega) (Or.inl (nm _ (by omega))) (Or.inl ⟨by omega, by omega, by omega, by omega⟩), hI (pF g (pF g c 1) y) x (by omega) (Or.inl (nm _ (by omega))) (Or.inl ⟨by omega, by omega, by omega, by omega⟩)]
      exact k2 y x hy hx8
/-- site: the class's new site, then the reference's -/
theorem LR.site {k a c : Nat} {v : Gh} (h : LR g o m) (hT : TGS g o m) (hN : NSI g o m) (hk : k < 3) (ek : pI g o 0 = nI k) (hv : Ext m X0 g v) (ta : tg v a = 12 + 64 * k) (tp : tg v (pF v a 5) = 16 + 64 * k) (a0 : pI v a 0 = 0) (a5 : ∀ x, pI v (pF v a 5) x = 0) (hw : Ext m X0 (sI (uO v (pF g o 2) (va_up (pO v (pF g o 2)) k (some a))) o 0 (nI (k + 1))) w) (tc : tg w c = 28 + 64 * k) (tq : tg w (pF w c 1) = 32 + 64 * k) (tr : ∀ y, y < 6 → tg w (pF w (pF w c 1) y) = 33 + 64 * (8 * k + y)) (c0 : pI w c 0 = 0) (c1 : ∀ y x, y < 6 → pI w (pF w (pF w c 1) y) x = 0) (hA : Ax (pF g m 5) k c w u) : LR u o m := by
  obtain ⟨ho, hm, t1, t2, t3, t4, t5, t6, t7, t8, t9, ts⟩ := hT
  obtain ⟨r1, r2, r3, r4, r5⟩ := h
  obtain ⟨hA1, hA2, hA3, hA4, hA5, hA6⟩ := hA
  have nm : ∀ q, tg g q ≠ 17 → q ≠ m := fun q z e => z (by rw [e]; exact hm)
  have no : ∀ q, tg g q ≠ 1 → q ≠ o := fun q z e => z (by rw [e]; exact ho)
  have nl : ∀ q, tg g q ≠ 26 → q ≠ pF g m 5 := fun q z e => z (by rw [e]; exact t7)
  have n2 : ∀ q, tg g q ≠ 4 → q ≠ pF g o 2 := fun q z e => z (by rw [e]; exact t2)
  have tv : ∀ q, tg g q ≠ 0 → tg v q = tg g q := fun q z => hv.t z
  have tw : ∀ q, tg v q ≠ 0 → tg w q = tg v q := fun q z => hw.t (show tg v q ≠ 0 from z)
  have hIw : ∀ q j, tg v q ≠ 0 → (q ≠ m ∨ j ≠ 2) → (q ≠ o ∨ j ≠ 0) → pI w q j = pI v q j := fun q j z z2 z0 => (hw.i (show tg v q ≠ 0 from z) z2).trans ((sI_ne z0).trans rfl)
  have hFw : ∀ q, tg v q ≠ 0 → pF w q = pF v q := fun q z => hw.f (show tg v q ≠ 0 from z)
  have hOw : ∀ q, tg v q ≠ 0 → q ≠ pF g o 2 → pO w q = pO v q := fun q z z2 => (hw.o (show tg v q ≠ 0 from z) (fun e => e)).trans (show pO (uO v (pF g o 2) (va_up (pO v (pF g o 2)) k (some a))) q = pO v q from uO_n z2)
  have hIu : ∀ q, tg w q ≠ 0 → q ≠ pF g m 5 → pI u q = pI w q := fun q z z2 => ((hA1 q z).2.1 z2).1
  have hFu : ∀ q, tg w q ≠ 0 → q ≠ pF g m 5 → pF u q = pF w q := fun q z z2 => ((hA1 q z).2.1 z2).2
  have hOu : ∀ q, tg w q ≠ 0 → tg w q ≠ 27 → pO u q = pO w q := fun q z z2 => (hA1 q z).2.2.1 z2
  have hI : ∀ q j, tg g q ≠ 0 → (q ≠ m ∨ j ≠ 2) → (q ≠ o ∨ j ≠ 0) → tg g q ≠ 26 → pI u q j = pI g q j := fun q j z z2 z0 z3 => by
    have e1 := tv q z
    have e2 := tw q (by omega)
    rw [hIu q (by omega) (nl q z3), hIw q j (by omega) z2 z0]
    exact hv.i z z2
  have hF : ∀ q, tg g q ≠ 0 → tg g q ≠ 26 → pF u q = pF g q := fun q z z3 => by
    have e1 := tv q z
    have e2 := tw q (by omega)
    rw [hFu q (by omega) (nl q z3), hFw q (by omega)]
    exact hv.f z
  have hO : ∀ q, tg g q ≠ 0 → tg g q ≠ 27 → tg g q ≠ 4 → pO u q = pO g q := fun q z z3 z4 => by
    have e1 := tv q z
    have e2 := tw q (by omega)
    rw [hOu q (by omega) (by omega), hOw q (by omega) (n2 q z4)]
    exact hv.o z (fun e => e)
  have eo := hF o (by omega) (by omega)
  have em := hF m (by omega) (by omega)
  have es := hF (pF g o 0) (by omega) (by omega)
  have e0 : pI u o 0 = nI (k + 1) := by
    have e1 := tv o (by omega)
    have e2 := tw o (by omega)
    rw [hIu o (by omega) (nl o (by omega))]
    exact (hw.i (show tg v o ≠ 0 by omega) (Or.inr (by decide))).trans sI_at
  have eA : pO u (pF u o 2) = va_up (pO g (pF g o 2)) k (some a) := by
    have e1 := tv (pF g o 2) (by omega)
    have e2 := tw (pF g o 2) (by omega)
    rw [eo, hOu (pF g o 2) (by omega) (by omega)]
    refine (hw.o (show tg v (pF g o 2) ≠ 0 by omega) (fun e => e)).trans ?_
    show pO (uO v (pF g o 2) (va_up (pO v (pF g o 2)) k (some a))) (pF g o 2) = _
    rw [uO_s, hv.o (q := pF g o 2) (by omega) (fun e => e)]
  refine ⟨?_, ?_, ?_, fun j hj => ?_, fun j hj b d hb hd => ?_⟩
  · rw [hI o 1 (by omega) (Or.inr (by decide)) (Or.inr (by decide)) (by omega), hI m 0 (by omega) (Or.inr (by decide)) (Or.inl (no m (by omega))) (by omega)]
    exact r1
  · rw [hI o 2 (by omega) (Or.inl (nm o (by omega))) (Or.inr (by decide)) (by omega), hI m 1 (by omega) (Or.inr (by decide)) (Or.inr (by decide)) (by omega)]
    exact r2
  · rw [e0, em]
    exact hA2.symm
  · have h9 := t9 j hj
    unfold mrow
    rw [eo, es, em, hO (pF g m 0) (by omega) (by omega) (by omega)]
    have hR : ∀ q i, tg g q ≠ 0 → tg g q ≠ 17 → tg g q ≠ 1 → tg g q ≠ 26 → pI u q i = pI g q i := fun q i z z2 z0 z3 => hI q i z (Or.inl (nm q z2)) (Or.inl (no q z0)) z3
    rw [hR (pF g (pF g o 0) 0) j (by omega) (by omega) (by omega) (by omega), hR (pF g (pF g o 0) 1) j (by omega) (by omega) (by omega) (by omega), hR (pF g (pF g o 0) 3) j (by omega) (by omega) (by omega) (by omega), hR ((pO g (pF g m 0) j).getD 0) 0 (by omega) (by omega) (by omega) (by omega), hR ((pO g (pF g m 0) j).getD 0) 1 (by omega) (by omega) (by omega) (by omega), hR ((pO g (pF g m 0) j).getD 0) 3 (by omega) (by omega) (by omega) (by omega)]
    exact r4 j hj
  · rw [e0, nI_toInt (by omega)] at hj
    rw [eA] at hb
    rw [em] at hd
    by_cases e : j = k
    · subst e
      have eb : some a = some b := (show va_up (pO g (pF g o 2)) j (some a) j = some a from if_pos rfl).symm.trans hb
      injection eb with eb
      have ed : some c = some d := hA6.symm.trans hd
      injection ed with ed
      rw [← eb, ← ed]
      have e2 := tw a (by omega)
      have e3 := tw (pF v a 5) (by omega)
      have na : a ≠ pF g m 5 := fun z => by have := tv (pF g m 5) (by omega); rw [z] at ta; omega
      have np : pF v a 5 ≠ pF g m 5 := fun z => by have := tv (pF g m 5) (by omega); rw [z] at tp; omega
      have e4 := tv (pF g m 5) (by omega)
      have e5 := tw (pF g m 5) (by omega)
      have e6 := tv o (by omega)
      have e7 := tv m (by omega)
      have nc : c ≠ pF g m 5 := fun z => by rw [z] at tc; omega
      have nq : pF w c 1 ≠ pF g m 5 := fun z => by rw [z] at tq; omega
      refine ⟨?_, fun y x hy hx8 => ?_⟩
      · rw [hIu a (by omega) na, hIu c (by omega) nc, hIw a 0 (by omega) (Or.inr (by decide)) (Or.inl (fun z => by rw [z] at ta; omega)), a0, c0]
      · have h7 := tr y hy
        rw [hFu a (by omega) na, hFw a (by omega), hFu c (by omega) nc, hFu (pF w c 1) (by omega) nq, hIu (pF v a 5) (by omega) np, hIu (pF w (pF w c 1) y) (by omega) (fun z => by rw [z] at h7; omega), hIw (pF v a 5) (8 * y + x) (by omega) (Or.inl (fun z => by rw [z] at tp; omega)) (Or.inl (fun z => by rw [z] at tp; omega)), a5, c1 y x hy]
    · have hj2 : (j : Int) < (pI g o 0).toInt := by rw [ek, nI_toInt (by omega)]; omega
      have t27 : tg g (pF g (pF g m 5) 0) = 27 := hN.2 (by omega)
      have hb2 : pO g (pF g o 2) j = some b := (show va_up (pO g (pF g o 2)) k (some a) j = pO g (pF g o 2) j from if_neg e).symm.trans hb
      have e4 := tv (pF g m 5) (by omega)
      have e5 := tv (pF g (pF g m 5) 0) (by omega)
      have ew : pF w (pF g m 5) = pF g (pF g m 5) := (hFw (pF g m 5) (by omega)).trans (hv.f (by omega))
      have hd2 : pO g (pF g (pF g m 5) 0) j = some d := by
        rw [← hd, hA5 j (by omega), ew, hOw (pF g (pF g m 5) 0) (by omega) (n2 _ (by omega)), hv.o (q := pF g (pF g m 5) 0) (by omega) (fun z => z)]
      obtain ⟨s1, s2, s4, s5, s6⟩ := ts j b d hj2 hb2 hd2
      obtain ⟨k1, k2⟩ := r5 j hj2 b d hb2 hd2
      refine ⟨?_, fun y x hy hx8 => ?_⟩
      · rw [hI b 0 (by omega) (Or.inr (by decide)) (Or.inl (no b (by omega))) (by omega), hI d 0 (by omega) (Or.inr (by decide)) (Or.inl (no d (by omega))) (by omega)]
        exact k1
      · have s7 := s6 y hy
        rw [hF b (by omega) (by omega), hF d (by omega) (by omega), hF (pF g d 1) (by omega) (by omega), hI (pF g b 5) (8 * y + x) (by omega) (Or.inl (nm _ (by omega))) (Or.inl (no _ (by omega))) (by omega), hI (pF g (pF g d 1) y) x (by omega) (Or.inl (nm _ (by omega))) (Or.inl (no _ (by omega))) (by omega)]
        exact k2 y x hy hx8
/-- numbers of the sites alone change -/
theorem LR.chgS (h : LR g o m) (hT : TGS g o m) (hF : pF w = pF g) (hO : pO w = pO g) (hI : ∀ q, tg g q % 64 ≠ 12 → tg g q % 64 ≠ 28 → tg g q % 64 ≠ 16 → tg g q % 64 ≠ 33 → pI w q = pI g q) (h5 : ∀ j : Nat, (j : Int) < (pI g o 0).toInt → ∀ b d, pO g (pF g o 2) j = some b → pO g (pF g (pF g m 5) 0) j = some d → pI w b 0 = pI w d 0 ∧ ∀ y x, y < 6 → x < 8 → pI w (pF g b 5) (8 * y + x) = pI w (pF g (pF g d 1) y) x) : LR w o m := by
  obtain ⟨ho, hm, t1, t2, t3, t4, t5, t6, t7, t8, t9, ts⟩ := hT
  obtain ⟨r1, r2, r3, r4, -⟩ := h
  have eo := hI o (by omega) (by omega) (by omega) (by omega)
  have em := hI m (by omega) (by omega) (by omega) (by omega)
  refine ⟨by rw [eo, em]; exact r1, by rw [eo, em]; exact r2, ?_, fun j hj => ?_, fun j hj b d hb hd => ?_⟩
  · rw [hF, eo, hI (pF g m 5) (by omega) (by omega) (by omega) (by omega)]
    exact r3
  · have h9 := t9 j hj
    unfold mrow
    rw [hF, hO, hI (pF g (pF g o 0) 0) (by omega) (by omega) (by omega) (by omega), hI (pF g (pF g o 0) 1) (by omega) (by omega) (by omega) (by omega), hI (pF g (pF g o 0) 3) (by omega) (by omega) (by omega) (by omega), hI ((pO g (pF g m 0) j).getD 0) (by omega) (by omega) (by omega) (by omega)]
    exact r4 j hj
  · rw [eo] at hj
    rw [hF, hO] at hb hd
    rw [hF]
    exact h5 j hj b d hb hd
/-- cover -/
theorem LR.coverG {j a c : Nat} {x : Int32} (h : LR g o m) (hT : TGS g o m) (hj : (j : Int) < (pI g o 0).toInt) (ha : pO g (pF g o 2) j = some a) (hc : pO g (pF g (pF g m 5) 0) j = some c) : LR (sI (sI g a 0 x) c 0 x) o m := by
  have ts := hT.2.2.2.2.2.2.2.2.2.2.2
  obtain ⟨p1, p2, p4, p5, p6⟩ := ts j a c hj ha hc
  have hac : a ≠ c := fun e => by rw [e] at p1; omega
  have hne : ∀ q i, q ≠ a → q ≠ c → pI (sI (sI g a 0 x) c 0 x) q i = pI g q i := fun q i za zc => by rw [sI_ne (Or.inl zc), sI_ne (Or.inl za)]
  refine h.chgS hT rfl rfl (fun q z1 z2 _ _ => funext fun i => hne q i (fun e => by rw [e] at z1; omega) (fun e => by rw [e] at z2; omega)) (fun i hi b d hb hd => ?_)
  obtain ⟨s1, s2, s4, s5, s6⟩ := ts i b d hi hb hd
  obtain ⟨k1, k2⟩ := h.2.2.2.2 i hi b d hb hd
  refine ⟨?_, fun y z hy hz => ?_⟩
  · by_cases e : i = j
    · rw [e] at hb hd
      have eb : some a = some b := ha.symm.trans hb
      have ed : some c = some d := hc.symm.trans hd
      injection eb with eb
      injection ed with ed
      rw [← eb, ← ed, sI_at, sI_ne (Or.inl hac), sI_at]
    · rw [hne b 0 (fun z => by rw [z] at s1; omega) (fun z => by rw [z] at s1; omega), hne d 0 (fun z => by rw [z] at s2; omega) (fun z => by rw [z] at s2; omega)]
      exact k1
  · have s7 := s6 y hy
    rw [hne (pF g b 5) (8 * y + z) (fun e => by rw [e] at s4; omega) (fun e => by rw [e] at s4; omega), hne (pF g (pF g d 1) y) z (fun e => by rw [e] at s7; omega) (fun e => by rw [e] at s7; omega)]
    exact k2 y z hy hz
theorem LR.cover {v : Gh} {j a c : Nat} {x : Int32} (h : LR g o m) (hT : TGS g o m) (hN : NSI g o m) (hj : (j : Int) < (pI g o 0).toInt) (ha : pO g (pF g o 2) j = some a) (hv : Ext m X0 (sI g a 0 x) v) (hc : pO v (pF v (pF v m 5) 0) j = some c) : pI g a 0 = pI v c 0 ∧ LR (sI v c 0 x) o m := by
  have hT0 := hT
  obtain ⟨ho, hm, t1, t2, t3, t4, t5, t6, t7, t8, t9, ts⟩ := hT
  have t27 : tg g (pF g (pF g m 5) 0) = 27 := hN.2 (by omega)
  have e1 : pF v m = pF g m := hv.f (show tg g m ≠ 0 by omega)
  have e2 : pF v (pF g m 5) = pF g (pF g m 5) := hv.f (show tg g (pF g m 5) ≠ 0 by omega)
  have e3 : pO v (pF g (pF g m 5) 0) = pO g (pF g (pF g m 5) 0) := hv.o (show tg g (pF g (pF g m 5) 0) ≠ 0 by omega) (fun z => z)
  rw [e1, e2, e3] at hc
  obtain ⟨p1, p2, p4, p5, p6⟩ := ts j a c hj ha hc
  have hca : c ≠ a := fun e => by rw [e] at p2; omega
  have hao : a ≠ o := fun e => by rw [e] at p1; omega
  have hco : c ≠ o := fun e => by rw [e] at p2; omega
  refine ⟨?_, ?_⟩
  · rw [show pI v c 0 = pI (sI g a 0 x) c 0 from hv.i (show tg g c ≠ 0 by omega) (Or.inr (by decide)), sI_ne (Or.inl hca)]
    exact (h.2.2.2.2 j hj a c ha hc).1
  · exact (h.coverG hT0 hj ha hc).ext0 ((hT0.keep (Or.inl hao)).keep (Or.inl hco)) ((hN.keep (Or.inl hao)).keep (Or.inl hco)) hv.setI
/-- plan -/
theorem LR.planG {j a c jx jy : Nat} {x : Int32} (h : LR g o m) (hT : TGS g o m) (hj : (j : Int) < (pI g o 0).toInt) (ha : pO g (pF g o 2) j = some a) (hc : pO g (pF g (pF g m 5) 0) j = some c) (hx : jx < 8) (hy : jy < 6) : LR (sI (sI g (pF g a 5) (8 * jy + jx) x) (pF g (pF g c 1) jy) jx x) o m := by
  have ts := hT.2.2.2.2.2.2.2.2.2.2.2
  obtain ⟨p1, p2, p4, p5, p6⟩ := ts j a c hj ha hc
  have p7 := p6 jy hy
  have hqr : pF g a 5 ≠ pF g (pF g c 1) jy := fun e => by rw [e] at p4; omega
  have hne : ∀ q i, q ≠ pF g a 5 → q ≠ pF g (pF g c 1) jy → pI (sI (sI g (pF g a 5) (8 * jy + jx) x) (pF g (pF g c 1) jy) jx x) q i = pI g q i := fun q i za zc => by rw [sI_ne (Or.inl zc), sI_ne (Or.inl za)]
  refine h.chgS hT rfl rfl (fun q _ _ z1 z2 => funext fun i => hne q i (fun e => by rw [e] at z1; omega) (fun e => by rw [e] at z2; omega)) (fun i hi b d hb hd => ?_)
  obtain ⟨s1, s2, s4, s5, s6⟩ := ts i b d hi hb hd
  obtain ⟨k1, k2⟩ := h.2.2.2.2 i hi b d hb hd
  refine ⟨?_, fun y z hy2 hz => ?_⟩
  · rw [hne b 0 (fun e => by rw [e] at s1; omega) (fun e => by rw [e] at s1; omega), hne d 0 (fun e => by rw [e] at s2; omega) (fun e => by rw [e] at s2; omega)]
    exact k1
  · have s7 := s6 y hy2
    have k3 := k2 y z hy2 hz
    by_cases e : i = j
    · rw [e] at hb hd
      have eb : some a = some b := ha.symm.trans hb
      have ed : some c = some d := hc.symm.trans hd
      injection eb with eb
      injection ed with ed
      rw [← eb, ← ed] at k3 ⊢
      rw [← ed] at s7
      by_cases ey : y = jy
      · by_cases ez : z = jx
        · rw [ey, ez, sI_at, sI_ne (Or.inl hqr), sI_at]
        · rw [sI_ne (Or.inl hqr), sI_ne (Or.inr (by omega)), sI_ne (Or.inr ez), sI_ne (Or.inl (fun e9 => by rw [e9] at s7; omega))]
          exact k3
      · rw [sI_ne (Or.inl hqr), sI_ne (Or.inr (by omega)), sI_ne (Or.inl (fun e9 => by rw [e9] at s7; omega)), sI_ne (Or.inl (fun e9 => by rw [e9] at s7; omega))]
        exact k3
    · rw [hne (pF g b 5) (8 * y + z) (fun e => by rw [e] at s4; omega) (fun e => by rw [e] at s4; omega), hne (pF g (pF g d 1) y) z (fun e => by rw [e] at s7; omega) (fun e => by rw [e] at s7; omega)]
      exact k3
theorem pn_cong {f r : Nat → Int32} : ∀ n, (∀ k, k < n → f k = r k) → pn f n = pn r n
  | 0, _ => rfl
  | n + 1, hk => by
    show (if f n = 0 then 0 else 1) + pn f n = (if r n = 0 then 0 else 1) + pn r n
    rw [hk n (by omega), pn_cong n (fun k h => hk k (by omega))]
theorem LR.plan {v : Gh} {j a c jx jy : Nat} {x : Int32} (h : LR g o m) (hT : TGS g o m) (hN : NSI g o m) (hj : (j : Int) < (pI g o 0).toInt) (ha : pO g (pF g o 2) j = some a) (hx : jx < 8) (hy : jy < 6) (hv : Ext m X0 (sI g (pF g a 5) (8 * jy + jx) x) v) (hc : pO v (pF v (pF v m 5) 0) j = some c) : LR (sI v (pF v (pF v c 1) jy) jx x) o m ∧ pn (pI (sI g (pF g a 5) (8 * jy + jx) x) (pF g a 5)) 48 = pn (fun k => pI (sI v (pF v (pF v c 1) jy) jx x) (pF (sI v (pF v (pF v c 1) jy) jx x) (pF (sI v (pF v (pF v c 1) jy) jx x) c 1) (k / 8)) (k % 8)) 48 := by
  have hT0 := hT
  obtain ⟨ho, hm, t1, t2, t3, t4, t5, t6, t7, t8, t9, ts⟩ := hT
  have t27 : tg g (pF g (pF g m 5) 0) = 27 := hN.2 (by omega)
  have e1 : pF v m = pF g m := hv.f (show tg g m ≠ 0 by omega)
  have e2 : pF v (pF g m 5) = pF g (pF g m 5) := hv.f (show tg g (pF g m 5) ≠ 0 by omega)
  have e3 : pO v (pF g (pF g m 5) 0) = pO g (pF g (pF g m 5) 0) := hv.o (show tg g (pF g (pF g m 5) 0) ≠ 0 by omega) (fun z => z)
  rw [e1, e2, e3] at hc
  obtain ⟨p1, p2, p4, p5, p6⟩ := ts j a c hj ha hc
  have p7 := p6 jy hy
  have e4 : pF v c = pF g c := hv.f (show tg g c ≠ 0 by omega)
  have e5 : pF v (pF g c 1) = pF g (pF g c 1) := hv.f (show tg g (pF g c 1) ≠ 0 by omega)
  rw [e4, e5]
  have hpo : pF g a 5 ≠ o := fun e => by rw [e] at p4; omega
  have hpm : pF g a 5 ≠ m := fun e => by rw [e] at p4; omega
  have hro : pF g (pF g c 1) jy ≠ o := fun e => by rw [e] at p7; omega
  have hpr : pF g a 5 ≠ pF g (pF g c 1) jy := fun e => by rw [e] at p4; omega
  have hL := h.planG (x := x) hT0 hj ha hc hx hy
  have hv2 : Ext m X0 (sI (sI g (pF g a 5) (8 * jy + jx) x) (pF g (pF g c 1) jy) jx x) (sI v (pF g (pF g c 1) jy) jx x) := hv.setI
  have hR := hL.ext0 ((hT0.keep (Or.inl hpo)).keep (Or.inl hro)) ((hN.keep (Or.inl hpo)).keep (Or.inl hro)) hv2
  refine ⟨hR, pn_cong 48 (fun k hk => ?_)⟩
  show pI (sI g (pF g a 5) (8 * jy + jx) x) (pF g a 5) k = pI (sI v (pF g (pF g c 1) jy) jx x) (pF v (pF v c 1) (k / 8)) (k % 8)
  have hk2 := (hL.2.2.2.2 j (by rw [sI_ne (Or.inl (Ne.symm hro)), sI_ne (Or.inl (Ne.symm hpo))]; exact hj) a c ha hc).2 (k / 8) (k % 8) (by omega) (by omega)
  have p8 := p6 (k / 8) (by omega)
  have hi : pI (sI v (pF g (pF g c 1) jy) jx x) (pF g (pF g c 1) (k / 8)) (k % 8) = pI (sI (sI g (pF g a 5) (8 * jy + jx) x) (pF g (pF g c 1) jy) jx x) (pF g (pF g c 1) (k / 8)) (k % 8) := hv2.i (show tg g (pF g (pF g c 1) (k / 8)) ≠ 0 by omega) (Or.inl (fun e => by rw [e] at p8; omega))
  rw [e4, e5, hi]
  refine Eq.trans ?_ hk2
  show _ = pI (sI (sI g (pF g a 5) (8 * jy + jx) x) (pF g (pF g c 1) jy) jx x) (pF g a 5) (8 * (k / 8) + k % 8)
  rw [sI_ne (Or.inl hpr), show 8 * (k / 8) + k % 8 = k by omega]
end LRL

