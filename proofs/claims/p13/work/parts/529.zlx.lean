
theorem uL_at {g : Gh} {q : Nat} {f : Nat → Int64} : pL (uL g q f) q = f := if_pos rfl
theorem upL0 {f : Nat → Int64} {x : Int64} : vp_updL f 0 x 0 = x := by simp [vp_updL]
theorem wOf_cong {lo hi lo2 hi2 : Nat → Int32} {h : Int32} (h1 : ∀ d, d < 21 → lo d = lo2 d) (h2 : ∀ d, d < 21 → hi d = hi2 d) : wOf lo hi h = wOf lo2 hi2 h := by
  unfold wOf
  by_cases e : 0 ≤ h.toInt ∧ h.toInt ≤ 503
  · rw [if_pos e, if_pos e]
    unfold wN
    have hd : h.toInt.toNat / 24 < 21 := by omega
    rw [h1 _ hd, h2 _ hd]
  · rw [if_neg e, if_neg e]
theorem xOf_cong {lo hi hu lo2 hi2 hu2 : Nat → Int32} {h : Int32} (h1 : ∀ d, d < 21 → lo d = lo2 d) (h2 : ∀ d, d < 21 → hi d = hi2 d) (h3 : ∀ d, d < 21 → hu d = hu2 d) : xOf lo hi hu h = xOf lo2 hi2 hu2 h := by
  unfold xOf
  by_cases e : 0 ≤ h.toInt ∧ h.toInt ≤ 503
  · rw [if_pos e, if_pos e]
    unfold xN wN
    have hd : h.toInt.toNat / 24 < 21 := by omega
    rw [h1 _ hd, h2 _ hd, h3 _ hd]
  · rw [if_neg e, if_neg e]
section LXX
variable {D : va_G} {kA : Nat → ClassId} {b eD o m q q2 k C S : Nat} {g u v w u1 u2 : Gh} {H H1 H2 : Heap} {X : Nat → Prop}
theorem Ext.setL {f : Nat → Int64} (h : Ext m X g u) : Ext m X (uL g q f) (uL u q f) := fun p hp => by
  obtain ⟨a1, a2, a3, a4, a5⟩ := h p hp
  refine ⟨a1, a2, a3, a4, ?_⟩
  show (if p = q then f else pL u p) = (if p = q then f else pL g p)
  rw [a5]
/-- both tell one weather -/
theorem LR.rows (h : LR g o m) (hT : TGS g o m) (hx : Ext m X0 g u) {d : Nat} (hd : d < 21) : pI g (pF g (pF g o 0) 0) d = pI u ((pO u (pF u m 0) d).getD 0) 0 ∧ pI g (pF g (pF g o 0) 1) d = pI u ((pO u (pF u m 0) d).getD 0) 1 ∧ pI g (pF g (pF g o 0) 3) d = pI u ((pO u (pF u m 0) d).getD 0) 3 := by
  have t9 := hT.2.2.2.2.2.2.2.2.2.2.1 d hd
  have t8 := hT.2.2.2.2.2.2.2.2.2.1
  have hm := hT.2.1
  have e1 : pF u m = pF g m := hx.f (by omega)
  have e2 : pO u (pF g m 0) = pO g (pF g m 0) := hx.o (by omega) (fun z => z)
  rw [e1, e2, hx.i (q := (pO g (pF g m 0) d).getD 0) (j := 0) (by omega) (Or.inr (by decide)), hx.i (q := (pO g (pF g m 0) d).getD 0) (j := 1) (by omega) (Or.inr (by decide)), hx.i (q := (pO g (pF g m 0) d).getD 0) (j := 3) (by omega) (Or.inr (by decide))]
  exact h.2.2.2.1 d hd
theorem LR.wOf {h0 : Int32} (h : LR g o m) (hT : TGS g o m) (hx : Ext m X0 g u) : wOf (pI g (pF g (pF g o 0) 0)) (pI g (pF g (pF g o 0) 1)) h0 = wOf (fun d => pI u ((pO u (pF u m 0) d).getD 0) 0) (fun d => pI u ((pO u (pF u m 0) d).getD 0) 1) h0 :=
  wOf_cong (fun d hd => (h.rows hT hx hd).1) (fun d hd => (h.rows hT hx hd).2.1)
theorem LR.xOf {h0 : Int32} (h : LR g o m) (hT : TGS g o m) (hx : Ext m X0 g u) : xOf (pI g (pF g (pF g o 0) 0)) (pI g (pF g (pF g o 0) 1)) (pI g (pF g (pF g o 0) 3)) h0 = xOf (fun d => pI u ((pO u (pF u m 0) d).getD 0) 0) (fun d => pI u ((pO u (pF u m 0) d).getD 0) 1) (fun d => pI u ((pO u (pF u m 0) d).getD 0) 3) h0 :=
  xOf_cong (fun d hd => (h.rows hT hx hd).1) (fun d hd => (h.rows hT hx hd).2.1) (fun d hd => (h.rows hT hx hd).2.2)
theorem lo_out {F : Nat → Int64} (hx : Ext m X (uL v q F) u) (hq : tg v q = 34) : pL u q = F := (hx.l (show tg v q ≠ 0 by omega)).trans uL_at
theorem ed2 (e0 : pF g (pF g m 5) 1 = eD) (hm : tg g m = 17) (hl : tg g (pF g m 5) = 26) (hx : Ext m X g u) : pF u (pF u m 5) 1 = eD := by
  rw [hx.f (q := m) (by omega), hx.f (q := pF g m 5) (by omega)]
  exact e0

theorem lx_warmth {r b9 : Int32} {hou : Int32} (h : LI D kA b eD o m q q2 g H) (hC : (r = 0 ∧ ∃ (rv : Int32), ((0 ≤ hou.toInt ∧ hou.toInt ≤ 504) ∧ rv = wOf (pI g (pF g (pF g o 0) 0)) (pI g (pF g (pF g o 0) 1)) hou) ∧ u1 = uL g q (vp_updL (pL g q) 0 rv.toInt64)) ∨ (r = 1 ∧ (¬ (0 ≤ hou.toInt ∧ hou.toInt ≤ 504)) ∧ u1 = g)) (hM1 : TM D kA b u1 H1) (hG1 : GOK u1) (hMo : Ext m X0 u1 u2 ∧ (((0 ≤ hou.toInt ∧ hou.toInt ≤ 504) ∧ pI u2 m 2 = 0 ∧ b9 = wOf (fun d => pI u2 ((pO u2 (pF u2 m 0) d).getD 0) 0) (fun d => pI u2 ((pO u2 (pF u2 m 0) d).getD 0) 1) hou) ∨ (¬ (0 ≤ hou.toInt ∧ hou.toInt ≤ 504) ∧ pI u2 m 2 = 1))) (hM : TM D kA b u2 H2) (hG : GOK u2) : LI D kA b eD o m q q2 u2 H2 ∧ (∀ C S k, RI g m C S k → RI u2 m C S k) ∧ pI u2 m 2 = r ∧ (r = 0 → pL u2 q 0 = b9.toInt64) := by
  have hT := h.tgs
  have hN := h.nsi
  have hL := h.2.2.2.2.2.2.1
  have h1 := h.2.2.1
  have h17 := h.2.2.2.1
  have h34 := h.2.2.2.2.1
  have h35 := h.2.2.2.2.2.1
  have hed := h.2.2.2.2.2.2.2
  have h26 := h.lst
  obtain ⟨hx, hcase⟩ := hMo
  rcases hC with ⟨rfl, rv, ⟨hV, hrv⟩, rfl⟩ | ⟨rfl, hV, rfl⟩
  · have hI1 := h.uL hM1 hG1
    refine ⟨hI1.x0 hx hM hG, fun C S k hR => (hR.uL).x0 hI1 hx, ?_⟩
    rcases hcase with ⟨-, h0, hb⟩ | ⟨hn, -⟩
    · refine ⟨h0, fun _ => ?_⟩
      rw [lo_out hx h34, upL0, hb, hrv]
      exact congrArg Int32.toInt64 ((show LR (uL g q _) o m from hL).wOf (show TGS (uL g q _) o m from hT) hx)
    · exact absurd hV hn
  · refine ⟨h.x0 hx hM hG, fun C S k hR => hR.x0 h hx, ?_⟩
    rcases hcase with ⟨hn, -, -⟩ | ⟨-, h0⟩
    · exact absurd hn hV
    · exact ⟨h0, fun z => absurd z (by decide)⟩

theorem lx_wet {r b9 : Int32} {hou : Int32} (h : LI D kA b eD o m q q2 g H) (hC : (r = 0 ∧ ∃ (rv : Int32), ((0 ≤ hou.toInt ∧ hou.toInt ≤ 503) ∧ rv = xOf (pI g (pF g (pF g o 0) 0)) (pI g (pF g (pF g o 0) 1)) (pI g (pF g (pF g o 0) 3)) hou) ∧ u1 = uL g q (vp_updL (pL g q) 0 rv.toInt64)) ∨ (r = 1 ∧ (¬ (0 ≤ hou.toInt ∧ hou.toInt ≤ 503)) ∧ u1 = g)) (hM1 : TM D kA b u1 H1) (hG1 : GOK u1) (hMo : Ext m X0 u1 u2 ∧ (((0 ≤ hou.toInt ∧ hou.toInt ≤ 503) ∧ pI u2 m 2 = 0 ∧ b9 = xOf (fun d => pI u2 ((pO u2 (pF u2 m 0) d).getD 0) 0) (fun d => pI u2 ((pO u2 (pF u2 m 0) d).getD 0) 1) (fun d => pI u2 ((pO u2 (pF u2 m 0) d).getD 0) 3) hou) ∨ (¬ (0 ≤ hou.toInt ∧ hou.toInt ≤ 503) ∧ pI u2 m 2 = 1))) (hM : TM D kA b u2 H2) (hG : GOK u2) : LI D kA b eD o m q q2 u2 H2 ∧ (∀ C S k, RI g m C S k → RI u2 m C S k) ∧ pI u2 m 2 = r ∧ (r = 0 → pL u2 q 0 = b9.toInt64) := by
  have hT := h.tgs
  have hN := h.nsi
  have hL := h.2.2.2.2.2.2.1
  have h1 := h.2.2.1
  have h17 := h.2.2.2.1
  have h34 := h.2.2.2.2.1
  have h35 := h.2.2.2.2.2.1
  have hed := h.2.2.2.2.2.2.2
  have h26 := h.lst
  obtain ⟨hx, hcase⟩ := hMo
  rcases hC with ⟨rfl, rv, ⟨hV, hrv⟩, rfl⟩ | ⟨rfl, hV, rfl⟩
  · have hI1 := h.uL hM1 hG1
    refine ⟨hI1.x0 hx hM hG, fun C S k hR => (hR.uL).x0 hI1 hx, ?_⟩
    rcases hcase with ⟨-, h0, hb⟩ | ⟨hn, -⟩
    · refine ⟨h0, fun _ => ?_⟩
      rw [lo_out hx h34, upL0, hb, hrv]
      exact congrArg Int32.toInt64 ((show LR (uL g q _) o m from hL).xOf (show TGS (uL g q _) o m from hT) hx)
    · exact absurd hV hn
  · refine ⟨h.x0 hx hM hG, fun C S k hR => hR.x0 h hx, ?_⟩
    rcases hcase with ⟨hn, -, -⟩ | ⟨-, h0⟩
    · exact absurd hn hV
    · exact ⟨h0, fun z => absurd z (by decide)⟩

theorem lx_now {r b9 : Int32}  (h : LI D kA b eD o m q q2 g H) (hC : r = pI g o 1) (hu : u1 = g) (hM1 : TM D kA b u1 H1) (hG1 : GOK u1) (hMo : Ext m X0 u1 u2 ∧ pI u2 m 2 = 0 ∧ b9 = pI u1 m 0) (hM : TM D kA b u2 H2) (hG : GOK u2) : LI D kA b eD o m q q2 u2 H2 ∧ (∀ C S k, RI g m C S k → RI u2 m C S k) ∧ r = b9 := by
  have hT := h.tgs
  have hN := h.nsi
  have hL := h.2.2.2.2.2.2.1
  have h1 := h.2.2.1
  have h17 := h.2.2.2.1
  have h34 := h.2.2.2.2.1
  have h35 := h.2.2.2.2.2.1
  have hed := h.2.2.2.2.2.2.2
  have h26 := h.lst
  subst hu
  obtain ⟨hx, -, hb⟩ := hMo
  exact ⟨h.x0 hx hM hG, fun C S k hR => hR.x0 h hx, by rw [hC, hb]; exact hL.1⟩

theorem lx_machine {r b9 : Int32} {is : Int32} (h : LI D kA b eD o m q q2 g H) (hC : (∀ a : Nat, tg g a ≠ 0 → tg u1 a = tg g a) ∧ r = pI g o 2 ∧ u1 = sI g o 2 is) (hM1 : TM D kA b u1 H1) (hG1 : GOK u1) (hMo : u2 = sI (sI u1 m 2 0) m 1 is ∧ b9 = pI u1 m 1) (hM : TM D kA b u2 H2) (hG : GOK u2) : LI D kA b eD o m q q2 u2 H2 ∧ (∀ C S k, RI g m C S k → RI u2 m C S k) ∧ r = b9 := by
  have hT := h.tgs
  have hN := h.nsi
  have hL := h.2.2.2.2.2.2.1
  have h1 := h.2.2.1
  have h17 := h.2.2.2.1
  have h34 := h.2.2.2.2.1
  have h35 := h.2.2.2.2.2.1
  have hed := h.2.2.2.2.2.2.2
  have h26 := h.lst
  obtain ⟨-, hr, hu1⟩ := hC
  obtain ⟨hu2, hb⟩ := hMo
  subst hu1
  subst hu2
  have hom : o ≠ m := fun e => by rw [e] at h1; omega
  have hlo : pF g m 5 ≠ o := fun e => by rw [e] at h26; omega
  have hlm : pF g m 5 ≠ m := fun e => by rw [e] at h26; omega
  refine ⟨⟨hM, hG, h1, h17, h34, h35, hL.mach hT hN, hed⟩, fun C S k hR => ?_, ?_⟩
  · exact ((hR.sI hlo (Or.inl (Ne.symm hom))).sI (show pF g m 5 ≠ m from hlm) (Or.inr (by decide))).sI (show pF g m 5 ≠ m from hlm) (Or.inr (by decide))
  · rw [hr, hb, sI_ne (Or.inl (Ne.symm hom))]
    exact hL.2.1

theorem lx_weather {r b9 : Int32} {dy lo hi wi hu : Int32} (h : LI D kA b eD o m q q2 g H) (hC : (r = 0 ∧ ∃ (rv : Int32) (v8 : Gh), ((∀ a : Nat, tg g a ≠ 0 → tg v8 a = tg g a) ∧ ∃ j, dy = nI j ∧ j ≤ 20 ∧ ((0 ≤ dy.toInt ∧ dy.toInt ≤ 20) ∧ (-400 ≤ lo.toInt ∧ lo.toInt ≤ 200) ∧ (lo.toInt ≤ hi.toInt ∧ hi.toInt ≤ 200) ∧ (0 ≤ wi.toInt ∧ wi.toInt ≤ 30) ∧ 0 ≤ hu.toInt ∧ hu.toInt ≤ 100) ∧ ¬ 24 * dy.toInt < (pI g o 1).toInt ∧ rv = pI g (pF g (pF g o 0) 0) j ∧ v8 = dayC g o j lo hi wi hu) ∧ u1 = uL v8 q (vp_updL (pL v8 q) 0 rv.toInt64)) ∨ (r = 1 ∧ (¬ ((0 ≤ dy.toInt ∧ dy.toInt ≤ 20) ∧ (-400 ≤ lo.toInt ∧ lo.toInt ≤ 200) ∧ (lo.toInt ≤ hi.toInt ∧ hi.toInt ≤ 200) ∧ (0 ≤ wi.toInt ∧ wi.toInt ≤ 30) ∧ 0 ≤ hu.toInt ∧ hu.toInt ≤ 100)) ∧ u1 = g) ∨ (r = 2 ∧ (((0 ≤ dy.toInt ∧ dy.toInt ≤ 20) ∧ (-400 ≤ lo.toInt ∧ lo.toInt ≤ 200) ∧ (lo.toInt ≤ hi.toInt ∧ hi.toInt ≤ 200) ∧ (0 ≤ wi.toInt ∧ wi.toInt ≤ 30) ∧ 0 ≤ hu.toInt ∧ hu.toInt ≤ 100) ∧ 24 * dy.toInt < (pI g o 1).toInt) ∧ u1 = g)) (hM1 : TM D kA b u1 H1) (hG1 : GOK u1) (hMo : ∃ v, Ext m X0 u1 v ∧ ((((0 ≤ dy.toInt ∧ dy.toInt ≤ 20) ∧ (-400 ≤ lo.toInt ∧ lo.toInt ≤ 200) ∧ (lo.toInt ≤ hi.toInt ∧ hi.toInt ≤ 200) ∧ (0 ≤ wi.toInt ∧ wi.toInt ≤ 30) ∧ 0 ≤ hu.toInt ∧ hu.toInt ≤ 100) ∧ ¬ 24 * dy.toInt < (pI u1 m 0).toInt ∧ pI v m 2 = 0 ∧ ∃ j w a, dy = nI j ∧ j ≤ 20 ∧ b9 = pI v ((pO v (pF v m 0) j).getD 0) 0 ∧ Ext m X0 v w ∧ tg v a = 0 ∧ tg w a = 22 ∧ pI w a 0 = lo ∧ pI w a 1 = hi ∧ pI w a 2 = wi ∧ pI w a 3 = hu ∧ pI u2 m 2 = 0 ∧ u2 = uO w (pF v m 0) (va_up (pO w (pF v m 0)) j (some a))) ∨ (pI v m 2 = 1 ∧ ¬ ((0 ≤ dy.toInt ∧ dy.toInt ≤ 20) ∧ (-400 ≤ lo.toInt ∧ lo.toInt ≤ 200) ∧ (lo.toInt ≤ hi.toInt ∧ hi.toInt ≤ 200) ∧ (0 ≤ wi.toInt ∧ wi.toInt ≤ 30) ∧ 0 ≤ hu.toInt ∧ hu.toInt ≤ 100) ∧ u2 = v) ∨ (pI v m 2 = 2 ∧ ((0 ≤ dy.toInt ∧ dy.toInt ≤ 20) ∧ (-400 ≤ lo.toInt ∧ lo.toInt ≤ 200) ∧ (lo.toInt ≤ hi.toInt ∧ hi.toInt ≤ 200) ∧ (0 ≤ wi.toInt ∧ wi.toInt ≤ 30) ∧ 0 ≤ hu.toInt ∧ hu.toInt ≤ 100) ∧ 24 * dy.toInt < (pI u1 m 0).toInt ∧ u2 = v))) (hM : TM D kA b u2 H2) (hG : GOK u2) : LI D kA b eD o m q q2 u2 H2 ∧ (∀ C S k, RI g m C S k → RI u2 m C S k) ∧ pI u2 m 2 = r ∧ (r = 0 → pL u2 q 0 = b9.toInt64) := by
  have hT := h.tgs
  have hN := h.nsi
  have hL := h.2.2.2.2.2.2.1
  have h1 := h.2.2.1
  have h17 := h.2.2.2.1
  have h34 := h.2.2.2.2.1
  have h35 := h.2.2.2.2.2.1
  have hed := h.2.2.2.2.2.2.2
  have h26 := h.lst
  obtain ⟨x, hxv, hcase⟩ := hMo
  rcases hC with ⟨rfl, rv, v8, ⟨hk, j, hdj, hj20, hV, hn, hrv, hv8⟩, hu1⟩ | ⟨rfl, hV, rfl⟩ | ⟨rfl, ⟨hV, hlt⟩, rfl⟩
  · subst hv8
    have hF1 : pF u1 = pF g := by rw [hu1]; rfl
    have hO1 : pO u1 = pO g := by rw [hu1]; rfl
    have ht1 : tg u1 = tg g := by rw [hu1]; rfl
    have hc0 : pI u1 m 0 = pI g m 0 := by rw [hu1]; exact day_ne hT (Or.inl ⟨by omega, by omega, by omega, by omega⟩)
    have hl0 : pI u1 (pF g m 5) 0 = pI g (pF g m 5) 0 := by rw [hu1]; exact day_ne hT (Or.inl ⟨by omega, by omega, by omega, by omega⟩)
    have hcl : pI g o 1 = pI g m 0 := hL.1
    rcases hcase with ⟨-, -, h0, j2, w, a, hj2, hj220, hr, hxw, ha0, ha22, a0, a1, a2, a3, hth, hu2⟩ | ⟨-, hnV, -⟩ | ⟨-, -, hlt2, -⟩
    · have ejj : j = j2 := (nI_eq (a := j) (b := j2) (by omega) (by omega)).mp (hdj.symm.trans hj2)
      subst ejj
      have hx9 : Ext m X0 (dayC (uL g q (vp_updL (pL (dayC g o j lo hi wi hu) q) 0 rv.toInt64)) o j lo hi wi hu) x := by
        have e : u1 = dayC (uL g q (vp_updL (pL (dayC g o j lo hi wi hu) q) 0 rv.toInt64)) o j lo hi wi hu := hu1
        rw [← e]
        exact hxv
      have hw9 := hx9.trans hxw
      have hw1 := hxv.trans hxw
      have em : pF w m = pF x m := hxw.f (by have := hxv.tk (show tg u1 m = 17 by rw [ht1]; exact h17) (by decide); omega)
      have t18 : tg g (pF g m 0) = 18 := hT.2.2.2.2.2.2.2.2.2.1
      have ex : pF x m = pF g m := (hxv.f (show tg u1 m ≠ 0 by rw [ht1]; omega)).trans (by rw [hF1])
      subst hu2
      refine ⟨⟨hM, hG, hw1.tk (by rw [ht1]; exact h1) (by decide), hw1.tk (by rw [ht1]; exact h17) (by decide), hw1.tk (by rw [ht1]; exact h34) (by decide), hw1.tk (by rw [ht1]; exact h35) (by decide), ?_, ?_⟩, fun C S k hR => ?_, hth, fun _ => ?_⟩
      · rw [← em]
        exact LR.weather (g := uL g q _) hL hT hN hw9 a0 a1 a3
      · have e9 := ed2 (eD := eD) (g := u1) (by rw [hF1]; exact hed) (by rw [ht1]; exact h17) (by rw [ht1, hF1]; exact h26) hw1
        exact e9
      · have hy : Ext m (fun t => t = 18) u1 (uO w (pF x m 0) (va_up (pO w (pF x m 0)) j (some a))) := hw1.wide0.trans (Ext.row (by
          show tg w (pF x m 0) = 18
          rw [ex]
          exact hw1.tk (by rw [ht1]; exact t18) (by decide)))
        have hR1 : RI u1 m C S k := hR.of (GCm_fo hF1 hO1 hl0) hc0
        exact hR1.of (GCm_xg hM1 hG1 (by rw [ht1]; exact h17) hy (by decide) (fun t z => by omega)) (hy.i (by rw [ht1]; omega) (Or.inr (by decide)))
      · show pL w q 0 = b9.toInt64
        have hr2 : b9 = rv := by rw [hr, hrv]; exact LR.weather_r (g := uL g q _) hL hT (by omega) hx9
        rw [hu1] at hw1
        rw [lo_out hw1 h34, upL0, hr2]
    · exact absurd hV hnV
    · exfalso
      rw [hc0, ← hcl] at hlt2
      exact hn hlt2
  · rcases hcase with ⟨hV2, -⟩ | ⟨h0, -, rfl⟩ | ⟨-, hV2, -⟩
    · exact absurd hV2 hV
    · exact ⟨h.x0 hxv hM hG, fun C S k hR => hR.x0 h hxv, h0, fun z => absurd z (by decide)⟩
    · exact absurd hV2 hV
  · have hcl : pI u1 o 1 = pI u1 m 0 := hL.1
    rcases hcase with ⟨-, hn, -⟩ | ⟨-, hV2, -⟩ | ⟨h0, -, -, rfl⟩
    · rw [← hcl] at hn
      exact absurd hlt hn
    · exact absurd hV hV2
    · exact ⟨h.x0 hxv hM hG, fun C S k hR => hR.x0 h hxv, h0, fun z => absurd z (by decide)⟩
theorem lx_go {r b9 : Int32} {hrs : Int32} {d9 : Nat} (h : LI D kA b eD o m q q2 g H) (hC : (r = 0 ∧ ∃ (rv : Int32) (v8 : Gh), ((∀ a : Nat, tg g a ≠ 0 → tg v8 a = tg g a) ∧ ∃ c h, pI g o 1 = nI c ∧ hrs = nI h ∧ (1 ≤ h ∧ h ≤ 48) ∧ c + h ≤ 504 ∧ rv = nI (c + h) ∧ v8 = sI g o 1 (nI (c + h))) ∧ u1 = uL v8 q (vp_updL (pL v8 q) 0 rv.toInt64)) ∨ (r = 1 ∧ (¬ (1 ≤ hrs.toInt ∧ hrs.toInt ≤ 48)) ∧ u1 = g) ∨ (r = 2 ∧ ((1 ≤ hrs.toInt ∧ hrs.toInt ≤ 48) ∧ 504 < (pI g o 1).toInt + hrs.toInt) ∧ u1 = g)) (hM1 : TM D kA b u1 H1) (hG1 : GOK u1) (hMo : ∃ v, Ext m X0 u1 v ∧ ((pI v m 2 = 0 ∧ ∃ c h, pI u1 m 0 = nI c ∧ hrs = nI h ∧ (1 ≤ h ∧ h ≤ 48) ∧ c + h ≤ 504 ∧ b9 = nI (c + h) ∧ Ext m XA (sI v m 0 (nI (c + h))) u2 ∧ GCm u2 m + d9 ≤ GCm v m ∧ pI u2 m 2 = 0) ∨ (pI v m 2 = 1 ∧ ¬ (1 ≤ hrs.toInt ∧ hrs.toInt ≤ 48) ∧ u2 = v ∧ d9 = 0) ∨ (pI v m 2 = 2 ∧ (1 ≤ hrs.toInt ∧ hrs.toInt ≤ 48) ∧ 504 < (pI u1 m 0).toInt + hrs.toInt ∧ u2 = v ∧ d9 = 0))) (hM : TM D kA b u2 H2) (hG : GOK u2) : LI D kA b eD o m q q2 u2 H2 ∧ (∀ C S k C2 S2, RI g m C S k → C2 + 85 * (504 - (pI u2 m 0).toInt.toNat) ≤ C + 6 + 85 * (504 - (pI u1 m 0).toInt.toNat) + 14 * d9 → S2 + 652 * (504 - (pI u2 m 0).toInt.toNat) ≤ S + 6 + 652 * (504 - (pI u1 m 0).toInt.toNat) + 108 * d9 → RI u2 m C2 S2 (k + 1)) ∧ pI u2 m 2 = r ∧ (r = 0 → pL u2 q 0 = b9.toInt64) := by
  have hT := h.tgs
  have hN := h.nsi
  have hL := h.2.2.2.2.2.2.1
  have h1 := h.2.2.1
  have h17 := h.2.2.2.1
  have h34 := h.2.2.2.2.1
  have h35 := h.2.2.2.2.2.1
  have hed := h.2.2.2.2.2.2.2
  have h26 := h.lst
  have hcl : pI g o 1 = pI g m 0 := hL.1
  have hom : o ≠ m := fun e => by rw [e] at h1; omega
  have hlo : pF g m 5 ≠ o := fun e => by rw [e] at h26; omega
  have hlm : pF g m 5 ≠ m := fun e => by rw [e] at h26; omega
  obtain ⟨x, hxv, hcase⟩ := hMo
  rcases hC with ⟨rfl, rv, v8, ⟨hk, c, n, hc, hn, hn1, hcn, hrv, hv8⟩, hu1⟩ | ⟨rfl, hV, rfl⟩ | ⟨rfl, ⟨hV, hlt⟩, rfl⟩
  · subst hv8
    have hF1 : pF u1 = pF g := by rw [hu1]; rfl
    have hO1 : pO u1 = pO g := by rw [hu1]; rfl
    have ht1 : tg u1 = tg g := by rw [hu1]; rfl
    have hc0 : pI u1 m 0 = pI g m 0 := by rw [hu1]; exact sI_ne (Or.inl (Ne.symm hom))
    have hl0 : pI u1 (pF g m 5) 0 = pI g (pF g m 5) 0 := by rw [hu1]; exact sI_ne (Or.inl hlo)
    have h17u : tg u1 m = 17 := by rw [ht1]; exact h17
    have hR1 : ∀ C S k, RI g m C S k → RI u1 m C S k := fun C S k hR => hR.of (GCm_fo hF1 hO1 hl0) hc0
    have hcu : pI u1 m 0 = nI c := by rw [hc0, ← hcl]; exact hc
    rcases hcase with ⟨h0, c2, n2, hc2, hn2, hn12, hcn2, hb, hxu, hgc, hz2⟩ | ⟨-, hnV, -, -⟩ | ⟨-, -, hlt2, -, -⟩
    · have ecc : c = c2 := (nI_eq (a := c) (b := c2) (by omega) (by omega)).mp (hcu.symm.trans hc2)
      have enn : n = n2 := (nI_eq (a := n) (b := n2) (by omega) (by omega)).mp (hn.symm.trans hn2)
      subst ecc
      subst enn
      have hx9 : Ext m X0 (sI (uL g q (vp_updL (pL (sI g o 1 (nI (c + n))) q) 0 rv.toInt64)) o 1 (nI (c + n))) x := by
        have e : u1 = sI (uL g q (vp_updL (pL (sI g o 1 (nI (c + n))) q) 0 rv.toInt64)) o 1 (nI (c + n)) := hu1
        rw [← e]
        exact hxv
      have hxt : ∀ a t, tg g a = t → t ≠ 0 → tg u2 a = t := fun a t z z0 => hxu.tk (show tg (sI x m 0 (nI (c + n))) a = t from hxv.tk (by rw [ht1]; exact z) z0) z0
      have hgx : GCm x m = GCm u1 m := GCm_x0 hM1 hG1 h17u hxv
      have hgu : GCm u1 m = GCm g m := GCm_fo hF1 hO1 hl0
      refine ⟨⟨hM, hG, hxt _ _ h1 (by decide), hxt _ _ h17 (by decide), hxt _ _ h34 (by decide), hxt _ _ h35 (by decide), LR.go (g := uL g q _) hL hT hN hx9 hxu, ?_⟩, fun C S k C2 S2 hR hC2 hS2 => ?_, hz2, fun _ => ?_⟩
      · have e1 : pF x (pF x m 5) 1 = eD := ed2 (eD := eD) (g := u1) (by rw [hF1]; exact hed) h17u (by rw [ht1, hF1]; exact h26) hxv
        have t17 := hxv.tk h17u (by decide)
        have t26 : tg x (pF x m 5) = 26 := by rw [hxv.f (q := m) (by omega), hF1]; exact hxv.tk (by rw [ht1]; exact h26) (by decide)
        exact ed2 (eD := eD) (g := sI x m 0 (nI (c + n))) e1 t17 t26 hxu
      · have hR2 := hR1 C S k hR
        unfold RI at hR2 ⊢
        omega
      · have e1 : pL u2 q = pL x q := hxu.l (show tg x q ≠ 0 by have := hxv.tk (show tg u1 q = 34 by rw [ht1]; exact h34) (by decide); omega)
        have e2 : pL x q = pL u1 q := hxv.l (show tg u1 q ≠ 0 by rw [ht1]; omega)
        have e3 : pL u1 q = vp_updL (pL (sI g o 1 (nI (c + n))) q) 0 rv.toInt64 := by rw [hu1]; exact uL_at
        rw [e1, e2, e3, upL0, hb, hrv]
    · exact absurd ⟨by rw [hn, nI_toInt (by omega)]; omega, by rw [hn, nI_toInt (by omega)]; omega⟩ hnV
    · exfalso
      rw [hcu, hn, nI_toInt (by omega), nI_toInt (by omega)] at hlt2
      omega
  · rcases hcase with ⟨-, c2, n2, hc2, hn2, hn12, -⟩ | ⟨h0, -, rfl, rfl⟩ | ⟨-, hV2, -⟩
    · exact absurd ⟨by rw [hn2, nI_toInt (by omega)]; omega, by rw [hn2, nI_toInt (by omega)]; omega⟩ hV
    · refine ⟨h.x0 hxv hM hG, fun C S k C2 S2 hR hC2 hS2 => ?_, h0, fun z => absurd z (by decide)⟩
      have hR2 := hR.x0 h hxv
      have e := hxv.i (q := m) (j := 0) (by omega) (Or.inr (by decide))
      rw [e] at hC2 hS2
      unfold RI at hR2 ⊢
      rw [e] at hR2 ⊢
      omega
    · exact absurd hV2 hV
  · rcases hcase with ⟨-, c2, n2, hc2, hn2, hn12, hcn2, -⟩ | ⟨-, hnV, -⟩ | ⟨h0, -, -, rfl, rfl⟩
    · exfalso
      rw [hcl, hc2, hn2, nI_toInt (by omega), nI_toInt (by omega)] at hlt
      omega
    · exact absurd hV hnV
    · refine ⟨h.x0 hxv hM hG, fun C S k C2 S2 hR hC2 hS2 => ?_, h0, fun z => absurd z (by decide)⟩
      have hR2 := hR.x0 h hxv
      have e := hxv.i (q := m) (j := 0) (by omega) (Or.inr (by decide))
      rw [e] at hC2 hS2
      unfold RI at hR2 ⊢
      rw [e] at hR2 ⊢
      omega

theorem lx_site {r b9 : Int32}  (h : LI D kA b eD o m q q2 g H) (hC : (r = 0 ∧ ∃ (rv : Int32) (v8 : Gh), ((∀ a : Nat, tg g a ≠ 0 → tg v8 a = tg g a) ∧ ∃ k a v, k < 3 ∧ pI g o 0 = nI k ∧ Ext m X0 g v ∧ tg v a = 12 + 64 * k ∧ tg v (pF v a 5) = 16 + 64 * k ∧ tg g a = 0 ∧ pI v a 0 = 0 ∧ (∀ x, pI v (pF v a 5) x = 0) ∧ v8 = sI (uO v (pF g o 2) (va_up (pO v (pF g o 2)) k (some a))) o 0 (nI (k + 1)) ∧ rv = nI k) ∧ u1 = uL v8 q (vp_updL (pL v8 q) 0 rv.toInt64)) ∨ (r = 1 ∧ (¬ (pI g o 0).toInt < 3) ∧ u1 = g)) (hM1 : TM D kA b u1 H1) (hG1 : GOK u1) (hMo : ∃ v, Ext m X0 u1 v ∧ ((pI v m 2 = 1 ∧ pI v (pF u1 m 5) 0 = nI 3 ∧ u2 = v) ∨ (pI v m 2 = 0 ∧ ∃ k a w, k < 3 ∧ pI u1 (pF u1 m 5) 0 = nI k ∧ Ext m X0 v w ∧ tg v a = 0 ∧ tg w a = 28 + 64 * k ∧ pI w a 0 = 0 ∧ (∀ y, y < 6 → pO w (pF w (pF w a 0) y) = fun _ => none) ∧ (∀ y x, y < 6 → pI w (pF w (pF w a 1) y) x = 0) ∧ tg w (pF w a 0) = 29 + 64 * k ∧ (∀ y, y < 6 → tg w (pF w (pF w a 0) y) = 30 + 64 * (8 * k + y)) ∧ tg w (pF w a 1) = 32 + 64 * k ∧ (∀ y, y < 6 → tg w (pF w (pF w a 1) y) = 33 + 64 * (8 * k + y)) ∧ Ax (pF u1 m 5) k a w u2 ∧ pI u2 m 2 = 0 ∧ b9 = nI k))) (hM : TM D kA b u2 H2) (hG : GOK u2) : LI D kA b eD o m q q2 u2 H2 ∧ (∀ C S k, RI g m C S k → RI u2 m C S k) ∧ pI u2 m 2 = r ∧ (r = 0 → pL u2 q 0 = b9.toInt64) := by
  have hT := h.tgs
  have hN := h.nsi
  have hL := h.2.2.2.2.2.2.1
  have h1 := h.2.2.1
  have h17 := h.2.2.2.1
  have h34 := h.2.2.2.2.1
  have h35 := h.2.2.2.2.2.1
  have hed := h.2.2.2.2.2.2.2
  have h26 := h.lst
  have hom : o ≠ m := fun e => by rw [e] at h1; omega
  have hlo : pF g m 5 ≠ o := fun e => by rw [e] at h26; omega
  have t4 : tg g (pF g o 2) = 4 := hT.2.2.2.1
  have hsz : pI g o 0 = pI g (pF g m 5) 0 := hL.2.2.1
  obtain ⟨x, hxv, hcase⟩ := hMo
  rcases hC with ⟨rfl, rv, v8, ⟨hk9, k1, a, v, hk3, ek, hgv, ta, tp, ta0, a0, a5, hv8, hrv⟩, hu1⟩ | ⟨rfl, hV, rfl⟩
  · subst hv8
    have hF1 : pF u1 = pF v := by rw [hu1]; rfl
    have ht1 : tg u1 = tg v := by rw [hu1]; rfl
    have em : pF v m = pF g m := hgv.f (by omega)
    have eO : pO u1 = pO (uO v (pF g o 2) (va_up (pO v (pF g o 2)) k1 (some a))) := by rw [hu1]; rfl
    have h17u : tg u1 m = 17 := by rw [ht1]; exact hgv.tk h17 (by decide)
    have h34u : tg u1 q = 34 := by rw [ht1]; exact hgv.tk h34 (by decide)
    have hc0 : pI u1 m 0 = pI g m 0 := by rw [hu1]; exact (sI_ne (Or.inl (Ne.symm hom))).trans (hgv.i (by omega) (Or.inr (by decide)))
    have hl0 : pI u1 (pF g m 5) 0 = pI g (pF g m 5) 0 := by rw [hu1]; exact (sI_ne (Or.inl hlo)).trans (hgv.i (by omega) (Or.inr (by decide)))
    have hgw : Ext m (fun t => t = 4) g (uO v (pF g o 2) (va_up (pO v (pF g o 2)) k1 (some a))) := hgv.wide0.trans (Ext.row (by show tg v (pF g o 2) = 4; exact hgv.tk t4 (by decide)))
    have hg1 : GCm u1 m = GCm g m := (GCm_fo (g := uO v (pF g o 2) (va_up (pO v (pF g o 2)) k1 (some a))) hF1 eO (by show pI u1 (pF v m 5) 0 = pI v (pF v m 5) 0; rw [em, hl0]; exact (hgv.i (by omega) (Or.inr (by decide))).symm)).trans (GCm_xg h.1 h.2.1 h17 hgw (by decide) (fun t z => by omega))
    have hl1 : pI u1 (pF u1 m 5) 0 = nI k1 := by rw [hF1, em, hl0, ← hsz]; exact ek
    have hed1 : pF u1 (pF u1 m 5) 1 = eD := by rw [hF1]; exact ed2 hed h17 h26 hgv
    have h26u : tg u1 (pF u1 m 5) = 26 := by rw [ht1, hF1, em]; exact hgv.tk h26 (by decide)
    rcases hcase with ⟨-, h3, -⟩ | ⟨h0, k2, c, w, hk23, ek2, hxw, tc0, tc, c0, cn0, c1, t29, t30, tq, tr, hA, hth, hb⟩
    · exfalso
      have h4 : nI k1 = nI 3 := by rw [← hl1]; exact (hxv.i (by omega) (Or.inr (by decide))).symm.trans h3
      have := (nI_eq (a := k1) (b := 3) (by omega) (by omega)).mp h4
      omega
    · have ekk : k1 = k2 := (nI_eq (a := k1) (b := k2) (by omega) (by omega)).mp (hl1.symm.trans ek2)
      subst ekk
      have hw1 := hxv.trans hxw
      have hA0 := hA
      obtain ⟨hA1, hA2, hA3, hA4, hA5, hA6⟩ := hA0
      have hLu : pF u1 m 5 = pF g m 5 := by rw [hF1, em]
      have tkw : ∀ y t, tg u1 y = t → t ≠ 0 → tg w y = t := fun y t z z0 => hw1.tk z z0
      have tku : ∀ y t, tg u1 y = t → t ≠ 0 → tg u2 y = t := fun y t z z0 => ((hA1 y (by rw [tkw y t z z0]; exact z0)).1).trans (tkw y t z z0)
      have hml : m ≠ pF u1 m 5 := fun z => by rw [← z] at h26u; omega
      have fm : pF u2 m = pF u1 m := (((hA1 m (by have := tkw m 17 h17u (by decide); omega)).2.1 hml).2).trans (hw1.f (by omega))
      refine ⟨⟨hM, hG, tku o 1 (by rw [ht1]; exact hgv.tk h1 (by decide)) (by decide), tku m 17 h17u (by decide), tku q 34 h34u (by decide), tku q2 35 (by rw [ht1]; exact hgv.tk h35 (by decide)) (by decide), ?_, ?_⟩, fun C S k hR => ?_, hth, fun _ => ?_⟩
      · have hv9 : Ext m X0 (uL g q (vp_updL (pL (sI (uO v (pF g o 2) (va_up (pO v (pF g o 2)) k1 (some a))) o 0 (nI (k1 + 1))) q) 0 rv.toInt64)) (uL v q (vp_updL (pL (sI (uO v (pF g o 2) (va_up (pO v (pF g o 2)) k1 (some a))) o 0 (nI (k1 + 1))) q) 0 rv.toInt64)) := hgv.setL
        have hw9 := hw1
        rw [hu1] at hw9
        rw [hLu] at hA
        exact LR.site (g := uL g q _) hL hT hN hk3 ek hv9 ta tp a0 a5 hw9 tc tq tr c0 c1 hA
      · rw [fm, hA3]
        exact (congrFun (hw1.f (by omega)) 1).trans hed1
      · have e1 : GCm u2 m = GCm u1 m := GCm_Ax hM1 hG1 h17u hk3 hl1 hw1 tc t29 t30 cn0 hA
        have e2 : pI u2 m 0 = pI u1 m 0 := (congrFun (((hA1 m (by have := tkw m 17 h17u (by decide); omega)).2.1 hml).1) 0).trans (hw1.i (by omega) (Or.inr (by decide)))
        exact (hR.of hg1 hc0).of e1 e2
      · have e3 : pL u2 q = pL w q := (hA1 q (by have := tkw q 34 h34u (by decide); omega)).2.2.2
        rw [hu1] at hw1
        rw [e3, lo_out hw1 (show tg v q = 34 from hgv.tk h34 (by decide)), upL0, hrv, hb]
  · rcases hcase with ⟨h0, -, rfl⟩ | ⟨-, k2, c, w, hk23, ek2, -⟩
    · exact ⟨h.x0 hxv hM hG, fun C S k hR => hR.x0 h hxv, h0, fun z => absurd z (by decide)⟩
    · exfalso
      rw [hsz, ek2, nI_toInt (by omega)] at hV
      omega

theorem lx_cover {r b9 : Int32} {site is : Int32} (h : LI D kA b eD o m q q2 g H) (hC : (r = 0 ∧ ∃ (rv : Int32) (v8 : Gh), ((∀ a : Nat, tg g a ≠ 0 → tg v8 a = tg g a) ∧ ∃ j a, site = nI j ∧ (j : Int) < (pI g o 0).toInt ∧ pO g (pF g o 2) j = some a ∧ rv = pI g a 0 ∧ v8 = sI g a 0 is) ∧ u1 = uL v8 q (vp_updL (pL v8 q) 0 (if rv = 0 then 0 else 1))) ∨ (r = 1 ∧ (¬ (0 ≤ site.toInt ∧ site.toInt < (pI g o 0).toInt)) ∧ u1 = g)) (hM1 : TM D kA b u1 H1) (hG1 : GOK u1) (hMo : ∃ v, Ext m X0 u1 v ∧ ((pI v m 2 = 0 ∧ ∃ j a, site = nI j ∧ (j : Int) < (pI v (pF v m 5) 0).toInt ∧ tg v a = 28 + 64 * j ∧ pO v (pF v (pF v m 5) 0) j = some a ∧ b9 = pI v a 0 ∧ u2 = sI v a 0 is) ∨ (¬ (0 ≤ site.toInt ∧ site.toInt < (pI v (pF v m 5) 0).toInt) ∧ pI v m 2 = 1 ∧ u2 = v))) (hM : TM D kA b u2 H2) (hG : GOK u2) : LI D kA b eD o m q q2 u2 H2 ∧ (∀ C S k, RI g m C S k → RI u2 m C S k) ∧ pI u2 m 2 = r ∧ (r = 0 → pL u2 q 0 = if b9 = 0 then 0 else 1) := by
  have hT := h.tgs
  have hN := h.nsi
  have hL := h.2.2.2.2.2.2.1
  have h1 := h.2.2.1
  have h17 := h.2.2.2.1
  have h34 := h.2.2.2.2.1
  have h35 := h.2.2.2.2.2.1
  have hed := h.2.2.2.2.2.2.2
  have h26 := h.lst
  have hsz : pI g o 0 = pI g (pF g m 5) 0 := hL.2.2.1
  have hn3 := hN.1
  obtain ⟨x, hxv, hcase⟩ := hMo
  rcases hC with ⟨rfl, rv, v8, ⟨hk9, j, a, hsj, hj, ha, hrv, hv8⟩, hu1⟩ | ⟨rfl, hV, rfl⟩
  · subst hv8
    have hj3 : j < 3 := by omega
    have t27 : tg g (pF g (pF g m 5) 0) = 27 := hN.2 (by omega)
    have h4 := hT.2.2.2.1
    have ta : tg g a = 12 + 64 * j := by
      obtain ⟨-, h2⟩ := o_sit (i := 0) (q := pF g o 2) h.1 (by omega)
      exact h2 j hj3 a ha
    have hla : pF g m 5 ≠ a := fun e => by rw [e] at h26; omega
    have hma : m ≠ a := fun e => by rw [e] at h17; omega
    have hF1 : pF u1 = pF g := by rw [hu1]; rfl
    have hO1 : pO u1 = pO g := by rw [hu1]; rfl
    have ht1 : tg u1 = tg g := by rw [hu1]; rfl
    have hc0 : pI u1 m 0 = pI g m 0 := by rw [hu1]; exact sI_ne (Or.inl hma)
    have hl0 : pI u1 (pF g m 5) 0 = pI g (pF g m 5) 0 := by rw [hu1]; exact sI_ne (Or.inl hla)
    have hxl : pI x (pF x m 5) 0 = pI g o 0 := by
      rw [hxv.f (q := m) (by rw [ht1]; omega), hF1, hxv.i (q := pF g m 5) (j := 0) (by rw [ht1]; omega) (Or.inr (by decide)), hl0]
      exact hsz.symm
    rcases hcase with ⟨h0, j2, c, hsj2, hj2, tc, hc, hb, hu2⟩ | ⟨hnV, -⟩
    · rw [hxl] at hj2
      have ejj : j = j2 := (nI_eq (a := j) (b := j2) (by omega) (by omega)).mp (hsj.symm.trans hsj2)
      subst ejj
      have hx9 : Ext m X0 (sI (uL g q (vp_updL (pL (sI g a 0 is) q) 0 (if rv = 0 then 0 else 1))) a 0 is) x := by
        have e : u1 = sI (uL g q (vp_updL (pL (sI g a 0 is) q) 0 (if rv = 0 then 0 else 1))) a 0 is := hu1
        rw [← e]
        exact hxv
      obtain ⟨k1, k2⟩ := LR.cover (g := uL g q _) hL hT hN hj ha hx9 hc
      have hmc : m ≠ c := fun e => by have := hxv.tk (show tg u1 m = 17 by rw [ht1]; exact h17) (by decide); rw [e] at this; omega
      have t26 : tg x (pF x m 5) = 26 := by rw [hxv.f (q := m) (by rw [ht1]; omega), hF1]; exact hxv.tk (by rw [ht1]; exact h26) (by decide)
      have hlc : pF x m 5 ≠ c := fun e => by rw [e] at t26; omega
      subst hu2
      refine ⟨⟨hM, hG, hxv.tk (by rw [ht1]; exact h1) (by decide), hxv.tk (by rw [ht1]; exact h17) (by decide), hxv.tk (by rw [ht1]; exact h34) (by decide), hxv.tk (by rw [ht1]; exact h35) (by decide), k2, ?_⟩, fun C S k hR => ?_, ?_, fun _ => ?_⟩
      · have e9 := ed2 (eD := eD) (g := u1) (by rw [hF1]; exact hed) (by rw [ht1]; exact h17) (by rw [ht1, hF1]; exact h26) hxv
        exact e9
      · have hR1 : RI u1 m C S k := hR.of (GCm_fo hF1 hO1 hl0) hc0
        have hR2 : RI x m C S k := hR1.of (GCm_x0 hM1 hG1 (by rw [ht1]; exact h17) hxv) (hxv.i (by rw [ht1]; omega) (Or.inr (by decide)))
        exact hR2.sI hlc (Or.inl hmc)
      · rw [sI_ne (Or.inl hmc)]
        exact h0
      · show pL x q 0 = _
        rw [hu1] at hxv
        rw [lo_out hxv h34, upL0, hrv, hb]
        have e : pI g a 0 = pI x c 0 := k1
        rw [e]
    · exfalso
      rw [hxl, hsj, nI_toInt (by omega)] at hnV
      exact hnV ⟨by omega, hj⟩
  · have hxl : pI x (pF x m 5) 0 = pI u1 o 0 := by
      rw [hxv.f (q := m) (by omega), hxv.i (q := pF u1 m 5) (j := 0) (by omega) (Or.inr (by decide))]
      exact hsz.symm
    rcases hcase with ⟨-, j2, c, hsj2, hj2, -⟩ | ⟨-, h0, rfl⟩
    · exfalso
      rw [hxl] at hj2
      rw [hsj2, nI_toInt (by omega)] at hV
      exact hV ⟨by omega, hj2⟩
    · exact ⟨h.x0 hxv hM hG, fun C S k hR => hR.x0 h hxv, h0, fun z => absurd z (by decide)⟩

theorem lx_squareBits {r : Int32} {b9 : Int64} {dr le mat : Int32} (h : LI D kA b eD o m q q2 g H) (hC : (r = 0 ∧ ∃ (rv : Int64), (∃ j k, dr = nI j ∧ le = nI k ∧ (1 ≤ j ∧ j ≤ 20) ∧ (5 ≤ k ∧ k ≤ 60) ∧ rv = sqR (sqw mat (wOf (pI g (pF g (pF g o 0) 0)) (pI g (pF g (pF g o 0) 1)) (pI g o 1))) j k) ∧ u1 = uL g q (vp_updL (pL g q) 0 rv)) ∨ (r = 1 ∧ (¬ ((1 ≤ dr.toInt ∧ dr.toInt ≤ 20) ∧ 5 ≤ le.toInt ∧ le.toInt ≤ 60)) ∧ u1 = g)) (hM1 : TM D kA b u1 H1) (hG1 : GOK u1) (hMo : Ext m X0 u1 u2 ∧ ((pI u2 m 2 = 0 ∧ ∃ j k, dr = nI j ∧ le = nI k ∧ (1 ≤ j ∧ j ≤ 20) ∧ (5 ≤ k ∧ k ≤ 60) ∧ b9 = sqR (sqw mat (wOf (fun d => pI u2 ((pO u2 (pF u2 m 0) d).getD 0) 0) (fun d => pI u2 ((pO u2 (pF u2 m 0) d).getD 0) 1) (pI u2 m 0))) j k) ∨ (¬ ((1 ≤ dr.toInt ∧ dr.toInt ≤ 20) ∧ 5 ≤ le.toInt ∧ le.toInt ≤ 60) ∧ pI u2 m 2 = 1))) (hM : TM D kA b u2 H2) (hG : GOK u2) : LI D kA b eD o m q q2 u2 H2 ∧ (∀ C S k, RI g m C S k → RI u2 m C S k) ∧ pI u2 m 2 = r ∧ (r = 0 → pL u2 q 0 = b9) := by
  have hT := h.tgs
  have hN := h.nsi
  have hL := h.2.2.2.2.2.2.1
  have h1 := h.2.2.1
  have h17 := h.2.2.2.1
  have h34 := h.2.2.2.2.1
  have h35 := h.2.2.2.2.2.1
  have hed := h.2.2.2.2.2.2.2
  have h26 := h.lst
  have hcl : pI g o 1 = pI g m 0 := hL.1
  obtain ⟨hx, hcase⟩ := hMo
  rcases hC with ⟨rfl, rv, ⟨j, k1, hj, hk1, hj1, hk2, hrv⟩, rfl⟩ | ⟨rfl, hV, rfl⟩
  · have hI1 := h.uL hM1 hG1
    refine ⟨hI1.x0 hx hM hG, fun C S k hR => (hR.uL).x0 hI1 hx, ?_⟩
    rcases hcase with ⟨h0, j2, k2, hj2, hk22, hj12, hk23, hb⟩ | ⟨hn, -⟩
    · refine ⟨h0, fun _ => ?_⟩
      have e1 : j = j2 := (nI_eq (a := j) (b := j2) (by omega) (by omega)).mp (hj.symm.trans hj2)
      have e2 : k1 = k2 := (nI_eq (a := k1) (b := k2) (by omega) (by omega)).mp (hk1.symm.trans hk22)
      subst e1
      subst e2
      rw [lo_out hx h34, upL0, hb, hrv]
      have e3 : pI u2 m 0 = pI g o 1 := (hx.i (show tg (uL g q _) m ≠ 0 by show tg g m ≠ 0; omega) (Or.inr (by decide))).trans hcl.symm
      have e4 := (show LR (uL g q (vp_updL (pL g q) 0 rv)) o m from hL).wOf (show TGS (uL g q (vp_updL (pL g q) 0 rv)) o m from hT) hx (h0 := pI g o 1)
      rw [e3, ← e4]
      rfl
    · exact absurd ⟨⟨by rw [hj, nI_toInt (by omega)]; omega, by rw [hj, nI_toInt (by omega)]; omega⟩, by rw [hk1, nI_toInt (by omega)]; omega, by rw [hk1, nI_toInt (by omega)]; omega⟩ hn
  · refine ⟨h.x0 hx hM hG, fun C S k hR => hR.x0 h hx, ?_⟩
    rcases hcase with ⟨-, j2, k2, hj2, hk22, hj12, hk23, -⟩ | ⟨-, h0⟩
    · exact absurd ⟨⟨by rw [hj2, nI_toInt (by omega)]; omega, by rw [hj2, nI_toInt (by omega)]; omega⟩, by rw [hk22, nI_toInt (by omega)]; omega, by rw [hk22, nI_toInt (by omega)]; omega⟩ hV
    · exact ⟨h0, fun z => absurd z (by decide)⟩

theorem lx_plan {r b9 : Int32} {site x y is : Int32} (h : LI D kA b eD o m q q2 g H) (hC : (r = 0 ∧ ∃ (rv : Int32) (v8 : Gh), ((∀ a : Nat, tg g a ≠ 0 → tg v8 a = tg g a) ∧ ∃ j a jx jy, site = nI j ∧ x = nI jx ∧ y = nI jy ∧ jx < 8 ∧ jy < 6 ∧ (j : Int) < (pI g o 0).toInt ∧ pO g (pF g o 2) j = some a ∧ rv = pn (pI v8 (pF g a 5)) 48 ∧ v8 = sI g (pF g a 5) (8 * jy + jx) (vp_nar .boolean is)) ∧ u1 = uL v8 q (vp_updL (pL v8 q) 0 rv.toInt64)) ∨ (r = 1 ∧ (¬ ((0 ≤ site.toInt ∧ site.toInt < (pI g o 0).toInt) ∧ (0 ≤ x.toInt ∧ x.toInt ≤ 7) ∧ 0 ≤ y.toInt ∧ y.toInt ≤ 5)) ∧ u1 = g)) (hM1 : TM D kA b u1 H1) (hG1 : GOK u1) (hMo : ∃ v, Ext m X0 u1 v ∧ ((pI v m 2 = 0 ∧ ∃ j a jx jy, site = nI j ∧ x = nI jx ∧ y = nI jy ∧ jx < 8 ∧ jy < 6 ∧ (j : Int) < (pI v (pF v m 5) 0).toInt ∧ tg v a = 28 + 64 * j ∧ pO v (pF v (pF v m 5) 0) j = some a ∧ u2 = sI v (pF v (pF v a 1) jy) jx (vp_nar .boolean is) ∧ b9 = pn (fun k9 => pI u2 (pF u2 (pF u2 a 1) (k9 / 8)) (k9 % 8)) 48) ∨ (¬ ((0 ≤ site.toInt ∧ site.toInt < (pI v (pF v m 5) 0).toInt) ∧ (0 ≤ x.toInt ∧ x.toInt ≤ 7) ∧ 0 ≤ y.toInt ∧ y.toInt ≤ 5) ∧ pI v m 2 = 1 ∧ u2 = v))) (hM : TM D kA b u2 H2) (hG : GOK u2) : LI D kA b eD o m q q2 u2 H2 ∧ (∀ C S k, RI g m C S k → RI u2 m C S k) ∧ pI u2 m 2 = r ∧ (r = 0 → pL u2 q 0 = b9.toInt64) := by
  have hT := h.tgs
  have hN := h.nsi
  have hL := h.2.2.2.2.2.2.1
  have h1 := h.2.2.1
  have h17 := h.2.2.2.1
  have h34 := h.2.2.2.2.1
  have h35 := h.2.2.2.2.2.1
  have hed := h.2.2.2.2.2.2.2
  have h26 := h.lst
  have hsz : pI g o 0 = pI g (pF g m 5) 0 := hL.2.2.1
  have hn3 := hN.1
  obtain ⟨w, hxv, hcase⟩ := hMo
  rcases hC with ⟨rfl, rv, v8, ⟨hk9, j, a, jx, jy, hsj, hxj, hyj, hx8, hy6, hj, ha, hrv, hv8⟩, hu1⟩ | ⟨rfl, hV, rfl⟩
  · have hj3 : j < 3 := by omega
    have t27 : tg g (pF g (pF g m 5) 0) = 27 := hN.2 (by omega)
    have h4 := hT.2.2.2.1
    have ta : tg g a = 12 + 64 * j := by
      obtain ⟨-, h2⟩ := o_sit (i := 0) (q := pF g o 2) h.1 (by omega)
      exact h2 j hj3 a ha
    have tp : tg g (pF g a 5) = 16 + 64 * j := by
      obtain ⟨_, _, _, _, _, _, -, h8⟩ := o_st (i := j) (q := a) h.1 (by omega)
      exact h8.2.2.2.2.2.1
    have hla : pF g m 5 ≠ pF g a 5 := fun e => by rw [e] at h26; omega
    have hma : m ≠ pF g a 5 := fun e => by rw [← e] at tp; omega
    have hF1 : pF u1 = pF g := by rw [hu1, hv8]; rfl
    have hO1 : pO u1 = pO g := by rw [hu1, hv8]; rfl
    have ht1 : tg u1 = tg g := by rw [hu1, hv8]; rfl
    have hc0 : pI u1 m 0 = pI g m 0 := by rw [hu1, hv8]; exact sI_ne (Or.inl hma)
    have hl0 : pI u1 (pF g m 5) 0 = pI g (pF g m 5) 0 := by rw [hu1, hv8]; exact sI_ne (Or.inl hla)
    have hxl : pI w (pF w m 5) 0 = pI g o 0 := by
      rw [hxv.f (q := m) (by rw [ht1]; omega), hF1, hxv.i (q := pF g m 5) (j := 0) (by rw [ht1]; omega) (Or.inr (by decide)), hl0]
      exact hsz.symm
    rcases hcase with ⟨h0, j2, c, jx2, jy2, hsj2, hxj2, hyj2, hx82, hy62, hj2, tc, hc, hu2, hb⟩ | ⟨hnV, -⟩
    · rw [hxl] at hj2
      have ejj : j = j2 := (nI_eq (a := j) (b := j2) (by omega) (by omega)).mp (hsj.symm.trans hsj2)
      have exx : jx = jx2 := (nI_eq (a := jx) (b := jx2) (by omega) (by omega)).mp (hxj.symm.trans hxj2)
      have eyy : jy = jy2 := (nI_eq (a := jy) (b := jy2) (by omega) (by omega)).mp (hyj.symm.trans hyj2)
      subst ejj
      subst exx
      subst eyy
      have hx9 : Ext m X0 (sI (uL g q (vp_updL (pL v8 q) 0 rv.toInt64)) (pF g a 5) (8 * jy + jx) (vp_nar .boolean is)) w := by
        have e : u1 = sI (uL g q (vp_updL (pL v8 q) 0 rv.toInt64)) (pF g a 5) (8 * jy + jx) (vp_nar .boolean is) := by rw [hu1, hv8]; rfl
        rw [← e]
        exact hxv
      obtain ⟨k1, k2⟩ := LR.plan (g := uL g q (vp_updL (pL v8 q) 0 rv.toInt64)) hL hT hN hj ha hx8 hy6 hx9 hc
      have h17w : tg w m = 17 := hxv.tk (by rw [ht1]; exact h17) (by decide)
      have t26 : tg w (pF w m 5) = 26 := by rw [hxv.f (q := m) (by rw [ht1]; omega), hF1]; exact hxv.tk (by rw [ht1]; exact h26) (by decide)
      have ts := hT.2.2.2.2.2.2.2.2.2.2.2
      have ec : pO g (pF g (pF g m 5) 0) j = some c := by
        have e1 : pF w m = pF g m := (hxv.f (q := m) (by rw [ht1]; omega)).trans (by rw [hF1])
        have e2 : pF w (pF g m 5) = pF g (pF g m 5) := (hxv.f (q := pF g m 5) (by rw [ht1]; omega)).trans (by rw [hF1])
        have e3 : pO w (pF g (pF g m 5) 0) = pO g (pF g (pF g m 5) 0) := (hxv.o (by rw [ht1]; omega) (fun z => z)).trans (by rw [hO1])
        rw [e1, e2, e3] at hc
        exact hc
      obtain ⟨p1, p2, p4, p5, p6⟩ := ts j a c hj ha ec
      have e4 : pF w c = pF g c := (hxv.f (q := c) (by rw [ht1]; omega)).trans (by rw [hF1])
      have e5 : pF w (pF g c 1) = pF g (pF g c 1) := (hxv.f (q := pF g c 1) (by rw [ht1]; omega)).trans (by rw [hF1])
      have tr : tg w (pF w (pF w c 1) jy) = 33 + 64 * (8 * j + jy) := by rw [e4, e5]; exact hxv.tk (by rw [ht1]; exact p6 jy hy6) (by omega)
      have hmr : m ≠ pF w (pF w c 1) jy := fun e => by rw [← e] at tr; omega
      have hlr : pF w m 5 ≠ pF w (pF w c 1) jy := fun e => by rw [← e] at tr; omega
      have hbr : b9 = rv := by
        rw [hb, hrv, hu2, hv8]
        exact k2.symm
      subst hu2
      refine ⟨⟨hM, hG, hxv.tk (by rw [ht1]; exact h1) (by decide), h17w, hxv.tk (by rw [ht1]; exact h34) (by decide), hxv.tk (by rw [ht1]; exact h35) (by decide), k1, ?_⟩, fun C S k hR => ?_, ?_, fun _ => ?_⟩
      · have e9 := ed2 (eD := eD) (g := u1) (by rw [hF1]; exact hed) (by rw [ht1]; exact h17) (by rw [ht1, hF1]; exact h26) hxv
        exact e9
      · have hR1 : RI u1 m C S k := hR.of (GCm_fo hF1 hO1 hl0) hc0
        have hR2 : RI w m C S k := hR1.of (GCm_x0 hM1 hG1 (by rw [ht1]; exact h17) hxv) (hxv.i (by rw [ht1]; omega) (Or.inr (by decide)))
        exact hR2.sI hlr (Or.inl hmr)
      · rw [sI_ne (Or.inl hmr)]
        exact h0
      · show pL w q 0 = _
        rw [hu1] at hxv
        rw [lo_out hxv (by rw [hv8]; exact h34), upL0, hbr]
    · exfalso
      rw [hxl, hsj, hxj, hyj, nI_toInt (by omega), nI_toInt (by omega), nI_toInt (by omega)] at hnV
      exact hnV ⟨⟨by omega, hj⟩, ⟨by omega, by omega⟩, by omega, by omega⟩
  · have hxl : pI w (pF w m 5) 0 = pI u1 o 0 := by
      rw [hxv.f (q := m) (by omega), hxv.i (q := pF u1 m 5) (j := 0) (by omega) (Or.inr (by decide))]
      exact hsz.symm
    rcases hcase with ⟨-, j2, c, jx2, jy2, hsj2, hxj2, hyj2, hx82, hy62, hj2, -⟩ | ⟨-, h0, rfl⟩
    · exfalso
      rw [hxl] at hj2
      rw [hsj2, hxj2, hyj2, nI_toInt (by omega), nI_toInt (by omega), nI_toInt (by omega)] at hV
      exact hV ⟨⟨by omega, hj2⟩, ⟨by omega, by omega⟩, by omega, by omega⟩
    · exact ⟨h.x0 hxv hM hG, fun C S k hR => hR.x0 h hxv, h0, fun z => absurd z (by decide)⟩

end LXX
