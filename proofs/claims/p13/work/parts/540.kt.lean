section LKT
variable {D : va_G} {kA : Nat → ClassId} {b eD o m q q2 k C S : Nat} {g u v w u1 u2 : Gh} {H H1 H2 : Heap} {X : Nat → Prop}
theorem kt_weather {r : Int32} {dy : Int32} {lo : Int32} {hi : Int32} {wi : Int32} {hu : Int32} (hC : (r = 0 ∧ ∃ (rv : Int32) (v8 : Gh), ((∀ a : Nat, tg g a ≠ 0 → tg v8 a = tg g a) ∧ ∃ j, dy = nI j ∧ j ≤ 20 ∧ ((0 ≤ dy.toInt ∧ dy.toInt ≤ 20) ∧ (-400 ≤ lo.toInt ∧ lo.toInt ≤ 200) ∧ (lo.toInt ≤ hi.toInt ∧ hi.toInt ≤ 200) ∧ (0 ≤ wi.toInt ∧ wi.toInt ≤ 30) ∧ 0 ≤ hu.toInt ∧ hu.toInt ≤ 100) ∧ ¬ 24 * dy.toInt < (pI g o 1).toInt ∧ rv = pI g (pF g (pF g o 0) 0) j ∧ v8 = dayC g o j lo hi wi hu) ∧ u1 = uL v8 q (vp_updL (pL v8 q) 0 rv.toInt64)) ∨ (r = 1 ∧ (¬ ((0 ≤ dy.toInt ∧ dy.toInt ≤ 20) ∧ (-400 ≤ lo.toInt ∧ lo.toInt ≤ 200) ∧ (lo.toInt ≤ hi.toInt ∧ hi.toInt ≤ 200) ∧ (0 ≤ wi.toInt ∧ wi.toInt ≤ 30) ∧ 0 ≤ hu.toInt ∧ hu.toInt ≤ 100)) ∧ u1 = g) ∨ (r = 2 ∧ (((0 ≤ dy.toInt ∧ dy.toInt ≤ 20) ∧ (-400 ≤ lo.toInt ∧ lo.toInt ≤ 200) ∧ (lo.toInt ≤ hi.toInt ∧ hi.toInt ≤ 200) ∧ (0 ≤ wi.toInt ∧ wi.toInt ≤ 30) ∧ 0 ≤ hu.toInt ∧ hu.toInt ≤ 100) ∧ 24 * dy.toInt < (pI g o 1).toInt) ∧ u1 = g)) : ∀ a : Nat, tg g a ≠ 0 → tg u1 a = tg g a := by
  rcases hC with ⟨-, rv, v8, ⟨hk, -⟩, hu⟩ | ⟨-, -, hu⟩ | ⟨-, -, hu⟩
  · rw [hu]; exact hk
  · rw [hu]; exact fun _ _ => rfl
  · rw [hu]; exact fun _ _ => rfl
theorem kt_warmth {r : Int32} {hou : Int32} (hC : (r = 0 ∧ ∃ (rv : Int32), ((0 ≤ hou.toInt ∧ hou.toInt ≤ 504) ∧ rv = wOf (pI g (pF g (pF g o 0) 0)) (pI g (pF g (pF g o 0) 1)) hou) ∧ u1 = uL g q (vp_updL (pL g q) 0 rv.toInt64)) ∨ (r = 1 ∧ (¬ (0 ≤ hou.toInt ∧ hou.toInt ≤ 504)) ∧ u1 = g)) : ∀ a : Nat, tg g a ≠ 0 → tg u1 a = tg g a := by
  rcases hC with ⟨-, rv, -, hu⟩ | ⟨-, -, hu⟩
  · rw [hu]; exact fun _ _ => rfl
  · rw [hu]; exact fun _ _ => rfl
theorem kt_wet {r : Int32} {hou : Int32} (hC : (r = 0 ∧ ∃ (rv : Int32), ((0 ≤ hou.toInt ∧ hou.toInt ≤ 503) ∧ rv = xOf (pI g (pF g (pF g o 0) 0)) (pI g (pF g (pF g o 0) 1)) (pI g (pF g (pF g o 0) 3)) hou) ∧ u1 = uL g q (vp_updL (pL g q) 0 rv.toInt64)) ∨ (r = 1 ∧ (¬ (0 ≤ hou.toInt ∧ hou.toInt ≤ 503)) ∧ u1 = g)) : ∀ a : Nat, tg g a ≠ 0 → tg u1 a = tg g a := by
  rcases hC with ⟨-, rv, -, hu⟩ | ⟨-, -, hu⟩
  · rw [hu]; exact fun _ _ => rfl
  · rw [hu]; exact fun _ _ => rfl
theorem kt_go {r : Int32} {hrs : Int32} (hC : (r = 0 ∧ ∃ (rv : Int32) (v8 : Gh), ((∀ a : Nat, tg g a ≠ 0 → tg v8 a = tg g a) ∧ ∃ c h, pI g o 1 = nI c ∧ hrs = nI h ∧ (1 ≤ h ∧ h ≤ 48) ∧ c + h ≤ 504 ∧ rv = nI (c + h) ∧ v8 = sI g o 1 (nI (c + h))) ∧ u1 = uL v8 q (vp_updL (pL v8 q) 0 rv.toInt64)) ∨ (r = 1 ∧ (¬ (1 ≤ hrs.toInt ∧ hrs.toInt ≤ 48)) ∧ u1 = g) ∨ (r = 2 ∧ ((1 ≤ hrs.toInt ∧ hrs.toInt ≤ 48) ∧ 504 < (pI g o 1).toInt + hrs.toInt) ∧ u1 = g)) : ∀ a : Nat, tg g a ≠ 0 → tg u1 a = tg g a := by
  rcases hC with ⟨-, rv, v8, ⟨hk, -⟩, hu⟩ | ⟨-, -, hu⟩ | ⟨-, -, hu⟩
  · rw [hu]; exact hk
  · rw [hu]; exact fun _ _ => rfl
  · rw [hu]; exact fun _ _ => rfl
theorem kt_site {r : Int32} (hC : (r = 0 ∧ ∃ (rv : Int32) (v8 : Gh), ((∀ a : Nat, tg g a ≠ 0 → tg v8 a = tg g a) ∧ ∃ k a v, k < 3 ∧ pI g o 0 = nI k ∧ Ext m X0 g v ∧ tg v a = 12 + 64 * k ∧ tg v (pF v a 5) = 16 + 64 * k ∧ tg g a = 0 ∧ pI v a 0 = 0 ∧ (∀ x, pI v (pF v a 5) x = 0) ∧ v8 = sI (uO v (pF g o 2) (va_up (pO v (pF g o 2)) k (some a))) o 0 (nI (k + 1)) ∧ rv = nI k) ∧ u1 = uL v8 q (vp_updL (pL v8 q) 0 rv.toInt64)) ∨ (r = 1 ∧ (¬ (pI g o 0).toInt < 3) ∧ u1 = g)) : ∀ a : Nat, tg g a ≠ 0 → tg u1 a = tg g a := by
  rcases hC with ⟨-, rv, v8, ⟨hk, -⟩, hu⟩ | ⟨-, -, hu⟩
  · rw [hu]; exact hk
  · rw [hu]; exact fun _ _ => rfl
theorem kt_cover {r : Int32} {site : Int32} {is : Int32} (hC : (r = 0 ∧ ∃ (rv : Int32) (v8 : Gh), ((∀ a : Nat, tg g a ≠ 0 → tg v8 a = tg g a) ∧ ∃ j a, site = nI j ∧ (j : Int) < (pI g o 0).toInt ∧ pO g (pF g o 2) j = some a ∧ rv = pI g a 0 ∧ v8 = sI g a 0 is) ∧ u1 = uL v8 q (vp_updL (pL v8 q) 0 (if rv = 0 then 0 else 1))) ∨ (r = 1 ∧ (¬ (0 ≤ site.toInt ∧ site.toInt < (pI g o 0).toInt)) ∧ u1 = g)) : ∀ a : Nat, tg g a ≠ 0 → tg u1 a = tg g a := by
  rcases hC with ⟨-, rv, v8, ⟨hk, -⟩, hu⟩ | ⟨-, -, hu⟩
  · rw [hu]; exact hk
  · rw [hu]; exact fun _ _ => rfl
theorem kt_squareBits {r : Int32} {dr : Int32} {le : Int32} {mat : Int32} (hC : (r = 0 ∧ ∃ (rv : Int64), (∃ j k, dr = nI j ∧ le = nI k ∧ (1 ≤ j ∧ j ≤ 20) ∧ (5 ≤ k ∧ k ≤ 60) ∧ rv = sqR (sqw mat (wOf (pI g (pF g (pF g o 0) 0)) (pI g (pF g (pF g o 0) 1)) (pI g o 1))) j k) ∧ u1 = uL g q (vp_updL (pL g q) 0 rv)) ∨ (r = 1 ∧ (¬ ((1 ≤ dr.toInt ∧ dr.toInt ≤ 20) ∧ 5 ≤ le.toInt ∧ le.toInt ≤ 60)) ∧ u1 = g)) : ∀ a : Nat, tg g a ≠ 0 → tg u1 a = tg g a := by
  rcases hC with ⟨-, rv, -, hu⟩ | ⟨-, -, hu⟩
  · rw [hu]; exact fun _ _ => rfl
  · rw [hu]; exact fun _ _ => rfl
theorem kt_plan {r : Int32} {site : Int32} {x : Int32} {y : Int32} {is : Int32} (hC : (r = 0 ∧ ∃ (rv : Int32) (v8 : Gh), ((∀ a : Nat, tg g a ≠ 0 → tg v8 a = tg g a) ∧ ∃ j a jx jy, site = nI j ∧ x = nI jx ∧ y = nI jy ∧ jx < 8 ∧ jy < 6 ∧ (j : Int) < (pI g o 0).toInt ∧ pO g (pF g o 2) j = some a ∧ rv = pn (pI v8 (pF g a 5)) 48 ∧ v8 = sI g (pF g a 5) (8 * jy + jx) (vp_nar .boolean is)) ∧ u1 = uL v8 q (vp_updL (pL v8 q) 0 rv.toInt64)) ∨ (r = 1 ∧ (¬ ((0 ≤ site.toInt ∧ site.toInt < (pI g o 0).toInt) ∧ (0 ≤ x.toInt ∧ x.toInt ≤ 7) ∧ 0 ≤ y.toInt ∧ y.toInt ≤ 5)) ∧ u1 = g)) : ∀ a : Nat, tg g a ≠ 0 → tg u1 a = tg g a := by
  rcases hC with ⟨-, rv, v8, ⟨hk, -⟩, hu⟩ | ⟨-, -, hu⟩
  · rw [hu]; exact hk
  · rw [hu]; exact fun _ _ => rfl
theorem kt_machine {r is : Int32} (hC : (∀ a : Nat, tg g a ≠ 0 → tg u1 a = tg g a) ∧ r = pI g o 2 ∧ u1 = sI g o 2 is) : ∀ a : Nat, tg g a ≠ 0 → tg u1 a = tg g a := hC.1
theorem lx_N (h : LI D kA b eD o m q q2 g H) (hC : (∃ f, u1 = uL g q f) ∨ u1 = g) (hM1 : TM D kA b u1 H1) (hG1 : GOK u1) (hx : Ext m X0 u1 u2) (hM : TM D kA b u2 H2) (hG : GOK u2) : LI D kA b eD o m q q2 u2 H2 ∧ ∀ C S k, RI g m C S k → RI u2 m C S k := by
  rcases hC with ⟨f, rfl⟩ | rfl
  · have hI1 := h.uL hM1 hG1
    exact ⟨hI1.x0 hx hM hG, fun C S k hR => (hR.uL).x0 hI1 hx⟩
  · exact ⟨h.x0 hx hM hG, fun C S k hR => hR.x0 h hx⟩
theorem lx_G {d9 : Nat} (h : LI D kA b eD o m q q2 g H) (hC : (∃ f, u1 = uL g q f) ∨ u1 = g) (hM1 : TM D kA b u1 H1) (hG1 : GOK u1) (hx : Ext m XA u1 u2 ∧ GCm u2 m + d9 ≤ GCm u1 m + 1) (hM : TM D kA b u2 H2) (hG : GOK u2) : LI D kA b eD o m q q2 u2 H2 ∧ ∀ C S k C2 S2, RI g m C S k → C2 ≤ C + 60 + 14 * d9 → S2 ≤ S + 400 + 108 * d9 → RI u2 m C2 S2 (k + 1) := by
  obtain ⟨hx, hd⟩ := hx
  have h17 := h.2.2.2.1
  rcases hC with ⟨f, rfl⟩ | rfl
  · have hI1 := h.uL hM1 hG1
    refine ⟨hI1.xA hx hM hG, fun C S k C2 S2 hR hC hS => ?_⟩
    have hR1 : RI (uL g q f) m C S k := hR.uL
    have e : pI u2 m 0 = pI (uL g q f) m 0 := hx.i (show tg g m ≠ 0 by omega) (Or.inr (by decide))
    unfold RI at hR1 ⊢
    rw [e]
    omega
  · refine ⟨h.xA hx hM hG, fun C S k C2 S2 hR hC hS => ?_⟩
    have e : pI u2 m 0 = pI u1 m 0 := hx.i (by omega) (Or.inr (by decide))
    unfold RI at hR ⊢
    rw [e]
    omega
theorem go_up {b9 hrs : Int32} {d9 : Nat} (h17 : tg u1 m = 17) (hMo : ∃ v, Ext m X0 u1 v ∧ ((pI v m 2 = 0 ∧ ∃ c h, pI u1 m 0 = nI c ∧ hrs = nI h ∧ (1 ≤ h ∧ h ≤ 48) ∧ c + h ≤ 504 ∧ b9 = nI (c + h) ∧ Ext m XA (sI v m 0 (nI (c + h))) u2 ∧ GCm u2 m + d9 ≤ GCm v m ∧ pI u2 m 2 = 0) ∨ (pI v m 2 = 1 ∧ ¬ (1 ≤ hrs.toInt ∧ hrs.toInt ≤ 48) ∧ u2 = v ∧ d9 = 0) ∨ (pI v m 2 = 2 ∧ (1 ≤ hrs.toInt ∧ hrs.toInt ≤ 48) ∧ 504 < (pI u1 m 0).toInt + hrs.toInt ∧ u2 = v ∧ d9 = 0))) : (pI u1 m 0).toInt ≤ (pI u2 m 0).toInt := by
  obtain ⟨x, hxv, hcase⟩ := hMo
  have e0 : pI x m 0 = pI u1 m 0 := hxv.i (by omega) (Or.inr (by decide))
  rcases hcase with ⟨-, c, n, hc, -, hn1, hcn, -, hxu, -⟩ | ⟨-, -, rfl, -⟩ | ⟨-, -, -, rfl, -⟩
  · have e1 : pI u2 m 0 = nI (c + n) := (hxu.i (show tg x m ≠ 0 by rw [hxv.tk h17 (by decide)]; decide) (Or.inr (by decide))).trans sI_at
    rw [hc, e1, nI_toInt (by omega), nI_toInt (by omega)]
    omega
  · rw [e0]
    exact Int.le_refl _
  · rw [e0]
    exact Int.le_refl _
theorem ed_site {r : Int32} (h : LI D kA b eD o m q q2 g H) (hC : (r = 0 ∧ ∃ (rv : Int32) (v8 : Gh), ((∀ a : Nat, tg g a ≠ 0 → tg v8 a = tg g a) ∧ ∃ k a v, k < 3 ∧ pI g o 0 = nI k ∧ Ext m X0 g v ∧ tg v a = 12 + 64 * k ∧ tg v (pF v a 5) = 16 + 64 * k ∧ tg g a = 0 ∧ pI v a 0 = 0 ∧ (∀ x, pI v (pF v a 5) x = 0) ∧ v8 = sI (uO v (pF g o 2) (va_up (pO v (pF g o 2)) k (some a))) o 0 (nI (k + 1)) ∧ rv = nI k) ∧ u1 = uL v8 q (vp_updL (pL v8 q) 0 rv.toInt64)) ∨ (r = 1 ∧ (¬ (pI g o 0).toInt < 3) ∧ u1 = g)) : pF u1 (pF u1 m 5) 1 = eD := by
  rcases hC with ⟨-, rv, v8, ⟨-, k1, a, v, -, -, hgv, -, -, -, -, -, hv8, -⟩, hu1⟩ | ⟨-, -, rfl⟩
  · have hF1 : pF u1 = pF v := by rw [hu1, hv8]; rfl
    rw [hF1]
    exact ed2 h.2.2.2.2.2.2.2 h.2.2.2.1 h.lst hgv
  · exact h.2.2.2.2.2.2.2
theorem narCU (x : Int32) : vp_nar .char (x.toUInt32 % 65536).toInt32 = (x.toUInt32 % 65536).toInt32 := by
  have e : (x.toUInt32 % 65536).toInt32 = vp_nar .char x := (vp_nar_char x).symm
  rw [e]
  exact narC x
end LKT
