/-! between two calls of the law -/
section LII
variable {D : va_G} {kA : Nat → ClassId} {b eD o m q q2 k C S : Nat} {g u v w : Gh} {H H1 : Heap} {X : Nat → Prop}
theorem GC_xg {L n : Nat} (hM : TM D kA b g H) (hG : GOK g) (hL : tg g L = 26) (hn : (n : Int) ≤ (pI g L 0).toInt) (hx : Ext m X g u) (h27 : ¬ X 27) (h30 : ∀ t, t % 64 = 30 → ¬ X t) : GC u L n = GC g L n := by
  induction n with
  | zero => rfl
  | succ n ih =>
    show GC u L n + gc u (sa u L n) = GC g L n + gc g (sa g L n)
    rw [ih (by omega), sa_ext hM hG hL (k := n) (by omega) hx h27, gc_ext hM hx (sa_tag hM hG hL (k := n) (by omega)).1 (fun y hy => h30 _ (by omega))]
theorem GCm_xg (hM : TM D kA b g H) (hG : GOK g) (ho : tg g m = 17) (hx : Ext m X g u) (h27 : ¬ X 27) (h30 : ∀ t, t % 64 = 30 → ¬ X t) : GCm u m = GCm g m := by
  obtain ⟨hL, h0, h3⟩ := mo_list hM ho
  unfold GCm
  rw [hx.f (q := m) (by omega), hx.i (q := pF g m 5) (j := 0) (by omega) (Or.inr (by decide))]
  exact GC_xg hM hG hL (by omega) hx h27 h30
theorem GC_fo {L : Nat} (hF : pF u = pF g) (hO : pO u = pO g) : ∀ n, GC u L n = GC g L n
  | 0 => rfl
  | n + 1 => by
    have hg : ∀ a, gc u a = gc g a := fun a => cn_congr 48 (fun k hk => by
      show (pO u (pF u (pF u a 0) (k / 8)) (k % 8)).isSome = (pO g (pF g (pF g a 0) (k / 8)) (k % 8)).isSome
      rw [hF, hO])
    have hs : sa u L n = sa g L n := by
      unfold sa
      rw [hF, hO]
    show GC u L n + gc u (sa u L n) = GC g L n + gc g (sa g L n)
    rw [GC_fo hF hO n, hs, hg]
theorem GCm_fo (hF : pF u = pF g) (hO : pO u = pO g) (hI : pI u (pF g m 5) 0 = pI g (pF g m 5) 0) : GCm u m = GCm g m := by
  unfold GCm
  rw [hF, hI, GC_fo hF hO]
/-- the list has one site more, without cells -/
theorem GC_Ax {L n k a : Nat} (hM : TM D kA b g H) (hG : GOK g) (hL : tg g L = 26) (hk : pI g L 0 = nI k) (hk3 : k ≤ 3) (hn : n ≤ k) (hx : Ext m X0 g w) (hA : Ax L k a w u) : GC u L n = GC g L n := by
  have ek : (pI g L 0).toInt = (k : Int) := by rw [hk]; exact nI_toInt (by omega)
  induction n with
  | zero => rfl
  | succ n ih =>
    obtain ⟨hA1, -, -, -, hA5, -⟩ := hA
    obtain ⟨s1, s2⟩ := sa_tag hM hG hL (k := n) (by omega)
    have e1 : pF w L = pF g L := hx.f (by omega)
    have hs : sa u L n = sa g L n := by
      unfold sa
      rw [hA5 n (by omega), e1, hx.o (q := pF g L 0) (by omega) (fun z => z)]
    obtain ⟨g1, g2⟩ := grid_tags hM s1
    have t1 := hx.tk s1 (by omega)
    have t2 := hx.tk g1 (by omega)
    have f1 : pF u (sa g L n) = pF g (sa g L n) := (((hA1 _ (by omega)).2.1 (fun e => by rw [e] at s1; omega)).2).trans (hx.f (by omega))
    have f2 : pF u (pF g (sa g L n) 0) = pF g (pF g (sa g L n) 0) := (((hA1 _ (by omega)).2.1 (fun e => by rw [e] at g1; omega)).2).trans (hx.f (by omega))
    have hg : gc u (sa g L n) = gc g (sa g L n) := cn_congr 48 (fun j hj => by
      have g3 := g2 (j / 8) (by omega)
      have t3 := hx.tk g3 (by omega)
      show (pO u (pF u (pF u (sa g L n) 0) (j / 8)) (j % 8)).isSome = (pO g (pF g (pF g (sa g L n) 0) (j / 8)) (j % 8)).isSome
      rw [f1, f2, (hA1 _ (show tg w (pF g (pF g (sa g L n) 0) (j / 8)) ≠ 0 by omega)).2.2.1 (by omega), hx.o (by omega) (fun z => z)])
    show GC u L n + gc u (sa u L n) = GC g L n + gc g (sa g L n)
    rw [ih (by omega), hs, hg]
theorem GCm_Ax {a : Nat} (hM : TM D kA b g H) (hG : GOK g) (ho : tg g m = 17) (hk3 : k < 3) (hk : pI g (pF g m 5) 0 = nI k) (hx : Ext m X0 g w) (ha : tg w a = 28 + 64 * k) (h29 : tg w (pF w a 0) = 29 + 64 * k) (h30 : ∀ y, y < 6 → tg w (pF w (pF w a 0) y) = 30 + 64 * (8 * k + y)) (hnone : ∀ y, y < 6 → pO w (pF w (pF w a 0) y) = fun _ => none) (hA : Ax (pF g m 5) k a w u) : GCm u m = GCm g m := by
  obtain ⟨hL, h0, h3⟩ := mo_list hM ho
  have hLw := hx.tk hL (by omega)
  have e := GC_Ax (n := k) hM hG hL hk (by omega) (Nat.le_refl _) hx hA
  obtain ⟨hA1, hA2, -, hA4, hA5, hA6⟩ := hA
  have ek : (pI g (pF g m 5) 0).toInt = (k : Int) := by rw [hk]; exact nI_toInt (by omega)
  have hom : m ≠ pF g m 5 := fun z => by rw [← z] at hL; omega
  have hmw := hx.tk ho (by omega)
  have f0 : pF u m = pF g m := (((hA1 m (by omega)).2.1 hom).2).trans (hx.f (by omega))
  have es : sa u (pF g m 5) k = a := by
    unfold sa
    rw [hA6]
    rfl
  have f1 : pF u a = pF w a := ((hA1 a (by omega)).2.1 (fun z => by rw [z] at ha; omega)).2
  have f2 : pF u (pF w a 0) = pF w (pF w a 0) := ((hA1 _ (by omega)).2.1 (fun z => by rw [z] at h29; omega)).2
  have hz : gc u a = 0 := by
    have : gc u a = cn (fun _ => false) 48 := cn_congr 48 (fun j hj => by
      have t3 := h30 (j / 8) (by omega)
      show (pO u (pF u (pF u a 0) (j / 8)) (j % 8)).isSome = false
      rw [f1, f2, (hA1 _ (show tg w (pF w (pF w a 0) (j / 8)) ≠ 0 by omega)).2.2.1 (by omega), hnone _ (by omega)]
      rfl)
    rw [this]
    decide
  unfold GCm
  rw [f0, hA2, nI_toInt (by omega), ek]
  show GC u (pF g m 5) k + gc u (sa u (pF g m 5) k) = GC g (pF g m 5) k
  rw [e, es, hz]
  omega
/-- between two calls: the memory, both objects, the two arrays for answers, how both stand to each other, the list's first array -/
noncomputable def LI (D : va_G) (kA : Nat → ClassId) (b eD o m q q2 : Nat) (g : Gh) (H : Heap) : Prop := TM D kA b g H ∧ GOK g ∧ tg g o = 1 ∧ tg g m = 17 ∧ tg g q = 34 ∧ tg g q2 = 35 ∧ LR g o m ∧ pF g (pF g m 5) 1 = eD
theorem LI.nsi (h : LI D kA b eD o m q q2 g H) : NSI g o m := NSI.of h.1 h.2.2.1 h.2.2.2.1 h.2.2.2.2.2.2.1
theorem LI.tgs (h : LI D kA b eD o m q q2 g H) : TGS g o m := TGS.of h.1 h.2.2.1 h.2.2.2.1 h.nsi
theorem LI.ed (h : LI D kA b eD o m q q2 g H) (hx : Ext m X g u) : pF u (pF u m 5) 1 = eD := by
  have h26 := (mo_list h.1 h.2.2.2.1).1
  have h17 := h.2.2.2.1
  rw [hx.f (q := m) (by omega), hx.f (q := pF g m 5) (by omega)]
  exact h.2.2.2.2.2.2.2
theorem LI.x0 (h : LI D kA b eD o m q q2 g H) (hx : Ext m X0 g u) (hM : TM D kA b u H1) (hG : GOK u) : LI D kA b eD o m q q2 u H1 :=
  ⟨hM, hG, hx.tk h.2.2.1 (by decide), hx.tk h.2.2.2.1 (by decide), hx.tk h.2.2.2.2.1 (by decide), hx.tk h.2.2.2.2.2.1 (by decide), h.2.2.2.2.2.2.1.ext0 h.tgs h.nsi hx, h.ed hx⟩
theorem LI.xA (h : LI D kA b eD o m q q2 g H) (hx : Ext m XA g u) (hM : TM D kA b u H1) (hG : GOK u) : LI D kA b eD o m q q2 u H1 :=
  ⟨hM, hG, hx.tk h.2.2.1 (by decide), hx.tk h.2.2.2.1 (by decide), hx.tk h.2.2.2.2.1 (by decide), hx.tk h.2.2.2.2.2.1 (by decide), h.2.2.2.2.2.2.1.extA h.tgs h.nsi hx, h.ed hx⟩
theorem LI.uL {f : Nat → Int64} (h : LI D kA b eD o m q q2 g H) (hM : TM D kA b (uL g q f) H1) (hG : GOK (uL g q f)) : LI D kA b eD o m q q2 (uL g q f) H1 :=
  ⟨hM, hG, h.2.2.1, h.2.2.2.1, h.2.2.2.2.1, h.2.2.2.2.2.1, h.2.2.2.2.2.2.1, h.2.2.2.2.2.2.2⟩
/-- how much was made so far, with what the cells and the hours that are left may make yet -/
noncomputable def RI (g : Gh) (m C S k : Nat) : Prop := C + 14 * GCm g m + 85 * (504 - (pI g m 0).toInt.toNat) ≤ 50000 + 730 * k ∧ S + 108 * GCm g m + 652 * (504 - (pI g m 0).toInt.toNat) ≤ 400000 + 5600 * k
theorem RI.of (h : RI g m C S k) (h1 : GCm u m = GCm g m) (h2 : pI u m 0 = pI g m 0) : RI u m C S k := by
  unfold RI at h ⊢
  rw [h1, h2]
  exact h
theorem RI.uL {f : Nat → Int64} (h : RI g m C S k) : RI (uL g q f) m C S k := h.of (GCm_fo rfl rfl rfl) rfl
theorem RI.x0 (h : RI g m C S k) (hI : LI D kA b eD o m q q2 g H) (hx : Ext m X0 g u) : RI u m C S k :=
  h.of (GCm_x0 hI.1 hI.2.1 hI.2.2.2.1 hx) (hx.i (q := m) (j := 0) (by have := hI.2.2.2.1; omega) (Or.inr (by decide)))
theorem RI.sI {a j : Nat} {x : Int32} (h : RI g m C S k) (h1 : pF g m 5 ≠ a) (h2 : m ≠ a ∨ 0 ≠ j) : RI (sI g a j x) m C S k :=
  h.of (GCm_sI h1) (sI_ne h2)
theorem RI.add {c n : Nat} (h : RI g m C S k) (hc : c ≤ 730) (hn : n ≤ 5600) : RI g m (C + c) (S + n) (k + 1) := by
  unfold RI at h ⊢
  omega
/-- cells may have been made and have fallen -/
theorem RI.grow {d c n : Nat} (h : RI g m C S k) (h1 : GCm u m + d ≤ GCm g m + 1) (h2 : pI u m 0 = pI g m 0) (hc : c ≤ 600) (hn : n ≤ 5000) : RI u m (C + c + 14 * d) (S + n + 108 * d) (k + 1) := by
  unfold RI at h ⊢
  rw [h2]
  omega
theorem LI.lst (h : LI D kA b eD o m q q2 g H) : tg g (pF g m 5) = 26 := (mo_list h.1 h.2.2.2.1).1
end LII

