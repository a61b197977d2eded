/-! how many cells all sites have -/
noncomputable def sa (g : Gh) (L j : Nat) : Nat := (pO g (pF g L 0) j).getD 0
noncomputable def GC (g : Gh) (L : Nat) : Nat → Nat
  | 0 => 0
  | n + 1 => GC g L n + gc g (sa g L n)
section GCL
variable {D : va_G} {kA : Nat → ClassId} {b m i j k n L : Nat} {g u : Gh} {H : Heap} {X : Nat → Prop}
theorem sa_tag (hM : TM D kA b g H) (hG : GOK g) (hL : tg g L = 26) (hk : (k : Int) < (pI g L 0).toInt) : tg g (sa g L k) = 28 + 64 * k ∧ tg g (pF g L 0) = 27 := by
  obtain ⟨-, hf⟩ := o_al (i := 0) (q := L) hM (by omega)
  have h3 := hf.1
  have h27 := hf.2.1 (by omega)
  obtain ⟨a, ha⟩ := hG.1 L hL k hk
  obtain ⟨-, he⟩ := o_el (i := 0) (q := pF g L 0) hM (by omega)
  have e : sa g L k = a := by
    unfold sa
    rw [ha]
    rfl
  rw [e]
  exact ⟨he k (by omega) a ha, h27⟩
theorem sa_ext (hM : TM D kA b g H) (hG : GOK g) (hL : tg g L = 26) (hk : (k : Int) < (pI g L 0).toInt) (hx : Ext m X g u) (hX : ¬ X 27) : sa u L k = sa g L k := by
  obtain ⟨-, h27⟩ := sa_tag hM hG hL hk
  unfold sa
  rw [hx.f (q := L) (by omega), hx.o (q := pF g L 0) (by omega) (by rw [h27]; exact hX)]
theorem XS_27 : ¬ XS j 27 := fun ⟨y, _, e⟩ => by omega
theorem XS_ne (h : k ≠ j) : ∀ y, y < 6 → ¬ XS j (30 + 64 * (8 * k + y)) := fun y hy ⟨y2, hy2, e⟩ => by omega
theorem GC_x0 (hM : TM D kA b g H) (hG : GOK g) (hL : tg g L = 26) (hn : (n : Int) ≤ (pI g L 0).toInt) (hx : Ext m X0 g u) : GC u L n = GC g L n := by
  induction n with
  | zero => rfl
  | succ n ih =>
    show GC u L n + gc u (sa u L n) = GC g L n + gc g (sa g L n)
    rw [ih (by omega), sa_ext hM hG hL (k := n) (by omega) hx (fun z => z), gc_ext hM hx (sa_tag hM hG hL (k := n) (by omega)).1 (fun y _ z => z)]
theorem GC_ne (hM : TM D kA b g H) (hG : GOK g) (hL : tg g L = 26) (hn : (n : Int) ≤ (pI g L 0).toInt) (hx : Ext m (XS j) g u) (hne : n ≤ j) : GC u L n = GC g L n := by
  induction n with
  | zero => rfl
  | succ n ih =>
    show GC u L n + gc u (sa u L n) = GC g L n + gc g (sa g L n)
    rw [ih (by omega) (by omega), sa_ext hM hG hL (k := n) (by omega) hx XS_27, gc_ext hM hx (sa_tag hM hG hL (k := n) (by omega)).1 (XS_ne (by omega))]
/-- one site's cells change -/
theorem GC_site (hM : TM D kA b g H) (hG : GOK g) (hL : tg g L = 26) (hn : (n : Int) ≤ (pI g L 0).toInt) (hx : Ext m (XS j) g u) (hj : j < n) : GC u L n + gc g (sa g L j) = GC g L n + gc u (sa g L j) := by
  induction n with
  | zero => omega
  | succ n ih =>
    show GC u L n + gc u (sa u L n) + gc g (sa g L j) = GC g L n + gc g (sa g L n) + gc u (sa g L j)
    by_cases e : n = j
    · subst e
      rw [GC_ne hM hG hL (by omega) hx (Nat.le_refl _), sa_ext hM hG hL (k := n) (by omega) hx XS_27]
      omega
    · have h1 := ih (by omega) (by omega)
      rw [sa_ext hM hG hL (k := n) (by omega) hx XS_27, gc_ext hM hx (sa_tag hM hG hL (k := n) (by omega)).1 (XS_ne e)]
      omega
theorem cn_mono {p r : Nat → Bool} : ∀ n, (∀ k, k < n → r k = true → p k = true) → cn r n ≤ cn p n
  | 0, _ => Nat.le_refl _
  | n + 1, h => by
    have ih := cn_mono n (fun k hk => h k (by omega))
    show cn r n + (if r n = true then 1 else 0) ≤ cn p n + (if p n = true then 1 else 0)
    by_cases e : r n = true
    · rw [if_pos e, if_pos (h n (by omega) e)]
      omega
    · rw [if_neg e]
      split <;> omega
/-- a place of a site is written -/
theorem cf_put {o x y k : Nat} {v : Option Nat} (hr : ∀ y, y < 6 → tg u (pF u (pF u o 0) y) = 30 + 64 * (8 * i + y)) (hx : x < 8) (hy : y < 6) (hk : k < 48) : cf (uO u (pF u (pF u o 0) y) (va_up (pO u (pF u (pF u o 0) y)) x v)) o k = if k = 8 * y + x then v else cf u o k := by
  show pO (uO u _ _) (pF u (pF u o 0) (k / 8)) (k % 8) = _
  by_cases e : pF u (pF u o 0) (k / 8) = pF u (pF u o 0) y
  · have e1 := hr (k / 8) (by omega)
    have e2 := hr y hy
    rw [e] at e1
    rw [e, uO_s]
    show (if k % 8 = x then v else pO u (pF u (pF u o 0) y) (k % 8)) = _
    by_cases ek : k = 8 * y + x
    · rw [if_pos ek, if_pos (by omega)]
    · rw [if_neg ek, if_neg (by omega)]
      unfold cf
      rw [e]
  · rw [uO_n e]
    have ek : ¬ k = 8 * y + x := fun z => e (by rw [show k / 8 = y by omega])
    rw [if_neg ek]
    rfl
theorem gc_put {o x y c : Nat} (hr : ∀ y, y < 6 → tg u (pF u (pF u o 0) y) = 30 + 64 * (8 * i + y)) (hx : x < 8) (hy : y < 6) : gc (uO u (pF u (pF u o 0) y) (va_up (pO u (pF u (pF u o 0) y)) x (some c))) o ≤ gc u o + 1 := by
  refine cn_set (j := 8 * y + x) ?_ 48 (fun k hk hne => ?_)
  · show (cf _ o (8 * y + x)).isSome = true
    rw [cf_put hr hx hy (by omega), if_pos rfl]
    rfl
  · show (cf _ o k).isSome = (cf u o k).isSome
    rw [cf_put hr hx hy hk, if_neg hne]
theorem gc_out {o x y : Nat} (hr : ∀ y, y < 6 → tg u (pF u (pF u o 0) y) = 30 + 64 * (8 * i + y)) (hx : x < 8) (hy : y < 6) : gc (uO u (pF u (pF u o 0) y) (va_up (pO u (pF u (pF u o 0) y)) x none)) o ≤ gc u o := by
  refine cn_mono 48 (fun k hk h => ?_)
  have h2 : (cf (uO u (pF u (pF u o 0) y) (va_up (pO u (pF u (pF u o 0) y)) x none)) o k).isSome = true := h
  rw [cf_put hr hx hy hk] at h2
  show (cf u o k).isSome = true
  by_cases e : k = 8 * y + x
  · rw [if_pos e] at h2; exact absurd h2 (by decide)
  · rw [if_neg e] at h2; exact h2
end GCL
/-- how many cells all the model's sites have -/
noncomputable def GCm (g : Gh) (o : Nat) : Nat := GC g (pF g o 5) (pI g (pF g o 5) 0).toInt.toNat
section GCM
variable {D : va_G} {kA : Nat → ClassId} {b o j a : Nat} {g u : Gh} {H : Heap}
theorem GC_le {L : Nat} : ∀ n, GC g L n ≤ 48 * n
  | 0 => Nat.le_refl _
  | n + 1 => by
    have h1 : GC g L n ≤ 48 * n := GC_le n
    have h2 : gc g (sa g L n) ≤ 48 := gc_le
    show GC g L n + gc g (sa g L n) ≤ _
    omega
theorem GCm_le (hM : TM D kA b g H) (ho : tg g o = 17) : GCm g o ≤ 144 := by
  obtain ⟨hL, h0, h3⟩ := mo_list hM ho
  have h1 : GCm g o ≤ 48 * (pI g (pF g o 5) 0).toInt.toNat := GC_le _
  omega
theorem GCm_x0 (hM : TM D kA b g H) (hG : GOK g) (ho : tg g o = 17) (hx : Ext o X0 g u) : GCm u o = GCm g o := by
  obtain ⟨hL, h0, h3⟩ := mo_list hM ho
  unfold GCm
  rw [hx.f (q := o) (by omega), hx.i (q := pF g o 5) (j := 0) (by omega) (Or.inr (by decide))]
  exact GC_x0 hM hG hL (by omega) hx
theorem GCm_site (hM : TM D kA b g H) (hG : GOK g) (ho : tg g o = 17) (hx : Ext o (XS j) g u) (hj : (j : Int) < (pI g (pF g o 5) 0).toInt) (ha : pO g (pF g (pF g o 5) 0) j = some a) : GCm u o + gc g a = GCm g o + gc u a := by
  obtain ⟨hL, h0, h3⟩ := mo_list hM ho
  have e : sa g (pF g o 5) j = a := by
    unfold sa
    rw [ha]
    rfl
  unfold GCm
  rw [hx.f (q := o) (by omega), hx.i (q := pF g o 5) (j := 0) (by omega) (Or.inr (by decide))]
  have h := GC_site (n := (pI g (pF g o 5) 0).toInt.toNat) hM hG hL (by omega) hx (by omega)
  rw [e] at h
  exact h
/-- a warmth of the model's days -/
theorem wm_bd {j : Nat} (hM : TM D kA b g H) (ho : tg g o = 17) (hj : j ≤ 503) : -400 ≤ (wOf (fun d => pI g ((pO g (pF g o 0) d).getD 0) 0) (fun d => pI g ((pO g (pF g o 0) d).getD 0) 1) (nI j)).toInt ∧ (wOf (fun d => pI g ((pO g (pF g o 0) d).getD 0) 0) (fun d => pI g ((pO g (pF g o 0) d).getD 0) 1) (nI j)).toInt ≤ 200 := by
  rw [wOf_in hj]
  refine wN_bd ?_
  obtain ⟨_, _, -, hf⟩ := o_mo (i := 0) (q := o) hM (by omega)
  obtain ⟨-, hd⟩ := o_da (i := 0) (q := pF g o 0) hM (by omega)
  have h22 := (hd (j / 24) (by omega)).2
  obtain ⟨-, hr⟩ := o_ro (i := 0) (q := (pO g (pF g o 0) (j / 24)).getD 0) hM (by omega)
  exact ⟨hr.1, hr.2.1, hr.2.2.1⟩
theorem sI_tg {q k : Nat} {x : Int32} : tg (sI g q k x) = tg g := rfl
theorem Ext.setI {m q k : Nat} {X : Nat → Prop} {x : Int32} (h : Ext m X g u) : Ext m X (sI g q k x) (sI u q k x) := fun p hp => by
  obtain ⟨a1, a2, a3, a4, a5⟩ := h p hp
  refine ⟨a1, fun j hj => ?_, a3, a4, a5⟩
  by_cases e : p = q
  · subst e
    by_cases ej : j = k
    · subst ej
      rw [sI_at, sI_at]
    · rw [sI_ne (Or.inr ej), sI_ne (Or.inr ej)]
      exact a2 j hj
  · rw [sI_ne (Or.inl e), sI_ne (Or.inl e)]
    exact a2 j hj
end GCM
theorem GC_sI {g : Gh} {q k L : Nat} {x : Int32} : ∀ n, GC (sI g q k x) L n = GC g L n
  | 0 => rfl
  | n + 1 => by
    show GC (sI g q k x) L n + gc (sI g q k x) (sa (sI g q k x) L n) = GC g L n + gc g (sa g L n)
    rw [GC_sI n]
    rfl
theorem GCm_sI {g : Gh} {q k o : Nat} {x : Int32} (h : pF g o 5 ≠ q) : GCm (sI g q k x) o = GCm g o := by
  unfold GCm
  rw [show pF (sI g q k x) o 5 = pF g o 5 from rfl, sI_ne (Or.inl h), GC_sI]
theorem uL_id {g : Gh} {q : Nat} {f : Nat → Int64} (h : f = pL g q) : uL g q f = g := by
  subst h
  have e : (fun a => if a = q then pL g q else g.2.2.2.2 a) = g.2.2.2.2 := funext fun a => by
    by_cases z : a = q
    · subst z; exact if_pos rfl
    · exact if_neg z
  show (g.1, g.2.1, g.2.2.1, g.2.2.2.1, (fun a => if a = q then pL g q else g.2.2.2.2 a)) = g
  rw [e]
/-- what Ext leaves out is no other address -/
theorem me_no {D : va_G} {kA : Nat → ClassId} {b : Nat} {g : Gh} {H : Heap} {me q t : Nat} (hM : TM D kA b g H) (h : me < b ∨ tg g me = 17) (hq : tg g q = t) (h0 : t ≠ 0) (h17 : t ≠ 17) : q ≠ me := fun e => by
  subst e
  rcases h with h | h
  · have h9 := hM.ge (q := q) (by omega)
    omega
  · omega
theorem TM.z0 {D : va_G} {kA : Nat → ClassId} {b : Nat} {g : Gh} {H : Heap} {q : Nat} (hM : TM D kA b g H) (h : q < b) : tg g q = 0 := Decidable.byContradiction fun z => by
  have h9 := hM.ge z
  omega
/-- where nothing told is left out, nothing is left out at another address either -/
theorem Ext.to {me m : Nat} {X : Nat → Prop} {g u : Gh} (h : Ext me X g u) (h0 : tg g me = 0) : Ext m X g u := fun q hq => by
  obtain ⟨a1, a2, a3⟩ := h q hq
  exact ⟨a1, fun j _ => a2 j (Or.inl (fun e => hq (by rw [e]; exact h0))), a3⟩

