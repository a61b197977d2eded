/-! how many cells a site has; what falls makes them fewer -/
noncomputable def cn (p : Nat → Bool) : Nat → Nat
  | 0 => 0
  | n + 1 => cn p n + (if p n = true then 1 else 0)
theorem cn_le (p : Nat → Bool) : ∀ n, cn p n ≤ n
  | 0 => Nat.le_refl _
  | n + 1 => by
    have := cn_le p n
    show cn p n + (if p n = true then 1 else 0) ≤ n + 1
    split <;> omega
theorem cn_congr {p r : Nat → Bool} : ∀ n, (∀ k, k < n → p k = r k) → cn p n = cn r n
  | 0, _ => rfl
  | n + 1, h => by
    show cn p n + (if p n = true then 1 else 0) = cn r n + (if r n = true then 1 else 0)
    rw [cn_congr n (fun k hk => h k (by omega)), h n (by omega)]
theorem cn_clear {p r : Nat → Bool} {j : Nat} (hp : p j = true) (hr : r j = false) : ∀ n, (∀ k, k < n → k ≠ j → r k = p k) → cn r n + (if j < n then 1 else 0) = cn p n
  | 0, _ => rfl
  | n + 1, h => by
    have ih := cn_clear hp hr n (fun k hk hne => h k (by omega) hne)
    show cn r n + (if r n = true then 1 else 0) + (if j < n + 1 then 1 else 0) = cn p n + (if p n = true then 1 else 0)
    by_cases e : n = j
    · subst e
      rw [hp, hr, if_pos (show n < n + 1 by omega), if_pos (rfl : true = true), if_neg (by decide : ¬ (false = true))]
      rw [if_neg (show ¬ n < n by omega)] at ih
      omega
    · rw [h n (by omega) e]
      by_cases hl : j < n
      · rw [if_pos hl] at ih
        rw [if_pos (show j < n + 1 by omega)]
        omega
      · rw [if_neg hl] at ih
        rw [if_neg (show ¬ j < n + 1 by omega)]
        omega
theorem cn_set {p r : Nat → Bool} {j : Nat} (hr : r j = true) : ∀ n, (∀ k, k < n → k ≠ j → r k = p k) → cn r n ≤ cn p n + 1
  | 0, _ => by show (0 : Nat) ≤ 0 + 1; omega
  | n + 1, h => by
    have ih := cn_set hr n (fun k hk hne => h k (by omega) hne)
    show cn r n + (if r n = true then 1 else 0) ≤ cn p n + (if p n = true then 1 else 0) + 1
    by_cases e : n = j
    · subst e
      have := cn_congr (p := r) (r := p) n (fun k hk => h k (by omega) (by omega))
      rw [hr, if_pos rfl, this]
      split <;> omega
    · rw [h n (by omega) e]
      omega
/-- what stands at the k-th place of a site -/
noncomputable def cf (g : Gh) (o k : Nat) : Option Nat := pO g (pF g (pF g o 0) (k / 8)) (k % 8)
noncomputable def gc (g : Gh) (o : Nat) : Nat := cn (fun k => (cf g o k).isSome) 48
theorem gc_le {g : Gh} {o : Nat} : gc g o ≤ 48 := cn_le _ 48
theorem cf_at {g : Gh} {o x y : Nat} (hx : x < 8) : cf g o (8 * y + x) = pO g (pF g (pF g o 0) y) x := by
  unfold cf
  rw [show (8 * y + x) / 8 = y by omega, show (8 * y + x) % 8 = x by omega]
section CNT
variable {D : va_G} {kA : Nat → ClassId} {b m i : Nat} {g u : Gh} {H : Heap} {o fa : Nat} {X : Nat → Prop}
theorem grid_tags (hM : TM D kA b g H) (h : tg g o = 28 + 64 * i) : tg g (pF g o 0) = 29 + 64 * i ∧ ∀ y, y < 6 → tg g (pF g (pF g o 0) y) = 30 + 64 * (8 * i + y) := by
  obtain ⟨_, _, _, _, _, _, -, h1, -⟩ := o_ms hM h
  obtain ⟨-, h2⟩ := o_co hM h1
  exact ⟨h1, h2⟩
/-- the rows' places stay; what stands in them too, where they are not among X -/
theorem grid_ext (hx : Ext m X g u) (h : tg g o = 28 + 64 * i) (hc : tg g (pF g o 0) = 29 + 64 * i) (y : Nat) : pF u (pF u o 0) y = pF g (pF g o 0) y := by
  rw [hx.f (q := o) (by omega), hx.f (q := pF g o 0) (by omega)]
theorem row_ext (hx : Ext m X g u) (h : tg g o = 28 + 64 * i) (hc : tg g (pF g o 0) = 29 + 64 * i) {y : Nat} (hr : tg g (pF g (pF g o 0) y) = 30 + 64 * (8 * i + y)) (hX : ¬ X (30 + 64 * (8 * i + y))) : pO u (pF u (pF u o 0) y) = pO g (pF g (pF g o 0) y) := by
  rw [grid_ext hx h hc, hx.o (q := pF g (pF g o 0) y) (by omega) (by rw [hr]; exact hX)]
theorem gc_ext (hM : TM D kA b g H) (hx : Ext m X g u) (h : tg g o = 28 + 64 * i) (hX : ∀ y, y < 6 → ¬ X (30 + 64 * (8 * i + y))) : gc u o = gc g o := by
  obtain ⟨hc, hr⟩ := grid_tags hM h
  refine cn_congr 48 (fun k hk => ?_)
  show (pO u (pF u (pF u o 0) (k / 8)) (k % 8)).isSome = (pO g (pF g (pF g o 0) (k / 8)) (k % 8)).isSome
  rw [row_ext hx h hc (hr (k / 8) (by omega)) (hX (k / 8) (by omega))]
/-- a place of falling is told only where a cell stands -/
noncomputable def FI (g u : Gh) (o fa : Nat) : Prop := (∀ y, pF u fa y = fa + 1 + y) ∧ ∀ y x, y < 6 → x < 8 → pI u (fa + 1 + y) x ≠ 0 → ∃ cl, pO g (pF g (pF g o 0) y) x = some cl
theorem FI.zero (hF : ∀ y, pF u fa y = fa + 1 + y) (h0 : ∀ y x, y < 6 → pI u (fa + 1 + y) x = 0) : FI g u o fa := ⟨hF, fun y x hy _ h => absurd (h0 y x hy) h⟩
theorem FI.step (h : FI g u o fa) {y0 x0 : Nat} {v : Int32} (hv : v = 0 ∨ ∃ cl, pO g (pF g (pF g o 0) y0) x0 = some cl) : FI g (uI u (pF u fa y0) (upd (pI u (pF u fa y0)) x0 (vp_nar .boolean v))) o fa := by
  refine ⟨h.1, fun y x hy hx hne => ?_⟩
  rw [h.1 y0] at hne
  by_cases e : fa + 1 + y = fa + 1 + y0
  · have ey : y = y0 := by omega
    subst ey
    rw [uI_s] at hne
    unfold upd at hne
    by_cases ex : x = x0
    · subst ex
      rw [if_pos rfl] at hne
      rcases hv with rfl | hv
      · exact absurd rfl hne
      · exact hv
    · rw [if_neg ex] at hne
      exact h.2 y x hy hx hne
  · rw [uI_n e] at hne
    exact h.2 y x hy hx hne
theorem FI.ext (h : FI g u o fa) {v : Gh} (hF : pF v fa = pF u fa) (hI : ∀ y, y < 6 → pI v (fa + 1 + y) = pI u (fa + 1 + y)) : FI g v o fa := by
  refine ⟨fun y => by rw [hF]; exact h.1 y, fun y x hy hx hne => ?_⟩
  rw [hI y hy] at hne
  exact h.2 y x hy hx hne
theorem FI.self (h : FI g u o fa) (hx : Ext m X g u) (ho : tg g o = 28 + 64 * i) (hc : tg g (pF g o 0) = 29 + 64 * i) (hr : ∀ y, y < 6 → tg g (pF g (pF g o 0) y) = 30 + 64 * (8 * i + y)) (hX : ∀ y, y < 6 → ¬ X (30 + 64 * (8 * i + y))) : FI u u o fa := ⟨h.1, fun y x hy h8 hne => by
  obtain ⟨cl, hcl⟩ := h.2 y x hy h8 hne
  exact ⟨cl, by rw [row_ext hx ho hc (hr y hy) (hX y hy)]; exact hcl⟩⟩
/-- one cell is taken out -/
theorem fl_step (hr : ∀ y, y < 6 → tg u (pF u (pF u o 0) y) = 30 + 64 * (8 * i + y)) (hc : tg u (pF u o 0) = 29 + 64 * i) (ho : tg u o = 28 + 64 * i) {j : Nat} (hj : j < 48) {cl : Nat} (h : cf u o j = some cl) :
    gc (uO u (pF u (pF u o 0) (j / 8)) (va_up (pO u (pF u (pF u o 0) (j / 8))) (j % 8) none)) o + 1 = gc u o ∧ ∀ k, k < 48 → k ≠ j → cf (uO u (pF u (pF u o 0) (j / 8)) (va_up (pO u (pF u (pF u o 0) (j / 8))) (j % 8) none)) o k = cf u o k := by
  have hk : ∀ k, k < 48 → k ≠ j → cf (uO u (pF u (pF u o 0) (j / 8)) (va_up (pO u (pF u (pF u o 0) (j / 8))) (j % 8) none)) o k = cf u o k := fun k hk hne => by
    show pO (uO u _ _) (pF u (pF u o 0) (k / 8)) (k % 8) = pO u (pF u (pF u o 0) (k / 8)) (k % 8)
    by_cases e : pF u (pF u o 0) (k / 8) = pF u (pF u o 0) (j / 8)
    · have e1 := hr (k / 8) (by omega)
      have e2 := hr (j / 8) (by omega)
      rw [e] at e1
      rw [e, uO_s]
      show (if k % 8 = j % 8 then none else pO u (pF u (pF u o 0) (j / 8)) (k % 8)) = _
      rw [if_neg (by omega)]
    · rw [uO_n e]
  refine ⟨?_, hk⟩
  have hj0 : cf (uO u (pF u (pF u o 0) (j / 8)) (va_up (pO u (pF u (pF u o 0) (j / 8))) (j % 8) none)) o j = none := by
    show pO (uO u _ _) (pF u (pF u o 0) (j / 8)) (j % 8) = none
    rw [uO_s]
    exact if_pos rfl
  have := cn_clear (p := fun k => (cf u o k).isSome) (r := fun k => (cf (uO u (pF u (pF u o 0) (j / 8)) (va_up (pO u (pF u (pF u o 0) (j / 8))) (j % 8) none)) o k).isSome) (j := j) (by show (cf u o j).isSome = true; rw [h]; rfl) (by show (cf _ o j).isSome = false; rw [hj0]; rfl) 48 (fun k h1 h2 => by
    show (cf _ o k).isSome = (cf u o k).isSome
    rw [hk k h1 h2])
  rw [if_pos hj] at this
  exact this
end CNT
theorem up_none {τ : Nat → Nat} {n x k : Nat} {f : Nat → Option Nat} (h : ∀ j, j < n → ∀ a, f j = some a → τ a = k) : ∀ j, j < n → ∀ a, va_up f x none j = some a → τ a = k := fun j hj a ha => by
  unfold va_up at ha
  by_cases e : j = x
  · rw [if_pos e] at ha; cases ha
  · rw [if_neg e] at ha; exact h j hj a ha
theorem up_some {τ : Nat → Nat} {n x k y : Nat} {f : Nat → Option Nat} (h : ∀ j, j < n → ∀ a, f j = some a → τ a = k) (hy : τ y = k) : ∀ j, j < n → ∀ a, va_up f x (some y) j = some a → τ a = k := fun j hj a ha => by
  unfold va_up at ha
  by_cases e : j = x
  · rw [if_pos e] at ha; cases ha; exact hy
  · rw [if_neg e] at ha; exact h j hj a ha

