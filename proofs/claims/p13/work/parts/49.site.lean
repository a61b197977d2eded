
theorem add_all1 {g : Gh} {o k v : Nat} (hG : GOK g) (ho : tg g o = 1) (hs : pI g o 0 = nI k) (hk : k < 3) : ∀ j : Nat, (j : Int) < (nI (k + 1)).toInt → ∃ a, pO (uO g (pF g o 2) (va_up (pO g (pF g o 2)) k (some v))) (pF (uO g (pF g o 2) (va_up (pO g (pF g o 2)) k (some v))) o 2) j = some a := fun j hj => by
  rw [nI_toInt (by omega)] at hj
  show ∃ a, pO (uO g (pF g o 2) _) (pF g o 2) j = some a
  rw [uO_s]
  unfold va_up
  by_cases e : j = k
  · exact ⟨v, if_pos e⟩
  · obtain ⟨a, ha⟩ := hG.2.1 o ho j (by rw [hs, nI_toInt (by omega)]; omega)
    exact ⟨a, (if_neg e).trans ha⟩

theorem tg_old {m q : Nat} {X : Nat → Prop} {g u : Gh} (h : tg u q = 0) (hx : Ext m X g u) : tg g q = 0 := by
  rcases Nat.eq_zero_or_pos (tg g q) with z | z
  · exact z
  · exact absurd ((hx.t (Nat.pos_iff_ne_zero.mp z)).symm.trans h) (Nat.pos_iff_ne_zero.mp z)

theorem up_S {τ : Nat → Nat} {n x y k : Nat} {f : Nat → Option Nat} (h : ∀ j, j < n → f j = some ((f j).getD 0) ∧ τ ((f j).getD 0) = k) (hy : τ y = k) : ∀ j, j < n → va_up f x (some y) j = some ((va_up f x (some y) j).getD 0) ∧ τ ((va_up f x (some y) j).getD 0) = k := fun j hj => by
  unfold va_up
  by_cases e : j = x
  · rw [if_pos e]; exact ⟨rfl, hy⟩
  · rw [if_neg e]; exact h j hj

