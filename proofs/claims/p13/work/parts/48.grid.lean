
/-- seven arrays at once: an outer one of six, its rows of eight -/
noncomputable def gmn (g : Gh) (q t : Nat) (tr : Nat → Nat) : Gh := ((fun a => if a = q then t else if q < a ∧ a ≤ q + 6 then tr (a - q - 1) else g.1 a), (fun a => if q < a ∧ a ≤ q + 6 then (fun _ => 0) else g.2.1 a), (fun a => if a = q then (fun j => q + 1 + j) else g.2.2.1 a), (fun a => if q < a ∧ a ≤ q + 6 then (fun _ => none) else g.2.2.2.1 a), g.2.2.2.2)
section GMN
variable {D : va_G} {kA : Nat → ClassId} {b m q t : Nat} {X : Nat → Prop} {g : Gh} {H H1 : Heap} {tr : Nat → Nat}
theorem gmn_o : tg (gmn g q t tr) q = t := if_pos rfl
theorem gmn_r {j : Nat} (hj : j < 6) : tg (gmn g q t tr) (q + 1 + j) = tr j := by
  show (if q + 1 + j = q then t else if q < q + 1 + j ∧ q + 1 + j ≤ q + 6 then tr (q + 1 + j - q - 1) else g.1 (q + 1 + j)) = tr j
  rw [if_neg (by omega), if_pos ⟨by omega, by omega⟩, show q + 1 + j - q - 1 = j by omega]
theorem gmn_f {j : Nat} : pF (gmn g q t tr) q j = q + 1 + j := congrFun (if_pos rfl : pF (gmn g q t tr) q = fun j => q + 1 + j) j
theorem gmn_i {j x : Nat} (hj : j < 6) : pI (gmn g q t tr) (q + 1 + j) x = 0 := congrFun (if_pos ⟨by omega, by omega⟩ : pI (gmn g q t tr) (q + 1 + j) = fun _ => 0) x
theorem gmn_O {j : Nat} (hj : j < 6) : pO (gmn g q t tr) (q + 1 + j) = fun _ => none := if_pos ⟨by omega, by omega⟩
theorem gmn_O0 : pO (gmn g q t tr) q = pO g q := if_neg (by omega)
theorem gmn_n {a : Nat} (h : a < q) : tg (gmn g q t tr) a = tg g a ∧ pI (gmn g q t tr) a = pI g a ∧ pF (gmn g q t tr) a = pF g a ∧ pO (gmn g q t tr) a = pO g a ∧ pL (gmn g q t tr) a = pL g a := by
  refine ⟨?_, ?_, ?_, if_neg (by omega), rfl⟩
  · show (if a = q then t else if q < a ∧ a ≤ q + 6 then tr (a - q - 1) else g.1 a) = g.1 a
    rw [if_neg (by omega), if_neg (by omega)]
  · show (if q < a ∧ a ≤ q + 6 then (fun _ => (0 : Int32)) else g.2.1 a) = g.2.1 a
    rw [if_neg (by omega)]
  · show (if a = q then (fun j => q + 1 + j) else g.2.2.1 a) = g.2.2.1 a
    rw [if_neg (by omega)]
theorem gmn_ext (hM : TM D kA b g H) : Ext m X g (gmn g H.size t tr) := fun a ha => by
  obtain ⟨h1, h2, h3, h4, h5⟩ := gmn_n (g := g) (t := t) (tr := tr) (hM.lt ha)
  exact ⟨h1, fun j _ => by rw [h2], h3, fun _ => h4, h5⟩
theorem gmn_TM (hM : TM D kA b g H) (hb : b ≤ H.size) (hz : H1.size = H.size + 1 + 6) (ho : ∀ p : Nat, p < H.size → H1[p]? = H[p]?) {e : va_E} (hP : va_P D vwCl [(H.size, e)] H1) {er : va_E} (hR : ∀ j : Nat, j < 6 → va_P D vwCl [(H.size + 1 + j, er)] H1)
    (hT : TE kA (tg (gmn g H.size t tr)) (pI (gmn g H.size t tr) H.size) (fun j => H.size + 1 + j) (pO g H.size) (pL g H.size) (t % 64) (t / 64) e)
    (hTr : ∀ j, j < 6 → TE kA (tg (gmn g H.size t tr)) (fun _ => 0) (pF g (H.size + 1 + j)) (fun _ => none) (pL g (H.size + 1 + j)) (tr j % 64) (tr j / 64) er) : TM D kA b (gmn g H.size t tr) H1 := fun p hp => by
  rcases Nat.lt_trichotomy p H.size with h | h | h
  · obtain ⟨h1, h2, h3, h4, h5⟩ := gmn_n (g := g) (t := t) (tr := tr) h
    rw [h1] at hp ⊢
    obtain ⟨k1, e', he, hat⟩ := hM p hp
    rw [h2, h3, h4, h5]
    exact ⟨k1, e', he.mono (fun x hx => (gmn_n (hM.lt hx)).1), hat.kept (ho p h)⟩
  · subst h
    rw [gmn_o, gmn_O0, show pF (gmn g H.size t tr) H.size = (fun j => H.size + 1 + j) from funext fun j => gmn_f]
    exact ⟨hb, e, hT, va_of1 hP⟩
  · by_cases h6 : p ≤ H.size + 6
    · obtain ⟨j, hj, rfl⟩ : ∃ j, j < 6 ∧ p = H.size + 1 + j := ⟨p - H.size - 1, by omega, by omega⟩
      rw [gmn_r hj, show pI (gmn g H.size t tr) (H.size + 1 + j) = (fun _ => 0) from funext fun x => gmn_i hj, gmn_O hj, show pF (gmn g H.size t tr) (H.size + 1 + j) = pF g (H.size + 1 + j) from if_neg (by omega)]
      exact ⟨by omega, er, hTr j hj, va_of1 (hR j hj)⟩
    · exfalso
      have e0 : tg (gmn g H.size t tr) p = tg g p := by
        show (if p = H.size then t else if H.size < p ∧ p ≤ H.size + 6 then tr (p - H.size - 1) else g.1 p) = g.1 p
        rw [if_neg (by omega), if_neg (by omega)]
      rw [e0] at hp
      have := hM.lt hp
      omega
theorem gmn_GOK (hG : GOK g) (hM : TM D kA b g H) (ht : t ≠ 26 ∧ t ≠ 1 ∧ t ≠ 17 ∧ t % 64 ≠ 28) (htr : ∀ j, tr j ≠ 26 ∧ tr j ≠ 1 ∧ tr j ≠ 17 ∧ tr j % 64 ≠ 28) : GOK (gmn g H.size t tr) := hG.mono hM (fun p hp => by
  rcases Nat.lt_trichotomy p H.size with h | h | h
  · obtain ⟨h1, h2, h3, h4, -⟩ := gmn_n (g := g) (t := t) (tr := tr) h
    exact ⟨h1.symm, fun _ => by rw [h2], h3, fun z => (gmn_n (hM.lt (by omega))).2.2.2.1, fun z => (gmn_n (hM.lt (by omega))).2.2.2.1⟩
  · subst h
    rw [gmn_o] at hp
    omega
  · by_cases h6 : p ≤ H.size + 6
    · obtain ⟨j, hj, rfl⟩ : ∃ j, j < 6 ∧ p = H.size + 1 + j := ⟨p - H.size - 1, by omega, by omega⟩
      rw [gmn_r hj] at hp
      have := htr j
      omega
    · have e0 : tg (gmn g H.size t tr) p = tg g p := by
        show (if p = H.size then t else if H.size < p ∧ p ≤ H.size + 6 then tr (p - H.size - 1) else g.1 p) = g.1 p
        rw [if_neg (by omega), if_neg (by omega)]
      rw [e0] at hp
      have := hM.lt (by omega : tg g p ≠ 0)
      omega)
end GMN
theorem inn_i (c : ClassId) : Jvm.Free.Multi.innerC c 8 (defaultValue .int) = vp_cell c (8, .inl (fun _ => 0)) := arrV_new ..

