
theorem pl_ix {X : va_W} {L : List Nat} {f : Nat → va_E} {a : Nat} (h : a ∈ L) : ∃ k : Nat, X.length ≤ k ∧ (X ++ va_pl L f)[k]? = some (a, f a) := by
  obtain ⟨i, hi, e⟩ := List.getElem_of_mem h
  refine ⟨X.length + i, by omega, ?_⟩
  rw [List.getElem?_append_right (by omega), show X.length + i - X.length = i by omega]
  unfold va_pl
  rw [List.getElem?_map, List.getElem?_eq_getElem hi, e]
  rfl
section STT
variable {D : va_G} {kA : Nat → ClassId} {eD bb q : Nat} {g : Gh} {H : Heap}
theorem nw_G2 {t : Nat} {fi : Nat → Int32} {ff : Nat → Nat} {fo : Nat → Option Nat} {fl : Nat → Int64} (hG : GOK g) (hM : TM D kA bb g H) (h0 : tg g q = 0) (hs : (t = 26 ∨ t = 1) → fi 0 = 0) (h28 : t % 64 ≠ 28) (h17 : t = 17 → (∀ p, tg g p ≠ 17) ∧ ∀ p, tg g p % 64 ≠ 28) : GOK (nw g q t fi ff fo fl) := by
  have hn : ∀ p : Nat, tg g p ≠ 0 → p ≠ q := fun p hp z => hp (by rw [z]; exact h0)
  have hq : ∀ p : Nat, p ≠ q → tg (nw g q t fi ff fo fl) p = tg g p ∧ pI (nw g q t fi ff fo fl) p = pI g p ∧ pF (nw g q t fi ff fo fl) p = pF g p ∧ pO (nw g q t fi ff fo fl) p = pO g p := fun p hp => ⟨if_neg hp, if_neg hp, if_neg hp, if_neg hp⟩
  have hz : (0 : Int32).toInt = 0 := by decide
  refine ⟨fun p hp j hj => ?_, fun p hp j hj => ?_, fun p m hp hm => ?_, fun m n hm hn2 => ?_⟩
  · by_cases e : p = q
    · rw [e, nw_t] at hp
      rw [e, nw_I, hs (Or.inl hp), hz] at hj
      omega
    · obtain ⟨h1, h2, h3, -⟩ := hq p e
      rw [h1] at hp; rw [h2] at hj; rw [h3]
      obtain ⟨-, hf⟩ := o_al (i := 0) (q := p) hM (by omega)
      have h27 := hf.2.1 (fun z => by have z2 : (pI g p 0).toInt = 0 := z; omega)
      rw [(hq _ (hn _ (by omega))).2.2.2]
      exact hG.1 p hp j hj
  · by_cases e : p = q
    · rw [e, nw_t] at hp
      rw [e, nw_I, hs (Or.inr hp), hz] at hj
      omega
    · obtain ⟨h1, h2, h3, -⟩ := hq p e
      rw [h1] at hp; rw [h2] at hj; rw [h3]
      obtain ⟨_, _, _, _, -, -, -, h4, -⟩ := o_sno (i := 0) (q := p) hM (by omega)
      rw [(hq _ (hn _ (by omega))).2.2.2]
      exact hG.2.1 p hp j hj
  · by_cases e : p = q
    · rw [e, nw_t] at hp
      exact absurd hp h28
    · rw [(hq p e).1] at hp
      by_cases em : m = q
      · rw [em, nw_t] at hm
        exact absurd hp ((h17 hm).2 p)
      · rw [(hq m em).1] at hm
        rw [(hq p e).2.2.1]
        exact hG.2.2.1 p m hp hm
  · by_cases em : m = q
    · by_cases en : n = q
      · rw [em, en]
      · rw [em, nw_t] at hm
        rw [(hq n en).1] at hn2
        exact absurd hn2 ((h17 hm).1 n)
    · rw [(hq m em).1] at hm
      by_cases en : n = q
      · rw [en, nw_t] at hn2
        exact absurd hm ((h17 hn2).1 m)
      · rw [(hq n en).1] at hn2
        exact hG.2.2.2 m n hm hn2
/-- no kinds but these so far -/
noncomputable def TIN (L : List Nat) (g : Gh) : Prop := ∀ p, tg g p ∈ L
theorem TIN.nw {L : List Nat} {t : Nat} {fi : Nat → Int32} {ff : Nat → Nat} {fo : Nat → Option Nat} {fl : Nat → Int64} (h : TIN L g) (ht : t ∈ L) : TIN L (nw g q t fi ff fo fl) := fun p => by
  show (if p = q then t else tg g p) ∈ L
  by_cases e : p = q
  · rw [if_pos e]; exact ht
  · rw [if_neg e]; exact h p
end STT

set_option maxHeartbeats 4000000 in
set_option maxRecDepth 100000 in
/-- what the two constructors made is told -/
theorem st_TM {D : va_G} {kA : Nat → ClassId} {bb eD q7 q9 : Nat} {a b : Nat → Nat} {f : Nat → Nat → Int32} {dg : Nat → Option Nat} {dl : Nat → Int32} {Ld : List Nat} {H : Heap} {A : Nat → Prop} (hA : ∀ q, A q → bb ≤ q) (hP : va_P D vwCl ([((a 0), .inr (7, [.ref (a 1), .ref (a 2), .ref (a 3), .int 0, .int 0, .int 0, .int 0, .int 0, .int 0, .int 0])), ((a 1), .inr (6, [.ref (a 4), .ref (a 5), .ref (a 6), .ref (a 7)])), ((a 2), .inr (4, [.ref (a 8), .ref (a 9), .ref (a 10)])), ((a 3), .inl ((kA 5), 3, .inr (.inr (.inr (.inr (fun _ => none)))))), ((a 4), .inl ((kA 0), 21, .inl (f 0))), ((a 5), .inl ((kA 0), 21, .inl (f 1))), ((a 6), .inl ((kA 0), 21, .inl (f 2))), ((a 7), .inl ((kA 0), 21, .inl (f 3))), ((a 8), .inl ((kA 0), 4, .inl (fun _ => 0))), ((a 9), .inl ((kA 0), 4, .inl (fun _ => 0))), ((a 10), .inl ((kA 0), 4, .inl (f 4))), ((b 0), .inr (10, [.int 0, .ref (b 1), .int 0, .int 0, .ref (b 2), .ref (b 3), .ref (b 4), .ref (b 5), .int 0, .int 0, .ref (b 6)])), ((b 1), .inl ((kA 6), 21, .inr (.inr (.inr (.inr dg))))), ((b 2), .inl ((kA 0), 4, .inl (fun _ => 0))), ((b 3), .inl ((kA 0), 4, .inl (fun _ => 0))), ((b 4), .inl ((kA 0), 4, .inl dl)), ((b 5), .inl ((kA 0), 2, .inl (fun _ => 0))), ((b 6), .inr (3, [.int 0, .ref eD, .int 0])), (q7, .inl ((kA 3), 1, .inr (.inl (fun _ => 0)))), (q9, .inl ((kA 4), 1, .inr (.inr (.inr (.inl (fun _ => 0))))))] ++ va_pl Ld (fun _ => .inl ((kA 0), 4, .inl wRow))) H) (hD : va_D A ([((a 0), .inr (7, [.ref (a 1), .ref (a 2), .ref (a 3), .int 0, .int 0, .int 0, .int 0, .int 0, .int 0, .int 0])), ((a 1), .inr (6, [.ref (a 4), .ref (a 5), .ref (a 6), .ref (a 7)])), ((a 2), .inr (4, [.ref (a 8), .ref (a 9), .ref (a 10)])), ((a 3), .inl ((kA 5), 3, .inr (.inr (.inr (.inr (fun _ => none)))))), ((a 4), .inl ((kA 0), 21, .inl (f 0))), ((a 5), .inl ((kA 0), 21, .inl (f 1))), ((a 6), .inl ((kA 0), 21, .inl (f 2))), ((a 7), .inl ((kA 0), 21, .inl (f 3))), ((a 8), .inl ((kA 0), 4, .inl (fun _ => 0))), ((a 9), .inl ((kA 0), 4, .inl (fun _ => 0))), ((a 10), .inl ((kA 0), 4, .inl (f 4))), ((b 0), .inr (10, [.int 0, .ref (b 1), .int 0, .int 0, .ref (b 2), .ref (b 3), .ref (b 4), .ref (b 5), .int 0, .int 0, .ref (b 6)])), ((b 1), .inl ((kA 6), 21, .inr (.inr (.inr (.inr dg))))), ((b 2), .inl ((kA 0), 4, .inl (fun _ => 0))), ((b 3), .inl ((kA 0), 4, .inl (fun _ => 0))), ((b 4), .inl ((kA 0), 4, .inl dl)), ((b 5), .inl ((kA 0), 2, .inl (fun _ => 0))), ((b 6), .inr (3, [.int 0, .ref eD, .int 0])), (q7, .inl ((kA 3), 1, .inr (.inl (fun _ => 0)))), (q9, .inl ((kA 4), 1, .inr (.inr (.inr (.inl (fun _ => 0))))))] ++ va_pl Ld (fun _ => .inl ((kA 0), 4, .inl wRow)))) (hFX : FX f) (hDG : ∀ i, i < 21 → ∃ y, dg i = some y ∧ y ∈ Ld) : ∃ g : Gh, LI D kA bb eD (a 0) (b 0) q7 q9 g H ∧ RI g (b 0) 200 2000 0 := by
  obtain ⟨g0, hg0⟩ : ∃ z : Gh, z = ((fun x => if x ∈ Ld then 22 else 0), (fun _ => wRow), (fun _ _ => 0), (fun _ _ => none), (fun _ _ => 0)) := ⟨_, rfl⟩
  have t22 : ∀ x, x ∈ Ld → tg g0 x = 22 := fun x hx => by rw [hg0]; exact if_pos hx
  have t00 : ∀ x, x ∉ Ld → tg g0 x = 0 := fun x hx => by rw [hg0]; exact if_neg hx
  have hM0 : TM D kA bb g0 H := fun x hx => by
    by_cases hm : x ∈ Ld
    · obtain ⟨k, -, hk⟩ := pl_ix (X := [((a 0), .inr (7, [.ref (a 1), .ref (a 2), .ref (a 3), .int 0, .int 0, .int 0, .int 0, .int 0, .int 0, .int 0])), ((a 1), .inr (6, [.ref (a 4), .ref (a 5), .ref (a 6), .ref (a 7)])), ((a 2), .inr (4, [.ref (a 8), .ref (a 9), .ref (a 10)])), ((a 3), .inl ((kA 5), 3, .inr (.inr (.inr (.inr (fun _ => none)))))), ((a 4), .inl ((kA 0), 21, .inl (f 0))), ((a 5), .inl ((kA 0), 21, .inl (f 1))), ((a 6), .inl ((kA 0), 21, .inl (f 2))), ((a 7), .inl ((kA 0), 21, .inl (f 3))), ((a 8), .inl ((kA 0), 4, .inl (fun _ => 0))), ((a 9), .inl ((kA 0), 4, .inl (fun _ => 0))), ((a 10), .inl ((kA 0), 4, .inl (f 4))), ((b 0), .inr (10, [.int 0, .ref (b 1), .int 0, .int 0, .ref (b 2), .ref (b 3), .ref (b 4), .ref (b 5), .int 0, .int 0, .ref (b 6)])), ((b 1), .inl ((kA 6), 21, .inr (.inr (.inr (.inr dg))))), ((b 2), .inl ((kA 0), 4, .inl (fun _ => 0))), ((b 3), .inl ((kA 0), 4, .inl (fun _ => 0))), ((b 4), .inl ((kA 0), 4, .inl dl)), ((b 5), .inl ((kA 0), 2, .inl (fun _ => 0))), ((b 6), .inr (3, [.int 0, .ref eD, .int 0])), (q7, .inl ((kA 3), 1, .inr (.inl (fun _ => 0)))), (q9, .inl ((kA 4), 1, .inr (.inr (.inr (.inl (fun _ => 0))))))]) (f := fun _ => .inl ((kA 0), 4, .inl wRow)) hm
      rw [t22 x hm]
      refine ⟨hA _ (hD.2 k _ hk), _, ?_, hP k _ hk⟩
      rw [show pI g0 x = wRow by rw [hg0]]
      exact TE.m22 ⟨rfl, by decide⟩
    · exact absurd (t00 x hm) hx
  have hG0 : GOK g0 := ⟨fun p hp => (Decidable.em (p ∈ Ld)).elim (fun hm => by rw [t22 p hm] at hp; omega) (fun hm => by rw [t00 p hm] at hp; omega), fun p hp => (Decidable.em (p ∈ Ld)).elim (fun hm => by rw [t22 p hm] at hp; omega) (fun hm => by rw [t00 p hm] at hp; omega), fun p m hp => (Decidable.em (p ∈ Ld)).elim (fun hm => by rw [t22 p hm] at hp; omega) (fun hm => by rw [t00 p hm] at hp; omega), fun p m hp => (Decidable.em (p ∈ Ld)).elim (fun hm => by rw [t22 p hm] at hp; omega) (fun hm => by rw [t00 p hm] at hp; omega)⟩
  have hI0 : TIN [0, 1, 2, 3, 4, 5, 6, 7, 8, 9, 18, 19, 22, 24, 25, 26, 34, 35] g0 := fun p => (Decidable.em (p ∈ Ld)).elim (fun hm => by rw [t22 p hm]; decide) (fun hm => by rw [t00 p hm]; decide)
  have z0_0 : tg g0 (a 4) = 0 := t00 _ (fun hm => by obtain ⟨k9, h9, hk9⟩ := pl_ix (X := [((a 0), .inr (7, [.ref (a 1), .ref (a 2), .ref (a 3), .int 0, .int 0, .int 0, .int 0, .int 0, .int 0, .int 0])), ((a 1), .inr (6, [.ref (a 4), .ref (a 5), .ref (a 6), .ref (a 7)])), ((a 2), .inr (4, [.ref (a 8), .ref (a 9), .ref (a 10)])), ((a 3), .inl ((kA 5), 3, .inr (.inr (.inr (.inr (fun _ => none)))))), ((a 4), .inl ((kA 0), 21, .inl (f 0))), ((a 5), .inl ((kA 0), 21, .inl (f 1))), ((a 6), .inl ((kA 0), 21, .inl (f 2))), ((a 7), .inl ((kA 0), 21, .inl (f 3))), ((a 8), .inl ((kA 0), 4, .inl (fun _ => 0))), ((a 9), .inl ((kA 0), 4, .inl (fun _ => 0))), ((a 10), .inl ((kA 0), 4, .inl (f 4))), ((b 0), .inr (10, [.int 0, .ref (b 1), .int 0, .int 0, .ref (b 2), .ref (b 3), .ref (b 4), .ref (b 5), .int 0, .int 0, .ref (b 6)])), ((b 1), .inl ((kA 6), 21, .inr (.inr (.inr (.inr dg))))), ((b 2), .inl ((kA 0), 4, .inl (fun _ => 0))), ((b 3), .inl ((kA 0), 4, .inl (fun _ => 0))), ((b 4), .inl ((kA 0), 4, .inl dl)), ((b 5), .inl ((kA 0), 2, .inl (fun _ => 0))), ((b 6), .inr (3, [.int 0, .ref eD, .int 0])), (q7, .inl ((kA 3), 1, .inr (.inl (fun _ => 0)))), (q9, .inl ((kA 4), 1, .inr (.inr (.inr (.inl (fun _ => 0))))))]) (f := fun _ => .inl ((kA 0), 4, .inl wRow)) hm; have := hD.1 k9 4 _ _ hk9 rfl rfl; rw [this] at h9; exact absurd h9 (by show ¬ 20 ≤ 4; decide))
  have z0_1 : tg g0 (a 5) = 0 := t00 _ (fun hm => by obtain ⟨k9, h9, hk9⟩ := pl_ix (X := [((a 0), .inr (7, [.ref (a 1), .ref (a 2), .ref (a 3), .int 0, .int 0, .int 0, .int 0, .int 0, .int 0, .int 0])), ((a 1), .inr (6, [.ref (a 4), .ref (a 5), .ref (a 6), .ref (a 7)])), ((a 2), .inr (4, [.ref (a 8), .ref (a 9), .ref (a 10)])), ((a 3), .inl ((kA 5), 3, .inr (.inr (.inr (.inr (fun _ => none)))))), ((a 4), .inl ((kA 0), 21, .inl (f 0))), ((a 5), .inl ((kA 0), 21, .inl (f 1))), ((a 6), .inl ((kA 0), 21, .inl (f 2))), ((a 7), .inl ((kA 0), 21, .inl (f 3))), ((a 8), .inl ((kA 0), 4, .inl (fun _ => 0))), ((a 9), .inl ((kA 0), 4, .inl (fun _ => 0))), ((a 10), .inl ((kA 0), 4, .inl (f 4))), ((b 0), .inr (10, [.int 0, .ref (b 1), .int 0, .int 0, .ref (b 2), .ref (b 3), .ref (b 4), .ref (b 5), .int 0, .int 0, .ref (b 6)])), ((b 1), .inl ((kA 6), 21, .inr (.inr (.inr (.inr dg))))), ((b 2), .inl ((kA 0), 4, .inl (fun _ => 0))), ((b 3), .inl ((kA 0), 4, .inl (fun _ => 0))), ((b 4), .inl ((kA 0), 4, .inl dl)), ((b 5), .inl ((kA 0), 2, .inl (fun _ => 0))), ((b 6), .inr (3, [.int 0, .ref eD, .int 0])), (q7, .inl ((kA 3), 1, .inr (.inl (fun _ => 0)))), (q9, .inl ((kA 4), 1, .inr (.inr (.inr (.inl (fun _ => 0))))))]) (f := fun _ => .inl ((kA 0), 4, .inl wRow)) hm; have := hD.1 k9 5 _ _ hk9 rfl rfl; rw [this] at h9; exact absurd h9 (by show ¬ 20 ≤ 5; decide))
  have z0_2 : tg g0 (a 6) = 0 := t00 _ (fun hm => by obtain ⟨k9, h9, hk9⟩ := pl_ix (X := [((a 0), .inr (7, [.ref (a 1), .ref (a 2), .ref (a 3), .int 0, .int 0, .int 0, .int 0, .int 0, .int 0, .int 0])), ((a 1), .inr (6, [.ref (a 4), .ref (a 5), .ref (a 6), .ref (a 7)])), ((a 2), .inr (4, [.ref (a 8), .ref (a 9), .ref (a 10)])), ((a 3), .inl ((kA 5), 3, .inr (.inr (.inr (.inr (fun _ => none)))))), ((a 4), .inl ((kA 0), 21, .inl (f 0))), ((a 5), .inl ((kA 0), 21, .inl (f 1))), ((a 6), .inl ((kA 0), 21, .inl (f 2))), ((a 7), .inl ((kA 0), 21, .inl (f 3))), ((a 8), .inl ((kA 0), 4, .inl (fun _ => 0))), ((a 9), .inl ((kA 0), 4, .inl (fun _ => 0))), ((a 10), .inl ((kA 0), 4, .inl (f 4))), ((b 0), .inr (10, [.int 0, .ref (b 1), .int 0, .int 0, .ref (b 2), .ref (b 3), .ref (b 4), .ref (b 5), .int 0, .int 0, .ref (b 6)])), ((b 1), .inl ((kA 6), 21, .inr (.inr (.inr (.inr dg))))), ((b 2), .inl ((kA 0), 4, .inl (fun _ => 0))), ((b 3), .inl ((kA 0), 4, .inl (fun _ => 0))), ((b 4), .inl ((kA 0), 4, .inl dl)), ((b 5), .inl ((kA 0), 2, .inl (fun _ => 0))), ((b 6), .inr (3, [.int 0, .ref eD, .int 0])), (q7, .inl ((kA 3), 1, .inr (.inl (fun _ => 0)))), (q9, .inl ((kA 4), 1, .inr (.inr (.inr (.inl (fun _ => 0))))))]) (f := fun _ => .inl ((kA 0), 4, .inl wRow)) hm; have := hD.1 k9 6 _ _ hk9 rfl rfl; rw [this] at h9; exact absurd h9 (by show ¬ 20 ≤ 6; decide))
  have z0_3 : tg g0 (a 7) = 0 := t00 _ (fun hm => by obtain ⟨k9, h9, hk9⟩ := pl_ix (X := [((a 0), .inr (7, [.ref (a 1), .ref (a 2), .ref (a 3), .int 0, .int 0, .int 0, .int 0, .int 0, .int 0, .int 0])), ((a 1), .inr (6, [.ref (a 4), .ref (a 5), .ref (a 6), .ref (a 7)])), ((a 2), .inr (4, [.ref (a 8), .ref (a 9), .ref (a 10)])), ((a 3), .inl ((kA 5), 3, .inr (.inr (.inr (.inr (fun _ => none)))))), ((a 4), .inl ((kA 0), 21, .inl (f 0))), ((a 5), .inl ((kA 0), 21, .inl (f 1))), ((a 6), .inl ((kA 0), 21, .inl (f 2))), ((a 7), .inl ((kA 0), 21, .inl (f 3))), ((a 8), .inl ((kA 0), 4, .inl (fun _ => 0))), ((a 9), .inl ((kA 0), 4, .inl (fun _ => 0))), ((a 10), .inl ((kA 0), 4, .inl (f 4))), ((b 0), .inr (10, [.int 0, .ref (b 1), .int 0, .int 0, .ref (b 2), .ref (b 3), .ref (b 4), .ref (b 5), .int 0, .int 0, .ref (b 6)])), ((b 1), .inl ((kA 6), 21, .inr (.inr (.inr (.inr dg))))), ((b 2), .inl ((kA 0), 4, .inl (fun _ => 0))), ((b 3), .inl ((kA 0), 4, .inl (fun _ => 0))), ((b 4), .inl ((kA 0), 4, .inl dl)), ((b 5), .inl ((kA 0), 2, .inl (fun _ => 0))), ((b 6), .inr (3, [.int 0, .ref eD, .int 0])), (q7, .inl ((kA 3), 1, .inr (.inl (fun _ => 0)))), (q9, .inl ((kA 4), 1, .inr (.inr (.inr (.inl (fun _ => 0))))))]) (f := fun _ => .inl ((kA 0), 4, .inl wRow)) hm; have := hD.1 k9 7 _ _ hk9 rfl rfl; rw [this] at h9; exact absurd h9 (by show ¬ 20 ≤ 7; decide))
  have z0_4 : tg g0 (a 8) = 0 := t00 _ (fun hm => by obtain ⟨k9, h9, hk9⟩ := pl_ix (X := [((a 0), .inr (7, [.ref (a 1), .ref (a 2), .ref (a 3), .int 0, .int 0, .int 0, .int 0, .int 0, .int 0, .int 0])), ((a 1), .inr (6, [.ref (a 4), .ref (a 5), .ref (a 6), .ref (a 7)])), ((a 2), .inr (4, [.ref (a 8), .ref (a 9), .ref (a 10)])), ((a 3), .inl ((kA 5), 3, .inr (.inr (.inr (.inr (fun _ => none)))))), ((a 4), .inl ((kA 0), 21, .inl (f 0))), ((a 5), .inl ((kA 0), 21, .inl (f 1))), ((a 6), .inl ((kA 0), 21, .inl (f 2))), ((a 7), .inl ((kA 0), 21, .inl (f 3))), ((a 8), .inl ((kA 0), 4, .inl (fun _ => 0))), ((a 9), .inl ((kA 0), 4, .inl (fun _ => 0))), ((a 10), .inl ((kA 0), 4, .inl (f 4))), ((b 0), .inr (10, [.int 0, .ref (b 1), .int 0, .int 0, .ref (b 2), .ref (b 3), .ref (b 4), .ref (b 5), .int 0, .int 0, .ref (b 6)])), ((b 1), .inl ((kA 6), 21, .inr (.inr (.inr (.inr dg))))), ((b 2), .inl ((kA 0), 4, .inl (fun _ => 0))), ((b 3), .inl ((kA 0), 4, .inl (fun _ => 0))), ((b 4), .inl ((kA 0), 4, .inl dl)), ((b 5), .inl ((kA 0), 2, .inl (fun _ => 0))), ((b 6), .inr (3, [.int 0, .ref eD, .int 0])), (q7, .inl ((kA 3), 1, .inr (.inl (fun _ => 0)))), (q9, .inl ((kA 4), 1, .inr (.inr (.inr (.inl (fun _ => 0))))))]) (f := fun _ => .inl ((kA 0), 4, .inl wRow)) hm; have := hD.1 k9 8 _ _ hk9 rfl rfl; rw [this] at h9; exact absurd h9 (by show ¬ 20 ≤ 8; decide))
  have z0_5 : tg g0 (a 9) = 0 := t00 _ (fun hm => by obtain ⟨k9, h9, hk9⟩ := pl_ix (X := [((a 0), .inr (7, [.ref (a 1), .ref (a 2), .ref (a 3), .int 0, .int 0, .int 0, .int 0, .int 0, .int 0, .int 0])), ((a 1), .inr (6, [.ref (a 4), .ref (a 5), .ref (a 6), .ref (a 7)])), ((a 2), .inr (4, [.ref (a 8), .ref (a 9), .ref (a 10)])), ((a 3), .inl ((kA 5), 3, .inr (.inr (.inr (.inr (fun _ => none)))))), ((a 4), .inl ((kA 0), 21, .inl (f 0))), ((a 5), .inl ((kA 0), 21, .inl (f 1))), ((a 6), .inl ((kA 0), 21, .inl (f 2))), ((a 7), .inl ((kA 0), 21, .inl (f 3))), ((a 8), .inl ((kA 0), 4, .inl (fun _ => 0))), ((a 9), .inl ((kA 0), 4, .inl (fun _ => 0))), ((a 10), .inl ((kA 0), 4, .inl (f 4))), ((b 0), .inr (10, [.int 0, .ref (b 1), .int 0, .int 0, .ref (b 2), .ref (b 3), .ref (b 4), .ref (b 5), .int 0, .int 0, .ref (b 6)])), ((b 1), .inl ((kA 6), 21, .inr (.inr (.inr (.inr dg))))), ((b 2), .inl ((kA 0), 4, .inl (fun _ => 0))), ((b 3), .inl ((kA 0), 4, .inl (fun _ => 0))), ((b 4), .inl ((kA 0), 4, .inl dl)), ((b 5), .inl ((kA 0), 2, .inl (fun _ => 0))), ((b 6), .inr (3, [.int 0, .ref eD, .int 0])), (q7, .inl ((kA 3), 1, .inr (.inl (fun _ => 0)))), (q9, .inl ((kA 4), 1, .inr (.inr (.inr (.inl (fun _ => 0))))))]) (f := fun _ => .inl ((kA 0), 4, .inl wRow)) hm; have := hD.1 k9 9 _ _ hk9 rfl rfl; rw [this] at h9; exact absurd h9 (by show ¬ 20 ≤ 9; decide))
  have z0_6 : tg g0 (a 10) = 0 := t00 _ (fun hm => by obtain ⟨k9, h9, hk9⟩ := pl_ix (X := [((a 0), .inr (7, [.ref (a 1), .ref (a 2), .ref (a 3), .int 0, .int 0, .int 0, .int 0, .int 0, .int 0, .int 0])), ((a 1), .inr (6, [.ref (a 4), .ref (a 5), .ref (a 6), .ref (a 7)])), ((a 2), .inr (4, [.ref (a 8), .ref (a 9), .ref (a 10)])), ((a 3), .inl ((kA 5), 3, .inr (.inr (.inr (.inr (fun _ => none)))))), ((a 4), .inl ((kA 0), 21, .inl (f 0))), ((a 5), .inl ((kA 0), 21, .inl (f 1))), ((a 6), .inl ((kA 0), 21, .inl (f 2))), ((a 7), .inl ((kA 0), 21, .inl (f 3))), ((a 8), .inl ((kA 0), 4, .inl (fun _ => 0))), ((a 9), .inl ((kA 0), 4, .inl (fun _ => 0))), ((a 10), .inl ((kA 0), 4, .inl (f 4))), ((b 0), .inr (10, [.int 0, .ref (b 1), .int 0, .int 0, .ref (b 2), .ref (b 3), .ref (b 4), .ref (b 5), .int 0, .int 0, .ref (b 6)])), ((b 1), .inl ((kA 6), 21, .inr (.inr (.inr (.inr dg))))), ((b 2), .inl ((kA 0), 4, .inl (fun _ => 0))), ((b 3), .inl ((kA 0), 4, .inl (fun _ => 0))), ((b 4), .inl ((kA 0), 4, .inl dl)), ((b 5), .inl ((kA 0), 2, .inl (fun _ => 0))), ((b 6), .inr (3, [.int 0, .ref eD, .int 0])), (q7, .inl ((kA 3), 1, .inr (.inl (fun _ => 0)))), (q9, .inl ((kA 4), 1, .inr (.inr (.inr (.inl (fun _ => 0))))))]) (f := fun _ => .inl ((kA 0), 4, .inl wRow)) hm; have := hD.1 k9 10 _ _ hk9 rfl rfl; rw [this] at h9; exact absurd h9 (by show ¬ 20 ≤ 10; decide))
  have z0_7 : tg g0 (a 3) = 0 := t00 _ (fun hm => by obtain ⟨k9, h9, hk9⟩ := pl_ix (X := [((a 0), .inr (7, [.ref (a 1), .ref (a 2), .ref (a 3), .int 0, .int 0, .int 0, .int 0, .int 0, .int 0, .int 0])), ((a 1), .inr (6, [.ref (a 4), .ref (a 5), .ref (a 6), .ref (a 7)])), ((a 2), .inr (4, [.ref (a 8), .ref (a 9), .ref (a 10)])), ((a 3), .inl ((kA 5), 3, .inr (.inr (.inr (.inr (fun _ => none)))))), ((a 4), .inl ((kA 0), 21, .inl (f 0))), ((a 5), .inl ((kA 0), 21, .inl (f 1))), ((a 6), .inl ((kA 0), 21, .inl (f 2))), ((a 7), .inl ((kA 0), 21, .inl (f 3))), ((a 8), .inl ((kA 0), 4, .inl (fun _ => 0))), ((a 9), .inl ((kA 0), 4, .inl (fun _ => 0))), ((a 10), .inl ((kA 0), 4, .inl (f 4))), ((b 0), .inr (10, [.int 0, .ref (b 1), .int 0, .int 0, .ref (b 2), .ref (b 3), .ref (b 4), .ref (b 5), .int 0, .int 0, .ref (b 6)])), ((b 1), .inl ((kA 6), 21, .inr (.inr (.inr (.inr dg))))), ((b 2), .inl ((kA 0), 4, .inl (fun _ => 0))), ((b 3), .inl ((kA 0), 4, .inl (fun _ => 0))), ((b 4), .inl ((kA 0), 4, .inl dl)), ((b 5), .inl ((kA 0), 2, .inl (fun _ => 0))), ((b 6), .inr (3, [.int 0, .ref eD, .int 0])), (q7, .inl ((kA 3), 1, .inr (.inl (fun _ => 0)))), (q9, .inl ((kA 4), 1, .inr (.inr (.inr (.inl (fun _ => 0))))))]) (f := fun _ => .inl ((kA 0), 4, .inl wRow)) hm; have := hD.1 k9 3 _ _ hk9 rfl rfl; rw [this] at h9; exact absurd h9 (by show ¬ 20 ≤ 3; decide))
  have z0_8 : tg g0 (a 1) = 0 := t00 _ (fun hm => by obtain ⟨k9, h9, hk9⟩ := pl_ix (X := [((a 0), .inr (7, [.ref (a 1), .ref (a 2), .ref (a 3), .int 0, .int 0, .int 0, .int 0, .int 0, .int 0, .int 0])), ((a 1), .inr (6, [.ref (a 4), .ref (a 5), .ref (a 6), .ref (a 7)])), ((a 2), .inr (4, [.ref (a 8), .ref (a 9), .ref (a 10)])), ((a 3), .inl ((kA 5), 3, .inr (.inr (.inr (.inr (fun _ => none)))))), ((a 4), .inl ((kA 0), 21, .inl (f 0))), ((a 5), .inl ((kA 0), 21, .inl (f 1))), ((a 6), .inl ((kA 0), 21, .inl (f 2))), ((a 7), .inl ((kA 0), 21, .inl (f 3))), ((a 8), .inl ((kA 0), 4, .inl (fun _ => 0))), ((a 9), .inl ((kA 0), 4, .inl (fun _ => 0))), ((a 10), .inl ((kA 0), 4, .inl (f 4))), ((b 0), .inr (10, [.int 0, .ref (b 1), .int 0, .int 0, .ref (b 2), .ref (b 3), .ref (b 4), .ref (b 5), .int 0, .int 0, .ref (b 6)])), ((b 1), .inl ((kA 6), 21, .inr (.inr (.inr (.inr dg))))), ((b 2), .inl ((kA 0), 4, .inl (fun _ => 0))), ((b 3), .inl ((kA 0), 4, .inl (fun _ => 0))), ((b 4), .inl ((kA 0), 4, .inl dl)), ((b 5), .inl ((kA 0), 2, .inl (fun _ => 0))), ((b 6), .inr (3, [.int 0, .ref eD, .int 0])), (q7, .inl ((kA 3), 1, .inr (.inl (fun _ => 0)))), (q9, .inl ((kA 4), 1, .inr (.inr (.inr (.inl (fun _ => 0))))))]) (f := fun _ => .inl ((kA 0), 4, .inl wRow)) hm; have := hD.1 k9 1 _ _ hk9 rfl rfl; rw [this] at h9; exact absurd h9 (by show ¬ 20 ≤ 1; decide))
  have z0_9 : tg g0 (a 2) = 0 := t00 _ (fun hm => by obtain ⟨k9, h9, hk9⟩ := pl_ix (X := [((a 0), .inr (7, [.ref (a 1), .ref (a 2), .ref (a 3), .int 0, .int 0, .int 0, .int 0, .int 0, .int 0, .int 0])), ((a 1), .inr (6, [.ref (a 4), .ref (a 5), .ref (a 6), .ref (a 7)])), ((a 2), .inr (4, [.ref (a 8), .ref (a 9), .ref (a 10)])), ((a 3), .inl ((kA 5), 3, .inr (.inr (.inr (.inr (fun _ => none)))))), ((a 4), .inl ((kA 0), 21, .inl (f 0))), ((a 5), .inl ((kA 0), 21, .inl (f 1))), ((a 6), .inl ((kA 0), 21, .inl (f 2))), ((a 7), .inl ((kA 0), 21, .inl (f 3))), ((a 8), .inl ((kA 0), 4, .inl (fun _ => 0))), ((a 9), .inl ((kA 0), 4, .inl (fun _ => 0))), ((a 10), .inl ((kA 0), 4, .inl (f 4))), ((b 0), .inr (10, [.int 0, .ref (b 1), .int 0, .int 0, .ref (b 2), .ref (b 3), .ref (b 4), .ref (b 5), .int 0, .int 0, .ref (b 6)])), ((b 1), .inl ((kA 6), 21, .inr (.inr (.inr (.inr dg))))), ((b 2), .inl ((kA 0), 4, .inl (fun _ => 0))), ((b 3), .inl ((kA 0), 4, .inl (fun _ => 0))), ((b 4), .inl ((kA 0), 4, .inl dl)), ((b 5), .inl ((kA 0), 2, .inl (fun _ => 0))), ((b 6), .inr (3, [.int 0, .ref eD, .int 0])), (q7, .inl ((kA 3), 1, .inr (.inl (fun _ => 0)))), (q9, .inl ((kA 4), 1, .inr (.inr (.inr (.inl (fun _ => 0))))))]) (f := fun _ => .inl ((kA 0), 4, .inl wRow)) hm; have := hD.1 k9 2 _ _ hk9 rfl rfl; rw [this] at h9; exact absurd h9 (by show ¬ 20 ≤ 2; decide))
  have z0_10 : tg g0 (a 0) = 0 := t00 _ (fun hm => by obtain ⟨k9, h9, hk9⟩ := pl_ix (X := [((a 0), .inr (7, [.ref (a 1), .ref (a 2), .ref (a 3), .int 0, .int 0, .int 0, .int 0, .int 0, .int 0, .int 0])), ((a 1), .inr (6, [.ref (a 4), .ref (a 5), .ref (a 6), .ref (a 7)])), ((a 2), .inr (4, [.ref (a 8), .ref (a 9), .ref (a 10)])), ((a 3), .inl ((kA 5), 3, .inr (.inr (.inr (.inr (fun _ => none)))))), ((a 4), .inl ((kA 0), 21, .inl (f 0))), ((a 5), .inl ((kA 0), 21, .inl (f 1))), ((a 6), .inl ((kA 0), 21, .inl (f 2))), ((a 7), .inl ((kA 0), 21, .inl (f 3))), ((a 8), .inl ((kA 0), 4, .inl (fun _ => 0))), ((a 9), .inl ((kA 0), 4, .inl (fun _ => 0))), ((a 10), .inl ((kA 0), 4, .inl (f 4))), ((b 0), .inr (10, [.int 0, .ref (b 1), .int 0, .int 0, .ref (b 2), .ref (b 3), .ref (b 4), .ref (b 5), .int 0, .int 0, .ref (b 6)])), ((b 1), .inl ((kA 6), 21, .inr (.inr (.inr (.inr dg))))), ((b 2), .inl ((kA 0), 4, .inl (fun _ => 0))), ((b 3), .inl ((kA 0), 4, .inl (fun _ => 0))), ((b 4), .inl ((kA 0), 4, .inl dl)), ((b 5), .inl ((kA 0), 2, .inl (fun _ => 0))), ((b 6), .inr (3, [.int 0, .ref eD, .int 0])), (q7, .inl ((kA 3), 1, .inr (.inl (fun _ => 0)))), (q9, .inl ((kA 4), 1, .inr (.inr (.inr (.inl (fun _ => 0))))))]) (f := fun _ => .inl ((kA 0), 4, .inl wRow)) hm; have := hD.1 k9 0 _ _ hk9 rfl rfl; rw [this] at h9; exact absurd h9 (by show ¬ 20 ≤ 0; decide))
  have z0_11 : tg g0 (b 2) = 0 := t00 _ (fun hm => by obtain ⟨k9, h9, hk9⟩ := pl_ix (X := [((a 0), .inr (7, [.ref (a 1), .ref (a 2), .ref (a 3), .int 0, .int 0, .int 0, .int 0, .int 0, .int 0, .int 0])), ((a 1), .inr (6, [.ref (a 4), .ref (a 5), .ref (a 6), .ref (a 7)])), ((a 2), .inr (4, [.ref (a 8), .ref (a 9), .ref (a 10)])), ((a 3), .inl ((kA 5), 3, .inr (.inr (.inr (.inr (fun _ => none)))))), ((a 4), .inl ((kA 0), 21, .inl (f 0))), ((a 5), .inl ((kA 0), 21, .inl (f 1))), ((a 6), .inl ((kA 0), 21, .inl (f 2))), ((a 7), .inl ((kA 0), 21, .inl (f 3))), ((a 8), .inl ((kA 0), 4, .inl (fun _ => 0))), ((a 9), .inl ((kA 0), 4, .inl (fun _ => 0))), ((a 10), .inl ((kA 0), 4, .inl (f 4))), ((b 0), .inr (10, [.int 0, .ref (b 1), .int 0, .int 0, .ref (b 2), .ref (b 3), .ref (b 4), .ref (b 5), .int 0, .int 0, .ref (b 6)])), ((b 1), .inl ((kA 6), 21, .inr (.inr (.inr (.inr dg))))), ((b 2), .inl ((kA 0), 4, .inl (fun _ => 0))), ((b 3), .inl ((kA 0), 4, .inl (fun _ => 0))), ((b 4), .inl ((kA 0), 4, .inl dl)), ((b 5), .inl ((kA 0), 2, .inl (fun _ => 0))), ((b 6), .inr (3, [.int 0, .ref eD, .int 0])), (q7, .inl ((kA 3), 1, .inr (.inl (fun _ => 0)))), (q9, .inl ((kA 4), 1, .inr (.inr (.inr (.inl (fun _ => 0))))))]) (f := fun _ => .inl ((kA 0), 4, .inl wRow)) hm; have := hD.1 k9 13 _ _ hk9 rfl rfl; rw [this] at h9; exact absurd h9 (by show ¬ 20 ≤ 13; decide))
  have z0_12 : tg g0 (b 3) = 0 := t00 _ (fun hm => by obtain ⟨k9, h9, hk9⟩ := pl_ix (X := [((a 0), .inr (7, [.ref (a 1), .ref (a 2), .ref (a 3), .int 0, .int 0, .int 0, .int 0, .int 0, .int 0, .int 0])), ((a 1), .inr (6, [.ref (a 4), .ref (a 5), .ref (a 6), .ref (a 7)])), ((a 2), .inr (4, [.ref (a 8), .ref (a 9), .ref (a 10)])), ((a 3), .inl ((kA 5), 3, .inr (.inr (.inr (.inr (fun _ => none)))))), ((a 4), .inl ((kA 0), 21, .inl (f 0))), ((a 5), .inl ((kA 0), 21, .inl (f 1))), ((a 6), .inl ((kA 0), 21, .inl (f 2))), ((a 7), .inl ((kA 0), 21, .inl (f 3))), ((a 8), .inl ((kA 0), 4, .inl (fun _ => 0))), ((a 9), .inl ((kA 0), 4, .inl (fun _ => 0))), ((a 10), .inl ((kA 0), 4, .inl (f 4))), ((b 0), .inr (10, [.int 0, .ref (b 1), .int 0, .int 0, .ref (b 2), .ref (b 3), .ref (b 4), .ref (b 5), .int 0, .int 0, .ref (b 6)])), ((b 1), .inl ((kA 6), 21, .inr (.inr (.inr (.inr dg))))), ((b 2), .inl ((kA 0), 4, .inl (fun _ => 0))), ((b 3), .inl ((kA 0), 4, .inl (fun _ => 0))), ((b 4), .inl ((kA 0), 4, .inl dl)), ((b 5), .inl ((kA 0), 2, .inl (fun _ => 0))), ((b 6), .inr (3, [.int 0, .ref eD, .int 0])), (q7, .inl ((kA 3), 1, .inr (.inl (fun _ => 0)))), (q9, .inl ((kA 4), 1, .inr (.inr (.inr (.inl (fun _ => 0))))))]) (f := fun _ => .inl ((kA 0), 4, .inl wRow)) hm; have := hD.1 k9 14 _ _ hk9 rfl rfl; rw [this] at h9; exact absurd h9 (by show ¬ 20 ≤ 14; decide))
  have z0_13 : tg g0 (b 4) = 0 := t00 _ (fun hm => by obtain ⟨k9, h9, hk9⟩ := pl_ix (X := [((a 0), .inr (7, [.ref (a 1), .ref (a 2), .ref (a 3), .int 0, .int 0, .int 0, .int 0, .int 0, .int 0, .int 0])), ((a 1), .inr (6, [.ref (a 4), .ref (a 5), .ref (a 6), .ref (a 7)])), ((a 2), .inr (4, [.ref (a 8), .ref (a 9), .ref (a 10)])), ((a 3), .inl ((kA 5), 3, .inr (.inr (.inr (.inr (fun _ => none)))))), ((a 4), .inl ((kA 0), 21, .inl (f 0))), ((a 5), .inl ((kA 0), 21, .inl (f 1))), ((a 6), .inl ((kA 0), 21, .inl (f 2))), ((a 7), .inl ((kA 0), 21, .inl (f 3))), ((a 8), .inl ((kA 0), 4, .inl (fun _ => 0))), ((a 9), .inl ((kA 0), 4, .inl (fun _ => 0))), ((a 10), .inl ((kA 0), 4, .inl (f 4))), ((b 0), .inr (10, [.int 0, .ref (b 1), .int 0, .int 0, .ref (b 2), .ref (b 3), .ref (b 4), .ref (b 5), .int 0, .int 0, .ref (b 6)])), ((b 1), .inl ((kA 6), 21, .inr (.inr (.inr (.inr dg))))), ((b 2), .inl ((kA 0), 4, .inl (fun _ => 0))), ((b 3), .inl ((kA 0), 4, .inl (fun _ => 0))), ((b 4), .inl ((kA 0), 4, .inl dl)), ((b 5), .inl ((kA 0), 2, .inl (fun _ => 0))), ((b 6), .inr (3, [.int 0, .ref eD, .int 0])), (q7, .inl ((kA 3), 1, .inr (.inl (fun _ => 0)))), (q9, .inl ((kA 4), 1, .inr (.inr (.inr (.inl (fun _ => 0))))))]) (f := fun _ => .inl ((kA 0), 4, .inl wRow)) hm; have := hD.1 k9 15 _ _ hk9 rfl rfl; rw [this] at h9; exact absurd h9 (by show ¬ 20 ≤ 15; decide))
  have z0_14 : tg g0 (b 5) = 0 := t00 _ (fun hm => by obtain ⟨k9, h9, hk9⟩ := pl_ix (X := [((a 0), .inr (7, [.ref (a 1), .ref (a 2), .ref (a 3), .int 0, .int 0, .int 0, .int 0, .int 0, .int 0, .int 0])), ((a 1), .inr (6, [.ref (a 4), .ref (a 5), .ref (a 6), .ref (a 7)])), ((a 2), .inr (4, [.ref (a 8), .ref (a 9), .ref (a 10)])), ((a 3), .inl ((kA 5), 3, .inr (.inr (.inr (.inr (fun _ => none)))))), ((a 4), .inl ((kA 0), 21, .inl (f 0))), ((a 5), .inl ((kA 0), 21, .inl (f 1))), ((a 6), .inl ((kA 0), 21, .inl (f 2))), ((a 7), .inl ((kA 0), 21, .inl (f 3))), ((a 8), .inl ((kA 0), 4, .inl (fun _ => 0))), ((a 9), .inl ((kA 0), 4, .inl (fun _ => 0))), ((a 10), .inl ((kA 0), 4, .inl (f 4))), ((b 0), .inr (10, [.int 0, .ref (b 1), .int 0, .int 0, .ref (b 2), .ref (b 3), .ref (b 4), .ref (b 5), .int 0, .int 0, .ref (b 6)])), ((b 1), .inl ((kA 6), 21, .inr (.inr (.inr (.inr dg))))), ((b 2), .inl ((kA 0), 4, .inl (fun _ => 0))), ((b 3), .inl ((kA 0), 4, .inl (fun _ => 0))), ((b 4), .inl ((kA 0), 4, .inl dl)), ((b 5), .inl ((kA 0), 2, .inl (fun _ => 0))), ((b 6), .inr (3, [.int 0, .ref eD, .int 0])), (q7, .inl ((kA 3), 1, .inr (.inl (fun _ => 0)))), (q9, .inl ((kA 4), 1, .inr (.inr (.inr (.inl (fun _ => 0))))))]) (f := fun _ => .inl ((kA 0), 4, .inl wRow)) hm; have := hD.1 k9 16 _ _ hk9 rfl rfl; rw [this] at h9; exact absurd h9 (by show ¬ 20 ≤ 16; decide))
  have z0_15 : tg g0 (b 1) = 0 := t00 _ (fun hm => by obtain ⟨k9, h9, hk9⟩ := pl_ix (X := [((a 0), .inr (7, [.ref (a 1), .ref (a 2), .ref (a 3), .int 0, .int 0, .int 0, .int 0, .int 0, .int 0, .int 0])), ((a 1), .inr (6, [.ref (a 4), .ref (a 5), .ref (a 6), .ref (a 7)])), ((a 2), .inr (4, [.ref (a 8), .ref (a 9), .ref (a 10)])), ((a 3), .inl ((kA 5), 3, .inr (.inr (.inr (.inr (fun _ => none)))))), ((a 4), .inl ((kA 0), 21, .inl (f 0))), ((a 5), .inl ((kA 0), 21, .inl (f 1))), ((a 6), .inl ((kA 0), 21, .inl (f 2))), ((a 7), .inl ((kA 0), 21, .inl (f 3))), ((a 8), .inl ((kA 0), 4, .inl (fun _ => 0))), ((a 9), .inl ((kA 0), 4, .inl (fun _ => 0))), ((a 10), .inl ((kA 0), 4, .inl (f 4))), ((b 0), .inr (10, [.int 0, .ref (b 1), .int 0, .int 0, .ref (b 2), .ref (b 3), .ref (b 4), .ref (b 5), .int 0, .int 0, .ref (b 6)])), ((b 1), .inl ((kA 6), 21, .inr (.inr (.inr (.inr dg))))), ((b 2), .inl ((kA 0), 4, .inl (fun _ => 0))), ((b 3), .inl ((kA 0), 4, .inl (fun _ => 0))), ((b 4), .inl ((kA 0), 4, .inl dl)), ((b 5), .inl ((kA 0), 2, .inl (fun _ => 0))), ((b 6), .inr (3, [.int 0, .ref eD, .int 0])), (q7, .inl ((kA 3), 1, .inr (.inl (fun _ => 0)))), (q9, .inl ((kA 4), 1, .inr (.inr (.inr (.inl (fun _ => 0))))))]) (f := fun _ => .inl ((kA 0), 4, .inl wRow)) hm; have := hD.1 k9 12 _ _ hk9 rfl rfl; rw [this] at h9; exact absurd h9 (by show ¬ 20 ≤ 12; decide))
  have z0_16 : tg g0 (b 6) = 0 := t00 _ (fun hm => by obtain ⟨k9, h9, hk9⟩ := pl_ix (X := [((a 0), .inr (7, [.ref (a 1), .ref (a 2), .ref (a 3), .int 0, .int 0, .int 0, .int 0, .int 0, .int 0, .int 0])), ((a 1), .inr (6, [.ref (a 4), .ref (a 5), .ref (a 6), .ref (a 7)])), ((a 2), .inr (4, [.ref (a 8), .ref (a 9), .ref (a 10)])), ((a 3), .inl ((kA 5), 3, .inr (.inr (.inr (.inr (fun _ => none)))))), ((a 4), .inl ((kA 0), 21, .inl (f 0))), ((a 5), .inl ((kA 0), 21, .inl (f 1))), ((a 6), .inl ((kA 0), 21, .inl (f 2))), ((a 7), .inl ((kA 0), 21, .inl (f 3))), ((a 8), .inl ((kA 0), 4, .inl (fun _ => 0))), ((a 9), .inl ((kA 0), 4, .inl (fun _ => 0))), ((a 10), .inl ((kA 0), 4, .inl (f 4))), ((b 0), .inr (10, [.int 0, .ref (b 1), .int 0, .int 0, .ref (b 2), .ref (b 3), .ref (b 4), .ref (b 5), .int 0, .int 0, .ref (b 6)])), ((b 1), .inl ((kA 6), 21, .inr (.inr (.inr (.inr dg))))), ((b 2), .inl ((kA 0), 4, .inl (fun _ => 0))), ((b 3), .inl ((kA 0), 4, .inl (fun _ => 0))), ((b 4), .inl ((kA 0), 4, .inl dl)), ((b 5), .inl ((kA 0), 2, .inl (fun _ => 0))), ((b 6), .inr (3, [.int 0, .ref eD, .int 0])), (q7, .inl ((kA 3), 1, .inr (.inl (fun _ => 0)))), (q9, .inl ((kA 4), 1, .inr (.inr (.inr (.inl (fun _ => 0))))))]) (f := fun _ => .inl ((kA 0), 4, .inl wRow)) hm; have := hD.1 k9 17 _ _ hk9 rfl rfl; rw [this] at h9; exact absurd h9 (by show ¬ 20 ≤ 17; decide))
  have z0_17 : tg g0 (b 0) = 0 := t00 _ (fun hm => by obtain ⟨k9, h9, hk9⟩ := pl_ix (X := [((a 0), .inr (7, [.ref (a 1), .ref (a 2), .ref (a 3), .int 0, .int 0, .int 0, .int 0, .int 0, .int 0, .int 0])), ((a 1), .inr (6, [.ref (a 4), .ref (a 5), .ref (a 6), .ref (a 7)])), ((a 2), .inr (4, [.ref (a 8), .ref (a 9), .ref (a 10)])), ((a 3), .inl ((kA 5), 3, .inr (.inr (.inr (.inr (fun _ => none)))))), ((a 4), .inl ((kA 0), 21, .inl (f 0))), ((a 5), .inl ((kA 0), 21, .inl (f 1))), ((a 6), .inl ((kA 0), 21, .inl (f 2))), ((a 7), .inl ((kA 0), 21, .inl (f 3))), ((a 8), .inl ((kA 0), 4, .inl (fun _ => 0))), ((a 9), .inl ((kA 0), 4, .inl (fun _ => 0))), ((a 10), .inl ((kA 0), 4, .inl (f 4))), ((b 0), .inr (10, [.int 0, .ref (b 1), .int 0, .int 0, .ref (b 2), .ref (b 3), .ref (b 4), .ref (b 5), .int 0, .int 0, .ref (b 6)])), ((b 1), .inl ((kA 6), 21, .inr (.inr (.inr (.inr dg))))), ((b 2), .inl ((kA 0), 4, .inl (fun _ => 0))), ((b 3), .inl ((kA 0), 4, .inl (fun _ => 0))), ((b 4), .inl ((kA 0), 4, .inl dl)), ((b 5), .inl ((kA 0), 2, .inl (fun _ => 0))), ((b 6), .inr (3, [.int 0, .ref eD, .int 0])), (q7, .inl ((kA 3), 1, .inr (.inl (fun _ => 0)))), (q9, .inl ((kA 4), 1, .inr (.inr (.inr (.inl (fun _ => 0))))))]) (f := fun _ => .inl ((kA 0), 4, .inl wRow)) hm; have := hD.1 k9 11 _ _ hk9 rfl rfl; rw [this] at h9; exact absurd h9 (by show ¬ 20 ≤ 11; decide))
  have z0_18 : tg g0 q7 = 0 := t00 _ (fun hm => by obtain ⟨k9, h9, hk9⟩ := pl_ix (X := [((a 0), .inr (7, [.ref (a 1), .ref (a 2), .ref (a 3), .int 0, .int 0, .int 0, .int 0, .int 0, .int 0, .int 0])), ((a 1), .inr (6, [.ref (a 4), .ref (a 5), .ref (a 6), .ref (a 7)])), ((a 2), .inr (4, [.ref (a 8), .ref (a 9), .ref (a 10)])), ((a 3), .inl ((kA 5), 3, .inr (.inr (.inr (.inr (fun _ => none)))))), ((a 4), .inl ((kA 0), 21, .inl (f 0))), ((a 5), .inl ((kA 0), 21, .inl (f 1))), ((a 6), .inl ((kA 0), 21, .inl (f 2))), ((a 7), .inl ((kA 0), 21, .inl (f 3))), ((a 8), .inl ((kA 0), 4, .inl (fun _ => 0))), ((a 9), .inl ((kA 0), 4, .inl (fun _ => 0))), ((a 10), .inl ((kA 0), 4, .inl (f 4))), ((b 0), .inr (10, [.int 0, .ref (b 1), .int 0, .int 0, .ref (b 2), .ref (b 3), .ref (b 4), .ref (b 5), .int 0, .int 0, .ref (b 6)])), ((b 1), .inl ((kA 6), 21, .inr (.inr (.inr (.inr dg))))), ((b 2), .inl ((kA 0), 4, .inl (fun _ => 0))), ((b 3), .inl ((kA 0), 4, .inl (fun _ => 0))), ((b 4), .inl ((kA 0), 4, .inl dl)), ((b 5), .inl ((kA 0), 2, .inl (fun _ => 0))), ((b 6), .inr (3, [.int 0, .ref eD, .int 0])), (q7, .inl ((kA 3), 1, .inr (.inl (fun _ => 0)))), (q9, .inl ((kA 4), 1, .inr (.inr (.inr (.inl (fun _ => 0))))))]) (f := fun _ => .inl ((kA 0), 4, .inl wRow)) hm; have := hD.1 k9 18 _ _ hk9 rfl rfl; rw [this] at h9; exact absurd h9 (by show ¬ 20 ≤ 18; decide))
  have z0_19 : tg g0 q9 = 0 := t00 _ (fun hm => by obtain ⟨k9, h9, hk9⟩ := pl_ix (X := [((a 0), .inr (7, [.ref (a 1), .ref (a 2), .ref (a 3), .int 0, .int 0, .int 0, .int 0, .int 0, .int 0, .int 0])), ((a 1), .inr (6, [.ref (a 4), .ref (a 5), .ref (a 6), .ref (a 7)])), ((a 2), .inr (4, [.ref (a 8), .ref (a 9), .ref (a 10)])), ((a 3), .inl ((kA 5), 3, .inr (.inr (.inr (.inr (fun _ => none)))))), ((a 4), .inl ((kA 0), 21, .inl (f 0))), ((a 5), .inl ((kA 0), 21, .inl (f 1))), ((a 6), .inl ((kA 0), 21, .inl (f 2))), ((a 7), .inl ((kA 0), 21, .inl (f 3))), ((a 8), .inl ((kA 0), 4, .inl (fun _ => 0))), ((a 9), .inl ((kA 0), 4, .inl (fun _ => 0))), ((a 10), .inl ((kA 0), 4, .inl (f 4))), ((b 0), .inr (10, [.int 0, .ref (b 1), .int 0, .int 0, .ref (b 2), .ref (b 3), .ref (b 4), .ref (b 5), .int 0, .int 0, .ref (b 6)])), ((b 1), .inl ((kA 6), 21, .inr (.inr (.inr (.inr dg))))), ((b 2), .inl ((kA 0), 4, .inl (fun _ => 0))), ((b 3), .inl ((kA 0), 4, .inl (fun _ => 0))), ((b 4), .inl ((kA 0), 4, .inl dl)), ((b 5), .inl ((kA 0), 2, .inl (fun _ => 0))), ((b 6), .inr (3, [.int 0, .ref eD, .int 0])), (q7, .inl ((kA 3), 1, .inr (.inl (fun _ => 0)))), (q9, .inl ((kA 4), 1, .inr (.inr (.inr (.inl (fun _ => 0))))))]) (f := fun _ => .inl ((kA 0), 4, .inl wRow)) hm; have := hD.1 k9 19 _ _ hk9 rfl rfl; rw [this] at h9; exact absurd h9 (by show ¬ 20 ≤ 19; decide))
  have p22_0 := t22
  have hMz := hM0.tell (t := 5) (fi := (f 0)) (ff := (fun _ => 0)) (fo := (fun _ => none)) (fl := (fun _ => 0)) z0_0 (hA _ (hD.2 4 _ rfl)) (va_one (hP 4 _ rfl)) (TE.m5 ⟨rfl, trivial⟩)
  have hGz := nw_G2 (t := 5) (fi := (f 0)) (ff := (fun _ => 0)) (fo := (fun _ => none)) (fl := (fun _ => 0)) hG0 hM0 z0_0 (fun h9 => absurd h9 (by decide)) (by decide) (fun h9 => absurd h9 (by decide))
  have hxz : Ext (b 0) X0 g0 (nw g0 (a 4) 5 (f 0) (fun _ => 0) (fun _ => none) (fun _ => 0)) := Ext.nw z0_0
  have hIz := hI0.nw (q := (a 4)) (t := 5) (fi := (f 0)) (ff := (fun _ => 0)) (fo := (fun _ => none)) (fl := (fun _ => 0)) (by decide)
  obtain ⟨g1, hg1⟩ : ∃ z, z = nw g0 (a 4) 5 (f 0) (fun _ => 0) (fun _ => none) (fun _ => 0) := ⟨_, rfl⟩
  rw [← hg1] at hMz hGz hxz
  have hM1 := hMz
  have hG1 := hGz
  have hx1 := hxz
  rw [← hg1] at hIz
  have hI1 := hIz
  have s4_1 : tg g1 (a 4) = 5 := by rw [hg1]; exact nw_t
  have p22_1 : ∀ x, x ∈ Ld → tg g1 x = 22 := fun x hx => hx1.tk (p22_0 x hx) (by decide)
  have v4i : pI g1 (a 4) = (f 0) := by rw [hg1]; exact nw_I
  have v4f : pF g1 (a 4) = (fun _ => 0) := by rw [hg1]; exact nw_F
  have v4o : pO g1 (a 4) = (fun _ => none) := by rw [hg1]; exact nw_O
  have z1_1 : tg g1 (a 5) = 0 := by rw [hg1]; exact nw_0 (fun e9 => absurd (hD.1 5 4 _ _ rfl rfl e9) (by decide)) z0_1
  have z1_2 : tg g1 (a 6) = 0 := by rw [hg1]; exact nw_0 (fun e9 => absurd (hD.1 6 4 _ _ rfl rfl e9) (by decide)) z0_2
  have z1_3 : tg g1 (a 7) = 0 := by rw [hg1]; exact nw_0 (fun e9 => absurd (hD.1 7 4 _ _ rfl rfl e9) (by decide)) z0_3
  have z1_4 : tg g1 (a 8) = 0 := by rw [hg1]; exact nw_0 (fun e9 => absurd (hD.1 8 4 _ _ rfl rfl e9) (by decide)) z0_4
  have z1_5 : tg g1 (a 9) = 0 := by rw [hg1]; exact nw_0 (fun e9 => absurd (hD.1 9 4 _ _ rfl rfl e9) (by decide)) z0_5
  have z1_6 : tg g1 (a 10) = 0 := by rw [hg1]; exact nw_0 (fun e9 => absurd (hD.1 10 4 _ _ rfl rfl e9) (by decide)) z0_6
  have z1_7 : tg g1 (a 3) = 0 := by rw [hg1]; exact nw_0 (fun e9 => absurd (hD.1 3 4 _ _ rfl rfl e9) (by decide)) z0_7
  have z1_8 : tg g1 (a 1) = 0 := by rw [hg1]; exact nw_0 (fun e9 => absurd (hD.1 1 4 _ _ rfl rfl e9) (by decide)) z0_8
  have z1_9 : tg g1 (a 2) = 0 := by rw [hg1]; exact nw_0 (fun e9 => absurd (hD.1 2 4 _ _ rfl rfl e9) (by decide)) z0_9
  have z1_10 : tg g1 (a 0) = 0 := by rw [hg1]; exact nw_0 (fun e9 => absurd (hD.1 0 4 _ _ rfl rfl e9) (by decide)) z0_10
  have z1_11 : tg g1 (b 2) = 0 := by rw [hg1]; exact nw_0 (fun e9 => absurd (hD.1 13 4 _ _ rfl rfl e9) (by decide)) z0_11
  have z1_12 : tg g1 (b 3) = 0 := by rw [hg1]; exact nw_0 (fun e9 => absurd (hD.1 14 4 _ _ rfl rfl e9) (by decide)) z0_12
  have z1_13 : tg g1 (b 4) = 0 := by rw [hg1]; exact nw_0 (fun e9 => absurd (hD.1 15 4 _ _ rfl rfl e9) (by decide)) z0_13
  have z1_14 : tg g1 (b 5) = 0 := by rw [hg1]; exact nw_0 (fun e9 => absurd (hD.1 16 4 _ _ rfl rfl e9) (by decide)) z0_14
  have z1_15 : tg g1 (b 1) = 0 := by rw [hg1]; exact nw_0 (fun e9 => absurd (hD.1 12 4 _ _ rfl rfl e9) (by decide)) z0_15
  have z1_16 : tg g1 (b 6) = 0 := by rw [hg1]; exact nw_0 (fun e9 => absurd (hD.1 17 4 _ _ rfl rfl e9) (by decide)) z0_16
  have z1_17 : tg g1 (b 0) = 0 := by rw [hg1]; exact nw_0 (fun e9 => absurd (hD.1 11 4 _ _ rfl rfl e9) (by decide)) z0_17
  have z1_18 : tg g1 q7 = 0 := by rw [hg1]; exact nw_0 (fun e9 => absurd (hD.1 18 4 _ _ rfl rfl e9) (by decide)) z0_18
  have z1_19 : tg g1 q9 = 0 := by rw [hg1]; exact nw_0 (fun e9 => absurd (hD.1 19 4 _ _ rfl rfl e9) (by decide)) z0_19
  have hMz := hM1.tell (t := 6) (fi := (f 1)) (ff := (fun _ => 0)) (fo := (fun _ => none)) (fl := (fun _ => 0)) z1_1 (hA _ (hD.2 5 _ rfl)) (va_one (hP 5 _ rfl)) (TE.m6 ⟨rfl, trivial⟩)
  have hGz := nw_G2 (t := 6) (fi := (f 1)) (ff := (fun _ => 0)) (fo := (fun _ => none)) (fl := (fun _ => 0)) hG1 hM1 z1_1 (fun h9 => absurd h9 (by decide)) (by decide) (fun h9 => absurd h9 (by decide))
  have hxz : Ext (b 0) X0 g1 (nw g1 (a 5) 6 (f 1) (fun _ => 0) (fun _ => none) (fun _ => 0)) := Ext.nw z1_1
  have hIz := hI1.nw (q := (a 5)) (t := 6) (fi := (f 1)) (ff := (fun _ => 0)) (fo := (fun _ => none)) (fl := (fun _ => 0)) (by decide)
  obtain ⟨g2, hg2⟩ : ∃ z, z = nw g1 (a 5) 6 (f 1) (fun _ => 0) (fun _ => none) (fun _ => 0) := ⟨_, rfl⟩
  rw [← hg2] at hMz hGz hxz
  have hM2 := hMz
  have hG2 := hGz
  have hx2 := hxz
  rw [← hg2] at hIz
  have hI2 := hIz
  have s4_2 : tg g2 (a 4) = 5 := hx2.tk s4_1 (by decide)
  have s5_2 : tg g2 (a 5) = 6 := by rw [hg2]; exact nw_t
  have p22_2 : ∀ x, x ∈ Ld → tg g2 x = 22 := fun x hx => hx2.tk (p22_1 x hx) (by decide)
  have v5i : pI g2 (a 5) = (f 1) := by rw [hg2]; exact nw_I
  have v5f : pF g2 (a 5) = (fun _ => 0) := by rw [hg2]; exact nw_F
  have v5o : pO g2 (a 5) = (fun _ => none) := by rw [hg2]; exact nw_O
  have z2_2 : tg g2 (a 6) = 0 := by rw [hg2]; exact nw_0 (fun e9 => absurd (hD.1 6 5 _ _ rfl rfl e9) (by decide)) z1_2
  have z2_3 : tg g2 (a 7) = 0 := by rw [hg2]; exact nw_0 (fun e9 => absurd (hD.1 7 5 _ _ rfl rfl e9) (by decide)) z1_3
  have z2_4 : tg g2 (a 8) = 0 := by rw [hg2]; exact nw_0 (fun e9 => absurd (hD.1 8 5 _ _ rfl rfl e9) (by decide)) z1_4
  have z2_5 : tg g2 (a 9) = 0 := by rw [hg2]; exact nw_0 (fun e9 => absurd (hD.1 9 5 _ _ rfl rfl e9) (by decide)) z1_5
  have z2_6 : tg g2 (a 10) = 0 := by rw [hg2]; exact nw_0 (fun e9 => absurd (hD.1 10 5 _ _ rfl rfl e9) (by decide)) z1_6
  have z2_7 : tg g2 (a 3) = 0 := by rw [hg2]; exact nw_0 (fun e9 => absurd (hD.1 3 5 _ _ rfl rfl e9) (by decide)) z1_7
  have z2_8 : tg g2 (a 1) = 0 := by rw [hg2]; exact nw_0 (fun e9 => absurd (hD.1 1 5 _ _ rfl rfl e9) (by decide)) z1_8
  have z2_9 : tg g2 (a 2) = 0 := by rw [hg2]; exact nw_0 (fun e9 => absurd (hD.1 2 5 _ _ rfl rfl e9) (by decide)) z1_9
  have z2_10 : tg g2 (a 0) = 0 := by rw [hg2]; exact nw_0 (fun e9 => absurd (hD.1 0 5 _ _ rfl rfl e9) (by decide)) z1_10
  have z2_11 : tg g2 (b 2) = 0 := by rw [hg2]; exact nw_0 (fun e9 => absurd (hD.1 13 5 _ _ rfl rfl e9) (by decide)) z1_11
  have z2_12 : tg g2 (b 3) = 0 := by rw [hg2]; exact nw_0 (fun e9 => absurd (hD.1 14 5 _ _ rfl rfl e9) (by decide)) z1_12
  have z2_13 : tg g2 (b 4) = 0 := by rw [hg2]; exact nw_0 (fun e9 => absurd (hD.1 15 5 _ _ rfl rfl e9) (by decide)) z1_13
  have z2_14 : tg g2 (b 5) = 0 := by rw [hg2]; exact nw_0 (fun e9 => absurd (hD.1 16 5 _ _ rfl rfl e9) (by decide)) z1_14
  have z2_15 : tg g2 (b 1) = 0 := by rw [hg2]; exact nw_0 (fun e9 => absurd (hD.1 12 5 _ _ rfl rfl e9) (by decide)) z1_15
  have z2_16 : tg g2 (b 6) = 0 := by rw [hg2]; exact nw_0 (fun e9 => absurd (hD.1 17 5 _ _ rfl rfl e9) (by decide)) z1_16
  have z2_17 : tg g2 (b 0) = 0 := by rw [hg2]; exact nw_0 (fun e9 => absurd (hD.1 11 5 _ _ rfl rfl e9) (by decide)) z1_17
  have z2_18 : tg g2 q7 = 0 := by rw [hg2]; exact nw_0 (fun e9 => absurd (hD.1 18 5 _ _ rfl rfl e9) (by decide)) z1_18
  have z2_19 : tg g2 q9 = 0 := by rw [hg2]; exact nw_0 (fun e9 => absurd (hD.1 19 5 _ _ rfl rfl e9) (by decide)) z1_19
  have hMz := hM2.tell (t := 7) (fi := (f 2)) (ff := (fun _ => 0)) (fo := (fun _ => none)) (fl := (fun _ => 0)) z2_2 (hA _ (hD.2 6 _ rfl)) (va_one (hP 6 _ rfl)) (TE.m7 ⟨rfl, trivial⟩)
  have hGz := nw_G2 (t := 7) (fi := (f 2)) (ff := (fun _ => 0)) (fo := (fun _ => none)) (fl := (fun _ => 0)) hG2 hM2 z2_2 (fun h9 => absurd h9 (by decide)) (by decide) (fun h9 => absurd h9 (by decide))
  have hxz : Ext (b 0) X0 g2 (nw g2 (a 6) 7 (f 2) (fun _ => 0) (fun _ => none) (fun _ => 0)) := Ext.nw z2_2
  have hIz := hI2.nw (q := (a 6)) (t := 7) (fi := (f 2)) (ff := (fun _ => 0)) (fo := (fun _ => none)) (fl := (fun _ => 0)) (by decide)
  obtain ⟨g3, hg3⟩ : ∃ z, z = nw g2 (a 6) 7 (f 2) (fun _ => 0) (fun _ => none) (fun _ => 0) := ⟨_, rfl⟩
  rw [← hg3] at hMz hGz hxz
  have hM3 := hMz
  have hG3 := hGz
  have hx3 := hxz
  rw [← hg3] at hIz
  have hI3 := hIz
  have s4_3 : tg g3 (a 4) = 5 := hx3.tk s4_2 (by decide)
  have s5_3 : tg g3 (a 5) = 6 := hx3.tk s5_2 (by decide)
  have s6_3 : tg g3 (a 6) = 7 := by rw [hg3]; exact nw_t
  have p22_3 : ∀ x, x ∈ Ld → tg g3 x = 22 := fun x hx => hx3.tk (p22_2 x hx) (by decide)
  have v6i : pI g3 (a 6) = (f 2) := by rw [hg3]; exact nw_I
  have v6f : pF g3 (a 6) = (fun _ => 0) := by rw [hg3]; exact nw_F
  have v6o : pO g3 (a 6) = (fun _ => none) := by rw [hg3]; exact nw_O
  have z3_3 : tg g3 (a 7) = 0 := by rw [hg3]; exact nw_0 (fun e9 => absurd (hD.1 7 6 _ _ rfl rfl e9) (by decide)) z2_3
  have z3_4 : tg g3 (a 8) = 0 := by rw [hg3]; exact nw_0 (fun e9 => absurd (hD.1 8 6 _ _ rfl rfl e9) (by decide)) z2_4
  have z3_5 : tg g3 (a 9) = 0 := by rw [hg3]; exact nw_0 (fun e9 => absurd (hD.1 9 6 _ _ rfl rfl e9) (by decide)) z2_5
  have z3_6 : tg g3 (a 10) = 0 := by rw [hg3]; exact nw_0 (fun e9 => absurd (hD.1 10 6 _ _ rfl rfl e9) (by decide)) z2_6
  have z3_7 : tg g3 (a 3) = 0 := by rw [hg3]; exact nw_0 (fun e9 => absurd (hD.1 3 6 _ _ rfl rfl e9) (by decide)) z2_7
  have z3_8 : tg g3 (a 1) = 0 := by rw [hg3]; exact nw_0 (fun e9 => absurd (hD.1 1 6 _ _ rfl rfl e9) (by decide)) z2_8
  have z3_9 : tg g3 (a 2) = 0 := by rw [hg3]; exact nw_0 (fun e9 => absurd (hD.1 2 6 _ _ rfl rfl e9) (by decide)) z2_9
  have z3_10 : tg g3 (a 0) = 0 := by rw [hg3]; exact nw_0 (fun e9 => absurd (hD.1 0 6 _ _ rfl rfl e9) (by decide)) z2_10
  have z3_11 : tg g3 (b 2) = 0 := by rw [hg3]; exact nw_0 (fun e9 => absurd (hD.1 13 6 _ _ rfl rfl e9) (by decide)) z2_11
  have z3_12 : tg g3 (b 3) = 0 := by rw [hg3]; exact nw_0 (fun e9 => absurd (hD.1 14 6 _ _ rfl rfl e9) (by decide)) z2_12
  have z3_13 : tg g3 (b 4) = 0 := by rw [hg3]; exact nw_0 (fun e9 => absurd (hD.1 15 6 _ _ rfl rfl e9) (by decide)) z2_13
  have z3_14 : tg g3 (b 5) = 0 := by rw [hg3]; exact nw_0 (fun e9 => absurd (hD.1 16 6 _ _ rfl rfl e9) (by decide)) z2_14
  have z3_15 : tg g3 (b 1) = 0 := by rw [hg3]; exact nw_0 (fun e9 => absurd (hD.1 12 6 _ _ rfl rfl e9) (by decide)) z2_15
  have z3_16 : tg g3 (b 6) = 0 := by rw [hg3]; exact nw_0 (fun e9 => absurd (hD.1 17 6 _ _ rfl rfl e9) (by decide)) z2_16
  have z3_17 : tg g3 (b 0) = 0 := by rw [hg3]; exact nw_0 (fun e9 => absurd (hD.1 11 6 _ _ rfl rfl e9) (by decide)) z2_17
  have z3_18 : tg g3 q7 = 0 := by rw [hg3]; exact nw_0 (fun e9 => absurd (hD.1 18 6 _ _ rfl rfl e9) (by decide)) z2_18
  have z3_19 : tg g3 q9 = 0 := by rw [hg3]; exact nw_0 (fun e9 => absurd (hD.1 19 6 _ _ rfl rfl e9) (by decide)) z2_19
  have hMz := hM3.tell (t := 8) (fi := (f 3)) (ff := (fun _ => 0)) (fo := (fun _ => none)) (fl := (fun _ => 0)) z3_3 (hA _ (hD.2 7 _ rfl)) (va_one (hP 7 _ rfl)) (TE.m8 ⟨rfl, trivial⟩)
  have hGz := nw_G2 (t := 8) (fi := (f 3)) (ff := (fun _ => 0)) (fo := (fun _ => none)) (fl := (fun _ => 0)) hG3 hM3 z3_3 (fun h9 => absurd h9 (by decide)) (by decide) (fun h9 => absurd h9 (by decide))
  have hxz : Ext (b 0) X0 g3 (nw g3 (a 7) 8 (f 3) (fun _ => 0) (fun _ => none) (fun _ => 0)) := Ext.nw z3_3
  have hIz := hI3.nw (q := (a 7)) (t := 8) (fi := (f 3)) (ff := (fun _ => 0)) (fo := (fun _ => none)) (fl := (fun _ => 0)) (by decide)
  obtain ⟨g4, hg4⟩ : ∃ z, z = nw g3 (a 7) 8 (f 3) (fun _ => 0) (fun _ => none) (fun _ => 0) := ⟨_, rfl⟩
  rw [← hg4] at hMz hGz hxz
  have hM4 := hMz
  have hG4 := hGz
  have hx4 := hxz
  rw [← hg4] at hIz
  have hI4 := hIz
  have s4_4 : tg g4 (a 4) = 5 := hx4.tk s4_3 (by decide)
  have s5_4 : tg g4 (a 5) = 6 := hx4.tk s5_3 (by decide)
  have s6_4 : tg g4 (a 6) = 7 := hx4.tk s6_3 (by decide)
  have s7_4 : tg g4 (a 7) = 8 := by rw [hg4]; exact nw_t
  have p22_4 : ∀ x, x ∈ Ld → tg g4 x = 22 := fun x hx => hx4.tk (p22_3 x hx) (by decide)
  have v7i : pI g4 (a 7) = (f 3) := by rw [hg4]; exact nw_I
  have v7f : pF g4 (a 7) = (fun _ => 0) := by rw [hg4]; exact nw_F
  have v7o : pO g4 (a 7) = (fun _ => none) := by rw [hg4]; exact nw_O
  have z4_4 : tg g4 (a 8) = 0 := by rw [hg4]; exact nw_0 (fun e9 => absurd (hD.1 8 7 _ _ rfl rfl e9) (by decide)) z3_4
  have z4_5 : tg g4 (a 9) = 0 := by rw [hg4]; exact nw_0 (fun e9 => absurd (hD.1 9 7 _ _ rfl rfl e9) (by decide)) z3_5
  have z4_6 : tg g4 (a 10) = 0 := by rw [hg4]; exact nw_0 (fun e9 => absurd (hD.1 10 7 _ _ rfl rfl e9) (by decide)) z3_6
  have z4_7 : tg g4 (a 3) = 0 := by rw [hg4]; exact nw_0 (fun e9 => absurd (hD.1 3 7 _ _ rfl rfl e9) (by decide)) z3_7
  have z4_8 : tg g4 (a 1) = 0 := by rw [hg4]; exact nw_0 (fun e9 => absurd (hD.1 1 7 _ _ rfl rfl e9) (by decide)) z3_8
  have z4_9 : tg g4 (a 2) = 0 := by rw [hg4]; exact nw_0 (fun e9 => absurd (hD.1 2 7 _ _ rfl rfl e9) (by decide)) z3_9
  have z4_10 : tg g4 (a 0) = 0 := by rw [hg4]; exact nw_0 (fun e9 => absurd (hD.1 0 7 _ _ rfl rfl e9) (by decide)) z3_10
  have z4_11 : tg g4 (b 2) = 0 := by rw [hg4]; exact nw_0 (fun e9 => absurd (hD.1 13 7 _ _ rfl rfl e9) (by decide)) z3_11
  have z4_12 : tg g4 (b 3) = 0 := by rw [hg4]; exact nw_0 (fun e9 => absurd (hD.1 14 7 _ _ rfl rfl e9) (by decide)) z3_12
  have z4_13 : tg g4 (b 4) = 0 := by rw [hg4]; exact nw_0 (fun e9 => absurd (hD.1 15 7 _ _ rfl rfl e9) (by decide)) z3_13
  have z4_14 : tg g4 (b 5) = 0 := by rw [hg4]; exact nw_0 (fun e9 => absurd (hD.1 16 7 _ _ rfl rfl e9) (by decide)) z3_14
  have z4_15 : tg g4 (b 1) = 0 := by rw [hg4]; exact nw_0 (fun e9 => absurd (hD.1 12 7 _ _ rfl rfl e9) (by decide)) z3_15
  have z4_16 : tg g4 (b 6) = 0 := by rw [hg4]; exact nw_0 (fun e9 => absurd (hD.1 17 7 _ _ rfl rfl e9) (by decide)) z3_16
  have z4_17 : tg g4 (b 0) = 0 := by rw [hg4]; exact nw_0 (fun e9 => absurd (hD.1 11 7 _ _ rfl rfl e9) (by decide)) z3_17
  have z4_18 : tg g4 q7 = 0 := by rw [hg4]; exact nw_0 (fun e9 => absurd (hD.1 18 7 _ _ rfl rfl e9) (by decide)) z3_18
  have z4_19 : tg g4 q9 = 0 := by rw [hg4]; exact nw_0 (fun e9 => absurd (hD.1 19 7 _ _ rfl rfl e9) (by decide)) z3_19
  have hMz := hM4.tell (t := 9) (fi := (fun _ => 0)) (ff := (fun _ => 0)) (fo := (fun _ => none)) (fl := (fun _ => 0)) z4_4 (hA _ (hD.2 8 _ rfl)) (va_one (hP 8 _ rfl)) (TE.m9 ⟨(fun _ => 0), rfl, trivial⟩)
  have hGz := nw_G2 (t := 9) (fi := (fun _ => 0)) (ff := (fun _ => 0)) (fo := (fun _ => none)) (fl := (fun _ => 0)) hG4 hM4 z4_4 (fun h9 => absurd h9 (by decide)) (by decide) (fun h9 => absurd h9 (by decide))
  have hxz : Ext (b 0) X0 g4 (nw g4 (a 8) 9 (fun _ => 0) (fun _ => 0) (fun _ => none) (fun _ => 0)) := Ext.nw z4_4
  have hIz := hI4.nw (q := (a 8)) (t := 9) (fi := (fun _ => 0)) (ff := (fun _ => 0)) (fo := (fun _ => none)) (fl := (fun _ => 0)) (by decide)
  obtain ⟨g5, hg5⟩ : ∃ z, z = nw g4 (a 8) 9 (fun _ => 0) (fun _ => 0) (fun _ => none) (fun _ => 0) := ⟨_, rfl⟩
  rw [← hg5] at hMz hGz hxz
  have hM5 := hMz
  have hG5 := hGz
  have hx5 := hxz
  rw [← hg5] at hIz
  have hI5 := hIz
  have s4_5 : tg g5 (a 4) = 5 := hx5.tk s4_4 (by decide)
  have s5_5 : tg g5 (a 5) = 6 := hx5.tk s5_4 (by decide)
  have s6_5 : tg g5 (a 6) = 7 := hx5.tk s6_4 (by decide)
  have s7_5 : tg g5 (a 7) = 8 := hx5.tk s7_4 (by decide)
  have s8_5 : tg g5 (a 8) = 9 := by rw [hg5]; exact nw_t
  have p22_5 : ∀ x, x ∈ Ld → tg g5 x = 22 := fun x hx => hx5.tk (p22_4 x hx) (by decide)
  have v8i : pI g5 (a 8) = (fun _ => 0) := by rw [hg5]; exact nw_I
  have v8f : pF g5 (a 8) = (fun _ => 0) := by rw [hg5]; exact nw_F
  have v8o : pO g5 (a 8) = (fun _ => none) := by rw [hg5]; exact nw_O
  have z5_5 : tg g5 (a 9) = 0 := by rw [hg5]; exact nw_0 (fun e9 => absurd (hD.1 9 8 _ _ rfl rfl e9) (by decide)) z4_5
  have z5_6 : tg g5 (a 10) = 0 := by rw [hg5]; exact nw_0 (fun e9 => absurd (hD.1 10 8 _ _ rfl rfl e9) (by decide)) z4_6
  have z5_7 : tg g5 (a 3) = 0 := by rw [hg5]; exact nw_0 (fun e9 => absurd (hD.1 3 8 _ _ rfl rfl e9) (by decide)) z4_7
  have z5_8 : tg g5 (a 1) = 0 := by rw [hg5]; exact nw_0 (fun e9 => absurd (hD.1 1 8 _ _ rfl rfl e9) (by decide)) z4_8
  have z5_9 : tg g5 (a 2) = 0 := by rw [hg5]; exact nw_0 (fun e9 => absurd (hD.1 2 8 _ _ rfl rfl e9) (by decide)) z4_9
  have z5_10 : tg g5 (a 0) = 0 := by rw [hg5]; exact nw_0 (fun e9 => absurd (hD.1 0 8 _ _ rfl rfl e9) (by decide)) z4_10
  have z5_11 : tg g5 (b 2) = 0 := by rw [hg5]; exact nw_0 (fun e9 => absurd (hD.1 13 8 _ _ rfl rfl e9) (by decide)) z4_11
  have z5_12 : tg g5 (b 3) = 0 := by rw [hg5]; exact nw_0 (fun e9 => absurd (hD.1 14 8 _ _ rfl rfl e9) (by decide)) z4_12
  have z5_13 : tg g5 (b 4) = 0 := by rw [hg5]; exact nw_0 (fun e9 => absurd (hD.1 15 8 _ _ rfl rfl e9) (by decide)) z4_13
  have z5_14 : tg g5 (b 5) = 0 := by rw [hg5]; exact nw_0 (fun e9 => absurd (hD.1 16 8 _ _ rfl rfl e9) (by decide)) z4_14
  have z5_15 : tg g5 (b 1) = 0 := by rw [hg5]; exact nw_0 (fun e9 => absurd (hD.1 12 8 _ _ rfl rfl e9) (by decide)) z4_15
  have z5_16 : tg g5 (b 6) = 0 := by rw [hg5]; exact nw_0 (fun e9 => absurd (hD.1 17 8 _ _ rfl rfl e9) (by decide)) z4_16
  have z5_17 : tg g5 (b 0) = 0 := by rw [hg5]; exact nw_0 (fun e9 => absurd (hD.1 11 8 _ _ rfl rfl e9) (by decide)) z4_17
  have z5_18 : tg g5 q7 = 0 := by rw [hg5]; exact nw_0 (fun e9 => absurd (hD.1 18 8 _ _ rfl rfl e9) (by decide)) z4_18
  have z5_19 : tg g5 q9 = 0 := by rw [hg5]; exact nw_0 (fun e9 => absurd (hD.1 19 8 _ _ rfl rfl e9) (by decide)) z4_19
  have hMz := hM5.tell (t := 9) (fi := (fun _ => 0)) (ff := (fun _ => 0)) (fo := (fun _ => none)) (fl := (fun _ => 0)) z5_5 (hA _ (hD.2 9 _ rfl)) (va_one (hP 9 _ rfl)) (TE.m9 ⟨(fun _ => 0), rfl, trivial⟩)
  have hGz := nw_G2 (t := 9) (fi := (fun _ => 0)) (ff := (fun _ => 0)) (fo := (fun _ => none)) (fl := (fun _ => 0)) hG5 hM5 z5_5 (fun h9 => absurd h9 (by decide)) (by decide) (fun h9 => absurd h9 (by decide))
  have hxz : Ext (b 0) X0 g5 (nw g5 (a 9) 9 (fun _ => 0) (fun _ => 0) (fun _ => none) (fun _ => 0)) := Ext.nw z5_5
  have hIz := hI5.nw (q := (a 9)) (t := 9) (fi := (fun _ => 0)) (ff := (fun _ => 0)) (fo := (fun _ => none)) (fl := (fun _ => 0)) (by decide)
  obtain ⟨g6, hg6⟩ : ∃ z, z = nw g5 (a 9) 9 (fun _ => 0) (fun _ => 0) (fun _ => none) (fun _ => 0) := ⟨_, rfl⟩
  rw [← hg6] at hMz hGz hxz
  have hM6 := hMz
  have hG6 := hGz
  have hx6 := hxz
  rw [← hg6] at hIz
  have hI6 := hIz
  have s4_6 : tg g6 (a 4) = 5 := hx6.tk s4_5 (by decide)
  have s5_6 : tg g6 (a 5) = 6 := hx6.tk s5_5 (by decide)
  have s6_6 : tg g6 (a 6) = 7 := hx6.tk s6_5 (by decide)
  have s7_6 : tg g6 (a 7) = 8 := hx6.tk s7_5 (by decide)
  have s8_6 : tg g6 (a 8) = 9 := hx6.tk s8_5 (by decide)
  have s9_6 : tg g6 (a 9) = 9 := by rw [hg6]; exact nw_t
  have p22_6 : ∀ x, x ∈ Ld → tg g6 x = 22 := fun x hx => hx6.tk (p22_5 x hx) (by decide)
  have v9i : pI g6 (a 9) = (fun _ => 0) := by rw [hg6]; exact nw_I
  have v9f : pF g6 (a 9) = (fun _ => 0) := by rw [hg6]; exact nw_F
  have v9o : pO g6 (a 9) = (fun _ => none) := by rw [hg6]; exact nw_O
  have z6_6 : tg g6 (a 10) = 0 := by rw [hg6]; exact nw_0 (fun e9 => absurd (hD.1 10 9 _ _ rfl rfl e9) (by decide)) z5_6
  have z6_7 : tg g6 (a 3) = 0 := by rw [hg6]; exact nw_0 (fun e9 => absurd (hD.1 3 9 _ _ rfl rfl e9) (by decide)) z5_7
  have z6_8 : tg g6 (a 1) = 0 := by rw [hg6]; exact nw_0 (fun e9 => absurd (hD.1 1 9 _ _ rfl rfl e9) (by decide)) z5_8
  have z6_9 : tg g6 (a 2) = 0 := by rw [hg6]; exact nw_0 (fun e9 => absurd (hD.1 2 9 _ _ rfl rfl e9) (by decide)) z5_9
  have z6_10 : tg g6 (a 0) = 0 := by rw [hg6]; exact nw_0 (fun e9 => absurd (hD.1 0 9 _ _ rfl rfl e9) (by decide)) z5_10
  have z6_11 : tg g6 (b 2) = 0 := by rw [hg6]; exact nw_0 (fun e9 => absurd (hD.1 13 9 _ _ rfl rfl e9) (by decide)) z5_11
  have z6_12 : tg g6 (b 3) = 0 := by rw [hg6]; exact nw_0 (fun e9 => absurd (hD.1 14 9 _ _ rfl rfl e9) (by decide)) z5_12
  have z6_13 : tg g6 (b 4) = 0 := by rw [hg6]; exact nw_0 (fun e9 => absurd (hD.1 15 9 _ _ rfl rfl e9) (by decide)) z5_13
  have z6_14 : tg g6 (b 5) = 0 := by rw [hg6]; exact nw_0 (fun e9 => absurd (hD.1 16 9 _ _ rfl rfl e9) (by decide)) z5_14
  have z6_15 : tg g6 (b 1) = 0 := by rw [hg6]; exact nw_0 (fun e9 => absurd (hD.1 12 9 _ _ rfl rfl e9) (by decide)) z5_15
  have z6_16 : tg g6 (b 6) = 0 := by rw [hg6]; exact nw_0 (fun e9 => absurd (hD.1 17 9 _ _ rfl rfl e9) (by decide)) z5_16
  have z6_17 : tg g6 (b 0) = 0 := by rw [hg6]; exact nw_0 (fun e9 => absurd (hD.1 11 9 _ _ rfl rfl e9) (by decide)) z5_17
  have z6_18 : tg g6 q7 = 0 := by rw [hg6]; exact nw_0 (fun e9 => absurd (hD.1 18 9 _ _ rfl rfl e9) (by decide)) z5_18
  have z6_19 : tg g6 q9 = 0 := by rw [hg6]; exact nw_0 (fun e9 => absurd (hD.1 19 9 _ _ rfl rfl e9) (by decide)) z5_19
  have hMz := hM6.tell (t := 9) (fi := (fun _ => 0)) (ff := (fun _ => 0)) (fo := (fun _ => none)) (fl := (fun _ => 0)) z6_6 (hA _ (hD.2 10 _ rfl)) (va_one (hP 10 _ rfl)) (TE.m9 ⟨(f 4), rfl, trivial⟩)
  have hGz := nw_G2 (t := 9) (fi := (fun _ => 0)) (ff := (fun _ => 0)) (fo := (fun _ => none)) (fl := (fun _ => 0)) hG6 hM6 z6_6 (fun h9 => absurd h9 (by decide)) (by decide) (fun h9 => absurd h9 (by decide))
  have hxz : Ext (b 0) X0 g6 (nw g6 (a 10) 9 (fun _ => 0) (fun _ => 0) (fun _ => none) (fun _ => 0)) := Ext.nw z6_6
  have hIz := hI6.nw (q := (a 10)) (t := 9) (fi := (fun _ => 0)) (ff := (fun _ => 0)) (fo := (fun _ => none)) (fl := (fun _ => 0)) (by decide)
  obtain ⟨g7, hg7⟩ : ∃ z, z = nw g6 (a 10) 9 (fun _ => 0) (fun _ => 0) (fun _ => none) (fun _ => 0) := ⟨_, rfl⟩
  rw [← hg7] at hMz hGz hxz
  have hM7 := hMz
  have hG7 := hGz
  have hx7 := hxz
  rw [← hg7] at hIz
  have hI7 := hIz
  have s4_7 : tg g7 (a 4) = 5 := hx7.tk s4_6 (by decide)
  have s5_7 : tg g7 (a 5) = 6 := hx7.tk s5_6 (by decide)
  have s6_7 : tg g7 (a 6) = 7 := hx7.tk s6_6 (by decide)
  have s7_7 : tg g7 (a 7) = 8 := hx7.tk s7_6 (by decide)
  have s8_7 : tg g7 (a 8) = 9 := hx7.tk s8_6 (by decide)
  have s9_7 : tg g7 (a 9) = 9 := hx7.tk s9_6 (by decide)
  have s10_7 : tg g7 (a 10) = 9 := by rw [hg7]; exact nw_t
  have p22_7 : ∀ x, x ∈ Ld → tg g7 x = 22 := fun x hx => hx7.tk (p22_6 x hx) (by decide)
  have v10i : pI g7 (a 10) = (fun _ => 0) := by rw [hg7]; exact nw_I
  have v10f : pF g7 (a 10) = (fun _ => 0) := by rw [hg7]; exact nw_F
  have v10o : pO g7 (a 10) = (fun _ => none) := by rw [hg7]; exact nw_O
  have z7_7 : tg g7 (a 3) = 0 := by rw [hg7]; exact nw_0 (fun e9 => absurd (hD.1 3 10 _ _ rfl rfl e9) (by decide)) z6_7
  have z7_8 : tg g7 (a 1) = 0 := by rw [hg7]; exact nw_0 (fun e9 => absurd (hD.1 1 10 _ _ rfl rfl e9) (by decide)) z6_8
  have z7_9 : tg g7 (a 2) = 0 := by rw [hg7]; exact nw_0 (fun e9 => absurd (hD.1 2 10 _ _ rfl rfl e9) (by decide)) z6_9
  have z7_10 : tg g7 (a 0) = 0 := by rw [hg7]; exact nw_0 (fun e9 => absurd (hD.1 0 10 _ _ rfl rfl e9) (by decide)) z6_10
  have z7_11 : tg g7 (b 2) = 0 := by rw [hg7]; exact nw_0 (fun e9 => absurd (hD.1 13 10 _ _ rfl rfl e9) (by decide)) z6_11
  have z7_12 : tg g7 (b 3) = 0 := by rw [hg7]; exact nw_0 (fun e9 => absurd (hD.1 14 10 _ _ rfl rfl e9) (by decide)) z6_12
  have z7_13 : tg g7 (b 4) = 0 := by rw [hg7]; exact nw_0 (fun e9 => absurd (hD.1 15 10 _ _ rfl rfl e9) (by decide)) z6_13
  have z7_14 : tg g7 (b 5) = 0 := by rw [hg7]; exact nw_0 (fun e9 => absurd (hD.1 16 10 _ _ rfl rfl e9) (by decide)) z6_14
  have z7_15 : tg g7 (b 1) = 0 := by rw [hg7]; exact nw_0 (fun e9 => absurd (hD.1 12 10 _ _ rfl rfl e9) (by decide)) z6_15
  have z7_16 : tg g7 (b 6) = 0 := by rw [hg7]; exact nw_0 (fun e9 => absurd (hD.1 17 10 _ _ rfl rfl e9) (by decide)) z6_16
  have z7_17 : tg g7 (b 0) = 0 := by rw [hg7]; exact nw_0 (fun e9 => absurd (hD.1 11 10 _ _ rfl rfl e9) (by decide)) z6_17
  have z7_18 : tg g7 q7 = 0 := by rw [hg7]; exact nw_0 (fun e9 => absurd (hD.1 18 10 _ _ rfl rfl e9) (by decide)) z6_18
  have z7_19 : tg g7 q9 = 0 := by rw [hg7]; exact nw_0 (fun e9 => absurd (hD.1 19 10 _ _ rfl rfl e9) (by decide)) z6_19
  have hMz := hM7.tell (t := 4) (fi := (fun _ => 0)) (ff := (fun _ => 0)) (fo := (fun _ => none)) (fl := (fun _ => 0)) z7_7 (hA _ (hD.2 3 _ rfl)) (va_one (hP 3 _ rfl)) (TE.m4 ⟨rfl, fun j hj x hx => absurd hx (by simp)⟩)
  have hGz := nw_G2 (t := 4) (fi := (fun _ => 0)) (ff := (fun _ => 0)) (fo := (fun _ => none)) (fl := (fun _ => 0)) hG7 hM7 z7_7 (fun h9 => absurd h9 (by decide)) (by decide) (fun h9 => absurd h9 (by decide))
  have hxz : Ext (b 0) X0 g7 (nw g7 (a 3) 4 (fun _ => 0) (fun _ => 0) (fun _ => none) (fun _ => 0)) := Ext.nw z7_7
  have hIz := hI7.nw (q := (a 3)) (t := 4) (fi := (fun _ => 0)) (ff := (fun _ => 0)) (fo := (fun _ => none)) (fl := (fun _ => 0)) (by decide)
  obtain ⟨g8, hg8⟩ : ∃ z, z = nw g7 (a 3) 4 (fun _ => 0) (fun _ => 0) (fun _ => none) (fun _ => 0) := ⟨_, rfl⟩
  rw [← hg8] at hMz hGz hxz
  have hM8 := hMz
  have hG8 := hGz
  have hx8 := hxz
  rw [← hg8] at hIz
  have hI8 := hIz
  have s4_8 : tg g8 (a 4) = 5 := hx8.tk s4_7 (by decide)
  have s5_8 : tg g8 (a 5) = 6 := hx8.tk s5_7 (by decide)
  have s6_8 : tg g8 (a 6) = 7 := hx8.tk s6_7 (by decide)
  have s7_8 : tg g8 (a 7) = 8 := hx8.tk s7_7 (by decide)
  have s8_8 : tg g8 (a 8) = 9 := hx8.tk s8_7 (by decide)
  have s9_8 : tg g8 (a 9) = 9 := hx8.tk s9_7 (by decide)
  have s10_8 : tg g8 (a 10) = 9 := hx8.tk s10_7 (by decide)
  have s3_8 : tg g8 (a 3) = 4 := by rw [hg8]; exact nw_t
  have p22_8 : ∀ x, x ∈ Ld → tg g8 x = 22 := fun x hx => hx8.tk (p22_7 x hx) (by decide)
  have v3i : pI g8 (a 3) = (fun _ => 0) := by rw [hg8]; exact nw_I
  have v3f : pF g8 (a 3) = (fun _ => 0) := by rw [hg8]; exact nw_F
  have v3o : pO g8 (a 3) = (fun _ => none) := by rw [hg8]; exact nw_O
  have z8_8 : tg g8 (a 1) = 0 := by rw [hg8]; exact nw_0 (fun e9 => absurd (hD.1 1 3 _ _ rfl rfl e9) (by decide)) z7_8
  have z8_9 : tg g8 (a 2) = 0 := by rw [hg8]; exact nw_0 (fun e9 => absurd (hD.1 2 3 _ _ rfl rfl e9) (by decide)) z7_9
  have z8_10 : tg g8 (a 0) = 0 := by rw [hg8]; exact nw_0 (fun e9 => absurd (hD.1 0 3 _ _ rfl rfl e9) (by decide)) z7_10
  have z8_11 : tg g8 (b 2) = 0 := by rw [hg8]; exact nw_0 (fun e9 => absurd (hD.1 13 3 _ _ rfl rfl e9) (by decide)) z7_11
  have z8_12 : tg g8 (b 3) = 0 := by rw [hg8]; exact nw_0 (fun e9 => absurd (hD.1 14 3 _ _ rfl rfl e9) (by decide)) z7_12
  have z8_13 : tg g8 (b 4) = 0 := by rw [hg8]; exact nw_0 (fun e9 => absurd (hD.1 15 3 _ _ rfl rfl e9) (by decide)) z7_13
  have z8_14 : tg g8 (b 5) = 0 := by rw [hg8]; exact nw_0 (fun e9 => absurd (hD.1 16 3 _ _ rfl rfl e9) (by decide)) z7_14
  have z8_15 : tg g8 (b 1) = 0 := by rw [hg8]; exact nw_0 (fun e9 => absurd (hD.1 12 3 _ _ rfl rfl e9) (by decide)) z7_15
  have z8_16 : tg g8 (b 6) = 0 := by rw [hg8]; exact nw_0 (fun e9 => absurd (hD.1 17 3 _ _ rfl rfl e9) (by decide)) z7_16
  have z8_17 : tg g8 (b 0) = 0 := by rw [hg8]; exact nw_0 (fun e9 => absurd (hD.1 11 3 _ _ rfl rfl e9) (by decide)) z7_17
  have z8_18 : tg g8 q7 = 0 := by rw [hg8]; exact nw_0 (fun e9 => absurd (hD.1 18 3 _ _ rfl rfl e9) (by decide)) z7_18
  have z8_19 : tg g8 q9 = 0 := by rw [hg8]; exact nw_0 (fun e9 => absurd (hD.1 19 3 _ _ rfl rfl e9) (by decide)) z7_19
  have hMz := hM8.tell (t := 2) (fi := (fun _ => 0)) (ff := (fun j9 => if j9 = 0 then (a 4) else if j9 = 1 then (a 5) else if j9 = 2 then (a 6) else (a 7))) (fo := (fun _ => none)) (fl := (fun _ => 0)) z8_8 (hA _ (hD.2 1 _ rfl)) (va_one (hP 1 _ rfl)) (TE.m2 ⟨rfl, (nw_k s4_8 (by decide) z8_8), (nw_k s5_8 (by decide) z8_8), (nw_k s6_8 (by decide) z8_8), (nw_k s7_8 (by decide) z8_8)⟩)
  have hGz := nw_G2 (t := 2) (fi := (fun _ => 0)) (ff := (fun j9 => if j9 = 0 then (a 4) else if j9 = 1 then (a 5) else if j9 = 2 then (a 6) else (a 7))) (fo := (fun _ => none)) (fl := (fun _ => 0)) hG8 hM8 z8_8 (fun h9 => absurd h9 (by decide)) (by decide) (fun h9 => absurd h9 (by decide))
  have hxz : Ext (b 0) X0 g8 (nw g8 (a 1) 2 (fun _ => 0) (fun j9 => if j9 = 0 then (a 4) else if j9 = 1 then (a 5) else if j9 = 2 then (a 6) else (a 7)) (fun _ => none) (fun _ => 0)) := Ext.nw z8_8
  have hIz := hI8.nw (q := (a 1)) (t := 2) (fi := (fun _ => 0)) (ff := (fun j9 => if j9 = 0 then (a 4) else if j9 = 1 then (a 5) else if j9 = 2 then (a 6) else (a 7))) (fo := (fun _ => none)) (fl := (fun _ => 0)) (by decide)
  obtain ⟨g9, hg9⟩ : ∃ z, z = nw g8 (a 1) 2 (fun _ => 0) (fun j9 => if j9 = 0 then (a 4) else if j9 = 1 then (a 5) else if j9 = 2 then (a 6) else (a 7)) (fun _ => none) (fun _ => 0) := ⟨_, rfl⟩
  rw [← hg9] at hMz hGz hxz
  have hM9 := hMz
  have hG9 := hGz
  have hx9 := hxz
  rw [← hg9] at hIz
  have hI9 := hIz
  have s4_9 : tg g9 (a 4) = 5 := hx9.tk s4_8 (by decide)
  have s5_9 : tg g9 (a 5) = 6 := hx9.tk s5_8 (by decide)
  have s6_9 : tg g9 (a 6) = 7 := hx9.tk s6_8 (by decide)
  have s7_9 : tg g9 (a 7) = 8 := hx9.tk s7_8 (by decide)
  have s8_9 : tg g9 (a 8) = 9 := hx9.tk s8_8 (by decide)
  have s9_9 : tg g9 (a 9) = 9 := hx9.tk s9_8 (by decide)
  have s10_9 : tg g9 (a 10) = 9 := hx9.tk s10_8 (by decide)
  have s3_9 : tg g9 (a 3) = 4 := hx9.tk s3_8 (by decide)
  have s1_9 : tg g9 (a 1) = 2 := by rw [hg9]; exact nw_t
  have p22_9 : ∀ x, x ∈ Ld → tg g9 x = 22 := fun x hx => hx9.tk (p22_8 x hx) (by decide)
  have v1i : pI g9 (a 1) = (fun _ => 0) := by rw [hg9]; exact nw_I
  have v1f : pF g9 (a 1) = (fun j9 => if j9 = 0 then (a 4) else if j9 = 1 then (a 5) else if j9 = 2 then (a 6) else (a 7)) := by rw [hg9]; exact nw_F
  have v1o : pO g9 (a 1) = (fun _ => none) := by rw [hg9]; exact nw_O
  have z9_9 : tg g9 (a 2) = 0 := by rw [hg9]; exact nw_0 (fun e9 => absurd (hD.1 2 1 _ _ rfl rfl e9) (by decide)) z8_9
  have z9_10 : tg g9 (a 0) = 0 := by rw [hg9]; exact nw_0 (fun e9 => absurd (hD.1 0 1 _ _ rfl rfl e9) (by decide)) z8_10
  have z9_11 : tg g9 (b 2) = 0 := by rw [hg9]; exact nw_0 (fun e9 => absurd (hD.1 13 1 _ _ rfl rfl e9) (by decide)) z8_11
  have z9_12 : tg g9 (b 3) = 0 := by rw [hg9]; exact nw_0 (fun e9 => absurd (hD.1 14 1 _ _ rfl rfl e9) (by decide)) z8_12
  have z9_13 : tg g9 (b 4) = 0 := by rw [hg9]; exact nw_0 (fun e9 => absurd (hD.1 15 1 _ _ rfl rfl e9) (by decide)) z8_13
  have z9_14 : tg g9 (b 5) = 0 := by rw [hg9]; exact nw_0 (fun e9 => absurd (hD.1 16 1 _ _ rfl rfl e9) (by decide)) z8_14
  have z9_15 : tg g9 (b 1) = 0 := by rw [hg9]; exact nw_0 (fun e9 => absurd (hD.1 12 1 _ _ rfl rfl e9) (by decide)) z8_15
  have z9_16 : tg g9 (b 6) = 0 := by rw [hg9]; exact nw_0 (fun e9 => absurd (hD.1 17 1 _ _ rfl rfl e9) (by decide)) z8_16
  have z9_17 : tg g9 (b 0) = 0 := by rw [hg9]; exact nw_0 (fun e9 => absurd (hD.1 11 1 _ _ rfl rfl e9) (by decide)) z8_17
  have z9_18 : tg g9 q7 = 0 := by rw [hg9]; exact nw_0 (fun e9 => absurd (hD.1 18 1 _ _ rfl rfl e9) (by decide)) z8_18
  have z9_19 : tg g9 q9 = 0 := by rw [hg9]; exact nw_0 (fun e9 => absurd (hD.1 19 1 _ _ rfl rfl e9) (by decide)) z8_19
  have hMz := hM9.tell (t := 3) (fi := (fun _ => 0)) (ff := (fun j9 => if j9 = 0 then (a 8) else if j9 = 1 then (a 9) else (a 10))) (fo := (fun _ => none)) (fl := (fun _ => 0)) z9_9 (hA _ (hD.2 2 _ rfl)) (va_one (hP 2 _ rfl)) (TE.m3 ⟨rfl, (nw_k s8_9 (by decide) z9_9), (nw_k s9_9 (by decide) z9_9), (nw_k s10_9 (by decide) z9_9)⟩)
  have hGz := nw_G2 (t := 3) (fi := (fun _ => 0)) (ff := (fun j9 => if j9 = 0 then (a 8) else if j9 = 1 then (a 9) else (a 10))) (fo := (fun _ => none)) (fl := (fun _ => 0)) hG9 hM9 z9_9 (fun h9 => absurd h9 (by decide)) (by decide) (fun h9 => absurd h9 (by decide))
  have hxz : Ext (b 0) X0 g9 (nw g9 (a 2) 3 (fun _ => 0) (fun j9 => if j9 = 0 then (a 8) else if j9 = 1 then (a 9) else (a 10)) (fun _ => none) (fun _ => 0)) := Ext.nw z9_9
  have hIz := hI9.nw (q := (a 2)) (t := 3) (fi := (fun _ => 0)) (ff := (fun j9 => if j9 = 0 then (a 8) else if j9 = 1 then (a 9) else (a 10))) (fo := (fun _ => none)) (fl := (fun _ => 0)) (by decide)
  obtain ⟨g10, hg10⟩ : ∃ z, z = nw g9 (a 2) 3 (fun _ => 0) (fun j9 => if j9 = 0 then (a 8) else if j9 = 1 then (a 9) else (a 10)) (fun _ => none) (fun _ => 0) := ⟨_, rfl⟩
  rw [← hg10] at hMz hGz hxz
  have hM10 := hMz
  have hG10 := hGz
  have hx10 := hxz
  rw [← hg10] at hIz
  have hI10 := hIz
  have s4_10 : tg g10 (a 4) = 5 := hx10.tk s4_9 (by decide)
  have s5_10 : tg g10 (a 5) = 6 := hx10.tk s5_9 (by decide)
  have s6_10 : tg g10 (a 6) = 7 := hx10.tk s6_9 (by decide)
  have s7_10 : tg g10 (a 7) = 8 := hx10.tk s7_9 (by decide)
  have s8_10 : tg g10 (a 8) = 9 := hx10.tk s8_9 (by decide)
  have s9_10 : tg g10 (a 9) = 9 := hx10.tk s9_9 (by decide)
  have s10_10 : tg g10 (a 10) = 9 := hx10.tk s10_9 (by decide)
  have s3_10 : tg g10 (a 3) = 4 := hx10.tk s3_9 (by decide)
  have s1_10 : tg g10 (a 1) = 2 := hx10.tk s1_9 (by decide)
  have s2_10 : tg g10 (a 2) = 3 := by rw [hg10]; exact nw_t
  have p22_10 : ∀ x, x ∈ Ld → tg g10 x = 22 := fun x hx => hx10.tk (p22_9 x hx) (by decide)
  have v2i : pI g10 (a 2) = (fun _ => 0) := by rw [hg10]; exact nw_I
  have v2f : pF g10 (a 2) = (fun j9 => if j9 = 0 then (a 8) else if j9 = 1 then (a 9) else (a 10)) := by rw [hg10]; exact nw_F
  have v2o : pO g10 (a 2) = (fun _ => none) := by rw [hg10]; exact nw_O
  have z10_10 : tg g10 (a 0) = 0 := by rw [hg10]; exact nw_0 (fun e9 => absurd (hD.1 0 2 _ _ rfl rfl e9) (by decide)) z9_10
  have z10_11 : tg g10 (b 2) = 0 := by rw [hg10]; exact nw_0 (fun e9 => absurd (hD.1 13 2 _ _ rfl rfl e9) (by decide)) z9_11
  have z10_12 : tg g10 (b 3) = 0 := by rw [hg10]; exact nw_0 (fun e9 => absurd (hD.1 14 2 _ _ rfl rfl e9) (by decide)) z9_12
  have z10_13 : tg g10 (b 4) = 0 := by rw [hg10]; exact nw_0 (fun e9 => absurd (hD.1 15 2 _ _ rfl rfl e9) (by decide)) z9_13
  have z10_14 : tg g10 (b 5) = 0 := by rw [hg10]; exact nw_0 (fun e9 => absurd (hD.1 16 2 _ _ rfl rfl e9) (by decide)) z9_14
  have z10_15 : tg g10 (b 1) = 0 := by rw [hg10]; exact nw_0 (fun e9 => absurd (hD.1 12 2 _ _ rfl rfl e9) (by decide)) z9_15
  have z10_16 : tg g10 (b 6) = 0 := by rw [hg10]; exact nw_0 (fun e9 => absurd (hD.1 17 2 _ _ rfl rfl e9) (by decide)) z9_16
  have z10_17 : tg g10 (b 0) = 0 := by rw [hg10]; exact nw_0 (fun e9 => absurd (hD.1 11 2 _ _ rfl rfl e9) (by decide)) z9_17
  have z10_18 : tg g10 q7 = 0 := by rw [hg10]; exact nw_0 (fun e9 => absurd (hD.1 18 2 _ _ rfl rfl e9) (by decide)) z9_18
  have z10_19 : tg g10 q9 = 0 := by rw [hg10]; exact nw_0 (fun e9 => absurd (hD.1 19 2 _ _ rfl rfl e9) (by decide)) z9_19
  have hMz := hM10.tell (t := 1) (fi := (fun _ => 0)) (ff := (fun j9 => if j9 = 0 then (a 1) else if j9 = 1 then (a 2) else (a 3))) (fo := (fun _ => none)) (fl := (fun _ => 0)) z10_10 (hA _ (hD.2 0 _ rfl)) (va_one (hP 0 _ rfl)) (TE.m1 ⟨0, 0, 0, 0, rfl, (nw_k s1_10 (by decide) z10_10), (nw_k s2_10 (by decide) z10_10), (nw_k s3_10 (by decide) z10_10), ⟨by decide, by decide⟩, ⟨by decide, by decide⟩, Or.inl rfl⟩)
  have hGz := nw_G2 (t := 1) (fi := (fun _ => 0)) (ff := (fun j9 => if j9 = 0 then (a 1) else if j9 = 1 then (a 2) else (a 3))) (fo := (fun _ => none)) (fl := (fun _ => 0)) hG10 hM10 z10_10 (fun _ => rfl) (by decide) (fun h9 => absurd h9 (by decide))
  have hxz : Ext (b 0) X0 g10 (nw g10 (a 0) 1 (fun _ => 0) (fun j9 => if j9 = 0 then (a 1) else if j9 = 1 then (a 2) else (a 3)) (fun _ => none) (fun _ => 0)) := Ext.nw z10_10
  have hIz := hI10.nw (q := (a 0)) (t := 1) (fi := (fun _ => 0)) (ff := (fun j9 => if j9 = 0 then (a 1) else if j9 = 1 then (a 2) else (a 3))) (fo := (fun _ => none)) (fl := (fun _ => 0)) (by decide)
  obtain ⟨g11, hg11⟩ : ∃ z, z = nw g10 (a 0) 1 (fun _ => 0) (fun j9 => if j9 = 0 then (a 1) else if j9 = 1 then (a 2) else (a 3)) (fun _ => none) (fun _ => 0) := ⟨_, rfl⟩
  rw [← hg11] at hMz hGz hxz
  have hM11 := hMz
  have hG11 := hGz
  have hx11 := hxz
  rw [← hg11] at hIz
  have hI11 := hIz
  have s4_11 : tg g11 (a 4) = 5 := hx11.tk s4_10 (by decide)
  have s5_11 : tg g11 (a 5) = 6 := hx11.tk s5_10 (by decide)
  have s6_11 : tg g11 (a 6) = 7 := hx11.tk s6_10 (by decide)
  have s7_11 : tg g11 (a 7) = 8 := hx11.tk s7_10 (by decide)
  have s8_11 : tg g11 (a 8) = 9 := hx11.tk s8_10 (by decide)
  have s9_11 : tg g11 (a 9) = 9 := hx11.tk s9_10 (by decide)
  have s10_11 : tg g11 (a 10) = 9 := hx11.tk s10_10 (by decide)
  have s3_11 : tg g11 (a 3) = 4 := hx11.tk s3_10 (by decide)
  have s1_11 : tg g11 (a 1) = 2 := hx11.tk s1_10 (by decide)
  have s2_11 : tg g11 (a 2) = 3 := hx11.tk s2_10 (by decide)
  have s0_11 : tg g11 (a 0) = 1 := by rw [hg11]; exact nw_t
  have p22_11 : ∀ x, x ∈ Ld → tg g11 x = 22 := fun x hx => hx11.tk (p22_10 x hx) (by decide)
  have v0i : pI g11 (a 0) = (fun _ => 0) := by rw [hg11]; exact nw_I
  have v0f : pF g11 (a 0) = (fun j9 => if j9 = 0 then (a 1) else if j9 = 1 then (a 2) else (a 3)) := by rw [hg11]; exact nw_F
  have v0o : pO g11 (a 0) = (fun _ => none) := by rw [hg11]; exact nw_O
  have z11_11 : tg g11 (b 2) = 0 := by rw [hg11]; exact nw_0 (fun e9 => absurd (hD.1 13 0 _ _ rfl rfl e9) (by decide)) z10_11
  have z11_12 : tg g11 (b 3) = 0 := by rw [hg11]; exact nw_0 (fun e9 => absurd (hD.1 14 0 _ _ rfl rfl e9) (by decide)) z10_12
  have z11_13 : tg g11 (b 4) = 0 := by rw [hg11]; exact nw_0 (fun e9 => absurd (hD.1 15 0 _ _ rfl rfl e9) (by decide)) z10_13
  have z11_14 : tg g11 (b 5) = 0 := by rw [hg11]; exact nw_0 (fun e9 => absurd (hD.1 16 0 _ _ rfl rfl e9) (by decide)) z10_14
  have z11_15 : tg g11 (b 1) = 0 := by rw [hg11]; exact nw_0 (fun e9 => absurd (hD.1 12 0 _ _ rfl rfl e9) (by decide)) z10_15
  have z11_16 : tg g11 (b 6) = 0 := by rw [hg11]; exact nw_0 (fun e9 => absurd (hD.1 17 0 _ _ rfl rfl e9) (by decide)) z10_16
  have z11_17 : tg g11 (b 0) = 0 := by rw [hg11]; exact nw_0 (fun e9 => absurd (hD.1 11 0 _ _ rfl rfl e9) (by decide)) z10_17
  have z11_18 : tg g11 q7 = 0 := by rw [hg11]; exact nw_0 (fun e9 => absurd (hD.1 18 0 _ _ rfl rfl e9) (by decide)) z10_18
  have z11_19 : tg g11 q9 = 0 := by rw [hg11]; exact nw_0 (fun e9 => absurd (hD.1 19 0 _ _ rfl rfl e9) (by decide)) z10_19
  have hMz := hM11.tell (t := 19) (fi := (fun _ => 0)) (ff := (fun _ => 0)) (fo := (fun _ => none)) (fl := (fun _ => 0)) z11_11 (hA _ (hD.2 13 _ rfl)) (va_one (hP 13 _ rfl)) (TE.m19 ⟨(fun _ => 0), rfl, fun j hj => ⟨(show (0 : Int) ≤ (0 : Int32).toInt by decide), (show (0 : Int32).toInt ≤ 2000 by decide)⟩⟩)
  have hGz := nw_G2 (t := 19) (fi := (fun _ => 0)) (ff := (fun _ => 0)) (fo := (fun _ => none)) (fl := (fun _ => 0)) hG11 hM11 z11_11 (fun h9 => absurd h9 (by decide)) (by decide) (fun h9 => absurd h9 (by decide))
  have hxz : Ext (b 0) X0 g11 (nw g11 (b 2) 19 (fun _ => 0) (fun _ => 0) (fun _ => none) (fun _ => 0)) := Ext.nw z11_11
  have hIz := hI11.nw (q := (b 2)) (t := 19) (fi := (fun _ => 0)) (ff := (fun _ => 0)) (fo := (fun _ => none)) (fl := (fun _ => 0)) (by decide)
  obtain ⟨g12, hg12⟩ : ∃ z, z = nw g11 (b 2) 19 (fun _ => 0) (fun _ => 0) (fun _ => none) (fun _ => 0) := ⟨_, rfl⟩
  rw [← hg12] at hMz hGz hxz
  have hM12 := hMz
  have hG12 := hGz
  have hx12 := hxz
  rw [← hg12] at hIz
  have hI12 := hIz
  have s4_12 : tg g12 (a 4) = 5 := hx12.tk s4_11 (by decide)
  have s5_12 : tg g12 (a 5) = 6 := hx12.tk s5_11 (by decide)
  have s6_12 : tg g12 (a 6) = 7 := hx12.tk s6_11 (by decide)
  have s7_12 : tg g12 (a 7) = 8 := hx12.tk s7_11 (by decide)
  have s8_12 : tg g12 (a 8) = 9 := hx12.tk s8_11 (by decide)
  have s9_12 : tg g12 (a 9) = 9 := hx12.tk s9_11 (by decide)
  have s10_12 : tg g12 (a 10) = 9 := hx12.tk s10_11 (by decide)
  have s3_12 : tg g12 (a 3) = 4 := hx12.tk s3_11 (by decide)
  have s1_12 : tg g12 (a 1) = 2 := hx12.tk s1_11 (by decide)
  have s2_12 : tg g12 (a 2) = 3 := hx12.tk s2_11 (by decide)
  have s0_12 : tg g12 (a 0) = 1 := hx12.tk s0_11 (by decide)
  have s13_12 : tg g12 (b 2) = 19 := by rw [hg12]; exact nw_t
  have p22_12 : ∀ x, x ∈ Ld → tg g12 x = 22 := fun x hx => hx12.tk (p22_11 x hx) (by decide)
  have v13i : pI g12 (b 2) = (fun _ => 0) := by rw [hg12]; exact nw_I
  have v13f : pF g12 (b 2) = (fun _ => 0) := by rw [hg12]; exact nw_F
  have v13o : pO g12 (b 2) = (fun _ => none) := by rw [hg12]; exact nw_O
  have z12_12 : tg g12 (b 3) = 0 := by rw [hg12]; exact nw_0 (fun e9 => absurd (hD.1 14 13 _ _ rfl rfl e9) (by decide)) z11_12
  have z12_13 : tg g12 (b 4) = 0 := by rw [hg12]; exact nw_0 (fun e9 => absurd (hD.1 15 13 _ _ rfl rfl e9) (by decide)) z11_13
  have z12_14 : tg g12 (b 5) = 0 := by rw [hg12]; exact nw_0 (fun e9 => absurd (hD.1 16 13 _ _ rfl rfl e9) (by decide)) z11_14
  have z12_15 : tg g12 (b 1) = 0 := by rw [hg12]; exact nw_0 (fun e9 => absurd (hD.1 12 13 _ _ rfl rfl e9) (by decide)) z11_15
  have z12_16 : tg g12 (b 6) = 0 := by rw [hg12]; exact nw_0 (fun e9 => absurd (hD.1 17 13 _ _ rfl rfl e9) (by decide)) z11_16
  have z12_17 : tg g12 (b 0) = 0 := by rw [hg12]; exact nw_0 (fun e9 => absurd (hD.1 11 13 _ _ rfl rfl e9) (by decide)) z11_17
  have z12_18 : tg g12 q7 = 0 := by rw [hg12]; exact nw_0 (fun e9 => absurd (hD.1 18 13 _ _ rfl rfl e9) (by decide)) z11_18
  have z12_19 : tg g12 q9 = 0 := by rw [hg12]; exact nw_0 (fun e9 => absurd (hD.1 19 13 _ _ rfl rfl e9) (by decide)) z11_19
  have hMz := hM12.tell (t := 24) (fi := (fun _ => 0)) (ff := (fun _ => 0)) (fo := (fun _ => none)) (fl := (fun _ => 0)) z12_12 (hA _ (hD.2 14 _ rfl)) (va_one (hP 14 _ rfl)) (TE.m24 ⟨(fun _ => 0), rfl, trivial⟩)
  have hGz := nw_G2 (t := 24) (fi := (fun _ => 0)) (ff := (fun _ => 0)) (fo := (fun _ => none)) (fl := (fun _ => 0)) hG12 hM12 z12_12 (fun h9 => absurd h9 (by decide)) (by decide) (fun h9 => absurd h9 (by decide))
  have hxz : Ext (b 0) X0 g12 (nw g12 (b 3) 24 (fun _ => 0) (fun _ => 0) (fun _ => none) (fun _ => 0)) := Ext.nw z12_12
  have hIz := hI12.nw (q := (b 3)) (t := 24) (fi := (fun _ => 0)) (ff := (fun _ => 0)) (fo := (fun _ => none)) (fl := (fun _ => 0)) (by decide)
  obtain ⟨g13, hg13⟩ : ∃ z, z = nw g12 (b 3) 24 (fun _ => 0) (fun _ => 0) (fun _ => none) (fun _ => 0) := ⟨_, rfl⟩
  rw [← hg13] at hMz hGz hxz
  have hM13 := hMz
  have hG13 := hGz
  have hx13 := hxz
  rw [← hg13] at hIz
  have hI13 := hIz
  have s4_13 : tg g13 (a 4) = 5 := hx13.tk s4_12 (by decide)
  have s5_13 : tg g13 (a 5) = 6 := hx13.tk s5_12 (by decide)
  have s6_13 : tg g13 (a 6) = 7 := hx13.tk s6_12 (by decide)
  have s7_13 : tg g13 (a 7) = 8 := hx13.tk s7_12 (by decide)
  have s8_13 : tg g13 (a 8) = 9 := hx13.tk s8_12 (by decide)
  have s9_13 : tg g13 (a 9) = 9 := hx13.tk s9_12 (by decide)
  have s10_13 : tg g13 (a 10) = 9 := hx13.tk s10_12 (by decide)
  have s3_13 : tg g13 (a 3) = 4 := hx13.tk s3_12 (by decide)
  have s1_13 : tg g13 (a 1) = 2 := hx13.tk s1_12 (by decide)
  have s2_13 : tg g13 (a 2) = 3 := hx13.tk s2_12 (by decide)
  have s0_13 : tg g13 (a 0) = 1 := hx13.tk s0_12 (by decide)
  have s13_13 : tg g13 (b 2) = 19 := hx13.tk s13_12 (by decide)
  have s14_13 : tg g13 (b 3) = 24 := by rw [hg13]; exact nw_t
  have p22_13 : ∀ x, x ∈ Ld → tg g13 x = 22 := fun x hx => hx13.tk (p22_12 x hx) (by decide)
  have v14i : pI g13 (b 3) = (fun _ => 0) := by rw [hg13]; exact nw_I
  have v14f : pF g13 (b 3) = (fun _ => 0) := by rw [hg13]; exact nw_F
  have v14o : pO g13 (b 3) = (fun _ => none) := by rw [hg13]; exact nw_O
  have z13_13 : tg g13 (b 4) = 0 := by rw [hg13]; exact nw_0 (fun e9 => absurd (hD.1 15 14 _ _ rfl rfl e9) (by decide)) z12_13
  have z13_14 : tg g13 (b 5) = 0 := by rw [hg13]; exact nw_0 (fun e9 => absurd (hD.1 16 14 _ _ rfl rfl e9) (by decide)) z12_14
  have z13_15 : tg g13 (b 1) = 0 := by rw [hg13]; exact nw_0 (fun e9 => absurd (hD.1 12 14 _ _ rfl rfl e9) (by decide)) z12_15
  have z13_16 : tg g13 (b 6) = 0 := by rw [hg13]; exact nw_0 (fun e9 => absurd (hD.1 17 14 _ _ rfl rfl e9) (by decide)) z12_16
  have z13_17 : tg g13 (b 0) = 0 := by rw [hg13]; exact nw_0 (fun e9 => absurd (hD.1 11 14 _ _ rfl rfl e9) (by decide)) z12_17
  have z13_18 : tg g13 q7 = 0 := by rw [hg13]; exact nw_0 (fun e9 => absurd (hD.1 18 14 _ _ rfl rfl e9) (by decide)) z12_18
  have z13_19 : tg g13 q9 = 0 := by rw [hg13]; exact nw_0 (fun e9 => absurd (hD.1 19 14 _ _ rfl rfl e9) (by decide)) z12_19
  have hMz := hM13.tell (t := 24) (fi := (fun _ => 0)) (ff := (fun _ => 0)) (fo := (fun _ => none)) (fl := (fun _ => 0)) z13_13 (hA _ (hD.2 15 _ rfl)) (va_one (hP 15 _ rfl)) (TE.m24 ⟨dl, rfl, trivial⟩)
  have hGz := nw_G2 (t := 24) (fi := (fun _ => 0)) (ff := (fun _ => 0)) (fo := (fun _ => none)) (fl := (fun _ => 0)) hG13 hM13 z13_13 (fun h9 => absurd h9 (by decide)) (by decide) (fun h9 => absurd h9 (by decide))
  have hxz : Ext (b 0) X0 g13 (nw g13 (b 4) 24 (fun _ => 0) (fun _ => 0) (fun _ => none) (fun _ => 0)) := Ext.nw z13_13
  have hIz := hI13.nw (q := (b 4)) (t := 24) (fi := (fun _ => 0)) (ff := (fun _ => 0)) (fo := (fun _ => none)) (fl := (fun _ => 0)) (by decide)
  obtain ⟨g14, hg14⟩ : ∃ z, z = nw g13 (b 4) 24 (fun _ => 0) (fun _ => 0) (fun _ => none) (fun _ => 0) := ⟨_, rfl⟩
  rw [← hg14] at hMz hGz hxz
  have hM14 := hMz
  have hG14 := hGz
  have hx14 := hxz
  rw [← hg14] at hIz
  have hI14 := hIz
  have s4_14 : tg g14 (a 4) = 5 := hx14.tk s4_13 (by decide)
  have s5_14 : tg g14 (a 5) = 6 := hx14.tk s5_13 (by decide)
  have s6_14 : tg g14 (a 6) = 7 := hx14.tk s6_13 (by decide)
  have s7_14 : tg g14 (a 7) = 8 := hx14.tk s7_13 (by decide)
  have s8_14 : tg g14 (a 8) = 9 := hx14.tk s8_13 (by decide)
  have s9_14 : tg g14 (a 9) = 9 := hx14.tk s9_13 (by decide)
  have s10_14 : tg g14 (a 10) = 9 := hx14.tk s10_13 (by decide)
  have s3_14 : tg g14 (a 3) = 4 := hx14.tk s3_13 (by decide)
  have s1_14 : tg g14 (a 1) = 2 := hx14.tk s1_13 (by decide)
  have s2_14 : tg g14 (a 2) = 3 := hx14.tk s2_13 (by decide)
  have s0_14 : tg g14 (a 0) = 1 := hx14.tk s0_13 (by decide)
  have s13_14 : tg g14 (b 2) = 19 := hx14.tk s13_13 (by decide)
  have s14_14 : tg g14 (b 3) = 24 := hx14.tk s14_13 (by decide)
  have s15_14 : tg g14 (b 4) = 24 := by rw [hg14]; exact nw_t
  have p22_14 : ∀ x, x ∈ Ld → tg g14 x = 22 := fun x hx => hx14.tk (p22_13 x hx) (by decide)
  have v15i : pI g14 (b 4) = (fun _ => 0) := by rw [hg14]; exact nw_I
  have v15f : pF g14 (b 4) = (fun _ => 0) := by rw [hg14]; exact nw_F
  have v15o : pO g14 (b 4) = (fun _ => none) := by rw [hg14]; exact nw_O
  have z14_14 : tg g14 (b 5) = 0 := by rw [hg14]; exact nw_0 (fun e9 => absurd (hD.1 16 15 _ _ rfl rfl e9) (by decide)) z13_14
  have z14_15 : tg g14 (b 1) = 0 := by rw [hg14]; exact nw_0 (fun e9 => absurd (hD.1 12 15 _ _ rfl rfl e9) (by decide)) z13_15
  have z14_16 : tg g14 (b 6) = 0 := by rw [hg14]; exact nw_0 (fun e9 => absurd (hD.1 17 15 _ _ rfl rfl e9) (by decide)) z13_16
  have z14_17 : tg g14 (b 0) = 0 := by rw [hg14]; exact nw_0 (fun e9 => absurd (hD.1 11 15 _ _ rfl rfl e9) (by decide)) z13_17
  have z14_18 : tg g14 q7 = 0 := by rw [hg14]; exact nw_0 (fun e9 => absurd (hD.1 18 15 _ _ rfl rfl e9) (by decide)) z13_18
  have z14_19 : tg g14 q9 = 0 := by rw [hg14]; exact nw_0 (fun e9 => absurd (hD.1 19 15 _ _ rfl rfl e9) (by decide)) z13_19
  have hMz := hM14.tell (t := 25) (fi := (fun _ => 0)) (ff := (fun _ => 0)) (fo := (fun _ => none)) (fl := (fun _ => 0)) z14_14 (hA _ (hD.2 16 _ rfl)) (va_one (hP 16 _ rfl)) (TE.m25 ⟨(fun _ => 0), rfl, trivial⟩)
  have hGz := nw_G2 (t := 25) (fi := (fun _ => 0)) (ff := (fun _ => 0)) (fo := (fun _ => none)) (fl := (fun _ => 0)) hG14 hM14 z14_14 (fun h9 => absurd h9 (by decide)) (by decide) (fun h9 => absurd h9 (by decide))
  have hxz : Ext (b 0) X0 g14 (nw g14 (b 5) 25 (fun _ => 0) (fun _ => 0) (fun _ => none) (fun _ => 0)) := Ext.nw z14_14
  have hIz := hI14.nw (q := (b 5)) (t := 25) (fi := (fun _ => 0)) (ff := (fun _ => 0)) (fo := (fun _ => none)) (fl := (fun _ => 0)) (by decide)
  obtain ⟨g15, hg15⟩ : ∃ z, z = nw g14 (b 5) 25 (fun _ => 0) (fun _ => 0) (fun _ => none) (fun _ => 0) := ⟨_, rfl⟩
  rw [← hg15] at hMz hGz hxz
  have hM15 := hMz
  have hG15 := hGz
  have hx15 := hxz
  rw [← hg15] at hIz
  have hI15 := hIz
  have s4_15 : tg g15 (a 4) = 5 := hx15.tk s4_14 (by decide)
  have s5_15 : tg g15 (a 5) = 6 := hx15.tk s5_14 (by decide)
  have s6_15 : tg g15 (a 6) = 7 := hx15.tk s6_14 (by decide)
  have s7_15 : tg g15 (a 7) = 8 := hx15.tk s7_14 (by decide)
  have s8_15 : tg g15 (a 8) = 9 := hx15.tk s8_14 (by decide)
  have s9_15 : tg g15 (a 9) = 9 := hx15.tk s9_14 (by decide)
  have s10_15 : tg g15 (a 10) = 9 := hx15.tk s10_14 (by decide)
  have s3_15 : tg g15 (a 3) = 4 := hx15.tk s3_14 (by decide)
  have s1_15 : tg g15 (a 1) = 2 := hx15.tk s1_14 (by decide)
  have s2_15 : tg g15 (a 2) = 3 := hx15.tk s2_14 (by decide)
  have s0_15 : tg g15 (a 0) = 1 := hx15.tk s0_14 (by decide)
  have s13_15 : tg g15 (b 2) = 19 := hx15.tk s13_14 (by decide)
  have s14_15 : tg g15 (b 3) = 24 := hx15.tk s14_14 (by decide)
  have s15_15 : tg g15 (b 4) = 24 := hx15.tk s15_14 (by decide)
  have s16_15 : tg g15 (b 5) = 25 := by rw [hg15]; exact nw_t
  have p22_15 : ∀ x, x ∈ Ld → tg g15 x = 22 := fun x hx => hx15.tk (p22_14 x hx) (by decide)
  have v16i : pI g15 (b 5) = (fun _ => 0) := by rw [hg15]; exact nw_I
  have v16f : pF g15 (b 5) = (fun _ => 0) := by rw [hg15]; exact nw_F
  have v16o : pO g15 (b 5) = (fun _ => none) := by rw [hg15]; exact nw_O
  have z15_15 : tg g15 (b 1) = 0 := by rw [hg15]; exact nw_0 (fun e9 => absurd (hD.1 12 16 _ _ rfl rfl e9) (by decide)) z14_15
  have z15_16 : tg g15 (b 6) = 0 := by rw [hg15]; exact nw_0 (fun e9 => absurd (hD.1 17 16 _ _ rfl rfl e9) (by decide)) z14_16
  have z15_17 : tg g15 (b 0) = 0 := by rw [hg15]; exact nw_0 (fun e9 => absurd (hD.1 11 16 _ _ rfl rfl e9) (by decide)) z14_17
  have z15_18 : tg g15 q7 = 0 := by rw [hg15]; exact nw_0 (fun e9 => absurd (hD.1 18 16 _ _ rfl rfl e9) (by decide)) z14_18
  have z15_19 : tg g15 q9 = 0 := by rw [hg15]; exact nw_0 (fun e9 => absurd (hD.1 19 16 _ _ rfl rfl e9) (by decide)) z14_19
  have hMz := hM15.tell (t := 18) (fi := (fun _ => 0)) (ff := (fun _ => 0)) (fo := dg) (fl := (fun _ => 0)) z15_15 (hA _ (hD.2 12 _ rfl)) (va_one (hP 12 _ rfl)) (TE.m18 ⟨rfl, fun j hj => by obtain ⟨y, hy, hm⟩ := hDG j hj; rw [hy]; exact ⟨rfl, nw_k (p22_15 y hm) (by decide) z15_15⟩⟩)
  have hGz := nw_G2 (t := 18) (fi := (fun _ => 0)) (ff := (fun _ => 0)) (fo := dg) (fl := (fun _ => 0)) hG15 hM15 z15_15 (fun h9 => absurd h9 (by decide)) (by decide) (fun h9 => absurd h9 (by decide))
  have hxz : Ext (b 0) X0 g15 (nw g15 (b 1) 18 (fun _ => 0) (fun _ => 0) dg (fun _ => 0)) := Ext.nw z15_15
  have hIz := hI15.nw (q := (b 1)) (t := 18) (fi := (fun _ => 0)) (ff := (fun _ => 0)) (fo := dg) (fl := (fun _ => 0)) (by decide)
  obtain ⟨g16, hg16⟩ : ∃ z, z = nw g15 (b 1) 18 (fun _ => 0) (fun _ => 0) dg (fun _ => 0) := ⟨_, rfl⟩
  rw [← hg16] at hMz hGz hxz
  have hM16 := hMz
  have hG16 := hGz
  have hx16 := hxz
  rw [← hg16] at hIz
  have hI16 := hIz
  have s4_16 : tg g16 (a 4) = 5 := hx16.tk s4_15 (by decide)
  have s5_16 : tg g16 (a 5) = 6 := hx16.tk s5_15 (by decide)
  have s6_16 : tg g16 (a 6) = 7 := hx16.tk s6_15 (by decide)
  have s7_16 : tg g16 (a 7) = 8 := hx16.tk s7_15 (by decide)
  have s8_16 : tg g16 (a 8) = 9 := hx16.tk s8_15 (by decide)
  have s9_16 : tg g16 (a 9) = 9 := hx16.tk s9_15 (by decide)
  have s10_16 : tg g16 (a 10) = 9 := hx16.tk s10_15 (by decide)
  have s3_16 : tg g16 (a 3) = 4 := hx16.tk s3_15 (by decide)
  have s1_16 : tg g16 (a 1) = 2 := hx16.tk s1_15 (by decide)
  have s2_16 : tg g16 (a 2) = 3 := hx16.tk s2_15 (by decide)
  have s0_16 : tg g16 (a 0) = 1 := hx16.tk s0_15 (by decide)
  have s13_16 : tg g16 (b 2) = 19 := hx16.tk s13_15 (by decide)
  have s14_16 : tg g16 (b 3) = 24 := hx16.tk s14_15 (by decide)
  have s15_16 : tg g16 (b 4) = 24 := hx16.tk s15_15 (by decide)
  have s16_16 : tg g16 (b 5) = 25 := hx16.tk s16_15 (by decide)
  have s12_16 : tg g16 (b 1) = 18 := by rw [hg16]; exact nw_t
  have p22_16 : ∀ x, x ∈ Ld → tg g16 x = 22 := fun x hx => hx16.tk (p22_15 x hx) (by decide)
  have v12i : pI g16 (b 1) = (fun _ => 0) := by rw [hg16]; exact nw_I
  have v12f : pF g16 (b 1) = (fun _ => 0) := by rw [hg16]; exact nw_F
  have v12o : pO g16 (b 1) = dg := by rw [hg16]; exact nw_O
  have z16_16 : tg g16 (b 6) = 0 := by rw [hg16]; exact nw_0 (fun e9 => absurd (hD.1 17 12 _ _ rfl rfl e9) (by decide)) z15_16
  have z16_17 : tg g16 (b 0) = 0 := by rw [hg16]; exact nw_0 (fun e9 => absurd (hD.1 11 12 _ _ rfl rfl e9) (by decide)) z15_17
  have z16_18 : tg g16 q7 = 0 := by rw [hg16]; exact nw_0 (fun e9 => absurd (hD.1 18 12 _ _ rfl rfl e9) (by decide)) z15_18
  have z16_19 : tg g16 q9 = 0 := by rw [hg16]; exact nw_0 (fun e9 => absurd (hD.1 19 12 _ _ rfl rfl e9) (by decide)) z15_19
  have hMz := hM16.tell (t := 26) (fi := (fun _ => 0)) (ff := (fun _ => eD)) (fo := (fun _ => none)) (fl := (fun _ => 0)) z16_16 (hA _ (hD.2 17 _ rfl)) (va_one (hP 17 _ rfl)) (TE.m26 ⟨rfl, ⟨by decide, by decide⟩, fun h9 => absurd (by decide) h9, fun _ => Or.inl rfl⟩)
  have hGz := nw_G2 (t := 26) (fi := (fun _ => 0)) (ff := (fun _ => eD)) (fo := (fun _ => none)) (fl := (fun _ => 0)) hG16 hM16 z16_16 (fun _ => rfl) (by decide) (fun h9 => absurd h9 (by decide))
  have hxz : Ext (b 0) X0 g16 (nw g16 (b 6) 26 (fun _ => 0) (fun _ => eD) (fun _ => none) (fun _ => 0)) := Ext.nw z16_16
  have hIz := hI16.nw (q := (b 6)) (t := 26) (fi := (fun _ => 0)) (ff := (fun _ => eD)) (fo := (fun _ => none)) (fl := (fun _ => 0)) (by decide)
  obtain ⟨g17, hg17⟩ : ∃ z, z = nw g16 (b 6) 26 (fun _ => 0) (fun _ => eD) (fun _ => none) (fun _ => 0) := ⟨_, rfl⟩
  rw [← hg17] at hMz hGz hxz
  have hM17 := hMz
  have hG17 := hGz
  have hx17 := hxz
  rw [← hg17] at hIz
  have hI17 := hIz
  have s4_17 : tg g17 (a 4) = 5 := hx17.tk s4_16 (by decide)
  have s5_17 : tg g17 (a 5) = 6 := hx17.tk s5_16 (by decide)
  have s6_17 : tg g17 (a 6) = 7 := hx17.tk s6_16 (by decide)
  have s7_17 : tg g17 (a 7) = 8 := hx17.tk s7_16 (by decide)
  have s8_17 : tg g17 (a 8) = 9 := hx17.tk s8_16 (by decide)
  have s9_17 : tg g17 (a 9) = 9 := hx17.tk s9_16 (by decide)
  have s10_17 : tg g17 (a 10) = 9 := hx17.tk s10_16 (by decide)
  have s3_17 : tg g17 (a 3) = 4 := hx17.tk s3_16 (by decide)
  have s1_17 : tg g17 (a 1) = 2 := hx17.tk s1_16 (by decide)
  have s2_17 : tg g17 (a 2) = 3 := hx17.tk s2_16 (by decide)
  have s0_17 : tg g17 (a 0) = 1 := hx17.tk s0_16 (by decide)
  have s13_17 : tg g17 (b 2) = 19 := hx17.tk s13_16 (by decide)
  have s14_17 : tg g17 (b 3) = 24 := hx17.tk s14_16 (by decide)
  have s15_17 : tg g17 (b 4) = 24 := hx17.tk s15_16 (by decide)
  have s16_17 : tg g17 (b 5) = 25 := hx17.tk s16_16 (by decide)
  have s12_17 : tg g17 (b 1) = 18 := hx17.tk s12_16 (by decide)
  have s17_17 : tg g17 (b 6) = 26 := by rw [hg17]; exact nw_t
  have p22_17 : ∀ x, x ∈ Ld → tg g17 x = 22 := fun x hx => hx17.tk (p22_16 x hx) (by decide)
  have v17i : pI g17 (b 6) = (fun _ => 0) := by rw [hg17]; exact nw_I
  have v17f : pF g17 (b 6) = (fun _ => eD) := by rw [hg17]; exact nw_F
  have v17o : pO g17 (b 6) = (fun _ => none) := by rw [hg17]; exact nw_O
  have z17_17 : tg g17 (b 0) = 0 := by rw [hg17]; exact nw_0 (fun e9 => absurd (hD.1 11 17 _ _ rfl rfl e9) (by decide)) z16_17
  have z17_18 : tg g17 q7 = 0 := by rw [hg17]; exact nw_0 (fun e9 => absurd (hD.1 18 17 _ _ rfl rfl e9) (by decide)) z16_18
  have z17_19 : tg g17 q9 = 0 := by rw [hg17]; exact nw_0 (fun e9 => absurd (hD.1 19 17 _ _ rfl rfl e9) (by decide)) z16_19
  have hMz := hM17.tell (t := 17) (fi := (fun _ => 0)) (ff := (fun j9 => if j9 = 0 then (b 1) else if j9 = 1 then (b 2) else if j9 = 2 then (b 3) else if j9 = 3 then (b 4) else if j9 = 4 then (b 5) else (b 6))) (fo := (fun _ => none)) (fl := (fun _ => 0)) z17_17 (hA _ (hD.2 11 _ rfl)) (va_one (hP 11 _ rfl)) (TE.m17 ⟨0, 0, rfl, (nw_k s12_17 (by decide) z17_17), (nw_k s13_17 (by decide) z17_17), (nw_k s14_17 (by decide) z17_17), (nw_k s15_17 (by decide) z17_17), (nw_k s16_17 (by decide) z17_17), (nw_k s17_17 (by decide) z17_17), ⟨by decide, by decide⟩, Or.inl rfl⟩)
  have hGz := nw_G2 (t := 17) (fi := (fun _ => 0)) (ff := (fun j9 => if j9 = 0 then (b 1) else if j9 = 1 then (b 2) else if j9 = 2 then (b 3) else if j9 = 3 then (b 4) else if j9 = 4 then (b 5) else (b 6))) (fo := (fun _ => none)) (fl := (fun _ => 0)) hG17 hM17 z17_17 (fun h9 => absurd h9 (by decide)) (by decide) (fun _ => ⟨fun p z => by have h9 := hI17 p; rw [z] at h9; exact absurd h9 (by decide), fun p z => by have h9 : tg g17 p ∈ [0, 1, 2, 3, 4, 5, 6, 7, 8, 9, 18, 19, 22, 24, 25, 26, 34, 35] := hI17 p; generalize tg g17 p = t9 at h9 z; simp only [List.mem_cons, List.not_mem_nil, or_false] at h9; omega⟩)
  have hxz : Ext (b 0) X0 g17 (nw g17 (b 0) 17 (fun _ => 0) (fun j9 => if j9 = 0 then (b 1) else if j9 = 1 then (b 2) else if j9 = 2 then (b 3) else if j9 = 3 then (b 4) else if j9 = 4 then (b 5) else (b 6)) (fun _ => none) (fun _ => 0)) := Ext.nw z17_17
  obtain ⟨g18, hg18⟩ : ∃ z, z = nw g17 (b 0) 17 (fun _ => 0) (fun j9 => if j9 = 0 then (b 1) else if j9 = 1 then (b 2) else if j9 = 2 then (b 3) else if j9 = 3 then (b 4) else if j9 = 4 then (b 5) else (b 6)) (fun _ => none) (fun _ => 0) := ⟨_, rfl⟩
  rw [← hg18] at hMz hGz hxz
  have hM18 := hMz
  have hG18 := hGz
  have hx18 := hxz
  have s4_18 : tg g18 (a 4) = 5 := hx18.tk s4_17 (by decide)
  have s5_18 : tg g18 (a 5) = 6 := hx18.tk s5_17 (by decide)
  have s6_18 : tg g18 (a 6) = 7 := hx18.tk s6_17 (by decide)
  have s7_18 : tg g18 (a 7) = 8 := hx18.tk s7_17 (by decide)
  have s8_18 : tg g18 (a 8) = 9 := hx18.tk s8_17 (by decide)
  have s9_18 : tg g18 (a 9) = 9 := hx18.tk s9_17 (by decide)
  have s10_18 : tg g18 (a 10) = 9 := hx18.tk s10_17 (by decide)
  have s3_18 : tg g18 (a 3) = 4 := hx18.tk s3_17 (by decide)
  have s1_18 : tg g18 (a 1) = 2 := hx18.tk s1_17 (by decide)
  have s2_18 : tg g18 (a 2) = 3 := hx18.tk s2_17 (by decide)
  have s0_18 : tg g18 (a 0) = 1 := hx18.tk s0_17 (by decide)
  have s13_18 : tg g18 (b 2) = 19 := hx18.tk s13_17 (by decide)
  have s14_18 : tg g18 (b 3) = 24 := hx18.tk s14_17 (by decide)
  have s15_18 : tg g18 (b 4) = 24 := hx18.tk s15_17 (by decide)
  have s16_18 : tg g18 (b 5) = 25 := hx18.tk s16_17 (by decide)
  have s12_18 : tg g18 (b 1) = 18 := hx18.tk s12_17 (by decide)
  have s17_18 : tg g18 (b 6) = 26 := hx18.tk s17_17 (by decide)
  have s11_18 : tg g18 (b 0) = 17 := by rw [hg18]; exact nw_t
  have p22_18 : ∀ x, x ∈ Ld → tg g18 x = 22 := fun x hx => hx18.tk (p22_17 x hx) (by decide)
  have v11i : pI g18 (b 0) = (fun _ => 0) := by rw [hg18]; exact nw_I
  have v11f : pF g18 (b 0) = (fun j9 => if j9 = 0 then (b 1) else if j9 = 1 then (b 2) else if j9 = 2 then (b 3) else if j9 = 3 then (b 4) else if j9 = 4 then (b 5) else (b 6)) := by rw [hg18]; exact nw_F
  have v11o : pO g18 (b 0) = (fun _ => none) := by rw [hg18]; exact nw_O
  have z18_18 : tg g18 q7 = 0 := by rw [hg18]; exact nw_0 (fun e9 => absurd (hD.1 18 11 _ _ rfl rfl e9) (by decide)) z17_18
  have z18_19 : tg g18 q9 = 0 := by rw [hg18]; exact nw_0 (fun e9 => absurd (hD.1 19 11 _ _ rfl rfl e9) (by decide)) z17_19
  have hMz := hM18.tell (t := 34) (fi := (fun _ => 0)) (ff := (fun _ => 0)) (fo := (fun _ => none)) (fl := (fun _ => 0)) z18_18 (hA _ (hD.2 18 _ rfl)) (va_one (hP 18 _ rfl)) (TE.m34 ⟨rfl, trivial⟩)
  have hGz := nw_G2 (t := 34) (fi := (fun _ => 0)) (ff := (fun _ => 0)) (fo := (fun _ => none)) (fl := (fun _ => 0)) hG18 hM18 z18_18 (fun h9 => absurd h9 (by decide)) (by decide) (fun h9 => absurd h9 (by decide))
  have hxz : Ext (b 0) X0 g18 (nw g18 q7 34 (fun _ => 0) (fun _ => 0) (fun _ => none) (fun _ => 0)) := Ext.nw z18_18
  obtain ⟨g19, hg19⟩ : ∃ z, z = nw g18 q7 34 (fun _ => 0) (fun _ => 0) (fun _ => none) (fun _ => 0) := ⟨_, rfl⟩
  rw [← hg19] at hMz hGz hxz
  have hM19 := hMz
  have hG19 := hGz
  have hx19 := hxz
  have s4_19 : tg g19 (a 4) = 5 := hx19.tk s4_18 (by decide)
  have s5_19 : tg g19 (a 5) = 6 := hx19.tk s5_18 (by decide)
  have s6_19 : tg g19 (a 6) = 7 := hx19.tk s6_18 (by decide)
  have s7_19 : tg g19 (a 7) = 8 := hx19.tk s7_18 (by decide)
  have s8_19 : tg g19 (a 8) = 9 := hx19.tk s8_18 (by decide)
  have s9_19 : tg g19 (a 9) = 9 := hx19.tk s9_18 (by decide)
  have s10_19 : tg g19 (a 10) = 9 := hx19.tk s10_18 (by decide)
  have s3_19 : tg g19 (a 3) = 4 := hx19.tk s3_18 (by decide)
  have s1_19 : tg g19 (a 1) = 2 := hx19.tk s1_18 (by decide)
  have s2_19 : tg g19 (a 2) = 3 := hx19.tk s2_18 (by decide)
  have s0_19 : tg g19 (a 0) = 1 := hx19.tk s0_18 (by decide)
  have s13_19 : tg g19 (b 2) = 19 := hx19.tk s13_18 (by decide)
  have s14_19 : tg g19 (b 3) = 24 := hx19.tk s14_18 (by decide)
  have s15_19 : tg g19 (b 4) = 24 := hx19.tk s15_18 (by decide)
  have s16_19 : tg g19 (b 5) = 25 := hx19.tk s16_18 (by decide)
  have s12_19 : tg g19 (b 1) = 18 := hx19.tk s12_18 (by decide)
  have s17_19 : tg g19 (b 6) = 26 := hx19.tk s17_18 (by decide)
  have s11_19 : tg g19 (b 0) = 17 := hx19.tk s11_18 (by decide)
  have s18_19 : tg g19 q7 = 34 := by rw [hg19]; exact nw_t
  have p22_19 : ∀ x, x ∈ Ld → tg g19 x = 22 := fun x hx => hx19.tk (p22_18 x hx) (by decide)
  have v18i : pI g19 q7 = (fun _ => 0) := by rw [hg19]; exact nw_I
  have v18f : pF g19 q7 = (fun _ => 0) := by rw [hg19]; exact nw_F
  have v18o : pO g19 q7 = (fun _ => none) := by rw [hg19]; exact nw_O
  have z19_19 : tg g19 q9 = 0 := by rw [hg19]; exact nw_0 (fun e9 => absurd (hD.1 19 18 _ _ rfl rfl e9) (by decide)) z18_19
  have hMz := hM19.tell (t := 35) (fi := (fun _ => 0)) (ff := (fun _ => 0)) (fo := (fun _ => none)) (fl := (fun _ => 0)) z19_19 (hA _ (hD.2 19 _ rfl)) (va_one (hP 19 _ rfl)) (TE.m35 ⟨(fun _ => 0), rfl, trivial⟩)
  have hGz := nw_G2 (t := 35) (fi := (fun _ => 0)) (ff := (fun _ => 0)) (fo := (fun _ => none)) (fl := (fun _ => 0)) hG19 hM19 z19_19 (fun h9 => absurd h9 (by decide)) (by decide) (fun h9 => absurd h9 (by decide))
  have hxz : Ext (b 0) X0 g19 (nw g19 q9 35 (fun _ => 0) (fun _ => 0) (fun _ => none) (fun _ => 0)) := Ext.nw z19_19
  obtain ⟨g20, hg20⟩ : ∃ z, z = nw g19 q9 35 (fun _ => 0) (fun _ => 0) (fun _ => none) (fun _ => 0) := ⟨_, rfl⟩
  rw [← hg20] at hMz hGz hxz
  have hM20 := hMz
  have hG20 := hGz
  have hx20 := hxz
  have s4_20 : tg g20 (a 4) = 5 := hx20.tk s4_19 (by decide)
  have s5_20 : tg g20 (a 5) = 6 := hx20.tk s5_19 (by decide)
  have s6_20 : tg g20 (a 6) = 7 := hx20.tk s6_19 (by decide)
  have s7_20 : tg g20 (a 7) = 8 := hx20.tk s7_19 (by decide)
  have s8_20 : tg g20 (a 8) = 9 := hx20.tk s8_19 (by decide)
  have s9_20 : tg g20 (a 9) = 9 := hx20.tk s9_19 (by decide)
  have s10_20 : tg g20 (a 10) = 9 := hx20.tk s10_19 (by decide)
  have s3_20 : tg g20 (a 3) = 4 := hx20.tk s3_19 (by decide)
  have s1_20 : tg g20 (a 1) = 2 := hx20.tk s1_19 (by decide)
  have s2_20 : tg g20 (a 2) = 3 := hx20.tk s2_19 (by decide)
  have s0_20 : tg g20 (a 0) = 1 := hx20.tk s0_19 (by decide)
  have s13_20 : tg g20 (b 2) = 19 := hx20.tk s13_19 (by decide)
  have s14_20 : tg g20 (b 3) = 24 := hx20.tk s14_19 (by decide)
  have s15_20 : tg g20 (b 4) = 24 := hx20.tk s15_19 (by decide)
  have s16_20 : tg g20 (b 5) = 25 := hx20.tk s16_19 (by decide)
  have s12_20 : tg g20 (b 1) = 18 := hx20.tk s12_19 (by decide)
  have s17_20 : tg g20 (b 6) = 26 := hx20.tk s17_19 (by decide)
  have s11_20 : tg g20 (b 0) = 17 := hx20.tk s11_19 (by decide)
  have s18_20 : tg g20 q7 = 34 := hx20.tk s18_19 (by decide)
  have s19_20 : tg g20 q9 = 35 := by rw [hg20]; exact nw_t
  have p22_20 : ∀ x, x ∈ Ld → tg g20 x = 22 := fun x hx => hx20.tk (p22_19 x hx) (by decide)
  have v19i : pI g20 q9 = (fun _ => 0) := by rw [hg20]; exact nw_I
  have v19f : pF g20 q9 = (fun _ => 0) := by rw [hg20]; exact nw_F
  have v19o : pO g20 q9 = (fun _ => none) := by rw [hg20]; exact nw_O
  have E20 : Ext (b 0) X0 g20 g20 := Ext.refl
  have E19 : Ext (b 0) X0 g19 g20 := hx20.trans E20
  have E18 : Ext (b 0) X0 g18 g20 := hx19.trans E19
  have E17 : Ext (b 0) X0 g17 g20 := hx18.trans E18
  have E16 : Ext (b 0) X0 g16 g20 := hx17.trans E17
  have E15 : Ext (b 0) X0 g15 g20 := hx16.trans E16
  have E14 : Ext (b 0) X0 g14 g20 := hx15.trans E15
  have E13 : Ext (b 0) X0 g13 g20 := hx14.trans E14
  have E12 : Ext (b 0) X0 g12 g20 := hx13.trans E13
  have E11 : Ext (b 0) X0 g11 g20 := hx12.trans E12
  have E10 : Ext (b 0) X0 g10 g20 := hx11.trans E11
  have E9 : Ext (b 0) X0 g9 g20 := hx10.trans E10
  have E8 : Ext (b 0) X0 g8 g20 := hx9.trans E9
  have E7 : Ext (b 0) X0 g7 g20 := hx8.trans E8
  have E6 : Ext (b 0) X0 g6 g20 := hx7.trans E7
  have E5 : Ext (b 0) X0 g5 g20 := hx6.trans E6
  have E4 : Ext (b 0) X0 g4 g20 := hx5.trans E5
  have E3 : Ext (b 0) X0 g3 g20 := hx4.trans E4
  have E2 : Ext (b 0) X0 g2 g20 := hx3.trans E3
  have E1 : Ext (b 0) X0 g1 g20 := hx2.trans E2
  have E0 : Ext (b 0) X0 g0 g20 := hx1.trans E1
  have fo0 : pF g20 (a 0) 0 = a 1 := (congrFun ((E11.f (by have := s0_11; omega)).trans v0f) 0)
  have fo2 : pF g20 (a 0) 2 = a 3 := (congrFun ((E11.f (by have := s0_11; omega)).trans v0f) 2)
  have fs0 : pF g20 (a 1) 0 = a 4 := (congrFun ((E9.f (by have := s1_9; omega)).trans v1f) 0)
  have fs1 : pF g20 (a 1) 1 = a 5 := (congrFun ((E9.f (by have := s1_9; omega)).trans v1f) 1)
  have fs3 : pF g20 (a 1) 3 = a 7 := (congrFun ((E9.f (by have := s1_9; omega)).trans v1f) 3)
  have fm0 : pF g20 (b 0) 0 = b 1 := (congrFun ((E18.f (by have := s11_18; omega)).trans v11f) 0)
  have fm5 : pF g20 (b 0) 5 = b 6 := (congrFun ((E18.f (by have := s11_18; omega)).trans v11f) 5)
  have fl1 : pF g20 (b 6) 1 = eD := (congrFun ((E17.f (by have := s17_17; omega)).trans v17f) 1)
  have fd : pO g20 (b 1) = dg := ((E16.o (by have := s12_16; omega) (fun z => z)).trans v12o)
  have io0 : pI g20 (a 0) 0 = 0 := ((E11.i (q := (a 0)) (j := 0) (by have := s0_11; omega) (Or.inl (fun e9 => absurd (hD.1 0 11 _ _ rfl rfl e9) (by decide)))).trans (congrFun v0i 0))
  have io1 : pI g20 (a 0) 1 = 0 := ((E11.i (q := (a 0)) (j := 1) (by have := s0_11; omega) (Or.inl (fun e9 => absurd (hD.1 0 11 _ _ rfl rfl e9) (by decide)))).trans (congrFun v0i 1))
  have io2 : pI g20 (a 0) 2 = 0 := ((E11.i (q := (a 0)) (j := 2) (by have := s0_11; omega) (Or.inl (fun e9 => absurd (hD.1 0 11 _ _ rfl rfl e9) (by decide)))).trans (congrFun v0i 2))
  have im0 : pI g20 (b 0) 0 = 0 := ((E18.i (q := (b 0)) (j := 0) (by have := s11_18; omega) (Or.inr (by decide))).trans (congrFun v11i 0))
  have im1 : pI g20 (b 0) 1 = 0 := ((E18.i (q := (b 0)) (j := 1) (by have := s11_18; omega) (Or.inr (by decide))).trans (congrFun v11i 1))
  have il0 : pI g20 (b 6) 0 = 0 := ((E17.i (q := (b 6)) (j := 0) (by have := s17_17; omega) (Or.inl (fun e9 => absurd (hD.1 17 11 _ _ rfl rfl e9) (by decide)))).trans (congrFun v17i 0))
  have ia4 : ∀ j, pI g20 (a 4) j = f 0 j := fun j => ((E1.i (q := (a 4)) (j := j) (by have := s4_1; omega) (Or.inl (fun e9 => absurd (hD.1 4 11 _ _ rfl rfl e9) (by decide)))).trans (congrFun v4i j))
  have ia5 : ∀ j, pI g20 (a 5) j = f 1 j := fun j => ((E2.i (q := (a 5)) (j := j) (by have := s5_2; omega) (Or.inl (fun e9 => absurd (hD.1 5 11 _ _ rfl rfl e9) (by decide)))).trans (congrFun v5i j))
  have ia7 : ∀ j, pI g20 (a 7) j = f 3 j := fun j => ((E4.i (q := (a 7)) (j := j) (by have := s7_4; omega) (Or.inl (fun e9 => absurd (hD.1 7 11 _ _ rfl rfl e9) (by decide)))).trans (congrFun v7i j))
  have ir : ∀ y, y ∈ Ld → ∀ j, j ≠ 2 → pI g20 y j = wRow j := fun y hy j hj => (E0.i (by rw [t22 y hy]; decide) (Or.inr hj)).trans (by rw [hg0])
  have hz : (0 : Int32).toInt = 0 := by decide
  refine ⟨g20, ⟨hM20, hG20, s0_20, s11_20, s18_20, s19_20, ⟨by rw [io1, im0], by rw [io2, im1], by rw [io0, fm5, il0], fun j hj => ?_, fun j hj => ?_⟩, by rw [fm5]; exact fl1⟩, ?_⟩
  · obtain ⟨y, hy, hm⟩ := hDG j hj
    unfold mrow
    rw [fo0, fs0, fs1, fs3, fm0, fd, hy, ia4, ia5, ia7, hFX.1 j hj, hFX.2.1 j hj, hFX.2.2.2.1 j hj]
    show -150 = pI _ y 0 ∧ -50 = pI _ y 1 ∧ 80 = pI _ y 3
    rw [ir y hm 0 (by decide), ir y hm 1 (by decide), ir y hm 3 (by decide)]
    exact ⟨rfl, rfl, rfl⟩
  · exfalso
    rw [io0, hz] at hj
    omega
  · unfold RI GCm
    rw [fm5, il0, im0, hz]
    rw [show GC g20 (b 6) (Int.toNat 0) = 0 from rfl]
    exact ⟨by decide, by decide⟩
