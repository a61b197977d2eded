
section XC2L
variable {p : Program} {l : Launch} {e : Env} {R : Room} {s : State} {m : MethodId} {args : Array Value} {below : List Frame} {meth : Method} {c : Code} {H : Heap} {locs : List Loc} {cells slots : Nat} {Q : State → Prop}
variable {cc : ByteArray} {pc : Nat} {ls : Array Slot} {rest : List Value} {D : va_G} {cl : List vw_C} {A : Nat → Prop} {a : Nat} {tys : List (ClassId × FieldType)} {H0 : Heap}
theorem rt_newq (hexec : p.tables.exec = Jvm.exec) (hb : c.code = cc) {own C : String} {index : Nat} (hown : s.vm.findClass own = some m.cls) (hclink : (Cond.classLink own index C).before args s = true) (hover : va_AO C s) (hK : va_K D cl tys s) {t0 : Nat} {c0 : ClassId} (ht0 : tys[t0]? = some (c0, .object C)) (hS : va_S A H0 H locs)
    {n : Int32} {N' : Nat} (hn : ¬ n < 0) (hN : n.toNatClampNeg = N') (hbytes : N' * 4 ≤ 536870912) (hcells : cells + 1 ≤ R.cells) (hslots : slots + N' ≤ R.slots) (hdg : decode cc pc = .ok (.anewarray index, 3))
    (kk : ∀ (H1 : Heap), va_P D cl [(H.size, .inl (c0, N', .inr (.inr (.inr (.inr (fun _ => none))))))] H1 → H1.size = H.size + 1 → (∀ q : Nat, q < H.size → H1[q]? = H[q]?) → va_S A H0 H1 locs →
      W p l e R s m args below meth c H1 locs (cells + 1) (slots + N') Q (F0 m (pc + 3) ls (.ref H.size :: rest))) : W p l e R s m args below meth c H locs cells slots Q (F0 m pc ls (.int n :: rest)) := by
  subst hN
  refine W.anew hexec hb hown hclink (va_AO.use hover) rfl hdg rfl hn hbytes hcells hslots fun cA kA comp f1 f2 f3 f4 => ?_
  have ec : cA = c0 := Option.some.inj (f1.symm.trans (RA_of (hK.2 t0 _ ht0).2))
  subst ec
  generalize hH1 : H.push ({ cls := cA, slots := Array.replicate n.toNatClampNeg .null, vm := .none } : Cell) = H1
  have z1 : H1.size = H.size + 1 := by rw [← hH1, Array.size_push]
  have e1 : H1[H.size]? = some (arrV cA n.toNatClampNeg (fun _ => .null)) := by rw [← hH1, Array.getElem?_push_size, ← arrV_new]
  have o1 : ∀ q : Nat, q < H.size → H1[q]? = H[q]? := fun q hq => by rw [← hH1, Array.getElem?_push, if_neg (Nat.ne_of_lt hq)]
  refine kk H1 (va_one ?_) z1 o1 ⟨Nat.le_trans hS.1 (by omega), fun x h1 h2 => (o1 x (Nat.lt_of_lt_of_le h1 hS.1)).trans (hS.2.1 x h1 h2), hS.2.2⟩
  show H1[H.size]? = some (vp_cell _ _)
  rw [vp_cell_q]
  exact e1
theorem rt_astqO (hexec : p.tables.exec = Jvm.exec) (hb : c.code = cc) (hK : va_K D cl tys s) {t0 ci : Nat} {E : String} {cA : ClassId} {r : vw_C} {n v : Nat} {vs : List Value} {f : Nat → Option Nat} (hP : va_P D cl [(a, .inl (cA, n, .inr (.inr (.inr (.inr f)))))] H) (hA : A a) (hS : va_S A H0 H locs) (ht : tys[t0]? = some (cA, .object E)) (hca : va_Nw (.castable r.1 E) s) (hv : va_P D cl [(v, .inr (ci, vs))] H) (hc : cl[ci]? = some r) {i : Int32} (hin : vp_in i n) (hdg : decode cc pc = .ok (.aastore, 1))
    (kk : ∀ (H1 : Heap) (locs1 : List Loc), va_P D cl [(a, .inl (cA, n, .inr (.inr (.inr (.inr (va_up f i.toNatClampNeg (some v)))))))] H1 → H1.size = H.size → (∀ q : Nat, q ≠ a → H1[q]? = H[q]?) → va_S A H0 H1 locs1 → W p l e R s m args below meth c H1 locs1 cells slots Q (F0 m (pc + 1) ls rest)) : W p l e R s m args below meth c H locs cells slots Q (F0 m pc ls (.ref v :: .int i :: .ref a :: rest)) := by
  have hlt : i.toNatClampNeg < n := Nat.not_le.mp fun q => hin (Or.inr q)
  have h0 : ¬ i < 0 := fun q => hin (Or.inl q)
  obtain ⟨r', hr', cellV, g1, g2, g3, -⟩ := hv 0 _ rfl
  have hcls := (hK.1 ci r hc).2
  obtain ⟨kA, comp, k1, k2, k3, -⟩ := (hK.2 t0 _ ht).2
  obtain ⟨kE, hkE, -⟩ := Vm.findClass_spec k3
  obtain ⟨c0, t1, f1, f2, f3⟩ := Cond.castable_spec (va_Nw.use (A := args) rfl hca)
  cases hcls.1.symm.trans f1
  cases k3.symm.trans f2
  obtain ⟨kC, hkC, -⟩ := hcls.2
  refine W.aast hexec hb (hP 0 _ rfl) (fun q h => by cases h) (fun h => by cases h) k1 k2 rfl hkE ⟨h0, by show _ < (arrV _ _ _).slots.size; rw [arrV_size]; exact hlt⟩ g1 (fun q h => by rw [g3] at h; cases h) (by rw [g2]; exact hkC) (by rw [g2]; exact f3) rfl rfl hdg fun H1 e z oq => ?_
  refine kk H1 _ (va_one ?_) z oq (hS.put z oq hA)
  show H1[a]? = some (vp_cell _ _)
  rw [e]
  rw [vp_cell_q, vp_cell_q, arrV_store]
  congr 2
  funext q
  by_cases hq : q = i.toNatClampNeg
  · subst hq
    simp [updV, va_up, va_rf]
  · simp [updV, va_up, hq]
end XC2L
section GRO
variable {D : va_G} {kA : Nat → ClassId} {b : Nat} {g u : Gh} {H H1 : Heap} {q : Nat}
theorem pf_al {f : Nat → Nat} (hM : TM D kA b g H) (h : tg g q = 26) (hP : va_P D vwCl [(q, .inr (3, [.int (pI g q 1), .ref (f 0), .int (pI g q 0)]))] H1) (ho : ∀ p : Nat, p ≠ q → H1[p]? = H[p]?) (hf : (0 ≤ (pI g q 0).toInt ∧ (pI g q 0).toInt ≤ 3) ∧ ((pI g q 0).toInt ≠ 0 → tg g (f 0) = 27) ∧ ((pI g q 0).toInt = 0 → f 0 = f 1 ∨ tg g (f 0) = 27)) : TM D kA b (uF g q f) H1 :=
  hM.put (by omega) hP ho rfl (fun p hp => ⟨rfl, uF_n hp, rfl, rfl⟩) (by rw [uF_s, h]; exact TE.m26 ⟨rfl, hf⟩)
theorem gok_uF0 {f : Nat → Nat} (hG : GOK g) (ht : tg g q = 26) (h0 : (pI g q 0).toInt = 0) : GOK (uF g q f) := by
  refine ⟨fun p hp j hj => ?_, fun p hp j hj => ?_, fun p m hp hm => ?_, fun m n hm hn => hG.2.2.2 m n hm hn⟩
  · by_cases e : p = q
    · subst e
      have hj2 : (j : Int) < (pI g p 0).toInt := hj
      omega
    · rw [uF_n e]
      exact hG.1 p hp j hj
  · have e : p ≠ q := fun z => by have h1 : tg g p = 1 := hp; rw [z] at h1; omega
    rw [uF_n e]
    exact hG.2.1 p hp j hj
  · have e : p ≠ q := fun z => by have h1 : tg g p % 64 = 28 := hp; rw [z] at h1; omega
    rw [uF_n e]
    exact hG.2.2.1 p m hp hm
/-- an array of references gets one more -/
theorem gok_uOs {k v : Nat} (hG : GOK g) : GOK (uO g q (va_up (pO g q) k (some v))) := by
  have hk : ∀ (r : Nat) (j : Nat), (∃ a, pO g r j = some a) → ∃ a, pO (uO g q (va_up (pO g q) k (some v))) r j = some a := fun r j ⟨a, ha⟩ => by
    by_cases e : r = q
    · subst e
      rw [uO_s]
      unfold va_up
      by_cases ej : j = k
      · exact ⟨v, if_pos ej⟩
      · exact ⟨a, (if_neg ej).trans ha⟩
    · exact ⟨a, by rw [uO_n e]; exact ha⟩
  exact ⟨fun p hp j hj => hk _ j (hG.1 p hp j hj), fun p hp j hj => hk _ j (hG.2.1 p hp j hj), fun p m hp hm => hG.2.2.1 p m hp hm, fun m n hm hn => hG.2.2.2 m n hm hn⟩
theorem gok_size {x : Int32} (hG : GOK g) (ht : tg g q = 26) (hall : ∀ j : Nat, (j : Int) < x.toInt → ∃ a, pO g (pF g q 0) j = some a) : GOK (uI g q (upd (pI g q) 0 x)) := by
  refine ⟨fun p hp j hj => ?_, fun p hp j hj => ?_, fun p m hp hm => hG.2.2.1 p m hp hm, fun m n hm hn => hG.2.2.2 m n hm hn⟩
  · by_cases e : p = q
    · subst e
      rw [uI_s] at hj
      exact hall j hj
    · rw [uI_n e] at hj
      exact hG.1 p hp j hj
  · have e : p ≠ q := fun z => by have h1 : tg g p = 1 := hp; rw [z] at h1; omega
    rw [uI_n e] at hj
    exact hG.2.1 p hp j hj
theorem gok_size1 {x : Int32} (hG : GOK g) (ht : tg g q = 1) (hall : ∀ j : Nat, (j : Int) < x.toInt → ∃ a, pO g (pF g q 2) j = some a) : GOK (uI g q (upd (pI g q) 0 x)) := by
  refine ⟨fun p hp j hj => ?_, fun p hp j hj => ?_, fun p m hp hm => hG.2.2.1 p m hp hm, fun m n hm hn => hG.2.2.2 m n hm hn⟩
  · have e : p ≠ q := fun z => by have h1 : tg g p = 26 := hp; rw [z] at h1; omega
    rw [uI_n e] at hj
    exact hG.1 p hp j hj
  · by_cases e : p = q
    · subst e
      rw [uI_s] at hj
      exact hall j hj
    · rw [uI_n e] at hj
      exact hG.2.1 p hp j hj
/-- only the list's array may be another -/
noncomputable def Gx (q : Nat) (g u : Gh) : Prop := ∀ a : Nat, tg g a ≠ 0 → tg u a = tg g a ∧ pI u a = pI g a ∧ (a ≠ q → pF u a = pF g a) ∧ pO u a = pO g a ∧ pL u a = pL g a
/-- the list has one more: its size, its count of changes, its array -/
noncomputable def Ax (q k v : Nat) (g u : Gh) : Prop := (∀ a : Nat, tg g a ≠ 0 → tg u a = tg g a ∧ (a ≠ q → pI u a = pI g a ∧ pF u a = pF g a) ∧ (tg g a ≠ 27 → pO u a = pO g a) ∧ pL u a = pL g a) ∧ pI u q 0 = nI (k + 1) ∧ pF u q 1 = pF g q 1 ∧ tg u (pF u q 0) = 27 ∧ (∀ j, j < k → pO u (pF u q 0) j = pO g (pF g q 0) j) ∧ pO u (pF u q 0) k = some v
theorem Gx.refl : Gx q g g := fun _ _ => ⟨rfl, rfl, fun _ => rfl, rfl, rfl⟩
theorem add_all {k v el : Nat} (hG : GOK g) (hq : tg g q = 26) (hs : pI g q 0 = nI k) (hk : k < 3) (he : pF g q 0 = el) : ∀ j : Nat, (j : Int) < (nI (k + 1)).toInt → ∃ a, pO (uO g el (va_up (pO g el) k (some v))) (pF (uO g el (va_up (pO g el) k (some v))) q 0) j = some a := fun j hj => by
  rw [nI_toInt (by omega)] at hj
  show ∃ a, pO (uO g el _) (pF g q 0) j = some a
  rw [he, uO_s]
  unfold va_up
  by_cases e : j = k
  · exact ⟨v, if_pos e⟩
  · obtain ⟨a, ha⟩ := hG.1 q hq j (by rw [hs, nI_toInt (by omega)]; omega)
    rw [he] at ha
    exact ⟨a, (if_neg e).trans ha⟩
theorem add_ax {k v el : Nat} (hx : Gx q g u) (h1 : pF u q 1 = pF g q 1) (hel : tg u el = 27) (he : pF u q 0 = el) (hold : ∀ j, j < k → pO u el j = pO g (pF g q 0) j) : Ax q k v g (uI (uO u el (va_up (pO u el) k (some v))) q (upd (pI (uO u el (va_up (pO u el) k (some v))) q) 0 (nI (k + 1)))) := by
  refine ⟨fun a ha => ?_, ?_, ?_, ?_, fun j hj => ?_, ?_⟩
  · obtain ⟨a1, a2, a3, a4, a5⟩ := hx a ha
    refine ⟨a1, fun e => ⟨(uI_n e).trans a2, a3 e⟩, fun e => ?_, a5⟩
    show pO (uO u el _) a = pO g a
    rw [uO_n (fun z => e (by rw [← a1, z]; exact hel))]
    exact a4
  · exact (congrFun uI_s 0).trans (if_pos rfl)
  · exact h1
  · show tg u (pF u q 0) = 27
    rw [he]
    exact hel
  · show pO (uO u el _) (pF u q 0) j = _
    rw [he, uO_s]
    exact (if_neg (by omega)).trans (hold j hj)
  · show pO (uO u el _) (pF u q 0) k = some v
    rw [he, uO_s]
    exact if_pos rfl
end GRO
theorem Ax_mod {g u : Gh} {q k v : Nat} {f : Nat → Int32} (h : Ax q k v (uI g q f) u) : Ax q k v g u := ⟨fun a ha => ⟨(h.1 a ha).1, fun e => ⟨((h.1 a ha).2.1 e).1.trans (uI_n e), ((h.1 a ha).2.1 e).2⟩, (h.1 a ha).2.2.1, (h.1 a ha).2.2.2⟩, h.2⟩
theorem up_some2 {τ κ : Nat → Nat} {n x y : Nat} {f : Nat → Option Nat} (h : ∀ j, j < n → ∀ a, f j = some a → τ a = κ j) (hy : τ y = κ x) : ∀ j, j < n → ∀ a, va_up f x (some y) j = some a → τ a = κ j := fun j hj a ha => by
  unfold va_up at ha
  by_cases e : j = x
  · rw [if_pos e] at ha; cases ha; rw [e]; exact hy
  · rw [if_neg e] at ha; exact h j hj a ha

