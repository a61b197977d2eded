/-- the told memory goes on: what was thrown (m's third place) may be another, and what stands in the rows of X -/
noncomputable def Ext (m : Nat) (X : Nat → Prop) (g u : Gh) : Prop := ∀ q : Nat, tg g q ≠ 0 → tg u q = tg g q ∧ (∀ j, (q ≠ m ∨ j ≠ 2) → pI u q j = pI g q j) ∧ pF u q = pF g q ∧ (¬ X (tg g q) → pO u q = pO g q) ∧ pL u q = pL g q
noncomputable def X0 : Nat → Prop := fun _ => False
noncomputable def XA : Nat → Prop := fun t => t % 64 = 30
noncomputable def XS (i : Nat) : Nat → Prop := fun t => ∃ y, y < 6 ∧ t = 30 + 64 * (8 * i + y)
section EXTL
variable {m : Nat} {X Y : Nat → Prop} {g u v : Gh} {q : Nat}
theorem Ext.refl : Ext m X g g := fun _ _ => ⟨rfl, fun _ _ => rfl, rfl, fun _ => rfl, rfl⟩
theorem Ext.trans (h1 : Ext m X g u) (h2 : Ext m X u v) : Ext m X g v := fun q hq => by
  obtain ⟨a1, a2, a3, a4, a5⟩ := h1 q hq
  obtain ⟨b1, b2, b3, b4, b5⟩ := h2 q (by rw [a1]; exact hq)
  exact ⟨b1.trans a1, fun j hj => (b2 j hj).trans (a2 j hj), b3.trans a3, fun z => (b4 (by rw [a1]; exact z)).trans (a4 z), b5.trans a5⟩
theorem Ext.wide (h : Ext m X g u) (hXY : ∀ t, X t → Y t) : Ext m Y g u := fun q hq => by
  obtain ⟨a1, a2, a3, a4, a5⟩ := h q hq
  exact ⟨a1, a2, a3, fun z => a4 (fun y => z (hXY _ y)), a5⟩
theorem Ext.wide0 (h : Ext m X0 g u) : Ext m Y g u := h.wide (fun _ z => z.elim)
theorem Ext.wideA {i : Nat} (h : Ext m (XS i) g u) : Ext m XA g u := h.wide (fun t z => by
  obtain ⟨y, -, e⟩ := z
  show t % 64 = 30
  omega)
theorem Ext.t (h : Ext m X g u) (hq : tg g q ≠ 0) : tg u q = tg g q := (h q hq).1
theorem Ext.tk (h : Ext m X g u) {t : Nat} (hq : tg g q = t) (ht : t ≠ 0) : tg u q = t := (h.t (by rw [hq]; exact ht)).trans hq
theorem Ext.f (h : Ext m X g u) (hq : tg g q ≠ 0) : pF u q = pF g q := (h q hq).2.2.1
theorem Ext.i (h : Ext m X g u) (hq : tg g q ≠ 0) {j : Nat} (hj : q ≠ m ∨ j ≠ 2) : pI u q j = pI g q j := (h q hq).2.1 j hj
theorem Ext.o (h : Ext m X g u) (hq : tg g q ≠ 0) (hG : ¬ X (tg g q)) : pO u q = pO g q := (h q hq).2.2.2.1 hG
theorem Ext.l (h : Ext m X g u) (hq : tg g q ≠ 0) : pL u q = pL g q := (h q hq).2.2.2.2
theorem Ext.thr {f : Nat → Int32} (hf : ∀ j, j ≠ 2 → f j = pI g m j) : Ext m X g (uI g m f) := fun q hq => ⟨rfl, fun j hj => by
    by_cases e : q = m
    · subst e
      rw [uI_s]
      exact hf j (hj.resolve_left (fun z => z rfl))
    · rw [uI_n e], rfl, fun _ => rfl, rfl⟩
theorem Ext.nw {t : Nat} {fi : Nat → Int32} {ff : Nat → Nat} {fo : Nat → Option Nat} {fl : Nat → Int64} (hq : tg g q = 0) : Ext m X g (nw g q t fi ff fo fl) := fun p hp => by
  have e : p ≠ q := fun z => hp (by rw [z]; exact hq)
  exact ⟨if_neg e, fun j _ => congrFun (if_neg e) j, if_neg e, fun _ => if_neg e, if_neg e⟩
theorem Ext.row {f : Nat → Option Nat} (hq : X (tg g q)) : Ext m X g (uO g q f) := fun p hp => ⟨rfl, fun _ _ => rfl, rfl, fun z => uO_n (fun y => z (by rw [y]; exact hq)), rfl⟩
/-- a cell that is new since g is written -/
theorem Ext.newI {f : Nat → Int32} (h : Ext m X g u) (hq : tg g q = 0) : Ext m X g (uI u q f) := fun p hp => by
  obtain ⟨a1, a2, a3, a4, a5⟩ := h p hp
  have e : p ≠ q := fun z => hp (by rw [z]; exact hq)
  exact ⟨a1, fun j hj => by rw [uI_n e]; exact a2 j hj, a3, a4, a5⟩
end EXTL
/-- the lists are full up to their number -/
noncomputable def GOK (g : Gh) : Prop := (∀ q, tg g q = 26 → ∀ j : Nat, (j : Int) < (pI g q 0).toInt → ∃ a, pO g (pF g q 0) j = some a) ∧ (∀ q, tg g q = 1 → ∀ j : Nat, (j : Int) < (pI g q 0).toInt → ∃ a, pO g (pF g q 2) j = some a) ∧ (∀ q m, tg g q % 64 = 28 → tg g m = 17 → pF g q 2 = m) ∧ ∀ m n, tg g m = 17 → tg g n = 17 → m = n
theorem GOK.mono {D : va_G} {kA : Nat → ClassId} {b : Nat} {g u : Gh} {H : Heap} (h : GOK g) (hM : TM D kA b g H) (h1 : ∀ q, tg u q = 26 ∨ tg u q = 1 ∨ tg u q = 17 ∨ tg u q % 64 = 28 → tg g q = tg u q ∧ ((tg u q = 26 ∨ tg u q = 1) → pI u q 0 = pI g q 0) ∧ pF u q = pF g q ∧ (tg g (pF g q 0) = 27 → pO u (pF g q 0) = pO g (pF g q 0)) ∧ (tg g (pF g q 2) = 4 → pO u (pF g q 2) = pO g (pF g q 2))) : GOK u := by
  refine ⟨fun q hq j hj => ?_, fun q hq j hj => ?_, fun q m hq hm => ?_, fun m n hm hn => ?_⟩
  · obtain ⟨a1, a2, a3, a4, -⟩ := h1 q (Or.inl hq)
    rw [a2 (Or.inl hq)] at hj
    obtain ⟨a, ha⟩ := h.1 q (a1.trans hq) j hj
    obtain ⟨-, -, hf, -⟩ := o_al (i := 0) (q := q) hM (by omega)
    rw [a3, a4 (hf (by omega))]
    exact ⟨a, ha⟩
  · obtain ⟨a1, a2, a3, -, a5⟩ := h1 q (Or.inr (Or.inl hq))
    rw [a2 (Or.inr hq)] at hj
    obtain ⟨a, ha⟩ := h.2.1 q (a1.trans hq) j hj
    obtain ⟨_, _, _, _, -, -, -, hf, -⟩ := o_sno (i := 0) (q := q) hM (by omega)
    rw [a3, a5 hf]
    exact ⟨a, ha⟩
  · obtain ⟨a1, -, a3, -, -⟩ := h1 q (Or.inr (Or.inr (Or.inr hq)))
    obtain ⟨c1, -, -, -, -⟩ := h1 m (Or.inr (Or.inr (Or.inl hm)))
    rw [a3]
    exact h.2.2.1 q m (by rw [a1]; exact hq) (c1.trans hm)
  · obtain ⟨a1, -, -, -, -⟩ := h1 m (Or.inr (Or.inr (Or.inl hm)))
    obtain ⟨c1, -, -, -, -⟩ := h1 n (Or.inr (Or.inr (Or.inl hn)))
    exact h.2.2.2 m n (a1.trans hm) (c1.trans hn)
theorem GOK.uI {D : va_G} {kA : Nat → ClassId} {b q : Nat} {g : Gh} {H : Heap} {f : Nat → Int32} (h : GOK g) (hM : TM D kA b g H) (hq : tg g q ≠ 26 ∧ tg g q ≠ 1 ∨ f 0 = pI g q 0) : GOK (uI g q f) := h.mono hM (fun p hp => by
  refine ⟨rfl, fun hp2 => ?_, rfl, fun _ => rfl, fun _ => rfl⟩
  by_cases e : p = q
  · subst e
    rw [uI_s]
    rcases hq with hq | hq
    · have hp' : tg g p = 26 ∨ tg g p = 1 := hp2
      omega
    · exact hq
  · rw [uI_n e])
theorem GOK.uO {D : va_G} {kA : Nat → ClassId} {b q : Nat} {g : Gh} {H : Heap} {f : Nat → Option Nat} (h : GOK g) (hM : TM D kA b g H) (hq : tg g q ≠ 27 ∧ tg g q ≠ 4) : GOK (uO g q f) := h.mono hM (fun p hp => ⟨rfl, fun _ => rfl, rfl, fun z => uO_n (fun e => hq.1 (by rw [← e]; exact z)), fun z => uO_n (fun e => hq.2 (by rw [← e]; exact z))⟩)
theorem GOK.uL {D : va_G} {kA : Nat → ClassId} {b q : Nat} {g : Gh} {H : Heap} {f : Nat → Int64} (h : GOK g) (hM : TM D kA b g H) : GOK (uL g q f) := h.mono hM (fun p hp => ⟨rfl, fun _ => rfl, rfl, fun _ => rfl, fun _ => rfl⟩)
theorem W.q {p : Program} {l : Launch} {e : Env} {R : Room} {s : State} {m : MethodId} {args : Array Value} {below : List Frame} {meth : Method} {c : Code} {H : Heap} {locs : List Loc} {cells slots : Nat} {Q0 : State → Prop} {gf : JFrame} (h : ∀ Q : State → Prop, Q = Q0 → W p l e R s m args below meth c H locs cells slots Q gf) : W p l e R s m args below meth c H locs cells slots Q0 gf := h Q0 rfl
theorem rt_ldcwf {p : Program} {l : Launch} {e : Env} {R : Room} {s : State} {m : MethodId} {args : Array Value} {below : List Frame} {meth : Method} {c : Code} {H : Heap} {locs : List Loc} {cells slots : Nat} {Q : State → Prop} {cc : ByteArray} {pc : Nat} {ls : Array Slot} {rest : List Value} (hexec : p.tables.exec = Jvm.exec) (hb : c.code = cc) {own : String} {index : Nat} {v : UInt32} (hown : s.vm.findClass own = some m.cls) (hconst : (Jvm.Cond.constantFloat own index v).before args s = true) (hdg : decode cc pc = .ok (.ldc_w index, 3)) (k : W p l e R s m args below meth c H locs cells slots Q (F0 m (pc + 3) ls (.float v :: rest))) : W p l e R s m args below meth c H locs cells slots Q (F0 m pc ls rest) := by
  intro T hT X
  obtain ⟨t, a, b⟩ := k T hT X
  obtain ⟨k0, cf, hk, hcf, hcp⟩ := Cond.constantFloat_spec hown hconst
  obtain ⟨k', hk', he⟩ := X.warmed.alike.2.2 _ _ hk
  refine ⟨t, ?_, b⟩
  jvm_step X.here [hexec, hb, hdg, ldc_w.wp_float (s := T) (f := F0 m pc ls rest) X.here.top hk' (by rw [he]; exact hcf) hcp]
  exact a

