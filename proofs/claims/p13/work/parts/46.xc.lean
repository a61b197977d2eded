
section XCL
variable {D : va_G} {kA : Nat → ClassId} {eD b : Nat} {g u : Gh} {H H1 : Heap} {q a o : Nat} {e : va_E}
theorem xk (hX : va_P D vwCl [(o, e)] H) (ho : ∀ p : Nat, p ≠ a → H1[p]? = H[p]?) (h : o ≠ a) : va_P D vwCl [(o, e)] H1 := va_one ((va_of1 hX).kept (ho o h))
theorem xk2 (hX : va_P D vwCl [(o, e)] H) (ho : ∀ p : Nat, p < H.size → H1[p]? = H[p]?) : va_P D vwCl [(o, e)] H1 := va_one ((va_of1 hX).kept (ho o (va_of1 hX).lt))
theorem TM.out (hM : TM D kA b g H) (h0 : tg g o = 0) (ho : ∀ p : Nat, p ≠ o → H1[p]? = H[p]?) : TM D kA b g H1 := fun p hp => by
  obtain ⟨h1, e, he, hat⟩ := hM p hp
  exact ⟨h1, e, he, hat.kept (ho p (fun z => hp (by rw [z]; exact h0)))⟩
theorem TM.fresh (hM : TM D kA b g H) : tg g H.size = 0 := Nat.eq_zero_of_not_pos fun z => Nat.lt_irrefl _ (hM.lt (Nat.pos_iff_ne_zero.mp z))
/-- told from now on -/
theorem TM.tell (hM : TM D kA b g H) (h0 : tg g q = 0) (hb : b ≤ q) (hP : va_P D vwCl [(q, e)] H) {t : Nat} {fi : Nat → Int32} {ff : Nat → Nat} {fo : Nat → Option Nat} {fl : Nat → Int64} (hT : TE kA (tg (nw g q t fi ff fo fl)) fi ff fo fl (t % 64) (t / 64) e) : TM D kA b (nw g q t fi ff fo fl) H :=
  hM.add h0 hb hP (fun _ _ => rfl) (t := t) (fun _ => rfl) (fun p hp => ⟨if_neg hp, if_neg hp, if_neg hp, if_neg hp⟩) (by
    rw [show pI (nw g q t fi ff fo fl) q = fi from if_pos rfl, show pF (nw g q t fi ff fo fl) q = ff from if_pos rfl, show pO (nw g q t fi ff fo fl) q = fo from if_pos rfl, show pL (nw g q t fi ff fo fl) q = fl from if_pos rfl]
    exact hT)
theorem nw_t {t : Nat} {fi : Nat → Int32} {ff : Nat → Nat} {fo : Nat → Option Nat} {fl : Nat → Int64} : tg (nw g q t fi ff fo fl) q = t := if_pos rfl
theorem nw_0 {t : Nat} {fi : Nat → Int32} {ff : Nat → Nat} {fo : Nat → Option Nat} {fl : Nat → Int64} (h : o ≠ q) (h0 : tg g o = 0) : tg (nw g q t fi ff fo fl) o = 0 := (if_neg h).trans h0
theorem nw_I {t : Nat} {fi : Nat → Int32} {ff : Nat → Nat} {fo : Nat → Option Nat} {fl : Nat → Int64} : pI (nw g q t fi ff fo fl) q = fi := if_pos rfl
theorem nw_F {t : Nat} {fi : Nat → Int32} {ff : Nat → Nat} {fo : Nat → Option Nat} {fl : Nat → Int64} : pF (nw g q t fi ff fo fl) q = ff := if_pos rfl
theorem nw_O {t : Nat} {fi : Nat → Int32} {ff : Nat → Nat} {fo : Nat → Option Nat} {fl : Nat → Int64} : pO (nw g q t fi ff fo fl) q = fo := if_pos rfl
theorem nw_G {t : Nat} {fi : Nat → Int32} {ff : Nat → Nat} {fo : Nat → Option Nat} {fl : Nat → Int64} (hG : GOK g) (hM : TM D kA b g H) (h0 : tg g q = 0) (ht : t ≠ 26 ∧ t ≠ 1 ∧ t ≠ 17) (h28 : t % 64 = 28 → ∀ m, tg g m = 17 → ff 2 = m) : GOK (nw g q t fi ff fo fl) := by
  have hn : ∀ p : Nat, tg g p ≠ 0 → p ≠ q := fun p hp z => hp (by rw [z]; exact h0)
  have hq : ∀ p : Nat, p ≠ q → tg (nw g q t fi ff fo fl) p = tg g p ∧ pI (nw g q t fi ff fo fl) p = pI g p ∧ pF (nw g q t fi ff fo fl) p = pF g p ∧ pO (nw g q t fi ff fo fl) p = pO g p := fun p hp => ⟨if_neg hp, if_neg hp, if_neg hp, if_neg hp⟩
  refine ⟨fun p hp j hj => ?_, fun p hp j hj => ?_, fun p m hp hm => ?_, fun m n hm hn2 => ?_⟩
  · have e : p ≠ q := fun z => by rw [z, nw_t] at hp; exact ht.1 hp
    obtain ⟨h1, h2, h3, -⟩ := hq p e
    rw [h1] at hp; rw [h2] at hj; rw [h3]
    obtain ⟨-, hf⟩ := o_al (i := 0) (q := p) hM (by omega)
    have h27 := hf.2.1 (fun z => by have z2 : (pI g p 0).toInt = 0 := z; omega)
    rw [(hq _ (hn _ (by omega))).2.2.2]
    exact hG.1 p hp j hj
  · have e : p ≠ q := fun z => by rw [z, nw_t] at hp; exact ht.2.1 hp
    obtain ⟨h1, h2, h3, -⟩ := hq p e
    rw [h1] at hp; rw [h2] at hj; rw [h3]
    obtain ⟨_, _, _, _, -, -, -, h4, -⟩ := o_sno (i := 0) (q := p) hM (by omega)
    rw [(hq _ (hn _ (by omega))).2.2.2]
    exact hG.2.1 p hp j hj
  · have em : m ≠ q := fun z => by rw [z, nw_t] at hm; exact ht.2.2 hm
    rw [(hq m em).1] at hm
    by_cases e : p = q
    · rw [e] at hp ⊢
      rw [nw_t] at hp
      rw [nw_F]
      exact h28 hp m hm
    · rw [(hq p e).1] at hp
      rw [(hq p e).2.2.1]
      exact hG.2.2.1 p m hp hm
  · have em : m ≠ q := fun z => by rw [z, nw_t] at hm; exact ht.2.2 hm
    have en : n ≠ q := fun z => by rw [z, nw_t] at hn2; exact ht.2.2 hn2
    exact hG.2.2.2 m n ((hq m em).1.symm.trans hm) ((hq n en).1.symm.trans hn2)
theorem nw_k {p k t : Nat} {fi : Nat → Int32} {ff : Nat → Nat} {fo : Nat → Option Nat} {fl : Nat → Int64} (hk : tg g p = k) (h : k ≠ 0) (h0 : tg g q = 0) : tg (nw g q t fi ff fo fl) p = k := (if_neg (fun z => h (by rw [← hk, z]; exact h0))).trans hk
theorem Ext.free {m : Nat} {X : Nat → Prop} (h : Ext q X g u) (h0 : tg g q = 0) : Ext m X g u := fun p hp => by
  obtain ⟨a1, a2, a3, a4, a5⟩ := h p hp
  exact ⟨a1, fun j _ => a2 j (Or.inl (fun e => hp (by rw [e]; exact h0))), a3, a4, a5⟩
theorem vr0 {r : Int32} {V U : Prop} (h : (r = 0 ∧ V) ∨ (¬ r = 0 ∧ U)) (c : r = 0) : V := h.elim (fun z => z.2) (fun z => absurd c z.1)
theorem vr1 {r : Int32} {V U : Prop} (h : (r = 0 ∧ V) ∨ (¬ r = 0 ∧ U)) (c : ¬ r = 0) : U := h.elim (fun z => absurd z.1 c) (fun z => z.2)
theorem vr01b {r : Int32} {V U : Prop} (h : (r = 0 ∧ V) ∨ (r = 1 ∧ U)) (c : ¬ r = 0) : r = 1 := h.elim (fun z => absurd z.1 c) (fun z => z.1)
theorem nc01 {r : Int32} {V : Prop} (h : (r = 0 ∧ V) ∨ r = 1) : (r = 0 ∧ V) ∨ (¬ r = 0 ∧ True) := h.imp id (fun z => ⟨fun q => absurd (z.symm.trans q) (by decide), trivial⟩)
theorem vr01 {r : Int32} {V U : Prop} (h : (r = 0 ∧ V) ∨ (r = 1 ∧ U)) : (r = 0 ∧ V) ∨ (¬ r = 0 ∧ U) := h.imp id (fun z => ⟨fun q => absurd (z.1.symm.trans q) (by decide), z.2⟩)
theorem charf {x : Int32} (h : vp_nar .char x = x) : fits .char (.int x) = true := by
  rw [← h, vp_nar_char]
  exact pk_fc x
/-- the model's list -/
theorem mo_list (hM : TM D kA b g H) (h : tg g o = 17) : tg g (pF g o 5) = 26 ∧ 0 ≤ (pI g (pF g o 5) 0).toInt ∧ (pI g (pF g o 5) 0).toInt ≤ 3 := by
  obtain ⟨_, _, -, hf⟩ := o_mo (i := 0) (q := o) hM (by omega)
  have h26 := hf.2.2.2.2.2.1
  obtain ⟨-, hl⟩ := o_al (i := 0) (q := pF g o 5) hM (by omega)
  exact ⟨h26, hl.1⟩
/-- at a constructor's start: the new object is not told yet -/
noncomputable def CXn (D : va_G) (kA : Nat → ClassId) (eD b : Nat) (g : Gh) (o : Nat) (e : va_E) (U : State) : Prop := CX D kA eD b g U ∧ tg g o = 0 ∧ b ≤ o ∧ va_P D vwCl [(o, e)] U.heap
theorem fb_CXn {av : List Value} : FrameBlind (va_Pc av (CXn D kA eD b g o e)) := by
  intro a9 U g9 mk q
  obtain ⟨q0, hc, h6, h7, h8⟩ := q
  exact ⟨q0, (fb_CX (av := av) a9 U g9 mk ⟨q0, hc⟩).2, h6, h7, h8⟩
theorem CXn.give {s U : State} {locs : List Loc} (hc : CX D kA eD b g U) (h0 : tg g o = 0) (hb : b ≤ o) (hX : va_P D vwCl [(o, e)] H) (hU : U.heap = H) : CXn D kA eD b g o e U := ⟨hc, h0, hb, by rw [hU]; exact hX⟩
end XCL

