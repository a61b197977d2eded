/-! what of the told memory changes: the told numbers of some kinds alone -/
def Sx (X : Nat → Prop) (g u : Gh) : Prop := ∀ q : Nat, tg u q = tg g q ∧ (¬ X (tg g q) → pI u q = pI g q) ∧ pF u q = pF g q ∧ pO u q = pO g q ∧ pL u q = pL g q
def XF (i : Nat) : Nat → Prop := fun t => t = 20 + 64 * i
def XD (i : Nat) : Nat → Prop := fun t => t = 13 + 64 * i
def XK (i : Nat) : Nat → Prop := fun t => t = 13 + 64 * i ∨ t = 20 + 64 * i
def XC : Nat → Prop := fun t => t % 64 = 13 ∨ t % 64 = 20
def XR : Nat → Prop := fun t => t = 9 ∨ t = 10
def XG : Nat → Prop := fun t => t % 64 = 13 ∨ t % 64 = 20 ∨ t = 9 ∨ t = 10
section SXL
variable {X Y : Nat → Prop} {g u v : Gh} {q : Nat}
theorem Sx.refl : Sx X g g := fun _ => ⟨rfl, fun _ => rfl, rfl, rfl, rfl⟩
theorem Sx.trans (h1 : Sx X g u) (h2 : Sx X u v) : Sx X g v := fun q => by
  obtain ⟨a1, a2, a3, a4, a5⟩ := h1 q
  obtain ⟨b1, b2, b3, b4, b5⟩ := h2 q
  exact ⟨b1.trans a1, fun z => (b2 (by rw [a1]; exact z)).trans (a2 z), b3.trans a3, b4.trans a4, b5.trans a5⟩
theorem Sx.wide (h : Sx X g u) (hXY : ∀ t, X t → Y t) : Sx Y g u := fun q => by
  obtain ⟨a1, a2, a3, a4, a5⟩ := h q
  exact ⟨a1, fun z => a2 (fun y => z (hXY _ y)), a3, a4, a5⟩
theorem Sx.T (h : Sx X g u) : tg u q = tg g q := (h q).1
theorem Sx.F (h : Sx X g u) : pF u q = pF g q := (h q).2.2.1
theorem Sx.O (h : Sx X g u) : pO u q = pO g q := (h q).2.2.2.1
theorem Sx.L (h : Sx X g u) : pL u q = pL g q := (h q).2.2.2.2
theorem Sx.i (h : Sx X g u) (hX : ¬ X (tg g q)) : pI u q = pI g q := (h q).2.1 hX
theorem Sx.tk (h : Sx X g u) {t : Nat} (hq : tg g q = t) (_ : t ≠ 0) : tg u q = t := (h q).1.trans hq
theorem Sx.uI {f : Nat → Int32} (hX : X (tg g q)) : Sx X g (uI g q f) := fun p => ⟨rfl, fun z => uI_n (fun e => z (by rw [e]; exact hX)), rfl, rfl, rfl⟩
end SXL
theorem fn01 {x : Int32} {p q : Prop} (h : (x = 0 ∧ p) ∨ (x = 1 ∧ q)) : x = 0 ∨ x = 1 := h.imp And.left And.left
theorem isC_updP {n x : Nat} {v : Int32} {f : Nat → Int32} (h : ∀ j, j < n → vp_nar .char (f j) = f j) : ∀ j, j < n → vp_nar .char (upd f x (vp_nar .char v) j) = upd f x (vp_nar .char v) j := isC_upd h
theorem isZ_updP {n x : Nat} {v : Int32} {f : Nat → Int32} (h : ∀ j, j < n → (f j = 0 ∨ f j = 1)) : ∀ j, j < n → (upd f x (vp_nar .boolean v) j = 0 ∨ upd f x (vp_nar .boolean v) j = 1) := isZ_upd h
theorem upd_back {K : Nat → Int32} {j : Nat} {c : Int32} (hc : vp_nar .char (K j) = K j) : upd (upd K j c) j (vp_nar .char (K j)) = K := by
  rw [hc]
  funext k
  unfold upd
  by_cases e : k = j
  · rw [if_pos e, e]
  · rw [if_neg e, if_neg e]
theorem roS {A : Nat → Prop} {H0 H : Heap} {locs : List Loc} (h : va_S (fun _ => False) H0 H locs) : va_S A H0 H locs := ⟨h.1, fun q h1 _ => h.2.1 q h1 (fun z => z), fun l hl => (h.2.2 l hl).elim⟩
theorem pin_keep {D : va_G} {H H1 : Heap} {a : Nat} {e : va_E} (h : va_P D vwCl [(a, e)] H) (hk : ∀ p : Nat, p < H.size → ¬ False → H1[p]? = H[p]?) : va_P D vwCl [(a, e)] H1 := va_one ((va_of1 h).kept (hk a (va_of1 h).lt (fun z => z)))
/-- which cells are marked to fall, up to a place: none that isn't there; x tells whether some are, and else all stand -/
def MF (K F : Nat → Int32) (x : Int32) (j : Nat) : Prop := (∀ k, k < j → F k = 0 ∨ (F k = 1 ∧ ¬ K k = 46)) ∧ ((x = 0 ∧ ∀ k, k < j → ¬ K k = 46 → WS K k) ∨ (x = 1 ∧ ∃ k, k < j ∧ F k = 1))
section MFL
variable {K F : Nat → Int32} {x w : Int32} {j : Nat}
theorem MF.zero : MF K F 0 0 := ⟨fun k h => by omega, Or.inl ⟨rfl, fun k h => by omega⟩⟩
theorem MF.fst (h : MF K F x j) (hw : w = 0 ∨ (w = 1 ∧ ¬ K j = 46)) : ∀ k, k < j + 1 → upd F j w k = 0 ∨ (upd F j w k = 1 ∧ ¬ K k = 46) := fun k hk => by
  by_cases e : k = j
  · subst e
    rw [upd_at]
    exact hw
  · rw [upd_ne e]
    exact h.1 k (by omega)
theorem MF.one (h : MF K F x j) (hw : w = 1) (hk : ¬ K j = 46) : MF K (upd F j w) 1 (j + 1) := ⟨h.fst (Or.inr ⟨hw, hk⟩), Or.inr ⟨rfl, j, by omega, by rw [upd_at]; exact hw⟩⟩
theorem MF.none1 (h : MF K F x j) (hw : w = 0) (hx : ¬ x = 0) (_ : K j = 46 ∨ WS K j) : MF K (upd F j w) 1 (j + 1) := by
  obtain ⟨-, k, h1, h2⟩ := h.2.resolve_left (fun z => hx z.1)
  exact ⟨h.fst (Or.inl hw), Or.inr ⟨rfl, k, by omega, by rw [upd_ne (by omega)]; exact h2⟩⟩
theorem MF.none0 (h : MF K F x j) (hw : w = 0) (hx : x = 0) (hj : K j = 46 ∨ WS K j) : MF K (upd F j w) 0 (j + 1) := by
  have h1 := (h.2.resolve_right (fun z => absurd (z.1.symm.trans hx) (by decide))).2
  refine ⟨h.fst (Or.inl hw), Or.inl ⟨rfl, fun k hk hn => ?_⟩⟩
  by_cases e : k = j
  · subst e
    exact hj.resolve_left hn
  · exact h1 k (by omega) hn
end MFL
/-- what is left when the marked ones up to a place fall -/
def dm (K F : Nat → Int32) (j : Nat) : Nat → Int32 := fun k => if k < j ∧ ¬ F k = 0 then 46 else K k
section DML
variable {K F : Nat → Int32} {j : Nat}
theorem dm_0 : dm K F 0 = K := funext fun k => if_neg (fun z => by omega)
theorem dm_keep (h : F j = 0) : dm K F (j + 1) = dm K F j := funext fun k => by
  unfold dm
  by_cases e : k = j
  · subst e
    rw [if_neg (fun z => z.2 h), if_neg (fun z => z.2 h)]
  · by_cases c : k < j ∧ ¬ F k = 0
    · rw [if_pos c, if_pos ⟨by omega, c.2⟩]
    · rw [if_neg c, if_neg (fun z => c ⟨by omega, z.2⟩)]
theorem dm_fall (h : ¬ F j = 0) : dm K F (j + 1) = upd (dm K F j) j 46 := funext fun k => by
  by_cases e : k = j
  · subst e
    rw [upd_at]
    exact if_pos ⟨by omega, h⟩
  · rw [upd_ne e]
    unfold dm
    by_cases c : k < j ∧ ¬ F k = 0
    · rw [if_pos c, if_pos ⟨by omega, c.2⟩]
    · rw [if_neg c, if_neg (fun z => c ⟨by omega, z.2⟩)]
theorem dm_less (h : ∀ k, k < 48 → F k = 0 ∨ (F k = 1 ∧ ¬ K k = 46)) (hE : ∃ k, k < 48 ∧ F k = 1) : ck (dm K F 48) + 1 ≤ ck K := by
  obtain ⟨k, hk, h1⟩ := hE
  have hn : ¬ F k = 0 := fun z => absurd (z.symm.trans h1) (by decide)
  refine ck_less (j := k) (fun a ha hd => ?_) hk ?_ (if_pos ⟨hk, hn⟩)
  · by_cases c : a < 48 ∧ ¬ F a = 0
    · exact absurd (if_pos c) hd
    · intro z
      exact hd ((if_neg c).trans z)
  · exact ((h k hk).resolve_left hn).2
end DML
theorem fb_CXp {D : va_G} {kA : Nat → ClassId} {eD b : Nat} {g : Gh} {av : List Value} {Pn : Heap → Prop} : FrameBlind (va_Pc av (fun U => CX D kA eD b g U ∧ Pn U.heap)) := by
  intro a U g9 mk q
  obtain ⟨q0, hc, h6⟩ := q
  exact ⟨q0, (fb_CX (av := av) a U g9 mk ⟨q0, hc⟩).2, h6⟩
/-! the river of the class: what is clear is no more than what is thick, and that is bounded by the hours -/
def RVj (th cl : Nat → Int32) (n j : Nat) : Prop := ∀ f, f < 4 → 0 ≤ (cl f).toInt ∧ (cl f).toInt ≤ (th f).toInt ∧ (th f).toInt ≤ (n : Int) + (if f < j then 40 else 0)
section RVL
variable {th cl : Nat → Int32} {n j : Nat} {w : Int32}
theorem RVj.all (h : RVj th cl n 4) : RVj th cl (n + 40) 0 := fun f hf => by
  have h9 := h f hf
  rw [if_pos hf] at h9
  rw [if_neg (by omega)]
  omega
theorem rv_gr {t : Int32} (ht : 0 ≤ t.toInt ∧ t.toInt ≤ 20160) (hw : -400 ≤ w.toInt ∧ w.toInt < 0) : 0 ≤ (-w / (10 + (if 0 < t then t else 0) / 20)).toInt ∧ (-w / (10 + (if 0 < t then t else 0) / 20)).toInt ≤ 40 := by
  obtain ⟨j, hj, rfl⟩ := toN (p := t) (k := 20160) ht.1 ht.2 (by decide)
  have e0 : (if (0 : Int32) < nI j then nI j else 0) = nI j := by
    by_cases z : (0 : Int32) < nI j
    · rw [if_pos z]
    · rw [if_neg z]
      have h0 : ¬ ((0 : Int32).toInt < (nI j).toInt) := fun q => z (Int32.lt_iff_toInt_lt.mpr q)
      rw [nI_toInt (by omega), show (0 : Int32).toInt = 0 by decide] at h0
      rw [show j = 0 by omega]
      decide
  rw [e0]
  have en : (-w).toInt = -w.toInt := neg_i (by omega)
  obtain ⟨k, hk, ek⟩ := toN (p := -w) (k := 400) (by omega) (by omega) (by decide)
  rw [ek, show (nI j : Int32) / 20 = nI (j / 20) from pk_div (a := j) (d := 20) (by omega) (by decide) (by decide), show (10 : Int32) + nI (j / 20) = nI (10 + j / 20) from nI_add 10 (j / 20)]
  rw [show (nI k : Int32) / nI (10 + j / 20) = nI (k / (10 + j / 20)) from pk_div (by omega) (by omega) (by omega)]
  have hd : k / (10 + j / 20) ≤ 40 := Nat.le_trans (Nat.div_le_div_left (show 10 ≤ 10 + j / 20 by omega) (by omega)) (show k / 10 ≤ 40 by omega)
  generalize k / (10 + j / 20) = q at hd ⊢
  rw [nI_toInt (by omega)]
  omega
theorem rv_neg {a : Int32} (h : RVj th cl n j) (hj : j < 4) (hn : n ≤ 20160) (hw : -400 ≤ w.toInt ∧ w.toInt < 0) (ha : a = -w / (10 + (if 0 < th j then th j else 0) / 20) ∨ a = 0) : RVj (upd th j (th j + -w / (10 + (if 0 < th j then th j else 0) / 20))) (upd cl j (cl j + a)) n (j + 1) := fun f hf => by
  obtain ⟨h1, h2, h3⟩ := h j hj
  rw [if_neg (by omega)] at h3
  have hg := rv_gr (t := th j) ⟨by omega, by omega⟩ hw
  generalize -w / (10 + (if 0 < th j then th j else 0) / 20) = q at hg ha ⊢
  by_cases e : f = j
  · subst e
    rw [upd_at, upd_at, if_pos (by omega)]
    have e1 := add_i (x := th f) (y := q) (by omega) (by omega)
    rcases ha with rfl | rfl
    · have e2 := add_i (x := cl f) (y := a) (by omega) (by omega)
      omega
    · rw [Int32.add_zero]
      omega
  · rw [upd_ne e, upd_ne e]
    have h9 := h f hf
    by_cases c : f < j
    · rw [if_pos c] at h9
      rw [if_pos (by omega)]
      exact h9
    · rw [if_neg c] at h9
      rw [if_neg (by omega)]
      exact h9
theorem rv_pos {T X : Int32} (h : RVj th cl n j) (hj : j < 4) (hn : n ≤ 20160) (hw : 0 ≤ w.toInt ∧ w.toInt ≤ 200) (hX : X = if 0 < th j - w / 10 then th j - w / 10 else 0) (hT : T = X) : RVj (upd th j X) (upd cl j (if T < cl j then T else cl j)) n (j + 1) := fun f hf => by
  obtain ⟨h1, h2, h3⟩ := h j hj
  rw [if_neg (by omega)] at h3
  subst hT
  have hb : 0 ≤ T.toInt ∧ T.toInt ≤ (th j).toInt := by
    obtain ⟨t, ht, et⟩ := toN (p := th j) (k := 20160) (by omega) (by omega) (by decide)
    obtain ⟨v, hv, ev⟩ := toN (p := w) (k := 200) (by omega) (by omega) (by decide)
    rw [et, ev, show (nI v : Int32) / 10 = nI (v / 10) from pk_div (a := v) (d := 10) (by omega) (by decide) (by decide)] at hX
    have es := pk_sub_toInt (a := t) (b := v / 10) (by omega) (by omega)
    rw [hX, et, nI_toInt (n := t) (by omega)]
    by_cases z : (0 : Int32) < nI t - nI (v / 10)
    · rw [if_pos z, es]
      rw [Int32.lt_iff_toInt_lt, es] at z
      have z0 : (0 : Int32).toInt = 0 := by decide
      omega
    · rw [if_neg z, show (0 : Int32).toInt = 0 by decide]
      omega
  by_cases e : f = j
  · subst e
    rw [upd_at, upd_at]
    by_cases z : T < cl f
    · rw [if_pos z, if_pos (show f < f + 1 by omega)]
      omega
    · rw [if_neg z, if_pos (show f < f + 1 by omega)]
      have z2 : ¬ (T.toInt < (cl f).toInt) := fun q => z (Int32.lt_iff_toInt_lt.mpr q)
      omega
  · rw [upd_ne e, upd_ne e]
    have h9 := h f hf
    by_cases c : f < j
    · rw [if_pos c] at h9
      rw [if_pos (by omega)]
      exact h9
    · rw [if_neg c] at h9
      rw [if_neg (by omega)]
      exact h9
end RVL
theorem fill46 {f : Nat → Int32} {j : Nat} (h : ∀ k, k < j → f k = 46) : ∀ k, k < j + 1 → upd f j (vp_nar .char 46) k = 46 := fun k hk => by
  by_cases e : k = j
  · subst e
    rw [upd_at]
    decide
  · rw [upd_ne e]
    exact h k (by omega)
theorem nw_In {g : Gh} {p q t : Nat} {fi : Nat → Int32} {ff : Nat → Nat} {fo : Nat → Option Nat} {fl : Nat → Int64} (h : p ≠ q) : pI (nw g q t fi ff fo fl) p = pI g p := if_neg h
/-- all sites stand; the river; both -/
def ST (g : Gh) (o : Nat) : Prop := ∀ j : Nat, (j : Int) < (pI g o 0).toInt → ∀ a, pO g (pF g o 2) j = some a → STF (pI g (pF g a 0))
def RV (g : Gh) (o n : Nat) : Prop := RVj (pI g (pF g (pF g o 1) 0)) (pI g (pF g (pF g o 1) 1)) n 0
def P2 (g : Gh) (o : Nat) : Prop := ST g o ∧ RV g o (40 * (pI g o 1).toInt.toNat)
def WB (g : Gh) (o : Nat) : Prop := ∀ d, d < 21 → -400 ≤ (pI g (pF g (pF g o 0) 0) d).toInt ∧ (pI g (pF g (pF g o 0) 0) d).toInt ≤ (pI g (pF g (pF g o 0) 1) d).toInt ∧ (pI g (pF g (pF g o 0) 1) d).toInt ≤ 200
section P2L
variable {D : va_G} {kA : Nat → ClassId} {b o m i a : Nat} {g u : Gh} {H : Heap} {X : Nat → Prop}
theorem site_tag (hM : TM D kA b g H) (ho : tg g o = 1) {j : Nat} (hj : (j : Int) < (pI g o 0).toInt) {c : Nat} (hc : pO g (pF g o 2) j = some c) : tg g c = 12 + 64 * j ∧ tg g (pF g c 0) = 13 + 64 * j := by
  obtain ⟨_, _, _, _, -, h1⟩ := o_sno (i := 0) (q := o) hM (by omega)
  have h4 := h1.2.2.1
  have h3 := h1.2.2.2.1
  obtain ⟨-, h2⟩ := o_sit (i := 0) (q := pF g o 2) hM (by omega)
  have hc9 := h2 j (by omega) c hc
  obtain ⟨_, _, _, _, _, _, -, h8⟩ := o_st (i := j) (q := c) hM (by omega)
  exact ⟨hc9, h8.1⟩
theorem river_tag (hM : TM D kA b g H) (ho : tg g o = 1) : tg g (pF g o 0) = 2 ∧ tg g (pF g o 1) = 3 ∧ tg g (pF g (pF g o 1) 0) = 9 ∧ tg g (pF g (pF g o 1) 1) = 10 := by
  obtain ⟨_, _, _, _, -, h1⟩ := o_sno (i := 0) (q := o) hM (by omega)
  have h3 := h1.2.1
  obtain ⟨-, h2⟩ := o_riv (i := 0) (q := pF g o 1) hM (by omega)
  exact ⟨h1.1, h3, h2.1, h2.2.1⟩
/-- one site has another look and stands, the others are as they were -/
theorem ST.at (hs : ST g o) (hM : TM D kA b g H) (ho : tg g o = 1) (hx : Sx (XK i) g u) (ha : pO g (pF g o 2) i = some a) (hst : STF (pI u (pF g a 0))) : ST u o := fun j hj c hc => by
  rw [hx.i (by rw [ho]; simp only [XK]; omega)] at hj
  rw [hx.F, hx.O] at hc
  rw [hx.F]
  by_cases e : j = i
  · subst e
    rw [ha] at hc
    cases hc
    exact hst
  · have ht := (site_tag hM ho hj hc).2
    rw [hx.i (by rw [ht]; simp only [XK]; omega)]
    exact hs j hj c hc
theorem ST.same (hs : ST g o) (hM : TM D kA b g H) (ho : tg g o = 1) (hx : Sx X g u) (h1 : ¬ X 1) (h13 : ∀ j, ¬ X (13 + 64 * j)) : ST u o := fun j hj c hc => by
  rw [hx.i (by rw [ho]; exact h1)] at hj
  rw [hx.F, hx.O] at hc
  have ht := (site_tag hM ho hj hc).2
  rw [hx.F, hx.i (by rw [ht]; exact h13 j)]
  exact hs j hj c hc
theorem RV.same {n : Nat} (h : RV g o n) (hM : TM D kA b g H) (ho : tg g o = 1) (hx : Sx X g u) (h9 : ¬ X 9) (h10 : ¬ X 10) : RV u o n := by
  obtain ⟨-, -, t1, t2⟩ := river_tag hM ho
  unfold RV at h ⊢
  rw [hx.F, hx.F, hx.i (by rw [t1]; exact h9), hx.i (by rw [t2]; exact h10)]
  exact h
theorem Sx.setI {q k : Nat} {x : Int32} (h : Sx X g u) : Sx X (sI g q k x) (sI u q k x) := fun p => by
  obtain ⟨a1, a2, a3, a4, a5⟩ := h p
  refine ⟨a1, fun z => ?_, a3, a4, a5⟩
  have z2 : ¬ X (tg g p) := z
  show (if p = q then upd (pI u q) k x else pI u p) = (if p = q then upd (pI g q) k x else pI g p)
  by_cases e : p = q
  · rw [if_pos e, if_pos e, ← e, a2 z2]
  · rw [if_neg e, if_neg e, a2 z2]
theorem ST.st1 {k t : Nat} {x : Int32} (hs : ST g o) (hM : TM D kA b g H) (ho : tg g o = 1) (ha : tg g a = t) (h13 : t % 64 ≠ 13) (hk : a ≠ o ∨ k ≠ 0) : ST (sI g a k x) o := fun j hj c hc => by
  rw [sI_ne (hk.imp Ne.symm Ne.symm)] at hj
  have hc9 : pO g (pF g o 2) j = some c := hc
  have ht := (site_tag hM ho hj hc9).2
  have e : pI (sI g a k x) (pF g c 0) = pI g (pF g c 0) := funext fun q => sI_ne (Or.inl (fun e9 => by rw [e9, ha] at ht; omega))
  show STF (pI (sI g a k x) (pF g c 0))
  rw [e]
  exact hs j hj c hc9
theorem RV.st1 {k t n : Nat} {x : Int32} (h : RV g o n) (hM : TM D kA b g H) (ho : tg g o = 1) (ha : tg g a = t) (ht : t ≠ 9 ∧ t ≠ 10) : RV (sI g a k x) o n := by
  obtain ⟨-, -, t1, t2⟩ := river_tag hM ho
  have e1 : pI (sI g a k x) (pF g (pF g o 1) 0) = pI g (pF g (pF g o 1) 0) := funext fun q => sI_ne (Or.inl (fun e9 => by rw [e9, ha] at t1; omega))
  have e2 : pI (sI g a k x) (pF g (pF g o 1) 1) = pI g (pF g (pF g o 1) 1) := funext fun q => sI_ne (Or.inl (fun e9 => by rw [e9, ha] at t2; omega))
  show RVj (pI (sI g a k x) (pF g (pF g o 1) 0)) (pI (sI g a k x) (pF g (pF g o 1) 1)) n 0
  rw [e1, e2]
  exact h
theorem WB.go {x : Int32} (hw : WB g o) (hM : TM D kA b g H) (ho : tg g o = 1) (hx : Sx XG (sI g o 1 x) u) : WB u o := fun d hd => by
  have t2 := (river_tag hM ho).1
  obtain ⟨-, h5⟩ := o_sky (i := 0) (q := pF g o 0) hM (by omega)
  have t5 := h5.1
  have t6 := h5.2.1
  have e0 : pF u = pF g := funext fun q => hx.F
  have k : ∀ q, (tg g q = 5 ∨ tg g q = 6) → pI u q = pI g q := fun q hq => (hx.i (show ¬ XG (tg g q) by simp only [XG]; omega)).trans (funext fun z => sI_ne (Or.inl (fun e9 => by rw [e9] at hq; omega)))
  rw [e0, k _ (Or.inl t5), k _ (Or.inr t6)]
  exact hw d hd
theorem wOf_bd (hw : WB g o) {h : Int32} : -400 ≤ (wOf (pI g (pF g (pF g o 0) 0)) (pI g (pF g (pF g o 0) 1)) h).toInt ∧ (wOf (pI g (pF g (pF g o 0) 0)) (pI g (pF g (pF g o 0) 1)) h).toInt ≤ 200 := by
  unfold wOf
  by_cases e : 0 ≤ h.toInt ∧ h.toInt ≤ 503
  · rw [if_pos e]
    exact wN_bd (hw _ (by omega))
  · rw [if_neg e]
    exact ⟨by decide, by decide⟩
end P2L

