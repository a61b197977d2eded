
/-! arrays of arrays of ints: the rows follow va_AO.moved, va_newq, va_aldq, va_astq -/
noncomputable def AOI (U : State) : Prop := (Cond.arrayOver (.array .int)).before #[] U = true
theorem AOI.moved {u U : State} (hvm : u.vm.Alike U.vm) (h : AOI u) : AOI U := by
  obtain ⟨comp, c, k, h1, h2, h3, h4, h5⟩ := arrayOverA_spec (args := #[]) (first := u) (s := u) (o := none) (idx := []) h
  obtain ⟨k', hk', he⟩ := hvm.2.2 _ _ h3
  have hi := ((va_idx_bare U.vm comp).symm.trans (by first | rw [hvm.bare_eq] | rw [← hvm.bare_eq])).trans ((va_idx_bare u.vm comp).trans h2)
  have hkind : k'.kind = .array comp (.array .int) := by rw [he]; exact h4
  have f1 : U.vm.findClass (FieldType.array .int).toString = some comp := by rw [hvm.findClass]; exact h1
  have f2 : U.vm.findClass ("[" ++ (FieldType.array .int).toString) = some c := by rw [hvm.findClass]; exact h5
  unfold AOI Cond.before Cond.holds
  simp only [Cond.value]
  rw [f1, Option.bind_some]
  refine (congrArg (fun o : Option Nat => (o.bind (fun c => (U.vm.classes[c]?).map fun (k : Class) => match k.kind with | .array _ ty => decide (ty = FieldType.array .int) && decide (U.vm.findClass ("[" ++ (FieldType.array .int).toString) = some c) | _ => false) == some true)) hi).trans ?_
  simp [hk', hkind, f2]
section MYA
variable {p : Program} {l : Launch} {e : Env} {R : Room} {s : State} {m : MethodId} {args : Array Value} {below : List Frame} {meth : Method} {c : Code} {H : Heap} {locs : List Loc} {cells slots : Nat} {Q : State → Prop}
variable {pc : Nat} {ls : Array Slot} {rest : List Value} {D : va_G} {cl : List vw_C} {A : Nat → Prop} {a : Nat} {tys : List (ClassId × FieldType)} {ws : va_W} {H0 : Heap} {cc : ByteArray}
theorem my_ald2 (hexec : p.tables.exec = Jvm.exec) (hb : c.code = cc) (hK : va_K D cl tys s) (hP : va_P D cl ws H) (q0 t0 : Nat) {cA : ClassId} {n : Nat} {f : Nat → Option Nat} (ha : ws[q0]? = some (a, .inl (cA, n, .inr (.inr (.inr (.inr f)))))) (ht : tys[t0]? = some (cA, .array .int)) {i : Int32} (hin : vp_in i n) {y : Nat} (hy : f i.toNatClampNeg = some y) (hdg : decode cc pc = .ok (.aaload, 1))
    (kk : W p l e R s m args below meth c H locs cells slots Q (F0 m (pc + 1) ls (.ref y :: rest))) : W p l e R s m args below meth c H locs cells slots Q (F0 m pc ls (.int i :: .ref a :: rest)) := by
  have hlt : i.toNatClampNeg < n := Nat.not_le.mp fun q => hin (Or.inr q)
  have e0 : va_rf (f i.toNatClampNeg) = .ref y := by rw [hy]; rfl
  rw [← e0] at kk
  exact W.aald (v := va_rf (f i.toNatClampNeg)) (ty := .array .int) hexec hb (hP q0 _ ha) ((hK.2 t0 _ ht).1 n (fun j => va_rf (f j))) rfl (fun q => by cases q) (by show ¬ (i < 0 ∨ (arrV _ _ _).slots.size ≤ _); rw [arrV_size]; exact hin) (by show (arrV _ _ _).slots[_]? = _; rw [arrV_read _ _ hlt]) rfl rfl hdg kk
theorem my_ast2 (hexec : p.tables.exec = Jvm.exec) (hb : c.code = cc) (hover : AOI s) (hK : va_K D cl tys s) (hP : va_P D cl ws H) (hD : va_D A ws) (hS : va_S A H0 H locs) (q0 t0 qk t1 : Nat) {cA cR : ClassId} {n N v : Nat} {g : Nat → Int32} {f : Nat → Option Nat} (ha : ws[q0]? = some (a, .inl (cA, n, .inr (.inr (.inr (.inr f)))))) (ht : tys[t0]? = some (cA, .array .int)) (hv : ws[qk]? = some (v, .inl (cR, N, .inl g))) (ht1 : tys[t1]? = some (cR, .int)) {i : Int32} (hin : vp_in i n) (hdg : decode cc pc = .ok (.aastore, 1))
    (kk : ∀ (H1 : Heap) (locs1 : List Loc), va_P D cl (ws.set q0 (a, .inl (cA, n, .inr (.inr (.inr (.inr (va_up f i.toNatClampNeg (some v)))))))) H1 → va_D A (ws.set q0 (a, .inl (cA, n, .inr (.inr (.inr (.inr (va_up f i.toNatClampNeg (some v)))))))) → va_S A H0 H1 locs1 → W p l e R s m args below meth c H1 locs1 cells slots Q (F0 m (pc + 1) ls rest)) : W p l e R s m args below meth c H locs cells slots Q (F0 m pc ls (.ref v :: .int i :: .ref a :: rest)) := by
  have hlt : i.toNatClampNeg < n := Nat.not_le.mp fun q => hin (Or.inr q)
  have h0 : ¬ i < 0 := fun q => hin (Or.inl q)
  obtain ⟨comp, cA2, kA, k3, -, k1, k2, k4⟩ := arrayOverA_spec (args := #[]) (first := s) (s := s) (o := none) (idx := []) hover
  cases ((hK.2 t0 _ ht).2 : s.vm.findClass ("[" ++ (FieldType.array .int).toString) = some cA).symm.trans k4
  have hcR : s.vm.findClass (FieldType.array .int).toString = some cR := (hK.2 t1 _ ht1).2
  cases k3.symm.trans hcR
  obtain ⟨kE, hkE, -⟩ := Vm.findClass_spec k3
  refine W.aast hexec hb (hP q0 _ ha) (fun q h => by cases h) (fun h => by cases h) k1 k2 rfl hkE ⟨h0, by show _ < (arrV _ _ _).slots.size; rw [arrV_size]; exact hlt⟩ (hP qk _ hv) (fun q h => by cases h) hkE (Vm.assignable_self _ _) rfl rfl hdg fun H1 e z oq => ?_
  refine kk H1 _ (hP.set hD ha ?_ oq) (hD.set ha) (hS.put z oq (hD.2 q0 _ ha))
  show H1[a]? = some (vp_cell _ _)
  rw [e]
  rw [vp_cell_q, vp_cell_q, arrV_store]
  congr 2
  funext q
  by_cases hq : q = i.toNatClampNeg
  · subst hq
    simp [updV, va_up, va_rf]
  · simp [updV, va_up, hq]
theorem my_newA (hexec : p.tables.exec = Jvm.exec) (hb : c.code = cc) {own : String} {index : Nat} (hown : s.vm.findClass own = some m.cls) (hclink : (Cond.classLink own index (FieldType.array .int).toString).before args s = true) (hover : AOI s) (hK : va_K D cl tys s) (hP : va_P D cl ws H) (hD : va_D A ws) (hS : va_S A H0 H locs) (hA : ∀ q, H0.size ≤ q → A q)
    {n : Int32} {N' : Nat} (hn : ¬ n < 0) (hN : n.toNatClampNeg = N') (hbytes : N' * 4 ≤ 536870912) (hcells : cells + 1 ≤ R.cells) (hslots : slots + N' ≤ R.slots) (hdg : decode cc pc = .ok (.anewarray index, 3))
    (kk : ∀ (q : Nat) (cA : ClassId) (H1 : Heap), va_K D cl (tys ++ [(cA, .array .int)]) s → va_P D cl (ws ++ [(q, .inl (cA, N', .inr (.inr (.inr (.inr (fun _ => none))))))]) H1 → va_D A (ws ++ [(q, .inl (cA, N', .inr (.inr (.inr (.inr (fun _ => none))))))]) → va_S A H0 H1 locs →
      W p l e R s m args below meth c H1 locs (cells + 1) (slots + N') Q (F0 m (pc + 3) ls (.ref q :: rest))) : W p l e R s m args below meth c H locs cells slots Q (F0 m pc ls (.int n :: rest)) := by
  subst hN
  refine W.anewA hexec hb hown hclink hover rfl hdg rfl hn hbytes hcells hslots fun cA kA comp f1 f2 f3 f4 => ?_
  generalize hH1 : H.push ({ cls := cA, slots := Array.replicate n.toNatClampNeg .null, vm := .none } : Cell) = H1
  have z1 : H1.size = H.size + 1 := by rw [← hH1, Array.size_push]
  have e1 : H1[H.size]? = some (arrV cA n.toNatClampNeg (fun _ => .null)) := by rw [← hH1, Array.getElem?_push_size, ← arrV_new]
  have o1 : ∀ q : Nat, q < H.size → H1[q]? = H[q]? := fun q hq => by rw [← hH1, Array.getElem?_push, if_neg (Nat.ne_of_lt hq)]
  have hAr : ArrOfT s cA (.array .int) := fun N z => ⟨(fun k h => by cases h), kA, f2, comp, f3⟩
  have hk : ∀ (k : Nat) (x : Nat × va_E), ws[k]? = some x → H1[x.1]? = H[x.1]? := fun k x hx => o1 x.1 ((hP k x hx).lt)
  refine kk H.size cA H1 ⟨hK.1, fun k x hx => ?_⟩ ((hP.kept hk).app (fun k x hx => ?_)) (hD.push hP rfl (hA _ hS.1)) ⟨Nat.le_trans hS.1 (by omega), fun x h1 h2 => (o1 x (Nat.lt_of_lt_of_le h1 hS.1)).trans (hS.2.1 x h1 h2), hS.2.2⟩
  · by_cases hl : k < tys.length
    · rw [List.getElem?_append_left hl] at hx
      exact hK.2 k x hx
    · rw [List.getElem?_append_right (by omega)] at hx
      have hz : k - tys.length < 1 := (List.getElem?_eq_some_iff.mp hx).1
      rw [show k - tys.length = 0 by omega] at hx
      cases hx
      exact ⟨hAr, f1⟩
  · have hz : k < 1 := (List.getElem?_eq_some_iff.mp hx).1
    rw [show k = 0 by omega] at hx
    cases hx
    show H1[H.size]? = some (vp_cell _ _)
    rw [vp_cell_q]
    exact e1
end MYA
/-! numbers -/
theorem toN {p : Int32} {k : Nat} (h0 : 0 ≤ p.toInt) (h1 : p.toInt ≤ k) (hk : k < 2 ^ 31) : ∃ j : Nat, j ≤ k ∧ p = nI j := by
  refine ⟨p.toInt.toNat, by omega, Int32.toInt_inj.mp ?_⟩
  rw [nI_toInt (by omega)]
  omega
theorem d24 {p : Int32} (h0 : 0 ≤ p.toInt) (h1 : p.toInt ≤ 20) : (0 : Int32) ≤ 24 * p := by
  obtain ⟨j, hj, rfl⟩ := toN h0 (k := 20) (by omega) (by decide)
  show (0 : Int32) ≤ nI 24 * nI j
  rw [pk_mul]
  exact nI_pos' (by omega)
theorem inI {p : Int32} {n : Nat} (h0 : 0 ≤ p.toInt) (h1 : p.toInt < n) : vp_in p n := vp_in_iff.mpr ⟨h0, h1⟩
theorem clI {p : Int32} {n : Nat} (h : vp_in p n) : p.toNatClampNeg < n := Nat.not_le.mp fun q => h (Or.inr q)
/-- the warmth of an hour of a fresh city -/
noncomputable def w0 (n : Nat) : Int32 := if n = 504 then -150 else (-150) + 100 * (nI (if n % 24 ≤ 12 then n % 24 else 24 - n % 24)) / 12
theorem w0_4 : w0 504 = -150 := rfl
theorem w0_1 {n : Nat} (hn : n ≠ 504) (h : n % 24 ≤ 12) : w0 n = (-150) + 100 * nI (n % 24) / 12 := by
  unfold w0
  rw [if_neg hn, if_pos h]
theorem w0_2 {n : Nat} (hn : n ≠ 504) (h : ¬ n % 24 ≤ 12) : w0 n = (-150) + 100 * (24 - nI (n % 24)) / 12 := by
  unfold w0
  rw [if_neg hn, if_neg h]
  rw [show (24 : Int32) - nI (n % 24) = nI (24 - n % 24) from pk_sub (a := 24) (b := n % 24) (by omega)]
theorem dv24 {n : Nat} (h : n ≤ 504) : nI n / 24 = nI (n / 24) := pk_div (d := 24) (by omega) (by decide) (by decide)
theorem rm24 {n : Nat} (h : n ≤ 504) : nI n - nI n / 24 * 24 = nI (n % 24) := pk_rem (d := 24) (by omega) (by decide) (by decide)
theorem lt12 {k : Nat} (hk : k < 2 ^ 31) : (12 : Int32) < nI k ↔ 12 < k := nI_ltI (a := 12) (by decide) hk
theorem lcmp0 {x : Int32} {v w : Int64} (e : x = lg_cmp v w) (h : v = w) : x = 0 := by
  rw [e, h]
  unfold lg_cmp
  rw [if_neg (by simp), if_pos rfl]
theorem ne504 {n : Nat} (hn : n ≤ 504) (h : (nI n).toInt ≤ 503) : n ≠ 504 := by
  rw [nI_toInt (by omega)] at h
  omega
theorem is504 {n : Nat} (hn : n ≤ 504) (h : ¬ (0 ≤ (nI n).toInt ∧ (nI n).toInt ≤ 503)) : n = 504 := by
  rw [nI_toInt (by omega)] at h
  omega
theorem w0_neg {n : Nat} (hn : n ≤ 504) : w0 n < 0 := by
  have : ∀ k, k ≤ 504 → w0 k < 0 := by decide +kernel
  exact this n hn
theorem w0_lo {n : Nat} (hn : n ≤ 504) : (-150 : Int) ≤ (w0 n).toInt ∧ (w0 n).toInt ≤ -50 := by
  have : ∀ k, k ≤ 504 → (-150 : Int) ≤ (w0 k).toInt ∧ (w0 k).toInt ≤ -50 := by decide +kernel
  exact this n hn


/-- a truth as an int -/
noncomputable def bI (c : Prop) [Decidable c] : Int32 := if c then 1 else 0
theorem bI_f0 {c : Prop} [Decidable c] {r : Int32} (h : r = bI c) (q : ¬ c) : r = 0 := by rw [h]; exact if_neg q
theorem bI_t1 {c : Prop} [Decidable c] {r : Int32} (h : r = bI c) (q : c) : r = 1 := by rw [h]; exact if_pos q
theorem bI_t {c : Prop} [Decidable c] {r : Int32} (h : r = bI c) (h1 : ¬ r = 0) : c := by
  by_cases q : c
  · exact q
  · exact absurd (bI_f0 h q) h1
theorem bI_f {c : Prop} [Decidable c] {r : Int32} (h : r = bI c) (h1 : r = 0) : ¬ c := by
  intro q
  rw [bI_t1 h q] at h1
  exact absurd h1 (by decide)
theorem bI_nar {c : Prop} [Decidable c] {r : Int32} (h : r = bI c) : narrow .boolean (.int r) = .int r := by
  rw [h]
  unfold bI
  split <;> rfl
/-- the world's rows where nothing that is known was touched -/
theorem kp_P {D : va_G} {cl : List vw_C} {ws : va_W} {H H1 : Heap} (hP : va_P D cl ws H) (hk : ∀ q : Nat, q < H.size → ¬ (fun _ : Nat => False) q → H1[q]? = H[q]?) : va_P D cl ws H1 := hP.kept (fun k q h => hk q.1 (hP k q h).lt (fun z => z))
/-- a method's world at its start -/
noncomputable def PW (dC : Nat → ClassId) (dI : Nat → Nat → Nat) (W : va_W) (tys : List (ClassId × FieldType)) (sz : Nat) (U : State) : Prop :=
  U.heap.size = sz ∧ va_P (dC, dI) vwCl W U.heap ∧ va_K (dC, dI) vwCl tys U ∧ va_D (fun _ => True) W
theorem fb_PW {dC : Nat → ClassId} {dI : Nat → Nat → Nat} {W : va_W} {tys : List (ClassId × FieldType)} {sz : Nat} {av : List Value} : FrameBlind (va_Pc av (PW dC dI W tys sz)) := by
  intro a U g mk q
  obtain ⟨q0, q1, qP, qK, qD⟩ := q
  exact ⟨q0, q1, qP, va_K.moved (u := U) (U := U.calling g mk a) (Vm.Alike.refl U.vm) qK, qD⟩
theorem PW.give {dC : Nat → ClassId} {dI : Nat → Nat → Nat} {ws wc : va_W} {tys tc : List (ClassId × FieldType)} {H : Heap} {A : Nat → Prop} {s U : State} (hP : va_P (dC, dI) vwCl ws H) (hK : va_K (dC, dI) vwCl tys s) (hD : va_D A ws) (isC isT : List Nat)
    (hC : isC.filterMap (fun i => ws[i]?) = wc) (hT : isT.filterMap (fun i => tys[i]?) = tc) (hn : va_nd isC = true) (hC2 : isC.map (fun i => ws[i]?) = wc.map some) (hU : U.heap = H) (hW : s.WarmedH U.vm) : PW dC dI wc tc H.size U :=
  ⟨by rw [hU], by rw [hU]; exact hP.sub isC hC, va_K.moved hW.alike (hK.sub isT hT), (hD.sub isC hn hC2).weaken (fun _ _ _ _ => trivial)⟩
/-- a method's world behind it -/
noncomputable def BW (dC : Nat → ClassId) (dI : Nat → Nat → Nat) (A : Nat → Prop) (W : va_W) (tys : List (ClassId × FieldType)) (t : State) : Prop :=
  va_P (dC, dI) vwCl W t.heap ∧ va_K (dC, dI) vwCl tys t ∧ va_D A W
theorem BW.end {dC : Nat → ClassId} {dI : Nat → Nat → Nat} {ws wc : va_W} {tys tc : List (ClassId × FieldType)} {H : Heap} {A : Nat → Prop} {s t : State} (hP : va_P (dC, dI) vwCl ws H) (hK : va_K (dC, dI) vwCl tys s) (hD : va_D A ws) (isC isT : List Nat)
    (hC : isC.filterMap (fun i => ws[i]?) = wc) (hT : isT.filterMap (fun i => tys[i]?) = tc) (hn : va_nd isC = true) (hC2 : isC.map (fun i => ws[i]?) = wc.map some) (ht : t.heap = H) (hW : s.WarmedH t.vm) : BW dC dI A wc tc t :=
  ⟨by rw [ht]; exact hP.sub isC hC, va_K.moved hW.alike (hK.sub isT hT), hD.sub isC hn hC2⟩
/-- behind a call: the rest beside what came back -/
theorem aft {dC : Nat → ClassId} {dI : Nat → Nat → Nat} {ws wc wr w1 : va_W} {tys t1 : List (ClassId × FieldType)} {H H1 : Heap} {A : Nat → Prop} {s t : State} (isC isR : List Nat) (hP : va_P (dC, dI) vwCl ws H) (hK : va_K (dC, dI) vwCl tys s) (hD : va_D A ws)
    (hC : isC.map (fun i => ws[i]?) = wc.map some) (hR : isR.map (fun i => ws[i]?) = wr.map some) (hn : va_nd isR = true) (hdis : ∀ i ∈ isR, i ∉ isC) (hF : ∀ q, va_A wc H.size q → A q)
    (hB : BW dC dI (va_A wc H.size) w1 t1 t) (ht : t.heap = H1) (hvm : s.vm.Alike t.vm) (hk1 : ∀ q : Nat, q < H.size → ¬ va_A wc H.size q → H1[q]? = H[q]?) :
    va_P (dC, dI) vwCl (wr ++ w1) H1 ∧ va_D A (wr ++ w1) ∧ va_K (dC, dI) vwCl (tys ++ t1) s := by
  obtain ⟨hP1, hK1, hD1⟩ := hB
  rw [ht] at hP1
  obtain ⟨a, b⟩ := va_join hP hD isC isR hC hR hn hdis hk1 hF hP1 hD1
  exact ⟨a, b, hK.app (va_K.moved hvm.symm hK1)⟩
/-- .. nothing is known of what came back -/
theorem aft0 {dC : Nat → ClassId} {dI : Nat → Nat → Nat} {ws wc wr : va_W} {H H1 : Heap} {A : Nat → Prop} (isC isR : List Nat) (hP : va_P (dC, dI) vwCl ws H) (hD : va_D A ws)
    (hC : isC.map (fun i => ws[i]?) = wc.map some) (hR : isR.map (fun i => ws[i]?) = wr.map some) (hn : va_nd isR = true) (hdis : ∀ i ∈ isR, i ∉ isC) (hF : ∀ q, va_A wc H.size q → A q)
    (hk1 : ∀ q : Nat, q < H.size → ¬ va_A wc H.size q → H1[q]? = H[q]?) : va_P (dC, dI) vwCl wr H1 ∧ va_D A wr := by
  obtain ⟨a, b⟩ := va_join (w1 := []) hP hD isC isR hC hR hn hdis hk1 hF (fun k q h => by simp at h) ⟨fun i j p q h => by simp at h, fun k q h => by simp at h⟩
  rw [List.append_nil] at a b
  exact ⟨a, b⟩
/-! what a throw needs -/
noncomputable abbrev exN : List String := ["java/lang/RuntimeException", "java/lang/Exception"]
noncomputable def thr_all : List Cond := vx_atS RX3 60 "java/lang/IllegalArgumentException" exN ++ (vx_atS RX3 67 "java/lang/UnsupportedOperationException" exN ++ (vx_atS RX3 96 "java/lang/IllegalStateException" exN ++ (vx_atS RX3 139 "java/lang/IndexOutOfBoundsException" exN ++ (vx_atS RX3 184 "java/util/NoSuchElementException" exN ++ vx_atS RX3 308 "java/lang/ArithmeticException" exN))))
noncomputable def nst_ws : List Cond := [.methodLinkNest RX2 24 yX3_isWithin RX3, .methodLinkNest RX0 21 yX3_isWithin RX3, .methodLinkNest RX6 134 yX5_init RX6, .fieldLinkNest RJx35411 28 "java/util/ArrayList" "size" "I" RJx4a65c, .fieldLinkNest RX5 106 "SnowpalaceModel" "days" "[[I" RX6, .fieldLinkNest RX5 103 "SnowpalaceModel" "hour" "I" RX6, .fieldLinkNest RX5 81 "SnowpalaceModel" "money" "I" RX6, .fieldLinkNest RX6 160 "SnowpalaceModel$Site" "cells" "[[LSnowpalaceModel$Cell;" RX6, .fieldLinkNest RX6 252 "SnowpalaceModel$Site" "plan" "[[Z" RX6, .fieldLinkNest RX6 211 "SnowpalaceModel$Site" "hasCover" "Z" RX6, .fieldLinkNest RX6 265 "SnowpalaceModel$Site" "isJudged" "Z" RX6, .fieldLinkNest RX6 205 "SnowpalaceModel$Site" "fell" "I" RX6, .fieldLinkNest RX6 208 "SnowpalaceModel$Site" "last" "I" RX6, .fieldLinkNest RX6 256 "SnowpalaceModel$Site" "carved" "I" RX6, .fieldLinkNest RX6 235 "SnowpalaceModel$Site" "visitors" "I" RX6, .fieldLinkNest RX6 261 "SnowpalaceModel$Site" "mark" "D" RX6, .fieldLinkNest RX5 58 "SnowpalaceModel$Cell" "kind" "C" RX6, .fieldLinkNest RX6 175 "SnowpalaceModel$Cell" "kind" "C" RX6, .fieldLinkNest RX5 53 "SnowpalaceModel$Cell" "mass" "I" RX6, .fieldLinkNest RX6 182 "SnowpalaceModel$Cell" "mass" "I" RX6, .fieldLinkNest RX5 62 "SnowpalaceModel$Cell" "age" "I" RX6, .fieldLinkNest RX6 196 "SnowpalaceModel$Cell" "age" "I" RX6, .fieldLinkNest RX5 120 "SnowpalaceModel$Cell" "creep" "I" RX6, .fieldLinkNest RX6 193 "SnowpalaceModel$Cell" "creep" "I" RX6, .fieldLinkNest RX5 71 "SnowpalaceModel$Cell" "hasLamp" "Z" RX6, .fieldLinkNest RX6 214 "SnowpalaceModel$Cell" "hasLamp" "Z" RX6]
noncomputable def thr_ws : List Cond := thr_all.filter (fun w => !goodWord w) ++ nst_ws
noncomputable def th_w : Cond → Bool
  | .declares _ => true
  | .castable .. => true
  | .methodLinkNest .. => true
  | .fieldLinkNest .. => true
  | _ => false
theorem thr_k : thr_ws.all th_w = true := by decide +kernel
theorem thr_ot : thr_all.all vx_ot = true := by decide +kernel
theorem th_warm {w : Cond} (hw : th_w w = true) {s U : State} (hW : s.WarmedH U.vm) (h : w.before #[] s = true) : w.before #[] U = true := by
  cases w with
  | declares x => exact va_Nw.warmD hW h
  | castable a b => exact va_Nw.warmC hW h
  | methodLinkNest a i x b => exact va_Nw.warmM hW h
  | fieldLinkNest a i x y z b => exact va_Nw.warmF hW h
  | _ => exact absurd hw (by simp [th_w])
theorem th_any {w : Cond} (hw : th_w w = true) {s : State} {a a' : Array Value} (h : w.before a s = true) : w.before a' s = true := by
  cases w with
  | declares x => exact va_tabs rfl rfl h
  | castable x b => exact va_tabs rfl rfl h
  | methodLinkNest a i x b => exact va_tabs rfl rfl h
  | fieldLinkNest a i x y z b => exact va_tabs rfl rfl h
  | _ => exact absurd hw (by simp [th_w])
noncomputable def thr_strs : List (Nat × String) := [(100, "no such field"), (115, "the field cannot be cut so"), (117, "the yard has no room for all"), (122, "so many lorries cannot come"), (128, "there are 3 sites"), (137, "no such site or place"), (140, "no such kind"), (152, "a cell is there, or it would not stand"), (158, "no such block, or not as much snow"), (182, "no cell is there"), (211, "no such site"), (219, "none fell"), (224, "no lamp is in snow"), (244, "the column has no cell"), (249, "so many cannot come"), (251, "the site is not open"), (272, "the mass is out of range"), (277, "60 hours were carved"), (279, "too little would be left"), (296, "it was not judged"), (302, "something else would fall"), (306, "there are no sites"), (309, "there are no cells"), (58, "a number is out of range"), (65, "the day has begun"), (81, "no such hour"), (90, "the hours are out of range"), (94, "the clock ends at 504")]
noncomputable def thr_ncs : List (String × String) := [("java/lang/UnsupportedOperationException", "java/lang/IllegalArgumentException"), ("java/lang/IllegalStateException", "java/lang/IllegalArgumentException"), ("java/lang/IllegalStateException", "java/lang/UnsupportedOperationException"), ("java/lang/UnsupportedOperationException", "java/lang/IllegalStateException"), ("java/lang/UnsupportedOperationException", "java/lang/IndexOutOfBoundsException"), ("java/lang/UnsupportedOperationException", "java/util/NoSuchElementException"), ("java/lang/IllegalStateException", "java/util/NoSuchElementException"), ("java/lang/IllegalStateException", "java/lang/IndexOutOfBoundsException"), ("java/util/NoSuchElementException", "java/lang/IndexOutOfBoundsException"), ("java/util/NoSuchElementException", "java/lang/IllegalArgumentException"), ("java/lang/IllegalArgumentException", "java/lang/IndexOutOfBoundsException"), ("java/lang/ArithmeticException", "java/lang/IndexOutOfBoundsException")]
noncomputable def TH (A : Nat → Prop) (U : State) : Prop := (∀ w ∈ thr_ws, w.before #[] U = true) ∧ (∀ q ∈ thr_strs, ∃ a, vk_R RX3 q.1 q.2 a U) ∧ (∀ q ∈ thr_ncs, va_Nc q.1 q.2 U) ∧ vx_Zq Bundle.tN "UNASSIGNED_STACK" Bundle.steD A U U.heap ∧ vx_Zq Bundle.tN "SUPPRESSED_SENTINEL" Bundle.listD A U U.heap
theorem TH.call {A A1 : Nat → Prop} {s U : State} {H : Heap} {locs : List Loc} (h : TH A s) (hS : va_S A s.heap H locs) (hA : ∀ q, A1 q → A q) (hU : U.heap = H) (hW : s.WarmedH U.vm) : TH A1 U := by
  obtain ⟨h1, h2, h3, h4, h5⟩ := h
  refine ⟨fun w hw => th_warm (List.all_eq_true.mp thr_k w hw) hW (h1 w hw), fun q hq => ?_, fun q hq => (h3 q hq).moved hW.alike, ?_, ?_⟩
  · obtain ⟨a, ha⟩ := h2 q hq
    exact ⟨a, vk_R.warm hW ha⟩
  · rw [hU]
    exact (vx_Zq.kept (vx_Zq.moved hW.alike h4) (fun a ha hn => hS.2.1 a ha hn)).narrow hA
  · rw [hU]
    exact (vx_Zq.kept (vx_Zq.moved hW.alike h5) (fun a ha hn => hS.2.1 a ha hn)).narrow hA
theorem TH.blind {A : Nat → Prop} {U : State} (h : TH A U) (g : JFrame) (mk : MethodId) (a : Array Value) : TH A (U.calling g mk a) := by
  obtain ⟨h1, h2, h3, h4, h5⟩ := h
  refine ⟨fun w hw => th_any (a := #[]) (s := U.calling g mk a) (List.all_eq_true.mp thr_k w hw) ?_, fun q hq => ?_, fun q hq => (h3 q hq).moved (u := U) (U := U.calling g mk a) (Vm.Alike.refl U.vm), vx_Zq.moved (u := U) (U := U.calling g mk a) (Vm.Alike.refl U.vm) h4, vx_Zq.moved (u := U) (U := U.calling g mk a) (Vm.Alike.refl U.vm) h5⟩
  · exact va_tabs (c := w) (u := U) (U := U.calling g mk a) (by have := List.all_eq_true.mp thr_k w hw; cases w <;> first | rfl | exact absurd this (by simp [th_w])) rfl (h1 w hw)
  · obtain ⟨a9, ha⟩ := h2 q hq
    exact ⟨a9, vk_R.same rfl ha⟩
noncomputable def PT (dC : Nat → ClassId) (dI : Nat → Nat → Nat) (W : va_W) (tys : List (ClassId × FieldType)) (sz : Nat) (U : State) : Prop := PW dC dI W tys sz U ∧ TH (va_A W sz) U
theorem fb_PT {dC : Nat → ClassId} {dI : Nat → Nat → Nat} {W : va_W} {tys : List (ClassId × FieldType)} {sz : Nat} {av : List Value} : FrameBlind (va_Pc av (PT dC dI W tys sz)) := by
  intro a U g mk q
  obtain ⟨q0, qW, qT⟩ := q
  exact ⟨q0, (fb_PW (av := av) a U g mk ⟨q0, qW⟩).2, qT.blind g mk a⟩
theorem PT.give {dC : Nat → ClassId} {dI : Nat → Nat → Nat} {ws wc : va_W} {tys tc : List (ClassId × FieldType)} {H : Heap} {A : Nat → Prop} {s U : State} {locs : List Loc} (hP : va_P (dC, dI) vwCl ws H) (hK : va_K (dC, dI) vwCl tys s) (hD : va_D A ws) (hS : va_S A s.heap H locs) (hA : ∀ q : Nat, s.heap.size ≤ q → A q) (hT : TH A s) (isC isT : List Nat)
    (hC : isC.filterMap (fun i => ws[i]?) = wc) (hT2 : isT.filterMap (fun i => tys[i]?) = tc) (hn : va_nd isC = true) (hC2 : isC.map (fun i => ws[i]?) = wc.map some) (hU : U.heap = H) (hW : s.WarmedH U.vm) : PT dC dI wc tc H.size U :=
  ⟨PW.give hP hK hD isC isT hC hT2 hn hC2 hU hW, hT.call hS (va_free hD hS hA isC hC2) hU hW⟩
theorem th_in {L : List Cond} (h : ∀ w ∈ L, w ∈ thr_all) : ∀ w ∈ L.filter (fun w => !goodWord w), w ∈ thr_ws := fun w hw => List.mem_append_left _ (List.mem_filter.mpr ⟨h w (List.mem_filter.mp hw).1, (List.mem_filter.mp hw).2⟩)
theorem th_hat {A : Nat → Prop} {s : State} {args : Array Value} {L : List Cond} (hT : TH A s) (h1 : ∀ w ∈ L.filter goodWord, w.before args s = true) (h : ∀ w ∈ L, w ∈ thr_all) : ∀ w ∈ L, w.before args s = true :=
  vx_hat h1 (th_in h) (fun w hw => th_any (a := #[]) (List.all_eq_true.mp thr_k w hw) (hT.1 w hw))
theorem th_F {A : Nat → Prop} {s t : State} {H : Heap} {locs : List Loc} (hS : va_S A s.heap H locs) (h1 : H.size ≤ t.heap.size) (h2 : ∀ q : Nat, q < H.size → t.heap[q]? = H[q]?) : va_F A s t :=
  ⟨Nat.le_trans hS.1 h1, fun q hq hn => (h2 q (Nat.lt_of_lt_of_le hq hS.1)).trans (hS.2.1 q hq hn)⟩
theorem th_i1 : ∀ w ∈ vx_atS RX3 60 "java/lang/IllegalArgumentException" exN, w ∈ thr_all := fun w h => List.mem_append_left _ h
theorem th_i2 : ∀ w ∈ vx_atS RX3 67 "java/lang/UnsupportedOperationException" exN, w ∈ thr_all := fun w h => List.mem_append_right _ (List.mem_append_left _ h)
theorem th_i3 : ∀ w ∈ vx_atS RX3 96 "java/lang/IllegalStateException" exN, w ∈ thr_all := fun w h => List.mem_append_right _ (List.mem_append_right _ (List.mem_append_left _ h))
theorem th_i4 : ∀ w ∈ vx_atS RX3 139 "java/lang/IndexOutOfBoundsException" exN, w ∈ thr_all := fun w h => List.mem_append_right _ (List.mem_append_right _ (List.mem_append_right _ (List.mem_append_left _ h)))
theorem th_i5 : ∀ w ∈ vx_atS RX3 184 "java/util/NoSuchElementException" exN, w ∈ thr_all := fun w h => List.mem_append_right _ (List.mem_append_right _ (List.mem_append_right _ (List.mem_append_right _ (List.mem_append_left _ h))))
theorem th_i6 : ∀ w ∈ vx_atS RX3 308 "java/lang/ArithmeticException" exN, w ∈ thr_all := fun w h => List.mem_append_right _ (List.mem_append_right _ (List.mem_append_right _ (List.mem_append_right _ (List.mem_append_right _ h))))
/-- the words that a throw's row asks for, each a table's word or a good one -/
theorem th_good {L : List Cond} (h : ∀ w ∈ L, w ∈ thr_all) {own cls : String} {k : Nat} : ∀ w ∈ Cond.classLink own k cls :: Cond.initialized cls :: L, vx_ot w = true := by
  intro w hw
  rcases List.mem_cons.mp hw with rfl | hw
  · rfl
  rcases List.mem_cons.mp hw with rfl | hw
  · rfl
  exact List.all_eq_true.mp thr_ot w (h w hw)

/-- the links between nest mates -/
noncomputable def NS (U : State) : Prop := ∀ w ∈ nst_ws, w.before #[] U = true
theorem nst_k : nst_ws.all th_w = true := by decide +kernel
theorem NS.warm {s U : State} (h : NS s) (hW : s.WarmedH U.vm) : NS U := fun w hw => th_warm (List.all_eq_true.mp nst_k w hw) hW (h w hw)
theorem NS.blind {U : State} (h : NS U) (g : JFrame) (mk : MethodId) (a : Array Value) : NS (U.calling g mk a) := fun w hw => va_tabs (c := w) (u := U) (U := U.calling g mk a) (by have := List.all_eq_true.mp nst_k w hw; cases w <;> first | rfl | exact absurd this (by simp [th_w])) rfl (h w hw)
theorem TH.ns {A : Nat → Prop} {U : State} (h : TH A U) : NS U := fun w hw => h.1 w (List.mem_append_right _ hw)
noncomputable def PN (dC : Nat → ClassId) (dI : Nat → Nat → Nat) (W : va_W) (tys : List (ClassId × FieldType)) (sz : Nat) (U : State) : Prop := PW dC dI W tys sz U ∧ NS U
theorem fb_PN {dC : Nat → ClassId} {dI : Nat → Nat → Nat} {W : va_W} {tys : List (ClassId × FieldType)} {sz : Nat} {av : List Value} : FrameBlind (va_Pc av (PN dC dI W tys sz)) := by
  intro a U g mk q
  obtain ⟨q0, qW, qT⟩ := q
  exact ⟨q0, (fb_PW (av := av) a U g mk ⟨q0, qW⟩).2, qT.blind g mk a⟩
theorem PN.give {dC : Nat → ClassId} {dI : Nat → Nat → Nat} {ws wc : va_W} {tys tc : List (ClassId × FieldType)} {H : Heap} {A : Nat → Prop} {s U : State} (hP : va_P (dC, dI) vwCl ws H) (hK : va_K (dC, dI) vwCl tys s) (hD : va_D A ws) (hN : NS s) (isC isT : List Nat)
    (hC : isC.filterMap (fun i => ws[i]?) = wc) (hT : isT.filterMap (fun i => tys[i]?) = tc) (hn : va_nd isC = true) (hC2 : isC.map (fun i => ws[i]?) = wc.map some) (hU : U.heap = H) (hW : s.WarmedH U.vm) : PN dC dI wc tc H.size U :=
  ⟨PW.give hP hK hD isC isT hC hT hn hC2 hU hW, hN.warm hW⟩

/-- behind a call: the rest beside what came back, the pool behind it -/
theorem aftQ {dC : Nat → ClassId} {dI : Nat → Nat → Nat} {X wc wr w1 pl : va_W} {tys t1 : List (ClassId × FieldType)} {H H1 : Heap} {A : Nat → Prop} {s t : State} (isC isR : List Nat) (hP : va_P (dC, dI) vwCl (X ++ pl) H) (hK : va_K (dC, dI) vwCl tys s) (hD : va_D A (X ++ pl))
    (hC : isC.map (fun i => X[i]?) = wc.map some) (hR : isR.map (fun i => X[i]?) = wr.map some) (hn : va_nd isR = true) (hdis : ∀ i ∈ isR, i ∉ isC) (hF : ∀ q, va_A wc H.size q → A q)
    (hB : BW dC dI (va_A wc H.size) w1 t1 t) (ht : t.heap = H1) (hvm : s.vm.Alike t.vm) (hk1 : ∀ q : Nat, q < H.size → ¬ va_A wc H.size q → H1[q]? = H[q]?) :
    va_P (dC, dI) vwCl ((wr ++ w1) ++ pl) H1 ∧ va_D A ((wr ++ w1) ++ pl) ∧ va_K (dC, dI) vwCl (tys ++ t1) s := by
  obtain ⟨hP1, hK1, hD1⟩ := hB
  rw [ht] at hP1
  obtain ⟨a, b⟩ := va_joinQ hP hD isC isR hC hR hn hdis hk1 hF hP1 hD1
  exact ⟨a, b, hK.app (va_K.moved hvm.symm hK1)⟩
theorem aft0Q {dC : Nat → ClassId} {dI : Nat → Nat → Nat} {X wc wr pl : va_W} {H H1 : Heap} {A : Nat → Prop} (isC isR : List Nat) (hP : va_P (dC, dI) vwCl (X ++ pl) H) (hD : va_D A (X ++ pl))
    (hC : isC.map (fun i => X[i]?) = wc.map some) (hR : isR.map (fun i => X[i]?) = wr.map some) (hn : va_nd isR = true) (hdis : ∀ i ∈ isR, i ∉ isC) (hF : ∀ q, va_A wc H.size q → A q)
    (hk1 : ∀ q : Nat, q < H.size → ¬ va_A wc H.size q → H1[q]? = H[q]?) : va_P (dC, dI) vwCl (wr ++ pl) H1 ∧ va_D A (wr ++ pl) := by
  obtain ⟨a, b⟩ := va_joinQ (w1 := []) hP hD isC isR hC hR hn hdis hk1 hF (fun k q h => by simp at h) ⟨fun i j p q h => by simp at h, fun k q h => by simp at h⟩
  rw [List.append_nil] at a b
  exact ⟨a, b⟩


theorem isW_1 {x lo hi : Int32} {a b : Int} (ha : lo.toInt = a) (hb : hi.toInt = b) (h1 : ¬ x < lo) (h2 : ¬ hi < x) : (1 : Int32) = bI (a ≤ x.toInt ∧ x.toInt ≤ b) := by
  rw [Int32.lt_iff_toInt_lt] at h1 h2
  exact (if_pos ⟨by omega, by omega⟩).symm
theorem isW_0 {x lo hi : Int32} {a b : Int} (ha : lo.toInt = a) (hb : hi.toInt = b) (h : x < lo ∨ hi < x) : (0 : Int32) = bI (a ≤ x.toInt ∧ x.toInt ≤ b) := by
  rw [Int32.lt_iff_toInt_lt, Int32.lt_iff_toInt_lt] at h
  exact (if_neg (fun q => by omega)).symm


theorem lgp (x y : Int64) : 0 < lg_cmp x y ↔ y < x := by
  unfold lg_cmp
  by_cases h : x > y
  · rw [if_pos h]; exact ⟨fun _ => h, fun _ => by decide⟩
  · rw [if_neg h]
    by_cases h2 : x = y
    · rw [if_pos h2]; exact ⟨fun q => absurd q (by decide), fun q => absurd q h⟩
    · rw [if_neg h2]; exact ⟨fun q => absurd q (by decide), fun q => absurd q h⟩
theorem isB_1 {v lo hi : Int64} {v2 a b : Int} {x y : Int32} (hv : v.toInt = v2) (ha : lo.toInt = a) (hb : hi.toInt = b) (e1 : x = lg_cmp lo v) (c1 : ¬ 0 < x) (e2 : y = lg_cmp v hi) (c2 : ¬ 0 < y) : (1 : Int32) = bI (a ≤ v2 ∧ v2 ≤ b) := by
  rw [e1, lgp, Int64.lt_iff_toInt_lt] at c1
  rw [e2, lgp, Int64.lt_iff_toInt_lt] at c2
  exact (if_pos ⟨by omega, by omega⟩).symm
theorem isB_0 {v lo hi : Int64} {v2 a b : Int} {x : Int32} (hv : v.toInt = v2) (ha : lo.toInt = a) (hb : hi.toInt = b) (h : (x = lg_cmp lo v ∨ x = lg_cmp v hi) ∧ 0 < x) : (0 : Int32) = bI (a ≤ v2 ∧ v2 ≤ b) := by
  obtain ⟨h, c⟩ := h
  refine (if_neg (fun q => ?_)).symm
  rcases h with h | h
  · rw [h, lgp, Int64.lt_iff_toInt_lt] at c; omega
  · rw [h, lgp, Int64.lt_iff_toInt_lt] at c; omega
theorem iw_1 {c : Int32} (h : ¬ c ≤ 0) : (1 : Int32) = bI (0 < c) := by
  rw [Int32.le_iff_toInt_le] at h
  exact (if_pos (Int32.lt_iff_toInt_lt.mpr (by omega))).symm
theorem iw_0 {c : Int32} (h : c ≤ 0) : (0 : Int32) = bI (0 < c) := by
  rw [Int32.le_iff_toInt_le] at h
  exact (if_neg (fun q => by rw [Int32.lt_iff_toInt_lt] at q; omega)).symm
/-- the lists' own calls -/
noncomputable def MH (U : State) : Prop := va_Fw RJx4a65c ⟨"java/util/List", "size", "()I"⟩ yJx4a65c_size_8abf5 U ∧ va_Fw RJx4a65c ⟨"java/util/List", "iterator", "()Ljava/util/Iterator;"⟩ yJx4a65c_iterator_32c93 U ∧ va_Fw RJx35411 ⟨"java/util/Iterator", "hasNext", "()Z"⟩ yJx35411_hasNext_aae02 U ∧ va_Fw RJx4a65c ⟨"java/util/List", "isEmpty", "()Z"⟩ yJx4a65c_isEmpty_aae02 U ∧ va_Fw RJx4a65c ⟨"java/util/List", "add", "(Ljava/lang/Object;)Z"⟩ yJx4a65c_add_9ea2d U ∧ AOI U ∧ NS U
theorem MH.warm {u U : State} (h : MH u) (hW : u.WarmedH U.vm) : MH U :=
  have hvm := hW.alike
  ⟨va_Fw.moved ⟨by decide, by decide⟩ hvm h.1, va_Fw.moved ⟨by decide, by decide⟩ hvm h.2.1, va_Fw.moved ⟨by decide, by decide⟩ hvm h.2.2.1, va_Fw.moved ⟨by decide, by decide⟩ hvm h.2.2.2.1, va_Fw.moved ⟨by decide, by decide⟩ hvm h.2.2.2.2.1, AOI.moved hvm h.2.2.2.2.2.1, h.2.2.2.2.2.2.warm hW⟩
theorem MH.blind {U : State} (h : MH U) (g : JFrame) (mk : MethodId) (a : Array Value) : MH (U.calling g mk a) :=
  have hvm : U.vm.Alike (U.calling g mk a).vm := Vm.Alike.refl U.vm
  ⟨va_Fw.moved (U := U.calling g mk a) ⟨by decide, by decide⟩ hvm h.1, va_Fw.moved (U := U.calling g mk a) ⟨by decide, by decide⟩ hvm h.2.1, va_Fw.moved (U := U.calling g mk a) ⟨by decide, by decide⟩ hvm h.2.2.1, va_Fw.moved (U := U.calling g mk a) ⟨by decide, by decide⟩ hvm h.2.2.2.1, va_Fw.moved (U := U.calling g mk a) ⟨by decide, by decide⟩ hvm h.2.2.2.2.1, AOI.moved (U := U.calling g mk a) hvm h.2.2.2.2.2.1, h.2.2.2.2.2.2.blind g mk a⟩
noncomputable def PM (dC : Nat → ClassId) (dI : Nat → Nat → Nat) (W : va_W) (tys : List (ClassId × FieldType)) (sz : Nat) (U : State) : Prop := PW dC dI W tys sz U ∧ MH U
theorem fb_PM {dC : Nat → ClassId} {dI : Nat → Nat → Nat} {W : va_W} {tys : List (ClassId × FieldType)} {sz : Nat} {av : List Value} : FrameBlind (va_Pc av (PM dC dI W tys sz)) := by
  intro a U g mk q
  obtain ⟨q0, qW, qM⟩ := q
  exact ⟨q0, (fb_PW (av := av) a U g mk ⟨q0, qW⟩).2, qM.blind g mk a⟩
theorem PM.give {dC : Nat → ClassId} {dI : Nat → Nat → Nat} {ws wc : va_W} {tys tc : List (ClassId × FieldType)} {H : Heap} {A : Nat → Prop} {s U : State} (hP : va_P (dC, dI) vwCl ws H) (hK : va_K (dC, dI) vwCl tys s) (hD : va_D A ws) (hM : MH s) (isC isT : List Nat)
    (hC : isC.filterMap (fun i => ws[i]?) = wc) (hT : isT.filterMap (fun i => tys[i]?) = tc) (hn : va_nd isC = true) (hC2 : isC.map (fun i => ws[i]?) = wc.map some) (hU : U.heap = H) (hW : s.WarmedH U.vm) : PM dC dI wc tc H.size U :=
  ⟨PW.give hP hK hD isC isT hC hT hn hC2 hU hW, hM.warm hW⟩

theorem PW.giveP {dC : Nat → ClassId} {dI : Nat → Nat → Nat} {X cx pl : va_W} {tys tc : List (ClassId × FieldType)} {H : Heap} {A : Nat → Prop} {s U : State} (hP : va_P (dC, dI) vwCl (X ++ pl) H) (hK : va_K (dC, dI) vwCl tys s) (hD : va_D A (X ++ pl)) (isC isT : List Nat)
    (hC : isC.map (fun i => X[i]?) = cx.map some) (hn : va_nd isC = true) (hT : isT.filterMap (fun i => tys[i]?) = tc) (hU : U.heap = H) (hW : s.WarmedH U.vm) : PW dC dI (cx ++ pl) tc H.size U :=
  ⟨by rw [hU], by rw [hU]; exact hP.part isC hC, va_K.moved hW.alike (hK.sub isT hT), (hD.part isC hn hC).weaken (fun _ _ _ _ => trivial)⟩
theorem aftP {dC : Nat → ClassId} {dI : Nat → Nat → Nat} {X cx pl w1 : va_W} {tys t1 : List (ClassId × FieldType)} {H H1 : Heap} {A : Nat → Prop} {s t : State} (isC : List Nat) (hP : va_P (dC, dI) vwCl (X ++ pl) H) (hK : va_K (dC, dI) vwCl tys s) (hD : va_D A (X ++ pl))
    (hC : isC.map (fun i => X[i]?) = cx.map some) (hF : ∀ q, va_A (cx ++ pl) H.size q → A q) (hB : BW dC dI (va_A (cx ++ pl) H.size) w1 t1 t) (ht : t.heap = H1) (hvm : s.vm.Alike t.vm) (hk1 : ∀ q : Nat, q < H.size → ¬ va_A (cx ++ pl) H.size q → H1[q]? = H[q]?) :
    va_P (dC, dI) vwCl w1 H1 ∧ va_D A w1 ∧ va_K (dC, dI) vwCl (tys ++ t1) s := by
  obtain ⟨hP1, hK1, hD1⟩ := hB
  rw [ht] at hP1
  have a := va_joinP (wr := []) (rx := w1) (pl1 := []) hP hD isC [] hC rfl rfl (by simp) hk1 hF (by rw [List.append_nil]; exact hP1) (by rw [List.append_nil]; exact hD1)
  rw [List.append_nil, List.nil_append] at a
  exact ⟨a.1, a.2, hK.app (va_K.moved hvm.symm hK1)⟩

noncomputable def lorV (p : Int32) : Int32 := if 0 + 5 * p < 500 then 0 + 5 * p else 500


theorem BW.endP {dC : Nat → ClassId} {dI : Nat → Nat → Nat} {X pl wc : va_W} {tys tc : List (ClassId × FieldType)} {H : Heap} {A : Nat → Prop} {s t : State} (hP : va_P (dC, dI) vwCl (X ++ pl) H) (hK : va_K (dC, dI) vwCl tys s) (hD : va_D A (X ++ pl)) (isC isT : List Nat)
    (hC : isC.map (fun i => X[i]?) = wc.map some) (hT : isT.filterMap (fun i => tys[i]?) = tc) (hn : va_nd isC = true) (ht : t.heap = H) (hW : s.WarmedH t.vm) : BW dC dI A wc tc t := by
  have hP2 := hP.part isC hC
  have hD2 := hD.part isC hn hC
  refine ⟨?_, va_K.moved hW.alike (hK.sub isT hT), ?_⟩
  · rw [ht]
    exact fun k q h => hP2 k q (by rw [List.getElem?_append_left (List.getElem?_eq_some_iff.mp h).1]; exact h)
  · exact ⟨fun i j p q hi hj e => hD2.1 i j p q (by rw [List.getElem?_append_left (List.getElem?_eq_some_iff.mp hi).1]; exact hi) (by rw [List.getElem?_append_left (List.getElem?_eq_some_iff.mp hj).1]; exact hj) e, fun k q h => hD2.2 k q (by rw [List.getElem?_append_left (List.getElem?_eq_some_iff.mp h).1]; exact h)⟩


theorem div10 {x y : Int32} (hy : y = if 0 < x then x else 0) : ¬ (10 : Int32) + y / 20 = 0 := by
  have hz : 0 ≤ y.toInt := by
    rw [hy]
    by_cases h : 0 < x
    · rw [if_pos h]; rw [Int32.lt_iff_toInt_lt] at h; exact Int.le_of_lt (by simpa using h)
    · rw [if_neg h]; decide
  obtain ⟨j, hj, rfl⟩ := toN hz (k := 2147483647) (by have := y.toInt_lt; omega) (by decide)
  rw [show (nI j : Int32) / 20 = nI (j / 20) from pk_div (d := 20) (by omega) (by decide) (by decide)]
  rw [show (10 : Int32) + nI (j / 20) = nI (10 + j / 20) from nI_add 10 (j / 20)]
  exact nI_ne0 (by omega) (by omega)

theorem go504 {p : Int32} (h1 : p.toInt ≤ 48) : (0 : Int32) + p ≤ 504 := by
  rw [Int32.zero_add, Int32.le_iff_toInt_le]
  exact Int.le_trans h1 (by decide)

noncomputable abbrev wX (a : Nat → Nat) (cI cS : ClassId) (f : Nat → Nat → Int32) : va_W := [((a 0), .inr (7, [.ref (a 1), .ref (a 2), .ref (a 3), .int 0, .int 0, .int 0, .int 0, .int 0, .int 0, .int 0])), ((a 1), .inr (6, [.ref (a 4), .ref (a 5), .ref (a 6), .ref (a 7)])), ((a 2), .inr (4, [.ref (a 8), .ref (a 9), .ref (a 10)])), ((a 3), .inl (cS, 3, .inr (.inr (.inr (.inr (fun _ => none)))))), ((a 4), .inl (cI, 21, .inl (f 0))), ((a 5), .inl (cI, 21, .inl (f 1))), ((a 6), .inl (cI, 21, .inl (f 2))), ((a 7), .inl (cI, 21, .inl (f 3))), ((a 8), .inl (cI, 4, .inl (fun _ => 0))), ((a 9), .inl (cI, 4, .inl (fun _ => 0))), ((a 10), .inl (cI, 4, .inl (f 4)))]
noncomputable def FX (f : Nat → Nat → Int32) : Prop := (∀ i, i < 21 → f 0 i = -150) ∧ (∀ i, i < 21 → f 1 i = -50) ∧ (∀ i, i < 21 → f 2 i = 5) ∧ (∀ i, i < 21 → f 3 i = 80) ∧ ∀ i, i < 4 → f 4 i = 40

noncomputable def wRow : Nat → Int32 := fun j => if j = 3 then 80 else if j = 2 then 5 else if j = 1 then -50 else if j = 0 then -150 else 0
noncomputable abbrev wL (a : Nat → Nat) (cI cS : ClassId) (f : Nat → Nat → Int32) (b : Nat → Nat) (c2 : ClassId) (dg : Nat → Option Nat) (dl : Nat → Int32) (eD o o2 : Nat) (cJ cE : ClassId) : va_W := [((a 0), .inr (7, [.ref (a 1), .ref (a 2), .ref (a 3), .int 0, .int 0, .int 0, .int 0, .int 0, .int 0, .int 0])), ((a 1), .inr (6, [.ref (a 4), .ref (a 5), .ref (a 6), .ref (a 7)])), ((a 2), .inr (4, [.ref (a 8), .ref (a 9), .ref (a 10)])), ((a 3), .inl (cS, 3, .inr (.inr (.inr (.inr (fun _ => none)))))), ((a 4), .inl (cI, 21, .inl (f 0))), ((a 5), .inl (cI, 21, .inl (f 1))), ((a 6), .inl (cI, 21, .inl (f 2))), ((a 7), .inl (cI, 21, .inl (f 3))), ((a 8), .inl (cI, 4, .inl (fun _ => 0))), ((a 9), .inl (cI, 4, .inl (fun _ => 0))), ((a 10), .inl (cI, 4, .inl (f 4))), ((b 0), .inr (10, [.int 0, .ref (b 1), .int 0, .int 0, .ref (b 2), .ref (b 3), .ref (b 4), .ref (b 5), .int 0, .int 0, .ref (b 6)])), ((b 1), .inl (c2, 21, .inr (.inr (.inr (.inr dg))))), ((b 2), .inl (cI, 4, .inl (fun _ => 0))), ((b 3), .inl (cI, 4, .inl (fun _ => 0))), ((b 4), .inl (cI, 4, .inl dl)), ((b 5), .inl (cI, 2, .inl (fun _ => 0))), ((b 6), .inr (3, [.int 0, .ref eD, .int 0])), (o, .inl (cJ, 1, .inr (.inl (fun _ => 0)))), (o2, .inl (cE, 1, .inr (.inr (.inr (.inl (fun _ => 0))))))]
noncomputable def LX (f : Nat → Nat → Int32) (dg : Nat → Option Nat) (Ld : List Nat) : Prop := FX f ∧ ∀ i, i < 21 → ∃ y, dg i = some y ∧ y ∈ Ld
/-- the law behind its start: both fresh -/
noncomputable def LW (dC : Nat → ClassId) (dI : Nat → Nat → Nat) (s : State) (H : Heap) (locs : List Loc) (a : Nat → Nat) (cI cS : ClassId) (f : Nat → Nat → Int32) (b : Nat → Nat) (c2 : ClassId) (dg : Nat → Option Nat) (dl : Nat → Int32) (eD o o2 : Nat) (cJ cE : ClassId) (Ld : List Nat) : Prop :=
  va_K (dC, dI) vwCl [(cI, .int), (cS, .object "Snowpalace$Site"), (c2, .array .int), (cJ, .long), (cE, .double)] s ∧ va_P (dC, dI) vwCl (wL a cI cS f b c2 dg dl eD o o2 cJ cE ++ va_pl Ld (fun _ => .inl (cI, 4, .inl wRow))) H ∧ va_D (fun q : Nat => s.heap.size ≤ q) (wL a cI cS f b c2 dg dl eD o o2 cJ cE ++ va_pl Ld (fun _ => .inl (cI, 4, .inl wRow))) ∧ va_S (fun q : Nat => s.heap.size ≤ q) s.heap H locs ∧ TH (fun q : Nat => s.heap.size ≤ q) s ∧ MH s ∧ LX f dg Ld

