
theorem RA_of {U : State} {cA : ClassId} {ty : FieldType} (h : va_RA U cA ty) : U.vm.findClass ("[" ++ ty.toString) = some cA := by
  cases ty with
  | object C => obtain ⟨kA, comp, h1, h2, h3, h4⟩ := h; exact h4
  | _ => exact h
theorem K_eq {D : va_G} {cl : List vw_C} {tys : List (ClassId × FieldType)} {s : State} {c1 c2 : ClassId} {ty : FieldType} (hK : va_K D cl tys s) (i j : Nat) (h1 : tys[i]? = some (c1, ty)) (h2 : tys[j]? = some (c2, ty)) : c1 = c2 :=
  Option.some.inj ((RA_of (hK.2 i _ h1).2).symm.trans (RA_of (hK.2 j _ h2).2))
theorem upd_inv {ft : Nat → Int32} {i : Nat} {v : Int32} (hi : i < 2147483647) (h : ∀ j, j < i → ft j = v) : ∀ j, j < i + 1 → upd ft (nI i).toNatClampNeg v j = v := by
  intro j hj
  rw [nI_clamp (by omega)]
  unfold upd
  by_cases e : j = i
  · rw [if_pos e]
  · rw [if_neg e]; exact h j (by omega)
theorem aftPR {dC : Nat → ClassId} {dI : Nat → Nat → Nat} {X cx pl wr w1 : va_W} {tys t1 : List (ClassId × FieldType)} {H H1 : Heap} {A : Nat → Prop} {s t : State} (isC isR : List Nat) (hP : va_P (dC, dI) vwCl (X ++ pl) H) (hK : va_K (dC, dI) vwCl tys s) (hD : va_D A (X ++ pl))
    (hC : isC.map (fun i => X[i]?) = cx.map some) (hR : isR.map (fun i => X[i]?) = wr.map some) (hn : va_nd isR = true) (hdis : ∀ i ∈ isR, i ∉ isC) (hF : ∀ q, va_A (cx ++ pl) H.size q → A q) (hB : BW dC dI (va_A (cx ++ pl) H.size) w1 t1 t) (ht : t.heap = H1) (hvm : s.vm.Alike t.vm) (hk1 : ∀ q : Nat, q < H.size → ¬ va_A (cx ++ pl) H.size q → H1[q]? = H[q]?) :
    va_P (dC, dI) vwCl (wr ++ w1) H1 ∧ va_D A (wr ++ w1) ∧ va_K (dC, dI) vwCl (tys ++ t1) s := by
  obtain ⟨hP1, hK1, hD1⟩ := hB
  rw [ht] at hP1
  have a := va_joinP (wr := wr) (rx := w1) (pl1 := []) hP hD isC isR hC hR hn hdis hk1 hF (by rw [List.append_nil]; exact hP1) (by rw [List.append_nil]; exact hD1)
  rw [List.append_nil] at a
  exact ⟨a.1, a.2, hK.app (va_K.moved hvm.symm hK1)⟩


theorem nIsub {a b : Nat} (h : b ≤ a) : nI a - nI b = nI (a - b) := by
  have e := nI_add (a - b) b
  rw [Nat.sub_add_cancel h] at e
  rw [← e, Int32.add_sub_cancel]
theorem fr_neg {v : Int32} (hv : (-150 : Int) ≤ v.toInt ∧ v.toInt ≤ -50) : ∃ k : Nat, k ≤ 150 ∧ -v = nI k := by
  have e : (-v).toInt = -v.toInt := by
    rw [Int32.toInt_neg]
    exact Int.bmod_eq_of_le (by omega) (by omega)
  exact toN (k := 150) (by omega) (by omega) (by decide)
theorem fr_lt {v : Int32} (hv : (-150 : Int) ≤ v.toInt ∧ v.toInt ≤ -50) : v < 0 := by
  rw [Int32.lt_iff_toInt_lt]
  exact Int.lt_of_le_of_lt hv.2 (by decide)
theorem fr_nge {v : Int32} (hv : (-150 : Int) ≤ v.toInt ∧ v.toInt ≤ -50) : ¬ (0 : Int32) ≤ v := by
  rw [Int32.le_iff_toInt_le]
  intro h
  have := Int.le_trans h hv.2
  exact absurd this (by decide)
theorem fr_den {x : Int32} (hx : (0 : Int) ≤ x.toInt ∧ x.toInt ≤ 2000) : ∃ j : Nat, j ≤ 2000 ∧ x = nI j ∧ (10 : Int32) + x / 20 = nI (10 + j / 20) := by
  obtain ⟨j, hj, rfl⟩ := toN (k := 2000) hx.1 hx.2 (by decide)
  refine ⟨j, hj, rfl, ?_⟩
  rw [show (nI j : Int32) / 20 = nI (j / 20) from pk_div (d := 20) (by omega) (by decide) (by decide)]
  exact nI_add 10 (j / 20)
theorem fr_ne {x : Int32} (hx : (0 : Int) ≤ x.toInt ∧ x.toInt ≤ 2000) : ¬ (10 : Int32) + x / 20 = 0 := by
  obtain ⟨j, hj, -, e⟩ := fr_den hx
  rw [e]
  exact nI_ne0 (by omega) (by omega)
theorem fr_inv {x v : Int32} (hx : (0 : Int) ≤ x.toInt ∧ x.toInt ≤ 2000) (hv : (-150 : Int) ≤ v.toInt ∧ v.toInt ≤ -50) : (0 : Int) ≤ (x + (if -v / (10 + x / 20) < 2000 - x then -v / (10 + x / 20) else 2000 - x)).toInt ∧ (x + (if -v / (10 + x / 20) < 2000 - x then -v / (10 + x / 20) else 2000 - x)).toInt ≤ 2000 := by
  obtain ⟨j, hj, ex, e⟩ := fr_den hx
  obtain ⟨k, hk, ek⟩ := fr_neg hv
  rw [e, ek, ex]
  rw [show (nI k : Int32) / nI (10 + j / 20) = nI (k / (10 + j / 20)) from pk_div (by omega) (by omega) (by omega)]
  rw [show (2000 : Int32) - nI j = nI (2000 - j) from nIsub hj]
  have hd : k / (10 + j / 20) ≤ k := Nat.div_le_self _ _
  generalize k / (10 + j / 20) = q at hd ⊢
  by_cases h : (nI q : Int32) < nI (2000 - j)
  · rw [if_pos h]
    rw [Int32.lt_iff_toInt_lt, nI_toInt (by omega), nI_toInt (by omega)] at h
    rw [nI_add, nI_toInt (by omega)]
    omega
  · rw [if_neg h, nI_add, nI_toInt (by omega)]
    omega
theorem fr_step {fi g : Nat → Int32} {k : Nat} {y : Int32} (h : ∀ j, j < 4 → (0 : Int) ≤ (fi j).toInt ∧ (fi j).toInt ≤ 2000) (hg : g = upd fi k y) (hy : (0 : Int) ≤ y.toInt ∧ y.toInt ≤ 2000) : ∀ j, j < 4 → (0 : Int) ≤ (g j).toInt ∧ (g j).toInt ≤ 2000 := by
  intro j hj
  rw [hg]
  unfold upd
  by_cases e : j = k
  · rw [if_pos e]; exact hy
  · rw [if_neg e]; exact h j hj
theorem fr_zero : ∀ j, j < 4 → (0 : Int) ≤ ((fun _ => 0 : Nat → Int32) j).toInt ∧ ((fun _ => 0 : Nat → Int32) j).toInt ≤ 2000 := fun _ _ => show (0 : Int) ≤ (0 : Int32).toInt ∧ (0 : Int32).toInt ≤ 2000 by decide


theorem pool_sw {D : va_G} {cl : List vw_C} {a b c : va_W} {H : Heap} (h : va_P D cl ((a ++ b) ++ c) H) : va_P D cl ((a ++ c) ++ b) H := h.by _ va_swapG
theorem pool_swD {A : Nat → Prop} {a b c : va_W} (h : va_D A ((a ++ b) ++ c)) : va_D A ((a ++ c) ++ b) := by
  refine h.by _ va_swapG (fun i j hi hj => ?_)
  simp only [List.length_append] at hi hj
  intro e
  split at e <;> split at e <;> (try split at e) <;> (try split at e) <;> omega
noncomputable def DZ (eD : Nat) (A : Nat → Prop) (U : State) : Prop := va_Z "java/util/ArrayList" "DEFAULTCAPACITY_EMPTY_ELEMENTDATA" "[Ljava/lang/Object;" (.ref eD) A U U.heap
theorem DZ.call {eD : Nat} {A A1 : Nat → Prop} {s U : State} {H : Heap} {locs : List Loc} (h : DZ eD A s) (hS : va_S A s.heap H locs) (hA : ∀ q, A1 q → A q) (hU : U.heap = H) (hW : s.WarmedH U.vm) : DZ eD A1 U := by
  unfold DZ
  rw [hU]
  exact (va_Z.kept (va_Z.moved hW.alike h) (fun a ha hn => hS.2.1 a ha hn)).narrow hA
theorem DZ.blind {eD : Nat} {A : Nat → Prop} {U : State} (h : DZ eD A U) (g : JFrame) (mk : MethodId) (a : Array Value) : DZ eD A (U.calling g mk a) := va_Z.moved (u := U) (U := U.calling g mk a) (Vm.Alike.refl U.vm) h
noncomputable def PZ (dC : Nat → ClassId) (dI : Nat → Nat → Nat) (eD : Nat) (W : va_W) (tys : List (ClassId × FieldType)) (sz : Nat) (U : State) : Prop := PW dC dI W tys sz U ∧ MH U ∧ DZ eD (va_A W sz) U
theorem fb_PZ {dC : Nat → ClassId} {dI : Nat → Nat → Nat} {eD : Nat} {W : va_W} {tys : List (ClassId × FieldType)} {sz : Nat} {av : List Value} : FrameBlind (va_Pc av (PZ dC dI eD W tys sz)) := by
  intro a U g mk q
  obtain ⟨q0, qW, qM, qZ⟩ := q
  exact ⟨q0, (fb_PW (av := av) a U g mk ⟨q0, qW⟩).2, qM.blind g mk a, qZ.blind g mk a⟩
theorem PZ.give {dC : Nat → ClassId} {dI : Nat → Nat → Nat} {eD : Nat} {ws wc : va_W} {tys tc : List (ClassId × FieldType)} {H : Heap} {A : Nat → Prop} {s U : State} {locs : List Loc} (hP : va_P (dC, dI) vwCl ws H) (hK : va_K (dC, dI) vwCl tys s) (hD : va_D A ws) (hS : va_S A s.heap H locs) (hA : ∀ q : Nat, s.heap.size ≤ q → A q) (hM : MH s) (hZ : DZ eD A s) (isC isT : List Nat)
    (hC : isC.filterMap (fun i => ws[i]?) = wc) (hT2 : isT.filterMap (fun i => tys[i]?) = tc) (hn : va_nd isC = true) (hC2 : isC.map (fun i => ws[i]?) = wc.map some) (hU : U.heap = H) (hW : s.WarmedH U.vm) : PZ dC dI eD wc tc H.size U :=
  ⟨PW.give hP hK hD isC isT hC hT2 hn hC2 hU hW, hM.warm hW, hZ.call hS (va_free hD hS hA isC hC2) hU hW⟩
noncomputable def PO (dC : Nat → ClassId) (dI : Nat → Nat → Nat) (W : va_W) (tys : List (ClassId × FieldType)) (sz : Nat) (U : State) : Prop := PW dC dI W tys sz U ∧ va_AO RX1 U
theorem fb_PO {dC : Nat → ClassId} {dI : Nat → Nat → Nat} {W : va_W} {tys : List (ClassId × FieldType)} {sz : Nat} {av : List Value} : FrameBlind (va_Pc av (PO dC dI W tys sz)) := by
  intro a U g mk q
  obtain ⟨q0, qW, qM⟩ := q
  exact ⟨q0, (fb_PW (av := av) a U g mk ⟨q0, qW⟩).2, va_AO.moved (u := U) (U := U.calling g mk a) (Vm.Alike.refl U.vm) qM⟩
theorem PO.give {dC : Nat → ClassId} {dI : Nat → Nat → Nat} {ws wc : va_W} {tys tc : List (ClassId × FieldType)} {H : Heap} {A : Nat → Prop} {s U : State} (hP : va_P (dC, dI) vwCl ws H) (hK : va_K (dC, dI) vwCl tys s) (hD : va_D A ws) (hO : va_AO RX1 s) (isC isT : List Nat)
    (hC : isC.filterMap (fun i => ws[i]?) = wc) (hT2 : isT.filterMap (fun i => tys[i]?) = tc) (hn : va_nd isC = true) (hC2 : isC.map (fun i => ws[i]?) = wc.map some) (hU : U.heap = H) (hW : s.WarmedH U.vm) : PO dC dI wc tc H.size U :=
  ⟨PW.give hP hK hD isC isT hC hT2 hn hC2 hU hW, va_AO.moved hW.alike hO⟩
theorem zero_inv {f : Nat → Int32} {v : Int32} : ∀ j, j < 0 → f j = v := fun j h => absurd h (Nat.not_lt_zero j)
theorem dg_inv {dg : Nat → Option Nat} {Ld : List Nat} {i q : Nat} (hi : i < 2147483647) (h : ∀ j, j < i → ∃ y, dg j = some y ∧ y ∈ Ld) : ∀ j, j < i + 1 → ∃ y, va_up dg (nI i).toNatClampNeg (some q) j = some y ∧ y ∈ q :: Ld := by
  intro j hj
  rw [nI_clamp (by omega)]
  unfold va_up
  by_cases e : j = i
  · rw [if_pos e]; exact ⟨q, rfl, List.mem_cons_self⟩
  · rw [if_neg e]
    obtain ⟨y, h1, h2⟩ := h j (by omega)
    exact ⟨y, h1, List.mem_cons_of_mem _ h2⟩


theorem BW.endPP {dC : Nat → ClassId} {dI : Nat → Nat → Nat} {X pl wc : va_W} {tys tc : List (ClassId × FieldType)} {H : Heap} {A : Nat → Prop} {s t : State} (hP : va_P (dC, dI) vwCl (X ++ pl) H) (hK : va_K (dC, dI) vwCl tys s) (hD : va_D A (X ++ pl)) (isC isT : List Nat)
    (hC : isC.map (fun i => X[i]?) = wc.map some) (hT : isT.filterMap (fun i => tys[i]?) = tc) (hn : va_nd isC = true) (ht : t.heap = H) (hW : s.WarmedH t.vm) : BW dC dI A (wc ++ pl) tc t :=
  ⟨by rw [ht]; exact hP.part isC hC, va_K.moved hW.alike (hK.sub isT hT), hD.part isC hn hC⟩
noncomputable abbrev wM (b : Nat → Nat) (cI c2 : ClassId) (dg : Nat → Option Nat) (dl : Nat → Int32) (eD : Nat) : va_W := [((b 0), .inr (10, [.int 0, .ref (b 1), .int 0, .int 0, .ref (b 2), .ref (b 3), .ref (b 4), .ref (b 5), .int 0, .int 0, .ref (b 6)])), ((b 1), .inl (c2, 21, .inr (.inr (.inr (.inr dg))))), ((b 2), .inl (cI, 4, .inl (fun _ => 0))), ((b 3), .inl (cI, 4, .inl (fun _ => 0))), ((b 4), .inl (cI, 4, .inl dl)), ((b 5), .inl (cI, 2, .inl (fun _ => 0))), ((b 6), .inr (3, [.int 0, .ref eD, .int 0]))]


noncomputable def EZ (eD : Nat) (A : Nat → Prop) (U : State) : Prop := DZ eD A U ∧ va_T (.object "java/lang/Object") eD 0 (fun _ => .null) A U U.heap ∧ va_AO "java/lang/Object" U ∧ va_Nw (.castable RX5 "java/lang/Object") U
theorem EZ.call {eD : Nat} {A A1 : Nat → Prop} {s U : State} {H : Heap} {locs : List Loc} (h : EZ eD A s) (hS : va_S A s.heap H locs) (hA : ∀ q, A1 q → A q) (hU : U.heap = H) (hW : s.WarmedH U.vm) : EZ eD A1 U := by
  obtain ⟨h1, h2, h3, h4⟩ := h
  refine ⟨h1.call hS hA hU hW, ?_, va_AO.moved hW.alike h3, va_Nw.warmC hW h4⟩
  rw [hU]
  exact (va_T.kept (va_T.moved hW.alike h2) (fun a ha hn => hS.2.1 a ha hn)).narrow hA
theorem EZ.blind {eD : Nat} {A : Nat → Prop} {U : State} (h : EZ eD A U) (g : JFrame) (mk : MethodId) (a : Array Value) : EZ eD A (U.calling g mk a) := by
  obtain ⟨h1, h2, h3, h4⟩ := h
  exact ⟨h1.blind g mk a, va_T.moved (u := U) (U := U.calling g mk a) (Vm.Alike.refl U.vm) h2, va_AO.moved (u := U) (U := U.calling g mk a) (Vm.Alike.refl U.vm) h3, va_Nw.same (u := U) (U := U.calling g mk a) rfl rfl h4⟩
noncomputable def PE (dC : Nat → ClassId) (dI : Nat → Nat → Nat) (eD : Nat) (W : va_W) (tys : List (ClassId × FieldType)) (sz : Nat) (U : State) : Prop := PW dC dI W tys sz U ∧ MH U ∧ EZ eD (va_A W sz) U
theorem fb_PE {dC : Nat → ClassId} {dI : Nat → Nat → Nat} {eD : Nat} {W : va_W} {tys : List (ClassId × FieldType)} {sz : Nat} {av : List Value} : FrameBlind (va_Pc av (PE dC dI eD W tys sz)) := by
  intro a U g mk q
  obtain ⟨q0, qW, qM, qZ⟩ := q
  exact ⟨q0, (fb_PW (av := av) a U g mk ⟨q0, qW⟩).2, qM.blind g mk a, qZ.blind g mk a⟩
theorem PE.give {dC : Nat → ClassId} {dI : Nat → Nat → Nat} {eD : Nat} {ws wc : va_W} {tys tc : List (ClassId × FieldType)} {H : Heap} {A : Nat → Prop} {s U : State} {locs : List Loc} (hP : va_P (dC, dI) vwCl ws H) (hK : va_K (dC, dI) vwCl tys s) (hD : va_D A ws) (hS : va_S A s.heap H locs) (hA : ∀ q : Nat, s.heap.size ≤ q → A q) (hM : MH s) (hE : EZ eD A s) (isC isT : List Nat)
    (hC : isC.filterMap (fun i => ws[i]?) = wc) (hT2 : isT.filterMap (fun i => tys[i]?) = tc) (hn : va_nd isC = true) (hC2 : isC.map (fun i => ws[i]?) = wc.map some) (hU : U.heap = H) (hW : s.WarmedH U.vm) : PE dC dI eD wc tc H.size U :=
  ⟨PW.give hP hK hD isC isT hC hT2 hn hC2 hU hW, hM.warm hW, hE.call hS (va_free hD hS hA isC hC2) hU hW⟩

