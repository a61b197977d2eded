noncomputable def YZ (U : State) : Prop := (Cond.classLink RX5 15 "[[LSnowpalaceModel$Cell;").before #[] U = true ∧ va_AOA (.object "SnowpalaceModel$Cell") U ∧ va_AOA .boolean U ∧ (Cond.arrayClass (.object "SnowpalaceModel$Cell")).before #[] U = true
theorem va_AOA.moved {t0 : FieldType} {u U : State} (hvm : u.vm.Alike U.vm) (h : va_AOA t0 u) : va_AOA t0 U := by
  obtain ⟨comp, c, k, h1, h2, h3, h4, h5⟩ := arrayOverA_spec (args := #[]) (first := u) (s := u) (o := none) (idx := []) h
  obtain ⟨k', hk', he⟩ := hvm.2.2 _ _ h3
  have hi := ((va_idx_bare U.vm comp).symm.trans (by first | rw [hvm.bare_eq] | rw [← hvm.bare_eq])).trans ((va_idx_bare u.vm comp).trans h2)
  have hkind : k'.kind = .array comp (.array t0) := by rw [he]; exact h4
  have f1 : U.vm.findClass (FieldType.array t0).toString = some comp := by rw [hvm.findClass]; exact h1
  have f2 : U.vm.findClass ("[" ++ (FieldType.array t0).toString) = some c := by rw [hvm.findClass]; exact h5
  unfold va_AOA Cond.before Cond.holds
  simp only [Cond.value]
  rw [f1, Option.bind_some]
  refine (congrArg (fun o : Option Nat => (o.bind (fun c => (U.vm.classes[c]?).map fun (k : Class) => match k.kind with | .array _ ty => decide (ty = FieldType.array t0) && decide (U.vm.findClass ("[" ++ (FieldType.array t0).toString) = some c) | _ => false) == some true)) hi).trans ?_
  simp [hk', hkind, f2]
theorem ac_moved {ty : FieldType} {u U : State} (hvm : u.vm.Alike U.vm) (h : (Cond.arrayClass ty).before #[] u = true) : (Cond.arrayClass ty).before #[] U = true := by
  obtain ⟨c, k, comp, hc, hk, hkind⟩ := Cond.arrayClass_spec (first := u) (o := none) (idx := []) h
  obtain ⟨k', hk', he⟩ := hvm.2.2 _ _ hk
  have hkind' : k'.kind = .array comp ty := by rw [he]; exact hkind
  have f1 : U.vm.findClass ("[" ++ ty.toString) = some c := by rw [hvm.findClass]; exact hc
  simp only [Cond.before, Cond.holds, Cond.value]
  rw [f1]
  simp [hk', hkind']
theorem YZ.warm {s U : State} (hW : s.WarmedH U.vm) (h : YZ s) : YZ U := by
  obtain ⟨h1, h2, h3, h4⟩ := h
  refine ⟨?_, h2.moved hW.alike, h3.moved hW.alike, ac_moved hW.alike h4⟩
  have e : (s.setVm U.vm).classLinks RX5 15 "[[LSnowpalaceModel$Cell;" = s.classLinks RX5 15 "[[LSnowpalaceModel$Cell;" := State.classLinks_warmed hW _ _ _
  have h1' : (Cond.classLink RX5 15 "[[LSnowpalaceModel$Cell;").before #[] (s.setVm U.vm) = true := by
    simp only [Cond.before, Cond.holds, Cond.value] at h1 ⊢
    rw [e]
    exact h1
  exact va_tabs rfl (rfl : (s.setVm U.vm).vm = U.vm) h1'
theorem YZ.blind {U : State} (h : YZ U) (g : JFrame) (mk : MethodId) (a : Array Value) : YZ (U.calling g mk a) := by
  obtain ⟨h1, h2, h3, h4⟩ := h
  exact ⟨va_tabs (u := U) (U := U.calling g mk a) rfl rfl h1, va_AOA.moved (u := U) (U := U.calling g mk a) (Vm.Alike.refl U.vm) h2, va_AOA.moved (u := U) (U := U.calling g mk a) (Vm.Alike.refl U.vm) h3, ac_moved (u := U) (U := U.calling g mk a) (Vm.Alike.refl U.vm) h4⟩
theorem inn_q (c : ClassId) : Jvm.Free.Multi.innerC c 8 (defaultValue (.object "SnowpalaceModel$Cell")) = vp_cell c (8, .inr (.inr (.inr (.inr (fun _ => none))))) := by
  rw [vp_cell_q]
  exact arrV_new ..
theorem inn_b (c : ClassId) : Jvm.Free.Multi.innerC c 8 (defaultValue .boolean) = vp_cell c (8, .inl (fun _ => 0)) := arrV_new ..
theorem ac_any {ty : FieldType} {s : State} {a a' : Array Value} (h : (Cond.arrayClass ty).before a s = true) : (Cond.arrayClass ty).before a' s = true := h

noncomputable def PY (dC : Nat → ClassId) (dI : Nat → Nat → Nat) (W : va_W) (tys : List (ClassId × FieldType)) (sz : Nat) (U : State) : Prop := PW dC dI W tys sz U ∧ YZ U
theorem fb_PY {dC : Nat → ClassId} {dI : Nat → Nat → Nat} {W : va_W} {tys : List (ClassId × FieldType)} {sz : Nat} {av : List Value} : FrameBlind (va_Pc av (PY dC dI W tys sz)) := by
  intro a U g mk q
  obtain ⟨q0, qW, qY⟩ := q
  exact ⟨q0, (fb_PW (av := av) a U g mk ⟨q0, qW⟩).2, qY.blind g mk a⟩
theorem PY.give {dC : Nat → ClassId} {dI : Nat → Nat → Nat} {ws wc : va_W} {tys tc : List (ClassId × FieldType)} {H : Heap} {A : Nat → Prop} {s U : State} (hP : va_P (dC, dI) vwCl ws H) (hK : va_K (dC, dI) vwCl tys s) (hD : va_D A ws) (hY : YZ s) (isC isT : List Nat)
    (hC : isC.filterMap (fun i => ws[i]?) = wc) (hT2 : isT.filterMap (fun i => tys[i]?) = tc) (hn : va_nd isC = true) (hC2 : isC.map (fun i => ws[i]?) = wc.map some) (hU : U.heap = H) (hW : s.WarmedH U.vm) : PY dC dI wc tc H.size U :=
  ⟨PW.give hP hK hD isC isT hC hT2 hn hC2 hU hW, hY.warm hW⟩
noncomputable def PS (dC : Nat → ClassId) (dI : Nat → Nat → Nat) (eD : Nat) (W : va_W) (tys : List (ClassId × FieldType)) (sz : Nat) (U : State) : Prop := PW dC dI W tys sz U ∧ MH U ∧ EZ eD (va_A W sz) U ∧ YZ U
theorem fb_PS {dC : Nat → ClassId} {dI : Nat → Nat → Nat} {eD : Nat} {W : va_W} {tys : List (ClassId × FieldType)} {sz : Nat} {av : List Value} : FrameBlind (va_Pc av (PS dC dI eD W tys sz)) := by
  intro a U g mk q
  obtain ⟨q0, qW, qM, qZ, qY⟩ := q
  exact ⟨q0, (fb_PW (av := av) a U g mk ⟨q0, qW⟩).2, qM.blind g mk a, qZ.blind g mk a, qY.blind g mk a⟩
theorem PS.give {dC : Nat → ClassId} {dI : Nat → Nat → Nat} {eD : Nat} {ws wc : va_W} {tys tc : List (ClassId × FieldType)} {H : Heap} {A : Nat → Prop} {s U : State} {locs : List Loc} (hP : va_P (dC, dI) vwCl ws H) (hK : va_K (dC, dI) vwCl tys s) (hD : va_D A ws) (hS : va_S A s.heap H locs) (hA : ∀ q : Nat, s.heap.size ≤ q → A q) (hM : MH s) (hE : EZ eD A s) (hY : YZ s) (isC isT : List Nat)
    (hC : isC.filterMap (fun i => ws[i]?) = wc) (hT2 : isT.filterMap (fun i => tys[i]?) = tc) (hn : va_nd isC = true) (hC2 : isC.map (fun i => ws[i]?) = wc.map some) (hU : U.heap = H) (hW : s.WarmedH U.vm) : PS dC dI eD wc tc H.size U :=
  ⟨PW.give hP hK hD isC isT hC hT2 hn hC2 hU hW, hM.warm hW, hE.call hS (va_free hD hS hA isC hC2) hU hW, hY.warm hW⟩

