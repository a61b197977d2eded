
theorem RA_of {U : State} {cA : ClassId} {ty : FieldType} (h : va_RA U cA ty) : U.vm.findClass ("[" ++ ty.toString) = some cA := by
  cases ty with
  | object C => obtain ⟨kA, comp, h1, h2, h3, h4⟩ := h; exact h4
  | _ => exact h
theorem K_eq {D : va_G} {cl : List vw_C} {tys : List (ClassId × FieldType)} {s : State} {c1 c2 : ClassId} {ty : FieldType} (hK : va_K D cl tys s) (i j : Nat) (h1 : tys[i]? = some (c1, ty)) (h2 : tys[j]? = some (c2, ty)) : c1 = c2 :=
  Option.some.inj ((RA_of (hK.2 i _ h1).2).symm.trans (RA_of (hK.2 j _ h2).2))
theorem upd_inv {ft : Nat → Int32} {i : Nat} {v : Int32} (hi : i < 2147483647) (h : ∀ j, j < i → ft j = v) : ∀ j, j < i + 1 → upd ft (nI i).toNatClampNeg v j = v := by
  intro j hj
  rw [nI_clamp (by omega)]
  unfold upd
  by_cases e : j = i
  · rw [if_pos e]
  · rw [if_neg e]; exact h j (by omega)
theorem aftPR {dC : Nat → ClassId} {dI : Nat → Nat → Nat} {X cx pl wr w1 : va_W} {tys t1 : List (ClassId × FieldType)} {H H1 : Heap} {A : Nat → Prop} {s t : State} (isC isR : List Nat) (hP : va_P (dC, dI) vwCl (X ++ pl) H) (hK : va_K (dC, dI) vwCl tys s) (hD : va_D A (X ++ pl))
    (hC : isC.map (fun i => X[i]?) = cx.map some) (hR : isR.map (fun i => X[i]?) = wr.map some) (hn : va_nd isR = true) (hdis : ∀ i ∈ isR, i ∉ isC) (hF : ∀ q, va_A (cx ++ pl) H.size q → A q) (hB : BW dC dI (va_A (cx ++ pl) H.size) w1 t1 t) (ht : t.heap = H1) (hvm : s.vm.Alike t.vm) (hk1 : ∀ q : Nat, q < H.size → ¬ va_A (cx ++ pl) H.size q → H1[q]? = H[q]?) :
    va_P (dC, dI) vwCl (wr ++ w1) H1 ∧ va_D A (wr ++ w1) ∧ va_K (dC, dI) vwCl (tys ++ t1) s := by
  obtain ⟨hP1, hK1, hD1⟩ := hB
  rw [ht] at hP1
  have a := va_joinP (wr := wr) (rx := w1) (pl1 := []) hP hD isC isR hC hR hn hdis hk1 hF (by rw [List.append_nil]; exact hP1) (by rw [List.append_nil]; exact hD1)
  rw [List.append_nil] at a
  exact ⟨a.1, a.2, hK.app (va_K.moved hvm.symm hK1)⟩

