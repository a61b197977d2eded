noncomputable def nst2_ws : List Cond := [.methodLinkNest RX1 96 yX3_placeOf RX3, .methodLinkNest RX2 24 yX3_isWithin RX3, .methodLinkNest RX1 72 yX3_isWithin RX3, .methodLinkNest RX0 21 yX3_isWithin RX3, .methodLinkNest RX5 31 yX6_isBetween RX6, .methodLinkNest RX6 134 yX5_init RX6, .methodLinkNest RX5 123 yX6_warmthOf RX6, .fieldLinkNest RJx35411 28 "java/util/ArrayList" "size" "I" RJx4a65c, .fieldLinkNest RX5 106 "SnowpalaceModel" "days" "[[I" RX6, .fieldLinkNest RX5 103 "SnowpalaceModel" "hour" "I" RX6, .fieldLinkNest RX5 81 "SnowpalaceModel" "money" "I" RX6, .fieldLinkNest RX6 160 "SnowpalaceModel$Site" "cells" "[[LSnowpalaceModel$Cell;" RX6, .fieldLinkNest RX6 252 "SnowpalaceModel$Site" "plan" "[[Z" RX6, .fieldLinkNest RX6 211 "SnowpalaceModel$Site" "hasCover" "Z" RX6, .fieldLinkNest RX6 265 "SnowpalaceModel$Site" "isJudged" "Z" RX6, .fieldLinkNest RX6 205 "SnowpalaceModel$Site" "fell" "I" RX6, .fieldLinkNest RX6 208 "SnowpalaceModel$Site" "last" "I" RX6, .fieldLinkNest RX6 256 "SnowpalaceModel$Site" "carved" "I" RX6, .fieldLinkNest RX6 235 "SnowpalaceModel$Site" "visitors" "I" RX6, .fieldLinkNest RX6 261 "SnowpalaceModel$Site" "mark" "D" RX6, .fieldLinkNest RX5 58 "SnowpalaceModel$Cell" "kind" "C" RX6, .fieldLinkNest RX6 175 "SnowpalaceModel$Cell" "kind" "C" RX6, .fieldLinkNest RX5 53 "SnowpalaceModel$Cell" "mass" "I" RX6, .fieldLinkNest RX6 182 "SnowpalaceModel$Cell" "mass" "I" RX6, .fieldLinkNest RX5 62 "SnowpalaceModel$Cell" "age" "I" RX6, .fieldLinkNest RX6 196 "SnowpalaceModel$Cell" "age" "I" RX6, .fieldLinkNest RX5 120 "SnowpalaceModel$Cell" "creep" "I" RX6, .fieldLinkNest RX6 193 "SnowpalaceModel$Cell" "creep" "I" RX6, .fieldLinkNest RX5 71 "SnowpalaceModel$Cell" "hasLamp" "Z" RX6, .fieldLinkNest RX6 214 "SnowpalaceModel$Cell" "hasLamp" "Z" RX6]
theorem nst2_k : nst2_ws.all th_w = true := by decide +kernel

/-- what the tables and the old heap say, at any place of the run -/
noncomputable def MG (U : State) : Prop := va_Fw RJx4a65c ⟨"java/util/List", "get", "(I)Ljava/lang/Object;"⟩ yJx4a65c_get_915e3 U ∧ va_Fw RJx35411 ⟨"java/util/Iterator", "next", "()Ljava/lang/Object;"⟩ yJx35411_next_0502b U ∧ va_Nw (.castable RX5 RX5) U ∧ (∀ w ∈ nst2_ws, w.before #[] U = true) ∧ NW U
theorem MG.warm {u U : State} (h : MG u) (hW : u.WarmedH U.vm) : MG U :=
  ⟨va_Fw.moved ⟨by decide, by decide⟩ hW.alike h.1, va_Fw.moved ⟨by decide, by decide⟩ hW.alike h.2.1, va_Nw.warmC hW h.2.2.1, fun w hw => th_warm (List.all_eq_true.mp nst2_k w hw) hW (h.2.2.2.1 w hw), h.2.2.2.2.warm hW⟩
theorem MG.blind {U : State} (h : MG U) (g : JFrame) (mk : MethodId) (a : Array Value) : MG (U.calling g mk a) :=
  have hvm : U.vm.Alike (U.calling g mk a).vm := Vm.Alike.refl U.vm
  ⟨va_Fw.moved (U := U.calling g mk a) ⟨by decide, by decide⟩ hvm h.1, va_Fw.moved (U := U.calling g mk a) ⟨by decide, by decide⟩ hvm h.2.1, va_Nw.same (u := U) (U := U.calling g mk a) rfl rfl h.2.2.1, fun w hw => va_tabs (c := w) (u := U) (U := U.calling g mk a) (by have := List.all_eq_true.mp nst2_k w hw; cases w <;> first | rfl | exact absurd this (by simp [th_w])) rfl (h.2.2.2.1 w hw), h.2.2.2.2.blind g mk a⟩
noncomputable def EX (eD b : Nat) (U : State) : Prop := TH (fun q => b ≤ q) U ∧ MH U ∧ YZ U ∧ EZ eD (fun q => b ≤ q) U ∧ MG U
theorem EX.go {eD b : Nat} {s U : State} {H : Heap} {locs : List Loc} (h : EX eD b s) (hS : va_S (fun q => b ≤ q) s.heap H locs) (hU : U.heap = H) (hW : s.WarmedH U.vm) : EX eD b U :=
  ⟨h.1.call hS (fun _ z => z) hU hW, h.2.1.warm hW, YZ.warm hW h.2.2.1, h.2.2.2.1.call hS (fun _ z => z) hU hW, h.2.2.2.2.warm hW⟩
theorem EX.blind {eD b : Nat} {U : State} (h : EX eD b U) (g : JFrame) (mk : MethodId) (a : Array Value) : EX eD b (U.calling g mk a) :=
  ⟨h.1.blind g mk a, h.2.1.blind g mk a, h.2.2.1.blind g mk a, h.2.2.2.1.blind g mk a, h.2.2.2.2.blind g mk a⟩
/-- the whole memory at a method's start and behind it -/
noncomputable def CX (D : va_G) (kA : Nat → ClassId) (eD b : Nat) (g : Gh) (U : State) : Prop := b ≤ U.heap.size ∧ TM D kA b g U.heap ∧ va_K D vwCl (TYS kA) U ∧ GOK g ∧ EX eD b U
noncomputable def CXs (D : va_G) (kA : Nat → ClassId) (eD b : Nat) (g : Gh) (sz sg : Nat) (U : State) : Prop := CX D kA eD b g U ∧ U.heap.size = sz ∧ SH U.heap = sg
section CXL
variable {D : va_G} {kA : Nat → ClassId} {eD b : Nat} {g u : Gh} {s U t : State} {H : Heap} {locs : List Loc}
theorem CX.give (hb0 : b ≤ s.heap.size) (hM : TM D kA b g H) (hK : va_K D vwCl (TYS kA) s) (hG : GOK g) (hE : EX eD b s) (hS : va_S (fun q => b ≤ q) s.heap H locs) (hU : U.heap = H) (hW : s.WarmedH U.vm) : CX D kA eD b g U :=
  ⟨by rw [hU]; exact Nat.le_trans hb0 hS.1, by rw [hU]; exact hM, va_K.moved hW.alike hK, hG, hE.go hS hU hW⟩
theorem CXs.give (hb0 : b ≤ s.heap.size) (hM : TM D kA b g H) (hK : va_K D vwCl (TYS kA) s) (hG : GOK g) (hE : EX eD b s) (hS : va_S (fun q => b ≤ q) s.heap H locs) (hU : U.heap = H) (hW : s.WarmedH U.vm) : CXs D kA eD b g H.size (SH H) U :=
  ⟨CX.give hb0 hM hK hG hE hS hU hW, by rw [hU], by rw [hU]⟩
theorem CX.back (h : CX D kA eD b u t) (ht : t.heap = H) : TM D kA b u H := by
  rw [← ht]
  exact h.2.1
theorem fb_CX {av : List Value} : FrameBlind (va_Pc av (CX D kA eD b g)) := by
  intro a U g9 mk q
  obtain ⟨q0, h1, h2, h3, h4, h5⟩ := q
  exact ⟨q0, h1, h2, va_K.moved (u := U) (U := U.calling g9 mk a) (Vm.Alike.refl U.vm) h3, h4, h5.blind g9 mk a⟩
theorem fb_CXs {av : List Value} {sz sg : Nat} : FrameBlind (va_Pc av (CXs D kA eD b g sz sg)) := by
  intro a U g9 mk q
  obtain ⟨q0, hc, h6, h7⟩ := q
  exact ⟨q0, (fb_CX (av := av) a U g9 mk ⟨q0, hc⟩).2, h6, h7⟩
end CXL
theorem isZ_upd {n : Nat} {f : Nat → Int32} {k : Nat} {x : Int32} (h : isZ n f) : isZ n (upd f k (vp_nar .boolean x)) := fun j hj => by
  unfold upd
  by_cases e : j = k
  · rw [if_pos e]
    exact nar01 x
  · rw [if_neg e]
    exact h j hj
theorem isC_upd {n : Nat} {f : Nat → Int32} {k : Nat} {x : Int32} (h : isC n f) : isC n (upd f k (vp_nar .char x)) := fun j hj => by
  unfold upd
  by_cases e : j = k
  · rw [if_pos e]
    exact narC x
  · rw [if_neg e]
    exact h j hj

