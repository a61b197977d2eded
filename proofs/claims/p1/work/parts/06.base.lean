/-- a truth as an int -/
def bI (c : Prop) [Decidable c] : Int32 := if c then 1 else 0
theorem bI_f0 {c : Prop} [Decidable c] {r : Int32} (h : r = bI c) (q : ¬ c) : r = 0 := by rw [h]; exact if_neg q
theorem bI_t1 {c : Prop} [Decidable c] {r : Int32} (h : r = bI c) (q : c) : r = 1 := by rw [h]; exact if_pos q
theorem bI_t {c : Prop} [Decidable c] {r : Int32} (h : r = bI c) (h1 : ¬ r = 0) : c := by
  by_cases q : c
  · exact q
  · exact absurd (bI_f0 h q) h1
theorem bI_f {c : Prop} [Decidable c] {r : Int32} (h : r = bI c) (h1 : r = 0) : ¬ c := by
  intro q
  rw [bI_t1 h q] at h1
  exact absurd h1 (by decide)
theorem bI_nar {c : Prop} [Decidable c] {r : Int32} (h : r = bI c) : narrow .boolean (.int r) = .int r := by
  rw [h]
  unfold bI
  split <;> rfl
/-- the world's rows where nothing that is known was touched -/
theorem kp_P {D : va_G} {cl : List vw_C} {ws : va_W} {H H1 : Heap} (hP : va_P D cl ws H) (hk : ∀ q : Nat, q < H.size → ¬ (fun _ : Nat => False) q → H1[q]? = H[q]?) : va_P D cl ws H1 := hP.kept (fun k q h => hk q.1 (hP k q h).lt (fun z => z))
/-- a method's world at its start -/
def PW (dC : Nat → ClassId) (dI : Nat → Nat → Nat) (W : va_W) (tys : List (ClassId × FieldType)) (sz : Nat) (U : State) : Prop :=
  U.heap.size = sz ∧ va_P (dC, dI) vwCl W U.heap ∧ va_K (dC, dI) vwCl tys U ∧ va_D (fun _ => True) W
theorem fb_PW {dC : Nat → ClassId} {dI : Nat → Nat → Nat} {W : va_W} {tys : List (ClassId × FieldType)} {sz : Nat} {av : List Value} : FrameBlind (va_Pc av (PW dC dI W tys sz)) := by
  intro a U g mk q
  obtain ⟨q0, q1, qP, qK, qD⟩ := q
  exact ⟨q0, q1, qP, va_K.moved (u := U) (U := U.calling g mk a) (Vm.Alike.refl U.vm) qK, qD⟩
theorem PW.give {dC : Nat → ClassId} {dI : Nat → Nat → Nat} {ws wc : va_W} {tys tc : List (ClassId × FieldType)} {H : Heap} {A : Nat → Prop} {s U : State} (hP : va_P (dC, dI) vwCl ws H) (hK : va_K (dC, dI) vwCl tys s) (hD : va_D A ws) (isC isT : List Nat)
    (hC : isC.filterMap (fun i => ws[i]?) = wc) (hT : isT.filterMap (fun i => tys[i]?) = tc) (hn : va_nd isC = true) (hC2 : isC.map (fun i => ws[i]?) = wc.map some) (hU : U.heap = H) (hW : s.WarmedH U.vm) : PW dC dI wc tc H.size U :=
  ⟨by rw [hU], by rw [hU]; exact hP.sub isC hC, va_K.moved hW.alike (hK.sub isT hT), (hD.sub isC hn hC2).weaken (fun _ _ _ _ => trivial)⟩
/-- a method's world behind it -/
def BW (dC : Nat → ClassId) (dI : Nat → Nat → Nat) (A : Nat → Prop) (W : va_W) (tys : List (ClassId × FieldType)) (t : State) : Prop :=
  va_P (dC, dI) vwCl W t.heap ∧ va_K (dC, dI) vwCl tys t ∧ va_D A W
theorem BW.end {dC : Nat → ClassId} {dI : Nat → Nat → Nat} {ws wc : va_W} {tys tc : List (ClassId × FieldType)} {H : Heap} {A : Nat → Prop} {s t : State} (hP : va_P (dC, dI) vwCl ws H) (hK : va_K (dC, dI) vwCl tys s) (hD : va_D A ws) (isC isT : List Nat)
    (hC : isC.filterMap (fun i => ws[i]?) = wc) (hT : isT.filterMap (fun i => tys[i]?) = tc) (hn : va_nd isC = true) (hC2 : isC.map (fun i => ws[i]?) = wc.map some) (ht : t.heap = H) (hW : s.WarmedH t.vm) : BW dC dI A wc tc t :=
  ⟨by rw [ht]; exact hP.sub isC hC, va_K.moved hW.alike (hK.sub isT hT), hD.sub isC hn hC2⟩
/-- behind a call: the rest beside what came back -/
theorem aft {dC : Nat → ClassId} {dI : Nat → Nat → Nat} {ws wc wr w1 : va_W} {tys t1 : List (ClassId × FieldType)} {H H1 : Heap} {A : Nat → Prop} {s t : State} (isC isR : List Nat) (hP : va_P (dC, dI) vwCl ws H) (hK : va_K (dC, dI) vwCl tys s) (hD : va_D A ws)
    (hC : isC.map (fun i => ws[i]?) = wc.map some) (hR : isR.map (fun i => ws[i]?) = wr.map some) (hn : va_nd isR = true) (hdis : ∀ i ∈ isR, i ∉ isC) (hF : ∀ q, va_A wc H.size q → A q)
    (hB : BW dC dI (va_A wc H.size) w1 t1 t) (ht : t.heap = H1) (hvm : s.vm.Alike t.vm) (hk1 : ∀ q : Nat, q < H.size → ¬ va_A wc H.size q → H1[q]? = H[q]?) :
    va_P (dC, dI) vwCl (wr ++ w1) H1 ∧ va_D A (wr ++ w1) ∧ va_K (dC, dI) vwCl (tys ++ t1) s := by
  obtain ⟨hP1, hK1, hD1⟩ := hB
  rw [ht] at hP1
  obtain ⟨a, b⟩ := va_join hP hD isC isR hC hR hn hdis hk1 hF hP1 hD1
  exact ⟨a, b, hK.app (va_K.moved hvm.symm hK1)⟩
/-- .. nothing is known of what came back -/
theorem aft0 {dC : Nat → ClassId} {dI : Nat → Nat → Nat} {ws wc wr : va_W} {H H1 : Heap} {A : Nat → Prop} (isC isR : List Nat) (hP : va_P (dC, dI) vwCl ws H) (hD : va_D A ws)
    (hC : isC.map (fun i => ws[i]?) = wc.map some) (hR : isR.map (fun i => ws[i]?) = wr.map some) (hn : va_nd isR = true) (hdis : ∀ i ∈ isR, i ∉ isC) (hF : ∀ q, va_A wc H.size q → A q)
    (hk1 : ∀ q : Nat, q < H.size → ¬ va_A wc H.size q → H1[q]? = H[q]?) : va_P (dC, dI) vwCl wr H1 ∧ va_D A wr := by
  obtain ⟨a, b⟩ := va_join (w1 := []) hP hD isC isR hC hR hn hdis hk1 hF (fun k q h => by simp at h) ⟨fun i j p q h => by simp at h, fun k q h => by simp at h⟩
  rw [List.append_nil] at a b
  exact ⟨a, b⟩
/-! what a throw needs -/
abbrev exN : List String := ["java/lang/RuntimeException", "java/lang/Exception"]
def thr_all : List Cond := vx_atS RX3 60 "java/lang/IllegalArgumentException" exN ++ (vx_atS RX3 67 "java/lang/UnsupportedOperationException" exN ++ (vx_atS RX3 96 "java/lang/IllegalStateException" exN ++ (vx_atS RX3 139 "java/lang/IndexOutOfBoundsException" exN ++ (vx_atS RX3 184 "java/util/NoSuchElementException" exN ++ vx_atS RX3 308 "java/lang/ArithmeticException" exN))))
def thr_ws : List Cond := thr_all.filter (fun w => !goodWord w)
def th_w : Cond → Bool
  | .declares _ => true
  | .castable .. => true
  | _ => false
theorem thr_k : thr_ws.all th_w = true := by decide +kernel
theorem thr_ot : thr_all.all vx_ot = true := by decide +kernel
theorem th_warm {w : Cond} (hw : th_w w = true) {s U : State} (hW : s.WarmedH U.vm) (h : w.before #[] s = true) : w.before #[] U = true := by
  cases w with
  | declares x => exact va_Nw.warmD hW h
  | castable a b => exact va_Nw.warmC hW h
  | _ => exact absurd hw (by simp [th_w])
theorem th_any {w : Cond} (hw : th_w w = true) {s : State} {a a' : Array Value} (h : w.before a s = true) : w.before a' s = true := by
  cases w with
  | declares x => exact va_tabs rfl rfl h
  | castable x b => exact va_tabs rfl rfl h
  | _ => exact absurd hw (by simp [th_w])
def thr_strs : List (Nat × String) := [(100, "no such field"), (115, "the field cannot be cut so"), (117, "the yard has no room for all"), (122, "so many lorries cannot come"), (128, "there are 3 sites"), (137, "no such site or place"), (140, "no such kind"), (152, "a cell is there, or it would not stand"), (158, "no such block, or not as much snow"), (182, "no cell is there"), (211, "no such site"), (219, "none fell"), (224, "no lamp is in snow"), (244, "the column has no cell"), (249, "so many cannot come"), (251, "the site is not open"), (272, "the mass is out of range"), (277, "60 hours were carved"), (279, "too little would be left"), (296, "it was not judged"), (302, "something else would fall"), (306, "there are no sites"), (309, "there are no cells"), (58, "a number is out of range"), (65, "the day has begun"), (81, "no such hour"), (90, "the hours are out of range"), (94, "the clock ends at 504")]
def thr_ncs : List (String × String) := [("java/lang/UnsupportedOperationException", "java/lang/IllegalArgumentException")]
def TH (A : Nat → Prop) (U : State) : Prop := (∀ w ∈ thr_ws, w.before #[] U = true) ∧ (∀ q ∈ thr_strs, ∃ a, vk_R RX3 q.1 q.2 a U) ∧ (∀ q ∈ thr_ncs, va_Nc q.1 q.2 U) ∧ vx_Zq Bundle.tN "UNASSIGNED_STACK" Bundle.steD A U U.heap ∧ vx_Zq Bundle.tN "SUPPRESSED_SENTINEL" Bundle.listD A U U.heap
theorem TH.call {A A1 : Nat → Prop} {s U : State} {H : Heap} {locs : List Loc} (h : TH A s) (hS : va_S A s.heap H locs) (hA : ∀ q, A1 q → A q) (hU : U.heap = H) (hW : s.WarmedH U.vm) : TH A1 U := by
  obtain ⟨h1, h2, h3, h4, h5⟩ := h
  refine ⟨fun w hw => th_warm (List.all_eq_true.mp thr_k w hw) hW (h1 w hw), fun q hq => ?_, fun q hq => (h3 q hq).moved hW.alike, ?_, ?_⟩
  · obtain ⟨a, ha⟩ := h2 q hq
    exact ⟨a, vk_R.warm hW ha⟩
  · rw [hU]
    exact (vx_Zq.kept (vx_Zq.moved hW.alike h4) (fun a ha hn => hS.2.1 a ha hn)).narrow hA
  · rw [hU]
    exact (vx_Zq.kept (vx_Zq.moved hW.alike h5) (fun a ha hn => hS.2.1 a ha hn)).narrow hA
theorem TH.blind {A : Nat → Prop} {U : State} (h : TH A U) (g : JFrame) (mk : MethodId) (a : Array Value) : TH A (U.calling g mk a) := by
  obtain ⟨h1, h2, h3, h4, h5⟩ := h
  refine ⟨fun w hw => th_any (a := #[]) (s := U.calling g mk a) (List.all_eq_true.mp thr_k w hw) ?_, fun q hq => ?_, fun q hq => (h3 q hq).moved (u := U) (U := U.calling g mk a) (Vm.Alike.refl U.vm), vx_Zq.moved (u := U) (U := U.calling g mk a) (Vm.Alike.refl U.vm) h4, vx_Zq.moved (u := U) (U := U.calling g mk a) (Vm.Alike.refl U.vm) h5⟩
  · exact va_tabs (c := w) (u := U) (U := U.calling g mk a) (by have := List.all_eq_true.mp thr_k w hw; cases w <;> first | rfl | exact absurd this (by simp [th_w])) rfl (h1 w hw)
  · obtain ⟨a9, ha⟩ := h2 q hq
    exact ⟨a9, vk_R.same rfl ha⟩
def PT (dC : Nat → ClassId) (dI : Nat → Nat → Nat) (W : va_W) (tys : List (ClassId × FieldType)) (sz : Nat) (U : State) : Prop := PW dC dI W tys sz U ∧ TH (va_A W sz) U
theorem fb_PT {dC : Nat → ClassId} {dI : Nat → Nat → Nat} {W : va_W} {tys : List (ClassId × FieldType)} {sz : Nat} {av : List Value} : FrameBlind (va_Pc av (PT dC dI W tys sz)) := by
  intro a U g mk q
  obtain ⟨q0, qW, qT⟩ := q
  exact ⟨q0, (fb_PW (av := av) a U g mk ⟨q0, qW⟩).2, qT.blind g mk a⟩
theorem PT.give {dC : Nat → ClassId} {dI : Nat → Nat → Nat} {ws wc : va_W} {tys tc : List (ClassId × FieldType)} {H : Heap} {A : Nat → Prop} {s U : State} {locs : List Loc} (hP : va_P (dC, dI) vwCl ws H) (hK : va_K (dC, dI) vwCl tys s) (hD : va_D A ws) (hS : va_S A s.heap H locs) (hA : ∀ q : Nat, s.heap.size ≤ q → A q) (hT : TH A s) (isC isT : List Nat)
    (hC : isC.filterMap (fun i => ws[i]?) = wc) (hT2 : isT.filterMap (fun i => tys[i]?) = tc) (hn : va_nd isC = true) (hC2 : isC.map (fun i => ws[i]?) = wc.map some) (hU : U.heap = H) (hW : s.WarmedH U.vm) : PT dC dI wc tc H.size U :=
  ⟨PW.give hP hK hD isC isT hC hT2 hn hC2 hU hW, hT.call hS (va_free hD hS hA isC hC2) hU hW⟩
theorem th_in {L : List Cond} (h : ∀ w ∈ L, w ∈ thr_all) : ∀ w ∈ L.filter (fun w => !goodWord w), w ∈ thr_ws := fun w hw => List.mem_filter.mpr ⟨h w (List.mem_filter.mp hw).1, (List.mem_filter.mp hw).2⟩
theorem th_hat {A : Nat → Prop} {s : State} {args : Array Value} {L : List Cond} (hT : TH A s) (h1 : ∀ w ∈ L.filter goodWord, w.before args s = true) (h : ∀ w ∈ L, w ∈ thr_all) : ∀ w ∈ L, w.before args s = true :=
  vx_hat h1 (th_in h) (fun w hw => th_any (a := #[]) (List.all_eq_true.mp thr_k w hw) (hT.1 w hw))
theorem th_F {A : Nat → Prop} {s t : State} {H : Heap} {locs : List Loc} (hS : va_S A s.heap H locs) (h1 : H.size ≤ t.heap.size) (h2 : ∀ q : Nat, q < H.size → t.heap[q]? = H[q]?) : va_F A s t :=
  ⟨Nat.le_trans hS.1 h1, fun q hq hn => (h2 q (Nat.lt_of_lt_of_le hq hS.1)).trans (hS.2.1 q hq hn)⟩
theorem th_i1 : ∀ w ∈ vx_atS RX3 60 "java/lang/IllegalArgumentException" exN, w ∈ thr_all := fun w h => List.mem_append_left _ h
theorem th_i2 : ∀ w ∈ vx_atS RX3 67 "java/lang/UnsupportedOperationException" exN, w ∈ thr_all := fun w h => List.mem_append_right _ (List.mem_append_left _ h)
theorem th_i3 : ∀ w ∈ vx_atS RX3 96 "java/lang/IllegalStateException" exN, w ∈ thr_all := fun w h => List.mem_append_right _ (List.mem_append_right _ (List.mem_append_left _ h))
theorem th_i4 : ∀ w ∈ vx_atS RX3 139 "java/lang/IndexOutOfBoundsException" exN, w ∈ thr_all := fun w h => List.mem_append_right _ (List.mem_append_right _ (List.mem_append_right _ (List.mem_append_left _ h)))
theorem th_i5 : ∀ w ∈ vx_atS RX3 184 "java/util/NoSuchElementException" exN, w ∈ thr_all := fun w h => List.mem_append_right _ (List.mem_append_right _ (List.mem_append_right _ (List.mem_append_right _ (List.mem_append_left _ h))))
theorem th_i6 : ∀ w ∈ vx_atS RX3 308 "java/lang/ArithmeticException" exN, w ∈ thr_all := fun w h => List.mem_append_right _ (List.mem_append_right _ (List.mem_append_right _ (List.mem_append_right _ (List.mem_append_right _ h))))
/-- the words that a throw's row asks for, each a table's word or a good one -/
theorem th_good {L : List Cond} (h : ∀ w ∈ L, w ∈ thr_all) {own cls : String} {k : Nat} : ∀ w ∈ Cond.classLink own k cls :: Cond.initialized cls :: L, vx_ot w = true := by
  intro w hw
  rcases List.mem_cons.mp hw with rfl | hw
  · rfl
  rcases List.mem_cons.mp hw with rfl | hw
  · rfl
  exact List.all_eq_true.mp thr_ot w (h w hw)


theorem isW_1 {x lo hi : Int32} {a b : Int} (ha : lo.toInt = a) (hb : hi.toInt = b) (h1 : ¬ x < lo) (h2 : ¬ hi < x) : (1 : Int32) = bI (a ≤ x.toInt ∧ x.toInt ≤ b) := by
  rw [Int32.lt_iff_toInt_lt] at h1 h2
  exact (if_pos ⟨by omega, by omega⟩).symm
theorem isW_0 {x lo hi : Int32} {a b : Int} (ha : lo.toInt = a) (hb : hi.toInt = b) (h : x < lo ∨ hi < x) : (0 : Int32) = bI (a ≤ x.toInt ∧ x.toInt ≤ b) := by
  rw [Int32.lt_iff_toInt_lt, Int32.lt_iff_toInt_lt] at h
  exact (if_neg (fun q => by omega)).symm


theorem lgp (x y : Int64) : 0 < lg_cmp x y ↔ y < x := by
  unfold lg_cmp
  by_cases h : x > y
  · rw [if_pos h]; exact ⟨fun _ => h, fun _ => by decide⟩
  · rw [if_neg h]
    by_cases h2 : x = y
    · rw [if_pos h2]; exact ⟨fun q => absurd q (by decide), fun q => absurd q h⟩
    · rw [if_neg h2]; exact ⟨fun q => absurd q (by decide), fun q => absurd q h⟩
theorem isB_1 {v lo hi : Int64} {v2 a b : Int} {x y : Int32} (hv : v.toInt = v2) (ha : lo.toInt = a) (hb : hi.toInt = b) (e1 : x = lg_cmp lo v) (c1 : ¬ 0 < x) (e2 : y = lg_cmp v hi) (c2 : ¬ 0 < y) : (1 : Int32) = bI (a ≤ v2 ∧ v2 ≤ b) := by
  rw [e1, lgp, Int64.lt_iff_toInt_lt] at c1
  rw [e2, lgp, Int64.lt_iff_toInt_lt] at c2
  exact (if_pos ⟨by omega, by omega⟩).symm
theorem isB_0 {v lo hi : Int64} {v2 a b : Int} {x : Int32} (hv : v.toInt = v2) (ha : lo.toInt = a) (hb : hi.toInt = b) (h : (x = lg_cmp lo v ∨ x = lg_cmp v hi) ∧ 0 < x) : (0 : Int32) = bI (a ≤ v2 ∧ v2 ≤ b) := by
  obtain ⟨h, c⟩ := h
  refine (if_neg (fun q => ?_)).symm
  rcases h with h | h
  · rw [h, lgp, Int64.lt_iff_toInt_lt] at c; omega
  · rw [h, lgp, Int64.lt_iff_toInt_lt] at c; omega
/-- the lists' own calls -/
def MH (U : State) : Prop := va_Fw RJx4a65c ⟨"java/util/List", "size", "()I"⟩ yJx4a65c_size_8abf5 U ∧ va_Fw RJx4a65c ⟨"java/util/List", "iterator", "()Ljava/util/Iterator;"⟩ yJx4a65c_iterator_32c93 U ∧ va_Fw RJx35411 ⟨"java/util/Iterator", "hasNext", "()Z"⟩ yJx35411_hasNext_aae02 U ∧ va_Fw RJx4a65c ⟨"java/util/List", "isEmpty", "()Z"⟩ yJx4a65c_isEmpty_aae02 U ∧ va_Fw RJx4a65c ⟨"java/util/List", "add", "(Ljava/lang/Object;)Z"⟩ yJx4a65c_add_9ea2d U
theorem MH.moved {u U : State} (h : MH u) (hvm : u.vm.Alike U.vm) : MH U :=
  ⟨va_Fw.moved ⟨by decide, by decide⟩ hvm h.1, va_Fw.moved ⟨by decide, by decide⟩ hvm h.2.1, va_Fw.moved ⟨by decide, by decide⟩ hvm h.2.2.1, va_Fw.moved ⟨by decide, by decide⟩ hvm h.2.2.2.1, va_Fw.moved ⟨by decide, by decide⟩ hvm h.2.2.2.2⟩
def PM (dC : Nat → ClassId) (dI : Nat → Nat → Nat) (W : va_W) (tys : List (ClassId × FieldType)) (sz : Nat) (U : State) : Prop := PW dC dI W tys sz U ∧ MH U
theorem fb_PM {dC : Nat → ClassId} {dI : Nat → Nat → Nat} {W : va_W} {tys : List (ClassId × FieldType)} {sz : Nat} {av : List Value} : FrameBlind (va_Pc av (PM dC dI W tys sz)) := by
  intro a U g mk q
  obtain ⟨q0, qW, qM⟩ := q
  exact ⟨q0, (fb_PW (av := av) a U g mk ⟨q0, qW⟩).2, MH.moved (u := U) (U := U.calling g mk a) qM (Vm.Alike.refl U.vm)⟩
theorem PM.give {dC : Nat → ClassId} {dI : Nat → Nat → Nat} {ws wc : va_W} {tys tc : List (ClassId × FieldType)} {H : Heap} {A : Nat → Prop} {s U : State} (hP : va_P (dC, dI) vwCl ws H) (hK : va_K (dC, dI) vwCl tys s) (hD : va_D A ws) (hM : MH s) (isC isT : List Nat)
    (hC : isC.filterMap (fun i => ws[i]?) = wc) (hT : isT.filterMap (fun i => tys[i]?) = tc) (hn : va_nd isC = true) (hC2 : isC.map (fun i => ws[i]?) = wc.map some) (hU : U.heap = H) (hW : s.WarmedH U.vm) : PM dC dI wc tc H.size U :=
  ⟨PW.give hP hK hD isC isT hC hT hn hC2 hU hW, hM.moved hW.alike⟩

abbrev wX (a : Nat → Nat) (cI cS : ClassId) (f : Nat → Nat → Int32) : va_W := [((a 0), .inr (7, [.ref (a 1), .ref (a 2), .ref (a 3), .int 0, .int 0, .int 0, .int 0, .int 0, .int 0, .int 0])), ((a 1), .inr (6, [.ref (a 4), .ref (a 5), .ref (a 6), .ref (a 7)])), ((a 2), .inr (4, [.ref (a 8), .ref (a 9), .ref (a 10)])), ((a 3), .inl (cS, 3, .inr (.inr (.inr (.inr (fun _ => none)))))), ((a 4), .inl (cI, 21, .inl (f 0))), ((a 5), .inl (cI, 21, .inl (f 1))), ((a 6), .inl (cI, 21, .inl (f 2))), ((a 7), .inl (cI, 21, .inl (f 3))), ((a 8), .inl (cI, 4, .inl (fun _ => 0))), ((a 9), .inl (cI, 4, .inl (fun _ => 0))), ((a 10), .inl (cI, 4, .inl (f 4)))]
def FX (f : Nat → Nat → Int32) : Prop := (∀ i, i < 21 → f 0 i = -150) ∧ (∀ i, i < 21 → f 1 i = -50) ∧ (∀ i, i < 21 → f 2 i = 5) ∧ (∀ i, i < 21 → f 3 i = 80) ∧ ∀ i, i < 4 → f 4 i = 40

