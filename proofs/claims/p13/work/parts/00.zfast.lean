/-! words of one list among another's, in one pass -/
def qpk : List Nat → List Cond → List Cond
  | [], _ => []
  | d :: ds, big => match big.drop d with
    | [] => []
    | x :: xs => x :: qpk ds xs
theorem qpk_in {w : Cond} : ∀ (ds : List Nat) (big : List Cond), w ∈ qpk ds big → w ∈ big
  | [], big, h => by simp only [qpk] at h; exact absurd h List.not_mem_nil
  | d :: ds, big, h => by
    simp only [qpk] at h
    cases hd : big.drop d with
    | nil => rw [hd] at h; exact absurd h List.not_mem_nil
    | cons x xs =>
      rw [hd] at h
      have hx : ∀ y ∈ x :: xs, y ∈ big := fun y hy => List.mem_of_mem_drop (hd ▸ hy)
      rcases List.mem_cons.mp h with h | h
      · rw [h]; exact hx _ List.mem_cons_self
      · exact hx _ (List.mem_cons_of_mem _ (qpk_in ds xs h))
def qceq : Cond → Cond → Bool
  | .code x c n r, .code x2 c2 n2 r2 => decide (c.data.toList = c2.data.toList) && (decide (x = x2) && (decide (n = n2) && decide (r = r2)))
  | .methodLink x n y, .methodLink x2 n2 y2 => decide (n = n2) && (decide (x = x2) && decide (y = y2))
  | .fieldLink x n a b c, .fieldLink x2 n2 a2 b2 c2 => decide (n = n2) && (decide (x = x2) && (decide (a = a2) && (decide (b = b2) && decide (c = c2))))
  | a, b => decide (a = b)
theorem qba_eq : ∀ (c c2 : ByteArray), c.data.toList = c2.data.toList → c = c2
  | ⟨⟨_⟩⟩, ⟨⟨_⟩⟩, h => by cases h; rfl
theorem qceq_ok {a b : Cond} (h : qceq a b = true) : a = b := by
  unfold qceq at h
  split at h
  · simp only [Bool.and_eq_true, decide_eq_true_eq] at h
    obtain ⟨hc, h1, h2, h3⟩ := h
    rw [qba_eq _ _ hc, h1, h2, h3]
  · simp only [Bool.and_eq_true, decide_eq_true_eq] at h
    obtain ⟨h1, h2, h3⟩ := h
    rw [h1, h2, h3]
  · simp only [Bool.and_eq_true, decide_eq_true_eq] at h
    obtain ⟨h1, h2, h3, h4, h5⟩ := h
    rw [h1, h2, h3, h4, h5]
  · exact of_decide_eq_true h
def qceqs : List Cond → List Cond → Bool
  | [], [] => true
  | a :: x, b :: y => qceq a b && qceqs x y
  | _, _ => false
theorem qceqs_ok : ∀ (a b : List Cond), qceqs a b = true → a = b
  | [], [], _ => rfl
  | a :: x, b :: y, h => by
    simp only [qceqs, Bool.and_eq_true] at h
    rw [qceq_ok h.1, qceqs_ok x y h.2]
  | [], b :: y, h => by simp [qceqs] at h
  | a :: x, [], h => by simp [qceqs] at h
theorem qin {big flat : List Cond} (hf : ∀ w ∈ flat, w ∈ big) (ws : List Cond) (ds ps : List Nat) (hp : qceqs ws (ps.filterMap (fun i => (qpk ds flat)[i]?)) = true) : ∀ w ∈ ws, w ∈ big := by
  intro w hw
  rw [qceqs_ok _ _ hp] at hw
  obtain ⟨i, -, hi⟩ := List.mem_filterMap.mp hw
  exact hf _ (qpk_in _ _ (List.mem_of_getElem? hi))
theorem qgood {big flat : List Cond} (hf : ∀ w ∈ flat, w ∈ big) (ws : List Cond) (ds ps : List Nat) (hp : qceqs ws (ps.filterMap (fun i => (qpk ds flat)[i]?)) = true) (h : ws.all goodWord = true) : GoodIn big ws := fun w hw => ⟨qin hf ws ds ps hp w hw, good_of_word (List.all_eq_true.mp h w hw)⟩
theorem qmem {w : Cond} {flat : List Cond} (h : flat.any (qceq w) = true) : w ∈ flat := by
  obtain ⟨x, hx, he⟩ := List.any_eq_true.mp h
  rw [qceq_ok he]; exact hx
theorem qof {big flat : List Cond} (hf : ∀ w ∈ flat, w ∈ big) (ws : List Cond) (h : ws.all (fun w => flat.any (qceq w) && goodWord w) = true) : GoodIn big ws := by
  intro w hw
  have h1 := List.all_eq_true.mp h w hw
  simp only [Bool.and_eq_true] at h1
  exact ⟨hf _ (qmem h1.1), good_of_word h1.2⟩
theorem qsub {flat : List Cond} (ws : List Cond) (h : ws.all (fun w => flat.any (qceq w)) = true) : ∀ w ∈ ws, w ∈ flat := fun w hw => qmem (List.all_eq_true.mp h w hw)
theorem qself {big : List Cond} : ∀ w ∈ big, w ∈ big := fun _ h => h
/-! a method's rows over a window of its bytes -/
def QW (c : ByteArray) (P : Nat) (W : List UInt8) : Prop := (c.data.toList.drop P).take W.length = W
theorem qbyte {c : ByteArray} {P o : Nat} {W : List UInt8} {b : UInt8} (hw : QW c P W) (h : W[o]? = some b) : (Jvm.ClassFile.Reader.u1 : Jvm.ClassFile.Decoder Nat) c (P + o) = .ok (b.toNat, P + o + 1) := by
  have h1 : c.data.toList[P + o]? = some b := by
    have h2 : ((c.data.toList.drop P).take W.length)[o]? = some b := by rw [hw]; exact h
    rw [List.getElem?_take] at h2
    split at h2
    · rw [List.getElem?_drop] at h2; exact h2
    · cases h2
  obtain ⟨h3, h4⟩ := List.getElem?_eq_some_iff.mp h1
  have h5 : P + o < c.size := by
    have h6 : c.size = c.data.toList.length := by cases c; rfl
    rw [h6]; exact h3
  have h7 : c[P + o]'h5 = b := by
    rw [← h4]; cases c; rfl
  show (dite (P + o < c.size) (fun h => ((do set (P + o + 1); pure (c[P + o]'h).toNat) : Jvm.ClassFile.Decoder Nat)) (fun _ => throw (Jvm.ClassFile.HasTruncated.truncated (P + o)))) c (P + o) = _
  rw [dif_pos h5]
  show Except.ok ((c[P + o]'h5).toNat, P + o + 1) = _
  rw [h7]
theorem qbind {α β : Type} {m : Jvm.ClassFile.Decoder α} {k : α → Jvm.ClassFile.Decoder β} {c : ByteArray} {p q : Nat} {a : α} (h : m c p = .ok (a, q)) : (m >>= k) c p = k a c q := by
  show Except.bind (m c p) _ = _
  rw [h]; rfl
theorem qmap {α β : Type} {m : Jvm.ClassFile.Decoder α} {f : α → β} {c : ByteArray} {p q : Nat} {a : α} (h : m c p = .ok (a, q)) : (f <$> m) c p = .ok (f a, q) := by
  show Except.bind (m c p) _ = _
  rw [h]; rfl
theorem qu2 {c : ByteArray} {p a b : Nat} (h : (Jvm.ClassFile.Reader.u1 : Jvm.ClassFile.Decoder Nat) c p = .ok (a, p + 1)) (h2 : (Jvm.ClassFile.Reader.u1 : Jvm.ClassFile.Decoder Nat) c (p + 1) = .ok (b, p + 2)) : (Jvm.ClassFile.Reader.u2 : Jvm.ClassFile.Decoder Nat) c p = .ok (a * 256 + b, p + 2) := (qbind h).trans (qbind h2)
theorem qs2 {c : ByteArray} {p a : Nat} {v : Int} (h : (Jvm.ClassFile.Reader.u2 : Jvm.ClassFile.Decoder Nat) c p = .ok (a, p + 2)) (hv : Jvm.ClassFile.Reader.signed 16 a = v) : (Jvm.ClassFile.Reader.s2 : Jvm.ClassFile.Decoder Int) c p = .ok (v, p + 2) := by rw [← hv]; exact qmap h
theorem qs1 {c : ByteArray} {p a : Nat} {v : Int} (h : (Jvm.ClassFile.Reader.u1 : Jvm.ClassFile.Decoder Nat) c p = .ok (a, p + 1)) (hv : Jvm.ClassFile.Reader.signed 8 a = v) : (Jvm.ClassFile.Reader.s1 : Jvm.ClassFile.Decoder Int) c p = .ok (v, p + 1) := by rw [← hv]; exact qmap h
theorem qdec {c : ByteArray} {p n : Nat} {x : Jvm.ClassFile.Instr} (h : Jvm.ClassFile.Decoder.instr p c p = .ok (x, p + n)) : decode c p = .ok (x, n) := by
  show Except.bind (Jvm.ClassFile.Decoder.instr p c p) _ = _
  rw [h]
  show Except.ok (x, p + n - p) = _
  rw [Nat.add_sub_cancel_left]
def qc1 (W : List UInt8) (o op : Nat) : Bool := match W[o]? with | some a => a.toNat == op | _ => false
def qc2 (W : List UInt8) (o op v : Nat) : Bool := match W.drop o with | a :: b :: _ => a.toNat == op && b.toNat == v | _ => false
def qc3 (W : List UInt8) (o op v : Nat) : Bool := match W.drop o with | a :: b :: c :: _ => a.toNat == op && b.toNat * 256 + c.toNat == v | _ => false
theorem qcons {W : List UInt8} {o : Nat} {a : UInt8} {r : List UInt8} (h : W.drop o = a :: r) : W[o]? = some a ∧ W.drop (o + 1) = r := by
  refine ⟨?_, ?_⟩
  · have h1 : (W.drop o)[0]? = some a := by rw [h]; rfl
    rw [List.getElem?_drop] at h1; exact h1
  · have h1 : (W.drop o).drop 1 = r := by rw [h]; rfl
    rw [List.drop_drop] at h1; exact h1
theorem qr0 {c : ByteArray} {P o op : Nat} {W : List UInt8} {x : Jvm.ClassFile.Instr} (hw : QW c P W) (h : qc1 W o op = true) (hi : ∀ {d : Nat} {c : ByteArray} {p : Nat}, (Jvm.ClassFile.Reader.u1 : Jvm.ClassFile.Decoder Nat) c p = .ok (op, p + 1) → Jvm.ClassFile.Decoder.instr d c p = .ok (x, p + 1)) : decode c (P + o) = .ok (x, 1) := by
  unfold qc1 at h
  split at h
  · rename_i a ha
    have e : a.toNat = op := by simpa using h
    exact qdec (hi (e ▸ qbyte hw ha))
  · cases h
theorem qr1 {c : ByteArray} {P o op v : Nat} {W : List UInt8} {x : Jvm.ClassFile.Instr} (hw : QW c P W) (h : qc2 W o op v = true) (hi : ∀ {d : Nat} {c : ByteArray} {p : Nat}, (Jvm.ClassFile.Reader.u1 : Jvm.ClassFile.Decoder Nat) c p = .ok (op, p + 1) → (Jvm.ClassFile.Reader.u1 : Jvm.ClassFile.Decoder Nat) c (p + 1) = .ok (v, p + 2) → Jvm.ClassFile.Decoder.instr d c p = .ok (x, p + 2)) : decode c (P + o) = .ok (x, 2) := by
  unfold qc2 at h
  split at h
  · rename_i a b r hd
    have e := h
    simp only [Bool.and_eq_true, beq_iff_eq] at e
    obtain ⟨h0, hd1⟩ := qcons hd
    obtain ⟨h1, -⟩ := qcons hd1
    have y0 := qbyte hw h0
    have y1 : (Jvm.ClassFile.Reader.u1 : Jvm.ClassFile.Decoder Nat) c (P + o + 1) = .ok (b.toNat, P + o + 2) := qbyte (o := o + 1) hw h1
    rw [e.1] at y0; rw [e.2] at y1
    exact qdec (hi y0 y1)
  · cases h
theorem qr2 {c : ByteArray} {P o op v : Nat} {W : List UInt8} {x : Jvm.ClassFile.Instr} (hw : QW c P W) (h : qc3 W o op v = true) (hi : ∀ {d : Nat} {c : ByteArray} {p : Nat}, (Jvm.ClassFile.Reader.u1 : Jvm.ClassFile.Decoder Nat) c p = .ok (op, p + 1) → (Jvm.ClassFile.Reader.u2 : Jvm.ClassFile.Decoder Nat) c (p + 1) = .ok (v, p + 3) → Jvm.ClassFile.Decoder.instr d c p = .ok (x, p + 3)) : decode c (P + o) = .ok (x, 3) := by
  unfold qc3 at h
  split at h
  · rename_i a b b2 r hd
    have e := h
    simp only [Bool.and_eq_true, beq_iff_eq] at e
    obtain ⟨h0, hd1⟩ := qcons hd
    obtain ⟨h1, hd2⟩ := qcons hd1
    obtain ⟨h2, -⟩ := qcons hd2
    have y0 := qbyte hw h0
    have y1 : (Jvm.ClassFile.Reader.u1 : Jvm.ClassFile.Decoder Nat) c (P + o + 1) = .ok (b.toNat, P + o + 1 + 1) := qbyte (o := o + 1) hw h1
    have y2 : (Jvm.ClassFile.Reader.u1 : Jvm.ClassFile.Decoder Nat) c (P + o + 1 + 1) = .ok (b2.toNat, P + o + 1 + 2) := qbyte (o := o + 1 + 1) hw h2
    have y3 := qu2 y1 y2
    rw [e.1] at y0; rw [e.2] at y3
    exact qdec (hi y0 y3)
  · cases h
