
/-- one told number is set -/
noncomputable def sI (g : Gh) (q j : Nat) (x : Int32) : Gh := uI g q (upd (pI g q) j x)
theorem sI_at {g : Gh} {q j : Nat} {x : Int32} : pI (sI g q j x) q j = x := (congrFun uI_s j).trans (if_pos rfl)
theorem sI_ne {g : Gh} {q j q2 j2 : Nat} {x : Int32} (h : q2 ≠ q ∨ j2 ≠ j) : pI (sI g q j x) q2 j2 = pI g q2 j2 := by
  by_cases e : q2 = q
  · subst e
    exact (congrFun uI_s j2).trans (if_neg (h.resolve_left (fun z => z rfl)))
  · exact congrFun (uI_n e) j2
theorem uI_id {g : Gh} {q : Nat} {f : Nat → Int32} (h : f = pI g q) : uI g q f = g := by
  subst h
  have e : (fun a => if a = q then pI g q else g.2.1 a) = g.2.1 := funext fun a => by
    by_cases z : a = q
    · subst z; exact if_pos rfl
    · exact if_neg z
  show (g.1, (fun a => if a = q then pI g q else g.2.1 a), g.2.2) = g
  rw [e]
theorem uI_uI {g : Gh} {q : Nat} {f f2 : Nat → Int32} : uI (uI g q f) q f2 = uI g q f2 := by
  have e : (fun a => if a = q then f2 else (if a = q then f else g.2.1 a)) = (fun a => if a = q then f2 else g.2.1 a) := funext fun a => by
    by_cases z : a = q
    · rw [if_pos z, if_pos z]
    · rw [if_neg z, if_neg z, if_neg z]
  show (g.1, (fun a => if a = q then f2 else (if a = q then f else g.2.1 a)), g.2.2) = (g.1, (fun a => if a = q then f2 else g.2.1 a), g.2.2)
  rw [e]
theorem sI_id {g : Gh} {q j : Nat} : sI g q j (pI g q j) = g := uI_id (funext fun a => by
  show (if a = j then pI g q j else pI g q a) = pI g q a
  by_cases z : a = j
  · rw [if_pos z, z]
  · rw [if_neg z])
theorem sI_sI {g : Gh} {q j : Nat} {x y : Int32} : sI (sI g q j x) q j y = sI g q j y := by
  show uI (uI g q _) q (upd (pI (uI g q (upd (pI g q) j x)) q) j y) = uI g q (upd (pI g q) j y)
  rw [uI_uI, uI_s]
  congr 1
  funext a
  show (if a = j then y else (if a = j then x else pI g q a)) = (if a = j then y else pI g q a)
  by_cases z : a = j
  · rw [if_pos z, if_pos z]
  · rw [if_neg z, if_neg z, if_neg z]
/-- the day's four numbers in the class's sky -/
noncomputable def dayC (g : Gh) (o j : Nat) (lo hi wi hu : Int32) : Gh := sI (sI (sI (sI g (pF g (pF g o 0) 0) j lo) (pF g (pF g o 0) 1) j hi) (pF g (pF g o 0) 2) j wi) (pF g (pF g o 0) 3) j hu
/-- how many are planned -/
noncomputable def pn (f : Nat → Int32) : Nat → Int32
  | 0 => 0
  | n + 1 => (if f n = 0 then 0 else 1) + pn f n

