/-! what stands in a site of the class, and what the ground bears: pure -/
abbrev RS (K : Nat → Int32) (j : Nat) : Prop := j < 8 ∨ ¬ K (j - 8) = 46
abbrev SP (K : Nat → Int32) (j : Nat) : Prop := ¬ RS K j ∧ 0 < j % 8 ∧ j % 8 < 7 ∧ ¬ K (j - 1) = 46 ∧ RS K (j - 1) ∧ ¬ K (j + 1) = 46 ∧ RS K (j + 1)
abbrev WS (K : Nat → Int32) (j : Nat) : Prop := RS K j ∨ SP K j
def STF (K : Nat → Int32) : Prop := ∀ j, j < 48 → ¬ K j = 46 → WS K j
def su (f : Nat → Int32) : Nat → Int32
  | 0 => 0
  | n + 1 => su f n + f n
theorem i_rc (a b c : Int32) : a + b + c = a + c + b := by rw [Int32.add_assoc, Int32.add_comm b c, ← Int32.add_assoc]
theorem su_congr {f h : Nat → Int32} : ∀ n, (∀ k, k < n → f k = h k) → su f n = su h n
  | 0, _ => rfl
  | n + 1, e => by
    show su f n + f n = su h n + h n
    rw [su_congr n (fun k hk => e k (by omega)), e n (by omega)]
theorem su_add {f h t : Nat → Int32} : ∀ n, (∀ k, k < n → t k = f k + h k) → su t n = su f n + su h n
  | 0, _ => by show (0 : Int32) = 0 + 0; decide
  | n + 1, e => by
    show su t n + t n = su f n + f n + (su h n + h n)
    rw [su_add n (fun k hk => e k (by omega)), e n (by omega), ← Int32.add_assoc, ← Int32.add_assoc, i_rc (su f n) (su h n) (f n)]
theorem su_zero {f : Nat → Int32} : ∀ n, (∀ k, k < n → f k = 0) → su f n = 0
  | 0, _ => rfl
  | n + 1, e => by
    show su f n + f n = 0
    rw [su_zero n (fun k hk => e k (by omega)), e n (by omega)]
    decide
theorem su_app {f : Nat → Int32} {a : Nat} : ∀ n, su f (a + n) = su f a + su (fun k => f (a + k)) n
  | 0 => (Int32.add_zero _).symm
  | n + 1 => by
    show su f (a + n) + f (a + n) = su f a + (su (fun k => f (a + k)) n + f (a + n))
    rw [su_app n, Int32.add_assoc]
/-- one of the summands is another -/
theorem su_one {f t : Nat → Int32} {a : Nat} {d : Int32} : ∀ n, a < n → (∀ k, k < n → k ≠ a → t k = f k) → t a = f a + d → su t n = su f n + d
  | 0, h, _, _ => by omega
  | n + 1, h, e, ea => by
    show su t n + t n = su f n + f n + d
    by_cases z : a = n
    · subst z
      rw [su_congr a (fun k hk => e k (by omega) (by omega)), ea, Int32.add_assoc]
    · rw [su_one n (by omega) (fun k hk hn => e k (by omega) hn) ea, e n (by omega) (by omega), i_rc]
theorem su_skip {f : Nat → Int32} {j : Nat} (h : f j = 0) : su f (j + 1) = su f j := by
  show su f j + f j = su f j
  rw [h, Int32.add_zero]
theorem su_more {f : Nat → Int32} {j : Nat} {d : Int32} (h : f j = d) : su f (j + 1) = su f j + d := by
  show su f j + f j = su f j + d
  rw [h]
theorem no_place : ∀ p, p < 48 → ¬ nI p = -1 := fun p hp h => by
  have h1 := congrArg Int32.toInt h
  rw [nI_toInt (by omega), show (-1 : Int32).toInt = -1 by decide] at h1
  omega
section WEIGH
variable (K M : Nat → Int32) (mp mo : Int32)
def wA (y : Nat) (L : Nat → Int32) : Nat → Nat → Int32
  | 0 => L
  | x + 1 => upd (wA y L x) (8 * y + x) (if K (8 * y + x) = 46 then 0 else M (8 * y + x) + (if y < 5 then wA y L x (8 * y + x + 8) else 0) + (if nI (8 * y + x) = mp then mo else 0))
def wS (p : Nat) (L : Nat → Int32) : Nat → Int32 :=
  upd (upd L (p - 1) (L (p - 1) + L p / 2)) (p + 1) (upd L (p - 1) (L (p - 1) + L p / 2) (p + 1) + (upd L (p - 1) (L (p - 1) + L p / 2) p - L p / 2))
def wB (y : Nat) (L : Nat → Int32) : Nat → Nat → Int32
  | 0 => L
  | n + 1 => if ¬ K (8 * y + (n + 1)) = 46 ∧ SP K (8 * y + (n + 1)) then wS (8 * y + (n + 1)) (wB y L n) else wB y L n
def wR (y : Nat) (L : Nat → Int32) : Nat → Int32 := wB K y (wA K M mp mo y L 8) 6
def wW (L : Nat → Int32) : Nat → Nat → Int32
  | 0 => L
  | k + 1 => wR K M mp mo (5 - k) (wW L k)
end WEIGH
section WEIGHL
variable {K M : Nat → Int32} {mp mo : Int32} {L : Nat → Int32} {y : Nat}
theorem upd_at {f : Nat → Int32} {k : Nat} {x : Int32} : upd f k x k = x := if_pos rfl
theorem upd_ne {f : Nat → Int32} {k j : Nat} {x : Int32} (h : j ≠ k) : upd f k x j = f j := if_neg h
theorem wA_out {q : Nat} : ∀ n, n ≤ 8 → (q < 8 * y ∨ 8 * y + 8 ≤ q) → wA K M mp mo y L n q = L q
  | 0, _, _ => rfl
  | n + 1, h, hq => by
    show upd _ _ _ q = L q
    rw [upd_ne (by omega)]
    exact wA_out n (by omega) hq
/-- what a cell bears before the arches of its row give theirs -/
def wv (K M : Nat → Int32) (mp mo : Int32) (y : Nat) (L : Nat → Int32) (x : Nat) : Int32 := if K (8 * y + x) = 46 then 0 else M (8 * y + x) + (if y < 5 then L (8 * y + x + 8) else 0) + (if nI (8 * y + x) = mp then mo else 0)
theorem wA_in {x : Nat} : ∀ n, n ≤ 8 → x < n → wA K M mp mo y L n (8 * y + x) = wv K M mp mo y L x
  | 0, _, h => by omega
  | n + 1, h, hx => by
    show upd _ _ _ (8 * y + x) = _
    by_cases e : x = n
    · subst e
      rw [upd_at, wA_out x (by omega) (by omega)]
      rfl
    · rw [upd_ne (by omega)]
      exact wA_in n (by omega) (by omega)
theorem upd_upd {f : Nat → Int32} {k : Nat} {x z : Int32} : upd (upd f k x) k z = upd f k z := funext fun j => by
  by_cases e : j = k
  · rw [e, upd_at, upd_at]
  · rw [upd_ne e, upd_ne e, upd_ne e]
theorem wA_none {x : Nat} (hk : K (8 * y + x) = 46) : wA K M mp mo y L (x + 1) = upd (wA K M mp mo y L x) (8 * y + x) 0 := by
  show upd _ _ _ = _
  rw [if_pos hk]
theorem wA_has {x : Nat} {ab se : Int32} (hk : ¬ K (8 * y + x) = 46) (ha : ab = if y < 5 then wA K M mp mo y L x (8 * y + x + 8) else 0) (hs : se = if nI (8 * y + x) = mp then mo else 0) : wA K M mp mo y L (x + 1) = upd (upd (wA K M mp mo y L x) (8 * y + x) 0) (8 * y + x) (M (8 * y + x) + ab + se) := by
  rw [upd_upd, ha, hs]
  show upd _ _ _ = _
  rw [if_neg hk]
theorem wB_at {j : Nat} (hj : 1 ≤ j) : wB K y L j = if ¬ K (8 * y + j) = 46 ∧ SP K (8 * y + j) then wS (8 * y + j) (wB K y L (j - 1)) else wB K y L (j - 1) := by
  obtain ⟨n, rfl⟩ : ∃ n, j = n + 1 := ⟨j - 1, by omega⟩
  rfl
theorem wB_none (j : Nat) (hj : 1 ≤ j) (h : K (8 * y + j) = 46) : wB K y L j = wB K y L (j - 1) := (wB_at hj).trans (if_neg (fun z => z.1 h))
theorem wB_none2 (j : Nat) (hj : 1 ≤ j) (h : ¬ SP K (8 * y + j)) : wB K y L j = wB K y L (j - 1) := (wB_at hj).trans (if_neg (fun z => h z.2))
theorem wB_arch (j : Nat) (hj : 1 ≤ j) (h1 : ¬ K (8 * y + j) = 46) (h2 : SP K (8 * y + j)) : wB K y L j = wS (8 * y + j) (wB K y L (j - 1)) := (wB_at hj).trans (if_pos ⟨h1, h2⟩)
theorem wW_step {j : Nat} (hj : j < 6) : wW K M mp mo L (6 - j) = wR K M mp mo j (wW K M mp mo L (5 - j)) := by
  obtain ⟨n, hn⟩ : ∃ n, 6 - j = n + 1 := ⟨5 - j, by omega⟩
  rw [hn, show 5 - j = n by omega]
  show wR K M mp mo (5 - n) _ = _
  rw [show 5 - n = j by omega]
theorem wS_p {p : Nat} (hp : 0 < p) : wS p L p = L p := by
  unfold wS
  rw [upd_ne (by omega), upd_ne (by omega)]
theorem wS_l {p : Nat} (hp : 0 < p) : wS p L (p - 1) = L (p - 1) + L p / 2 := by
  unfold wS
  rw [upd_ne (by omega), upd_at]
theorem wS_r {p : Nat} (hp : 0 < p) : wS p L (p + 1) = L (p + 1) + (L p - L p / 2) := by
  unfold wS
  rw [upd_at, upd_ne (by omega), upd_ne (show p ≠ p - 1 by omega)]
theorem wS_o {p q : Nat} (h1 : q ≠ p - 1) (h2 : q ≠ p + 1) : wS p L q = L q := by
  unfold wS
  rw [upd_ne h2, upd_ne h1]
/-- an arch stands between two cells that bear it -/
theorem SP.mid {j : Nat} (h : SP K j) : 0 < j % 8 ∧ j % 8 < 7 := ⟨h.2.1, h.2.2.1⟩
theorem wB_out {q : Nat} : ∀ n, n ≤ 6 → (q < 8 * y ∨ 8 * y + 8 ≤ q) → wB K y L n q = L q
  | 0, _, _ => rfl
  | n + 1, h, hq => by
    have ih := wB_out (q := q) n (by omega) hq
    show (if _ then _ else _ : Nat → Int32) q = L q
    by_cases e : ¬ K (8 * y + (n + 1)) = 46 ∧ SP K (8 * y + (n + 1))
    · rw [if_pos e, wS_o (by omega) (by omega)]
      exact ih
    · rw [if_neg e]
      exact ih
/-- where no cell is, and at an arch, the second pass leaves the load -/
theorem wB_keep {x : Nat} (hx : x < 8) (hk : K (8 * y + x) = 46 ∨ ¬ RS K (8 * y + x)) : ∀ n, n ≤ 6 → wB K y L n (8 * y + x) = L (8 * y + x)
  | 0, _ => rfl
  | n + 1, h => by
    have ih := wB_keep hx hk n (by omega)
    show (if _ then _ else _ : Nat → Int32) (8 * y + x) = L (8 * y + x)
    by_cases e : ¬ K (8 * y + (n + 1)) = 46 ∧ SP K (8 * y + (n + 1))
    · obtain ⟨-, -, s2, s3, s4, s5, s6, s7⟩ := id e
      rw [if_pos e, wS_o (fun z => ?_) (fun z => ?_)]
      · exact ih
      · rw [z] at hk
        exact hk.elim s4 (fun w => w s5)
      · rw [z] at hk
        exact hk.elim s6 (fun w => w s7)
    · rw [if_neg e]
      exact ih
/-- what the cells of a row bear that have something below them -/
def wG (K L : Nat → Int32) (y : Nat) : Int32 := su (fun x => if K (8 * y + x) = 46 ∨ ¬ RS K (8 * y + x) then 0 else L (8 * y + x)) 8
def wQ (K L : Nat → Int32) (y : Nat) (n : Nat) : Int32 := su (fun x => if ¬ K (8 * y + x) = 46 ∧ SP K (8 * y + x) then L (8 * y + x) else 0) n
theorem wB_sum : ∀ n, n ≤ 6 → wG K (wB K y L n) y = wG K L y + wQ K L y (n + 1)
  | 0, _ => by
    have e : wQ K L y (0 + 1) = 0 := su_zero 1 (fun k hk => if_neg (fun z => by have := z.2.mid; omega))
    rw [e, Int32.add_zero]
    rfl
  | n + 1, h => by
    have ih := wB_sum n (by omega)
    have e9 : wQ K L y (n + 1 + 1) = wQ K L y (n + 1) + (if ¬ K (8 * y + (n + 1)) = 46 ∧ SP K (8 * y + (n + 1)) then L (8 * y + (n + 1)) else 0) := rfl
    rw [e9, ← Int32.add_assoc, ← ih]
    by_cases e : ¬ K (8 * y + (n + 1)) = 46 ∧ SP K (8 * y + (n + 1))
    · have eB : wB K y L (n + 1) = wS (8 * y + (n + 1)) (wB K y L n) := if_pos e
      have hp : wB K y L n (8 * y + (n + 1)) = L (8 * y + (n + 1)) := wB_keep (by omega) (Or.inr e.2.1) n (by omega)
      obtain ⟨-, s1, s2, s3, s4, s5, s6, s7⟩ := id e
      rw [eB, if_pos e]
      generalize wB K y L n = B at hp ⊢
      -- the left one takes half, the right one the rest
      have h1 : wG K (upd B (8 * y + n) (B (8 * y + n) + B (8 * y + (n + 1)) / 2)) y = wG K B y + B (8 * y + (n + 1)) / 2 := by
        refine su_one 8 (a := n) (by omega) (fun k hk hn => ?_) ?_
        · rw [upd_ne (show 8 * y + k ≠ 8 * y + n by omega)]
        · have g : ¬ (K (8 * y + n) = 46 ∨ ¬ RS K (8 * y + n)) := fun z => z.elim s4 (fun w => w s5)
          rw [if_neg g, if_neg g, upd_at]
      have h2 : wG K (wS (8 * y + (n + 1)) B) y = wG K (upd B (8 * y + n) (B (8 * y + n) + B (8 * y + (n + 1)) / 2)) y + (B (8 * y + (n + 1)) - B (8 * y + (n + 1)) / 2) := by
        refine su_one 8 (a := n + 2) (by omega) (fun k hk hn => ?_) ?_
        · have g : wS (8 * y + (n + 1)) B (8 * y + k) = upd B (8 * y + n) (B (8 * y + n) + B (8 * y + (n + 1)) / 2) (8 * y + k) := by
            by_cases z : k = n
            · subst z
              rw [upd_at]
              exact wS_l (p := 8 * y + (k + 1)) (by omega)
            · rw [upd_ne (show 8 * y + k ≠ 8 * y + n by omega), wS_o (by omega) (by omega)]
          rw [g]
        · have g : ¬ (K (8 * y + (n + 2)) = 46 ∨ ¬ RS K (8 * y + (n + 2))) := fun z => z.elim s6 (fun w => w s7)
          rw [if_neg g, if_neg g, upd_ne (show 8 * y + (n + 2) ≠ 8 * y + n by omega)]
          exact wS_r (p := 8 * y + (n + 1)) (by omega)
      rw [h2, h1, Int32.add_assoc, Int32.add_comm (B _ / 2), Int32.sub_add_cancel, hp]
    · have eB : wB K y L (n + 1) = wB K y L n := if_neg e
      rw [eB, if_neg e, Int32.add_zero]
/-- the masses of a row -/
def wMs (K M : Nat → Int32) (y : Nat) : Int32 := su (fun x => if K (8 * y + x) = 46 then 0 else M (8 * y + x)) 8
theorem wR_out {q : Nat} (hq : q < 8 * y ∨ 8 * y + 8 ≤ q) : wR K M mp mo y L q = L q := (wB_out 6 (by omega) hq).trans (wA_out 8 (by omega) hq)
theorem wR_none {x : Nat} (hx : x < 8) (hk : K (8 * y + x) = 46) : wR K M mp mo y L (8 * y + x) = 0 := by
  show wB K y _ 6 (8 * y + x) = 0
  rw [wB_keep hx (Or.inl hk) 6 (by omega), wA_in 8 (by omega) hx]
  exact if_pos hk
/-- the row's bearing cells bear the row's masses, and what the row above has given down -/
theorem wR_sum (hy : y < 6) (hmp : ∀ p, p < 48 → ¬ nI p = mp) (hs : STF K) (hz : y < 5 → ∀ x, x < 8 → K (8 * (y + 1) + x) = 46 → L (8 * (y + 1) + x) = 0) :
    wG K (wR K M mp mo y L) y = wMs K M y + (if y < 5 then wG K L (y + 1) else 0) := by
  have h1 : wG K (wR K M mp mo y L) y = wG K (wA K M mp mo y L 8) y + wQ K (wA K M mp mo y L 8) y 7 := wB_sum 6 (by omega)
  have h2 : wQ K (wA K M mp mo y L 8) y 8 = wQ K (wA K M mp mo y L 8) y 7 := by
    show wQ K (wA K M mp mo y L 8) y 7 + (if ¬ K (8 * y + 7) = 46 ∧ SP K (8 * y + 7) then wA K M mp mo y L 8 (8 * y + 7) else 0) = _
    rw [if_neg (fun z => by have := z.2.mid; omega), Int32.add_zero]
  rw [h1, ← h2]
  -- all cells of the row: those with something below, and arches
  have h3 : su (fun x => if K (8 * y + x) = 46 then 0 else wA K M mp mo y L 8 (8 * y + x)) 8 = wG K (wA K M mp mo y L 8) y + wQ K (wA K M mp mo y L 8) y 8 := by
    refine su_add 8 (fun k hk => ?_)
    by_cases a : K (8 * y + k) = 46
    · rw [if_pos a, if_pos (Or.inl a), if_neg (fun z => z.1 a)]
      decide
    · rw [if_neg a]
      by_cases r : RS K (8 * y + k)
      · rw [if_neg (fun z => z.elim a (fun w => w r)), if_neg (fun z => z.2.1 r), Int32.add_zero]
      · rw [if_pos (Or.inr r), if_pos ⟨a, (hs _ (by omega) a).resolve_left r⟩, Int32.zero_add]
  rw [← h3]
  by_cases h5 : y < 5
  · rw [if_pos h5]
    refine su_add 8 (fun k hk => ?_)
    by_cases a : K (8 * y + k) = 46
    · have r : ¬ RS K (8 * (y + 1) + k) := fun z => z.elim (fun w => by omega) (fun w => w (by rw [show 8 * (y + 1) + k - 8 = 8 * y + k by omega]; exact a))
      rw [if_pos a, if_pos a, if_pos (Or.inr r)]
      decide
    · have r : RS K (8 * (y + 1) + k) := Or.inr (by rw [show 8 * (y + 1) + k - 8 = 8 * y + k by omega]; exact a)
      rw [if_neg a, if_neg a, wA_in 8 (by omega) hk]
      unfold wv
      rw [if_neg a, if_pos h5, if_neg (hmp _ (by omega)), Int32.add_zero, show 8 * y + k + 8 = 8 * (y + 1) + k by omega]
      by_cases z : K (8 * (y + 1) + k) = 46
      · rw [if_pos (Or.inl z), hz h5 k hk z]
      · rw [if_neg (fun w => w.elim z (fun v => v r))]
  · rw [if_neg h5, Int32.add_zero]
    refine su_congr 8 (fun k hk => ?_)
    by_cases a : K (8 * y + k) = 46
    · rw [if_pos a, if_pos a]
    · rw [if_neg a, if_neg a, wA_in 8 (by omega) hk]
      unfold wv
      rw [if_neg a, if_neg h5, if_neg (hmp _ (by omega)), Int32.add_zero, Int32.add_zero]
def wT (K M : Nat → Int32) : Nat → Int32
  | 0 => 0
  | k + 1 => wMs K M (5 - k) + wT K M k
theorem wG_congr {L2 : Nat → Int32} (h : ∀ x, x < 8 → L2 (8 * y + x) = L (8 * y + x)) : wG K L2 y = wG K L y := su_congr 8 (fun k hk => by rw [h k hk])
theorem wW_sum (hmp : ∀ p, p < 48 → ¬ nI p = mp) (hs : STF K) : ∀ k, k < 6 → wG K (wW K M mp mo L (k + 1)) (5 - k) = wT K M (k + 1) ∧ ∀ x, x < 8 → K (8 * (5 - k) + x) = 46 → wW K M mp mo L (k + 1) (8 * (5 - k) + x) = 0
  | 0, _ => ⟨(wR_sum (y := 5) (by omega) hmp hs (fun h => by omega)).trans (by rw [if_neg (by omega)]; rfl), fun x hx h => wR_none hx h⟩
  | k + 1, hk => by
    obtain ⟨i1, i2⟩ := wW_sum hmp hs k (by omega)
    refine ⟨?_, fun x hx h => wR_none hx h⟩
    have e : 5 - (k + 1) + 1 = 5 - k := by omega
    have h1 := wR_sum (K := K) (M := M) (mp := mp) (mo := mo) (L := wW K M mp mo L (k + 1)) (y := 5 - (k + 1)) (by omega) hmp hs (fun _ => by rw [e]; exact i2)
    rw [if_pos (by omega), e, i1] at h1
    exact h1
/-- the ground bears all masses -/
theorem wW_all (hmp : ∀ p, p < 48 → ¬ nI p = mp) (hs : STF K) : su (fun n => if K n = 46 then 0 else M n) 48 = su (fun n => if K n = 46 then 0 else if n < 8 then wW K M mp mo L 6 n else 0) 48 := by
  have h1 := (wW_sum (K := K) (M := M) (mp := mp) (mo := mo) (L := L) hmp hs 5 (by omega)).1
  have f8 : ∀ a, su (fun n => if K n = 46 then 0 else M n) (8 * a + 8) = su (fun n => if K n = 46 then 0 else M n) (8 * a) + wMs K M a := fun a => su_app 8
  have f0 : su (fun n => if K n = 46 then 0 else M n) (8 * 0) = 0 := rfl
  have hl : su (fun n => if K n = 46 then 0 else M n) 48 = 0 + wMs K M 0 + wMs K M 1 + wMs K M 2 + wMs K M 3 + wMs K M 4 + wMs K M 5 := by
    rw [show (48 : Nat) = 8 * 5 + 8 by omega, f8, show 8 * 5 = 8 * 4 + 8 by omega, f8, show 8 * 4 = 8 * 3 + 8 by omega, f8, show 8 * 3 = 8 * 2 + 8 by omega, f8, show 8 * 2 = 8 * 1 + 8 by omega, f8, show 8 * 1 = 8 * 0 + 8 by omega, f8, f0]
  have hr : su (fun n => if K n = 46 then 0 else if n < 8 then wW K M mp mo L 6 n else 0) 48 = wG K (wW K M mp mo L 6) 0 := by
    rw [show (48 : Nat) = 8 + 40 by omega, su_app 40, su_zero (f := fun k => (fun n => if K n = 46 then 0 else if n < 8 then wW K M mp mo L 6 n else 0) (8 + k)) 40 (fun k hk => by
      show (if K (8 + k) = 46 then 0 else if 8 + k < 8 then wW K M mp mo L 6 (8 + k) else 0) = 0
      rw [if_neg (show ¬ 8 + k < 8 by omega)]
      split <;> rfl), Int32.add_zero]
    refine su_congr 8 (fun k hk => ?_)
    rw [show 8 * 0 + k = k by omega, if_pos hk]
    by_cases a : K k = 46
    · rw [if_pos a, if_pos (Or.inl a)]
    · rw [if_neg a, if_neg (fun z => z.elim a (fun w => w (Or.inl hk)))]
  have ht : wT K M 6 = wMs K M 0 + (wMs K M 1 + (wMs K M 2 + (wMs K M 3 + (wMs K M 4 + (wMs K M 5 + 0))))) := rfl
  rw [hl, hr, show wG K (wW K M mp mo L 6) 0 = wT K M 6 from h1, ht, Int32.add_zero, Int32.zero_add]
  rw [Int32.add_assoc, Int32.add_assoc, Int32.add_assoc, Int32.add_assoc]
end WEIGHL
/-- how many cells stand in a site -/
def ck (K : Nat → Int32) : Nat := cn (fun k => decide (¬ K k = 46)) 48
theorem ck_le {K : Nat → Int32} : ck K ≤ 48 := cn_le _ 48
/-- what falls makes them fewer -/
theorem ck_less {K K2 : Nat → Int32} {j : Nat} (h : ∀ k, k < 48 → ¬ K2 k = 46 → ¬ K k = 46) (hj : j < 48) (h1 : ¬ K j = 46) (h2 : K2 j = 46) : ck K2 + 1 ≤ ck K := by
  have a : cn (fun k => decide (¬ K2 k = 46)) 48 ≤ cn (fun k => decide (¬ upd K j 46 k = 46)) 48 := cn_mono 48 (fun k hk e => by
    have e2 : ¬ K2 k = 46 := of_decide_eq_true e
    refine decide_eq_true ?_
    by_cases z : k = j
    · subst z
      exact absurd h2 e2
    · rw [upd_ne z]
      exact h k hk e2)
  have c := cn_clear (p := fun k => decide (¬ K k = 46)) (r := fun k => decide (¬ upd K j 46 k = 46)) (j := j) (decide_eq_true h1) (decide_eq_false (fun z => z upd_at)) 48 (fun k _ hn => by rw [upd_ne hn])
  rw [if_pos hj] at c
  show cn (fun k => decide (¬ K2 k = 46)) 48 + 1 ≤ cn (fun k => decide (¬ K k = 46)) 48
  omega

