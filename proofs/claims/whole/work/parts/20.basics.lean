theorem put_at (w : Wd) (a : Nat) (f : Nat → Int32) : (put w a f).1 a = f := by unfold put; simp
theorem put_ne (w : Wd) {a b : Nat} (f : Nat → Int32) (h : b ≠ a) : (put w a f).1 b = w.1 b := by unfold put; simp [h]
theorem put_2 (w : Wd) (a : Nat) (f : Nat → Int32) : (put w a f).2 = w.2 := rfl
theorem put_put (w : Wd) (a : Nat) (f g : Nat → Int32) : put (put w a f) a g = put w a g := by
  unfold put
  refine Prod.ext (funext fun b => ?_) rfl
  by_cases h : b = a <;> simp [h]
theorem st2_put (w : Wd) (a k : Nat) (f : Nat → Int32) (v : Int32) : st2 (put w a f) a k v = put w a (upd f k v) := by
  unfold st2
  rw [put_at, put_put]
/-- a truth value as an int -/
def bz (b : Bool) : Int32 := if b = true then 1 else 0
theorem bz_01 (b : Bool) : bz b = 0 ∨ bz b = 1 := by cases b <;> decide
theorem bz_eq0 (b : Bool) : (bz b = 0) = (b = false) := by cases b <;> simp [bz]
theorem nI0_01 : nI 0 = 0 ∨ nI 0 = 1 := Or.inl (by decide)
theorem nI1_01 : nI 1 = 0 ∨ nI 1 = 1 := Or.inr (by decide)
theorem x_least {x y : Int32} {w : Wd} : CALL 111 [.int x, .int y] w = some ([.int (if x < y then x else y)], w) := by
  simp only [n111, u111_0, u111_1, u111_2, u111_5, u111_6, u111_9, u111_10]
  split <;> rfl
theorem x_at {a b : Nat} {w : Wd} : CALL 109 [.int (nI a), .int (nI b)] w = some ([.int (nI (25 + 5 * a + b))], w) := by
  simp only [n109, u109_0, u109_2, u109_3, u109_4, u109_5, u109_6, u109_7, u109_8, pk_mul, nI_add]
theorem x_its {a b : Nat} {w : Wd} (ha : a < 8) (hb : b < 5) : CALL 110 [.ref 44, .int (nI a), .int (nI b)] w = some ([.int (w.1 45 (25 + 5 * a + b))], w) := by
  simp (disch := omega) only [n110, u110_0, u110_1, u110_4, u110_6, u110_7, u110_8, u110_9, u110_10, u110_11, u110_12, u110_13, pk_mul, nI_add]
theorem x_isIn {x lo hi : Int64} {w : Wd} : CALL 102 [.long x, .long lo, .long hi] w = some ([.int (bz (decide (lo ≤ x ∧ x ≤ hi)))], w) := by
  simp (disch := first | exact nI0_01 | exact nI1_01) only [n102, u102_0, u102_1, u102_2, u102_3, u102_6, u102_7, u102_9, u102_10, u102_13, u102_14, u102_17, u102_18]
  sorry
