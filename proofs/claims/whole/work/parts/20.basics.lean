/-! PURE FACTS: worlds, small numbers -/
theorem put_at (w : Wd) (a : Nat) (f : Nat → Int32) : (put w a f).1 a = f := by unfold put; simp
theorem put_ne (w : Wd) {a b : Nat} (f : Nat → Int32) (h : b ≠ a) : (put w a f).1 b = w.1 b := by unfold put; simp [h]
theorem put_2 (w : Wd) (a : Nat) (f : Nat → Int32) : (put w a f).2 = w.2 := rfl
theorem put_put (w : Wd) (a : Nat) (f g : Nat → Int32) : put (put w a f) a g = put w a g := by
  unfold put
  refine Prod.ext (funext fun b => ?_) rfl
  by_cases h : b = a <;> simp [h]
theorem put_cm (w : Wd) {a b : Nat} (f g : Nat → Int32) (h : a ≠ b) : put (put w a f) b g = put (put w b g) a f := by
  unfold put
  refine Prod.ext (funext fun c => ?_) rfl
  by_cases h1 : c = a
  · subst h1; simp [h]
  · by_cases h2 : c = b
    · subst h2; simp [h1]
    · simp [h1, h2]
theorem put_id (w : Wd) {a : Nat} {f : Nat → Int32} (h : w.1 a = f) : put w a f = w := by
  unfold put
  refine Prod.ext (funext fun c => ?_) rfl
  by_cases h1 : c = a
  · subst h1; simp [h]
  · simp [h1]
theorem st2_put (w : Wd) (a k : Nat) (f : Nat → Int32) (v : Int32) : st2 (put w a f) a k v = put w a (upd f k v) := by
  unfold st2
  rw [put_at, put_put]
/-- a truth value as an int -/
def bz (b : Bool) : Int32 := if b = true then 1 else 0
theorem bz_01 (b : Bool) : bz b = 0 ∨ bz b = 1 := by cases b <;> decide
theorem bz_eq0 (b : Bool) : (bz b = 0) = (b = false) := by cases b <;> simp [bz]
theorem bz_t : bz true = nI 1 := by decide
theorem bz_f : bz false = nI 0 := by decide
theorem bz_no {c : Prop} {d : Decidable c} (h : ¬ c) : bz (decide c) = nI 0 := by rw [decide_eq_false h]; decide
theorem bz_ye {c : Prop} {d : Decidable c} (h : c) : bz (decide c) = nI 1 := by rw [decide_eq_true h]; decide
theorem nI0_01 : nI 0 = 0 ∨ nI 0 = 1 := Or.inl (by decide)
theorem nI1_01 : nI 1 = 0 ∨ nI 1 = 1 := Or.inr (by decide)
/-- a finding -/
def lo (k : Nat) : Int32 := -1000001 - nI k
/-- a number from 0 to hi -/
def ok (v : Int32) (hi : Nat) : Bool := decide (0 ≤ v.toInt ∧ v.toInt ≤ (hi : Int))
def ix (v : Int32) : Nat := v.toNatClampNeg
theorem ok_case (v : Int32) (hi : Nat) (h : hi < 2147483648) : (∃ k, k ≤ hi ∧ v = nI k ∧ ok v hi = true ∧ ix v = k) ∨ ok v hi = false := by
  by_cases hv : 0 ≤ v.toInt ∧ v.toInt ≤ (hi : Int)
  · left
    have e : v = nI v.toInt.toNat := by
      apply Int32.toInt_inj.mp
      rw [nI_toInt (by omega)]
      omega
    refine ⟨v.toInt.toNat, by omega, e, by unfold ok; simp [hv], rfl⟩
  · right
    unfold ok; simp only [hv, decide_false]
theorem ok_nI {k hi : Nat} (h : k < 2147483648) : ok (nI k) hi = decide (k ≤ hi) := by
  unfold ok
  rw [nI_toInt h]
  by_cases hk : k ≤ hi
  · simp [hk]
  · simp [hk]
theorem ix_nI {k : Nat} (h : k < 2147483648) : ix (nI k) = k := nI_clamp h
theorem le_nI {v : Int32} {n : Nat} (h : n < 2147483648) : (v ≤ nI n) = (v.toInt ≤ (n : Int)) := by rw [Int32.le_iff_toInt_le, nI_toInt h]
theorem ge_nI {v : Int32} {n : Nat} (h : n < 2147483648) : (nI n ≤ v) = ((n : Int) ≤ v.toInt) := by rw [Int32.le_iff_toInt_le, nI_toInt h]
theorem lt_nI {v : Int32} {n : Nat} (h : n < 2147483648) : (v < nI n) = (v.toInt < (n : Int)) := by rw [Int32.lt_iff_toInt_lt, nI_toInt h]
theorem gt_nI {v : Int32} {n : Nat} (h : n < 2147483648) : (nI n < v) = ((n : Int) < v.toInt) := by rw [Int32.lt_iff_toInt_lt, nI_toInt h]
theorem lt_z {v : Int32} : (v < 0) = (v.toInt < 0) := by rw [Int32.lt_iff_toInt_lt, Int32.toInt_zero]
theorem ge_z {v : Int32} : (0 ≤ v) = (0 ≤ v.toInt) := by rw [Int32.le_iff_toInt_le, Int32.toInt_zero]
theorem gt_z {v : Int32} : (0 < v) = (0 < v.toInt) := by rw [Int32.lt_iff_toInt_lt, Int32.toInt_zero]
theorem le_z {v : Int32} : (v ≤ 0) = (v.toInt ≤ 0) := by rw [Int32.le_iff_toInt_le, Int32.toInt_zero]
theorem nn_le {a b : Nat} (ha : a < 2147483648) (hb : b < 2147483648) : (nI a ≤ nI b) = (a ≤ b) := propext (nI_leI ha hb)
theorem nn_lt {a b : Nat} (ha : a < 2147483648) (hb : b < 2147483648) : (nI a < nI b) = (a < b) := propext (nI_ltI ha hb)
theorem nn_eq {a b : Nat} (ha : a < 2147483648) (hb : b < 2147483648) : (nI a = nI b) = (a = b) := propext (nI_eq ha hb)
theorem nn_eq0 {a : Nat} (ha : a < 2147483648) : (nI a = 0) = (a = 0) := by rw [← nI_0, nn_eq ha (by omega)]
theorem nn_ge0 {a : Nat} (ha : a < 2147483648) : (0 ≤ nI a) = True := eq_true (nI_pos' ha)
theorem nn_lt0 {a : Nat} (ha : a < 2147483648) : (nI a < 0) = False := eq_false (nI_pos ha)
theorem nn_gt0 {a : Nat} (ha : a < 2147483648) : (0 < nI a) = (0 < a) := by rw [← nI_0, nn_lt (by omega) ha]
theorem nn_le0 {a : Nat} (ha : a < 2147483648) : (nI a ≤ 0) = (a = 0) := by
  rw [← nI_0, nn_le ha (by omega)]
  exact propext ⟨fun h => by omega, fun h => by omega⟩
theorem nn_rem (a d : Nat) : nI a - nI (a / d) * nI d = nI (a % d) := by
  rw [pk_mul, pk_sub (Nat.div_mul_le_self a d)]
  congr 1
  have := Nat.div_add_mod a d
  rw [Nat.mul_comm] at this
  omega
/-- a reef: 0 (writers, day, z), 1 jar, 2 bones, 3 catches, 4 kinds, 5 words, 6 at, 7 fat, 8 written, 9 spots -/
abbrev Gs : Type := Nat → Nat → Nat
def up (G : Gs) (c k v : Nat) : Gs := fun a b => if a = c ∧ b = k then v else G a b
theorem up_at (G : Gs) (c k v : Nat) : up G c k v c k = v := by unfold up; simp
theorem up_nc (G : Gs) {c k v a b : Nat} (h : a ≠ c) : up G c k v a b = G a b := by unfold up; simp [h]
theorem up_nk (G : Gs) {c k v a b : Nat} (h : b ≠ k) : up G c k v a b = G a b := by unfold up; simp [h]
/-- the row of the reference -/
def lay (G : Gs) (k : Nat) : Nat := if k < 3 then G 0 k else if k < 13 then G 1 (k - 3) else if k < 19 then G 2 (k - 13) else if k < 25 then G 3 (k - 19) else if k < 65 then G (4 + (k - 25) % 5) ((k - 25) / 5) else G 9 (k - 65)
def rowS (G : Gs) : Nat → Int32 := fun k => if k < 75 then nI (lay G k) else 0
def putS (w : Wd) (G : Gs) : Wd := put w 45 (rowS G)
theorem lay_0 (G : Gs) {k : Nat} (h : k < 3) : lay G k = G 0 k := by unfold lay; simp [h]
theorem lay_1 (G : Gs) {k : Nat} (h : k < 10) : lay G (3 + k) = G 1 k := by
  unfold lay
  rw [if_neg (by omega), if_pos (by omega), Nat.add_sub_cancel_left]
theorem lay_2 (G : Gs) {k : Nat} (h : k < 6) : lay G (13 + k) = G 2 k := by
  unfold lay
  rw [if_neg (by omega), if_neg (by omega), if_pos (by omega), Nat.add_sub_cancel_left]
theorem lay_3 (G : Gs) {k : Nat} (h : k < 6) : lay G (19 + k) = G 3 k := by
  unfold lay
  rw [if_neg (by omega), if_neg (by omega), if_neg (by omega), if_pos (by omega), Nat.add_sub_cancel_left]
theorem lay_w (G : Gs) {a b : Nat} (ha : a < 8) (hb : b < 5) : lay G (25 + 5 * a + b) = G (4 + b) a := by
  unfold lay
  rw [if_neg (by omega), if_neg (by omega), if_neg (by omega), if_neg (by omega), if_pos (by omega), show (25 + 5 * a + b - 25) % 5 = b by omega, show (25 + 5 * a + b - 25) / 5 = a by omega]
theorem lay_9 (G : Gs) {k : Nat} (h : k < 10) : lay G (65 + k) = G 9 k := by
  unfold lay
  rw [if_neg (by omega), if_neg (by omega), if_neg (by omega), if_neg (by omega), if_neg (by omega), Nat.add_sub_cancel_left]
theorem lay_up (G : Gs) {c j v i : Nat} (hc : (c = 0 ∧ j < 3 ∧ i = j) ∨ (c = 1 ∧ j < 10 ∧ i = 3 + j) ∨ (c = 2 ∧ j < 6 ∧ i = 13 + j) ∨ (c = 3 ∧ j < 6 ∧ i = 19 + j) ∨ (∃ b, b < 5 ∧ c = 4 + b ∧ j < 8 ∧ i = 25 + 5 * j + b) ∨ (c = 9 ∧ j < 10 ∧ i = 65 + j)) (k : Nat) (hk : k < 75) : lay (up G c j v) k = if k = i then v else lay G k := by
  unfold lay up
  rcases hc with ⟨rfl, h, rfl⟩ | ⟨rfl, h, rfl⟩ | ⟨rfl, h, rfl⟩ | ⟨rfl, h, rfl⟩ | ⟨b, hb, rfl, h, rfl⟩ | ⟨rfl, h, rfl⟩ <;> (repeat' split) <;> first | rfl | (exfalso; omega)
theorem putS_at (w : Wd) (G : Gs) {k : Nat} (h : k < 75) : (putS w G).1 45 k = nI (lay G k) := by
  unfold putS
  rw [put_at]
  exact if_pos h
theorem putS_st (w : Wd) (G : Gs) {c j v i : Nat} (hc : (c = 0 ∧ j < 3 ∧ i = j) ∨ (c = 1 ∧ j < 10 ∧ i = 3 + j) ∨ (c = 2 ∧ j < 6 ∧ i = 13 + j) ∨ (c = 3 ∧ j < 6 ∧ i = 19 + j) ∨ (∃ b, b < 5 ∧ c = 4 + b ∧ j < 8 ∧ i = 25 + 5 * j + b) ∨ (c = 9 ∧ j < 10 ∧ i = 65 + j)) : st2 (putS w G) 45 i (nI v) = putS w (up G c j v) := by
  have hi : i < 75 := by rcases hc with h | h | h | h | ⟨b, h⟩ | h <;> omega
  unfold putS
  rw [st2_put]
  congr 1
  funext k
  unfold rowS upd
  show (if k = i then nI v else if k < 75 then nI (lay G k) else 0) = if k < 75 then nI (lay (up G c j v) k) else 0
  by_cases hk : k < 75
  · rw [if_pos hk, if_pos hk, lay_up G hc k hk]
    by_cases h : k = i
    · rw [if_pos h, if_pos h]
    · rw [if_neg h, if_neg h]
  · rw [if_neg hk, if_neg hk, if_neg (by omega)]
theorem putS_ne (w : Wd) (G : Gs) {a : Nat} (h : a ≠ 45) : (putS w G).1 a = w.1 a := put_ne w _ h
theorem putS_0 (w : Wd) (G : Gs) {k : Nat} (h : k < 3) : (putS w G).1 45 k = nI (G 0 k) := by rw [putS_at w G (by omega), lay_0 G h]
theorem putS_1 (w : Wd) (G : Gs) {k : Nat} (h : k < 10) : (putS w G).1 45 (3 + k) = nI (G 1 k) := by rw [putS_at w G (by omega), lay_1 G h]
theorem putS_2 (w : Wd) (G : Gs) {k : Nat} (h : k < 6) : (putS w G).1 45 (13 + k) = nI (G 2 k) := by rw [putS_at w G (by omega), lay_2 G h]
theorem putS_3 (w : Wd) (G : Gs) {k : Nat} (h : k < 6) : (putS w G).1 45 (19 + k) = nI (G 3 k) := by rw [putS_at w G (by omega), lay_3 G h]
theorem putS_w (w : Wd) (G : Gs) {a b : Nat} (ha : a < 8) (hb : b < 5) : (putS w G).1 45 (25 + 5 * a + b) = nI (G (4 + b) a) := by rw [putS_at w G (by omega), lay_w G ha hb]
theorem putS_9 (w : Wd) (G : Gs) {k : Nat} (h : k < 10) : (putS w G).1 45 (65 + k) = nI (G 9 k) := by rw [putS_at w G (by omega), lay_9 G h]
theorem putS_s0 (w : Wd) (G : Gs) {k v : Nat} (h : k < 3) : st2 (putS w G) 45 k (nI v) = putS w (up G 0 k v) := putS_st w G (Or.inl ⟨rfl, h, rfl⟩)
theorem putS_s1 (w : Wd) (G : Gs) {k v : Nat} (h : k < 10) : st2 (putS w G) 45 (3 + k) (nI v) = putS w (up G 1 k v) := putS_st w G (Or.inr (Or.inl ⟨rfl, h, rfl⟩))
theorem putS_s2 (w : Wd) (G : Gs) {k v : Nat} (h : k < 6) : st2 (putS w G) 45 (13 + k) (nI v) = putS w (up G 2 k v) := putS_st w G (Or.inr (Or.inr (Or.inl ⟨rfl, h, rfl⟩)))
theorem putS_s3 (w : Wd) (G : Gs) {k v : Nat} (h : k < 6) : st2 (putS w G) 45 (19 + k) (nI v) = putS w (up G 3 k v) := putS_st w G (Or.inr (Or.inr (Or.inr (Or.inl ⟨rfl, h, rfl⟩))))
theorem putS_sw (w : Wd) (G : Gs) {a b v : Nat} (ha : a < 8) (hb : b < 5) : st2 (putS w G) 45 (25 + 5 * a + b) (nI v) = putS w (up G (4 + b) a v) := putS_st w G (Or.inr (Or.inr (Or.inr (Or.inr (Or.inl ⟨b, hb, rfl, ha, rfl⟩)))))
theorem putS_s9 (w : Wd) (G : Gs) {k v : Nat} (h : k < 10) : st2 (putS w G) 45 (65 + k) (nI v) = putS w (up G 9 k v) := putS_st w G (Or.inr (Or.inr (Or.inr (Or.inr (Or.inr ⟨rfl, h, rfl⟩)))))
theorem putS_putS (w : Wd) (G G' : Gs) : putS (putS w G) G' = putS w G' := put_put w 45 _ _
/-- a letter of a word: p 0 the highest of four -/
def tens (p : Nat) : Nat := match p with | 0 => 1000 | 1 => 100 | 2 => 10 | _ => 1
def dg (v p : Nat) : Nat := v / tens p % 10
theorem dg_lt (v p : Nat) : dg v p < 10 := Nat.mod_lt _ (by omega)
/-- whether a kind keeps a letter in a place (0 to 2) -/
def kp (kd p x : Nat) : Bool := if kd = 1 ∨ kd = 6 then decide (x ≠ 0) else if kd = 3 then decide (x % 2 = 0) else if kd = 4 then false else if kd = 5 then decide (p = 0) else true
/-- how many fishes, letters -/
def eat (kd ft t : Nat) : Nat := if kd = 1 then (if 60 ≤ ft then 0 else 2) else if kd = 2 then 3 else if kd = 3 then 6 else if kd = 4 then 6 - t else if kd = 5 then 1 else if kd = 6 then (if 60 ≤ ft then 0 else 1) else 2
def wrt (kd ft : Nat) : Nat := if kd = 1 then (if ft < 20 then 4 else 2) else if kd = 3 then 4 else if kd = 4 then 0 else if kd = 5 then (if ft % 2 = 1 then 1 else 2) else if kd = 6 then 1 else 2
