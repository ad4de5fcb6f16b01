/-! THE COMPONENT'S REEFS -/
theorem rf1 : rfB 1 := Or.inl rfl
theorem rf11 : rfB 11 := Or.inr (Or.inl rfl)
theorem rf21 : rfB 21 := Or.inr (Or.inr rfl)
def szR (c : Nat) : Nat := match c with | 1 => 10 | 2 => 6 | 3 => 6 | 9 => 10 | _ => 8
def putR (w : Wd) (o : Nat) (G : Gs) : Wd := (fun a k => if a = o then (if k = 9 then nI (G 0 0) else if k = 10 then nI (G 0 1) else if k = 11 then nI (G 0 2) else w.1 a k) else if o < a ∧ a ≤ o + 9 ∧ k < szR (a - o) then nI (G (a - o) k) else w.1 a k, w.2)
theorem putR_ne (w : Wd) {o a : Nat} (G : Gs) (h : a < o ∨ o + 9 < a) : (putR w o G).1 a = w.1 a := by
  funext k
  show (if a = o then _ else if o < a ∧ a ≤ o + 9 ∧ k < szR (a - o) then _ else w.1 a k) = w.1 a k
  rw [if_neg (by omega), if_neg (by omega)]
theorem putR_2 (w : Wd) (o : Nat) (G : Gs) : (putR w o G).2 = w.2 := rfl
theorem R_o (w : Wd) (o : Nat) (G : Gs) {k : Nat} : (putR w o G).1 o k = if k = 9 then nI (G 0 0) else if k = 10 then nI (G 0 1) else if k = 11 then nI (G 0 2) else w.1 o k := if_pos rfl
theorem R_9 {w : Wd} {o : Nat} {G : Gs} : (putR w o G).1 o 9 = nI (G 0 0) := R_o w o G
theorem R_10 {w : Wd} {o : Nat} {G : Gs} : (putR w o G).1 o 10 = nI (G 0 1) := R_o w o G
theorem R_11 {w : Wd} {o : Nat} {G : Gs} : (putR w o G).1 o 11 = nI (G 0 2) := R_o w o G
theorem R_c (w : Wd) (o : Nat) (G : Gs) {c k : Nat} (hc : 1 ≤ c) (hc9 : c ≤ 9) (hk : k < szR c) : (putR w o G).1 (o + c) k = nI (G c k) := by
  show (if o + c = o then _ else if o < o + c ∧ o + c ≤ o + 9 ∧ k < szR (o + c - o) then nI (G (o + c - o) k) else w.1 (o + c) k) = _
  rw [if_neg (by omega), Nat.add_sub_cancel_left, if_pos ⟨by omega, by omega, hk⟩]
theorem R_st (w : Wd) (o : Nat) (G : Gs) {c k v : Nat} (hc : 1 ≤ c) (hc9 : c ≤ 9) (hk : k < szR c) : st2 (putR w o G) (o + c) k (nI v) = putR w o (up G c k v) := by
  refine Prod.ext (funext fun a => funext fun j => ?_) rfl
  rw [st2_c (f := fun _ => 0) (v := 0)]
  show (if a = o + c ∧ j = k then nI v else if a = o then (if j = 9 then nI (G 0 0) else if j = 10 then nI (G 0 1) else if j = 11 then nI (G 0 2) else w.1 a j) else if o < a ∧ a ≤ o + 9 ∧ j < szR (a - o) then nI (G (a - o) j) else w.1 a j) = if a = o then (if j = 9 then nI (up G c k v 0 0) else if j = 10 then nI (up G c k v 0 1) else if j = 11 then nI (up G c k v 0 2) else w.1 a j) else if o < a ∧ a ≤ o + 9 ∧ j < szR (a - o) then nI (up G c k v (a - o) j) else w.1 a j
  rw [up_nc G (by omega), up_nc G (by omega), up_nc G (by omega)]
  by_cases q : a = o + c ∧ j = k
  · obtain ⟨rfl, rfl⟩ := q
    rw [if_pos ⟨rfl, rfl⟩, if_neg (by omega), Nat.add_sub_cancel_left, if_pos ⟨by omega, by omega, hk⟩, up_at]
  · rw [if_neg q]
    by_cases q2 : a = o
    · rw [if_pos q2, if_pos q2]
    · rw [if_neg q2, if_neg q2]
      by_cases q3 : o < a ∧ a ≤ o + 9 ∧ j < szR (a - o)
      · rw [if_pos q3, if_pos q3]
        by_cases q4 : a - o = c
        · rw [up_nk G (fun z => q ⟨by omega, z⟩)]
        · rw [up_nc G q4]
      · rw [if_neg q3, if_neg q3]
theorem R_so (w : Wd) (o : Nat) (G : Gs) {j v : Nat} (hj : j < 3) : st2 (putR w o G) o (9 + j) (nI v) = putR w o (up G 0 j v) := by
  refine Prod.ext (funext fun a => funext fun i => ?_) rfl
  rw [st2_c (f := fun _ => 0) (v := 0)]
  show (if a = o ∧ i = 9 + j then nI v else if a = o then (if i = 9 then nI (G 0 0) else if i = 10 then nI (G 0 1) else if i = 11 then nI (G 0 2) else w.1 a i) else if o < a ∧ a ≤ o + 9 ∧ i < szR (a - o) then nI (G (a - o) i) else w.1 a i) = if a = o then (if i = 9 then nI (up G 0 j v 0 0) else if i = 10 then nI (up G 0 j v 0 1) else if i = 11 then nI (up G 0 j v 0 2) else w.1 a i) else if o < a ∧ a ≤ o + 9 ∧ i < szR (a - o) then nI (up G 0 j v (a - o) i) else w.1 a i
  by_cases q2 : a = o
  · rw [if_pos q2]
    unfold up
    rcases (by omega : j = 0 ∨ j = 1 ∨ j = 2) with rfl | rfl | rfl
    · by_cases q : i = 9
      · subst q; simp [q2]
      · simp [q2, q]
    · by_cases q : i = 10
      · subst q; simp [q2]
      · simp [q2, q]
    · by_cases q : i = 11
      · subst q; simp [q2]
      · simp [q2, q]
  · rw [if_neg (fun z => q2 z.1), if_neg q2, if_neg q2]
    by_cases q3 : o < a ∧ a ≤ o + 9 ∧ i < szR (a - o)
    · rw [if_pos q3, if_pos q3, up_nc G (by omega)]
    · rw [if_neg q3, if_neg q3]
theorem R_s9 {w : Wd} {o : Nat} {G : Gs} {v : Nat} : st2 (putR w o G) o 9 (nI v) = putR w o (up G 0 0 v) := R_so w o G (j := 0) (by omega)
theorem R_s10 {w : Wd} {o : Nat} {G : Gs} {v : Nat} : st2 (putR w o G) o 10 (nI v) = putR w o (up G 0 1 v) := R_so w o G (j := 1) (by omega)
theorem R_s11 {w : Wd} {o : Nat} {G : Gs} {v : Nat} : st2 (putR w o G) o 11 (nI v) = putR w o (up G 0 2 v) := R_so w o G (j := 2) (by omega)
theorem R_1 {w : Wd} {o : Nat} {G : Gs} {k : Nat} (h : k < 10) : (putR w o G).1 (o + 1) k = nI (G 1 k) := R_c w o G (by omega) (by omega) h
theorem R_2 {w : Wd} {o : Nat} {G : Gs} {k : Nat} (h : k < 6) : (putR w o G).1 (o + 2) k = nI (G 2 k) := R_c w o G (by omega) (by omega) h
theorem R_3 {w : Wd} {o : Nat} {G : Gs} {k : Nat} (h : k < 6) : (putR w o G).1 (o + 3) k = nI (G 3 k) := R_c w o G (by omega) (by omega) h
theorem R_4 {w : Wd} {o : Nat} {G : Gs} {k : Nat} (h : k < 8) : (putR w o G).1 (o + 4) k = nI (G 4 k) := R_c w o G (by omega) (by omega) h
theorem R_5 {w : Wd} {o : Nat} {G : Gs} {k : Nat} (h : k < 8) : (putR w o G).1 (o + 5) k = nI (G 5 k) := R_c w o G (by omega) (by omega) h
theorem R_6 {w : Wd} {o : Nat} {G : Gs} {k : Nat} (h : k < 8) : (putR w o G).1 (o + 6) k = nI (G 6 k) := R_c w o G (by omega) (by omega) h
theorem R_7 {w : Wd} {o : Nat} {G : Gs} {k : Nat} (h : k < 8) : (putR w o G).1 (o + 7) k = nI (G 7 k) := R_c w o G (by omega) (by omega) h
theorem R_8 {w : Wd} {o : Nat} {G : Gs} {k : Nat} (h : k < 8) : (putR w o G).1 (o + 8) k = nI (G 8 k) := R_c w o G (by omega) (by omega) h
theorem R_99 {w : Wd} {o : Nat} {G : Gs} {k : Nat} (h : k < 10) : (putR w o G).1 (o + 9) k = nI (G 9 k) := R_c w o G (by omega) (by omega) h
theorem R_s1 {w : Wd} {o : Nat} {G : Gs} {k v : Nat} (h : k < 10) : st2 (putR w o G) (o + 1) k (nI v) = putR w o (up G 1 k v) := R_st w o G (by omega) (by omega) h
theorem R_s2 {w : Wd} {o : Nat} {G : Gs} {k v : Nat} (h : k < 6) : st2 (putR w o G) (o + 2) k (nI v) = putR w o (up G 2 k v) := R_st w o G (by omega) (by omega) h
theorem R_s3 {w : Wd} {o : Nat} {G : Gs} {k v : Nat} (h : k < 6) : st2 (putR w o G) (o + 3) k (nI v) = putR w o (up G 3 k v) := R_st w o G (by omega) (by omega) h
theorem R_s4 {w : Wd} {o : Nat} {G : Gs} {k v : Nat} (h : k < 8) : st2 (putR w o G) (o + 4) k (nI v) = putR w o (up G 4 k v) := R_st w o G (by omega) (by omega) h
theorem R_s5 {w : Wd} {o : Nat} {G : Gs} {k v : Nat} (h : k < 8) : st2 (putR w o G) (o + 5) k (nI v) = putR w o (up G 5 k v) := R_st w o G (by omega) (by omega) h
theorem R_s6 {w : Wd} {o : Nat} {G : Gs} {k v : Nat} (h : k < 8) : st2 (putR w o G) (o + 6) k (nI v) = putR w o (up G 6 k v) := R_st w o G (by omega) (by omega) h
theorem R_s7 {w : Wd} {o : Nat} {G : Gs} {k v : Nat} (h : k < 8) : st2 (putR w o G) (o + 7) k (nI v) = putR w o (up G 7 k v) := R_st w o G (by omega) (by omega) h
theorem R_s8 {w : Wd} {o : Nat} {G : Gs} {k v : Nat} (h : k < 8) : st2 (putR w o G) (o + 8) k (nI v) = putR w o (up G 8 k v) := R_st w o G (by omega) (by omega) h
theorem R_s99 {w : Wd} {o : Nat} {G : Gs} {k v : Nat} (h : k < 10) : st2 (putR w o G) (o + 9) k (nI v) = putR w o (up G 9 k v) := R_st w o G (by omega) (by omega) h
theorem putR_putR (w : Wd) (o : Nat) (G G' : Gs) : putR (putR w o G) o G' = putR w o G' := by
  refine Prod.ext (funext fun a => funext fun j => ?_) rfl
  show (if a = o then (if j = 9 then nI (G' 0 0) else if j = 10 then nI (G' 0 1) else if j = 11 then nI (G' 0 2) else (putR w o G).1 a j) else if o < a ∧ a ≤ o + 9 ∧ j < szR (a - o) then nI (G' (a - o) j) else (putR w o G).1 a j) = if a = o then (if j = 9 then nI (G' 0 0) else if j = 10 then nI (G' 0 1) else if j = 11 then nI (G' 0 2) else w.1 a j) else if o < a ∧ a ≤ o + 9 ∧ j < szR (a - o) then nI (G' (a - o) j) else w.1 a j
  by_cases q : a = o
  · subst q
    rw [if_pos rfl, if_pos rfl]
    by_cases q1 : j = 9
    · rw [if_pos q1, if_pos q1]
    · rw [if_neg q1, if_neg q1]
      by_cases q2 : j = 10
      · rw [if_pos q2, if_pos q2]
      · rw [if_neg q2, if_neg q2]
        by_cases q3 : j = 11
        · rw [if_pos q3, if_pos q3]
        · rw [if_neg q3, if_neg q3, R_o, if_neg q1, if_neg q2, if_neg q3]
  · rw [if_neg q, if_neg q]
    by_cases q3 : o < a ∧ a ≤ o + 9 ∧ j < szR (a - o)
    · rw [if_pos q3, if_pos q3]
    · rw [if_neg q3, if_neg q3]
      show (if a = o then _ else if o < a ∧ a ≤ o + 9 ∧ j < szR (a - o) then _ else w.1 a j) = _
      rw [if_neg q, if_neg q3]
theorem putR_st (w : Wd) {o b : Nat} (G : Gs) (h : b < o ∨ o + 9 < b) (k : Nat) (v : Int32) : st2 (putR w o G) b k v = putR (st2 w b k v) o G := by
  refine Prod.ext (funext fun a => funext fun j => ?_) rfl
  rw [st2_c (f := fun _ => 0) (v := 0)]
  show (if a = b ∧ j = k then v else if a = o then (if j = 9 then nI (G 0 0) else if j = 10 then nI (G 0 1) else if j = 11 then nI (G 0 2) else w.1 a j) else if o < a ∧ a ≤ o + 9 ∧ j < szR (a - o) then nI (G (a - o) j) else w.1 a j) = if a = o then (if j = 9 then nI (G 0 0) else if j = 10 then nI (G 0 1) else if j = 11 then nI (G 0 2) else (st2 w b k v).1 a j) else if o < a ∧ a ≤ o + 9 ∧ j < szR (a - o) then nI (G (a - o) j) else (st2 w b k v).1 a j
  rw [st2_c (f := fun _ => 0) (v := 0)]
  by_cases q : a = b ∧ j = k
  · rw [if_pos q, if_neg (by omega), if_neg (by omega), if_pos q]
  · rw [if_neg q, if_neg q]
/-! SMALL METHODS OF THE COMPONENT -/
theorem c_within {v : Int32} {m : Nat} {w : Wd} (hm : m < 2147483648) : CALL 97 [.int v, .int (nI m)] w = some ([.int (bz (ok v m))], w) := by
  simp (disch := first | omega | decide | assumption | exact nI0_01 | exact nI1_01 | exact bz_01 _ | exact rf1 | exact rf11 | exact rf21) only [Option.bind_some, List.cons_append, List.nil_append, Nat.reduceAdd, Nat.reduceMul, Nat.reduceLeDiff, Nat.reduceEqDiff, ↓reduceIte, n97, u97_0, u97_1, u97_4, u97_5, u97_6, u97_9, u97_10, u97_13, u97_14, lt_z, gt_nI]
  unfold ok
  by_cases h1 : v.toInt < 0
  · rw [if_pos h1, bz_no (by omega)]
  · rw [if_neg h1]
    by_cases h2 : (m : Int) < v.toInt
    · rw [if_pos h2, bz_no (by omega)]
    · rw [if_neg h2, bz_ye (by omega)]
theorem c_isLetter {v : Int32} {w : Wd} : CALL 94 [.int v] w = some ([.int (bz (ok v 9))], w) := by simp (disch := first | omega | decide | assumption | exact nI0_01 | exact nI1_01 | exact bz_01 _ | exact rf1 | exact rf11 | exact rf21) only [Option.bind_some, List.cons_append, List.nil_append, Nat.reduceAdd, Nat.reduceMul, Nat.reduceLeDiff, Nat.reduceEqDiff, ↓reduceIte, n94, u94_0, u94_1, u94_3, u94_6, c_within]
theorem c_isFish {v : Int32} {w : Wd} : CALL 95 [.int v] w = some ([.int (bz (ok v 5))], w) := by simp (disch := first | omega | decide | assumption | exact nI0_01 | exact nI1_01 | exact bz_01 _ | exact rf1 | exact rf11 | exact rf21) only [Option.bind_some, List.cons_append, List.nil_append, Nat.reduceAdd, Nat.reduceMul, Nat.reduceLeDiff, Nat.reduceEqDiff, ↓reduceIte, n95, u95_0, u95_1, u95_2, u95_5, c_within]
theorem c_isSheet {v : Int32} {w : Wd} : CALL 96 [.int v] w = some ([.int (bz (ok v 3))], w) := by simp (disch := first | omega | decide | assumption | exact nI0_01 | exact nI1_01 | exact bz_01 _ | exact rf1 | exact rf11 | exact rf21) only [Option.bind_some, List.cons_append, List.nil_append, Nat.reduceAdd, Nat.reduceMul, Nat.reduceLeDiff, Nat.reduceEqDiff, ↓reduceIte, n96, u96_0, u96_1, u96_2, u96_5, c_within]
theorem c_isKind {v : Int32} {w : Wd} : CALL 0 [.int v] w = some ([.int (bz (ok v 6))], w) := by
  simp (disch := first | omega | decide | assumption | exact nI0_01 | exact nI1_01 | exact bz_01 _ | exact rf1 | exact rf11 | exact rf21) only [Option.bind_some, List.cons_append, List.nil_append, Nat.reduceAdd, Nat.reduceMul, Nat.reduceLeDiff, Nat.reduceEqDiff, ↓reduceIte, n0, u0_0, u0_1, u0_4, u0_5, u0_7, u0_10, u0_11, u0_14, u0_15, lt_z, ge_nI]
  unfold ok
  by_cases h1 : v.toInt < 0
  · rw [if_pos h1, bz_no (by omega)]
  · rw [if_neg h1]
    by_cases h2 : ((7 : Nat) : Int) ≤ v.toInt
    · rw [if_pos h2, bz_no (by omega)]
    · rw [if_neg h2, bz_ye (by omega)]
theorem c_isWriter {x : Int32} {w : Wd} {G : Gs} (h : G 0 0 ≤ 8) : CALL 93 [.ref 0, .int x] (putR w 1 G) = some ([.int (bz (isW G x))], putR w 1 G) := by
  simp (disch := first | omega | decide | assumption | exact nI0_01 | exact nI1_01 | exact bz_01 _ | exact rf1 | exact rf11 | exact rf21) only [Option.bind_some, List.cons_append, List.nil_append, Nat.reduceAdd, Nat.reduceMul, Nat.reduceLeDiff, Nat.reduceEqDiff, ↓reduceIte, n93, u93_0, u93_1, u93_4, u93_5, u93_6, u93_9, u93_12, u93_15, u93_16, u93_19, u93_20, R_9]
  simp (disch := omega) only [lt_z, ge_nI]
  unfold isW
  by_cases h1 : x.toInt < 0
  · rw [if_pos h1, bz_no (by omega)]
  · rw [if_neg h1]
    by_cases h2 : ((G 0 0 : Nat) : Int) ≤ x.toInt
    · rw [if_pos h2, bz_no (by omega)]
    · rw [if_neg h2, bz_ye (by omega)]
def fndC (w : Wd) (k : Nat) : Wd := st2 w 42 k (w.1 42 k + 1)
theorem lo_sub : ∀ k, k < 7 → (-1000001 : Int32) - nI k = lo k := by decide
theorem c_finding {k : Nat} {w : Wd} (h : k < 7) : CALL 92 [.ref 0, .int (nI k)] w = some ([.int (lo k)], fndC w k) := by
  have ho : ok (nI k) 6 = true := by rw [ok_nI (by omega)]; exact decide_eq_true (by omega)
  simp (disch := first | omega | decide | assumption | exact nI0_01 | exact nI1_01 | exact bz_01 _ | exact rf1 | exact rf11 | exact rf21) only [Option.bind_some, List.cons_append, List.nil_append, Nat.reduceAdd, Nat.reduceMul, Nat.reduceLeDiff, Nat.reduceEqDiff, ↓reduceIte, n92, u92_0, u92_1, u92_3, u92_6, u92_9, u92_10, u92_13, u92_14, u92_15, u92_16, u92_17, u92_18, u92_19, u92_22, u92_23, u92_24, c_within, ho, bz_t, bz_f, nn_eq0, nn_eq, eq_self, not_true_eq_false, not_false_eq_true, lo_sub k h]
  rfl
theorem c_f {w : Wd} : CALL 92 [.ref 0, .int (nI 0)] w = some ([.int (lo 0)], fndC w 0) := c_finding (by omega)
theorem c_digit {v p : Nat} {w : Wd} (hv : v < 10000) (hp : p < 4) : CALL 98 [.int (nI v), .int (nI p)] w = some ([.int (nI (dg v p))], w) := by
  have e0 : sv 54 0 = nI 1000 := rfl
  have e1 : sv 54 1 = nI 100 := rfl
  have e2 : sv 54 2 = nI 10 := rfl
  have e3 : sv 54 3 = nI 1 := rfl
  rcases t_cases hp with rfl | rfl | rfl | rfl <;> simp (disch := first | omega | decide | assumption | exact nI0_01 | exact nI1_01 | exact bz_01 _ | exact rf1 | exact rf11 | exact rf21) only [Option.bind_some, List.cons_append, List.nil_append, Nat.reduceAdd, Nat.reduceMul, Nat.reduceLeDiff, Nat.reduceEqDiff, ↓reduceIte, n98, u98_0, u98_1, u98_4, u98_5, u98_6, u98_7, u98_9, u98_10, e0, e1, e2, e3, pk_div, nn_rem] <;> rfl
theorem c_bone {v p : Nat} {w : Wd} (hv : v < 10000) (hp : p < 3) : CALL 99 [.int (nI v), .int (nI p)] w = some ([.int (nI (dg v (p + 1)))], w) := by
  have e1 : sv 54 1 = nI 100 := rfl
  have e2 : sv 54 2 = nI 10 := rfl
  have e3 : sv 54 3 = nI 1 := rfl
  rcases (by omega : p = 0 ∨ p = 1 ∨ p = 2) with rfl | rfl | rfl <;> simp (disch := first | omega | decide | assumption | exact nI0_01 | exact nI1_01 | exact bz_01 _ | exact rf1 | exact rf11 | exact rf21) only [Option.bind_some, List.cons_append, List.nil_append, Nat.reduceAdd, Nat.reduceMul, Nat.reduceLeDiff, Nat.reduceEqDiff, ↓reduceIte, n99, u99_0, u99_1, u99_4, u99_5, u99_6, u99_7, u99_8, u99_9, u99_11, u99_12, nI_add, e1, e2, e3, pk_div, nn_rem] <;> rfl
theorem c_isKept {kd p x : Nat} {w : Wd} (hk : kd < 7) (hp : p < 3) (hx : x < 10) : CALL 5 [.int (nI kd), .int (nI p), .int (nI x)] w = some ([.int (bz (kp kd p x))], w) := by
  rcases kd_cases hk with rfl | rfl | rfl | rfl | rfl | rfl | rfl <;> simp (disch := first | omega | decide | assumption | exact nI0_01 | exact nI1_01 | exact bz_01 _ | exact rf1 | exact rf11 | exact rf21) only [Option.bind_some, List.cons_append, List.nil_append, Nat.reduceAdd, Nat.reduceMul, Nat.reduceLeDiff, Nat.reduceEqDiff, ↓reduceIte, n5, u5_0, u5_1, u5_40, u5_41, u5_44, u5_45, u5_48, u5_49, u5_50, u5_51, u5_52, u5_53, u5_56, u5_57, u5_60, u5_61, u5_62, u5_63, u5_64, u5_65, u5_68, u5_69, u5_72, u5_73, u5_74, u5_75, nn_eq, nn_eq0, pk_div, nn_rem]
  all_goals (by_cases hx0 : x = 0 <;> by_cases hx2 : x % 2 = 0 <;> by_cases hp0 : p = 0 <;> simp [kp, hx0, hx2, hp0, bz_t, bz_f] <;> omega)
