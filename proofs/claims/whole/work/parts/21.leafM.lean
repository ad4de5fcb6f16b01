/-! THE REFERENCE'S SMALL METHODS -/
theorem x_least {x y : Int32} {w : Wd} : CALL 111 [.int x, .int y] w = some ([.int (if x < y then x else y)], w) := by
  simp only [n111, u111_0, u111_1, u111_2, u111_5, u111_6, u111_9, u111_10]
  by_cases h : x < y
  · rw [if_neg (by rw [Int32.not_le]; exact h), if_pos h]
  · rw [if_pos (by rw [← Int32.not_lt]; exact h), if_neg h]
theorem x_greatest {x y : Int32} {w : Wd} : CALL 112 [.int x, .int y] w = some ([.int (if y < x then x else y)], w) := by
  simp only [n112, u112_0, u112_1, u112_2, u112_5, u112_6, u112_9, u112_10]
  by_cases h : y < x
  · rw [if_neg (by rw [Int32.not_le]; exact h), if_pos h]
  · rw [if_pos (by rw [← Int32.not_lt]; exact h), if_neg h]
theorem n_least {a b : Nat} {w : Wd} (ha : a < 2147483648) (hb : b < 2147483648) : CALL 111 [.int (nI a), .int (nI b)] w = some ([.int (nI (min a b))], w) := by
  rw [x_least]
  by_cases h : a < b
  · rw [if_pos (by rw [nn_lt ha hb]; exact h), Nat.min_eq_left (by omega)]
  · rw [if_neg (by rw [nn_lt ha hb]; exact h), Nat.min_eq_right (by omega)]
theorem n_greatest {a b : Nat} {w : Wd} (ha : a < 2147483648) (hb : b < 2147483648) : CALL 112 [.int (nI a), .int (nI b)] w = some ([.int (nI (max a b))], w) := by
  rw [x_greatest]
  by_cases h : b < a
  · rw [if_pos (by rw [nn_lt hb ha]; exact h), Nat.max_eq_left (by omega)]
  · rw [if_neg (by rw [nn_lt hb ha]; exact h), Nat.max_eq_right (by omega)]
theorem x_at {a b : Nat} {w : Wd} : CALL 109 [.int (nI a), .int (nI b)] w = some ([.int (nI (25 + 5 * a + b))], w) := by
  simp only [n109, u109_0, u109_2, u109_3, u109_4, u109_5, u109_6, u109_7, u109_8, pk_mul, nI_add]
theorem x_its {a b : Nat} {w : Wd} (ha : a < 8) (hb : b < 5) : CALL 110 [.ref 44, .int (nI a), .int (nI b)] w = some ([.int (w.1 45 (25 + 5 * a + b))], w) := by
  simp (disch := omega) only [n110, u110_0, u110_1, u110_4, u110_6, u110_7, u110_8, u110_9, u110_10, u110_11, u110_12, u110_13, pk_mul, nI_add]
theorem s_its {a b : Nat} {w : Wd} {G : Gs} (ha : a < 8) (hb : b < 5) : CALL 110 [.ref 44, .int (nI a), .int (nI b)] (putS w G) = some ([.int (nI (G (4 + b) a))], putS w G) := by
  rw [x_its ha hb, putS_w w G ha hb]
theorem l_ge {x y : Int64} : (lg_cmp x y < 0) = ¬ (y ≤ x) := by rw [← Int32.not_le, lg_cmp_ge]
theorem l_gt {x y : Int64} : (0 < lg_cmp x y) = ¬ (x ≤ y) := by rw [← Int32.not_le, lg_cmp_le]
theorem l64 {x : Int32} {n : Nat} (h : n < 2147483648) : ((lN n) ≤ x.toInt64) = ((n : Int) ≤ x.toInt) := by
  rw [Int64.le_iff_toInt_le, lN_toInt h, Int32.toInt_toInt64]
theorem l64' {x : Int32} {n : Nat} (h : n < 2147483648) : (x.toInt64 ≤ (lN n)) = (x.toInt ≤ (n : Int)) := by
  rw [Int64.le_iff_toInt_le, lN_toInt h, Int32.toInt_toInt64]
def ok2 (v : Int32) (a b : Nat) : Bool := decide ((a : Int) ≤ v.toInt ∧ v.toInt ≤ (b : Int))
theorem x_isIn {x : Int32} {a b : Nat} {y z : Int64} {w : Wd} (hy : y = lN a) (hz : z = lN b) (ha : a < 2147483648) (hb : b < 2147483648) : CALL 102 [.long x.toInt64, .long y, .long z] w = some ([.int (bz (ok2 x a b))], w) := by
  subst hy; subst hz
  simp (disch := first | exact nI0_01 | exact nI1_01) only [n102, u102_0, u102_1, u102_2, u102_3, u102_6, u102_7, u102_9, u102_10, u102_13, u102_14, u102_17, u102_18]
  simp only [l_ge, l_gt, l64 ha, l64' hb]
  unfold ok2
  by_cases h1 : (a : Int) ≤ x.toInt
  · by_cases h2 : x.toInt ≤ (b : Int)
    · simp [h1, h2, bz]; decide
    · simp [h1, h2, bz]; decide
  · simp [h1, bz]; decide
theorem ok2_ok (x : Int32) (b : Nat) : ok2 x 0 b = ok x b := rfl
theorem x_in {x : Int32} {b : Nat} {z : Int64} {w : Wd} (hz : z = lN b) (hb : b < 2147483648) : CALL 102 [.long x.toInt64, .long 0, .long z] w = some ([.int (bz (ok x b))], w) := x_isIn (a := 0) rfl hz (by omega) hb
theorem x_isLetter10 {x : Int32} {w : Wd} : CALL 106 [.int x] w = some ([.int (bz (ok x 9))], w) := by
  simp (disch := first | exact nI0_01 | exact nI1_01) only [n106, u106_0, u106_1, u106_4, u106_5, u106_7, u106_10, u106_11, u106_14, u106_15]
  simp (disch := omega) only [lt_z, ge_nI]
  unfold ok
  by_cases h1 : x.toInt < 0
  · rw [if_pos h1]
    rw [bz_no (by omega)]
  · rw [if_neg h1]
    by_cases h2 : ((10 : Nat) : Int) ≤ x.toInt
    · rw [if_pos h2]
      rw [bz_no (by omega)]
    · rw [if_neg h2]
      rw [bz_ye (by omega)]
theorem x_isFish {x : Int32} {w : Wd} : CALL 107 [.int x] w = some ([.int (bz (ok x 5))], w) := by
  simp (disch := first | exact nI0_01 | exact nI1_01) only [n107, u107_0, u107_1, u107_4, u107_5, u107_7, u107_10, u107_11, u107_14, u107_15]
  simp (disch := omega) only [lt_z, ge_nI]
  unfold ok
  by_cases h1 : x.toInt < 0
  · rw [if_pos h1]
    rw [bz_no (by omega)]
  · rw [if_neg h1]
    by_cases h2 : ((6 : Nat) : Int) ≤ x.toInt
    · rw [if_pos h2]
      rw [bz_no (by omega)]
    · rw [if_neg h2]
      rw [bz_ye (by omega)]
theorem x_isSheet {x : Int32} {w : Wd} : CALL 191 [.int x] w = some ([.int (bz (ok x 3))], w) := by
  simp (disch := first | exact nI0_01 | exact nI1_01) only [n191, u191_0, u191_1, u191_4, u191_5, u191_6, u191_9, u191_10, u191_13, u191_14]
  simp (disch := omega) only [lt_z, ge_nI]
  unfold ok
  by_cases h1 : x.toInt < 0
  · rw [if_pos h1]
    rw [bz_no (by omega)]
  · rw [if_neg h1]
    by_cases h2 : ((4 : Nat) : Int) ≤ x.toInt
    · rw [if_pos h2]
      rw [bz_no (by omega)]
    · rw [if_neg h2]
      rw [bz_ye (by omega)]
/-- whether an int is the number of a writer -/
def isW (G : Gs) (x : Int32) : Bool := decide (0 ≤ x.toInt ∧ x.toInt < (G 0 0 : Int))
theorem isW_case (G : Gs) (x : Int32) (h : G 0 0 ≤ 8) : (∃ k, k < G 0 0 ∧ k < 8 ∧ x = nI k ∧ isW G x = true ∧ ix x = k) ∨ isW G x = false := by
  by_cases hv : 0 ≤ x.toInt ∧ x.toInt < (G 0 0 : Int)
  · left
    have e : x = nI x.toInt.toNat := by
      apply Int32.toInt_inj.mp
      rw [nI_toInt (by omega)]
      omega
    refine ⟨x.toInt.toNat, by omega, by omega, e, by unfold isW; simp [hv], rfl⟩
  · right
    unfold isW; simp only [hv, decide_false]
theorem isW_nI {G : Gs} {k : Nat} (h : k < 2147483648) : isW G (nI k) = decide (k < G 0 0) := by
  unfold isW
  rw [nI_toInt h]
  by_cases hk : k < G 0 0
  · simp [hk]
  · simp [hk]
theorem x_isWriter {x : Int32} {w : Wd} {G : Gs} (h : G 0 0 ≤ 8) : CALL 108 [.ref 44, .int x] (putS w G) = some ([.int (bz (isW G x))], putS w G) := by
  simp (disch := first | omega | exact nI0_01 | exact nI1_01) only [n108, u108_0, u108_1, u108_4, u108_5, u108_6, u108_9, u108_10, u108_11, u108_14, u108_15, u108_18, u108_19, putS_0]
  simp (disch := omega) only [lt_z, ge_nI]
  unfold isW
  by_cases h1 : x.toInt < 0
  · rw [if_pos h1]
    rw [bz_no (by omega)]
  · rw [if_neg h1]
    by_cases h2 : ((G 0 0 : Nat) : Int) ≤ x.toInt
    · rw [if_pos h2]
      rw [bz_no (by omega)]
    · rw [if_neg h2]
      rw [bz_ye (by omega)]
/-- a finding of the reference's -/
def fndM (w : Wd) (k : Nat) : Wd := st2 (st2 w 49 0 (w.1 49 0 + 1)) 49 (k + 1) (w.1 49 (k + 1) + 1)
theorem lo_ix : ∀ k, k < 7 → (-1000001 : Int32) - lo k + nI 1 = nI (k + 1) := by decide
theorem x_finds {k : Nat} {w : Wd} (h : k < 7) : CALL 103 [.ref 44, .int (lo k)] w = some ([.int (lo k)], fndM w k) := by
  simp (disch := omega) only [n103, u103_0, u103_1, u103_4, u103_5, u103_6, u103_7, u103_8, u103_9, u103_10, u103_11, u103_14, u103_16, u103_17, u103_18, u103_19, u103_20, u103_21, u103_22, u103_23, u103_24, u103_25, u103_26, lo_ix k h]
  have e : (st2 w 49 0 (w.1 49 0 + nI 1)).1 49 (k + 1) = w.1 49 (k + 1) := by
    unfold st2
    rw [put_at]
    exact if_neg (by omega)
  rw [e]
  rfl
theorem lo_e : lo 0 = -1000001 ∧ lo 1 = -1000002 ∧ lo 2 = -1000003 ∧ lo 3 = -1000004 ∧ lo 4 = -1000005 ∧ lo 5 = -1000006 ∧ lo 6 = -1000007 := by decide
theorem x_f0 {w : Wd} : CALL 103 [.ref 44, .int (-1000001)] w = some ([.int (lo 0)], fndM w 0) := by rw [← lo_e.1]; exact x_finds (by omega)
theorem x_f1 {w : Wd} : CALL 103 [.ref 44, .int (-1000002)] w = some ([.int (lo 1)], fndM w 1) := by rw [← lo_e.2.1]; exact x_finds (by omega)
theorem x_f2 {w : Wd} : CALL 103 [.ref 44, .int (-1000003)] w = some ([.int (lo 2)], fndM w 2) := by rw [← lo_e.2.2.1]; exact x_finds (by omega)
theorem x_f3 {w : Wd} : CALL 103 [.ref 44, .int (-1000004)] w = some ([.int (lo 3)], fndM w 3) := by rw [← lo_e.2.2.2.1]; exact x_finds (by omega)
theorem x_f4 {w : Wd} : CALL 103 [.ref 44, .int (-1000005)] w = some ([.int (lo 4)], fndM w 4) := by rw [← lo_e.2.2.2.2.1]; exact x_finds (by omega)
theorem x_f5 {w : Wd} : CALL 103 [.ref 44, .int (-1000006)] w = some ([.int (lo 5)], fndM w 5) := by rw [← lo_e.2.2.2.2.2.1]; exact x_finds (by omega)
theorem x_f6 {w : Wd} : CALL 103 [.ref 44, .int (-1000007)] w = some ([.int (lo 6)], fndM w 6) := by rw [← lo_e.2.2.2.2.2.2]; exact x_finds (by omega)
theorem x_becomes {k : Nat} {v : Int32} {w : Wd} (h : k < 75) : CALL 104 [.ref 44, .int (nI k), .int v] w = some ([.int (w.1 45 k)], st2 w 45 k v) := by
  simp (disch := omega) only [n104, u104_0, u104_1, u104_4, u104_5, u104_6, u104_7, u104_8, u104_11, u104_12, u104_13, u104_14, u104_15]
/-- the reference's digit of a number below 10000 -/
theorem x_digit {v p : Nat} {w : Wd} (hv : v < 10000) (hp : p < 4) : CALL 115 [.int (nI v), .int (nI p)] w = some ([.int (nI (dg v p))], w) := by
  have hc : p = 0 ∨ p = 1 ∨ p = 2 ∨ p = 3 := by omega
  rcases hc with rfl | rfl | rfl | rfl <;> simp (disch := first | omega | decide) only [n115, u115_0, u115_1, u115_4, u115_5, u115_8, u115_9, u115_12, u115_13, u115_14, u115_17, u115_18, u115_20, u115_21, u115_23, u115_24, u115_27, u115_28, u115_29, u115_32, u115_33, u115_35, u115_36, u115_38, u115_39, u115_42, u115_43, u115_45, u115_46, nn_eq, nn_eq0, pk_div, nn_rem]
  · have e : v / 1000 = v / 1000 % 10 := by omega
    simp [dg, tens, ← e]
  · simp [dg, tens]
  · simp [dg, tens]
  · simp [dg, tens]
theorem x_next {a : Nat} {w : Wd} {G : Gs} (ha : a < 8) (h5 : G 5 a < 10000) (h6 : G 6 a < 4) : CALL 125 [.ref 44, .int (nI a)] (putS w G) = some ([.int (nI (dg (G 5 a) (G 6 a)))], putS w G) := by
  simp (disch := omega) only [n125, u125_0, u125_1, u125_2, u125_3, u125_6, u125_7, u125_8, u125_9, u125_12, u125_15, s_its, Option.bind_some, x_digit, List.cons_append, List.nil_append]
theorem x_isKeptBy {kd p x : Nat} {w : Wd} (hk : kd < 7) (hp : p < 3) (hx : x < 10) : CALL 126 [.int (nI kd), .int (nI (p + 1)), .int (nI x)] w = some ([.int (bz (kp kd p x))], w) := by
  have hc : kd = 0 ∨ kd = 1 ∨ kd = 2 ∨ kd = 3 ∨ kd = 4 ∨ kd = 5 ∨ kd = 6 := by omega
  rcases hc with rfl | rfl | rfl | rfl | rfl | rfl | rfl <;> simp (disch := first | omega | decide | exact nI0_01 | exact nI1_01) only [n126, u126_0, u126_1, u126_40, u126_41, u126_44, u126_45, u126_48, u126_49, u126_50, u126_51, u126_52, u126_53, u126_56, u126_57, u126_60, u126_61, u126_62, u126_63, u126_64, u126_65, u126_66, u126_69, u126_70, u126_73, u126_74, u126_75, u126_76, nn_eq, nn_eq0, pk_div, nn_rem]
  all_goals (by_cases hx0 : x = 0 <;> by_cases hx2 : x % 2 = 0 <;> by_cases hp0 : p = 0 <;> simp [kp, hx0, hx2, hp0, bz_t, bz_f] <;> omega)
theorem kd_cases {k : Nat} (h : k < 7) : k = 0 ∨ k = 1 ∨ k = 2 ∨ k = 3 ∨ k = 4 ∨ k = 5 ∨ k = 6 := by omega
theorem nn_sub {a b : Nat} (h : b ≤ a) : nI a - nI b = nI (a - b) := pk_sub h
theorem x_gm1 {w : Wd} : CALL 112 [.int (nI 0), .int (nI 0 - nI 1)] w = some ([.int (nI 0)], w) := by
  rw [x_greatest, if_pos (by decide)]
theorem x_eats {a : Nat} {w : Wd} {G : Gs} (ha : a < 8) (h4 : G 4 a < 7) (h6 : G 6 a < 4) (h7 : G 7 a < 100) : CALL 123 [.ref 44, .int (nI a)] (putS w G) = some ([.int (nI (eat (G 4 a) (G 7 a) (G 6 a)))], putS w G) := by
  simp (disch := omega) only [n123, u123_0, u123_1, u123_2, u123_3, u123_6, u123_8, u123_11, u123_12, u123_15, u123_16, u123_17, u123_18, u123_19, u123_20, u123_23, u123_60, u123_61, u123_62, u123_63, u123_64, u123_66, u123_67, u123_69, u123_70, u123_71, u123_72, u123_75, u123_76, u123_77, u123_78, u123_79, u123_80, u123_81, u123_82, u123_83, u123_86, u123_87, u123_88, s_its, Option.bind_some, List.cons_append, List.nil_append, Nat.reduceAdd, nn_lt, nn_eq, nn_sub, n_greatest]
  by_cases h : G 7 a < 60
  · have h' : ¬ 60 ≤ G 7 a := by omega
    rcases kd_cases h4 with hk | hk | hk | hk | hk | hk | hk <;> simp [hk, h, h', eat]
  · have h' : 60 ≤ G 7 a := by omega
    rcases kd_cases h4 with hk | hk | hk | hk | hk | hk | hk <;> simp (disch := omega) [hk, h, h', eat, n_greatest, x_gm1, n123, u123_0, u123_1, u123_2, u123_3, u123_6, u123_8, u123_11, u123_12, u123_15, u123_16, u123_17, u123_18, u123_19, u123_20, u123_23, u123_60, u123_61, u123_62, u123_63, u123_64, u123_66, u123_67, u123_69, u123_70, u123_71, u123_72, u123_75, u123_76, u123_77, u123_78, u123_79, u123_80, u123_81, u123_82, u123_83, u123_86, u123_87, u123_88]
theorem x_writes {a : Nat} {w : Wd} {G : Gs} (ha : a < 8) (h4 : G 4 a < 7) (h7 : G 7 a < 100) : CALL 124 [.ref 44, .int (nI a)] (putS w G) = some ([.int (nI (wrt (G 4 a) (G 7 a)))], putS w G) := by
  simp (disch := first | omega | decide | exact nI0_01 | exact nI1_01 | exact bz_01 _) only [Option.bind_some, List.cons_append, List.nil_append, Nat.reduceAdd, Nat.reduceMul, Nat.reduceLeDiff, Nat.reduceEqDiff, ↓reduceIte, n124, u124_0, u124_1, u124_2, u124_3, u124_6, u124_44, u124_45, u124_46, u124_47, u124_50, u124_52, u124_55, u124_56, u124_59, u124_60, u124_61, u124_62, u124_63, u124_64, u124_65, u124_66, u124_67, u124_68, u124_71, u124_72, u124_73, u124_74, u124_77, u124_78, u124_81, u124_82, u124_83, u124_84, u124_85, u124_86, s_its, nn_lt, nn_le, nn_eq, pk_div, nn_rem]
  rcases kd_cases h4 with hk | hk | hk | hk | hk | hk | hk <;> by_cases h : G 7 a < 20 <;> by_cases h2 : G 7 a % 2 = 1 <;> simp [hk, h, h2, wrt] <;> omega
