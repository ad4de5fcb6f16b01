theorem ok2_case (v : Int32) (a b : Nat) (h : b < 2147483648) : (∃ k, a ≤ k ∧ k ≤ b ∧ v = nI k ∧ ok2 v a b = true ∧ ix v = k) ∨ ok2 v a b = false := by
  by_cases hv : (a : Int) ≤ v.toInt ∧ v.toInt ≤ (b : Int)
  · left
    have e : v = nI v.toInt.toNat := by
      apply Int32.toInt_inj.mp
      rw [nI_toInt (by omega)]
      omega
    refine ⟨v.toInt.toNat, by omega, by omega, e, by unfold ok2; simp [hv], rfl⟩
  · right
    unfold ok2; simp only [hv, decide_false]
theorem ok_ne {v : Int32} {b : Nat} (h : ok v b = false) {j : Nat} (hj : j ≤ b) (hb : b < 2147483648) : ¬ v = nI j := by
  intro e
  rw [e, ok_nI (by omega), decide_eq_true hj] at h
  exact absurd h (by decide)
/-! WRITERS -/
def comes (A : Gs) (k d f : Nat) : Gs := up (up (up (up (up (up A 4 (A 0 0) k) 5 (A 0 0) d) 6 (A 0 0) 0) 7 (A 0 0) f) 8 (A 0 0) 0) 0 0 (A 0 0 + 1)
theorem x_comes {k d : Nat} {w : Wd} {A : Gs} (hN : A 0 0 < 8) : CALL 121 [.ref 44, .int (nI k), .int (nI d)] (putS w A) = some ([], putS w (comes A k d 30)) := by
  have e : ∀ v1 v2 v3 v4 v5, up (up (up (up (up A 4 (A 0 0) v1) 5 (A 0 0) v2) 6 (A 0 0) v3) 7 (A 0 0) v4) 8 (A 0 0) v5 0 0 = A 0 0 := fun v1 v2 v3 v4 v5 => by
    rw [up_nc _ (by omega), up_nc _ (by omega), up_nc _ (by omega), up_nc _ (by omega), up_nc _ (by omega)]
  simp (disch := first | omega | decide | exact nI0_01 | exact nI1_01 | exact bz_01 _) only [Option.bind_some, List.cons_append, List.nil_append, Nat.reduceAdd, Nat.reduceMul, Nat.reduceLeDiff, Nat.reduceEqDiff, ↓reduceIte, n121, u121_0, u121_1, u121_4, u121_5, u121_6, u121_7, u121_8, u121_11, u121_12, u121_13, u121_16, u121_17, u121_18, u121_19, u121_22, u121_23, u121_24, u121_27, u121_28, u121_29, u121_30, u121_33, u121_34, u121_35, u121_38, u121_39, u121_40, u121_41, u121_44, u121_45, u121_46, u121_49, u121_51, u121_52, u121_53, u121_56, u121_57, u121_58, u121_61, u121_62, u121_63, u121_64, u121_67, u121_68, u121_69, u121_70, u121_71, u121_72, u121_73, putS_0, x_at, nI_add, putS_sw, putS_s0, e, Nat.lt_add_one]
  rfl
def o_writer (A : Gs) (x y : Int32) : Int32 × Gs := if ok x 6 = true ∧ ok y 9999 = true then (if A 0 0 = 8 then bad A 1 else (nI (A 0 0), comes A (ix x) (ix y) 30)) else bad A 0
theorem comes_r {A : Gs} {k d f : Nat} : ∀ c, 10 ≤ c → comes A k d f c = A c := fun c hc => by
  unfold comes
  funext j
  rw [up_nc _ (by omega), up_nc _ (by omega), up_nc _ (by omega), up_nc _ (by omega), up_nc _ (by omega), up_nc _ (by omega)]
theorem comes_0 {A : Gs} {k d f : Nat} : comes A k d f 0 0 = A 0 0 + 1 := up_at _ _ _ _
theorem m_writer {A : Gs} {w : Wd} {x y : Int32} (h : M A (putS w A)) (hI : Iv A) : opM 122 [.int x, .int y] (o_writer A x y) (putS w A) := by
  have h0 := hI.1
  unfold o_writer
  rcases ok_case x 6 (by omega) with ⟨k, hk, rfl, ek, ik⟩ | ek
  · try simp only [ik]
    rcases ok_case y 9999 (by omega) with ⟨m, hm, rfl, em, im⟩ | em
    · try simp only [im]
      rw [if_pos (by simp [ek, em])]
      by_cases hN : A 0 0 = 8
      · rw [if_pos hN]
        refine opM_bad h (by omega) ?_
        simp (disch := first | omega | decide | exact nI0_01 | exact nI1_01 | exact bz_01 _) only [Option.bind_some, List.cons_append, List.nil_append, Nat.reduceAdd, Nat.reduceMul, Nat.reduceLeDiff, Nat.reduceEqDiff, ↓reduceIte, n122, u122_0, u122_1, u122_2, u122_3, u122_6, u122_9, u122_12, u122_13, u122_14, u122_15, u122_18, u122_21, u122_24, u122_25, u122_27, u122_30, u122_31, u122_32, u122_35, u122_36, u122_37, u122_39, u122_42, u122_43, u122_45, u122_48, u122_49, u122_50, u122_51, u122_52, u122_55, u122_56, u122_59, u122_60, u122_61, u122_62, u122_63, xin_1, xin_2, xin_3, xin_4, xin_5, xin_6, xin_7, xin_9, xin_20, xin_40, xin_99, xin_100, xin_999, xin_9999, xin_1_60, xin_1_20, xin_1_4, xin_2_4, xin_v, ek, em, bz_t, bz_f, nn_eq0, nn_eq, eq_self, not_true_eq_false, not_false_eq_true, putS_0, hN, x_f1]
      · rw [if_neg hN]
        refine opM_set h comes_r ?_
        have h1 : A 0 0 < 8 := by omega
        simp (disch := first | omega | decide | exact nI0_01 | exact nI1_01 | exact bz_01 _) only [Option.bind_some, List.cons_append, List.nil_append, Nat.reduceAdd, Nat.reduceMul, Nat.reduceLeDiff, Nat.reduceEqDiff, ↓reduceIte, n122, u122_0, u122_1, u122_2, u122_3, u122_6, u122_9, u122_12, u122_13, u122_14, u122_15, u122_18, u122_21, u122_24, u122_25, u122_27, u122_30, u122_31, u122_32, u122_35, u122_36, u122_37, u122_39, u122_42, u122_43, u122_45, u122_48, u122_49, u122_50, u122_51, u122_52, u122_55, u122_56, u122_59, u122_60, u122_61, u122_62, u122_63, xin_1, xin_2, xin_3, xin_4, xin_5, xin_6, xin_7, xin_9, xin_20, xin_40, xin_99, xin_100, xin_999, xin_9999, xin_1_60, xin_1_20, xin_1_4, xin_2_4, xin_v, ek, em, bz_t, bz_f, nn_eq0, nn_eq, eq_self, not_true_eq_false, not_false_eq_true, putS_0, hN, x_comes, h1, comes_0, nn_sub, Nat.add_sub_cancel]
    · rw [if_neg (by simp [em])]
      refine opM_bad h (by omega) ?_
      simp (disch := first | omega | decide | exact nI0_01 | exact nI1_01 | exact bz_01 _) only [Option.bind_some, List.cons_append, List.nil_append, Nat.reduceAdd, Nat.reduceMul, Nat.reduceLeDiff, Nat.reduceEqDiff, ↓reduceIte, n122, u122_0, u122_1, u122_2, u122_3, u122_6, u122_9, u122_12, u122_13, u122_14, u122_15, u122_18, u122_21, u122_24, u122_25, u122_27, u122_30, u122_31, u122_32, u122_35, u122_36, u122_37, u122_39, u122_42, u122_43, u122_45, u122_48, u122_49, u122_50, u122_51, u122_52, u122_55, u122_56, u122_59, u122_60, u122_61, u122_62, u122_63, xin_1, xin_2, xin_3, xin_4, xin_5, xin_6, xin_7, xin_9, xin_20, xin_40, xin_99, xin_100, xin_999, xin_9999, xin_1_60, xin_1_20, xin_1_4, xin_2_4, xin_v, ek, em, bz_t, bz_f, nn_eq0, nn_eq, eq_self, not_true_eq_false, not_false_eq_true, x_f0]
  · rw [if_neg (by simp [ek])]
    refine opM_bad h (by omega) ?_
    simp (disch := first | omega | decide | exact nI0_01 | exact nI1_01 | exact bz_01 _) only [Option.bind_some, List.cons_append, List.nil_append, Nat.reduceAdd, Nat.reduceMul, Nat.reduceLeDiff, Nat.reduceEqDiff, ↓reduceIte, n122, u122_0, u122_1, u122_2, u122_3, u122_6, u122_9, u122_12, u122_13, u122_14, u122_15, u122_18, u122_21, u122_24, u122_25, u122_27, u122_30, u122_31, u122_32, u122_35, u122_36, u122_37, u122_39, u122_42, u122_43, u122_45, u122_48, u122_49, u122_50, u122_51, u122_52, u122_55, u122_56, u122_59, u122_60, u122_61, u122_62, u122_63, xin_1, xin_2, xin_3, xin_4, xin_5, xin_6, xin_7, xin_9, xin_20, xin_40, xin_99, xin_100, xin_999, xin_9999, xin_1_60, xin_1_20, xin_1_4, xin_2_4, xin_v, ek, bz_t, bz_f, nn_eq0, nn_eq, eq_self, not_true_eq_false, not_false_eq_true, x_f0]
def ofV (A : Gs) (a c : Nat) : Nat := if c = 5 then eat (A 4 a) (A 7 a) (A 6 a) else if c = 6 then wrt (A 4 a) (A 7 a) else if c = 7 then dg (A 5 a) (A 6 a) else A (4 + c) a
def o_of (A : Gs) (x y : Int32) : Int32 × Gs := if isW A x = true ∧ ok y 7 = true then (nI (ofV A (ix x) (ix y)), A) else bad A 0
theorem m_of {A : Gs} {w : Wd} {x y : Int32} (h : M A (putS w A)) (hI : Iv A) : opM 127 [.int x, .int y] (o_of A x y) (putS w A) := by
  have h0 := hI.1
  unfold o_of
  rcases isW_case A x hI.1 with ⟨k, nk, hk, rfl, ek, ik⟩ | ek
  · try simp only [ik]
    rcases ok_case y 7 (by omega) with ⟨m, hm, rfl, em, im⟩ | em
    · try simp only [im]
      rw [if_pos (by simp [ek, em])]
      have hw := hI.2.2.2.2 k hk
      refine opM_get h ?_
      rcases (by omega : m = 0 ∨ m = 1 ∨ m = 2 ∨ m = 3 ∨ m = 4 ∨ m = 5 ∨ m = 6 ∨ m = 7) with rfl | rfl | rfl | rfl | rfl | rfl | rfl | rfl <;> simp (disch := first | omega | decide | exact nI0_01 | exact nI1_01 | exact bz_01 _) only [Option.bind_some, List.cons_append, List.nil_append, Nat.reduceAdd, Nat.reduceMul, Nat.reduceLeDiff, Nat.reduceEqDiff, ↓reduceIte, n127, u127_0, u127_1, u127_2, u127_5, u127_8, u127_9, u127_10, u127_11, u127_14, u127_17, u127_20, u127_21, u127_23, u127_26, u127_27, u127_28, u127_56, u127_57, u127_58, u127_61, u127_62, u127_63, u127_64, u127_67, u127_68, u127_69, u127_70, u127_73, u127_74, u127_75, u127_76, u127_77, u127_80, x_isWriter hI.1, xin_1, xin_2, xin_3, xin_4, xin_5, xin_6, xin_7, xin_9, xin_20, xin_40, xin_99, xin_100, xin_999, xin_9999, xin_1_60, xin_1_20, xin_1_4, xin_2_4, xin_v, ek, em, bz_t, bz_f, nn_eq0, nn_eq, eq_self, not_true_eq_false, not_false_eq_true, s_its, x_eats, x_writes, x_next, ofV, Nat.reduceAdd]
    · rw [if_neg (by simp [em])]
      refine opM_bad h (by omega) ?_
      simp (disch := first | omega | decide | exact nI0_01 | exact nI1_01 | exact bz_01 _) only [Option.bind_some, List.cons_append, List.nil_append, Nat.reduceAdd, Nat.reduceMul, Nat.reduceLeDiff, Nat.reduceEqDiff, ↓reduceIte, n127, u127_0, u127_1, u127_2, u127_5, u127_8, u127_9, u127_10, u127_11, u127_14, u127_17, u127_20, u127_21, u127_23, u127_26, u127_27, u127_28, u127_56, u127_57, u127_58, u127_61, u127_62, u127_63, u127_64, u127_67, u127_68, u127_69, u127_70, u127_73, u127_74, u127_75, u127_76, u127_77, u127_80, x_isWriter hI.1, xin_1, xin_2, xin_3, xin_4, xin_5, xin_6, xin_7, xin_9, xin_20, xin_40, xin_99, xin_100, xin_999, xin_9999, xin_1_60, xin_1_20, xin_1_4, xin_2_4, xin_v, ek, em, bz_t, bz_f, nn_eq0, nn_eq, eq_self, not_true_eq_false, not_false_eq_true, x_f0]
  · rw [if_neg (by simp [ek])]
    refine opM_bad h (by omega) ?_
    simp (disch := first | omega | decide | exact nI0_01 | exact nI1_01 | exact bz_01 _) only [Option.bind_some, List.cons_append, List.nil_append, Nat.reduceAdd, Nat.reduceMul, Nat.reduceLeDiff, Nat.reduceEqDiff, ↓reduceIte, n127, u127_0, u127_1, u127_2, u127_5, u127_8, u127_9, u127_10, u127_11, u127_14, u127_17, u127_20, u127_21, u127_23, u127_26, u127_27, u127_28, u127_56, u127_57, u127_58, u127_61, u127_62, u127_63, u127_64, u127_67, u127_68, u127_69, u127_70, u127_73, u127_74, u127_75, u127_76, u127_77, u127_80, x_isWriter hI.1, xin_1, xin_2, xin_3, xin_4, xin_5, xin_6, xin_7, xin_9, xin_20, xin_40, xin_99, xin_100, xin_999, xin_9999, xin_1_60, xin_1_20, xin_1_4, xin_2_4, xin_v, ek, bz_t, bz_f, nn_eq0, nn_eq, eq_self, not_true_eq_false, not_false_eq_true, x_f0]
def mst (c : Nat) : Nat := if c = 0 then 6 else if c = 2 then 3 else if c = 3 then 99 else 9999
theorem mst_lt (c : Nat) : mst c < 2147483648 := by unfold mst; (repeat' split) <;> omega
theorem x_greatestOf {c : Nat} {w : Wd} (hc : c < 5) : CALL 128 [.int (nI c)] w = some ([.int (nI (mst c))], w) := by
  rcases (by omega : c = 0 ∨ c = 1 ∨ c = 2 ∨ c = 3 ∨ c = 4) with rfl | rfl | rfl | rfl | rfl <;> simp (disch := first | omega | decide | exact nI0_01 | exact nI1_01 | exact bz_01 _) only [Option.bind_some, List.cons_append, List.nil_append, Nat.reduceAdd, Nat.reduceMul, Nat.reduceLeDiff, Nat.reduceEqDiff, ↓reduceIte, n128, u128_0, u128_1, u128_4, u128_6, u128_9, u128_10, u128_11, u128_14, u128_15, u128_18, u128_19, u128_20, u128_23, u128_25, u128_28, u128_31, bz_t, bz_f, nn_eq0, nn_eq, eq_self, not_true_eq_false, not_false_eq_true, mst]
def o_change (A : Gs) (x y v : Int32) : Int32 × Gs := if isW A x = true ∧ ok y 4 = true ∧ ok v (mst (ix y)) = true then (nI (A (4 + ix y) (ix x)), up A (4 + ix y) (ix x) (ix v)) else bad A 0
theorem m_change {A : Gs} {w : Wd} {x y v : Int32} (h : M A (putS w A)) (hI : Iv A) : opM 129 [.int x, .int y, .int v] (o_change A x y v) (putS w A) := by
  have h0 := hI.1
  have hm0 := mst_lt
  unfold o_change
  rcases isW_case A x hI.1 with ⟨k, nk, hk, rfl, ek, ik⟩ | ek
  · rw [ik]
    rcases ok_case y 4 (by omega) with ⟨m, hm, rfl, em, im⟩ | em
    · rw [im]
      have hb := mst_lt m
      rcases ok_case v (mst m) hb with ⟨n, hn, rfl, en, jn⟩ | en
      · rw [jn, if_pos (by simp [ek, em, en])]
        refine opM_set h (up_r (by omega)) ?_
        simp (disch := first | omega | decide | exact nI0_01 | exact nI1_01 | exact bz_01 _) only [Option.bind_some, List.cons_append, List.nil_append, Nat.reduceAdd, Nat.reduceMul, Nat.reduceLeDiff, Nat.reduceEqDiff, ↓reduceIte, n129, u129_0, u129_1, u129_2, u129_5, u129_8, u129_9, u129_10, u129_11, u129_14, u129_17, u129_20, u129_21, u129_22, u129_23, u129_24, u129_27, u129_28, u129_31, u129_34, u129_35, u129_38, u129_39, u129_41, u129_43, u129_46, u129_47, u129_48, u129_49, u129_52, u129_53, u129_56, u129_59, u129_60, u129_62, u129_65, x_isWriter hI.1, xin_1, xin_2, xin_3, xin_4, xin_5, xin_6, xin_7, xin_9, xin_20, xin_40, xin_99, xin_100, xin_999, xin_9999, xin_1_60, xin_1_20, xin_1_4, xin_2_4, xin_v, x_greatestOf, ek, em, en, bz_t, bz_f, nn_eq0, nn_eq, eq_self, not_true_eq_false, not_false_eq_true, x_at, x_becomes, putS_w, putS_sw]
      · rw [if_neg (by simp [en])]
        refine opM_bad h (by omega) ?_
        simp (disch := first | omega | decide | exact nI0_01 | exact nI1_01 | exact bz_01 _) only [Option.bind_some, List.cons_append, List.nil_append, Nat.reduceAdd, Nat.reduceMul, Nat.reduceLeDiff, Nat.reduceEqDiff, ↓reduceIte, n129, u129_0, u129_1, u129_2, u129_5, u129_8, u129_9, u129_10, u129_11, u129_14, u129_17, u129_20, u129_21, u129_22, u129_23, u129_24, u129_27, u129_28, u129_31, u129_34, u129_35, u129_38, u129_39, u129_41, u129_43, u129_46, u129_47, u129_48, u129_49, u129_52, u129_53, u129_56, u129_59, u129_60, u129_62, u129_65, x_isWriter hI.1, xin_1, xin_2, xin_3, xin_4, xin_5, xin_6, xin_7, xin_9, xin_20, xin_40, xin_99, xin_100, xin_999, xin_9999, xin_1_60, xin_1_20, xin_1_4, xin_2_4, xin_v, x_greatestOf, ek, em, en, bz_t, bz_f, nn_eq0, nn_eq, eq_self, not_true_eq_false, not_false_eq_true, x_f0]
    · rw [if_neg (by simp [em])]
      refine opM_bad h (by omega) ?_
      simp (disch := first | omega | decide | exact nI0_01 | exact nI1_01 | exact bz_01 _) only [Option.bind_some, List.cons_append, List.nil_append, Nat.reduceAdd, Nat.reduceMul, Nat.reduceLeDiff, Nat.reduceEqDiff, ↓reduceIte, n129, u129_0, u129_1, u129_2, u129_5, u129_8, u129_9, u129_10, u129_11, u129_14, u129_17, u129_20, u129_21, u129_22, u129_23, u129_24, u129_27, u129_28, u129_31, u129_34, u129_35, u129_38, u129_39, u129_41, u129_43, u129_46, u129_47, u129_48, u129_49, u129_52, u129_53, u129_56, u129_59, u129_60, u129_62, u129_65, x_isWriter hI.1, xin_1, xin_2, xin_3, xin_4, xin_5, xin_6, xin_7, xin_9, xin_20, xin_40, xin_99, xin_100, xin_999, xin_9999, xin_1_60, xin_1_20, xin_1_4, xin_2_4, xin_v, ek, em, bz_t, bz_f, nn_eq0, nn_eq, eq_self, not_true_eq_false, not_false_eq_true, x_f0]
  · rw [if_neg (by simp [ek])]
    refine opM_bad h (by omega) ?_
    simp (disch := first | omega | decide | exact nI0_01 | exact nI1_01 | exact bz_01 _) only [Option.bind_some, List.cons_append, List.nil_append, Nat.reduceAdd, Nat.reduceMul, Nat.reduceLeDiff, Nat.reduceEqDiff, ↓reduceIte, n129, u129_0, u129_1, u129_2, u129_5, u129_8, u129_9, u129_10, u129_11, u129_14, u129_17, u129_20, u129_21, u129_22, u129_23, u129_24, u129_27, u129_28, u129_31, u129_34, u129_35, u129_38, u129_39, u129_41, u129_43, u129_46, u129_47, u129_48, u129_49, u129_52, u129_53, u129_56, u129_59, u129_60, u129_62, u129_65, x_isWriter hI.1, xin_1, xin_2, xin_3, xin_4, xin_5, xin_6, xin_7, xin_9, xin_20, xin_40, xin_99, xin_100, xin_999, xin_9999, xin_1_60, xin_1_20, xin_1_4, xin_2_4, xin_v, ek, bz_t, bz_f, nn_eq0, nn_eq, eq_self, not_true_eq_false, not_false_eq_true, x_f0]
def kpS (kd b : Nat) : Nat → Nat → Int32 → Int32
  | 0, _, s => s
  | m + 1, p, s => kpS kd b m (p + 1) (if kp kd p (dg b (p + 1)) = true then s ||| (nI 1 <<< (nI (dg b (p + 1)) &&& 31)) else s)
theorem keeps_loop {a f : Nat} {w : Wd} {A : Gs} (hI : Iv A) (ha : a < 8) (hf : f < 6) : ∀ (m p : Nat) (s : Int32) (x5 : Option Value), m + p = 3 → RUN 130 27 [some (.ref 44), some (.int (nI a)), some (.int (nI f)), some (.int s), some (.int (nI (p + 1))), x5] [] [] (putS w A) = some ([.int (kpS (A 4 a) (A 2 f) m p s)], putS w A) := by
  have hw := hI.2.2.2.2 a ha
  have hb := hI.2.2.1 f hf
  intro m
  induction m with
  | zero =>
    intro p s x5 hm
    have e : p = 3 := by omega
    subst e
    rw [u130_27]
    simp (disch := first | omega | decide | exact nI0_01 | exact nI1_01 | exact bz_01 _) only [Option.bind_some, List.cons_append, List.nil_append, Nat.reduceAdd, Nat.reduceMul, Nat.reduceLeDiff, Nat.reduceEqDiff, ↓reduceIte, n130, u130_0, u130_1, u130_2, u130_5, u130_8, u130_9, u130_12, u130_15, u130_16, u130_18, u130_21, u130_22, u130_23, u130_24, u130_25, u130_29, u130_30, u130_33, u130_34, u130_37, u130_39, u130_40, u130_41, u130_42, u130_44, u130_47, u130_49, u130_50, u130_51, u130_52, u130_53, u130_56, u130_58, u130_60, u130_63, u130_66, u130_67, u130_69, u130_70, u130_73, u130_74, u130_75, u130_76, u130_79, u130_82, u130_83, nn_le, Nat.le_refl]
    rfl
  | succ m ih =>
    intro p s x5 hm
    have h1 : ¬ 4 ≤ p + 1 := by omega
    have hl := dg_lt (A 2 f) (p + 1)
    rw [u130_27, kpS]
    cases h2 : kp (A 4 a) p (dg (A 2 f) (p + 1)) with
    | true =>
      simp (disch := first | omega | decide | exact nI0_01 | exact nI1_01 | exact bz_01 _) only [Option.bind_some, List.cons_append, List.nil_append, Nat.reduceAdd, Nat.reduceMul, Nat.reduceLeDiff, Nat.reduceEqDiff, ↓reduceIte, n130, u130_0, u130_1, u130_2, u130_5, u130_8, u130_9, u130_12, u130_15, u130_16, u130_18, u130_21, u130_22, u130_23, u130_24, u130_25, u130_29, u130_30, u130_33, u130_34, u130_37, u130_39, u130_40, u130_41, u130_42, u130_44, u130_47, u130_49, u130_50, u130_51, u130_52, u130_53, u130_56, u130_58, u130_60, u130_63, u130_66, u130_67, u130_69, u130_70, u130_73, u130_74, u130_75, u130_76, u130_79, u130_82, u130_83, nn_le, h1, if_false, nI_add, putS_2, x_digit, s_its, x_isKeptBy, h2, bz_t, bz_f, nn_eq0, nn_eq, eq_self, not_true_eq_false, not_false_eq_true]
      exact ih (p + 1) _ _ (by omega)
    | false =>
      simp (disch := first | omega | decide | exact nI0_01 | exact nI1_01 | exact bz_01 _) only [Option.bind_some, List.cons_append, List.nil_append, Nat.reduceAdd, Nat.reduceMul, Nat.reduceLeDiff, Nat.reduceEqDiff, ↓reduceIte, n130, u130_0, u130_1, u130_2, u130_5, u130_8, u130_9, u130_12, u130_15, u130_16, u130_18, u130_21, u130_22, u130_23, u130_24, u130_25, u130_29, u130_30, u130_33, u130_34, u130_37, u130_39, u130_40, u130_41, u130_42, u130_44, u130_47, u130_49, u130_50, u130_51, u130_52, u130_53, u130_56, u130_58, u130_60, u130_63, u130_66, u130_67, u130_69, u130_70, u130_73, u130_74, u130_75, u130_76, u130_79, u130_82, u130_83, nn_le, h1, if_false, nI_add, putS_2, x_digit, s_its, x_isKeptBy, h2, bz_t, bz_f, nn_eq0, nn_eq, eq_self, not_true_eq_false, not_false_eq_true, or_0, Bool.false_eq_true]
      exact ih (p + 1) _ _ (by omega)
def o_keeps (A : Gs) (x y : Int32) : Int32 × Gs := if isW A x = true ∧ ok y 5 = true then (kpS (A 4 (ix x)) (A 2 (ix y)) 3 0 (nI 0), A) else bad A 0
theorem m_keeps {A : Gs} {w : Wd} {x y : Int32} (h : M A (putS w A)) (hI : Iv A) : opM 130 [.int x, .int y] (o_keeps A x y) (putS w A) := by
  have h0 := hI.1
  unfold o_keeps
  rcases isW_case A x hI.1 with ⟨k, nk, hk, rfl, ek, ik⟩ | ek
  · try simp only [ik]
    rcases ok_case y 5 (by omega) with ⟨m, hm, rfl, em, im⟩ | em
    · try simp only [im]
      rw [if_pos (by simp [ek, em])]
      refine opM_get h ?_
      simp (disch := first | omega | decide | exact nI0_01 | exact nI1_01 | exact bz_01 _) only [Option.bind_some, List.cons_append, List.nil_append, Nat.reduceAdd, Nat.reduceMul, Nat.reduceLeDiff, Nat.reduceEqDiff, ↓reduceIte, n130, u130_0, u130_1, u130_2, u130_5, u130_8, u130_9, u130_12, u130_15, u130_16, u130_18, u130_21, u130_22, u130_23, u130_24, u130_25, u130_29, u130_30, u130_33, u130_34, u130_37, u130_39, u130_40, u130_41, u130_42, u130_44, u130_47, u130_49, u130_50, u130_51, u130_52, u130_53, u130_56, u130_58, u130_60, u130_63, u130_66, u130_67, u130_69, u130_70, u130_73, u130_74, u130_75, u130_76, u130_79, u130_82, u130_83, x_isWriter hI.1, x_isFish, ek, em, bz_t, bz_f, nn_eq0, nn_eq, eq_self, not_true_eq_false, not_false_eq_true]
      exact keeps_loop hI hk (by omega) 3 0 (nI 0) none rfl
    · rw [if_neg (by simp [em])]
      refine opM_bad h (by omega) ?_
      simp (disch := first | omega | decide | exact nI0_01 | exact nI1_01 | exact bz_01 _) only [Option.bind_some, List.cons_append, List.nil_append, Nat.reduceAdd, Nat.reduceMul, Nat.reduceLeDiff, Nat.reduceEqDiff, ↓reduceIte, n130, u130_0, u130_1, u130_2, u130_5, u130_8, u130_9, u130_12, u130_15, u130_16, u130_18, u130_21, u130_22, u130_23, u130_24, u130_25, u130_29, u130_30, u130_33, u130_34, u130_37, u130_39, u130_40, u130_41, u130_42, u130_44, u130_47, u130_49, u130_50, u130_51, u130_52, u130_53, u130_56, u130_58, u130_60, u130_63, u130_66, u130_67, u130_69, u130_70, u130_73, u130_74, u130_75, u130_76, u130_79, u130_82, u130_83, x_isWriter hI.1, x_isFish, ek, em, bz_t, bz_f, nn_eq0, nn_eq, eq_self, not_true_eq_false, not_false_eq_true, x_f0]
  · rw [if_neg (by simp [ek])]
    refine opM_bad h (by omega) ?_
    simp (disch := first | omega | decide | exact nI0_01 | exact nI1_01 | exact bz_01 _) only [Option.bind_some, List.cons_append, List.nil_append, Nat.reduceAdd, Nat.reduceMul, Nat.reduceLeDiff, Nat.reduceEqDiff, ↓reduceIte, n130, u130_0, u130_1, u130_2, u130_5, u130_8, u130_9, u130_12, u130_15, u130_16, u130_18, u130_21, u130_22, u130_23, u130_24, u130_25, u130_29, u130_30, u130_33, u130_34, u130_37, u130_39, u130_40, u130_41, u130_42, u130_44, u130_47, u130_49, u130_50, u130_51, u130_52, u130_53, u130_56, u130_58, u130_60, u130_63, u130_66, u130_67, u130_69, u130_70, u130_73, u130_74, u130_75, u130_76, u130_79, u130_82, u130_83, x_isWriter hI.1, x_isFish, ek, bz_t, bz_f, nn_eq0, nn_eq, eq_self, not_true_eq_false, not_false_eq_true, x_f0]
/-! WHAT A JAR SPELLS -/
def hw (v d : Nat) : Nat → Nat → Nat
  | 0, _ => 0
  | m + 1, p => (if dg v p = d then 1 else 0) + hw v d m (p + 1)
def spl (A : Gs) (v : Nat) : Nat → Nat → Nat → Nat
  | 0, _, b => b
  | m + 1, p, b => spl A v m (p + 1) (min b (A 1 (dg v p) / hw v (dg v p) 4 0))
theorem hw_le (v d : Nat) : ∀ m p, hw v d m p ≤ m
  | 0, _ => Nat.le_refl _
  | m + 1, p => by
    have := hw_le v d m (p + 1)
    unfold hw
    split <;> omega
theorem hw_pos (v : Nat) {p : Nat} (hp : p < 4) : 0 < hw v (dg v p) 4 0 := by
  simp only [hw]
  rcases (by omega : p = 0 ∨ p = 1 ∨ p = 2 ∨ p = 3) with rfl | rfl | rfl | rfl <;> simp <;> omega
theorem so_in {v p d b : Nat} {w : Wd} (hv : v < 10000) (hd : d < 10) : ∀ (m q s : Nat), m + q = 4 → RUN 131 24 [some (.ref 44), some (.int (nI v)), some (.int (nI b)), some (.int (nI p)), some (.int (nI d)), some (.int (nI s)), some (.int (nI q))] [] [] w = RUN 131 57 [some (.ref 44), some (.int (nI v)), some (.int (nI b)), some (.int (nI p)), some (.int (nI d)), some (.int (nI (s + hw v d m q))), some (.int (nI 4))] [] [] w := by
  intro m
  induction m with
  | zero =>
    intro q s hm
    have e : q = 4 := by omega
    subst e
    rw [u131_24]
    simp (disch := first | omega | decide | exact nI0_01 | exact nI1_01 | exact bz_01 _) only [Option.bind_some, List.cons_append, List.nil_append, Nat.reduceAdd, Nat.reduceMul, Nat.reduceLeDiff, Nat.reduceEqDiff, ↓reduceIte, u131_26, u131_27, u131_30, u131_32, u131_33, u131_35, u131_38, u131_40, u131_43, u131_44, u131_47, u131_48, u131_49, u131_51, u131_54, nn_le, Nat.le_refl]
    rfl
  | succ m ih =>
    intro q s hm
    have h1 : ¬ 4 ≤ q := by omega
    have hl := dg_lt v q
    rw [u131_24]
    by_cases h2 : dg v q = d
    · simp (disch := first | omega | decide | exact nI0_01 | exact nI1_01 | exact bz_01 _) only [Option.bind_some, List.cons_append, List.nil_append, Nat.reduceAdd, Nat.reduceMul, Nat.reduceLeDiff, Nat.reduceEqDiff, ↓reduceIte, u131_26, u131_27, u131_30, u131_32, u131_33, u131_35, u131_38, u131_40, u131_43, u131_44, u131_47, u131_48, u131_49, u131_51, u131_54, nn_le, h1, if_false, x_digit, nn_eq, h2, not_true_eq_false, nI_add]
      rw [ih (q + 1) (s + 1) (by omega), hw, if_pos h2, Nat.add_assoc]
    · simp (disch := first | omega | decide | exact nI0_01 | exact nI1_01 | exact bz_01 _) only [Option.bind_some, List.cons_append, List.nil_append, Nat.reduceAdd, Nat.reduceMul, Nat.reduceLeDiff, Nat.reduceEqDiff, ↓reduceIte, u131_26, u131_27, u131_30, u131_32, u131_33, u131_35, u131_38, u131_40, u131_43, u131_44, u131_47, u131_48, u131_49, u131_51, u131_54, nn_le, h1, if_false, x_digit, nn_eq, h2, not_false_eq_true, if_true, nI_add, Nat.add_zero]
      rw [ih (q + 1) s (by omega), hw, if_neg h2, Nat.zero_add]
theorem so_out {v : Nat} {w : Wd} {A : Gs} (hI : Iv A) (hv : v < 10000) : ∀ (m p b : Nat) (x4 x5 x6 : Option Value), m + p = 4 → b ≤ 999 → RUN 131 6 [some (.ref 44), some (.int (nI v)), some (.int (nI b)), some (.int (nI p)), x4, x5, x6] [] [] (putS w A) = some ([.int (nI (spl A v m p b))], putS w A) := by
  intro m
  induction m with
  | zero =>
    intro p b x4 x5 x6 hm hb
    have e : p = 4 := by omega
    subst e
    rw [u131_6]
    simp (disch := first | omega | decide | exact nI0_01 | exact nI1_01 | exact bz_01 _) only [Option.bind_some, List.cons_append, List.nil_append, Nat.reduceAdd, Nat.reduceMul, Nat.reduceLeDiff, Nat.reduceEqDiff, ↓reduceIte, n131, u131_0, u131_3, u131_4, u131_5, u131_7, u131_8, u131_11, u131_12, u131_13, u131_16, u131_18, u131_19, u131_21, u131_22, u131_26, u131_27, u131_30, u131_32, u131_33, u131_35, u131_38, u131_40, u131_43, u131_44, u131_47, u131_48, u131_49, u131_51, u131_54, u131_57, u131_58, u131_59, u131_62, u131_63, u131_65, u131_66, u131_67, u131_69, u131_70, u131_73, u131_74, u131_77, u131_80, u131_81, nn_le, Nat.le_refl]
    rfl
  | succ m ih =>
    intro p b x4 x5 x6 hm hb
    have h1 : ¬ 4 ≤ p := by omega
    have hl := dg_lt v p
    have hj := hI.2.1 _ hl
    have hq := hw_pos v (p := p) (by omega)
    have hq2 := hw_le v (dg v p) 4 0
    have hq3 : A 1 (dg v p) / hw v (dg v p) 4 0 ≤ A 1 (dg v p) := Nat.div_le_self _ _
    rw [u131_6]
    simp (disch := first | omega | decide | exact nI0_01 | exact nI1_01 | exact bz_01 _) only [Option.bind_some, List.cons_append, List.nil_append, Nat.reduceAdd, Nat.reduceMul, Nat.reduceLeDiff, Nat.reduceEqDiff, ↓reduceIte, u131_7, u131_8, u131_11, u131_12, u131_13, u131_16, u131_18, u131_19, u131_21, u131_22, nn_le, h1, if_false, x_digit]
    rw [so_in hv hl 4 0 0 rfl, Nat.zero_add]
    have h0 : ¬ nI (hw v (dg v p) 4 0) = 0 := by rw [nn_eq0 (by omega)]; omega
    simp (disch := first | omega | decide | exact nI0_01 | exact nI1_01 | exact bz_01 _) only [Option.bind_some, List.cons_append, List.nil_append, Nat.reduceAdd, Nat.reduceMul, Nat.reduceLeDiff, Nat.reduceEqDiff, ↓reduceIte, u131_57, u131_58, u131_59, u131_62, u131_63, u131_65, u131_66, u131_67, u131_69, u131_70, u131_73, u131_74, u131_77, nI_add, putS_1]
    simp (disch := first | omega | decide | exact nI0_01 | exact nI1_01 | exact bz_01 _) only [Option.bind_some, List.cons_append, List.nil_append, Nat.reduceAdd, Nat.reduceMul, Nat.reduceLeDiff, Nat.reduceEqDiff, ↓reduceIte, u131_57, u131_58, u131_59, u131_62, u131_63, u131_65, u131_66, u131_67, u131_69, u131_70, u131_73, u131_74, u131_77, pk_div, n_least, nI_add]
    exact ih (p + 1) _ _ _ _ (by omega) (by omega)
theorem x_spellsOf {v : Nat} {w : Wd} {A : Gs} (hI : Iv A) (hv : v < 10000) : CALL 131 [.ref 44, .int (nI v)] (putS w A) = some ([.int (nI (spl A v 4 0 999))], putS w A) := by
  simp (disch := first | omega | decide | exact nI0_01 | exact nI1_01 | exact bz_01 _) only [Option.bind_some, List.cons_append, List.nil_append, Nat.reduceAdd, Nat.reduceMul, Nat.reduceLeDiff, Nat.reduceEqDiff, ↓reduceIte, u131_0, u131_3, u131_4, u131_5, n131]
  exact so_out hI hv 4 0 999 none none none rfl (by omega)
def o_spells (A : Gs) (x : Int32) : Int32 × Gs := if ok x 9999 = true then (nI (spl A (ix x) 4 0 999), A) else bad A 0
theorem m_spells {A : Gs} {w : Wd} {x : Int32} (h : M A (putS w A)) (hI : Iv A) : opM 132 [.int x] (o_spells A x) (putS w A) := by
  unfold o_spells
  rcases ok_case x 9999 (by omega) with ⟨k, hk, rfl, ek, ik⟩ | ek
  · try simp only [ik]
    rw [if_pos (by simp [ek])]
    refine opM_get h ?_
    simp (disch := first | omega | decide | exact nI0_01 | exact nI1_01 | exact bz_01 _) only [Option.bind_some, List.cons_append, List.nil_append, Nat.reduceAdd, Nat.reduceMul, Nat.reduceLeDiff, Nat.reduceEqDiff, ↓reduceIte, n132, u132_0, u132_1, u132_2, u132_3, u132_6, u132_9, u132_12, u132_13, u132_14, u132_17, u132_20, u132_21, u132_23, u132_26, xin_1, xin_2, xin_3, xin_4, xin_5, xin_6, xin_7, xin_9, xin_20, xin_40, xin_99, xin_100, xin_999, xin_9999, xin_1_60, xin_1_20, xin_1_4, xin_2_4, xin_v, ek, bz_t, bz_f, nn_eq0, nn_eq, eq_self, not_true_eq_false, not_false_eq_true, x_spellsOf hI]
  · rw [if_neg (by simp [ek])]
    refine opM_bad h (by omega) ?_
    simp (disch := first | omega | decide | exact nI0_01 | exact nI1_01 | exact bz_01 _) only [Option.bind_some, List.cons_append, List.nil_append, Nat.reduceAdd, Nat.reduceMul, Nat.reduceLeDiff, Nat.reduceEqDiff, ↓reduceIte, n132, u132_0, u132_1, u132_2, u132_3, u132_6, u132_9, u132_12, u132_13, u132_14, u132_17, u132_20, u132_21, u132_23, u132_26, xin_1, xin_2, xin_3, xin_4, xin_5, xin_6, xin_7, xin_9, xin_20, xin_40, xin_99, xin_100, xin_999, xin_9999, xin_1_60, xin_1_20, xin_1_4, xin_2_4, xin_v, ek, bz_t, bz_f, nn_eq0, nn_eq, eq_self, not_true_eq_false, not_false_eq_true, x_f0]
/-! DAYS -/
theorem days_r (n : Nat) (A : Gs) : ∀ c, 10 ≤ c → days 0 n A c = A c := fun c hc => days_row 0 (by omega) (by omega) (by omega) (by omega) (by omega) n A
def o_go (A : Gs) (x : Int32) : Int32 × Gs := if ok2 x 1 60 = true then (nI (sm (days 0 (ix x) A 8) (A 0 0) 0), days 0 (ix x) A) else bad A 0
theorem m_go {A : Gs} {w : Wd} {x : Int32} (h : M A (putS w A)) (hI : Iv A) (hd : A 0 1 ≤ 40000) : opM 139 [.int x] (o_go A x) (putS w A) := by
  unfold o_go
  rcases ok2_case x 1 60 (by omega) with ⟨k, hk, lk, rfl, ek, ik⟩ | ek
  · try simp only [ik]
    rw [if_pos (by simp [ek])]
    refine opM_set h (days_r k A) ?_
    have h1 : A 0 1 + k ≤ 99999 := by omega
    simp (disch := first | omega | decide | exact nI0_01 | exact nI1_01 | exact bz_01 _) only [Option.bind_some, List.cons_append, List.nil_append, Nat.reduceAdd, Nat.reduceMul, Nat.reduceLeDiff, Nat.reduceEqDiff, ↓reduceIte, n139, u139_0, u139_1, u139_2, u139_3, u139_6, u139_9, u139_12, u139_13, u139_15, u139_18, u139_19, u139_20, u139_23, u139_24, u139_25, u139_26, u139_27, u139_29, u139_32, u139_33, u139_35, u139_38, u139_39, u139_40, u139_41, u139_44, u139_45, u139_46, u139_49, xin_1, xin_2, xin_3, xin_4, xin_5, xin_6, xin_7, xin_9, xin_20, xin_40, xin_99, xin_100, xin_999, xin_9999, xin_1_60, xin_1_20, xin_1_4, xin_2_4, xin_v, ek, bz_t, bz_f, nn_eq0, nn_eq, eq_self, not_true_eq_false, not_false_eq_true, putS_0, nI_add, nn_lt, nn_le, h1, if_true, x_goes hI, x_sumOf (Iv.days 0 k hI), days_0]
  · rw [if_neg (by simp [ek])]
    refine opM_bad h (by omega) ?_
    simp (disch := first | omega | decide | exact nI0_01 | exact nI1_01 | exact bz_01 _) only [Option.bind_some, List.cons_append, List.nil_append, Nat.reduceAdd, Nat.reduceMul, Nat.reduceLeDiff, Nat.reduceEqDiff, ↓reduceIte, n139, u139_0, u139_1, u139_2, u139_3, u139_6, u139_9, u139_12, u139_13, u139_15, u139_18, u139_19, u139_20, u139_23, u139_24, u139_25, u139_26, u139_27, u139_29, u139_32, u139_33, u139_35, u139_38, u139_39, u139_40, u139_41, u139_44, u139_45, u139_46, u139_49, xin_1, xin_2, xin_3, xin_4, xin_5, xin_6, xin_7, xin_9, xin_20, xin_40, xin_99, xin_100, xin_999, xin_9999, xin_1_60, xin_1_20, xin_1_4, xin_2_4, xin_v, ek, bz_t, bz_f, nn_eq0, nn_eq, eq_self, not_true_eq_false, not_false_eq_true, x_f0]
def nowV (A : Gs) (c : Nat) : Int32 := if c = 0 then nI (A 0 1) else if c = 1 then nI (sm (A 8) (A 0 0) 0) else if c = 2 then nI (sm (A 1) 10 0) else if c = 3 then nI (sm (A 7) (A 0 0) 0) else if c = 4 then orS (fun a => decide (A 1 (dg (A 5 a) (A 6 a)) = 0)) (A 0 0) 0 (nI 0) else if c = 5 then orS (fun a => decide (A 1 a = 0)) 10 0 (nI 0) else orS (fun a => decide (A 7 a = 0)) (A 0 0) 0 (nI 0)
def o_now (A : Gs) (x : Int32) : Int32 × Gs := if ok x 6 = true then (nowV A (ix x), A) else bad A 0
theorem m_now {A : Gs} {w : Wd} {x : Int32} (h : M A (putS w A)) (hI : Iv A) : opM 143 [.int x] (o_now A x) (putS w A) := by
  unfold o_now
  rcases ok_case x 6 (by omega) with ⟨k, hk, rfl, ek, ik⟩ | ek
  · rw [if_pos ek, ik]
    refine opM_get h ?_
    rcases (by omega : k = 0 ∨ k = 1 ∨ k = 2 ∨ k = 3 ∨ k = 4 ∨ k = 5 ∨ k = 6) with rfl | rfl | rfl | rfl | rfl | rfl | rfl <;> simp (disch := first | omega | decide | exact nI0_01 | exact nI1_01 | exact bz_01 _) only [Option.bind_some, List.cons_append, List.nil_append, Nat.reduceAdd, Nat.reduceMul, Nat.reduceLeDiff, Nat.reduceEqDiff, ↓reduceIte, n143, u143_0, u143_1, u143_44, u143_45, u143_48, u143_49, u143_50, u143_51, u143_52, u143_53, u143_56, u143_57, u143_58, u143_61, u143_62, u143_63, u143_64, u143_67, u143_68, u143_69, u143_72, u143_73, u143_74, u143_77, u143_78, u143_79, u143_82, u143_83, u143_84, u143_86, u143_89, bz_t, bz_f, nn_eq0, nn_eq, eq_self, not_true_eq_false, not_false_eq_true, putS_0, x_sumOf hI, x_jarAll, x_waiting hI, x_lacking hI, x_thin hI, nowV]
  · rw [if_neg (by simp [ek])]
    refine opM_bad h (by omega) ?_
    have n0 := ok_ne ek (j := 0) (by omega) (by omega)
    have n1 := ok_ne ek (j := 1) (by omega) (by omega)
    have n2 := ok_ne ek (j := 2) (by omega) (by omega)
    have n3 := ok_ne ek (j := 3) (by omega) (by omega)
    have n4 := ok_ne ek (j := 4) (by omega) (by omega)
    have n5 := ok_ne ek (j := 5) (by omega) (by omega)
    have n6 := ok_ne ek (j := 6) (by omega) (by omega)
    simp (disch := first | omega | decide | exact nI0_01 | exact nI1_01 | exact bz_01 _) only [Option.bind_some, List.cons_append, List.nil_append, Nat.reduceAdd, Nat.reduceMul, Nat.reduceLeDiff, Nat.reduceEqDiff, ↓reduceIte, n143, u143_0, u143_1, u143_44, u143_45, u143_48, u143_49, u143_50, u143_51, u143_52, u143_53, u143_56, u143_57, u143_58, u143_61, u143_62, u143_63, u143_64, u143_67, u143_68, u143_69, u143_72, u143_73, u143_74, u143_77, u143_78, u143_79, u143_82, u143_83, u143_84, u143_86, u143_89, n0, n1, n2, n3, n4, n5, n6, if_false, x_f0]
/-! WHAT WILL BE -/
theorem M_aside {A : Gs} {w : Wd} (h : M A (putS w A)) {b : Nat} (hb : b = 47 ∨ b = 48) : M A (putS (putA w b A) A) := by
  have e : ∀ a, a ≠ b → (putS (putA w b A) A).1 a = (putS w A).1 a := fun a ha => by
    by_cases q : a = 45
    · subst q; unfold putS; rw [put_at, put_at]
    · rw [putS_ne _ _ q, putS_ne _ _ q]; exact put_ne _ _ ha
  exact h.mv (fun a h1 h2 h3 h4 => e a (by omega)) (by rw [e 44 (by omega)]) (by rw [e 44 (by omega)])
theorem fM_aside {A : Gs} {w : Wd} {b : Nat} (hb : b = 47 ∨ b = 48) : fM (putS w A) (putS (putA w b A) A) := by
  refine ⟨fun a ha => ?_, rfl⟩
  rw [putS_ne _ _ (by omega), putS_ne _ _ (by omega)]
  exact put_ne _ _ (by omega)
theorem opM_is {A' : Gs} {w w' : Wd} {f : Nat} {v : Int32} {args : List Value} (e : CALL f (.ref 44 :: args) w = some ([.int v], w')) (h : M A' w') (hf : fM w w') : opM f args (v, A') w := ⟨w', e, h, hf⟩
theorem opM_asd {A : Gs} {w : Wd} {f : Nat} {v : Int32} {args : List Value} (h : M A (putS w A)) (e : CALL f (.ref 44 :: args) (putS w A) = some ([.int v], putS (putA w 48 A) A)) : opM f args (v, A) (putS w A) := ⟨_, e, M_aside h (Or.inr rfl), fM_aside (Or.inr rfl)⟩
theorem opM_asf {A : Gs} {w : Wd} {f : Nat} {k : Nat} {args : List Value} (h : M A (putS w A)) (hk : k < 7) (e : CALL f (.ref 44 :: args) (putS w A) = some ([.int (lo k)], fndM (putS (putA w 48 A) A) k)) : opM f args (bad A k) (putS w A) := ⟨_, e, M_fnd (M_aside h (Or.inr rfl)) hk, (fM_aside (Or.inr rfl)).fd k⟩
def o_ahead (A : Gs) (x y n : Int32) : Int32 × Gs := if isW A x = true ∧ ok2 y 2 4 = true ∧ ok n 100 = true then (nI (days 0 (ix n) A (4 + ix y) (ix x)), A) else bad A 0
theorem m_ahead {A : Gs} {w : Wd} {x y n : Int32} (h : M A (putS w A)) (hI : Iv A) (hd : A 0 1 ≤ 40000) : opM 145 [.int x, .int y, .int n] (o_ahead A x y n) (putS w A) := by
  have h0 := hI.1
  unfold o_ahead
  rcases isW_case A x hI.1 with ⟨k, nk, hk, rfl, ek, ik⟩ | ek
  · try simp only [ik]
    rcases ok2_case y 2 4 (by omega) with ⟨m, hm, lm, rfl, em, im⟩ | em
    · try simp only [im]
      rcases ok_case n 100 (by omega) with ⟨j, hj, rfl, ej, ij⟩ | ej
      · try simp only [ij]
        rw [if_pos (by simp [ek, em, ej])]
        refine opM_asd h ?_
        simp (disch := first | omega | decide | exact nI0_01 | exact nI1_01 | exact bz_01 _) only [Option.bind_some, List.cons_append, List.nil_append, Nat.reduceAdd, Nat.reduceMul, Nat.reduceLeDiff, Nat.reduceEqDiff, ↓reduceIte, n145, u145_0, u145_1, u145_2, u145_5, u145_8, u145_9, u145_10, u145_13, u145_16, u145_19, u145_22, u145_23, u145_24, u145_25, u145_28, u145_31, u145_34, u145_35, u145_36, u145_37, u145_40, u145_41, u145_44, u145_47, u145_48, u145_50, u145_53, x_isWriter hI.1, xin_1, xin_2, xin_3, xin_4, xin_5, xin_6, xin_7, xin_9, xin_20, xin_40, xin_99, xin_100, xin_999, xin_9999, xin_1_60, xin_1_20, xin_1_4, xin_2_4, xin_v, ek, em, ej, bz_t, bz_f, nn_eq0, nn_eq, eq_self, not_true_eq_false, not_false_eq_true, x_at, x_thenAt hI, lay_w]
      · rw [if_neg (by simp [ej])]
        refine opM_bad h (by omega) ?_
        simp (disch := first | omega | decide | exact nI0_01 | exact nI1_01 | exact bz_01 _) only [Option.bind_some, List.cons_append, List.nil_append, Nat.reduceAdd, Nat.reduceMul, Nat.reduceLeDiff, Nat.reduceEqDiff, ↓reduceIte, n145, u145_0, u145_1, u145_2, u145_5, u145_8, u145_9, u145_10, u145_13, u145_16, u145_19, u145_22, u145_23, u145_24, u145_25, u145_28, u145_31, u145_34, u145_35, u145_36, u145_37, u145_40, u145_41, u145_44, u145_47, u145_48, u145_50, u145_53, x_isWriter hI.1, xin_1, xin_2, xin_3, xin_4, xin_5, xin_6, xin_7, xin_9, xin_20, xin_40, xin_99, xin_100, xin_999, xin_9999, xin_1_60, xin_1_20, xin_1_4, xin_2_4, xin_v, ek, em, ej, bz_t, bz_f, nn_eq0, nn_eq, eq_self, not_true_eq_false, not_false_eq_true, x_f0]
    · rw [if_neg (by simp [em])]
      refine opM_bad h (by omega) ?_
      simp (disch := first | omega | decide | exact nI0_01 | exact nI1_01 | exact bz_01 _) only [Option.bind_some, List.cons_append, List.nil_append, Nat.reduceAdd, Nat.reduceMul, Nat.reduceLeDiff, Nat.reduceEqDiff, ↓reduceIte, n145, u145_0, u145_1, u145_2, u145_5, u145_8, u145_9, u145_10, u145_13, u145_16, u145_19, u145_22, u145_23, u145_24, u145_25, u145_28, u145_31, u145_34, u145_35, u145_36, u145_37, u145_40, u145_41, u145_44, u145_47, u145_48, u145_50, u145_53, x_isWriter hI.1, xin_1, xin_2, xin_3, xin_4, xin_5, xin_6, xin_7, xin_9, xin_20, xin_40, xin_99, xin_100, xin_999, xin_9999, xin_1_60, xin_1_20, xin_1_4, xin_2_4, xin_v, ek, em, bz_t, bz_f, nn_eq0, nn_eq, eq_self, not_true_eq_false, not_false_eq_true, x_f0]
  · rw [if_neg (by simp [ek])]
    refine opM_bad h (by omega) ?_
    simp (disch := first | omega | decide | exact nI0_01 | exact nI1_01 | exact bz_01 _) only [Option.bind_some, List.cons_append, List.nil_append, Nat.reduceAdd, Nat.reduceMul, Nat.reduceLeDiff, Nat.reduceEqDiff, ↓reduceIte, n145, u145_0, u145_1, u145_2, u145_5, u145_8, u145_9, u145_10, u145_13, u145_16, u145_19, u145_22, u145_23, u145_24, u145_25, u145_28, u145_31, u145_34, u145_35, u145_36, u145_37, u145_40, u145_41, u145_44, u145_47, u145_48, u145_50, u145_53, x_isWriter hI.1, xin_1, xin_2, xin_3, xin_4, xin_5, xin_6, xin_7, xin_9, xin_20, xin_40, xin_99, xin_100, xin_999, xin_9999, xin_1_60, xin_1_20, xin_1_4, xin_2_4, xin_v, ek, bz_t, bz_f, nn_eq0, nn_eq, eq_self, not_true_eq_false, not_false_eq_true, x_f0]
def o_later (A : Gs) (x n : Int32) : Int32 × Gs := if ok x 9 = true ∧ ok n 100 = true then (nI (days 0 (ix n) A 1 (ix x)), A) else bad A 0
theorem m_later {A : Gs} {w : Wd} {x n : Int32} (h : M A (putS w A)) (hI : Iv A) (hd : A 0 1 ≤ 40000) : opM 146 [.int x, .int n] (o_later A x n) (putS w A) := by
  unfold o_later
  rcases ok_case x 9 (by omega) with ⟨k, hk, rfl, ek, ik⟩ | ek
  · try simp only [ik]
    rcases ok_case n 100 (by omega) with ⟨j, hj, rfl, ej, ij⟩ | ej
    · try simp only [ij]
      rw [if_pos (by simp [ek, ej])]
      refine opM_asd h ?_
      simp (disch := first | omega | decide | exact nI0_01 | exact nI1_01 | exact bz_01 _) only [Option.bind_some, List.cons_append, List.nil_append, Nat.reduceAdd, Nat.reduceMul, Nat.reduceLeDiff, Nat.reduceEqDiff, ↓reduceIte, n146, u146_0, u146_1, u146_4, u146_7, u146_8, u146_9, u146_10, u146_13, u146_16, u146_19, u146_20, u146_21, u146_22, u146_23, u146_24, u146_27, u146_30, u146_31, u146_33, u146_36, x_isLetter10, xin_1, xin_2, xin_3, xin_4, xin_5, xin_6, xin_7, xin_9, xin_20, xin_40, xin_99, xin_100, xin_999, xin_9999, xin_1_60, xin_1_20, xin_1_4, xin_2_4, xin_v, ek, ej, bz_t, bz_f, nn_eq0, nn_eq, eq_self, not_true_eq_false, not_false_eq_true, nI_add, x_thenAt hI, lay_1]
    · rw [if_neg (by simp [ej])]
      refine opM_bad h (by omega) ?_
      simp (disch := first | omega | decide | exact nI0_01 | exact nI1_01 | exact bz_01 _) only [Option.bind_some, List.cons_append, List.nil_append, Nat.reduceAdd, Nat.reduceMul, Nat.reduceLeDiff, Nat.reduceEqDiff, ↓reduceIte, n146, u146_0, u146_1, u146_4, u146_7, u146_8, u146_9, u146_10, u146_13, u146_16, u146_19, u146_20, u146_21, u146_22, u146_23, u146_24, u146_27, u146_30, u146_31, u146_33, u146_36, x_isLetter10, xin_1, xin_2, xin_3, xin_4, xin_5, xin_6, xin_7, xin_9, xin_20, xin_40, xin_99, xin_100, xin_999, xin_9999, xin_1_60, xin_1_20, xin_1_4, xin_2_4, xin_v, ek, ej, bz_t, bz_f, nn_eq0, nn_eq, eq_self, not_true_eq_false, not_false_eq_true, x_f0]
  · rw [if_neg (by simp [ek])]
    refine opM_bad h (by omega) ?_
    simp (disch := first | omega | decide | exact nI0_01 | exact nI1_01 | exact bz_01 _) only [Option.bind_some, List.cons_append, List.nil_append, Nat.reduceAdd, Nat.reduceMul, Nat.reduceLeDiff, Nat.reduceEqDiff, ↓reduceIte, n146, u146_0, u146_1, u146_4, u146_7, u146_8, u146_9, u146_10, u146_13, u146_16, u146_19, u146_20, u146_21, u146_22, u146_23, u146_24, u146_27, u146_30, u146_31, u146_33, u146_36, x_isLetter10, xin_1, xin_2, xin_3, xin_4, xin_5, xin_6, xin_7, xin_9, xin_20, xin_40, xin_99, xin_100, xin_999, xin_9999, xin_1_60, xin_1_20, xin_1_4, xin_2_4, xin_v, ek, bz_t, bz_f, nn_eq0, nn_eq, eq_self, not_true_eq_false, not_false_eq_true, x_f0]
/-- on which day a test first passes; 101 days on: none -/
def whn (p : Gs → Bool) : Nat → Nat → Gs → Nat
  | 0, d, _ => d
  | m + 1, d, A => if p A = true then d else whn p m (d + 1) (day 0 A)
theorem whn_le (p : Gs → Bool) : ∀ m d A, whn p m d A ≤ d + m
  | 0, _, _ => Nat.le_refl _
  | m + 1, d, A => by
    have := whn_le p m (d + 1) (day 0 A)
    unfold whn
    split <;> omega
theorem when_loop {a v : Nat} {w : Wd} (ha : a < 8) (hv : v ≤ 9999) : ∀ (m d : Nat) (A : Gs), Iv A → m + d = 101 → A 0 1 ≤ 40000 + d → ∃ A', RUN 147 40 [some (.ref 44), some (.int (nI a)), some (.int (nI v)), some (.int (nI d))] [] [] (putS w A) = RUN 147 67 [some (.ref 44), some (.int (nI a)), some (.int (nI v)), some (.int (nI (whn (fun B => decide (v ≤ B 8 a)) m d A)))] [] [] (putS w A') := by
  intro m
  induction m with
  | zero =>
    intro d A hI hm hd
    have e : d = 101 := by omega
    subst e
    refine ⟨A, ?_⟩
    rw [u147_40]
    simp (disch := first | omega | decide | exact nI0_01 | exact nI1_01 | exact bz_01 _) only [Option.bind_some, List.cons_append, List.nil_append, Nat.reduceAdd, Nat.reduceMul, Nat.reduceLeDiff, Nat.reduceEqDiff, ↓reduceIte, u147_41, u147_43, u147_46, u147_47, u147_48, u147_49, u147_52, u147_53, u147_56, u147_57, u147_58, u147_61, u147_64, nn_lt]
    rfl
  | succ m ih =>
    intro d A hI hm hd
    have h1 : ¬ 100 < d := by omega
    have hw := hI.2.2.2.2 a ha
    by_cases h2 : v ≤ A 8 a
    · refine ⟨A, ?_⟩
      rw [u147_40]
      simp (disch := first | omega | decide | exact nI0_01 | exact nI1_01 | exact bz_01 _) only [Option.bind_some, List.cons_append, List.nil_append, Nat.reduceAdd, Nat.reduceMul, Nat.reduceLeDiff, Nat.reduceEqDiff, ↓reduceIte, u147_41, u147_43, u147_46, u147_47, u147_48, u147_49, u147_52, u147_53, u147_56, u147_57, u147_58, u147_61, u147_64, nn_lt, nn_le, h1, if_false, s_its, h2, whn, decide_true]
    · obtain ⟨A', h3⟩ := ih (d + 1) (day 0 A) (hI.day 0) (by omega) (by rw [day_01]; omega)
      refine ⟨A', ?_⟩
      rw [u147_40]
      simp (disch := first | omega | decide | exact nI0_01 | exact nI1_01 | exact bz_01 _) only [Option.bind_some, List.cons_append, List.nil_append, Nat.reduceAdd, Nat.reduceMul, Nat.reduceLeDiff, Nat.reduceEqDiff, ↓reduceIte, u147_41, u147_43, u147_46, u147_47, u147_48, u147_49, u147_52, u147_53, u147_56, u147_57, u147_58, u147_61, u147_64, nn_lt, nn_le, h1, if_false, s_its, h2, whn, decide_false, Bool.false_eq_true, x_dayBut hI, nI_add]
      exact h3
def o_when (A : Gs) (x v : Int32) : Int32 × Gs := if isW A x = true ∧ ok v 9999 = true then (if whn (fun B => decide (ix v ≤ B 8 (ix x))) 101 0 A ≤ 100 then (nI (whn (fun B => decide (ix v ≤ B 8 (ix x))) 101 0 A), A) else bad A 3) else bad A 0
theorem m_when {A : Gs} {w : Wd} {x v : Int32} (h : M A (putS w A)) (hI : Iv A) (hd : A 0 1 ≤ 40000) : opM 147 [.int x, .int v] (o_when A x v) (putS w A) := by
  have h0 := hI.1
  unfold o_when
  rcases isW_case A x hI.1 with ⟨k, nk, hk, rfl, ek, ik⟩ | ek
  · try simp only [ik]
    rcases ok_case v 9999 (by omega) with ⟨m, hm, rfl, em, im⟩ | em
    · try simp only [im]
      rw [if_pos (by simp [ek, em])]
      obtain ⟨A', h1⟩ := when_loop (a := k) (v := m) (w := putA w 48 A) hk hm 101 0 A hI rfl (by omega)
      have h2 := whn_le (fun B => decide (m ≤ B 8 k)) 101 0 A
      by_cases h3 : whn (fun B => decide (m ≤ B 8 k)) 101 0 A ≤ 100
      · rw [if_pos h3]
        refine opM_asd h ?_
        have h4 : ¬ 100 < whn (fun B => decide (m ≤ B 8 k)) 101 0 A := by omega
        simp (disch := first | omega | decide | exact nI0_01 | exact nI1_01 | exact bz_01 _) only [Option.bind_some, List.cons_append, List.nil_append, Nat.reduceAdd, Nat.reduceMul, Nat.reduceLeDiff, Nat.reduceEqDiff, ↓reduceIte, u147_0, u147_1, u147_2, u147_5, u147_8, u147_9, u147_10, u147_11, u147_14, u147_17, u147_20, u147_21, u147_23, u147_26, u147_27, u147_28, u147_31, u147_32, u147_35, u147_38, u147_39, n147, x_isWriter hI.1, xin_1, xin_2, xin_3, xin_4, xin_5, xin_6, xin_7, xin_9, xin_20, xin_40, xin_99, xin_100, xin_999, xin_9999, xin_1_60, xin_1_20, xin_1_4, xin_2_4, xin_v, ek, em, bz_t, bz_f, nn_eq0, nn_eq, eq_self, not_true_eq_false, not_false_eq_true, x_aside]
        rw [h1]
        simp (disch := first | omega | decide | exact nI0_01 | exact nI1_01 | exact bz_01 _) only [Option.bind_some, List.cons_append, List.nil_append, Nat.reduceAdd, Nat.reduceMul, Nat.reduceLeDiff, Nat.reduceEqDiff, ↓reduceIte, u147_67, u147_68, u147_71, u147_72, u147_75, u147_78, u147_79, u147_81, u147_84, u147_85, u147_88, u147_89, u147_91, u147_94, x_backA, nn_lt, h4, if_false]
      · rw [if_neg h3]
        refine opM_asf h (by omega) ?_
        have h4 : 100 < whn (fun B => decide (m ≤ B 8 k)) 101 0 A := by omega
        simp (disch := first | omega | decide | exact nI0_01 | exact nI1_01 | exact bz_01 _) only [Option.bind_some, List.cons_append, List.nil_append, Nat.reduceAdd, Nat.reduceMul, Nat.reduceLeDiff, Nat.reduceEqDiff, ↓reduceIte, u147_0, u147_1, u147_2, u147_5, u147_8, u147_9, u147_10, u147_11, u147_14, u147_17, u147_20, u147_21, u147_23, u147_26, u147_27, u147_28, u147_31, u147_32, u147_35, u147_38, u147_39, n147, x_isWriter hI.1, xin_1, xin_2, xin_3, xin_4, xin_5, xin_6, xin_7, xin_9, xin_20, xin_40, xin_99, xin_100, xin_999, xin_9999, xin_1_60, xin_1_20, xin_1_4, xin_2_4, xin_v, ek, em, bz_t, bz_f, nn_eq0, nn_eq, eq_self, not_true_eq_false, not_false_eq_true, x_aside]
        rw [h1]
        simp (disch := first | omega | decide | exact nI0_01 | exact nI1_01 | exact bz_01 _) only [Option.bind_some, List.cons_append, List.nil_append, Nat.reduceAdd, Nat.reduceMul, Nat.reduceLeDiff, Nat.reduceEqDiff, ↓reduceIte, u147_67, u147_68, u147_71, u147_72, u147_75, u147_78, u147_79, u147_81, u147_84, u147_85, u147_88, u147_89, u147_91, u147_94, x_backA, nn_lt, h4, if_true, x_f3]
    · rw [if_neg (by simp [em])]
      refine opM_bad h (by omega) ?_
      simp (disch := first | omega | decide | exact nI0_01 | exact nI1_01 | exact bz_01 _) only [Option.bind_some, List.cons_append, List.nil_append, Nat.reduceAdd, Nat.reduceMul, Nat.reduceLeDiff, Nat.reduceEqDiff, ↓reduceIte, n147, u147_0, u147_1, u147_2, u147_5, u147_8, u147_9, u147_10, u147_11, u147_14, u147_17, u147_20, u147_21, u147_23, u147_26, u147_27, u147_28, u147_31, u147_32, u147_35, u147_38, u147_39, u147_41, u147_43, u147_46, u147_47, u147_48, u147_49, u147_52, u147_53, u147_56, u147_57, u147_58, u147_61, u147_64, u147_67, u147_68, u147_71, u147_72, u147_75, u147_78, u147_79, u147_81, u147_84, u147_85, u147_88, u147_89, u147_91, u147_94, x_isWriter hI.1, xin_1, xin_2, xin_3, xin_4, xin_5, xin_6, xin_7, xin_9, xin_20, xin_40, xin_99, xin_100, xin_999, xin_9999, xin_1_60, xin_1_20, xin_1_4, xin_2_4, xin_v, ek, em, bz_t, bz_f, nn_eq0, nn_eq, eq_self, not_true_eq_false, not_false_eq_true, x_f0]
  · rw [if_neg (by simp [ek])]
    refine opM_bad h (by omega) ?_
    simp (disch := first | omega | decide | exact nI0_01 | exact nI1_01 | exact bz_01 _) only [Option.bind_some, List.cons_append, List.nil_append, Nat.reduceAdd, Nat.reduceMul, Nat.reduceLeDiff, Nat.reduceEqDiff, ↓reduceIte, n147, u147_0, u147_1, u147_2, u147_5, u147_8, u147_9, u147_10, u147_11, u147_14, u147_17, u147_20, u147_21, u147_23, u147_26, u147_27, u147_28, u147_31, u147_32, u147_35, u147_38, u147_39, u147_41, u147_43, u147_46, u147_47, u147_48, u147_49, u147_52, u147_53, u147_56, u147_57, u147_58, u147_61, u147_64, u147_67, u147_68, u147_71, u147_72, u147_75, u147_78, u147_79, u147_81, u147_84, u147_85, u147_88, u147_89, u147_91, u147_94, x_isWriter hI.1, xin_1, xin_2, xin_3, xin_4, xin_5, xin_6, xin_7, xin_9, xin_20, xin_40, xin_99, xin_100, xin_999, xin_9999, xin_1_60, xin_1_20, xin_1_4, xin_2_4, xin_v, ek, bz_t, bz_f, nn_eq0, nn_eq, eq_self, not_true_eq_false, not_false_eq_true, x_f0]
