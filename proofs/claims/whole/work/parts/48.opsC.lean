theorem k_fish {A : Gs} {w : Wd} {x y v : Int32} (h : C A (putR w 1 A)) : opC 46 [.int x, .int y, .int v] (o_fish A x y v) (putR w 1 A) := by
  unfold o_fish
  rcases ok_case x 5 (by omega) with ⟨k, hk, rfl, e1, e2⟩ | e1
  · rcases ok_case y 1 (by omega) with ⟨m, hm, rfl, f1, f2⟩ | f1
    · rcases (by omega : m = 0 ∨ m = 1) with rfl | rfl
      · rcases ok_case v 999 (by omega) with ⟨n, hn, rfl, g1, g2⟩ | g1
        · rw [if_pos ⟨e1, f1, g1⟩, e2, f2, g2]
          refine opC_set h (up_r (by omega)) ?_
          simp (disch := first | omega | decide | assumption | exact nI0_01 | exact nI1_01 | exact bz_01 _ | exact rf1 | exact rf11 | exact rf21) only [Option.bind_some, List.cons_append, List.nil_append, Nat.reduceAdd, Nat.reduceMul, Nat.reduceLeDiff, Nat.reduceEqDiff, ↓reduceIte, u46_0, u46_1, u46_4, u46_7, u46_8, u46_9, u46_12, u46_15, u46_16, u46_17, u46_20, u46_23, u46_26, u46_28, u46_31, u46_34, u46_35, u46_36, u46_39, u46_40, u46_41, u46_44, u46_45, u46_48, u46_51, u46_54, u46_55, u46_58, u46_61, u46_63, u46_65, n46, c_isFish, c_within, e1, f1, g1, bz_t, bz_f, nn_eq0, nn_eq, eq_self, not_true_eq_false, not_false_eq_true]
          rw [u46_66 (o := 3) (n := 6) (by omega) (rfl : al 3 = 6) (by omega) (by omega), J_2 (by omega)]
          simp (disch := first | omega | decide | assumption | exact nI0_01 | exact nI1_01 | exact bz_01 _ | exact rf1 | exact rf11 | exact rf21) only [Option.bind_some, List.cons_append, List.nil_append, Nat.reduceAdd, Nat.reduceMul, Nat.reduceLeDiff, Nat.reduceEqDiff, ↓reduceIte, u46_67, u46_69, u46_71, u46_72]
          rw [u46_73 (o := 3) (n := 6) (by omega) (rfl : al 3 = 6) (by omega) (by omega), J_s2 (by omega)]
          simp (disch := first | omega | decide | assumption | exact nI0_01 | exact nI1_01 | exact bz_01 _ | exact rf1 | exact rf11 | exact rf21) only [Option.bind_some, List.cons_append, List.nil_append, Nat.reduceAdd, Nat.reduceMul, Nat.reduceLeDiff, Nat.reduceEqDiff, ↓reduceIte, u46_74, u46_76]
        · rw [if_neg (by rintro ⟨-, -, q⟩; rw [if_pos (by rfl)] at q; rw [g1] at q; exact absurd q (by decide))]
          refine opC_bad h (by omega) ?_
          simp (disch := first | omega | decide | assumption | exact nI0_01 | exact nI1_01 | exact bz_01 _ | exact rf1 | exact rf11 | exact rf21) only [Option.bind_some, List.cons_append, List.nil_append, Nat.reduceAdd, Nat.reduceMul, Nat.reduceLeDiff, Nat.reduceEqDiff, ↓reduceIte, n46, u46_0, u46_1, u46_4, u46_7, u46_8, u46_9, u46_12, u46_15, u46_16, u46_17, u46_20, u46_23, u46_26, u46_28, u46_31, u46_34, u46_35, u46_36, u46_39, u46_40, u46_41, u46_44, u46_45, u46_48, u46_51, u46_54, u46_55, u46_58, u46_61, u46_63, u46_65, u46_66, u46_67, u46_69, u46_71, u46_72, u46_73, u46_74, u46_76, c_isFish, c_within, e1, f1, g1, bz_t, bz_f, nn_eq0, nn_eq, eq_self, not_true_eq_false, not_false_eq_true, c_finding]
      · rcases ok_case v 20 (by omega) with ⟨n, hn, rfl, g1, g2⟩ | g1
        · rw [if_pos ⟨e1, f1, g1⟩, e2, f2, g2]
          refine opC_set h (up_r (by omega)) ?_
          simp (disch := first | omega | decide | assumption | exact nI0_01 | exact nI1_01 | exact bz_01 _ | exact rf1 | exact rf11 | exact rf21) only [Option.bind_some, List.cons_append, List.nil_append, Nat.reduceAdd, Nat.reduceMul, Nat.reduceLeDiff, Nat.reduceEqDiff, ↓reduceIte, u46_0, u46_1, u46_4, u46_7, u46_8, u46_9, u46_12, u46_15, u46_16, u46_17, u46_20, u46_23, u46_26, u46_28, u46_31, u46_34, u46_35, u46_36, u46_39, u46_40, u46_41, u46_44, u46_45, u46_48, u46_51, u46_54, u46_55, u46_58, u46_61, u46_63, u46_65, n46, c_isFish, c_within, e1, f1, g1, bz_t, bz_f, nn_eq0, nn_eq, eq_self, not_true_eq_false, not_false_eq_true]
          rw [u46_66 (o := 4) (n := 6) (by omega) (rfl : al 4 = 6) (by omega) (by omega), J_3 (by omega)]
          simp (disch := first | omega | decide | assumption | exact nI0_01 | exact nI1_01 | exact bz_01 _ | exact rf1 | exact rf11 | exact rf21) only [Option.bind_some, List.cons_append, List.nil_append, Nat.reduceAdd, Nat.reduceMul, Nat.reduceLeDiff, Nat.reduceEqDiff, ↓reduceIte, u46_67, u46_69, u46_71, u46_72]
          rw [u46_73 (o := 4) (n := 6) (by omega) (rfl : al 4 = 6) (by omega) (by omega), J_s3 (by omega)]
          simp (disch := first | omega | decide | assumption | exact nI0_01 | exact nI1_01 | exact bz_01 _ | exact rf1 | exact rf11 | exact rf21) only [Option.bind_some, List.cons_append, List.nil_append, Nat.reduceAdd, Nat.reduceMul, Nat.reduceLeDiff, Nat.reduceEqDiff, ↓reduceIte, u46_74, u46_76]
        · rw [if_neg (by rintro ⟨-, -, q⟩; rw [if_neg (by decide)] at q; rw [g1] at q; exact absurd q (by decide))]
          refine opC_bad h (by omega) ?_
          simp (disch := first | omega | decide | assumption | exact nI0_01 | exact nI1_01 | exact bz_01 _ | exact rf1 | exact rf11 | exact rf21) only [Option.bind_some, List.cons_append, List.nil_append, Nat.reduceAdd, Nat.reduceMul, Nat.reduceLeDiff, Nat.reduceEqDiff, ↓reduceIte, n46, u46_0, u46_1, u46_4, u46_7, u46_8, u46_9, u46_12, u46_15, u46_16, u46_17, u46_20, u46_23, u46_26, u46_28, u46_31, u46_34, u46_35, u46_36, u46_39, u46_40, u46_41, u46_44, u46_45, u46_48, u46_51, u46_54, u46_55, u46_58, u46_61, u46_63, u46_65, u46_66, u46_67, u46_69, u46_71, u46_72, u46_73, u46_74, u46_76, c_isFish, c_within, e1, f1, g1, bz_t, bz_f, nn_eq0, nn_eq, eq_self, not_true_eq_false, not_false_eq_true, c_finding]
    · rw [if_neg (by simp [f1])]
      refine opC_bad h (by omega) ?_
      simp (disch := first | omega | decide | assumption | exact nI0_01 | exact nI1_01 | exact bz_01 _ | exact rf1 | exact rf11 | exact rf21) only [Option.bind_some, List.cons_append, List.nil_append, Nat.reduceAdd, Nat.reduceMul, Nat.reduceLeDiff, Nat.reduceEqDiff, ↓reduceIte, n46, u46_0, u46_1, u46_4, u46_7, u46_8, u46_9, u46_12, u46_15, u46_16, u46_17, u46_20, u46_23, u46_26, u46_28, u46_31, u46_34, u46_35, u46_36, u46_39, u46_40, u46_41, u46_44, u46_45, u46_48, u46_51, u46_54, u46_55, u46_58, u46_61, u46_63, u46_65, u46_66, u46_67, u46_69, u46_71, u46_72, u46_73, u46_74, u46_76, c_isFish, c_within, e1, f1, bz_t, bz_f, nn_eq0, nn_eq, eq_self, not_true_eq_false, not_false_eq_true, c_finding]
  · rw [if_neg (by simp [e1])]
    refine opC_bad h (by omega) ?_
    simp (disch := first | omega | decide | assumption | exact nI0_01 | exact nI1_01 | exact bz_01 _ | exact rf1 | exact rf11 | exact rf21) only [Option.bind_some, List.cons_append, List.nil_append, Nat.reduceAdd, Nat.reduceMul, Nat.reduceLeDiff, Nat.reduceEqDiff, ↓reduceIte, n46, u46_0, u46_1, u46_4, u46_7, u46_8, u46_9, u46_12, u46_15, u46_16, u46_17, u46_20, u46_23, u46_26, u46_28, u46_31, u46_34, u46_35, u46_36, u46_39, u46_40, u46_41, u46_44, u46_45, u46_48, u46_51, u46_54, u46_55, u46_58, u46_61, u46_63, u46_65, u46_66, u46_67, u46_69, u46_71, u46_72, u46_73, u46_74, u46_76, c_isFish, c_within, e1, bz_t, bz_f, nn_eq0, nn_eq, eq_self, not_true_eq_false, not_false_eq_true, c_finding]
theorem c_lettersOf {b : Nat} {w : Wd} (hb : b ≤ 999) : CALL 100 [.int (nI b)] w = some ([.int (nI (ltS b))], w) := by
  have key := (ltS_int (dg b 1) (dg_lt _ _) (dg b 2) (dg_lt _ _) (dg b 3) (dg_lt _ _)).1
  simp (disch := first | omega | decide | assumption | exact nI0_01 | exact nI1_01 | exact bz_01 _ | exact rf1 | exact rf11 | exact rf21) only [Option.bind_some, List.cons_append, List.nil_append, Nat.reduceAdd, Nat.reduceMul, Nat.reduceLeDiff, Nat.reduceEqDiff, ↓reduceIte, n100, u100_0, u100_1, u100_2, u100_3, u100_6, u100_7, u100_8, u100_9, u100_10, u100_13, u100_14, u100_15, u100_16, u100_17, u100_18, u100_21, u100_22, u100_23, c_bone, key]
  rfl
theorem k_writer {A : Gs} {w : Wd} {x y : Int32} (h : C A (putR w 1 A)) (hI : Iv A) : opC 48 [.int x, .int y] (o_writer A x y) (putR w 1 A) := by
  have h0 := hI.1
  unfold o_writer
  rcases ok_case x 6 (by omega) with ⟨k, hk, rfl, ek, ik⟩ | ek
  · try simp only [ik]
    rcases ok_case y 9999 (by omega) with ⟨m, hm, rfl, em, im⟩ | em
    · try simp only [im]
      rw [if_pos (by simp [ek, em])]
      by_cases hN : A 0 0 = 8
      · rw [if_pos hN]
        refine opC_bad h (by omega) ?_
        simp (disch := first | omega | decide | assumption | exact nI0_01 | exact nI1_01 | exact bz_01 _ | exact rf1 | exact rf11 | exact rf21) only [Option.bind_some, List.cons_append, List.nil_append, Nat.reduceAdd, Nat.reduceMul, Nat.reduceLeDiff, Nat.reduceEqDiff, ↓reduceIte, n48, u48_0, u48_1, u48_4, u48_7, u48_8, u48_11, u48_14, u48_17, u48_18, u48_19, u48_22, u48_23, u48_24, u48_27, u48_30, u48_33, u48_34, u48_35, u48_38, u48_39, u48_40, u48_43, u48_44, u48_45, u48_47, u48_50, c_isKind, c_within, ek, em, bz_t, bz_f, nn_eq0, nn_eq, eq_self, not_true_eq_false, not_false_eq_true, c_isFull, hN, decide_true, c_finding]
      · rw [if_neg hN]
        refine opC_set h comes_r ?_
        have h1 : A 0 0 < 8 := by omega
        simp (disch := first | omega | decide | assumption | exact nI0_01 | exact nI1_01 | exact bz_01 _ | exact rf1 | exact rf11 | exact rf21) only [Option.bind_some, List.cons_append, List.nil_append, Nat.reduceAdd, Nat.reduceMul, Nat.reduceLeDiff, Nat.reduceEqDiff, ↓reduceIte, n48, u48_0, u48_1, u48_4, u48_7, u48_8, u48_11, u48_14, u48_17, u48_18, u48_19, u48_22, u48_23, u48_24, u48_27, u48_30, u48_33, u48_34, u48_35, u48_38, u48_39, u48_40, u48_43, u48_44, u48_45, u48_47, u48_50, c_isKind, c_within, ek, em, bz_t, bz_f, nn_eq0, nn_eq, eq_self, not_true_eq_false, not_false_eq_true, c_isFull, hN, decide_false, c_addWriter, h1]
    · rw [if_neg (by simp [em])]
      refine opC_bad h (by omega) ?_
      simp (disch := first | omega | decide | assumption | exact nI0_01 | exact nI1_01 | exact bz_01 _ | exact rf1 | exact rf11 | exact rf21) only [Option.bind_some, List.cons_append, List.nil_append, Nat.reduceAdd, Nat.reduceMul, Nat.reduceLeDiff, Nat.reduceEqDiff, ↓reduceIte, n48, u48_0, u48_1, u48_4, u48_7, u48_8, u48_11, u48_14, u48_17, u48_18, u48_19, u48_22, u48_23, u48_24, u48_27, u48_30, u48_33, u48_34, u48_35, u48_38, u48_39, u48_40, u48_43, u48_44, u48_45, u48_47, u48_50, c_isKind, c_within, ek, em, bz_t, bz_f, nn_eq0, nn_eq, eq_self, not_true_eq_false, not_false_eq_true, c_finding]
  · rw [if_neg (by simp [ek])]
    refine opC_bad h (by omega) ?_
    simp (disch := first | omega | decide | assumption | exact nI0_01 | exact nI1_01 | exact bz_01 _ | exact rf1 | exact rf11 | exact rf21) only [Option.bind_some, List.cons_append, List.nil_append, Nat.reduceAdd, Nat.reduceMul, Nat.reduceLeDiff, Nat.reduceEqDiff, ↓reduceIte, n48, u48_0, u48_1, u48_4, u48_7, u48_8, u48_11, u48_14, u48_17, u48_18, u48_19, u48_22, u48_23, u48_24, u48_27, u48_30, u48_33, u48_34, u48_35, u48_38, u48_39, u48_40, u48_43, u48_44, u48_45, u48_47, u48_50, c_isKind, c_within, ek, bz_t, bz_f, nn_eq0, nn_eq, eq_self, not_true_eq_false, not_false_eq_true, c_finding]
theorem k_of {A : Gs} {w : Wd} {x y : Int32} (h : C A (putR w 1 A)) (hI : Iv A) : opC 49 [.int x, .int y] (o_of A x y) (putR w 1 A) := by
  have h0 := hI.1
  unfold o_of
  rcases isW_case A x hI.1 with ⟨k, nk, hk, rfl, ek, ik⟩ | ek
  · try simp only [ik]
    rcases ok_case y 7 (by omega) with ⟨m, hm, rfl, em, im⟩ | em
    · try simp only [im]
      rw [if_pos (by simp [ek, em])]
      have hw := hI.2.2.2.2 k hk
      refine opC_get h ?_
      by_cases hm5 : m < 5
      · have n5 : ¬ m = 5 := by omega
        have n6 : ¬ m = 6 := by omega
        have n7 : ¬ m = 7 := by omega
        simp (disch := first | omega | decide | assumption | exact nI0_01 | exact nI1_01 | exact bz_01 _ | exact rf1 | exact rf11 | exact rf21) only [Option.bind_some, List.cons_append, List.nil_append, Nat.reduceAdd, Nat.reduceMul, Nat.reduceLeDiff, Nat.reduceEqDiff, ↓reduceIte, n49, u49_0, u49_1, u49_2, u49_5, u49_8, u49_9, u49_11, u49_14, u49_17, u49_18, u49_19, u49_22, u49_23, u49_24, u49_52, u49_53, u49_56, u49_57, u49_60, u49_61, u49_62, u49_65, u49_66, u49_69, u49_70, u49_71, u49_74, u49_75, u49_78, u49_79, u49_80, u49_83, u49_84, u49_87, u49_88, u49_89, c_isWriter hI.1, c_within, ek, em, bz_t, bz_f, nn_eq0, nn_eq, eq_self, not_true_eq_false, not_false_eq_true, n5, n6, n7, if_false, c_row, u49_88 (o := 1 + (4 + m)) (rf_lt rf1 (by omega)) (rf_al rf1 hm5), R_w, ofV]
      · rcases (by omega : m = 5 ∨ m = 6 ∨ m = 7) with rfl | rfl | rfl <;> simp (disch := first | omega | decide | assumption | exact nI0_01 | exact nI1_01 | exact bz_01 _ | exact rf1 | exact rf11 | exact rf21) only [Option.bind_some, List.cons_append, List.nil_append, Nat.reduceAdd, Nat.reduceMul, Nat.reduceLeDiff, Nat.reduceEqDiff, ↓reduceIte, n49, u49_0, u49_1, u49_2, u49_5, u49_8, u49_9, u49_11, u49_14, u49_17, u49_18, u49_19, u49_22, u49_23, u49_24, u49_52, u49_53, u49_56, u49_57, u49_60, u49_61, u49_62, u49_65, u49_66, u49_69, u49_70, u49_71, u49_74, u49_75, u49_78, u49_79, u49_80, u49_83, u49_84, u49_87, u49_88, u49_89, c_isWriter hI.1, c_within, ek, em, bz_t, bz_f, nn_eq0, nn_eq, eq_self, not_true_eq_false, not_false_eq_true, c_eats rf1 hI, c_writes rf1 hI, c_next rf1 hI, ofV]
    · rw [if_neg (by simp [em])]
      refine opC_bad h (by omega) ?_
      simp (disch := first | omega | decide | assumption | exact nI0_01 | exact nI1_01 | exact bz_01 _ | exact rf1 | exact rf11 | exact rf21) only [Option.bind_some, List.cons_append, List.nil_append, Nat.reduceAdd, Nat.reduceMul, Nat.reduceLeDiff, Nat.reduceEqDiff, ↓reduceIte, n49, u49_0, u49_1, u49_2, u49_5, u49_8, u49_9, u49_11, u49_14, u49_17, u49_18, u49_19, u49_22, u49_23, u49_24, u49_52, u49_53, u49_56, u49_57, u49_60, u49_61, u49_62, u49_65, u49_66, u49_69, u49_70, u49_71, u49_74, u49_75, u49_78, u49_79, u49_80, u49_83, u49_84, u49_87, u49_88, u49_89, c_isWriter hI.1, c_within, ek, em, bz_t, bz_f, nn_eq0, nn_eq, eq_self, not_true_eq_false, not_false_eq_true, c_finding]
  · rw [if_neg (by simp [ek])]
    refine opC_bad h (by omega) ?_
    simp (disch := first | omega | decide | assumption | exact nI0_01 | exact nI1_01 | exact bz_01 _ | exact rf1 | exact rf11 | exact rf21) only [Option.bind_some, List.cons_append, List.nil_append, Nat.reduceAdd, Nat.reduceMul, Nat.reduceLeDiff, Nat.reduceEqDiff, ↓reduceIte, n49, u49_0, u49_1, u49_2, u49_5, u49_8, u49_9, u49_11, u49_14, u49_17, u49_18, u49_19, u49_22, u49_23, u49_24, u49_52, u49_53, u49_56, u49_57, u49_60, u49_61, u49_62, u49_65, u49_66, u49_69, u49_70, u49_71, u49_74, u49_75, u49_78, u49_79, u49_80, u49_83, u49_84, u49_87, u49_88, u49_89, c_isWriter hI.1, c_within, ek, bz_t, bz_f, nn_eq0, nn_eq, eq_self, not_true_eq_false, not_false_eq_true, c_finding]
theorem k_change {A : Gs} {w : Wd} {x y v : Int32} (h : C A (putR w 1 A)) (hI : Iv A) : opC 50 [.int x, .int y, .int v] (o_change A x y v) (putR w 1 A) := by
  have h0 := hI.1
  have hm0 := mst_lt
  unfold o_change
  rcases isW_case A x hI.1 with ⟨k, nk, hk, rfl, ek, ik⟩ | ek
  · rw [ik]
    rcases ok_case y 4 (by omega) with ⟨m, hm, rfl, em, im⟩ | em
    · rw [im]
      have hb := mst_lt m
      have hm5 : m < 5 := by omega
      have hs : sv 55 m = nI (mst m) := by rcases (by omega : m = 0 ∨ m = 1 ∨ m = 2 ∨ m = 3 ∨ m = 4) with rfl | rfl | rfl | rfl | rfl <;> rfl
      rcases ok_case v (mst m) hb with ⟨n, hn, rfl, en, jn⟩ | en
      · rw [jn, if_pos (by simp [ek, em, en])]
        refine opC_set h (up_r (by omega)) ?_
        simp (disch := first | omega | decide | assumption | exact nI0_01 | exact nI1_01 | exact bz_01 _ | exact rf1 | exact rf11 | exact rf21) only [Option.bind_some, List.cons_append, List.nil_append, Nat.reduceAdd, Nat.reduceMul, Nat.reduceLeDiff, Nat.reduceEqDiff, ↓reduceIte, n50, u50_0, u50_1, u50_2, u50_5, u50_8, u50_9, u50_10, u50_13, u50_16, u50_17, u50_20, u50_21, u50_22, u50_25, u50_28, u50_29, u50_30, u50_33, u50_34, u50_35, u50_38, u50_39, u50_42, u50_44, u50_46, u50_47, u50_48, u50_50, u50_52, u50_53, u50_54, u50_55, u50_57, c_isWriter hI.1, c_within, ek, em, en, hs, bz_t, bz_f, nn_eq0, nn_eq, eq_self, not_true_eq_false, not_false_eq_true, c_row, u50_47 (o := 1 + (4 + m)) (rf_lt rf1 (by omega)) (rf_al rf1 hm5), u50_54 (o := 1 + (4 + m)) (rf_lt rf1 (by omega)) (rf_al rf1 hm5), R_w, R_sw]
      · rw [if_neg (by simp [en])]
        refine opC_bad h (by omega) ?_
        simp (disch := first | omega | decide | assumption | exact nI0_01 | exact nI1_01 | exact bz_01 _ | exact rf1 | exact rf11 | exact rf21) only [Option.bind_some, List.cons_append, List.nil_append, Nat.reduceAdd, Nat.reduceMul, Nat.reduceLeDiff, Nat.reduceEqDiff, ↓reduceIte, n50, u50_0, u50_1, u50_2, u50_5, u50_8, u50_9, u50_10, u50_13, u50_16, u50_17, u50_20, u50_21, u50_22, u50_25, u50_28, u50_29, u50_30, u50_33, u50_34, u50_35, u50_38, u50_39, u50_42, u50_44, u50_46, u50_47, u50_48, u50_50, u50_52, u50_53, u50_54, u50_55, u50_57, c_isWriter hI.1, c_within, ek, em, en, hs, bz_t, bz_f, nn_eq0, nn_eq, eq_self, not_true_eq_false, not_false_eq_true, c_finding]
    · rw [if_neg (by simp [em])]
      refine opC_bad h (by omega) ?_
      simp (disch := first | omega | decide | assumption | exact nI0_01 | exact nI1_01 | exact bz_01 _ | exact rf1 | exact rf11 | exact rf21) only [Option.bind_some, List.cons_append, List.nil_append, Nat.reduceAdd, Nat.reduceMul, Nat.reduceLeDiff, Nat.reduceEqDiff, ↓reduceIte, n50, u50_0, u50_1, u50_2, u50_5, u50_8, u50_9, u50_10, u50_13, u50_16, u50_17, u50_20, u50_21, u50_22, u50_25, u50_28, u50_29, u50_30, u50_33, u50_34, u50_35, u50_38, u50_39, u50_42, u50_44, u50_46, u50_47, u50_48, u50_50, u50_52, u50_53, u50_54, u50_55, u50_57, c_isWriter hI.1, c_within, ek, em, bz_t, bz_f, nn_eq0, nn_eq, eq_self, not_true_eq_false, not_false_eq_true, c_finding]
  · rw [if_neg (by simp [ek])]
    refine opC_bad h (by omega) ?_
    simp (disch := first | omega | decide | assumption | exact nI0_01 | exact nI1_01 | exact bz_01 _ | exact rf1 | exact rf11 | exact rf21) only [Option.bind_some, List.cons_append, List.nil_append, Nat.reduceAdd, Nat.reduceMul, Nat.reduceLeDiff, Nat.reduceEqDiff, ↓reduceIte, n50, u50_0, u50_1, u50_2, u50_5, u50_8, u50_9, u50_10, u50_13, u50_16, u50_17, u50_20, u50_21, u50_22, u50_25, u50_28, u50_29, u50_30, u50_33, u50_34, u50_35, u50_38, u50_39, u50_42, u50_44, u50_46, u50_47, u50_48, u50_50, u50_52, u50_53, u50_54, u50_55, u50_57, c_isWriter hI.1, c_within, ek, bz_t, bz_f, nn_eq0, nn_eq, eq_self, not_true_eq_false, not_false_eq_true, c_finding]
theorem ck_loop {a f : Nat} {w : Wd} {A : Gs} (hI : Iv A) (ha : a < 8) (hf : f < 6) : ∀ (m p : Nat) (s : Int32) (x5 : Option Value), m + p = 3 → RUN 51 26 [some (.ref 0), some (.int (nI a)), some (.int (nI f)), some (.int s), some (.int (nI p)), x5] [] [] (putR w 1 A) = some ([.int (kpS (A 4 a) (A 2 f) m p s)], putR w 1 A) := by
  have hw := hI.2.2.2.2 a ha
  have hb := hI.2.2.1 f hf
  intro m
  induction m with
  | zero =>
    intro p s x5 hm
    have e : p = 3 := by omega
    subst e
    rw [u51_26]
    simp (disch := first | omega | decide | assumption | exact nI0_01 | exact nI1_01 | exact bz_01 _ | exact rf1 | exact rf11 | exact rf21) only [Option.bind_some, List.cons_append, List.nil_append, Nat.reduceAdd, Nat.reduceMul, Nat.reduceLeDiff, Nat.reduceEqDiff, ↓reduceIte, n51, u51_0, u51_1, u51_2, u51_5, u51_8, u51_9, u51_12, u51_15, u51_16, u51_17, u51_20, u51_21, u51_22, u51_23, u51_24, u51_28, u51_29, u51_32, u51_33, u51_36, u51_39, u51_40, u51_41, u51_43, u51_46, u51_48, u51_49, u51_52, u51_55, u51_56, u51_57, u51_59, u51_61, u51_64, u51_67, u51_68, u51_69, u51_71, u51_72, u51_73, u51_74, u51_77, u51_80, u51_81, nn_le, Nat.le_refl]
    rfl
  | succ m ih =>
    intro p s x5 hm
    have h1 : ¬ 3 ≤ p := by omega
    have hl := dg_lt (A 2 f) (p + 1)
    rw [u51_26, kpS]
    cases h2 : kp (A 4 a) p (dg (A 2 f) (p + 1)) with
    | true =>
      simp (disch := first | omega | decide | assumption | exact nI0_01 | exact nI1_01 | exact bz_01 _ | exact rf1 | exact rf11 | exact rf21) only [Option.bind_some, List.cons_append, List.nil_append, Nat.reduceAdd, Nat.reduceMul, Nat.reduceLeDiff, Nat.reduceEqDiff, ↓reduceIte, n51, u51_0, u51_1, u51_2, u51_5, u51_8, u51_9, u51_12, u51_15, u51_16, u51_17, u51_20, u51_21, u51_22, u51_23, u51_24, u51_28, u51_29, u51_32, u51_33, u51_36, u51_39, u51_40, u51_41, u51_43, u51_46, u51_48, u51_49, u51_52, u51_55, u51_56, u51_57, u51_59, u51_61, u51_64, u51_67, u51_68, u51_69, u51_71, u51_72, u51_73, u51_74, u51_77, u51_80, u51_81, nn_le, h1, if_false, nI_add, J_2, c_bone, J_4, c_isKept, h2, bz_t, bz_f, nn_eq0, nn_eq, eq_self, not_true_eq_false, not_false_eq_true]
      exact ih (p + 1) _ _ (by omega)
    | false =>
      simp (disch := first | omega | decide | assumption | exact nI0_01 | exact nI1_01 | exact bz_01 _ | exact rf1 | exact rf11 | exact rf21) only [Option.bind_some, List.cons_append, List.nil_append, Nat.reduceAdd, Nat.reduceMul, Nat.reduceLeDiff, Nat.reduceEqDiff, ↓reduceIte, n51, u51_0, u51_1, u51_2, u51_5, u51_8, u51_9, u51_12, u51_15, u51_16, u51_17, u51_20, u51_21, u51_22, u51_23, u51_24, u51_28, u51_29, u51_32, u51_33, u51_36, u51_39, u51_40, u51_41, u51_43, u51_46, u51_48, u51_49, u51_52, u51_55, u51_56, u51_57, u51_59, u51_61, u51_64, u51_67, u51_68, u51_69, u51_71, u51_72, u51_73, u51_74, u51_77, u51_80, u51_81, nn_le, h1, if_false, nI_add, J_2, c_bone, J_4, c_isKept, h2, bz_t, bz_f, nn_eq0, nn_eq, eq_self, not_true_eq_false, not_false_eq_true, Bool.false_eq_true]
      exact ih (p + 1) _ _ (by omega)
theorem k_keeps {A : Gs} {w : Wd} {x y : Int32} (h : C A (putR w 1 A)) (hI : Iv A) : opC 51 [.int x, .int y] (o_keeps A x y) (putR w 1 A) := by
  have h0 := hI.1
  unfold o_keeps
  rcases isW_case A x hI.1 with ⟨k, nk, hk, rfl, ek, ik⟩ | ek
  · try simp only [ik]
    rcases ok_case y 5 (by omega) with ⟨m, hm, rfl, em, im⟩ | em
    · try simp only [im]
      rw [if_pos (by simp [ek, em])]
      refine opC_get h ?_
      simp (disch := first | omega | decide | assumption | exact nI0_01 | exact nI1_01 | exact bz_01 _ | exact rf1 | exact rf11 | exact rf21) only [Option.bind_some, List.cons_append, List.nil_append, Nat.reduceAdd, Nat.reduceMul, Nat.reduceLeDiff, Nat.reduceEqDiff, ↓reduceIte, u51_0, u51_1, u51_2, u51_5, u51_8, u51_9, u51_12, u51_15, u51_16, u51_17, u51_20, u51_21, u51_22, u51_23, u51_24, n51, c_isWriter hI.1, c_isFish, ek, em, bz_t, bz_f, nn_eq0, nn_eq, eq_self, not_true_eq_false, not_false_eq_true]
      exact ck_loop hI hk (by omega) 3 0 (nI 0) none rfl
    · rw [if_neg (by simp [em])]
      refine opC_bad h (by omega) ?_
      simp (disch := first | omega | decide | assumption | exact nI0_01 | exact nI1_01 | exact bz_01 _ | exact rf1 | exact rf11 | exact rf21) only [Option.bind_some, List.cons_append, List.nil_append, Nat.reduceAdd, Nat.reduceMul, Nat.reduceLeDiff, Nat.reduceEqDiff, ↓reduceIte, n51, u51_0, u51_1, u51_2, u51_5, u51_8, u51_9, u51_12, u51_15, u51_16, u51_17, u51_20, u51_21, u51_22, u51_23, u51_24, u51_28, u51_29, u51_32, u51_33, u51_36, u51_39, u51_40, u51_41, u51_43, u51_46, u51_48, u51_49, u51_52, u51_55, u51_56, u51_57, u51_59, u51_61, u51_64, u51_67, u51_68, u51_69, u51_71, u51_72, u51_73, u51_74, u51_77, u51_80, u51_81, c_isWriter hI.1, c_isFish, ek, em, bz_t, bz_f, nn_eq0, nn_eq, eq_self, not_true_eq_false, not_false_eq_true, c_finding]
  · rw [if_neg (by simp [ek])]
    refine opC_bad h (by omega) ?_
    simp (disch := first | omega | decide | assumption | exact nI0_01 | exact nI1_01 | exact bz_01 _ | exact rf1 | exact rf11 | exact rf21) only [Option.bind_some, List.cons_append, List.nil_append, Nat.reduceAdd, Nat.reduceMul, Nat.reduceLeDiff, Nat.reduceEqDiff, ↓reduceIte, n51, u51_0, u51_1, u51_2, u51_5, u51_8, u51_9, u51_12, u51_15, u51_16, u51_17, u51_20, u51_21, u51_22, u51_23, u51_24, u51_28, u51_29, u51_32, u51_33, u51_36, u51_39, u51_40, u51_41, u51_43, u51_46, u51_48, u51_49, u51_52, u51_55, u51_56, u51_57, u51_59, u51_61, u51_64, u51_67, u51_68, u51_69, u51_71, u51_72, u51_73, u51_74, u51_77, u51_80, u51_81, c_isWriter hI.1, c_isFish, ek, bz_t, bz_f, nn_eq0, nn_eq, eq_self, not_true_eq_false, not_false_eq_true, c_finding]
theorem ho_loop {v d : Nat} {w : Wd} (hv : v < 10000) (hd : d < 10) : ∀ (m q s : Nat), m + q = 4 → RUN 101 4 [some (.int (nI d)), some (.int (nI v)), some (.int (nI s)), some (.int (nI q))] [] [] w = some ([.int (nI (s + hw v d m q))], w) := by
  intro m
  induction m with
  | zero =>
    intro q s hm
    have e : q = 4 := by omega
    subst e
    rw [u101_4]
    simp (disch := first | omega | decide | assumption | exact nI0_01 | exact nI1_01 | exact bz_01 _ | exact rf1 | exact rf11 | exact rf21) only [Option.bind_some, List.cons_append, List.nil_append, Nat.reduceAdd, Nat.reduceMul, Nat.reduceLeDiff, Nat.reduceEqDiff, ↓reduceIte, n101, u101_0, u101_1, u101_2, u101_3, u101_5, u101_6, u101_9, u101_10, u101_11, u101_14, u101_15, u101_18, u101_21, u101_24, u101_27, u101_28, nn_le, Nat.le_refl]
    rfl
  | succ m ih =>
    intro q s hm
    have h1 : ¬ 4 ≤ q := by omega
    have hl := dg_lt v q
    rw [u101_4]
    by_cases h2 : dg v q = d
    · simp (disch := first | omega | decide | assumption | exact nI0_01 | exact nI1_01 | exact bz_01 _ | exact rf1 | exact rf11 | exact rf21) only [Option.bind_some, List.cons_append, List.nil_append, Nat.reduceAdd, Nat.reduceMul, Nat.reduceLeDiff, Nat.reduceEqDiff, ↓reduceIte, n101, u101_0, u101_1, u101_2, u101_3, u101_5, u101_6, u101_9, u101_10, u101_11, u101_14, u101_15, u101_18, u101_21, u101_24, u101_27, u101_28, nn_le, h1, if_false, c_digit, nn_eq, h2, not_true_eq_false, nI_add]
      rw [ih (q + 1) (s + 1) (by omega), hw, if_pos h2, Nat.add_assoc]
    · simp (disch := first | omega | decide | assumption | exact nI0_01 | exact nI1_01 | exact bz_01 _ | exact rf1 | exact rf11 | exact rf21) only [Option.bind_some, List.cons_append, List.nil_append, Nat.reduceAdd, Nat.reduceMul, Nat.reduceLeDiff, Nat.reduceEqDiff, ↓reduceIte, n101, u101_0, u101_1, u101_2, u101_3, u101_5, u101_6, u101_9, u101_10, u101_11, u101_14, u101_15, u101_18, u101_21, u101_24, u101_27, u101_28, nn_le, h1, if_false, c_digit, nn_eq, h2, not_false_eq_true, if_true, nI_add]
      rw [ih (q + 1) s (by omega), hw, if_neg h2, Nat.zero_add]
theorem c_howOften {v d : Nat} {w : Wd} (hv : v < 10000) (hd : d < 10) : CALL 101 [.int (nI d), .int (nI v)] w = some ([.int (nI (hw v d 4 0))], w) := by
  simp (disch := first | omega | decide | assumption | exact nI0_01 | exact nI1_01 | exact bz_01 _ | exact rf1 | exact rf11 | exact rf21) only [Option.bind_some, List.cons_append, List.nil_append, Nat.reduceAdd, Nat.reduceMul, Nat.reduceLeDiff, Nat.reduceEqDiff, ↓reduceIte, n101, u101_0, u101_1, u101_2, u101_3, u101_5, u101_6, u101_9, u101_10, u101_11, u101_14, u101_15, u101_18, u101_21, u101_24, u101_27, u101_28]
  rw [ho_loop hv hd 4 0 0 rfl, Nat.zero_add]
theorem sp_loop {v : Nat} {w : Wd} {A : Gs} (hI : Iv A) (hv : v < 10000) : ∀ (m p b : Nat) (x4 : Option Value), m + p = 4 → b ≤ 999 → RUN 52 22 [some (.ref 0), some (.int (nI v)), some (.int (nI b)), some (.int (nI p)), x4] [] [] (putR w 1 A) = some ([.int (nI (spl A v m p b))], putR w 1 A) := by
  intro m
  induction m with
  | zero =>
    intro p b x4 hm hb
    have e : p = 4 := by omega
    subst e
    rw [u52_22]
    simp (disch := first | omega | decide | assumption | exact nI0_01 | exact nI1_01 | exact bz_01 _ | exact rf1 | exact rf11 | exact rf21) only [Option.bind_some, List.cons_append, List.nil_append, Nat.reduceAdd, Nat.reduceMul, Nat.reduceLeDiff, Nat.reduceEqDiff, ↓reduceIte, n52, u52_0, u52_1, u52_4, u52_7, u52_10, u52_11, u52_12, u52_15, u52_16, u52_19, u52_20, u52_21, u52_23, u52_24, u52_27, u52_28, u52_29, u52_32, u52_34, u52_35, u52_36, u52_39, u52_42, u52_44, u52_45, u52_46, u52_48, u52_49, u52_52, u52_55, u52_56, u52_59, u52_60, u52_63, u52_66, u52_67, nn_le, Nat.le_refl]
    rfl
  | succ m ih =>
    intro p b x4 hm hb
    have h1 : ¬ 4 ≤ p := by omega
    have hl := dg_lt v p
    have hj := hI.2.1 _ hl
    have hq := hw_pos v (p := p) (by omega)
    have hq2 := hw_le v (dg v p) 4 0
    have hq3 : A 1 (dg v p) / hw v (dg v p) 4 0 ≤ A 1 (dg v p) := Nat.div_le_self _ _
    have hmx : max 1 (hw v (dg v p) 4 0) = hw v (dg v p) 4 0 := by omega
    have h0 : ¬ nI (hw v (dg v p) 4 0) = 0 := by rw [nn_eq0 (by omega)]; omega
    rw [u52_22]
    simp (disch := first | omega | decide | assumption | exact nI0_01 | exact nI1_01 | exact bz_01 _ | exact rf1 | exact rf11 | exact rf21) only [Option.bind_some, List.cons_append, List.nil_append, Nat.reduceAdd, Nat.reduceMul, Nat.reduceLeDiff, Nat.reduceEqDiff, ↓reduceIte, n52, u52_0, u52_1, u52_4, u52_7, u52_10, u52_11, u52_12, u52_15, u52_16, u52_19, u52_20, u52_21, u52_23, u52_24, u52_27, u52_28, u52_29, u52_32, u52_34, u52_35, u52_36, u52_39, u52_42, u52_44, u52_45, u52_46, u52_48, u52_49, u52_52, u52_55, u52_56, u52_59, u52_60, u52_63, u52_66, u52_67, nn_le, h1, if_false, c_digit, c_howOften, n_max', hmx, nI_add, J_1, h0, not_false_eq_true, pk_div, n_min']
    exact ih (p + 1) _ _ (by omega) (by omega)
theorem k_spells {A : Gs} {w : Wd} {x : Int32} (h : C A (putR w 1 A)) (hI : Iv A) : opC 52 [.int x] (o_spells A x) (putR w 1 A) := by
  unfold o_spells
  rcases ok_case x 9999 (by omega) with ⟨k, hk, rfl, ek, ik⟩ | ek
  · try simp only [ik]
    rw [if_pos (by simp [ek])]
    refine opC_get h ?_
    simp (disch := first | omega | decide | assumption | exact nI0_01 | exact nI1_01 | exact bz_01 _ | exact rf1 | exact rf11 | exact rf21) only [Option.bind_some, List.cons_append, List.nil_append, Nat.reduceAdd, Nat.reduceMul, Nat.reduceLeDiff, Nat.reduceEqDiff, ↓reduceIte, u52_0, u52_1, u52_4, u52_7, u52_10, u52_11, u52_12, u52_15, u52_16, u52_19, u52_20, u52_21, n52, c_within, ek, bz_t, bz_f, nn_eq0, nn_eq, eq_self, not_true_eq_false, not_false_eq_true]
    exact sp_loop hI (by omega) 4 0 999 none rfl (by omega)
  · rw [if_neg (by simp [ek])]
    refine opC_bad h (by omega) ?_
    simp (disch := first | omega | decide | assumption | exact nI0_01 | exact nI1_01 | exact bz_01 _ | exact rf1 | exact rf11 | exact rf21) only [Option.bind_some, List.cons_append, List.nil_append, Nat.reduceAdd, Nat.reduceMul, Nat.reduceLeDiff, Nat.reduceEqDiff, ↓reduceIte, n52, u52_0, u52_1, u52_4, u52_7, u52_10, u52_11, u52_12, u52_15, u52_16, u52_19, u52_20, u52_21, u52_23, u52_24, u52_27, u52_28, u52_29, u52_32, u52_34, u52_35, u52_36, u52_39, u52_42, u52_44, u52_45, u52_46, u52_48, u52_49, u52_52, u52_55, u52_56, u52_59, u52_60, u52_63, u52_66, u52_67, c_within, ek, bz_t, bz_f, nn_eq0, nn_eq, eq_self, not_true_eq_false, not_false_eq_true, c_finding]
theorem go_guard {x : Int32} (h : ok2 x 1 60 = false) : x < nI 1 ∨ ¬ x < nI 1 ∧ nI 60 < x := by
  unfold ok2 at h
  have h2 := of_decide_eq_false h
  by_cases q : x < nI 1
  · exact Or.inl q
  · right
    refine ⟨q, ?_⟩
    rw [lt_nI (by omega)] at q
    rw [gt_nI (by omega)]
    omega
theorem k_go {A : Gs} {w : Wd} {x : Int32} (h : C A (putR w 1 A)) (hI : Iv A) (hd : A 0 1 ≤ 40000) : opC 53 [.int x] (o_go A x) (putR w 1 A) := by
  unfold o_go
  rcases ok2_case x 1 60 (by omega) with ⟨k, hk, lk, rfl, ek, ik⟩ | ek
  · rw [if_pos ek, ik]
    refine opC_set h (days_r k A) ?_
    have h1 : ¬ k < 1 := by omega
    have h2 : ¬ 60 < k := by omega
    have h3 : A 0 1 ≤ 99999 - k := by omega
    have h4 : ¬ 99999 - k < A 0 1 := by omega
    simp (disch := first | omega | decide | assumption | exact nI0_01 | exact nI1_01 | exact bz_01 _ | exact rf1 | exact rf11 | exact rf21) only [Option.bind_some, List.cons_append, List.nil_append, Nat.reduceAdd, Nat.reduceMul, Nat.reduceLeDiff, Nat.reduceEqDiff, ↓reduceIte, n53, u53_0, u53_1, u53_2, u53_5, u53_6, u53_8, u53_11, u53_12, u53_13, u53_16, u53_17, u53_18, u53_21, u53_24, u53_26, u53_27, u53_28, u53_31, u53_32, u53_33, u53_36, u53_37, u53_38, u53_41, u53_42, u53_43, u53_46, u53_47, u53_50, u53_51, u53_54, nn_lt, nn_le, h1, h2, lk, h3, h4, if_true, if_false, R_10, nn_sub, c_passDays rf1 hI, c_sumOf rf1 (Iv.days 0 k hI), days_0]
  · rw [if_neg (by simp [ek])]
    refine opC_bad h (by omega) ?_
    rcases go_guard ek with q | ⟨q, q2⟩
    · simp (disch := first | omega | decide | assumption | exact nI0_01 | exact nI1_01 | exact bz_01 _ | exact rf1 | exact rf11 | exact rf21) only [Option.bind_some, List.cons_append, List.nil_append, Nat.reduceAdd, Nat.reduceMul, Nat.reduceLeDiff, Nat.reduceEqDiff, ↓reduceIte, n53, u53_0, u53_1, u53_2, u53_5, u53_6, u53_8, u53_11, u53_12, u53_13, u53_16, u53_17, u53_18, u53_21, u53_24, u53_26, u53_27, u53_28, u53_31, u53_32, u53_33, u53_36, u53_37, u53_38, u53_41, u53_42, u53_43, u53_46, u53_47, u53_50, u53_51, u53_54, q, if_true, c_finding]
    · have q3 : ¬ x ≤ nI 60 := Int32.not_le.mpr q2
      simp (disch := first | omega | decide | assumption | exact nI0_01 | exact nI1_01 | exact bz_01 _ | exact rf1 | exact rf11 | exact rf21) only [Option.bind_some, List.cons_append, List.nil_append, Nat.reduceAdd, Nat.reduceMul, Nat.reduceLeDiff, Nat.reduceEqDiff, ↓reduceIte, n53, u53_0, u53_1, u53_2, u53_5, u53_6, u53_8, u53_11, u53_12, u53_13, u53_16, u53_17, u53_18, u53_21, u53_24, u53_26, u53_27, u53_28, u53_31, u53_32, u53_33, u53_36, u53_37, u53_38, u53_41, u53_42, u53_43, u53_46, u53_47, u53_50, u53_51, u53_54, q, q2, q3, if_true, if_false, c_finding]
theorem k_now {A : Gs} {w : Wd} {x : Int32} (h : C A (putR w 1 A)) (hI : Iv A) : opC 54 [.int x] (o_now A x) (putR w 1 A) := by
  unfold o_now
  rcases ok_case x 6 (by omega) with ⟨k, hk, rfl, ek, ik⟩ | ek
  · rw [if_pos ek, ik]
    refine opC_get h ?_
    rcases (by omega : k = 0 ∨ k = 1 ∨ k = 2 ∨ k = 3 ∨ k = 4 ∨ k = 5 ∨ k = 6) with rfl | rfl | rfl | rfl | rfl | rfl | rfl <;> simp (disch := first | omega | decide | assumption | exact nI0_01 | exact nI1_01 | exact bz_01 _ | exact rf1 | exact rf11 | exact rf21) only [Option.bind_some, List.cons_append, List.nil_append, Nat.reduceAdd, Nat.reduceMul, Nat.reduceLeDiff, Nat.reduceEqDiff, ↓reduceIte, n54, u54_0, u54_1, u54_44, u54_45, u54_48, u54_51, u54_52, u54_53, u54_56, u54_57, u54_60, u54_61, u54_62, u54_65, u54_68, u54_69, u54_70, u54_73, u54_74, u54_77, u54_78, u54_79, u54_82, u54_85, u54_86, u54_87, u54_90, u54_93, u54_94, u54_95, u54_98, u54_101, u54_102, u54_103, u54_104, u54_107, bz_t, bz_f, nn_eq0, nn_eq, eq_self, not_true_eq_false, not_false_eq_true, R_10, c_sumOf rf1 hI, c_lettersInJar rf1, c_writersWhoWait rf1 hI, c_lettersLacking rf1 hI, c_writersWhoStarve rf1 hI, nowV]
  · rw [if_neg (by simp [ek])]
    refine opC_bad h (by omega) ?_
    have n0 := ok_ne ek (j := 0) (by omega) (by omega)
    have n1 := ok_ne ek (j := 1) (by omega) (by omega)
    have n2 := ok_ne ek (j := 2) (by omega) (by omega)
    have n3 := ok_ne ek (j := 3) (by omega) (by omega)
    have n4 := ok_ne ek (j := 4) (by omega) (by omega)
    have n5 := ok_ne ek (j := 5) (by omega) (by omega)
    have n6 := ok_ne ek (j := 6) (by omega) (by omega)
    simp (disch := first | omega | decide | assumption | exact nI0_01 | exact nI1_01 | exact bz_01 _ | exact rf1 | exact rf11 | exact rf21) only [Option.bind_some, List.cons_append, List.nil_append, Nat.reduceAdd, Nat.reduceMul, Nat.reduceLeDiff, Nat.reduceEqDiff, ↓reduceIte, n54, u54_0, u54_1, u54_44, u54_45, u54_48, u54_51, u54_52, u54_53, u54_56, u54_57, u54_60, u54_61, u54_62, u54_65, u54_68, u54_69, u54_70, u54_73, u54_74, u54_77, u54_78, u54_79, u54_82, u54_85, u54_86, u54_87, u54_90, u54_93, u54_94, u54_95, u54_98, u54_101, u54_102, u54_103, u54_104, u54_107, n0, n1, n2, n3, n4, n5, n6, if_false, c_finding]
