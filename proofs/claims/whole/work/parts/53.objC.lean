/-! OBJECTS OF THE COMPONENT -/
theorem k_seed {A : Gs} {w : Wd} {x : Int32} (h : C A (putR w 1 A)) : opC 76 [.int x] (o_seed A x) (putR w 1 A) := by
  refine opC_set h (up_r (by omega)) ?_
  have e := R_s11 (w := w) (o := 1) (G := A) (v := un x)
  rw [nI_un] at e
  simp (disch := first | omega | decide | assumption | exact nI0_01 | exact nI1_01 | exact bz_01 _ | exact rf1 | exact rf11 | exact rf21) only [Option.bind_some, List.cons_append, List.nil_append, Nat.reduceAdd, Nat.reduceMul, Nat.reduceLeDiff, Nat.reduceEqDiff, ↓reduceIte, n76, u76_0, u76_1, u76_4, u76_7, u76_8, u76_9, u76_12, u76_13, u76_16, u76_17, R_11, e]
theorem k_hold {A : Gs} {w : Wd} {x y : Int32} (h : C A (putR w 1 A)) (hI : Iv A) : opC 80 [.int x, .int y] (o_hold A x y) (putR w 1 A) := by
  unfold o_hold
  rcases ok_case x 9 (by omega) with ⟨k, hk, rfl, ek, ik⟩ | ek
  · have e := J_s9 (w := w) (G := A) (k := k) (v := un y) (by omega)
    rw [nI_un] at e
    by_cases h1 : y = -1
    · rw [if_pos ⟨ek, Or.inl h1⟩, ik]
      refine opC_set h (up_r (by omega)) ?_
      subst h1
      simp (disch := first | omega | decide | assumption | exact nI0_01 | exact nI1_01 | exact bz_01 _ | exact rf1 | exact rf11 | exact rf21) only [Option.bind_some, List.cons_append, List.nil_append, Nat.reduceAdd, Nat.reduceMul, Nat.reduceLeDiff, Nat.reduceEqDiff, ↓reduceIte, n80, u80_0, u80_1, u80_3, u80_6, u80_9, u80_10, u80_11, u80_14, u80_15, u80_16, u80_19, u80_22, u80_23, u80_24, u80_27, u80_28, u80_29, u80_32, u80_35, u80_36, u80_37, u80_38, u80_39, c_within, ek, bz_t, bz_f, nn_eq0, nn_eq, eq_self, not_true_eq_false, not_false_eq_true, e]
    · cases h2 : isW A y with
      | true =>
        rw [if_pos ⟨ek, Or.inr rfl⟩, ik]
        refine opC_set h (up_r (by omega)) ?_
        simp (disch := first | omega | decide | assumption | exact nI0_01 | exact nI1_01 | exact bz_01 _ | exact rf1 | exact rf11 | exact rf21) only [Option.bind_some, List.cons_append, List.nil_append, Nat.reduceAdd, Nat.reduceMul, Nat.reduceLeDiff, Nat.reduceEqDiff, ↓reduceIte, n80, u80_0, u80_1, u80_3, u80_6, u80_9, u80_10, u80_11, u80_14, u80_15, u80_16, u80_19, u80_22, u80_23, u80_24, u80_27, u80_28, u80_29, u80_32, u80_35, u80_36, u80_37, u80_38, u80_39, c_within, ek, h1, c_isWriter hI.1, h2, if_false, bz_t, bz_f, nn_eq0, nn_eq, eq_self, not_true_eq_false, not_false_eq_true, e]
      | false =>
        rw [if_neg (by simp [h1])]
        refine opC_bad h (by omega) ?_
        simp (disch := first | omega | decide | assumption | exact nI0_01 | exact nI1_01 | exact bz_01 _ | exact rf1 | exact rf11 | exact rf21) only [Option.bind_some, List.cons_append, List.nil_append, Nat.reduceAdd, Nat.reduceMul, Nat.reduceLeDiff, Nat.reduceEqDiff, ↓reduceIte, n80, u80_0, u80_1, u80_3, u80_6, u80_9, u80_10, u80_11, u80_14, u80_15, u80_16, u80_19, u80_22, u80_23, u80_24, u80_27, u80_28, u80_29, u80_32, u80_35, u80_36, u80_37, u80_38, u80_39, c_within, ek, h1, c_isWriter hI.1, h2, if_false, bz_t, bz_f, nn_eq0, nn_eq, eq_self, not_true_eq_false, not_false_eq_true, c_finding]
  · rw [if_neg (by simp [ek])]
    refine opC_bad h (by omega) ?_
    simp (disch := first | omega | decide | assumption | exact nI0_01 | exact nI1_01 | exact bz_01 _ | exact rf1 | exact rf11 | exact rf21) only [Option.bind_some, List.cons_append, List.nil_append, Nat.reduceAdd, Nat.reduceMul, Nat.reduceLeDiff, Nat.reduceEqDiff, ↓reduceIte, n80, u80_0, u80_1, u80_3, u80_6, u80_9, u80_10, u80_11, u80_14, u80_15, u80_16, u80_19, u80_22, u80_23, u80_24, u80_27, u80_28, u80_29, u80_32, u80_35, u80_36, u80_37, u80_38, u80_39, c_within, ek, bz_t, bz_f, nn_eq0, nn_eq, eq_self, not_true_eq_false, not_false_eq_true, c_finding]
theorem m1_nw {A : Gs} (hI : Iv A) : isW A (-1) = false := by
  unfold isW
  exact decide_eq_false (fun z => absurd z.1 (by decide))
theorem c_isUnder {a b : Nat} {w : Wd} (ha : a < 7) (hb : b < 7) : CALL 1 [.int (nI a), .int (nI b)] w = some ([.int (bz (undr a b))], w) := by
  have e0 : sv 56 0 = -1 := rfl
  have e1 : sv 56 1 = nI 0 := rfl
  have e2 : sv 56 2 = nI 0 := rfl
  have e3 : sv 56 3 = nI 2 := rfl
  have e4 : sv 56 4 = nI 3 := rfl
  have e5 : sv 56 5 = nI 0 := rfl
  have e6 : sv 56 6 = nI 1 := rfl
  have om : ok (-1) 6 = false := by decide
  have o0 : ok (nI 0) 6 = true := by decide
  have o1 : ok (nI 1) 6 = true := by decide
  have o2 : ok (nI 2) 6 = true := by decide
  have o3 : ok (nI 3) 6 = true := by decide
  have o4 : ok (nI 4) 6 = true := by decide
  have o5 : ok (nI 5) 6 = true := by decide
  have o6 : ok (nI 6) 6 = true := by decide
  rcases kd_cases ha with rfl | rfl | rfl | rfl | rfl | rfl | rfl <;> rcases kd_cases hb with rfl | rfl | rfl | rfl | rfl | rfl | rfl <;> (simp (disch := first | omega | decide | assumption | exact nI0_01 | exact nI1_01 | exact bz_01 _ | exact rf1 | exact rf11 | exact rf21) only [Option.bind_some, List.cons_append, List.nil_append, Nat.reduceAdd, Nat.reduceMul, Nat.reduceLeDiff, Nat.reduceEqDiff, ↓reduceIte, n1, u1_0, u1_1, u1_2, u1_3, u1_5, u1_7, u1_10, u1_11, u1_14, u1_17, u1_18, u1_19, u1_22, u1_23, u1_24, u1_27, u1_28, u1_29, u1_30, u1_33, u1_36, u1_37, u1_4, nn_le, c_isKind, om, o0, o1, o2, o3, o4, o5, o6, bz_t, bz_f, nn_eq0, nn_eq, eq_self, not_true_eq_false, not_false_eq_true, e0, e1, e2, e3, e4, e5, e6, nI_add]) <;> rfl
theorem k_as {A : Gs} {w : Wd} {x y : Int32} (h : C A (putR w 1 A)) (hI : Iv A) (hP : Spt A) : opC 81 [.int x, .int y] (o_as A x y) (putR w 1 A) := by
  have h0 := hI.1
  unfold o_as
  rcases ok_case x 9 (by omega) with ⟨k, hk, rfl, ek, ik⟩ | ek
  · try simp only [ik]
    rcases ok_case y 6 (by omega) with ⟨m, hm, rfl, em, im⟩ | em
    · try simp only [im]
      rw [if_pos (by simp [ek, em])]
      rcases hP k (by omega) with h1 | h1
      · rw [if_pos h1]
        have hw := hI.2.2.2.2 (A 9 k) (by omega)
        have hk9 : A 9 k < 8 := by omega
        have ew : isW A (nI (A 9 k)) = true := by rw [isW_nI (by omega)]; exact decide_eq_true h1
        cases h2 : undr (A 4 (A 9 k)) m with
        | true =>
          rw [if_pos rfl]
          refine opC_get h ?_
          simp (disch := first | omega | decide | assumption | exact nI0_01 | exact nI1_01 | exact bz_01 _ | exact rf1 | exact rf11 | exact rf21) only [Option.bind_some, List.cons_append, List.nil_append, Nat.reduceAdd, Nat.reduceMul, Nat.reduceLeDiff, Nat.reduceEqDiff, ↓reduceIte, n81, u81_0, u81_1, u81_3, u81_6, u81_9, u81_10, u81_13, u81_16, u81_17, u81_18, u81_21, u81_22, u81_23, u81_26, u81_29, u81_30, u81_31, u81_32, u81_33, u81_34, u81_37, u81_40, u81_41, u81_42, u81_45, u81_46, u81_47, u81_50, u81_53, u81_54, u81_55, u81_56, u81_59, u81_62, u81_63, u81_66, u81_67, u81_68, u81_71, c_within, c_isKind, ek, em, bz_t, bz_f, nn_eq0, nn_eq, eq_self, not_true_eq_false, not_false_eq_true, J_9, c_isWriter hI.1, ew, J_4, c_isUnder, h2]
        | false =>
          rw [if_neg (by decide)]
          refine opC_bad h (by omega) ?_
          simp (disch := first | omega | decide | assumption | exact nI0_01 | exact nI1_01 | exact bz_01 _ | exact rf1 | exact rf11 | exact rf21) only [Option.bind_some, List.cons_append, List.nil_append, Nat.reduceAdd, Nat.reduceMul, Nat.reduceLeDiff, Nat.reduceEqDiff, ↓reduceIte, n81, u81_0, u81_1, u81_3, u81_6, u81_9, u81_10, u81_13, u81_16, u81_17, u81_18, u81_21, u81_22, u81_23, u81_26, u81_29, u81_30, u81_31, u81_32, u81_33, u81_34, u81_37, u81_40, u81_41, u81_42, u81_45, u81_46, u81_47, u81_50, u81_53, u81_54, u81_55, u81_56, u81_59, u81_62, u81_63, u81_66, u81_67, u81_68, u81_71, c_within, c_isKind, ek, em, bz_t, bz_f, nn_eq0, nn_eq, eq_self, not_true_eq_false, not_false_eq_true, J_9, c_isWriter hI.1, ew, J_4, c_isUnder, h2, c_finding]
      · rw [if_neg (by omega)]
        refine opC_bad h (by omega) ?_
        simp (disch := first | omega | decide | assumption | exact nI0_01 | exact nI1_01 | exact bz_01 _ | exact rf1 | exact rf11 | exact rf21) only [Option.bind_some, List.cons_append, List.nil_append, Nat.reduceAdd, Nat.reduceMul, Nat.reduceLeDiff, Nat.reduceEqDiff, ↓reduceIte, n81, u81_0, u81_1, u81_3, u81_6, u81_9, u81_10, u81_13, u81_16, u81_17, u81_18, u81_21, u81_22, u81_23, u81_26, u81_29, u81_30, u81_31, u81_32, u81_33, u81_34, u81_37, u81_40, u81_41, u81_42, u81_45, u81_46, u81_47, u81_50, u81_53, u81_54, u81_55, u81_56, u81_59, u81_62, u81_63, u81_66, u81_67, u81_68, u81_71, c_within, c_isKind, ek, em, bz_t, bz_f, nn_eq0, nn_eq, eq_self, not_true_eq_false, not_false_eq_true, J_9, h1, nI_m1, c_isWriter hI.1, m1_nw hI, c_finding]
    · rw [if_neg (by simp [em])]
      refine opC_bad h (by omega) ?_
      simp (disch := first | omega | decide | assumption | exact nI0_01 | exact nI1_01 | exact bz_01 _ | exact rf1 | exact rf11 | exact rf21) only [Option.bind_some, List.cons_append, List.nil_append, Nat.reduceAdd, Nat.reduceMul, Nat.reduceLeDiff, Nat.reduceEqDiff, ↓reduceIte, n81, u81_0, u81_1, u81_3, u81_6, u81_9, u81_10, u81_13, u81_16, u81_17, u81_18, u81_21, u81_22, u81_23, u81_26, u81_29, u81_30, u81_31, u81_32, u81_33, u81_34, u81_37, u81_40, u81_41, u81_42, u81_45, u81_46, u81_47, u81_50, u81_53, u81_54, u81_55, u81_56, u81_59, u81_62, u81_63, u81_66, u81_67, u81_68, u81_71, c_within, c_isKind, ek, em, bz_t, bz_f, nn_eq0, nn_eq, eq_self, not_true_eq_false, not_false_eq_true, c_finding]
  · rw [if_neg (by simp [ek])]
    refine opC_bad h (by omega) ?_
    simp (disch := first | omega | decide | assumption | exact nI0_01 | exact nI1_01 | exact bz_01 _ | exact rf1 | exact rf11 | exact rf21) only [Option.bind_some, List.cons_append, List.nil_append, Nat.reduceAdd, Nat.reduceMul, Nat.reduceLeDiff, Nat.reduceEqDiff, ↓reduceIte, n81, u81_0, u81_1, u81_3, u81_6, u81_9, u81_10, u81_13, u81_16, u81_17, u81_18, u81_21, u81_22, u81_23, u81_26, u81_29, u81_30, u81_31, u81_32, u81_33, u81_34, u81_37, u81_40, u81_41, u81_42, u81_45, u81_46, u81_47, u81_50, u81_53, u81_54, u81_55, u81_56, u81_59, u81_62, u81_63, u81_66, u81_67, u81_68, u81_71, c_within, c_isKind, ek, bz_t, bz_f, nn_eq0, nn_eq, eq_self, not_true_eq_false, not_false_eq_true, c_finding]
theorem k_count {A : Gs} {w : Wd} {x : Int32} (h : C A (putR w 1 A)) (hI : Iv A) : opC 90 [.int x] (o_count A x) (putR w 1 A) := by
  unfold o_count
  rcases ok_case x 7 (by omega) with ⟨k, hk, rfl, ek, ik⟩ | ek
  · rw [if_pos ek, ik]
    refine opC_get h ?_
    have h7 := h.2.2.1
    rcases (by omega : k = 0 ∨ k = 1 ∨ k = 2 ∨ k = 3 ∨ k = 4 ∨ k = 5 ∨ k = 6 ∨ k = 7) with rfl | rfl | rfl | rfl | rfl | rfl | rfl | rfl <;> simp (disch := first | omega | decide | assumption | exact nI0_01 | exact nI1_01 | exact bz_01 _ | exact rf1 | exact rf11 | exact rf21) only [Option.bind_some, List.cons_append, List.nil_append, Nat.reduceAdd, Nat.reduceMul, Nat.reduceLeDiff, Nat.reduceEqDiff, ↓reduceIte, n90, u90_0, u90_1, u90_48, u90_49, u90_52, u90_55, u90_56, u90_57, u90_60, u90_63, u90_64, u90_65, u90_68, u90_71, u90_72, u90_73, u90_76, u90_77, u90_80, u90_81, u90_82, u90_85, u90_86, u90_89, u90_90, u90_91, u90_94, u90_97, u90_98, u90_99, u90_102, u90_105, u90_106, u90_107, u90_110, u90_113, u90_114, u90_115, u90_116, u90_119, bz_t, bz_f, nn_eq0, nn_eq, eq_self, not_true_eq_false, not_false_eq_true, R_10, R_9, R_11, c_lettersInJar rf1, c_sumOf rf1 hI, c_spotsHeld rf1, h7, cntV]
  · rw [if_neg (by simp [ek])]
    refine opC_bad h (by omega) ?_
    have n0 := ok_ne ek (j := 0) (by omega) (by omega)
    have n1 := ok_ne ek (j := 1) (by omega) (by omega)
    have n2 := ok_ne ek (j := 2) (by omega) (by omega)
    have n3 := ok_ne ek (j := 3) (by omega) (by omega)
    have n4 := ok_ne ek (j := 4) (by omega) (by omega)
    have n5 := ok_ne ek (j := 5) (by omega) (by omega)
    have n6 := ok_ne ek (j := 6) (by omega) (by omega)
    have n7 := ok_ne ek (j := 7) (by omega) (by omega)
    simp (disch := first | omega | decide | assumption | exact nI0_01 | exact nI1_01 | exact bz_01 _ | exact rf1 | exact rf11 | exact rf21) only [Option.bind_some, List.cons_append, List.nil_append, Nat.reduceAdd, Nat.reduceMul, Nat.reduceLeDiff, Nat.reduceEqDiff, ↓reduceIte, n90, u90_0, u90_1, u90_48, u90_49, u90_52, u90_55, u90_56, u90_57, u90_60, u90_63, u90_64, u90_65, u90_68, u90_71, u90_72, u90_73, u90_76, u90_77, u90_80, u90_81, u90_82, u90_85, u90_86, u90_89, u90_90, u90_91, u90_94, u90_97, u90_98, u90_99, u90_102, u90_105, u90_106, u90_107, u90_110, u90_113, u90_114, u90_115, u90_116, u90_119, n0, n1, n2, n3, n4, n5, n6, n7, if_false, c_finding]
theorem st_loop {w : Wd} {f : Nat → Nat} (hw : ∀ k, k < 7 → w.1 42 k = nI (f (k + 1))) {x : Int32} : ∀ (m k s : Nat), m + k = 7 → RUN 91 9 [some (.ref 0), some (.int x), some (.int (nI s)), some (.int (nI k))] [] [] w = some ([.int (nI (s + sm f m (k + 1)))], w) := by
  intro m
  induction m with
  | zero =>
    intro k s hm
    have e : k = 7 := by omega
    subst e
    rw [u91_9]
    simp (disch := first | omega | decide | assumption | exact nI0_01 | exact nI1_01 | exact bz_01 _ | exact rf1 | exact rf11 | exact rf21) only [Option.bind_some, List.cons_append, List.nil_append, Nat.reduceAdd, Nat.reduceMul, Nat.reduceLeDiff, Nat.reduceEqDiff, ↓reduceIte, n91, u91_0, u91_1, u91_2, u91_5, u91_6, u91_7, u91_8, u91_10, u91_12, u91_15, u91_16, u91_17, u91_20, u91_21, u91_22, u91_23, u91_24, u91_27, u91_30, u91_31, u91_32, u91_33, u91_35, u91_38, u91_41, u91_42, u91_45, u91_46, u91_47, u91_50, u91_51, u91_52, u91_55, nn_le, Nat.le_refl]
    rfl
  | succ m ih =>
    intro k s hm
    have h1 : ¬ 7 ≤ k := by omega
    have h2 := hw k (by omega)
    rw [u91_9]
    simp (disch := first | omega | decide | assumption | exact nI0_01 | exact nI1_01 | exact bz_01 _ | exact rf1 | exact rf11 | exact rf21) only [Option.bind_some, List.cons_append, List.nil_append, Nat.reduceAdd, Nat.reduceMul, Nat.reduceLeDiff, Nat.reduceEqDiff, ↓reduceIte, n91, u91_0, u91_1, u91_2, u91_5, u91_6, u91_7, u91_8, u91_10, u91_12, u91_15, u91_16, u91_17, u91_20, u91_21, u91_22, u91_23, u91_24, u91_27, u91_30, u91_31, u91_32, u91_33, u91_35, u91_38, u91_41, u91_42, u91_45, u91_46, u91_47, u91_50, u91_51, u91_52, u91_55, nn_le, h1, if_false, h2, nI_add]
    rw [ih (k + 1) (s + f (k + 1)) (by omega), sm, Nat.add_assoc]
theorem k_status {A : Gs} {w : Wd} {x : Int32} (h : C A w) (hs : A 22 0 = sm (A 22) 7 1) : opC 91 [.int x] (o_status A x) w := by
  have h6 := h.2.2.2.2.2.1
  unfold o_status
  by_cases h1 : x = -1
  · rw [if_pos h1, hs]
    refine opC_get h ?_
    subst h1
    simp (disch := first | omega | decide | assumption | exact nI0_01 | exact nI1_01 | exact bz_01 _ | exact rf1 | exact rf11 | exact rf21) only [Option.bind_some, List.cons_append, List.nil_append, Nat.reduceAdd, Nat.reduceMul, Nat.reduceLeDiff, Nat.reduceEqDiff, ↓reduceIte, u91_0, u91_1, u91_2, u91_5, u91_6, u91_7, u91_8, n91, not_true_eq_false, if_false]
    rw [st_loop h6 7 0 0 rfl, Nat.zero_add]
  · rw [if_neg h1]
    rcases ok_case x 6 (by omega) with ⟨k, hk, rfl, ek, ik⟩ | ek
    · rw [if_pos ek, ik]
      refine opC_get h ?_
      have h2 := h6 k (by omega)
      simp (disch := first | omega | decide | assumption | exact nI0_01 | exact nI1_01 | exact bz_01 _ | exact rf1 | exact rf11 | exact rf21) only [Option.bind_some, List.cons_append, List.nil_append, Nat.reduceAdd, Nat.reduceMul, Nat.reduceLeDiff, Nat.reduceEqDiff, ↓reduceIte, n91, u91_0, u91_1, u91_2, u91_5, u91_6, u91_7, u91_8, u91_10, u91_12, u91_15, u91_16, u91_17, u91_20, u91_21, u91_22, u91_23, u91_24, u91_27, u91_30, u91_31, u91_32, u91_33, u91_35, u91_38, u91_41, u91_42, u91_45, u91_46, u91_47, u91_50, u91_51, u91_52, u91_55, h1, not_false_eq_true, if_true, c_within, ek, bz_t, bz_f, nn_eq0, nn_eq, eq_self, not_true_eq_false, not_false_eq_true, h2]
    · rw [if_neg (by simp [ek])]
      refine opC_bad h (by omega) ?_
      simp (disch := first | omega | decide | assumption | exact nI0_01 | exact nI1_01 | exact bz_01 _ | exact rf1 | exact rf11 | exact rf21) only [Option.bind_some, List.cons_append, List.nil_append, Nat.reduceAdd, Nat.reduceMul, Nat.reduceLeDiff, Nat.reduceEqDiff, ↓reduceIte, n91, u91_0, u91_1, u91_2, u91_5, u91_6, u91_7, u91_8, u91_10, u91_12, u91_15, u91_16, u91_17, u91_20, u91_21, u91_22, u91_23, u91_24, u91_27, u91_30, u91_31, u91_32, u91_33, u91_35, u91_38, u91_41, u91_42, u91_45, u91_46, u91_47, u91_50, u91_51, u91_52, u91_55, h1, not_false_eq_true, if_true, c_within, ek, bz_t, bz_f, nn_eq0, nn_eq, eq_self, not_true_eq_false, not_false_eq_true, c_finding]
