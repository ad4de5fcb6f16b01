/-! THE COMPONENT READS AN ITEM -/
theorem prh_t {n : Nat} {B : Nat → Nat} {t : Tk} {hi : Nat} {F : Nat → Gs} {G : Gs} (h : nOk (nxt n B t) hi = true) : prh n B true t hi F G = .inr (F (nxt n B t).2.2.2, nxt n B (nxt n B t)) := by
  unfold prh; rw [if_pos rfl, if_pos h]
theorem prh_x {n : Nat} {B : Nat → Nat} {t : Tk} {hi : Nat} {F : Nat → Gs} {G : Gs} (h : nOk (nxt n B t) hi = false) : prh n B true t hi F G = .inl (nxt n B t).2.1 := by
  unfold prh; rw [if_pos rfl, if_neg (by rw [h]; decide)]
theorem prh_f {n : Nat} {B : Nat → Nat} {t : Tk} {hi : Nat} {F : Nat → Gs} {G : Gs} : prh n B false t hi F G = .inr (G, t) := by
  unfold prh; rw [if_neg (by decide)]
theorem TT.rJ {w : Wd} {n : Nat} {B : Nat → Nat} (hE : EnvC w n B) {t : Tk} {G : Gs} {W : Wd} (h : TT w t G W) (ht : tko n t) : ∃ r W', CALL 37 [.ref 40, .ref 11] W = some ([.int r], W') ∧ rsC w n (jarS n B G t) r W' := by
  obtain ⟨W1, n1, n2⟩ := h.next hE ht
  have ht1 := tko_n (B := B) ht
  have c1 := n2.num ht1.2.2.1 (hi := 9) (by omega)
  unfold jarS
  cases q : nOk (nxt n B t) 9 with
  | false =>
    rw [if_neg (by decide)]
    rw [q] at c1
    refine ⟨nI 0, W1, ?_, rsC_f n2 ht1⟩
    simp (disch := first | omega | decide | assumption | exact nI0_01 | exact nI1_01 | exact bz_01 _ | exact rf1 | exact rf11 | exact rf21) only [Option.bind_some, List.cons_append, List.nil_append, Nat.reduceAdd, Nat.reduceMul, Nat.reduceLeDiff, Nat.reduceEqDiff, ↓reduceIte, n37, u37_0, u37_1, u37_4, u37_5, u37_7, u37_10, u37_13, u37_14, u37_15, u37_16, u37_19, u37_20, u37_21, u37_24, u37_27, u37_30, u37_31, u37_32, u37_33, u37_36, u37_37, u37_38, u37_41, u37_42, u37_43, bz_t, bz_f, nn_eq0, nn_eq, eq_self, not_true_eq_false, not_false_eq_true, n1, c1]
  | true =>
    rw [if_pos rfl]
    rw [q] at c1
    have hv := (nOk_le q).2
    obtain ⟨W2, k1, k2⟩ := n2.take hE ht1 q
    have ht2 := tko_n (B := B) ht1
    have d1 := k2.num ht2.2.2.1 (hi := 999) (by omega)
    cases p : nOk (nxt n B (nxt n B t)) 999 with
    | false =>
      rw [prh_x p]
      rw [p] at d1
      refine ⟨nI 0, W2, ?_, rsC_f k2 ht2⟩
      simp (disch := first | omega | decide | assumption | exact nI0_01 | exact nI1_01 | exact bz_01 _ | exact rf1 | exact rf11 | exact rf21) only [Option.bind_some, List.cons_append, List.nil_append, Nat.reduceAdd, Nat.reduceMul, Nat.reduceLeDiff, Nat.reduceEqDiff, ↓reduceIte, n37, u37_0, u37_1, u37_4, u37_5, u37_7, u37_10, u37_13, u37_14, u37_15, u37_16, u37_19, u37_20, u37_21, u37_24, u37_27, u37_30, u37_31, u37_32, u37_33, u37_36, u37_37, u37_38, u37_41, u37_42, u37_43, bz_t, bz_f, nn_eq0, nn_eq, eq_self, not_true_eq_false, not_false_eq_true, n1, c1, k1, d1]
    | true =>
      rw [prh_t p]
      rw [p] at d1
      obtain ⟨W3, l1, l2⟩ := k2.take hE ht2 p
      obtain ⟨X, rfl, x2⟩ := l2.is
      have e1 : al 12 = 10 := rfl
      refine ⟨nI 1, _, ?_, rfl, x2 _⟩
      simp (disch := first | omega | decide | assumption | exact nI0_01 | exact nI1_01 | exact bz_01 _ | exact rf1 | exact rf11 | exact rf21) only [Option.bind_some, List.cons_append, List.nil_append, Nat.reduceAdd, Nat.reduceMul, Nat.reduceLeDiff, Nat.reduceEqDiff, ↓reduceIte, n37, u37_0, u37_1, u37_4, u37_5, u37_7, u37_10, u37_13, u37_14, u37_15, u37_16, u37_19, u37_20, u37_21, u37_24, u37_27, u37_30, u37_31, u37_32, u37_33, u37_36, u37_37, u37_38, u37_41, u37_42, u37_43, bz_t, bz_f, nn_eq0, nn_eq, eq_self, not_true_eq_false, not_false_eq_true, n1, c1, k1, d1, l1, e1, T_s1]
theorem TT.rF {w : Wd} {n : Nat} {B : Nat → Nat} (hE : EnvC w n B) {t : Tk} {G : Gs} {W : Wd} (h : TT w t G W) (ht : tko n t) : ∃ r W', CALL 36 [.ref 40, .ref 11] W = some ([.int r], W') ∧ rsC w n (fishS n B G t) r W' := by
  obtain ⟨W1, n1, n2⟩ := h.next hE ht
  have ht1 := tko_n (B := B) ht
  have c1 := n2.num ht1.2.2.1 (hi := 5) (by omega)
  unfold fishS
  cases q : nOk (nxt n B t) 5 with
  | false =>
    rw [if_neg (by decide)]
    rw [q] at c1
    refine ⟨nI 0, W1, ?_, rsC_f n2 ht1⟩
    simp (disch := first | omega | decide | assumption | exact nI0_01 | exact nI1_01 | exact bz_01 _ | exact rf1 | exact rf11 | exact rf21) only [Option.bind_some, List.cons_append, List.nil_append, Nat.reduceAdd, Nat.reduceMul, Nat.reduceLeDiff, Nat.reduceEqDiff, ↓reduceIte, n36, u36_0, u36_1, u36_4, u36_5, u36_6, u36_9, u36_12, u36_13, u36_14, u36_15, u36_18, u36_19, u36_20, u36_23, u36_26, u36_29, u36_30, u36_31, u36_32, u36_35, u36_36, u36_37, u36_40, u36_41, u36_42, u36_44, u36_47, u36_50, u36_51, u36_54, u36_55, u36_57, u36_60, u36_63, u36_64, u36_65, u36_66, u36_69, u36_70, u36_71, u36_74, u36_75, u36_76, bz_t, bz_f, nn_eq0, nn_eq, eq_self, not_true_eq_false, not_false_eq_true, n1, c1]
  | true =>
    rw [if_pos rfl]
    rw [q] at c1
    have hv := (nOk_le q).2
    obtain ⟨W2, k1, k2⟩ := n2.take hE ht1 q
    have ht2 := tko_n (B := B) ht1
    have d1 := k2.num ht2.2.2.1 (hi := 999) (by omega)
    cases p : nOk (nxt n B (nxt n B t)) 999 with
    | false =>
      rw [prh_x p]
      rw [p] at d1
      refine ⟨nI 0, W2, ?_, rsC_f k2 ht2⟩
      simp (disch := first | omega | decide | assumption | exact nI0_01 | exact nI1_01 | exact bz_01 _ | exact rf1 | exact rf11 | exact rf21) only [Option.bind_some, List.cons_append, List.nil_append, Nat.reduceAdd, Nat.reduceMul, Nat.reduceLeDiff, Nat.reduceEqDiff, ↓reduceIte, n36, u36_0, u36_1, u36_4, u36_5, u36_6, u36_9, u36_12, u36_13, u36_14, u36_15, u36_18, u36_19, u36_20, u36_23, u36_26, u36_29, u36_30, u36_31, u36_32, u36_35, u36_36, u36_37, u36_40, u36_41, u36_42, u36_44, u36_47, u36_50, u36_51, u36_54, u36_55, u36_57, u36_60, u36_63, u36_64, u36_65, u36_66, u36_69, u36_70, u36_71, u36_74, u36_75, u36_76, bz_t, bz_f, nn_eq0, nn_eq, eq_self, not_true_eq_false, not_false_eq_true, n1, c1, k1, d1]
    | true =>
      rw [prh_t p]
      rw [p] at d1
      obtain ⟨W3, l1, l2⟩ := k2.take hE ht2 p
      have ht3 := tko_n (B := B) ht2
      obtain ⟨X, rfl, x2⟩ := l2.is
      have e2 : al 13 = 6 := rfl
      have e3 : al 14 = 6 := rfl
      have y2 := x2 (up G 2 (nxt n B t).2.2.2 (nxt n B (nxt n B t)).2.2.2)
      have g1 : CALL 38 [.ref 40, .ref 71] (putR X 11 (up G 2 (nxt n B t).2.2.2 (nxt n B (nxt n B t)).2.2.2)) = some ([.int (bz (isN B [99, 97, 116, 99, 104] (nxt n B (nxt n B (nxt n B t)))))], _) := y2.name hE ht3 (o := 71) (by omega)
      show ∃ r W', _ ∧ rsC w n (prh n B (isN B [99, 97, 116, 99, 104] (nxt n B (nxt n B (nxt n B t)))) (nxt n B (nxt n B (nxt n B t))) 20 (fun v => up (up G 2 (nxt n B t).2.2.2 (nxt n B (nxt n B t)).2.2.2) 3 (nxt n B t).2.2.2 v) (up G 2 (nxt n B t).2.2.2 (nxt n B (nxt n B t)).2.2.2)) r W'
      cases u : isN B [99, 97, 116, 99, 104] (nxt n B (nxt n B (nxt n B t))) with
      | false =>
        rw [prh_f]
        rw [u] at g1
        refine ⟨nI 1, _, ?_, rfl, y2⟩
        simp (disch := first | omega | decide | assumption | exact nI0_01 | exact nI1_01 | exact bz_01 _ | exact rf1 | exact rf11 | exact rf21) only [Option.bind_some, List.cons_append, List.nil_append, Nat.reduceAdd, Nat.reduceMul, Nat.reduceLeDiff, Nat.reduceEqDiff, ↓reduceIte, n36, u36_0, u36_1, u36_4, u36_5, u36_6, u36_9, u36_12, u36_13, u36_14, u36_15, u36_18, u36_19, u36_20, u36_23, u36_26, u36_29, u36_30, u36_31, u36_32, u36_35, u36_36, u36_37, u36_40, u36_41, u36_42, u36_44, u36_47, u36_50, u36_51, u36_54, u36_55, u36_57, u36_60, u36_63, u36_64, u36_65, u36_66, u36_69, u36_70, u36_71, u36_74, u36_75, u36_76, bz_t, bz_f, nn_eq0, nn_eq, eq_self, not_true_eq_false, not_false_eq_true, n1, c1, k1, d1, l1, e2, T_s2, g1]
      | true =>
        rw [u] at g1
        obtain ⟨W4, m1, m2⟩ := y2.next hE ht3
        have ht4 := tko_n (B := B) ht3
        have f1 := m2.num ht4.2.2.1 (hi := 20) (by omega)
        cases s : nOk (nxt n B (nxt n B (nxt n B (nxt n B t)))) 20 with
        | false =>
          rw [prh_x s]
          rw [s] at f1
          refine ⟨nI 0, W4, ?_, rsC_f m2 ht4⟩
          simp (disch := first | omega | decide | assumption | exact nI0_01 | exact nI1_01 | exact bz_01 _ | exact rf1 | exact rf11 | exact rf21) only [Option.bind_some, List.cons_append, List.nil_append, Nat.reduceAdd, Nat.reduceMul, Nat.reduceLeDiff, Nat.reduceEqDiff, ↓reduceIte, n36, u36_0, u36_1, u36_4, u36_5, u36_6, u36_9, u36_12, u36_13, u36_14, u36_15, u36_18, u36_19, u36_20, u36_23, u36_26, u36_29, u36_30, u36_31, u36_32, u36_35, u36_36, u36_37, u36_40, u36_41, u36_42, u36_44, u36_47, u36_50, u36_51, u36_54, u36_55, u36_57, u36_60, u36_63, u36_64, u36_65, u36_66, u36_69, u36_70, u36_71, u36_74, u36_75, u36_76, bz_t, bz_f, nn_eq0, nn_eq, eq_self, not_true_eq_false, not_false_eq_true, n1, c1, k1, d1, l1, e2, T_s2, g1, m1, f1]
        | true =>
          rw [prh_t s]
          rw [s] at f1
          obtain ⟨W5, o1, o2⟩ := m2.take hE ht4 s
          obtain ⟨Y, rfl, z2⟩ := o2.is
          refine ⟨nI 1, _, ?_, rfl, z2 _⟩
          simp (disch := first | omega | decide | assumption | exact nI0_01 | exact nI1_01 | exact bz_01 _ | exact rf1 | exact rf11 | exact rf21) only [Option.bind_some, List.cons_append, List.nil_append, Nat.reduceAdd, Nat.reduceMul, Nat.reduceLeDiff, Nat.reduceEqDiff, ↓reduceIte, n36, u36_0, u36_1, u36_4, u36_5, u36_6, u36_9, u36_12, u36_13, u36_14, u36_15, u36_18, u36_19, u36_20, u36_23, u36_26, u36_29, u36_30, u36_31, u36_32, u36_35, u36_36, u36_37, u36_40, u36_41, u36_42, u36_44, u36_47, u36_50, u36_51, u36_54, u36_55, u36_57, u36_60, u36_63, u36_64, u36_65, u36_66, u36_69, u36_70, u36_71, u36_74, u36_75, u36_76, bz_t, bz_f, nn_eq0, nn_eq, eq_self, not_true_eq_false, not_false_eq_true, n1, c1, k1, d1, l1, e2, e3, T_s2, g1, m1, f1, o1, T_s3]
theorem comes_5 {G : Gs} {k d f v : Nat} : up (comes G k d f) 5 (G 0 0) v = comes G k v f := by
  unfold comes
  funext a b
  unfold up
  (repeat' split) <;> first | rfl | (exfalso; omega)
theorem comes_7 {G : Gs} {k d f v : Nat} : up (comes G k d f) 7 (G 0 0) v = comes G k d v := by
  unfold comes
  funext a b
  unfold up
  (repeat' split) <;> first | rfl | (exfalso; omega)
theorem TT.rW2 {w : Wd} {n : Nat} {B : Nat → Nat} (hE : EnvC w n B) {t : Tk} {G : Gs} {W : Wd} (h : TT w t G W) (ht : tko n t) (hN : G 0 0 < 8) {kd d : Nat} : ∃ r W', RUN 35 49 [some (.ref 40), some (.ref 11), some (.int (nI kd)), some (.int (nI d)), some (.int (nI 30))] [] [] W = some ([.int r], W') ∧ rsC w n (prh n B (isN B [102, 97, 116] t) t 99 (fun v => up (comes G kd d 30) 7 (G 0 0) v) (comes G kd d 30)) r W' := by
  have g1 : CALL 38 [.ref 40, .ref 70] W = some ([.int (bz (isN B [102, 97, 116] t))], W) := h.name hE ht (o := 70) (by omega)
  cases u : isN B [102, 97, 116] t with
  | false =>
    rw [prh_f]
    rw [u] at g1
    obtain ⟨X, rfl, x2⟩ := h.is
    have a1 := c_addWriter (k := kd) (d := d) (f := 30) (w := X) rf11 hN
    refine ⟨nI 1, _, ?_, rfl, x2 _⟩
    simp (disch := first | omega | decide | assumption | exact nI0_01 | exact nI1_01 | exact bz_01 _ | exact rf1 | exact rf11 | exact rf21) only [Option.bind_some, List.cons_append, List.nil_append, Nat.reduceAdd, Nat.reduceMul, Nat.reduceLeDiff, Nat.reduceEqDiff, ↓reduceIte, u35_49, u35_50, u35_52, u35_55, u35_58, u35_59, u35_62, u35_63, u35_65, u35_68, u35_71, u35_72, u35_73, u35_74, u35_77, u35_79, u35_80, u35_81, u35_82, u35_84, u35_87, u35_88, u35_89, bz_t, bz_f, nn_eq0, nn_eq, eq_self, not_true_eq_false, not_false_eq_true, g1, a1]
  | true =>
    rw [u] at g1
    obtain ⟨W1, n1, n2⟩ := h.next hE ht
    have ht1 := tko_n (B := B) ht
    have c1 := n2.num ht1.2.2.1 (hi := 99) (by omega)
    cases q : nOk (nxt n B t) 99 with
    | false =>
      rw [prh_x q]
      rw [q] at c1
      refine ⟨nI 0, W1, ?_, rsC_f n2 ht1⟩
      simp (disch := first | omega | decide | assumption | exact nI0_01 | exact nI1_01 | exact bz_01 _ | exact rf1 | exact rf11 | exact rf21) only [Option.bind_some, List.cons_append, List.nil_append, Nat.reduceAdd, Nat.reduceMul, Nat.reduceLeDiff, Nat.reduceEqDiff, ↓reduceIte, u35_49, u35_50, u35_52, u35_55, u35_58, u35_59, u35_62, u35_63, u35_65, u35_68, u35_71, u35_72, u35_73, u35_74, u35_77, u35_79, u35_80, u35_81, u35_82, u35_84, u35_87, u35_88, u35_89, bz_t, bz_f, nn_eq0, nn_eq, eq_self, not_true_eq_false, not_false_eq_true, g1, n1, c1]
    | true =>
      rw [prh_t q]
      rw [q] at c1
      obtain ⟨W2, k1, k2⟩ := n2.take hE ht1 q
      obtain ⟨X, rfl, x2⟩ := k2.is
      have a1 := c_addWriter (k := kd) (d := d) (f := (nxt n B t).2.2.2) (w := X) rf11 hN
      refine ⟨nI 1, putR X 11 (comes G kd d (nxt n B t).2.2.2), ?_, rfl, ?_⟩
      · simp (disch := first | omega | decide | assumption | exact nI0_01 | exact nI1_01 | exact bz_01 _ | exact rf1 | exact rf11 | exact rf21) only [Option.bind_some, List.cons_append, List.nil_append, Nat.reduceAdd, Nat.reduceMul, Nat.reduceLeDiff, Nat.reduceEqDiff, ↓reduceIte, u35_49, u35_50, u35_52, u35_55, u35_58, u35_59, u35_62, u35_63, u35_65, u35_68, u35_71, u35_72, u35_73, u35_74, u35_77, u35_79, u35_80, u35_81, u35_82, u35_84, u35_87, u35_88, u35_89, bz_t, bz_f, nn_eq0, nn_eq, eq_self, not_true_eq_false, not_false_eq_true, g1, n1, c1, k1, a1]
      · show TT w _ (up (comes G kd d 30) 7 (G 0 0) _) _
        rw [comes_7]
        exact x2 _
theorem TT.rW {w : Wd} {n : Nat} {B : Nat → Nat} (hE : EnvC w n B) {t : Tk} {G : Gs} {W : Wd} {kd : Nat} (h : TT w t G W) (ht : tko n t) (hN : G 0 0 ≤ 8) : ∃ r W', CALL 35 [.ref 40, .ref 11, .int (nI kd)] W = some ([.int r], W') ∧ rsC w n (wrS n B kd G t) r W' := by
  have h0 := h
  obtain ⟨X, hX, x2⟩ := h0.is
  have a1 := c_isFull (w := X) (A := G) rf11 hN
  rw [← hX] at a1
  unfold wrS
  by_cases q : G 0 0 = 8
  · rw [if_pos q]
    rw [decide_eq_true q] at a1
    refine ⟨nI 0, W, ?_, rsC_f h ht⟩
    simp (disch := first | omega | decide | assumption | exact nI0_01 | exact nI1_01 | exact bz_01 _ | exact rf1 | exact rf11 | exact rf21) only [Option.bind_some, List.cons_append, List.nil_append, Nat.reduceAdd, Nat.reduceMul, Nat.reduceLeDiff, Nat.reduceEqDiff, ↓reduceIte, u35_0, u35_1, u35_4, u35_7, u35_8, u35_9, u35_10, u35_11, u35_13, u35_15, u35_16, u35_19, u35_20, u35_22, u35_25, u35_28, u35_29, u35_32, u35_33, u35_36, u35_39, u35_42, u35_43, u35_44, u35_45, u35_48, n35, a1, bz_t, bz_f, nn_eq0, nn_eq, eq_self, not_true_eq_false, not_false_eq_true]
  · rw [if_neg q]
    have hN' : G 0 0 < 8 := by omega
    rw [decide_eq_false q] at a1
    obtain ⟨W1, n1, n2⟩ := h.next hE ht
    have ht1 := tko_n (B := B) ht
    have g1 : CALL 38 [.ref 40, .ref 69] W1 = some ([.int (bz (isN B [119, 111, 114, 100] (nxt n B t)))], W1) := n2.name hE ht1 (o := 69) (by omega)
    cases u : isN B [119, 111, 114, 100] (nxt n B t) with
    | false =>
      rw [prh_f]
      rw [u] at g1
      obtain ⟨r, W2, e1, e2⟩ := n2.rW2 hE ht1 hN' (kd := kd) (d := 0)
      refine ⟨r, W2, ?_, e2⟩
      simp (disch := first | omega | decide | assumption | exact nI0_01 | exact nI1_01 | exact bz_01 _ | exact rf1 | exact rf11 | exact rf21) only [Option.bind_some, List.cons_append, List.nil_append, Nat.reduceAdd, Nat.reduceMul, Nat.reduceLeDiff, Nat.reduceEqDiff, ↓reduceIte, u35_0, u35_1, u35_4, u35_7, u35_8, u35_9, u35_10, u35_11, u35_13, u35_15, u35_16, u35_19, u35_20, u35_22, u35_25, u35_28, u35_29, u35_32, u35_33, u35_36, u35_39, u35_42, u35_43, u35_44, u35_45, u35_48, n35, a1, bz_t, bz_f, nn_eq0, nn_eq, eq_self, not_true_eq_false, not_false_eq_true, n1, g1]
      exact e1
    | true =>
      rw [u] at g1
      obtain ⟨W2, m1, m2⟩ := n2.next hE ht1
      have ht2 := tko_n (B := B) ht1
      have c1 := m2.num ht2.2.2.1 (hi := 9999) (by omega)
      cases q2 : nOk (nxt n B (nxt n B t)) 9999 with
      | false =>
        rw [prh_x q2]
        rw [q2] at c1
        refine ⟨nI 0, W2, ?_, rsC_f m2 ht2⟩
        simp (disch := first | omega | decide | assumption | exact nI0_01 | exact nI1_01 | exact bz_01 _ | exact rf1 | exact rf11 | exact rf21) only [Option.bind_some, List.cons_append, List.nil_append, Nat.reduceAdd, Nat.reduceMul, Nat.reduceLeDiff, Nat.reduceEqDiff, ↓reduceIte, u35_0, u35_1, u35_4, u35_7, u35_8, u35_9, u35_10, u35_11, u35_13, u35_15, u35_16, u35_19, u35_20, u35_22, u35_25, u35_28, u35_29, u35_32, u35_33, u35_36, u35_39, u35_42, u35_43, u35_44, u35_45, u35_48, n35, a1, bz_t, bz_f, nn_eq0, nn_eq, eq_self, not_true_eq_false, not_false_eq_true, n1, g1, m1, c1]
      | true =>
        rw [prh_t q2]
        rw [q2] at c1
        obtain ⟨W3, k1, k2⟩ := m2.take hE ht2 q2
        have ht3 := tko_n (B := B) ht2
        obtain ⟨r, W4, e1, e2⟩ := k2.rW2 hE ht3 hN' (kd := kd) (d := (nxt n B (nxt n B t)).2.2.2)
        refine ⟨r, W4, ?_, ?_⟩
        · simp (disch := first | omega | decide | assumption | exact nI0_01 | exact nI1_01 | exact bz_01 _ | exact rf1 | exact rf11 | exact rf21) only [Option.bind_some, List.cons_append, List.nil_append, Nat.reduceAdd, Nat.reduceMul, Nat.reduceLeDiff, Nat.reduceEqDiff, ↓reduceIte, u35_0, u35_1, u35_4, u35_7, u35_8, u35_9, u35_10, u35_11, u35_13, u35_15, u35_16, u35_19, u35_20, u35_22, u35_25, u35_28, u35_29, u35_32, u35_33, u35_36, u35_39, u35_42, u35_43, u35_44, u35_45, u35_48, n35, a1, bz_t, bz_f, nn_eq0, nn_eq, eq_self, not_true_eq_false, not_false_eq_true, n1, g1, m1, c1, k1]
          exact e1
        · show rsC w n (prh n B _ _ 99 (fun v => up (up (comes G kd 0 30) 5 (G 0 0) _) 7 (G 0 0) v) (up (comes G kd 0 30) 5 (G 0 0) _)) r W4
          rw [comes_5]
          exact e2
/-- the names of the kinds, in their order -/
def nmR (k : Nat) : Nat := match k with | 0 => 66 | 1 => 60 | 2 => 61 | 3 => 62 | 4 => 63 | 5 => 64 | _ => 65
theorem c_nameOf {k : Nat} {w : Wd} (h : k < 7) : CALL 6 [.int (nI k)] w = some ([.ref (nmR k)], w) := by
  rcases kd_cases h with rfl | rfl | rfl | rfl | rfl | rfl | rfl <;> simp (disch := first | omega | decide | assumption | exact nI0_01 | exact nI1_01 | exact bz_01 _ | exact rf1 | exact rf11 | exact rf21) only [Option.bind_some, List.cons_append, List.nil_append, Nat.reduceAdd, Nat.reduceMul, Nat.reduceLeDiff, Nat.reduceEqDiff, ↓reduceIte, n6, u6_0, u6_1, u6_40, u6_42, u6_43, u6_45, u6_46, u6_48, u6_49, u6_51, u6_52, u6_54, u6_55, u6_57, u6_58, u6_60, nn_eq] <;> rfl
theorem nmR_in : ∀ k, 60 ≤ nmR k ∧ nmR k < 72 := by
  intro k
  unfold nmR
  split <;> omega
def kdF (B : Nat → Nat) (t : Tk) : Nat → Nat → Nat
  | 0, _ => 7
  | m + 1, k => if isN B (stx (nmR k - 60)) t = true then k else kdF B t m (k + 1)
theorem kdF_H (B : Nat → Nat) (t : Tk) : kdF B t 7 0 = kdH B t := rfl
theorem kind_loop {w : Wd} {n : Nat} {B : Nat → Nat} (hE : EnvC w n B) {t : Tk} {G : Gs} {W : Wd} (h : TT w t G W) (ht : tko n t) : ∀ (m k : Nat), m + k = 7 → RUN 34 32 [some (.ref 40), some (.ref 11), some (.int (nI k))] [] [] W = if kdF B t m k < 7 then RUN 34 49 [some (.ref 40), some (.ref 11), some (.int (nI (kdF B t m k)))] [] [] W else some ([.int (nI 0)], W) := by
  intro m
  induction m with
  | zero =>
    intro k hm
    have e : k = 7 := by omega
    subst e
    rw [u34_32, kdF, if_neg (by omega)]
    simp (disch := first | omega | decide | assumption | exact nI0_01 | exact nI1_01 | exact bz_01 _ | exact rf1 | exact rf11 | exact rf21) only [Option.bind_some, List.cons_append, List.nil_append, Nat.reduceAdd, Nat.reduceMul, Nat.reduceLeDiff, Nat.reduceEqDiff, ↓reduceIte, u34_33, u34_35, u34_38, u34_39, u34_40, u34_43, u34_46, u34_49, u34_50, u34_51, u34_52, u34_55, u34_56, u34_59, u34_62, u34_63, nn_le, Nat.le_refl, if_true]
  | succ m ih =>
    intro k hm
    have h1 : ¬ 7 ≤ k := by omega
    have g1 := h.name hE ht (nmR_in k)
    rw [u34_32, kdF]
    cases u : isN B (stx (nmR k - 60)) t with
    | true =>
      rw [u] at g1
      simp only [if_true]
      rw [if_pos (by omega)]
      simp (disch := first | omega | decide | assumption | exact nI0_01 | exact nI1_01 | exact bz_01 _ | exact rf1 | exact rf11 | exact rf21) only [Option.bind_some, List.cons_append, List.nil_append, Nat.reduceAdd, Nat.reduceMul, Nat.reduceLeDiff, Nat.reduceEqDiff, ↓reduceIte, u34_33, u34_35, u34_38, u34_39, u34_40, u34_43, u34_46, nn_le, h1, if_false, c_nameOf, g1, bz_t, bz_f, nn_eq0, nn_eq, eq_self, not_true_eq_false, not_false_eq_true]
    | false =>
      rw [u] at g1
      have i2 := ih (k + 1) (by omega)
      simp only [Bool.false_eq_true, if_false]
      rw [← i2]
      simp (disch := first | omega | decide | assumption | exact nI0_01 | exact nI1_01 | exact bz_01 _ | exact rf1 | exact rf11 | exact rf21) only [Option.bind_some, List.cons_append, List.nil_append, Nat.reduceAdd, Nat.reduceMul, Nat.reduceLeDiff, Nat.reduceEqDiff, ↓reduceIte, u34_33, u34_35, u34_38, u34_39, u34_40, u34_43, u34_46, u34_56, u34_59, nn_le, h1, if_false, c_nameOf, g1, bz_t, bz_f, nn_eq0, nn_eq, eq_self, not_true_eq_false, not_false_eq_true, nI_add]
theorem kdH_no {B : Nat → Nat} {t : Tk} {s : List Nat} (h : isN B s t = true) (hs : ∀ k, k < 7 → stx (nmR k - 60) ≠ s) : ¬ kdH B t < 7 := by
  have key : ∀ m k, m + k = 7 → kdF B t m k = 7 := by
    intro m
    induction m with
    | zero => intro k _; rfl
    | succ m ih =>
      intro k hm
      rw [kdF, if_neg (fun z => hs k (by omega) (isN_inj z h))]
      exact ih (k + 1) (by omega)
  rw [← kdF_H, key 7 0 rfl]
  omega
theorem TT.rI {w : Wd} {n : Nat} {B : Nat → Nat} (hE : EnvC w n B) {t : Tk} {G : Gs} {W : Wd} (h : TT w t G W) (ht : tko n t) (hN : G 0 0 ≤ 8) : ∃ r W', CALL 34 [.ref 40, .ref 11] W = some ([.int r], W') ∧ rsC w n (itS n B G t) r W' := by
  have g1 : CALL 38 [.ref 40, .ref 67] W = some ([.int (bz (isN B [102, 105, 115, 104] t))], W) := h.name hE ht (o := 67) (by omega)
  have g2 : CALL 38 [.ref 40, .ref 68] W = some ([.int (bz (isN B [106, 97, 114] t))], W) := h.name hE ht (o := 68) (by omega)
  unfold itS
  cases q1 : isN B [102, 105, 115, 104] t with
  | true =>
    rw [q1] at g1
    rw [if_neg (kdH_no q1 (by decide)), if_pos rfl]
    obtain ⟨r, W', f1, f2⟩ := h.rF hE ht
    refine ⟨r, W', ?_, f2⟩
    rcases rsC_01 f2 with hr | hr <;> subst hr <;> simp (disch := first | omega | decide | assumption | exact nI0_01 | exact nI1_01 | exact bz_01 _ | exact rf1 | exact rf11 | exact rf21) only [Option.bind_some, List.cons_append, List.nil_append, Nat.reduceAdd, Nat.reduceMul, Nat.reduceLeDiff, Nat.reduceEqDiff, ↓reduceIte, u34_0, u34_1, u34_3, u34_6, u34_9, u34_10, u34_11, u34_14, u34_15, u34_16, u34_18, u34_21, u34_24, u34_25, u34_26, u34_29, u34_30, u34_31, n34, g1, bz_t, bz_f, nn_eq0, nn_eq, eq_self, not_true_eq_false, not_false_eq_true, f1]
  | false =>
    rw [q1] at g1
    cases q2 : isN B [106, 97, 114] t with
    | true =>
      rw [q2] at g2
      rw [if_neg (kdH_no q2 (by decide)), if_neg (by decide), if_pos rfl]
      obtain ⟨r, W', f1, f2⟩ := h.rJ hE ht
      refine ⟨r, W', ?_, f2⟩
      rcases rsC_01 f2 with hr | hr <;> subst hr <;> simp (disch := first | omega | decide | assumption | exact nI0_01 | exact nI1_01 | exact bz_01 _ | exact rf1 | exact rf11 | exact rf21) only [Option.bind_some, List.cons_append, List.nil_append, Nat.reduceAdd, Nat.reduceMul, Nat.reduceLeDiff, Nat.reduceEqDiff, ↓reduceIte, u34_0, u34_1, u34_3, u34_6, u34_9, u34_10, u34_11, u34_14, u34_15, u34_16, u34_18, u34_21, u34_24, u34_25, u34_26, u34_29, u34_30, u34_31, n34, g1, g2, bz_t, bz_f, nn_eq0, nn_eq, eq_self, not_true_eq_false, not_false_eq_true, f1]
    | false =>
      rw [q2] at g2
      have hk := kind_loop hE h ht 7 0 rfl
      rw [kdF_H] at hk
      by_cases q3 : kdH B t < 7
      · rw [if_pos q3]
        rw [if_pos q3] at hk
        obtain ⟨r, W', f1, f2⟩ := h.rW hE ht hN (kd := kdH B t)
        refine ⟨r, W', ?_, f2⟩
        simp (disch := first | omega | decide | assumption | exact nI0_01 | exact nI1_01 | exact bz_01 _ | exact rf1 | exact rf11 | exact rf21) only [Option.bind_some, List.cons_append, List.nil_append, Nat.reduceAdd, Nat.reduceMul, Nat.reduceLeDiff, Nat.reduceEqDiff, ↓reduceIte, u34_0, u34_1, u34_3, u34_6, u34_9, u34_10, u34_11, u34_14, u34_15, u34_16, u34_18, u34_21, u34_24, u34_25, u34_26, u34_29, u34_30, u34_31, n34, g1, g2, bz_t, bz_f, nn_eq0, nn_eq, eq_self, not_true_eq_false, not_false_eq_true]
        rw [hk]
        rcases rsC_01 f2 with hr | hr <;> subst hr <;> simp (disch := first | omega | decide | assumption | exact nI0_01 | exact nI1_01 | exact bz_01 _ | exact rf1 | exact rf11 | exact rf21) only [Option.bind_some, List.cons_append, List.nil_append, Nat.reduceAdd, Nat.reduceMul, Nat.reduceLeDiff, Nat.reduceEqDiff, ↓reduceIte, u34_49, u34_50, u34_51, u34_52, u34_55, u34_56, u34_59, f1]
      · rw [if_neg q3, if_neg (by decide), if_neg (by decide)]
        rw [if_neg q3] at hk
        refine ⟨nI 0, W, ?_, rsC_f h ht⟩
        simp (disch := first | omega | decide | assumption | exact nI0_01 | exact nI1_01 | exact bz_01 _ | exact rf1 | exact rf11 | exact rf21) only [Option.bind_some, List.cons_append, List.nil_append, Nat.reduceAdd, Nat.reduceMul, Nat.reduceLeDiff, Nat.reduceEqDiff, ↓reduceIte, u34_0, u34_1, u34_3, u34_6, u34_9, u34_10, u34_11, u34_14, u34_15, u34_16, u34_18, u34_21, u34_24, u34_25, u34_26, u34_29, u34_30, u34_31, n34, g1, g2, bz_t, bz_f, nn_eq0, nn_eq, eq_self, not_true_eq_false, not_false_eq_true]
        exact hk
