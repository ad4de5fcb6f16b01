theorem cs_loop {o c n : Nat} {w : Wd} {A : Gs} (ho : rfB o) (hc : c < 5) (hn : n ≤ 8) (hN : A 0 0 = n) : ∀ (m a s : Nat), m + a = n → RUN 22 11 [some (.ref o), some (.int (nI c)), some (.ref (o + (4 + c))), some (.int (nI s)), some (.int (nI a))] [] [] (putR w o A) = some ([.int (nI (s + sm (A (4 + c)) m a))], putR w o A) := by
  have hal := rf_al ho hc
  have h54 : o + (4 + c) < 54 := rf_lt ho (k := 4 + c) (by omega)
  intro m
  induction m with
  | zero =>
    intro a s hm
    have e : a = n := by omega
    subst e
    rw [u22_11]
    simp (disch := first | omega | decide | assumption | exact nI0_01 | exact nI1_01 | exact bz_01 _ | exact rf1 | exact rf11 | exact rf21) only [Option.bind_some, List.cons_append, List.nil_append, Nat.reduceAdd, Nat.reduceMul, Nat.reduceLeDiff, Nat.reduceEqDiff, ↓reduceIte, n22, u22_0, u22_1, u22_2, u22_5, u22_6, u22_7, u22_8, u22_9, u22_13, u22_14, u22_17, u22_20, u22_21, u22_22, u22_24, u22_25, u22_26, u22_27, u22_30, u22_33, u22_34, R_9, hN, nn_le, Nat.le_refl]
    rfl
  | succ m ih =>
    intro a s hm
    have h1 : ¬ n ≤ a := by omega
    rw [u22_11]
    simp (disch := first | omega | decide | assumption | exact nI0_01 | exact nI1_01 | exact bz_01 _ | exact rf1 | exact rf11 | exact rf21) only [Option.bind_some, List.cons_append, List.nil_append, Nat.reduceAdd, Nat.reduceMul, Nat.reduceLeDiff, Nat.reduceEqDiff, ↓reduceIte, u22_13, u22_14, u22_17, u22_20, u22_21, u22_22, R_9, hN, nn_le, h1, if_false]
    rw [u22_24 h54 hal (show a < 8 by omega) (by omega), R_w hc (by omega)]
    simp (disch := first | omega | decide | assumption | exact nI0_01 | exact nI1_01 | exact bz_01 _ | exact rf1 | exact rf11 | exact rf21) only [Option.bind_some, List.cons_append, List.nil_append, Nat.reduceAdd, Nat.reduceMul, Nat.reduceLeDiff, Nat.reduceEqDiff, ↓reduceIte, u22_25, u22_26, u22_27, u22_30, u22_33, u22_34, nI_add]
    rw [ih (a + 1) (s + A (4 + c) a) (by omega), sm, Nat.add_assoc]
theorem c_sumOf {o c : Nat} {w : Wd} {A : Gs} (ho : rfB o) (hI : Iv A) (hc : c < 5) : CALL 22 [.ref o, .int (nI c)] (putR w o A) = some ([.int (nI (sm (A (4 + c)) (A 0 0) 0))], putR w o A) := by
  simp (disch := first | omega | decide | assumption | exact nI0_01 | exact nI1_01 | exact bz_01 _ | exact rf1 | exact rf11 | exact rf21) only [Option.bind_some, List.cons_append, List.nil_append, Nat.reduceAdd, Nat.reduceMul, Nat.reduceLeDiff, Nat.reduceEqDiff, ↓reduceIte, u22_0, u22_1, u22_2, u22_5, u22_6, u22_7, u22_8, u22_9, n22, c_row]
  rw [cs_loop ho hc hI.1 rfl (A 0 0) 0 0 (by omega), Nat.zero_add]
theorem cj_loop {o : Nat} {w : Wd} {A : Gs} (ho : rfB o) : ∀ (m a s : Nat), m + a = 10 → RUN 23 4 [some (.ref o), some (.int (nI s)), some (.int (nI a))] [] [] (putR w o A) = some ([.int (nI (s + sm (A 1) m a))], putR w o A) := by
  intro m
  induction m with
  | zero =>
    intro a s hm
    have e : a = 10 := by omega
    subst e
    rw [u23_4]
    simp (disch := first | omega | decide | assumption | exact nI0_01 | exact nI1_01 | exact bz_01 _ | exact rf1 | exact rf11 | exact rf21) only [Option.bind_some, List.cons_append, List.nil_append, Nat.reduceAdd, Nat.reduceMul, Nat.reduceLeDiff, Nat.reduceEqDiff, ↓reduceIte, n23, u23_0, u23_1, u23_2, u23_3, u23_5, u23_7, u23_10, u23_11, u23_12, u23_15, u23_16, u23_17, u23_18, u23_19, u23_22, u23_25, u23_26, nn_le, Nat.le_refl]
    rfl
  | succ m ih =>
    intro a s hm
    have h1 : ¬ 10 ≤ a := by omega
    rw [u23_4]
    simp (disch := first | omega | decide | assumption | exact nI0_01 | exact nI1_01 | exact bz_01 _ | exact rf1 | exact rf11 | exact rf21) only [Option.bind_some, List.cons_append, List.nil_append, Nat.reduceAdd, Nat.reduceMul, Nat.reduceLeDiff, Nat.reduceEqDiff, ↓reduceIte, n23, u23_0, u23_1, u23_2, u23_3, u23_5, u23_7, u23_10, u23_11, u23_12, u23_15, u23_16, u23_17, u23_18, u23_19, u23_22, u23_25, u23_26, R_1, nn_le, h1, if_false, nI_add]
    rw [ih (a + 1) (s + A 1 a) (by omega), sm, Nat.add_assoc]
theorem c_lettersInJar {o : Nat} {w : Wd} {A : Gs} (ho : rfB o) : CALL 23 [.ref o] (putR w o A) = some ([.int (nI (sm (A 1) 10 0))], putR w o A) := by
  simp (disch := first | omega | decide | assumption | exact nI0_01 | exact nI1_01 | exact bz_01 _ | exact rf1 | exact rf11 | exact rf21) only [Option.bind_some, List.cons_append, List.nil_append, Nat.reduceAdd, Nat.reduceMul, Nat.reduceLeDiff, Nat.reduceEqDiff, ↓reduceIte, n23, u23_0, u23_1, u23_2, u23_3, u23_5, u23_7, u23_10, u23_11, u23_12, u23_15, u23_16, u23_17, u23_18, u23_19, u23_22, u23_25, u23_26]
  rw [cj_loop ho 10 0 0 (by omega), Nat.zero_add]
theorem cw_loop {o n : Nat} {w : Wd} {A : Gs} (ho : rfB o) (hI : Iv A) (hN : A 0 0 = n) : ∀ (m a : Nat) (s : Int32), m + a = n → RUN 24 4 [some (.ref o), some (.int s), some (.int (nI a))] [] [] (putR w o A) = some ([.int (orS (fun a => decide (A 1 (dg (A 5 a) (A 6 a)) = 0)) m a s)], putR w o A) := by
  intro m
  induction m with
  | zero =>
    intro a s hm
    have e : a = n := by omega
    subst e
    have h0 := hI.1
    rw [u24_4]
    simp (disch := first | omega | decide | assumption | exact nI0_01 | exact nI1_01 | exact bz_01 _ | exact rf1 | exact rf11 | exact rf21) only [Option.bind_some, List.cons_append, List.nil_append, Nat.reduceAdd, Nat.reduceMul, Nat.reduceLeDiff, Nat.reduceEqDiff, ↓reduceIte, n24, u24_0, u24_1, u24_2, u24_3, u24_5, u24_6, u24_9, u24_12, u24_13, u24_16, u24_17, u24_18, u24_21, u24_22, u24_25, u24_26, u24_27, u24_28, u24_29, u24_30, u24_31, u24_34, u24_37, u24_38, R_9, hN, nn_le, Nat.le_refl]
    rfl
  | succ m ih =>
    intro a s hm
    have h0 := hI.1
    have h1 : ¬ n ≤ a := by omega
    have hw := hI.2.2.2.2 a (by omega)
    have hl := dg_lt (A 5 a) (A 6 a)
    have hj := hI.2.1 _ hl
    rw [u24_4, orS]
    by_cases h2 : A 1 (dg (A 5 a) (A 6 a)) = 0
    · simp (disch := first | omega | decide | assumption | exact nI0_01 | exact nI1_01 | exact bz_01 _ | exact rf1 | exact rf11 | exact rf21) only [Option.bind_some, List.cons_append, List.nil_append, Nat.reduceAdd, Nat.reduceMul, Nat.reduceLeDiff, Nat.reduceEqDiff, ↓reduceIte, n24, u24_0, u24_1, u24_2, u24_3, u24_5, u24_6, u24_9, u24_12, u24_13, u24_16, u24_17, u24_18, u24_21, u24_22, u24_25, u24_26, u24_27, u24_28, u24_29, u24_30, u24_31, u24_34, u24_37, u24_38, R_9, hN, nn_le, h1, if_false, c_next ho hI, nI_add, R_1, nn_eq0, h2, not_true_eq_false, decide_true]
      exact ih (a + 1) _ (by omega)
    · simp (disch := first | omega | decide | assumption | exact nI0_01 | exact nI1_01 | exact bz_01 _ | exact rf1 | exact rf11 | exact rf21) only [Option.bind_some, List.cons_append, List.nil_append, Nat.reduceAdd, Nat.reduceMul, Nat.reduceLeDiff, Nat.reduceEqDiff, ↓reduceIte, n24, u24_0, u24_1, u24_2, u24_3, u24_5, u24_6, u24_9, u24_12, u24_13, u24_16, u24_17, u24_18, u24_21, u24_22, u24_25, u24_26, u24_27, u24_28, u24_29, u24_30, u24_31, u24_34, u24_37, u24_38, R_9, hN, nn_le, h1, if_false, c_next ho hI, nI_add, R_1, nn_eq0, h2, not_false_eq_true, if_true, decide_false, Bool.false_eq_true]
      exact ih (a + 1) _ (by omega)
theorem c_writersWhoWait {o : Nat} {w : Wd} {A : Gs} (ho : rfB o) (hI : Iv A) : CALL 24 [.ref o] (putR w o A) = some ([.int (orS (fun a => decide (A 1 (dg (A 5 a) (A 6 a)) = 0)) (A 0 0) 0 (nI 0))], putR w o A) := by
  simp (disch := first | omega | decide | assumption | exact nI0_01 | exact nI1_01 | exact bz_01 _ | exact rf1 | exact rf11 | exact rf21) only [Option.bind_some, List.cons_append, List.nil_append, Nat.reduceAdd, Nat.reduceMul, Nat.reduceLeDiff, Nat.reduceEqDiff, ↓reduceIte, n24, u24_0, u24_1, u24_2, u24_3, u24_5, u24_6, u24_9, u24_12, u24_13, u24_16, u24_17, u24_18, u24_21, u24_22, u24_25, u24_26, u24_27, u24_28, u24_29, u24_30, u24_31, u24_34, u24_37, u24_38]
  exact cw_loop ho hI rfl (A 0 0) 0 (nI 0) (by omega)
theorem cl_loop {o : Nat} {w : Wd} {A : Gs} (ho : rfB o) (hI : Iv A) : ∀ (m a : Nat) (s : Int32), m + a = 10 → RUN 25 4 [some (.ref o), some (.int s), some (.int (nI a))] [] [] (putR w o A) = some ([.int (orS (fun a => decide (A 1 a = 0)) m a s)], putR w o A) := by
  intro m
  induction m with
  | zero =>
    intro a s hm
    have e : a = 10 := by omega
    subst e
    rw [u25_4]
    simp (disch := first | omega | decide | assumption | exact nI0_01 | exact nI1_01 | exact bz_01 _ | exact rf1 | exact rf11 | exact rf21) only [Option.bind_some, List.cons_append, List.nil_append, Nat.reduceAdd, Nat.reduceMul, Nat.reduceLeDiff, Nat.reduceEqDiff, ↓reduceIte, n25, u25_0, u25_1, u25_2, u25_3, u25_5, u25_7, u25_10, u25_11, u25_14, u25_15, u25_16, u25_19, u25_20, u25_21, u25_22, u25_23, u25_24, u25_25, u25_28, u25_31, u25_32, nn_le, Nat.le_refl]
    rfl
  | succ m ih =>
    intro a s hm
    have h1 : ¬ 10 ≤ a := by omega
    have hj := hI.2.1 a (by omega)
    rw [u25_4, orS]
    by_cases h2 : A 1 a = 0
    · simp (disch := first | omega | decide | assumption | exact nI0_01 | exact nI1_01 | exact bz_01 _ | exact rf1 | exact rf11 | exact rf21) only [Option.bind_some, List.cons_append, List.nil_append, Nat.reduceAdd, Nat.reduceMul, Nat.reduceLeDiff, Nat.reduceEqDiff, ↓reduceIte, n25, u25_0, u25_1, u25_2, u25_3, u25_5, u25_7, u25_10, u25_11, u25_14, u25_15, u25_16, u25_19, u25_20, u25_21, u25_22, u25_23, u25_24, u25_25, u25_28, u25_31, u25_32, nn_le, h1, if_false, nI_add, R_1, nn_eq0, h2, not_true_eq_false, decide_true]
      exact ih (a + 1) _ (by omega)
    · simp (disch := first | omega | decide | assumption | exact nI0_01 | exact nI1_01 | exact bz_01 _ | exact rf1 | exact rf11 | exact rf21) only [Option.bind_some, List.cons_append, List.nil_append, Nat.reduceAdd, Nat.reduceMul, Nat.reduceLeDiff, Nat.reduceEqDiff, ↓reduceIte, n25, u25_0, u25_1, u25_2, u25_3, u25_5, u25_7, u25_10, u25_11, u25_14, u25_15, u25_16, u25_19, u25_20, u25_21, u25_22, u25_23, u25_24, u25_25, u25_28, u25_31, u25_32, nn_le, h1, if_false, nI_add, R_1, nn_eq0, h2, not_false_eq_true, if_true, decide_false, Bool.false_eq_true]
      exact ih (a + 1) _ (by omega)
theorem c_lettersLacking {o : Nat} {w : Wd} {A : Gs} (ho : rfB o) (hI : Iv A) : CALL 25 [.ref o] (putR w o A) = some ([.int (orS (fun a => decide (A 1 a = 0)) 10 0 (nI 0))], putR w o A) := by
  simp (disch := first | omega | decide | assumption | exact nI0_01 | exact nI1_01 | exact bz_01 _ | exact rf1 | exact rf11 | exact rf21) only [Option.bind_some, List.cons_append, List.nil_append, Nat.reduceAdd, Nat.reduceMul, Nat.reduceLeDiff, Nat.reduceEqDiff, ↓reduceIte, n25, u25_0, u25_1, u25_2, u25_3, u25_5, u25_7, u25_10, u25_11, u25_14, u25_15, u25_16, u25_19, u25_20, u25_21, u25_22, u25_23, u25_24, u25_25, u25_28, u25_31, u25_32]
  exact cl_loop ho hI 10 0 (nI 0) (by omega)
theorem ct_loop {o n : Nat} {w : Wd} {A : Gs} (ho : rfB o) (hI : Iv A) (hN : A 0 0 = n) : ∀ (m a : Nat) (s : Int32), m + a = n → RUN 26 4 [some (.ref o), some (.int s), some (.int (nI a))] [] [] (putR w o A) = some ([.int (orS (fun a => decide (A 7 a = 0)) m a s)], putR w o A) := by
  intro m
  induction m with
  | zero =>
    intro a s hm
    have e : a = n := by omega
    subst e
    have h0 := hI.1
    rw [u26_4]
    simp (disch := first | omega | decide | assumption | exact nI0_01 | exact nI1_01 | exact bz_01 _ | exact rf1 | exact rf11 | exact rf21) only [Option.bind_some, List.cons_append, List.nil_append, Nat.reduceAdd, Nat.reduceMul, Nat.reduceLeDiff, Nat.reduceEqDiff, ↓reduceIte, n26, u26_0, u26_1, u26_2, u26_3, u26_5, u26_6, u26_9, u26_12, u26_13, u26_16, u26_17, u26_18, u26_21, u26_22, u26_23, u26_24, u26_25, u26_26, u26_27, u26_30, u26_33, u26_34, R_9, hN, nn_le, Nat.le_refl]
    rfl
  | succ m ih =>
    intro a s hm
    have h0 := hI.1
    have h1 : ¬ n ≤ a := by omega
    have hw := hI.2.2.2.2 a (by omega)
    rw [u26_4, orS]
    by_cases h2 : A 7 a = 0
    · simp (disch := first | omega | decide | assumption | exact nI0_01 | exact nI1_01 | exact bz_01 _ | exact rf1 | exact rf11 | exact rf21) only [Option.bind_some, List.cons_append, List.nil_append, Nat.reduceAdd, Nat.reduceMul, Nat.reduceLeDiff, Nat.reduceEqDiff, ↓reduceIte, n26, u26_0, u26_1, u26_2, u26_3, u26_5, u26_6, u26_9, u26_12, u26_13, u26_16, u26_17, u26_18, u26_21, u26_22, u26_23, u26_24, u26_25, u26_26, u26_27, u26_30, u26_33, u26_34, R_9, hN, nn_le, h1, if_false, nI_add, R_7, nn_eq0, h2, not_true_eq_false, decide_true]
      exact ih (a + 1) _ (by omega)
    · simp (disch := first | omega | decide | assumption | exact nI0_01 | exact nI1_01 | exact bz_01 _ | exact rf1 | exact rf11 | exact rf21) only [Option.bind_some, List.cons_append, List.nil_append, Nat.reduceAdd, Nat.reduceMul, Nat.reduceLeDiff, Nat.reduceEqDiff, ↓reduceIte, n26, u26_0, u26_1, u26_2, u26_3, u26_5, u26_6, u26_9, u26_12, u26_13, u26_16, u26_17, u26_18, u26_21, u26_22, u26_23, u26_24, u26_25, u26_26, u26_27, u26_30, u26_33, u26_34, R_9, hN, nn_le, h1, if_false, nI_add, R_7, nn_eq0, h2, not_false_eq_true, if_true, decide_false, Bool.false_eq_true]
      exact ih (a + 1) _ (by omega)
theorem c_writersWhoStarve {o : Nat} {w : Wd} {A : Gs} (ho : rfB o) (hI : Iv A) : CALL 26 [.ref o] (putR w o A) = some ([.int (orS (fun a => decide (A 7 a = 0)) (A 0 0) 0 (nI 0))], putR w o A) := by
  simp (disch := first | omega | decide | assumption | exact nI0_01 | exact nI1_01 | exact bz_01 _ | exact rf1 | exact rf11 | exact rf21) only [Option.bind_some, List.cons_append, List.nil_append, Nat.reduceAdd, Nat.reduceMul, Nat.reduceLeDiff, Nat.reduceEqDiff, ↓reduceIte, n26, u26_0, u26_1, u26_2, u26_3, u26_5, u26_6, u26_9, u26_12, u26_13, u26_16, u26_17, u26_18, u26_21, u26_22, u26_23, u26_24, u26_25, u26_26, u26_27, u26_30, u26_33, u26_34]
  exact ct_loop ho hI rfl (A 0 0) 0 (nI 0) (by omega)
theorem ch_loop {o : Nat} {w : Wd} {A : Gs} (ho : rfB o) : ∀ (m k s : Nat), m + k = 10 → RUN 27 4 [some (.ref o), some (.int (nI s)), some (.int (nI k))] [] [] (putR w o A) = some ([.int (nI (s + hld A m k))], putR w o A) := by
  intro m
  induction m with
  | zero =>
    intro k s hm
    have e : k = 10 := by omega
    subst e
    rw [u27_4]
    simp (disch := first | omega | decide | assumption | exact nI0_01 | exact nI1_01 | exact bz_01 _ | exact rf1 | exact rf11 | exact rf21) only [Option.bind_some, List.cons_append, List.nil_append, Nat.reduceAdd, Nat.reduceMul, Nat.reduceLeDiff, Nat.reduceEqDiff, ↓reduceIte, n27, u27_0, u27_1, u27_2, u27_3, u27_5, u27_7, u27_10, u27_11, u27_14, u27_15, u27_16, u27_19, u27_22, u27_25, u27_28, u27_29, nn_le, Nat.le_refl]
    rfl
  | succ m ih =>
    intro k s hm
    have h1 : ¬ 10 ≤ k := by omega
    rw [u27_4]
    by_cases h2 : 0 ≤ nI (A 9 k)
    · have h3 : ¬ nI (A 9 k) < 0 := Int32.not_lt.mpr h2
      simp (disch := first | omega | decide | assumption | exact nI0_01 | exact nI1_01 | exact bz_01 _ | exact rf1 | exact rf11 | exact rf21) only [Option.bind_some, List.cons_append, List.nil_append, Nat.reduceAdd, Nat.reduceMul, Nat.reduceLeDiff, Nat.reduceEqDiff, ↓reduceIte, n27, u27_0, u27_1, u27_2, u27_3, u27_5, u27_7, u27_10, u27_11, u27_14, u27_15, u27_16, u27_19, u27_22, u27_25, u27_28, u27_29, nn_le, h1, if_false, nI_add, R_99, h2, h3, if_true]
      rw [ih (k + 1) (s + 1) (by omega), hld, if_pos h2, Nat.add_assoc]
    · have h3 : nI (A 9 k) < 0 := Int32.not_le.mp h2
      simp (disch := first | omega | decide | assumption | exact nI0_01 | exact nI1_01 | exact bz_01 _ | exact rf1 | exact rf11 | exact rf21) only [Option.bind_some, List.cons_append, List.nil_append, Nat.reduceAdd, Nat.reduceMul, Nat.reduceLeDiff, Nat.reduceEqDiff, ↓reduceIte, n27, u27_0, u27_1, u27_2, u27_3, u27_5, u27_7, u27_10, u27_11, u27_14, u27_15, u27_16, u27_19, u27_22, u27_25, u27_28, u27_29, nn_le, h1, if_false, nI_add, R_99, h2, h3, if_true]
      rw [ih (k + 1) s (by omega), hld, if_neg h2, Nat.zero_add]
theorem c_spotsHeld {o : Nat} {w : Wd} {A : Gs} (ho : rfB o) : CALL 27 [.ref o] (putR w o A) = some ([.int (nI (hld A 10 0))], putR w o A) := by
  simp (disch := first | omega | decide | assumption | exact nI0_01 | exact nI1_01 | exact bz_01 _ | exact rf1 | exact rf11 | exact rf21) only [Option.bind_some, List.cons_append, List.nil_append, Nat.reduceAdd, Nat.reduceMul, Nat.reduceLeDiff, Nat.reduceEqDiff, ↓reduceIte, n27, u27_0, u27_1, u27_2, u27_3, u27_5, u27_7, u27_10, u27_11, u27_14, u27_15, u27_16, u27_19, u27_22, u27_25, u27_28, u27_29]
  rw [ch_loop ho 10 0 0 rfl, Nat.zero_add]
/-! WRITERS, WORDS, DRAWS -/
theorem c_isFull {o : Nat} {w : Wd} {A : Gs} (ho : rfB o) (h : A 0 0 ≤ 8) : CALL 8 [.ref o] (putR w o A) = some ([.int (bz (decide (A 0 0 = 8)))], putR w o A) := by
  by_cases h8 : A 0 0 = 8
  · simp (disch := first | omega | decide | assumption | exact nI0_01 | exact nI1_01 | exact bz_01 _ | exact rf1 | exact rf11 | exact rf21) only [Option.bind_some, List.cons_append, List.nil_append, Nat.reduceAdd, Nat.reduceMul, Nat.reduceLeDiff, Nat.reduceEqDiff, ↓reduceIte, n8, u8_0, u8_1, u8_4, u8_6, u8_9, u8_10, u8_13, u8_14, R_9, nn_lt, nn_le, h8, decide_true, bz_t, Nat.lt_irrefl, if_false]
  · have h1 : A 0 0 < 8 := by omega
    have h2 : ¬ 8 ≤ A 0 0 := by omega
    simp (disch := first | omega | decide | assumption | exact nI0_01 | exact nI1_01 | exact bz_01 _ | exact rf1 | exact rf11 | exact rf21) only [Option.bind_some, List.cons_append, List.nil_append, Nat.reduceAdd, Nat.reduceMul, Nat.reduceLeDiff, Nat.reduceEqDiff, ↓reduceIte, n8, u8_0, u8_1, u8_4, u8_6, u8_9, u8_10, u8_13, u8_14, R_9, nn_lt, nn_le, h8, h1, h2, decide_false, bz_f, if_true, if_false]
theorem c_addWriter {o k d f : Nat} {w : Wd} {A : Gs} (ho : rfB o) (h : A 0 0 < 8) : CALL 9 [.ref o, .int (nI k), .int (nI d), .int (nI f)] (putR w o A) = some ([.int (nI (A 0 0))], putR w o (comes A k d f)) := by
  have h8 : ¬ A 0 0 = 8 := by omega
  have h9 : A 0 0 ≤ 8 := by omega
  simp (disch := first | omega | decide | assumption | exact nI0_01 | exact nI1_01 | exact bz_01 _ | exact rf1 | exact rf11 | exact rf21) only [Option.bind_some, List.cons_append, List.nil_append, Nat.reduceAdd, Nat.reduceMul, Nat.reduceLeDiff, Nat.reduceEqDiff, ↓reduceIte, n9, u9_0, u9_1, u9_4, u9_7, u9_8, u9_9, u9_10, u9_13, u9_15, u9_16, u9_19, u9_21, u9_22, u9_23, u9_24, u9_27, u9_29, u9_30, u9_31, u9_32, u9_35, u9_37, u9_38, u9_39, u9_40, u9_43, u9_45, u9_46, u9_47, u9_48, u9_51, u9_53, u9_54, u9_55, u9_56, u9_58, u9_59, u9_60, u9_63, u9_65, c_isFull, h8, decide_false, bz_t, bz_f, nn_eq0, nn_eq, eq_self, not_true_eq_false, not_false_eq_true, R_9, R_s4, R_s5, R_s6, R_s7, R_s8, nI_add, R_s9]
  rfl
theorem c_putNextLetter {o a l : Nat} {w : Wd} {A : Gs} (ho : rfB o) (hI : Iv A) (ha : a < 8) (hl : l < 10) : CALL 14 [.ref o, .int (nI a), .int (nI l)] (putR w o A) = some ([], putR w o (up A 5 a (setdg (A 5 a) (A 6 a) l))) := by
  have hw := hI.2.2.2.2 a ha
  have hs := set_int (v := A 5 a) hw.2.2.1 hl
  have e0 : sv 54 0 = nI 1000 := rfl
  have e1 : sv 54 1 = nI 100 := rfl
  have e2 : sv 54 2 = nI 10 := rfl
  have e3 : sv 54 3 = nI 1 := rfl
  have et : sv 54 (A 6 a) = nI (tens (A 6 a)) := by rcases t_cases hw.2.2.1 with q | q | q | q <;> rw [q] <;> rfl
  simp (disch := first | omega | decide | assumption | exact nI0_01 | exact nI1_01 | exact bz_01 _ | exact rf1 | exact rf11 | exact rf21) only [Option.bind_some, List.cons_append, List.nil_append, Nat.reduceAdd, Nat.reduceMul, Nat.reduceLeDiff, Nat.reduceEqDiff, ↓reduceIte, n14, u14_0, u14_1, u14_4, u14_5, u14_6, u14_7, u14_8, u14_9, u14_10, u14_13, u14_14, u14_17, u14_18, u14_21, u14_22, u14_23, u14_24, u14_25, u14_26, u14_27, R_5, c_next ho hI, R_6, et, hs, R_s5]
theorem c_draw {o : Nat} {w : Wd} {A : Gs} (ho : rfB o) : CALL 15 [.ref o] (putR w o A) = some ([.int (nI (dr (zz A)))], putR w o (up A 0 2 (zz A))) := by
  have e : up A 0 2 (zz A) 0 2 = zz A := up_at _ _ _ _
  have ez : A 0 2 * 1103515245 + 12345 = zz A := rfl
  simp (disch := first | omega | decide | assumption | exact nI0_01 | exact nI1_01 | exact bz_01 _ | exact rf1 | exact rf11 | exact rf21) only [Option.bind_some, List.cons_append, List.nil_append, Nat.reduceAdd, Nat.reduceMul, Nat.reduceLeDiff, Nat.reduceEqDiff, ↓reduceIte, n15, u15_0, u15_1, u15_2, u15_5, u15_7, u15_8, u15_11, u15_12, u15_15, u15_16, u15_19, u15_21, u15_22, R_11, pk_mul, nI_add, ez, R_s11, e, ushr8]
