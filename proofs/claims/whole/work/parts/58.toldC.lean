/-! WHAT A SHEET TELLS, IN THE TRIAL -/
theorem gt_step {t a z : Nat} {row : Nat → Nat} {u : Wd} (ht : t < 4) (ha : a < 8) (hz : z ≤ 40) (h8 : u.1 (32 + 2 * t) 1 = nI z) (h9 : ∀ k, k < 40 → u.1 (32 + 2 * t + 1) k = nI (row k)) : ∀ (m k : Nat) (G : Gs), Iv G → m + k = z → 0 < k → G 0 1 ≤ 40000 + k → ∃ G', RUN 70 2 [some (.ref 0), some (.ref (32 + 2 * t)), some (.int (nI a)), some (.int (nI k))] [] [] (putR u 11 G) = some ([.int (bz (tld row a m k (day 0 G)))], putR u 11 G') := by
  have hs := sh_at ht
  have hal := al_at ht
  have h54 : 32 + 2 * t + 1 < 54 := by omega
  have e8 : ∀ G, (putR u 11 G).1 (32 + 2 * t) 1 = nI z := fun G => by rw [putR_ne _ _ (by omega)]; exact h8
  have e9 : ∀ G k, k < 40 → (putR u 11 G).1 (32 + 2 * t + 1) k = nI (row k) := fun G k hk => by rw [putR_ne _ _ (by omega)]; exact h9 k hk
  intro m
  induction m with
  | zero =>
    intro k G hI hm hk hd
    have e : k = z := by omega
    subst e
    refine ⟨G, ?_⟩
    rw [u70_2]
    simp (disch := first | omega | decide | assumption | exact nI0_01 | exact nI1_01 | exact bz_01 _ | exact rf1 | exact rf11 | exact rf21) only [Option.bind_some, List.cons_append, List.nil_append, Nat.reduceAdd, Nat.reduceMul, Nat.reduceLeDiff, Nat.reduceEqDiff, ↓reduceIte, n70, u70_0, u70_1, u70_3, u70_4, u70_7, u70_10, u70_11, u70_14, u70_15, u70_18, u70_19, u70_22, u70_23, u70_26, u70_27, u70_28, u70_29, u70_32, u70_33, u70_36, u70_37, u70_38, u70_39, u70_42, u70_45, u70_46, u70_47, u70_50, u70_51, u70_52, u70_55, u70_58, u70_59, e8, nn_le, Nat.le_refl, if_true, tld, bz_t]
  | succ m ih =>
    intro k G hI hm hk hd
    have h1 : ¬ z ≤ k := by omega
    have hk0 : ¬ k = 0 := by omega
    have h40 : k < 40 := by omega
    have hID := hI.day 0
    have h9' := e9 (day 0 G) k h40
    rw [u70_2, tld]
    simp (disch := first | omega | decide | assumption | exact nI0_01 | exact nI1_01 | exact bz_01 _ | exact rf1 | exact rf11 | exact rf21) only [Option.bind_some, List.cons_append, List.nil_append, Nat.reduceAdd, Nat.reduceMul, Nat.reduceLeDiff, Nat.reduceEqDiff, ↓reduceIte, u70_3, u70_4, u70_7, u70_10, u70_11, u70_14, u70_15, u70_18, u70_19, u70_22, u70_23, u70_26, e8, nn_le, nn_le0, h1, hk0, if_false, c_day rf11 hI]
    rw [u70_27 (o := 32 + 2 * t + 1) (n := 40) h54 hal h40 (by omega), h9']
    by_cases h2 : nI (row k) = -1
    · obtain ⟨G', h3⟩ := ih (k + 1) (day 0 G) hID (by omega) (by omega) (by rw [day_01]; omega)
      refine ⟨G', ?_⟩
      rw [if_pos (Or.inl h2)]
      simp (disch := first | omega | decide | assumption | exact nI0_01 | exact nI1_01 | exact bz_01 _ | exact rf1 | exact rf11 | exact rf21) only [Option.bind_some, List.cons_append, List.nil_append, Nat.reduceAdd, Nat.reduceMul, Nat.reduceLeDiff, Nat.reduceEqDiff, ↓reduceIte, u70_28, u70_29, u70_32, u70_33, u70_36, u70_37, u70_38, u70_39, u70_42, u70_45, u70_46, u70_47, u70_50, u70_51, u70_52, u70_55, u70_58, u70_59, h2, if_true, nI_add]
      exact h3
    · simp (disch := first | omega | decide | assumption | exact nI0_01 | exact nI1_01 | exact bz_01 _ | exact rf1 | exact rf11 | exact rf21) only [Option.bind_some, List.cons_append, List.nil_append, Nat.reduceAdd, Nat.reduceMul, Nat.reduceLeDiff, Nat.reduceEqDiff, ↓reduceIte, u70_28, u70_29, u70_32, u70_33, u70_36, h2, if_false]
      rw [u70_37 (o := 32 + 2 * t + 1) (n := 40) h54 hal h40 (by omega), h9']
      by_cases h4 : nI (row k) = nI (day 0 G 6 a)
      · obtain ⟨G', h3⟩ := ih (k + 1) (day 0 G) hID (by omega) (by omega) (by rw [day_01]; omega)
        refine ⟨G', ?_⟩
        rw [if_pos (Or.inr h4)]
        simp (disch := first | omega | decide | assumption | exact nI0_01 | exact nI1_01 | exact bz_01 _ | exact rf1 | exact rf11 | exact rf21) only [Option.bind_some, List.cons_append, List.nil_append, Nat.reduceAdd, Nat.reduceMul, Nat.reduceLeDiff, Nat.reduceEqDiff, ↓reduceIte, u70_38, u70_39, u70_42, u70_45, u70_46, u70_47, u70_50, u70_51, u70_52, u70_55, u70_58, u70_59, T_6, h4, if_true, nI_add]
        exact h3
      · refine ⟨day 0 G, ?_⟩
        rw [if_neg (by rintro (q | q); exact q; exact h4 q)]
        simp (disch := first | omega | decide | assumption | exact nI0_01 | exact nI1_01 | exact bz_01 _ | exact rf1 | exact rf11 | exact rf21) only [Option.bind_some, List.cons_append, List.nil_append, Nat.reduceAdd, Nat.reduceMul, Nat.reduceLeDiff, Nat.reduceEqDiff, ↓reduceIte, u70_38, u70_39, u70_42, u70_45, u70_46, u70_47, u70_50, u70_51, u70_52, u70_55, u70_58, u70_59, T_6, h4, if_false, bz_f]
theorem c_told {t a z : Nat} {row : Nat → Nat} {u : Wd} {G : Gs} (hI : Iv G) (hd : G 0 1 ≤ 40000) (ht : t < 4) (ha : a < 8) (hz : z ≤ 40) (h8 : u.1 (32 + 2 * t) 1 = nI z) (h9 : ∀ k, k < 40 → u.1 (32 + 2 * t + 1) k = nI (row k)) : ∃ G', CALL 70 [.ref 0, .ref (32 + 2 * t), .int (nI a)] (putR u 11 G) = some ([.int (bz (tld row a z 0 G))], putR u 11 G') := by
  have hs := sh_at ht
  have hal := al_at ht
  have h54 : 32 + 2 * t + 1 < 54 := by omega
  have e8 : (putR u 11 G).1 (32 + 2 * t) 1 = nI z := by rw [putR_ne _ _ (by omega)]; exact h8
  cases z with
  | zero =>
    refine ⟨G, ?_⟩
    simp (disch := first | omega | decide | assumption | exact nI0_01 | exact nI1_01 | exact bz_01 _ | exact rf1 | exact rf11 | exact rf21) only [Option.bind_some, List.cons_append, List.nil_append, Nat.reduceAdd, Nat.reduceMul, Nat.reduceLeDiff, Nat.reduceEqDiff, ↓reduceIte, u70_0, u70_1, n70]
    rw [u70_2]
    simp (disch := first | omega | decide | assumption | exact nI0_01 | exact nI1_01 | exact bz_01 _ | exact rf1 | exact rf11 | exact rf21) only [Option.bind_some, List.cons_append, List.nil_append, Nat.reduceAdd, Nat.reduceMul, Nat.reduceLeDiff, Nat.reduceEqDiff, ↓reduceIte, n70, u70_0, u70_1, u70_3, u70_4, u70_7, u70_10, u70_11, u70_14, u70_15, u70_18, u70_19, u70_22, u70_23, u70_26, u70_27, u70_28, u70_29, u70_32, u70_33, u70_36, u70_37, u70_38, u70_39, u70_42, u70_45, u70_46, u70_47, u70_50, u70_51, u70_52, u70_55, u70_58, u70_59, e8, nn_le, Nat.le_refl, if_true, tld, bz_t]
  | succ m =>
    have h9' : (putR u 11 G).1 (32 + 2 * t + 1) 0 = nI (row 0) := by rw [putR_ne _ _ (by omega)]; exact h9 0 (by omega)
    have h1 : ¬ m + 1 ≤ 0 := by omega
    simp (disch := first | omega | decide | assumption | exact nI0_01 | exact nI1_01 | exact bz_01 _ | exact rf1 | exact rf11 | exact rf21) only [Option.bind_some, List.cons_append, List.nil_append, Nat.reduceAdd, Nat.reduceMul, Nat.reduceLeDiff, Nat.reduceEqDiff, ↓reduceIte, u70_0, u70_1, n70]
    rw [u70_2, tld]
    simp (disch := first | omega | decide | assumption | exact nI0_01 | exact nI1_01 | exact bz_01 _ | exact rf1 | exact rf11 | exact rf21) only [Option.bind_some, List.cons_append, List.nil_append, Nat.reduceAdd, Nat.reduceMul, Nat.reduceLeDiff, Nat.reduceEqDiff, ↓reduceIte, u70_3, u70_4, u70_7, u70_10, u70_11, u70_14, u70_15, u70_18, u70_19, u70_22, u70_23, u70_26, e8, nn_le, nn_le0, h1, if_false, if_true]
    rw [u70_27 (o := 32 + 2 * t + 1) (n := 40) h54 hal (by omega) (by omega), h9']
    by_cases h2 : nI (row 0) = -1
    · obtain ⟨G', h3⟩ := gt_step ht ha hz h8 h9 m 1 G hI (by omega) (by omega) (by omega)
      refine ⟨G', ?_⟩
      rw [if_pos (Or.inl h2)]
      simp (disch := first | omega | decide | assumption | exact nI0_01 | exact nI1_01 | exact bz_01 _ | exact rf1 | exact rf11 | exact rf21) only [Option.bind_some, List.cons_append, List.nil_append, Nat.reduceAdd, Nat.reduceMul, Nat.reduceLeDiff, Nat.reduceEqDiff, ↓reduceIte, u70_28, u70_29, u70_32, u70_33, u70_36, u70_37, u70_38, u70_39, u70_42, u70_45, u70_46, u70_47, u70_50, u70_51, u70_52, u70_55, u70_58, u70_59, h2, if_true, nI_add]
      exact h3
    · simp (disch := first | omega | decide | assumption | exact nI0_01 | exact nI1_01 | exact bz_01 _ | exact rf1 | exact rf11 | exact rf21) only [Option.bind_some, List.cons_append, List.nil_append, Nat.reduceAdd, Nat.reduceMul, Nat.reduceLeDiff, Nat.reduceEqDiff, ↓reduceIte, u70_28, u70_29, u70_32, u70_33, u70_36, h2, if_false]
      rw [u70_37 (o := 32 + 2 * t + 1) (n := 40) h54 hal (by omega) (by omega), h9']
      by_cases h4 : nI (row 0) = nI (G 6 a)
      · obtain ⟨G', h3⟩ := gt_step ht ha hz h8 h9 m 1 G hI (by omega) (by omega) (by omega)
        refine ⟨G', ?_⟩
        rw [if_pos (Or.inr h4)]
        simp (disch := first | omega | decide | assumption | exact nI0_01 | exact nI1_01 | exact bz_01 _ | exact rf1 | exact rf11 | exact rf21) only [Option.bind_some, List.cons_append, List.nil_append, Nat.reduceAdd, Nat.reduceMul, Nat.reduceLeDiff, Nat.reduceEqDiff, ↓reduceIte, u70_38, u70_39, u70_42, u70_45, u70_46, u70_47, u70_50, u70_51, u70_52, u70_55, u70_58, u70_59, T_6, h4, if_true, nI_add]
        exact h3
      · refine ⟨G, ?_⟩
        rw [if_neg (by rintro (q | q); exact q; exact h4 q)]
        simp (disch := first | omega | decide | assumption | exact nI0_01 | exact nI1_01 | exact bz_01 _ | exact rf1 | exact rf11 | exact rf21) only [Option.bind_some, List.cons_append, List.nil_append, Nat.reduceAdd, Nat.reduceMul, Nat.reduceLeDiff, Nat.reduceEqDiff, ↓reduceIte, u70_38, u70_39, u70_42, u70_45, u70_46, u70_47, u70_50, u70_51, u70_52, u70_55, u70_58, u70_59, T_6, h4, if_false, bz_f]
theorem kk2_loop {t a : Nat} {A : Gs} (hI : Iv A) (hS : Shs A) (ht : t < 4) (ha : a < 8) (hd : A 0 1 ≤ 40000) : ∀ (m k : Nat) (s : Int32) (x3 : Option Value) (W : Wd), m + k = 7 → C A W → ∃ W', RUN 68 19 [some (.ref 0), some (.int (nI t)), some (.int (nI a)), x3, some (.int s), some (.int (nI k))] [] [] W = some ([.int (orS (fun l => tld (A (25 + t)) a (A 24 t) 0 (up A 4 a l)) m k s)], W') ∧ C A W' ∧ fC W W' := by
  have hs := sh_at ht
  intro m
  induction m with
  | zero =>
    intro k s x3 W hm hC
    have e : k = 7 := by omega
    subst e
    refine ⟨W, ?_, hC, fC.rf W⟩
    rw [u68_19]
    simp (disch := first | omega | decide | assumption | exact nI0_01 | exact nI1_01 | exact bz_01 _ | exact rf1 | exact rf11 | exact rf21) only [Option.bind_some, List.cons_append, List.nil_append, Nat.reduceAdd, Nat.reduceMul, Nat.reduceLeDiff, Nat.reduceEqDiff, ↓reduceIte, n68, u68_0, u68_1, u68_2, u68_3, u68_6, u68_7, u68_8, u68_11, u68_12, u68_13, u68_14, u68_16, u68_17, u68_21, u68_23, u68_26, u68_27, u68_30, u68_31, u68_34, u68_37, u68_38, u68_41, u68_44, u68_45, u68_47, u68_48, u68_49, u68_50, u68_53, u68_54, u68_55, u68_56, u68_59, u68_62, u68_64, u68_65, u68_67, u68_68, u68_69, u68_71, u68_74, u68_77, u68_79, nn_le, Nat.le_refl, if_true]
    rfl
  | succ m ih =>
    intro k s x3 W hm hC
    have h1 : ¬ 7 ≤ k := by omega
    have hI2 : Iv (up A 4 a k) := hI.uw (Or.inl ⟨rfl, by omega⟩)
    have e1 : up A 4 a k 0 1 ≤ 40000 := by rw [up_nc A (by omega)]; exact hd
    obtain ⟨u, g1, g2, g3⟩ := hC.trial
    obtain ⟨G', t1⟩ := c_told hI2 e1 ht ha (hS t ht).2 (g2.ssize ht) (fun k hk => g2.snum ht hk)
    rw [u68_19, orS]
    cases h2 : tld (A (25 + t)) a (A 24 t) 0 (up A 4 a k) with
    | true =>
      rw [h2] at t1
      obtain ⟨W', f1, f2, f3⟩ := ih (k + 1) (s ||| (nI 1 <<< (nI k &&& 31))) x3 _ (by omega) (g2.tri G')
      refine ⟨W', ?_, f2, (g3.pR (by omega) _).tr f3⟩
      simp (disch := first | omega | decide | assumption | exact nI0_01 | exact nI1_01 | exact bz_01 _ | exact rf1 | exact rf11 | exact rf21) only [Option.bind_some, List.cons_append, List.nil_append, Nat.reduceAdd, Nat.reduceMul, Nat.reduceLeDiff, Nat.reduceEqDiff, ↓reduceIte, n68, u68_0, u68_1, u68_2, u68_3, u68_6, u68_7, u68_8, u68_11, u68_12, u68_13, u68_14, u68_16, u68_17, u68_21, u68_23, u68_26, u68_27, u68_30, u68_31, u68_34, u68_37, u68_38, u68_41, u68_44, u68_45, u68_47, u68_48, u68_49, u68_50, u68_53, u68_54, u68_55, u68_56, u68_59, u68_62, u68_64, u68_65, u68_67, u68_68, u68_69, u68_71, u68_74, u68_77, u68_79, nn_le, h1, if_false, g1, T_s4, t1, bz_t, bz_f, nn_eq0, nn_eq, eq_self, not_true_eq_false, not_false_eq_true, nI_add]
      exact f1
    | false =>
      rw [h2] at t1
      obtain ⟨W', f1, f2, f3⟩ := ih (k + 1) s x3 _ (by omega) (g2.tri G')
      refine ⟨W', ?_, f2, (g3.pR (by omega) _).tr f3⟩
      simp (disch := first | omega | decide | assumption | exact nI0_01 | exact nI1_01 | exact bz_01 _ | exact rf1 | exact rf11 | exact rf21) only [Option.bind_some, List.cons_append, List.nil_append, Nat.reduceAdd, Nat.reduceMul, Nat.reduceLeDiff, Nat.reduceEqDiff, ↓reduceIte, n68, u68_0, u68_1, u68_2, u68_3, u68_6, u68_7, u68_8, u68_11, u68_12, u68_13, u68_14, u68_16, u68_17, u68_21, u68_23, u68_26, u68_27, u68_30, u68_31, u68_34, u68_37, u68_38, u68_41, u68_44, u68_45, u68_47, u68_48, u68_49, u68_50, u68_53, u68_54, u68_55, u68_56, u68_59, u68_62, u68_64, u68_65, u68_67, u68_68, u68_69, u68_71, u68_74, u68_77, u68_79, nn_le, h1, if_false, g1, T_s4, t1, bz_t, bz_f, nn_eq0, nn_eq, eq_self, not_true_eq_false, not_false_eq_true, nI_add, Bool.false_eq_true]
      exact f1
