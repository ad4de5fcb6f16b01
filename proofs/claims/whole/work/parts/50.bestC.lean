theorem kf_loop {f a v n : Nat} {A : Gs} (hI : Iv A) (ha : a < 8) (hf : f < 6) (hv : v ≤ 9999) (hn : n ≤ 40) (hd : A 0 1 ≤ 40000) : ∀ (m k : Nat) (W : Wd), m + k = 21 → C A W → ∃ W', RUN 62 44 [some (.ref 0), some (.int (nI f)), some (.int (nI a)), some (.int (nI v)), some (.int (nI n)), some (.int (nI k))] [] [] W = some ([.int (if fsk (fun k => decide (v ≤ days 0 n (up A 3 f k) 8 a)) m k ≤ 20 then nI (fsk (fun k => decide (v ≤ days 0 n (up A 3 f k) 8 a)) m k) else lo 3)], W') ∧ C (if fsk (fun k => decide (v ≤ days 0 n (up A 3 f k) 8 a)) m k ≤ 20 then A else fnd A 3) W' ∧ fC W W' := by
  intro m
  induction m with
  | zero =>
    intro k W hm hC
    have e : k = 21 := by omega
    subst e
    refine ⟨fndC W 3, ?_, ?_, (fC.rf W).fd 3⟩
    · have h1 : 20 < 21 := by omega
      rw [u62_44]
      simp (disch := first | omega | decide | assumption | exact nI0_01 | exact nI1_01 | exact bz_01 _ | exact rf1 | exact rf11 | exact rf21) only [Option.bind_some, List.cons_append, List.nil_append, Nat.reduceAdd, Nat.reduceMul, Nat.reduceLeDiff, Nat.reduceEqDiff, ↓reduceIte, n62, u62_0, u62_1, u62_4, u62_7, u62_8, u62_9, u62_12, u62_15, u62_16, u62_19, u62_22, u62_25, u62_27, u62_29, u62_32, u62_35, u62_36, u62_37, u62_40, u62_41, u62_42, u62_46, u62_48, u62_51, u62_52, u62_55, u62_56, u62_59, u62_62, u62_63, u62_66, u62_69, u62_70, u62_72, u62_73, u62_74, u62_77, u62_79, u62_80, u62_83, u62_84, u62_87, u62_90, u62_91, u62_92, u62_93, u62_96, u62_98, u62_99, u62_102, u62_105, u62_106, u62_107, u62_110, nn_lt, h1, if_true, c_finding, fsk]
    · rw [fsk, if_neg (by omega)]
      exact C_fnd hC (by omega)
  | succ m ih =>
    intro k W hm hC
    have h1 : ¬ 20 < k := by omega
    have hI2 : Iv (up A 3 f k) := hI.u3 (by omega)
    have e1 : up A 3 f k 0 1 = A 0 1 := up_nc A (by omega)
    have hw := (Iv.days 0 n hI2).2.2.2.2 a ha
    obtain ⟨u, g1, g2, g3⟩ := hC.trial
    rw [u62_44, fsk]
    by_cases h2 : v ≤ days 0 n (up A 3 f k) 8 a
    · have h3 : ¬ days 0 n (up A 3 f k) 8 a < v := by omega
      have h4 : k ≤ 20 := by omega
      refine ⟨_, ?_, ?_, g3.pR (show 11 ≤ 21 by omega) (days 0 n (up A 3 f k))⟩
      · simp (disch := first | omega | decide | assumption | exact nI0_01 | exact nI1_01 | exact bz_01 _ | exact rf1 | exact rf11 | exact rf21) only [Option.bind_some, List.cons_append, List.nil_append, Nat.reduceAdd, Nat.reduceMul, Nat.reduceLeDiff, Nat.reduceEqDiff, ↓reduceIte, n62, u62_0, u62_1, u62_4, u62_7, u62_8, u62_9, u62_12, u62_15, u62_16, u62_19, u62_22, u62_25, u62_27, u62_29, u62_32, u62_35, u62_36, u62_37, u62_40, u62_41, u62_42, u62_46, u62_48, u62_51, u62_52, u62_55, u62_56, u62_59, u62_62, u62_63, u62_66, u62_69, u62_70, u62_72, u62_73, u62_74, u62_77, u62_79, u62_80, u62_83, u62_84, u62_87, u62_90, u62_91, u62_92, u62_93, u62_96, u62_98, u62_99, u62_102, u62_105, u62_106, u62_107, u62_110, nn_lt, nn_le, h1, if_false, g1, T_s3, c_passDays rf11 hI2, T_8, h2, h3, decide_true, if_true, h4]
      · simp only [h2, decide_true, if_true, h4]
        exact g2.tri _
    · have h3 : days 0 n (up A 3 f k) 8 a < v := by omega
      obtain ⟨W', f1, f2, f3⟩ := ih (k + 1) _ (by omega) (g2.tri (days 0 n (up A 3 f k)))
      refine ⟨W', ?_, ?_, (g3.pR (by omega) _).tr f3⟩
      · simp (disch := first | omega | decide | assumption | exact nI0_01 | exact nI1_01 | exact bz_01 _ | exact rf1 | exact rf11 | exact rf21) only [Option.bind_some, List.cons_append, List.nil_append, Nat.reduceAdd, Nat.reduceMul, Nat.reduceLeDiff, Nat.reduceEqDiff, ↓reduceIte, n62, u62_0, u62_1, u62_4, u62_7, u62_8, u62_9, u62_12, u62_15, u62_16, u62_19, u62_22, u62_25, u62_27, u62_29, u62_32, u62_35, u62_36, u62_37, u62_40, u62_41, u62_42, u62_46, u62_48, u62_51, u62_52, u62_55, u62_56, u62_59, u62_62, u62_63, u62_66, u62_69, u62_70, u62_72, u62_73, u62_74, u62_77, u62_79, u62_80, u62_83, u62_84, u62_87, u62_90, u62_91, u62_92, u62_93, u62_96, u62_98, u62_99, u62_102, u62_105, u62_106, u62_107, u62_110, nn_lt, nn_le, h1, if_false, g1, T_s3, c_passDays rf11 hI2, T_8, h2, h3, decide_false, Bool.false_eq_true, if_true, nI_add]
        exact f1
      · simp only [h2, decide_false, Bool.false_eq_true, if_false]
        exact f2
theorem k_fewest {A : Gs} {w : Wd} {x y v n : Int32} (h : C A w) (hI : Iv A) (hd : A 0 1 ≤ 40000) : opC 62 [.int x, .int y, .int v, .int n] (o_fewest A x y v n) w := by
  have h0 := hI.1
  unfold o_fewest
  rcases ok_case x 5 (by omega) with ⟨k, hk, rfl, ek, ik⟩ | ek
  · try simp only [ik]
    rcases isW_case A y hI.1 with ⟨a, na, ha, rfl, ea, ia⟩ | ea
    · try simp only [ia]
      rcases ok_case v 9999 (by omega) with ⟨m, hm, rfl, em, im⟩ | em
      · try simp only [im]
        rcases ok_case n 40 (by omega) with ⟨j, hj, rfl, ej, ij⟩ | ej
        · try simp only [ij]
          rw [if_pos (by simp [ek, ea, em, ej])]
          obtain ⟨W', f1, f2, f3⟩ := kf_loop hI ha (show k < 6 by omega) hm hj hd 21 0 w rfl h
          refine ⟨W', ?_, ?_, f3⟩
          · simp (disch := first | omega | decide | assumption | exact nI0_01 | exact nI1_01 | exact bz_01 _ | exact rf1 | exact rf11 | exact rf21) only [Option.bind_some, List.cons_append, List.nil_append, Nat.reduceAdd, Nat.reduceMul, Nat.reduceLeDiff, Nat.reduceEqDiff, ↓reduceIte, u62_0, u62_1, u62_4, u62_7, u62_8, u62_9, u62_12, u62_15, u62_16, u62_19, u62_22, u62_25, u62_27, u62_29, u62_32, u62_35, u62_36, u62_37, u62_40, u62_41, u62_42, n62, c_isFish, h.isW hI, c_within, ek, ea, em, ej, bz_t, bz_f, nn_eq0, nn_eq, eq_self, not_true_eq_false, not_false_eq_true]
            rw [f1]
            split <;> rfl
          · split
            · rename_i q; rw [if_pos q] at f2; exact f2
            · rename_i q; rw [if_neg q] at f2; exact f2
        · rw [if_neg (by simp [ej])]
          refine opC_bad h (by omega) ?_
          simp (disch := first | omega | decide | assumption | exact nI0_01 | exact nI1_01 | exact bz_01 _ | exact rf1 | exact rf11 | exact rf21) only [Option.bind_some, List.cons_append, List.nil_append, Nat.reduceAdd, Nat.reduceMul, Nat.reduceLeDiff, Nat.reduceEqDiff, ↓reduceIte, n62, u62_0, u62_1, u62_4, u62_7, u62_8, u62_9, u62_12, u62_15, u62_16, u62_19, u62_22, u62_25, u62_27, u62_29, u62_32, u62_35, u62_36, u62_37, u62_40, u62_41, u62_42, u62_46, u62_48, u62_51, u62_52, u62_55, u62_56, u62_59, u62_62, u62_63, u62_66, u62_69, u62_70, u62_72, u62_73, u62_74, u62_77, u62_79, u62_80, u62_83, u62_84, u62_87, u62_90, u62_91, u62_92, u62_93, u62_96, u62_98, u62_99, u62_102, u62_105, u62_106, u62_107, u62_110, c_isFish, h.isW hI, c_within, ek, ea, em, ej, bz_t, bz_f, nn_eq0, nn_eq, eq_self, not_true_eq_false, not_false_eq_true, c_finding]
      · rw [if_neg (by simp [em])]
        refine opC_bad h (by omega) ?_
        simp (disch := first | omega | decide | assumption | exact nI0_01 | exact nI1_01 | exact bz_01 _ | exact rf1 | exact rf11 | exact rf21) only [Option.bind_some, List.cons_append, List.nil_append, Nat.reduceAdd, Nat.reduceMul, Nat.reduceLeDiff, Nat.reduceEqDiff, ↓reduceIte, n62, u62_0, u62_1, u62_4, u62_7, u62_8, u62_9, u62_12, u62_15, u62_16, u62_19, u62_22, u62_25, u62_27, u62_29, u62_32, u62_35, u62_36, u62_37, u62_40, u62_41, u62_42, u62_46, u62_48, u62_51, u62_52, u62_55, u62_56, u62_59, u62_62, u62_63, u62_66, u62_69, u62_70, u62_72, u62_73, u62_74, u62_77, u62_79, u62_80, u62_83, u62_84, u62_87, u62_90, u62_91, u62_92, u62_93, u62_96, u62_98, u62_99, u62_102, u62_105, u62_106, u62_107, u62_110, c_isFish, h.isW hI, c_within, ek, ea, em, bz_t, bz_f, nn_eq0, nn_eq, eq_self, not_true_eq_false, not_false_eq_true, c_finding]
    · rw [if_neg (by simp [ea])]
      refine opC_bad h (by omega) ?_
      simp (disch := first | omega | decide | assumption | exact nI0_01 | exact nI1_01 | exact bz_01 _ | exact rf1 | exact rf11 | exact rf21) only [Option.bind_some, List.cons_append, List.nil_append, Nat.reduceAdd, Nat.reduceMul, Nat.reduceLeDiff, Nat.reduceEqDiff, ↓reduceIte, n62, u62_0, u62_1, u62_4, u62_7, u62_8, u62_9, u62_12, u62_15, u62_16, u62_19, u62_22, u62_25, u62_27, u62_29, u62_32, u62_35, u62_36, u62_37, u62_40, u62_41, u62_42, u62_46, u62_48, u62_51, u62_52, u62_55, u62_56, u62_59, u62_62, u62_63, u62_66, u62_69, u62_70, u62_72, u62_73, u62_74, u62_77, u62_79, u62_80, u62_83, u62_84, u62_87, u62_90, u62_91, u62_92, u62_93, u62_96, u62_98, u62_99, u62_102, u62_105, u62_106, u62_107, u62_110, c_isFish, h.isW hI, c_within, ek, ea, bz_t, bz_f, nn_eq0, nn_eq, eq_self, not_true_eq_false, not_false_eq_true, c_finding]
  · rw [if_neg (by simp [ek])]
    refine opC_bad h (by omega) ?_
    simp (disch := first | omega | decide | assumption | exact nI0_01 | exact nI1_01 | exact bz_01 _ | exact rf1 | exact rf11 | exact rf21) only [Option.bind_some, List.cons_append, List.nil_append, Nat.reduceAdd, Nat.reduceMul, Nat.reduceLeDiff, Nat.reduceEqDiff, ↓reduceIte, n62, u62_0, u62_1, u62_4, u62_7, u62_8, u62_9, u62_12, u62_15, u62_16, u62_19, u62_22, u62_25, u62_27, u62_29, u62_32, u62_35, u62_36, u62_37, u62_40, u62_41, u62_42, u62_46, u62_48, u62_51, u62_52, u62_55, u62_56, u62_59, u62_62, u62_63, u62_66, u62_69, u62_70, u62_72, u62_73, u62_74, u62_77, u62_79, u62_80, u62_83, u62_84, u62_87, u62_90, u62_91, u62_92, u62_93, u62_96, u62_98, u62_99, u62_102, u62_105, u62_106, u62_107, u62_110, c_isFish, h.isW hI, c_within, ek, bz_t, bz_f, nn_eq0, nn_eq, eq_self, not_true_eq_false, not_false_eq_true, c_finding]
theorem kk_loop {a n : Nat} {A : Gs} (hI : Iv A) (ha : a < 8) (hn : n ≤ 40) (hd : A 0 1 ≤ 40000) : ∀ (m k : Nat) (b t : Int32) (W : Wd), m + k = 7 → C A W → ∃ W', RUN 64 31 [some (.ref 0), some (.int (nI a)), some (.int (nI n)), some (.int b), some (.int t), some (.int (nI k))] [] [] W = some ([.int (bst (fun k => nI (days 0 n (up A 4 a k) 8 a)) m k b t)], W') ∧ C A W' ∧ fC W W' := by
  intro m
  induction m with
  | zero =>
    intro k b t W hm hC
    have e : k = 7 := by omega
    subst e
    refine ⟨W, ?_, hC, fC.rf W⟩
    rw [u64_31]
    simp (disch := first | omega | decide | assumption | exact nI0_01 | exact nI1_01 | exact bz_01 _ | exact rf1 | exact rf11 | exact rf21) only [Option.bind_some, List.cons_append, List.nil_append, Nat.reduceAdd, Nat.reduceMul, Nat.reduceLeDiff, Nat.reduceEqDiff, ↓reduceIte, n64, u64_0, u64_1, u64_2, u64_5, u64_8, u64_9, u64_11, u64_14, u64_17, u64_18, u64_19, u64_22, u64_23, u64_24, u64_25, u64_26, u64_28, u64_29, u64_33, u64_35, u64_38, u64_39, u64_42, u64_43, u64_46, u64_49, u64_50, u64_53, u64_56, u64_57, u64_59, u64_60, u64_61, u64_64, u64_65, u64_66, u64_69, u64_70, u64_73, u64_76, u64_77, u64_78, u64_80, u64_83, u64_84, u64_87, u64_90, u64_91, u64_92, u64_94, u64_96, u64_97, u64_100, u64_103, u64_104, nn_le, Nat.le_refl, if_true]
    rfl
  | succ m ih =>
    intro k b t W hm hC
    have h1 : ¬ 7 ≤ k := by omega
    have hI2 : Iv (up A 4 a k) := hI.uw (Or.inl ⟨rfl, by omega⟩)
    have e1 : up A 4 a k 0 1 = A 0 1 := up_nc A (by omega)
    obtain ⟨u, g1, g2, g3⟩ := hC.trial
    rw [u64_31, bst]
    by_cases h2 : t < nI (days 0 n (up A 4 a k) 8 a)
    · have h3 := Int32.not_le.mpr h2
      obtain ⟨W', f1, f2, f3⟩ := ih (k + 1) (nI k) (nI (days 0 n (up A 4 a k) 8 a)) _ (by omega) (g2.tri (days 0 n (up A 4 a k)))
      refine ⟨W', ?_, f2, (g3.pR (by omega) _).tr f3⟩
      rw [if_pos h2, if_pos h2]
      simp (disch := first | omega | decide | assumption | exact nI0_01 | exact nI1_01 | exact bz_01 _ | exact rf1 | exact rf11 | exact rf21) only [Option.bind_some, List.cons_append, List.nil_append, Nat.reduceAdd, Nat.reduceMul, Nat.reduceLeDiff, Nat.reduceEqDiff, ↓reduceIte, n64, u64_0, u64_1, u64_2, u64_5, u64_8, u64_9, u64_11, u64_14, u64_17, u64_18, u64_19, u64_22, u64_23, u64_24, u64_25, u64_26, u64_28, u64_29, u64_33, u64_35, u64_38, u64_39, u64_42, u64_43, u64_46, u64_49, u64_50, u64_53, u64_56, u64_57, u64_59, u64_60, u64_61, u64_64, u64_65, u64_66, u64_69, u64_70, u64_73, u64_76, u64_77, u64_78, u64_80, u64_83, u64_84, u64_87, u64_90, u64_91, u64_92, u64_94, u64_96, u64_97, u64_100, u64_103, u64_104, nn_le, h1, if_false, g1, T_s4, c_passDays rf11 hI2, T_8, h3, nI_add]
      exact f1
    · have h3 := Int32.not_lt.mp h2
      obtain ⟨W', f1, f2, f3⟩ := ih (k + 1) b t _ (by omega) (g2.tri (days 0 n (up A 4 a k)))
      refine ⟨W', ?_, f2, (g3.pR (by omega) _).tr f3⟩
      rw [if_neg h2, if_neg h2]
      simp (disch := first | omega | decide | assumption | exact nI0_01 | exact nI1_01 | exact bz_01 _ | exact rf1 | exact rf11 | exact rf21) only [Option.bind_some, List.cons_append, List.nil_append, Nat.reduceAdd, Nat.reduceMul, Nat.reduceLeDiff, Nat.reduceEqDiff, ↓reduceIte, n64, u64_0, u64_1, u64_2, u64_5, u64_8, u64_9, u64_11, u64_14, u64_17, u64_18, u64_19, u64_22, u64_23, u64_24, u64_25, u64_26, u64_28, u64_29, u64_33, u64_35, u64_38, u64_39, u64_42, u64_43, u64_46, u64_49, u64_50, u64_53, u64_56, u64_57, u64_59, u64_60, u64_61, u64_64, u64_65, u64_66, u64_69, u64_70, u64_73, u64_76, u64_77, u64_78, u64_80, u64_83, u64_84, u64_87, u64_90, u64_91, u64_92, u64_94, u64_96, u64_97, u64_100, u64_103, u64_104, nn_le, h1, if_false, g1, T_s4, c_passDays rf11 hI2, T_8, h3, if_true, nI_add]
      exact f1
theorem k_kindFor {A : Gs} {w : Wd} {x n : Int32} (h : C A w) (hI : Iv A) (hd : A 0 1 ≤ 40000) : opC 64 [.int x, .int n] (o_kindFor A x n) w := by
  have h0 := hI.1
  unfold o_kindFor
  rcases isW_case A x hI.1 with ⟨k, nk, hk, rfl, ek, ik⟩ | ek
  · try simp only [ik]
    rcases ok_case n 40 (by omega) with ⟨m, hm, rfl, em, im⟩ | em
    · try simp only [im]
      rw [if_pos (by simp [ek, em])]
      obtain ⟨W', f1, f2, f3⟩ := kk_loop hI hk hm hd 7 0 (nI 0) (-1) w rfl h
      refine ⟨W', ?_, f2, f3⟩
      simp (disch := first | omega | decide | assumption | exact nI0_01 | exact nI1_01 | exact bz_01 _ | exact rf1 | exact rf11 | exact rf21) only [Option.bind_some, List.cons_append, List.nil_append, Nat.reduceAdd, Nat.reduceMul, Nat.reduceLeDiff, Nat.reduceEqDiff, ↓reduceIte, u64_0, u64_1, u64_2, u64_5, u64_8, u64_9, u64_11, u64_14, u64_17, u64_18, u64_19, u64_22, u64_23, u64_24, u64_25, u64_26, u64_28, u64_29, n64, h.isW hI, c_within, ek, em, bz_t, bz_f, nn_eq0, nn_eq, eq_self, not_true_eq_false, not_false_eq_true]
      exact f1
    · rw [if_neg (by simp [em])]
      refine opC_bad h (by omega) ?_
      simp (disch := first | omega | decide | assumption | exact nI0_01 | exact nI1_01 | exact bz_01 _ | exact rf1 | exact rf11 | exact rf21) only [Option.bind_some, List.cons_append, List.nil_append, Nat.reduceAdd, Nat.reduceMul, Nat.reduceLeDiff, Nat.reduceEqDiff, ↓reduceIte, n64, u64_0, u64_1, u64_2, u64_5, u64_8, u64_9, u64_11, u64_14, u64_17, u64_18, u64_19, u64_22, u64_23, u64_24, u64_25, u64_26, u64_28, u64_29, u64_33, u64_35, u64_38, u64_39, u64_42, u64_43, u64_46, u64_49, u64_50, u64_53, u64_56, u64_57, u64_59, u64_60, u64_61, u64_64, u64_65, u64_66, u64_69, u64_70, u64_73, u64_76, u64_77, u64_78, u64_80, u64_83, u64_84, u64_87, u64_90, u64_91, u64_92, u64_94, u64_96, u64_97, u64_100, u64_103, u64_104, h.isW hI, c_within, ek, em, bz_t, bz_f, nn_eq0, nn_eq, eq_self, not_true_eq_false, not_false_eq_true, c_finding]
  · rw [if_neg (by simp [ek])]
    refine opC_bad h (by omega) ?_
    simp (disch := first | omega | decide | assumption | exact nI0_01 | exact nI1_01 | exact bz_01 _ | exact rf1 | exact rf11 | exact rf21) only [Option.bind_some, List.cons_append, List.nil_append, Nat.reduceAdd, Nat.reduceMul, Nat.reduceLeDiff, Nat.reduceEqDiff, ↓reduceIte, n64, u64_0, u64_1, u64_2, u64_5, u64_8, u64_9, u64_11, u64_14, u64_17, u64_18, u64_19, u64_22, u64_23, u64_24, u64_25, u64_26, u64_28, u64_29, u64_33, u64_35, u64_38, u64_39, u64_42, u64_43, u64_46, u64_49, u64_50, u64_53, u64_56, u64_57, u64_59, u64_60, u64_61, u64_64, u64_65, u64_66, u64_69, u64_70, u64_73, u64_76, u64_77, u64_78, u64_80, u64_83, u64_84, u64_87, u64_90, u64_91, u64_92, u64_94, u64_96, u64_97, u64_100, u64_103, u64_104, h.isW hI, c_within, ek, bz_t, bz_f, nn_eq0, nn_eq, eq_self, not_true_eq_false, not_false_eq_true, c_finding]
theorem kl_loop {a n : Nat} {A : Gs} (hI : Iv A) (ha : a < 8) (hn : n ≤ 40) (hd : A 0 1 ≤ 40000) : ∀ (m l : Nat) (b t : Int32) (W : Wd), m + l = 10 → C A W → ∃ W', RUN 63 31 [some (.ref 0), some (.int (nI a)), some (.int (nI n)), some (.int b), some (.int t), some (.int (nI l))] [] [] W = some ([.int (bst (fun l => nI (days 0 n (up A 5 a (setdg (A 5 a) (A 6 a) l)) 8 a)) m l b t)], W') ∧ C A W' ∧ fC W W' := by
  have hw := hI.2.2.2.2 a ha
  intro m
  induction m with
  | zero =>
    intro l b t W hm hC
    have e : l = 10 := by omega
    subst e
    refine ⟨W, ?_, hC, fC.rf W⟩
    rw [u63_31]
    simp (disch := first | omega | decide | assumption | exact nI0_01 | exact nI1_01 | exact bz_01 _ | exact rf1 | exact rf11 | exact rf21) only [Option.bind_some, List.cons_append, List.nil_append, Nat.reduceAdd, Nat.reduceMul, Nat.reduceLeDiff, Nat.reduceEqDiff, ↓reduceIte, n63, u63_0, u63_1, u63_2, u63_5, u63_8, u63_9, u63_11, u63_14, u63_17, u63_18, u63_19, u63_22, u63_23, u63_24, u63_25, u63_26, u63_28, u63_29, u63_33, u63_35, u63_38, u63_39, u63_42, u63_43, u63_46, u63_49, u63_50, u63_53, u63_54, u63_56, u63_59, u63_60, u63_63, u63_64, u63_65, u63_68, u63_69, u63_72, u63_75, u63_76, u63_77, u63_79, u63_82, u63_83, u63_86, u63_89, u63_90, u63_91, u63_93, u63_95, u63_96, u63_99, u63_102, u63_103, nn_le, Nat.le_refl, if_true]
    rfl
  | succ m ih =>
    intro l b t W hm hC
    have h1 : ¬ 10 ≤ l := by omega
    have hsl := setdg_lt (v := A 5 a) (p := A 6 a) (l := l) (by omega) hw.2.2.1 (by omega)
    have hI2 : Iv (up A 5 a (setdg (A 5 a) (A 6 a) l)) := hI.uw (Or.inr (Or.inl ⟨rfl, by omega⟩))
    have e1 : up A 5 a (setdg (A 5 a) (A 6 a) l) 0 1 = A 0 1 := up_nc A (by omega)
    obtain ⟨u, g1, g2, g3⟩ := hC.trial
    rw [u63_31, bst]
    by_cases h2 : t < nI (days 0 n (up A 5 a (setdg (A 5 a) (A 6 a) l)) 8 a)
    · have h3 := Int32.not_le.mpr h2
      obtain ⟨W', f1, f2, f3⟩ := ih (l + 1) (nI l) (nI (days 0 n (up A 5 a (setdg (A 5 a) (A 6 a) l)) 8 a)) _ (by omega) (g2.tri (days 0 n (up A 5 a (setdg (A 5 a) (A 6 a) l))))
      refine ⟨W', ?_, f2, (g3.pR (by omega) _).tr f3⟩
      rw [if_pos h2, if_pos h2]
      simp (disch := first | omega | decide | assumption | exact nI0_01 | exact nI1_01 | exact bz_01 _ | exact rf1 | exact rf11 | exact rf21) only [Option.bind_some, List.cons_append, List.nil_append, Nat.reduceAdd, Nat.reduceMul, Nat.reduceLeDiff, Nat.reduceEqDiff, ↓reduceIte, n63, u63_0, u63_1, u63_2, u63_5, u63_8, u63_9, u63_11, u63_14, u63_17, u63_18, u63_19, u63_22, u63_23, u63_24, u63_25, u63_26, u63_28, u63_29, u63_33, u63_35, u63_38, u63_39, u63_42, u63_43, u63_46, u63_49, u63_50, u63_53, u63_54, u63_56, u63_59, u63_60, u63_63, u63_64, u63_65, u63_68, u63_69, u63_72, u63_75, u63_76, u63_77, u63_79, u63_82, u63_83, u63_86, u63_89, u63_90, u63_91, u63_93, u63_95, u63_96, u63_99, u63_102, u63_103, nn_le, h1, if_false, g1, c_putNextLetter rf11 hI, c_passDays rf11 hI2, T_8, h3, nI_add]
      exact f1
    · have h3 := Int32.not_lt.mp h2
      obtain ⟨W', f1, f2, f3⟩ := ih (l + 1) b t _ (by omega) (g2.tri (days 0 n (up A 5 a (setdg (A 5 a) (A 6 a) l))))
      refine ⟨W', ?_, f2, (g3.pR (by omega) _).tr f3⟩
      rw [if_neg h2, if_neg h2]
      simp (disch := first | omega | decide | assumption | exact nI0_01 | exact nI1_01 | exact bz_01 _ | exact rf1 | exact rf11 | exact rf21) only [Option.bind_some, List.cons_append, List.nil_append, Nat.reduceAdd, Nat.reduceMul, Nat.reduceLeDiff, Nat.reduceEqDiff, ↓reduceIte, n63, u63_0, u63_1, u63_2, u63_5, u63_8, u63_9, u63_11, u63_14, u63_17, u63_18, u63_19, u63_22, u63_23, u63_24, u63_25, u63_26, u63_28, u63_29, u63_33, u63_35, u63_38, u63_39, u63_42, u63_43, u63_46, u63_49, u63_50, u63_53, u63_54, u63_56, u63_59, u63_60, u63_63, u63_64, u63_65, u63_68, u63_69, u63_72, u63_75, u63_76, u63_77, u63_79, u63_82, u63_83, u63_86, u63_89, u63_90, u63_91, u63_93, u63_95, u63_96, u63_99, u63_102, u63_103, nn_le, h1, if_false, g1, c_putNextLetter rf11 hI, c_passDays rf11 hI2, T_8, h3, if_true, nI_add]
      exact f1
theorem k_letterFor {A : Gs} {w : Wd} {x n : Int32} (h : C A w) (hI : Iv A) (hd : A 0 1 ≤ 40000) : opC 63 [.int x, .int n] (o_letterFor A x n) w := by
  have h0 := hI.1
  unfold o_letterFor
  rcases isW_case A x hI.1 with ⟨k, nk, hk, rfl, ek, ik⟩ | ek
  · try simp only [ik]
    rcases ok_case n 40 (by omega) with ⟨m, hm, rfl, em, im⟩ | em
    · try simp only [im]
      rw [if_pos (by simp [ek, em])]
      obtain ⟨W', f1, f2, f3⟩ := kl_loop hI hk hm hd 10 0 (nI 0) (-1) w rfl h
      refine ⟨W', ?_, f2, f3⟩
      simp (disch := first | omega | decide | assumption | exact nI0_01 | exact nI1_01 | exact bz_01 _ | exact rf1 | exact rf11 | exact rf21) only [Option.bind_some, List.cons_append, List.nil_append, Nat.reduceAdd, Nat.reduceMul, Nat.reduceLeDiff, Nat.reduceEqDiff, ↓reduceIte, u63_0, u63_1, u63_2, u63_5, u63_8, u63_9, u63_11, u63_14, u63_17, u63_18, u63_19, u63_22, u63_23, u63_24, u63_25, u63_26, u63_28, u63_29, n63, h.isW hI, c_within, ek, em, bz_t, bz_f, nn_eq0, nn_eq, eq_self, not_true_eq_false, not_false_eq_true]
      exact f1
    · rw [if_neg (by simp [em])]
      refine opC_bad h (by omega) ?_
      simp (disch := first | omega | decide | assumption | exact nI0_01 | exact nI1_01 | exact bz_01 _ | exact rf1 | exact rf11 | exact rf21) only [Option.bind_some, List.cons_append, List.nil_append, Nat.reduceAdd, Nat.reduceMul, Nat.reduceLeDiff, Nat.reduceEqDiff, ↓reduceIte, n63, u63_0, u63_1, u63_2, u63_5, u63_8, u63_9, u63_11, u63_14, u63_17, u63_18, u63_19, u63_22, u63_23, u63_24, u63_25, u63_26, u63_28, u63_29, u63_33, u63_35, u63_38, u63_39, u63_42, u63_43, u63_46, u63_49, u63_50, u63_53, u63_54, u63_56, u63_59, u63_60, u63_63, u63_64, u63_65, u63_68, u63_69, u63_72, u63_75, u63_76, u63_77, u63_79, u63_82, u63_83, u63_86, u63_89, u63_90, u63_91, u63_93, u63_95, u63_96, u63_99, u63_102, u63_103, h.isW hI, c_within, ek, em, bz_t, bz_f, nn_eq0, nn_eq, eq_self, not_true_eq_false, not_false_eq_true, c_finding]
  · rw [if_neg (by simp [ek])]
    refine opC_bad h (by omega) ?_
    simp (disch := first | omega | decide | assumption | exact nI0_01 | exact nI1_01 | exact bz_01 _ | exact rf1 | exact rf11 | exact rf21) only [Option.bind_some, List.cons_append, List.nil_append, Nat.reduceAdd, Nat.reduceMul, Nat.reduceLeDiff, Nat.reduceEqDiff, ↓reduceIte, n63, u63_0, u63_1, u63_2, u63_5, u63_8, u63_9, u63_11, u63_14, u63_17, u63_18, u63_19, u63_22, u63_23, u63_24, u63_25, u63_26, u63_28, u63_29, u63_33, u63_35, u63_38, u63_39, u63_42, u63_43, u63_46, u63_49, u63_50, u63_53, u63_54, u63_56, u63_59, u63_60, u63_63, u63_64, u63_65, u63_68, u63_69, u63_72, u63_75, u63_76, u63_77, u63_79, u63_82, u63_83, u63_86, u63_89, u63_90, u63_91, u63_93, u63_95, u63_96, u63_99, u63_102, u63_103, h.isW hI, c_within, ek, bz_t, bz_f, nn_eq0, nn_eq, eq_self, not_true_eq_false, not_false_eq_true, c_finding]
theorem kct_loop {n : Nat} {w : Wd} (hn : n ≤ 20) : ∀ (m k : Nat) (x3 : Option Value) (A : Gs), Iv A → m + k = n → A 0 1 ≤ 40000 + k → RUN 73 39 [some (.ref 0), some (.int (nI n)), some (.int (nI k)), x3] [] [] (putR w 1 A) = some ([.int (nI (sm (cts m A 8) (A 0 0) 0))], putR w 1 (cts m A)) := by
  intro m
  induction m with
  | zero =>
    intro k x3 A hI hm hd
    have e : k = n := by omega
    subst e
    rw [u73_39]
    simp (disch := first | omega | decide | assumption | exact nI0_01 | exact nI1_01 | exact bz_01 _ | exact rf1 | exact rf11 | exact rf21) only [Option.bind_some, List.cons_append, List.nil_append, Nat.reduceAdd, Nat.reduceMul, Nat.reduceLeDiff, Nat.reduceEqDiff, ↓reduceIte, n73, u73_0, u73_1, u73_2, u73_5, u73_6, u73_8, u73_11, u73_12, u73_13, u73_16, u73_17, u73_18, u73_21, u73_24, u73_26, u73_27, u73_28, u73_31, u73_32, u73_33, u73_36, u73_37, u73_38, u73_40, u73_41, u73_44, u73_45, u73_48, u73_51, u73_53, u73_54, u73_55, u73_56, u73_59, u73_62, u73_63, u73_64, u73_67, u73_70, u73_72, u73_73, u73_74, u73_75, u73_78, u73_79, u73_82, u73_85, u73_88, u73_89, u73_92, u73_93, u73_96, nn_le, Nat.le_refl, c_sumOf rf1 hI]
    rfl
  | succ m ih =>
    intro k x3 A hI hm hd
    have h1 : ¬ n ≤ k := by omega
    have hm1 := dr_lt (zz A)
    have hm2 := dr_lt (zz (ct1 A))
    have hI2 : Iv (up (up A 0 2 (zz (ct1 A))) 3 (dr (zz A) % 6) (dr (zz (ct1 A)) % 21)) := (hI.u0 (by omega)).u3 (by omega)
    have e2 : up (up A 0 2 (zz (ct1 A))) 3 (dr (zz A) % 6) (dr (zz (ct1 A)) % 21) 0 1 ≤ 40000 + k := by rw [up_nc _ (by omega), up_nk _ (by omega)]; exact hd
    have e1 : up A 0 2 (zz A) = ct1 A := rfl
    have e3 : up (ct1 A) 0 2 (zz (ct1 A)) = up A 0 2 (zz (ct1 A)) := up_up _ _ _ _ _
    rw [u73_39]
    simp (disch := first | omega | decide | assumption | exact nI0_01 | exact nI1_01 | exact bz_01 _ | exact rf1 | exact rf11 | exact rf21) only [Option.bind_some, List.cons_append, List.nil_append, Nat.reduceAdd, Nat.reduceMul, Nat.reduceLeDiff, Nat.reduceEqDiff, ↓reduceIte, n73, u73_0, u73_1, u73_2, u73_5, u73_6, u73_8, u73_11, u73_12, u73_13, u73_16, u73_17, u73_18, u73_21, u73_24, u73_26, u73_27, u73_28, u73_31, u73_32, u73_33, u73_36, u73_37, u73_38, u73_40, u73_41, u73_44, u73_45, u73_48, u73_51, u73_53, u73_54, u73_55, u73_56, u73_59, u73_62, u73_63, u73_64, u73_67, u73_70, u73_72, u73_73, u73_74, u73_75, u73_78, u73_79, u73_82, u73_85, u73_88, u73_89, u73_92, u73_93, u73_96, nn_le, h1, if_false, c_draw, pk_div, nn_rem, nI_add, e1, e3, J_s3, c_day rf1 hI2]
    have h := ih (k + 1) (some (.int (nI (dr (zz A) % 6)))) (ct A) hI.ct (by omega) (by rw [ct_01]; omega)
    rw [ct_00] at h
    exact h
theorem k_catches {A : Gs} {w : Wd} {x : Int32} (h : C A (putR w 1 A)) (hI : Iv A) (hd : A 0 1 ≤ 40000) : opC 73 [.int x] (o_catches A x) (putR w 1 A) := by
  unfold o_catches
  rcases ok2_case x 1 20 (by omega) with ⟨k, hk, lk, rfl, ek, ik⟩ | ek
  · rw [if_pos ek, ik]
    refine opC_set h (cts_r k A) ?_
    have h1 : ¬ k < 1 := by omega
    have h2 : ¬ 20 < k := by omega
    have h3 : A 0 1 ≤ 99999 - k := by omega
    have h4 : ¬ 99999 - k < A 0 1 := by omega
    simp (disch := first | omega | decide | assumption | exact nI0_01 | exact nI1_01 | exact bz_01 _ | exact rf1 | exact rf11 | exact rf21) only [Option.bind_some, List.cons_append, List.nil_append, Nat.reduceAdd, Nat.reduceMul, Nat.reduceLeDiff, Nat.reduceEqDiff, ↓reduceIte, u73_0, u73_1, u73_2, u73_5, u73_6, u73_8, u73_11, u73_12, u73_13, u73_16, u73_17, u73_18, u73_21, u73_24, u73_26, u73_27, u73_28, u73_31, u73_32, u73_33, u73_36, u73_37, u73_38, n73, nn_lt, nn_le, h1, h2, lk, h3, h4, if_true, if_false, R_10, nn_sub]
    exact kct_loop lk k 0 none A hI (by omega) (by omega)
  · rw [if_neg (by simp [ek])]
    refine opC_bad h (by omega) ?_
    have hq : x < nI 1 ∨ ¬ x < nI 1 ∧ nI 20 < x := by
      unfold ok2 at ek
      have h2 := of_decide_eq_false ek
      by_cases q : x < nI 1
      · exact Or.inl q
      · right
        refine ⟨q, ?_⟩
        rw [lt_nI (by omega)] at q
        rw [gt_nI (by omega)]
        omega
    rcases hq with q | ⟨q, q2⟩
    · simp (disch := first | omega | decide | assumption | exact nI0_01 | exact nI1_01 | exact bz_01 _ | exact rf1 | exact rf11 | exact rf21) only [Option.bind_some, List.cons_append, List.nil_append, Nat.reduceAdd, Nat.reduceMul, Nat.reduceLeDiff, Nat.reduceEqDiff, ↓reduceIte, n73, u73_0, u73_1, u73_2, u73_5, u73_6, u73_8, u73_11, u73_12, u73_13, u73_16, u73_17, u73_18, u73_21, u73_24, u73_26, u73_27, u73_28, u73_31, u73_32, u73_33, u73_36, u73_37, u73_38, u73_40, u73_41, u73_44, u73_45, u73_48, u73_51, u73_53, u73_54, u73_55, u73_56, u73_59, u73_62, u73_63, u73_64, u73_67, u73_70, u73_72, u73_73, u73_74, u73_75, u73_78, u73_79, u73_82, u73_85, u73_88, u73_89, u73_92, u73_93, u73_96, q, if_true, c_finding]
    · have q3 : ¬ x ≤ nI 20 := Int32.not_le.mpr q2
      simp (disch := first | omega | decide | assumption | exact nI0_01 | exact nI1_01 | exact bz_01 _ | exact rf1 | exact rf11 | exact rf21) only [Option.bind_some, List.cons_append, List.nil_append, Nat.reduceAdd, Nat.reduceMul, Nat.reduceLeDiff, Nat.reduceEqDiff, ↓reduceIte, n73, u73_0, u73_1, u73_2, u73_5, u73_6, u73_8, u73_11, u73_12, u73_13, u73_16, u73_17, u73_18, u73_21, u73_24, u73_26, u73_27, u73_28, u73_31, u73_32, u73_33, u73_36, u73_37, u73_38, u73_40, u73_41, u73_44, u73_45, u73_48, u73_51, u73_53, u73_54, u73_55, u73_56, u73_59, u73_62, u73_63, u73_64, u73_67, u73_70, u73_72, u73_73, u73_74, u73_75, u73_78, u73_79, u73_82, u73_85, u73_88, u73_89, u73_92, u73_93, u73_96, q, q2, q3, if_true, if_false, c_finding]
