theorem kfi_loop {t a : Nat} {A : Gs} (hI : Iv A) (hS : Shs A) (ht : t < 4) (ha : a < 8) (hd : A 0 1 ≤ 40000) : ∀ (m k : Nat) (s : Int32) (x3 : Option Value) (W : Wd), m + k = 10 → C A W → ∃ W', RUN 67 19 [some (.ref 0), some (.int (nI t)), some (.int (nI a)), x3, some (.int s), some (.int (nI k))] [] [] W = some ([.int (orS (fun l => tld (A (25 + t)) a (A 24 t) 0 (up A 5 a (setdg (A 5 a) (A 6 a) l))) m k s)], W') ∧ C A W' ∧ fC W W' := by
  have hs := sh_at ht
  have hw := hI.2.2.2.2 a ha
  intro m
  induction m with
  | zero =>
    intro k s x3 W hm hC
    have e : k = 10 := by omega
    subst e
    refine ⟨W, ?_, hC, fC.rf W⟩
    rw [u67_19]
    simp (disch := first | omega | decide | assumption | exact nI0_01 | exact nI1_01 | exact bz_01 _ | exact rf1 | exact rf11 | exact rf21) only [Option.bind_some, List.cons_append, List.nil_append, Nat.reduceAdd, Nat.reduceMul, Nat.reduceLeDiff, Nat.reduceEqDiff, ↓reduceIte, n67, u67_0, u67_1, u67_2, u67_3, u67_6, u67_7, u67_8, u67_11, u67_12, u67_13, u67_14, u67_16, u67_17, u67_21, u67_23, u67_26, u67_27, u67_30, u67_31, u67_34, u67_37, u67_38, u67_41, u67_42, u67_44, u67_47, u67_48, u67_49, u67_52, u67_53, u67_54, u67_55, u67_58, u67_61, u67_63, u67_64, u67_66, u67_67, u67_68, u67_70, u67_73, u67_76, u67_78, nn_le, Nat.le_refl, if_true]
    rfl
  | succ m ih =>
    intro k s x3 W hm hC
    have h1 : ¬ 10 ≤ k := by omega
    have hsl := setdg_lt (v := A 5 a) (p := A 6 a) (l := k) (by omega) hw.2.2.1 (by omega)
    have hI2 : Iv (up A 5 a (setdg (A 5 a) (A 6 a) k)) := hI.uw (Or.inr (Or.inl ⟨rfl, by omega⟩))
    have e1 : up A 5 a (setdg (A 5 a) (A 6 a) k) 0 1 ≤ 40000 := by rw [up_nc A (by omega)]; exact hd
    obtain ⟨u, g1, g2, g3⟩ := hC.trial
    obtain ⟨G', t1⟩ := c_told hI2 e1 ht ha (hS t ht).2 (g2.ssize ht) (fun k hk => g2.snum ht hk)
    rw [u67_19, orS]
    cases h2 : tld (A (25 + t)) a (A 24 t) 0 (up A 5 a (setdg (A 5 a) (A 6 a) k)) with
    | true =>
      rw [h2] at t1
      obtain ⟨W', f1, f2, f3⟩ := ih (k + 1) (s ||| (nI 1 <<< (nI k &&& 31))) x3 _ (by omega) (g2.tri G')
      refine ⟨W', ?_, f2, (g3.pR (by omega) _).tr f3⟩
      simp (disch := first | omega | decide | assumption | exact nI0_01 | exact nI1_01 | exact bz_01 _ | exact rf1 | exact rf11 | exact rf21) only [Option.bind_some, List.cons_append, List.nil_append, Nat.reduceAdd, Nat.reduceMul, Nat.reduceLeDiff, Nat.reduceEqDiff, ↓reduceIte, n67, u67_0, u67_1, u67_2, u67_3, u67_6, u67_7, u67_8, u67_11, u67_12, u67_13, u67_14, u67_16, u67_17, u67_21, u67_23, u67_26, u67_27, u67_30, u67_31, u67_34, u67_37, u67_38, u67_41, u67_42, u67_44, u67_47, u67_48, u67_49, u67_52, u67_53, u67_54, u67_55, u67_58, u67_61, u67_63, u67_64, u67_66, u67_67, u67_68, u67_70, u67_73, u67_76, u67_78, nn_le, h1, if_false, g1, c_putNextLetter rf11 hI, t1, bz_t, bz_f, nn_eq0, nn_eq, eq_self, not_true_eq_false, not_false_eq_true, nI_add]
      exact f1
    | false =>
      rw [h2] at t1
      obtain ⟨W', f1, f2, f3⟩ := ih (k + 1) s x3 _ (by omega) (g2.tri G')
      refine ⟨W', ?_, f2, (g3.pR (by omega) _).tr f3⟩
      simp (disch := first | omega | decide | assumption | exact nI0_01 | exact nI1_01 | exact bz_01 _ | exact rf1 | exact rf11 | exact rf21) only [Option.bind_some, List.cons_append, List.nil_append, Nat.reduceAdd, Nat.reduceMul, Nat.reduceLeDiff, Nat.reduceEqDiff, ↓reduceIte, n67, u67_0, u67_1, u67_2, u67_3, u67_6, u67_7, u67_8, u67_11, u67_12, u67_13, u67_14, u67_16, u67_17, u67_21, u67_23, u67_26, u67_27, u67_30, u67_31, u67_34, u67_37, u67_38, u67_41, u67_42, u67_44, u67_47, u67_48, u67_49, u67_52, u67_53, u67_54, u67_55, u67_58, u67_61, u67_63, u67_64, u67_66, u67_67, u67_68, u67_70, u67_73, u67_76, u67_78, nn_le, h1, if_false, g1, c_putNextLetter rf11 hI, t1, bz_t, bz_f, nn_eq0, nn_eq, eq_self, not_true_eq_false, not_false_eq_true, nI_add, Bool.false_eq_true]
      exact f1
theorem c_findingOf {A : Gs} {w : Wd} {t x : Int32} (h : C A w) (hI : Iv A) (hS : Shs A) : CALL 69 [.ref 0, .int t, .int x] w = if ok t 3 = true then (if A 23 (ix t) = 0 then some ([.int (lo 5)], fndC w 5) else if isW A x = true then some ([.int (nI 0)], w) else some ([.int (lo 0)], fndC w 0)) else some ([.int (lo 0)], fndC w 0) := by
  rcases ok_case t 3 (by omega) with ⟨k, hk, rfl, ek, ik⟩ | ek
  · have hk4 : k < 4 := by omega
    have hs := sh_at hk4
    have hM := h.miss hS hk4
    rw [if_pos ek, ik]
    by_cases h0 : A 23 k = 0
    · rw [if_pos h0]
      simp (disch := first | omega | decide | assumption | exact nI0_01 | exact nI1_01 | exact bz_01 _ | exact rf1 | exact rf11 | exact rf21) only [Option.bind_some, List.cons_append, List.nil_append, Nat.reduceAdd, Nat.reduceMul, Nat.reduceLeDiff, Nat.reduceEqDiff, ↓reduceIte, n69, u69_0, u69_1, u69_4, u69_7, u69_8, u69_9, u69_12, u69_13, u69_14, u69_17, u69_18, u69_19, u69_22, u69_25, u69_26, u69_27, u69_30, u69_31, u69_32, u69_33, u69_36, u69_39, u69_40, u69_43, u69_44, u69_45, u69_48, c_isSheet, ek, bz_t, bz_f, nn_eq0, nn_eq, eq_self, not_true_eq_false, not_false_eq_true, hM, h0, decide_true, c_finding]
    · rw [if_neg h0]
      cases h2 : isW A x <;> simp (disch := first | omega | decide | assumption | exact nI0_01 | exact nI1_01 | exact bz_01 _ | exact rf1 | exact rf11 | exact rf21) only [Option.bind_some, List.cons_append, List.nil_append, Nat.reduceAdd, Nat.reduceMul, Nat.reduceLeDiff, Nat.reduceEqDiff, ↓reduceIte, n69, u69_0, u69_1, u69_4, u69_7, u69_8, u69_9, u69_12, u69_13, u69_14, u69_17, u69_18, u69_19, u69_22, u69_25, u69_26, u69_27, u69_30, u69_31, u69_32, u69_33, u69_36, u69_39, u69_40, u69_43, u69_44, u69_45, u69_48, c_isSheet, ek, bz_t, bz_f, nn_eq0, nn_eq, eq_self, not_true_eq_false, not_false_eq_true, hM, h0, decide_false, h.isW hI, h2, c_finding, Bool.false_eq_true, if_false, if_true]
  · rw [if_neg (by simp [ek])]
    simp (disch := first | omega | decide | assumption | exact nI0_01 | exact nI1_01 | exact bz_01 _ | exact rf1 | exact rf11 | exact rf21) only [Option.bind_some, List.cons_append, List.nil_append, Nat.reduceAdd, Nat.reduceMul, Nat.reduceLeDiff, Nat.reduceEqDiff, ↓reduceIte, n69, u69_0, u69_1, u69_4, u69_7, u69_8, u69_9, u69_12, u69_13, u69_14, u69_17, u69_18, u69_19, u69_22, u69_25, u69_26, u69_27, u69_30, u69_31, u69_32, u69_33, u69_36, u69_39, u69_40, u69_43, u69_44, u69_45, u69_48, c_isSheet, ek, bz_t, bz_f, nn_eq0, nn_eq, eq_self, not_true_eq_false, not_false_eq_true, c_finding]
theorem k_kinds {A : Gs} {w : Wd} {t x : Int32} (h : C A w) (hI : Iv A) (hS : Shs A) (hd : A 0 1 ≤ 40000) : opC 68 [.int t, .int x] (o_kinds A t x) w := by
  have hF := c_findingOf (t := t) (x := x) h hI hS
  unfold o_kinds o_told
  by_cases q1 : ok t 3 = true
  · rw [if_pos q1] at hF ⊢
    by_cases q2 : A 23 (ix t) = 0
    · rw [if_pos q2] at hF ⊢
      refine opC_bad h (by omega) ?_
      simp (disch := first | omega | decide | assumption | exact nI0_01 | exact nI1_01 | exact bz_01 _ | exact rf1 | exact rf11 | exact rf21) only [Option.bind_some, List.cons_append, List.nil_append, Nat.reduceAdd, Nat.reduceMul, Nat.reduceLeDiff, Nat.reduceEqDiff, ↓reduceIte, u68_0, u68_1, u68_2, u68_3, u68_6, u68_7, u68_8, u68_11, u68_12, u68_13, u68_14, u68_16, u68_17, n68, hF, lo_n0, not_false_eq_true, if_true]
    · rw [if_neg q2] at hF ⊢
      by_cases q3 : isW A x = true
      · rw [if_pos q3] at hF ⊢
        rcases ok_case t 3 (by omega) with ⟨k, hk, rfl, ek, ik⟩ | ek
        · rcases isW_case A x hI.1 with ⟨a, na, ha, rfl, ea, ia⟩ | ea
          · rw [ik, ia]
            obtain ⟨W', f1, f2, f3⟩ := kk2_loop hI hS (show k < 4 by omega) ha hd 7 0 (nI 0) (some (.int (nI 0))) w rfl h
            refine ⟨W', ?_, f2, f3⟩
            simp (disch := first | omega | decide | assumption | exact nI0_01 | exact nI1_01 | exact bz_01 _ | exact rf1 | exact rf11 | exact rf21) only [Option.bind_some, List.cons_append, List.nil_append, Nat.reduceAdd, Nat.reduceMul, Nat.reduceLeDiff, Nat.reduceEqDiff, ↓reduceIte, u68_0, u68_1, u68_2, u68_3, u68_6, u68_7, u68_8, u68_11, u68_12, u68_13, u68_14, u68_16, u68_17, n68, hF, bz_t, bz_f, nn_eq0, nn_eq, eq_self, not_true_eq_false, not_false_eq_true]
            exact f1
          · rw [ea] at q3; exact absurd q3 (by decide)
        · rw [ek] at q1; exact absurd q1 (by decide)
      · rw [if_neg q3] at hF ⊢
        refine opC_bad h (by omega) ?_
        simp (disch := first | omega | decide | assumption | exact nI0_01 | exact nI1_01 | exact bz_01 _ | exact rf1 | exact rf11 | exact rf21) only [Option.bind_some, List.cons_append, List.nil_append, Nat.reduceAdd, Nat.reduceMul, Nat.reduceLeDiff, Nat.reduceEqDiff, ↓reduceIte, u68_0, u68_1, u68_2, u68_3, u68_6, u68_7, u68_8, u68_11, u68_12, u68_13, u68_14, u68_16, u68_17, n68, hF, lo_n0, not_false_eq_true, if_true]
  · rw [if_neg q1] at hF ⊢
    refine opC_bad h (by omega) ?_
    simp (disch := first | omega | decide | assumption | exact nI0_01 | exact nI1_01 | exact bz_01 _ | exact rf1 | exact rf11 | exact rf21) only [Option.bind_some, List.cons_append, List.nil_append, Nat.reduceAdd, Nat.reduceMul, Nat.reduceLeDiff, Nat.reduceEqDiff, ↓reduceIte, u68_0, u68_1, u68_2, u68_3, u68_6, u68_7, u68_8, u68_11, u68_12, u68_13, u68_14, u68_16, u68_17, n68, hF, lo_n0, not_false_eq_true, if_true]
theorem k_fits {A : Gs} {w : Wd} {t x : Int32} (h : C A w) (hI : Iv A) (hS : Shs A) (hd : A 0 1 ≤ 40000) : opC 67 [.int t, .int x] (o_fits A t x) w := by
  have hF := c_findingOf (t := t) (x := x) h hI hS
  unfold o_fits o_told
  by_cases q1 : ok t 3 = true
  · rw [if_pos q1] at hF ⊢
    by_cases q2 : A 23 (ix t) = 0
    · rw [if_pos q2] at hF ⊢
      refine opC_bad h (by omega) ?_
      simp (disch := first | omega | decide | assumption | exact nI0_01 | exact nI1_01 | exact bz_01 _ | exact rf1 | exact rf11 | exact rf21) only [Option.bind_some, List.cons_append, List.nil_append, Nat.reduceAdd, Nat.reduceMul, Nat.reduceLeDiff, Nat.reduceEqDiff, ↓reduceIte, u67_0, u67_1, u67_2, u67_3, u67_6, u67_7, u67_8, u67_11, u67_12, u67_13, u67_14, u67_16, u67_17, n67, hF, lo_n0, not_false_eq_true, if_true]
    · rw [if_neg q2] at hF ⊢
      by_cases q3 : isW A x = true
      · rw [if_pos q3] at hF ⊢
        rcases ok_case t 3 (by omega) with ⟨k, hk, rfl, ek, ik⟩ | ek
        · rcases isW_case A x hI.1 with ⟨a, na, ha, rfl, ea, ia⟩ | ea
          · rw [ik, ia]
            obtain ⟨W', f1, f2, f3⟩ := kfi_loop hI hS (show k < 4 by omega) ha hd 10 0 (nI 0) (some (.int (nI 0))) w rfl h
            refine ⟨W', ?_, f2, f3⟩
            simp (disch := first | omega | decide | assumption | exact nI0_01 | exact nI1_01 | exact bz_01 _ | exact rf1 | exact rf11 | exact rf21) only [Option.bind_some, List.cons_append, List.nil_append, Nat.reduceAdd, Nat.reduceMul, Nat.reduceLeDiff, Nat.reduceEqDiff, ↓reduceIte, u67_0, u67_1, u67_2, u67_3, u67_6, u67_7, u67_8, u67_11, u67_12, u67_13, u67_14, u67_16, u67_17, n67, hF, bz_t, bz_f, nn_eq0, nn_eq, eq_self, not_true_eq_false, not_false_eq_true]
            exact f1
          · rw [ea] at q3; exact absurd q3 (by decide)
        · rw [ek] at q1; exact absurd q1 (by decide)
      · rw [if_neg q3] at hF ⊢
        refine opC_bad h (by omega) ?_
        simp (disch := first | omega | decide | assumption | exact nI0_01 | exact nI1_01 | exact bz_01 _ | exact rf1 | exact rf11 | exact rf21) only [Option.bind_some, List.cons_append, List.nil_append, Nat.reduceAdd, Nat.reduceMul, Nat.reduceLeDiff, Nat.reduceEqDiff, ↓reduceIte, u67_0, u67_1, u67_2, u67_3, u67_6, u67_7, u67_8, u67_11, u67_12, u67_13, u67_14, u67_16, u67_17, n67, hF, lo_n0, not_false_eq_true, if_true]
  · rw [if_neg q1] at hF ⊢
    refine opC_bad h (by omega) ?_
    simp (disch := first | omega | decide | assumption | exact nI0_01 | exact nI1_01 | exact bz_01 _ | exact rf1 | exact rf11 | exact rf21) only [Option.bind_some, List.cons_append, List.nil_append, Nat.reduceAdd, Nat.reduceMul, Nat.reduceLeDiff, Nat.reduceEqDiff, ↓reduceIte, u67_0, u67_1, u67_2, u67_3, u67_6, u67_7, u67_8, u67_11, u67_12, u67_13, u67_14, u67_16, u67_17, n67, hF, lo_n0, not_false_eq_true, if_true]
