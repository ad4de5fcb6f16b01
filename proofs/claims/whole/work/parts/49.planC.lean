/-! WHAT WILL BE, IN THE TRIAL -/
theorem k_ahead {A : Gs} {w : Wd} {x y n : Int32} (h : C A w) (hI : Iv A) (hd : A 0 1 ≤ 40000) : opC 55 [.int x, .int y, .int n] (o_ahead A x y n) w := by
  have h0 := hI.1
  unfold o_ahead
  rcases isW_case A x hI.1 with ⟨k, nk, hk, rfl, ek, ik⟩ | ek
  · rcases ok2_case y 2 4 (by omega) with ⟨m, hm, lm, rfl, em, im⟩ | em
    · have q1 : ¬ m < 2 := by omega
      have q2 : ¬ 4 < m := by omega
      rcases ok_case n 100 (by omega) with ⟨j, hj, rfl, ej, ij⟩ | ej
      · rw [if_pos ⟨ek, em, ej⟩, ik, im, ij]
        obtain ⟨v, e1, e2, e3⟩ := h.trial
        refine opC_tri (G := days 0 j A) e2 e3 ?_
        simp (disch := first | omega | decide | assumption | exact nI0_01 | exact nI1_01 | exact bz_01 _ | exact rf1 | exact rf11 | exact rf21) only [Option.bind_some, List.cons_append, List.nil_append, Nat.reduceAdd, Nat.reduceMul, Nat.reduceLeDiff, Nat.reduceEqDiff, ↓reduceIte, u55_0, u55_1, u55_2, u55_5, u55_8, u55_9, u55_10, u55_13, u55_14, u55_15, u55_18, u55_19, u55_21, u55_24, u55_27, u55_28, u55_29, u55_32, u55_33, u55_34, u55_37, u55_38, u55_41, u55_44, u55_45, u55_48, u55_49, u55_50, u55_53, u55_54, u55_57, u55_58, u55_61, n55, h.isW hI, c_within, ek, ej, bz_t, bz_f, nn_eq0, nn_eq, eq_self, not_true_eq_false, not_false_eq_true, nn_lt, nn_le, q1, q2, hm, lm, if_false, if_true, e1, c_passDays rf11 hI, c_row]
        rw [u55_62 (o := 11 + (4 + m)) (n := 8) (rf_lt rf11 (by omega)) (rf_al rf11 (by omega)) hk (by omega), R_w (by omega) hk]
        simp (disch := first | omega | decide | assumption | exact nI0_01 | exact nI1_01 | exact bz_01 _ | exact rf1 | exact rf11 | exact rf21) only [Option.bind_some, List.cons_append, List.nil_append, Nat.reduceAdd, Nat.reduceMul, Nat.reduceLeDiff, Nat.reduceEqDiff, ↓reduceIte, u55_63]
      · rw [if_neg (by simp [ej])]
        refine opC_bad h (by omega) ?_
        simp (disch := first | omega | decide | assumption | exact nI0_01 | exact nI1_01 | exact bz_01 _ | exact rf1 | exact rf11 | exact rf21) only [Option.bind_some, List.cons_append, List.nil_append, Nat.reduceAdd, Nat.reduceMul, Nat.reduceLeDiff, Nat.reduceEqDiff, ↓reduceIte, u55_0, u55_1, u55_2, u55_5, u55_8, u55_9, u55_10, u55_13, u55_14, u55_15, u55_18, u55_19, u55_21, u55_24, u55_27, u55_28, u55_29, u55_32, u55_33, u55_34, u55_37, u55_38, u55_41, u55_44, u55_45, u55_48, u55_49, u55_50, u55_53, u55_54, u55_57, u55_58, u55_61, n55, h.isW hI, c_within, ek, ej, bz_t, bz_f, nn_eq0, nn_eq, eq_self, not_true_eq_false, not_false_eq_true, nn_lt, nn_le, q1, q2, hm, lm, if_false, if_true, c_finding]
    · rw [if_neg (by simp [em])]
      refine opC_bad h (by omega) ?_
      have hq : y < nI 2 ∨ ¬ y < nI 2 ∧ nI 4 < y := by
        unfold ok2 at em
        have h2 := of_decide_eq_false em
        by_cases q : y < nI 2
        · exact Or.inl q
        · right
          refine ⟨q, ?_⟩
          rw [lt_nI (by omega)] at q
          rw [gt_nI (by omega)]
          omega
      rcases hq with q | ⟨q, q2⟩
      · simp (disch := first | omega | decide | assumption | exact nI0_01 | exact nI1_01 | exact bz_01 _ | exact rf1 | exact rf11 | exact rf21) only [Option.bind_some, List.cons_append, List.nil_append, Nat.reduceAdd, Nat.reduceMul, Nat.reduceLeDiff, Nat.reduceEqDiff, ↓reduceIte, u55_0, u55_1, u55_2, u55_5, u55_8, u55_9, u55_10, u55_13, u55_14, u55_15, u55_18, u55_19, u55_21, u55_24, u55_27, u55_28, u55_29, u55_32, u55_33, u55_34, u55_37, u55_38, u55_41, u55_44, u55_45, u55_48, u55_49, u55_50, u55_53, u55_54, u55_57, u55_58, u55_61, n55, h.isW hI, ek, bz_t, bz_f, nn_eq0, nn_eq, eq_self, not_true_eq_false, not_false_eq_true, q, if_true, c_finding]
      · simp (disch := first | omega | decide | assumption | exact nI0_01 | exact nI1_01 | exact bz_01 _ | exact rf1 | exact rf11 | exact rf21) only [Option.bind_some, List.cons_append, List.nil_append, Nat.reduceAdd, Nat.reduceMul, Nat.reduceLeDiff, Nat.reduceEqDiff, ↓reduceIte, u55_0, u55_1, u55_2, u55_5, u55_8, u55_9, u55_10, u55_13, u55_14, u55_15, u55_18, u55_19, u55_21, u55_24, u55_27, u55_28, u55_29, u55_32, u55_33, u55_34, u55_37, u55_38, u55_41, u55_44, u55_45, u55_48, u55_49, u55_50, u55_53, u55_54, u55_57, u55_58, u55_61, n55, h.isW hI, ek, bz_t, bz_f, nn_eq0, nn_eq, eq_self, not_true_eq_false, not_false_eq_true, q, q2, if_true, if_false, c_finding]
  · rw [if_neg (by simp [ek])]
    refine opC_bad h (by omega) ?_
    simp (disch := first | omega | decide | assumption | exact nI0_01 | exact nI1_01 | exact bz_01 _ | exact rf1 | exact rf11 | exact rf21) only [Option.bind_some, List.cons_append, List.nil_append, Nat.reduceAdd, Nat.reduceMul, Nat.reduceLeDiff, Nat.reduceEqDiff, ↓reduceIte, u55_0, u55_1, u55_2, u55_5, u55_8, u55_9, u55_10, u55_13, u55_14, u55_15, u55_18, u55_19, u55_21, u55_24, u55_27, u55_28, u55_29, u55_32, u55_33, u55_34, u55_37, u55_38, u55_41, u55_44, u55_45, u55_48, u55_49, u55_50, u55_53, u55_54, u55_57, u55_58, u55_61, n55, h.isW hI, ek, bz_t, bz_f, nn_eq0, nn_eq, eq_self, not_true_eq_false, not_false_eq_true, c_finding]
theorem k_later {A : Gs} {w : Wd} {x n : Int32} (h : C A w) (hI : Iv A) (hd : A 0 1 ≤ 40000) : opC 56 [.int x, .int n] (o_later A x n) w := by
  unfold o_later
  rcases ok_case x 9 (by omega) with ⟨k, hk, rfl, ek, ik⟩ | ek
  · try simp only [ik]
    rcases ok_case n 100 (by omega) with ⟨j, hj, rfl, ej, ij⟩ | ej
    · try simp only [ij]
      rw [if_pos (by simp [ek, ej])]
      obtain ⟨v, e1, e2, e3⟩ := h.trial
      refine opC_tri (G := days 0 j A) e2 e3 ?_
      simp (disch := first | omega | decide | assumption | exact nI0_01 | exact nI1_01 | exact bz_01 _ | exact rf1 | exact rf11 | exact rf21) only [Option.bind_some, List.cons_append, List.nil_append, Nat.reduceAdd, Nat.reduceMul, Nat.reduceLeDiff, Nat.reduceEqDiff, ↓reduceIte, n56, u56_0, u56_1, u56_4, u56_7, u56_8, u56_10, u56_13, u56_16, u56_17, u56_18, u56_21, u56_22, u56_23, u56_26, u56_27, u56_30, u56_33, u56_34, u56_37, u56_38, u56_39, u56_42, u56_43, u56_46, u56_49, u56_50, u56_51, c_isLetter, c_within, ek, ej, bz_t, bz_f, nn_eq0, nn_eq, eq_self, not_true_eq_false, not_false_eq_true, e1, c_passDays rf11 hI, T_1]
    · rw [if_neg (by simp [ej])]
      refine opC_bad h (by omega) ?_
      simp (disch := first | omega | decide | assumption | exact nI0_01 | exact nI1_01 | exact bz_01 _ | exact rf1 | exact rf11 | exact rf21) only [Option.bind_some, List.cons_append, List.nil_append, Nat.reduceAdd, Nat.reduceMul, Nat.reduceLeDiff, Nat.reduceEqDiff, ↓reduceIte, n56, u56_0, u56_1, u56_4, u56_7, u56_8, u56_10, u56_13, u56_16, u56_17, u56_18, u56_21, u56_22, u56_23, u56_26, u56_27, u56_30, u56_33, u56_34, u56_37, u56_38, u56_39, u56_42, u56_43, u56_46, u56_49, u56_50, u56_51, c_isLetter, c_within, ek, ej, bz_t, bz_f, nn_eq0, nn_eq, eq_self, not_true_eq_false, not_false_eq_true, c_finding]
  · rw [if_neg (by simp [ek])]
    refine opC_bad h (by omega) ?_
    simp (disch := first | omega | decide | assumption | exact nI0_01 | exact nI1_01 | exact bz_01 _ | exact rf1 | exact rf11 | exact rf21) only [Option.bind_some, List.cons_append, List.nil_append, Nat.reduceAdd, Nat.reduceMul, Nat.reduceLeDiff, Nat.reduceEqDiff, ↓reduceIte, n56, u56_0, u56_1, u56_4, u56_7, u56_8, u56_10, u56_13, u56_16, u56_17, u56_18, u56_21, u56_22, u56_23, u56_26, u56_27, u56_30, u56_33, u56_34, u56_37, u56_38, u56_39, u56_42, u56_43, u56_46, u56_49, u56_50, u56_51, c_isLetter, c_within, ek, bz_t, bz_f, nn_eq0, nn_eq, eq_self, not_true_eq_false, not_false_eq_true, c_finding]
theorem kw_loop {a v : Nat} {u : Wd} (ha : a < 8) (hv : v ≤ 9999) : ∀ (m d : Nat) (G : Gs), Iv G → m + d = 101 → G 0 1 ≤ 40000 + d → ∃ G', RUN 57 37 [some (.ref 0), some (.int (nI a)), some (.int (nI v)), some (.int (nI d))] [] [] (putR u 11 G) = if whn (fun B => decide (v ≤ B 8 a)) m d G ≤ 100 then some ([.int (nI (whn (fun B => decide (v ≤ B 8 a)) m d G))], putR u 11 G') else some ([.int (lo 3)], fndC (putR u 11 G') 3) := by
  intro m
  induction m with
  | zero =>
    intro d G hI hm hd
    have e : d = 101 := by omega
    subst e
    refine ⟨G, ?_⟩
    have h1 : 100 < 101 := by omega
    have h2 : ¬ whn (fun B => decide (v ≤ B 8 a)) 0 101 G ≤ 100 := by rw [whn]; omega
    rw [if_neg h2, u57_37]
    simp (disch := first | omega | decide | assumption | exact nI0_01 | exact nI1_01 | exact bz_01 _ | exact rf1 | exact rf11 | exact rf21) only [Option.bind_some, List.cons_append, List.nil_append, Nat.reduceAdd, Nat.reduceMul, Nat.reduceLeDiff, Nat.reduceEqDiff, ↓reduceIte, n57, u57_0, u57_1, u57_2, u57_5, u57_8, u57_9, u57_12, u57_15, u57_18, u57_19, u57_20, u57_23, u57_24, u57_25, u57_28, u57_29, u57_32, u57_35, u57_36, u57_38, u57_40, u57_43, u57_44, u57_47, u57_50, u57_51, u57_52, u57_53, u57_56, u57_57, u57_58, u57_59, u57_62, u57_63, u57_66, u57_69, u57_72, u57_73, u57_74, u57_77, nn_lt, h1, if_true, c_finding]
  | succ m ih =>
    intro d G hI hm hd
    have h1 : ¬ 100 < d := by omega
    have hw := hI.2.2.2.2 a ha
    rw [u57_37, whn]
    by_cases h2 : v ≤ G 8 a
    · refine ⟨G, ?_⟩
      have h3 : ¬ G 8 a < v := by omega
      have h4 : d ≤ 100 := by omega
      simp (disch := first | omega | decide | assumption | exact nI0_01 | exact nI1_01 | exact bz_01 _ | exact rf1 | exact rf11 | exact rf21) only [Option.bind_some, List.cons_append, List.nil_append, Nat.reduceAdd, Nat.reduceMul, Nat.reduceLeDiff, Nat.reduceEqDiff, ↓reduceIte, n57, u57_0, u57_1, u57_2, u57_5, u57_8, u57_9, u57_12, u57_15, u57_18, u57_19, u57_20, u57_23, u57_24, u57_25, u57_28, u57_29, u57_32, u57_35, u57_36, u57_38, u57_40, u57_43, u57_44, u57_47, u57_50, u57_51, u57_52, u57_53, u57_56, u57_57, u57_58, u57_59, u57_62, u57_63, u57_66, u57_69, u57_72, u57_73, u57_74, u57_77, nn_lt, nn_le, h1, if_false, T_8, h2, h3, h4, decide_true, if_true]
    · obtain ⟨G', h5⟩ := ih (d + 1) (day 0 G) (hI.day 0) (by omega) (by rw [day_01]; omega)
      refine ⟨G', ?_⟩
      have h3 : G 8 a < v := by omega
      simp (disch := first | omega | decide | assumption | exact nI0_01 | exact nI1_01 | exact bz_01 _ | exact rf1 | exact rf11 | exact rf21) only [Option.bind_some, List.cons_append, List.nil_append, Nat.reduceAdd, Nat.reduceMul, Nat.reduceLeDiff, Nat.reduceEqDiff, ↓reduceIte, n57, u57_0, u57_1, u57_2, u57_5, u57_8, u57_9, u57_12, u57_15, u57_18, u57_19, u57_20, u57_23, u57_24, u57_25, u57_28, u57_29, u57_32, u57_35, u57_36, u57_38, u57_40, u57_43, u57_44, u57_47, u57_50, u57_51, u57_52, u57_53, u57_56, u57_57, u57_58, u57_59, u57_62, u57_63, u57_66, u57_69, u57_72, u57_73, u57_74, u57_77, nn_lt, nn_le, h1, if_false, T_8, h2, h3, decide_false, Bool.false_eq_true, if_true, c_day rf11 hI, nI_add]
      exact h5
theorem k_when {A : Gs} {w : Wd} {x v : Int32} (h : C A w) (hI : Iv A) (hd : A 0 1 ≤ 40000) : opC 57 [.int x, .int v] (o_when A x v) w := by
  have h0 := hI.1
  unfold o_when
  rcases isW_case A x hI.1 with ⟨k, nk, hk, rfl, ek, ik⟩ | ek
  · try simp only [ik]
    rcases ok_case v 9999 (by omega) with ⟨m, hm, rfl, em, im⟩ | em
    · try simp only [im]
      rw [if_pos (by simp [ek, em])]
      obtain ⟨u, e1, e2, e3⟩ := h.trial
      obtain ⟨G', h1⟩ := kw_loop (u := u) hk hm 101 0 A hI rfl (by omega)
      have st : CALL 57 [.ref 0, .int (nI k), .int (nI m)] w = RUN 57 37 [some (.ref 0), some (.int (nI k)), some (.int (nI m)), some (.int (nI 0))] [] [] (putR u 11 A) := by
        simp (disch := first | omega | decide | assumption | exact nI0_01 | exact nI1_01 | exact bz_01 _ | exact rf1 | exact rf11 | exact rf21) only [Option.bind_some, List.cons_append, List.nil_append, Nat.reduceAdd, Nat.reduceMul, Nat.reduceLeDiff, Nat.reduceEqDiff, ↓reduceIte, u57_0, u57_1, u57_2, u57_5, u57_8, u57_9, u57_12, u57_15, u57_18, u57_19, u57_20, u57_23, u57_24, u57_25, u57_28, u57_29, u57_32, u57_35, u57_36, n57, h.isW hI, c_within, ek, em, bz_t, bz_f, nn_eq0, nn_eq, eq_self, not_true_eq_false, not_false_eq_true, e1]
      by_cases h3 : whn (fun B => decide (m ≤ B 8 k)) 101 0 A ≤ 100
      · rw [if_pos h3] at h1 ⊢
        exact opC_tri (G := G') e2 e3 (st.trans h1)
      · rw [if_neg h3] at h1 ⊢
        exact opC_trf (G := G') e2 e3 (by omega) (st.trans h1)
    · rw [if_neg (by simp [em])]
      refine opC_bad h (by omega) ?_
      simp (disch := first | omega | decide | assumption | exact nI0_01 | exact nI1_01 | exact bz_01 _ | exact rf1 | exact rf11 | exact rf21) only [Option.bind_some, List.cons_append, List.nil_append, Nat.reduceAdd, Nat.reduceMul, Nat.reduceLeDiff, Nat.reduceEqDiff, ↓reduceIte, n57, u57_0, u57_1, u57_2, u57_5, u57_8, u57_9, u57_12, u57_15, u57_18, u57_19, u57_20, u57_23, u57_24, u57_25, u57_28, u57_29, u57_32, u57_35, u57_36, u57_38, u57_40, u57_43, u57_44, u57_47, u57_50, u57_51, u57_52, u57_53, u57_56, u57_57, u57_58, u57_59, u57_62, u57_63, u57_66, u57_69, u57_72, u57_73, u57_74, u57_77, h.isW hI, c_within, ek, em, bz_t, bz_f, nn_eq0, nn_eq, eq_self, not_true_eq_false, not_false_eq_true, c_finding]
  · rw [if_neg (by simp [ek])]
    refine opC_bad h (by omega) ?_
    simp (disch := first | omega | decide | assumption | exact nI0_01 | exact nI1_01 | exact bz_01 _ | exact rf1 | exact rf11 | exact rf21) only [Option.bind_some, List.cons_append, List.nil_append, Nat.reduceAdd, Nat.reduceMul, Nat.reduceLeDiff, Nat.reduceEqDiff, ↓reduceIte, n57, u57_0, u57_1, u57_2, u57_5, u57_8, u57_9, u57_12, u57_15, u57_18, u57_19, u57_20, u57_23, u57_24, u57_25, u57_28, u57_29, u57_32, u57_35, u57_36, u57_38, u57_40, u57_43, u57_44, u57_47, u57_50, u57_51, u57_52, u57_53, u57_56, u57_57, u57_58, u57_59, u57_62, u57_63, u57_66, u57_69, u57_72, u57_73, u57_74, u57_77, h.isW hI, c_within, ek, bz_t, bz_f, nn_eq0, nn_eq, eq_self, not_true_eq_false, not_false_eq_true, c_finding]
theorem kn_loop {r c k : Nat} {u : Wd} (hr : r = 11 + c) (hc : c = 1 ∧ k < 10 ∨ c = 7 ∧ k < 8) : ∀ (m d : Nat) (G : Gs), Iv G → m + d = 101 → G 0 1 ≤ 40000 + d → ∃ G', RUN 60 13 [some (.ref 0), some (.ref r), some (.int (nI k)), some (.int (nI d))] [] [] (putR u 11 G) = if whn (fun B => decide (B c k = 0)) m d G ≤ 100 then some ([.int (nI (whn (fun B => decide (B c k = 0)) m d G))], putR u 11 G') else some ([.int (lo 3)], fndC (putR u 11 G') 3) := by
  have h54 : r < 54 := by omega
  have hal : al r = szR c := by rcases hc with ⟨rfl, _⟩ | ⟨rfl, _⟩ <;> subst hr <;> rfl
  have hk : k < szR c := by rcases hc with ⟨rfl, q⟩ | ⟨rfl, q⟩ <;> exact q
  have hz : szR c < 2147483648 := by rcases hc with ⟨rfl, _⟩ | ⟨rfl, _⟩ <;> decide
  have hc1 : 1 ≤ c := by omega
  have hc9 : c ≤ 9 := by omega
  intro m
  induction m with
  | zero =>
    intro d G hI hm hd
    have e : d = 101 := by omega
    subst e
    refine ⟨G, ?_⟩
    have h1 : 100 < 101 := by omega
    have h2 : ¬ whn (fun B => decide (B c k = 0)) 0 101 G ≤ 100 := by rw [whn]; omega
    rw [if_neg h2, u60_13]
    simp (disch := first | omega | decide | assumption | exact nI0_01 | exact nI1_01 | exact bz_01 _ | exact rf1 | exact rf11 | exact rf21) only [Option.bind_some, List.cons_append, List.nil_append, Nat.reduceAdd, Nat.reduceMul, Nat.reduceLeDiff, Nat.reduceEqDiff, ↓reduceIte, n60, u60_0, u60_1, u60_4, u60_5, u60_8, u60_11, u60_12, u60_14, u60_16, u60_19, u60_20, u60_21, u60_22, u60_25, u60_26, u60_27, u60_28, u60_31, u60_32, u60_35, u60_38, u60_41, u60_42, u60_43, u60_46, nn_lt, h1, if_true, c_finding]
  | succ m ih =>
    intro d G hI hm hd
    have h1 : ¬ 100 < d := by omega
    have hlt : G c k < 1000 := by
      rcases hc with ⟨rfl, q⟩ | ⟨rfl, q⟩
      · have := hI.2.1 k q; omega
      · have := hI.2.2.2.2 k q; omega
    have hR : (putR u 11 G).1 r k = nI (G c k) := by rw [hr]; exact R_c u 11 G hc1 hc9 hk
    rw [u60_13, whn]
    simp (disch := first | omega | decide | assumption | exact nI0_01 | exact nI1_01 | exact bz_01 _ | exact rf1 | exact rf11 | exact rf21) only [Option.bind_some, List.cons_append, List.nil_append, Nat.reduceAdd, Nat.reduceMul, Nat.reduceLeDiff, Nat.reduceEqDiff, ↓reduceIte, u60_14, u60_16, u60_19, u60_20, nn_lt, h1, if_false]
    rw [u60_21 (o := r) h54 hal hk hz, hR]
    by_cases h2 : G c k = 0
    · refine ⟨G, ?_⟩
      have h4 : d ≤ 100 := by omega
      simp (disch := first | omega | decide | assumption | exact nI0_01 | exact nI1_01 | exact bz_01 _ | exact rf1 | exact rf11 | exact rf21) only [Option.bind_some, List.cons_append, List.nil_append, Nat.reduceAdd, Nat.reduceMul, Nat.reduceLeDiff, Nat.reduceEqDiff, ↓reduceIte, u60_22, u60_25, u60_26, u60_27, u60_28, u60_31, u60_32, u60_35, u60_38, u60_41, u60_42, u60_43, u60_46, nn_eq0, h2, not_true_eq_false, if_false, decide_true, if_true, h4]
    · obtain ⟨G', h5⟩ := ih (d + 1) (day 0 G) (hI.day 0) (by omega) (by rw [day_01]; omega)
      refine ⟨G', ?_⟩
      simp (disch := first | omega | decide | assumption | exact nI0_01 | exact nI1_01 | exact bz_01 _ | exact rf1 | exact rf11 | exact rf21) only [Option.bind_some, List.cons_append, List.nil_append, Nat.reduceAdd, Nat.reduceMul, Nat.reduceLeDiff, Nat.reduceEqDiff, ↓reduceIte, u60_22, u60_25, u60_26, u60_27, u60_28, u60_31, u60_32, u60_35, u60_38, u60_41, u60_42, u60_43, u60_46, nn_eq0, h2, not_false_eq_true, if_true, decide_false, Bool.false_eq_true, if_false, c_day rf11 hI, nI_add]
      exact h5
theorem k_none {A : Gs} {w : Wd} {r c k : Nat} (h : C A w) (hI : Iv A) (hd : A 0 1 ≤ 40000) (hr : r = 11 + c) (hc : c = 1 ∧ k < 10 ∨ c = 7 ∧ k < 8) : ∃ w', CALL 60 [.ref 0, .ref r, .int (nI k)] w = some ([.int (o_none A c k).1], w') ∧ C (o_none A c k).2 w' ∧ fC w w' := by
  obtain ⟨u, e1, e2, e3⟩ := h.trial
  obtain ⟨G', h1⟩ := kn_loop (u := u) hr hc 101 0 A hI rfl (by omega)
  have st : CALL 60 [.ref 0, .ref r, .int (nI k)] w = RUN 60 13 [some (.ref 0), some (.ref r), some (.int (nI k)), some (.int (nI 0))] [] [] (putR u 11 A) := by
    simp (disch := first | omega | decide | assumption | exact nI0_01 | exact nI1_01 | exact bz_01 _ | exact rf1 | exact rf11 | exact rf21) only [Option.bind_some, List.cons_append, List.nil_append, Nat.reduceAdd, Nat.reduceMul, Nat.reduceLeDiff, Nat.reduceEqDiff, ↓reduceIte, u60_0, u60_1, u60_4, u60_5, u60_8, u60_11, u60_12, n60, e1]
  unfold o_none
  by_cases h3 : whn (fun B => decide (B c k = 0)) 101 0 A ≤ 100
  · rw [if_pos h3] at h1 ⊢
    exact ⟨_, st.trans h1, e2.tri G', e3.pR (by omega) G'⟩
  · rw [if_neg h3] at h1 ⊢
    exact ⟨_, st.trans h1, C_fnd (e2.tri G') (by omega), (e3.pR (by omega) G').fd 3⟩
theorem k_starves {A : Gs} {w : Wd} {x : Int32} (h : C A w) (hI : Iv A) (hd : A 0 1 ≤ 40000) : opC 58 [.int x] (o_starves A x) w := by
  have h0 := hI.1
  unfold o_starves
  rcases isW_case A x hI.1 with ⟨k, nk, hk, rfl, ek, ik⟩ | ek
  · try simp only [ik]
    rw [if_pos (by simp [ek])]
    obtain ⟨w', f1, f2, f3⟩ := k_none (r := 18) (c := 7) (k := k) h hI hd rfl (Or.inr ⟨rfl, hk⟩)
    refine ⟨w', ?_, f2, f3⟩
    simp (disch := first | omega | decide | assumption | exact nI0_01 | exact nI1_01 | exact bz_01 _ | exact rf1 | exact rf11 | exact rf21) only [Option.bind_some, List.cons_append, List.nil_append, Nat.reduceAdd, Nat.reduceMul, Nat.reduceLeDiff, Nat.reduceEqDiff, ↓reduceIte, n58, u58_0, u58_1, u58_2, u58_5, u58_8, u58_9, u58_10, u58_13, u58_14, u58_15, u58_16, u58_19, u58_22, u58_23, u58_26, h.isW hI, ek, bz_t, bz_f, nn_eq0, nn_eq, eq_self, not_true_eq_false, not_false_eq_true, f1]
  · rw [if_neg (by simp [ek])]
    refine opC_bad h (by omega) ?_
    simp (disch := first | omega | decide | assumption | exact nI0_01 | exact nI1_01 | exact bz_01 _ | exact rf1 | exact rf11 | exact rf21) only [Option.bind_some, List.cons_append, List.nil_append, Nat.reduceAdd, Nat.reduceMul, Nat.reduceLeDiff, Nat.reduceEqDiff, ↓reduceIte, n58, u58_0, u58_1, u58_2, u58_5, u58_8, u58_9, u58_10, u58_13, u58_14, u58_15, u58_16, u58_19, u58_22, u58_23, u58_26, h.isW hI, ek, bz_t, bz_f, nn_eq0, nn_eq, eq_self, not_true_eq_false, not_false_eq_true, c_finding]
theorem k_out {A : Gs} {w : Wd} {x : Int32} (h : C A w) (hI : Iv A) (hd : A 0 1 ≤ 40000) : opC 59 [.int x] (o_out A x) w := by
  unfold o_out
  rcases ok_case x 9 (by omega) with ⟨k, hk, rfl, ek, ik⟩ | ek
  · try simp only [ik]
    rw [if_pos (by simp [ek])]
    obtain ⟨w', f1, f2, f3⟩ := k_none (r := 12) (c := 1) (k := k) h hI hd rfl (Or.inl ⟨rfl, by omega⟩)
    refine ⟨w', ?_, f2, f3⟩
    simp (disch := first | omega | decide | assumption | exact nI0_01 | exact nI1_01 | exact bz_01 _ | exact rf1 | exact rf11 | exact rf21) only [Option.bind_some, List.cons_append, List.nil_append, Nat.reduceAdd, Nat.reduceMul, Nat.reduceLeDiff, Nat.reduceEqDiff, ↓reduceIte, n59, u59_0, u59_1, u59_4, u59_7, u59_8, u59_9, u59_12, u59_13, u59_14, u59_15, u59_18, u59_21, u59_22, u59_25, c_isLetter, ek, bz_t, bz_f, nn_eq0, nn_eq, eq_self, not_true_eq_false, not_false_eq_true, f1]
  · rw [if_neg (by simp [ek])]
    refine opC_bad h (by omega) ?_
    simp (disch := first | omega | decide | assumption | exact nI0_01 | exact nI1_01 | exact bz_01 _ | exact rf1 | exact rf11 | exact rf21) only [Option.bind_some, List.cons_append, List.nil_append, Nat.reduceAdd, Nat.reduceMul, Nat.reduceLeDiff, Nat.reduceEqDiff, ↓reduceIte, n59, u59_0, u59_1, u59_4, u59_7, u59_8, u59_9, u59_12, u59_13, u59_14, u59_15, u59_18, u59_21, u59_22, u59_25, c_isLetter, ek, bz_t, bz_f, nn_eq0, nn_eq, eq_self, not_true_eq_false, not_false_eq_true, c_finding]
/-! THE BEST OF SOME -/
theorem kc_loop {n : Nat} {A : Gs} (hI : Iv A) (hn : n ≤ 40) (hd : A 0 1 ≤ 40000) : ∀ (m f : Nat) (b t : Int32) (x5 : Option Value) (W : Wd), m + f = 6 → C A W → ∃ W', RUN 61 22 [some (.ref 0), some (.int (nI n)), some (.int b), some (.int t), some (.int (nI f)), x5] [] [] W = some ([.int (bst (fun f => nI (wtn (up A 3 f 20) n)) m f b t)], W') ∧ C A W' ∧ fC W W' := by
  intro m
  induction m with
  | zero =>
    intro f b t x5 W hm hC
    have e : f = 6 := by omega
    subst e
    refine ⟨W, ?_, hC, fC.rf W⟩
    rw [u61_22]
    simp (disch := first | omega | decide | assumption | exact nI0_01 | exact nI1_01 | exact bz_01 _ | exact rf1 | exact rf11 | exact rf21) only [Option.bind_some, List.cons_append, List.nil_append, Nat.reduceAdd, Nat.reduceMul, Nat.reduceLeDiff, Nat.reduceEqDiff, ↓reduceIte, n61, u61_0, u61_1, u61_3, u61_6, u61_9, u61_10, u61_11, u61_14, u61_15, u61_16, u61_17, u61_18, u61_19, u61_20, u61_24, u61_26, u61_29, u61_30, u61_33, u61_34, u61_37, u61_40, u61_41, u61_44, u61_47, u61_49, u61_51, u61_52, u61_53, u61_56, u61_57, u61_58, u61_61, u61_62, u61_65, u61_66, u61_69, u61_71, u61_73, u61_74, u61_77, u61_79, u61_80, u61_82, u61_83, u61_86, u61_89, u61_90, nn_le, Nat.le_refl]
    rfl
  | succ m ih =>
    intro f b t x5 W hm hC
    have h1 : ¬ 6 ≤ f := by omega
    have hI2 : Iv (up A 3 f 20) := hI.u3 (by omega)
    have e0 : up A 3 f 20 0 0 = A 0 0 := up_nc A (by omega)
    have e1 : up A 3 f 20 0 1 = A 0 1 := up_nc A (by omega)
    have ew : wtn (up A 3 f 20) n = sm (days 0 n (up A 3 f 20) 8) (A 0 0) 0 := by unfold wtn; rw [e0]
    obtain ⟨v, g1, g2, g3⟩ := hC.trial
    rw [u61_22, bst]
    by_cases h2 : t < nI (wtn (up A 3 f 20) n)
    · have h3 := Int32.not_le.mpr h2
      obtain ⟨W', f1, f2, f3⟩ := ih (f + 1) (nI f) (nI (wtn (up A 3 f 20) n)) (some (.int (nI (wtn (up A 3 f 20) n)))) _ (by omega) (g2.tri (days 0 n (up A 3 f 20)))
      refine ⟨W', ?_, f2, (g3.pR (by omega) _).tr f3⟩
      rw [if_pos h2, if_pos h2]
      rw [ew] at h3 f1 ⊢
      simp (disch := first | omega | decide | assumption | exact nI0_01 | exact nI1_01 | exact bz_01 _ | exact rf1 | exact rf11 | exact rf21) only [Option.bind_some, List.cons_append, List.nil_append, Nat.reduceAdd, Nat.reduceMul, Nat.reduceLeDiff, Nat.reduceEqDiff, ↓reduceIte, n61, u61_0, u61_1, u61_3, u61_6, u61_9, u61_10, u61_11, u61_14, u61_15, u61_16, u61_17, u61_18, u61_19, u61_20, u61_24, u61_26, u61_29, u61_30, u61_33, u61_34, u61_37, u61_40, u61_41, u61_44, u61_47, u61_49, u61_51, u61_52, u61_53, u61_56, u61_57, u61_58, u61_61, u61_62, u61_65, u61_66, u61_69, u61_71, u61_73, u61_74, u61_77, u61_79, u61_80, u61_82, u61_83, u61_86, u61_89, u61_90, nn_le, h1, if_false, g1, T_s3, c_passDays rf11 hI2, c_sumOf rf11 (Iv.days 0 n hI2), days_0, e0, h3, nI_add]
      exact f1
    · have h3 := Int32.not_lt.mp h2
      obtain ⟨W', f1, f2, f3⟩ := ih (f + 1) b t (some (.int (nI (wtn (up A 3 f 20) n)))) _ (by omega) (g2.tri (days 0 n (up A 3 f 20)))
      refine ⟨W', ?_, f2, (g3.pR (by omega) _).tr f3⟩
      rw [if_neg h2, if_neg h2]
      rw [ew] at h3 f1
      simp (disch := first | omega | decide | assumption | exact nI0_01 | exact nI1_01 | exact bz_01 _ | exact rf1 | exact rf11 | exact rf21) only [Option.bind_some, List.cons_append, List.nil_append, Nat.reduceAdd, Nat.reduceMul, Nat.reduceLeDiff, Nat.reduceEqDiff, ↓reduceIte, n61, u61_0, u61_1, u61_3, u61_6, u61_9, u61_10, u61_11, u61_14, u61_15, u61_16, u61_17, u61_18, u61_19, u61_20, u61_24, u61_26, u61_29, u61_30, u61_33, u61_34, u61_37, u61_40, u61_41, u61_44, u61_47, u61_49, u61_51, u61_52, u61_53, u61_56, u61_57, u61_58, u61_61, u61_62, u61_65, u61_66, u61_69, u61_71, u61_73, u61_74, u61_77, u61_79, u61_80, u61_82, u61_83, u61_86, u61_89, u61_90, nn_le, h1, if_false, g1, T_s3, c_passDays rf11 hI2, c_sumOf rf11 (Iv.days 0 n hI2), days_0, e0, h3, if_true, nI_add]
      exact f1
theorem k_catchFor {A : Gs} {w : Wd} {x : Int32} (h : C A w) (hI : Iv A) (hd : A 0 1 ≤ 40000) : opC 61 [.int x] (o_catchFor A x) w := by
  unfold o_catchFor
  rcases ok_case x 40 (by omega) with ⟨k, hk, rfl, ek, ik⟩ | ek
  · try simp only [ik]
    rw [if_pos (by simp [ek])]
    obtain ⟨W', f1, f2, f3⟩ := kc_loop hI hk hd 6 0 (nI 0) (-1) none w rfl h
    refine ⟨W', ?_, f2, f3⟩
    simp (disch := first | omega | decide | assumption | exact nI0_01 | exact nI1_01 | exact bz_01 _ | exact rf1 | exact rf11 | exact rf21) only [Option.bind_some, List.cons_append, List.nil_append, Nat.reduceAdd, Nat.reduceMul, Nat.reduceLeDiff, Nat.reduceEqDiff, ↓reduceIte, u61_0, u61_1, u61_3, u61_6, u61_9, u61_10, u61_11, u61_14, u61_15, u61_16, u61_17, u61_18, u61_19, u61_20, n61, c_within, ek, bz_t, bz_f, nn_eq0, nn_eq, eq_self, not_true_eq_false, not_false_eq_true]
    exact f1
  · rw [if_neg (by simp [ek])]
    refine opC_bad h (by omega) ?_
    simp (disch := first | omega | decide | assumption | exact nI0_01 | exact nI1_01 | exact bz_01 _ | exact rf1 | exact rf11 | exact rf21) only [Option.bind_some, List.cons_append, List.nil_append, Nat.reduceAdd, Nat.reduceMul, Nat.reduceLeDiff, Nat.reduceEqDiff, ↓reduceIte, n61, u61_0, u61_1, u61_3, u61_6, u61_9, u61_10, u61_11, u61_14, u61_15, u61_16, u61_17, u61_18, u61_19, u61_20, u61_24, u61_26, u61_29, u61_30, u61_33, u61_34, u61_37, u61_40, u61_41, u61_44, u61_47, u61_49, u61_51, u61_52, u61_53, u61_56, u61_57, u61_58, u61_61, u61_62, u61_65, u61_66, u61_69, u61_71, u61_73, u61_74, u61_77, u61_79, u61_80, u61_82, u61_83, u61_86, u61_89, u61_90, c_within, ek, bz_t, bz_f, nn_eq0, nn_eq, eq_self, not_true_eq_false, not_false_eq_true, c_finding]
theorem kb_loop {f n : Nat} {A : Gs} (hI : Iv A) (hf : f < 6) (hn : n ≤ 6) (hd : A 0 1 ≤ 40000) : ∀ (m v : Nat) (b t : Int32) (x6 : Option Value) (W : Wd), m + v = 1000 → C A W → ∃ W', RUN 66 30 [some (.ref 0), some (.int (nI f)), some (.int (nI n)), some (.int b), some (.int t), some (.int (nI v)), x6] [] [] W = some ([.int (bst (fun v => nI (sm (days 0 n (up A 2 f v) 1) 10 0)) m v b t)], W') ∧ C A W' ∧ fC W W' := by
  intro m
  induction m with
  | zero =>
    intro v b t x5 W hm hC
    have e : v = 1000 := by omega
    subst e
    refine ⟨W, ?_, hC, fC.rf W⟩
    have h1 : 999 < 1000 := by omega
    rw [u66_30]
    simp (disch := first | omega | decide | assumption | exact nI0_01 | exact nI1_01 | exact bz_01 _ | exact rf1 | exact rf11 | exact rf21) only [Option.bind_some, List.cons_append, List.nil_append, Nat.reduceAdd, Nat.reduceMul, Nat.reduceLeDiff, Nat.reduceEqDiff, ↓reduceIte, n66, u66_0, u66_1, u66_4, u66_7, u66_8, u66_10, u66_13, u66_16, u66_17, u66_18, u66_21, u66_22, u66_23, u66_24, u66_25, u66_27, u66_28, u66_32, u66_35, u66_38, u66_39, u66_42, u66_43, u66_46, u66_49, u66_50, u66_53, u66_56, u66_57, u66_59, u66_60, u66_61, u66_64, u66_65, u66_66, u66_69, u66_70, u66_73, u66_76, u66_78, u66_80, u66_82, u66_85, u66_87, u66_89, u66_91, u66_92, u66_95, u66_98, u66_99, nn_lt, h1, if_true]
    rfl
  | succ m ih =>
    intro v b t x5 W hm hC
    have h1 : ¬ 999 < v := by omega
    have hI2 : Iv (up A 2 f v) := hI.u2 (by omega)
    have e1 : up A 2 f v 0 1 = A 0 1 := up_nc A (by omega)
    obtain ⟨u, g1, g2, g3⟩ := hC.trial
    rw [u66_30, bst]
    by_cases h2 : t < nI (sm (days 0 n (up A 2 f v) 1) 10 0)
    · have h3 := Int32.not_le.mpr h2
      obtain ⟨W', f1, f2, f3⟩ := ih (v + 1) (nI v) (nI (sm (days 0 n (up A 2 f v) 1) 10 0)) (some (.int (nI (sm (days 0 n (up A 2 f v) 1) 10 0)))) _ (by omega) (g2.tri (days 0 n (up A 2 f v)))
      refine ⟨W', ?_, f2, (g3.pR (by omega) _).tr f3⟩
      rw [if_pos h2, if_pos h2]
      simp (disch := first | omega | decide | assumption | exact nI0_01 | exact nI1_01 | exact bz_01 _ | exact rf1 | exact rf11 | exact rf21) only [Option.bind_some, List.cons_append, List.nil_append, Nat.reduceAdd, Nat.reduceMul, Nat.reduceLeDiff, Nat.reduceEqDiff, ↓reduceIte, n66, u66_0, u66_1, u66_4, u66_7, u66_8, u66_10, u66_13, u66_16, u66_17, u66_18, u66_21, u66_22, u66_23, u66_24, u66_25, u66_27, u66_28, u66_32, u66_35, u66_38, u66_39, u66_42, u66_43, u66_46, u66_49, u66_50, u66_53, u66_56, u66_57, u66_59, u66_60, u66_61, u66_64, u66_65, u66_66, u66_69, u66_70, u66_73, u66_76, u66_78, u66_80, u66_82, u66_85, u66_87, u66_89, u66_91, u66_92, u66_95, u66_98, u66_99, nn_lt, h1, if_false, g1, T_s2, c_passDays rf11 hI2, c_lettersInJar rf11, h3, nI_add]
      exact f1
    · have h3 := Int32.not_lt.mp h2
      obtain ⟨W', f1, f2, f3⟩ := ih (v + 1) b t (some (.int (nI (sm (days 0 n (up A 2 f v) 1) 10 0)))) _ (by omega) (g2.tri (days 0 n (up A 2 f v)))
      refine ⟨W', ?_, f2, (g3.pR (by omega) _).tr f3⟩
      rw [if_neg h2, if_neg h2]
      simp (disch := first | omega | decide | assumption | exact nI0_01 | exact nI1_01 | exact bz_01 _ | exact rf1 | exact rf11 | exact rf21) only [Option.bind_some, List.cons_append, List.nil_append, Nat.reduceAdd, Nat.reduceMul, Nat.reduceLeDiff, Nat.reduceEqDiff, ↓reduceIte, n66, u66_0, u66_1, u66_4, u66_7, u66_8, u66_10, u66_13, u66_16, u66_17, u66_18, u66_21, u66_22, u66_23, u66_24, u66_25, u66_27, u66_28, u66_32, u66_35, u66_38, u66_39, u66_42, u66_43, u66_46, u66_49, u66_50, u66_53, u66_56, u66_57, u66_59, u66_60, u66_61, u66_64, u66_65, u66_66, u66_69, u66_70, u66_73, u66_76, u66_78, u66_80, u66_82, u66_85, u66_87, u66_89, u66_91, u66_92, u66_95, u66_98, u66_99, nn_lt, h1, if_false, g1, T_s2, c_passDays rf11 hI2, c_lettersInJar rf11, h3, if_true, nI_add]
      exact f1
theorem k_bonesFor {A : Gs} {w : Wd} {x n : Int32} (h : C A w) (hI : Iv A) (hd : A 0 1 ≤ 40000) : opC 66 [.int x, .int n] (o_bonesFor A x n) w := by
  unfold o_bonesFor
  rcases ok_case x 5 (by omega) with ⟨k, hk, rfl, ek, ik⟩ | ek
  · try simp only [ik]
    rcases ok_case n 6 (by omega) with ⟨m, hm, rfl, em, im⟩ | em
    · try simp only [im]
      rw [if_pos (by simp [ek, em])]
      obtain ⟨W', f1, f2, f3⟩ := kb_loop hI (show k < 6 by omega) hm hd 1000 0 (nI 0) (-1) none w rfl h
      refine ⟨W', ?_, f2, f3⟩
      simp (disch := first | omega | decide | assumption | exact nI0_01 | exact nI1_01 | exact bz_01 _ | exact rf1 | exact rf11 | exact rf21) only [Option.bind_some, List.cons_append, List.nil_append, Nat.reduceAdd, Nat.reduceMul, Nat.reduceLeDiff, Nat.reduceEqDiff, ↓reduceIte, u66_0, u66_1, u66_4, u66_7, u66_8, u66_10, u66_13, u66_16, u66_17, u66_18, u66_21, u66_22, u66_23, u66_24, u66_25, u66_27, u66_28, n66, c_isFish, c_within, ek, em, bz_t, bz_f, nn_eq0, nn_eq, eq_self, not_true_eq_false, not_false_eq_true]
      exact f1
    · rw [if_neg (by simp [em])]
      refine opC_bad h (by omega) ?_
      simp (disch := first | omega | decide | assumption | exact nI0_01 | exact nI1_01 | exact bz_01 _ | exact rf1 | exact rf11 | exact rf21) only [Option.bind_some, List.cons_append, List.nil_append, Nat.reduceAdd, Nat.reduceMul, Nat.reduceLeDiff, Nat.reduceEqDiff, ↓reduceIte, n66, u66_0, u66_1, u66_4, u66_7, u66_8, u66_10, u66_13, u66_16, u66_17, u66_18, u66_21, u66_22, u66_23, u66_24, u66_25, u66_27, u66_28, u66_32, u66_35, u66_38, u66_39, u66_42, u66_43, u66_46, u66_49, u66_50, u66_53, u66_56, u66_57, u66_59, u66_60, u66_61, u66_64, u66_65, u66_66, u66_69, u66_70, u66_73, u66_76, u66_78, u66_80, u66_82, u66_85, u66_87, u66_89, u66_91, u66_92, u66_95, u66_98, u66_99, c_isFish, c_within, ek, em, bz_t, bz_f, nn_eq0, nn_eq, eq_self, not_true_eq_false, not_false_eq_true, c_finding]
  · rw [if_neg (by simp [ek])]
    refine opC_bad h (by omega) ?_
    simp (disch := first | omega | decide | assumption | exact nI0_01 | exact nI1_01 | exact bz_01 _ | exact rf1 | exact rf11 | exact rf21) only [Option.bind_some, List.cons_append, List.nil_append, Nat.reduceAdd, Nat.reduceMul, Nat.reduceLeDiff, Nat.reduceEqDiff, ↓reduceIte, n66, u66_0, u66_1, u66_4, u66_7, u66_8, u66_10, u66_13, u66_16, u66_17, u66_18, u66_21, u66_22, u66_23, u66_24, u66_25, u66_27, u66_28, u66_32, u66_35, u66_38, u66_39, u66_42, u66_43, u66_46, u66_49, u66_50, u66_53, u66_56, u66_57, u66_59, u66_60, u66_61, u66_64, u66_65, u66_66, u66_69, u66_70, u66_73, u66_76, u66_78, u66_80, u66_82, u66_85, u66_87, u66_89, u66_91, u66_92, u66_95, u66_98, u66_99, c_isFish, c_within, ek, bz_t, bz_f, nn_eq0, nn_eq, eq_self, not_true_eq_false, not_false_eq_true, c_finding]
