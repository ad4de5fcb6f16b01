theorem bg_loop {i : Nat} {b n : Option Value} (hi : i < 4) : ∀ (m k : Nat) (A : Gs) (w : Wd), C A w → m + k = 40 → ∃ w', RUN 29 20 [some (.ref (32 + 2 * i)), b, n, some (.int (nI k))] [] [] w = some ([], w') ∧ C (zr i m k A) w' ∧ fC w w' := by
  have hs := sh_at hi
  intro m
  induction m with
  | zero =>
    intro k A w h hm
    have e : k = 40 := by omega
    subst e
    refine ⟨w, ?_, h, fC.rf w⟩
    rw [u29_20]
    simp (disch := first | omega | decide | assumption | exact nI0_01 | exact nI1_01 | exact bz_01 _ | exact rf1 | exact rf11 | exact rf21) only [Option.bind_some, List.cons_append, List.nil_append, Nat.reduceAdd, Nat.reduceMul, Nat.reduceLeDiff, Nat.reduceEqDiff, ↓reduceIte, n29, u29_0, u29_1, u29_2, u29_5, u29_6, u29_7, u29_10, u29_11, u29_14, u29_15, u29_18, u29_19, u29_21, u29_23, u29_26, u29_27, u29_30, u29_31, u29_32, u29_33, u29_36, u29_39, nn_le, Nat.le_refl, if_true]
  | succ m ih =>
    intro k A w h hm
    have h1 : ¬ 40 ≤ k := by omega
    have hM := C_snm h hi (j := k) (x := nI 0) (v := 0) rfl
    obtain ⟨w', h2, h3, h4⟩ := ih (k + 1) _ _ hM (by omega)
    refine ⟨w', ?_, h3, ((fC.rf w).st (by omega) _ _).tr h4⟩
    rw [u29_20]
    simp (disch := first | omega | decide | assumption | exact nI0_01 | exact nI1_01 | exact bz_01 _ | exact rf1 | exact rf11 | exact rf21) only [Option.bind_some, List.cons_append, List.nil_append, Nat.reduceAdd, Nat.reduceMul, Nat.reduceLeDiff, Nat.reduceEqDiff, ↓reduceIte, n29, u29_0, u29_1, u29_2, u29_5, u29_6, u29_7, u29_10, u29_11, u29_14, u29_15, u29_18, u29_19, u29_21, u29_23, u29_26, u29_27, u29_30, u29_31, u29_32, u29_33, u29_36, u29_39, nn_le, h1, if_false, nI_add]
    exact h2
theorem c_begin {i b n : Nat} {A : Gs} {w : Wd} (h : C A w) (hi : i < 4) (hb : b < 100) : ∃ w', CALL 29 [.ref (32 + 2 * i), .int (nI b), .int (nI n)] w = some ([], w') ∧ C (zr i 40 0 (up (up A 23 i b) 24 i (if b = 0 then 0 else n))) w' ∧ fC w w' := by
  have hs := sh_at hi
  obtain ⟨w', h2, h3, h4⟩ := bg_loop (b := some (.int (nI b))) (n := some (.int (nI n))) hi 40 0 _ _ (C_ssiz (C_sbit h hi b) hi (if b = 0 then 0 else n)) rfl
  refine ⟨w', ?_, h3, ((fC.rf w).st (by omega) _ _ |>.st (by omega) _ _).tr h4⟩
  by_cases h0 : b = 0
  · rw [if_pos h0] at h2
    simp (disch := first | omega | decide | assumption | exact nI0_01 | exact nI1_01 | exact bz_01 _ | exact rf1 | exact rf11 | exact rf21) only [Option.bind_some, List.cons_append, List.nil_append, Nat.reduceAdd, Nat.reduceMul, Nat.reduceLeDiff, Nat.reduceEqDiff, ↓reduceIte, u29_0, u29_1, u29_2, u29_5, u29_6, u29_7, u29_10, u29_11, u29_14, u29_15, u29_18, u29_19, n29, nn_eq0, h0, not_true_eq_false, if_true, if_false]
    rw [h0] at h2
    exact h2
  · rw [if_neg h0] at h2
    simp (disch := first | omega | decide | assumption | exact nI0_01 | exact nI1_01 | exact bz_01 _ | exact rf1 | exact rf11 | exact rf21) only [Option.bind_some, List.cons_append, List.nil_append, Nat.reduceAdd, Nat.reduceMul, Nat.reduceLeDiff, Nat.reduceEqDiff, ↓reduceIte, u29_0, u29_1, u29_2, u29_5, u29_6, u29_7, u29_10, u29_11, u29_14, u29_15, u29_18, u29_19, n29, nn_eq0, h0, not_false_eq_true, if_true, if_false]
    exact h2
theorem k_sheet {A : Gs} {w : Wd} {t b n : Int32} (h : C A w) : opC 82 [.int t, .int b, .int n] (o_sheet A t b n) w := by
  unfold o_sheet
  rcases ok_case t 3 (by omega) with ⟨k, hk, rfl, ek, ik⟩ | ek
  · have hk4 : k < 4 := by omega
    have hs := sh_at hk4
    by_cases hb : b = nI 0 ∨ b = nI 8 ∨ b = nI 16 ∨ b = nI 32
    · rw [if_pos ⟨ek, hb⟩, ik]
      have st : CALL 82 [.ref 0, .int (nI k), .int b, .int n] w = RUN 82 35 [some (.ref 0), some (.int (nI k)), some (.int b), some (.int n)] [] [] w := by
        rcases hb with rfl | rfl | rfl | rfl <;> simp (disch := first | omega | decide | assumption | exact nI0_01 | exact nI1_01 | exact bz_01 _ | exact rf1 | exact rf11 | exact rf21) only [Option.bind_some, List.cons_append, List.nil_append, Nat.reduceAdd, Nat.reduceMul, Nat.reduceLeDiff, Nat.reduceEqDiff, ↓reduceIte, u82_0, u82_1, u82_4, u82_7, u82_8, u82_11, u82_12, u82_14, u82_17, u82_18, u82_20, u82_23, u82_24, u82_26, u82_29, u82_30, u82_31, u82_34, n82, c_isSheet, ek, bz_t, bz_f, nn_eq0, nn_eq, eq_self, not_true_eq_false, not_false_eq_true, if_true, if_false]
      by_cases hn : n < 0
      · rw [if_pos hn]
        refine opC_bad h (by omega) ?_
        have hn2 : ¬ 0 ≤ n := Int32.not_le.mpr hn
        rw [st]
        simp (disch := first | omega | decide | assumption | exact nI0_01 | exact nI1_01 | exact bz_01 _ | exact rf1 | exact rf11 | exact rf21) only [Option.bind_some, List.cons_append, List.nil_append, Nat.reduceAdd, Nat.reduceMul, Nat.reduceLeDiff, Nat.reduceEqDiff, ↓reduceIte, u82_35, u82_36, u82_39, u82_40, u82_42, u82_45, u82_46, u82_47, u82_49, u82_52, u82_53, u82_54, u82_57, u82_58, u82_59, u82_62, u82_63, u82_64, u82_65, u82_66, u82_69, u82_70, u82_73, u82_74, u82_75, u82_78, hn2, if_false, c_finding]
      · rw [if_neg hn]
        have hn2 : 0 ≤ n := Int32.not_lt.mp hn
        rcases ok_case n 40 (by omega) with ⟨m, hm, rfl, em, im⟩ | em
        · rw [if_pos em, im]
          have hB : ∃ B, b = nI B ∧ ix b = B ∧ B < 100 ∧ (b = nI 0 ↔ B = 0) := by
            rcases hb with rfl | rfl | rfl | rfl
            · exact ⟨0, rfl, rfl, by omega, by simp⟩
            · exact ⟨8, rfl, rfl, by omega, by decide⟩
            · exact ⟨16, rfl, rfl, by omega, by decide⟩
            · exact ⟨32, rfl, rfl, by omega, by decide⟩
          obtain ⟨B, b1, b2, b3, b4⟩ := hB
          obtain ⟨w', g1, g2, g3⟩ := c_begin (n := m) h hk4 b3
          have hsz := g2.ssize hk4
          have ez : zr k 40 0 (up (up A 23 k B) 24 k (if B = 0 then 0 else m)) 24 k = if B = 0 then 0 else m := by
            rw [zr_r 40 0 _ (by omega), up_at]
          rw [ez] at hsz
          have ec : (if b = nI 0 then 0 else m) = if B = 0 then 0 else m := by
            by_cases q : B = 0
            · rw [if_pos q, if_pos (b4.mpr q)]
            · rw [if_neg q, if_neg (fun z => q (b4.mp z))]
          rw [ec, b2]
          refine ⟨w', ?_, g2, g3⟩
          rw [st, b1]
          simp (disch := first | omega | decide | assumption | exact nI0_01 | exact nI1_01 | exact bz_01 _ | exact rf1 | exact rf11 | exact rf21) only [Option.bind_some, List.cons_append, List.nil_append, Nat.reduceAdd, Nat.reduceMul, Nat.reduceLeDiff, Nat.reduceEqDiff, ↓reduceIte, u82_35, u82_36, u82_39, u82_40, u82_42, u82_45, u82_46, u82_47, u82_49, u82_52, u82_53, u82_54, u82_57, u82_58, u82_59, u82_62, u82_63, u82_64, u82_65, u82_66, u82_69, u82_70, u82_73, u82_74, u82_75, u82_78, nn_ge0, nn_le, hm, if_true, g1, hsz]
        · rw [if_neg (by simp [em])]
          refine opC_bad h (by omega) ?_
          have h40 : nI 40 < n := by
            have hz : 0 ≤ n.toInt := by rw [ge_z] at hn2; exact hn2
            rw [gt_nI (by omega)]
            unfold ok at em
            have := of_decide_eq_false em
            omega
          have h41 : ¬ n ≤ nI 40 := Int32.not_le.mpr h40
          rw [st]
          simp (disch := first | omega | decide | assumption | exact nI0_01 | exact nI1_01 | exact bz_01 _ | exact rf1 | exact rf11 | exact rf21) only [Option.bind_some, List.cons_append, List.nil_append, Nat.reduceAdd, Nat.reduceMul, Nat.reduceLeDiff, Nat.reduceEqDiff, ↓reduceIte, u82_35, u82_36, u82_39, u82_40, u82_42, u82_45, u82_46, u82_47, u82_49, u82_52, u82_53, u82_54, u82_57, u82_58, u82_59, u82_62, u82_63, u82_64, u82_65, u82_66, u82_69, u82_70, u82_73, u82_74, u82_75, u82_78, hn2, h41, if_true, if_false, c_finding]
    · rw [if_neg (fun q => hb q.2)]
      refine opC_bad h (by omega) ?_
      have b0 : ¬ b = 0 := fun z => hb (Or.inl z)
      have b1 : ¬ b = nI 8 := fun z => hb (Or.inr (Or.inl z))
      have b2 : ¬ b = nI 16 := fun z => hb (Or.inr (Or.inr (Or.inl z)))
      have b3 : ¬ b = nI 32 := fun z => hb (Or.inr (Or.inr (Or.inr z)))
      simp (disch := first | omega | decide | assumption | exact nI0_01 | exact nI1_01 | exact bz_01 _ | exact rf1 | exact rf11 | exact rf21) only [Option.bind_some, List.cons_append, List.nil_append, Nat.reduceAdd, Nat.reduceMul, Nat.reduceLeDiff, Nat.reduceEqDiff, ↓reduceIte, u82_0, u82_1, u82_4, u82_7, u82_8, u82_11, u82_12, u82_14, u82_17, u82_18, u82_20, u82_23, u82_24, u82_26, u82_29, u82_30, u82_31, u82_34, n82, c_isSheet, ek, bz_t, bz_f, nn_eq0, nn_eq, eq_self, not_true_eq_false, not_false_eq_true, b0, b1, b2, b3, if_true, if_false, c_finding]
  · rw [if_neg (by simp [ek])]
    refine opC_bad h (by omega) ?_
    simp (disch := first | omega | decide | assumption | exact nI0_01 | exact nI1_01 | exact bz_01 _ | exact rf1 | exact rf11 | exact rf21) only [Option.bind_some, List.cons_append, List.nil_append, Nat.reduceAdd, Nat.reduceMul, Nat.reduceLeDiff, Nat.reduceEqDiff, ↓reduceIte, u82_0, u82_1, u82_4, u82_7, u82_8, u82_11, u82_12, u82_14, u82_17, u82_18, u82_20, u82_23, u82_24, u82_26, u82_29, u82_30, u82_31, u82_34, n82, c_isSheet, ek, bz_t, bz_f, nn_eq0, nn_eq, eq_self, not_true_eq_false, not_false_eq_true, c_finding]
theorem al_at {t : Nat} (h : t < 4) : al (32 + 2 * t + 1) = 40 := al_sh (sh_at h)
theorem k_write {A : Gs} {w : Wd} {t i v : Int32} (h : C A w) (hS : Shs A) : opC 83 [.int t, .int i, .int v] (o_write A t i v) w := by
  unfold o_write
  rcases ok_case t 3 (by omega) with ⟨k, hk, rfl, ek, ik⟩ | ek
  · have hk4 : k < 4 := by omega
    have hs := sh_at hk4
    rw [if_pos ek, ik]
    have hM := h.miss hS hk4
    have hz := h.ssize hk4
    have hS2 := (hS k hk4).2
    by_cases h0 : A 23 k = 0
    · rw [if_pos h0]
      refine opC_bad h (by omega) ?_
      simp (disch := first | omega | decide | assumption | exact nI0_01 | exact nI1_01 | exact bz_01 _ | exact rf1 | exact rf11 | exact rf21) only [Option.bind_some, List.cons_append, List.nil_append, Nat.reduceAdd, Nat.reduceMul, Nat.reduceLeDiff, Nat.reduceEqDiff, ↓reduceIte, n83, u83_0, u83_1, u83_4, u83_7, u83_8, u83_9, u83_12, u83_13, u83_14, u83_17, u83_18, u83_19, u83_21, u83_23, u83_26, u83_29, u83_30, u83_31, u83_34, u83_35, u83_36, u83_39, u83_40, u83_42, u83_45, u83_48, u83_49, u83_50, u83_53, u83_54, u83_56, u83_59, u83_60, u83_62, u83_63, u83_66, u83_67, u83_68, c_isSheet, ek, bz_t, bz_f, nn_eq0, nn_eq, eq_self, not_true_eq_false, not_false_eq_true, hM, h0, decide_true, c_finding]
    · rw [if_neg h0]
      rcases okS_case (A 24 k) i hS2 with ⟨j, hj, rfl, ej, ij⟩ | ej
      · rw [if_pos ej, ij]
        have hL := c_low (v := v) hs (h.sbits hk4) ((hS k hk4).1.resolve_left h0)
        refine ⟨_, ?_, C_snm h hk4 (j := j) (x := lowb (A 23 k) v) (nI_un _).symm, (fC.rf w).st (by omega) _ _⟩
        simp (disch := first | omega | decide | assumption | exact nI0_01 | exact nI1_01 | exact bz_01 _ | exact rf1 | exact rf11 | exact rf21) only [Option.bind_some, List.cons_append, List.nil_append, Nat.reduceAdd, Nat.reduceMul, Nat.reduceLeDiff, Nat.reduceEqDiff, ↓reduceIte, u83_0, u83_1, u83_4, u83_7, u83_8, u83_9, u83_12, u83_13, u83_14, u83_17, u83_18, u83_19, u83_21, u83_23, u83_26, u83_29, u83_30, u83_31, u83_34, u83_35, u83_36, u83_39, u83_40, u83_42, u83_45, u83_48, u83_49, u83_50, u83_53, u83_54, u83_56, u83_59, u83_60, u83_62, u83_63, n83, c_isSheet, ek, bz_t, bz_f, nn_eq0, nn_eq, eq_self, not_true_eq_false, not_false_eq_true, hM, h0, decide_false, nn_lt0, if_false, hz, nn_lt, hj, if_true, hL]
        rw [u83_66 (o := 32 + 2 * k + 1) (n := 40) (by omega) (al_at hk4) (by omega) (by omega)]
        simp (disch := first | omega | decide | assumption | exact nI0_01 | exact nI1_01 | exact bz_01 _ | exact rf1 | exact rf11 | exact rf21) only [Option.bind_some, List.cons_append, List.nil_append, Nat.reduceAdd, Nat.reduceMul, Nat.reduceLeDiff, Nat.reduceEqDiff, ↓reduceIte, u83_67, u83_68]
      · rw [if_neg (by simp [ej])]
        refine opC_bad h (by omega) ?_
        have e2 := of_decide_eq_false ej
        by_cases q : i < 0
        · simp (disch := first | omega | decide | assumption | exact nI0_01 | exact nI1_01 | exact bz_01 _ | exact rf1 | exact rf11 | exact rf21) only [Option.bind_some, List.cons_append, List.nil_append, Nat.reduceAdd, Nat.reduceMul, Nat.reduceLeDiff, Nat.reduceEqDiff, ↓reduceIte, n83, u83_0, u83_1, u83_4, u83_7, u83_8, u83_9, u83_12, u83_13, u83_14, u83_17, u83_18, u83_19, u83_21, u83_23, u83_26, u83_29, u83_30, u83_31, u83_34, u83_35, u83_36, u83_39, u83_40, u83_42, u83_45, u83_48, u83_49, u83_50, u83_53, u83_54, u83_56, u83_59, u83_60, u83_62, u83_63, u83_66, u83_67, u83_68, c_isSheet, ek, bz_t, bz_f, nn_eq0, nn_eq, eq_self, not_true_eq_false, not_false_eq_true, hM, h0, decide_false, q, if_true, c_finding]
        · have q0 := Int32.not_lt.mp q
          rw [ge_z] at q0
          have q2 : ¬ i < nI (A 24 k) := by
            rw [lt_nI (by omega)]
            omega
          simp (disch := first | omega | decide | assumption | exact nI0_01 | exact nI1_01 | exact bz_01 _ | exact rf1 | exact rf11 | exact rf21) only [Option.bind_some, List.cons_append, List.nil_append, Nat.reduceAdd, Nat.reduceMul, Nat.reduceLeDiff, Nat.reduceEqDiff, ↓reduceIte, n83, u83_0, u83_1, u83_4, u83_7, u83_8, u83_9, u83_12, u83_13, u83_14, u83_17, u83_18, u83_19, u83_21, u83_23, u83_26, u83_29, u83_30, u83_31, u83_34, u83_35, u83_36, u83_39, u83_40, u83_42, u83_45, u83_48, u83_49, u83_50, u83_53, u83_54, u83_56, u83_59, u83_60, u83_62, u83_63, u83_66, u83_67, u83_68, c_isSheet, ek, bz_t, bz_f, nn_eq0, nn_eq, eq_self, not_true_eq_false, not_false_eq_true, hM, h0, decide_false, q, if_false, hz, q2, c_finding]
  · rw [if_neg (by simp [ek])]
    refine opC_bad h (by omega) ?_
    simp (disch := first | omega | decide | assumption | exact nI0_01 | exact nI1_01 | exact bz_01 _ | exact rf1 | exact rf11 | exact rf21) only [Option.bind_some, List.cons_append, List.nil_append, Nat.reduceAdd, Nat.reduceMul, Nat.reduceLeDiff, Nat.reduceEqDiff, ↓reduceIte, n83, u83_0, u83_1, u83_4, u83_7, u83_8, u83_9, u83_12, u83_13, u83_14, u83_17, u83_18, u83_19, u83_21, u83_23, u83_26, u83_29, u83_30, u83_31, u83_34, u83_35, u83_36, u83_39, u83_40, u83_42, u83_45, u83_48, u83_49, u83_50, u83_53, u83_54, u83_56, u83_59, u83_60, u83_62, u83_63, u83_66, u83_67, u83_68, c_isSheet, ek, bz_t, bz_f, nn_eq0, nn_eq, eq_self, not_true_eq_false, not_false_eq_true, c_finding]
