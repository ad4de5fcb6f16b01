theorem kld_loop {t z : Nat} {row : Nat → Nat} {w : Wd} (ht : t < 4) (hz : z ≤ 40) (h8 : w.1 (32 + 2 * t) 1 = nI z) (h9 : ∀ k, k < 40 → w.1 (32 + 2 * t + 1) k = nI (row k)) : ∀ (m k : Nat) (A : Gs), m + k = 10 → RUN 85 35 [some (.ref 0), some (.int (nI t)), some (.ref (32 + 2 * t)), some (.int (nI k))] [] [] (putR w 1 A) = some ([.int (nI (ldN row z m k))], putR w 1 (ldS row (ldN row z m k - k) k A)) := by
  have hs := sh_at ht
  have ha := al_at ht
  have e8 : ∀ A, (putR w 1 A).1 (32 + 2 * t) 1 = nI z := fun A => by rw [putR_ne _ _ (by omega)]; exact h8
  have e9 : ∀ A k, k < 40 → (putR w 1 A).1 (32 + 2 * t + 1) k = nI (row k) := fun A k hk => by rw [putR_ne _ _ (by omega)]; exact h9 k hk
  intro m
  induction m with
  | zero =>
    intro k A hm
    have e : k = 10 := by omega
    subst e
    rw [u85_35]
    simp (disch := first | omega | decide | assumption | exact nI0_01 | exact nI1_01 | exact bz_01 _ | exact rf1 | exact rf11 | exact rf21) only [Option.bind_some, List.cons_append, List.nil_append, Nat.reduceAdd, Nat.reduceMul, Nat.reduceLeDiff, Nat.reduceEqDiff, ↓reduceIte, n85, u85_0, u85_1, u85_4, u85_7, u85_8, u85_9, u85_12, u85_13, u85_14, u85_17, u85_18, u85_19, u85_20, u85_21, u85_24, u85_27, u85_28, u85_29, u85_32, u85_33, u85_34, u85_36, u85_37, u85_40, u85_43, u85_44, u85_46, u85_49, u85_50, u85_53, u85_54, u85_55, u85_58, u85_61, u85_64, u85_65, u85_68, u85_71, u85_72, u85_73, u85_76, u85_77, u85_78, u85_79, u85_82, u85_85, u85_86, e8, nn_le, Nat.le_refl, if_true, ite_self, ldN, Nat.sub_self, ldS]
  | succ m ih =>
    intro k A hm
    have h1 : ¬ 10 ≤ k := by omega
    have hn := ldN_ge row z m (k + 1)
    by_cases h2 : k < z
    · have h2' : ¬ z ≤ k := by omega
      have h9' := e9 A k (by omega)
      have h54 : 32 + 2 * t + 1 < 54 := by omega
      rcases ok_case (nI (row k)) 999 (by omega) with ⟨j, hj, e1, e2, e3⟩ | e1
      · have en : ldN row z (m + 1) k = ldN row z m (k + 1) := by rw [ldN, if_pos ⟨h2, e2⟩]
        have es : ldN row z m (k + 1) - k = (ldN row z m (k + 1) - (k + 1)) + 1 := by omega
        rw [en, es, ldS, e3, u85_35]
        rw [e1] at e2 h9'
        simp (disch := first | omega | decide | assumption | exact nI0_01 | exact nI1_01 | exact bz_01 _ | exact rf1 | exact rf11 | exact rf21) only [Option.bind_some, List.cons_append, List.nil_append, Nat.reduceAdd, Nat.reduceMul, Nat.reduceLeDiff, Nat.reduceEqDiff, ↓reduceIte, u85_36, u85_37, u85_40, u85_43, u85_44, u85_46, u85_49, u85_50, u85_53, e8, nn_le, h1, h2', if_false]
        rw [u85_54 (o := 32 + 2 * t + 1) (n := 40) h54 ha (by omega) (by omega), h9']
        simp (disch := first | omega | decide | assumption | exact nI0_01 | exact nI1_01 | exact bz_01 _ | exact rf1 | exact rf11 | exact rf21) only [Option.bind_some, List.cons_append, List.nil_append, Nat.reduceAdd, Nat.reduceMul, Nat.reduceLeDiff, Nat.reduceEqDiff, ↓reduceIte, u85_55, u85_58, u85_61, u85_64, u85_65, u85_68, u85_71, u85_72, u85_73, u85_76, c_within, e2, bz_t, bz_f, nn_eq0, nn_eq, eq_self, not_true_eq_false, not_false_eq_true]
        rw [u85_77 (o := 32 + 2 * t + 1) (n := 40) h54 ha (by omega) (by omega), h9']
        simp (disch := first | omega | decide | assumption | exact nI0_01 | exact nI1_01 | exact bz_01 _ | exact rf1 | exact rf11 | exact rf21) only [Option.bind_some, List.cons_append, List.nil_append, Nat.reduceAdd, Nat.reduceMul, Nat.reduceLeDiff, Nat.reduceEqDiff, ↓reduceIte, u85_78, u85_79, u85_82, u85_85, u85_86, J_s1, nI_add]
        exact ih (k + 1) _ (by omega)
      · have en : ldN row z (m + 1) k = k := by rw [ldN, if_neg (fun q => by rw [e1] at q; exact absurd q.2 (by decide))]
        rw [en, Nat.sub_self, u85_35]
        simp (disch := first | omega | decide | assumption | exact nI0_01 | exact nI1_01 | exact bz_01 _ | exact rf1 | exact rf11 | exact rf21) only [Option.bind_some, List.cons_append, List.nil_append, Nat.reduceAdd, Nat.reduceMul, Nat.reduceLeDiff, Nat.reduceEqDiff, ↓reduceIte, u85_36, u85_37, u85_40, u85_43, u85_44, u85_46, u85_49, u85_50, u85_53, e8, nn_le, h1, h2', if_false]
        rw [u85_54 (o := 32 + 2 * t + 1) (n := 40) h54 ha (by omega) (by omega), h9']
        simp (disch := first | omega | decide | assumption | exact nI0_01 | exact nI1_01 | exact bz_01 _ | exact rf1 | exact rf11 | exact rf21) only [Option.bind_some, List.cons_append, List.nil_append, Nat.reduceAdd, Nat.reduceMul, Nat.reduceLeDiff, Nat.reduceEqDiff, ↓reduceIte, u85_55, u85_58, u85_61, u85_64, u85_65, u85_68, u85_71, u85_72, u85_73, u85_76, u85_77, u85_78, u85_79, u85_82, u85_85, u85_86, c_within, e1, bz_t, bz_f, nn_eq0, nn_eq, eq_self, not_true_eq_false, not_false_eq_true, ldS]
    · have h2' : z ≤ k := by omega
      have en : ldN row z (m + 1) k = k := by rw [ldN, if_neg (fun q => h2 q.1)]
      rw [en, Nat.sub_self, u85_35]
      simp (disch := first | omega | decide | assumption | exact nI0_01 | exact nI1_01 | exact bz_01 _ | exact rf1 | exact rf11 | exact rf21) only [Option.bind_some, List.cons_append, List.nil_append, Nat.reduceAdd, Nat.reduceMul, Nat.reduceLeDiff, Nat.reduceEqDiff, ↓reduceIte, n85, u85_0, u85_1, u85_4, u85_7, u85_8, u85_9, u85_12, u85_13, u85_14, u85_17, u85_18, u85_19, u85_20, u85_21, u85_24, u85_27, u85_28, u85_29, u85_32, u85_33, u85_34, u85_36, u85_37, u85_40, u85_43, u85_44, u85_46, u85_49, u85_50, u85_53, u85_54, u85_55, u85_58, u85_61, u85_64, u85_65, u85_68, u85_71, u85_72, u85_73, u85_76, u85_77, u85_78, u85_79, u85_82, u85_85, u85_86, e8, nn_le, h2', if_true, ldS]
theorem k_load {A : Gs} {w : Wd} {t : Int32} (h : C A (putR w 1 A)) (hS : Shs A) : opC 85 [.int t] (o_load A t) (putR w 1 A) := by
  unfold o_load
  rcases ok_case t 3 (by omega) with ⟨k, hk, rfl, ek, ik⟩ | ek
  · have hk4 : k < 4 := by omega
    rw [if_pos ek, ik]
    have hM := h.miss hS hk4
    have hs := sh_at hk4
    by_cases h0 : A 23 k = 0
    · rw [if_pos h0]
      refine opC_bad h (by omega) ?_
      simp (disch := first | omega | decide | assumption | exact nI0_01 | exact nI1_01 | exact bz_01 _ | exact rf1 | exact rf11 | exact rf21) only [Option.bind_some, List.cons_append, List.nil_append, Nat.reduceAdd, Nat.reduceMul, Nat.reduceLeDiff, Nat.reduceEqDiff, ↓reduceIte, n85, u85_0, u85_1, u85_4, u85_7, u85_8, u85_9, u85_12, u85_13, u85_14, u85_17, u85_18, u85_19, u85_20, u85_21, u85_24, u85_27, u85_28, u85_29, u85_32, u85_33, u85_34, u85_36, u85_37, u85_40, u85_43, u85_44, u85_46, u85_49, u85_50, u85_53, u85_54, u85_55, u85_58, u85_61, u85_64, u85_65, u85_68, u85_71, u85_72, u85_73, u85_76, u85_77, u85_78, u85_79, u85_82, u85_85, u85_86, c_isSheet, ek, bz_t, bz_f, nn_eq0, nn_eq, eq_self, not_true_eq_false, not_false_eq_true, hM, h0, decide_true, c_finding]
    · rw [if_neg h0]
      have h8 := h.ssize hk4
      have h9 : ∀ j, j < 40 → _ := fun j hj => h.snum hk4 hj
      rw [putR_ne _ _ (by omega)] at h8
      simp only [putR_ne w A (show 32 + 2 * k + 1 < 1 ∨ 1 + 9 < 32 + 2 * k + 1 by omega)] at h9
      refine opC_set h (fun c hc => ldS_1 _ _ _ _ (by omega)) ?_
      simp (disch := first | omega | decide | assumption | exact nI0_01 | exact nI1_01 | exact bz_01 _ | exact rf1 | exact rf11 | exact rf21) only [Option.bind_some, List.cons_append, List.nil_append, Nat.reduceAdd, Nat.reduceMul, Nat.reduceLeDiff, Nat.reduceEqDiff, ↓reduceIte, u85_0, u85_1, u85_4, u85_7, u85_8, u85_9, u85_12, u85_13, u85_14, u85_17, u85_18, u85_19, u85_20, u85_21, u85_24, u85_27, u85_28, u85_29, u85_32, u85_33, u85_34, n85, c_isSheet, ek, bz_t, bz_f, nn_eq0, nn_eq, eq_self, not_true_eq_false, not_false_eq_true, hM, h0, decide_false]
      exact kld_loop hk4 (hS k hk4).2 h8 h9 10 0 A rfl
  · rw [if_neg (by simp [ek])]
    refine opC_bad h (by omega) ?_
    simp (disch := first | omega | decide | assumption | exact nI0_01 | exact nI1_01 | exact bz_01 _ | exact rf1 | exact rf11 | exact rf21) only [Option.bind_some, List.cons_append, List.nil_append, Nat.reduceAdd, Nat.reduceMul, Nat.reduceLeDiff, Nat.reduceEqDiff, ↓reduceIte, n85, u85_0, u85_1, u85_4, u85_7, u85_8, u85_9, u85_12, u85_13, u85_14, u85_17, u85_18, u85_19, u85_20, u85_21, u85_24, u85_27, u85_28, u85_29, u85_32, u85_33, u85_34, u85_36, u85_37, u85_40, u85_43, u85_44, u85_46, u85_49, u85_50, u85_53, u85_54, u85_55, u85_58, u85_61, u85_64, u85_65, u85_68, u85_71, u85_72, u85_73, u85_76, u85_77, u85_78, u85_79, u85_82, u85_85, u85_86, c_isSheet, ek, bz_t, bz_f, nn_eq0, nn_eq, eq_self, not_true_eq_false, not_false_eq_true, c_finding]
theorem kj_loop {t z : Nat} {row : Nat → Nat} {w : Wd} {A : Gs} (hI : Iv A) (ht : t < 4) (hz : z ≤ 40) (h8 : w.1 (32 + 2 * t) 1 = nI z) (h9 : ∀ k, k < 40 → w.1 (32 + 2 * t + 1) k = nI (row k)) : ∀ (m k : Nat), m + k = z → RUN 86 35 [some (.ref 0), some (.int (nI t)), some (.ref (32 + 2 * t)), some (.int (nI k))] [] [] (putR w 1 A) = some ([.int (nI (if jd A row m k < z then 1 + jd A row m k else 0))], putR w 1 A) := by
  have h0 := hI.1
  have hs := sh_at ht
  have ha := al_at ht
  have e8 : (putR w 1 A).1 (32 + 2 * t) 1 = nI z := by rw [putR_ne _ _ (by omega)]; exact h8
  have e9 : ∀ k, k < 40 → (putR w 1 A).1 (32 + 2 * t + 1) k = nI (row k) := fun k hk => by rw [putR_ne _ _ (by omega)]; exact h9 k hk
  intro m
  induction m with
  | zero =>
    intro k hm
    have e : k = z := by omega
    subst e
    rw [u86_35]
    simp (disch := first | omega | decide | assumption | exact nI0_01 | exact nI1_01 | exact bz_01 _ | exact rf1 | exact rf11 | exact rf21) only [Option.bind_some, List.cons_append, List.nil_append, Nat.reduceAdd, Nat.reduceMul, Nat.reduceLeDiff, Nat.reduceEqDiff, ↓reduceIte, n86, u86_0, u86_1, u86_4, u86_7, u86_8, u86_9, u86_12, u86_13, u86_14, u86_17, u86_18, u86_19, u86_20, u86_21, u86_24, u86_27, u86_28, u86_29, u86_32, u86_33, u86_34, u86_36, u86_37, u86_40, u86_43, u86_44, u86_45, u86_48, u86_51, u86_52, u86_55, u86_56, u86_57, u86_58, u86_61, u86_64, u86_65, u86_66, u86_69, u86_70, u86_71, u86_72, u86_73, u86_76, u86_79, u86_80, e8, nn_le, Nat.le_refl, if_true, jd, Nat.lt_irrefl, if_false]
  | succ m ih =>
    intro k hm
    have h1 : ¬ z ≤ k := by omega
    have h1' : k < z := by omega
    have h9' := e9 k (by omega)
    have h54 : 32 + 2 * t + 1 < 54 := by omega
    have ew : isW A (nI k) = decide (k < A 0 0) := isW_nI (by omega)
    rw [u86_35]
    by_cases h2 : k < A 0 0
    · have hw : isW A (nI k) = true := by rw [ew]; exact decide_eq_true h2
      simp (disch := first | omega | decide | assumption | exact nI0_01 | exact nI1_01 | exact bz_01 _ | exact rf1 | exact rf11 | exact rf21) only [Option.bind_some, List.cons_append, List.nil_append, Nat.reduceAdd, Nat.reduceMul, Nat.reduceLeDiff, Nat.reduceEqDiff, ↓reduceIte, u86_36, u86_37, u86_40, u86_43, u86_44, u86_45, u86_48, u86_51, u86_52, u86_55, e8, nn_le, h1, if_false, c_isWriter hI.1, hw, bz_t, nn_eq0]
      rw [u86_56 (o := 32 + 2 * t + 1) (n := 40) h54 ha (by omega) (by omega), h9']
      by_cases h3 : nI (row k) = nI (A 8 k)
      · have en : jd A row (m + 1) k = jd A row m (k + 1) := by rw [jd, if_pos ⟨h2, h3⟩]
        rw [en]
        simp (disch := first | omega | decide | assumption | exact nI0_01 | exact nI1_01 | exact bz_01 _ | exact rf1 | exact rf11 | exact rf21) only [Option.bind_some, List.cons_append, List.nil_append, Nat.reduceAdd, Nat.reduceMul, Nat.reduceLeDiff, Nat.reduceEqDiff, ↓reduceIte, u86_57, u86_58, u86_61, u86_64, u86_65, u86_66, u86_69, u86_70, u86_71, u86_72, u86_73, u86_76, u86_79, u86_80, J_8, h3, nI_add, if_true]
        exact ih (k + 1) (by omega)
      · have en : jd A row (m + 1) k = k := by rw [jd, if_neg (fun q => h3 q.2)]
        rw [en, if_pos h1']
        simp (disch := first | omega | decide | assumption | exact nI0_01 | exact nI1_01 | exact bz_01 _ | exact rf1 | exact rf11 | exact rf21) only [Option.bind_some, List.cons_append, List.nil_append, Nat.reduceAdd, Nat.reduceMul, Nat.reduceLeDiff, Nat.reduceEqDiff, ↓reduceIte, u86_57, u86_58, u86_61, u86_64, u86_65, u86_66, u86_69, u86_70, u86_71, u86_72, u86_73, u86_76, u86_79, u86_80, J_8, h3, nI_add, if_false]
    · have hw : isW A (nI k) = false := by rw [ew]; exact decide_eq_false h2
      have en : jd A row (m + 1) k = k := by rw [jd, if_neg (fun q => h2 q.1)]
      rw [en, if_pos h1']
      simp (disch := first | omega | decide | assumption | exact nI0_01 | exact nI1_01 | exact bz_01 _ | exact rf1 | exact rf11 | exact rf21) only [Option.bind_some, List.cons_append, List.nil_append, Nat.reduceAdd, Nat.reduceMul, Nat.reduceLeDiff, Nat.reduceEqDiff, ↓reduceIte, n86, u86_0, u86_1, u86_4, u86_7, u86_8, u86_9, u86_12, u86_13, u86_14, u86_17, u86_18, u86_19, u86_20, u86_21, u86_24, u86_27, u86_28, u86_29, u86_32, u86_33, u86_34, u86_36, u86_37, u86_40, u86_43, u86_44, u86_45, u86_48, u86_51, u86_52, u86_55, u86_56, u86_57, u86_58, u86_61, u86_64, u86_65, u86_66, u86_69, u86_70, u86_71, u86_72, u86_73, u86_76, u86_79, u86_80, e8, nn_le, h1, if_false, c_isWriter hI.1, hw, bz_f, nn_eq0, if_true, nI_add]
theorem k_judge {A : Gs} {w : Wd} {t : Int32} (h : C A (putR w 1 A)) (hI : Iv A) (hS : Shs A) : opC 86 [.int t] (o_judge A t) (putR w 1 A) := by
  unfold o_judge
  rcases ok_case t 3 (by omega) with ⟨k, hk, rfl, ek, ik⟩ | ek
  · have hk4 : k < 4 := by omega
    rw [if_pos ek, ik]
    have hM := h.miss hS hk4
    have hs := sh_at hk4
    by_cases h0 : A 23 k = 0
    · rw [if_pos h0]
      refine opC_bad h (by omega) ?_
      simp (disch := first | omega | decide | assumption | exact nI0_01 | exact nI1_01 | exact bz_01 _ | exact rf1 | exact rf11 | exact rf21) only [Option.bind_some, List.cons_append, List.nil_append, Nat.reduceAdd, Nat.reduceMul, Nat.reduceLeDiff, Nat.reduceEqDiff, ↓reduceIte, n86, u86_0, u86_1, u86_4, u86_7, u86_8, u86_9, u86_12, u86_13, u86_14, u86_17, u86_18, u86_19, u86_20, u86_21, u86_24, u86_27, u86_28, u86_29, u86_32, u86_33, u86_34, u86_36, u86_37, u86_40, u86_43, u86_44, u86_45, u86_48, u86_51, u86_52, u86_55, u86_56, u86_57, u86_58, u86_61, u86_64, u86_65, u86_66, u86_69, u86_70, u86_71, u86_72, u86_73, u86_76, u86_79, u86_80, c_isSheet, ek, bz_t, bz_f, nn_eq0, nn_eq, eq_self, not_true_eq_false, not_false_eq_true, hM, h0, decide_true, c_finding]
    · rw [if_neg h0]
      have h8 := h.ssize hk4
      have h9 : ∀ j, j < 40 → _ := fun j hj => h.snum hk4 hj
      rw [putR_ne _ _ (by omega)] at h8
      simp only [putR_ne w A (show 32 + 2 * k + 1 < 1 ∨ 1 + 9 < 32 + 2 * k + 1 by omega)] at h9
      refine opC_get h ?_
      simp (disch := first | omega | decide | assumption | exact nI0_01 | exact nI1_01 | exact bz_01 _ | exact rf1 | exact rf11 | exact rf21) only [Option.bind_some, List.cons_append, List.nil_append, Nat.reduceAdd, Nat.reduceMul, Nat.reduceLeDiff, Nat.reduceEqDiff, ↓reduceIte, u86_0, u86_1, u86_4, u86_7, u86_8, u86_9, u86_12, u86_13, u86_14, u86_17, u86_18, u86_19, u86_20, u86_21, u86_24, u86_27, u86_28, u86_29, u86_32, u86_33, u86_34, n86, c_isSheet, ek, bz_t, bz_f, nn_eq0, nn_eq, eq_self, not_true_eq_false, not_false_eq_true, hM, h0, decide_false]
      exact kj_loop hI hk4 (hS k hk4).2 h8 h9 (A 24 k) 0 rfl
  · rw [if_neg (by simp [ek])]
    refine opC_bad h (by omega) ?_
    simp (disch := first | omega | decide | assumption | exact nI0_01 | exact nI1_01 | exact bz_01 _ | exact rf1 | exact rf11 | exact rf21) only [Option.bind_some, List.cons_append, List.nil_append, Nat.reduceAdd, Nat.reduceMul, Nat.reduceLeDiff, Nat.reduceEqDiff, ↓reduceIte, n86, u86_0, u86_1, u86_4, u86_7, u86_8, u86_9, u86_12, u86_13, u86_14, u86_17, u86_18, u86_19, u86_20, u86_21, u86_24, u86_27, u86_28, u86_29, u86_32, u86_33, u86_34, u86_36, u86_37, u86_40, u86_43, u86_44, u86_45, u86_48, u86_51, u86_52, u86_55, u86_56, u86_57, u86_58, u86_61, u86_64, u86_65, u86_66, u86_69, u86_70, u86_71, u86_72, u86_73, u86_76, u86_79, u86_80, c_isSheet, ek, bz_t, bz_f, nn_eq0, nn_eq, eq_self, not_true_eq_false, not_false_eq_true, c_finding]
