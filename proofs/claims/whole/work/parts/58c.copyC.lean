theorem c_has {o z : Nat} {f n : Int32} {w : Wd} (ho : shB o) (h : w.1 o 1 = nI z) (hz : z ≤ 40) : CALL 31 [.ref o, .int f, .int n] w = some ([.int (bz (rng f n z))], w) := by
  rcases ge0_case n with hn | ⟨m, hm, rfl, im⟩
  · rw [rng_f (Or.inr hn), bz_f]
    simp (disch := first | omega | decide | assumption | exact nI0_01 | exact nI1_01 | exact bz_01 _ | exact rf1 | exact rf11 | exact rf21) only [Option.bind_some, List.cons_append, List.nil_append, Nat.reduceAdd, Nat.reduceMul, Nat.reduceLeDiff, Nat.reduceEqDiff, ↓reduceIte, n31, u31_0, u31_1, u31_4, u31_5, u31_8, u31_9, u31_10, u31_13, u31_16, u31_17, u31_18, u31_21, u31_22, u31_23, u31_26, u31_27, u31_30, u31_31, hn, if_true]
  · rcases ge0_case f with hf | ⟨a, ha, rfl, ia⟩
    · rw [rng_f (Or.inl hf), bz_f]
      simp (disch := first | omega | decide | assumption | exact nI0_01 | exact nI1_01 | exact bz_01 _ | exact rf1 | exact rf11 | exact rf21) only [Option.bind_some, List.cons_append, List.nil_append, Nat.reduceAdd, Nat.reduceMul, Nat.reduceLeDiff, Nat.reduceEqDiff, ↓reduceIte, n31, u31_0, u31_1, u31_4, u31_5, u31_8, u31_9, u31_10, u31_13, u31_16, u31_17, u31_18, u31_21, u31_22, u31_23, u31_26, u31_27, u31_30, u31_31, nn_lt0, if_false, hf, if_true]
    · rw [rng_nI ha hm]
      by_cases q1 : z < m
      · rw [bz_no (by omega)]
        simp (disch := first | omega | decide | assumption | exact nI0_01 | exact nI1_01 | exact bz_01 _ | exact rf1 | exact rf11 | exact rf21) only [Option.bind_some, List.cons_append, List.nil_append, Nat.reduceAdd, Nat.reduceMul, Nat.reduceLeDiff, Nat.reduceEqDiff, ↓reduceIte, n31, u31_0, u31_1, u31_4, u31_5, u31_8, u31_9, u31_10, u31_13, u31_16, u31_17, u31_18, u31_21, u31_22, u31_23, u31_26, u31_27, u31_30, u31_31, nn_lt0, if_false, h, nn_lt, q1, if_true]
      · by_cases q2 : z - m < a
        · rw [bz_no (by omega)]
          simp (disch := first | omega | decide | assumption | exact nI0_01 | exact nI1_01 | exact bz_01 _ | exact rf1 | exact rf11 | exact rf21) only [Option.bind_some, List.cons_append, List.nil_append, Nat.reduceAdd, Nat.reduceMul, Nat.reduceLeDiff, Nat.reduceEqDiff, ↓reduceIte, n31, u31_0, u31_1, u31_4, u31_5, u31_8, u31_9, u31_10, u31_13, u31_16, u31_17, u31_18, u31_21, u31_22, u31_23, u31_26, u31_27, u31_30, u31_31, nn_lt0, if_false, h, nn_lt, q1, nn_sub, q2, if_true]
        · rw [bz_ye (by omega)]
          have q3 : a ≤ z - m := by omega
          simp (disch := first | omega | decide | assumption | exact nI0_01 | exact nI1_01 | exact bz_01 _ | exact rf1 | exact rf11 | exact rf21) only [Option.bind_some, List.cons_append, List.nil_append, Nat.reduceAdd, Nat.reduceMul, Nat.reduceLeDiff, Nat.reduceEqDiff, ↓reduceIte, n31, u31_0, u31_1, u31_4, u31_5, u31_8, u31_9, u31_10, u31_13, u31_16, u31_17, u31_18, u31_21, u31_22, u31_23, u31_26, u31_27, u31_30, u31_31, nn_lt0, if_false, h, nn_lt, nn_le, q1, nn_sub, q2, q3, if_true]
theorem C_cpy {A : Gs} {w : Wd} (h : C A w) {t f u g n : Nat} (hu : u < 4) {F : Nat → Int32} (hF : ∀ k, k < 40 → F k = nI (cpyS A t f u g n (25 + u) k)) : C (cpyS A t f u g n) (put w (32 + 2 * u + 1) F) := by
  have e : ∀ a, a ≠ 32 + 2 * u + 1 → (put w (32 + 2 * u + 1) F).1 a = w.1 a := fun a ha => put_ne w _ ha
  refine C_gen h (fun c hc => cpyS_r (by omega)) (fun a ha => e a (by omega)) (fun z => by rw [cpyS_r (by omega)] at z; exact z) ?_ ?_ (fun k hk => ?_) (fun k hk => ?_) (fun t ht => ?_) (fun t ht => ?_) (fun t' k ht hk => ?_)
  · rw [e 0 (by omega), cpyS_r (by omega)]; exact h.2.1
  · rw [e 40 (by omega), cpyS_r (by omega)]; exact h.2.2.1
  · rw [e 41 (by omega), cpyS_r (by omega)]; exact h.2.2.2.2.1 k hk
  · rw [e 42 (by omega), cpyS_r (by omega)]; exact h.2.2.2.2.2.1 k hk
  · rw [e _ (by omega), cpyS_r (by omega)]; exact h.2.2.2.2.2.2.1 t ht
  · rw [e _ (by omega), cpyS_r (by omega)]; exact h.2.2.2.2.2.2.2.1 t ht
  · by_cases q : t' = u
    · subst q
      rw [show 33 + 2 * t' = 32 + 2 * t' + 1 by omega, put_at]
      exact hF k hk
    · rw [e _ (by omega), cpyS_r (by omega)]; exact h.2.2.2.2.2.2.2.2 t' k ht hk
theorem k_copy {A : Gs} {w : Wd} {t f u g n : Int32} (h : C A w) (hS : Shs A) : opC 84 [.int t, .int f, .int u, .int g, .int n] (o_copy A t f u g n) w := by
  unfold o_copy
  rcases ok_case t 3 (by omega) with ⟨k, hk, rfl, ek, ik⟩ | ek
  · rcases ok_case u 3 (by omega) with ⟨l, hl, rfl, el, il⟩ | el
    · have hk4 : k < 4 := by omega
      have hl4 : l < 4 := by omega
      have hs := sh_at hk4
      have hsl := sh_at hl4
      have hM := h.miss hS hk4
      have hMl := h.miss hS hl4
      rw [if_pos ⟨ek, el⟩, ik, il]
      by_cases h0 : A 23 k = 0
      · rw [if_pos (Or.inl h0)]
        refine opC_bad h (by omega) ?_
        simp (disch := first | omega | decide | assumption | exact nI0_01 | exact nI1_01 | exact bz_01 _ | exact rf1 | exact rf11 | exact rf21) only [Option.bind_some, List.cons_append, List.nil_append, Nat.reduceAdd, Nat.reduceMul, Nat.reduceLeDiff, Nat.reduceEqDiff, ↓reduceIte, n84, u84_0, u84_1, u84_4, u84_7, u84_8, u84_11, u84_14, u84_15, u84_16, u84_19, u84_20, u84_21, u84_24, u84_25, u84_26, u84_28, u84_29, u84_32, u84_33, u84_34, u84_36, u84_38, u84_41, u84_44, u84_46, u84_49, u84_52, u84_53, u84_54, u84_57, u84_58, u84_60, u84_63, u84_65, u84_68, u84_71, u84_72, u84_73, u84_76, u84_77, u84_79, u84_80, u84_82, u84_85, u84_88, u84_90, u84_92, u84_94, u84_97, u84_100, u84_101, u84_102, u84_105, u84_106, u84_108, u84_111, u84_112, u84_114, u84_117, u84_119, u84_121, u84_124, u84_126, c_isSheet, ek, el, bz_t, bz_f, nn_eq0, nn_eq, eq_self, not_true_eq_false, not_false_eq_true, hM, h0, decide_true, c_finding]
      · by_cases h0l : A 23 l = 0
        · rw [if_pos (Or.inr h0l)]
          refine opC_bad h (by omega) ?_
          simp (disch := first | omega | decide | assumption | exact nI0_01 | exact nI1_01 | exact bz_01 _ | exact rf1 | exact rf11 | exact rf21) only [Option.bind_some, List.cons_append, List.nil_append, Nat.reduceAdd, Nat.reduceMul, Nat.reduceLeDiff, Nat.reduceEqDiff, ↓reduceIte, n84, u84_0, u84_1, u84_4, u84_7, u84_8, u84_11, u84_14, u84_15, u84_16, u84_19, u84_20, u84_21, u84_24, u84_25, u84_26, u84_28, u84_29, u84_32, u84_33, u84_34, u84_36, u84_38, u84_41, u84_44, u84_46, u84_49, u84_52, u84_53, u84_54, u84_57, u84_58, u84_60, u84_63, u84_65, u84_68, u84_71, u84_72, u84_73, u84_76, u84_77, u84_79, u84_80, u84_82, u84_85, u84_88, u84_90, u84_92, u84_94, u84_97, u84_100, u84_101, u84_102, u84_105, u84_106, u84_108, u84_111, u84_112, u84_114, u84_117, u84_119, u84_121, u84_124, u84_126, c_isSheet, ek, el, bz_t, bz_f, nn_eq0, nn_eq, eq_self, not_true_eq_false, not_false_eq_true, hM, h0, decide_false, hMl, h0l, decide_true, c_finding]
        · rw [if_neg (fun z => z.elim h0 h0l)]
          have hb := h.sbits hk4
          have hbl := h.sbits hl4
          have hb1 := bits_lt hS hk4
          have hb2 := bits_lt hS hl4
          by_cases hu : A 23 k = A 23 l
          · rw [if_neg (fun z => z hu)]
            have h1 := c_has (f := f) (n := n) hs (h.ssize hk4) (hS k hk4).2
            have h2 := c_has (f := g) (n := n) hsl (h.ssize hl4) (hS l hl4).2
            have st : CALL 84 [.ref 0, .int (nI k), .int f, .int (nI l), .int g, .int n] w = RUN 84 77 [some (.ref 0), some (.int (nI k)), some (.int f), some (.int (nI l)), some (.int g), some (.int n), some (.ref (32 + 2 * k)), some (.ref (32 + 2 * l))] [] [] w := by
              simp (disch := first | omega | decide | assumption | exact nI0_01 | exact nI1_01 | exact bz_01 _ | exact rf1 | exact rf11 | exact rf21) only [Option.bind_some, List.cons_append, List.nil_append, Nat.reduceAdd, Nat.reduceMul, Nat.reduceLeDiff, Nat.reduceEqDiff, ↓reduceIte, u84_0, u84_1, u84_4, u84_7, u84_8, u84_11, u84_14, u84_15, u84_16, u84_19, u84_20, u84_21, u84_24, u84_25, u84_26, u84_28, u84_29, u84_32, u84_33, u84_34, u84_36, u84_38, u84_41, u84_44, u84_46, u84_49, u84_52, u84_53, u84_54, u84_57, u84_58, u84_60, u84_63, u84_65, u84_68, u84_71, u84_72, u84_73, u84_76, n84, c_isSheet, ek, el, bz_t, bz_f, nn_eq0, nn_eq, eq_self, not_true_eq_false, not_false_eq_true, hM, h0, decide_false, hMl, h0l, hb, hbl, hu, if_true]
            cases r1 : rng f n (A 24 k) with
            | false =>
              rw [if_neg (by simp)]
              refine opC_bad h (by omega) ?_
              rw [r1] at h1
              rw [st]
              simp (disch := first | omega | decide | assumption | exact nI0_01 | exact nI1_01 | exact bz_01 _ | exact rf1 | exact rf11 | exact rf21) only [Option.bind_some, List.cons_append, List.nil_append, Nat.reduceAdd, Nat.reduceMul, Nat.reduceLeDiff, Nat.reduceEqDiff, ↓reduceIte, u84_77, u84_79, u84_80, u84_82, u84_85, u84_88, u84_90, u84_92, u84_94, u84_97, u84_100, u84_101, u84_102, u84_105, u84_106, u84_108, u84_111, u84_112, u84_114, u84_117, u84_119, u84_121, u84_124, u84_126, h1, bz_t, bz_f, nn_eq0, nn_eq, eq_self, not_true_eq_false, not_false_eq_true, c_finding]
            | true =>
              cases r2 : rng g n (A 24 l) with
              | false =>
                rw [if_neg (by simp)]
                refine opC_bad h (by omega) ?_
                rw [r1] at h1
                rw [r2] at h2
                rw [st]
                simp (disch := first | omega | decide | assumption | exact nI0_01 | exact nI1_01 | exact bz_01 _ | exact rf1 | exact rf11 | exact rf21) only [Option.bind_some, List.cons_append, List.nil_append, Nat.reduceAdd, Nat.reduceMul, Nat.reduceLeDiff, Nat.reduceEqDiff, ↓reduceIte, u84_77, u84_79, u84_80, u84_82, u84_85, u84_88, u84_90, u84_92, u84_94, u84_97, u84_100, u84_101, u84_102, u84_105, u84_106, u84_108, u84_111, u84_112, u84_114, u84_117, u84_119, u84_121, u84_124, u84_126, h1, h2, bz_t, bz_f, nn_eq0, nn_eq, eq_self, not_true_eq_false, not_false_eq_true, c_finding]
              | true =>
                rw [if_pos ⟨rfl, rfl⟩]
                rw [r1] at h1
                rw [r2] at h2
                have z1 := (hS k hk4).2
                have z2 := (hS l hl4).2
                have p1 := of_decide_eq_true r1
                have p2 := of_decide_eq_true r2
                rcases ge0_case n with hn | ⟨m, hm, rfl, im⟩
                · rw [lt_z] at hn; omega
                · rcases ge0_case f with hf | ⟨a, ha, rfl, ia⟩
                  · rw [lt_z] at hf; omega
                  · rcases ge0_case g with hg | ⟨b, hb', rfl, ib⟩
                    · rw [lt_z] at hg; omega
                    · rw [ia, ib, im]
                      rw [nI_toInt hm, nI_toInt ha] at p1
                      rw [nI_toInt hm, nI_toInt hb'] at p2
                      have hF : ∀ j, j < 40 → (if m = al (32 + 2 * l + 1) then (fun j => w.1 (32 + 2 * k + 1) (a + j)) else va_cpy (w.1 (32 + 2 * k + 1)) (w.1 (32 + 2 * l + 1)) a b m) j = nI (cpyS A k a l b m (25 + l) j) := fun j hj => by
                        rw [al_at hl4]
                        unfold cpyS va_cpy
                        by_cases q40 : m = 40
                        · rw [if_pos q40, if_pos (by omega)]
                          show w.1 (32 + 2 * k + 1) (a + j) = _
                          rw [h.snum hk4 (by omega), show a + (j - b) = a + j by omega]
                        · rw [if_neg q40]
                          by_cases q5 : b ≤ j ∧ j < b + m
                          · rw [if_pos q5, if_pos ⟨rfl, q5⟩, h.snum hk4 (by omega)]
                          · rw [if_neg q5, if_neg (fun z => q5 z.2), h.snum hl4 hj]
                      refine ⟨_, ?_, C_cpy h hl4 hF, fun b' hb'' => put_ne _ _ (by omega)⟩
                      have l1 := al_at hk4
                      have l2 := al_at hl4
                      rw [st]
                      simp (disch := first | omega | decide | assumption | exact nI0_01 | exact nI1_01 | exact bz_01 _ | exact rf1 | exact rf11 | exact rf21) only [Option.bind_some, List.cons_append, List.nil_append, Nat.reduceAdd, Nat.reduceMul, Nat.reduceLeDiff, Nat.reduceEqDiff, ↓reduceIte, u84_77, u84_79, u84_80, u84_82, u84_85, u84_88, u84_90, u84_92, u84_94, u84_97, u84_100, u84_101, u84_102, u84_105, u84_106, u84_108, u84_111, u84_112, u84_114, u84_117, u84_119, h1, h2, bz_t, bz_f, nn_eq0, nn_eq, eq_self, not_true_eq_false, not_false_eq_true]
                      rw [u84_121 (by omega) (by omega) (by omega) (by omega) (by omega) (by omega)]
                      simp (disch := first | omega | decide | assumption | exact nI0_01 | exact nI1_01 | exact bz_01 _ | exact rf1 | exact rf11 | exact rf21) only [Option.bind_some, List.cons_append, List.nil_append, Nat.reduceAdd, Nat.reduceMul, Nat.reduceLeDiff, Nat.reduceEqDiff, ↓reduceIte, u84_124, u84_126]
                      by_cases q40 : m = al (32 + 2 * l + 1)
                      · rw [if_pos q40, if_pos q40]
                      · rw [if_neg q40, if_neg q40]
          · rw [if_pos hu]
            refine opC_bad h (by omega) ?_
            simp (disch := first | omega | decide | assumption | exact nI0_01 | exact nI1_01 | exact bz_01 _ | exact rf1 | exact rf11 | exact rf21) only [Option.bind_some, List.cons_append, List.nil_append, Nat.reduceAdd, Nat.reduceMul, Nat.reduceLeDiff, Nat.reduceEqDiff, ↓reduceIte, u84_0, u84_1, u84_4, u84_7, u84_8, u84_11, u84_14, u84_15, u84_16, u84_19, u84_20, u84_21, u84_24, u84_25, u84_26, u84_28, u84_29, u84_32, u84_33, u84_34, u84_36, u84_38, u84_41, u84_44, u84_46, u84_49, u84_52, u84_53, u84_54, u84_57, u84_58, u84_60, u84_63, u84_65, u84_68, u84_71, u84_72, u84_73, u84_76, n84, c_isSheet, ek, el, bz_t, bz_f, nn_eq0, nn_eq, eq_self, not_true_eq_false, not_false_eq_true, hM, h0, decide_false, hMl, h0l, hb, hbl, hu, if_false, c_finding]
    · rw [if_neg (by simp [el])]
      refine opC_bad h (by omega) ?_
      simp (disch := first | omega | decide | assumption | exact nI0_01 | exact nI1_01 | exact bz_01 _ | exact rf1 | exact rf11 | exact rf21) only [Option.bind_some, List.cons_append, List.nil_append, Nat.reduceAdd, Nat.reduceMul, Nat.reduceLeDiff, Nat.reduceEqDiff, ↓reduceIte, n84, u84_0, u84_1, u84_4, u84_7, u84_8, u84_11, u84_14, u84_15, u84_16, u84_19, u84_20, u84_21, u84_24, u84_25, u84_26, u84_28, u84_29, u84_32, u84_33, u84_34, u84_36, u84_38, u84_41, u84_44, u84_46, u84_49, u84_52, u84_53, u84_54, u84_57, u84_58, u84_60, u84_63, u84_65, u84_68, u84_71, u84_72, u84_73, u84_76, u84_77, u84_79, u84_80, u84_82, u84_85, u84_88, u84_90, u84_92, u84_94, u84_97, u84_100, u84_101, u84_102, u84_105, u84_106, u84_108, u84_111, u84_112, u84_114, u84_117, u84_119, u84_121, u84_124, u84_126, c_isSheet, ek, el, bz_t, bz_f, nn_eq0, nn_eq, eq_self, not_true_eq_false, not_false_eq_true, c_finding]
  · rw [if_neg (by simp [ek])]
    refine opC_bad h (by omega) ?_
    simp (disch := first | omega | decide | assumption | exact nI0_01 | exact nI1_01 | exact bz_01 _ | exact rf1 | exact rf11 | exact rf21) only [Option.bind_some, List.cons_append, List.nil_append, Nat.reduceAdd, Nat.reduceMul, Nat.reduceLeDiff, Nat.reduceEqDiff, ↓reduceIte, n84, u84_0, u84_1, u84_4, u84_7, u84_8, u84_11, u84_14, u84_15, u84_16, u84_19, u84_20, u84_21, u84_24, u84_25, u84_26, u84_28, u84_29, u84_32, u84_33, u84_34, u84_36, u84_38, u84_41, u84_44, u84_46, u84_49, u84_52, u84_53, u84_54, u84_57, u84_58, u84_60, u84_63, u84_65, u84_68, u84_71, u84_72, u84_73, u84_76, u84_77, u84_79, u84_80, u84_82, u84_85, u84_88, u84_90, u84_92, u84_94, u84_97, u84_100, u84_101, u84_102, u84_105, u84_106, u84_108, u84_111, u84_112, u84_114, u84_117, u84_119, u84_121, u84_124, u84_126, c_isSheet, ek, bz_t, bz_f, nn_eq0, nn_eq, eq_self, not_true_eq_false, not_false_eq_true, c_finding]
