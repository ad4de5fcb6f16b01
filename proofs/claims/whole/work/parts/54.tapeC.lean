theorem C_gen {A A' : Gs} {w w' : Wd} (h : C A w) (hlo : ∀ c, c < 20 → A' c = A c) (e : ∀ a, (1 ≤ a ∧ a ≤ 10 ∨ 21 ≤ a ∧ a ≤ 30) → w'.1 a = w.1 a) (hk : A' 20 0 = 1 → A 20 0 = 1) (p0 : w'.1 0 3 = nI (A' 20 0)) (p1 : w'.1 40 1 = nI (A' 20 1)) (p2 : ∀ k, k < 120 → w'.1 41 k = nI (A' 21 k)) (p3 : ∀ k, k < 7 → w'.1 42 k = nI (A' 22 (k + 1))) (p4 : ∀ t, t < 4 → w'.1 (32 + 2 * t) 2 = nI (A' 23 t)) (p5 : ∀ t, t < 4 → w'.1 (32 + 2 * t) 1 = nI (A' 24 t)) (p6 : ∀ t k, t < 4 → k < 40 → w'.1 (33 + 2 * t) k = nI (A' (25 + t) k)) : C A' w' := by
  refine ⟨?_, p0, p1, ?_, p2, p3, p4, p5, p6⟩
  · rw [putR_gs (G := A) (fun c hc => hlo c (by omega))]
    exact putR_rd h.1 (fun a p q => e a (by omega))
  · intro z
    rw [putR_gs (G := fun c => A (10 + c)) (fun c hc => hlo (10 + c) (by omega))]
    exact putR_rd (h.2.2.2.1 (hk z)) (fun a p q => e a (by omega))
theorem up_lo (A : Gs) {c k v : Nat} (hc : 20 ≤ c) : ∀ d, d < 20 → up A c k v d = A d := fun d hd => by
  funext j; rw [up_nc A (by omega)]
theorem C_tape {A : Gs} {w : Wd} (h : C A w) (v : Nat) : C (up A 20 1 v) (st2 w 40 1 (nI v)) := by
  refine C_gen h (up_lo A (by omega)) (fun a ha => st2_ne _ _ _ (by omega)) (fun z => by rw [up_nk _ (by omega)] at z; exact z) ?_ ?_ (fun k hk => ?_) (fun k hk => ?_) (fun t ht => ?_) (fun t ht => ?_) (fun t k ht hk => ?_)
  · rw [st2_ne _ _ _ (by omega), up_nk _ (by omega)]; exact h.2.1
  · rw [st2_at, up_at]
  · rw [st2_ne _ _ _ (by omega), up_nc _ (by omega)]; exact h.2.2.2.2.1 k hk
  · rw [st2_ne _ _ _ (by omega), up_nc _ (by omega)]; exact h.2.2.2.2.2.1 k hk
  · rw [st2_ne _ _ _ (by omega), up_nc _ (by omega)]; exact h.2.2.2.2.2.2.1 t ht
  · rw [st2_ne _ _ _ (by omega), up_nc _ (by omega)]; exact h.2.2.2.2.2.2.2.1 t ht
  · rw [st2_ne _ _ _ (by omega), up_nc _ (by omega)]; exact h.2.2.2.2.2.2.2.2 t k ht hk
theorem C_byte {A : Gs} {w : Wd} (h : C A w) (i v : Nat) : C (up A 21 i v) (st2 w 41 i (nI v)) := by
  refine C_gen h (up_lo A (by omega)) (fun a ha => st2_ne _ _ _ (by omega)) (fun z => by rw [up_nc _ (by omega)] at z; exact z) ?_ ?_ (fun k hk => ?_) (fun k hk => ?_) (fun t ht => ?_) (fun t ht => ?_) (fun t k ht hk => ?_)
  · rw [st2_ne _ _ _ (by omega), up_nc _ (by omega)]; exact h.2.1
  · rw [st2_ne _ _ _ (by omega), up_nc _ (by omega)]; exact h.2.2.1
  · by_cases q : k = i
    · subst q; rw [st2_at, up_at]
    · rw [st2_nk _ _ _ q, up_nk _ q]; exact h.2.2.2.2.1 k hk
  · rw [st2_ne _ _ _ (by omega), up_nc _ (by omega)]; exact h.2.2.2.2.2.1 k hk
  · rw [st2_ne _ _ _ (by omega), up_nc _ (by omega)]; exact h.2.2.2.2.2.2.1 t ht
  · rw [st2_ne _ _ _ (by omega), up_nc _ (by omega)]; exact h.2.2.2.2.2.2.2.1 t ht
  · rw [st2_ne _ _ _ (by omega), up_nc _ (by omega)]; exact h.2.2.2.2.2.2.2.2 t k ht hk
theorem C_torn {A : Gs} {w : Wd} (h : C A w) : C (up A 20 0 0) (st2 w 0 3 (nI 0)) := by
  refine C_gen h (up_lo A (by omega)) (fun a ha => st2_ne _ _ _ (by omega)) (fun z => by rw [up_at] at z; exact absurd z (by decide)) ?_ ?_ (fun k hk => ?_) (fun k hk => ?_) (fun t ht => ?_) (fun t ht => ?_) (fun t k ht hk => ?_)
  · rw [st2_at, up_at]
  · rw [st2_ne _ _ _ (by omega), up_nk _ (by omega)]; exact h.2.2.1
  · rw [st2_ne _ _ _ (by omega), up_nc _ (by omega)]; exact h.2.2.2.2.1 k hk
  · rw [st2_ne _ _ _ (by omega), up_nc _ (by omega)]; exact h.2.2.2.2.2.1 k hk
  · rw [st2_ne _ _ _ (by omega), up_nc _ (by omega)]; exact h.2.2.2.2.2.2.1 t ht
  · rw [st2_ne _ _ _ (by omega), up_nc _ (by omega)]; exact h.2.2.2.2.2.2.2.1 t ht
  · rw [st2_ne _ _ _ (by omega), up_nc _ (by omega)]; exact h.2.2.2.2.2.2.2.2 t k ht hk
theorem k_wipe {A : Gs} {w : Wd} (h : C A w) : opC 78 [] (o_wipe A) w := by
  have h7 := h.2.2.1
  refine ⟨st2 w 40 1 (nI 0), ?_, C_tape h 0, (fC.rf w).st (by omega) _ _⟩
  simp (disch := first | omega | decide | assumption | exact nI0_01 | exact nI1_01 | exact bz_01 _ | exact rf1 | exact rf11 | exact rf21) only [Option.bind_some, List.cons_append, List.nil_append, Nat.reduceAdd, Nat.reduceMul, Nat.reduceLeDiff, Nat.reduceEqDiff, ↓reduceIte, n78, u78_0, u78_1, u78_4, u78_7, u78_8, u78_9, u78_12, u78_13, u78_16, u78_17, h7]
  rfl
theorem k_tear {A : Gs} {w : Wd} (h : C A w) (hk : A 20 0 ≤ 1) : opC 89 [] (o_tear A) w := by
  have h4 := h.2.1
  refine ⟨st2 w 0 3 (nI 0), ?_, C_torn h, (fC.rf w).st (by omega) _ _⟩
  rcases (by omega : A 20 0 = 0 ∨ A 20 0 = 1) with h1 | h1 <;> simp (disch := first | omega | decide | assumption | exact nI0_01 | exact nI1_01 | exact bz_01 _ | exact rf1 | exact rf11 | exact rf21) only [Option.bind_some, List.cons_append, List.nil_append, Nat.reduceAdd, Nat.reduceMul, Nat.reduceLeDiff, Nat.reduceEqDiff, ↓reduceIte, n89, u89_0, u89_1, u89_4, u89_7, u89_8, u89_11, u89_12, u89_13, u89_14, u89_15, u89_18, u89_19, h4, h1, bz_t, bz_f, nn_eq0, nn_eq, eq_self, not_true_eq_false, not_false_eq_true] <;> (unfold o_tear; rw [h1])
theorem add_loop {x n : Int32} : ∀ (m : Nat) (A : Gs) (w : Wd), C A w → A 20 1 + m ≤ 120 → m ≤ 4 → ∃ w', RUN 77 40 [some (.ref 0), some (.int x), some (.int n), some (.int (nI m + -1))] [] [] w = some ([.int (nI (A 20 1 + m))], w') ∧ C (fdS x m A) w' ∧ fC w w' := by
  intro m
  induction m with
  | zero =>
    intro A w h ht hm
    refine ⟨w, ?_, h, fC.rf w⟩
    have e : nI 0 + -1 < 0 := by decide
    have h7 := h.2.2.1
    rw [u77_40]
    simp (disch := first | omega | decide | assumption | exact nI0_01 | exact nI1_01 | exact bz_01 _ | exact rf1 | exact rf11 | exact rf21) only [Option.bind_some, List.cons_append, List.nil_append, Nat.reduceAdd, Nat.reduceMul, Nat.reduceLeDiff, Nat.reduceEqDiff, ↓reduceIte, n77, u77_0, u77_1, u77_2, u77_5, u77_6, u77_7, u77_10, u77_11, u77_12, u77_15, u77_16, u77_17, u77_20, u77_23, u77_25, u77_26, u77_27, u77_30, u77_31, u77_32, u77_35, u77_36, u77_37, u77_38, u77_39, u77_41, u77_44, u77_45, u77_48, u77_49, u77_51, u77_52, u77_53, u77_54, u77_57, u77_58, u77_61, u77_64, u77_67, u77_68, u77_71, u77_74, e, if_true, h7, Nat.add_zero]
  | succ m ih =>
    intro A w h ht hm
    have h7 := h.2.2.1
    have hM := C_tape (C_byte h (A 20 1) (byt x m)) (A 20 1 + 1)
    have e1 : up (up A 21 (A 20 1) (byt x m)) 20 1 (A 20 1 + 1) 20 1 = A 20 1 + 1 := up_at _ _ _ _
    obtain ⟨w', h1, h2, h3⟩ := ih _ _ hM (by rw [e1]; omega) (by omega)
    rw [e1] at h1
    refine ⟨w', ?_, h2, ((fC.rf w).st (by omega) _ _ |>.st (by omega) _ _).tr h3⟩
    have e7 : (st2 w 41 (A 20 1) (nI (byt x m))).1 40 1 = nI (A 20 1) := by rw [st2_ne _ _ _ (by omega)]; exact h7
    have en : ¬ nI m < 0 := by rw [nn_lt0 (by omega)]; exact fun z => z
    have ha : A 20 1 < 120 := by omega
    have ha' : ¬ 120 ≤ A 20 1 := by omega
    have hb : nI (m + 1) + -1 = nI m := pk_m1 m
    have hbs := byt_u x (i := m) (by omega)
    have hA : CALL 32 [.ref 40, .int (nI (byt x m))] w = some ([], st2 (st2 w 41 (A 20 1) (nI (byt x m))) 40 1 (nI (A 20 1 + 1))) := by
      simp (disch := first | omega | decide | assumption | exact nI0_01 | exact nI1_01 | exact bz_01 _ | exact rf1 | exact rf11 | exact rf21) only [Option.bind_some, List.cons_append, List.nil_append, Nat.reduceAdd, Nat.reduceMul, Nat.reduceLeDiff, Nat.reduceEqDiff, ↓reduceIte, n32, u32_0, u32_1, u32_4, u32_6, u32_9, u32_10, u32_13, u32_14, u32_17, u32_18, u32_19, u32_20, u32_21, u32_24, u32_25, u32_26, u32_29, h7, nn_le, ha', if_false, e7, nI_add]
    rw [hb, u77_40]
    simp (disch := first | omega | decide | assumption | exact nI0_01 | exact nI1_01 | exact bz_01 _ | exact rf1 | exact rf11 | exact rf21) only [Option.bind_some, List.cons_append, List.nil_append, Nat.reduceAdd, Nat.reduceMul, Nat.reduceLeDiff, Nat.reduceEqDiff, ↓reduceIte, n77, u77_0, u77_1, u77_2, u77_5, u77_6, u77_7, u77_10, u77_11, u77_12, u77_15, u77_16, u77_17, u77_20, u77_23, u77_25, u77_26, u77_27, u77_30, u77_31, u77_32, u77_35, u77_36, u77_37, u77_38, u77_39, u77_41, u77_44, u77_45, u77_48, u77_49, u77_51, u77_52, u77_53, u77_54, u77_57, u77_58, u77_61, u77_64, u77_67, u77_68, u77_71, u77_74, en, if_false, pk_mul, hbs, hA]
    rw [h1, show A 20 1 + 1 + m = A 20 1 + (m + 1) by omega]
theorem k_feed {A : Gs} {w : Wd} {x n : Int32} (h : C A w) (ht : A 20 1 ≤ 120) : opC 77 [.int x, .int n] (o_feed A x n) w := by
  have h7 := h.2.2.1
  unfold o_feed
  rcases ok2_case n 1 4 (by omega) with ⟨k, hk, lk, rfl, ek, ik⟩ | ek
  · rw [if_pos ek, ik]
    have q1 : ¬ k < 1 := by omega
    have q2 : ¬ 4 < k := by omega
    by_cases h1 : 120 < A 20 1 + k
    · rw [if_pos h1]
      refine opC_bad h (by omega) ?_
      have h2 : ¬ A 20 1 ≤ 120 - k := by omega
      have h3 : 120 - k < A 20 1 := by omega
      simp (disch := first | omega | decide | assumption | exact nI0_01 | exact nI1_01 | exact bz_01 _ | exact rf1 | exact rf11 | exact rf21) only [Option.bind_some, List.cons_append, List.nil_append, Nat.reduceAdd, Nat.reduceMul, Nat.reduceLeDiff, Nat.reduceEqDiff, ↓reduceIte, u77_0, u77_1, u77_2, u77_5, u77_6, u77_7, u77_10, u77_11, u77_12, u77_15, u77_16, u77_17, u77_20, u77_23, u77_25, u77_26, u77_27, u77_30, u77_31, u77_32, u77_35, u77_36, u77_37, u77_38, u77_39, n77, nn_lt, nn_le, q1, q2, lk, hk, h7, nn_sub, h2, h3, if_true, if_false, c_finding]
    · rw [if_neg h1]
      have h2 : A 20 1 + k ≤ 120 := by omega
      have h2' : A 20 1 ≤ 120 - k := by omega
      have h3 : ¬ 120 - k < A 20 1 := by omega
      obtain ⟨w', g3, g4, g5⟩ := add_loop (x := x) (n := nI k) k A w h h2 lk
      refine ⟨w', ?_, g4, g5⟩
      have e : nI k - nI 1 = nI k + -1 := by rw [nn_sub hk, show k = (k - 1) + 1 by omega, pk_m1]; rfl
      have e' : nI (k - 1) = nI k + -1 := by rw [show k = (k - 1) + 1 by omega, pk_m1]; rfl
      simp (disch := first | omega | decide | assumption | exact nI0_01 | exact nI1_01 | exact bz_01 _ | exact rf1 | exact rf11 | exact rf21) only [Option.bind_some, List.cons_append, List.nil_append, Nat.reduceAdd, Nat.reduceMul, Nat.reduceLeDiff, Nat.reduceEqDiff, ↓reduceIte, u77_0, u77_1, u77_2, u77_5, u77_6, u77_7, u77_10, u77_11, u77_12, u77_15, u77_16, u77_17, u77_20, u77_23, u77_25, u77_26, u77_27, u77_30, u77_31, u77_32, u77_35, u77_36, u77_37, u77_38, u77_39, n77, nn_lt, nn_le, q1, q2, lk, hk, h7, e, nn_sub, h2', h3, if_true, if_false, e']
      exact g3
  · rw [if_neg (by simp [ek])]
    refine opC_bad h (by omega) ?_
    have hq : n < nI 1 ∨ ¬ n < nI 1 ∧ nI 4 < n := by
      unfold ok2 at ek
      have h2 := of_decide_eq_false ek
      by_cases q : n < nI 1
      · exact Or.inl q
      · right
        refine ⟨q, ?_⟩
        rw [lt_nI (by omega)] at q
        rw [gt_nI (by omega)]
        omega
    rcases hq with q | ⟨q, q2⟩
    · simp (disch := first | omega | decide | assumption | exact nI0_01 | exact nI1_01 | exact bz_01 _ | exact rf1 | exact rf11 | exact rf21) only [Option.bind_some, List.cons_append, List.nil_append, Nat.reduceAdd, Nat.reduceMul, Nat.reduceLeDiff, Nat.reduceEqDiff, ↓reduceIte, u77_0, u77_1, u77_2, u77_5, u77_6, u77_7, u77_10, u77_11, u77_12, u77_15, u77_16, u77_17, u77_20, u77_23, u77_25, u77_26, u77_27, u77_30, u77_31, u77_32, u77_35, u77_36, u77_37, u77_38, u77_39, n77, q, if_true, c_finding]
    · have q3 : ¬ n ≤ nI 4 := Int32.not_le.mpr q2
      simp (disch := first | omega | decide | assumption | exact nI0_01 | exact nI1_01 | exact bz_01 _ | exact rf1 | exact rf11 | exact rf21) only [Option.bind_some, List.cons_append, List.nil_append, Nat.reduceAdd, Nat.reduceMul, Nat.reduceLeDiff, Nat.reduceEqDiff, ↓reduceIte, u77_0, u77_1, u77_2, u77_5, u77_6, u77_7, u77_10, u77_11, u77_12, u77_15, u77_16, u77_17, u77_20, u77_23, u77_25, u77_26, u77_27, u77_30, u77_31, u77_32, u77_35, u77_36, u77_37, u77_38, u77_39, n77, q, q2, q3, if_true, if_false, c_finding]
theorem k_undo {A : Gs} {w : Wd} (h : C A w) (hk : A 20 0 ≤ 1) : opC 88 [] (o_undo A) w := by
  unfold o_undo
  have h4 := h.2.1
  by_cases h1 : A 20 0 = 1
  · rw [if_pos h1]
    obtain ⟨v, e1, e2⟩ := c_become rf1 rf21 (by omega) (h.2.2.2.1 h1)
    have eg : putR v 1 (fun c => A (10 + c)) = putR v 1 (und A) := putR_gs (fun c hc => funext fun k => (if_pos hc).symm)
    rw [eg] at e1
    have hu : ∀ c, 10 ≤ c → und A c = A c := fun c hc => funext fun k => if_neg (by omega)
    have e : ∀ a, (a < 1 ∨ 10 < a) → (putR v 1 (und A)).1 a = w.1 a := fun a ha => by rw [putR_ne _ _ (by omega)]; exact e2 a (by omega)
    obtain ⟨g1, g2, g3, g4, g5, g6, g7, g8, g9⟩ := h
    refine ⟨putR v 1 (und A), ?_, ?_, fun a ha => e a (by omega)⟩
    · have er : und A 0 1 = A 10 1 := rfl
      simp (disch := first | omega | decide | assumption | exact nI0_01 | exact nI1_01 | exact bz_01 _ | exact rf1 | exact rf11 | exact rf21) only [Option.bind_some, List.cons_append, List.nil_append, Nat.reduceAdd, Nat.reduceMul, Nat.reduceLeDiff, Nat.reduceEqDiff, ↓reduceIte, n88, u88_0, u88_1, u88_4, u88_7, u88_8, u88_9, u88_12, u88_13, u88_14, u88_17, u88_18, u88_21, u88_24, u88_25, u88_28, u88_31, h4, h1, bz_t, bz_f, nn_eq0, nn_eq, eq_self, not_true_eq_false, not_false_eq_true, e1, R_10, er]
    · show C (und A) (putR v 1 (und A))
      refine ⟨putR_putR _ _ _ _, ?_, ?_, ?_, ?_, ?_, ?_, ?_, ?_⟩
      · rw [e 0 (by omega), hu 20 (by omega)]; exact g2
      · rw [e 40 (by omega), hu 20 (by omega)]; exact g3
      · rw [hu 20 (by omega)]
        intro z
        rw [putR_gs (G := fun c => A (10 + c)) (fun c _ => hu (10 + c) (by omega))]
        exact putR_rd (g4 z) (fun a p q => e a (by omega))
      · rw [e 41 (by omega), hu 21 (by omega)]; exact g5
      · rw [e 42 (by omega), hu 22 (by omega)]; exact g6
      · intro t ht; rw [e (32 + 2 * t) (by omega), hu 23 (by omega)]; exact g7 t ht
      · intro t ht; rw [e (32 + 2 * t) (by omega), hu 24 (by omega)]; exact g8 t ht
      · intro t k ht hk; rw [e (33 + 2 * t) (by omega), hu (25 + t) (by omega)]; exact g9 t k ht hk
  · rw [if_neg h1]
    have h0 : A 20 0 = 0 := by omega
    refine opC_bad h (by omega) ?_
    simp (disch := first | omega | decide | assumption | exact nI0_01 | exact nI1_01 | exact bz_01 _ | exact rf1 | exact rf11 | exact rf21) only [Option.bind_some, List.cons_append, List.nil_append, Nat.reduceAdd, Nat.reduceMul, Nat.reduceLeDiff, Nat.reduceEqDiff, ↓reduceIte, n88, u88_0, u88_1, u88_4, u88_7, u88_8, u88_9, u88_12, u88_13, u88_14, u88_17, u88_18, u88_21, u88_24, u88_25, u88_28, u88_31, h4, h0, bz_t, bz_f, nn_eq0, nn_eq, eq_self, not_true_eq_false, not_false_eq_true, c_finding]
theorem k_image {A : Gs} {w : Wd} (h : C A w) : opC 87 [] (o_image A) w := by
  obtain ⟨v, e1, e2⟩ := c_become rf21 rf1 (by omega) h.1
  have e : ∀ a, a ≠ 0 → (a < 21 ∨ 30 < a) → (st2 (putR v 21 A) 0 3 (nI 1)).1 a = w.1 a := fun a h0 ha => by
    rw [st2_ne _ _ _ h0, putR_ne _ _ (by omega)]; exact e2 a (by omega)
  obtain ⟨g1, g2, g3, g4, g5, g6, g7, g8, g9⟩ := h
  refine ⟨st2 (putR v 21 A) 0 3 (nI 1), ?_, ?_, fun a ha => e a (by omega) (by omega)⟩
  · simp (disch := first | omega | decide | assumption | exact nI0_01 | exact nI1_01 | exact bz_01 _ | exact rf1 | exact rf11 | exact rf21) only [Option.bind_some, List.cons_append, List.nil_append, Nat.reduceAdd, Nat.reduceMul, Nat.reduceLeDiff, Nat.reduceEqDiff, ↓reduceIte, n87, u87_0, u87_1, u87_4, u87_5, u87_8, u87_11, u87_12, u87_13, u87_16, u87_17, e1]
    rfl
  · have i0 : img A 20 0 = 1 := rfl
    have i1 : img A 20 1 = A 20 1 := rfl
    refine ⟨?_, ?_, ?_, ?_, ?_, ?_, ?_, ?_, ?_⟩
    · show putR (st2 (putR v 21 A) 0 3 (nI 1)) 1 (img A) = _
      rw [putR_gs (G := A) (G' := img A) (fun c hc => img_lo A hc)]
      exact putR_rd g1 (fun a p q => e a (by omega) (by omega))
    · show (st2 (putR v 21 A) 0 3 (nI 1)).1 0 3 = nI (img A 20 0)
      rw [st2_at, i0]
    · show (st2 (putR v 21 A) 0 3 (nI 1)).1 40 1 = nI (img A 20 1)
      rw [e 40 (by omega) (by omega), i1]; exact g3
    · intro _
      have ek : ∀ c, c < 10 → (fun c => img A (10 + c)) c = A c := fun c hc => funext fun k => by
        show (if 10 ≤ 10 + c ∧ 10 + c < 20 then A (10 + c - 10) k else _) = _
        rw [if_pos (by omega), Nat.add_sub_cancel_left]
      show putR (st2 (putR v 21 A) 0 3 (nI 1)) 21 (fun c => img A (10 + c)) = st2 (putR v 21 A) 0 3 (nI 1)
      rw [putR_gs (G := A) ek, ← putR_st _ _ (by omega), putR_putR]
    · show ∀ k, k < 120 → (st2 (putR v 21 A) 0 3 (nI 1)).1 41 k = nI (img A 21 k)
      rw [e 41 (by omega) (by omega), img_hi A (by omega)]; exact g5
    · show ∀ k, k < 7 → (st2 (putR v 21 A) 0 3 (nI 1)).1 42 k = nI (img A 22 (k + 1))
      rw [e 42 (by omega) (by omega), img_hi A (by omega)]; exact g6
    · intro t ht
      show (st2 (putR v 21 A) 0 3 (nI 1)).1 (32 + 2 * t) 2 = nI (img A 23 t)
      rw [e (32 + 2 * t) (by omega) (by omega), img_hi A (by omega)]; exact g7 t ht
    · intro t ht
      show (st2 (putR v 21 A) 0 3 (nI 1)).1 (32 + 2 * t) 1 = nI (img A 24 t)
      rw [e (32 + 2 * t) (by omega) (by omega), img_hi A (by omega)]; exact g8 t ht
    · intro t k ht hk
      show (st2 (putR v 21 A) 0 3 (nI 1)).1 (33 + 2 * t) k = nI (img A (25 + t) k)
      rw [e (33 + 2 * t) (by omega) (by omega), img_hi A (by omega)]; exact g9 t k ht hk
