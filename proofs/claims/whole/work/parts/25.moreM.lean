/-! SUMS, SETS -/
def sm (f : Nat → Nat) : Nat → Nat → Nat
  | 0, _ => 0
  | m + 1, a => f a + sm f m (a + 1)
/-- the set of the numbers from a on that a test passes -/
def orS (p : Nat → Bool) : Nat → Nat → Int32 → Int32
  | 0, _, s => s
  | m + 1, a, s => orS p m (a + 1) (if p a = true then s ||| (nI 1 <<< (nI a &&& 31)) else s)
theorem or_0 (s : Int32) : s ||| nI 0 = s := Int32.or_zero
theorem sumOf_loop {c n : Nat} {w : Wd} {A : Gs} (hc : c < 5) (hn : n ≤ 8) (hN : A 0 0 = n) : ∀ (m a s : Nat), m + a = n → RUN 137 4 [some (.ref 44), some (.int (nI c)), some (.int (nI s)), some (.int (nI a))] [] [] (putS w A) = some ([.int (nI (s + sm (A (4 + c)) m a))], putS w A) := by
  intro m
  induction m with
  | zero =>
    intro a s hm
    have e : a = n := by omega
    subst e
    rw [u137_4]
    simp (disch := first | omega | decide | exact nI0_01 | exact nI1_01 | exact bz_01 _) only [Option.bind_some, List.cons_append, List.nil_append, Nat.reduceAdd, Nat.reduceMul, Nat.reduceLeDiff, Nat.reduceEqDiff, ↓reduceIte, n137, u137_0, u137_1, u137_2, u137_3, u137_5, u137_6, u137_9, u137_10, u137_11, u137_14, u137_15, u137_16, u137_17, u137_18, u137_21, u137_22, u137_23, u137_26, u137_29, u137_30, putS_0, hN, nn_le, Nat.le_refl]
    rfl
  | succ m ih =>
    intro a s hm
    have h1 : ¬ n ≤ a := by omega
    rw [u137_4]
    simp (disch := first | omega | decide | exact nI0_01 | exact nI1_01 | exact bz_01 _) only [Option.bind_some, List.cons_append, List.nil_append, Nat.reduceAdd, Nat.reduceMul, Nat.reduceLeDiff, Nat.reduceEqDiff, ↓reduceIte, n137, u137_0, u137_1, u137_2, u137_3, u137_5, u137_6, u137_9, u137_10, u137_11, u137_14, u137_15, u137_16, u137_17, u137_18, u137_21, u137_22, u137_23, u137_26, u137_29, u137_30, putS_0, hN, nn_le, h1, if_false, s_its, nI_add]
    rw [ih (a + 1) (s + A (4 + c) a) (by omega), sm, Nat.add_assoc]
theorem x_sumOf {c : Nat} {w : Wd} {A : Gs} (hI : Iv A) (hc : c < 5) : CALL 137 [.ref 44, .int (nI c)] (putS w A) = some ([.int (nI (sm (A (4 + c)) (A 0 0) 0))], putS w A) := by
  simp (disch := first | omega | decide | exact nI0_01 | exact nI1_01 | exact bz_01 _) only [Option.bind_some, List.cons_append, List.nil_append, Nat.reduceAdd, Nat.reduceMul, Nat.reduceLeDiff, Nat.reduceEqDiff, ↓reduceIte, n137, u137_0, u137_1, u137_2, u137_3, u137_5, u137_6, u137_9, u137_10, u137_11, u137_14, u137_15, u137_16, u137_17, u137_18, u137_21, u137_22, u137_23, u137_26, u137_29, u137_30]
  rw [sumOf_loop hc hI.1 rfl (A 0 0) 0 0 (by omega), Nat.zero_add]
theorem jarAll_loop {w : Wd} {A : Gs} : ∀ (m a s : Nat), m + a = 10 → RUN 138 4 [some (.ref 44), some (.int (nI s)), some (.int (nI a))] [] [] (putS w A) = some ([.int (nI (s + sm (A 1) m a))], putS w A) := by
  intro m
  induction m with
  | zero =>
    intro a s hm
    have e : a = 10 := by omega
    subst e
    rw [u138_4]
    simp (disch := first | omega | decide | exact nI0_01 | exact nI1_01 | exact bz_01 _) only [Option.bind_some, List.cons_append, List.nil_append, Nat.reduceAdd, Nat.reduceMul, Nat.reduceLeDiff, Nat.reduceEqDiff, ↓reduceIte, n138, u138_0, u138_1, u138_2, u138_3, u138_5, u138_7, u138_10, u138_11, u138_12, u138_15, u138_16, u138_17, u138_18, u138_19, u138_20, u138_21, u138_24, u138_27, u138_28, nn_le, Nat.le_refl]
    rfl
  | succ m ih =>
    intro a s hm
    have h1 : ¬ 10 ≤ a := by omega
    rw [u138_4]
    simp (disch := first | omega | decide | exact nI0_01 | exact nI1_01 | exact bz_01 _) only [Option.bind_some, List.cons_append, List.nil_append, Nat.reduceAdd, Nat.reduceMul, Nat.reduceLeDiff, Nat.reduceEqDiff, ↓reduceIte, n138, u138_0, u138_1, u138_2, u138_3, u138_5, u138_7, u138_10, u138_11, u138_12, u138_15, u138_16, u138_17, u138_18, u138_19, u138_20, u138_21, u138_24, u138_27, u138_28, putS_1, nn_le, h1, if_false, nI_add]
    rw [ih (a + 1) (s + A 1 a) (by omega), sm, Nat.add_assoc]
theorem x_jarAll {w : Wd} {A : Gs} : CALL 138 [.ref 44] (putS w A) = some ([.int (nI (sm (A 1) 10 0))], putS w A) := by
  simp (disch := first | omega | decide | exact nI0_01 | exact nI1_01 | exact bz_01 _) only [Option.bind_some, List.cons_append, List.nil_append, Nat.reduceAdd, Nat.reduceMul, Nat.reduceLeDiff, Nat.reduceEqDiff, ↓reduceIte, n138, u138_0, u138_1, u138_2, u138_3, u138_5, u138_7, u138_10, u138_11, u138_12, u138_15, u138_16, u138_17, u138_18, u138_19, u138_20, u138_21, u138_24, u138_27, u138_28]
  rw [jarAll_loop 10 0 0 (by omega), Nat.zero_add]
theorem waiting_loop {n : Nat} {w : Wd} {A : Gs} (hI : Iv A) (hN : A 0 0 = n) : ∀ (m a : Nat) (s : Int32), m + a = n → RUN 140 4 [some (.ref 44), some (.int s), some (.int (nI a))] [] [] (putS w A) = some ([.int (orS (fun a => decide (A 1 (dg (A 5 a) (A 6 a)) = 0)) m a s)], putS w A) := by
  intro m
  induction m with
  | zero =>
    intro a s hm
    have e : a = n := by omega
    subst e
    have h0 := hI.1
    rw [u140_4]
    simp (disch := first | omega | decide | exact nI0_01 | exact nI1_01 | exact bz_01 _) only [Option.bind_some, List.cons_append, List.nil_append, Nat.reduceAdd, Nat.reduceMul, Nat.reduceLeDiff, Nat.reduceEqDiff, ↓reduceIte, n140, u140_0, u140_1, u140_2, u140_3, u140_5, u140_6, u140_9, u140_10, u140_11, u140_14, u140_15, u140_16, u140_19, u140_20, u140_21, u140_22, u140_25, u140_26, u140_27, u140_30, u140_31, u140_32, u140_33, u140_36, u140_37, u140_38, u140_39, u140_42, u140_45, u140_46, putS_0, hN, nn_le, Nat.le_refl]
    rfl
  | succ m ih =>
    intro a s hm
    have h0 := hI.1
    have h1 : ¬ n ≤ a := by omega
    have hw := hI.2.2.2.2 a (by omega)
    have hl := dg_lt (A 5 a) (A 6 a)
    have hj := hI.2.1 _ hl
    rw [u140_4, orS]
    by_cases h2 : A 1 (dg (A 5 a) (A 6 a)) = 0
    · simp (disch := first | omega | decide | exact nI0_01 | exact nI1_01 | exact bz_01 _) only [Option.bind_some, List.cons_append, List.nil_append, Nat.reduceAdd, Nat.reduceMul, Nat.reduceLeDiff, Nat.reduceEqDiff, ↓reduceIte, n140, u140_0, u140_1, u140_2, u140_3, u140_5, u140_6, u140_9, u140_10, u140_11, u140_14, u140_15, u140_16, u140_19, u140_20, u140_21, u140_22, u140_25, u140_26, u140_27, u140_30, u140_31, u140_32, u140_33, u140_36, u140_37, u140_38, u140_39, u140_42, u140_45, u140_46, putS_0, hN, nn_le, h1, if_false, x_next, nI_add, putS_1, nn_eq0, h2, not_true_eq_false, decide_true]
      exact ih (a + 1) _ (by omega)
    · simp (disch := first | omega | decide | exact nI0_01 | exact nI1_01 | exact bz_01 _) only [Option.bind_some, List.cons_append, List.nil_append, Nat.reduceAdd, Nat.reduceMul, Nat.reduceLeDiff, Nat.reduceEqDiff, ↓reduceIte, n140, u140_0, u140_1, u140_2, u140_3, u140_5, u140_6, u140_9, u140_10, u140_11, u140_14, u140_15, u140_16, u140_19, u140_20, u140_21, u140_22, u140_25, u140_26, u140_27, u140_30, u140_31, u140_32, u140_33, u140_36, u140_37, u140_38, u140_39, u140_42, u140_45, u140_46, putS_0, hN, nn_le, h1, if_false, x_next, nI_add, putS_1, nn_eq0, h2, not_false_eq_true, decide_false, or_0, Bool.false_eq_true]
      exact ih (a + 1) _ (by omega)
theorem x_waiting {w : Wd} {A : Gs} (hI : Iv A) : CALL 140 [.ref 44] (putS w A) = some ([.int (orS (fun a => decide (A 1 (dg (A 5 a) (A 6 a)) = 0)) (A 0 0) 0 (nI 0))], putS w A) := by
  simp (disch := first | omega | decide | exact nI0_01 | exact nI1_01 | exact bz_01 _) only [Option.bind_some, List.cons_append, List.nil_append, Nat.reduceAdd, Nat.reduceMul, Nat.reduceLeDiff, Nat.reduceEqDiff, ↓reduceIte, n140, u140_0, u140_1, u140_2, u140_3, u140_5, u140_6, u140_9, u140_10, u140_11, u140_14, u140_15, u140_16, u140_19, u140_20, u140_21, u140_22, u140_25, u140_26, u140_27, u140_30, u140_31, u140_32, u140_33, u140_36, u140_37, u140_38, u140_39, u140_42, u140_45, u140_46]
  exact waiting_loop hI rfl (A 0 0) 0 (nI 0) (by omega)
theorem lacking_loop {w : Wd} {A : Gs} (hI : Iv A) : ∀ (m a : Nat) (s : Int32), m + a = 10 → RUN 141 4 [some (.ref 44), some (.int s), some (.int (nI a))] [] [] (putS w A) = some ([.int (orS (fun a => decide (A 1 a = 0)) m a s)], putS w A) := by
  intro m
  induction m with
  | zero =>
    intro a s hm
    have e : a = 10 := by omega
    subst e
    rw [u141_4]
    simp (disch := first | omega | decide | exact nI0_01 | exact nI1_01 | exact bz_01 _) only [Option.bind_some, List.cons_append, List.nil_append, Nat.reduceAdd, Nat.reduceMul, Nat.reduceLeDiff, Nat.reduceEqDiff, ↓reduceIte, n141, u141_0, u141_1, u141_2, u141_3, u141_5, u141_7, u141_10, u141_11, u141_12, u141_15, u141_16, u141_17, u141_18, u141_19, u141_22, u141_23, u141_24, u141_25, u141_28, u141_29, u141_30, u141_31, u141_34, u141_37, u141_38, nn_le, Nat.le_refl]
    rfl
  | succ m ih =>
    intro a s hm
    have h1 : ¬ 10 ≤ a := by omega
    have hj := hI.2.1 a (by omega)
    rw [u141_4, orS]
    by_cases h2 : A 1 a = 0
    · simp (disch := first | omega | decide | exact nI0_01 | exact nI1_01 | exact bz_01 _) only [Option.bind_some, List.cons_append, List.nil_append, Nat.reduceAdd, Nat.reduceMul, Nat.reduceLeDiff, Nat.reduceEqDiff, ↓reduceIte, n141, u141_0, u141_1, u141_2, u141_3, u141_5, u141_7, u141_10, u141_11, u141_12, u141_15, u141_16, u141_17, u141_18, u141_19, u141_22, u141_23, u141_24, u141_25, u141_28, u141_29, u141_30, u141_31, u141_34, u141_37, u141_38, nn_le, h1, if_false, nI_add, putS_1, nn_eq0, h2, not_true_eq_false, decide_true]
      exact ih (a + 1) _ (by omega)
    · simp (disch := first | omega | decide | exact nI0_01 | exact nI1_01 | exact bz_01 _) only [Option.bind_some, List.cons_append, List.nil_append, Nat.reduceAdd, Nat.reduceMul, Nat.reduceLeDiff, Nat.reduceEqDiff, ↓reduceIte, n141, u141_0, u141_1, u141_2, u141_3, u141_5, u141_7, u141_10, u141_11, u141_12, u141_15, u141_16, u141_17, u141_18, u141_19, u141_22, u141_23, u141_24, u141_25, u141_28, u141_29, u141_30, u141_31, u141_34, u141_37, u141_38, nn_le, h1, if_false, nI_add, putS_1, nn_eq0, h2, not_false_eq_true, decide_false, or_0, Bool.false_eq_true]
      exact ih (a + 1) _ (by omega)
theorem x_lacking {w : Wd} {A : Gs} (hI : Iv A) : CALL 141 [.ref 44] (putS w A) = some ([.int (orS (fun a => decide (A 1 a = 0)) 10 0 (nI 0))], putS w A) := by
  simp (disch := first | omega | decide | exact nI0_01 | exact nI1_01 | exact bz_01 _) only [Option.bind_some, List.cons_append, List.nil_append, Nat.reduceAdd, Nat.reduceMul, Nat.reduceLeDiff, Nat.reduceEqDiff, ↓reduceIte, n141, u141_0, u141_1, u141_2, u141_3, u141_5, u141_7, u141_10, u141_11, u141_12, u141_15, u141_16, u141_17, u141_18, u141_19, u141_22, u141_23, u141_24, u141_25, u141_28, u141_29, u141_30, u141_31, u141_34, u141_37, u141_38]
  exact lacking_loop hI 10 0 (nI 0) (by omega)
theorem thin_loop {n : Nat} {w : Wd} {A : Gs} (hI : Iv A) (hN : A 0 0 = n) : ∀ (m a : Nat) (s : Int32), m + a = n → RUN 142 4 [some (.ref 44), some (.int s), some (.int (nI a))] [] [] (putS w A) = some ([.int (orS (fun a => decide (A 7 a = 0)) m a s)], putS w A) := by
  intro m
  induction m with
  | zero =>
    intro a s hm
    have e : a = n := by omega
    subst e
    have h0 := hI.1
    rw [u142_4]
    simp (disch := first | omega | decide | exact nI0_01 | exact nI1_01 | exact bz_01 _) only [Option.bind_some, List.cons_append, List.nil_append, Nat.reduceAdd, Nat.reduceMul, Nat.reduceLeDiff, Nat.reduceEqDiff, ↓reduceIte, n142, u142_0, u142_1, u142_2, u142_3, u142_5, u142_6, u142_9, u142_10, u142_11, u142_14, u142_15, u142_16, u142_17, u142_18, u142_21, u142_24, u142_25, u142_26, u142_27, u142_30, u142_31, u142_32, u142_33, u142_36, u142_39, u142_40, putS_0, hN, nn_le, Nat.le_refl]
    rfl
  | succ m ih =>
    intro a s hm
    have h0 := hI.1
    have h1 : ¬ n ≤ a := by omega
    have hw := hI.2.2.2.2 a (by omega)
    rw [u142_4, orS]
    by_cases h2 : A 7 a = 0
    · simp (disch := first | omega | decide | exact nI0_01 | exact nI1_01 | exact bz_01 _) only [Option.bind_some, List.cons_append, List.nil_append, Nat.reduceAdd, Nat.reduceMul, Nat.reduceLeDiff, Nat.reduceEqDiff, ↓reduceIte, n142, u142_0, u142_1, u142_2, u142_3, u142_5, u142_6, u142_9, u142_10, u142_11, u142_14, u142_15, u142_16, u142_17, u142_18, u142_21, u142_24, u142_25, u142_26, u142_27, u142_30, u142_31, u142_32, u142_33, u142_36, u142_39, u142_40, putS_0, hN, nn_le, h1, if_false, s_its, nI_add, nn_eq0, h2, not_true_eq_false, decide_true]
      exact ih (a + 1) _ (by omega)
    · simp (disch := first | omega | decide | exact nI0_01 | exact nI1_01 | exact bz_01 _) only [Option.bind_some, List.cons_append, List.nil_append, Nat.reduceAdd, Nat.reduceMul, Nat.reduceLeDiff, Nat.reduceEqDiff, ↓reduceIte, n142, u142_0, u142_1, u142_2, u142_3, u142_5, u142_6, u142_9, u142_10, u142_11, u142_14, u142_15, u142_16, u142_17, u142_18, u142_21, u142_24, u142_25, u142_26, u142_27, u142_30, u142_31, u142_32, u142_33, u142_36, u142_39, u142_40, putS_0, hN, nn_le, h1, if_false, s_its, nI_add, nn_eq0, h2, not_false_eq_true, decide_false, or_0, Bool.false_eq_true]
      exact ih (a + 1) _ (by omega)
theorem x_thin {w : Wd} {A : Gs} (hI : Iv A) : CALL 142 [.ref 44] (putS w A) = some ([.int (orS (fun a => decide (A 7 a = 0)) (A 0 0) 0 (nI 0))], putS w A) := by
  simp (disch := first | omega | decide | exact nI0_01 | exact nI1_01 | exact bz_01 _) only [Option.bind_some, List.cons_append, List.nil_append, Nat.reduceAdd, Nat.reduceMul, Nat.reduceLeDiff, Nat.reduceEqDiff, ↓reduceIte, n142, u142_0, u142_1, u142_2, u142_3, u142_5, u142_6, u142_9, u142_10, u142_11, u142_14, u142_15, u142_16, u142_17, u142_18, u142_21, u142_24, u142_25, u142_26, u142_27, u142_30, u142_31, u142_32, u142_33, u142_36, u142_39, u142_40]
  exact thin_loop hI rfl (A 0 0) 0 (nI 0) (by omega)
/-! THE ROW LAID ASIDE -/
def putA (w : Wd) (b : Nat) (A : Gs) : Wd := put w b (fun k => if k < 75 then nI (lay A k) else w.1 b k)
theorem copy_loop {a b : Nat} {w0 : Wd} {f : Nat → Int32} (hab : a ≠ b) (ha : 45 ≤ a ∧ a ≤ 48) (hb : 45 ≤ b ∧ b ≤ 48) (hf : w0.1 a = f) : ∀ (m k : Nat), m + k = 75 → RUN 105 2 [some (.ref a), some (.ref b), some (.int (nI k))] [] [] (put w0 b (fun j => if j < k then f j else w0.1 b j)) = some ([], put w0 b (fun j => if j < 75 then f j else w0.1 b j)) := by
  have ea : al a = 75 := by rcases (by omega : a = 45 ∨ a = 46 ∨ a = 47 ∨ a = 48) with h | h | h | h <;> subst h <;> rfl
  have eb : al b = 75 := by rcases (by omega : b = 45 ∨ b = 46 ∨ b = 47 ∨ b = 48) with h | h | h | h <;> subst h <;> rfl
  intro m
  induction m with
  | zero =>
    intro k hk
    have e : k = 75 := by omega
    subst e
    rw [u105_2]
    simp (disch := first | omega | decide | exact nI0_01 | exact nI1_01 | exact bz_01 _) only [Option.bind_some, List.cons_append, List.nil_append, Nat.reduceAdd, Nat.reduceMul, Nat.reduceLeDiff, Nat.reduceEqDiff, ↓reduceIte, n105, u105_0, u105_1, u105_3, u105_5, u105_8, u105_9, u105_10, u105_11, u105_12, u105_13, u105_14, u105_17, u105_20, nn_le, Nat.le_refl]
  | succ m ih =>
    intro k hk
    have h1 : ¬ 75 ≤ k := by omega
    have ha54 : a < 54 := by omega
    have hb54 : b < 54 := by omega
    have hk75 : k < 75 := by omega
    rw [u105_2]
    simp (disch := first | omega | decide | exact nI0_01 | exact nI1_01 | exact bz_01 _) only [Option.bind_some, List.cons_append, List.nil_append, Nat.reduceAdd, Nat.reduceMul, Nat.reduceLeDiff, Nat.reduceEqDiff, ↓reduceIte, u105_3, u105_5, u105_8, u105_9, u105_10, u105_11, nn_le, h1, if_false]
    rw [u105_12 ha54 ea hk75 (by omega), u105_13 hb54 eb hk75 (by omega)]
    simp (disch := first | omega | decide | exact nI0_01 | exact nI1_01 | exact bz_01 _) only [Option.bind_some, List.cons_append, List.nil_append, Nat.reduceAdd, Nat.reduceMul, Nat.reduceLeDiff, Nat.reduceEqDiff, ↓reduceIte, u105_14, u105_17, nI_add]
    rw [put_ne _ _ hab, hf, st2_put]
    have e : upd (fun j => if j < k then f j else w0.1 b j) k (f k) = fun j => if j < k + 1 then f j else w0.1 b j := by
      funext j
      unfold upd
      by_cases q : j = k
      · subst q; rw [if_pos rfl, if_pos (by omega)]
      · rw [if_neg q]
        show (if j < k then f j else w0.1 b j) = _
        by_cases q2 : j < k
        · rw [if_pos q2, if_pos (by omega)]
        · rw [if_neg q2, if_neg (by omega)]
    rw [e]
    exact ih (k + 1) (by omega)
theorem x_copyRow {a b : Nat} {w : Wd} (hab : a ≠ b) (ha : 45 ≤ a ∧ a ≤ 48) (hb : 45 ≤ b ∧ b ≤ 48) : CALL 105 [.ref a, .ref b] w = some ([], put w b (fun j => if j < 75 then w.1 a j else w.1 b j)) := by
  simp (disch := first | omega | decide | exact nI0_01 | exact nI1_01 | exact bz_01 _) only [Option.bind_some, List.cons_append, List.nil_append, Nat.reduceAdd, Nat.reduceMul, Nat.reduceLeDiff, Nat.reduceEqDiff, ↓reduceIte, n105, u105_0, u105_1, u105_3, u105_5, u105_8, u105_9, u105_10, u105_11, u105_12, u105_13, u105_14, u105_17, u105_20]
  have e : put w b (fun j => if j < 0 then w.1 a j else w.1 b j) = w := put_id w (by funext j; rw [if_neg (by omega)])
  have h := copy_loop (w0 := w) hab ha hb rfl 75 0 (by omega)
  rw [e] at h
  exact h
theorem put_S (w : Wd) (A : Gs) {b : Nat} (hb : b ≠ 45) (f : Nat → Int32) : put (putS w A) b f = putS (put w b f) A := put_cm w _ _ (by omega)
theorem x_aside {b : Nat} {w : Wd} {A : Gs} (hb : 46 ≤ b ∧ b ≤ 48) : CALL 105 [.ref 45, .ref b] (putS w A) = some ([], putS (putA w b A) A) := by
  rw [x_copyRow (by omega) (by omega) (by omega), put_S _ _ (by omega)]
  congr 2
  unfold putA
  congr 2
  funext j
  by_cases q : j < 75
  · rw [if_pos q, if_pos q, putS_at _ _ q]
  · rw [if_neg q, if_neg q, putS_ne _ _ (by omega)]
theorem x_back {b : Nat} {w : Wd} {A A' : Gs} (hb : 46 ≤ b ∧ b ≤ 48) (hA : ∀ k, k < 75 → w.1 b k = nI (lay A k)) : CALL 105 [.ref b, .ref 45] (putS w A') = some ([], putS w A) := by
  rw [x_copyRow (by omega) (by omega) (by omega)]
  unfold putS
  rw [put_put]
  congr 2
  congr 1
  funext j
  unfold rowS
  by_cases q : j < 75
  · rw [if_pos q, if_pos q, put_ne _ _ (by omega), hA j q]
  · rw [if_neg q, if_neg q, put_at, if_neg q]
theorem x_backA {b : Nat} {w : Wd} {A A' : Gs} (hb : 46 ≤ b ∧ b ≤ 48) : CALL 105 [.ref b, .ref 45] (putS (putA w b A) A') = some ([], putS (putA w b A) A) := x_back hb (fun k hk => by unfold putA; rw [put_at, if_pos hk])
theorem x_thenAt {p n : Nat} {w : Wd} {A : Gs} (hI : Iv A) (hp : p < 75) (hn : n ≤ 100) (hd : A 0 1 < 100000) : CALL 144 [.ref 44, .int (nI p), .int (nI n)] (putS w A) = some ([.int (nI (lay (days 0 n A) p))], putS (putA w 48 A) A) := by
  simp (disch := first | omega | decide | exact nI0_01 | exact nI1_01 | exact bz_01 _) only [Option.bind_some, List.cons_append, List.nil_append, Nat.reduceAdd, Nat.reduceMul, Nat.reduceLeDiff, Nat.reduceEqDiff, ↓reduceIte, n144, u144_0, u144_1, u144_4, u144_5, u144_8, u144_11, u144_12, u144_13, u144_16, u144_17, u144_20, u144_21, u144_22, u144_23, u144_24, u144_27, u144_28, u144_31, u144_34, u144_35, x_aside, x_goes, putS_at, x_backA, hI]
