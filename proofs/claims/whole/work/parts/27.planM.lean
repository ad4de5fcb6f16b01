theorem Iv.lay_lt {A : Gs} (hI : Iv A) {p : Nat} (hp : (∃ l, l < 10 ∧ p = 3 + l) ∨ ∃ a, a < 8 ∧ p = 25 + 5 * a + 3) : lay A p < 1000 := by
  rcases hp with ⟨l, hl, rfl⟩ | ⟨a, ha, rfl⟩
  · rw [lay_1 A hl]
    have := hI.2.1 l hl
    omega
  · rw [lay_w A ha (by omega)]
    exact Nat.lt_of_le_of_lt (hI.2.2.2.2 a ha).2.2.2.1 (by omega)
theorem none_loop {p : Nat} {w : Wd} (hp : (∃ l, l < 10 ∧ p = 3 + l) ∨ ∃ a, a < 8 ∧ p = 25 + 5 * a + 3) : ∀ (m d : Nat) (A : Gs), Iv A → m + d = 101 → A 0 1 ≤ 40000 + d → ∃ A', RUN 148 13 [some (.ref 44), some (.int (nI p)), some (.int (nI d))] [] [] (putS w A) = RUN 148 39 [some (.ref 44), some (.int (nI p)), some (.int (nI (whn (fun B => decide (lay B p = 0)) m d A)))] [] [] (putS w A') := by
  have hp75 : p < 75 := by rcases hp with ⟨l, hl, rfl⟩ | ⟨a, ha, rfl⟩ <;> omega
  intro m
  induction m with
  | zero =>
    intro d A hI hm hd
    have e : d = 101 := by omega
    subst e
    refine ⟨A, ?_⟩
    rw [u148_13]
    simp (disch := first | omega | decide | exact nI0_01 | exact nI1_01 | exact bz_01 _) only [Option.bind_some, List.cons_append, List.nil_append, Nat.reduceAdd, Nat.reduceMul, Nat.reduceLeDiff, Nat.reduceEqDiff, ↓reduceIte, u148_14, u148_16, u148_19, u148_20, u148_23, u148_24, u148_25, u148_28, u148_29, u148_30, u148_33, u148_36, nn_lt]
    rfl
  | succ m ih =>
    intro d A hI hm hd
    have h1 : ¬ 100 < d := by omega
    have hl := hI.lay_lt hp
    by_cases h2 : lay A p = 0
    · refine ⟨A, ?_⟩
      rw [u148_13]
      simp (disch := first | omega | decide | exact nI0_01 | exact nI1_01 | exact bz_01 _) only [Option.bind_some, List.cons_append, List.nil_append, Nat.reduceAdd, Nat.reduceMul, Nat.reduceLeDiff, Nat.reduceEqDiff, ↓reduceIte, u148_14, u148_16, u148_19, u148_20, u148_23, u148_24, u148_25, u148_28, u148_29, u148_30, u148_33, u148_36, nn_lt, nn_le0, h1, if_false, putS_at, h2, whn, decide_true]
    · obtain ⟨A', h3⟩ := ih (d + 1) (day 0 A) (hI.day 0) (by omega) (by rw [day_01]; omega)
      refine ⟨A', ?_⟩
      rw [u148_13]
      simp (disch := first | omega | decide | exact nI0_01 | exact nI1_01 | exact bz_01 _) only [Option.bind_some, List.cons_append, List.nil_append, Nat.reduceAdd, Nat.reduceMul, Nat.reduceLeDiff, Nat.reduceEqDiff, ↓reduceIte, u148_14, u148_16, u148_19, u148_20, u148_23, u148_24, u148_25, u148_28, u148_29, u148_30, u148_33, u148_36, nn_lt, nn_le0, h1, if_false, putS_at, h2, whn, decide_false, Bool.false_eq_true, x_dayBut hI, nI_add]
      exact h3
theorem x_whenNone {p : Nat} {w : Wd} {A : Gs} (hI : Iv A) (hd : A 0 1 ≤ 40000) (hp : (∃ l, l < 10 ∧ p = 3 + l) ∨ ∃ a, a < 8 ∧ p = 25 + 5 * a + 3) : CALL 148 [.ref 44, .int (nI p)] (putS w A) = if whn (fun B => decide (lay B p = 0)) 101 0 A ≤ 100 then some ([.int (nI (whn (fun B => decide (lay B p = 0)) 101 0 A))], putS (putA w 48 A) A) else some ([.int (lo 3)], fndM (putS (putA w 48 A) A) 3) := by
  obtain ⟨A', h1⟩ := none_loop (w := putA w 48 A) hp 101 0 A hI rfl (by omega)
  have h2 := whn_le (fun B => decide (lay B p = 0)) 101 0 A
  simp (disch := first | omega | decide | exact nI0_01 | exact nI1_01 | exact bz_01 _) only [Option.bind_some, List.cons_append, List.nil_append, Nat.reduceAdd, Nat.reduceMul, Nat.reduceLeDiff, Nat.reduceEqDiff, ↓reduceIte, u148_0, u148_1, u148_4, u148_5, u148_8, u148_11, u148_12, n148, x_aside]
  rw [h1]
  by_cases h3 : whn (fun B => decide (lay B p = 0)) 101 0 A ≤ 100
  · have h4 : ¬ 100 < whn (fun B => decide (lay B p = 0)) 101 0 A := by omega
    rw [if_pos h3]
    simp (disch := first | omega | decide | exact nI0_01 | exact nI1_01 | exact bz_01 _) only [Option.bind_some, List.cons_append, List.nil_append, Nat.reduceAdd, Nat.reduceMul, Nat.reduceLeDiff, Nat.reduceEqDiff, ↓reduceIte, u148_39, u148_40, u148_43, u148_44, u148_47, u148_50, u148_51, u148_53, u148_56, u148_57, u148_60, u148_61, u148_63, u148_66, x_backA, nn_lt, h4, if_false]
  · have h4 : 100 < whn (fun B => decide (lay B p = 0)) 101 0 A := by omega
    rw [if_neg h3]
    simp (disch := first | omega | decide | exact nI0_01 | exact nI1_01 | exact bz_01 _) only [Option.bind_some, List.cons_append, List.nil_append, Nat.reduceAdd, Nat.reduceMul, Nat.reduceLeDiff, Nat.reduceEqDiff, ↓reduceIte, u148_39, u148_40, u148_43, u148_44, u148_47, u148_50, u148_51, u148_53, u148_56, u148_57, u148_60, u148_61, u148_63, u148_66, x_backA, nn_lt, h4, if_true, x_f3]
def o_none (A : Gs) (c k : Nat) : Int32 × Gs := if whn (fun B => decide (B c k = 0)) 101 0 A ≤ 100 then (nI (whn (fun B => decide (B c k = 0)) 101 0 A), A) else bad A 3
def o_starves (A : Gs) (x : Int32) : Int32 × Gs := if isW A x = true then o_none A 7 (ix x) else bad A 0
def o_out (A : Gs) (x : Int32) : Int32 × Gs := if ok x 9 = true then o_none A 1 (ix x) else bad A 0
theorem m_starves {A : Gs} {w : Wd} {x : Int32} (h : M A (putS w A)) (hI : Iv A) (hd : A 0 1 ≤ 40000) : opM 149 [.int x] (o_starves A x) (putS w A) := by
  have h0 := hI.1
  unfold o_starves
  rcases isW_case A x hI.1 with ⟨k, nk, hk, rfl, ek, ik⟩ | ek
  · try simp only [ik]
    rw [if_pos (by simp [ek])]
    have hp : (∃ l, l < 10 ∧ 25 + 5 * k + 3 = 3 + l) ∨ ∃ a, a < 8 ∧ 25 + 5 * k + 3 = 25 + 5 * a + 3 := Or.inr ⟨k, hk, rfl⟩
    have e : (fun B : Gs => decide (lay B (25 + 5 * k + 3) = 0)) = fun B => decide (B 7 k = 0) := funext fun B => by rw [lay_w B hk (by omega)]
    have h1 := x_whenNone (w := w) hI hd hp
    rw [e] at h1
    unfold o_none
    by_cases h3 : whn (fun B => decide (B 7 k = 0)) 101 0 A ≤ 100
    · rw [if_pos h3]
      rw [if_pos h3] at h1
      refine opM_asd h ?_
      simp (disch := first | omega | decide | exact nI0_01 | exact nI1_01 | exact bz_01 _) only [Option.bind_some, List.cons_append, List.nil_append, Nat.reduceAdd, Nat.reduceMul, Nat.reduceLeDiff, Nat.reduceEqDiff, ↓reduceIte, n149, u149_0, u149_1, u149_2, u149_5, u149_8, u149_9, u149_10, u149_11, u149_14, u149_17, u149_20, u149_21, u149_23, u149_26, x_isWriter hI.1, ek, bz_t, bz_f, nn_eq0, nn_eq, eq_self, not_true_eq_false, not_false_eq_true, x_at, h1]
    · rw [if_neg h3]
      rw [if_neg h3] at h1
      refine opM_asf h (by omega) ?_
      simp (disch := first | omega | decide | exact nI0_01 | exact nI1_01 | exact bz_01 _) only [Option.bind_some, List.cons_append, List.nil_append, Nat.reduceAdd, Nat.reduceMul, Nat.reduceLeDiff, Nat.reduceEqDiff, ↓reduceIte, n149, u149_0, u149_1, u149_2, u149_5, u149_8, u149_9, u149_10, u149_11, u149_14, u149_17, u149_20, u149_21, u149_23, u149_26, x_isWriter hI.1, ek, bz_t, bz_f, nn_eq0, nn_eq, eq_self, not_true_eq_false, not_false_eq_true, x_at, h1]
  · rw [if_neg (by simp [ek])]
    refine opM_bad h (by omega) ?_
    simp (disch := first | omega | decide | exact nI0_01 | exact nI1_01 | exact bz_01 _) only [Option.bind_some, List.cons_append, List.nil_append, Nat.reduceAdd, Nat.reduceMul, Nat.reduceLeDiff, Nat.reduceEqDiff, ↓reduceIte, n149, u149_0, u149_1, u149_2, u149_5, u149_8, u149_9, u149_10, u149_11, u149_14, u149_17, u149_20, u149_21, u149_23, u149_26, x_isWriter hI.1, ek, bz_t, bz_f, nn_eq0, nn_eq, eq_self, not_true_eq_false, not_false_eq_true, x_f0]
theorem m_out {A : Gs} {w : Wd} {x : Int32} (h : M A (putS w A)) (hI : Iv A) (hd : A 0 1 ≤ 40000) : opM 150 [.int x] (o_out A x) (putS w A) := by
  unfold o_out
  rcases ok_case x 9 (by omega) with ⟨k, hk, rfl, ek, ik⟩ | ek
  · try simp only [ik]
    rw [if_pos (by simp [ek])]
    have hp : (∃ l, l < 10 ∧ 3 + k = 3 + l) ∨ ∃ a, a < 8 ∧ 3 + k = 25 + 5 * a + 3 := Or.inl ⟨k, by omega, rfl⟩
    have e : (fun B : Gs => decide (lay B (3 + k) = 0)) = fun B => decide (B 1 k = 0) := funext fun B => by rw [lay_1 B (by omega)]
    have h1 := x_whenNone (w := w) hI hd hp
    rw [e] at h1
    unfold o_none
    by_cases h3 : whn (fun B => decide (B 1 k = 0)) 101 0 A ≤ 100
    · rw [if_pos h3]
      rw [if_pos h3] at h1
      refine opM_asd h ?_
      simp (disch := first | omega | decide | exact nI0_01 | exact nI1_01 | exact bz_01 _) only [Option.bind_some, List.cons_append, List.nil_append, Nat.reduceAdd, Nat.reduceMul, Nat.reduceLeDiff, Nat.reduceEqDiff, ↓reduceIte, n150, u150_0, u150_1, u150_4, u150_7, u150_8, u150_9, u150_10, u150_11, u150_14, u150_17, u150_18, u150_20, u150_23, x_isLetter10, ek, bz_t, bz_f, nn_eq0, nn_eq, eq_self, not_true_eq_false, not_false_eq_true, nI_add, h1]
    · rw [if_neg h3]
      rw [if_neg h3] at h1
      refine opM_asf h (by omega) ?_
      simp (disch := first | omega | decide | exact nI0_01 | exact nI1_01 | exact bz_01 _) only [Option.bind_some, List.cons_append, List.nil_append, Nat.reduceAdd, Nat.reduceMul, Nat.reduceLeDiff, Nat.reduceEqDiff, ↓reduceIte, n150, u150_0, u150_1, u150_4, u150_7, u150_8, u150_9, u150_10, u150_11, u150_14, u150_17, u150_18, u150_20, u150_23, x_isLetter10, ek, bz_t, bz_f, nn_eq0, nn_eq, eq_self, not_true_eq_false, not_false_eq_true, nI_add, h1]
  · rw [if_neg (by simp [ek])]
    refine opM_bad h (by omega) ?_
    simp (disch := first | omega | decide | exact nI0_01 | exact nI1_01 | exact bz_01 _) only [Option.bind_some, List.cons_append, List.nil_append, Nat.reduceAdd, Nat.reduceMul, Nat.reduceLeDiff, Nat.reduceEqDiff, ↓reduceIte, n150, u150_0, u150_1, u150_4, u150_7, u150_8, u150_9, u150_10, u150_11, u150_14, u150_17, u150_18, u150_20, u150_23, x_isLetter10, ek, bz_t, bz_f, nn_eq0, nn_eq, eq_self, not_true_eq_false, not_false_eq_true, x_f0]
/-! THE BEST OF SOME -/
def bst (g : Nat → Int32) : Nat → Nat → Int32 → Int32 → Int32
  | 0, _, b, _ => b
  | m + 1, a, b, t => bst g m (a + 1) (if t < g a then nI a else b) (if t < g a then g a else t)
theorem mx_eq (x y : Int32) : (if y < x then x else y) = if x < y then y else x := by
  by_cases h : y < x
  · rw [if_pos h]
    by_cases h2 : x < y
    · exact absurd (Int32.lt_trans h h2) (Int32.lt_irrefl)
    · rw [if_neg h2]
  · rw [if_neg h]
    by_cases h2 : x < y
    · rw [if_pos h2]
    · rw [if_neg h2]
      exact Int32.le_antisymm (Int32.not_lt.mp h2) (Int32.not_lt.mp h)
theorem y_greatest {x y : Int32} {w : Wd} : CALL 112 [.int x, .int y] w = some ([.int (if x < y then y else x)], w) := by rw [x_greatest, mx_eq]
def wtn (A : Gs) (n : Nat) : Nat := sm (days 0 n A 8) (A 0 0) 0
theorem catchFor_loop {n : Nat} {w : Wd} {A : Gs} (hI : Iv A) (hn : n ≤ 40) (hd : A 0 1 ≤ 40000) : ∀ (m f : Nat) (b t : Int32) (x5 : Option Value), m + f = 6 → RUN 151 37 [some (.ref 44), some (.int (nI n)), some (.int b), some (.int t), some (.int (nI f)), x5] [] [] (putS (putA w 48 A) A) = some ([.int (bst (fun f => nI (wtn (up A 3 f 20) n)) m f b t)], putS (putA w 48 A) A) := by
  intro m
  induction m with
  | zero =>
    intro f b t x5 hm
    have e : f = 6 := by omega
    subst e
    rw [u151_37]
    simp (disch := first | omega | decide | exact nI0_01 | exact nI1_01 | exact bz_01 _) only [Option.bind_some, List.cons_append, List.nil_append, Nat.reduceAdd, Nat.reduceMul, Nat.reduceLeDiff, Nat.reduceEqDiff, ↓reduceIte, n151, u151_0, u151_1, u151_2, u151_3, u151_6, u151_9, u151_12, u151_13, u151_15, u151_18, u151_19, u151_20, u151_21, u151_22, u151_23, u151_24, u151_27, u151_28, u151_31, u151_34, u151_35, u151_39, u151_41, u151_44, u151_45, u151_48, u151_50, u151_52, u151_53, u151_55, u151_56, u151_57, u151_58, u151_61, u151_62, u151_63, u151_66, u151_68, u151_69, u151_72, u151_73, u151_76, u151_79, u151_81, u151_82, u151_85, u151_87, u151_90, u151_91, u151_92, u151_93, u151_95, u151_98, u151_99, u151_102, u151_105, u151_106, nn_le, Nat.le_refl]
    rfl
  | succ m ih =>
    intro f b t x5 hm
    have h1 : ¬ 6 ≤ f := by omega
    have hI2 : Iv (up A 3 f 20) := hI.u3 (by omega)
    have e0 : up A 3 f 20 0 0 = A 0 0 := up_nc A (by omega)
    have e1 : up A 3 f 20 0 1 = A 0 1 := up_nc A (by omega)
    have ew : wtn (up A 3 f 20) n = sm (days 0 n (up A 3 f 20) 8) (A 0 0) 0 := by unfold wtn; rw [e0]
    rw [u151_37, bst]
    by_cases h2 : t < nI (wtn (up A 3 f 20) n)
    · have h3 := Int32.not_le.mpr h2
      rw [if_pos h2, if_pos h2]
      rw [ew] at h2 h3 ⊢
      simp (disch := first | omega | decide | exact nI0_01 | exact nI1_01 | exact bz_01 _) only [Option.bind_some, List.cons_append, List.nil_append, Nat.reduceAdd, Nat.reduceMul, Nat.reduceLeDiff, Nat.reduceEqDiff, ↓reduceIte, n151, u151_0, u151_1, u151_2, u151_3, u151_6, u151_9, u151_12, u151_13, u151_15, u151_18, u151_19, u151_20, u151_21, u151_22, u151_23, u151_24, u151_27, u151_28, u151_31, u151_34, u151_35, u151_39, u151_41, u151_44, u151_45, u151_48, u151_50, u151_52, u151_53, u151_55, u151_56, u151_57, u151_58, u151_61, u151_62, u151_63, u151_66, u151_68, u151_69, u151_72, u151_73, u151_76, u151_79, u151_81, u151_82, u151_85, u151_87, u151_90, u151_91, u151_92, u151_93, u151_95, u151_98, u151_99, u151_102, u151_105, u151_106, nn_le, h1, if_false, nI_add, putS_s3, x_goes hI2, x_sumOf (Iv.days 0 n hI2), days_0, e0, x_backA, h2, h3, y_greatest]
      exact ih (f + 1) _ _ _ (by omega)
    · have h3 := Int32.not_lt.mp h2
      rw [if_neg h2, if_neg h2]
      rw [ew] at h2 h3
      simp (disch := first | omega | decide | exact nI0_01 | exact nI1_01 | exact bz_01 _) only [Option.bind_some, List.cons_append, List.nil_append, Nat.reduceAdd, Nat.reduceMul, Nat.reduceLeDiff, Nat.reduceEqDiff, ↓reduceIte, n151, u151_0, u151_1, u151_2, u151_3, u151_6, u151_9, u151_12, u151_13, u151_15, u151_18, u151_19, u151_20, u151_21, u151_22, u151_23, u151_24, u151_27, u151_28, u151_31, u151_34, u151_35, u151_39, u151_41, u151_44, u151_45, u151_48, u151_50, u151_52, u151_53, u151_55, u151_56, u151_57, u151_58, u151_61, u151_62, u151_63, u151_66, u151_68, u151_69, u151_72, u151_73, u151_76, u151_79, u151_81, u151_82, u151_85, u151_87, u151_90, u151_91, u151_92, u151_93, u151_95, u151_98, u151_99, u151_102, u151_105, u151_106, nn_le, h1, if_false, nI_add, putS_s3, x_goes hI2, x_sumOf (Iv.days 0 n hI2), days_0, e0, x_backA, h2, h3, y_greatest]
      exact ih (f + 1) _ _ _ (by omega)
def o_catchFor (A : Gs) (x : Int32) : Int32 × Gs := if ok x 40 = true then (bst (fun f => nI (wtn (up A 3 f 20) (ix x))) 6 0 (nI 0) (-1), A) else bad A 0
theorem m_catchFor {A : Gs} {w : Wd} {x : Int32} (h : M A (putS w A)) (hI : Iv A) (hd : A 0 1 ≤ 40000) : opM 151 [.int x] (o_catchFor A x) (putS w A) := by
  unfold o_catchFor
  rcases ok_case x 40 (by omega) with ⟨k, hk, rfl, ek, ik⟩ | ek
  · try simp only [ik]
    rw [if_pos (by simp [ek])]
    refine opM_asd h ?_
    simp (disch := first | omega | decide | exact nI0_01 | exact nI1_01 | exact bz_01 _) only [Option.bind_some, List.cons_append, List.nil_append, Nat.reduceAdd, Nat.reduceMul, Nat.reduceLeDiff, Nat.reduceEqDiff, ↓reduceIte, n151, u151_0, u151_1, u151_2, u151_3, u151_6, u151_9, u151_12, u151_13, u151_15, u151_18, u151_19, u151_20, u151_21, u151_22, u151_23, u151_24, u151_27, u151_28, u151_31, u151_34, u151_35, u151_39, u151_41, u151_44, u151_45, u151_48, u151_50, u151_52, u151_53, u151_55, u151_56, u151_57, u151_58, u151_61, u151_62, u151_63, u151_66, u151_68, u151_69, u151_72, u151_73, u151_76, u151_79, u151_81, u151_82, u151_85, u151_87, u151_90, u151_91, u151_92, u151_93, u151_95, u151_98, u151_99, u151_102, u151_105, u151_106, xin_1, xin_2, xin_3, xin_4, xin_5, xin_6, xin_7, xin_9, xin_20, xin_40, xin_99, xin_100, xin_999, xin_9999, xin_1_60, xin_1_20, xin_1_4, xin_2_4, xin_v, ek, bz_t, bz_f, nn_eq0, nn_eq, eq_self, not_true_eq_false, not_false_eq_true, x_aside]
    exact catchFor_loop hI hk hd 6 0 (nI 0) (-1) none rfl
  · rw [if_neg (by simp [ek])]
    refine opM_bad h (by omega) ?_
    simp (disch := first | omega | decide | exact nI0_01 | exact nI1_01 | exact bz_01 _) only [Option.bind_some, List.cons_append, List.nil_append, Nat.reduceAdd, Nat.reduceMul, Nat.reduceLeDiff, Nat.reduceEqDiff, ↓reduceIte, n151, u151_0, u151_1, u151_2, u151_3, u151_6, u151_9, u151_12, u151_13, u151_15, u151_18, u151_19, u151_20, u151_21, u151_22, u151_23, u151_24, u151_27, u151_28, u151_31, u151_34, u151_35, u151_39, u151_41, u151_44, u151_45, u151_48, u151_50, u151_52, u151_53, u151_55, u151_56, u151_57, u151_58, u151_61, u151_62, u151_63, u151_66, u151_68, u151_69, u151_72, u151_73, u151_76, u151_79, u151_81, u151_82, u151_85, u151_87, u151_90, u151_91, u151_92, u151_93, u151_95, u151_98, u151_99, u151_102, u151_105, u151_106, xin_1, xin_2, xin_3, xin_4, xin_5, xin_6, xin_7, xin_9, xin_20, xin_40, xin_99, xin_100, xin_999, xin_9999, xin_1_60, xin_1_20, xin_1_4, xin_2_4, xin_v, ek, bz_t, bz_f, nn_eq0, nn_eq, eq_self, not_true_eq_false, not_false_eq_true, x_f0]
theorem bonesFor_loop {f n : Nat} {w : Wd} {A : Gs} (hI : Iv A) (hf : f < 6) (hn : n ≤ 6) (hd : A 0 1 ≤ 40000) : ∀ (m v : Nat) (b t : Int32) (x6 : Option Value), m + v = 1000 → RUN 158 45 [some (.ref 44), some (.int (nI f)), some (.int (nI n)), some (.int b), some (.int t), some (.int (nI v)), x6] [] [] (putS (putA w 48 A) A) = some ([.int (bst (fun v => nI (sm (days 0 n (up A 2 f v) 1) 10 0)) m v b t)], putS (putA w 48 A) A) := by
  intro m
  induction m with
  | zero =>
    intro v b t x5 hm
    have e : v = 1000 := by omega
    subst e
    rw [u158_45]
    simp (disch := first | omega | decide | exact nI0_01 | exact nI1_01 | exact bz_01 _) only [Option.bind_some, List.cons_append, List.nil_append, Nat.reduceAdd, Nat.reduceMul, Nat.reduceLeDiff, Nat.reduceEqDiff, ↓reduceIte, n158, u158_0, u158_1, u158_4, u158_7, u158_8, u158_9, u158_10, u158_13, u158_16, u158_19, u158_20, u158_22, u158_25, u158_26, u158_27, u158_28, u158_29, u158_31, u158_32, u158_35, u158_36, u158_39, u158_42, u158_43, u158_47, u158_50, u158_53, u158_54, u158_57, u158_59, u158_60, u158_61, u158_63, u158_64, u158_65, u158_66, u158_69, u158_70, u158_73, u158_75, u158_76, u158_79, u158_80, u158_83, u158_86, u158_88, u158_90, u158_93, u158_95, u158_98, u158_99, u158_100, u158_102, u158_104, u158_107, u158_109, u158_112, u158_115, u158_116, nn_lt]
    rfl
  | succ m ih =>
    intro v b t x5 hm
    have h1 : ¬ 999 < v := by omega
    have hI2 : Iv (up A 2 f v) := hI.u2 (by omega)
    have e1 : up A 2 f v 0 1 = A 0 1 := up_nc A (by omega)
    rw [u158_45, bst]
    by_cases h2 : t < nI (sm (days 0 n (up A 2 f v) 1) 10 0)
    · have h3 := Int32.not_le.mpr h2
      simp (disch := first | omega | decide | exact nI0_01 | exact nI1_01 | exact bz_01 _) only [Option.bind_some, List.cons_append, List.nil_append, Nat.reduceAdd, Nat.reduceMul, Nat.reduceLeDiff, Nat.reduceEqDiff, ↓reduceIte, n158, u158_0, u158_1, u158_4, u158_7, u158_8, u158_9, u158_10, u158_13, u158_16, u158_19, u158_20, u158_22, u158_25, u158_26, u158_27, u158_28, u158_29, u158_31, u158_32, u158_35, u158_36, u158_39, u158_42, u158_43, u158_47, u158_50, u158_53, u158_54, u158_57, u158_59, u158_60, u158_61, u158_63, u158_64, u158_65, u158_66, u158_69, u158_70, u158_73, u158_75, u158_76, u158_79, u158_80, u158_83, u158_86, u158_88, u158_90, u158_93, u158_95, u158_98, u158_99, u158_100, u158_102, u158_104, u158_107, u158_109, u158_112, u158_115, u158_116, nn_lt, h1, if_false, nI_add, putS_s2, x_goes hI2, x_jarAll, x_backA, h2, h3, y_greatest]
      exact ih (v + 1) _ _ _ (by omega)
    · have h3 := Int32.not_lt.mp h2
      simp (disch := first | omega | decide | exact nI0_01 | exact nI1_01 | exact bz_01 _) only [Option.bind_some, List.cons_append, List.nil_append, Nat.reduceAdd, Nat.reduceMul, Nat.reduceLeDiff, Nat.reduceEqDiff, ↓reduceIte, n158, u158_0, u158_1, u158_4, u158_7, u158_8, u158_9, u158_10, u158_13, u158_16, u158_19, u158_20, u158_22, u158_25, u158_26, u158_27, u158_28, u158_29, u158_31, u158_32, u158_35, u158_36, u158_39, u158_42, u158_43, u158_47, u158_50, u158_53, u158_54, u158_57, u158_59, u158_60, u158_61, u158_63, u158_64, u158_65, u158_66, u158_69, u158_70, u158_73, u158_75, u158_76, u158_79, u158_80, u158_83, u158_86, u158_88, u158_90, u158_93, u158_95, u158_98, u158_99, u158_100, u158_102, u158_104, u158_107, u158_109, u158_112, u158_115, u158_116, nn_lt, h1, if_false, nI_add, putS_s2, x_goes hI2, x_jarAll, x_backA, h2, h3, y_greatest]
      exact ih (v + 1) _ _ _ (by omega)
def o_bonesFor (A : Gs) (x n : Int32) : Int32 × Gs := if ok x 5 = true ∧ ok n 6 = true then (bst (fun v => nI (sm (days 0 (ix n) (up A 2 (ix x) v) 1) 10 0)) 1000 0 (nI 0) (-1), A) else bad A 0
theorem m_bonesFor {A : Gs} {w : Wd} {x n : Int32} (h : M A (putS w A)) (hI : Iv A) (hd : A 0 1 ≤ 40000) : opM 158 [.int x, .int n] (o_bonesFor A x n) (putS w A) := by
  unfold o_bonesFor
  rcases ok_case x 5 (by omega) with ⟨k, hk, rfl, ek, ik⟩ | ek
  · try simp only [ik]
    rcases ok_case n 6 (by omega) with ⟨m, hm, rfl, em, im⟩ | em
    · try simp only [im]
      rw [if_pos (by simp [ek, em])]
      refine opM_asd h ?_
      simp (disch := first | omega | decide | exact nI0_01 | exact nI1_01 | exact bz_01 _) only [Option.bind_some, List.cons_append, List.nil_append, Nat.reduceAdd, Nat.reduceMul, Nat.reduceLeDiff, Nat.reduceEqDiff, ↓reduceIte, n158, u158_0, u158_1, u158_4, u158_7, u158_8, u158_9, u158_10, u158_13, u158_16, u158_19, u158_20, u158_22, u158_25, u158_26, u158_27, u158_28, u158_29, u158_31, u158_32, u158_35, u158_36, u158_39, u158_42, u158_43, u158_47, u158_50, u158_53, u158_54, u158_57, u158_59, u158_60, u158_61, u158_63, u158_64, u158_65, u158_66, u158_69, u158_70, u158_73, u158_75, u158_76, u158_79, u158_80, u158_83, u158_86, u158_88, u158_90, u158_93, u158_95, u158_98, u158_99, u158_100, u158_102, u158_104, u158_107, u158_109, u158_112, u158_115, u158_116, x_isFish, xin_1, xin_2, xin_3, xin_4, xin_5, xin_6, xin_7, xin_9, xin_20, xin_40, xin_99, xin_100, xin_999, xin_9999, xin_1_60, xin_1_20, xin_1_4, xin_2_4, xin_v, ek, em, bz_t, bz_f, nn_eq0, nn_eq, eq_self, not_true_eq_false, not_false_eq_true, x_aside]
      exact bonesFor_loop hI (by omega) hm hd 1000 0 (nI 0) (-1) none rfl
    · rw [if_neg (by simp [em])]
      refine opM_bad h (by omega) ?_
      simp (disch := first | omega | decide | exact nI0_01 | exact nI1_01 | exact bz_01 _) only [Option.bind_some, List.cons_append, List.nil_append, Nat.reduceAdd, Nat.reduceMul, Nat.reduceLeDiff, Nat.reduceEqDiff, ↓reduceIte, n158, u158_0, u158_1, u158_4, u158_7, u158_8, u158_9, u158_10, u158_13, u158_16, u158_19, u158_20, u158_22, u158_25, u158_26, u158_27, u158_28, u158_29, u158_31, u158_32, u158_35, u158_36, u158_39, u158_42, u158_43, u158_47, u158_50, u158_53, u158_54, u158_57, u158_59, u158_60, u158_61, u158_63, u158_64, u158_65, u158_66, u158_69, u158_70, u158_73, u158_75, u158_76, u158_79, u158_80, u158_83, u158_86, u158_88, u158_90, u158_93, u158_95, u158_98, u158_99, u158_100, u158_102, u158_104, u158_107, u158_109, u158_112, u158_115, u158_116, x_isFish, xin_1, xin_2, xin_3, xin_4, xin_5, xin_6, xin_7, xin_9, xin_20, xin_40, xin_99, xin_100, xin_999, xin_9999, xin_1_60, xin_1_20, xin_1_4, xin_2_4, xin_v, ek, em, bz_t, bz_f, nn_eq0, nn_eq, eq_self, not_true_eq_false, not_false_eq_true, x_f0]
  · rw [if_neg (by simp [ek])]
    refine opM_bad h (by omega) ?_
    simp (disch := first | omega | decide | exact nI0_01 | exact nI1_01 | exact bz_01 _) only [Option.bind_some, List.cons_append, List.nil_append, Nat.reduceAdd, Nat.reduceMul, Nat.reduceLeDiff, Nat.reduceEqDiff, ↓reduceIte, n158, u158_0, u158_1, u158_4, u158_7, u158_8, u158_9, u158_10, u158_13, u158_16, u158_19, u158_20, u158_22, u158_25, u158_26, u158_27, u158_28, u158_29, u158_31, u158_32, u158_35, u158_36, u158_39, u158_42, u158_43, u158_47, u158_50, u158_53, u158_54, u158_57, u158_59, u158_60, u158_61, u158_63, u158_64, u158_65, u158_66, u158_69, u158_70, u158_73, u158_75, u158_76, u158_79, u158_80, u158_83, u158_86, u158_88, u158_90, u158_93, u158_95, u158_98, u158_99, u158_100, u158_102, u158_104, u158_107, u158_109, u158_112, u158_115, u158_116, x_isFish, xin_1, xin_2, xin_3, xin_4, xin_5, xin_6, xin_7, xin_9, xin_20, xin_40, xin_99, xin_100, xin_999, xin_9999, xin_1_60, xin_1_20, xin_1_4, xin_2_4, xin_v, ek, bz_t, bz_f, nn_eq0, nn_eq, eq_self, not_true_eq_false, not_false_eq_true, x_f0]
/-! THE FEWEST -/
def fsk (p : Nat → Bool) : Nat → Nat → Nat
  | 0, k => k
  | m + 1, k => if p k = true then k else fsk p m (k + 1)
theorem fsk_le (p : Nat → Bool) : ∀ m k, fsk p m k ≤ k + m
  | 0, _ => Nat.le_refl _
  | m + 1, k => by
    have := fsk_le p m (k + 1)
    unfold fsk
    split <;> omega
theorem M_48 {A : Gs} {w : Wd} (h : M A (putS w A)) {f : Nat → Int32} : M A (putS (put w 48 f) A) := by
  have e : ∀ a, a ≠ 48 → (putS (put w 48 f) A).1 a = (putS w A).1 a := fun a ha => by
    by_cases q : a = 45
    · subst q; unfold putS; rw [put_at, put_at]
    · rw [putS_ne _ _ q, putS_ne _ _ q]; exact put_ne _ _ ha
  exact h.mv (fun a h1 h2 h3 h4 => e a (by omega)) (by rw [e 44 (by omega)]) (by rw [e 44 (by omega)])
theorem fM_48 {A : Gs} {w : Wd} {f : Nat → Int32} : fM (putS w A) (putS (put w 48 f) A) := by
  refine ⟨fun a ha => ?_, rfl⟩
  rw [putS_ne _ _ (by omega), putS_ne _ _ (by omega)]
  exact put_ne _ _ (by omega)
theorem opM_48 {A : Gs} {w : Wd} {g : Nat → Int32} {f : Nat} {v : Int32} {args : List Value} (h : M A (putS w A)) (e : CALL f (.ref 44 :: args) (putS w A) = some ([.int v], putS (put w 48 g) A)) : opM f args (v, A) (putS w A) := ⟨_, e, M_48 h, fM_48⟩
theorem opM_48f {A : Gs} {w : Wd} {g : Nat → Int32} {f : Nat} {k : Nat} {args : List Value} (h : M A (putS w A)) (hk : k < 7) (e : CALL f (.ref 44 :: args) (putS w A) = some ([.int (lo k)], fndM (putS (put w 48 g) A) k)) : opM f args (bad A k) (putS w A) := ⟨_, e, M_fnd (M_48 h) hk, fM_48.fd k⟩
theorem putA_put (w : Wd) (f : Nat → Int32) (B : Gs) : ∃ g, putA (put w 48 f) 48 B = put w 48 g := ⟨_, put_put w 48 f _⟩
theorem fewest_loop {a f v n : Nat} {w : Wd} {A : Gs} {x5 : Option Value} (hI : Iv A) (ha : a < 8) (hf : f < 6) (hv : v ≤ 9999) (hn : n ≤ 40) (hd : A 0 1 ≤ 40000) : ∀ (m k c : Nat) (g : Nat → Int32), m + k = 21 → ∃ (c' : Nat) (g' : Nat → Int32) (x7 : Option Value), RUN 152 64 [some (.ref 44), some (.int (nI f)), some (.int (nI a)), some (.int (nI v)), some (.int (nI n)), x5, some (.int (-1)), some (.int (nI k))] [] [] (putS (put w 48 g) (up A 3 f c)) = RUN 152 116 [some (.ref 44), some (.int (nI f)), some (.int (nI a)), some (.int (nI v)), some (.int (nI n)), x5, some (.int (if fsk (fun k => decide (v ≤ days 0 n (up A 3 f k) 8 a)) m k ≤ 20 then nI (fsk (fun k => decide (v ≤ days 0 n (up A 3 f k) 8 a)) m k) else -1)), x7] [] [] (putS (put w 48 g') (up A 3 f c')) := by
  intro m
  induction m with
  | zero =>
    intro k c g hm
    have e : k = 21 := by omega
    subst e
    refine ⟨c, g, some (.int (nI 21)), ?_⟩
    rw [u152_64]
    have h20 : 20 < 21 := by omega
    have h21 : ¬ 21 ≤ 20 := by omega
    simp (disch := first | omega | decide | exact nI0_01 | exact nI1_01 | exact bz_01 _) only [Option.bind_some, List.cons_append, List.nil_append, Nat.reduceAdd, Nat.reduceMul, Nat.reduceLeDiff, Nat.reduceEqDiff, ↓reduceIte, u152_66, u152_68, u152_71, u152_73, u152_76, u152_77, u152_80, u152_82, u152_83, u152_84, u152_86, u152_87, u152_88, u152_89, u152_90, u152_93, u152_95, u152_98, u152_99, u152_102, u152_104, u152_107, u152_108, u152_110, u152_113, nn_lt, fsk, h20, h21, if_true, if_false]
  | succ m ih =>
    intro k c g hm
    have h1 : ¬ 20 < k := by omega
    have hI2 : Iv (up A 3 f k) := hI.u3 (by omega)
    have e1 : up A 3 f k 0 1 = A 0 1 := up_nc A (by omega)
    obtain ⟨g1, eg⟩ := putA_put w g (up A 3 f k)
    have hI3 := Iv.days 0 n hI2
    have hw := hI3.2.2.2.2 a ha
    have hm1 : ¬ (0 : Int32) ≤ -1 := by decide
    by_cases h2 : v ≤ days 0 n (up A 3 f k) 8 a
    · have h3 : ¬ days 0 n (up A 3 f k) 8 a < v := by omega
      refine ⟨k, g1, some (.int (nI (k + 1))), ?_⟩
      have hk20 : k ≤ 20 := by omega
      rw [u152_64]
      simp (disch := first | omega | decide | exact nI0_01 | exact nI1_01 | exact bz_01 _) only [Option.bind_some, List.cons_append, List.nil_append, Nat.reduceAdd, Nat.reduceMul, Nat.reduceLeDiff, Nat.reduceEqDiff, ↓reduceIte, u152_66, u152_68, u152_71, u152_73, u152_76, u152_77, u152_80, u152_82, u152_83, u152_84, u152_86, u152_87, u152_88, u152_89, u152_90, u152_93, u152_95, u152_98, u152_99, u152_102, u152_104, u152_107, u152_108, u152_110, u152_113, nn_lt, h1, if_false, hm1, nI_add, putS_s3, up_up, x_at, x_thenAt hI2, lay_w, h3, eg]
      rw [u152_64]
      simp (disch := first | omega | decide | exact nI0_01 | exact nI1_01 | exact bz_01 _) only [Option.bind_some, List.cons_append, List.nil_append, Nat.reduceAdd, Nat.reduceMul, Nat.reduceLeDiff, Nat.reduceEqDiff, ↓reduceIte, u152_66, u152_68, u152_71, u152_73, u152_76, u152_77, u152_80, u152_82, u152_83, u152_84, u152_86, u152_87, u152_88, u152_89, u152_90, u152_93, u152_95, u152_98, u152_99, u152_102, u152_104, u152_107, u152_108, u152_110, u152_113, nn_lt, nn_ge0, ite_self, fsk, h2, decide_true, hk20]
    · have h3 : days 0 n (up A 3 f k) 8 a < v := by omega
      obtain ⟨c', g', x7, h4⟩ := ih (k + 1) k g1 (by omega)
      refine ⟨c', g', x7, ?_⟩
      rw [u152_64]
      simp (disch := first | omega | decide | exact nI0_01 | exact nI1_01 | exact bz_01 _) only [Option.bind_some, List.cons_append, List.nil_append, Nat.reduceAdd, Nat.reduceMul, Nat.reduceLeDiff, Nat.reduceEqDiff, ↓reduceIte, u152_66, u152_68, u152_71, u152_73, u152_76, u152_77, u152_80, u152_82, u152_83, u152_84, u152_86, u152_87, u152_88, u152_89, u152_90, u152_93, u152_95, u152_98, u152_99, u152_102, u152_104, u152_107, u152_108, u152_110, u152_113, nn_lt, h1, if_false, hm1, nI_add, putS_s3, up_up, x_at, x_thenAt hI2, lay_w, h3, eg, if_true]
      rw [h4]
      simp (disch := first | omega | decide | exact nI0_01 | exact nI1_01 | exact bz_01 _) only [Option.bind_some, List.cons_append, List.nil_append, Nat.reduceAdd, Nat.reduceMul, Nat.reduceLeDiff, Nat.reduceEqDiff, ↓reduceIte, fsk, h2, decide_false, Bool.false_eq_true]
theorem x_orNone {k : Nat} {w : Wd} (hk : k < 1000) : CALL 113 [.ref 44, .int (nI k)] w = some ([.int (nI k)], w) := by
  simp (disch := first | omega | decide | exact nI0_01 | exact nI1_01 | exact bz_01 _) only [Option.bind_some, List.cons_append, List.nil_append, Nat.reduceAdd, Nat.reduceMul, Nat.reduceLeDiff, Nat.reduceEqDiff, ↓reduceIte, n113, u113_0, u113_1, u113_4, u113_5, u113_7, u113_10, u113_13, u113_14, nn_ge0]
theorem x_orNone1 {w : Wd} : CALL 113 [.ref 44, .int (-1)] w = some ([.int (lo 3)], fndM w 3) := by
  have h : ¬ (0 : Int32) ≤ -1 := by decide
  simp (disch := first | omega | decide | exact nI0_01 | exact nI1_01 | exact bz_01 _) only [Option.bind_some, List.cons_append, List.nil_append, Nat.reduceAdd, Nat.reduceMul, Nat.reduceLeDiff, Nat.reduceEqDiff, ↓reduceIte, n113, u113_0, u113_1, u113_4, u113_5, u113_7, u113_10, u113_13, u113_14, h, x_f3]
def o_fewest (A : Gs) (x y v n : Int32) : Int32 × Gs := if ok x 5 = true ∧ isW A y = true ∧ ok v 9999 = true ∧ ok n 40 = true then (if fsk (fun k => decide (ix v ≤ days 0 (ix n) (up A 3 (ix x) k) 8 (ix y))) 21 0 ≤ 20 then (nI (fsk (fun k => decide (ix v ≤ days 0 (ix n) (up A 3 (ix x) k) 8 (ix y))) 21 0), A) else bad A 3) else bad A 0
theorem m_fewest {A : Gs} {w : Wd} {x y v n : Int32} (h : M A (putS w A)) (hI : Iv A) (hd : A 0 1 ≤ 40000) : opM 152 [.int x, .int y, .int v, .int n] (o_fewest A x y v n) (putS w A) := by
  have h0 := hI.1
  unfold o_fewest
  rcases ok_case x 5 (by omega) with ⟨k, hk, rfl, ek, ik⟩ | ek
  · try simp only [ik]
    rcases isW_case A y hI.1 with ⟨a, na, ha, rfl, ea, ia⟩ | ea
    · try simp only [ia]
      rcases ok_case v 9999 (by omega) with ⟨m, hm, rfl, em, im⟩ | em
      · try simp only [im]
        rcases ok_case n 40 (by omega) with ⟨j, hj, rfl, ej, ij⟩ | ej
        · try simp only [ij]
          rw [if_pos (by simp [ek, ea, em, ej])]
          obtain ⟨c', g', x7, h1⟩ := fewest_loop (f := k) (a := a) (w := w) (x5 := some (.int (nI (A 3 k)))) hI ha (by omega) hm hj hd 21 0 (A 3 k) (w.1 48) rfl
          have e48 : put w 48 (w.1 48) = w := put_id w rfl
          rw [e48, up_id A rfl] at h1
          have h2 := fsk_le (fun i => decide (m ≤ days 0 j (up A 3 k i) 8 a)) 21 0
          by_cases h3 : fsk (fun i => decide (m ≤ days 0 j (up A 3 k i) 8 a)) 21 0 ≤ 20
          · rw [if_pos h3]
            refine opM_48 (g := g') h ?_
            simp (disch := first | omega | decide | exact nI0_01 | exact nI1_01 | exact bz_01 _) only [Option.bind_some, List.cons_append, List.nil_append, Nat.reduceAdd, Nat.reduceMul, Nat.reduceLeDiff, Nat.reduceEqDiff, ↓reduceIte, u152_0, u152_1, u152_4, u152_7, u152_8, u152_9, u152_12, u152_15, u152_16, u152_17, u152_18, u152_21, u152_24, u152_27, u152_29, u152_30, u152_31, u152_34, u152_37, u152_40, u152_41, u152_43, u152_46, u152_47, u152_48, u152_51, u152_53, u152_54, u152_55, u152_56, u152_58, u152_59, u152_61, u152_62, n152, x_isFish, x_isWriter hI.1, xin_1, xin_2, xin_3, xin_4, xin_5, xin_6, xin_7, xin_9, xin_20, xin_40, xin_99, xin_100, xin_999, xin_9999, xin_1_60, xin_1_20, xin_1_4, xin_2_4, xin_v, ek, ea, em, ej, bz_t, bz_f, nn_eq0, nn_eq, eq_self, not_true_eq_false, not_false_eq_true, nI_add, putS_3]
            rw [h1, if_pos h3]
            simp (disch := first | omega | decide | exact nI0_01 | exact nI1_01 | exact bz_01 _) only [Option.bind_some, List.cons_append, List.nil_append, Nat.reduceAdd, Nat.reduceMul, Nat.reduceLeDiff, Nat.reduceEqDiff, ↓reduceIte, u152_116, u152_117, u152_120, u152_122, u152_123, u152_124, u152_126, u152_127, u152_128, u152_130, u152_133, nI_add, putS_s3, up_up, up_id A rfl, x_orNone]
          · rw [if_neg h3]
            refine opM_48f (g := g') h (by omega) ?_
            simp (disch := first | omega | decide | exact nI0_01 | exact nI1_01 | exact bz_01 _) only [Option.bind_some, List.cons_append, List.nil_append, Nat.reduceAdd, Nat.reduceMul, Nat.reduceLeDiff, Nat.reduceEqDiff, ↓reduceIte, u152_0, u152_1, u152_4, u152_7, u152_8, u152_9, u152_12, u152_15, u152_16, u152_17, u152_18, u152_21, u152_24, u152_27, u152_29, u152_30, u152_31, u152_34, u152_37, u152_40, u152_41, u152_43, u152_46, u152_47, u152_48, u152_51, u152_53, u152_54, u152_55, u152_56, u152_58, u152_59, u152_61, u152_62, n152, x_isFish, x_isWriter hI.1, xin_1, xin_2, xin_3, xin_4, xin_5, xin_6, xin_7, xin_9, xin_20, xin_40, xin_99, xin_100, xin_999, xin_9999, xin_1_60, xin_1_20, xin_1_4, xin_2_4, xin_v, ek, ea, em, ej, bz_t, bz_f, nn_eq0, nn_eq, eq_self, not_true_eq_false, not_false_eq_true, nI_add, putS_3]
            rw [h1, if_neg h3]
            simp (disch := first | omega | decide | exact nI0_01 | exact nI1_01 | exact bz_01 _) only [Option.bind_some, List.cons_append, List.nil_append, Nat.reduceAdd, Nat.reduceMul, Nat.reduceLeDiff, Nat.reduceEqDiff, ↓reduceIte, u152_116, u152_117, u152_120, u152_122, u152_123, u152_124, u152_126, u152_127, u152_128, u152_130, u152_133, nI_add, putS_s3, up_up, up_id A rfl, x_orNone1]
        · rw [if_neg (by simp [ej])]
          refine opM_bad h (by omega) ?_
          simp (disch := first | omega | decide | exact nI0_01 | exact nI1_01 | exact bz_01 _) only [Option.bind_some, List.cons_append, List.nil_append, Nat.reduceAdd, Nat.reduceMul, Nat.reduceLeDiff, Nat.reduceEqDiff, ↓reduceIte, n152, u152_0, u152_1, u152_4, u152_7, u152_8, u152_9, u152_12, u152_15, u152_16, u152_17, u152_18, u152_21, u152_24, u152_27, u152_29, u152_30, u152_31, u152_34, u152_37, u152_40, u152_41, u152_43, u152_46, u152_47, u152_48, u152_51, u152_53, u152_54, u152_55, u152_56, u152_58, u152_59, u152_61, u152_62, u152_66, u152_68, u152_71, u152_73, u152_76, u152_77, u152_80, u152_82, u152_83, u152_84, u152_86, u152_87, u152_88, u152_89, u152_90, u152_93, u152_95, u152_98, u152_99, u152_102, u152_104, u152_107, u152_108, u152_110, u152_113, u152_116, u152_117, u152_120, u152_122, u152_123, u152_124, u152_126, u152_127, u152_128, u152_130, u152_133, x_isFish, x_isWriter hI.1, xin_1, xin_2, xin_3, xin_4, xin_5, xin_6, xin_7, xin_9, xin_20, xin_40, xin_99, xin_100, xin_999, xin_9999, xin_1_60, xin_1_20, xin_1_4, xin_2_4, xin_v, ek, ea, em, ej, bz_t, bz_f, nn_eq0, nn_eq, eq_self, not_true_eq_false, not_false_eq_true, x_f0]
      · rw [if_neg (by simp [em])]
        refine opM_bad h (by omega) ?_
        simp (disch := first | omega | decide | exact nI0_01 | exact nI1_01 | exact bz_01 _) only [Option.bind_some, List.cons_append, List.nil_append, Nat.reduceAdd, Nat.reduceMul, Nat.reduceLeDiff, Nat.reduceEqDiff, ↓reduceIte, n152, u152_0, u152_1, u152_4, u152_7, u152_8, u152_9, u152_12, u152_15, u152_16, u152_17, u152_18, u152_21, u152_24, u152_27, u152_29, u152_30, u152_31, u152_34, u152_37, u152_40, u152_41, u152_43, u152_46, u152_47, u152_48, u152_51, u152_53, u152_54, u152_55, u152_56, u152_58, u152_59, u152_61, u152_62, u152_66, u152_68, u152_71, u152_73, u152_76, u152_77, u152_80, u152_82, u152_83, u152_84, u152_86, u152_87, u152_88, u152_89, u152_90, u152_93, u152_95, u152_98, u152_99, u152_102, u152_104, u152_107, u152_108, u152_110, u152_113, u152_116, u152_117, u152_120, u152_122, u152_123, u152_124, u152_126, u152_127, u152_128, u152_130, u152_133, x_isFish, x_isWriter hI.1, xin_1, xin_2, xin_3, xin_4, xin_5, xin_6, xin_7, xin_9, xin_20, xin_40, xin_99, xin_100, xin_999, xin_9999, xin_1_60, xin_1_20, xin_1_4, xin_2_4, xin_v, ek, ea, em, bz_t, bz_f, nn_eq0, nn_eq, eq_self, not_true_eq_false, not_false_eq_true, x_f0]
    · rw [if_neg (by simp [ea])]
      refine opM_bad h (by omega) ?_
      simp (disch := first | omega | decide | exact nI0_01 | exact nI1_01 | exact bz_01 _) only [Option.bind_some, List.cons_append, List.nil_append, Nat.reduceAdd, Nat.reduceMul, Nat.reduceLeDiff, Nat.reduceEqDiff, ↓reduceIte, n152, u152_0, u152_1, u152_4, u152_7, u152_8, u152_9, u152_12, u152_15, u152_16, u152_17, u152_18, u152_21, u152_24, u152_27, u152_29, u152_30, u152_31, u152_34, u152_37, u152_40, u152_41, u152_43, u152_46, u152_47, u152_48, u152_51, u152_53, u152_54, u152_55, u152_56, u152_58, u152_59, u152_61, u152_62, u152_66, u152_68, u152_71, u152_73, u152_76, u152_77, u152_80, u152_82, u152_83, u152_84, u152_86, u152_87, u152_88, u152_89, u152_90, u152_93, u152_95, u152_98, u152_99, u152_102, u152_104, u152_107, u152_108, u152_110, u152_113, u152_116, u152_117, u152_120, u152_122, u152_123, u152_124, u152_126, u152_127, u152_128, u152_130, u152_133, x_isFish, x_isWriter hI.1, xin_1, xin_2, xin_3, xin_4, xin_5, xin_6, xin_7, xin_9, xin_20, xin_40, xin_99, xin_100, xin_999, xin_9999, xin_1_60, xin_1_20, xin_1_4, xin_2_4, xin_v, ek, ea, bz_t, bz_f, nn_eq0, nn_eq, eq_self, not_true_eq_false, not_false_eq_true, x_f0]
  · rw [if_neg (by simp [ek])]
    refine opM_bad h (by omega) ?_
    simp (disch := first | omega | decide | exact nI0_01 | exact nI1_01 | exact bz_01 _) only [Option.bind_some, List.cons_append, List.nil_append, Nat.reduceAdd, Nat.reduceMul, Nat.reduceLeDiff, Nat.reduceEqDiff, ↓reduceIte, n152, u152_0, u152_1, u152_4, u152_7, u152_8, u152_9, u152_12, u152_15, u152_16, u152_17, u152_18, u152_21, u152_24, u152_27, u152_29, u152_30, u152_31, u152_34, u152_37, u152_40, u152_41, u152_43, u152_46, u152_47, u152_48, u152_51, u152_53, u152_54, u152_55, u152_56, u152_58, u152_59, u152_61, u152_62, u152_66, u152_68, u152_71, u152_73, u152_76, u152_77, u152_80, u152_82, u152_83, u152_84, u152_86, u152_87, u152_88, u152_89, u152_90, u152_93, u152_95, u152_98, u152_99, u152_102, u152_104, u152_107, u152_108, u152_110, u152_113, u152_116, u152_117, u152_120, u152_122, u152_123, u152_124, u152_126, u152_127, u152_128, u152_130, u152_133, x_isFish, x_isWriter hI.1, xin_1, xin_2, xin_3, xin_4, xin_5, xin_6, xin_7, xin_9, xin_20, xin_40, xin_99, xin_100, xin_999, xin_9999, xin_1_60, xin_1_20, xin_1_4, xin_2_4, xin_v, ek, bz_t, bz_f, nn_eq0, nn_eq, eq_self, not_true_eq_false, not_false_eq_true, x_f0]
