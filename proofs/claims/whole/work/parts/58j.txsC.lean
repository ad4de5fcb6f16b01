/-! THE COMPONENT COUNTS WORDS -/
def IW (w : Wd) (k : Nat) : Wd := (w.1, fun j => if j < k then (if j = 0 then 1 else 0) else w.2 j)
def LW (w : Wd) (f : Nat → Nat) : Wd := (w.1, fun j => if j < 5 then lN (f j) else w.2 j)
theorem IW_0 (w : Wd) : IW w 0 = w := by
  refine Prod.ext rfl (funext fun j => ?_)
  show (if j < 0 then (if j = 0 then 1 else 0) else w.2 j) = w.2 j
  exact if_neg (Nat.not_lt_zero j)
theorem IW_up (w : Wd) (k : Nat) : ((IW w k).1, vp_updL (IW w k).2 k (if k = 0 then 1 else 0)) = IW w (k + 1) := by
  refine Prod.ext rfl (funext fun j => ?_)
  show (if j = k then (if k = 0 then 1 else 0) else if j < k then (if j = 0 then 1 else 0) else w.2 j) = if j < k + 1 then (if j = 0 then 1 else 0) else w.2 j
  by_cases h : j = k
  · subst h; rw [if_pos rfl, if_pos (show j < j + 1 by omega)]
  · rw [if_neg h]
    by_cases h2 : j < k
    · rw [if_pos h2, if_pos (show j < k + 1 by omega)]
    · rw [if_neg h2, if_neg (show ¬ j < k + 1 by omega)]
theorem IW_5 (w : Wd) : IW w 5 = LW w (fun j => if j = 0 then 1 else 0) := by
  refine Prod.ext rfl (funext fun j => ?_)
  show (if j < 5 then (if j = 0 then 1 else 0) else w.2 j) = if j < 5 then lN (if j = 0 then 1 else 0) else w.2 j
  by_cases h : j < 5
  · rw [if_pos h, if_pos h]
    by_cases h0 : j = 0
    · rw [if_pos h0, if_pos h0]; rfl
    · rw [if_neg h0, if_neg h0]; rfl
  · rw [if_neg h, if_neg h]
theorem LW_at {w : Wd} {f : Nat → Nat} {j : Nat} (h : j < 5) : (LW w f).2 j = lN (f j) := if_pos h
theorem LW_up {w : Wd} {f : Nat → Nat} {k x : Nat} (h : k < 5) : ((LW w f).1, vp_updL (LW w f).2 k (lN x)) = LW w (fun i => if i = k then x else f i) := by
  refine Prod.ext rfl (funext fun j => ?_)
  show (if j = k then lN x else if j < 5 then lN (f j) else w.2 j) = if j < 5 then lN (if j = k then x else f j) else w.2 j
  by_cases q : j = k
  · subst q; rw [if_pos rfl, if_pos h, if_pos rfl]
  · rw [if_neg q, if_neg q]
theorem LW_1 {w : Wd} {f : Nat → Nat} {a : Nat} : (LW w f).1 a = w.1 a := rfl
theorem c_choices {w : Wd} : ∀ {k j : Nat}, k ≤ 4 → 1 ≤ j → j ≤ k → CALL 72 [.int (nI k), .int (nI j)] w = some ([.long (lN (bin k j))], w) := by
  have st : ∀ (k j i x y : Nat) (a2 a3 : Option Value) (k0 k1 k3 k4 : Option Int64), k ≤ 4 → 1 ≤ i → i ≤ j → j ≤ k → x < 1000 → x * (k - j + i) / i = y → RUN 72 5 [some (.int (nI k)), some (.int (nI j)), a2, a3, some (.int (nI i))] [k0, k1, some (lN x), k3, k4] [] w = RUN 72 5 [some (.int (nI k)), some (.int (nI j)), none, none, some (.int (nI (i + 1)))] [k0, none, some (lN y), none, none] [] w := by
    intro k j i x y a2 a3 k0 k1 k3 k4 hk hi hij hjk hx hy
    have h1 : ¬ j < i := by omega
    have hq : x * (k - j + i) < 2 ^ 63 := by
      have : x * (k - j + i) ≤ 1000 * 8 := Nat.mul_le_mul (by omega) (by omega)
      omega
    have hn := lN_ne0 (b := i) (by omega) (by omega)
    have hd : lN (x * (k - j + i)) / lN i = lN y := by rw [lN_div hq (by omega), hy]
    rw [u72_5]
    simp (disch := first | omega | decide | assumption | exact nI0_01 | exact nI1_01 | exact bz_01 _ | exact rf1 | exact rf11 | exact rf21) only [Option.bind_some, List.cons_append, List.nil_append, Nat.reduceAdd, Nat.reduceMul, Nat.reduceLeDiff, Nat.reduceEqDiff, ↓reduceIte, u72_7, u72_8, u72_11, u72_12, u72_13, u72_14, u72_15, u72_17, u72_18, u72_19, u72_20, u72_22, u72_23, u72_24, u72_25, u72_28, nn_lt, h1, if_false, nn_sub, nI_add, i64_nI, lN_mul, hn, not_false_eq_true, hd]
  have en : ∀ (k j x : Nat) (a2 a3 : Option Value) (k0 k1 k3 k4 : Option Int64), j ≤ 4 → RUN 72 5 [some (.int (nI k)), some (.int (nI j)), a2, a3, some (.int (nI (j + 1)))] [k0, k1, some (lN x), k3, k4] [] w = some ([.long (lN x)], w) := by
    intro k j x a2 a3 k0 k1 k3 k4 hj
    have h1 : j < j + 1 := by omega
    rw [u72_5]
    simp (disch := first | omega | decide | assumption | exact nI0_01 | exact nI1_01 | exact bz_01 _ | exact rf1 | exact rf11 | exact rf21) only [Option.bind_some, List.cons_append, List.nil_append, Nat.reduceAdd, Nat.reduceMul, Nat.reduceLeDiff, Nat.reduceEqDiff, ↓reduceIte, u72_7, u72_8, u72_11, u72_12, u72_13, u72_14, u72_15, u72_17, u72_18, u72_19, u72_20, u72_22, u72_23, u72_24, u72_25, u72_28, u72_31, u72_32, nn_lt, h1, if_true]
  have s0 : ∀ (k j : Nat), k ≤ 4 → j ≤ 4 → CALL 72 [.int (nI k), .int (nI j)] w = RUN 72 5 [some (.int (nI k)), some (.int (nI j)), none, none, some (.int (nI 1))] [none, none, some (lN 1), none, none] [] w := by
    intro k j hk hj
    have l1 : (1 : Int64) = lN 1 := rfl
    simp (disch := first | omega | decide | assumption | exact nI0_01 | exact nI1_01 | exact bz_01 _ | exact rf1 | exact rf11 | exact rf21) only [Option.bind_some, List.cons_append, List.nil_append, Nat.reduceAdd, Nat.reduceMul, Nat.reduceLeDiff, Nat.reduceEqDiff, ↓reduceIte, u72_0, u72_1, u72_2, u72_3, n72, l1]
  intro k j hk h1 hj
  rw [s0 k j hk (by omega)]
  rcases (by omega : (k = 1 ∧ j = 1) ∨ (k = 2 ∧ j = 1) ∨ (k = 2 ∧ j = 2) ∨ (k = 3 ∧ j = 1) ∨ (k = 3 ∧ j = 2) ∨ (k = 3 ∧ j = 3) ∨ (k = 4 ∧ j = 1) ∨ (k = 4 ∧ j = 2) ∨ (k = 4 ∧ j = 3) ∨ (k = 4 ∧ j = 4)) with ⟨rfl, rfl⟩ | ⟨rfl, rfl⟩ | ⟨rfl, rfl⟩ | ⟨rfl, rfl⟩ | ⟨rfl, rfl⟩ | ⟨rfl, rfl⟩ | ⟨rfl, rfl⟩ | ⟨rfl, rfl⟩ | ⟨rfl, rfl⟩ | ⟨rfl, rfl⟩
  · rw [st 1 1 1 1 1 _ _ _ _ _ _ (by omega) (by omega) (by omega) (by omega) (by omega) rfl, en 1 1 1 _ _ _ _ _ _ (by omega)]; rfl
  · rw [st 2 1 1 1 2 _ _ _ _ _ _ (by omega) (by omega) (by omega) (by omega) (by omega) rfl, en 2 1 2 _ _ _ _ _ _ (by omega)]; rfl
  · rw [st 2 2 1 1 1 _ _ _ _ _ _ (by omega) (by omega) (by omega) (by omega) (by omega) rfl, st 2 2 2 1 1 _ _ _ _ _ _ (by omega) (by omega) (by omega) (by omega) (by omega) rfl, en 2 2 1 _ _ _ _ _ _ (by omega)]; rfl
  · rw [st 3 1 1 1 3 _ _ _ _ _ _ (by omega) (by omega) (by omega) (by omega) (by omega) rfl, en 3 1 3 _ _ _ _ _ _ (by omega)]; rfl
  · rw [st 3 2 1 1 2 _ _ _ _ _ _ (by omega) (by omega) (by omega) (by omega) (by omega) rfl, st 3 2 2 2 3 _ _ _ _ _ _ (by omega) (by omega) (by omega) (by omega) (by omega) rfl, en 3 2 3 _ _ _ _ _ _ (by omega)]; rfl
  · rw [st 3 3 1 1 1 _ _ _ _ _ _ (by omega) (by omega) (by omega) (by omega) (by omega) rfl, st 3 3 2 1 1 _ _ _ _ _ _ (by omega) (by omega) (by omega) (by omega) (by omega) rfl, st 3 3 3 1 1 _ _ _ _ _ _ (by omega) (by omega) (by omega) (by omega) (by omega) rfl, en 3 3 1 _ _ _ _ _ _ (by omega)]; rfl
  · rw [st 4 1 1 1 4 _ _ _ _ _ _ (by omega) (by omega) (by omega) (by omega) (by omega) rfl, en 4 1 4 _ _ _ _ _ _ (by omega)]; rfl
  · rw [st 4 2 1 1 3 _ _ _ _ _ _ (by omega) (by omega) (by omega) (by omega) (by omega) rfl, st 4 2 2 3 6 _ _ _ _ _ _ (by omega) (by omega) (by omega) (by omega) (by omega) rfl, en 4 2 6 _ _ _ _ _ _ (by omega)]; rfl
  · rw [st 4 3 1 1 2 _ _ _ _ _ _ (by omega) (by omega) (by omega) (by omega) (by omega) rfl, st 4 3 2 2 3 _ _ _ _ _ _ (by omega) (by omega) (by omega) (by omega) (by omega) rfl, st 4 3 3 3 4 _ _ _ _ _ _ (by omega) (by omega) (by omega) (by omega) (by omega) rfl, en 4 3 4 _ _ _ _ _ _ (by omega)]; rfl
  · rw [st 4 4 1 1 1 _ _ _ _ _ _ (by omega) (by omega) (by omega) (by omega) (by omega) rfl, st 4 4 2 1 1 _ _ _ _ _ _ (by omega) (by omega) (by omega) (by omega) (by omega) rfl, st 4 4 3 1 1 _ _ _ _ _ _ (by omega) (by omega) (by omega) (by omega) (by omega) rfl, st 4 4 4 1 1 _ _ _ _ _ _ (by omega) (by omega) (by omega) (by omega) (by omega) rfl, en 4 4 1 _ _ _ _ _ _ (by omega)]; rfl
theorem jS_c {f f' : Nat → Nat} {k : Nat} (hk : 1 ≤ k) (h : ∀ i, i < k → f' i = f i) : ∀ m j, 1 ≤ j → jS f' k m j = jS f k m j
  | 0, _, _ => rfl
  | m + 1, j, hj => by rw [jS, jS, jS_c hk h m (j + 1) (by omega), h (k - j) (by omega)]
theorem j_loop {w : Wd} {c k : Nat} {x1 x2 : Option Value} (hc : c ≤ 4) (hk1 : 1 ≤ k) (hk4 : k ≤ 4) : ∀ (m j : Nat) (f : Nat → Nat), m + j = min c k + 1 → 1 ≤ j → RUN 71 87 [some (.ref 0), x1, x2, some (.int (nI c)), some (.int (nI k)), some (.int (nI j))] [] [] (LW w f) = RUN 71 132 [some (.ref 0), x1, x2, some (.int (nI c)), some (.int (nI k)), some (.int (nI (min c k + 1)))] [] [] (LW w (fun i => if i = k then f k + jS f k m j else f i)) := by
  have hmin : min c k ≤ 4 := Nat.le_trans (Nat.min_le_left _ _) hc
  have hmin2 : min c k ≤ k := Nat.min_le_right _ _
  have ec : min k c = min c k := Nat.min_comm _ _
  intro m
  induction m with
  | zero =>
    intro j f hm hj
    have e : j = min c k + 1 := by omega
    have h1 : min c k < j := by omega
    have ew : (fun i => if i = k then f k + jS f k 0 j else f i) = f := by
      funext i
      by_cases q : i = k
      · subst q; rw [if_pos rfl]; rfl
      · rw [if_neg q]
    rw [ew, ← e, u71_87]
    simp (disch := first | omega | decide | assumption | exact nI0_01 | exact nI1_01 | exact bz_01 _ | exact rf1 | exact rf11 | exact rf21) only [Option.bind_some, List.cons_append, List.nil_append, Nat.reduceAdd, Nat.reduceMul, Nat.reduceLeDiff, Nat.reduceEqDiff, ↓reduceIte, u71_89, u71_90, u71_92, u71_95, nn_lt, n_minN, h1, if_true]
  | succ m ih =>
    intro j f hm hj
    have h1 : ¬ min c k < j := by omega
    have hkj : k - j < 5 := by omega
    have hk5 : k < 5 := by omega
    have hch := c_choices (w := LW w f) hk4 hj (show j ≤ k by omega)
    have i2 := ih (j + 1) (fun i => if i = k then f k + bin k j * f (k - j) else f i) (by omega) (by omega)
    have ew : (fun i => if i = k then (fun i => if i = k then f k + bin k j * f (k - j) else f i) k + jS (fun i => if i = k then f k + bin k j * f (k - j) else f i) k m (j + 1) else (fun i => if i = k then f k + bin k j * f (k - j) else f i) i) = (fun i => if i = k then f k + jS f k (m + 1) j else f i) := by
      funext i
      show (if i = k then (if k = k then f k + bin k j * f (k - j) else f k) + jS (fun i => if i = k then f k + bin k j * f (k - j) else f i) k m (j + 1) else if i = k then f k + bin k j * f (k - j) else f i) = _
      by_cases q : i = k
      · rw [if_pos q, if_pos q, if_pos rfl, jS_c hk1 (f := f) (fun i hi => if_neg (by omega)) m (j + 1) (by omega), jS]
        omega
      · rw [if_neg q, if_neg q, if_neg q]
    rw [ew] at i2
    rw [← i2, u71_87]
    simp (disch := first | omega | decide | assumption | exact nI0_01 | exact nI1_01 | exact bz_01 _ | exact rf1 | exact rf11 | exact rf21) only [Option.bind_some, List.cons_append, List.nil_append, Nat.reduceAdd, Nat.reduceMul, Nat.reduceLeDiff, Nat.reduceEqDiff, ↓reduceIte, u71_89, u71_90, u71_92, u71_95, nn_lt, n_minN, h1, if_false]
    simp (disch := first | omega | decide | assumption | exact nI0_01 | exact nI1_01 | exact bz_01 _ | exact rf1 | exact rf11 | exact rf21) only [Option.bind_some, List.cons_append, List.nil_append, Nat.reduceAdd, Nat.reduceMul, Nat.reduceLeDiff, Nat.reduceEqDiff, ↓reduceIte, u71_98, u71_99, u71_102, u71_104, u71_105, u71_106, u71_108, u71_110, u71_113, u71_114, u71_117, u71_119, u71_121, u71_122, u71_123, u71_124, u71_125, u71_126, u71_129, LW_at, hch, nn_sub, hkj, lN_mul, lN_add, LW_up, nI_add]
theorem k_loop {w : Wd} {c : Nat} {x1 x2 : Option Value} (hc : c ≤ 4) : ∀ (k : Nat) (f : Nat → Nat) (x5 : Option Value), k ≤ 4 → ∃ x5', RUN 71 78 [some (.ref 0), x1, x2, some (.int (nI c)), some (.int (nI k)), x5] [] [] (LW w f) = RUN 71 138 [some (.ref 0), x1, x2, some (.int (nI c)), some (.int (nI 0)), x5'] [] [] (LW w (fun i => if 1 ≤ i ∧ i ≤ k then f i + jS f i (min c i) 1 else f i)) := by
  intro k
  induction k with
  | zero =>
    intro f x5 hk
    have ew : (fun i => if 1 ≤ i ∧ i ≤ 0 then f i + jS f i (min c i) 1 else f i) = f := by
      funext i
      exact if_neg (by omega)
    have h1 : (0 : Nat) < 1 := by omega
    refine ⟨x5, ?_⟩
    rw [ew, u71_78]
    simp (disch := first | omega | decide | assumption | exact nI0_01 | exact nI1_01 | exact bz_01 _ | exact rf1 | exact rf11 | exact rf21) only [Option.bind_some, List.cons_append, List.nil_append, Nat.reduceAdd, Nat.reduceMul, Nat.reduceLeDiff, Nat.reduceEqDiff, ↓reduceIte, u71_80, u71_81, u71_84, u71_85, nn_lt, h1, if_true]
  | succ k ih =>
    intro f x5 hk
    have h1 : ¬ k + 1 < 1 := by omega
    have hj := j_loop (w := w) (x1 := x1) (x2 := x2) hc (show 1 ≤ k + 1 by omega) hk (min c (k + 1)) 1 f rfl (by omega)
    obtain ⟨x5', h2⟩ := ih (fun i => if i = k + 1 then f (k + 1) + jS f (k + 1) (min c (k + 1)) 1 else f i) (some (.int (nI (min c (k + 1) + 1)))) (by omega)
    have ew : (fun i => if 1 ≤ i ∧ i ≤ k then (fun i => if i = k + 1 then f (k + 1) + jS f (k + 1) (min c (k + 1)) 1 else f i) i + jS (fun i => if i = k + 1 then f (k + 1) + jS f (k + 1) (min c (k + 1)) 1 else f i) i (min c i) 1 else (fun i => if i = k + 1 then f (k + 1) + jS f (k + 1) (min c (k + 1)) 1 else f i) i) = (fun i => if 1 ≤ i ∧ i ≤ k + 1 then f i + jS f i (min c i) 1 else f i) := by
      funext i
      show (if 1 ≤ i ∧ i ≤ k then (if i = k + 1 then f (k + 1) + jS f (k + 1) (min c (k + 1)) 1 else f i) + jS (fun i => if i = k + 1 then f (k + 1) + jS f (k + 1) (min c (k + 1)) 1 else f i) i (min c i) 1 else if i = k + 1 then f (k + 1) + jS f (k + 1) (min c (k + 1)) 1 else f i) = _
      by_cases q : 1 ≤ i ∧ i ≤ k
      · rw [if_pos q, if_neg (by omega), if_pos (by omega), jS_c q.1 (f := f) (fun z hz => if_neg (by omega)) (min c i) 1 (by omega)]
      · rw [if_neg q]
        by_cases q2 : i = k + 1
        · subst q2; rw [if_pos rfl, if_pos (by omega)]
        · rw [if_neg q2, if_neg (by omega)]
    rw [ew] at h2
    refine ⟨x5', ?_⟩
    rw [← h2, u71_78]
    simp (disch := first | omega | decide | assumption | exact nI0_01 | exact nI1_01 | exact bz_01 _ | exact rf1 | exact rf11 | exact rf21) only [Option.bind_some, List.cons_append, List.nil_append, Nat.reduceAdd, Nat.reduceMul, Nat.reduceLeDiff, Nat.reduceEqDiff, ↓reduceIte, u71_80, u71_81, u71_84, u71_85, nn_lt, h1, if_false]
    rw [hj]
    simp (disch := first | omega | decide | assumption | exact nI0_01 | exact nI1_01 | exact bz_01 _ | exact rf1 | exact rf11 | exact rf21) only [Option.bind_some, List.cons_append, List.nil_append, Nat.reduceAdd, Nat.reduceMul, Nat.reduceLeDiff, Nat.reduceEqDiff, ↓reduceIte, u71_132, u71_135, pk_m1]
theorem l_loop {w : Wd} {A : Gs} {v : Nat} (hv : v ≤ 9) (hj : ∀ l, l < 10 → w.1 2 l = nI (A 1 l) ∧ A 1 l ≤ 999) : ∀ (m l : Nat) (x3 x4 x5 : Option Value), m + l = 10 → RUN 71 45 [some (.ref 0), some (.int (nI v)), some (.int (nI l)), x3, x4, x5] [] [] (LW w (Rv (fun d => capv v (A 1 d)) l)) = some ([.int (nI (Rv (fun d => capv v (A 1 d)) 10 4))], LW w (Rv (fun d => capv v (A 1 d)) 10)) := by
  intro m
  induction m with
  | zero =>
    intro l x3 x4 x5 hm
    have e : l = 10 := by omega
    subst e
    rw [u71_45]
    simp (disch := first | omega | decide | assumption | exact nI0_01 | exact nI1_01 | exact bz_01 _ | exact rf1 | exact rf11 | exact rf21) only [Option.bind_some, List.cons_append, List.nil_append, Nat.reduceAdd, Nat.reduceMul, Nat.reduceLeDiff, Nat.reduceEqDiff, ↓reduceIte, u71_46, u71_48, nn_le, Nat.le_refl, if_true, u71_144, u71_145, u71_148, u71_149, u71_150, u71_151, LW_at, lN_i]
  | succ m ih =>
    intro l x3 x4 x5 hm
    have h1 : ¬ 10 ≤ l := by omega
    obtain ⟨e1, e2⟩ := hj l (by omega)
    have hc : capv v (A 1 l) ≤ 4 := by
      unfold capv
      split
      · omega
      · exact Nat.min_le_left _ _
    have h75 : RUN 71 45 [some (.ref 0), some (.int (nI v)), some (.int (nI l)), x3, x4, x5] [] [] (LW w (Rv (fun d => capv v (A 1 d)) l)) = RUN 71 78 [some (.ref 0), some (.int (nI v)), some (.int (nI l)), some (.int (nI (capv v (A 1 l)))), some (.int (nI 4)), x5] [] [] (LW w (Rv (fun d => capv v (A 1 d)) l)) := by
      rw [u71_45]
      by_cases q : v = 0
      · have ec : capv v (A 1 l) = 4 := if_pos q
        rw [ec]
        simp (disch := first | omega | decide | assumption | exact nI0_01 | exact nI1_01 | exact bz_01 _ | exact rf1 | exact rf11 | exact rf21) only [Option.bind_some, List.cons_append, List.nil_append, Nat.reduceAdd, Nat.reduceMul, Nat.reduceLeDiff, Nat.reduceEqDiff, ↓reduceIte, u71_46, u71_48, u71_51, u71_52, u71_55, u71_56, u71_59, u71_60, u71_61, u71_64, u71_67, u71_68, u71_69, u71_70, u71_71, u71_74, u71_75, u71_76, nn_le, h1, if_false, nn_eq0, q, not_true_eq_false]
      · have ec : capv v (A 1 l) = min 4 (A 1 l / v) := if_neg q
        have hv0 : ¬ nI v = 0 := by rw [nn_eq0 (by omega)]; exact q
        have hdl : A 1 l / v ≤ A 1 l := Nat.div_le_self _ _
        have hmn : (if nI (A 1 l / v) < nI 4 then nI (A 1 l / v) else nI 4) = nI (min 4 (A 1 l / v)) := n_min' (by omega) (by omega)
        rw [ec]
        simp (disch := first | omega | decide | assumption | exact nI0_01 | exact nI1_01 | exact bz_01 _ | exact rf1 | exact rf11 | exact rf21) only [Option.bind_some, List.cons_append, List.nil_append, Nat.reduceAdd, Nat.reduceMul, Nat.reduceLeDiff, Nat.reduceEqDiff, ↓reduceIte, u71_46, u71_48, u71_51, u71_52, u71_55, u71_56, u71_59, u71_60, u71_61, u71_64, u71_67, u71_68, u71_69, u71_70, u71_71, u71_74, u71_75, u71_76, nn_le, h1, if_false, hv0, not_false_eq_true, if_true, LW_1, e1, pk_div, hmn]
    obtain ⟨x5', h2⟩ := k_loop (w := w) (x1 := some (.int (nI v))) (x2 := some (.int (nI l))) hc 4 (Rv (fun d => capv v (A 1 d)) l) x5 (by omega)
    have i2 := ih (l + 1) (some (.int (nI (capv v (A 1 l))))) (some (.int (nI 0))) x5' (by omega)
    rw [h75, h2, ← i2]
    simp (disch := first | omega | decide | assumption | exact nI0_01 | exact nI1_01 | exact bz_01 _ | exact rf1 | exact rf11 | exact rf21) only [Option.bind_some, List.cons_append, List.nil_append, Nat.reduceAdd, Nat.reduceMul, Nat.reduceLeDiff, Nat.reduceEqDiff, ↓reduceIte, u71_138, u71_141, nI_add]
    rfl
theorem i_loop {w : Wd} {x1 x3 x4 x5 : Option Value} : ∀ (m k : Nat), m + k = 5 → RUN 71 17 [some (.ref 0), x1, some (.int (nI k)), x3, x4, x5] [] [] (IW w k) = RUN 71 43 [some (.ref 0), x1, some (.int (nI 5)), x3, x4, x5] [] [] (IW w 5) := by
  intro m
  induction m with
  | zero =>
    intro k hm
    have e : k = 5 := by omega
    subst e
    have h1 : 4 < 5 := by omega
    rw [u71_17]
    simp (disch := first | omega | decide | assumption | exact nI0_01 | exact nI1_01 | exact bz_01 _ | exact rf1 | exact rf11 | exact rf21) only [Option.bind_some, List.cons_append, List.nil_append, Nat.reduceAdd, Nat.reduceMul, Nat.reduceLeDiff, Nat.reduceEqDiff, ↓reduceIte, u71_18, u71_19, u71_22, u71_23, u71_26, u71_27, u71_28, u71_31, u71_32, u71_35, u71_36, u71_37, u71_40, nn_lt, h1, if_true]
  | succ m ih =>
    intro k hm
    have h1 : ¬ 4 < k := by omega
    have hu := IW_up w k
    have i2 := ih (k + 1) (by omega)
    rw [← i2, ← hu, u71_17]
    by_cases q : k = 0
    · rw [if_pos q]
      subst q
      have h0 : ¬ 4 < 0 := by omega
      simp (disch := first | omega | decide | assumption | exact nI0_01 | exact nI1_01 | exact bz_01 _ | exact rf1 | exact rf11 | exact rf21) only [Option.bind_some, List.cons_append, List.nil_append, Nat.reduceAdd, Nat.reduceMul, Nat.reduceLeDiff, Nat.reduceEqDiff, ↓reduceIte, u71_18, u71_19, u71_22, u71_23, u71_26, u71_27, u71_28, u71_31, u71_32, u71_35, u71_36, u71_37, u71_40, nn_lt, h0, if_false, nn_eq0, not_true_eq_false, nI_add]
    · rw [if_neg q]
      simp (disch := first | omega | decide | assumption | exact nI0_01 | exact nI1_01 | exact bz_01 _ | exact rf1 | exact rf11 | exact rf21) only [Option.bind_some, List.cons_append, List.nil_append, Nat.reduceAdd, Nat.reduceMul, Nat.reduceLeDiff, Nat.reduceEqDiff, ↓reduceIte, u71_18, u71_19, u71_22, u71_23, u71_26, u71_27, u71_28, u71_31, u71_32, u71_35, u71_36, u71_37, u71_40, nn_lt, h1, if_false, nn_eq0, q, not_false_eq_true, if_true, nI_add]
theorem C_LW {A : Gs} {w : Wd} {f : Nat → Nat} (h : C A w) : C A (LW w f) := by
  obtain ⟨g1, g2, g3, g4, g5, g6, g7, g8, g9⟩ := h
  exact ⟨putR_rd g1 (fun a p q => rfl), g2, g3, fun z => putR_rd (g4 z) (fun a p q => rfl), g5, g6, g7, g8, g9⟩
theorem k_texts {A : Gs} {w : Wd} {x : Int32} (h : C A (putR w 1 A)) (hI : Iv A) : opC 71 [.int x] (o_texts A x) (putR w 1 A) := by
  unfold o_texts
  rcases ok_case x 9 (by omega) with ⟨k, hk, rfl, ek, ik⟩ | ek
  · try simp only [ik]
    rw [if_pos (by simp [ek])]
    rw [cnt_R hk]
    have hl := l_loop (w := putR w 1 A) (A := A) hk (fun l hl => ⟨J_1 hl, hI.2.1 l hl⟩) 10 0 none none none rfl
    have hi := i_loop (w := putR w 1 A) (x1 := some (.int (nI k))) (x3 := none) (x4 := none) (x5 := none) 5 0 rfl
    rw [IW_0, IW_5] at hi
    refine ⟨LW (putR w 1 A) (Rv (fun d => capv k (A 1 d)) 10), ?_, C_LW h, fun _ _ => rfl⟩
    simp (disch := first | omega | decide | assumption | exact nI0_01 | exact nI1_01 | exact bz_01 _ | exact rf1 | exact rf11 | exact rf21) only [Option.bind_some, List.cons_append, List.nil_append, Nat.reduceAdd, Nat.reduceMul, Nat.reduceLeDiff, Nat.reduceEqDiff, ↓reduceIte, u71_0, u71_1, u71_3, u71_6, u71_9, u71_10, u71_11, u71_14, u71_15, u71_16, n71, c_within, ek, bz_t, bz_f, nn_eq0, nn_eq, eq_self, not_true_eq_false, not_false_eq_true]
    rw [hi]
    simp (disch := first | omega | decide | assumption | exact nI0_01 | exact nI1_01 | exact bz_01 _ | exact rf1 | exact rf11 | exact rf21) only [Option.bind_some, List.cons_append, List.nil_append, Nat.reduceAdd, Nat.reduceMul, Nat.reduceLeDiff, Nat.reduceEqDiff, ↓reduceIte, u71_43, u71_44]
    exact hl
  · rw [if_neg (by simp [ek])]
    refine opC_bad h (by omega) ?_
    simp (disch := first | omega | decide | assumption | exact nI0_01 | exact nI1_01 | exact bz_01 _ | exact rf1 | exact rf11 | exact rf21) only [Option.bind_some, List.cons_append, List.nil_append, Nat.reduceAdd, Nat.reduceMul, Nat.reduceLeDiff, Nat.reduceEqDiff, ↓reduceIte, n71, u71_0, u71_1, u71_3, u71_6, u71_9, u71_10, u71_11, u71_14, u71_15, u71_16, u71_18, u71_19, u71_22, u71_23, u71_26, u71_27, u71_28, u71_31, u71_32, u71_35, u71_36, u71_37, u71_40, u71_43, u71_44, u71_46, u71_48, u71_51, u71_52, u71_55, u71_56, u71_59, u71_60, u71_61, u71_64, u71_67, u71_68, u71_69, u71_70, u71_71, u71_74, u71_75, u71_76, u71_80, u71_81, u71_84, u71_85, u71_89, u71_90, u71_92, u71_95, u71_98, u71_99, u71_102, u71_104, u71_105, u71_106, u71_108, u71_110, u71_113, u71_114, u71_117, u71_119, u71_121, u71_122, u71_123, u71_124, u71_125, u71_126, u71_129, u71_132, u71_135, u71_138, u71_141, u71_144, u71_145, u71_148, u71_149, u71_150, u71_151, c_within, ek, bz_t, bz_f, nn_eq0, nn_eq, eq_self, not_true_eq_false, not_false_eq_true, c_finding]
