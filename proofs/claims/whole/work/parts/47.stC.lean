/-! THE COMPONENT'S STATE -/
def fC (w w' : Wd) : Prop := ∀ a, 44 ≤ a → w'.1 a = w.1 a
theorem fC.rf (w : Wd) : fC w w := fun _ _ => rfl
theorem fC.tr {w w' w'' : Wd} (h : fC w w') (h' : fC w' w'') : fC w w'' := fun a ha => (h' a ha).trans (h a ha)
theorem fC.st {w w' : Wd} (h : fC w w') {a : Nat} (ha : a < 44) (k : Nat) (v : Int32) : fC w (st2 w' a k v) := fun b hb => by
  rw [st2_ne _ _ _ (by omega)]; exact h b hb
theorem fC.pR {w w' : Wd} (h : fC w w') {o : Nat} (ho : o ≤ 21) (G : Gs) : fC w (putR w' o G) := fun b hb => by
  rw [putR_ne _ _ (by omega)]; exact h b hb
def C (A : Gs) (w : Wd) : Prop := putR w 1 A = w ∧ w.1 0 3 = nI (A 20 0) ∧ w.1 40 1 = nI (A 20 1) ∧ (A 20 0 = 1 → putR w 21 (fun c => A (10 + c)) = w) ∧ (∀ k, k < 120 → w.1 41 k = nI (A 21 k)) ∧ (∀ k, k < 7 → w.1 42 k = nI (A 22 (k + 1))) ∧ (∀ t, t < 4 → w.1 (32 + 2 * t) 2 = nI (A 23 t)) ∧ (∀ t, t < 4 → w.1 (32 + 2 * t) 1 = nI (A 24 t)) ∧ ∀ t k, t < 4 → k < 40 → w.1 (33 + 2 * t) k = nI (A (25 + t) k)
theorem putR_rd {w w' : Wd} {o : Nat} {G : Gs} (h : putR w o G = w) (e : ∀ a, o ≤ a → a ≤ o + 9 → w'.1 a = w.1 a) : putR w' o G = w' := by
  refine rd_of ?_ ?_ ?_ (fun c h1 h2 k hk => ?_)
  · rw [e o (by omega) (by omega), ← h]; exact R_9
  · rw [e o (by omega) (by omega), ← h]; exact R_10
  · rw [e o (by omega) (by omega), ← h]; exact R_11
  · rw [e (o + c) (by omega) (by omega), ← h]; exact R_c w o G h1 h2 hk
theorem putR_gs {w : Wd} {o : Nat} {G G' : Gs} (h : ∀ c, c < 10 → G' c = G c) : putR w o G' = putR w o G := by
  refine Prod.ext (funext fun a => funext fun j => ?_) rfl
  show (if a = o then (if j = 9 then nI (G' 0 0) else if j = 10 then nI (G' 0 1) else if j = 11 then nI (G' 0 2) else w.1 a j) else if o < a ∧ a ≤ o + 9 ∧ j < szR (a - o) then nI (G' (a - o) j) else w.1 a j) = if a = o then (if j = 9 then nI (G 0 0) else if j = 10 then nI (G 0 1) else if j = 11 then nI (G 0 2) else w.1 a j) else if o < a ∧ a ≤ o + 9 ∧ j < szR (a - o) then nI (G (a - o) j) else w.1 a j
  rw [h 0 (by omega)]
  by_cases q : o < a ∧ a ≤ o + 9 ∧ j < szR (a - o)
  · rw [if_pos q, if_pos q, h (a - o) (by omega)]
  · rw [if_neg q, if_neg q]
theorem C.mv {A : Gs} {w w' : Wd} (h : C A w) (e : ∀ a, a < 44 → (a < 11 ∨ 20 < a) → a ≠ 40 → a ≠ 43 → w'.1 a = w.1 a) (e40 : w'.1 40 1 = w.1 40 1) : C A w' := by
  obtain ⟨h1, h2, h3, h4, h5, h6, h7, h8, h9⟩ := h
  refine ⟨?_, ?_, ?_, ?_, ?_, ?_, ?_, ?_, ?_⟩
  · exact putR_rd h1 (fun a p q => e a (by omega) (by omega) (by omega) (by omega))
  · rw [e 0 (by omega) (by omega) (by omega) (by omega)]; exact h2
  · rw [e40]; exact h3
  · exact fun z => putR_rd (h4 z) (fun a p q => e a (by omega) (by omega) (by omega) (by omega))
  · rw [e 41 (by omega) (by omega) (by omega) (by omega)]; exact h5
  · rw [e 42 (by omega) (by omega) (by omega) (by omega)]; exact h6
  · intro t ht; rw [e (32 + 2 * t) (by omega) (by omega) (by omega) (by omega)]; exact h7 t ht
  · intro t ht; rw [e (32 + 2 * t) (by omega) (by omega) (by omega) (by omega)]; exact h8 t ht
  · intro t k ht hk; rw [e (33 + 2 * t) (by omega) (by omega) (by omega) (by omega)]; exact h9 t k ht hk
/-- the reef itself changes -/
theorem C_put {A A' : Gs} {w : Wd} (h : C A w) (hA : ∀ c, 10 ≤ c → A' c = A c) : C A' (putR w 1 A') := by
  obtain ⟨h1, h2, h3, h4, h5, h6, h7, h8, h9⟩ := h
  have e : ∀ a, (a < 1 ∨ 10 < a) → (putR w 1 A').1 a = w.1 a := fun a ha => putR_ne w A' (by omega)
  refine ⟨putR_putR _ _ _ _, ?_, ?_, ?_, ?_, ?_, ?_, ?_, ?_⟩
  · rw [e 0 (by omega), hA 20 (by omega)]; exact h2
  · rw [e 40 (by omega), hA 20 (by omega)]; exact h3
  · rw [hA 20 (by omega)]
    intro z
    rw [putR_gs (G := fun c => A (10 + c)) (fun c _ => hA (10 + c) (by omega))]
    exact putR_rd (h4 z) (fun a p q => e a (by omega))
  · rw [e 41 (by omega), hA 21 (by omega)]; exact h5
  · rw [e 42 (by omega), hA 22 (by omega)]; exact h6
  · intro t ht; rw [e (32 + 2 * t) (by omega), hA 23 (by omega)]; exact h7 t ht
  · intro t ht; rw [e (32 + 2 * t) (by omega), hA 24 (by omega)]; exact h8 t ht
  · intro t k ht hk; rw [e (33 + 2 * t) (by omega), hA (25 + t) (by omega)]; exact h9 t k ht hk
theorem C_fnd {A : Gs} {w : Wd} (h : C A w) {k : Nat} (hk : k < 7) : C (fnd A k) (fndC w k) := by
  obtain ⟨h1, h2, h3, h4, h5, h6, h7, h8, h9⟩ := h
  have e : ∀ a, a ≠ 42 → (fndC w k).1 a = w.1 a := fun a ha => st2_ne _ _ _ ha
  refine ⟨?_, ?_, ?_, ?_, ?_, ?_, ?_, ?_, ?_⟩
  · rw [putR_gs (G := A) (fun c hc => fnd_row A k (by omega))]
    exact putR_rd h1 (fun a p q => e a (by omega))
  · rw [e 0 (by omega), fnd_row A k (by omega)]; exact h2
  · rw [e 40 (by omega), fnd_row A k (by omega)]; exact h3
  · rw [fnd_row A k (by omega)]
    intro z
    rw [putR_gs (G := fun c => A (10 + c)) (fun c _ => fnd_row A k (by omega))]
    exact putR_rd (h4 z) (fun a p q => e a (by omega))
  · rw [e 41 (by omega), fnd_row A k (by omega)]; exact h5
  · intro j hj
    unfold fndC fnd
    by_cases q : j = k
    · subst q
      rw [st2_at, up_at, h6 _ hj]
      rw [show (1 : Int32) = nI 1 from rfl, nI_add]
    · rw [st2_nk _ _ _ q, up_nk _ (by omega), up_nk _ (by omega)]
      exact h6 j hj
  · intro t ht; rw [e (32 + 2 * t) (by omega), fnd_row A k (by omega)]; exact h7 t ht
  · intro t ht; rw [e (32 + 2 * t) (by omega), fnd_row A k (by omega)]; exact h8 t ht
  · intro t j ht hj; rw [e (33 + 2 * t) (by omega), fnd_row A k (by omega)]; exact h9 t j ht hj
theorem fC.fd {w w' : Wd} (h : fC w w') (k : Nat) : fC w (fndC w' k) := h.st (by omega) _ _
def opC (f : Nat) (args : List Value) (r : Int32 × Gs) (w : Wd) : Prop := ∃ w', CALL f (.ref 0 :: args) w = some ([.int r.1], w') ∧ C r.2 w' ∧ fC w w'
theorem opC_bad {A : Gs} {w : Wd} {f k : Nat} {args : List Value} (h : C A w) (hk : k < 7) (e : CALL f (.ref 0 :: args) w = some ([.int (lo k)], fndC w k)) : opC f args (bad A k) w := ⟨_, e, C_fnd h hk, (fC.rf w).fd k⟩
theorem opC_get {A : Gs} {w : Wd} {f : Nat} {v : Int32} {args : List Value} (h : C A w) (e : CALL f (.ref 0 :: args) w = some ([.int v], w)) : opC f args (v, A) w := ⟨_, e, h, fC.rf w⟩
theorem opC_set {A A' : Gs} {w : Wd} {f : Nat} {v : Int32} {args : List Value} (h : C A (putR w 1 A)) (hA : ∀ c, 10 ≤ c → A' c = A c) (e : CALL f (.ref 0 :: args) (putR w 1 A) = some ([.int v], putR w 1 A')) : opC f args (v, A') (putR w 1 A) := by
  refine ⟨_, e, ?_, ?_⟩
  · have := C_put h hA
    rw [putR_putR] at this
    exact this
  · intro a ha
    rw [putR_ne _ _ (by omega), putR_ne _ _ (by omega)]
/-- the trial becomes the reef -/
theorem C.trial {A : Gs} {w : Wd} (h : C A w) : ∃ v, CALL 7 [.ref 11, .ref 1] w = some ([], putR v 11 A) ∧ C A v ∧ fC w v := by
  obtain ⟨v, e1, e2⟩ := c_become rf11 rf1 (by omega) h.1
  exact ⟨v, e1, h.mv (fun a h1 h2 h3 h4 => e2 a (by omega)) (by rw [e2 40 (by omega)]), fun a ha => e2 a (by omega)⟩
theorem C.tri {A : Gs} {v : Wd} (h : C A v) (G : Gs) : C A (putR v 11 G) := h.mv (fun a h1 h2 h3 h4 => putR_ne v G (by omega)) (by rw [putR_ne v G (by omega)])
theorem opC_tri {A G : Gs} {w v : Wd} {f : Nat} {x : Int32} {args : List Value} (h : C A v) (hf : fC w v) (e : CALL f (.ref 0 :: args) w = some ([.int x], putR v 11 G)) : opC f args (x, A) w := ⟨_, e, h.tri G, hf.pR (by omega) G⟩
theorem opC_trf {A G : Gs} {w v : Wd} {f k : Nat} {args : List Value} (h : C A v) (hf : fC w v) (hk : k < 7) (e : CALL f (.ref 0 :: args) w = some ([.int (lo k)], fndC (putR v 11 G) k)) : opC f args (bad A k) w := ⟨_, e, C_fnd (h.tri G) hk, (hf.pR (by omega) G).fd k⟩
theorem C.isW {A : Gs} {w : Wd} {x : Int32} (h : C A w) (hI : Iv A) : CALL 93 [.ref 0, .int x] w = some ([.int (bz (isW A x))], w) := by
  have e := c_isWriter (x := x) (w := w) hI.1
  rw [h.1] at e
  exact e
/-! READS AND WRITES AT FIXED CELLS -/
theorem J_1 {w : Wd} {G : Gs} {k : Nat} (h : k < 10) : (putR w 1 G).1 2 k = nI (G 1 k) := R_1 h
theorem J_2 {w : Wd} {G : Gs} {k : Nat} (h : k < 6) : (putR w 1 G).1 3 k = nI (G 2 k) := R_2 h
theorem J_3 {w : Wd} {G : Gs} {k : Nat} (h : k < 6) : (putR w 1 G).1 4 k = nI (G 3 k) := R_3 h
theorem J_4 {w : Wd} {G : Gs} {k : Nat} (h : k < 8) : (putR w 1 G).1 5 k = nI (G 4 k) := R_4 h
theorem J_8 {w : Wd} {G : Gs} {k : Nat} (h : k < 8) : (putR w 1 G).1 9 k = nI (G 8 k) := R_8 h
theorem J_9 {w : Wd} {G : Gs} {k : Nat} (h : k < 10) : (putR w 1 G).1 10 k = nI (G 9 k) := R_99 h
theorem J_s1 {w : Wd} {G : Gs} {k v : Nat} (h : k < 10) : st2 (putR w 1 G) 2 k (nI v) = putR w 1 (up G 1 k v) := R_s1 h
theorem J_s2 {w : Wd} {G : Gs} {k v : Nat} (h : k < 6) : st2 (putR w 1 G) 3 k (nI v) = putR w 1 (up G 2 k v) := R_s2 h
theorem J_s3 {w : Wd} {G : Gs} {k v : Nat} (h : k < 6) : st2 (putR w 1 G) 4 k (nI v) = putR w 1 (up G 3 k v) := R_s3 h
theorem J_s9 {w : Wd} {G : Gs} {k v : Nat} (h : k < 10) : st2 (putR w 1 G) 10 k (nI v) = putR w 1 (up G 9 k v) := R_s99 h
theorem T_1 {w : Wd} {G : Gs} {k : Nat} (h : k < 10) : (putR w 11 G).1 12 k = nI (G 1 k) := R_1 h
theorem T_8 {w : Wd} {G : Gs} {k : Nat} (h : k < 8) : (putR w 11 G).1 19 k = nI (G 8 k) := R_8 h
theorem T_6 {w : Wd} {G : Gs} {k : Nat} (h : k < 8) : (putR w 11 G).1 17 k = nI (G 6 k) := R_6 h
theorem T_s2 {w : Wd} {G : Gs} {k v : Nat} (h : k < 6) : st2 (putR w 11 G) 13 k (nI v) = putR w 11 (up G 2 k v) := R_s2 h
theorem T_s3 {w : Wd} {G : Gs} {k v : Nat} (h : k < 6) : st2 (putR w 11 G) 14 k (nI v) = putR w 11 (up G 3 k v) := R_s3 h
theorem T_s4 {w : Wd} {G : Gs} {k v : Nat} (h : k < 8) : st2 (putR w 11 G) 15 k (nI v) = putR w 11 (up G 4 k v) := R_s4 h
/-! CALLS -/
theorem k_jar {A : Gs} {w : Wd} {x v : Int32} (h : C A (putR w 1 A)) : opC 44 [.int x, .int v] (o_jar A x v) (putR w 1 A) := by
  unfold o_jar
  rcases ok_case x 9 (by omega) with ⟨k, hk, rfl, ek, ik⟩ | ek
  · try simp only [ik]
    rcases ok_case v 999 (by omega) with ⟨m, hm, rfl, em, im⟩ | em
    · try simp only [im]
      rw [if_pos (by simp [ek, em])]
      refine opC_set h (up_r (by omega)) ?_
      simp (disch := first | omega | decide | assumption | exact nI0_01 | exact nI1_01 | exact bz_01 _ | exact rf1 | exact rf11 | exact rf21) only [Option.bind_some, List.cons_append, List.nil_append, Nat.reduceAdd, Nat.reduceMul, Nat.reduceLeDiff, Nat.reduceEqDiff, ↓reduceIte, n44, u44_0, u44_1, u44_4, u44_7, u44_8, u44_11, u44_14, u44_17, u44_18, u44_19, u44_22, u44_23, u44_24, u44_27, u44_30, u44_31, u44_32, u44_33, u44_34, u44_37, u44_40, u44_41, u44_42, u44_43, u44_44, c_isLetter, c_within, ek, em, bz_t, bz_f, nn_eq0, nn_eq, eq_self, not_true_eq_false, not_false_eq_true, J_1, J_s1]
    · rw [if_neg (by simp [em])]
      refine opC_bad h (by omega) ?_
      simp (disch := first | omega | decide | assumption | exact nI0_01 | exact nI1_01 | exact bz_01 _ | exact rf1 | exact rf11 | exact rf21) only [Option.bind_some, List.cons_append, List.nil_append, Nat.reduceAdd, Nat.reduceMul, Nat.reduceLeDiff, Nat.reduceEqDiff, ↓reduceIte, n44, u44_0, u44_1, u44_4, u44_7, u44_8, u44_11, u44_14, u44_17, u44_18, u44_19, u44_22, u44_23, u44_24, u44_27, u44_30, u44_31, u44_32, u44_33, u44_34, u44_37, u44_40, u44_41, u44_42, u44_43, u44_44, c_isLetter, c_within, ek, em, bz_t, bz_f, nn_eq0, nn_eq, eq_self, not_true_eq_false, not_false_eq_true, c_finding]
  · rw [if_neg (by simp [ek])]
    refine opC_bad h (by omega) ?_
    simp (disch := first | omega | decide | assumption | exact nI0_01 | exact nI1_01 | exact bz_01 _ | exact rf1 | exact rf11 | exact rf21) only [Option.bind_some, List.cons_append, List.nil_append, Nat.reduceAdd, Nat.reduceMul, Nat.reduceLeDiff, Nat.reduceEqDiff, ↓reduceIte, n44, u44_0, u44_1, u44_4, u44_7, u44_8, u44_11, u44_14, u44_17, u44_18, u44_19, u44_22, u44_23, u44_24, u44_27, u44_30, u44_31, u44_32, u44_33, u44_34, u44_37, u44_40, u44_41, u44_42, u44_43, u44_44, c_isLetter, c_within, ek, bz_t, bz_f, nn_eq0, nn_eq, eq_self, not_true_eq_false, not_false_eq_true, c_finding]
theorem k_bones {A : Gs} {w : Wd} {x : Int32} (h : C A (putR w 1 A)) : opC 45 [.int x] (o_bones A x) (putR w 1 A) := by
  unfold o_bones
  rcases ok_case x 9 (by omega) with ⟨k, hk, rfl, ek, ik⟩ | ek
  · try simp only [ik]
    rw [if_pos (by simp [ek])]
    refine opC_get h ?_
    simp (disch := first | omega | decide | assumption | exact nI0_01 | exact nI1_01 | exact bz_01 _ | exact rf1 | exact rf11 | exact rf21) only [Option.bind_some, List.cons_append, List.nil_append, Nat.reduceAdd, Nat.reduceMul, Nat.reduceLeDiff, Nat.reduceEqDiff, ↓reduceIte, n45, u45_0, u45_1, u45_4, u45_7, u45_8, u45_11, u45_14, u45_15, u45_16, u45_19, u45_20, u45_21, u45_24, c_isLetter, c_within, ek, bz_t, bz_f, nn_eq0, nn_eq, eq_self, not_true_eq_false, not_false_eq_true, J_1]
  · rw [if_neg (by simp [ek])]
    refine opC_bad h (by omega) ?_
    simp (disch := first | omega | decide | assumption | exact nI0_01 | exact nI1_01 | exact bz_01 _ | exact rf1 | exact rf11 | exact rf21) only [Option.bind_some, List.cons_append, List.nil_append, Nat.reduceAdd, Nat.reduceMul, Nat.reduceLeDiff, Nat.reduceEqDiff, ↓reduceIte, n45, u45_0, u45_1, u45_4, u45_7, u45_8, u45_11, u45_14, u45_15, u45_16, u45_19, u45_20, u45_21, u45_24, c_isLetter, c_within, ek, bz_t, bz_f, nn_eq0, nn_eq, eq_self, not_true_eq_false, not_false_eq_true, c_finding]
