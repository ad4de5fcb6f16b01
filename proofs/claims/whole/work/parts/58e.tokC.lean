/-! THE COMPONENT'S TOKENS -/
def TC (w : Wd) (k fr to v : Nat) : Wd := put w 40 (fun j => if j = 2 then nI k else if j = 3 then nI fr else if j = 4 then nI to else if j = 5 then nI v else w.1 40 j)
theorem TC_r (w : Wd) (k fr to v : Nat) (G : Gs) (j : Nat) : (putR (TC w k fr to v) 11 G).1 40 j = if j = 2 then nI k else if j = 3 then nI fr else if j = 4 then nI to else if j = 5 then nI v else w.1 40 j := by
  rw [putR_ne _ _ (by omega)]
  unfold TC
  rw [put_at]
theorem TC_1 {w : Wd} {k fr to v : Nat} {G : Gs} : (putR (TC w k fr to v) 11 G).1 40 1 = w.1 40 1 := TC_r w k fr to v G 1
theorem TC_2 {w : Wd} {k fr to v : Nat} {G : Gs} : (putR (TC w k fr to v) 11 G).1 40 2 = nI k := TC_r w k fr to v G 2
theorem TC_3 {w : Wd} {k fr to v : Nat} {G : Gs} : (putR (TC w k fr to v) 11 G).1 40 3 = nI fr := TC_r w k fr to v G 3
theorem TC_4 {w : Wd} {k fr to v : Nat} {G : Gs} : (putR (TC w k fr to v) 11 G).1 40 4 = nI to := TC_r w k fr to v G 4
theorem TC_5 {w : Wd} {k fr to v : Nat} {G : Gs} : (putR (TC w k fr to v) 11 G).1 40 5 = nI v := TC_r w k fr to v G 5
theorem TC_41 {w : Wd} {k fr to v : Nat} {G : Gs} : (putR (TC w k fr to v) 11 G).1 41 = w.1 41 := by
  rw [putR_ne _ _ (by omega)]
  exact put_ne _ _ (by omega)
theorem TC_st {w : Wd} {k fr to v k' fr' to' v' : Nat} {G : Gs} {j : Nat} {x : Int32} (h : ∀ i, (if i = j then x else if i = 2 then nI k else if i = 3 then nI fr else if i = 4 then nI to else if i = 5 then nI v else w.1 40 i) = if i = 2 then nI k' else if i = 3 then nI fr' else if i = 4 then nI to' else if i = 5 then nI v' else w.1 40 i) : st2 (putR (TC w k fr to v) 11 G) 40 j x = putR (TC w k' fr' to' v') 11 G := by
  rw [putR_st _ _ (by omega)]
  congr 1
  unfold st2 TC
  rw [put_at, put_put]
  congr 1
  funext i
  unfold upd
  exact h i
theorem TC_s2 {w : Wd} {k fr to v k' : Nat} {G : Gs} : st2 (putR (TC w k fr to v) 11 G) 40 2 (nI k') = putR (TC w k' fr to v) 11 G := TC_st (fun i => by
  by_cases h1 : i = 2
  · simp only [if_pos h1]
  · simp only [if_neg h1])
theorem TC_s3 {w : Wd} {k fr to v k' : Nat} {G : Gs} : st2 (putR (TC w k fr to v) 11 G) 40 3 (nI k') = putR (TC w k k' to v) 11 G := TC_st (fun i => by
  by_cases h1 : i = 3
  · subst h1; rfl
  · simp only [if_neg h1])
theorem TC_s4 {w : Wd} {k fr to v k' : Nat} {G : Gs} : st2 (putR (TC w k fr to v) 11 G) 40 4 (nI k') = putR (TC w k fr k' v) 11 G := TC_st (fun i => by
  by_cases h1 : i = 4
  · subst h1; rfl
  · simp only [if_neg h1])
theorem TC_s5 {w : Wd} {k fr to v k' : Nat} {G : Gs} : st2 (putR (TC w k fr to v) 11 G) 40 5 (nI k') = putR (TC w k fr to k') 11 G := TC_st (fun i => by
  by_cases h1 : i = 5
  · subst h1; rfl
  · simp only [if_neg h1])
/-- the bytes that are read -/
def EnvC (w : Wd) (n : Nat) (B : Nat → Nat) : Prop := w.1 40 1 = nI n ∧ (∀ j, j < 120 → w.1 41 j = nI (B j)) ∧ n ≤ 120 ∧ ∀ j, j < 120 → B j < 256
theorem c_isSmall {b : Nat} {w : Wd} (hb : b < 256) : CALL 42 [.int (nI b)] w = some ([.int (bz (ltr b))], w) := by
  unfold ltr
  simp (disch := first | omega | decide | assumption | exact nI0_01 | exact nI1_01 | exact bz_01 _ | exact rf1 | exact rf11 | exact rf21) only [Option.bind_some, List.cons_append, List.nil_append, Nat.reduceAdd, Nat.reduceMul, Nat.reduceLeDiff, Nat.reduceEqDiff, ↓reduceIte, n42, u42_0, u42_1, u42_3, u42_6, u42_7, u42_9, u42_12, u42_13, u42_16, u42_17, nn_lt]
  by_cases h1 : b < 97
  · rw [bz_no (by omega)]; simp [h1]
  · by_cases h2 : b ≤ 122
    · have h3 : ¬ 122 < b := by omega
      rw [bz_ye (by omega)]; simp [h1, h3]
    · have h3 : 122 < b := by omega
      rw [bz_no (by omega)]; simp [h1, h3]
theorem c_isDigit {b : Nat} {w : Wd} (hb : b < 256) : CALL 43 [.int (nI b)] w = some ([.int (bz (dgt b))], w) := by
  unfold dgt
  simp (disch := first | omega | decide | assumption | exact nI0_01 | exact nI1_01 | exact bz_01 _ | exact rf1 | exact rf11 | exact rf21) only [Option.bind_some, List.cons_append, List.nil_append, Nat.reduceAdd, Nat.reduceMul, Nat.reduceLeDiff, Nat.reduceEqDiff, ↓reduceIte, n43, u43_0, u43_1, u43_3, u43_6, u43_7, u43_9, u43_12, u43_13, u43_16, u43_17, nn_lt]
  by_cases h1 : b < 48
  · rw [bz_no (by omega)]; simp [h1]
  · by_cases h2 : b ≤ 57
    · have h3 : ¬ 57 < b := by omega
      rw [bz_ye (by omega)]; simp [h1, h3]
    · have h3 : 57 < b := by omega
      rw [bz_no (by omega)]; simp [h1, h3]
theorem cskip_loop {w : Wd} {n : Nat} {B : Nat → Nat} (hE : EnvC w n B) {k fr v : Nat} {G : Gs} : ∀ (m to : Nat), m + to = n → RUN 41 0 [some (.ref 40)] [] [] (putR (TC w k fr to v) 11 G) = RUN 41 38 [some (.ref 40)] [] [] (putR (TC w k fr (sk B m to) v) 11 G) := by
  obtain ⟨h1, h2, h3, h4⟩ := hE
  intro m
  induction m with
  | zero =>
    intro to hm
    have hb : n ≤ to := by omega
    rw [u41_0]
    simp (disch := first | omega | decide | assumption | exact nI0_01 | exact nI1_01 | exact bz_01 _ | exact rf1 | exact rf11 | exact rf21) only [Option.bind_some, List.cons_append, List.nil_append, Nat.reduceAdd, Nat.reduceMul, Nat.reduceLeDiff, Nat.reduceEqDiff, ↓reduceIte, u41_1, u41_4, u41_5, u41_8, u41_11, u41_12, u41_15, u41_16, u41_19, u41_20, u41_22, u41_25, u41_26, u41_27, u41_30, u41_31, u41_32, u41_35, TC_4, TC_1, h1, nn_le, hb, if_true]
    rfl
  | succ m ih =>
    intro to hm
    have hb : ¬ n ≤ to := by omega
    have ht : to < 120 := by omega
    have hB := h4 to ht
    have e := h2 to ht
    rw [u41_0, sk]
    by_cases h : B to = 32
    · simp (disch := first | omega | decide | assumption | exact nI0_01 | exact nI1_01 | exact bz_01 _ | exact rf1 | exact rf11 | exact rf21) only [Option.bind_some, List.cons_append, List.nil_append, Nat.reduceAdd, Nat.reduceMul, Nat.reduceLeDiff, Nat.reduceEqDiff, ↓reduceIte, u41_1, u41_4, u41_5, u41_8, u41_11, u41_12, u41_15, u41_16, u41_19, u41_20, u41_22, u41_25, u41_26, u41_27, u41_30, u41_31, u41_32, u41_35, TC_4, TC_1, h1, nn_le, hb, if_false, TC_41, e, nn_eq, h, not_true_eq_false, nI_add, TC_s4, if_true]
      exact ih (to + 1) (by omega)
    · simp (disch := first | omega | decide | assumption | exact nI0_01 | exact nI1_01 | exact bz_01 _ | exact rf1 | exact rf11 | exact rf21) only [Option.bind_some, List.cons_append, List.nil_append, Nat.reduceAdd, Nat.reduceMul, Nat.reduceLeDiff, Nat.reduceEqDiff, ↓reduceIte, u41_1, u41_4, u41_5, u41_8, u41_11, u41_12, u41_15, u41_16, u41_19, u41_20, u41_22, u41_25, u41_26, u41_27, u41_30, u41_31, u41_32, u41_35, TC_4, TC_1, h1, nn_le, hb, if_false, TC_41, e, nn_eq, h, not_false_eq_true, if_true, if_false]
theorem clett_loop {w : Wd} {n : Nat} {B : Nat → Nat} (hE : EnvC w n B) {fr v : Nat} {G : Gs} : ∀ (m to : Nat), m + to = n → RUN 41 85 [some (.ref 40)] [] [] (putR (TC w 1 fr to v) 11 G) = some ([], putR (TC w 1 fr (rl B m to) v) 11 G) := by
  obtain ⟨h1, h2, h3, h4⟩ := hE
  intro m
  induction m with
  | zero =>
    intro to hm
    have hb : n ≤ to := by omega
    rw [u41_85]
    simp (disch := first | omega | decide | assumption | exact nI0_01 | exact nI1_01 | exact bz_01 _ | exact rf1 | exact rf11 | exact rf21) only [Option.bind_some, List.cons_append, List.nil_append, Nat.reduceAdd, Nat.reduceMul, Nat.reduceLeDiff, Nat.reduceEqDiff, ↓reduceIte, u41_86, u41_89, u41_90, u41_93, u41_96, u41_97, u41_100, u41_101, u41_104, u41_105, u41_108, u41_111, u41_112, u41_113, u41_116, u41_117, u41_118, u41_121, u41_251, TC_4, TC_1, h1, nn_le, hb, if_true]
    rfl
  | succ m ih =>
    intro to hm
    have hb : ¬ n ≤ to := by omega
    have ht : to < 120 := by omega
    have hB := h4 to ht
    have e := h2 to ht
    rw [u41_85, rl]
    cases h : ltr (B to) with
    | true =>
      simp (disch := first | omega | decide | assumption | exact nI0_01 | exact nI1_01 | exact bz_01 _ | exact rf1 | exact rf11 | exact rf21) only [Option.bind_some, List.cons_append, List.nil_append, Nat.reduceAdd, Nat.reduceMul, Nat.reduceLeDiff, Nat.reduceEqDiff, ↓reduceIte, u41_86, u41_89, u41_90, u41_93, u41_96, u41_97, u41_100, u41_101, u41_104, u41_105, u41_108, u41_111, u41_112, u41_113, u41_116, u41_117, u41_118, u41_121, TC_4, TC_1, h1, nn_le, hb, if_false, TC_41, e, c_isSmall, h, bz_t, bz_f, nn_eq0, nn_eq, eq_self, not_true_eq_false, not_false_eq_true, nI_add, TC_s4]
      exact ih (to + 1) (by omega)
    | false =>
      simp (disch := first | omega | decide | assumption | exact nI0_01 | exact nI1_01 | exact bz_01 _ | exact rf1 | exact rf11 | exact rf21) only [Option.bind_some, List.cons_append, List.nil_append, Nat.reduceAdd, Nat.reduceMul, Nat.reduceLeDiff, Nat.reduceEqDiff, ↓reduceIte, u41_86, u41_89, u41_90, u41_93, u41_96, u41_97, u41_100, u41_101, u41_104, u41_105, u41_108, u41_111, u41_112, u41_113, u41_116, u41_117, u41_118, u41_121, u41_251, TC_4, TC_1, h1, nn_le, hb, if_false, TC_41, e, c_isSmall, h, bz_t, bz_f, nn_eq0, nn_eq, eq_self, not_true_eq_false, not_false_eq_true, Bool.false_eq_true]
theorem cdigi_loop {w : Wd} {n : Nat} {B : Nat → Nat} (hE : EnvC w n B) {fr : Nat} {G : Gs} : ∀ (m to v : Nat), m + to = n → v ≤ 10000 → RUN 41 149 [some (.ref 40)] [] [] (putR (TC w 2 fr to v) 11 G) = some ([], putR (TC w 2 fr (rd B m to) (vl B m to v)) 11 G) := by
  obtain ⟨h1, h2, h3, h4⟩ := hE
  intro m
  induction m with
  | zero =>
    intro to v hm hv
    have hb : n ≤ to := by omega
    rw [u41_149]
    simp (disch := first | omega | decide | assumption | exact nI0_01 | exact nI1_01 | exact bz_01 _ | exact rf1 | exact rf11 | exact rf21) only [Option.bind_some, List.cons_append, List.nil_append, Nat.reduceAdd, Nat.reduceMul, Nat.reduceLeDiff, Nat.reduceEqDiff, ↓reduceIte, u41_150, u41_153, u41_154, u41_157, u41_160, u41_161, u41_164, u41_165, u41_168, u41_169, u41_172, u41_175, u41_176, u41_179, u41_180, u41_183, u41_185, u41_186, u41_187, u41_190, u41_191, u41_194, u41_195, u41_196, u41_198, u41_199, u41_202, u41_205, u41_206, u41_207, u41_210, u41_211, u41_212, u41_215, u41_251, TC_4, TC_1, h1, nn_le, hb, if_true]
    rfl
  | succ m ih =>
    intro to v hm hv
    have hb : ¬ n ≤ to := by omega
    have ht : to < 120 := by omega
    have hB := h4 to ht
    have e := h2 to ht
    rw [u41_149, rd, vl]
    cases h : dgt (B to) with
    | true =>
      have hd : 48 ≤ B to ∧ B to ≤ 57 := of_decide_eq_true h
      have e2 : nI (v * 10 + B to) - nI 48 = nI (10 * v + (B to - 48)) := by rw [nn_sub (by omega)]; congr 1; omega
      have e3 : (if nI (10 * v + (B to - 48)) < nI 10000 then nI (10 * v + (B to - 48)) else nI 10000) = nI (min 10000 (10 * v + (B to - 48))) := n_min' (by omega) (by omega)
      simp (disch := first | omega | decide | assumption | exact nI0_01 | exact nI1_01 | exact bz_01 _ | exact rf1 | exact rf11 | exact rf21) only [Option.bind_some, List.cons_append, List.nil_append, Nat.reduceAdd, Nat.reduceMul, Nat.reduceLeDiff, Nat.reduceEqDiff, ↓reduceIte, u41_150, u41_153, u41_154, u41_157, u41_160, u41_161, u41_164, u41_165, u41_168, u41_169, u41_172, u41_175, u41_176, u41_179, u41_180, u41_183, u41_185, u41_186, u41_187, u41_190, u41_191, u41_194, u41_195, u41_196, u41_198, u41_199, u41_202, u41_205, u41_206, u41_207, u41_210, u41_211, u41_212, u41_215, TC_4, TC_5, TC_1, h1, nn_le, hb, if_false, TC_41, e, c_isDigit, h, bz_t, bz_f, nn_eq0, nn_eq, eq_self, not_true_eq_false, not_false_eq_true, nI_add, pk_mul, e2, e3, TC_s5, TC_s4]
      exact ih (to + 1) _ (by omega) (Nat.min_le_left _ _)
    | false =>
      simp (disch := first | omega | decide | assumption | exact nI0_01 | exact nI1_01 | exact bz_01 _ | exact rf1 | exact rf11 | exact rf21) only [Option.bind_some, List.cons_append, List.nil_append, Nat.reduceAdd, Nat.reduceMul, Nat.reduceLeDiff, Nat.reduceEqDiff, ↓reduceIte, u41_150, u41_153, u41_154, u41_157, u41_160, u41_161, u41_164, u41_165, u41_168, u41_169, u41_172, u41_175, u41_176, u41_179, u41_180, u41_183, u41_185, u41_186, u41_187, u41_190, u41_191, u41_194, u41_195, u41_196, u41_198, u41_199, u41_202, u41_205, u41_206, u41_207, u41_210, u41_211, u41_212, u41_215, u41_251, TC_4, TC_1, h1, nn_le, hb, if_false, TC_41, e, c_isDigit, h, bz_t, bz_f, nn_eq0, nn_eq, eq_self, not_true_eq_false, not_false_eq_true, Bool.false_eq_true]
theorem c_nxTok {w : Wd} {n : Nat} {B : Nat → Nat} (hE : EnvC w n B) {k fr to v : Nat} {G : Gs} (ht : to ≤ n) : ∃ vm, ((tok n B to).1 = 2 → vm = (tok n B to).2.2.2 ∧ vm ≤ 10000) ∧ CALL 41 [.ref 40] (putR (TC w k fr to v) 11 G) = some ([], putR (TC w (tok n B to).1 (tok n B to).2.1 (tok n B to).2.2.1 vm) 11 G) := by
  have hn := hE.2.2.1
  have h1 := hE.1
  have hs := sk_in B (n - to) to
  have hv0 := (tok_in n B ht).2.2.2.2.2
  have st : CALL 41 [.ref 40] (putR (TC w k fr to v) 11 G) = RUN 41 38 [some (.ref 40)] [] [] (putR (TC w k fr (sk B (n - to) to) v) 11 G) := by
    rw [n41]
    exact cskip_loop hE (n - to) to (by omega)
  rw [st]
  unfold tok at hv0 ⊢
  generalize sk B (n - to) to = q at hs hv0 ⊢
  by_cases q1 : n ≤ q
  · simp only [if_pos q1]
    refine ⟨v, fun z => absurd z (by decide), ?_⟩
    have q1' : ¬ q < n := by omega
    simp (disch := first | omega | decide | assumption | exact nI0_01 | exact nI1_01 | exact bz_01 _ | exact rf1 | exact rf11 | exact rf21) only [Option.bind_some, List.cons_append, List.nil_append, Nat.reduceAdd, Nat.reduceMul, Nat.reduceLeDiff, Nat.reduceEqDiff, ↓reduceIte, u41_38, u41_39, u41_40, u41_43, u41_46, u41_47, u41_50, u41_51, u41_54, u41_57, u41_58, u41_59, u41_62, u41_251, TC_4, TC_1, h1, TC_s3, nn_lt, q1', if_false, TC_s2]
  · simp only [if_neg q1] at hv0 ⊢
    have q1' : q < n := by omega
    have hq : q < 120 := by omega
    have hB := hE.2.2.2 q hq
    have e := hE.2.1 q hq
    by_cases q2 : ltr (B q) = true
    · simp only [if_pos q2]
      refine ⟨v, fun z => absurd z (by decide), ?_⟩
      have hl := clett_loop hE (fr := q) (v := v) (G := G) (n - q) q (by omega)
      simp (disch := first | omega | decide | assumption | exact nI0_01 | exact nI1_01 | exact bz_01 _ | exact rf1 | exact rf11 | exact rf21) only [Option.bind_some, List.cons_append, List.nil_append, Nat.reduceAdd, Nat.reduceMul, Nat.reduceLeDiff, Nat.reduceEqDiff, ↓reduceIte, u41_38, u41_39, u41_40, u41_43, u41_46, u41_47, u41_50, u41_51, u41_54, u41_57, u41_58, u41_59, u41_62, u41_65, u41_66, u41_69, u41_70, u41_73, u41_74, u41_77, u41_80, u41_81, u41_82, TC_4, TC_1, h1, TC_s3, nn_lt, q1', if_true, TC_41, e, c_isSmall, q2, bz_t, bz_f, nn_eq0, nn_eq, eq_self, not_true_eq_false, not_false_eq_true, TC_s2]
      exact hl
    · simp only [if_neg q2] at hv0 ⊢
      have q2' : ltr (B q) = false := by cases h : ltr (B q) with | true => exact absurd h q2 | false => rfl
      by_cases q3 : dgt (B q) = true
      · simp only [if_pos q3] at hv0 ⊢
        refine ⟨vl B (n - q) q 0, fun _ => ⟨rfl, hv0⟩, ?_⟩
        have hl := cdigi_loop hE (fr := q) (G := G) (n - q) q 0 (by omega) (by omega)
        simp (disch := first | omega | decide | assumption | exact nI0_01 | exact nI1_01 | exact bz_01 _ | exact rf1 | exact rf11 | exact rf21) only [Option.bind_some, List.cons_append, List.nil_append, Nat.reduceAdd, Nat.reduceMul, Nat.reduceLeDiff, Nat.reduceEqDiff, ↓reduceIte, u41_38, u41_39, u41_40, u41_43, u41_46, u41_47, u41_50, u41_51, u41_54, u41_57, u41_58, u41_59, u41_62, u41_65, u41_66, u41_69, u41_70, u41_73, u41_74, u41_77, u41_80, u41_81, u41_82, u41_124, u41_125, u41_128, u41_129, u41_132, u41_133, u41_136, u41_139, u41_140, u41_141, u41_144, u41_145, u41_146, TC_4, TC_1, h1, TC_s3, nn_lt, q1', if_true, TC_41, e, c_isSmall, q2', c_isDigit, q3, bz_t, bz_f, nn_eq0, nn_eq, eq_self, not_true_eq_false, not_false_eq_true, TC_s2, TC_s5]
        exact hl
      · simp only [if_neg q3] at hv0 ⊢
        have q3' : dgt (B q) = false := by cases h : dgt (B q) with | true => exact absurd h q3 | false => rfl
        by_cases q4 : B q = 59
        · simp only [if_pos q4]
          refine ⟨v, fun z => absurd z (by decide), ?_⟩
          have l59 : ltr 59 = false := by decide
          have d59 : dgt 59 = false := by decide
          simp (disch := first | omega | decide | assumption | exact nI0_01 | exact nI1_01 | exact bz_01 _ | exact rf1 | exact rf11 | exact rf21) only [Option.bind_some, List.cons_append, List.nil_append, Nat.reduceAdd, Nat.reduceMul, Nat.reduceLeDiff, Nat.reduceEqDiff, ↓reduceIte, u41_38, u41_39, u41_40, u41_43, u41_46, u41_47, u41_50, u41_51, u41_54, u41_57, u41_58, u41_59, u41_62, u41_65, u41_66, u41_69, u41_70, u41_73, u41_74, u41_77, u41_80, u41_81, u41_82, u41_124, u41_125, u41_128, u41_129, u41_132, u41_133, u41_136, u41_218, u41_219, u41_220, u41_223, u41_224, u41_227, u41_228, u41_230, u41_233, u41_234, u41_237, u41_238, u41_241, u41_242, u41_243, u41_246, u41_247, u41_248, u41_251, TC_4, TC_1, h1, TC_s3, nn_lt, q1', if_true, TC_41, e, c_isSmall, q2', l59, d59, c_isDigit, q3', bz_t, bz_f, nn_eq0, nn_eq, eq_self, not_true_eq_false, not_false_eq_true, q4, TC_s2, nI_add, TC_s4]
        · simp only [if_neg q4]
          refine ⟨v, fun z => absurd z (by decide), ?_⟩
          simp (disch := first | omega | decide | assumption | exact nI0_01 | exact nI1_01 | exact bz_01 _ | exact rf1 | exact rf11 | exact rf21) only [Option.bind_some, List.cons_append, List.nil_append, Nat.reduceAdd, Nat.reduceMul, Nat.reduceLeDiff, Nat.reduceEqDiff, ↓reduceIte, u41_38, u41_39, u41_40, u41_43, u41_46, u41_47, u41_50, u41_51, u41_54, u41_57, u41_58, u41_59, u41_62, u41_65, u41_66, u41_69, u41_70, u41_73, u41_74, u41_77, u41_80, u41_81, u41_82, u41_124, u41_125, u41_128, u41_129, u41_132, u41_133, u41_136, u41_218, u41_219, u41_220, u41_223, u41_224, u41_227, u41_228, u41_230, u41_233, u41_234, u41_237, u41_238, u41_241, u41_242, u41_243, u41_246, u41_247, u41_248, u41_251, TC_4, TC_1, h1, TC_s3, nn_lt, q1', if_true, TC_41, e, c_isSmall, q2', c_isDigit, q3', bz_t, bz_f, nn_eq0, nn_eq, eq_self, not_true_eq_false, not_false_eq_true, q4, TC_s2, nI_add, TC_s4]
