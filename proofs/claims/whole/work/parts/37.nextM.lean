theorem bt_in {n : Nat} {B : Nat → Nat} {i : Nat} (h : i < n) : bt n B i = nI (B i) := if_pos h
theorem bt_out {n : Nat} {B : Nat → Nat} {i : Nat} (h : n ≤ i) : bt n B i = -1 := if_neg (by omega)
theorem m1_ne32 : ¬ (-1 : Int32) = nI 32 := by decide
theorem m1_nge : ¬ (0 : Int32) ≤ -1 := by decide
theorem skip_loop {w : Wd} {n : Nat} {B : Nat → Nat} (hE : Env w n B) {k to v : Nat} {fa : Int32} {G : Gs} {x1 : Option Value} : ∀ (m fr : Nat), m + fr = n → RUN 173 8 [some (.ref 44), x1] [] [] (putS (TW w k fr to v fa) G) = RUN 173 34 [some (.ref 44), x1] [] [] (putS (TW w k (sk B m fr) to v fa) G) := by
  have hn := hE.2.2.1
  intro m
  induction m with
  | zero =>
    intro fr hm
    have hb := bt_out (B := B) (show n ≤ fr by omega)
    rw [u173_8]
    simp (disch := first | omega | decide | exact nI0_01 | exact nI1_01 | exact bz_01 _) only [Option.bind_some, List.cons_append, List.nil_append, Nat.reduceAdd, Nat.reduceMul, Nat.reduceLeDiff, Nat.reduceEqDiff, ↓reduceIte, u173_9, u173_10, u173_13, u173_16, u173_18, u173_21, u173_22, u173_23, u173_26, u173_27, u173_28, u173_31, TW_12, x_byteAt hE, hb, m1_ne32, not_false_eq_true, if_true]
    rfl
  | succ m ih =>
    intro fr hm
    have hb := bt_in (B := B) (show fr < n by omega)
    have hB := hE.2.2.2 fr (by omega)
    rw [u173_8, sk]
    by_cases h : B fr = 32
    · simp (disch := first | omega | decide | exact nI0_01 | exact nI1_01 | exact bz_01 _) only [Option.bind_some, List.cons_append, List.nil_append, Nat.reduceAdd, Nat.reduceMul, Nat.reduceLeDiff, Nat.reduceEqDiff, ↓reduceIte, u173_9, u173_10, u173_13, u173_16, u173_18, u173_21, u173_22, u173_23, u173_26, u173_27, u173_28, u173_31, TW_12, x_byteAt hE, hb, nn_eq, h, not_true_eq_false, nI_add, TW_s12, if_true]
      exact ih (fr + 1) (by omega)
    · simp (disch := first | omega | decide | exact nI0_01 | exact nI1_01 | exact bz_01 _) only [Option.bind_some, List.cons_append, List.nil_append, Nat.reduceAdd, Nat.reduceMul, Nat.reduceLeDiff, Nat.reduceEqDiff, ↓reduceIte, u173_9, u173_10, u173_13, u173_16, u173_18, u173_21, u173_22, u173_23, u173_26, u173_27, u173_28, u173_31, TW_12, x_byteAt hE, hb, nn_eq, h, not_false_eq_true, if_true, if_false]
theorem lett_loop {w : Wd} {n : Nat} {B : Nat → Nat} (hE : Env w n B) {fr v : Nat} {fa : Int32} {G : Gs} {x1 : Option Value} : ∀ (m to : Nat), m + to = n → RUN 173 101 [some (.ref 44), x1] [] [] (putS (TW w 1 fr to v fa) G) = RUN 173 136 [some (.ref 44), x1] [] [] (putS (TW w 1 fr (rl B m to) v fa) G) := by
  have hn := hE.2.2.1
  intro m
  induction m with
  | zero =>
    intro to hm
    have hb := bt_out (B := B) (show n ≤ to by omega)
    rw [u173_101]
    simp (disch := first | omega | decide | exact nI0_01 | exact nI1_01 | exact bz_01 _) only [Option.bind_some, List.cons_append, List.nil_append, Nat.reduceAdd, Nat.reduceMul, Nat.reduceLeDiff, Nat.reduceEqDiff, ↓reduceIte, u173_102, u173_105, u173_106, u173_109, u173_110, u173_111, u173_114, u173_117, u173_120, u173_123, u173_124, u173_125, u173_128, u173_129, u173_130, u173_133, TW_11, TW_13, x_byteAt hE, hb, x_isLetter1, bz_t, bz_f, nn_eq0, nn_eq, eq_self, not_true_eq_false, not_false_eq_true]
    rfl
  | succ m ih =>
    intro to hm
    have hb := bt_in (B := B) (show to < n by omega)
    have hB := hE.2.2.2 to (by omega)
    rw [u173_101, rl]
    cases h : ltr (B to) with
    | true =>
      simp (disch := first | omega | decide | exact nI0_01 | exact nI1_01 | exact bz_01 _) only [Option.bind_some, List.cons_append, List.nil_append, Nat.reduceAdd, Nat.reduceMul, Nat.reduceLeDiff, Nat.reduceEqDiff, ↓reduceIte, u173_102, u173_105, u173_106, u173_109, u173_110, u173_111, u173_114, u173_117, u173_120, u173_123, u173_124, u173_125, u173_128, u173_129, u173_130, u173_133, TW_11, TW_13, x_byteAt hE, hb, x_isLetterB, h, bz_t, bz_f, nn_eq0, nn_eq, eq_self, not_true_eq_false, not_false_eq_true, nI_add, TW_s13]
      exact ih (to + 1) (by omega)
    | false =>
      simp (disch := first | omega | decide | exact nI0_01 | exact nI1_01 | exact bz_01 _) only [Option.bind_some, List.cons_append, List.nil_append, Nat.reduceAdd, Nat.reduceMul, Nat.reduceLeDiff, Nat.reduceEqDiff, ↓reduceIte, u173_102, u173_105, u173_106, u173_109, u173_110, u173_111, u173_114, u173_117, u173_120, u173_123, u173_124, u173_125, u173_128, u173_129, u173_130, u173_133, TW_11, TW_13, x_byteAt hE, hb, x_isLetterB, h, bz_t, bz_f, nn_eq0, nn_eq, eq_self, not_true_eq_false, not_false_eq_true, Bool.false_eq_true]
/-- the reference's value of a token -/
def vok (v vm : Nat) : Prop := v = vm ∧ v < 10000 ∨ v = 10000 ∧ 9999 < vm ∧ vm ≤ 99999
theorem digi_loop {w : Wd} {n : Nat} {B : Nat → Nat} (hE : Env w n B) {fr : Nat} {fa : Int32} {G : Gs} {x1 : Option Value} : ∀ (m to v vm : Nat), m + to = n → vok v vm → ∃ vm', vok (vl B m to v) vm' ∧ RUN 173 136 [some (.ref 44), x1] [] [] (putS (TW w 2 fr to vm fa) G) = RUN 173 211 [some (.ref 44), x1] [] [] (putS (TW w 2 fr (rd B m to) vm' fa) G) := by
  have hn := hE.2.2.1
  intro m
  induction m with
  | zero =>
    intro to v vm hm hv
    refine ⟨vm, hv, ?_⟩
    have hb := bt_out (B := B) (show n ≤ to by omega)
    rw [u173_136]
    simp (disch := first | omega | decide | exact nI0_01 | exact nI1_01 | exact bz_01 _) only [Option.bind_some, List.cons_append, List.nil_append, Nat.reduceAdd, Nat.reduceMul, Nat.reduceLeDiff, Nat.reduceEqDiff, ↓reduceIte, u173_137, u173_140, u173_141, u173_144, u173_145, u173_146, u173_149, u173_152, u173_155, u173_158, u173_159, u173_160, u173_163, u173_166, u173_169, u173_170, u173_173, u173_176, u173_178, u173_179, u173_182, u173_183, u173_184, u173_185, u173_188, u173_191, u173_192, u173_194, u173_195, u173_198, u173_199, u173_200, u173_203, u173_204, u173_205, u173_208, TW_11, TW_13, x_byteAt hE, hb, x_isDigit1, bz_t, bz_f, nn_eq0, nn_eq, eq_self, not_true_eq_false, not_false_eq_true]
    rfl
  | succ m ih =>
    intro to v vm hm hv
    have hb := bt_in (B := B) (show to < n by omega)
    have hB := hE.2.2.2 to (by omega)
    cases h : dgt (B to) with
    | true =>
      have hd : 48 ≤ B to ∧ B to ≤ 57 := of_decide_eq_true h
      by_cases hbig : vm ≤ 9999
      · have hv2 : v = vm := by rcases hv with q | q <;> omega
        have hbig' : ¬ 9999 < vm := by omega
        obtain ⟨vm', h1, h2⟩ := ih (to + 1) (min 10000 (10 * v + (B to - 48))) (10 * vm + (B to - 48)) (by omega) (by unfold vok; omega)
        refine ⟨vm', by rw [vl, if_pos h]; exact h1, ?_⟩
        have e : nI (10 * vm + B to) - nI 48 = nI (10 * vm + (B to - 48)) := by rw [nn_sub (by omega)]; congr 1; omega
        have hle : ¬ 48 > 10 * vm + B to := by omega
        rw [u173_136, rd, if_pos h]
        simp (disch := first | omega | decide | exact nI0_01 | exact nI1_01 | exact bz_01 _) only [Option.bind_some, List.cons_append, List.nil_append, Nat.reduceAdd, Nat.reduceMul, Nat.reduceLeDiff, Nat.reduceEqDiff, ↓reduceIte, u173_137, u173_140, u173_141, u173_144, u173_145, u173_146, u173_149, u173_152, u173_155, u173_158, u173_159, u173_160, u173_163, u173_166, u173_169, u173_170, u173_173, u173_176, u173_178, u173_179, u173_182, u173_183, u173_184, u173_185, u173_188, u173_191, u173_192, u173_194, u173_195, u173_198, u173_199, u173_200, u173_203, u173_204, u173_205, u173_208, TW_11, TW_13, TW_14, x_byteAt hE, hb, x_isDigitB, h, bz_t, bz_f, nn_eq0, nn_eq, eq_self, not_true_eq_false, not_false_eq_true, nn_le, hbig, hbig', nn_lt, if_true, if_false, pk_mul, nI_add, e, TW_s14, TW_s13]
        exact h2
      · have hv2 : v = 10000 ∧ vm ≤ 99999 := by rcases hv with q | q <;> omega
        obtain ⟨vm', h1, h2⟩ := ih (to + 1) (min 10000 (10 * v + (B to - 48))) vm (by omega) (by unfold vok; omega)
        refine ⟨vm', by rw [vl, if_pos h]; exact h1, ?_⟩
        have hbig' : 9999 < vm := by omega
        rw [u173_136, rd, if_pos h]
        simp (disch := first | omega | decide | exact nI0_01 | exact nI1_01 | exact bz_01 _) only [Option.bind_some, List.cons_append, List.nil_append, Nat.reduceAdd, Nat.reduceMul, Nat.reduceLeDiff, Nat.reduceEqDiff, ↓reduceIte, u173_137, u173_140, u173_141, u173_144, u173_145, u173_146, u173_149, u173_152, u173_155, u173_158, u173_159, u173_160, u173_163, u173_166, u173_169, u173_170, u173_173, u173_176, u173_178, u173_179, u173_182, u173_183, u173_184, u173_185, u173_188, u173_191, u173_192, u173_194, u173_195, u173_198, u173_199, u173_200, u173_203, u173_204, u173_205, u173_208, TW_11, TW_13, TW_14, x_byteAt hE, hb, x_isDigitB, h, bz_t, bz_f, nn_eq0, nn_eq, eq_self, not_true_eq_false, not_false_eq_true, nn_le, hbig, hbig', nn_lt, if_true, if_false, nI_add, TW_s14, TW_s13]
        exact h2
    | false =>
      refine ⟨vm, by rw [vl, h]; exact hv, ?_⟩
      rw [u173_136, rd]
      simp (disch := first | omega | decide | exact nI0_01 | exact nI1_01 | exact bz_01 _) only [Option.bind_some, List.cons_append, List.nil_append, Nat.reduceAdd, Nat.reduceMul, Nat.reduceLeDiff, Nat.reduceEqDiff, ↓reduceIte, u173_137, u173_140, u173_141, u173_144, u173_145, u173_146, u173_149, u173_152, u173_155, u173_158, u173_159, u173_160, u173_163, u173_166, u173_169, u173_170, u173_173, u173_176, u173_178, u173_179, u173_182, u173_183, u173_184, u173_185, u173_188, u173_191, u173_192, u173_194, u173_195, u173_198, u173_199, u173_200, u173_203, u173_204, u173_205, u173_208, TW_11, TW_13, x_byteAt hE, hb, x_isDigitB, h, bz_t, bz_f, nn_eq0, nn_eq, eq_self, not_true_eq_false, not_false_eq_true, Bool.false_eq_true, if_false]
theorem x_nextToken {w : Wd} {n : Nat} {B : Nat → Nat} (hE : Env w n B) {k fr to v : Nat} {fa : Int32} {G : Gs} (ht : to ≤ n) : ∃ vm, vok (tok n B to).2.2.2 vm ∧ CALL 173 [.ref 44] (putS (TW w k fr to v fa) G) = some ([], putS (TW w (tok n B to).1 (tok n B to).2.1 (tok n B to).2.2.1 vm fa) G) := by
  have hn := hE.2.2.1
  have h1 := sk_in B (n - to) to
  have hs := fun (k v : Nat) => skip_loop hE (k := k) (to := to) (v := v) (fa := fa) (G := G) (x1 := none) (n - to) to (by omega)
  have st : CALL 173 [.ref 44] (putS (TW w k fr to v fa) G) = RUN 173 34 [some (.ref 44), none] [] [] (putS (TW w k (sk B (n - to) to) to v fa) G) := by
    simp (disch := first | omega | decide | exact nI0_01 | exact nI1_01 | exact bz_01 _) only [Option.bind_some, List.cons_append, List.nil_append, Nat.reduceAdd, Nat.reduceMul, Nat.reduceLeDiff, Nat.reduceEqDiff, ↓reduceIte, u173_0, u173_1, u173_2, u173_5, n173, TW_13, TW_s12]
    exact hs k v
  rw [st]
  unfold tok
  generalize sk B (n - to) to = q at h1 ⊢
  have v0 : vok 0 0 := Or.inl ⟨rfl, by omega⟩
  by_cases q1 : n ≤ q
  · simp only [if_pos q1]
    refine ⟨0, v0, ?_⟩
    have hb := bt_out (B := B) q1
    simp (disch := first | omega | decide | exact nI0_01 | exact nI1_01 | exact bz_01 _) only [Option.bind_some, List.cons_append, List.nil_append, Nat.reduceAdd, Nat.reduceMul, Nat.reduceLeDiff, Nat.reduceEqDiff, ↓reduceIte, u173_34, u173_35, u173_36, u173_39, u173_42, u173_43, u173_44, u173_47, u173_50, u173_51, u173_52, u173_53, u173_56, u173_57, u173_60, u173_61, u173_64, u173_67, u173_68, u173_71, u173_72, u173_75, u173_78, u173_79, u173_82, u173_83, u173_85, u173_88, u173_89, u173_92, u173_93, u173_96, u173_97, u173_98, TW_12, TW_s13, x_byteAt hE, hb, m1_nge, if_false, TW_s11, TW_s14]
    rw [u173_101]
    simp (disch := first | omega | decide | exact nI0_01 | exact nI1_01 | exact bz_01 _) only [Option.bind_some, List.cons_append, List.nil_append, Nat.reduceAdd, Nat.reduceMul, Nat.reduceLeDiff, Nat.reduceEqDiff, ↓reduceIte, u173_102, u173_105, u173_106, u173_109, u173_110, u173_111, u173_114, u173_117, u173_120, u173_123, u173_124, u173_125, u173_128, u173_129, u173_130, u173_133, TW_11, bz_t, bz_f, nn_eq0, nn_eq, eq_self, not_true_eq_false, not_false_eq_true]
    rw [u173_136]
    simp (disch := first | omega | decide | exact nI0_01 | exact nI1_01 | exact bz_01 _) only [Option.bind_some, List.cons_append, List.nil_append, Nat.reduceAdd, Nat.reduceMul, Nat.reduceLeDiff, Nat.reduceEqDiff, ↓reduceIte, u173_137, u173_140, u173_141, u173_144, u173_145, u173_146, u173_149, u173_152, u173_155, u173_158, u173_159, u173_160, u173_163, u173_166, u173_169, u173_170, u173_173, u173_176, u173_178, u173_179, u173_182, u173_183, u173_184, u173_185, u173_188, u173_191, u173_192, u173_194, u173_195, u173_198, u173_199, u173_200, u173_203, u173_204, u173_205, u173_208, u173_211, u173_212, u173_213, u173_216, u173_217, u173_220, u173_221, u173_224, u173_225, u173_228, u173_229, u173_230, u173_233, TW_11, TW_13, bz_t, bz_f, nn_eq0, nn_eq, eq_self, not_true_eq_false, not_false_eq_true, nn_le, nI_add, Nat.add_zero, TW_s13]
  · simp only [if_neg q1]
    have hb := bt_in (B := B) (show q < n by omega)
    have hB := hE.2.2.2 q (by omega)
    have hlt : q < 2147483648 := by omega
    by_cases q2 : ltr (B q) = true
    · simp only [if_pos q2]
      refine ⟨0, v0, ?_⟩
      have hl := lett_loop hE (fr := q) (v := 0) (fa := fa) (G := G) (x1 := some (.int (nI (B q)))) (n - q) q (by omega)
      simp (disch := first | omega | decide | exact nI0_01 | exact nI1_01 | exact bz_01 _) only [Option.bind_some, List.cons_append, List.nil_append, Nat.reduceAdd, Nat.reduceMul, Nat.reduceLeDiff, Nat.reduceEqDiff, ↓reduceIte, u173_34, u173_35, u173_36, u173_39, u173_42, u173_43, u173_44, u173_47, u173_50, u173_51, u173_52, u173_53, u173_56, u173_57, u173_60, u173_61, u173_64, u173_67, u173_68, u173_71, u173_72, u173_75, u173_78, u173_79, u173_82, u173_83, u173_85, u173_88, u173_89, u173_92, u173_93, u173_96, u173_97, u173_98, TW_12, TW_s13, x_byteAt hE, hb, nn_ge0, x_isLetterB, q2, bz_t, bz_f, nn_eq0, nn_eq, eq_self, not_true_eq_false, not_false_eq_true, TW_s11, TW_s14]
      rw [hl, u173_136]
      simp (disch := first | omega | decide | exact nI0_01 | exact nI1_01 | exact bz_01 _) only [Option.bind_some, List.cons_append, List.nil_append, Nat.reduceAdd, Nat.reduceMul, Nat.reduceLeDiff, Nat.reduceEqDiff, ↓reduceIte, u173_137, u173_140, u173_141, u173_144, u173_145, u173_146, u173_149, u173_152, u173_155, u173_158, u173_159, u173_160, u173_163, u173_166, u173_169, u173_170, u173_173, u173_176, u173_178, u173_179, u173_182, u173_183, u173_184, u173_185, u173_188, u173_191, u173_192, u173_194, u173_195, u173_198, u173_199, u173_200, u173_203, u173_204, u173_205, u173_208, u173_211, u173_212, u173_213, u173_216, u173_217, u173_220, u173_221, u173_224, u173_225, u173_228, u173_229, u173_230, u173_233, TW_11, TW_13, bz_t, bz_f, nn_eq0, nn_eq, eq_self, not_true_eq_false, not_false_eq_true, nn_le, nI_add, Nat.add_zero, TW_s13]
    · simp only [if_neg q2]
      have q2' : ltr (B q) = false := by cases h : ltr (B q) with | true => exact absurd h q2 | false => rfl
      by_cases q3 : dgt (B q) = true
      · simp only [if_pos q3]
        obtain ⟨vm, h5, h6⟩ := digi_loop hE (fr := q) (fa := fa) (G := G) (x1 := some (.int (nI (B q)))) (n - q) q 0 0 (by omega) v0
        refine ⟨vm, h5, ?_⟩
        simp (disch := first | omega | decide | exact nI0_01 | exact nI1_01 | exact bz_01 _) only [Option.bind_some, List.cons_append, List.nil_append, Nat.reduceAdd, Nat.reduceMul, Nat.reduceLeDiff, Nat.reduceEqDiff, ↓reduceIte, u173_34, u173_35, u173_36, u173_39, u173_42, u173_43, u173_44, u173_47, u173_50, u173_51, u173_52, u173_53, u173_56, u173_57, u173_60, u173_61, u173_64, u173_67, u173_68, u173_71, u173_72, u173_75, u173_78, u173_79, u173_82, u173_83, u173_85, u173_88, u173_89, u173_92, u173_93, u173_96, u173_97, u173_98, TW_12, TW_s13, x_byteAt hE, hb, nn_ge0, x_isLetterB, q2', x_isDigitB, q3, bz_t, bz_f, nn_eq0, nn_eq, eq_self, not_true_eq_false, not_false_eq_true, TW_s11, TW_s14]
        rw [u173_101]
        simp (disch := first | omega | decide | exact nI0_01 | exact nI1_01 | exact bz_01 _) only [Option.bind_some, List.cons_append, List.nil_append, Nat.reduceAdd, Nat.reduceMul, Nat.reduceLeDiff, Nat.reduceEqDiff, ↓reduceIte, u173_102, u173_105, u173_106, u173_109, u173_110, u173_111, u173_114, u173_117, u173_120, u173_123, u173_124, u173_125, u173_128, u173_129, u173_130, u173_133, TW_11, bz_t, bz_f, nn_eq0, nn_eq, eq_self, not_true_eq_false, not_false_eq_true]
        rw [h6]
        simp (disch := first | omega | decide | exact nI0_01 | exact nI1_01 | exact bz_01 _) only [Option.bind_some, List.cons_append, List.nil_append, Nat.reduceAdd, Nat.reduceMul, Nat.reduceLeDiff, Nat.reduceEqDiff, ↓reduceIte, u173_211, u173_212, u173_213, u173_216, u173_217, u173_220, u173_221, u173_224, u173_225, u173_228, u173_229, u173_230, u173_233, TW_11, TW_13, bz_t, bz_f, nn_eq0, nn_eq, eq_self, not_true_eq_false, not_false_eq_true, nn_le, nI_add, Nat.add_zero, TW_s13]
      · simp only [if_neg q3]
        have q3' : dgt (B q) = false := by cases h : dgt (B q) with | true => exact absurd h q3 | false => rfl
        by_cases q4 : B q = 59
        · simp only [if_pos q4]
          refine ⟨0, v0, ?_⟩
          have l59 : ltr 59 = false := by decide
          have d59 : dgt 59 = false := by decide
          simp (disch := first | omega | decide | exact nI0_01 | exact nI1_01 | exact bz_01 _) only [Option.bind_some, List.cons_append, List.nil_append, Nat.reduceAdd, Nat.reduceMul, Nat.reduceLeDiff, Nat.reduceEqDiff, ↓reduceIte, u173_34, u173_35, u173_36, u173_39, u173_42, u173_43, u173_44, u173_47, u173_50, u173_51, u173_52, u173_53, u173_56, u173_57, u173_60, u173_61, u173_64, u173_67, u173_68, u173_71, u173_72, u173_75, u173_78, u173_79, u173_82, u173_83, u173_85, u173_88, u173_89, u173_92, u173_93, u173_96, u173_97, u173_98, TW_12, TW_s13, x_byteAt hE, hb, nn_ge0, x_isLetterB, q2', l59, d59, x_isDigitB, q3', q4, bz_t, bz_f, nn_eq0, nn_eq, eq_self, not_true_eq_false, not_false_eq_true, TW_s11, TW_s14]
          rw [u173_101]
          simp (disch := first | omega | decide | exact nI0_01 | exact nI1_01 | exact bz_01 _) only [Option.bind_some, List.cons_append, List.nil_append, Nat.reduceAdd, Nat.reduceMul, Nat.reduceLeDiff, Nat.reduceEqDiff, ↓reduceIte, u173_102, u173_105, u173_106, u173_109, u173_110, u173_111, u173_114, u173_117, u173_120, u173_123, u173_124, u173_125, u173_128, u173_129, u173_130, u173_133, TW_11, bz_t, bz_f, nn_eq0, nn_eq, eq_self, not_true_eq_false, not_false_eq_true]
          rw [u173_136]
          simp (disch := first | omega | decide | exact nI0_01 | exact nI1_01 | exact bz_01 _) only [Option.bind_some, List.cons_append, List.nil_append, Nat.reduceAdd, Nat.reduceMul, Nat.reduceLeDiff, Nat.reduceEqDiff, ↓reduceIte, u173_137, u173_140, u173_141, u173_144, u173_145, u173_146, u173_149, u173_152, u173_155, u173_158, u173_159, u173_160, u173_163, u173_166, u173_169, u173_170, u173_173, u173_176, u173_178, u173_179, u173_182, u173_183, u173_184, u173_185, u173_188, u173_191, u173_192, u173_194, u173_195, u173_198, u173_199, u173_200, u173_203, u173_204, u173_205, u173_208, u173_211, u173_212, u173_213, u173_216, u173_217, u173_220, u173_221, u173_224, u173_225, u173_228, u173_229, u173_230, u173_233, TW_11, TW_13, bz_t, bz_f, nn_eq0, nn_eq, eq_self, not_true_eq_false, not_false_eq_true, nn_le, nI_add, TW_s13]
        · simp only [if_neg q4]
          refine ⟨0, v0, ?_⟩
          simp (disch := first | omega | decide | exact nI0_01 | exact nI1_01 | exact bz_01 _) only [Option.bind_some, List.cons_append, List.nil_append, Nat.reduceAdd, Nat.reduceMul, Nat.reduceLeDiff, Nat.reduceEqDiff, ↓reduceIte, u173_34, u173_35, u173_36, u173_39, u173_42, u173_43, u173_44, u173_47, u173_50, u173_51, u173_52, u173_53, u173_56, u173_57, u173_60, u173_61, u173_64, u173_67, u173_68, u173_71, u173_72, u173_75, u173_78, u173_79, u173_82, u173_83, u173_85, u173_88, u173_89, u173_92, u173_93, u173_96, u173_97, u173_98, TW_12, TW_s13, x_byteAt hE, hb, nn_ge0, x_isLetterB, q2', x_isDigitB, q3', q4, bz_t, bz_f, nn_eq0, nn_eq, eq_self, not_true_eq_false, not_false_eq_true, TW_s11, TW_s14]
          rw [u173_101]
          simp (disch := first | omega | decide | exact nI0_01 | exact nI1_01 | exact bz_01 _) only [Option.bind_some, List.cons_append, List.nil_append, Nat.reduceAdd, Nat.reduceMul, Nat.reduceLeDiff, Nat.reduceEqDiff, ↓reduceIte, u173_102, u173_105, u173_106, u173_109, u173_110, u173_111, u173_114, u173_117, u173_120, u173_123, u173_124, u173_125, u173_128, u173_129, u173_130, u173_133, TW_11, bz_t, bz_f, nn_eq0, nn_eq, eq_self, not_true_eq_false, not_false_eq_true]
          rw [u173_136]
          simp (disch := first | omega | decide | exact nI0_01 | exact nI1_01 | exact bz_01 _) only [Option.bind_some, List.cons_append, List.nil_append, Nat.reduceAdd, Nat.reduceMul, Nat.reduceLeDiff, Nat.reduceEqDiff, ↓reduceIte, u173_137, u173_140, u173_141, u173_144, u173_145, u173_146, u173_149, u173_152, u173_155, u173_158, u173_159, u173_160, u173_163, u173_166, u173_169, u173_170, u173_173, u173_176, u173_178, u173_179, u173_182, u173_183, u173_184, u173_185, u173_188, u173_191, u173_192, u173_194, u173_195, u173_198, u173_199, u173_200, u173_203, u173_204, u173_205, u173_208, u173_211, u173_212, u173_213, u173_216, u173_217, u173_220, u173_221, u173_224, u173_225, u173_228, u173_229, u173_230, u173_233, TW_11, TW_13, bz_t, bz_f, nn_eq0, nn_eq, eq_self, not_true_eq_false, not_false_eq_true, nn_le, nI_add, TW_s13]
