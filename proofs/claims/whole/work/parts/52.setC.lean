def ush (x : Int32) (k : Nat) : Int32 := (x.toUInt32 >>> ((nI k).toUInt32 &&& Int32.toUInt32 31)).toInt32
def bc1 (x : Int32) : Int32 := x - (ush x 1 &&& nI 1431655765)
def bc2 (x : Int32) : Int32 := (bc1 x &&& nI 858993459) + (ush (bc1 x) 2 &&& nI 858993459)
def bc3 (x : Int32) : Int32 := (bc2 x + ush (bc2 x) 4) &&& nI 252645135
def bc4 (x : Int32) : Int32 := bc3 x + ush (bc3 x) 8
def bc5 (x : Int32) : Int32 := (bc4 x + ush (bc4 x) 16) &&& nI 63
theorem bc_pop : ∀ n, n < 1024 → bc5 (nI n) = nI (pop n) := by decide +kernel
theorem c_bits {n : Nat} {w : Wd} (hn : n < 1024) : CALL 203 [.int (nI n)] w = some ([.int (nI (pop n))], w) := by
  rw [← bc_pop n hn]
  simp (disch := first | omega | decide | assumption | exact nI0_01 | exact nI1_01 | exact bz_01 _ | exact rf1 | exact rf11 | exact rf21) only [Option.bind_some, List.cons_append, List.nil_append, Nat.reduceAdd, Nat.reduceMul, Nat.reduceLeDiff, Nat.reduceEqDiff, ↓reduceIte, n203, u203_0, u203_1, u203_2, u203_3, u203_4, u203_7, u203_8, u203_9, u203_10, u203_11, u203_14, u203_15, u203_16, u203_17, u203_18, u203_21, u203_22, u203_23, u203_24, u203_25, u203_26, u203_27, u203_28, u203_29, u203_32, u203_33, u203_34, u203_35, u203_36, u203_38, u203_39, u203_40, u203_41, u203_42, u203_43, u203_45, u203_46, u203_47, u203_48, u203_49, u203_51, u203_52]
  rfl
theorem k_fishOf {A : Gs} {w : Wd} {x y : Int32} (h : C A (putR w 1 A)) (hI : Iv A) : opC 47 [.int x, .int y] (o_fishOf A x y) (putR w 1 A) := by
  unfold o_fishOf
  rcases ok_case x 5 (by omega) with ⟨k, hk, rfl, ek, ik⟩ | ek
  · try simp only [ik]
    rcases ok_case y 2 (by omega) with ⟨m, hm, rfl, em, im⟩ | em
    · try simp only [im]
      rw [if_pos (by simp [ek, em])]
      refine opC_get h ?_
      have hb := hI.2.2.1 k (by omega)
      have hl := ltS_lt (A 2 k)
      rcases (by omega : m = 0 ∨ m = 1 ∨ m = 2) with rfl | rfl | rfl
      · simp (disch := first | omega | decide | assumption | exact nI0_01 | exact nI1_01 | exact bz_01 _ | exact rf1 | exact rf11 | exact rf21) only [Option.bind_some, List.cons_append, List.nil_append, Nat.reduceAdd, Nat.reduceMul, Nat.reduceLeDiff, Nat.reduceEqDiff, ↓reduceIte, n47, u47_0, u47_1, u47_4, u47_7, u47_8, u47_9, u47_12, u47_15, u47_16, u47_17, u47_20, u47_21, u47_22, u47_25, u47_26, u47_29, u47_32, u47_33, u47_34, u47_35, u47_36, u47_37, u47_40, u47_41, u47_44, u47_47, u47_48, u47_49, u47_52, u47_53, u47_56, u47_59, u47_60, u47_61, u47_64, u47_67, c_isFish, c_within, ek, em, bz_t, bz_f, nn_eq0, nn_eq, eq_self, not_true_eq_false, not_false_eq_true, J_2]
      · simp (disch := first | omega | decide | assumption | exact nI0_01 | exact nI1_01 | exact bz_01 _ | exact rf1 | exact rf11 | exact rf21) only [Option.bind_some, List.cons_append, List.nil_append, Nat.reduceAdd, Nat.reduceMul, Nat.reduceLeDiff, Nat.reduceEqDiff, ↓reduceIte, n47, u47_0, u47_1, u47_4, u47_7, u47_8, u47_9, u47_12, u47_15, u47_16, u47_17, u47_20, u47_21, u47_22, u47_25, u47_26, u47_29, u47_32, u47_33, u47_34, u47_35, u47_36, u47_37, u47_40, u47_41, u47_44, u47_47, u47_48, u47_49, u47_52, u47_53, u47_56, u47_59, u47_60, u47_61, u47_64, u47_67, c_isFish, c_within, ek, em, bz_t, bz_f, nn_eq0, nn_eq, eq_self, not_true_eq_false, not_false_eq_true, J_3]
      · simp (disch := first | omega | decide | assumption | exact nI0_01 | exact nI1_01 | exact bz_01 _ | exact rf1 | exact rf11 | exact rf21) only [Option.bind_some, List.cons_append, List.nil_append, Nat.reduceAdd, Nat.reduceMul, Nat.reduceLeDiff, Nat.reduceEqDiff, ↓reduceIte, n47, u47_0, u47_1, u47_4, u47_7, u47_8, u47_9, u47_12, u47_15, u47_16, u47_17, u47_20, u47_21, u47_22, u47_25, u47_26, u47_29, u47_32, u47_33, u47_34, u47_35, u47_36, u47_37, u47_40, u47_41, u47_44, u47_47, u47_48, u47_49, u47_52, u47_53, u47_56, u47_59, u47_60, u47_61, u47_64, u47_67, c_isFish, c_within, ek, em, bz_t, bz_f, nn_eq0, nn_eq, eq_self, not_true_eq_false, not_false_eq_true, J_2, c_lettersOf, c_bits]
    · rw [if_neg (by simp [em])]
      refine opC_bad h (by omega) ?_
      simp (disch := first | omega | decide | assumption | exact nI0_01 | exact nI1_01 | exact bz_01 _ | exact rf1 | exact rf11 | exact rf21) only [Option.bind_some, List.cons_append, List.nil_append, Nat.reduceAdd, Nat.reduceMul, Nat.reduceLeDiff, Nat.reduceEqDiff, ↓reduceIte, n47, u47_0, u47_1, u47_4, u47_7, u47_8, u47_9, u47_12, u47_15, u47_16, u47_17, u47_20, u47_21, u47_22, u47_25, u47_26, u47_29, u47_32, u47_33, u47_34, u47_35, u47_36, u47_37, u47_40, u47_41, u47_44, u47_47, u47_48, u47_49, u47_52, u47_53, u47_56, u47_59, u47_60, u47_61, u47_64, u47_67, c_isFish, c_within, ek, em, bz_t, bz_f, nn_eq0, nn_eq, eq_self, not_true_eq_false, not_false_eq_true, c_finding]
  · rw [if_neg (by simp [ek])]
    refine opC_bad h (by omega) ?_
    simp (disch := first | omega | decide | assumption | exact nI0_01 | exact nI1_01 | exact bz_01 _ | exact rf1 | exact rf11 | exact rf21) only [Option.bind_some, List.cons_append, List.nil_append, Nat.reduceAdd, Nat.reduceMul, Nat.reduceLeDiff, Nat.reduceEqDiff, ↓reduceIte, n47, u47_0, u47_1, u47_4, u47_7, u47_8, u47_9, u47_12, u47_15, u47_16, u47_17, u47_20, u47_21, u47_22, u47_25, u47_26, u47_29, u47_32, u47_33, u47_34, u47_35, u47_36, u47_37, u47_40, u47_41, u47_44, u47_47, u47_48, u47_49, u47_52, u47_53, u47_56, u47_59, u47_60, u47_61, u47_64, u47_67, c_isFish, c_within, ek, bz_t, bz_f, nn_eq0, nn_eq, eq_self, not_true_eq_false, not_false_eq_true, c_finding]
theorem awP_f {Q : Nat → Bool} {a z s : Nat} (h : ¬ (pop s = z ∧ s / 2 ^ a % 2 = 0 ∧ Q s = true)) : awP Q a z s = false := by
  cases q : awP Q a z s with
  | false => rfl
  | true => exact absurd (awP_t.mp q) h
theorem ka_in {a v n z N : Nat} {A : Gs} (hI : Iv A) (ha : a < 8) (hv : v ≤ 9999) (hn : n ≤ 20) (hd : A 0 1 ≤ 40000) (hz : z ≤ 8) (hp : 2 ^ N ≤ 256) : ∀ (m s : Nat) (x6 : Option Value) (W : Wd), m + s = 2 ^ N → C A W → ∃ W', C A W' ∧ fC W W' ∧ RUN 65 62 [some (.ref 0), some (.int (nI a)), some (.int (nI v)), some (.int (nI n)), some (.int (nI (2 ^ N))), some (.int (nI z)), some (.int (nI s))] [] [] W = if ain (awP (awQ A a v n) a z) m s < 256 then some ([.int (nI (ain (awP (awQ A a v n) a z) m s))], W') else RUN 65 135 [some (.ref 0), some (.int (nI a)), some (.int (nI v)), some (.int (nI n)), some (.int (nI (2 ^ N))), some (.int (nI z)), some (.int (nI (2 ^ N)))] [] [] W' := by
  intro m
  induction m with
  | zero =>
    intro s x6 W hm hC
    have e : s = 2 ^ N := by omega
    refine ⟨W, hC, fC.rf W, ?_⟩
    have h1 : ¬ ain (awP (awQ A a v n) a z) 0 s < 256 := by rw [ain]; omega
    rw [if_neg h1, u65_62]
    simp (disch := first | omega | decide | assumption | exact nI0_01 | exact nI1_01 | exact bz_01 _ | exact rf1 | exact rf11 | exact rf21) only [Option.bind_some, List.cons_append, List.nil_append, Nat.reduceAdd, Nat.reduceMul, Nat.reduceLeDiff, Nat.reduceEqDiff, ↓reduceIte, u65_64, u65_66, u65_69, u65_71, u65_74, u65_76, u65_79, u65_81, u65_82, u65_83, u65_84, u65_85, u65_86, u65_89, u65_92, u65_93, u65_96, u65_97, u65_100, u65_103, u65_104, u65_107, u65_108, u65_110, u65_113, u65_114, u65_117, u65_120, u65_121, u65_122, u65_123, u65_126, u65_128, u65_129, u65_132, nn_le, e, Nat.le_refl, if_true]
  | succ m ih =>
    intro s x6 W hm hC
    have h1 : ¬ 2 ^ N ≤ s := by omega
    have hq : s / 2 ^ a ≤ s := Nat.div_le_self _ _
    have hps := pop_le s
    have sk : awP (awQ A a v n) a z s = false → ∀ W1, C A W1 → fC W W1 → RUN 65 62 [some (.ref 0), some (.int (nI a)), some (.int (nI v)), some (.int (nI n)), some (.int (nI (2 ^ N))), some (.int (nI z)), some (.int (nI s))] [] [] W = RUN 65 62 [some (.ref 0), some (.int (nI a)), some (.int (nI v)), some (.int (nI n)), some (.int (nI (2 ^ N))), some (.int (nI z)), some (.int (nI (s + 1)))] [] [] W1 → ∃ W', C A W' ∧ fC W W' ∧ RUN 65 62 [some (.ref 0), some (.int (nI a)), some (.int (nI v)), some (.int (nI n)), some (.int (nI (2 ^ N))), some (.int (nI z)), some (.int (nI s))] [] [] W = if ain (awP (awQ A a v n) a z) (m + 1) s < 256 then some ([.int (nI (ain (awP (awQ A a v n) a z) (m + 1) s))], W') else RUN 65 135 [some (.ref 0), some (.int (nI a)), some (.int (nI v)), some (.int (nI n)), some (.int (nI (2 ^ N))), some (.int (nI z)), some (.int (nI (2 ^ N)))] [] [] W' := fun hP W1 c1 c2 hr => by
      obtain ⟨W', g1, g2, g3⟩ := ih (s + 1) none W1 (by omega) c1
      refine ⟨W', g1, c2.tr g2, ?_⟩
      have ea : ain (awP (awQ A a v n) a z) (m + 1) s = ain (awP (awQ A a v n) a z) m (s + 1) := by rw [ain, hP]; rfl
      rw [ea, hr]
      exact g3
    by_cases h2 : pop s = z
    · by_cases h3 : s / 2 ^ a % 2 = 0
      · have h3' : ¬ s / 2 ^ a % 2 = 1 := by omega
        obtain ⟨u, t1, t2, t3⟩ := hC.trial
        have hw := (Iv.days s n hI).2.2.2.2 a ha
        by_cases h4 : v ≤ days s n A 8 a
        · have h4' : ¬ days s n A 8 a < v := by omega
          have hP : awP (awQ A a v n) a z s = true := awP_t.mpr ⟨h2, h3, decide_eq_true h4⟩
          have ea : ain (awP (awQ A a v n) a z) (m + 1) s = s := by rw [ain, hP]; rfl
          refine ⟨_, t2.tri (days s n A), t3.pR (show 11 ≤ 21 by omega) _, ?_⟩
          rw [ea, if_pos (by omega), u65_62]
          simp (disch := first | omega | decide | assumption | exact nI0_01 | exact nI1_01 | exact bz_01 _ | exact rf1 | exact rf11 | exact rf21) only [Option.bind_some, List.cons_append, List.nil_append, Nat.reduceAdd, Nat.reduceMul, Nat.reduceLeDiff, Nat.reduceEqDiff, ↓reduceIte, u65_64, u65_66, u65_69, u65_71, u65_74, u65_76, u65_79, u65_81, u65_82, u65_83, u65_84, u65_85, u65_86, u65_89, u65_92, u65_93, u65_96, u65_97, u65_100, u65_103, u65_104, u65_107, u65_108, u65_110, u65_113, u65_114, u65_117, u65_120, u65_121, u65_122, u65_123, u65_126, u65_128, u65_129, u65_132, nn_le, h1, if_false, c_bits, nn_eq, h2, not_true_eq_false, sh_r, h3', t1, c_passDays rf11 hI, T_8, nn_lt, h4', h4, not_false_eq_true, if_true]
        · have h4' : days s n A 8 a < v := by omega
          have hP : awP (awQ A a v n) a z s = false := awP_f (fun q => h4 (of_decide_eq_true q.2.2))
          refine sk hP _ (t2.tri (days s n A)) (t3.pR (show 11 ≤ 21 by omega) _) ?_
          rw [u65_62]
          simp (disch := first | omega | decide | assumption | exact nI0_01 | exact nI1_01 | exact bz_01 _ | exact rf1 | exact rf11 | exact rf21) only [Option.bind_some, List.cons_append, List.nil_append, Nat.reduceAdd, Nat.reduceMul, Nat.reduceLeDiff, Nat.reduceEqDiff, ↓reduceIte, u65_64, u65_66, u65_69, u65_71, u65_74, u65_76, u65_79, u65_81, u65_82, u65_83, u65_84, u65_85, u65_86, u65_89, u65_92, u65_93, u65_96, u65_97, u65_100, u65_103, u65_104, u65_107, u65_108, u65_110, u65_113, u65_114, u65_117, u65_120, u65_121, u65_122, u65_123, u65_126, u65_128, u65_129, u65_132, nn_le, h1, if_false, c_bits, nn_eq, h2, not_true_eq_false, sh_r, h3', t1, c_passDays rf11 hI, T_8, nn_lt, h4', h4, not_false_eq_true, if_true, nI_add]
      · have h3' : s / 2 ^ a % 2 = 1 := by omega
        have hP : awP (awQ A a v n) a z s = false := awP_f (fun q => h3 q.2.1)
        refine sk hP W hC (fC.rf W) ?_
        rw [u65_62]
        simp (disch := first | omega | decide | assumption | exact nI0_01 | exact nI1_01 | exact bz_01 _ | exact rf1 | exact rf11 | exact rf21) only [Option.bind_some, List.cons_append, List.nil_append, Nat.reduceAdd, Nat.reduceMul, Nat.reduceLeDiff, Nat.reduceEqDiff, ↓reduceIte, u65_64, u65_66, u65_69, u65_71, u65_74, u65_76, u65_79, u65_81, u65_82, u65_83, u65_84, u65_85, u65_86, u65_89, u65_92, u65_93, u65_96, u65_97, u65_100, u65_103, u65_104, u65_107, u65_108, u65_110, u65_113, u65_114, u65_117, u65_120, u65_121, u65_122, u65_123, u65_126, u65_128, u65_129, u65_132, nn_le, h1, if_false, c_bits, nn_eq, h2, not_true_eq_false, sh_r, h3', if_true, nI_add]
    · have hP : awP (awQ A a v n) a z s = false := awP_f (fun q => h2 q.1)
      refine sk hP W hC (fC.rf W) ?_
      rw [u65_62]
      simp (disch := first | omega | decide | assumption | exact nI0_01 | exact nI1_01 | exact bz_01 _ | exact rf1 | exact rf11 | exact rf21) only [Option.bind_some, List.cons_append, List.nil_append, Nat.reduceAdd, Nat.reduceMul, Nat.reduceLeDiff, Nat.reduceEqDiff, ↓reduceIte, u65_64, u65_66, u65_69, u65_71, u65_74, u65_76, u65_79, u65_81, u65_82, u65_83, u65_84, u65_85, u65_86, u65_89, u65_92, u65_93, u65_96, u65_97, u65_100, u65_103, u65_104, u65_107, u65_108, u65_110, u65_113, u65_114, u65_117, u65_120, u65_121, u65_122, u65_123, u65_126, u65_128, u65_129, u65_132, nn_le, h1, if_false, c_bits, nn_eq, h2, not_false_eq_true, if_true, nI_add]
theorem ka_out {a v n N : Nat} {A : Gs} (hI : Iv A) (hN : A 0 0 = N) (ha : a < 8) (hv : v ≤ 9999) (hn : n ≤ 20) (hd : A 0 1 ≤ 40000) : ∀ (m z : Nat) (x6 : Option Value) (W : Wd), m + z = N → C A W → ∃ W', RUN 65 47 [some (.ref 0), some (.int (nI a)), some (.int (nI v)), some (.int (nI n)), some (.int (nI (2 ^ N))), some (.int (nI z)), x6] [] [] W = some ([.int (if aout (awQ A a v n) a N m z < 256 then nI (aout (awQ A a v n) a N m z) else lo 3)], W') ∧ C (if aout (awQ A a v n) a N m z < 256 then A else fnd A 3) W' ∧ fC W W' := by
  have h8 : N ≤ 8 := by have := hI.1; omega
  have hp := pow_le8 h8
  intro m
  induction m with
  | zero =>
    intro z x6 W hm hC
    have e : z = N := by omega
    refine ⟨fndC W 3, ?_, ?_, (fC.rf W).fd 3⟩
    · have hr : W.1 1 9 = nI N := by rw [← hC.1, ← hN]; exact R_9
      have h1 : ¬ aout (awQ A a v n) a N 0 z < 256 := by rw [aout]; omega
      rw [if_neg h1, u65_47]
      simp (disch := first | omega | decide | assumption | exact nI0_01 | exact nI1_01 | exact bz_01 _ | exact rf1 | exact rf11 | exact rf21) only [Option.bind_some, List.cons_append, List.nil_append, Nat.reduceAdd, Nat.reduceMul, Nat.reduceLeDiff, Nat.reduceEqDiff, ↓reduceIte, u65_49, u65_50, u65_53, u65_56, u65_59, u65_60, u65_135, u65_138, u65_141, u65_142, u65_143, u65_146, hr, nn_le, e, Nat.le_refl, if_true, c_finding]
    · rw [aout, if_neg (by omega)]
      exact C_fnd hC (by omega)
  | succ m ih =>
    intro z x6 W hm hC
    have h1 : ¬ N ≤ z := by omega
    have hr : W.1 1 9 = nI N := by rw [← hC.1, ← hN]; exact R_9
    obtain ⟨W1, g1, g2, g3⟩ := ka_in (z := z) (N := N) hI ha hv hn hd (by omega) hp (2 ^ N) 0 none W (by omega) hC
    have st : RUN 65 47 [some (.ref 0), some (.int (nI a)), some (.int (nI v)), some (.int (nI n)), some (.int (nI (2 ^ N))), some (.int (nI z)), x6] [] [] W = RUN 65 62 [some (.ref 0), some (.int (nI a)), some (.int (nI v)), some (.int (nI n)), some (.int (nI (2 ^ N))), some (.int (nI z)), some (.int (nI 0))] [] [] W := by
      rw [u65_47]
      simp (disch := first | omega | decide | assumption | exact nI0_01 | exact nI1_01 | exact bz_01 _ | exact rf1 | exact rf11 | exact rf21) only [Option.bind_some, List.cons_append, List.nil_append, Nat.reduceAdd, Nat.reduceMul, Nat.reduceLeDiff, Nat.reduceEqDiff, ↓reduceIte, u65_49, u65_50, u65_53, u65_56, u65_59, u65_60, hr, nn_le, h1, if_false]
    rw [st, g3, aout]
    by_cases h2 : ain (awP (awQ A a v n) a z) (2 ^ N) 0 < 256
    · rw [if_pos h2, if_pos h2, if_pos h2, if_pos h2]
      exact ⟨W1, rfl, g1, g2⟩
    · rw [if_neg h2, if_neg h2]
      obtain ⟨W', f1, f2, f3⟩ := ih (z + 1) (some (.int (nI (2 ^ N)))) W1 (by omega) g1
      refine ⟨W', ?_, f2, g2.tr f3⟩
      simp (disch := first | omega | decide | assumption | exact nI0_01 | exact nI1_01 | exact bz_01 _ | exact rf1 | exact rf11 | exact rf21) only [Option.bind_some, List.cons_append, List.nil_append, Nat.reduceAdd, Nat.reduceMul, Nat.reduceLeDiff, Nat.reduceEqDiff, ↓reduceIte, u65_135, u65_138, u65_141, u65_142, u65_143, u65_146, nI_add]
      exact f1
theorem k_away {A : Gs} {w : Wd} {x v n : Int32} (h : C A w) (hI : Iv A) (hd : A 0 1 ≤ 40000) : opC 65 [.int x, .int v, .int n] (o_away A x v n) w := by
  have h0 := hI.1
  unfold o_away
  rcases isW_case A x hI.1 with ⟨k, nk, hk, rfl, ek, ik⟩ | ek
  · try simp only [ik]
    rcases ok_case v 9999 (by omega) with ⟨m, hm, rfl, em, im⟩ | em
    · try simp only [im]
      rcases ok_case n 20 (by omega) with ⟨j, hj, rfl, ej, ij⟩ | ej
      · try simp only [ij]
        rw [if_pos (by simp [ek, em, ej])]
        have hr : w.1 1 9 = nI (A 0 0) := by rw [← h.1]; exact R_9
        obtain ⟨W', f1, f2, f3⟩ := ka_out hI rfl hk hm hj hd (A 0 0) 0 none w (by omega) h
        rw [away_same (awQ A k m j) h0 nk] at f1 f2
        refine ⟨W', ?_, ?_, f3⟩
        · simp (disch := first | omega | decide | assumption | exact nI0_01 | exact nI1_01 | exact bz_01 _ | exact rf1 | exact rf11 | exact rf21) only [Option.bind_some, List.cons_append, List.nil_append, Nat.reduceAdd, Nat.reduceMul, Nat.reduceLeDiff, Nat.reduceEqDiff, ↓reduceIte, u65_0, u65_1, u65_2, u65_5, u65_8, u65_9, u65_12, u65_15, u65_18, u65_19, u65_21, u65_24, u65_27, u65_28, u65_29, u65_32, u65_33, u65_34, u65_35, u65_38, u65_41, u65_42, u65_44, u65_45, n65, h.isW hI, c_within, ek, em, ej, bz_t, bz_f, nn_eq0, nn_eq, eq_self, not_true_eq_false, not_false_eq_true, hr, shl_1]
          rw [f1]
          split <;> rfl
        · split
          · rename_i q; rw [if_pos q] at f2; exact f2
          · rename_i q; rw [if_neg q] at f2; exact f2
      · rw [if_neg (by simp [ej])]
        refine opC_bad h (by omega) ?_
        simp (disch := first | omega | decide | assumption | exact nI0_01 | exact nI1_01 | exact bz_01 _ | exact rf1 | exact rf11 | exact rf21) only [Option.bind_some, List.cons_append, List.nil_append, Nat.reduceAdd, Nat.reduceMul, Nat.reduceLeDiff, Nat.reduceEqDiff, ↓reduceIte, n65, u65_0, u65_1, u65_2, u65_5, u65_8, u65_9, u65_12, u65_15, u65_18, u65_19, u65_21, u65_24, u65_27, u65_28, u65_29, u65_32, u65_33, u65_34, u65_35, u65_38, u65_41, u65_42, u65_44, u65_45, u65_49, u65_50, u65_53, u65_56, u65_59, u65_60, u65_64, u65_66, u65_69, u65_71, u65_74, u65_76, u65_79, u65_81, u65_82, u65_83, u65_84, u65_85, u65_86, u65_89, u65_92, u65_93, u65_96, u65_97, u65_100, u65_103, u65_104, u65_107, u65_108, u65_110, u65_113, u65_114, u65_117, u65_120, u65_121, u65_122, u65_123, u65_126, u65_128, u65_129, u65_132, u65_135, u65_138, u65_141, u65_142, u65_143, u65_146, h.isW hI, c_within, ek, em, ej, bz_t, bz_f, nn_eq0, nn_eq, eq_self, not_true_eq_false, not_false_eq_true, c_finding]
    · rw [if_neg (by simp [em])]
      refine opC_bad h (by omega) ?_
      simp (disch := first | omega | decide | assumption | exact nI0_01 | exact nI1_01 | exact bz_01 _ | exact rf1 | exact rf11 | exact rf21) only [Option.bind_some, List.cons_append, List.nil_append, Nat.reduceAdd, Nat.reduceMul, Nat.reduceLeDiff, Nat.reduceEqDiff, ↓reduceIte, n65, u65_0, u65_1, u65_2, u65_5, u65_8, u65_9, u65_12, u65_15, u65_18, u65_19, u65_21, u65_24, u65_27, u65_28, u65_29, u65_32, u65_33, u65_34, u65_35, u65_38, u65_41, u65_42, u65_44, u65_45, u65_49, u65_50, u65_53, u65_56, u65_59, u65_60, u65_64, u65_66, u65_69, u65_71, u65_74, u65_76, u65_79, u65_81, u65_82, u65_83, u65_84, u65_85, u65_86, u65_89, u65_92, u65_93, u65_96, u65_97, u65_100, u65_103, u65_104, u65_107, u65_108, u65_110, u65_113, u65_114, u65_117, u65_120, u65_121, u65_122, u65_123, u65_126, u65_128, u65_129, u65_132, u65_135, u65_138, u65_141, u65_142, u65_143, u65_146, h.isW hI, c_within, ek, em, bz_t, bz_f, nn_eq0, nn_eq, eq_self, not_true_eq_false, not_false_eq_true, c_finding]
  · rw [if_neg (by simp [ek])]
    refine opC_bad h (by omega) ?_
    simp (disch := first | omega | decide | assumption | exact nI0_01 | exact nI1_01 | exact bz_01 _ | exact rf1 | exact rf11 | exact rf21) only [Option.bind_some, List.cons_append, List.nil_append, Nat.reduceAdd, Nat.reduceMul, Nat.reduceLeDiff, Nat.reduceEqDiff, ↓reduceIte, n65, u65_0, u65_1, u65_2, u65_5, u65_8, u65_9, u65_12, u65_15, u65_18, u65_19, u65_21, u65_24, u65_27, u65_28, u65_29, u65_32, u65_33, u65_34, u65_35, u65_38, u65_41, u65_42, u65_44, u65_45, u65_49, u65_50, u65_53, u65_56, u65_59, u65_60, u65_64, u65_66, u65_69, u65_71, u65_74, u65_76, u65_79, u65_81, u65_82, u65_83, u65_84, u65_85, u65_86, u65_89, u65_92, u65_93, u65_96, u65_97, u65_100, u65_103, u65_104, u65_107, u65_108, u65_110, u65_113, u65_114, u65_117, u65_120, u65_121, u65_122, u65_123, u65_126, u65_128, u65_129, u65_132, u65_135, u65_138, u65_141, u65_142, u65_143, u65_146, h.isW hI, c_within, ek, bz_t, bz_f, nn_eq0, nn_eq, eq_self, not_true_eq_false, not_false_eq_true, c_finding]
