theorem gc_loop {k0 k2 : Option Int64} {w : Wd} : ∀ (e i a b : Nat) (k9 : Option Int64), b < 2 ^ e → e ≤ 63 → a < 2 ^ 63 → i + 2 * e ≤ 198 → RUN 75 9 [none, none, none, none, none, none, none, none, some (.int (nI i)), none, none] [k0, none, k2, none, some (lN a), none, some (lN b), none, none, k9, none] [] w = some ([.long (lN (Nat.gcd a b))], w) := by
  have e0 : lg_cmp (lN 0) 0 = 0 := by decide
  have z0 : ∀ (i a : Nat) (k9 : Option Int64), i < 200 → RUN 75 9 [none, none, none, none, none, none, none, none, some (.int (nI i)), none, none] [k0, none, k2, none, some (lN a), none, some (lN 0), none, none, k9, none] [] w = some ([.long (lN a)], w) := fun i a k9 hi => by
    have h1 : ¬ 200 ≤ i := by omega
    rw [u75_9]
    simp (disch := first | omega | decide | assumption | exact nI0_01 | exact nI1_01 | exact bz_01 _ | exact rf1 | exact rf11 | exact rf21) only [Option.bind_some, List.cons_append, List.nil_append, Nat.reduceAdd, Nat.reduceMul, Nat.reduceLeDiff, Nat.reduceEqDiff, ↓reduceIte, n75, u75_0, u75_1, u75_3, u75_4, u75_6, u75_7, u75_11, u75_14, u75_17, u75_19, u75_20, u75_21, u75_24, u75_26, u75_28, u75_29, u75_31, u75_33, u75_35, u75_37, u75_39, u75_42, u75_45, u75_47, nn_le, h1, if_false, e0, if_true]
  have st : ∀ (i a b : Nat) (k9 : Option Int64), i < 200 → a < 2 ^ 63 → b < 2 ^ 63 → b ≠ 0 → RUN 75 9 [none, none, none, none, none, none, none, none, some (.int (nI i)), none, none] [k0, none, k2, none, some (lN a), none, some (lN b), none, none, k9, none] [] w = RUN 75 9 [none, none, none, none, none, none, none, none, some (.int (nI (i + 1))), none, none] [k0, none, k2, none, some (lN b), none, some (lN (a % b)), none, none, some (lN (a % b)), none] [] w := fun i a b k9 hi ha hb hb0 => by
    have h1 : ¬ 200 ≤ i := by omega
    have hn := lN_ne0 hb hb0
    have hc : ¬ lg_cmp (lN b) 0 = 0 := fun z => hn ((lg_cmp_eq _ _).mp z)
    rw [u75_9]
    simp (disch := first | omega | decide | assumption | exact nI0_01 | exact nI1_01 | exact bz_01 _ | exact rf1 | exact rf11 | exact rf21) only [Option.bind_some, List.cons_append, List.nil_append, Nat.reduceAdd, Nat.reduceMul, Nat.reduceLeDiff, Nat.reduceEqDiff, ↓reduceIte, n75, u75_0, u75_1, u75_3, u75_4, u75_6, u75_7, u75_11, u75_14, u75_17, u75_19, u75_20, u75_21, u75_24, u75_26, u75_28, u75_29, u75_31, u75_33, u75_35, u75_37, u75_39, u75_42, u75_45, u75_47, nn_le, h1, if_false, hc, hn, not_false_eq_true, lN_rem ha hb, nI_add]
  intro e
  induction e with
  | zero =>
    intro i a b k9 hb he ha hi
    have : b = 0 := by omega
    subst this
    rw [z0 i a k9 (by omega), Nat.gcd_zero_right]
  | succ e ih =>
    intro i a b k9 hb he ha hi
    have hb63 : b < 2 ^ 63 := Nat.lt_of_lt_of_le hb (Nat.pow_le_pow_right (by omega) he)
    by_cases h0 : b = 0
    · subst h0
      rw [z0 i a k9 (by omega), Nat.gcd_zero_right]
    · have hy := Nat.mod_lt a (show b > 0 by omega)
      rw [st i a b k9 (by omega) ha hb63 h0, ← gcd_st a h0]
      by_cases h1 : a % b = 0
      · rw [h1, z0 (i + 1) b _ (by omega), Nat.gcd_zero_right]
      · have hz := Nat.mod_lt b (show a % b > 0 by omega)
        have hle : b % (a % b) + a % b ≤ b := by
          have h2 := Nat.div_add_mod b (a % b)
          have h3 : 1 ≤ b / (a % b) := (Nat.le_div_iff_mul_le (by omega)).mpr (by omega)
          have h4 : a % b * 1 ≤ a % b * (b / (a % b)) := Nat.mul_le_mul_left _ h3
          omega
        rw [st (i + 1) b (a % b) _ (by omega) hb63 (by omega) h1, ← gcd_st b h1]
        refine ih (i + 1 + 1) (a % b) (b % (a % b)) _ ?_ (by omega) (by omega) (by omega)
        rw [Nat.pow_succ] at hb
        omega
theorem c_gcd {a b : Nat} {w : Wd} (ha : a < 2 ^ 63) (hb : b < 2 ^ 63) : CALL 75 [.long (lN a), .long (lN b)] w = some ([.long (lN (Nat.gcd a b))], w) := by
  simp (disch := first | omega | decide | assumption | exact nI0_01 | exact nI1_01 | exact bz_01 _ | exact rf1 | exact rf11 | exact rf21) only [Option.bind_some, List.cons_append, List.nil_append, Nat.reduceAdd, Nat.reduceMul, Nat.reduceLeDiff, Nat.reduceEqDiff, ↓reduceIte, u75_0, u75_1, u75_3, u75_4, u75_6, u75_7, n75]
  exact gc_loop 63 0 a b none hb (by omega) ha (by omega)
def opCL (f : Nat) (args : List Value) (r : Int64 × Gs) (w : Wd) : Prop := ∃ w', CALL f (.ref 0 :: args) w = some ([.long r.1], w') ∧ C r.2 w' ∧ fC w w'
theorem opCL_bad {A : Gs} {w : Wd} {f k : Nat} {args : List Value} (h : C A w) (hk : k < 7) (e : CALL f (.ref 0 :: args) w = some ([.long (lo k).toInt64], fndC w k)) : opCL f args ((lo k).toInt64, fnd A k) w := ⟨_, e, C_fnd h hk, (fC.rf w).fd k⟩
theorem co_loop {c v J : Nat} {w : Wd} {A : Gs} (hI : Iv A) (hv : v < 10000) : ∀ (m p x y : Nat), m + p = 4 → RUN 74 56 [some (.ref 0), some (.int (nI v)), some (.int (nI c)), none, none, none, none, none, none, some (.int (nI p)), none] [none, none, none, some (lN J), none, some (lN x), none, some (lN y), none, none, none] [] (putR w 1 A) = RUN 74 94 [some (.ref 0), some (.int (nI v)), some (.int (nI c)), none, none, none, none, none, none, some (.int (nI 4)), none] [none, none, none, some (lN J), none, some (lN (prd A v m p x)), none, some (lN (pw J m y)), none, none, none] [] (putR w 1 A) := by
  intro m
  induction m with
  | zero =>
    intro p x y hm
    have e : p = 4 := by omega
    subst e
    rw [u74_56]
    simp (disch := first | omega | decide | assumption | exact nI0_01 | exact nI1_01 | exact bz_01 _ | exact rf1 | exact rf11 | exact rf21) only [Option.bind_some, List.cons_append, List.nil_append, Nat.reduceAdd, Nat.reduceMul, Nat.reduceLeDiff, Nat.reduceEqDiff, ↓reduceIte, u74_58, u74_59, u74_62, u74_64, u74_65, u74_68, u74_71, u74_72, u74_74, u74_77, u74_78, u74_79, u74_80, u74_82, u74_84, u74_85, u74_86, u74_88, u74_91, nn_le, Nat.le_refl, if_true]
    rfl
  | succ m ih =>
    intro p x y hm
    have h1 : ¬ 4 ≤ p := by omega
    have hl := dg_lt v p
    have hj := hI.2.1 _ hl
    rw [u74_56]
    simp (disch := first | omega | decide | assumption | exact nI0_01 | exact nI1_01 | exact bz_01 _ | exact rf1 | exact rf11 | exact rf21) only [Option.bind_some, List.cons_append, List.nil_append, Nat.reduceAdd, Nat.reduceMul, Nat.reduceLeDiff, Nat.reduceEqDiff, ↓reduceIte, u74_58, u74_59, u74_62, u74_64, u74_65, u74_68, u74_71, u74_72, u74_74, u74_77, u74_78, u74_79, u74_80, u74_82, u74_84, u74_85, u74_86, u74_88, u74_91, nn_le, h1, if_false, c_digit, nI_add, J_1, i64_nI, lN_mul]
    exact ih (p + 1) _ _ (by omega)
theorem k_odds {A : Gs} {w : Wd} {x y : Int32} (h : C A (putR w 1 A)) (hI : Iv A) : opCL 74 [.int x, .int y] (o_odds A x y) (putR w 1 A) := by
  have hJ := jar_le hI
  unfold o_odds
  rcases ok_case x 9999 (by omega) with ⟨v, hv, rfl, ev, iv⟩ | ev
  · rcases ok_case y 1 (by omega) with ⟨c, hc, rfl, ec, ic⟩ | ec
    · rw [if_pos ⟨ev, ec⟩, iv, ic]
      by_cases h0 : sm (A 1) 10 0 = 0
      · rw [if_pos h0]
        refine opCL_bad h (by omega) ?_
        have ez : lg_cmp (nI 0).toInt64 0 = 0 := by decide
        simp (disch := first | omega | decide | assumption | exact nI0_01 | exact nI1_01 | exact bz_01 _ | exact rf1 | exact rf11 | exact rf21) only [Option.bind_some, List.cons_append, List.nil_append, Nat.reduceAdd, Nat.reduceMul, Nat.reduceLeDiff, Nat.reduceEqDiff, ↓reduceIte, u74_0, u74_1, u74_4, u74_7, u74_10, u74_11, u74_12, u74_15, u74_18, u74_19, u74_20, u74_23, u74_24, u74_25, u74_26, u74_29, u74_32, u74_33, u74_34, u74_35, u74_36, u74_37, u74_40, u74_41, u74_42, u74_45, u74_46, u74_47, u74_48, u74_50, u74_51, u74_53, u74_54, n74, c_within, ev, ec, bz_t, bz_f, nn_eq0, nn_eq, eq_self, not_true_eq_false, not_false_eq_true, c_lettersInJar rf1, h0, ez, if_true, if_false, c_finding]
      · rw [if_neg h0]
        refine ⟨putR w 1 A, ?_, h, fC.rf _⟩
        have ha := prd_lt hI v
        have hb := pw_lt hJ
        have hp := pw_pos h0
        have hL := co_loop (c := c) (J := sm (A 1) 10 0) (w := w) hI (show v < 10000 by omega) 4 0 1 1 rfl
        have hg := Nat.gcd_le_left (prd A v 4 0 1) hp
        have hg0 : Nat.gcd (pw (sm (A 1) 10 0) 4 1) (prd A v 4 0 1) ≠ 0 := fun z => by
          have := Nat.eq_zero_of_gcd_eq_zero_left z
          omega
        have hgl := Nat.lt_of_le_of_lt hg hb
        have hn := lN_ne0 hgl hg0
        have d1 := lN_div ha hgl
        have d2 := lN_div hb hgl
        have hz : ¬ lg_cmp (lN (sm (A 1) 10 0)) 0 = 0 := fun z => lN_ne0 (by omega) h0 ((lg_cmp_eq _ _).mp z)
        have l1 : (lN 1 : Int64) = 1 := rfl
        have hmx : ¬ lN (Nat.gcd (pw (sm (A 1) 10 0) 4 1) (prd A v 4 0 1)) < 1 := by
          rw [Int64.lt_iff_toInt_lt, lNti hgl]
          show ¬ ((_ : Int) < 1)
          omega
        rw [l1] at hL
        simp (disch := first | omega | decide | assumption | exact nI0_01 | exact nI1_01 | exact bz_01 _ | exact rf1 | exact rf11 | exact rf21) only [Option.bind_some, List.cons_append, List.nil_append, Nat.reduceAdd, Nat.reduceMul, Nat.reduceLeDiff, Nat.reduceEqDiff, ↓reduceIte, u74_0, u74_1, u74_4, u74_7, u74_10, u74_11, u74_12, u74_15, u74_18, u74_19, u74_20, u74_23, u74_24, u74_25, u74_26, u74_29, u74_32, u74_33, u74_34, u74_35, u74_36, u74_37, u74_40, u74_41, u74_42, u74_45, u74_46, u74_47, u74_48, u74_50, u74_51, u74_53, u74_54, n74, c_within, ev, ec, bz_t, bz_f, nn_eq0, nn_eq, eq_self, not_true_eq_false, not_false_eq_true, c_lettersInJar rf1, i64_nI, hz, not_false_eq_true, if_true]
        rw [hL]
        unfold odv
        rcases (by omega : c = 0 ∨ c = 1) with rfl | rfl
        · simp (disch := first | omega | decide | assumption | exact nI0_01 | exact nI1_01 | exact bz_01 _ | exact rf1 | exact rf11 | exact rf21) only [Option.bind_some, List.cons_append, List.nil_append, Nat.reduceAdd, Nat.reduceMul, Nat.reduceLeDiff, Nat.reduceEqDiff, ↓reduceIte, u74_94, u74_95, u74_97, u74_99, u74_102, u74_105, u74_107, u74_108, u74_111, u74_113, u74_115, u74_116, u74_119, u74_121, u74_123, u74_124, c_gcd, hmx, if_false, bz_t, bz_f, nn_eq0, nn_eq, eq_self, not_true_eq_false, not_false_eq_true, hn, not_false_eq_true, d1]
        · simp (disch := first | omega | decide | assumption | exact nI0_01 | exact nI1_01 | exact bz_01 _ | exact rf1 | exact rf11 | exact rf21) only [Option.bind_some, List.cons_append, List.nil_append, Nat.reduceAdd, Nat.reduceMul, Nat.reduceLeDiff, Nat.reduceEqDiff, ↓reduceIte, u74_94, u74_95, u74_97, u74_99, u74_102, u74_105, u74_107, u74_108, u74_111, u74_113, u74_115, u74_116, u74_119, u74_121, u74_123, u74_124, c_gcd, hmx, if_false, bz_t, bz_f, nn_eq0, nn_eq, eq_self, not_true_eq_false, not_false_eq_true, hn, not_false_eq_true, d2]
    · rw [if_neg (by simp [ec])]
      refine opCL_bad h (by omega) ?_
      simp (disch := first | omega | decide | assumption | exact nI0_01 | exact nI1_01 | exact bz_01 _ | exact rf1 | exact rf11 | exact rf21) only [Option.bind_some, List.cons_append, List.nil_append, Nat.reduceAdd, Nat.reduceMul, Nat.reduceLeDiff, Nat.reduceEqDiff, ↓reduceIte, u74_0, u74_1, u74_4, u74_7, u74_10, u74_11, u74_12, u74_15, u74_18, u74_19, u74_20, u74_23, u74_24, u74_25, u74_26, u74_29, u74_32, u74_33, u74_34, u74_35, u74_36, u74_37, u74_40, u74_41, u74_42, u74_45, u74_46, u74_47, u74_48, u74_50, u74_51, u74_53, u74_54, n74, c_within, ev, ec, bz_t, bz_f, nn_eq0, nn_eq, eq_self, not_true_eq_false, not_false_eq_true, c_finding]
  · rw [if_neg (by simp [ev])]
    refine opCL_bad h (by omega) ?_
    simp (disch := first | omega | decide | assumption | exact nI0_01 | exact nI1_01 | exact bz_01 _ | exact rf1 | exact rf11 | exact rf21) only [Option.bind_some, List.cons_append, List.nil_append, Nat.reduceAdd, Nat.reduceMul, Nat.reduceLeDiff, Nat.reduceEqDiff, ↓reduceIte, u74_0, u74_1, u74_4, u74_7, u74_10, u74_11, u74_12, u74_15, u74_18, u74_19, u74_20, u74_23, u74_24, u74_25, u74_26, u74_29, u74_32, u74_33, u74_34, u74_35, u74_36, u74_37, u74_40, u74_41, u74_42, u74_45, u74_46, u74_47, u74_48, u74_50, u74_51, u74_53, u74_54, n74, c_within, ev, bz_t, bz_f, nn_eq0, nn_eq, eq_self, not_true_eq_false, not_false_eq_true, c_finding]
