theorem gc_loop {k0 k2 : Option Int64} {w : Wd} : ∀ (e i a b : Nat) (k9 : Option Int64), b < 2 ^ e → e ≤ 63 → a < 2 ^ 63 → i + 2 * e ≤ 198 → RUN 75 9 [none, none, none, none, none, none, none, none, some (.int (nI i)), none, none] [k0, none, k2, none, some (lN a), none, some (lN b), none, none, k9, none] [] w = some ([.long (lN (Nat.gcd a b))], w) := by
  have e0 : lg_cmp (lN 0) 0 = 0 := by decide
  have z0 : ∀ (i a : Nat) (k9 : Option Int64), i < 200 → RUN 75 9 [none, none, none, none, none, none, none, none, some (.int (nI i)), none, none] [k0, none, k2, none, some (lN a), none, some (lN 0), none, none, k9, none] [] w = some ([.long (lN a)], w) := fun i a k9 hi => by
    have h1 : ¬ 200 ≤ i := by omega
    rw [u75_9]
    simp (disch := first | omega | decide | assumption | exact nI0_01 | exact nI1_01 | exact bz_01 _ | exact rf1 | exact rf11 | exact rf21) only [Option.bind_some, List.cons_append, List.nil_append, Nat.reduceAdd, Nat.reduceMul, Nat.reduceLeDiff, Nat.reduceEqDiff, ↓reduceIte, n75, u75_0, u75_1, u75_3, u75_4, u75_6, u75_7, u75_11, u75_14, u75_17, u75_19, u75_20, u75_21, u75_24, u75_26, u75_28, u75_29, u75_31, u75_33, u75_35, u75_37, u75_39, u75_42, u75_45, u75_47, nn_le, h1, if_false, e0, if_true]
  have st : ∀ (i a b : Nat) (k9 : Option Int64), i < 200 → a < 2 ^ 63 → b < 2 ^ 63 → b ≠ 0 → RUN 75 9 [none, none, none, none, none, none, none, none, some (.int (nI i)), none, none] [k0, none, k2, none, some (lN a), none, some (lN b), none, none, k9, none] [] w = RUN 75 9 [none, none, none, none, none, none, none, none, some (.int (nI (i + 1))), none, none] [k0, none, k2, none, some (lN b), none, some (lN (a % b)), none, none, some (lN (a % b)), none] [] w := fun i a b k9 hi ha hb hb0 => by
    have h1 : ¬ 200 ≤ i := by omega
    have hn := lN_ne0 hb hb0
    have hc : ¬ lg_cmp (lN b) 0 = 0 := fun z => hn ((lg_cmp_eq _ _).mp z)
    rw [u75_9]
    simp (disch := first | omega | decide | assumption | exact nI0_01 | exact nI1_01 | exact bz_01 _ | exact rf1 | exact rf11 | exact rf21) only [Option.bind_some, List.cons_append, List.nil_append, Nat.reduceAdd, Nat.reduceMul, Nat.reduceLeDiff, Nat.reduceEqDiff, ↓reduceIte, n75, u75_0, u75_1, u75_3, u75_4, u75_6, u75_7, u75_11, u75_14, u75_17, u75_19, u75_20, u75_21, u75_24, u75_26, u75_28, u75_29, u75_31, u75_33, u75_35, u75_37, u75_39, u75_42, u75_45, u75_47, nn_le, h1, if_false, hc, hn, not_false_eq_true, lN_rem ha hb, nI_add]
  intro e
  induction e with
  | zero =>
    intro i a b k9 hb he ha hi
    have : b = 0 := by omega
    subst this
    rw [z0 i a k9 (by omega), Nat.gcd_zero_right]
  | succ e ih =>
    intro i a b k9 hb he ha hi
    have hb63 : b < 2 ^ 63 := Nat.lt_of_lt_of_le hb (Nat.pow_le_pow_right (by omega) he)
    by_cases h0 : b = 0
    · subst h0
      rw [z0 i a k9 (by omega), Nat.gcd_zero_right]
    · have hy := Nat.mod_lt a (show b > 0 by omega)
      rw [st i a b k9 (by omega) ha hb63 h0, ← gcd_st a h0]
      by_cases h1 : a % b = 0
      · rw [h1, z0 (i + 1) b _ (by omega), Nat.gcd_zero_right]
      · have hz := Nat.mod_lt b (show a % b > 0 by omega)
        have hle : b % (a % b) + a % b ≤ b := by
          have h2 := Nat.div_add_mod b (a % b)
          have h3 : 1 ≤ b / (a % b) := (Nat.le_div_iff_mul_le (by omega)).mpr (by omega)
          have h4 : a % b * 1 ≤ a % b * (b / (a % b)) := Nat.mul_le_mul_left _ h3
          omega
        rw [st (i + 1) b (a % b) _ (by omega) hb63 (by omega) h1, ← gcd_st b h1]
        refine ih (i + 1 + 1) (a % b) (b % (a % b)) _ ?_ (by omega) (by omega) (by omega)
        rw [Nat.pow_succ] at hb
        omega
