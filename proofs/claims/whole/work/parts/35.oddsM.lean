/-! ODDS -/
theorem lNti {a : Nat} (h : a < 2 ^ 63) : (lN a).toInt = (a : Int) := lg_ofNat_toInt h
theorem lN_div {a b : Nat} (ha : a < 2 ^ 63) (hb : b < 2 ^ 63) : lN a / lN b = lN (a / b) := by
  have hq : a / b ≤ a := Nat.div_le_self _ _
  apply Int64.toInt_inj.mp
  rw [Int64.toInt_div, lNti ha, lNti hb, lNti (by omega)]
  have e : (a : Int).tdiv (b : Int) = ((a / b : Nat) : Int) := (Int.ofNat_tdiv a b).symm
  rw [e]
  generalize a / b = q at hq
  exact Int.bmod_eq_of_le (by omega) (by omega)
theorem lN_rem {a b : Nat} (ha : a < 2 ^ 63) (hb : b < 2 ^ 63) : lN a - lN a / lN b * lN b = lN (a % b) := by
  rw [lN_div ha hb, lN_mul, lN_sub (Nat.div_mul_le_self a b)]
  congr 1
  have := Nat.div_add_mod a b
  rw [Nat.mul_comm] at this
  omega
theorem lN_ne0 {b : Nat} (hb : b < 2 ^ 63) (h : b ≠ 0) : ¬ lN b = 0 := by
  intro e
  have e1 : (lN b).toInt = (0 : Int64).toInt := by rw [e]
  rw [lNti hb] at e1
  have e2 : (b : Int) = 0 := e1
  omega
theorem gcd_st (a : Nat) {b : Nat} (h : b ≠ 0) : Nat.gcd b (a % b) = Nat.gcd a b := by
  rw [Nat.gcd_comm a b, Nat.gcd_rec b a, Nat.gcd_comm]
def opML (f : Nat) (args : List Value) (r : Int64 × Gs) (w : Wd) : Prop := ∃ w', CALL f (.ref 44 :: args) w = some ([.long r.1], w') ∧ M r.2 w' ∧ fM w w'
theorem odds_gcd {x0 x1 x2 : Option Value} {k3 k5 : Option Int64} {w : Wd} : ∀ (n a b : Nat) (x11 : Option Int64), b < n → a < 2 ^ 63 → b < 2 ^ 63 → ∃ x11' : Option Int64, RUN 166 99 [x0, x1, x2, none, none, none, none, none, none, none, none, none, none] [none, none, none, k3, none, k5, none, some (lN a), none, some (lN b), none, x11, none] [] w = RUN 166 124 [x0, x1, x2, none, none, none, none, none, none, none, none, none, none] [none, none, none, k3, none, k5, none, some (lN (Nat.gcd a b)), none, some (lN 0), none, x11', none] [] w := by
  intro n
  induction n with
  | zero => intro a b x11 h; omega
  | succ n ih =>
    intro a b x11 h ha hb
    by_cases h0 : b = 0
    · subst h0
      refine ⟨x11, ?_⟩
      have e0 : lg_cmp (lN 0) 0 = 0 := by decide
      rw [u166_99]
      simp (disch := first | omega | decide | exact nI0_01 | exact nI1_01 | exact bz_01 _) only [Option.bind_some, List.cons_append, List.nil_append, Nat.reduceAdd, Nat.reduceMul, Nat.reduceLeDiff, Nat.reduceEqDiff, ↓reduceIte, u166_101, u166_102, u166_103, u166_106, u166_108, u166_110, u166_111, u166_113, u166_115, u166_117, u166_119, u166_121, e0, if_true, Nat.gcd_zero_right]
    · have hl := Nat.mod_lt a (show b > 0 by omega)
      obtain ⟨x11', h1⟩ := ih b (a % b) (some (lN (a % b))) (by omega) hb (by omega)
      refine ⟨x11', ?_⟩
      have hn := lN_ne0 hb h0
      have hc : ¬ lg_cmp (lN b) 0 = 0 := fun z => hn ((lg_cmp_eq _ _).mp z)
      rw [u166_99]
      simp (disch := first | omega | decide | exact nI0_01 | exact nI1_01 | exact bz_01 _) only [Option.bind_some, List.cons_append, List.nil_append, Nat.reduceAdd, Nat.reduceMul, Nat.reduceLeDiff, Nat.reduceEqDiff, ↓reduceIte, u166_101, u166_102, u166_103, u166_106, u166_108, u166_110, u166_111, u166_113, u166_115, u166_117, u166_119, u166_121, hc, if_false, hn, not_false_eq_true, lN_rem ha hb]
      rw [gcd_st a h0] at h1
      exact h1
def prd (A : Gs) (v : Nat) : Nat → Nat → Nat → Nat
  | 0, _, x => x
  | m + 1, p, x => prd A v m (p + 1) (x * A 1 (dg v p))
def pw (J : Nat) : Nat → Nat → Nat
  | 0, y => y
  | m + 1, y => pw J m (y * J)
theorem sm_le {f : Nat → Nat} {B : Nat} : ∀ m a, (∀ k, a ≤ k → k < a + m → f k ≤ B) → sm f m a ≤ m * B
  | 0, _, _ => by simp [sm]
  | m + 1, a, h => by
    have h1 := h a (by omega) (by omega)
    have h2 := sm_le m (a + 1) (fun k hk hk2 => h k (by omega) (by omega))
    rw [sm, Nat.add_mul]
    omega
theorem jar_le {A : Gs} (hI : Iv A) : sm (A 1) 10 0 ≤ 9990 := sm_le 10 0 (fun k _ hk => hI.2.1 k (by omega))
theorem prd_lt {A : Gs} (hI : Iv A) (v : Nat) : prd A v 4 0 1 < 2 ^ 63 := by
  have h : ∀ p, A 1 (dg v p) ≤ 999 := fun p => hI.2.1 _ (dg_lt _ _)
  simp only [prd]
  have e1 : 1 * A 1 (dg v 0) ≤ 999 := by have := h 0; omega
  have e2 := Nat.mul_le_mul e1 (h (0 + 1))
  have e3 := Nat.mul_le_mul e2 (h (0 + 1 + 1))
  have e4 := Nat.mul_le_mul e3 (h (0 + 1 + 1 + 1))
  exact Nat.lt_of_le_of_lt e4 (by decide)
theorem pw_lt {J : Nat} (hJ : J ≤ 9990) : pw J 4 1 < 2 ^ 63 := by
  simp only [pw]
  have e1 : 1 * J ≤ 9990 := by omega
  have e2 := Nat.mul_le_mul e1 hJ
  have e3 := Nat.mul_le_mul e2 hJ
  have e4 := Nat.mul_le_mul e3 hJ
  exact Nat.lt_of_le_of_lt e4 (by decide)
theorem i64_nI {a : Nat} (h : a < 2147483648) : (nI a).toInt64 = lN a := nI_l64 h
theorem odds_loop {c v : Nat} {w : Wd} {A : Gs} (hI : Iv A) (hv : v < 10000) : ∀ (m p x y : Nat), m + p = 4 → RUN 166 53 [some (.ref 44), some (.int (nI v)), some (.int (nI c)), none, none, none, none, some (.int (nI p)), none, none, none, none, none] [none, none, none, some (lN x), none, some (lN y), none, none, none, none, none, none, none] [] (putS w A) = RUN 166 92 [some (.ref 44), some (.int (nI v)), some (.int (nI c)), none, none, none, none, some (.int (nI 4)), none, none, none, none, none] [none, none, none, some (lN (prd A v m p x)), none, some (lN (pw (sm (A 1) 10 0) m y)), none, none, none, none, none, none, none] [] (putS w A) := by
  have hJ := jar_le hI
  intro m
  induction m with
  | zero =>
    intro p x y hm
    have e : p = 4 := by omega
    subst e
    rw [u166_53]
    simp (disch := first | omega | decide | exact nI0_01 | exact nI1_01 | exact bz_01 _) only [Option.bind_some, List.cons_append, List.nil_append, Nat.reduceAdd, Nat.reduceMul, Nat.reduceLeDiff, Nat.reduceEqDiff, ↓reduceIte, u166_55, u166_56, u166_59, u166_60, u166_61, u166_64, u166_65, u166_66, u166_68, u166_71, u166_72, u166_73, u166_74, u166_75, u166_76, u166_78, u166_79, u166_82, u166_83, u166_84, u166_86, u166_89, nn_le, Nat.le_refl, if_true]
    rfl
  | succ m ih =>
    intro p x y hm
    have h1 : ¬ 4 ≤ p := by omega
    have hl := dg_lt v p
    have hj := hI.2.1 _ hl
    rw [u166_53]
    simp (disch := first | omega | decide | exact nI0_01 | exact nI1_01 | exact bz_01 _) only [Option.bind_some, List.cons_append, List.nil_append, Nat.reduceAdd, Nat.reduceMul, Nat.reduceLeDiff, Nat.reduceEqDiff, ↓reduceIte, u166_55, u166_56, u166_59, u166_60, u166_61, u166_64, u166_65, u166_66, u166_68, u166_71, u166_72, u166_73, u166_74, u166_75, u166_76, u166_78, u166_79, u166_82, u166_83, u166_84, u166_86, u166_89, nn_le, h1, if_false, x_digit, nI_add, putS_1, i64_nI, lN_mul, x_jarAll]
    exact ih (p + 1) _ _ (by omega)
def odv (A : Gs) (v c : Nat) : Nat := if c = 0 then prd A v 4 0 1 / Nat.gcd (pw (sm (A 1) 10 0) 4 1) (prd A v 4 0 1) else pw (sm (A 1) 10 0) 4 1 / Nat.gcd (pw (sm (A 1) 10 0) 4 1) (prd A v 4 0 1)
def o_odds (A : Gs) (x y : Int32) : Int64 × Gs := if ok x 9999 = true ∧ ok y 1 = true then (if sm (A 1) 10 0 = 0 then ((lo 4).toInt64, fnd A 4) else (lN (odv A (ix x) (ix y)), A)) else ((lo 0).toInt64, fnd A 0)
theorem pw_pos {J : Nat} (h : J ≠ 0) : 0 < pw J 4 1 := by
  have hp : 0 < J := by omega
  simp only [pw]
  exact Nat.mul_pos (Nat.mul_pos (Nat.mul_pos (by omega) hp) hp) hp
theorem opML_bad {A : Gs} {w : Wd} {f k : Nat} {args : List Value} (h : M A w) (hk : k < 7) (e : CALL f (.ref 44 :: args) w = some ([.long (lo k).toInt64], fndM w k)) : opML f args ((lo k).toInt64, fnd A k) w := ⟨_, e, M_fnd h hk, (fM.rf w).fd k⟩
theorem m_odds {A : Gs} {w : Wd} {x y : Int32} (h : M A (putS w A)) (hI : Iv A) : opML 166 [.int x, .int y] (o_odds A x y) (putS w A) := by
  have hJ := jar_le hI
  unfold o_odds
  rcases ok_case x 9999 (by omega) with ⟨v, hv, rfl, ev, iv⟩ | ev
  · rcases ok_case y 1 (by omega) with ⟨c, hc, rfl, ec, ic⟩ | ec
    · rw [if_pos ⟨ev, ec⟩, iv, ic]
      by_cases h0 : sm (A 1) 10 0 = 0
      · rw [if_pos h0]
        refine opML_bad h (by omega) ?_
        simp (disch := first | omega | decide | exact nI0_01 | exact nI1_01 | exact bz_01 _) only [Option.bind_some, List.cons_append, List.nil_append, Nat.reduceAdd, Nat.reduceMul, Nat.reduceLeDiff, Nat.reduceEqDiff, ↓reduceIte, u166_0, u166_1, u166_2, u166_3, u166_6, u166_9, u166_12, u166_13, u166_14, u166_15, u166_16, u166_19, u166_22, u166_23, u166_25, u166_28, u166_29, u166_30, u166_31, u166_34, u166_37, u166_38, u166_40, u166_43, u166_44, u166_45, u166_46, u166_47, u166_48, u166_50, u166_51, n166, xin_1, xin_2, xin_3, xin_4, xin_5, xin_6, xin_7, xin_9, xin_20, xin_40, xin_99, xin_100, xin_999, xin_9999, xin_1_60, xin_1_20, xin_1_4, xin_2_4, xin_v, ev, ec, bz_t, bz_f, nn_eq0, nn_eq, eq_self, not_true_eq_false, not_false_eq_true, x_jarAll, h0, x_f4]
      · rw [if_neg h0]
        refine ⟨putS w A, ?_, h, fM.rf _⟩
        have ha := prd_lt hI v
        have hb := pw_lt hJ
        have hp := pw_pos h0
        have hL := odds_loop (c := c) (w := w) hI (show v < 10000 by omega) 4 0 1 1 rfl
        obtain ⟨x11', hG⟩ := odds_gcd (x0 := some (.ref 44)) (x1 := some (.int (nI v))) (x2 := some (.int (nI c))) (k3 := some (lN (prd A v 4 0 1))) (k5 := some (lN (pw (sm (A 1) 10 0) 4 1))) (w := putS w A) _ (pw (sm (A 1) 10 0) 4 1) (prd A v 4 0 1) none (Nat.lt_succ_self _) hb ha
        have hg := Nat.gcd_le_left (prd A v 4 0 1) hp
        have hg0 : Nat.gcd (pw (sm (A 1) 10 0) 4 1) (prd A v 4 0 1) ≠ 0 := fun z => by
          have := Nat.eq_zero_of_gcd_eq_zero_left z
          omega
        have hn := lN_ne0 (Nat.lt_of_le_of_lt hg hb) hg0
        have d1 := lN_div ha (Nat.lt_of_le_of_lt hg hb)
        have d2 := lN_div hb (Nat.lt_of_le_of_lt hg hb)
        have hJ0 : ¬ sm (A 1) 10 0 = 0 := h0
        have l1 : (lN 1 : Int64) = 1 := rfl
        rw [l1] at hL
        simp (disch := first | omega | decide | exact nI0_01 | exact nI1_01 | exact bz_01 _) only [Option.bind_some, List.cons_append, List.nil_append, Nat.reduceAdd, Nat.reduceMul, Nat.reduceLeDiff, Nat.reduceEqDiff, ↓reduceIte, u166_0, u166_1, u166_2, u166_3, u166_6, u166_9, u166_12, u166_13, u166_14, u166_15, u166_16, u166_19, u166_22, u166_23, u166_25, u166_28, u166_29, u166_30, u166_31, u166_34, u166_37, u166_38, u166_40, u166_43, u166_44, u166_45, u166_46, u166_47, u166_48, u166_50, u166_51, n166, xin_1, xin_2, xin_3, xin_4, xin_5, xin_6, xin_7, xin_9, xin_20, xin_40, xin_99, xin_100, xin_999, xin_9999, xin_1_60, xin_1_20, xin_1_4, xin_2_4, xin_v, ev, ec, bz_t, bz_f, nn_eq0, nn_eq, eq_self, not_true_eq_false, not_false_eq_true, x_jarAll, hJ0, if_true]
        rw [hL]
        simp (disch := first | omega | decide | exact nI0_01 | exact nI1_01 | exact bz_01 _) only [Option.bind_some, List.cons_append, List.nil_append, Nat.reduceAdd, Nat.reduceMul, Nat.reduceLeDiff, Nat.reduceEqDiff, ↓reduceIte, u166_92, u166_94, u166_96, u166_97]
        rw [hG]
        unfold odv
        rcases (by omega : c = 0 ∨ c = 1) with rfl | rfl
        · simp (disch := first | omega | decide | exact nI0_01 | exact nI1_01 | exact bz_01 _) only [Option.bind_some, List.cons_append, List.nil_append, Nat.reduceAdd, Nat.reduceMul, Nat.reduceLeDiff, Nat.reduceEqDiff, ↓reduceIte, u166_124, u166_125, u166_128, u166_129, u166_131, u166_132, u166_135, u166_137, u166_139, u166_140, bz_t, bz_f, nn_eq0, nn_eq, eq_self, not_true_eq_false, not_false_eq_true, hn, not_false_eq_true, d1]
        · simp (disch := first | omega | decide | exact nI0_01 | exact nI1_01 | exact bz_01 _) only [Option.bind_some, List.cons_append, List.nil_append, Nat.reduceAdd, Nat.reduceMul, Nat.reduceLeDiff, Nat.reduceEqDiff, ↓reduceIte, u166_124, u166_125, u166_128, u166_129, u166_131, u166_132, u166_135, u166_137, u166_139, u166_140, bz_t, bz_f, nn_eq0, nn_eq, eq_self, not_true_eq_false, not_false_eq_true, hn, not_false_eq_true, d2]
    · rw [if_neg (by simp [ec])]
      refine opML_bad h (by omega) ?_
      simp (disch := first | omega | decide | exact nI0_01 | exact nI1_01 | exact bz_01 _) only [Option.bind_some, List.cons_append, List.nil_append, Nat.reduceAdd, Nat.reduceMul, Nat.reduceLeDiff, Nat.reduceEqDiff, ↓reduceIte, u166_0, u166_1, u166_2, u166_3, u166_6, u166_9, u166_12, u166_13, u166_14, u166_15, u166_16, u166_19, u166_22, u166_23, u166_25, u166_28, u166_29, u166_30, u166_31, u166_34, u166_37, u166_38, u166_40, u166_43, u166_44, u166_45, u166_46, u166_47, u166_48, u166_50, u166_51, n166, xin_1, xin_2, xin_3, xin_4, xin_5, xin_6, xin_7, xin_9, xin_20, xin_40, xin_99, xin_100, xin_999, xin_9999, xin_1_60, xin_1_20, xin_1_4, xin_2_4, xin_v, ev, ec, bz_t, bz_f, nn_eq0, nn_eq, eq_self, not_true_eq_false, not_false_eq_true, x_f0]
  · rw [if_neg (by simp [ev])]
    refine opML_bad h (by omega) ?_
    simp (disch := first | omega | decide | exact nI0_01 | exact nI1_01 | exact bz_01 _) only [Option.bind_some, List.cons_append, List.nil_append, Nat.reduceAdd, Nat.reduceMul, Nat.reduceLeDiff, Nat.reduceEqDiff, ↓reduceIte, u166_0, u166_1, u166_2, u166_3, u166_6, u166_9, u166_12, u166_13, u166_14, u166_15, u166_16, u166_19, u166_22, u166_23, u166_25, u166_28, u166_29, u166_30, u166_31, u166_34, u166_37, u166_38, u166_40, u166_43, u166_44, u166_45, u166_46, u166_47, u166_48, u166_50, u166_51, n166, xin_1, xin_2, xin_3, xin_4, xin_5, xin_6, xin_7, xin_9, xin_20, xin_40, xin_99, xin_100, xin_999, xin_9999, xin_1_60, xin_1_20, xin_1_4, xin_2_4, xin_v, ev, bz_t, bz_f, nn_eq0, nn_eq, eq_self, not_true_eq_false, not_false_eq_true, x_f0]
