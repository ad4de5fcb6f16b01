/-! WHO STAYS AWAY -/
def pop (n : Nat) : Nat := n % 2 + n / 2 % 2 + n / 4 % 2 + n / 8 % 2 + n / 16 % 2 + n / 32 % 2 + n / 64 % 2 + n / 128 % 2 + n / 256 % 2 + n / 512 % 2
theorem pop_step : ∀ l, l < 1024 → l = 0 ∨ (nI l &&& (nI l - nI 1)) = nI (l &&& (l - 1)) ∧ l &&& (l - 1) < l ∧ pop (l &&& (l - 1)) + 1 = pop l := by decide +kernel
theorem many_loop {x : Int32} {w : Wd} : ∀ (n l : Nat), l < n → l < 1024 → ∀ c, RUN 114 4 [some (.int x), some (.int (nI c)), some (.int (nI l))] [] [] w = some ([.int (nI (c + pop l))], w) := by
  intro n
  induction n with
  | zero => intro l h; omega
  | succ n ih =>
    intro l hl h1 c
    rcases pop_step l h1 with h0 | ⟨h2, h3, h4⟩
    · subst h0
      rw [u114_4]
      simp (disch := first | omega | decide | exact nI0_01 | exact nI1_01 | exact bz_01 _) only [Option.bind_some, List.cons_append, List.nil_append, Nat.reduceAdd, Nat.reduceMul, Nat.reduceLeDiff, Nat.reduceEqDiff, ↓reduceIte, n114, u114_0, u114_1, u114_2, u114_3, u114_5, u114_8, u114_11, u114_12, u114_13, u114_14, u114_15, u114_16, u114_17, u114_20, u114_21, bz_t, bz_f, nn_eq0, nn_eq, eq_self, not_true_eq_false, not_false_eq_true]
      rfl
    · have h0 : ¬ l = 0 := by omega
      rw [u114_4]
      simp (disch := first | omega | decide | exact nI0_01 | exact nI1_01 | exact bz_01 _) only [Option.bind_some, List.cons_append, List.nil_append, Nat.reduceAdd, Nat.reduceMul, Nat.reduceLeDiff, Nat.reduceEqDiff, ↓reduceIte, n114, u114_0, u114_1, u114_2, u114_3, u114_5, u114_8, u114_11, u114_12, u114_13, u114_14, u114_15, u114_16, u114_17, u114_20, u114_21, nn_eq0, h0, if_false, nI_add, h2]
      rw [ih _ (by omega) (by omega), Nat.add_assoc, Nat.add_comm 1, h4]
theorem x_many {n : Nat} {w : Wd} (hn : n < 1024) : CALL 114 [.int (nI n)] w = some ([.int (nI (pop n))], w) := by
  simp (disch := first | omega | decide | exact nI0_01 | exact nI1_01 | exact bz_01 _) only [Option.bind_some, List.cons_append, List.nil_append, Nat.reduceAdd, Nat.reduceMul, Nat.reduceLeDiff, Nat.reduceEqDiff, ↓reduceIte, n114, u114_0, u114_1, u114_2, u114_3, u114_5, u114_8, u114_11, u114_12, u114_13, u114_14, u114_15, u114_16, u114_17, u114_20, u114_21]
  rw [many_loop (n + 1) n (by omega) hn, Nat.zero_add]
def bI (b : Nat) : Int32 := if b < 256 then nI b else -1
def awQ (A : Gs) (a v n s : Nat) : Bool := decide (v ≤ days s n A 8 a)
/-- the best of the sets from s on: the fewest, and of these the least; 256: none -/
def awm (Q : Nat → Bool) (a : Nat) : Nat → Nat → Nat → Nat
  | 0, _, b => b
  | m + 1, s, b => awm Q a m (s + 1) (if s / 2 ^ a % 2 = 0 ∧ (256 ≤ b ∨ pop s < pop b) ∧ Q s = true then s else b)
theorem away_days {a v n s : Nat} {b : Int32} {w : Wd} (hs : s < 256) (hn : n ≤ 20) : ∀ (m k : Nat) (A : Gs), Iv A → m + k = n → A 0 1 ≤ 40000 + k → RUN 157 99 [some (.ref 44), some (.int (nI a)), some (.int (nI v)), some (.int (nI n)), some (.int b), some (.int (nI s)), some (.int (nI k))] [] [] (putS w A) = RUN 157 117 [some (.ref 44), some (.int (nI a)), some (.int (nI v)), some (.int (nI n)), some (.int b), some (.int (nI s)), some (.int (nI n))] [] [] (putS w (days s m A)) := by
  intro m
  induction m with
  | zero =>
    intro k A hI hm hd
    have e : k = n := by omega
    subst e
    rw [u157_99]
    simp (disch := first | omega | decide | exact nI0_01 | exact nI1_01 | exact bz_01 _) only [Option.bind_some, List.cons_append, List.nil_append, Nat.reduceAdd, Nat.reduceMul, Nat.reduceLeDiff, Nat.reduceEqDiff, ↓reduceIte, u157_101, u157_102, u157_105, u157_106, u157_108, u157_111, u157_114, nn_le, Nat.le_refl]
    rfl
  | succ m ih =>
    intro k A hI hm hd
    have h1 : ¬ n ≤ k := by omega
    rw [u157_99]
    simp (disch := first | omega | decide | exact nI0_01 | exact nI1_01 | exact bz_01 _) only [Option.bind_some, List.cons_append, List.nil_append, Nat.reduceAdd, Nat.reduceMul, Nat.reduceLeDiff, Nat.reduceEqDiff, ↓reduceIte, u157_101, u157_102, u157_105, u157_106, u157_108, u157_111, u157_114, nn_le, h1, if_false, x_dayBut hI, nI_add]
    exact ih (k + 1) (day s A) (hI.day s) (by omega) (by rw [day_01]; omega)
theorem away_try {a v n s : Nat} {b : Int32} {x6 : Option Value} {w : Wd} {A : Gs} (hI : Iv A) (hd : A 0 1 ≤ 40000) (ha : a < 8) (hv : v ≤ 9999) (hs : s < 256) (hn : n ≤ 20) : ∃ x6' : Option Value, RUN 157 96 [some (.ref 44), some (.int (nI a)), some (.int (nI v)), some (.int (nI n)), some (.int b), some (.int (nI s)), x6] [] [] (putS (putA w 48 A) A) = RUN 157 147 [some (.ref 44), some (.int (nI a)), some (.int (nI v)), some (.int (nI n)), some (.int (if awQ A a v n s = true then nI s else b)), some (.int (nI s)), x6'] [] [] (putS (putA w 48 A) A) := by
  have h1 := away_days (a := a) (v := v) (b := b) (w := putA w 48 A) hs hn n 0 A hI rfl (by omega)
  have hI2 := Iv.days s n hI
  have hw := hI2.2.2.2.2 a ha
  refine ⟨some (.int (nI n)), ?_⟩
  simp (disch := first | omega | decide | exact nI0_01 | exact nI1_01 | exact bz_01 _) only [Option.bind_some, List.cons_append, List.nil_append, Nat.reduceAdd, Nat.reduceMul, Nat.reduceLeDiff, Nat.reduceEqDiff, ↓reduceIte, u157_96, u157_97]
  rw [h1]
  unfold awQ
  by_cases h2 : v ≤ days s n A 8 a
  · have h3 : ¬ days s n A 8 a < v := by omega
    simp (disch := first | omega | decide | exact nI0_01 | exact nI1_01 | exact bz_01 _) only [Option.bind_some, List.cons_append, List.nil_append, Nat.reduceAdd, Nat.reduceMul, Nat.reduceLeDiff, Nat.reduceEqDiff, ↓reduceIte, u157_117, u157_118, u157_119, u157_120, u157_123, u157_124, u157_127, u157_129, u157_132, u157_134, u157_136, u157_137, u157_140, u157_141, u157_144, s_its, nn_lt, h3, if_false, x_backA, h2, decide_true, if_true]
  · have h3 : days s n A 8 a < v := by omega
    simp (disch := first | omega | decide | exact nI0_01 | exact nI1_01 | exact bz_01 _) only [Option.bind_some, List.cons_append, List.nil_append, Nat.reduceAdd, Nat.reduceMul, Nat.reduceLeDiff, Nat.reduceEqDiff, ↓reduceIte, u157_117, u157_118, u157_119, u157_120, u157_123, u157_124, u157_127, u157_129, u157_132, u157_134, u157_136, u157_137, u157_140, u157_141, u157_144, s_its, nn_lt, h3, if_true, x_backA, h2, decide_false, if_false, Bool.false_eq_true]
theorem shl_1 : ∀ n, n < 9 → nI 1 <<< (nI n &&& 31) = nI (2 ^ n) := by decide
theorem pow_le8 {n : Nat} (h : n ≤ 8) : 2 ^ n ≤ 256 := Nat.pow_le_pow_right (by omega) h
theorem pop_le (n : Nat) : pop n ≤ 10 := by unfold pop; omega
theorem away_loop {a v n : Nat} {w : Wd} {A : Gs} (hI : Iv A) (hd : A 0 1 ≤ 40000) (ha : a < 8) (hv : v ≤ 9999) (hn : n ≤ 20) : ∀ (m s b : Nat) (x6 : Option Value), m + s = 2 ^ A 0 0 → b ≤ 256 → ∃ (x5' x6' : Option Value), RUN 157 56 [some (.ref 44), some (.int (nI a)), some (.int (nI v)), some (.int (nI n)), some (.int (bI b)), some (.int (nI s)), x6] [] [] (putS (putA w 48 A) A) = RUN 157 153 [some (.ref 44), some (.int (nI a)), some (.int (nI v)), some (.int (nI n)), some (.int (bI (awm (awQ A a v n) a m s b))), x5', x6'] [] [] (putS (putA w 48 A) A) := by
  have hN := hI.1
  have hp := pow_le8 hN
  intro m
  induction m with
  | zero =>
    intro s b x6 hm hb
    have e : s = 2 ^ A 0 0 := by omega
    refine ⟨some (.int (nI s)), x6, ?_⟩
    rw [u157_56]
    simp (disch := first | omega | decide | exact nI0_01 | exact nI1_01 | exact bz_01 _) only [Option.bind_some, List.cons_append, List.nil_append, Nat.reduceAdd, Nat.reduceMul, Nat.reduceLeDiff, Nat.reduceEqDiff, ↓reduceIte, u157_58, u157_59, u157_60, u157_63, u157_64, u157_65, u157_66, u157_69, u157_71, u157_72, u157_73, u157_74, u157_75, u157_78, u157_80, u157_83, u157_85, u157_88, u157_90, u157_93, putS_0, shl_1, nn_le, e, Nat.le_refl]
    rfl
  | succ m ih =>
    intro s b x6 hm hb
    have h1 : ¬ 2 ^ A 0 0 ≤ s := by omega
    have hs : s < 256 := by omega
    have hq : s / 2 ^ a ≤ s := Nat.div_le_self _ _
    have hps := pop_le s
    have hpb := pop_le b
    by_cases h2 : s / 2 ^ a % 2 = 0
    · by_cases h3 : 256 ≤ b ∨ pop s < pop b
      · obtain ⟨y6, h4⟩ := away_try (b := bI b) (x6 := x6) (w := w) hI hd ha hv hs hn
        obtain ⟨x5', x6', h5⟩ := ih (s + 1) (if awQ A a v n s = true then s else b) y6 (by omega) (by split <;> omega)
        have eb : (if awQ A a v n s = true then nI s else bI b) = bI (if awQ A a v n s = true then s else b) := by
          split
          · unfold bI; rw [if_pos hs]
          · rfl
        have ea : awm (awQ A a v n) a (m + 1) s b = awm (awQ A a v n) a m (s + 1) (if awQ A a v n s = true then s else b) := by
          rw [awm]
          congr 1
          by_cases q : awQ A a v n s = true
          · rw [if_pos ⟨h2, h3, q⟩, if_pos q]
          · rw [if_neg (fun z => q z.2.2), if_neg q]
        refine ⟨x5', x6', ?_⟩
        rw [u157_56, ea]
        have e97 : RUN 157 80 [some (.ref 44), some (.int (nI a)), some (.int (nI v)), some (.int (nI n)), some (.int (bI b)), some (.int (nI s)), x6] [] [.int (bI b)] (putS (putA w 48 A) A) = RUN 157 96 [some (.ref 44), some (.int (nI a)), some (.int (nI v)), some (.int (nI n)), some (.int (bI b)), some (.int (nI s)), x6] [] [] (putS (putA w 48 A) A) := by
          by_cases hb2 : b < 256
          · have h3' : ¬ pop b ≤ pop s := by omega
            have hbI : bI b = nI b := if_pos hb2
            rw [hbI]
            simp (disch := first | omega | decide | exact nI0_01 | exact nI1_01 | exact bz_01 _) only [Option.bind_some, List.cons_append, List.nil_append, Nat.reduceAdd, Nat.reduceMul, Nat.reduceLeDiff, Nat.reduceEqDiff, ↓reduceIte, u157_80, u157_83, u157_85, u157_88, u157_90, u157_93, nn_lt0, if_false, x_many, nn_le, h3']
          · have hbI : bI b = -1 := if_neg hb2
            rw [hbI]
            have hm1 : (-1 : Int32) < 0 := by decide
            simp (disch := first | omega | decide | exact nI0_01 | exact nI1_01 | exact bz_01 _) only [Option.bind_some, List.cons_append, List.nil_append, Nat.reduceAdd, Nat.reduceMul, Nat.reduceLeDiff, Nat.reduceEqDiff, ↓reduceIte, u157_80, u157_83, u157_85, u157_88, u157_90, u157_93, hm1, if_true]
        simp (disch := first | omega | decide | exact nI0_01 | exact nI1_01 | exact bz_01 _) only [Option.bind_some, List.cons_append, List.nil_append, Nat.reduceAdd, Nat.reduceMul, Nat.reduceLeDiff, Nat.reduceEqDiff, ↓reduceIte, u157_58, u157_59, u157_60, u157_63, u157_64, u157_65, u157_66, u157_69, u157_71, u157_72, u157_73, u157_74, u157_75, u157_78, putS_0, shl_1, nn_le, h1, if_false, sh_r, h2, nn_eq0, not_true_eq_false]
        rw [e97, h4, eb]
        simp (disch := first | omega | decide | exact nI0_01 | exact nI1_01 | exact bz_01 _) only [Option.bind_some, List.cons_append, List.nil_append, Nat.reduceAdd, Nat.reduceMul, Nat.reduceLeDiff, Nat.reduceEqDiff, ↓reduceIte, u157_147, u157_150, nI_add]
        exact h5
      · have hb2 : b < 256 := by omega
        have h3' : pop b ≤ pop s := by omega
        have hbI : bI b = nI b := if_pos hb2
        obtain ⟨x5', x6', h5⟩ := ih (s + 1) b x6 (by omega) hb
        have ea : awm (awQ A a v n) a (m + 1) s b = awm (awQ A a v n) a m (s + 1) b := by
          rw [awm, if_neg (fun z => h3 z.2.1)]
        refine ⟨x5', x6', ?_⟩
        rw [u157_56, ea]
        rw [hbI] at h5 ⊢
        simp (disch := first | omega | decide | exact nI0_01 | exact nI1_01 | exact bz_01 _) only [Option.bind_some, List.cons_append, List.nil_append, Nat.reduceAdd, Nat.reduceMul, Nat.reduceLeDiff, Nat.reduceEqDiff, ↓reduceIte, u157_58, u157_59, u157_60, u157_63, u157_64, u157_65, u157_66, u157_69, u157_71, u157_72, u157_73, u157_74, u157_75, u157_78, u157_80, u157_83, u157_85, u157_88, u157_90, u157_93, putS_0, shl_1, nn_le, h1, if_false, sh_r, h2, nn_eq0, not_true_eq_false, nn_lt0, x_many, h3', if_true, u157_147, u157_150, nI_add]
        exact h5
    · have h2' : ¬ s / 2 ^ a % 2 = 0 := h2
      obtain ⟨x5', x6', h5⟩ := ih (s + 1) b x6 (by omega) hb
      have ea : awm (awQ A a v n) a (m + 1) s b = awm (awQ A a v n) a m (s + 1) b := by
        rw [awm, if_neg (fun z => h2 z.1)]
      refine ⟨x5', x6', ?_⟩
      rw [u157_56, ea]
      simp (disch := first | omega | decide | exact nI0_01 | exact nI1_01 | exact bz_01 _) only [Option.bind_some, List.cons_append, List.nil_append, Nat.reduceAdd, Nat.reduceMul, Nat.reduceLeDiff, Nat.reduceEqDiff, ↓reduceIte, u157_58, u157_59, u157_60, u157_63, u157_64, u157_65, u157_66, u157_69, u157_71, u157_72, u157_73, u157_74, u157_75, u157_78, u157_80, u157_83, u157_85, u157_88, u157_90, u157_93, putS_0, shl_1, nn_le, h1, if_false, sh_r, h2', nn_eq0, not_false_eq_true, if_true, u157_147, u157_150, nI_add]
      exact h5
def o_away (A : Gs) (x v n : Int32) : Int32 × Gs := if isW A x = true ∧ ok v 9999 = true ∧ ok n 20 = true then (if awm (awQ A (ix x) (ix v) (ix n)) (ix x) (2 ^ A 0 0) 0 256 < 256 then (nI (awm (awQ A (ix x) (ix v) (ix n)) (ix x) (2 ^ A 0 0) 0 256), A) else bad A 3) else bad A 0
theorem m_away {A : Gs} {w : Wd} {x v n : Int32} (h : M A (putS w A)) (hI : Iv A) (hd : A 0 1 ≤ 40000) : opM 157 [.int x, .int v, .int n] (o_away A x v n) (putS w A) := by
  have h0 := hI.1
  unfold o_away
  rcases isW_case A x hI.1 with ⟨k, nk, hk, rfl, ek, ik⟩ | ek
  · try simp only [ik]
    rcases ok_case v 9999 (by omega) with ⟨m, hm, rfl, em, im⟩ | em
    · try simp only [im]
      rcases ok_case n 20 (by omega) with ⟨j, hj, rfl, ej, ij⟩ | ej
      · try simp only [ij]
        rw [if_pos (by simp [ek, em, ej])]
        obtain ⟨x5', x6', h1⟩ := away_loop (w := w) hI hd hk hm hj (2 ^ A 0 0) 0 256 none (by omega) (by omega)
        have e0 : bI 256 = -1 := rfl
        rw [e0] at h1
        by_cases h3 : awm (awQ A k m j) k (2 ^ A 0 0) 0 256 < 256
        · rw [if_pos h3]
          refine opM_asd h ?_
          simp (disch := first | omega | decide | exact nI0_01 | exact nI1_01 | exact bz_01 _) only [Option.bind_some, List.cons_append, List.nil_append, Nat.reduceAdd, Nat.reduceMul, Nat.reduceLeDiff, Nat.reduceEqDiff, ↓reduceIte, u157_0, u157_1, u157_2, u157_5, u157_8, u157_9, u157_10, u157_11, u157_14, u157_17, u157_20, u157_21, u157_22, u157_23, u157_26, u157_29, u157_32, u157_33, u157_35, u157_38, u157_39, u157_40, u157_42, u157_43, u157_46, u157_47, u157_50, u157_53, u157_54, n157, x_isWriter hI.1, xin_1, xin_2, xin_3, xin_4, xin_5, xin_6, xin_7, xin_9, xin_20, xin_40, xin_99, xin_100, xin_999, xin_9999, xin_1_60, xin_1_20, xin_1_4, xin_2_4, xin_v, ek, em, ej, bz_t, bz_f, nn_eq0, nn_eq, eq_self, not_true_eq_false, not_false_eq_true, x_aside]
          rw [h1]
          have hb : bI (awm (awQ A k m j) k (2 ^ A 0 0) 0 256) = nI (awm (awQ A k m j) k (2 ^ A 0 0) 0 256) := if_pos h3
          rw [hb]
          simp (disch := first | omega | decide | exact nI0_01 | exact nI1_01 | exact bz_01 _) only [Option.bind_some, List.cons_append, List.nil_append, Nat.reduceAdd, Nat.reduceMul, Nat.reduceLeDiff, Nat.reduceEqDiff, ↓reduceIte, u157_153, u157_154, u157_156, u157_159, x_orNone]
        · rw [if_neg h3]
          refine opM_asf h (by omega) ?_
          simp (disch := first | omega | decide | exact nI0_01 | exact nI1_01 | exact bz_01 _) only [Option.bind_some, List.cons_append, List.nil_append, Nat.reduceAdd, Nat.reduceMul, Nat.reduceLeDiff, Nat.reduceEqDiff, ↓reduceIte, u157_0, u157_1, u157_2, u157_5, u157_8, u157_9, u157_10, u157_11, u157_14, u157_17, u157_20, u157_21, u157_22, u157_23, u157_26, u157_29, u157_32, u157_33, u157_35, u157_38, u157_39, u157_40, u157_42, u157_43, u157_46, u157_47, u157_50, u157_53, u157_54, n157, x_isWriter hI.1, xin_1, xin_2, xin_3, xin_4, xin_5, xin_6, xin_7, xin_9, xin_20, xin_40, xin_99, xin_100, xin_999, xin_9999, xin_1_60, xin_1_20, xin_1_4, xin_2_4, xin_v, ek, em, ej, bz_t, bz_f, nn_eq0, nn_eq, eq_self, not_true_eq_false, not_false_eq_true, x_aside]
          rw [h1]
          have hb : bI (awm (awQ A k m j) k (2 ^ A 0 0) 0 256) = -1 := if_neg h3
          rw [hb]
          simp (disch := first | omega | decide | exact nI0_01 | exact nI1_01 | exact bz_01 _) only [Option.bind_some, List.cons_append, List.nil_append, Nat.reduceAdd, Nat.reduceMul, Nat.reduceLeDiff, Nat.reduceEqDiff, ↓reduceIte, u157_153, u157_154, u157_156, u157_159, x_orNone1]
      · rw [if_neg (by simp [ej])]
        refine opM_bad h (by omega) ?_
        simp (disch := first | omega | decide | exact nI0_01 | exact nI1_01 | exact bz_01 _) only [Option.bind_some, List.cons_append, List.nil_append, Nat.reduceAdd, Nat.reduceMul, Nat.reduceLeDiff, Nat.reduceEqDiff, ↓reduceIte, n157, u157_0, u157_1, u157_2, u157_5, u157_8, u157_9, u157_10, u157_11, u157_14, u157_17, u157_20, u157_21, u157_22, u157_23, u157_26, u157_29, u157_32, u157_33, u157_35, u157_38, u157_39, u157_40, u157_42, u157_43, u157_46, u157_47, u157_50, u157_53, u157_54, u157_58, u157_59, u157_60, u157_63, u157_64, u157_65, u157_66, u157_69, u157_71, u157_72, u157_73, u157_74, u157_75, u157_78, u157_80, u157_83, u157_85, u157_88, u157_90, u157_93, u157_96, u157_97, u157_101, u157_102, u157_105, u157_106, u157_108, u157_111, u157_114, u157_117, u157_118, u157_119, u157_120, u157_123, u157_124, u157_127, u157_129, u157_132, u157_134, u157_136, u157_137, u157_140, u157_141, u157_144, u157_147, u157_150, u157_153, u157_154, u157_156, u157_159, x_isWriter hI.1, xin_1, xin_2, xin_3, xin_4, xin_5, xin_6, xin_7, xin_9, xin_20, xin_40, xin_99, xin_100, xin_999, xin_9999, xin_1_60, xin_1_20, xin_1_4, xin_2_4, xin_v, ek, em, ej, bz_t, bz_f, nn_eq0, nn_eq, eq_self, not_true_eq_false, not_false_eq_true, x_f0]
    · rw [if_neg (by simp [em])]
      refine opM_bad h (by omega) ?_
      simp (disch := first | omega | decide | exact nI0_01 | exact nI1_01 | exact bz_01 _) only [Option.bind_some, List.cons_append, List.nil_append, Nat.reduceAdd, Nat.reduceMul, Nat.reduceLeDiff, Nat.reduceEqDiff, ↓reduceIte, n157, u157_0, u157_1, u157_2, u157_5, u157_8, u157_9, u157_10, u157_11, u157_14, u157_17, u157_20, u157_21, u157_22, u157_23, u157_26, u157_29, u157_32, u157_33, u157_35, u157_38, u157_39, u157_40, u157_42, u157_43, u157_46, u157_47, u157_50, u157_53, u157_54, u157_58, u157_59, u157_60, u157_63, u157_64, u157_65, u157_66, u157_69, u157_71, u157_72, u157_73, u157_74, u157_75, u157_78, u157_80, u157_83, u157_85, u157_88, u157_90, u157_93, u157_96, u157_97, u157_101, u157_102, u157_105, u157_106, u157_108, u157_111, u157_114, u157_117, u157_118, u157_119, u157_120, u157_123, u157_124, u157_127, u157_129, u157_132, u157_134, u157_136, u157_137, u157_140, u157_141, u157_144, u157_147, u157_150, u157_153, u157_154, u157_156, u157_159, x_isWriter hI.1, xin_1, xin_2, xin_3, xin_4, xin_5, xin_6, xin_7, xin_9, xin_20, xin_40, xin_99, xin_100, xin_999, xin_9999, xin_1_60, xin_1_20, xin_1_4, xin_2_4, xin_v, ek, em, bz_t, bz_f, nn_eq0, nn_eq, eq_self, not_true_eq_false, not_false_eq_true, x_f0]
  · rw [if_neg (by simp [ek])]
    refine opM_bad h (by omega) ?_
    simp (disch := first | omega | decide | exact nI0_01 | exact nI1_01 | exact bz_01 _) only [Option.bind_some, List.cons_append, List.nil_append, Nat.reduceAdd, Nat.reduceMul, Nat.reduceLeDiff, Nat.reduceEqDiff, ↓reduceIte, n157, u157_0, u157_1, u157_2, u157_5, u157_8, u157_9, u157_10, u157_11, u157_14, u157_17, u157_20, u157_21, u157_22, u157_23, u157_26, u157_29, u157_32, u157_33, u157_35, u157_38, u157_39, u157_40, u157_42, u157_43, u157_46, u157_47, u157_50, u157_53, u157_54, u157_58, u157_59, u157_60, u157_63, u157_64, u157_65, u157_66, u157_69, u157_71, u157_72, u157_73, u157_74, u157_75, u157_78, u157_80, u157_83, u157_85, u157_88, u157_90, u157_93, u157_96, u157_97, u157_101, u157_102, u157_105, u157_106, u157_108, u157_111, u157_114, u157_117, u157_118, u157_119, u157_120, u157_123, u157_124, u157_127, u157_129, u157_132, u157_134, u157_136, u157_137, u157_140, u157_141, u157_144, u157_147, u157_150, u157_153, u157_154, u157_156, u157_159, x_isWriter hI.1, xin_1, xin_2, xin_3, xin_4, xin_5, xin_6, xin_7, xin_9, xin_20, xin_40, xin_99, xin_100, xin_999, xin_9999, xin_1_60, xin_1_20, xin_1_4, xin_2_4, xin_v, ek, bz_t, bz_f, nn_eq0, nn_eq, eq_self, not_true_eq_false, not_false_eq_true, x_f0]
/-! WHAT CAN BE WRITTEN -/
def cntT (A : Gs) (v : Nat) : Nat → Nat → Nat
  | 0, _ => 0
  | m + 1, k => (if v ≤ spl A k 4 0 999 then 1 else 0) + cntT A v m (k + 1)
theorem spl_le (A : Gs) (v : Nat) : ∀ m p b, spl A v m p b ≤ b
  | 0, _, _ => Nat.le_refl _
  | m + 1, p, b => Nat.le_trans (spl_le A v m _ _) (Nat.min_le_left _ _)
theorem texts_loop {v : Nat} {w : Wd} {A : Gs} (hI : Iv A) (hv : v ≤ 9) : ∀ (m k s : Nat), m + k = 10000 → RUN 163 23 [some (.ref 44), some (.int (nI v)), some (.int (nI s)), some (.int (nI k))] [] [] (putS w A) = some ([.int (nI (s + cntT A v m k))], putS w A) := by
  intro m
  induction m with
  | zero =>
    intro k s hm
    have e : k = 10000 := by omega
    subst e
    have h1 : 9999 < 10000 := by omega
    rw [u163_23]
    simp (disch := first | omega | decide | exact nI0_01 | exact nI1_01 | exact bz_01 _) only [Option.bind_some, List.cons_append, List.nil_append, Nat.reduceAdd, Nat.reduceMul, Nat.reduceLeDiff, Nat.reduceEqDiff, ↓reduceIte, n163, u163_0, u163_1, u163_2, u163_3, u163_6, u163_9, u163_12, u163_13, u163_15, u163_18, u163_19, u163_20, u163_21, u163_22, u163_24, u163_27, u163_30, u163_31, u163_32, u163_33, u163_36, u163_37, u163_40, u163_41, u163_44, u163_45, u163_46, u163_47, u163_50, u163_53, u163_54, nn_lt, nn_le, h1, if_true]
    rfl
  | succ m ih =>
    intro k s hm
    have h1 : ¬ 9999 < k := by omega
    have hs := spl_le A k 4 0 999
    rw [u163_23]
    by_cases h2 : v ≤ spl A k 4 0 999
    · have h3 : ¬ spl A k 4 0 999 < v := by omega
      simp (disch := first | omega | decide | exact nI0_01 | exact nI1_01 | exact bz_01 _) only [Option.bind_some, List.cons_append, List.nil_append, Nat.reduceAdd, Nat.reduceMul, Nat.reduceLeDiff, Nat.reduceEqDiff, ↓reduceIte, n163, u163_0, u163_1, u163_2, u163_3, u163_6, u163_9, u163_12, u163_13, u163_15, u163_18, u163_19, u163_20, u163_21, u163_22, u163_24, u163_27, u163_30, u163_31, u163_32, u163_33, u163_36, u163_37, u163_40, u163_41, u163_44, u163_45, u163_46, u163_47, u163_50, u163_53, u163_54, nn_lt, nn_le, h1, if_false, x_spellsOf hI, h3, nI_add]
      rw [ih (k + 1) (s + 1) (by omega), cntT, if_pos h2, Nat.add_assoc]
    · have h3 : spl A k 4 0 999 < v := by omega
      simp (disch := first | omega | decide | exact nI0_01 | exact nI1_01 | exact bz_01 _) only [Option.bind_some, List.cons_append, List.nil_append, Nat.reduceAdd, Nat.reduceMul, Nat.reduceLeDiff, Nat.reduceEqDiff, ↓reduceIte, n163, u163_0, u163_1, u163_2, u163_3, u163_6, u163_9, u163_12, u163_13, u163_15, u163_18, u163_19, u163_20, u163_21, u163_22, u163_24, u163_27, u163_30, u163_31, u163_32, u163_33, u163_36, u163_37, u163_40, u163_41, u163_44, u163_45, u163_46, u163_47, u163_50, u163_53, u163_54, nn_lt, nn_le, h1, if_false, x_spellsOf hI, h3, if_true, nI_add, Nat.add_zero]
      rw [ih (k + 1) s (by omega), cntT, if_neg h2, Nat.zero_add]
def o_texts (A : Gs) (x : Int32) : Int32 × Gs := if ok x 9 = true then (nI (cntT A (ix x) 10000 0), A) else bad A 0
theorem m_texts {A : Gs} {w : Wd} {x : Int32} (h : M A (putS w A)) (hI : Iv A) : opM 163 [.int x] (o_texts A x) (putS w A) := by
  unfold o_texts
  rcases ok_case x 9 (by omega) with ⟨k, hk, rfl, ek, ik⟩ | ek
  · try simp only [ik]
    rw [if_pos (by simp [ek])]
    refine opM_get h ?_
    simp (disch := first | omega | decide | exact nI0_01 | exact nI1_01 | exact bz_01 _) only [Option.bind_some, List.cons_append, List.nil_append, Nat.reduceAdd, Nat.reduceMul, Nat.reduceLeDiff, Nat.reduceEqDiff, ↓reduceIte, n163, u163_0, u163_1, u163_2, u163_3, u163_6, u163_9, u163_12, u163_13, u163_15, u163_18, u163_19, u163_20, u163_21, u163_22, u163_24, u163_27, u163_30, u163_31, u163_32, u163_33, u163_36, u163_37, u163_40, u163_41, u163_44, u163_45, u163_46, u163_47, u163_50, u163_53, u163_54, xin_1, xin_2, xin_3, xin_4, xin_5, xin_6, xin_7, xin_9, xin_20, xin_40, xin_99, xin_100, xin_999, xin_9999, xin_1_60, xin_1_20, xin_1_4, xin_2_4, xin_v, ek, bz_t, bz_f, nn_eq0, nn_eq, eq_self, not_true_eq_false, not_false_eq_true]
    rw [texts_loop hI hk 10000 0 0 rfl, Nat.zero_add]
  · rw [if_neg (by simp [ek])]
    refine opM_bad h (by omega) ?_
    simp (disch := first | omega | decide | exact nI0_01 | exact nI1_01 | exact bz_01 _) only [Option.bind_some, List.cons_append, List.nil_append, Nat.reduceAdd, Nat.reduceMul, Nat.reduceLeDiff, Nat.reduceEqDiff, ↓reduceIte, n163, u163_0, u163_1, u163_2, u163_3, u163_6, u163_9, u163_12, u163_13, u163_15, u163_18, u163_19, u163_20, u163_21, u163_22, u163_24, u163_27, u163_30, u163_31, u163_32, u163_33, u163_36, u163_37, u163_40, u163_41, u163_44, u163_45, u163_46, u163_47, u163_50, u163_53, u163_54, xin_1, xin_2, xin_3, xin_4, xin_5, xin_6, xin_7, xin_9, xin_20, xin_40, xin_99, xin_100, xin_999, xin_9999, xin_1_60, xin_1_20, xin_1_4, xin_2_4, xin_v, ek, bz_t, bz_f, nn_eq0, nn_eq, eq_self, not_true_eq_false, not_false_eq_true, x_f0]
/-! DRAWS -/
def zz (A : Gs) : Nat := A 0 2 * 1103515245 + 12345
def dr (z : Nat) : Nat := z % 2 ^ 32 / 256
theorem dr_lt (z : Nat) : dr z < 16777216 := by unfold dr; omega
theorem ushr8 (n : Nat) : ((nI n).toUInt32 >>> ((nI 8).toUInt32 &&& Int32.toUInt32 31)).toInt32 = nI (dr n) := by
  have e8 : ((nI 8).toUInt32 &&& Int32.toUInt32 31) = 8 := by decide
  have en : (nI n).toUInt32 = UInt32.ofNat n := rfl
  have em : (UInt32.ofNat (dr n)).toInt32 = nI (dr n) := rfl
  have hd := dr_lt n
  rw [e8, en, ← em]
  congr 1
  apply UInt32.toNat_inj.mp
  rw [UInt32.toNat_shiftRight, UInt32.toNat_ofNat', UInt32.toNat_ofNat', Nat.mod_eq_of_lt (b := 2 ^ 32) (by omega : dr n < 2 ^ 32)]
  show (n % 2 ^ 32) >>> 8 = _
  rw [Nat.shiftRight_eq_div_pow]
  rfl
theorem x_draw {w : Wd} {A : Gs} : CALL 164 [.ref 44] (putS w A) = some ([.int (nI (dr (zz A)))], putS w (up A 0 2 (zz A))) := by
  have e : up A 0 2 (zz A) 0 2 = zz A := up_at _ _ _ _
  have ez : A 0 2 * 1103515245 + 12345 = zz A := rfl
  simp (disch := first | omega | decide | exact nI0_01 | exact nI1_01 | exact bz_01 _) only [Option.bind_some, List.cons_append, List.nil_append, Nat.reduceAdd, Nat.reduceMul, Nat.reduceLeDiff, Nat.reduceEqDiff, ↓reduceIte, n164, u164_0, u164_1, u164_4, u164_5, u164_6, u164_9, u164_10, u164_11, u164_13, u164_14, u164_17, u164_18, u164_19, u164_20, u164_23, u164_24, u164_25, u164_27, u164_28, putS_0, pk_mul, nI_add, ez, putS_s0, e, ushr8]
def ct1 (A : Gs) : Gs := up A 0 2 (zz A)
def ct (A : Gs) : Gs := day 0 (up (up A 0 2 (zz (ct1 A))) 3 (dr (zz A) % 6) (dr (zz (ct1 A)) % 21))
def cts : Nat → Gs → Gs
  | 0, A => A
  | n + 1, A => cts n (ct A)
theorem Iv.ct {A : Gs} (h : Iv A) : Iv (ct A) := ((h.u0 (by omega)).u3 (by omega)).day 0
theorem ct_01 (A : Gs) : ct A 0 1 = A 0 1 + 1 := by
  unfold ct
  rw [day_01, up_nc _ (by omega), up_nk _ (by omega)]
theorem ct_00 (A : Gs) : ct A 0 0 = A 0 0 := by
  unfold ct
  rw [day_0 _ _ (by omega), up_nc _ (by omega), up_nk _ (by omega)]
theorem cts_00 : ∀ n (A : Gs), cts n A 0 0 = A 0 0
  | 0, _ => rfl
  | n + 1, A => by rw [cts, cts_00 n, ct_00]
theorem Iv.cts : ∀ (n : Nat) {A : Gs}, Iv A → Iv (cts n A)
  | 0, _, h => h
  | n + 1, _, h => Iv.cts n h.ct
theorem ct_r (A : Gs) : ∀ c, 10 ≤ c → ct A c = A c := fun c hc => by
  unfold ct
  rw [day_row 0 _ (by omega) (by omega) (by omega) (by omega) (by omega)]
  funext j
  rw [up_nc _ (by omega), up_nc _ (by omega)]
theorem cts_r : ∀ n (A : Gs), ∀ c, 10 ≤ c → cts n A c = A c
  | 0, _, _, _ => rfl
  | n + 1, A, c, hc => by rw [cts, cts_r n (ct A) c hc, ct_r A c hc]
theorem catches_loop {n : Nat} {w : Wd} (hn : n ≤ 20) : ∀ (m k : Nat) (x3 : Option Value) (A : Gs), Iv A → m + k = n → A 0 1 ≤ 40000 + k → RUN 165 41 [some (.ref 44), some (.int (nI n)), some (.int (nI k)), x3] [] [] (putS w A) = some ([.int (nI (sm (cts m A 8) (A 0 0) 0))], putS w (cts m A)) := by
  intro m
  induction m with
  | zero =>
    intro k x3 A hI hm hd
    have e : k = n := by omega
    subst e
    rw [u165_41]
    simp (disch := first | omega | decide | exact nI0_01 | exact nI1_01 | exact bz_01 _) only [Option.bind_some, List.cons_append, List.nil_append, Nat.reduceAdd, Nat.reduceMul, Nat.reduceLeDiff, Nat.reduceEqDiff, ↓reduceIte, n165, u165_0, u165_1, u165_2, u165_3, u165_6, u165_9, u165_12, u165_13, u165_15, u165_18, u165_19, u165_20, u165_23, u165_24, u165_25, u165_26, u165_27, u165_29, u165_32, u165_33, u165_35, u165_38, u165_39, u165_40, u165_42, u165_43, u165_46, u165_47, u165_50, u165_52, u165_53, u165_54, u165_55, u165_58, u165_60, u165_61, u165_62, u165_63, u165_66, u165_68, u165_69, u165_70, u165_71, u165_72, u165_75, u165_78, u165_81, u165_82, u165_83, u165_86, nn_le, Nat.le_refl, x_sumOf hI]
    rfl
  | succ m ih =>
    intro k x3 A hI hm hd
    have h1 : ¬ n ≤ k := by omega
    have hm1 := dr_lt (zz A)
    have hm2 := dr_lt (zz (ct1 A))
    have hI2 : Iv (up (up A 0 2 (zz (ct1 A))) 3 (dr (zz A) % 6) (dr (zz (ct1 A)) % 21)) := (hI.u0 (by omega)).u3 (by omega)
    have e2 : up (up A 0 2 (zz (ct1 A))) 3 (dr (zz A) % 6) (dr (zz (ct1 A)) % 21) 0 1 ≤ 40000 + k := by rw [up_nc _ (by omega), up_nk _ (by omega)]; exact hd
    have e1 : up A 0 2 (zz A) = ct1 A := rfl
    have e3 : up (ct1 A) 0 2 (zz (ct1 A)) = up A 0 2 (zz (ct1 A)) := up_up _ _ _ _ _
    rw [u165_41]
    simp (disch := first | omega | decide | exact nI0_01 | exact nI1_01 | exact bz_01 _) only [Option.bind_some, List.cons_append, List.nil_append, Nat.reduceAdd, Nat.reduceMul, Nat.reduceLeDiff, Nat.reduceEqDiff, ↓reduceIte, n165, u165_0, u165_1, u165_2, u165_3, u165_6, u165_9, u165_12, u165_13, u165_15, u165_18, u165_19, u165_20, u165_23, u165_24, u165_25, u165_26, u165_27, u165_29, u165_32, u165_33, u165_35, u165_38, u165_39, u165_40, u165_42, u165_43, u165_46, u165_47, u165_50, u165_52, u165_53, u165_54, u165_55, u165_58, u165_60, u165_61, u165_62, u165_63, u165_66, u165_68, u165_69, u165_70, u165_71, u165_72, u165_75, u165_78, u165_81, u165_82, u165_83, u165_86, nn_le, h1, if_false, x_draw, pk_div, nn_rem, nI_add, e1, e3, putS_s3, x_dayBut hI2]
    have h := ih (k + 1) (some (.int (nI (dr (zz A) % 6)))) (ct A) hI.ct (by omega) (by rw [ct_01]; omega)
    rw [ct_00] at h
    exact h
def o_catches (A : Gs) (x : Int32) : Int32 × Gs := if ok2 x 1 20 = true then (nI (sm (cts (ix x) A 8) (A 0 0) 0), cts (ix x) A) else bad A 0
theorem m_catches {A : Gs} {w : Wd} {x : Int32} (h : M A (putS w A)) (hI : Iv A) (hd : A 0 1 ≤ 40000) : opM 165 [.int x] (o_catches A x) (putS w A) := by
  unfold o_catches
  rcases ok2_case x 1 20 (by omega) with ⟨k, hk, lk, rfl, ek, ik⟩ | ek
  · try simp only [ik]
    rw [if_pos (by simp [ek])]
    refine opM_set h (cts_r k A) ?_
    have h1 : A 0 1 + k ≤ 99999 := by omega
    simp (disch := first | omega | decide | exact nI0_01 | exact nI1_01 | exact bz_01 _) only [Option.bind_some, List.cons_append, List.nil_append, Nat.reduceAdd, Nat.reduceMul, Nat.reduceLeDiff, Nat.reduceEqDiff, ↓reduceIte, n165, u165_0, u165_1, u165_2, u165_3, u165_6, u165_9, u165_12, u165_13, u165_15, u165_18, u165_19, u165_20, u165_23, u165_24, u165_25, u165_26, u165_27, u165_29, u165_32, u165_33, u165_35, u165_38, u165_39, u165_40, u165_42, u165_43, u165_46, u165_47, u165_50, u165_52, u165_53, u165_54, u165_55, u165_58, u165_60, u165_61, u165_62, u165_63, u165_66, u165_68, u165_69, u165_70, u165_71, u165_72, u165_75, u165_78, u165_81, u165_82, u165_83, u165_86, xin_1, xin_2, xin_3, xin_4, xin_5, xin_6, xin_7, xin_9, xin_20, xin_40, xin_99, xin_100, xin_999, xin_9999, xin_1_60, xin_1_20, xin_1_4, xin_2_4, xin_v, ek, bz_t, bz_f, nn_eq0, nn_eq, eq_self, not_true_eq_false, not_false_eq_true, putS_0, nI_add, nn_le, h1, if_true]
    exact catches_loop lk k 0 none A hI (by omega) (by omega)
  · rw [if_neg (by simp [ek])]
    refine opM_bad h (by omega) ?_
    simp (disch := first | omega | decide | exact nI0_01 | exact nI1_01 | exact bz_01 _) only [Option.bind_some, List.cons_append, List.nil_append, Nat.reduceAdd, Nat.reduceMul, Nat.reduceLeDiff, Nat.reduceEqDiff, ↓reduceIte, n165, u165_0, u165_1, u165_2, u165_3, u165_6, u165_9, u165_12, u165_13, u165_15, u165_18, u165_19, u165_20, u165_23, u165_24, u165_25, u165_26, u165_27, u165_29, u165_32, u165_33, u165_35, u165_38, u165_39, u165_40, u165_42, u165_43, u165_46, u165_47, u165_50, u165_52, u165_53, u165_54, u165_55, u165_58, u165_60, u165_61, u165_62, u165_63, u165_66, u165_68, u165_69, u165_70, u165_71, u165_72, u165_75, u165_78, u165_81, u165_82, u165_83, u165_86, xin_1, xin_2, xin_3, xin_4, xin_5, xin_6, xin_7, xin_9, xin_20, xin_40, xin_99, xin_100, xin_999, xin_9999, xin_1_60, xin_1_20, xin_1_4, xin_2_4, xin_v, ek, bz_t, bz_f, nn_eq0, nn_eq, eq_self, not_true_eq_false, not_false_eq_true, x_f0]
