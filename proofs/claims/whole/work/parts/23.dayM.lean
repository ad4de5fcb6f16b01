/-! THE REFERENCE'S DAY -/
theorem eo_body {a b p : Nat} {x4 : Option Value} {w : Wd} {G : Gs} (hI : Iv G) (ha : a < 8) (hb : b ≤ 999) (hp : p < 3) : RUN 133 2 [some (.ref 44), some (.int (nI a)), some (.int (nI b)), some (.int (nI (p + 1))), x4] [] [] (putS w G) = RUN 133 2 [some (.ref 44), some (.int (nI a)), some (.int (nI b)), some (.int (nI (p + 1 + 1))), some (.int (nI (dg b (p + 1))))] [] [] (putS w (kb1 (G 4 a) b 1 p G)) := by
  have hl := dg_lt b (p + 1)
  have hj := hI.2.1 _ hl
  have hw := hI.2.2.2.2 a ha
  rw [u133_2]
  simp (disch := first | omega | decide | exact nI0_01 | exact nI1_01 | exact bz_01 _) only [Option.bind_some, List.cons_append, List.nil_append, Nat.reduceAdd, Nat.reduceMul, Nat.reduceLeDiff, Nat.reduceEqDiff, ↓reduceIte, n133, u133_0, u133_1, u133_3, u133_4, u133_7, u133_8, u133_9, u133_12, u133_14, u133_15, u133_16, u133_17, u133_20, u133_21, u133_23, u133_26, u133_29, u133_30, u133_33, u133_34, u133_36, u133_37, u133_40, u133_41, u133_44, u133_45, u133_47, u133_48, u133_49, u133_50, u133_51, u133_54, u133_55, u133_58, u133_61, u133_62, u133_65, u133_66, u133_67, u133_70, u133_72, u133_73, u133_74, u133_75, u133_78, u133_79, u133_80, u133_83, u133_84, nn_le, x_digit, s_its, x_isKeptBy, bz_eq0, nI_add, putS_1, n_least, putS_s1]
  rw [if_neg (by omega)]
  unfold kb1
  cases hk : kp (G 4 a) p (dg b (p + 1)) with
  | true => simp
  | false => simp
theorem x_eatsOne {a b : Nat} {w : Wd} {G : Gs} (hI : Iv G) (ha : a < 8) (hb : b ≤ 999) : CALL 133 [.ref 44, .int (nI a), .int (nI b)] (putS w G) = some ([], putS w (eat1 a b G)) := by
  have k0 := kb1_fr (G 4 a) b 1 0 G
  have k1 := kb1_fr (G 4 a) b 1 1 (kb1 (G 4 a) b 1 0 G)
  have k2 := kb_fr (G 4 a) b 1 G
  have e0 := eo_body (p := 0) (x4 := none) (w := w) hI ha hb (by omega)
  have e1 := eo_body (p := 1) (x4 := some (.int (nI (dg b 1)))) (w := w) (hI.kb1 (G 4 a) b 1 0) ha hb (by omega)
  have e2 := eo_body (p := 2) (x4 := some (.int (nI (dg b 2)))) (w := w) ((hI.kb1 (G 4 a) b 1 0).kb1 (G 4 a) b 1 1) ha hb (by omega)
  rw [k0 4 (by omega) (by omega) (by omega) (by omega)] at e1
  rw [k1 4 (by omega) (by omega) (by omega) (by omega), k0 4 (by omega) (by omega) (by omega) (by omega)] at e2
  simp only [Nat.reduceAdd] at e0 e1 e2
  have hI' := hI.kb (G 4 a) b 1
  have h7 : kb (G 4 a) b 1 G 7 a = G 7 a := by
    have : ∀ n p G', kb1 (G 4 a) b n p G' 7 = G' 7 := fun n p G' => by unfold kb1; split; funext j; rw [up_nc G' (by omega)]; rfl
    unfold kb
    rw [this, this, this]
  have hw := hI.2.2.2.2 a ha
  simp (disch := first | omega | decide | exact nI0_01 | exact nI1_01 | exact bz_01 _) only [Option.bind_some, List.cons_append, List.nil_append, Nat.reduceAdd, Nat.reduceMul, Nat.reduceLeDiff, Nat.reduceEqDiff, ↓reduceIte, n133, u133_0, u133_1]
  rw [e0, e1, e2, u133_2]
  have ek : kb1 (G 4 a) b 1 2 (kb1 (G 4 a) b 1 1 (kb1 (G 4 a) b 1 0 G)) = kb (G 4 a) b 1 G := rfl
  rw [ek]
  simp (disch := first | omega | decide | exact nI0_01 | exact nI1_01 | exact bz_01 _) only [Option.bind_some, List.cons_append, List.nil_append, Nat.reduceAdd, Nat.reduceMul, Nat.reduceLeDiff, Nat.reduceEqDiff, ↓reduceIte, n133, u133_0, u133_1, u133_3, u133_4, u133_7, u133_8, u133_9, u133_12, u133_14, u133_15, u133_16, u133_17, u133_20, u133_21, u133_23, u133_26, u133_29, u133_30, u133_33, u133_34, u133_36, u133_37, u133_40, u133_41, u133_44, u133_45, u133_47, u133_48, u133_49, u133_50, u133_51, u133_54, u133_55, u133_58, u133_61, u133_62, u133_65, u133_66, u133_67, u133_70, u133_72, u133_73, u133_74, u133_75, u133_78, u133_79, u133_80, u133_83, u133_84, nn_le, s_its, x_at, h7, nI_add, n_least, putS_sw]
  rfl
theorem x_writesOne {a : Nat} {w : Wd} {G : Gs} (hI : Iv G) (ha : a < 8) (hj : G 1 (dg (G 5 a) (G 6 a)) ≠ 0) : CALL 134 [.ref 44, .int (nI a)] (putS w G) = some ([], putS w (wr1 a G)) := by
  have hl := dg_lt (G 5 a) (G 6 a)
  have hj2 := hI.2.1 _ hl
  have hw := hI.2.2.2.2 a ha
  have e6 : ∀ v, up G 1 (dg (G 5 a) (G 6 a)) v 6 a = G 6 a := fun v => up_nc G (by omega)
  have e8 : ∀ v, up G 1 (dg (G 5 a) (G 6 a)) v 8 a = G 8 a := fun v => up_nc G (by omega)
  simp (disch := first | omega | decide | exact nI0_01 | exact nI1_01 | exact bz_01 _) only [Option.bind_some, List.cons_append, List.nil_append, Nat.reduceAdd, Nat.reduceMul, Nat.reduceLeDiff, Nat.reduceEqDiff, ↓reduceIte, n134, u134_0, u134_1, u134_4, u134_5, u134_6, u134_7, u134_10, u134_11, u134_12, u134_13, u134_14, u134_15, u134_16, u134_17, u134_20, u134_21, u134_22, u134_25, u134_26, u134_27, u134_28, u134_31, u134_32, u134_33, u134_34, u134_35, u134_36, u134_37, u134_40, u134_41, u134_44, u134_45, u134_48, u134_49, u134_50, u134_53, u134_54, u134_55, u134_56, u134_59, u134_60, u134_61, u134_64, u134_67, u134_68, u134_69, u134_70, u134_73, u134_74, u134_75, u134_78, u134_79, x_next, s_its, x_at, nI_add, nn_sub, putS_1, putS_s1, putS_sw, e6, up_at, nn_eq]
  unfold wr1
  by_cases h3 : G 6 a = 3
  · have h4 : G 6 a + 1 = 4 := by omega
    have e9 : ∀ x v, up (up G 1 x v) 6 a 0 8 a = G 8 a := fun x v => by rw [up_nc _ (by omega), up_nc _ (by omega)]
    simp (disch := first | omega | decide | exact nI0_01 | exact nI1_01 | exact bz_01 _) only [Option.bind_some, List.cons_append, List.nil_append, Nat.reduceAdd, Nat.reduceMul, Nat.reduceLeDiff, Nat.reduceEqDiff, ↓reduceIte, h4, h3, if_pos, if_neg, not_true_eq_false, n134, u134_0, u134_1, u134_4, u134_5, u134_6, u134_7, u134_10, u134_11, u134_12, u134_13, u134_14, u134_15, u134_16, u134_17, u134_20, u134_21, u134_22, u134_25, u134_26, u134_27, u134_28, u134_31, u134_32, u134_33, u134_34, u134_35, u134_36, u134_37, u134_40, u134_41, u134_44, u134_45, u134_48, u134_49, u134_50, u134_53, u134_54, u134_55, u134_56, u134_59, u134_60, u134_61, u134_64, u134_67, u134_68, u134_69, u134_70, u134_73, u134_74, u134_75, u134_78, u134_79, s_its, x_at, nI_add, n_least, putS_sw, e9, up_up]
  · have h4 : ¬ G 6 a + 1 = 4 := by omega
    simp [h4, h3]
theorem sh_r {v a : Nat} (hv : v < 2147483648) (ha : a < 8) : (nI v >>> (nI a &&& 31)) &&& nI 1 = nI (v / 2 ^ a % 2) := by
  have hs : ((nI a &&& 31).toBitVec.smod 32).toNat = a := by
    have key : ∀ n, n < 8 → ((nI n &&& 31).toBitVec.smod 32).toNat = n := by decide
    exact key a ha
  rw [pk_shrN hv _ a hs]
  have h2 : v / 2 ^ a ≤ v := Nat.div_le_self _ _
  exact pk_andN (by omega) 1 (by decide)
theorem aw_t {v a : Nat} (h : aw v a = true) : v / 2 ^ a % 2 = 1 := of_decide_eq_true h
theorem aw_f {v a : Nat} (h : aw v a = false) : ¬ v / 2 ^ a % 2 = 1 := of_decide_eq_false h
theorem db_eat {v a f l b n x4 x5 : Nat} {w : Wd} (hb : b ≤ 999) (hf : f < 6) (ha : a < 8) : ∀ (m k : Nat) (G : Gs), Iv G → m + k = n → n < 1000 → G 2 f = b → RUN 135 63 [some (.ref 44), some (.int (nI v)), some (.int (nI f)), some (.int (nI l)), some (.int (nI a)), some (.int (nI n)), some (.int (nI k))] [] [] (putS w G) = RUN 135 91 [some (.ref 44), some (.int (nI v)), some (.int (nI f)), some (.int (nI l)), some (.int (nI a)), some (.int (nI n)), some (.int (nI n))] [] [] (putS w (eatN a b m G)) := by
  intro m
  induction m with
  | zero =>
    intro k G hI hk hn hG
    have e : k = n := by omega
    subst e
    rw [u135_63]
    simp (disch := first | omega | decide | exact nI0_01 | exact nI1_01 | exact bz_01 _) only [Option.bind_some, List.cons_append, List.nil_append, Nat.reduceAdd, Nat.reduceMul, Nat.reduceLeDiff, Nat.reduceEqDiff, ↓reduceIte, u135_65, u135_67, nn_le, Nat.le_refl]
    rfl
  | succ m ih =>
    intro k G hI hk hn hG
    rw [u135_63]
    simp (disch := first | omega | decide | exact nI0_01 | exact nI1_01 | exact bz_01 _) only [Option.bind_some, List.cons_append, List.nil_append, Nat.reduceAdd, Nat.reduceMul, Nat.reduceLeDiff, Nat.reduceEqDiff, ↓reduceIte, u135_65, u135_67, u135_70, u135_71, u135_73, u135_74, u135_77, u135_79, u135_80, u135_81, u135_82, u135_85, u135_88, nn_le, nI_add, putS_2, hG, x_eatsOne]
    rw [if_neg (by omega)]
    exact ih (k + 1) (eat1 a b G) (hI.eat1 a b) (by omega) hn (by rw [eat1_fr a b G 2 (by omega) (by omega) (by omega) (by omega)]; exact hG)
theorem eat_le (kd ft t : Nat) : eat kd ft t ≤ 6 := by unfold eat; (repeat' split) <;> omega
theorem db_eph {v f b n : Nat} {w : Wd} (hv : v < 2147483648) (hb : b ≤ 999) (hf : f < 6) (hn : n ≤ 8) : ∀ (m a left : Nat) (x5 x6 : Option Value) (G : Gs), Iv G → m + a = n → left ≤ 20 → G 0 0 = n → G 2 f = b → ∃ y3 y5 y6 : Option Value, RUN 135 23 [some (.ref 44), some (.int (nI v)), some (.int (nI f)), some (.int (nI left)), some (.int (nI a)), x5, x6] [] [] (putS w G) = RUN 135 102 [some (.ref 44), some (.int (nI v)), some (.int (nI f)), y3, some (.int (nI n)), y5, y6] [] [] (putS w (eph v b m a left G)) := by
  intro m
  induction m with
  | zero =>
    intro a left x5 x6 G hI hm hl hN hG
    have e : a = n := by omega
    subst e
    refine ⟨some (.int (nI left)), x5, x6, ?_⟩
    rw [u135_23]
    simp (disch := first | omega | decide | exact nI0_01 | exact nI1_01 | exact bz_01 _) only [Option.bind_some, List.cons_append, List.nil_append, Nat.reduceAdd, Nat.reduceMul, Nat.reduceLeDiff, Nat.reduceEqDiff, ↓reduceIte, u135_25, u135_26, u135_29, u135_30, u135_31, putS_0, hN, nn_le, Nat.le_refl]
    rfl
  | succ m ih =>
    intro a left x5 x6 G hI hm hl hN hG
    have hw := hI.2.2.2.2 a (by omega)
    have hE := eat_le (G 4 a) (G 7 a) (G 6 a)
    rw [u135_23]
    cases hA : aw v a with
    | true =>
      have h1 := aw_t hA
      have h2 := db_eat (v := v) (a := a) (f := f) (l := left) (b := b) (n := 0) (w := w) (x4 := 0) (x5 := 0) hb hf (by omega) 0 0 G hI rfl (by omega) hG
      obtain ⟨y3, y5, y6, h3⟩ := ih (a + 1) left (some (.int (nI 0))) (some (.int (nI 0))) G hI (by omega) hl hN hG
      refine ⟨y3, y5, y6, ?_⟩
      simp (disch := first | omega | decide | exact nI0_01 | exact nI1_01 | exact bz_01 _) only [Option.bind_some, List.cons_append, List.nil_append, Nat.reduceAdd, Nat.reduceMul, Nat.reduceLeDiff, Nat.reduceEqDiff, ↓reduceIte, u135_25, u135_26, u135_29, u135_30, u135_31, u135_34, u135_35, u135_37, u135_38, u135_39, u135_40, u135_41, u135_44, u135_45, u135_58, u135_60, u135_61, putS_0, hN, nn_le, sh_r, nn_eq, h1]
      rw [if_neg (by omega)]
      simp only [not_true_eq_false, if_false]
      rw [h2]
      simp (disch := first | omega | decide | exact nI0_01 | exact nI1_01 | exact bz_01 _) only [Option.bind_some, List.cons_append, List.nil_append, Nat.reduceAdd, Nat.reduceMul, Nat.reduceLeDiff, Nat.reduceEqDiff, ↓reduceIte, u135_91, u135_92, u135_94, u135_95, u135_96, u135_99, nn_sub, nI_add, eatN, Nat.sub_zero]
      rw [h3, eph, hA]
      rfl
    | false =>
      have h1 := aw_f hA
      have hmn : min left (eat (G 4 a) (G 7 a) (G 6 a)) ≤ left := Nat.min_le_left _ _
      have h2 := db_eat (v := v) (a := a) (f := f) (l := left) (b := b) (n := min left (eat (G 4 a) (G 7 a) (G 6 a))) (w := w) (x4 := 0) (x5 := 0) hb hf (by omega) (min left (eat (G 4 a) (G 7 a) (G 6 a))) 0 G hI rfl (by omega) hG
      have hf2 := eatN_fr a b (min left (eat (G 4 a) (G 7 a) (G 6 a))) G
      obtain ⟨y3, y5, y6, h3⟩ := ih (a + 1) (left - min left (eat (G 4 a) (G 7 a) (G 6 a))) (some (.int (nI (min left (eat (G 4 a) (G 7 a) (G 6 a)))))) (some (.int (nI (min left (eat (G 4 a) (G 7 a) (G 6 a)))))) (eatN a b (min left (eat (G 4 a) (G 7 a) (G 6 a))) G) (Iv.eatN a b _ hI) (by omega) (by omega) (by rw [hf2 0 (by omega) (by omega) (by omega) (by omega)]; exact hN) (by rw [hf2 2 (by omega) (by omega) (by omega) (by omega)]; exact hG)
      refine ⟨y3, y5, y6, ?_⟩
      simp (disch := first | omega | decide | exact nI0_01 | exact nI1_01 | exact bz_01 _) only [Option.bind_some, List.cons_append, List.nil_append, Nat.reduceAdd, Nat.reduceMul, Nat.reduceLeDiff, Nat.reduceEqDiff, ↓reduceIte, u135_25, u135_26, u135_29, u135_30, u135_31, u135_34, u135_35, u135_37, u135_38, u135_39, u135_40, u135_41, u135_48, u135_49, u135_50, u135_52, u135_55, u135_58, u135_60, u135_61, putS_0, hN, nn_le, sh_r, nn_eq, h1, x_eats, n_least]
      rw [if_neg (by omega)]
      simp only [not_false_eq_true, if_true]
      rw [h2]
      simp (disch := first | omega | decide | exact nI0_01 | exact nI1_01 | exact bz_01 _) only [Option.bind_some, List.cons_append, List.nil_append, Nat.reduceAdd, Nat.reduceMul, Nat.reduceLeDiff, Nat.reduceEqDiff, ↓reduceIte, u135_91, u135_92, u135_94, u135_95, u135_96, u135_99, nn_sub, nI_add]
      rw [h3, eph, hA]
      rfl
theorem db_wr {v a : Nat} {x2 x3 x6 : Option Value} {w : Wd} (ha : a < 8) : ∀ (m : Nat) (G : Gs), Iv G → m < 1000 → ∃ y5 : Option Value, RUN 135 138 [some (.ref 44), some (.int (nI v)), x2, x3, some (.int (nI a)), some (.int (nI m)), x6] [] [] (putS w G) = RUN 135 171 [some (.ref 44), some (.int (nI v)), x2, x3, some (.int (nI a)), y5, x6] [] [] (putS w (wrN a m G)) := by
  intro m
  induction m with
  | zero =>
    intro G hI hm
    refine ⟨some (.int (nI 0)), ?_⟩
    rw [u135_138]
    simp (disch := first | omega | decide | exact nI0_01 | exact nI1_01 | exact bz_01 _) only [Option.bind_some, List.cons_append, List.nil_append, Nat.reduceAdd, Nat.reduceMul, Nat.reduceLeDiff, Nat.reduceEqDiff, ↓reduceIte, u135_140, nn_le0]
    rfl
  | succ m ih =>
    intro G hI hm
    have hw := hI.2.2.2.2 a ha
    have hl := dg_lt (G 5 a) (G 6 a)
    have hj := hI.2.1 _ hl
    rw [u135_138]
    by_cases h0 : G 1 (dg (G 5 a) (G 6 a)) = 0
    · refine ⟨some (.int (nI (m + 1))), ?_⟩
      simp (disch := first | omega | decide | exact nI0_01 | exact nI1_01 | exact bz_01 _) only [Option.bind_some, List.cons_append, List.nil_append, Nat.reduceAdd, Nat.reduceMul, Nat.reduceLeDiff, Nat.reduceEqDiff, ↓reduceIte, u135_140, u135_143, u135_144, u135_147, u135_148, u135_149, u135_151, u135_154, u135_155, u135_156, u135_159, u135_160, u135_162, u135_165, u135_168, nn_le0, x_next, nI_add, putS_1, h0]
      rw [wrN, if_pos h0]
    · obtain ⟨y5, h3⟩ := ih (wr1 a G) (hI.wr1 ha) (by omega)
      refine ⟨y5, ?_⟩
      simp (disch := first | omega | decide | exact nI0_01 | exact nI1_01 | exact bz_01 _) only [Option.bind_some, List.cons_append, List.nil_append, Nat.reduceAdd, Nat.reduceMul, Nat.reduceLeDiff, Nat.reduceEqDiff, ↓reduceIte, u135_140, u135_143, u135_144, u135_147, u135_148, u135_149, u135_151, u135_154, u135_155, u135_156, u135_159, u135_160, u135_162, u135_165, u135_168, nn_le0, x_next, nI_add, putS_1]
      rw [x_writesOne hI ha h0]
      simp (disch := first | omega | decide | exact nI0_01 | exact nI1_01 | exact bz_01 _) only [Option.bind_some, List.cons_append, List.nil_append, Nat.reduceAdd, Nat.reduceMul, Nat.reduceLeDiff, Nat.reduceEqDiff, ↓reduceIte, u135_140, u135_143, u135_144, u135_147, u135_148, u135_149, u135_151, u135_154, u135_155, u135_156, u135_159, u135_160, u135_162, u135_165, u135_168, nn_le0, pk_m1]
      rw [h3, wrN]
      simp only [h0, if_false]
      try rfl
theorem wrt_le (kd ft : Nat) : wrt kd ft ≤ 4 := by unfold wrt; (repeat' split) <;> omega
theorem db_wph {v n : Nat} {x2 x3 : Option Value} {w : Wd} (hv : v < 2147483648) (hn : n ≤ 8) : ∀ (m a : Nat) (x5 x6 : Option Value) (G : Gs), Iv G → m + a = n → G 0 0 = n → ∃ y5 y6 : Option Value, RUN 135 105 [some (.ref 44), some (.int (nI v)), x2, x3, some (.int (nI a)), x5, x6] [] [] (putS w G) = RUN 135 177 [some (.ref 44), some (.int (nI v)), x2, x3, some (.int (nI n)), y5, y6] [] [] (putS w (wph v m a G)) := by
  intro m
  induction m with
  | zero =>
    intro a x5 x6 G hI hm hN
    have e : a = n := by omega
    subst e
    refine ⟨x5, x6, ?_⟩
    rw [u135_105]
    simp (disch := first | omega | decide | exact nI0_01 | exact nI1_01 | exact bz_01 _) only [Option.bind_some, List.cons_append, List.nil_append, Nat.reduceAdd, Nat.reduceMul, Nat.reduceLeDiff, Nat.reduceEqDiff, ↓reduceIte, u135_107, u135_108, u135_111, u135_112, u135_113, putS_0, hN, nn_le, Nat.le_refl]
    rfl
  | succ m ih =>
    intro a x5 x6 G hI hm hN
    have hw := hI.2.2.2.2 a (by omega)
    have hE := wrt_le (G 4 a) (G 7 a)
    rw [u135_105]
    cases hA : aw v a with
    | true =>
      have h1 := aw_t hA
      obtain ⟨y5, h2⟩ := db_wr (v := v) (a := a) (w := w) (x2 := x2) (x3 := x3) (x6 := x6) (by omega) 0 G hI (by omega)
      obtain ⟨y5', y6', h3⟩ := ih (a + 1) y5 x6 G hI (by omega) hN
      refine ⟨y5', y6', ?_⟩
      simp (disch := first | omega | decide | exact nI0_01 | exact nI1_01 | exact bz_01 _) only [Option.bind_some, List.cons_append, List.nil_append, Nat.reduceAdd, Nat.reduceMul, Nat.reduceLeDiff, Nat.reduceEqDiff, ↓reduceIte, u135_107, u135_108, u135_111, u135_112, u135_113, u135_116, u135_117, u135_119, u135_120, u135_121, u135_122, u135_123, u135_126, u135_127, u135_136, putS_0, hN, nn_le, sh_r, nn_eq, h1]
      rw [if_neg (by omega)]
      simp only [not_true_eq_false, if_false]
      rw [h2]
      simp (disch := first | omega | decide | exact nI0_01 | exact nI1_01 | exact bz_01 _) only [Option.bind_some, List.cons_append, List.nil_append, Nat.reduceAdd, Nat.reduceMul, Nat.reduceLeDiff, Nat.reduceEqDiff, ↓reduceIte, u135_171, u135_174, nI_add]
      have ew : wph v (m + 1) a G = wph v m (a + 1) G := by rw [wph, hA]; rfl
      rw [ew, ← h3]
      rfl
    | false =>
      have h1 := aw_f hA
      obtain ⟨y5, h2⟩ := db_wr (v := v) (a := a) (w := w) (x2 := x2) (x3 := x3) (x6 := x6) (by omega) (wrt (G 4 a) (G 7 a)) G hI (by omega)
      have hf2 := wrN_fr a (wrt (G 4 a) (G 7 a)) G
      obtain ⟨y5', y6', h3⟩ := ih (a + 1) y5 x6 (wrN a (wrt (G 4 a) (G 7 a)) G) (Iv.wrN (by omega) _ hI) (by omega) (by rw [hf2 0 (by omega) (by omega) (by omega) (by omega)]; exact hN)
      refine ⟨y5', y6', ?_⟩
      simp (disch := first | omega | decide | exact nI0_01 | exact nI1_01 | exact bz_01 _) only [Option.bind_some, List.cons_append, List.nil_append, Nat.reduceAdd, Nat.reduceMul, Nat.reduceLeDiff, Nat.reduceEqDiff, ↓reduceIte, u135_107, u135_108, u135_111, u135_112, u135_113, u135_116, u135_117, u135_119, u135_120, u135_121, u135_122, u135_123, u135_130, u135_131, u135_133, u135_136, putS_0, hN, nn_le, sh_r, nn_eq, h1, x_writes]
      rw [if_neg (by omega)]
      simp only [not_false_eq_true, if_true]
      rw [h2]
      simp (disch := first | omega | decide | exact nI0_01 | exact nI1_01 | exact bz_01 _) only [Option.bind_some, List.cons_append, List.nil_append, Nat.reduceAdd, Nat.reduceMul, Nat.reduceLeDiff, Nat.reduceEqDiff, ↓reduceIte, u135_171, u135_174, nI_add]
      have ew : wph v (m + 1) a G = wph v m (a + 1) (wrN a (wrt (G 4 a) (G 7 a)) G) := by rw [wph, hA]; rfl
      rw [ew, ← h3]
theorem sat2 {a : Nat} (h : a ≤ 99) : (if nI a - nI 2 < nI 0 then nI 0 else nI a - nI 2) = nI (a - 2) := by
  have key : ∀ n, n < 100 → (if nI n - nI 2 < nI 0 then nI 0 else nI n - nI 2) = nI (n - 2) := by decide
  exact key a (by omega)
theorem db_fph {v n : Nat} {x2 x3 x5 x6 : Option Value} {w : Wd} (hn : n ≤ 8) : ∀ (m a : Nat) (G : Gs), Iv G → m + a = n → G 0 0 = n → RUN 135 180 [some (.ref 44), some (.int (nI v)), x2, x3, some (.int (nI a)), x5, x6] [] [] (putS w G) = RUN 135 221 [some (.ref 44), some (.int (nI v)), x2, x3, some (.int (nI n)), x5, x6] [] [] (putS w (fph m a G)) := by
  intro m
  induction m with
  | zero =>
    intro a G hI hm hN
    have e : a = n := by omega
    subst e
    rw [u135_180]
    simp (disch := first | omega | decide | exact nI0_01 | exact nI1_01 | exact bz_01 _) only [Option.bind_some, List.cons_append, List.nil_append, Nat.reduceAdd, Nat.reduceMul, Nat.reduceLeDiff, Nat.reduceEqDiff, ↓reduceIte, u135_182, u135_183, u135_186, u135_187, u135_188, putS_0, hN, nn_le, Nat.le_refl]
    rfl
  | succ m ih =>
    intro a G hI hm hN
    have hw := hI.2.2.2.2 a (by omega)
    rw [u135_180]
    simp (disch := first | omega | decide | exact nI0_01 | exact nI1_01 | exact bz_01 _) only [Option.bind_some, List.cons_append, List.nil_append, Nat.reduceAdd, Nat.reduceMul, Nat.reduceLeDiff, Nat.reduceEqDiff, ↓reduceIte, u135_182, u135_183, u135_186, u135_187, u135_188, u135_191, u135_192, u135_195, u135_197, u135_198, u135_201, u135_202, u135_203, u135_205, u135_206, u135_209, u135_210, u135_211, u135_214, u135_215, u135_218, putS_0, hN, nn_le, x_at, s_its, x_greatest, sat2, putS_sw, nI_add]
    rw [if_neg (by omega)]
    exact ih (a + 1) (up G 7 a (G 7 a - 2)) (hI.uw (Or.inr (Or.inr (Or.inr (Or.inl ⟨rfl, by omega⟩))))) (by omega) (by rw [up_nc G (by omega)]; exact hN)
theorem db_soup {v : Nat} {x2 x3 x5 x6 : Option Value} {w : Wd} : ∀ (m a : Nat) (G : Gs), Iv G → m + a = 10 → G 0 1 < 1000000 → G 0 1 % 7 = 0 → RUN 135 234 [some (.ref 44), some (.int (nI v)), x2, x3, some (.int (nI a)), x5, x6] [] [] (putS w G) = some ([], putS w (soup m a G)) := by
  intro m
  induction m with
  | zero =>
    intro a G hI hm hd h7
    have e : a = 10 := by omega
    subst e
    rw [u135_234]
    simp (disch := first | omega | decide | exact nI0_01 | exact nI1_01 | exact bz_01 _) only [Option.bind_some, List.cons_append, List.nil_append, Nat.reduceAdd, Nat.reduceMul, Nat.reduceLeDiff, Nat.reduceEqDiff, ↓reduceIte, u135_236, u135_238, u135_283, nn_le, Nat.le_refl]
    rfl
  | succ m ih =>
    intro a G hI hm hd h7
    have hj := hI.2.1 a (by omega)
    have hq : G 1 a / 10 ≤ G 1 a := Nat.div_le_self _ _
    rw [u135_234]
    simp (disch := first | omega | decide | exact nI0_01 | exact nI1_01 | exact bz_01 _) only [Option.bind_some, List.cons_append, List.nil_append, Nat.reduceAdd, Nat.reduceMul, Nat.reduceLeDiff, Nat.reduceEqDiff, ↓reduceIte, n135, u135_0, u135_1, u135_4, u135_5, u135_6, u135_8, u135_9, u135_10, u135_11, u135_14, u135_16, u135_17, u135_18, u135_19, u135_20, u135_21, u135_25, u135_26, u135_29, u135_30, u135_31, u135_34, u135_35, u135_37, u135_38, u135_39, u135_40, u135_41, u135_44, u135_45, u135_48, u135_49, u135_50, u135_52, u135_55, u135_58, u135_60, u135_61, u135_65, u135_67, u135_70, u135_71, u135_73, u135_74, u135_77, u135_79, u135_80, u135_81, u135_82, u135_85, u135_88, u135_91, u135_92, u135_94, u135_95, u135_96, u135_99, u135_102, u135_103, u135_107, u135_108, u135_111, u135_112, u135_113, u135_116, u135_117, u135_119, u135_120, u135_121, u135_122, u135_123, u135_126, u135_127, u135_130, u135_131, u135_133, u135_136, u135_140, u135_143, u135_144, u135_147, u135_148, u135_149, u135_151, u135_154, u135_155, u135_156, u135_159, u135_160, u135_162, u135_165, u135_168, u135_171, u135_174, u135_177, u135_178, u135_182, u135_183, u135_186, u135_187, u135_188, u135_191, u135_192, u135_195, u135_197, u135_198, u135_201, u135_202, u135_203, u135_205, u135_206, u135_209, u135_210, u135_211, u135_214, u135_215, u135_218, u135_221, u135_222, u135_225, u135_226, u135_227, u135_228, u135_229, u135_230, u135_231, u135_232, u135_236, u135_238, u135_241, u135_242, u135_245, u135_246, u135_247, u135_249, u135_250, u135_253, u135_254, u135_257, u135_258, u135_260, u135_261, u135_262, u135_263, u135_264, u135_267, u135_268, u135_270, u135_271, u135_272, u135_274, u135_275, u135_276, u135_277, u135_280, u135_283, nn_le, putS_0, pk_div, nn_rem, nn_eq0, h7, nI_add, putS_1, nn_sub, putS_s1]
    rw [if_neg (by omega)]
    simp only [not_true_eq_false, if_false]
    exact ih (a + 1) (up G 1 a (G 1 a - G 1 a / 10)) (hI.u1 (by omega)) (by omega) (by rw [up_nc G (by omega)]; exact hd) (by rw [up_nc G (by omega)]; exact h7)
theorem db_nosoup {v : Nat} {x2 x3 x5 x6 : Option Value} {w : Wd} {G : Gs} (hd : G 0 1 < 1000000) (h7 : ¬ G 0 1 % 7 = 0) : RUN 135 234 [some (.ref 44), some (.int (nI v)), x2, x3, some (.int (nI 0)), x5, x6] [] [] (putS w G) = some ([], putS w G) := by
  rw [u135_234]
  simp (disch := first | omega | decide | exact nI0_01 | exact nI1_01 | exact bz_01 _) only [Option.bind_some, List.cons_append, List.nil_append, Nat.reduceAdd, Nat.reduceMul, Nat.reduceLeDiff, Nat.reduceEqDiff, ↓reduceIte, n135, u135_0, u135_1, u135_4, u135_5, u135_6, u135_8, u135_9, u135_10, u135_11, u135_14, u135_16, u135_17, u135_18, u135_19, u135_20, u135_21, u135_25, u135_26, u135_29, u135_30, u135_31, u135_34, u135_35, u135_37, u135_38, u135_39, u135_40, u135_41, u135_44, u135_45, u135_48, u135_49, u135_50, u135_52, u135_55, u135_58, u135_60, u135_61, u135_65, u135_67, u135_70, u135_71, u135_73, u135_74, u135_77, u135_79, u135_80, u135_81, u135_82, u135_85, u135_88, u135_91, u135_92, u135_94, u135_95, u135_96, u135_99, u135_102, u135_103, u135_107, u135_108, u135_111, u135_112, u135_113, u135_116, u135_117, u135_119, u135_120, u135_121, u135_122, u135_123, u135_126, u135_127, u135_130, u135_131, u135_133, u135_136, u135_140, u135_143, u135_144, u135_147, u135_148, u135_149, u135_151, u135_154, u135_155, u135_156, u135_159, u135_160, u135_162, u135_165, u135_168, u135_171, u135_174, u135_177, u135_178, u135_182, u135_183, u135_186, u135_187, u135_188, u135_191, u135_192, u135_195, u135_197, u135_198, u135_201, u135_202, u135_203, u135_205, u135_206, u135_209, u135_210, u135_211, u135_214, u135_215, u135_218, u135_221, u135_222, u135_225, u135_226, u135_227, u135_228, u135_229, u135_230, u135_231, u135_232, u135_236, u135_238, u135_241, u135_242, u135_245, u135_246, u135_247, u135_249, u135_250, u135_253, u135_254, u135_257, u135_258, u135_260, u135_261, u135_262, u135_263, u135_264, u135_267, u135_268, u135_270, u135_271, u135_272, u135_274, u135_275, u135_276, u135_277, u135_280, u135_283, nn_le, putS_0, pk_div, nn_rem, nn_eq0, h7]
  simp
theorem x_dayBut {v : Nat} {w : Wd} {G : Gs} (hI : Iv G) (hv : v < 2147483648) (hd : G 0 1 < 900000) : CALL 135 [.ref 44, .int (nI v)] (putS w G) = some ([], putS w (day v G)) := by
  have hf : G 0 1 % 6 < 6 := Nat.mod_lt _ (by omega)
  have hb := hI.2.2.1 _ hf
  have hc := hI.2.2.2.1 _ hf
  obtain ⟨y3, y5, y6, h1⟩ := db_eph (v := v) (f := G 0 1 % 6) (b := G 2 (G 0 1 % 6)) (n := G 0 0) (w := w) hv hb hf hI.1 (G 0 0) 0 (G 3 (G 0 1 % 6)) none none G hI (by omega) hc rfl rfl
  have f1 := day1_fr v G
  obtain ⟨z5, z6, h2⟩ := db_wph (v := v) (n := G 0 0) (x2 := some (.int (nI (G 0 1 % 6)))) (x3 := y3) (w := w) hv hI.1 (G 0 0) 0 y5 y6 (day1 v G) (hI.day1 v) (by omega) (by rw [f1 0 (by omega) (by omega) (by omega) (by omega)])
  have f2 := day2_fr v G
  have h3 := db_fph (v := v) (n := G 0 0) (x2 := some (.int (nI (G 0 1 % 6)))) (x3 := y3) (x5 := z5) (x6 := z6) (w := w) hI.1 (G 0 0) 0 (day2 v G) (hI.day2 v) (by omega) (by rw [f2 0 (by omega) (by omega) (by omega) (by omega)])
  have f3 := day3_fr v G
  have e3 : day3 v G 0 1 = G 0 1 := by rw [f3 0 (by omega) (by omega) (by omega) (by omega)]
  have e4 : day4 v G 0 1 = G 0 1 + 1 := up_at _ _ _ _
  simp (disch := first | omega | decide | exact nI0_01 | exact nI1_01 | exact bz_01 _) only [Option.bind_some, List.cons_append, List.nil_append, Nat.reduceAdd, Nat.reduceMul, Nat.reduceLeDiff, Nat.reduceEqDiff, ↓reduceIte, n135, u135_0, u135_1, u135_4, u135_5, u135_6, u135_8, u135_9, u135_10, u135_11, u135_14, u135_16, u135_17, u135_18, u135_19, u135_20, u135_21, putS_0, pk_div, nn_rem, nI_add, putS_3]
  rw [h1]
  simp (disch := first | omega | decide | exact nI0_01 | exact nI1_01 | exact bz_01 _) only [Option.bind_some, List.cons_append, List.nil_append, Nat.reduceAdd, Nat.reduceMul, Nat.reduceLeDiff, Nat.reduceEqDiff, ↓reduceIte, u135_102, u135_103]
  refine (congrArg (fun z => z) h2).trans ?_
  simp (disch := first | omega | decide | exact nI0_01 | exact nI1_01 | exact bz_01 _) only [Option.bind_some, List.cons_append, List.nil_append, Nat.reduceAdd, Nat.reduceMul, Nat.reduceLeDiff, Nat.reduceEqDiff, ↓reduceIte, u135_177, u135_178]
  refine (congrArg (fun z => z) h3).trans ?_
  show RUN 135 221 _ _ _ (putS w (day3 v G)) = _
  simp (disch := first | omega | decide | exact nI0_01 | exact nI1_01 | exact bz_01 _) only [Option.bind_some, List.cons_append, List.nil_append, Nat.reduceAdd, Nat.reduceMul, Nat.reduceLeDiff, Nat.reduceEqDiff, ↓reduceIte, u135_221, u135_222, u135_225, u135_226, u135_227, u135_228, u135_229, u135_230, u135_231, u135_232, putS_0, e3, nI_add, putS_s0]
  show RUN 135 234 _ _ _ (putS w (day4 v G)) = _
  by_cases h7 : (G 0 1 + 1) % 7 = 0
  · rw [db_soup 10 0 (day4 v G) ((hI.day3 v).u0 (by omega)) rfl (by omega) (by rw [e4]; exact h7), day, if_pos h7]
  · rw [db_nosoup (by omega) (by rw [e4]; exact h7), day, if_neg h7]
theorem goes_loop {n : Nat} {w : Wd} (hn : n < 1000) : ∀ (m k : Nat) (G : Gs), Iv G → m + k = n → G 0 1 + m < 900000 → RUN 136 2 [some (.ref 44), some (.int (nI n)), some (.int (nI k))] [] [] (putS w G) = some ([], putS w (days 0 m G)) := by
  intro m
  induction m with
  | zero =>
    intro k G hI hm hd
    have e : k = n := by omega
    subst e
    rw [u136_2]
    simp (disch := first | omega | decide | exact nI0_01 | exact nI1_01 | exact bz_01 _) only [Option.bind_some, List.cons_append, List.nil_append, Nat.reduceAdd, Nat.reduceMul, Nat.reduceLeDiff, Nat.reduceEqDiff, ↓reduceIte, n136, u136_0, u136_1, u136_3, u136_4, u136_7, u136_8, u136_9, u136_12, u136_15, u136_18, nn_le, Nat.le_refl]
    rfl
  | succ m ih =>
    intro k G hI hm hd
    rw [u136_2]
    simp (disch := first | omega | decide | exact nI0_01 | exact nI1_01 | exact bz_01 _) only [Option.bind_some, List.cons_append, List.nil_append, Nat.reduceAdd, Nat.reduceMul, Nat.reduceLeDiff, Nat.reduceEqDiff, ↓reduceIte, n136, u136_0, u136_1, u136_3, u136_4, u136_7, u136_8, u136_9, u136_12, u136_15, u136_18, nn_le, x_dayBut, nI_add]
    rw [if_neg (by omega)]
    exact ih (k + 1) (day 0 G) (hI.day 0) (by omega) (by rw [day_01]; omega)
theorem x_goes {n : Nat} {w : Wd} {G : Gs} (hI : Iv G) (hn : n < 1000) (hd : G 0 1 + n < 900000) : CALL 136 [.ref 44, .int (nI n)] (putS w G) = some ([], putS w (days 0 n G)) := by
  simp (disch := first | omega | decide | exact nI0_01 | exact nI1_01 | exact bz_01 _) only [Option.bind_some, List.cons_append, List.nil_append, Nat.reduceAdd, Nat.reduceMul, Nat.reduceLeDiff, Nat.reduceEqDiff, ↓reduceIte, n136, u136_0, u136_1, u136_3, u136_4, u136_7, u136_8, u136_9, u136_12, u136_15, u136_18]
  exact goes_loop hn n 0 G hI (by omega) hd
