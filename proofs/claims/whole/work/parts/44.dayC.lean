theorem n_minN {a b : Nat} : (if b < a then nI b else nI a) = nI (min a b) := by
  by_cases h : b < a
  · rw [if_pos h, Nat.min_eq_right (by omega)]
  · rw [if_neg h, Nat.min_eq_left (by omega)]
theorem n_maxN {a b : Nat} : (if a < b then nI b else nI a) = nI (max a b) := by
  by_cases h : a < b
  · rw [if_pos h, Nat.max_eq_right (by omega)]
  · rw [if_neg h, Nat.max_eq_left (by omega)]
theorem ec_loop {o s b c n : Nat} {w : Wd} (ho : rfB o) (hs : s < 2147483648) (hb : b ≤ 999) (hn : n ≤ 8) : ∀ (m a left : Nat) (x6 : Option Value) (G : Gs), Iv G → m + a = n → left ≤ 20 → G 0 0 = n → RUN 18 6 [some (.ref o), some (.int (nI c)), some (.int (nI b)), some (.int (nI s)), some (.int (nI left)), some (.int (nI a)), x6] [] [] (putR w o G) = some ([], putR w o (eph s b m a left G)) := by
  intro m
  induction m with
  | zero =>
    intro a left x6 G hI hm hl hN
    have e : a = n := by omega
    subst e
    rw [u18_6]
    simp (disch := first | omega | decide | assumption | exact nI0_01 | exact nI1_01 | exact bz_01 _ | exact rf1 | exact rf11 | exact rf21) only [Option.bind_some, List.cons_append, List.nil_append, Nat.reduceAdd, Nat.reduceMul, Nat.reduceLeDiff, Nat.reduceEqDiff, ↓reduceIte, n18, u18_0, u18_1, u18_3, u18_4, u18_8, u18_9, u18_12, u18_15, u18_16, u18_18, u18_19, u18_20, u18_21, u18_24, u18_26, u18_27, u18_29, u18_32, u18_35, u18_37, u18_39, u18_41, u18_42, u18_44, u18_45, u18_46, u18_49, u18_51, u18_52, u18_53, u18_55, u18_58, u18_59, u18_62, u18_64, u18_66, u18_67, u18_70, u18_72, u18_73, u18_74, u18_76, u18_77, u18_78, u18_81, u18_82, u18_85, u18_88, R_9, hN, nn_le, Nat.le_refl]
    rfl
  | succ m ih =>
    intro a left x6 G hI hm hl hN
    have h1 : ¬ n ≤ a := by omega
    have hw := hI.2.2.2.2 a (by omega)
    have hE := eat_le (G 4 a) (G 7 a) (G 6 a)
    have hq : s / 2 ^ a ≤ s := Nat.div_le_self _ _
    rw [u18_6]
    cases hA : aw s a with
    | true =>
      have h2 : ¬ s / 2 ^ a % 2 = 0 := by have := aw_t hA; omega
      simp (disch := first | omega | decide | assumption | exact nI0_01 | exact nI1_01 | exact bz_01 _ | exact rf1 | exact rf11 | exact rf21) only [Option.bind_some, List.cons_append, List.nil_append, Nat.reduceAdd, Nat.reduceMul, Nat.reduceLeDiff, Nat.reduceEqDiff, ↓reduceIte, n18, u18_0, u18_1, u18_3, u18_4, u18_8, u18_9, u18_12, u18_15, u18_16, u18_18, u18_19, u18_20, u18_21, u18_24, u18_26, u18_27, u18_29, u18_32, u18_35, u18_37, u18_39, u18_41, u18_42, u18_44, u18_45, u18_46, u18_49, u18_51, u18_52, u18_53, u18_55, u18_58, u18_59, u18_62, u18_64, u18_66, u18_67, u18_70, u18_72, u18_73, u18_74, u18_76, u18_77, u18_78, u18_81, u18_82, u18_85, u18_88, R_9, hN, nn_le, h1, if_false, sh_r, nn_eq0, h2, not_false_eq_true, if_true, nI_add]
      rw [ih (a + 1) left x6 G hI (by omega) hl hN, eph, hA]
      rfl
    | false =>
      have h2 : s / 2 ^ a % 2 = 0 := by have := aw_f hA; omega
      have hmn : min left (eat (G 4 a) (G 7 a) (G 6 a)) ≤ left := Nat.min_le_left _ _
      have hIk := hI.kb (G 4 a) b (min left (eat (G 4 a) (G 7 a) (G 6 a)))
      have h7 : kb (G 4 a) b (min left (eat (G 4 a) (G 7 a) (G 6 a))) G 7 a = G 7 a := by rw [kb_c (by omega)]
      have hf2 := eatN_fr a b (min left (eat (G 4 a) (G 7 a) (G 6 a))) G
      have hall := eatN_all (b := b) (show a < 8 by omega) (min left (eat (G 4 a) (G 7 a) (G 6 a))) G hI
      have hih := ih (a + 1) (left - min left (eat (G 4 a) (G 7 a) (G 6 a))) (some (.int (nI (min left (eat (G 4 a) (G 7 a) (G 6 a)))))) (eatN a b (min left (eat (G 4 a) (G 7 a) (G 6 a))) G) (Iv.eatN a b _ hI) (by omega) (by omega) (by rw [hf2 0 (by omega) (by omega) (by omega) (by omega)]; exact hN)
      have hev : eph s b (m + 1) a left G = eph s b m (a + 1) (left - min left (eat (G 4 a) (G 7 a) (G 6 a))) (eatN a b (min left (eat (G 4 a) (G 7 a) (G 6 a))) G) := by rw [eph, hA]; rfl
      rw [hev, ← hih, hall]
      simp (disch := first | omega | decide | assumption | exact nI0_01 | exact nI1_01 | exact bz_01 _ | exact rf1 | exact rf11 | exact rf21) only [Option.bind_some, List.cons_append, List.nil_append, Nat.reduceAdd, Nat.reduceMul, Nat.reduceLeDiff, Nat.reduceEqDiff, ↓reduceIte, n18, u18_0, u18_1, u18_3, u18_4, u18_8, u18_9, u18_12, u18_15, u18_16, u18_18, u18_19, u18_20, u18_21, u18_24, u18_26, u18_27, u18_29, u18_32, u18_35, u18_37, u18_39, u18_41, u18_42, u18_44, u18_45, u18_46, u18_49, u18_51, u18_52, u18_53, u18_55, u18_58, u18_59, u18_62, u18_64, u18_66, u18_67, u18_70, u18_72, u18_73, u18_74, u18_76, u18_77, u18_78, u18_81, u18_82, u18_85, u18_88, R_9, hN, nn_le, h1, if_false, sh_r, nn_eq0, h2, not_true_eq_false, c_eats ho hI, n_min', nn_sub, R_4, R_7, c_keepBones ho hI, h7, pk_mul, nI_add, R_s7]
theorem c_eatCatch {o s b c : Nat} {w : Wd} {G : Gs} (ho : rfB o) (hI : Iv G) (hs : s < 2147483648) (hb : b ≤ 999) (hc : c ≤ 20) : CALL 18 [.ref o, .int (nI c), .int (nI b), .int (nI s)] (putR w o G) = some ([], putR w o (eph s b (G 0 0) 0 c G)) := by
  simp (disch := first | omega | decide | assumption | exact nI0_01 | exact nI1_01 | exact bz_01 _ | exact rf1 | exact rf11 | exact rf21) only [Option.bind_some, List.cons_append, List.nil_append, Nat.reduceAdd, Nat.reduceMul, Nat.reduceLeDiff, Nat.reduceEqDiff, ↓reduceIte, u18_0, u18_1, u18_3, u18_4, n18]
  exact ec_loop ho hs hb hI.1 (G 0 0) 0 c none G hI (by omega) hc rfl
theorem wl_loop {o a n : Nat} {w : Wd} (ho : rfB o) (ha : a < 8) (hn : n ≤ 4) : ∀ (m k : Nat) (x4 : Option Value) (G : Gs), Iv G → m + k = n → RUN 20 8 [some (.ref o), some (.int (nI a)), some (.int (nI n)), some (.int (nI k)), x4] [] [] (putR w o G) = some ([], putR w o (wrN a m G)) := by
  intro m
  induction m with
  | zero =>
    intro k x4 G hI hm
    have e : k = n := by omega
    subst e
    rw [u20_8]
    simp (disch := first | omega | decide | assumption | exact nI0_01 | exact nI1_01 | exact bz_01 _ | exact rf1 | exact rf11 | exact rf21) only [Option.bind_some, List.cons_append, List.nil_append, Nat.reduceAdd, Nat.reduceMul, Nat.reduceLeDiff, Nat.reduceEqDiff, ↓reduceIte, n20, u20_0, u20_1, u20_2, u20_5, u20_6, u20_7, u20_9, u20_10, u20_13, u20_14, u20_15, u20_18, u20_20, u20_21, u20_24, u20_26, u20_27, u20_30, u20_31, u20_32, u20_35, u20_37, u20_38, u20_39, u20_40, u20_41, u20_42, u20_43, u20_46, u20_47, u20_48, u20_49, u20_50, u20_51, u20_52, u20_53, u20_56, u20_57, u20_58, u20_59, u20_62, u20_63, u20_66, u20_67, u20_68, u20_69, u20_70, u20_73, u20_74, u20_77, u20_78, u20_81, u20_82, u20_83, u20_84, u20_85, u20_88, u20_89, u20_92, u20_95, nn_le, Nat.le_refl]
    rfl
  | succ m ih =>
    intro k x4 G hI hm
    have h1 : ¬ n ≤ k := by omega
    have hw := hI.2.2.2.2 a ha
    have hl := dg_lt (G 5 a) (G 6 a)
    have hj := hI.2.1 _ hl
    rw [u20_8, wrN]
    by_cases h0 : G 1 (dg (G 5 a) (G 6 a)) = 0
    · rw [if_pos h0]
      simp (disch := first | omega | decide | assumption | exact nI0_01 | exact nI1_01 | exact bz_01 _ | exact rf1 | exact rf11 | exact rf21) only [Option.bind_some, List.cons_append, List.nil_append, Nat.reduceAdd, Nat.reduceMul, Nat.reduceLeDiff, Nat.reduceEqDiff, ↓reduceIte, n20, u20_0, u20_1, u20_2, u20_5, u20_6, u20_7, u20_9, u20_10, u20_13, u20_14, u20_15, u20_18, u20_20, u20_21, u20_24, u20_26, u20_27, u20_30, u20_31, u20_32, u20_35, u20_37, u20_38, u20_39, u20_40, u20_41, u20_42, u20_43, u20_46, u20_47, u20_48, u20_49, u20_50, u20_51, u20_52, u20_53, u20_56, u20_57, u20_58, u20_59, u20_62, u20_63, u20_66, u20_67, u20_68, u20_69, u20_70, u20_73, u20_74, u20_77, u20_78, u20_81, u20_82, u20_83, u20_84, u20_85, u20_88, u20_89, u20_92, u20_95, nn_le, h1, if_false, c_next ho hI, R_1, nn_eq0, h0, not_true_eq_false]
    · rw [if_neg h0, ← ih (k + 1) (some (.int (nI (dg (G 5 a) (G 6 a))))) (wr1 a G) (hI.wr1 ha) (by omega)]
      have e6 : ∀ v, up G 1 (dg (G 5 a) (G 6 a)) v 6 a = G 6 a := fun v => up_nc G (by omega)
      unfold wr1
      by_cases h3 : G 6 a = 3
      · have h4 : ¬ G 6 a + 1 < 4 := by omega
        have e8 : ∀ v v', up (up G 1 (dg (G 5 a) (G 6 a)) v) 6 a v' 8 a = G 8 a := fun v v' => by rw [up_nc _ (by omega), up_nc _ (by omega)]
        rw [if_pos h3]
        simp (disch := first | omega | decide | assumption | exact nI0_01 | exact nI1_01 | exact bz_01 _ | exact rf1 | exact rf11 | exact rf21) only [Option.bind_some, List.cons_append, List.nil_append, Nat.reduceAdd, Nat.reduceMul, Nat.reduceLeDiff, Nat.reduceEqDiff, ↓reduceIte, n20, u20_0, u20_1, u20_2, u20_5, u20_6, u20_7, u20_9, u20_10, u20_13, u20_14, u20_15, u20_18, u20_20, u20_21, u20_24, u20_26, u20_27, u20_30, u20_31, u20_32, u20_35, u20_37, u20_38, u20_39, u20_40, u20_41, u20_42, u20_43, u20_46, u20_47, u20_48, u20_49, u20_50, u20_51, u20_52, u20_53, u20_56, u20_57, u20_58, u20_59, u20_62, u20_63, u20_66, u20_67, u20_68, u20_69, u20_70, u20_73, u20_74, u20_77, u20_78, u20_81, u20_82, u20_83, u20_84, u20_85, u20_88, u20_89, u20_92, u20_95, nn_le, h1, if_false, c_next ho hI, R_1, nn_eq0, h0, not_false_eq_true, if_true, nn_sub, R_s1, R_6, e6, nI_add, R_s6, up_at, nn_lt, h4, up_up, R_8, e8, n_minN, R_s8]
      · have h4 : G 6 a + 1 < 4 := by omega
        rw [if_neg h3]
        simp (disch := first | omega | decide | assumption | exact nI0_01 | exact nI1_01 | exact bz_01 _ | exact rf1 | exact rf11 | exact rf21) only [Option.bind_some, List.cons_append, List.nil_append, Nat.reduceAdd, Nat.reduceMul, Nat.reduceLeDiff, Nat.reduceEqDiff, ↓reduceIte, n20, u20_0, u20_1, u20_2, u20_5, u20_6, u20_7, u20_9, u20_10, u20_13, u20_14, u20_15, u20_18, u20_20, u20_21, u20_24, u20_26, u20_27, u20_30, u20_31, u20_32, u20_35, u20_37, u20_38, u20_39, u20_40, u20_41, u20_42, u20_43, u20_46, u20_47, u20_48, u20_49, u20_50, u20_51, u20_52, u20_53, u20_56, u20_57, u20_58, u20_59, u20_62, u20_63, u20_66, u20_67, u20_68, u20_69, u20_70, u20_73, u20_74, u20_77, u20_78, u20_81, u20_82, u20_83, u20_84, u20_85, u20_88, u20_89, u20_92, u20_95, nn_le, h1, if_false, c_next ho hI, R_1, nn_eq0, h0, not_false_eq_true, if_true, nn_sub, R_s1, R_6, e6, nI_add, R_s6, up_at, nn_lt, h4]
theorem c_writeLetters {o a : Nat} {w : Wd} {G : Gs} (ho : rfB o) (hI : Iv G) (ha : a < 8) : CALL 20 [.ref o, .int (nI a)] (putR w o G) = some ([], putR w o (wrN a (wrt (G 4 a) (G 7 a)) G)) := by
  have hE := wrt_le (G 4 a) (G 7 a)
  simp (disch := first | omega | decide | assumption | exact nI0_01 | exact nI1_01 | exact bz_01 _ | exact rf1 | exact rf11 | exact rf21) only [Option.bind_some, List.cons_append, List.nil_append, Nat.reduceAdd, Nat.reduceMul, Nat.reduceLeDiff, Nat.reduceEqDiff, ↓reduceIte, u20_0, u20_1, u20_2, u20_5, u20_6, u20_7, n20, c_writes ho hI]
  exact wl_loop ho ha hE _ 0 none G hI (by omega)
theorem soup_loop {o : Nat} {w : Wd} (ho : rfB o) : ∀ (m a : Nat) (G : Gs), Iv G → m + a = 10 → RUN 21 2 [some (.ref o), some (.int (nI a))] [] [] (putR w o G) = some ([], putR w o (soup m a G)) := by
  intro m
  induction m with
  | zero =>
    intro a G hI hm
    have e : a = 10 := by omega
    subst e
    rw [u21_2]
    simp (disch := first | omega | decide | assumption | exact nI0_01 | exact nI1_01 | exact bz_01 _ | exact rf1 | exact rf11 | exact rf21) only [Option.bind_some, List.cons_append, List.nil_append, Nat.reduceAdd, Nat.reduceMul, Nat.reduceLeDiff, Nat.reduceEqDiff, ↓reduceIte, n21, u21_0, u21_1, u21_3, u21_5, u21_8, u21_9, u21_12, u21_13, u21_14, u21_15, u21_16, u21_19, u21_20, u21_21, u21_23, u21_24, u21_25, u21_26, u21_29, u21_32, nn_le, Nat.le_refl]
    rfl
  | succ m ih =>
    intro a G hI hm
    have h1 : ¬ 10 ≤ a := by omega
    have hj := hI.2.1 a (by omega)
    have hq : G 1 a / 10 ≤ G 1 a := Nat.div_le_self _ _
    rw [u21_2, soup, ← ih (a + 1) (up G 1 a (G 1 a - G 1 a / 10)) (hI.u1 (by omega)) (by omega)]
    simp (disch := first | omega | decide | assumption | exact nI0_01 | exact nI1_01 | exact bz_01 _ | exact rf1 | exact rf11 | exact rf21) only [Option.bind_some, List.cons_append, List.nil_append, Nat.reduceAdd, Nat.reduceMul, Nat.reduceLeDiff, Nat.reduceEqDiff, ↓reduceIte, n21, u21_0, u21_1, u21_3, u21_5, u21_8, u21_9, u21_12, u21_13, u21_14, u21_15, u21_16, u21_19, u21_20, u21_21, u21_23, u21_24, u21_25, u21_26, u21_29, u21_32, nn_le, h1, if_false, R_1, pk_div, nn_sub, R_s1, nI_add]
theorem c_cookSoup {o : Nat} {w : Wd} {G : Gs} (ho : rfB o) (hI : Iv G) : CALL 21 [.ref o] (putR w o G) = some ([], putR w o (soup 10 0 G)) := by
  simp (disch := first | omega | decide | assumption | exact nI0_01 | exact nI1_01 | exact bz_01 _ | exact rf1 | exact rf11 | exact rf21) only [Option.bind_some, List.cons_append, List.nil_append, Nat.reduceAdd, Nat.reduceMul, Nat.reduceLeDiff, Nat.reduceEqDiff, ↓reduceIte, n21, u21_0, u21_1, u21_3, u21_5, u21_8, u21_9, u21_12, u21_13, u21_14, u21_15, u21_16, u21_19, u21_20, u21_21, u21_23, u21_24, u21_25, u21_26, u21_29, u21_32]
  exact soup_loop ho 10 0 G hI rfl
theorem dw_loop {o s n : Nat} {x2 : Option Value} {w : Wd} (ho : rfB o) (hs : s < 2147483648) (hn : n ≤ 8) : ∀ (m a : Nat) (G : Gs), Iv G → m + a = n → G 0 0 = n → RUN 17 31 [some (.ref o), some (.int (nI s)), some (.int (nI a))] [] [] (putR w o G) = RUN 17 58 [some (.ref o), some (.int (nI s)), some (.int (nI n))] [] [] (putR w o (wph s m a G)) := by
  intro m
  induction m with
  | zero =>
    intro a G hI hm hN
    have e : a = n := by omega
    subst e
    rw [u17_31]
    simp (disch := first | omega | decide | assumption | exact nI0_01 | exact nI1_01 | exact bz_01 _ | exact rf1 | exact rf11 | exact rf21) only [Option.bind_some, List.cons_append, List.nil_append, Nat.reduceAdd, Nat.reduceMul, Nat.reduceLeDiff, Nat.reduceEqDiff, ↓reduceIte, u17_32, u17_33, u17_36, u17_39, u17_40, u17_41, u17_42, u17_43, u17_44, u17_47, u17_48, u17_49, u17_52, u17_55, R_9, hN, nn_le, Nat.le_refl]
    rfl
  | succ m ih =>
    intro a G hI hm hN
    have h1 : ¬ n ≤ a := by omega
    have hq : s / 2 ^ a ≤ s := Nat.div_le_self _ _
    rw [u17_31]
    cases hA : aw s a with
    | true =>
      have h2 : ¬ s / 2 ^ a % 2 = 0 := by have := aw_t hA; omega
      have ew : wph s (m + 1) a G = wph s m (a + 1) G := by rw [wph, hA]; rfl
      rw [ew, ← ih (a + 1) G hI (by omega) hN]
      simp (disch := first | omega | decide | assumption | exact nI0_01 | exact nI1_01 | exact bz_01 _ | exact rf1 | exact rf11 | exact rf21) only [Option.bind_some, List.cons_append, List.nil_append, Nat.reduceAdd, Nat.reduceMul, Nat.reduceLeDiff, Nat.reduceEqDiff, ↓reduceIte, u17_32, u17_33, u17_36, u17_39, u17_40, u17_41, u17_42, u17_43, u17_44, u17_47, u17_48, u17_49, u17_52, u17_55, R_9, hN, nn_le, h1, if_false, sh_r, nn_eq0, h2, not_false_eq_true, if_true, nI_add]
    | false =>
      have h2 : s / 2 ^ a % 2 = 0 := by have := aw_f hA; omega
      have hf2 := wrN_fr a (wrt (G 4 a) (G 7 a)) G
      have ew : wph s (m + 1) a G = wph s m (a + 1) (wrN a (wrt (G 4 a) (G 7 a)) G) := by rw [wph, hA]; rfl
      rw [ew, ← ih (a + 1) (wrN a (wrt (G 4 a) (G 7 a)) G) (Iv.wrN (by omega) _ hI) (by omega) (by rw [hf2 0 (by omega) (by omega) (by omega) (by omega)]; exact hN)]
      simp (disch := first | omega | decide | assumption | exact nI0_01 | exact nI1_01 | exact bz_01 _ | exact rf1 | exact rf11 | exact rf21) only [Option.bind_some, List.cons_append, List.nil_append, Nat.reduceAdd, Nat.reduceMul, Nat.reduceLeDiff, Nat.reduceEqDiff, ↓reduceIte, u17_32, u17_33, u17_36, u17_39, u17_40, u17_41, u17_42, u17_43, u17_44, u17_47, u17_48, u17_49, u17_52, u17_55, R_9, hN, nn_le, h1, if_false, sh_r, nn_eq0, h2, not_true_eq_false, c_writeLetters ho hI, nI_add]
theorem sat2' {a : Nat} (h : a ≤ 99) : (if nI 0 < nI a - nI 2 then nI a - nI 2 else nI 0) = nI (a - 2) := by
  have key : ∀ n, n < 100 → (if nI 0 < nI n - nI 2 then nI n - nI 2 else nI 0) = nI (n - 2) := by decide
  exact key a (by omega)
theorem df_loop {o s n : Nat} {w : Wd} (ho : rfB o) (hn : n ≤ 8) : ∀ (m a : Nat) (G : Gs), Iv G → m + a = n → G 0 0 = n → RUN 17 60 [some (.ref o), some (.int (nI s)), some (.int (nI a))] [] [] (putR w o G) = RUN 17 92 [some (.ref o), some (.int (nI s)), some (.int (nI n))] [] [] (putR w o (fph m a G)) := by
  intro m
  induction m with
  | zero =>
    intro a G hI hm hN
    have e : a = n := by omega
    subst e
    rw [u17_60]
    simp (disch := first | omega | decide | assumption | exact nI0_01 | exact nI1_01 | exact bz_01 _ | exact rf1 | exact rf11 | exact rf21) only [Option.bind_some, List.cons_append, List.nil_append, Nat.reduceAdd, Nat.reduceMul, Nat.reduceLeDiff, Nat.reduceEqDiff, ↓reduceIte, u17_61, u17_62, u17_65, u17_68, u17_69, u17_72, u17_73, u17_74, u17_75, u17_78, u17_79, u17_80, u17_81, u17_82, u17_85, u17_86, u17_89, R_9, hN, nn_le, Nat.le_refl]
    rfl
  | succ m ih =>
    intro a G hI hm hN
    have h1 : ¬ n ≤ a := by omega
    have hw := hI.2.2.2.2 a (by omega)
    rw [u17_60, fph, ← ih (a + 1) (up G 7 a (G 7 a - 2)) (hI.uw (Or.inr (Or.inr (Or.inr (Or.inl ⟨rfl, by omega⟩))))) (by omega) (by rw [up_nc G (by omega)]; exact hN)]
    simp (disch := first | omega | decide | assumption | exact nI0_01 | exact nI1_01 | exact bz_01 _ | exact rf1 | exact rf11 | exact rf21) only [Option.bind_some, List.cons_append, List.nil_append, Nat.reduceAdd, Nat.reduceMul, Nat.reduceLeDiff, Nat.reduceEqDiff, ↓reduceIte, u17_61, u17_62, u17_65, u17_68, u17_69, u17_72, u17_73, u17_74, u17_75, u17_78, u17_79, u17_80, u17_81, u17_82, u17_85, u17_86, u17_89, R_9, hN, nn_le, h1, if_false, R_7, sat2', R_s7, nI_add]
theorem c_day {o s : Nat} {w : Wd} {G : Gs} (ho : rfB o) (hI : Iv G) (hs : s < 2147483648) (hd : G 0 1 < 90000) : CALL 17 [.ref o, .int (nI s)] (putR w o G) = some ([], putR w o (day s G)) := by
  have hf : G 0 1 % 6 < 6 := Nat.mod_lt _ (by omega)
  have hb := hI.2.2.1 _ hf
  have hc := hI.2.2.2.1 _ hf
  have f1 := day1_fr s G
  have h2 := dw_loop (x2 := none) (w := w) ho hs hI.1 (G 0 0) 0 (day1 s G) (hI.day1 s) (by omega) (by rw [f1 0 (by omega) (by omega) (by omega) (by omega)])
  have f2 := day2_fr s G
  have h3 := df_loop (s := s) (w := w) ho hI.1 (G 0 0) 0 (day2 s G) (hI.day2 s) (by omega) (by rw [f2 0 (by omega) (by omega) (by omega) (by omega)])
  have f3 := day3_fr s G
  have e3 : day3 s G 0 1 = G 0 1 := by rw [f3 0 (by omega) (by omega) (by omega) (by omega)]
  have e4 : day4 s G 0 1 = G 0 1 + 1 := up_at _ _ _ _
  have hI4 : Iv (day4 s G) := (hI.day3 s).u0 (by omega)
  have hE : eph s (G 2 (G 0 1 % 6)) (G 0 0) 0 (G 3 (G 0 1 % 6)) G = day1 s G := rfl
  have hW : wph s (G 0 0) 0 (day1 s G) = day2 s G := rfl
  have hF : fph (G 0 0) 0 (day2 s G) = day3 s G := rfl
  have hD : up (day3 s G) 0 1 (G 0 1 + 1) = day4 s G := rfl
  rw [hW] at h2
  rw [hF] at h3
  simp (disch := first | omega | decide | assumption | exact nI0_01 | exact nI1_01 | exact bz_01 _ | exact rf1 | exact rf11 | exact rf21) only [Option.bind_some, List.cons_append, List.nil_append, Nat.reduceAdd, Nat.reduceMul, Nat.reduceLeDiff, Nat.reduceEqDiff, ↓reduceIte, u17_0, u17_1, u17_2, u17_5, u17_6, u17_9, u17_11, u17_12, u17_13, u17_14, u17_17, u17_18, u17_21, u17_23, u17_24, u17_25, u17_26, u17_29, u17_30, n17, R_10, pk_div, nn_rem, R_3, R_2, c_eatCatch ho hI, hE]
  rw [h2]
  simp (disch := first | omega | decide | assumption | exact nI0_01 | exact nI1_01 | exact bz_01 _ | exact rf1 | exact rf11 | exact rf21) only [Option.bind_some, List.cons_append, List.nil_append, Nat.reduceAdd, Nat.reduceMul, Nat.reduceLeDiff, Nat.reduceEqDiff, ↓reduceIte, u17_58, u17_59]
  rw [h3]
  have hmin : min 99999 (G 0 1 + 1) = G 0 1 + 1 := by omega
  by_cases h7 : (G 0 1 + 1) % 7 = 0
  · simp (disch := first | omega | decide | assumption | exact nI0_01 | exact nI1_01 | exact bz_01 _ | exact rf1 | exact rf11 | exact rf21) only [Option.bind_some, List.cons_append, List.nil_append, Nat.reduceAdd, Nat.reduceMul, Nat.reduceLeDiff, Nat.reduceEqDiff, ↓reduceIte, u17_92, u17_93, u17_95, u17_96, u17_99, u17_100, u17_101, u17_104, u17_107, u17_108, u17_111, u17_113, u17_114, u17_117, u17_118, u17_121, R_10, e3, nI_add, n_min', hmin, R_s10, hD, e4, pk_div, nn_rem, nn_eq0, h7, not_true_eq_false, c_cookSoup ho hI4]
    rw [day, if_pos h7]
  · simp (disch := first | omega | decide | assumption | exact nI0_01 | exact nI1_01 | exact bz_01 _ | exact rf1 | exact rf11 | exact rf21) only [Option.bind_some, List.cons_append, List.nil_append, Nat.reduceAdd, Nat.reduceMul, Nat.reduceLeDiff, Nat.reduceEqDiff, ↓reduceIte, u17_92, u17_93, u17_95, u17_96, u17_99, u17_100, u17_101, u17_104, u17_107, u17_108, u17_111, u17_113, u17_114, u17_117, u17_118, u17_121, R_10, e3, nI_add, n_min', hmin, R_s10, hD, e4, pk_div, nn_rem, nn_eq0, h7, not_false_eq_true, if_true]
    rw [day, if_neg h7]
theorem pd_loop {o s n : Nat} {w : Wd} (ho : rfB o) (hs : s < 2147483648) (hn : n ≤ 100) : ∀ (m k : Nat) (G : Gs), Iv G → m + k = n → G 0 1 ≤ 40000 + k → RUN 16 2 [some (.ref o), some (.int (nI n)), some (.int (nI s)), some (.int (nI k))] [] [] (putR w o G) = some ([], putR w o (days s m G)) := by
  intro m
  induction m with
  | zero =>
    intro k G hI hm hd
    have e : k = n := by omega
    subst e
    rw [u16_2]
    simp (disch := first | omega | decide | assumption | exact nI0_01 | exact nI1_01 | exact bz_01 _ | exact rf1 | exact rf11 | exact rf21) only [Option.bind_some, List.cons_append, List.nil_append, Nat.reduceAdd, Nat.reduceMul, Nat.reduceLeDiff, Nat.reduceEqDiff, ↓reduceIte, n16, u16_0, u16_1, u16_3, u16_4, u16_7, u16_8, u16_9, u16_12, u16_15, u16_18, nn_le, Nat.le_refl]
    rfl
  | succ m ih =>
    intro k G hI hm hd
    have h1 : ¬ n ≤ k := by omega
    rw [u16_2]
    simp (disch := first | omega | decide | assumption | exact nI0_01 | exact nI1_01 | exact bz_01 _ | exact rf1 | exact rf11 | exact rf21) only [Option.bind_some, List.cons_append, List.nil_append, Nat.reduceAdd, Nat.reduceMul, Nat.reduceLeDiff, Nat.reduceEqDiff, ↓reduceIte, n16, u16_0, u16_1, u16_3, u16_4, u16_7, u16_8, u16_9, u16_12, u16_15, u16_18, nn_le, h1, if_false, c_day ho hI, nI_add]
    exact ih (k + 1) (day s G) (hI.day s) (by omega) (by rw [day_01]; omega)
theorem c_passDays {o s n : Nat} {w : Wd} {G : Gs} (ho : rfB o) (hI : Iv G) (hs : s < 2147483648) (hn : n ≤ 100) (hd : G 0 1 ≤ 40000) : CALL 16 [.ref o, .int (nI n), .int (nI s)] (putR w o G) = some ([], putR w o (days s n G)) := by
  simp (disch := first | omega | decide | assumption | exact nI0_01 | exact nI1_01 | exact bz_01 _ | exact rf1 | exact rf11 | exact rf21) only [Option.bind_some, List.cons_append, List.nil_append, Nat.reduceAdd, Nat.reduceMul, Nat.reduceLeDiff, Nat.reduceEqDiff, ↓reduceIte, u16_0, u16_1, n16]
  exact pd_loop ho hs hn n 0 G hI (by omega) (by omega)
