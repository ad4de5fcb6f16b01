/-! THE COMPONENT'S DAY -/
theorem c_eatsK {kd ft at' : Nat} {w : Wd} (hk : kd < 7) (hf : ft < 100) (ha : at' < 4) : CALL 2 [.int (nI kd), .int (nI ft), .int (nI at')] w = some ([.int (nI (eat kd ft at'))], w) := by
  have mx0 : (if nI 0 < nI 1 then nI 1 else nI 0) = nI 1 := by decide
  have mx1 : (if nI 0 < nI 0 - nI 1 then nI 0 - nI 1 else nI 0) = nI 0 := by decide
  have mx2 : nI 2 - nI 1 = nI 1 := by decide
  by_cases h : ft < 60
  · have h' : ¬ 60 ≤ ft := by omega
    rcases kd_cases hk with rfl | rfl | rfl | rfl | rfl | rfl | rfl <;> simp (disch := first | omega | decide | assumption | exact nI0_01 | exact nI1_01 | exact bz_01 _ | exact rf1 | exact rf11 | exact rf21) only [Option.bind_some, List.cons_append, List.nil_append, Nat.reduceAdd, Nat.reduceMul, Nat.reduceLeDiff, Nat.reduceEqDiff, ↓reduceIte, n2, u2_0, u2_1, u2_40, u2_41, u2_44, u2_45, u2_46, u2_47, u2_50, u2_51, u2_52, u2_55, u2_56, u2_57, u2_58, u2_60, u2_61, u2_63, u2_64, u2_65, u2_66, u2_67, u2_68, u2_69, n3, u3_0, u3_1, u3_3, u3_6, u3_7, u3_10, u3_11, nn_eq, nn_lt, h, h', if_true, if_false, mx0, mx1, mx2, nn_sub, eat] <;> (try rfl)
  · have h' : 60 ≤ ft := by omega
    rcases kd_cases hk with rfl | rfl | rfl | rfl | rfl | rfl | rfl <;> simp (disch := first | omega | decide | assumption | exact nI0_01 | exact nI1_01 | exact bz_01 _ | exact rf1 | exact rf11 | exact rf21) only [Option.bind_some, List.cons_append, List.nil_append, Nat.reduceAdd, Nat.reduceMul, Nat.reduceLeDiff, Nat.reduceEqDiff, ↓reduceIte, n2, u2_0, u2_1, u2_40, u2_41, u2_44, u2_45, u2_46, u2_47, u2_50, u2_51, u2_52, u2_55, u2_56, u2_57, u2_58, u2_60, u2_61, u2_63, u2_64, u2_65, u2_66, u2_67, u2_68, u2_69, n3, u3_0, u3_1, u3_3, u3_6, u3_7, u3_10, u3_11, nn_eq, nn_lt, h, h', if_true, if_false, mx0, mx1, mx2, nn_sub, eat] <;> (try rfl)
theorem c_writesK {kd ft : Nat} {w : Wd} (hk : kd < 7) (hf : ft < 100) : CALL 4 [.int (nI kd), .int (nI ft)] w = some ([.int (nI (wrt kd ft))], w) := by
  by_cases h : ft < 20
  · have h3 : ¬ 20 ≤ ft := by omega
    rcases kd_cases hk with rfl | rfl | rfl | rfl | rfl | rfl | rfl <;> by_cases h2 : ft % 2 = 1 <;> simp (disch := first | omega | decide | assumption | exact nI0_01 | exact nI1_01 | exact bz_01 _ | exact rf1 | exact rf11 | exact rf21) only [Option.bind_some, List.cons_append, List.nil_append, Nat.reduceAdd, Nat.reduceMul, Nat.reduceLeDiff, Nat.reduceEqDiff, ↓reduceIte, n4, u4_0, u4_1, u4_40, u4_41, u4_43, u4_46, u4_47, u4_50, u4_51, u4_52, u4_53, u4_54, u4_55, u4_56, u4_57, u4_58, u4_59, u4_60, u4_61, u4_62, u4_65, u4_66, u4_69, u4_70, u4_71, u4_72, nn_eq, nn_lt, nn_le, pk_div, nn_rem, h, h2, h3, wrt, if_true, if_false, not_true_eq_false, not_false_eq_true] <;> (try rfl)
  · have h3 : 20 ≤ ft := by omega
    rcases kd_cases hk with rfl | rfl | rfl | rfl | rfl | rfl | rfl <;> by_cases h2 : ft % 2 = 1 <;> simp (disch := first | omega | decide | assumption | exact nI0_01 | exact nI1_01 | exact bz_01 _ | exact rf1 | exact rf11 | exact rf21) only [Option.bind_some, List.cons_append, List.nil_append, Nat.reduceAdd, Nat.reduceMul, Nat.reduceLeDiff, Nat.reduceEqDiff, ↓reduceIte, n4, u4_0, u4_1, u4_40, u4_41, u4_43, u4_46, u4_47, u4_50, u4_51, u4_52, u4_53, u4_54, u4_55, u4_56, u4_57, u4_58, u4_59, u4_60, u4_61, u4_62, u4_65, u4_66, u4_69, u4_70, u4_71, u4_72, nn_eq, nn_lt, nn_le, pk_div, nn_rem, h, h2, h3, wrt, if_true, if_false, not_true_eq_false, not_false_eq_true] <;> (try rfl)
theorem c_eats {o a : Nat} {w : Wd} {G : Gs} (ho : rfB o) (hI : Iv G) (ha : a < 8) : CALL 11 [.ref o, .int (nI a)] (putR w o G) = some ([.int (nI (eat (G 4 a) (G 7 a) (G 6 a)))], putR w o G) := by
  have hw := hI.2.2.2.2 a ha
  simp (disch := first | omega | decide | assumption | exact nI0_01 | exact nI1_01 | exact bz_01 _ | exact rf1 | exact rf11 | exact rf21) only [Option.bind_some, List.cons_append, List.nil_append, Nat.reduceAdd, Nat.reduceMul, Nat.reduceLeDiff, Nat.reduceEqDiff, ↓reduceIte, n11, u11_0, u11_1, u11_4, u11_5, u11_6, u11_7, u11_10, u11_11, u11_12, u11_13, u11_16, u11_17, u11_18, u11_21, R_4, R_7, R_6, c_eatsK]
theorem c_writes {o a : Nat} {w : Wd} {G : Gs} (ho : rfB o) (hI : Iv G) (ha : a < 8) : CALL 12 [.ref o, .int (nI a)] (putR w o G) = some ([.int (nI (wrt (G 4 a) (G 7 a)))], putR w o G) := by
  have hw := hI.2.2.2.2 a ha
  simp (disch := first | omega | decide | assumption | exact nI0_01 | exact nI1_01 | exact bz_01 _ | exact rf1 | exact rf11 | exact rf21) only [Option.bind_some, List.cons_append, List.nil_append, Nat.reduceAdd, Nat.reduceMul, Nat.reduceLeDiff, Nat.reduceEqDiff, ↓reduceIte, n12, u12_0, u12_1, u12_4, u12_5, u12_6, u12_7, u12_10, u12_11, u12_12, u12_15, R_4, R_7, c_writesK]
theorem c_next {o a : Nat} {w : Wd} {G : Gs} (ho : rfB o) (hI : Iv G) (ha : a < 8) : CALL 13 [.ref o, .int (nI a)] (putR w o G) = some ([.int (nI (dg (G 5 a) (G 6 a)))], putR w o G) := by
  have hw := hI.2.2.2.2 a ha
  simp (disch := first | omega | decide | assumption | exact nI0_01 | exact nI1_01 | exact bz_01 _ | exact rf1 | exact rf11 | exact rf21) only [Option.bind_some, List.cons_append, List.nil_append, Nat.reduceAdd, Nat.reduceMul, Nat.reduceLeDiff, Nat.reduceEqDiff, ↓reduceIte, n13, u13_0, u13_1, u13_4, u13_5, u13_6, u13_7, u13_10, u13_11, u13_12, u13_15, R_5, R_6, c_digit]
theorem n_min {a b : Nat} (ha : a < 2147483648) (hb : b < 2147483648) : (if nI a < nI b then nI a else nI b) = nI (min a b) := by
  by_cases h : a < b
  · rw [if_pos (by rw [nn_lt ha hb]; exact h), Nat.min_eq_left (by omega)]
  · rw [if_neg (by rw [nn_lt ha hb]; exact h), Nat.min_eq_right (by omega)]
theorem n_min' {a b : Nat} (ha : a < 2147483648) (hb : b < 2147483648) : (if nI b < nI a then nI b else nI a) = nI (min a b) := by
  rw [n_min hb ha, Nat.min_comm]
theorem n_max' {a b : Nat} (ha : a < 2147483648) (hb : b < 2147483648) : (if nI a < nI b then nI b else nI a) = nI (max a b) := by
  by_cases h : a < b
  · rw [if_pos (by rw [nn_lt ha hb]; exact h), Nat.max_eq_right (by omega)]
  · rw [if_neg (by rw [nn_lt ha hb]; exact h), Nat.max_eq_left (by omega)]
theorem ck_body {o kd b n p : Nat} {x5 : Option Value} {w : Wd} {G : Gs} (ho : rfB o) (hI : Iv G) (hk : kd < 7) (hb : b ≤ 999) (hn : n ≤ 1000) (hp : p < 3) : RUN 19 3 [some (.ref o), some (.int (nI kd)), some (.int (nI b)), some (.int (nI n)), some (.int (nI p)), x5] [] [] (putR w o G) = RUN 19 3 [some (.ref o), some (.int (nI kd)), some (.int (nI b)), some (.int (nI n)), some (.int (nI (p + 1))), some (.int (nI (dg b (p + 1))))] [] [] (putR w o (kb1 kd b n p G)) := by
  have hl := dg_lt b (p + 1)
  have hj := hI.2.1 _ hl
  have h1 : ¬ 3 ≤ p := by omega
  rw [u19_3]
  unfold kb1
  cases hk2 : kp kd p (dg b (p + 1)) with
  | true => simp (disch := first | omega | decide | assumption | exact nI0_01 | exact nI1_01 | exact bz_01 _ | exact rf1 | exact rf11 | exact rf21) only [Option.bind_some, List.cons_append, List.nil_append, Nat.reduceAdd, Nat.reduceMul, Nat.reduceLeDiff, Nat.reduceEqDiff, ↓reduceIte, n19, u19_0, u19_1, u19_5, u19_6, u19_9, u19_10, u19_12, u19_15, u19_17, u19_18, u19_20, u19_22, u19_25, u19_28, u19_29, u19_32, u19_34, u19_37, u19_38, u19_41, u19_43, u19_44, u19_45, u19_46, u19_49, u19_50, u19_53, u19_56, nn_le, h1, if_false, c_bone, c_isKept, hk2, bz_t, bz_f, nn_eq0, nn_eq, eq_self, not_true_eq_false, not_false_eq_true, nI_add, R_1, n_min', R_s1]
  | false => simp (disch := first | omega | decide | assumption | exact nI0_01 | exact nI1_01 | exact bz_01 _ | exact rf1 | exact rf11 | exact rf21) only [Option.bind_some, List.cons_append, List.nil_append, Nat.reduceAdd, Nat.reduceMul, Nat.reduceLeDiff, Nat.reduceEqDiff, ↓reduceIte, n19, u19_0, u19_1, u19_5, u19_6, u19_9, u19_10, u19_12, u19_15, u19_17, u19_18, u19_20, u19_22, u19_25, u19_28, u19_29, u19_32, u19_34, u19_37, u19_38, u19_41, u19_43, u19_44, u19_45, u19_46, u19_49, u19_50, u19_53, u19_56, nn_le, h1, if_false, c_bone, c_isKept, hk2, bz_t, bz_f, nn_eq0, nn_eq, eq_self, not_true_eq_false, not_false_eq_true, nI_add, Bool.false_eq_true]
theorem c_keepBones {o kd b n : Nat} {w : Wd} {G : Gs} (ho : rfB o) (hI : Iv G) (hk : kd < 7) (hb : b ≤ 999) (hn : n ≤ 1000) : CALL 19 [.ref o, .int (nI kd), .int (nI b), .int (nI n)] (putR w o G) = some ([], putR w o (kb kd b n G)) := by
  have e0 := ck_body (p := 0) (x5 := none) (w := w) ho hI hk hb hn (by omega)
  have e1 := ck_body (p := 1) (x5 := some (.int (nI (dg b 1)))) (w := w) ho (hI.kb1 kd b n 0) hk hb hn (by omega)
  have e2 := ck_body (p := 2) (x5 := some (.int (nI (dg b 2)))) (w := w) ho ((hI.kb1 kd b n 0).kb1 kd b n 1) hk hb hn (by omega)
  simp only [Nat.reduceAdd] at e0 e1 e2
  simp (disch := first | omega | decide | assumption | exact nI0_01 | exact nI1_01 | exact bz_01 _ | exact rf1 | exact rf11 | exact rf21) only [Option.bind_some, List.cons_append, List.nil_append, Nat.reduceAdd, Nat.reduceMul, Nat.reduceLeDiff, Nat.reduceEqDiff, ↓reduceIte, u19_0, u19_1, n19]
  rw [e0, e1, e2, u19_3]
  have ek : kb1 kd b n 2 (kb1 kd b n 1 (kb1 kd b n 0 G)) = kb kd b n G := rfl
  rw [ek]
  simp (disch := first | omega | decide | assumption | exact nI0_01 | exact nI1_01 | exact bz_01 _ | exact rf1 | exact rf11 | exact rf21) only [Option.bind_some, List.cons_append, List.nil_append, Nat.reduceAdd, Nat.reduceMul, Nat.reduceLeDiff, Nat.reduceEqDiff, ↓reduceIte, n19, u19_0, u19_1, u19_5, u19_6, u19_9, u19_10, u19_12, u19_15, u19_17, u19_18, u19_20, u19_22, u19_25, u19_28, u19_29, u19_32, u19_34, u19_37, u19_38, u19_41, u19_43, u19_44, u19_45, u19_46, u19_49, u19_50, u19_53, u19_56, nn_le, Nat.le_refl]
/-! FISH BY FISH, OR ALL AT ONCE -/
def cn (kd b l : Nat) : Nat := (if kp kd 0 (dg b 1) = true ∧ dg b 1 = l then 1 else 0) + (if kp kd 1 (dg b 2) = true ∧ dg b 2 = l then 1 else 0) + (if kp kd 2 (dg b 3) = true ∧ dg b 3 = l then 1 else 0)
theorem kb1_c {kd b n p : Nat} {G : Gs} {c : Nat} (h : c ≠ 1) : kb1 kd b n p G c = G c := by
  unfold kb1
  split
  · funext j; rw [up_nc G h]
  · rfl
theorem kb1_1 {kd b n p : Nat} {G : Gs} {l : Nat} (hl : G 1 l ≤ 999) : kb1 kd b n p G 1 l = min 999 (G 1 l + n * (if kp kd p (dg b (p + 1)) = true ∧ dg b (p + 1) = l then 1 else 0)) := by
  unfold kb1
  by_cases h : kp kd p (dg b (p + 1)) = true
  · rw [if_pos h]
    by_cases h2 : dg b (p + 1) = l
    · rw [if_pos ⟨h, h2⟩, h2, up_at, Nat.mul_one]
    · rw [if_neg (fun z => h2 z.2), up_nk G (fun z => h2 z.symm)]
      omega
  · rw [if_neg h, if_neg (fun z => h z.1)]
    omega
theorem kb_c {kd b n : Nat} {G : Gs} {c : Nat} (h : c ≠ 1) : kb kd b n G c = G c := by
  unfold kb
  rw [kb1_c h, kb1_c h, kb1_c h]
theorem kb_1 {kd b n : Nat} {G : Gs} {l : Nat} (hl : G 1 l ≤ 999) : kb kd b n G 1 l = min 999 (G 1 l + n * cn kd b l) := by
  have e0 := kb1_1 (kd := kd) (b := b) (n := n) (p := 0) hl
  have l0 : kb1 kd b n 0 G 1 l ≤ 999 := by rw [e0]; exact Nat.min_le_left _ _
  have e1 := kb1_1 (kd := kd) (b := b) (n := n) (p := 1) l0
  have l1 : kb1 kd b n 1 (kb1 kd b n 0 G) 1 l ≤ 999 := by rw [e1]; exact Nat.min_le_left _ _
  have e2 := kb1_1 (kd := kd) (b := b) (n := n) (p := 2) l1
  unfold kb
  rw [e2, e1, e0]
  unfold cn
  simp only [Nat.reduceAdd]
  generalize (if kp kd 0 (dg b 1) = true ∧ dg b 1 = l then 1 else 0) = x
  generalize (if kp kd 1 (dg b 2) = true ∧ dg b 2 = l then 1 else 0) = y
  generalize (if kp kd 2 (dg b 3) = true ∧ dg b 3 = l then 1 else 0) = z
  rw [Nat.mul_add, Nat.mul_add]
  omega
theorem kb_hi {kd b n : Nat} {G : Gs} {l : Nat} (hl : 10 ≤ l) : kb kd b n G 1 l = G 1 l := by
  have e : ∀ p G', kb1 kd b n p G' 1 l = G' 1 l := fun p G' => by
    have := dg_lt b (p + 1)
    unfold kb1
    split
    · rw [up_nk G' (by omega)]
    · rfl
  unfold kb
  rw [e, e, e]
theorem kb_0 {kd b : Nat} {G : Gs} (hI : Iv G) : kb kd b 0 G = G := by
  funext c l
  by_cases h : c = 1
  · subst h
    by_cases hl : l < 10
    · have := hI.2.1 l hl
      rw [kb_1 this, Nat.zero_mul]
      omega
    · exact kb_hi (by omega)
  · rw [kb_c h]
theorem kb_add {kd b m n : Nat} {G : Gs} (hI : Iv G) : kb kd b n (kb kd b m G) = kb kd b (m + n) G := by
  funext c l
  by_cases h : c = 1
  · subst h
    by_cases hl : l < 10
    · have h1 := hI.2.1 l hl
      have e1 := kb_1 (kd := kd) (b := b) (n := m) h1
      rw [kb_1 (by rw [e1]; exact Nat.min_le_left _ _), e1, kb_1 h1, Nat.add_mul]
      omega
    · rw [kb_hi (by omega), kb_hi (by omega), kb_hi (by omega)]
  · rw [kb_c h, kb_c h, kb_c h]
theorem kb_up {kd b n a v : Nat} {G : Gs} (hI : Iv G) : kb kd b n (up G 7 a v) = up (kb kd b n G) 7 a v := by
  have hu : ∀ l, up G 7 a v 1 l = G 1 l := fun l => up_nc G (by omega)
  funext c l
  by_cases h : c = 1
  · subst h
    rw [up_nc _ (by omega)]
    by_cases hl : l < 10
    · have h1 := hI.2.1 l hl
      rw [kb_1 (by rw [hu]; exact h1), hu, kb_1 h1]
    · rw [kb_hi (by omega), hu, kb_hi (by omega)]
  · rw [kb_c h]
    unfold up
    rw [kb_c h]
theorem eatN_all {a b : Nat} (ha : a < 8) : ∀ (n : Nat) (G : Gs), Iv G → eatN a b n G = up (kb (G 4 a) b n G) 7 a (min 99 (G 7 a + 3 * n))
  | 0, G, hI => by
    have hw := hI.2.2.2.2 a ha
    rw [eatN, kb_0 hI, up_id G (by omega)]
  | n + 1, G, hI => by
    have h4 : eat1 a b G 4 a = G 4 a := by
      unfold eat1
      rw [up_nc _ (by omega), kb_c (by omega)]
    have h7 : eat1 a b G 7 a = min 99 (G 7 a + 3) := up_at _ _ _ _
    rw [eatN, eatN_all ha n _ (hI.eat1 a b), h4, h7]
    unfold eat1
    rw [kb_up (hI.kb _ _ _), up_up, kb_add hI, Nat.add_comm 1 n]
    congr 1
    omega
