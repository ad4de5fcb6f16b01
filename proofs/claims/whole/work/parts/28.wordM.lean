/-! A WORD WITH ANOTHER LETTER -/
def setdg (v p l : Nat) : Nat := v - dg v p * tens p + l * tens p
theorem dg_le (v : Nat) {p : Nat} : dg v p * tens p ≤ v := by
  unfold dg
  have h1 : v / tens p % 10 * tens p ≤ v / tens p * tens p := Nat.mul_le_mul_right _ (Nat.mod_le _ _)
  have h2 := Nat.div_mul_le_self v (tens p)
  omega
theorem t_cases {p : Nat} (hp : p < 4) : p = 0 ∨ p = 1 ∨ p = 2 ∨ p = 3 := by omega
theorem setdg_lt {v p l : Nat} (hv : v < 10000) (hp : p < 4) (hl : l < 10) : setdg v p l < 10000 := by
  rcases t_cases hp with rfl | rfl | rfl | rfl <;> simp only [setdg, dg, tens] <;> omega
theorem dg_setdg {v p l : Nat} (hv : v < 10000) (hp : p < 4) (hl : l < 10) : dg (setdg v p l) p = l := by
  rcases t_cases hp with rfl | rfl | rfl | rfl <;> simp only [setdg, dg, tens] <;> omega
theorem setdg_2 {v p l l' : Nat} (hv : v < 10000) (hp : p < 4) (hl : l < 10) : setdg (setdg v p l) p l' = setdg v p l' := by
  have h := dg_setdg hv hp hl
  have h2 := dg_le v (p := p)
  show setdg v p l - dg (setdg v p l) p * tens p + l' * tens p = setdg v p l'
  rw [h]
  unfold setdg
  omega
theorem set_int {v p l : Nat} (hp : p < 4) (hl : l < 10) : nI v + (nI l - nI (dg v p)) * nI (tens p) = nI (setdg v p l) := by
  have hd := dg_lt v p
  have hle := dg_le v (p := p)
  have key : ∀ p, p < 4 → ∀ l, l < 10 → ∀ d, d < 10 → nI (d * tens p) + (nI l - nI d) * nI (tens p) = nI (l * tens p) := by decide
  have e : nI v = nI (v - dg v p * tens p) + nI (dg v p * tens p) := by rw [nI_add]; congr 1; omega
  rw [e, Int32.add_assoc, key p hp l hl _ hd, nI_add]
  rfl
theorem x_wordWith {a l : Nat} {w : Wd} {A : Gs} (hI : Iv A) (ha : a < 8) (hl : l < 10) : CALL 153 [.ref 44, .int (nI a), .int (nI l)] (putS w A) = some ([.int (nI (setdg (A 5 a) (A 6 a) l))], putS w A) := by
  have hw := hI.2.2.2.2 a ha
  rw [← set_int hw.2.2.1 hl]
  rcases t_cases hw.2.2.1 with q | q | q | q <;> simp (disch := first | omega | decide | exact nI0_01 | exact nI1_01 | exact bz_01 _) only [Option.bind_some, List.cons_append, List.nil_append, Nat.reduceAdd, Nat.reduceMul, Nat.reduceLeDiff, Nat.reduceEqDiff, ↓reduceIte, n153, u153_0, u153_1, u153_2, u153_3, u153_6, u153_9, u153_12, u153_15, u153_16, u153_17, u153_18, u153_21, u153_22, u153_25, u153_27, u153_30, u153_31, u153_32, u153_33, u153_36, u153_37, u153_40, u153_42, u153_45, u153_46, u153_47, u153_48, u153_49, u153_50, u153_53, u153_54, u153_55, u153_56, u153_59, u153_60, u153_61, u153_62, u153_63, s_its, bz_t, bz_f, nn_eq0, nn_eq, eq_self, not_true_eq_false, not_false_eq_true, q, x_next, tens]
theorem x_isAsked {x n : Int32} {w : Wd} {A : Gs} (hI : Iv A) : CALL 154 [.ref 44, .int x, .int n] (putS w A) = some ([.int (bz (isW A x && ok n 40))], putS w A) := by
  cases h1 : isW A x <;> cases h2 : ok n 40 <;> simp (disch := first | omega | decide | exact nI0_01 | exact nI1_01 | exact bz_01 _) only [Option.bind_some, List.cons_append, List.nil_append, Nat.reduceAdd, Nat.reduceMul, Nat.reduceLeDiff, Nat.reduceEqDiff, ↓reduceIte, n154, u154_0, u154_1, u154_2, u154_5, u154_8, u154_9, u154_10, u154_11, u154_14, u154_17, u154_20, u154_21, u154_24, u154_25, x_isWriter hI.1, xin_1, xin_2, xin_3, xin_4, xin_5, xin_6, xin_7, xin_9, xin_20, xin_40, xin_99, xin_100, xin_999, xin_9999, xin_1_60, xin_1_20, xin_1_4, xin_2_4, xin_v, h1, h2, bz_t, bz_f, nn_eq0, nn_eq, eq_self, not_true_eq_false, not_false_eq_true, Bool.and_true, Bool.and_false]
theorem asked_f {A : Gs} {x n : Int32} (h : ¬ (isW A x = true ∧ ok n 40 = true)) : (isW A x && ok n 40) = false := by
  cases h1 : isW A x <;> cases h2 : ok n 40 <;> simp_all
def o_kindFor (A : Gs) (x n : Int32) : Int32 × Gs := if isW A x = true ∧ ok n 40 = true then (bst (fun k => nI (days 0 (ix n) (up A 4 (ix x) k) 8 (ix x))) 7 0 (nI 0) (-1), A) else bad A 0
def o_letterFor (A : Gs) (x n : Int32) : Int32 × Gs := if isW A x = true ∧ ok n 40 = true then (bst (fun l => nI (days 0 (ix n) (up A 5 (ix x) (setdg (A 5 (ix x)) (A 6 (ix x)) l)) 8 (ix x))) 10 0 (nI 0) (-1), A) else bad A 0
theorem kindFor_loop {a n : Nat} {w : Wd} {A : Gs} (hI : Iv A) (ha : a < 8) (hn : n ≤ 40) (hd : A 0 1 ≤ 40000) : ∀ (m k c : Nat) (b t : Int32) (x7 : Option Value) (g : Nat → Int32), m + k = 7 → ∃ g', RUN 156 32 [some (.ref 44), some (.int (nI a)), some (.int (nI n)), some (.int (nI (A 4 a))), some (.int b), some (.int t), some (.int (nI k)), x7] [] [] (putS (put w 48 g) (up A 4 a c)) = some ([.int (bst (fun k => nI (days 0 n (up A 4 a k) 8 a)) m k b t)], putS (put w 48 g') A) := by
  intro m
  induction m with
  | zero =>
    intro k c b t x7 g hm
    have e : k = 7 := by omega
    subst e
    refine ⟨g, ?_⟩
    have h1 : 6 < 7 := by omega
    rw [u156_32]
    simp (disch := first | omega | decide | exact nI0_01 | exact nI1_01 | exact bz_01 _) only [Option.bind_some, List.cons_append, List.nil_append, Nat.reduceAdd, Nat.reduceMul, Nat.reduceLeDiff, Nat.reduceEqDiff, ↓reduceIte, n156, u156_0, u156_1, u156_2, u156_3, u156_6, u156_9, u156_10, u156_12, u156_15, u156_16, u156_17, u156_18, u156_19, u156_22, u156_23, u156_24, u156_26, u156_27, u156_29, u156_30, u156_34, u156_36, u156_39, u156_40, u156_43, u156_44, u156_45, u156_48, u156_50, u156_51, u156_52, u156_53, u156_54, u156_57, u156_58, u156_61, u156_63, u156_65, u156_67, u156_70, u156_72, u156_75, u156_77, u156_79, u156_81, u156_83, u156_86, u156_88, u156_91, u156_94, u156_95, u156_98, u156_99, u156_100, u156_103, u156_104, u156_105, u156_107, nn_lt, nn_le, h1, if_true, x_at, putS_sw, up_up, up_id A rfl]
    rfl
  | succ m ih =>
    intro k c b t x7 g hm
    have h1 : ¬ 6 < k := by omega
    have hI2 : Iv (up A 4 a k) := hI.uw (Or.inl ⟨rfl, by omega⟩)
    have e1 : up A 4 a k 0 1 = A 0 1 := up_nc A (by omega)
    obtain ⟨g1, eg⟩ := putA_put w g (up A 4 a k)
    rw [u156_32, bst]
    by_cases h2 : t < nI (days 0 n (up A 4 a k) 8 a)
    · have h3 := Int32.not_le.mpr h2
      obtain ⟨g', h4⟩ := ih (k + 1) k (nI k) (nI (days 0 n (up A 4 a k) 8 a)) (some (.int (nI (days 0 n (up A 4 a k) 8 a)))) g1 (by omega)
      refine ⟨g', ?_⟩
      simp (disch := first | omega | decide | exact nI0_01 | exact nI1_01 | exact bz_01 _) only [Option.bind_some, List.cons_append, List.nil_append, Nat.reduceAdd, Nat.reduceMul, Nat.reduceLeDiff, Nat.reduceEqDiff, ↓reduceIte, n156, u156_0, u156_1, u156_2, u156_3, u156_6, u156_9, u156_10, u156_12, u156_15, u156_16, u156_17, u156_18, u156_19, u156_22, u156_23, u156_24, u156_26, u156_27, u156_29, u156_30, u156_34, u156_36, u156_39, u156_40, u156_43, u156_44, u156_45, u156_48, u156_50, u156_51, u156_52, u156_53, u156_54, u156_57, u156_58, u156_61, u156_63, u156_65, u156_67, u156_70, u156_72, u156_75, u156_77, u156_79, u156_81, u156_83, u156_86, u156_88, u156_91, u156_94, u156_95, u156_98, u156_99, u156_100, u156_103, u156_104, u156_105, u156_107, nn_lt, h1, if_false, nI_add, x_at, putS_sw, up_up, x_thenAt hI2, lay_w, eg, h2, h3, y_greatest]
      exact h4
    · have h3 := Int32.not_lt.mp h2
      obtain ⟨g', h4⟩ := ih (k + 1) k b t (some (.int (nI (days 0 n (up A 4 a k) 8 a)))) g1 (by omega)
      refine ⟨g', ?_⟩
      simp (disch := first | omega | decide | exact nI0_01 | exact nI1_01 | exact bz_01 _) only [Option.bind_some, List.cons_append, List.nil_append, Nat.reduceAdd, Nat.reduceMul, Nat.reduceLeDiff, Nat.reduceEqDiff, ↓reduceIte, n156, u156_0, u156_1, u156_2, u156_3, u156_6, u156_9, u156_10, u156_12, u156_15, u156_16, u156_17, u156_18, u156_19, u156_22, u156_23, u156_24, u156_26, u156_27, u156_29, u156_30, u156_34, u156_36, u156_39, u156_40, u156_43, u156_44, u156_45, u156_48, u156_50, u156_51, u156_52, u156_53, u156_54, u156_57, u156_58, u156_61, u156_63, u156_65, u156_67, u156_70, u156_72, u156_75, u156_77, u156_79, u156_81, u156_83, u156_86, u156_88, u156_91, u156_94, u156_95, u156_98, u156_99, u156_100, u156_103, u156_104, u156_105, u156_107, nn_lt, h1, if_false, nI_add, x_at, putS_sw, up_up, x_thenAt hI2, lay_w, eg, h2, h3, y_greatest]
      exact h4
theorem m_kindFor {A : Gs} {w : Wd} {x n : Int32} (h : M A (putS w A)) (hI : Iv A) (hd : A 0 1 ≤ 40000) : opM 156 [.int x, .int n] (o_kindFor A x n) (putS w A) := by
  have h0 := hI.1
  unfold o_kindFor
  by_cases hq : isW A x = true ∧ ok n 40 = true
  · rw [if_pos hq]
    rcases isW_case A x hI.1 with ⟨k, nk, hk, rfl, ek, ik⟩ | ek
    · rcases ok_case n 40 (by omega) with ⟨m, hm, rfl, em, im⟩ | em
      · rw [ik, im]
        obtain ⟨g', h1⟩ := kindFor_loop (w := w) hI hk hm hd 7 0 (A 4 k) (nI 0) (-1) none (w.1 48) rfl
        rw [put_id w rfl, up_id A rfl] at h1
        refine opM_48 (g := g') h ?_
        simp (disch := first | omega | decide | exact nI0_01 | exact nI1_01 | exact bz_01 _) only [Option.bind_some, List.cons_append, List.nil_append, Nat.reduceAdd, Nat.reduceMul, Nat.reduceLeDiff, Nat.reduceEqDiff, ↓reduceIte, n156, u156_0, u156_1, u156_2, u156_3, u156_6, u156_9, u156_10, u156_12, u156_15, u156_16, u156_17, u156_18, u156_19, u156_22, u156_23, u156_24, u156_26, u156_27, u156_29, u156_30, u156_34, u156_36, u156_39, u156_40, u156_43, u156_44, u156_45, u156_48, u156_50, u156_51, u156_52, u156_53, u156_54, u156_57, u156_58, u156_61, u156_63, u156_65, u156_67, u156_70, u156_72, u156_75, u156_77, u156_79, u156_81, u156_83, u156_86, u156_88, u156_91, u156_94, u156_95, u156_98, u156_99, u156_100, u156_103, u156_104, u156_105, u156_107, x_isAsked hI, ek, em, Bool.and_self, bz_t, bz_f, nn_eq0, nn_eq, eq_self, not_true_eq_false, not_false_eq_true, s_its]
        exact h1
      · rw [em] at hq; exact absurd hq.2 (by decide)
    · rw [ek] at hq; exact absurd hq.1 (by decide)
  · rw [if_neg hq]
    refine opM_bad h (by omega) ?_
    simp (disch := first | omega | decide | exact nI0_01 | exact nI1_01 | exact bz_01 _) only [Option.bind_some, List.cons_append, List.nil_append, Nat.reduceAdd, Nat.reduceMul, Nat.reduceLeDiff, Nat.reduceEqDiff, ↓reduceIte, n156, u156_0, u156_1, u156_2, u156_3, u156_6, u156_9, u156_10, u156_12, u156_15, u156_16, u156_17, u156_18, u156_19, u156_22, u156_23, u156_24, u156_26, u156_27, u156_29, u156_30, u156_34, u156_36, u156_39, u156_40, u156_43, u156_44, u156_45, u156_48, u156_50, u156_51, u156_52, u156_53, u156_54, u156_57, u156_58, u156_61, u156_63, u156_65, u156_67, u156_70, u156_72, u156_75, u156_77, u156_79, u156_81, u156_83, u156_86, u156_88, u156_91, u156_94, u156_95, u156_98, u156_99, u156_100, u156_103, u156_104, u156_105, u156_107, x_isAsked hI, asked_f hq, bz_t, bz_f, nn_eq0, nn_eq, eq_self, not_true_eq_false, not_false_eq_true, x_f0]
theorem letterFor_loop {a n : Nat} {w : Wd} {A : Gs} (hI : Iv A) (ha : a < 8) (hn : n ≤ 40) (hd : A 0 1 ≤ 40000) : ∀ (m l c : Nat) (b t : Int32) (x7 : Option Value) (g : Nat → Int32), m + l = 10 → c ≤ 9999 → (∀ j, setdg c (A 6 a) j = setdg (A 5 a) (A 6 a) j) → ∃ g', RUN 155 32 [some (.ref 44), some (.int (nI a)), some (.int (nI n)), some (.int (nI (A 5 a))), some (.int b), some (.int t), some (.int (nI l)), x7] [] [] (putS (put w 48 g) (up A 5 a c)) = some ([.int (bst (fun l => nI (days 0 n (up A 5 a (setdg (A 5 a) (A 6 a) l)) 8 a)) m l b t)], putS (put w 48 g') A) := by
  have hw := hI.2.2.2.2 a ha
  intro m
  induction m with
  | zero =>
    intro l c b t x7 g hm hc hs
    have e : l = 10 := by omega
    subst e
    refine ⟨g, ?_⟩
    rw [u155_32]
    simp (disch := first | omega | decide | exact nI0_01 | exact nI1_01 | exact bz_01 _) only [Option.bind_some, List.cons_append, List.nil_append, Nat.reduceAdd, Nat.reduceMul, Nat.reduceLeDiff, Nat.reduceEqDiff, ↓reduceIte, n155, u155_0, u155_1, u155_2, u155_3, u155_6, u155_9, u155_10, u155_12, u155_15, u155_16, u155_17, u155_18, u155_19, u155_22, u155_23, u155_24, u155_26, u155_27, u155_29, u155_30, u155_34, u155_36, u155_39, u155_40, u155_43, u155_44, u155_45, u155_48, u155_49, u155_50, u155_52, u155_55, u155_56, u155_57, u155_58, u155_59, u155_62, u155_63, u155_66, u155_68, u155_70, u155_72, u155_75, u155_77, u155_80, u155_82, u155_84, u155_86, u155_88, u155_91, u155_93, u155_96, u155_99, u155_100, u155_103, u155_104, u155_105, u155_108, u155_109, u155_110, u155_112, nn_le, Nat.le_refl, if_true, x_at, putS_sw, up_up, up_id A rfl]
    rfl
  | succ m ih =>
    intro l c b t x7 g hm hc hs
    have h1 : ¬ 10 ≤ l := by omega
    have hIc : Iv (up A 5 a c) := hI.uw (Or.inr (Or.inl ⟨rfl, hc⟩))
    have e5 : up A 5 a c 5 a = c := up_at _ _ _ _
    have e6 : up A 5 a c 6 a = A 6 a := up_nc A (by omega)
    have hsl := setdg_lt (v := A 5 a) (p := A 6 a) (l := l) (by omega) hw.2.2.1 (by omega)
    have hI2 : Iv (up A 5 a (setdg (A 5 a) (A 6 a) l)) := hI.uw (Or.inr (Or.inl ⟨rfl, by omega⟩))
    have e1 : up A 5 a (setdg (A 5 a) (A 6 a) l) 0 1 = A 0 1 := up_nc A (by omega)
    obtain ⟨g1, eg⟩ := putA_put w g (up A 5 a (setdg (A 5 a) (A 6 a) l))
    have hs2 : ∀ j, setdg (setdg (A 5 a) (A 6 a) l) (A 6 a) j = setdg (A 5 a) (A 6 a) j := fun j => setdg_2 (by omega) hw.2.2.1 (by omega)
    rw [u155_32, bst]
    by_cases h2 : t < nI (days 0 n (up A 5 a (setdg (A 5 a) (A 6 a) l)) 8 a)
    · have h3 := Int32.not_le.mpr h2
      obtain ⟨g', h4⟩ := ih (l + 1) (setdg (A 5 a) (A 6 a) l) (nI l) (nI (days 0 n (up A 5 a (setdg (A 5 a) (A 6 a) l)) 8 a)) (some (.int (nI (days 0 n (up A 5 a (setdg (A 5 a) (A 6 a) l)) 8 a)))) g1 (by omega) (by omega) hs2
      refine ⟨g', ?_⟩
      simp (disch := first | omega | decide | exact nI0_01 | exact nI1_01 | exact bz_01 _) only [Option.bind_some, List.cons_append, List.nil_append, Nat.reduceAdd, Nat.reduceMul, Nat.reduceLeDiff, Nat.reduceEqDiff, ↓reduceIte, n155, u155_0, u155_1, u155_2, u155_3, u155_6, u155_9, u155_10, u155_12, u155_15, u155_16, u155_17, u155_18, u155_19, u155_22, u155_23, u155_24, u155_26, u155_27, u155_29, u155_30, u155_34, u155_36, u155_39, u155_40, u155_43, u155_44, u155_45, u155_48, u155_49, u155_50, u155_52, u155_55, u155_56, u155_57, u155_58, u155_59, u155_62, u155_63, u155_66, u155_68, u155_70, u155_72, u155_75, u155_77, u155_80, u155_82, u155_84, u155_86, u155_88, u155_91, u155_93, u155_96, u155_99, u155_100, u155_103, u155_104, u155_105, u155_108, u155_109, u155_110, u155_112, nn_le, h1, if_false, nI_add, x_at, x_wordWith hIc, e5, e6, hs, putS_sw, up_up, x_thenAt hI2, lay_w, eg, h2, h3, y_greatest]
      exact h4
    · have h3 := Int32.not_lt.mp h2
      obtain ⟨g', h4⟩ := ih (l + 1) (setdg (A 5 a) (A 6 a) l) b t (some (.int (nI (days 0 n (up A 5 a (setdg (A 5 a) (A 6 a) l)) 8 a)))) g1 (by omega) (by omega) hs2
      refine ⟨g', ?_⟩
      simp (disch := first | omega | decide | exact nI0_01 | exact nI1_01 | exact bz_01 _) only [Option.bind_some, List.cons_append, List.nil_append, Nat.reduceAdd, Nat.reduceMul, Nat.reduceLeDiff, Nat.reduceEqDiff, ↓reduceIte, n155, u155_0, u155_1, u155_2, u155_3, u155_6, u155_9, u155_10, u155_12, u155_15, u155_16, u155_17, u155_18, u155_19, u155_22, u155_23, u155_24, u155_26, u155_27, u155_29, u155_30, u155_34, u155_36, u155_39, u155_40, u155_43, u155_44, u155_45, u155_48, u155_49, u155_50, u155_52, u155_55, u155_56, u155_57, u155_58, u155_59, u155_62, u155_63, u155_66, u155_68, u155_70, u155_72, u155_75, u155_77, u155_80, u155_82, u155_84, u155_86, u155_88, u155_91, u155_93, u155_96, u155_99, u155_100, u155_103, u155_104, u155_105, u155_108, u155_109, u155_110, u155_112, nn_le, h1, if_false, nI_add, x_at, x_wordWith hIc, e5, e6, hs, putS_sw, up_up, x_thenAt hI2, lay_w, eg, h2, h3, y_greatest]
      exact h4
theorem m_letterFor {A : Gs} {w : Wd} {x n : Int32} (h : M A (putS w A)) (hI : Iv A) (hd : A 0 1 ≤ 40000) : opM 155 [.int x, .int n] (o_letterFor A x n) (putS w A) := by
  have h0 := hI.1
  unfold o_letterFor
  by_cases hq : isW A x = true ∧ ok n 40 = true
  · rw [if_pos hq]
    rcases isW_case A x hI.1 with ⟨k, nk, hk, rfl, ek, ik⟩ | ek
    · rcases ok_case n 40 (by omega) with ⟨m, hm, rfl, em, im⟩ | em
      · rw [ik, im]
        have hw := hI.2.2.2.2 k hk
        obtain ⟨g', h1⟩ := letterFor_loop (w := w) hI hk hm hd 10 0 (A 5 k) (nI 0) (-1) none (w.1 48) rfl (by omega) (fun _ => rfl)
        rw [put_id w rfl, up_id A rfl] at h1
        refine opM_48 (g := g') h ?_
        simp (disch := first | omega | decide | exact nI0_01 | exact nI1_01 | exact bz_01 _) only [Option.bind_some, List.cons_append, List.nil_append, Nat.reduceAdd, Nat.reduceMul, Nat.reduceLeDiff, Nat.reduceEqDiff, ↓reduceIte, n155, u155_0, u155_1, u155_2, u155_3, u155_6, u155_9, u155_10, u155_12, u155_15, u155_16, u155_17, u155_18, u155_19, u155_22, u155_23, u155_24, u155_26, u155_27, u155_29, u155_30, u155_34, u155_36, u155_39, u155_40, u155_43, u155_44, u155_45, u155_48, u155_49, u155_50, u155_52, u155_55, u155_56, u155_57, u155_58, u155_59, u155_62, u155_63, u155_66, u155_68, u155_70, u155_72, u155_75, u155_77, u155_80, u155_82, u155_84, u155_86, u155_88, u155_91, u155_93, u155_96, u155_99, u155_100, u155_103, u155_104, u155_105, u155_108, u155_109, u155_110, u155_112, x_isAsked hI, ek, em, Bool.and_self, bz_t, bz_f, nn_eq0, nn_eq, eq_self, not_true_eq_false, not_false_eq_true, s_its]
        exact h1
      · rw [em] at hq; exact absurd hq.2 (by decide)
    · rw [ek] at hq; exact absurd hq.1 (by decide)
  · rw [if_neg hq]
    refine opM_bad h (by omega) ?_
    simp (disch := first | omega | decide | exact nI0_01 | exact nI1_01 | exact bz_01 _) only [Option.bind_some, List.cons_append, List.nil_append, Nat.reduceAdd, Nat.reduceMul, Nat.reduceLeDiff, Nat.reduceEqDiff, ↓reduceIte, n155, u155_0, u155_1, u155_2, u155_3, u155_6, u155_9, u155_10, u155_12, u155_15, u155_16, u155_17, u155_18, u155_19, u155_22, u155_23, u155_24, u155_26, u155_27, u155_29, u155_30, u155_34, u155_36, u155_39, u155_40, u155_43, u155_44, u155_45, u155_48, u155_49, u155_50, u155_52, u155_55, u155_56, u155_57, u155_58, u155_59, u155_62, u155_63, u155_66, u155_68, u155_70, u155_72, u155_75, u155_77, u155_80, u155_82, u155_84, u155_86, u155_88, u155_91, u155_93, u155_96, u155_99, u155_100, u155_103, u155_104, u155_105, u155_108, u155_109, u155_110, u155_112, x_isAsked hI, asked_f hq, bz_t, bz_f, nn_eq0, nn_eq, eq_self, not_true_eq_false, not_false_eq_true, x_f0]
/-! WHAT A SHEET TELLS -/
def tld (row : Nat → Nat) (a : Nat) : Nat → Nat → Gs → Bool
  | 0, _, _ => true
  | m + 1, k, A => if nI (row k) = -1 ∨ nI (row k) = nI (A 6 a) then tld row a m (k + 1) (day 0 A) else false
theorem told_loop {t a sz : Nat} {row : Nat → Nat} {w : Wd} (ht : t < 4) (ha : a < 8) (hz : sz ≤ 40) (h8 : w.1 52 t = nI sz) (h9 : ∀ k, k < 40 → w.1 53 (40 * t + k) = nI (row k)) : ∀ (m k : Nat) (x5 : Option Value) (A : Gs), Iv A → m + k = sz → A 0 1 ≤ 40000 + k → ∃ (A' : Gs) (x4 x5' : Option Value), RUN 159 16 [some (.ref 44), some (.int (nI t)), some (.int (nI a)), some (.int (nI 1)), some (.int (nI k)), x5] [] [] (putS w A) = RUN 159 79 [some (.ref 44), some (.int (nI t)), some (.int (nI a)), some (.int (bz (tld row a m k A))), x4, x5'] [] [] (putS w A') := by
  intro m
  induction m with
  | zero =>
    intro k x5 A hI hm hd
    have e : k = sz := by omega
    subst e
    refine ⟨A, some (.int (nI k)), x5, ?_⟩
    rw [u159_16]
    simp (disch := first | omega | decide | exact nI0_01 | exact nI1_01 | exact bz_01 _) only [Option.bind_some, List.cons_append, List.nil_append, Nat.reduceAdd, Nat.reduceMul, Nat.reduceLeDiff, Nat.reduceEqDiff, ↓reduceIte, u159_18, u159_19, u159_22, u159_23, u159_24, u159_27, u159_28, u159_31, u159_32, u159_35, u159_37, u159_38, u159_39, u159_41, u159_42, u159_43, u159_45, u159_47, u159_48, u159_51, u159_53, u159_54, u159_55, u159_56, u159_59, u159_62, u159_63, u159_66, u159_67, u159_68, u159_69, u159_70, u159_73, u159_76, putS_ne, h8, nn_le, Nat.le_refl]
    rfl
  | succ m ih =>
    intro k x5 A hI hm hd
    have h1 : ¬ sz ≤ k := by omega
    have hw := hI.2.2.2.2 a ha
    have h9' := h9 k (by omega)
    have hk := hI.1
    rw [tld]
    by_cases h2 : nI (row k) = -1
    · obtain ⟨A', x4, x5', h3⟩ := ih (k + 1) (some (.int (nI (row k)))) (day 0 A) (hI.day 0) (by omega) (by rw [day_01]; omega)
      refine ⟨A', x4, x5', ?_⟩
      rw [if_pos (Or.inl h2), u159_16]
      simp (disch := first | omega | decide | exact nI0_01 | exact nI1_01 | exact bz_01 _) only [Option.bind_some, List.cons_append, List.nil_append, Nat.reduceAdd, Nat.reduceMul, Nat.reduceLeDiff, Nat.reduceEqDiff, ↓reduceIte, u159_18, u159_19, u159_22, u159_23, u159_24, u159_27, u159_28, u159_31, u159_32, u159_35, u159_37, u159_38, u159_39, u159_41, u159_42, u159_43, u159_45, u159_47, u159_48, u159_51, u159_53, u159_54, u159_55, u159_56, u159_59, u159_62, u159_63, u159_66, u159_67, u159_68, u159_69, u159_70, u159_73, u159_76, putS_ne, h8, nn_le, h1, if_false, bz_t, bz_f, nn_eq0, nn_eq, eq_self, not_true_eq_false, not_false_eq_true, pk_mul, nI_add, h9', h2, x_dayBut hI]
      rw [h2] at h3
      exact h3
    · by_cases h4 : nI (row k) = nI (A 6 a)
      · obtain ⟨A', x4, x5', h3⟩ := ih (k + 1) (some (.int (nI (A 6 a)))) (day 0 A) (hI.day 0) (by omega) (by rw [day_01]; omega)
        refine ⟨A', x4, x5', ?_⟩
        have h2' : ¬ nI (A 6 a) = -1 := by rw [← h4]; exact h2
        rw [if_pos (Or.inr h4), u159_16]
        simp (disch := first | omega | decide | exact nI0_01 | exact nI1_01 | exact bz_01 _) only [Option.bind_some, List.cons_append, List.nil_append, Nat.reduceAdd, Nat.reduceMul, Nat.reduceLeDiff, Nat.reduceEqDiff, ↓reduceIte, u159_18, u159_19, u159_22, u159_23, u159_24, u159_27, u159_28, u159_31, u159_32, u159_35, u159_37, u159_38, u159_39, u159_41, u159_42, u159_43, u159_45, u159_47, u159_48, u159_51, u159_53, u159_54, u159_55, u159_56, u159_59, u159_62, u159_63, u159_66, u159_67, u159_68, u159_69, u159_70, u159_73, u159_76, putS_ne, h8, nn_le, h1, if_false, nn_eq0, pk_mul, nI_add, h9', h2', h4, s_its, x_dayBut hI, not_true_eq_false]
        exact h3
      · refine ⟨day 0 A, some (.int (nI (k + 1))), some (.int (nI (row k))), ?_⟩
        rw [if_neg (by rintro (q | q); exact h2 q; exact h4 q), u159_16]
        simp (disch := first | omega | decide | exact nI0_01 | exact nI1_01 | exact bz_01 _) only [Option.bind_some, List.cons_append, List.nil_append, Nat.reduceAdd, Nat.reduceMul, Nat.reduceLeDiff, Nat.reduceEqDiff, ↓reduceIte, u159_18, u159_19, u159_22, u159_23, u159_24, u159_27, u159_28, u159_31, u159_32, u159_35, u159_37, u159_38, u159_39, u159_41, u159_42, u159_43, u159_45, u159_47, u159_48, u159_51, u159_53, u159_54, u159_55, u159_56, u159_59, u159_62, u159_63, u159_66, u159_67, u159_68, u159_69, u159_70, u159_73, u159_76, putS_ne, h8, nn_le, h1, if_false, nn_eq0, pk_mul, nI_add, h9', h2, h4, s_its, x_dayBut hI, not_false_eq_true, if_true]
        rw [u159_16]
        simp (disch := first | omega | decide | exact nI0_01 | exact nI1_01 | exact bz_01 _) only [Option.bind_some, List.cons_append, List.nil_append, Nat.reduceAdd, Nat.reduceMul, Nat.reduceLeDiff, Nat.reduceEqDiff, ↓reduceIte, u159_18, u159_19, u159_22, u159_23, u159_24, u159_27, u159_28, u159_31, u159_32, u159_35, u159_37, u159_38, u159_39, u159_41, u159_42, u159_43, u159_45, u159_47, u159_48, u159_51, u159_53, u159_54, u159_55, u159_56, u159_59, u159_62, u159_63, u159_66, u159_67, u159_68, u159_69, u159_70, u159_73, u159_76, putS_ne, h8, nn_eq0, ite_self, bz_f]
theorem x_isTold {t a sz : Nat} {row : Nat → Nat} {w : Wd} {A : Gs} (hI : Iv A) (hd : A 0 1 ≤ 40000) (ht : t < 4) (ha : a < 8) (hz : sz ≤ 40) (h8 : w.1 52 t = nI sz) (h9 : ∀ k, k < 40 → w.1 53 (40 * t + k) = nI (row k)) : CALL 159 [.ref 44, .int (nI t), .int (nI a)] (putS w A) = some ([.int (bz (tld row a sz 0 A))], putS (putA w 48 A) A) := by
  have e8 : (putA w 48 A).1 52 t = nI sz := by unfold putA; rw [put_ne _ _ (by omega)]; exact h8
  have e9 : ∀ k, k < 40 → (putA w 48 A).1 53 (40 * t + k) = nI (row k) := by unfold putA; rw [put_ne _ _ (by omega)]; exact h9
  obtain ⟨A', x4, x5', h1⟩ := told_loop ht ha hz e8 e9 sz 0 none A hI rfl (by omega)
  simp (disch := first | omega | decide | exact nI0_01 | exact nI1_01 | exact bz_01 _) only [Option.bind_some, List.cons_append, List.nil_append, Nat.reduceAdd, Nat.reduceMul, Nat.reduceLeDiff, Nat.reduceEqDiff, ↓reduceIte, u159_0, u159_1, u159_4, u159_5, u159_8, u159_11, u159_12, u159_13, u159_14, n159, x_aside]
  rw [h1]
  simp (disch := first | omega | decide | exact nI0_01 | exact nI1_01 | exact bz_01 _) only [Option.bind_some, List.cons_append, List.nil_append, Nat.reduceAdd, Nat.reduceMul, Nat.reduceLeDiff, Nat.reduceEqDiff, ↓reduceIte, u159_79, u159_80, u159_83, u159_84, u159_87, u159_90, u159_91, x_backA]
