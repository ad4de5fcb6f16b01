/-! SHEETS THAT ARE THERE -/
def Shs (A : Gs) : Prop := ∀ t, t < 4 → (A 23 t = 0 ∨ A 23 t = 8 ∨ A 23 t = 16 ∨ A 23 t = 32) ∧ A 24 t ≤ 40
def wnt (A : Gs) (t : Int32) : Int32 := if ok t 3 = true then (if A 23 (ix t) = 0 then lo 5 else nI 0) else lo 0
theorem bits_neg {A : Gs} (hS : Shs A) {t : Nat} (ht : t < 4) : (0 ≤ (if A 23 t = 0 then (-1 : Int32) else nI (A 23 t))) = ¬ A 23 t = 0 := by
  rcases (hS t ht).1 with h | h | h | h <;> rw [h] <;> decide
theorem M.bits {A : Gs} {w : Wd} (h : M A w) {t : Nat} (ht : t < 4) : w.1 51 t = if A 23 t = 0 then -1 else nI (A 23 t) := h.2.2.2.2.2.2.1 t ht
theorem M.size {A : Gs} {w : Wd} (h : M A w) {t : Nat} (ht : t < 4) : w.1 52 t = nI (A 24 t) := h.2.2.2.2.2.2.2.1 t ht
theorem M.num {A : Gs} {w : Wd} (h : M A w) {t k : Nat} (ht : t < 4) (hk : k < 40) : w.1 53 (40 * t + k) = nI (A (25 + t) k) := h.2.2.2.2.2.2.2.2 t k ht hk
theorem x_wants {A : Gs} {w : Wd} {x : Int32} (h : M A w) (hS : Shs A) : CALL 195 [.ref 44, .int x] w = some ([.int (wnt A x)], w) := by
  unfold wnt
  rcases ok_case x 3 (by omega) with ⟨k, hk, rfl, ek, ik⟩ | ek
  · have hb := h.bits (t := k) (by omega)
    rw [if_pos ek, ik]
    have hn := bits_neg hS (t := k) (by omega)
    by_cases h0 : A 23 k = 0
    · rw [if_pos h0]
      rw [if_pos h0] at hb
      have hm : ¬ (0 : Int32) ≤ -1 := by decide
      simp (disch := first | omega | decide | exact nI0_01 | exact nI1_01 | exact bz_01 _) only [Option.bind_some, List.cons_append, List.nil_append, Nat.reduceAdd, Nat.reduceMul, Nat.reduceLeDiff, Nat.reduceEqDiff, ↓reduceIte, n195, u195_0, u195_1, u195_4, u195_7, u195_9, u195_12, u195_13, u195_16, u195_17, u195_18, u195_21, u195_24, u195_27, u195_28, x_isSheet, ek, bz_t, bz_f, nn_eq0, nn_eq, eq_self, not_true_eq_false, not_false_eq_true, hb, hm, if_false]
      rfl
    · rw [if_neg h0]
      rw [if_neg h0] at hb hn
      have hm : (0 : Int32) ≤ nI (A 23 k) := by rw [hn]; exact h0
      simp (disch := first | omega | decide | exact nI0_01 | exact nI1_01 | exact bz_01 _) only [Option.bind_some, List.cons_append, List.nil_append, Nat.reduceAdd, Nat.reduceMul, Nat.reduceLeDiff, Nat.reduceEqDiff, ↓reduceIte, n195, u195_0, u195_1, u195_4, u195_7, u195_9, u195_12, u195_13, u195_16, u195_17, u195_18, u195_21, u195_24, u195_27, u195_28, x_isSheet, ek, bz_t, bz_f, nn_eq0, nn_eq, eq_self, not_true_eq_false, not_false_eq_true, hb, hm, if_true]
  · rw [if_neg (by simp [ek])]
    simp (disch := first | omega | decide | exact nI0_01 | exact nI1_01 | exact bz_01 _) only [Option.bind_some, List.cons_append, List.nil_append, Nat.reduceAdd, Nat.reduceMul, Nat.reduceLeDiff, Nat.reduceEqDiff, ↓reduceIte, n195, u195_0, u195_1, u195_4, u195_7, u195_9, u195_12, u195_13, u195_16, u195_17, u195_18, u195_21, u195_24, u195_27, u195_28, x_isSheet, ek, bz_t, bz_f, nn_eq0, nn_eq, eq_self, not_true_eq_false, not_false_eq_true]
    rfl
theorem x_wantsFor {A : Gs} {w : Wd} {t x : Int32} (h : M A (putS w A)) (hS : Shs A) (hI : Iv A) : CALL 160 [.ref 44, .int t, .int x] (putS w A) = some ([.int (if wnt A t = nI 0 then (if isW A x = true then nI 0 else lo 0) else wnt A t)], putS w A) := by
  by_cases h1 : wnt A t = nI 0
  · rw [if_pos h1]
    cases h2 : isW A x <;> simp (disch := first | omega | decide | exact nI0_01 | exact nI1_01 | exact bz_01 _) only [Option.bind_some, List.cons_append, List.nil_append, Nat.reduceAdd, Nat.reduceMul, Nat.reduceLeDiff, Nat.reduceEqDiff, ↓reduceIte, n160, u160_0, u160_1, u160_2, u160_5, u160_8, u160_9, u160_10, u160_13, u160_16, u160_17, u160_18, u160_21, u160_24, u160_25, u160_28, u160_30, x_wants h hS, h1, x_isWriter hI.1, h2, bz_t, bz_f, nn_eq0, nn_eq, eq_self, not_true_eq_false, not_false_eq_true, if_true] <;> rfl
  · rw [if_neg h1]
    have h1' : ¬ wnt A t = 0 := h1
    simp (disch := first | omega | decide | exact nI0_01 | exact nI1_01 | exact bz_01 _) only [Option.bind_some, List.cons_append, List.nil_append, Nat.reduceAdd, Nat.reduceMul, Nat.reduceLeDiff, Nat.reduceEqDiff, ↓reduceIte, n160, u160_0, u160_1, u160_2, u160_5, u160_8, u160_9, u160_10, u160_13, u160_16, u160_17, u160_18, u160_21, u160_24, u160_25, u160_28, u160_30, x_wants h hS, h1', not_false_eq_true, if_true]
/-- what stands in the way of reading a sheet with a writer -/
def o_told (A : Gs) (t x : Int32) (r : Int32 × Gs) : Int32 × Gs := if ok t 3 = true then (if A 23 (ix t) = 0 then bad A 5 else if isW A x = true then r else bad A 0) else bad A 0
def o_fits (A : Gs) (t x : Int32) : Int32 × Gs := o_told A t x (orS (fun l => tld (A (25 + ix t)) (ix x) (A 24 (ix t)) 0 (up A 5 (ix x) (setdg (A 5 (ix x)) (A 6 (ix x)) l))) 10 0 (nI 0), A)
def o_kinds (A : Gs) (t x : Int32) : Int32 × Gs := o_told A t x (orS (fun l => tld (A (25 + ix t)) (ix x) (A 24 (ix t)) 0 (up A 4 (ix x) l)) 7 0 (nI 0), A)
theorem putA_ne (w : Wd) {b a : Nat} (A : Gs) (h : a ≠ b) : (putA w b A).1 a = w.1 a := put_ne w _ h
theorem kinds_loop {t a sz : Nat} {row : Nat → Nat} {w : Wd} {A : Gs} {x3 : Option Value} (hI : Iv A) (ht : t < 4) (ha : a < 8) (hz : sz ≤ 40) (hd : A 0 1 ≤ 40000) (h8 : w.1 52 t = nI sz) (h9 : ∀ k, k < 40 → w.1 53 (40 * t + k) = nI (row k)) : ∀ (m k c : Nat) (s : Int32) (g : Nat → Int32), m + k = 7 → ∃ g', RUN 162 31 [some (.ref 44), some (.int (nI t)), some (.int (nI a)), x3, some (.int (nI (A 4 a))), some (.int s), some (.int (nI k))] [] [] (putS (put w 48 g) (up A 4 a c)) = some ([.int (orS (fun l => tld row a sz 0 (up A 4 a l)) m k s)], putS (put w 48 g') A) := by
  intro m
  induction m with
  | zero =>
    intro k c s g hm
    have e : k = 7 := by omega
    subst e
    refine ⟨g, ?_⟩
    have h1 : 6 < 7 := by omega
    rw [u162_31]
    simp (disch := first | omega | decide | exact nI0_01 | exact nI1_01 | exact bz_01 _) only [Option.bind_some, List.cons_append, List.nil_append, Nat.reduceAdd, Nat.reduceMul, Nat.reduceLeDiff, Nat.reduceEqDiff, ↓reduceIte, n162, u162_0, u162_1, u162_2, u162_3, u162_6, u162_7, u162_8, u162_11, u162_12, u162_13, u162_16, u162_17, u162_18, u162_19, u162_20, u162_23, u162_25, u162_26, u162_28, u162_29, u162_33, u162_35, u162_38, u162_39, u162_42, u162_43, u162_44, u162_47, u162_49, u162_50, u162_52, u162_53, u162_54, u162_55, u162_58, u162_61, u162_62, u162_64, u162_65, u162_68, u162_69, u162_70, u162_72, u162_75, u162_78, u162_79, u162_82, u162_83, u162_84, u162_87, u162_89, u162_90, u162_92, nn_lt, h1, if_true, x_at, putS_sw, up_up, up_id A rfl]
    rfl
  | succ m ih =>
    intro k c s g hm
    have h1 : ¬ 6 < k := by omega
    have hI2 : Iv (up A 4 a k) := hI.uw (Or.inl ⟨rfl, by omega⟩)
    have e1 : up A 4 a k 0 1 ≤ 40000 := by rw [up_nc A (by omega)]; exact hd
    obtain ⟨g1, eg⟩ := putA_put w g (up A 4 a k)
    have e8 : (put w 48 g).1 52 t = nI sz := by rw [put_ne _ _ (by omega)]; exact h8
    have e9 : ∀ k, k < 40 → (put w 48 g).1 53 (40 * t + k) = nI (row k) := by rw [put_ne _ _ (by omega)]; exact h9
    have hT := x_isTold (w := put w 48 g) hI2 e1 ht ha hz e8 e9
    rw [eg] at hT
    rw [u162_31, orS]
    cases h2 : tld row a sz 0 (up A 4 a k) with
    | true =>
      rw [h2] at hT
      obtain ⟨g', h4⟩ := ih (k + 1) k (s ||| (nI 1 <<< (nI k &&& 31))) g1 (by omega)
      refine ⟨g', ?_⟩
      simp (disch := first | omega | decide | exact nI0_01 | exact nI1_01 | exact bz_01 _) only [Option.bind_some, List.cons_append, List.nil_append, Nat.reduceAdd, Nat.reduceMul, Nat.reduceLeDiff, Nat.reduceEqDiff, ↓reduceIte, n162, u162_0, u162_1, u162_2, u162_3, u162_6, u162_7, u162_8, u162_11, u162_12, u162_13, u162_16, u162_17, u162_18, u162_19, u162_20, u162_23, u162_25, u162_26, u162_28, u162_29, u162_33, u162_35, u162_38, u162_39, u162_42, u162_43, u162_44, u162_47, u162_49, u162_50, u162_52, u162_53, u162_54, u162_55, u162_58, u162_61, u162_62, u162_64, u162_65, u162_68, u162_69, u162_70, u162_72, u162_75, u162_78, u162_79, u162_82, u162_83, u162_84, u162_87, u162_89, u162_90, u162_92, nn_lt, h1, if_false, nI_add, x_at, putS_sw, up_up, hT, bz_t, bz_f, nn_eq0, nn_eq, eq_self, not_true_eq_false, not_false_eq_true]
      exact h4
    | false =>
      rw [h2] at hT
      obtain ⟨g', h4⟩ := ih (k + 1) k s g1 (by omega)
      refine ⟨g', ?_⟩
      simp (disch := first | omega | decide | exact nI0_01 | exact nI1_01 | exact bz_01 _) only [Option.bind_some, List.cons_append, List.nil_append, Nat.reduceAdd, Nat.reduceMul, Nat.reduceLeDiff, Nat.reduceEqDiff, ↓reduceIte, n162, u162_0, u162_1, u162_2, u162_3, u162_6, u162_7, u162_8, u162_11, u162_12, u162_13, u162_16, u162_17, u162_18, u162_19, u162_20, u162_23, u162_25, u162_26, u162_28, u162_29, u162_33, u162_35, u162_38, u162_39, u162_42, u162_43, u162_44, u162_47, u162_49, u162_50, u162_52, u162_53, u162_54, u162_55, u162_58, u162_61, u162_62, u162_64, u162_65, u162_68, u162_69, u162_70, u162_72, u162_75, u162_78, u162_79, u162_82, u162_83, u162_84, u162_87, u162_89, u162_90, u162_92, nn_lt, h1, if_false, nI_add, x_at, putS_sw, up_up, hT, bz_t, bz_f, nn_eq0, nn_eq, eq_self, not_true_eq_false, not_false_eq_true, or_0, Bool.false_eq_true]
      exact h4
theorem fits_loop {t a sz : Nat} {row : Nat → Nat} {w : Wd} {A : Gs} {x3 : Option Value} (hI : Iv A) (ht : t < 4) (ha : a < 8) (hz : sz ≤ 40) (hd : A 0 1 ≤ 40000) (h8 : w.1 52 t = nI sz) (h9 : ∀ k, k < 40 → w.1 53 (40 * t + k) = nI (row k)) : ∀ (m l c : Nat) (s : Int32) (g : Nat → Int32), m + l = 10 → c ≤ 9999 → (∀ j, setdg c (A 6 a) j = setdg (A 5 a) (A 6 a) j) → ∃ g', RUN 161 31 [some (.ref 44), some (.int (nI t)), some (.int (nI a)), x3, some (.int (nI (A 5 a))), some (.int s), some (.int (nI l))] [] [] (putS (put w 48 g) (up A 5 a c)) = some ([.int (orS (fun l => tld row a sz 0 (up A 5 a (setdg (A 5 a) (A 6 a) l))) m l s)], putS (put w 48 g') A) := by
  have hw := hI.2.2.2.2 a ha
  intro m
  induction m with
  | zero =>
    intro l c s g hm hc hs
    have e : l = 10 := by omega
    subst e
    refine ⟨g, ?_⟩
    rw [u161_31]
    simp (disch := first | omega | decide | exact nI0_01 | exact nI1_01 | exact bz_01 _) only [Option.bind_some, List.cons_append, List.nil_append, Nat.reduceAdd, Nat.reduceMul, Nat.reduceLeDiff, Nat.reduceEqDiff, ↓reduceIte, n161, u161_0, u161_1, u161_2, u161_3, u161_6, u161_7, u161_8, u161_11, u161_12, u161_13, u161_16, u161_17, u161_18, u161_19, u161_20, u161_23, u161_25, u161_26, u161_28, u161_29, u161_33, u161_35, u161_38, u161_39, u161_42, u161_43, u161_44, u161_47, u161_48, u161_49, u161_51, u161_54, u161_55, u161_57, u161_58, u161_59, u161_60, u161_63, u161_66, u161_67, u161_69, u161_70, u161_73, u161_74, u161_75, u161_77, u161_80, u161_83, u161_84, u161_87, u161_88, u161_89, u161_92, u161_94, u161_95, u161_97, nn_le, Nat.le_refl, if_true, x_at, putS_sw, up_up, up_id A rfl]
    rfl
  | succ m ih =>
    intro l c s g hm hc hs
    have h1 : ¬ 10 ≤ l := by omega
    have hIc : Iv (up A 5 a c) := hI.uw (Or.inr (Or.inl ⟨rfl, hc⟩))
    have e5 : up A 5 a c 5 a = c := up_at _ _ _ _
    have e6 : up A 5 a c 6 a = A 6 a := up_nc A (by omega)
    have hsl := setdg_lt (v := A 5 a) (p := A 6 a) (l := l) (by omega) hw.2.2.1 (by omega)
    have hI2 : Iv (up A 5 a (setdg (A 5 a) (A 6 a) l)) := hI.uw (Or.inr (Or.inl ⟨rfl, by omega⟩))
    have e1 : up A 5 a (setdg (A 5 a) (A 6 a) l) 0 1 ≤ 40000 := by rw [up_nc A (by omega)]; exact hd
    obtain ⟨g1, eg⟩ := putA_put w g (up A 5 a (setdg (A 5 a) (A 6 a) l))
    have hs2 : ∀ j, setdg (setdg (A 5 a) (A 6 a) l) (A 6 a) j = setdg (A 5 a) (A 6 a) j := fun j => setdg_2 (by omega) hw.2.2.1 (by omega)
    have e8 : (put w 48 g).1 52 t = nI sz := by rw [put_ne _ _ (by omega)]; exact h8
    have e9 : ∀ k, k < 40 → (put w 48 g).1 53 (40 * t + k) = nI (row k) := by rw [put_ne _ _ (by omega)]; exact h9
    have hT := x_isTold (w := put w 48 g) hI2 e1 ht ha hz e8 e9
    rw [eg] at hT
    rw [u161_31, orS]
    cases h2 : tld row a sz 0 (up A 5 a (setdg (A 5 a) (A 6 a) l)) with
    | true =>
      rw [h2] at hT
      obtain ⟨g', h4⟩ := ih (l + 1) (setdg (A 5 a) (A 6 a) l) (s ||| (nI 1 <<< (nI l &&& 31))) g1 (by omega) (by omega) hs2
      refine ⟨g', ?_⟩
      simp (disch := first | omega | decide | exact nI0_01 | exact nI1_01 | exact bz_01 _) only [Option.bind_some, List.cons_append, List.nil_append, Nat.reduceAdd, Nat.reduceMul, Nat.reduceLeDiff, Nat.reduceEqDiff, ↓reduceIte, n161, u161_0, u161_1, u161_2, u161_3, u161_6, u161_7, u161_8, u161_11, u161_12, u161_13, u161_16, u161_17, u161_18, u161_19, u161_20, u161_23, u161_25, u161_26, u161_28, u161_29, u161_33, u161_35, u161_38, u161_39, u161_42, u161_43, u161_44, u161_47, u161_48, u161_49, u161_51, u161_54, u161_55, u161_57, u161_58, u161_59, u161_60, u161_63, u161_66, u161_67, u161_69, u161_70, u161_73, u161_74, u161_75, u161_77, u161_80, u161_83, u161_84, u161_87, u161_88, u161_89, u161_92, u161_94, u161_95, u161_97, nn_le, h1, if_false, nI_add, x_at, x_wordWith hIc, e5, e6, hs, putS_sw, up_up, hT, bz_t, bz_f, nn_eq0, nn_eq, eq_self, not_true_eq_false, not_false_eq_true]
      exact h4
    | false =>
      rw [h2] at hT
      obtain ⟨g', h4⟩ := ih (l + 1) (setdg (A 5 a) (A 6 a) l) s g1 (by omega) (by omega) hs2
      refine ⟨g', ?_⟩
      simp (disch := first | omega | decide | exact nI0_01 | exact nI1_01 | exact bz_01 _) only [Option.bind_some, List.cons_append, List.nil_append, Nat.reduceAdd, Nat.reduceMul, Nat.reduceLeDiff, Nat.reduceEqDiff, ↓reduceIte, n161, u161_0, u161_1, u161_2, u161_3, u161_6, u161_7, u161_8, u161_11, u161_12, u161_13, u161_16, u161_17, u161_18, u161_19, u161_20, u161_23, u161_25, u161_26, u161_28, u161_29, u161_33, u161_35, u161_38, u161_39, u161_42, u161_43, u161_44, u161_47, u161_48, u161_49, u161_51, u161_54, u161_55, u161_57, u161_58, u161_59, u161_60, u161_63, u161_66, u161_67, u161_69, u161_70, u161_73, u161_74, u161_75, u161_77, u161_80, u161_83, u161_84, u161_87, u161_88, u161_89, u161_92, u161_94, u161_95, u161_97, nn_le, h1, if_false, nI_add, x_at, x_wordWith hIc, e5, e6, hs, putS_sw, up_up, hT, bz_t, bz_f, nn_eq0, nn_eq, eq_self, not_true_eq_false, not_false_eq_true, or_0, Bool.false_eq_true]
      exact h4
theorem lo_n0 : ¬ lo 0 = 0 ∧ ¬ lo 5 = 0 := by decide
theorem M.wr {A : Gs} {w : Wd} (h : M A (putS w A)) {a : Nat} (ha : a ≠ 45) : (putS w A).1 a = w.1 a := putS_ne w A ha
theorem m_fits {A : Gs} {w : Wd} {t x : Int32} (h : M A (putS w A)) (hI : Iv A) (hS : Shs A) (hd : A 0 1 ≤ 40000) : opM 161 [.int t, .int x] (o_fits A t x) (putS w A) := by
  have h0 := hI.1
  unfold o_fits o_told
  rcases ok_case t 3 (by omega) with ⟨k, hk, rfl, ek, ik⟩ | ek
  · rw [if_pos ek, ik]
    by_cases hb : A 23 k = 0
    · have hw : wnt A (nI k) = lo 5 := by unfold wnt; rw [if_pos ek, ik, if_pos hb]
      have hw0 : ¬ lo 5 = nI 0 := lo_n0.2
      rw [if_pos hb]
      refine opM_bad h (by omega) ?_
      simp (disch := first | omega | decide | exact nI0_01 | exact nI1_01 | exact bz_01 _) only [Option.bind_some, List.cons_append, List.nil_append, Nat.reduceAdd, Nat.reduceMul, Nat.reduceLeDiff, Nat.reduceEqDiff, ↓reduceIte, n161, u161_0, u161_1, u161_2, u161_3, u161_6, u161_7, u161_8, u161_11, u161_12, u161_13, u161_16, u161_17, u161_18, u161_19, u161_20, u161_23, u161_25, u161_26, u161_28, u161_29, u161_33, u161_35, u161_38, u161_39, u161_42, u161_43, u161_44, u161_47, u161_48, u161_49, u161_51, u161_54, u161_55, u161_57, u161_58, u161_59, u161_60, u161_63, u161_66, u161_67, u161_69, u161_70, u161_73, u161_74, u161_75, u161_77, u161_80, u161_83, u161_84, u161_87, u161_88, u161_89, u161_92, u161_94, u161_95, u161_97, x_wantsFor h hS hI, hw, hw0, lo_n0, if_false, x_finds]
    · have hw : wnt A (nI k) = nI 0 := by unfold wnt; rw [if_pos ek, ik, if_neg hb]
      rw [if_neg hb]
      rcases isW_case A x hI.1 with ⟨a, na, ha, rfl, ea, ia⟩ | ea
      · rw [if_pos ea, ia]
        have h8 := h.size (t := k) (by omega)
        have h9 : ∀ j, j < 40 → _ := fun j hj => h.num (t := k) (k := j) (by omega) hj
        rw [putS_ne _ _ (by omega)] at h8
        simp only [putS_ne w A (show (53 : Nat) ≠ 45 by omega)] at h9
        have hw2 := hI.2.2.2.2 a ha
        obtain ⟨g', h1⟩ := fits_loop (x3 := some (.int (nI 0))) hI (by omega) ha (hS k (by omega)).2 hd h8 h9 10 0 (A 5 a) (nI 0) (w.1 48) rfl (by omega) (fun _ => rfl)
        rw [put_id w rfl, up_id A rfl] at h1
        refine opM_48 (g := g') h ?_
        simp (disch := first | omega | decide | exact nI0_01 | exact nI1_01 | exact bz_01 _) only [Option.bind_some, List.cons_append, List.nil_append, Nat.reduceAdd, Nat.reduceMul, Nat.reduceLeDiff, Nat.reduceEqDiff, ↓reduceIte, n161, u161_0, u161_1, u161_2, u161_3, u161_6, u161_7, u161_8, u161_11, u161_12, u161_13, u161_16, u161_17, u161_18, u161_19, u161_20, u161_23, u161_25, u161_26, u161_28, u161_29, u161_33, u161_35, u161_38, u161_39, u161_42, u161_43, u161_44, u161_47, u161_48, u161_49, u161_51, u161_54, u161_55, u161_57, u161_58, u161_59, u161_60, u161_63, u161_66, u161_67, u161_69, u161_70, u161_73, u161_74, u161_75, u161_77, u161_80, u161_83, u161_84, u161_87, u161_88, u161_89, u161_92, u161_94, u161_95, u161_97, x_wantsFor h hS hI, hw, ea, if_true, bz_t, bz_f, nn_eq0, nn_eq, eq_self, not_true_eq_false, not_false_eq_true, s_its]
        exact h1
      · rw [if_neg (by simp [ea])]
        refine opM_bad h (by omega) ?_
        simp (disch := first | omega | decide | exact nI0_01 | exact nI1_01 | exact bz_01 _) only [Option.bind_some, List.cons_append, List.nil_append, Nat.reduceAdd, Nat.reduceMul, Nat.reduceLeDiff, Nat.reduceEqDiff, ↓reduceIte, n161, u161_0, u161_1, u161_2, u161_3, u161_6, u161_7, u161_8, u161_11, u161_12, u161_13, u161_16, u161_17, u161_18, u161_19, u161_20, u161_23, u161_25, u161_26, u161_28, u161_29, u161_33, u161_35, u161_38, u161_39, u161_42, u161_43, u161_44, u161_47, u161_48, u161_49, u161_51, u161_54, u161_55, u161_57, u161_58, u161_59, u161_60, u161_63, u161_66, u161_67, u161_69, u161_70, u161_73, u161_74, u161_75, u161_77, u161_80, u161_83, u161_84, u161_87, u161_88, u161_89, u161_92, u161_94, u161_95, u161_97, x_wantsFor h hS hI, hw, ea, if_true, if_false, Bool.false_eq_true, lo_n0, x_finds]
  · have hw : wnt A t = lo 0 := by unfold wnt; rw [if_neg (by simp [ek])]
    have hw0 : ¬ lo 0 = nI 0 := lo_n0.1
    rw [if_neg (by simp [ek])]
    refine opM_bad h (by omega) ?_
    simp (disch := first | omega | decide | exact nI0_01 | exact nI1_01 | exact bz_01 _) only [Option.bind_some, List.cons_append, List.nil_append, Nat.reduceAdd, Nat.reduceMul, Nat.reduceLeDiff, Nat.reduceEqDiff, ↓reduceIte, n161, u161_0, u161_1, u161_2, u161_3, u161_6, u161_7, u161_8, u161_11, u161_12, u161_13, u161_16, u161_17, u161_18, u161_19, u161_20, u161_23, u161_25, u161_26, u161_28, u161_29, u161_33, u161_35, u161_38, u161_39, u161_42, u161_43, u161_44, u161_47, u161_48, u161_49, u161_51, u161_54, u161_55, u161_57, u161_58, u161_59, u161_60, u161_63, u161_66, u161_67, u161_69, u161_70, u161_73, u161_74, u161_75, u161_77, u161_80, u161_83, u161_84, u161_87, u161_88, u161_89, u161_92, u161_94, u161_95, u161_97, x_wantsFor h hS hI, hw, hw0, lo_n0, if_false, x_finds]
theorem m_kinds {A : Gs} {w : Wd} {t x : Int32} (h : M A (putS w A)) (hI : Iv A) (hS : Shs A) (hd : A 0 1 ≤ 40000) : opM 162 [.int t, .int x] (o_kinds A t x) (putS w A) := by
  have h0 := hI.1
  unfold o_kinds o_told
  rcases ok_case t 3 (by omega) with ⟨k, hk, rfl, ek, ik⟩ | ek
  · rw [if_pos ek, ik]
    by_cases hb : A 23 k = 0
    · have hw : wnt A (nI k) = lo 5 := by unfold wnt; rw [if_pos ek, ik, if_pos hb]
      have hw0 : ¬ lo 5 = nI 0 := lo_n0.2
      rw [if_pos hb]
      refine opM_bad h (by omega) ?_
      simp (disch := first | omega | decide | exact nI0_01 | exact nI1_01 | exact bz_01 _) only [Option.bind_some, List.cons_append, List.nil_append, Nat.reduceAdd, Nat.reduceMul, Nat.reduceLeDiff, Nat.reduceEqDiff, ↓reduceIte, n162, u162_0, u162_1, u162_2, u162_3, u162_6, u162_7, u162_8, u162_11, u162_12, u162_13, u162_16, u162_17, u162_18, u162_19, u162_20, u162_23, u162_25, u162_26, u162_28, u162_29, u162_33, u162_35, u162_38, u162_39, u162_42, u162_43, u162_44, u162_47, u162_49, u162_50, u162_52, u162_53, u162_54, u162_55, u162_58, u162_61, u162_62, u162_64, u162_65, u162_68, u162_69, u162_70, u162_72, u162_75, u162_78, u162_79, u162_82, u162_83, u162_84, u162_87, u162_89, u162_90, u162_92, x_wantsFor h hS hI, hw, hw0, lo_n0, if_false, x_finds]
    · have hw : wnt A (nI k) = nI 0 := by unfold wnt; rw [if_pos ek, ik, if_neg hb]
      rw [if_neg hb]
      rcases isW_case A x hI.1 with ⟨a, na, ha, rfl, ea, ia⟩ | ea
      · rw [if_pos ea, ia]
        have h8 := h.size (t := k) (by omega)
        have h9 : ∀ j, j < 40 → _ := fun j hj => h.num (t := k) (k := j) (by omega) hj
        rw [putS_ne _ _ (by omega)] at h8
        simp only [putS_ne w A (show (53 : Nat) ≠ 45 by omega)] at h9
        obtain ⟨g', h1⟩ := kinds_loop (x3 := some (.int (nI 0))) hI (by omega) ha (hS k (by omega)).2 hd h8 h9 7 0 (A 4 a) (nI 0) (w.1 48) rfl
        rw [put_id w rfl, up_id A rfl] at h1
        refine opM_48 (g := g') h ?_
        simp (disch := first | omega | decide | exact nI0_01 | exact nI1_01 | exact bz_01 _) only [Option.bind_some, List.cons_append, List.nil_append, Nat.reduceAdd, Nat.reduceMul, Nat.reduceLeDiff, Nat.reduceEqDiff, ↓reduceIte, n162, u162_0, u162_1, u162_2, u162_3, u162_6, u162_7, u162_8, u162_11, u162_12, u162_13, u162_16, u162_17, u162_18, u162_19, u162_20, u162_23, u162_25, u162_26, u162_28, u162_29, u162_33, u162_35, u162_38, u162_39, u162_42, u162_43, u162_44, u162_47, u162_49, u162_50, u162_52, u162_53, u162_54, u162_55, u162_58, u162_61, u162_62, u162_64, u162_65, u162_68, u162_69, u162_70, u162_72, u162_75, u162_78, u162_79, u162_82, u162_83, u162_84, u162_87, u162_89, u162_90, u162_92, x_wantsFor h hS hI, hw, ea, if_true, bz_t, bz_f, nn_eq0, nn_eq, eq_self, not_true_eq_false, not_false_eq_true, s_its]
        exact h1
      · rw [if_neg (by simp [ea])]
        refine opM_bad h (by omega) ?_
        simp (disch := first | omega | decide | exact nI0_01 | exact nI1_01 | exact bz_01 _) only [Option.bind_some, List.cons_append, List.nil_append, Nat.reduceAdd, Nat.reduceMul, Nat.reduceLeDiff, Nat.reduceEqDiff, ↓reduceIte, n162, u162_0, u162_1, u162_2, u162_3, u162_6, u162_7, u162_8, u162_11, u162_12, u162_13, u162_16, u162_17, u162_18, u162_19, u162_20, u162_23, u162_25, u162_26, u162_28, u162_29, u162_33, u162_35, u162_38, u162_39, u162_42, u162_43, u162_44, u162_47, u162_49, u162_50, u162_52, u162_53, u162_54, u162_55, u162_58, u162_61, u162_62, u162_64, u162_65, u162_68, u162_69, u162_70, u162_72, u162_75, u162_78, u162_79, u162_82, u162_83, u162_84, u162_87, u162_89, u162_90, u162_92, x_wantsFor h hS hI, hw, ea, if_true, if_false, Bool.false_eq_true, lo_n0, x_finds]
  · have hw : wnt A t = lo 0 := by unfold wnt; rw [if_neg (by simp [ek])]
    have hw0 : ¬ lo 0 = nI 0 := lo_n0.1
    rw [if_neg (by simp [ek])]
    refine opM_bad h (by omega) ?_
    simp (disch := first | omega | decide | exact nI0_01 | exact nI1_01 | exact bz_01 _) only [Option.bind_some, List.cons_append, List.nil_append, Nat.reduceAdd, Nat.reduceMul, Nat.reduceLeDiff, Nat.reduceEqDiff, ↓reduceIte, n162, u162_0, u162_1, u162_2, u162_3, u162_6, u162_7, u162_8, u162_11, u162_12, u162_13, u162_16, u162_17, u162_18, u162_19, u162_20, u162_23, u162_25, u162_26, u162_28, u162_29, u162_33, u162_35, u162_38, u162_39, u162_42, u162_43, u162_44, u162_47, u162_49, u162_50, u162_52, u162_53, u162_54, u162_55, u162_58, u162_61, u162_62, u162_64, u162_65, u162_68, u162_69, u162_70, u162_72, u162_75, u162_78, u162_79, u162_82, u162_83, u162_84, u162_87, u162_89, u162_90, u162_92, x_wantsFor h hS hI, hw, hw0, lo_n0, if_false, x_finds]
