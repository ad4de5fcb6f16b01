/-! WRITING ON SHEETS -/
def lowb (b : Nat) (v : Int32) : Int32 := if b = 8 then v.toInt8.toInt32 else if b = 16 then v.toInt16.toInt32 else v
def okS (z : Nat) (i : Int32) : Bool := decide (0 ≤ i.toInt ∧ i.toInt < (z : Int))
theorem okS_case (z : Nat) (i : Int32) (h : z ≤ 40) : (∃ k, k < z ∧ i = nI k ∧ okS z i = true ∧ ix i = k) ∨ okS z i = false := by
  by_cases hv : 0 ≤ i.toInt ∧ i.toInt < (z : Int)
  · left
    have e : i = nI i.toInt.toNat := by
      apply Int32.toInt_inj.mp
      rw [nI_toInt (by omega)]
      omega
    exact ⟨i.toInt.toNat, by omega, e, decide_eq_true hv, rfl⟩
  · right
    exact decide_eq_false hv
theorem x_inS {i : Int32} {z : Nat} {w : Wd} (hz : z ≤ 40) : CALL 102 [.long i.toInt64, .long 0, .long (nI z - nI 1).toInt64] w = some ([.int (bz (okS z i))], w) := by
  by_cases h : z = 0
  · subst h
    have e2 : (i.toInt64 ≤ (nI 0 - nI 1).toInt64) = (i.toInt ≤ -1) := by
      rw [Int64.le_iff_toInt_le, Int32.toInt_toInt64, Int32.toInt_toInt64]; rfl
    have e1 : ((0 : Int64) ≤ i.toInt64) = (0 ≤ i.toInt) := by
      rw [Int64.le_iff_toInt_le, Int32.toInt_toInt64]; rfl
    have e3 : okS 0 i = false := decide_eq_false (by omega)
    simp (disch := first | omega | decide | exact nI0_01 | exact nI1_01 | exact bz_01 _) only [Option.bind_some, List.cons_append, List.nil_append, Nat.reduceAdd, Nat.reduceMul, Nat.reduceLeDiff, Nat.reduceEqDiff, ↓reduceIte, n102, u102_0, u102_1, u102_2, u102_3, u102_6, u102_7, u102_9, u102_10, u102_13, u102_14, u102_17, u102_18]
    simp only [l_ge, l_gt, e1, e2, e3, bz_f]
    by_cases q : 0 ≤ i.toInt
    · have q2 : ¬ i.toInt ≤ -1 := by omega
      simp [q, q2]
    · simp [q]
  · have e : nI z - nI 1 = nI (z - 1) := nn_sub (by omega)
    have e2 : okS z i = ok i (z - 1) := by
      unfold okS ok
      congr 1
      exact propext ⟨fun q => by omega, fun q => by omega⟩
    rw [e, e2]
    exact xin_v (by omega)
def o_write (A : Gs) (t i v : Int32) : Int32 × Gs := if ok t 3 = true then (if A 23 (ix t) = 0 then bad A 5 else if okS (A 24 (ix t)) i = true then (nI 1, up A (25 + ix t) (ix i) (un (lowb (A 23 (ix t)) v))) else bad A 0) else bad A 0
theorem m_write {A : Gs} {w : Wd} {t i v : Int32} (h : M A w) (hS : Shs A) : opM 193 [.int t, .int i, .int v] (o_write A t i v) w := by
  unfold o_write
  rcases ok_case t 3 (by omega) with ⟨k, hk, rfl, ek, ik⟩ | ek
  · have hk4 : k < 4 := by omega
    rw [if_pos ek, ik]
    have hb := h.bits hk4
    have hz := h.size hk4
    have hn := bits_neg hS hk4
    have hS2 := (hS k hk4).2
    by_cases h0 : A 23 k = 0
    · rw [if_pos h0]
      rw [if_pos h0] at hb
      refine opM_bad h (by omega) ?_
      have hm : ¬ (0 : Int32) ≤ -1 := by decide
      simp (disch := first | omega | decide | exact nI0_01 | exact nI1_01 | exact bz_01 _) only [Option.bind_some, List.cons_append, List.nil_append, Nat.reduceAdd, Nat.reduceMul, Nat.reduceLeDiff, Nat.reduceEqDiff, ↓reduceIte, n193, u193_0, u193_1, u193_4, u193_7, u193_8, u193_10, u193_13, u193_14, u193_15, u193_18, u193_19, u193_20, u193_23, u193_24, u193_27, u193_30, u193_31, u193_32, u193_33, u193_34, u193_35, u193_38, u193_39, u193_40, u193_41, u193_42, u193_43, u193_46, u193_49, u193_50, u193_52, u193_55, u193_56, u193_57, u193_60, u193_62, u193_63, u193_64, u193_65, u193_66, u193_67, u193_70, u193_71, u193_72, u193_74, u193_77, u193_78, u193_79, u193_82, u193_83, u193_86, u193_87, u193_88, u193_90, u193_93, u193_94, u193_95, u193_98, u193_99, u193_100, u193_101, x_isSheet, ek, bz_t, bz_f, nn_eq0, nn_eq, eq_self, not_true_eq_false, not_false_eq_true, hb, hm, if_false, x_f5]
    · rw [if_neg h0]
      rw [if_neg h0] at hb hn
      have hm : (0 : Int32) ≤ nI (A 23 k) := by rw [hn]; exact h0
      rcases okS_case (A 24 k) i hS2 with ⟨j, hj, rfl, ej, ij⟩ | ej
      · rw [if_pos ej, ij]
        refine opM_is ?_ (M_num h hk4 (i := j) (by omega) (x := lowb (A 23 k) v) (nI_un _).symm) ((fM.rf w).st (by omega) (by omega) _ _)
        rcases (hS k hk4).1 with q | q | q | q
        · exact absurd q h0
        · rw [q] at hb hm ⊢
          simp (disch := first | omega | decide | exact nI0_01 | exact nI1_01 | exact bz_01 _) only [Option.bind_some, List.cons_append, List.nil_append, Nat.reduceAdd, Nat.reduceMul, Nat.reduceLeDiff, Nat.reduceEqDiff, ↓reduceIte, n193, u193_0, u193_1, u193_4, u193_7, u193_8, u193_10, u193_13, u193_14, u193_15, u193_18, u193_19, u193_20, u193_23, u193_24, u193_27, u193_30, u193_31, u193_32, u193_33, u193_34, u193_35, u193_38, u193_39, u193_40, u193_41, u193_42, u193_43, u193_46, u193_49, u193_50, u193_52, u193_55, u193_56, u193_57, u193_60, u193_62, u193_63, u193_64, u193_65, u193_66, u193_67, u193_70, u193_71, u193_72, u193_74, u193_77, u193_78, u193_79, u193_82, u193_83, u193_86, u193_87, u193_88, u193_90, u193_93, u193_94, u193_95, u193_98, u193_99, u193_100, u193_101, x_isSheet, ek, bz_t, bz_f, nn_eq0, nn_eq, eq_self, not_true_eq_false, not_false_eq_true, hb, hm, hz, x_inS, ej, pk_mul, nI_add, lowb]
        · rw [q] at hb hm ⊢
          simp (disch := first | omega | decide | exact nI0_01 | exact nI1_01 | exact bz_01 _) only [Option.bind_some, List.cons_append, List.nil_append, Nat.reduceAdd, Nat.reduceMul, Nat.reduceLeDiff, Nat.reduceEqDiff, ↓reduceIte, n193, u193_0, u193_1, u193_4, u193_7, u193_8, u193_10, u193_13, u193_14, u193_15, u193_18, u193_19, u193_20, u193_23, u193_24, u193_27, u193_30, u193_31, u193_32, u193_33, u193_34, u193_35, u193_38, u193_39, u193_40, u193_41, u193_42, u193_43, u193_46, u193_49, u193_50, u193_52, u193_55, u193_56, u193_57, u193_60, u193_62, u193_63, u193_64, u193_65, u193_66, u193_67, u193_70, u193_71, u193_72, u193_74, u193_77, u193_78, u193_79, u193_82, u193_83, u193_86, u193_87, u193_88, u193_90, u193_93, u193_94, u193_95, u193_98, u193_99, u193_100, u193_101, x_isSheet, ek, bz_t, bz_f, nn_eq0, nn_eq, eq_self, not_true_eq_false, not_false_eq_true, hb, hm, hz, x_inS, ej, pk_mul, nI_add, lowb]
        · rw [q] at hb hm ⊢
          simp (disch := first | omega | decide | exact nI0_01 | exact nI1_01 | exact bz_01 _) only [Option.bind_some, List.cons_append, List.nil_append, Nat.reduceAdd, Nat.reduceMul, Nat.reduceLeDiff, Nat.reduceEqDiff, ↓reduceIte, n193, u193_0, u193_1, u193_4, u193_7, u193_8, u193_10, u193_13, u193_14, u193_15, u193_18, u193_19, u193_20, u193_23, u193_24, u193_27, u193_30, u193_31, u193_32, u193_33, u193_34, u193_35, u193_38, u193_39, u193_40, u193_41, u193_42, u193_43, u193_46, u193_49, u193_50, u193_52, u193_55, u193_56, u193_57, u193_60, u193_62, u193_63, u193_64, u193_65, u193_66, u193_67, u193_70, u193_71, u193_72, u193_74, u193_77, u193_78, u193_79, u193_82, u193_83, u193_86, u193_87, u193_88, u193_90, u193_93, u193_94, u193_95, u193_98, u193_99, u193_100, u193_101, x_isSheet, ek, bz_t, bz_f, nn_eq0, nn_eq, eq_self, not_true_eq_false, not_false_eq_true, hb, hm, hz, x_inS, ej, pk_mul, nI_add, lowb]
      · rw [if_neg (by simp [ej])]
        refine opM_bad h (by omega) ?_
        simp (disch := first | omega | decide | exact nI0_01 | exact nI1_01 | exact bz_01 _) only [Option.bind_some, List.cons_append, List.nil_append, Nat.reduceAdd, Nat.reduceMul, Nat.reduceLeDiff, Nat.reduceEqDiff, ↓reduceIte, n193, u193_0, u193_1, u193_4, u193_7, u193_8, u193_10, u193_13, u193_14, u193_15, u193_18, u193_19, u193_20, u193_23, u193_24, u193_27, u193_30, u193_31, u193_32, u193_33, u193_34, u193_35, u193_38, u193_39, u193_40, u193_41, u193_42, u193_43, u193_46, u193_49, u193_50, u193_52, u193_55, u193_56, u193_57, u193_60, u193_62, u193_63, u193_64, u193_65, u193_66, u193_67, u193_70, u193_71, u193_72, u193_74, u193_77, u193_78, u193_79, u193_82, u193_83, u193_86, u193_87, u193_88, u193_90, u193_93, u193_94, u193_95, u193_98, u193_99, u193_100, u193_101, x_isSheet, ek, bz_t, bz_f, nn_eq0, nn_eq, eq_self, not_true_eq_false, not_false_eq_true, hb, hm, if_true, hz, x_inS, ej, x_f0]
  · rw [if_neg (by simp [ek])]
    refine opM_bad h (by omega) ?_
    simp (disch := first | omega | decide | exact nI0_01 | exact nI1_01 | exact bz_01 _) only [Option.bind_some, List.cons_append, List.nil_append, Nat.reduceAdd, Nat.reduceMul, Nat.reduceLeDiff, Nat.reduceEqDiff, ↓reduceIte, n193, u193_0, u193_1, u193_4, u193_7, u193_8, u193_10, u193_13, u193_14, u193_15, u193_18, u193_19, u193_20, u193_23, u193_24, u193_27, u193_30, u193_31, u193_32, u193_33, u193_34, u193_35, u193_38, u193_39, u193_40, u193_41, u193_42, u193_43, u193_46, u193_49, u193_50, u193_52, u193_55, u193_56, u193_57, u193_60, u193_62, u193_63, u193_64, u193_65, u193_66, u193_67, u193_70, u193_71, u193_72, u193_74, u193_77, u193_78, u193_79, u193_82, u193_83, u193_86, u193_87, u193_88, u193_90, u193_93, u193_94, u193_95, u193_98, u193_99, u193_100, u193_101, x_isSheet, ek, bz_t, bz_f, nn_eq0, nn_eq, eq_self, not_true_eq_false, not_false_eq_true, x_f0]
def ldN (row : Nat → Nat) (z : Nat) : Nat → Nat → Nat
  | 0, k => k
  | m + 1, k => if k < z ∧ ok (nI (row k)) 999 = true then ldN row z m (k + 1) else k
def ldS (row : Nat → Nat) : Nat → Nat → Gs → Gs
  | 0, _, A => A
  | m + 1, k, A => ldS row m (k + 1) (up A 1 k (ix (nI (row k))))
theorem ldS_1 (row : Nat → Nat) : ∀ m k (A : Gs) {c : Nat}, c ≠ 1 → ldS row m k A c = A c
  | 0, _, _, _, _ => rfl
  | m + 1, k, A, c, h => by
    rw [ldS, ldS_1 row m (k + 1) _ h]
    funext j
    rw [up_nc A h]
theorem ldN_ge (row : Nat → Nat) (z : Nat) : ∀ m k, k ≤ ldN row z m k
  | 0, _ => Nat.le_refl _
  | m + 1, k => by
    unfold ldN
    split
    · exact Nat.le_trans (Nat.le_succ k) (ldN_ge row z m (k + 1))
    · exact Nat.le_refl _
theorem load_loop {t z : Nat} {row : Nat → Nat} {w : Wd} (ht : t < 4) (hz : z ≤ 40) (h8 : w.1 52 t = nI z) (h9 : ∀ k, k < 40 → w.1 53 (40 * t + k) = nI (row k)) : ∀ (m k : Nat) (A : Gs), m + k = 10 → RUN 196 20 [some (.ref 44), some (.int (nI t)), some (.int (nI k))] [] [] (putS w A) = some ([.int (nI (ldN row z m k))], putS w (ldS row (ldN row z m k - k) k A)) := by
  intro m
  induction m with
  | zero =>
    intro k A hm
    have e : k = 10 := by omega
    subst e
    rw [u196_20]
    simp (disch := first | omega | decide | exact nI0_01 | exact nI1_01 | exact bz_01 _) only [Option.bind_some, List.cons_append, List.nil_append, Nat.reduceAdd, Nat.reduceMul, Nat.reduceLeDiff, Nat.reduceEqDiff, ↓reduceIte, n196, u196_0, u196_1, u196_2, u196_5, u196_8, u196_9, u196_10, u196_11, u196_14, u196_17, u196_18, u196_19, u196_21, u196_22, u196_25, u196_26, u196_27, u196_30, u196_31, u196_33, u196_36, u196_37, u196_40, u196_42, u196_43, u196_44, u196_45, u196_46, u196_47, u196_48, u196_49, u196_52, u196_55, u196_58, u196_59, u196_62, u196_63, u196_64, u196_65, u196_66, u196_69, u196_71, u196_72, u196_73, u196_74, u196_75, u196_76, u196_77, u196_80, u196_83, u196_84, putS_ne, h8, nn_le, Nat.le_refl, if_true, ite_self, ldN, Nat.sub_self, ldS]
  | succ m ih =>
    intro k A hm
    have h1 : ¬ 10 ≤ k := by omega
    have hn := ldN_ge row z m (k + 1)
    by_cases h2 : k < z
    · have h2' : ¬ z ≤ k := by omega
      have h9' := h9 k (by omega)
      rcases ok_case (nI (row k)) 999 (by omega) with ⟨j, hj, e1, e2, e3⟩ | e1
      · have en : ldN row z (m + 1) k = ldN row z m (k + 1) := by rw [ldN, if_pos ⟨h2, e2⟩]
        have es : ldN row z m (k + 1) - k = (ldN row z m (k + 1) - (k + 1)) + 1 := by omega
        rw [en, es, ldS, e3, u196_20]
        rw [e1] at e2 h9'
        simp (disch := first | omega | decide | exact nI0_01 | exact nI1_01 | exact bz_01 _) only [Option.bind_some, List.cons_append, List.nil_append, Nat.reduceAdd, Nat.reduceMul, Nat.reduceLeDiff, Nat.reduceEqDiff, ↓reduceIte, n196, u196_0, u196_1, u196_2, u196_5, u196_8, u196_9, u196_10, u196_11, u196_14, u196_17, u196_18, u196_19, u196_21, u196_22, u196_25, u196_26, u196_27, u196_30, u196_31, u196_33, u196_36, u196_37, u196_40, u196_42, u196_43, u196_44, u196_45, u196_46, u196_47, u196_48, u196_49, u196_52, u196_55, u196_58, u196_59, u196_62, u196_63, u196_64, u196_65, u196_66, u196_69, u196_71, u196_72, u196_73, u196_74, u196_75, u196_76, u196_77, u196_80, u196_83, u196_84, putS_ne, h8, nn_le, h1, h2', if_false, pk_mul, nI_add, h9', xin_1, xin_2, xin_3, xin_4, xin_5, xin_6, xin_7, xin_9, xin_20, xin_40, xin_99, xin_100, xin_999, xin_9999, xin_1_60, xin_1_20, xin_1_4, xin_2_4, xin_v, e2, bz_t, bz_f, nn_eq0, nn_eq, eq_self, not_true_eq_false, not_false_eq_true, putS_s1]
        exact ih (k + 1) _ (by omega)
      · have en : ldN row z (m + 1) k = k := by rw [ldN, if_neg (fun q => by rw [e1] at q; exact absurd q.2 (by decide))]
        rw [en, Nat.sub_self, u196_20]
        simp (disch := first | omega | decide | exact nI0_01 | exact nI1_01 | exact bz_01 _) only [Option.bind_some, List.cons_append, List.nil_append, Nat.reduceAdd, Nat.reduceMul, Nat.reduceLeDiff, Nat.reduceEqDiff, ↓reduceIte, n196, u196_0, u196_1, u196_2, u196_5, u196_8, u196_9, u196_10, u196_11, u196_14, u196_17, u196_18, u196_19, u196_21, u196_22, u196_25, u196_26, u196_27, u196_30, u196_31, u196_33, u196_36, u196_37, u196_40, u196_42, u196_43, u196_44, u196_45, u196_46, u196_47, u196_48, u196_49, u196_52, u196_55, u196_58, u196_59, u196_62, u196_63, u196_64, u196_65, u196_66, u196_69, u196_71, u196_72, u196_73, u196_74, u196_75, u196_76, u196_77, u196_80, u196_83, u196_84, putS_ne, h8, nn_le, h1, h2', if_false, pk_mul, nI_add, h9', xin_1, xin_2, xin_3, xin_4, xin_5, xin_6, xin_7, xin_9, xin_20, xin_40, xin_99, xin_100, xin_999, xin_9999, xin_1_60, xin_1_20, xin_1_4, xin_2_4, xin_v, e1, bz_t, bz_f, nn_eq0, nn_eq, eq_self, not_true_eq_false, not_false_eq_true, ldS]
    · have h2' : z ≤ k := by omega
      have en : ldN row z (m + 1) k = k := by rw [ldN, if_neg (fun q => h2 q.1)]
      rw [en, Nat.sub_self, u196_20]
      simp (disch := first | omega | decide | exact nI0_01 | exact nI1_01 | exact bz_01 _) only [Option.bind_some, List.cons_append, List.nil_append, Nat.reduceAdd, Nat.reduceMul, Nat.reduceLeDiff, Nat.reduceEqDiff, ↓reduceIte, n196, u196_0, u196_1, u196_2, u196_5, u196_8, u196_9, u196_10, u196_11, u196_14, u196_17, u196_18, u196_19, u196_21, u196_22, u196_25, u196_26, u196_27, u196_30, u196_31, u196_33, u196_36, u196_37, u196_40, u196_42, u196_43, u196_44, u196_45, u196_46, u196_47, u196_48, u196_49, u196_52, u196_55, u196_58, u196_59, u196_62, u196_63, u196_64, u196_65, u196_66, u196_69, u196_71, u196_72, u196_73, u196_74, u196_75, u196_76, u196_77, u196_80, u196_83, u196_84, putS_ne, h8, nn_le, h2', if_true, ldS]
def o_load (A : Gs) (t : Int32) : Int32 × Gs := if ok t 3 = true then (if A 23 (ix t) = 0 then bad A 5 else (nI (ldN (A (25 + ix t)) (A 24 (ix t)) 10 0), ldS (A (25 + ix t)) (ldN (A (25 + ix t)) (A 24 (ix t)) 10 0) 0 A)) else bad A 0
theorem m_load {A : Gs} {w : Wd} {t : Int32} (h : M A (putS w A)) (hS : Shs A) : opM 196 [.int t] (o_load A t) (putS w A) := by
  unfold o_load
  rcases ok_case t 3 (by omega) with ⟨k, hk, rfl, ek, ik⟩ | ek
  · rw [if_pos ek, ik]
    by_cases hb : A 23 k = 0
    · have hw : wnt A (nI k) = lo 5 := by unfold wnt; rw [if_pos ek, ik, if_pos hb]
      rw [if_pos hb]
      refine opM_bad h (by omega) ?_
      simp (disch := first | omega | decide | exact nI0_01 | exact nI1_01 | exact bz_01 _) only [Option.bind_some, List.cons_append, List.nil_append, Nat.reduceAdd, Nat.reduceMul, Nat.reduceLeDiff, Nat.reduceEqDiff, ↓reduceIte, n196, u196_0, u196_1, u196_2, u196_5, u196_8, u196_9, u196_10, u196_11, u196_14, u196_17, u196_18, u196_19, u196_21, u196_22, u196_25, u196_26, u196_27, u196_30, u196_31, u196_33, u196_36, u196_37, u196_40, u196_42, u196_43, u196_44, u196_45, u196_46, u196_47, u196_48, u196_49, u196_52, u196_55, u196_58, u196_59, u196_62, u196_63, u196_64, u196_65, u196_66, u196_69, u196_71, u196_72, u196_73, u196_74, u196_75, u196_76, u196_77, u196_80, u196_83, u196_84, x_wants h hS, hw, lo_n0, if_false, not_false_eq_true, if_true, x_finds]
    · have hw : wnt A (nI k) = nI 0 := by unfold wnt; rw [if_pos ek, ik, if_neg hb]
      rw [if_neg hb]
      have h8 := h.size (t := k) (by omega)
      have h9 : ∀ j, j < 40 → _ := fun j hj => h.num (t := k) (k := j) (by omega) hj
      rw [putS_ne _ _ (by omega)] at h8
      simp only [putS_ne w A (show (53 : Nat) ≠ 45 by omega)] at h9
      refine opM_set h (fun c hc => ldS_1 _ _ _ _ (by omega)) ?_
      simp (disch := first | omega | decide | exact nI0_01 | exact nI1_01 | exact bz_01 _) only [Option.bind_some, List.cons_append, List.nil_append, Nat.reduceAdd, Nat.reduceMul, Nat.reduceLeDiff, Nat.reduceEqDiff, ↓reduceIte, n196, u196_0, u196_1, u196_2, u196_5, u196_8, u196_9, u196_10, u196_11, u196_14, u196_17, u196_18, u196_19, u196_21, u196_22, u196_25, u196_26, u196_27, u196_30, u196_31, u196_33, u196_36, u196_37, u196_40, u196_42, u196_43, u196_44, u196_45, u196_46, u196_47, u196_48, u196_49, u196_52, u196_55, u196_58, u196_59, u196_62, u196_63, u196_64, u196_65, u196_66, u196_69, u196_71, u196_72, u196_73, u196_74, u196_75, u196_76, u196_77, u196_80, u196_83, u196_84, x_wants h hS, hw, bz_t, bz_f, nn_eq0, nn_eq, eq_self, not_true_eq_false, not_false_eq_true]
      exact load_loop (by omega) (hS k (by omega)).2 h8 h9 10 0 A rfl
  · have hw : wnt A t = lo 0 := by unfold wnt; rw [if_neg (by simp [ek])]
    rw [if_neg (by simp [ek])]
    refine opM_bad h (by omega) ?_
    simp (disch := first | omega | decide | exact nI0_01 | exact nI1_01 | exact bz_01 _) only [Option.bind_some, List.cons_append, List.nil_append, Nat.reduceAdd, Nat.reduceMul, Nat.reduceLeDiff, Nat.reduceEqDiff, ↓reduceIte, n196, u196_0, u196_1, u196_2, u196_5, u196_8, u196_9, u196_10, u196_11, u196_14, u196_17, u196_18, u196_19, u196_21, u196_22, u196_25, u196_26, u196_27, u196_30, u196_31, u196_33, u196_36, u196_37, u196_40, u196_42, u196_43, u196_44, u196_45, u196_46, u196_47, u196_48, u196_49, u196_52, u196_55, u196_58, u196_59, u196_62, u196_63, u196_64, u196_65, u196_66, u196_69, u196_71, u196_72, u196_73, u196_74, u196_75, u196_76, u196_77, u196_80, u196_83, u196_84, x_wants h hS, hw, lo_n0, if_false, not_false_eq_true, if_true, x_finds]
def jd (A : Gs) (row : Nat → Nat) : Nat → Nat → Nat
  | 0, k => k
  | m + 1, k => if k < A 0 0 ∧ nI (row k) = nI (A 8 k) then jd A row m (k + 1) else k
theorem jd_ge (A : Gs) (row : Nat → Nat) : ∀ m k, k ≤ jd A row m k ∧ jd A row m k ≤ k + m
  | 0, _ => ⟨Nat.le_refl _, Nat.le_refl _⟩
  | m + 1, k => by
    have := jd_ge A row m (k + 1)
    unfold jd
    split <;> omega
theorem judge_loop {t z : Nat} {row : Nat → Nat} {w : Wd} {A : Gs} (hI : Iv A) (ht : t < 4) (hz : z ≤ 40) (h8 : w.1 52 t = nI z) (h9 : ∀ k, k < 40 → w.1 53 (40 * t + k) = nI (row k)) : ∀ (m k : Nat), m + k = z → RUN 197 20 [some (.ref 44), some (.int (nI t)), some (.int (nI k))] [] [] (putS w A) = some ([.int (nI (if jd A row m k < z then 1 + jd A row m k else 0))], putS w A) := by
  have h0 := hI.1
  intro m
  induction m with
  | zero =>
    intro k hm
    have e : k = z := by omega
    subst e
    rw [u197_20]
    simp (disch := first | omega | decide | exact nI0_01 | exact nI1_01 | exact bz_01 _) only [Option.bind_some, List.cons_append, List.nil_append, Nat.reduceAdd, Nat.reduceMul, Nat.reduceLeDiff, Nat.reduceEqDiff, ↓reduceIte, n197, u197_0, u197_1, u197_2, u197_5, u197_8, u197_9, u197_10, u197_11, u197_14, u197_17, u197_18, u197_19, u197_21, u197_22, u197_25, u197_26, u197_27, u197_30, u197_31, u197_32, u197_35, u197_38, u197_39, u197_42, u197_44, u197_45, u197_46, u197_47, u197_48, u197_49, u197_50, u197_51, u197_52, u197_55, u197_58, u197_61, u197_64, u197_65, u197_66, u197_69, u197_70, u197_71, u197_74, u197_75, u197_76, u197_77, u197_80, u197_81, putS_ne, h8, nn_le, Nat.le_refl, if_true, jd, Nat.lt_irrefl, if_false]
  | succ m ih =>
    intro k hm
    have h1 : ¬ z ≤ k := by omega
    have h1' : k < z := by omega
    have h9' := h9 k (by omega)
    have ew : isW A (nI k) = decide (k < A 0 0) := isW_nI (by omega)
    by_cases h2 : k < A 0 0
    · have hw : isW A (nI k) = true := by rw [ew]; exact decide_eq_true h2
      by_cases h3 : nI (row k) = nI (A 8 k)
      · have en : jd A row (m + 1) k = jd A row m (k + 1) := by rw [jd, if_pos ⟨h2, h3⟩]
        rw [en, u197_20]
        simp (disch := first | omega | decide | exact nI0_01 | exact nI1_01 | exact bz_01 _) only [Option.bind_some, List.cons_append, List.nil_append, Nat.reduceAdd, Nat.reduceMul, Nat.reduceLeDiff, Nat.reduceEqDiff, ↓reduceIte, n197, u197_0, u197_1, u197_2, u197_5, u197_8, u197_9, u197_10, u197_11, u197_14, u197_17, u197_18, u197_19, u197_21, u197_22, u197_25, u197_26, u197_27, u197_30, u197_31, u197_32, u197_35, u197_38, u197_39, u197_42, u197_44, u197_45, u197_46, u197_47, u197_48, u197_49, u197_50, u197_51, u197_52, u197_55, u197_58, u197_61, u197_64, u197_65, u197_66, u197_69, u197_70, u197_71, u197_74, u197_75, u197_76, u197_77, u197_80, u197_81, putS_ne, h8, nn_le, h1, if_false, x_isWriter hI.1, hw, bz_t, nn_eq0, pk_mul, nI_add, h9', h3, s_its, not_true_eq_false]
        exact ih (k + 1) (by omega)
      · have en : jd A row (m + 1) k = k := by rw [jd, if_neg (fun q => h3 q.2)]
        rw [en, if_pos h1', u197_20]
        simp (disch := first | omega | decide | exact nI0_01 | exact nI1_01 | exact bz_01 _) only [Option.bind_some, List.cons_append, List.nil_append, Nat.reduceAdd, Nat.reduceMul, Nat.reduceLeDiff, Nat.reduceEqDiff, ↓reduceIte, n197, u197_0, u197_1, u197_2, u197_5, u197_8, u197_9, u197_10, u197_11, u197_14, u197_17, u197_18, u197_19, u197_21, u197_22, u197_25, u197_26, u197_27, u197_30, u197_31, u197_32, u197_35, u197_38, u197_39, u197_42, u197_44, u197_45, u197_46, u197_47, u197_48, u197_49, u197_50, u197_51, u197_52, u197_55, u197_58, u197_61, u197_64, u197_65, u197_66, u197_69, u197_70, u197_71, u197_74, u197_75, u197_76, u197_77, u197_80, u197_81, putS_ne, h8, nn_le, h1, if_false, x_isWriter hI.1, hw, bz_t, nn_eq0, pk_mul, nI_add, h9', h3, s_its, not_false_eq_true, if_true]
    · have hw : isW A (nI k) = false := by rw [ew]; exact decide_eq_false h2
      have en : jd A row (m + 1) k = k := by rw [jd, if_neg (fun q => h2 q.1)]
      rw [en, if_pos h1', u197_20]
      simp (disch := first | omega | decide | exact nI0_01 | exact nI1_01 | exact bz_01 _) only [Option.bind_some, List.cons_append, List.nil_append, Nat.reduceAdd, Nat.reduceMul, Nat.reduceLeDiff, Nat.reduceEqDiff, ↓reduceIte, n197, u197_0, u197_1, u197_2, u197_5, u197_8, u197_9, u197_10, u197_11, u197_14, u197_17, u197_18, u197_19, u197_21, u197_22, u197_25, u197_26, u197_27, u197_30, u197_31, u197_32, u197_35, u197_38, u197_39, u197_42, u197_44, u197_45, u197_46, u197_47, u197_48, u197_49, u197_50, u197_51, u197_52, u197_55, u197_58, u197_61, u197_64, u197_65, u197_66, u197_69, u197_70, u197_71, u197_74, u197_75, u197_76, u197_77, u197_80, u197_81, putS_ne, h8, nn_le, h1, if_false, x_isWriter hI.1, hw, bz_f, nn_eq0, if_true, nI_add]
def o_judge (A : Gs) (t : Int32) : Int32 × Gs := if ok t 3 = true then (if A 23 (ix t) = 0 then bad A 5 else (nI (if jd A (A (25 + ix t)) (A 24 (ix t)) 0 < A 24 (ix t) then 1 + jd A (A (25 + ix t)) (A 24 (ix t)) 0 else 0), A)) else bad A 0
theorem m_judge {A : Gs} {w : Wd} {t : Int32} (h : M A (putS w A)) (hI : Iv A) (hS : Shs A) : opM 197 [.int t] (o_judge A t) (putS w A) := by
  unfold o_judge
  rcases ok_case t 3 (by omega) with ⟨k, hk, rfl, ek, ik⟩ | ek
  · rw [if_pos ek, ik]
    by_cases hb : A 23 k = 0
    · have hw : wnt A (nI k) = lo 5 := by unfold wnt; rw [if_pos ek, ik, if_pos hb]
      rw [if_pos hb]
      refine opM_bad h (by omega) ?_
      simp (disch := first | omega | decide | exact nI0_01 | exact nI1_01 | exact bz_01 _) only [Option.bind_some, List.cons_append, List.nil_append, Nat.reduceAdd, Nat.reduceMul, Nat.reduceLeDiff, Nat.reduceEqDiff, ↓reduceIte, n197, u197_0, u197_1, u197_2, u197_5, u197_8, u197_9, u197_10, u197_11, u197_14, u197_17, u197_18, u197_19, u197_21, u197_22, u197_25, u197_26, u197_27, u197_30, u197_31, u197_32, u197_35, u197_38, u197_39, u197_42, u197_44, u197_45, u197_46, u197_47, u197_48, u197_49, u197_50, u197_51, u197_52, u197_55, u197_58, u197_61, u197_64, u197_65, u197_66, u197_69, u197_70, u197_71, u197_74, u197_75, u197_76, u197_77, u197_80, u197_81, x_wants h hS, hw, lo_n0, if_false, not_false_eq_true, if_true, x_finds]
    · have hw : wnt A (nI k) = nI 0 := by unfold wnt; rw [if_pos ek, ik, if_neg hb]
      rw [if_neg hb]
      have h8 := h.size (t := k) (by omega)
      have h9 : ∀ j, j < 40 → _ := fun j hj => h.num (t := k) (k := j) (by omega) hj
      rw [putS_ne _ _ (by omega)] at h8
      simp only [putS_ne w A (show (53 : Nat) ≠ 45 by omega)] at h9
      refine opM_get h ?_
      simp (disch := first | omega | decide | exact nI0_01 | exact nI1_01 | exact bz_01 _) only [Option.bind_some, List.cons_append, List.nil_append, Nat.reduceAdd, Nat.reduceMul, Nat.reduceLeDiff, Nat.reduceEqDiff, ↓reduceIte, n197, u197_0, u197_1, u197_2, u197_5, u197_8, u197_9, u197_10, u197_11, u197_14, u197_17, u197_18, u197_19, u197_21, u197_22, u197_25, u197_26, u197_27, u197_30, u197_31, u197_32, u197_35, u197_38, u197_39, u197_42, u197_44, u197_45, u197_46, u197_47, u197_48, u197_49, u197_50, u197_51, u197_52, u197_55, u197_58, u197_61, u197_64, u197_65, u197_66, u197_69, u197_70, u197_71, u197_74, u197_75, u197_76, u197_77, u197_80, u197_81, x_wants h hS, hw, bz_t, bz_f, nn_eq0, nn_eq, eq_self, not_true_eq_false, not_false_eq_true]
      exact judge_loop hI (by omega) (hS k (by omega)).2 h8 h9 (A 24 k) 0 rfl
  · have hw : wnt A t = lo 0 := by unfold wnt; rw [if_neg (by simp [ek])]
    rw [if_neg (by simp [ek])]
    refine opM_bad h (by omega) ?_
    simp (disch := first | omega | decide | exact nI0_01 | exact nI1_01 | exact bz_01 _) only [Option.bind_some, List.cons_append, List.nil_append, Nat.reduceAdd, Nat.reduceMul, Nat.reduceLeDiff, Nat.reduceEqDiff, ↓reduceIte, n197, u197_0, u197_1, u197_2, u197_5, u197_8, u197_9, u197_10, u197_11, u197_14, u197_17, u197_18, u197_19, u197_21, u197_22, u197_25, u197_26, u197_27, u197_30, u197_31, u197_32, u197_35, u197_38, u197_39, u197_42, u197_44, u197_45, u197_46, u197_47, u197_48, u197_49, u197_50, u197_51, u197_52, u197_55, u197_58, u197_61, u197_64, u197_65, u197_66, u197_69, u197_70, u197_71, u197_74, u197_75, u197_76, u197_77, u197_80, u197_81, x_wants h hS, hw, lo_n0, if_false, not_false_eq_true, if_true, x_finds]
