/-! CHANGES BESIDE THE ROW -/
theorem rowS_up (A : Gs) {c k v : Nat} (hc : 10 ≤ c) : rowS (up A c k v) = rowS A := by
  funext j
  unfold rowS lay
  rw [up_nc A (by omega), up_nc A (by omega), up_nc A (by omega), up_nc A (by omega), up_nc A (by omega), up_nc A (by omega)]
theorem layK_up (A : Gs) {c k v : Nat} (hc : 20 ≤ c) (j : Nat) : lay (fun d => up A c k v (10 + d)) j = lay (fun d => A (10 + d)) j := by
  unfold lay
  show (if j < 3 then up A c k v 10 j else if j < 13 then up A c k v 11 (j - 3) else if j < 19 then up A c k v 12 (j - 13) else if j < 25 then up A c k v 13 (j - 19) else if j < 65 then up A c k v (10 + (4 + (j - 25) % 5)) ((j - 25) / 5) else up A c k v 19 (j - 65)) = _
  rw [up_nc A (by omega), up_nc A (by omega), up_nc A (by omega), up_nc A (by omega), up_nc A (by omega), up_nc A (by omega)]
theorem st2_c {w : Wd} {a j b : Nat} {x : Int32} {f : Nat → Int32} {k : Nat} {v : Nat} : (st2 w b k x).1 a j = if a = b ∧ j = k then x else w.1 a j := by
  by_cases h : a = b
  · subst h
    by_cases h2 : j = k
    · subst h2; rw [st2_at, if_pos ⟨rfl, rfl⟩]
    · rw [st2_nk _ _ _ h2, if_neg (fun z => h2 z.2)]
  · rw [st2_ne _ _ _ h, if_neg (fun z => h z.1)]
theorem M_tape {A : Gs} {w : Wd} (h : M A w) (v : Nat) : M (up A 20 1 v) (st2 w 44 7 (nI v)) := by
  obtain ⟨h1, h2, h3, h4, h5, h6, h7, h8, h9⟩ := h
  refine ⟨?_, ?_, ?_, ?_, ?_, ?_, ?_, ?_, ?_⟩
  · rw [st2_ne _ _ _ (by omega), rowS_up _ (by omega)]; exact h1
  · rw [st2_nk _ _ _ (by omega), up_nk _ (by omega)]; exact h2
  · rw [st2_at, up_at]
  · rw [st2_ne _ _ _ (by omega), up_nk _ (by omega)]
    intro q k hk
    rw [layK_up _ (by omega)]
    exact h4 q k hk
  · rw [st2_ne _ _ _ (by omega)]; intro k hk; rw [up_nc _ (by omega)]; exact h5 k hk
  · rw [st2_ne _ _ _ (by omega)]; intro k hk; rw [up_nc _ (by omega)]; exact h6 k hk
  · rw [st2_ne _ _ _ (by omega)]; intro k hk; rw [up_nc _ (by omega)]; exact h7 k hk
  · rw [st2_ne _ _ _ (by omega)]; intro k hk; rw [up_nc _ (by omega)]; exact h8 k hk
  · rw [st2_ne _ _ _ (by omega)]; intro t k ht hk; rw [up_nc _ (by omega)]; exact h9 t k ht hk
theorem M_torn {A : Gs} {w : Wd} (h : M A w) : M (up A 20 0 0) (st2 w 44 4 (nI 0)) := by
  obtain ⟨h1, h2, h3, h4, h5, h6, h7, h8, h9⟩ := h
  refine ⟨?_, ?_, ?_, ?_, ?_, ?_, ?_, ?_, ?_⟩
  · rw [st2_ne _ _ _ (by omega), rowS_up _ (by omega)]; exact h1
  · rw [st2_at, up_at]
  · rw [st2_nk _ _ _ (by omega), up_nk _ (by omega)]; exact h3
  · rw [up_at]
    intro q
    exact absurd q (by decide)
  · rw [st2_ne _ _ _ (by omega)]; intro k hk; rw [up_nc _ (by omega)]; exact h5 k hk
  · rw [st2_ne _ _ _ (by omega)]; intro k hk; rw [up_nc _ (by omega)]; exact h6 k hk
  · rw [st2_ne _ _ _ (by omega)]; intro k hk; rw [up_nc _ (by omega)]; exact h7 k hk
  · rw [st2_ne _ _ _ (by omega)]; intro k hk; rw [up_nc _ (by omega)]; exact h8 k hk
  · rw [st2_ne _ _ _ (by omega)]; intro t k ht hk; rw [up_nc _ (by omega)]; exact h9 t k ht hk
theorem M_byte {A : Gs} {w : Wd} (h : M A w) (i v : Nat) : M (up A 21 i v) (st2 w 50 i (nI v)) := by
  obtain ⟨h1, h2, h3, h4, h5, h6, h7, h8, h9⟩ := h
  refine ⟨?_, ?_, ?_, ?_, ?_, ?_, ?_, ?_, ?_⟩
  · rw [st2_ne _ _ _ (by omega), rowS_up _ (by omega)]; exact h1
  · rw [st2_ne _ _ _ (by omega), up_nc _ (by omega)]; exact h2
  · rw [st2_ne _ _ _ (by omega), up_nc _ (by omega)]; exact h3
  · rw [st2_ne _ _ _ (by omega), up_nc _ (by omega)]
    intro q k hk
    rw [layK_up _ (by omega)]
    exact h4 q k hk
  · intro k hk
    by_cases q : k = i
    · subst q; rw [st2_at, up_at]
    · rw [st2_nk _ _ _ q, up_nk _ q]; exact h5 k hk
  · rw [st2_ne _ _ _ (by omega)]; intro k hk; rw [up_nc _ (by omega)]; exact h6 k hk
  · rw [st2_ne _ _ _ (by omega)]; intro k hk; rw [up_nc _ (by omega)]; exact h7 k hk
  · rw [st2_ne _ _ _ (by omega)]; intro k hk; rw [up_nc _ (by omega)]; exact h8 k hk
  · rw [st2_ne _ _ _ (by omega)]; intro t k ht hk; rw [up_nc _ (by omega)]; exact h9 t k ht hk
theorem M_bits {A : Gs} {w : Wd} (h : M A w) (i v : Nat) {x : Int32} (hx : x = if v = 0 then -1 else nI v) : M (up A 23 i v) (st2 w 51 i x) := by
  obtain ⟨h1, h2, h3, h4, h5, h6, h7, h8, h9⟩ := h
  refine ⟨?_, ?_, ?_, ?_, ?_, ?_, ?_, ?_, ?_⟩
  · rw [st2_ne _ _ _ (by omega), rowS_up _ (by omega)]; exact h1
  · rw [st2_ne _ _ _ (by omega), up_nc _ (by omega)]; exact h2
  · rw [st2_ne _ _ _ (by omega), up_nc _ (by omega)]; exact h3
  · rw [st2_ne _ _ _ (by omega), up_nc _ (by omega)]
    intro q k hk
    rw [layK_up _ (by omega)]
    exact h4 q k hk
  · rw [st2_ne _ _ _ (by omega)]; intro k hk; rw [up_nc _ (by omega)]; exact h5 k hk
  · rw [st2_ne _ _ _ (by omega)]; intro k hk; rw [up_nc _ (by omega)]; exact h6 k hk
  · intro k hk
    by_cases q : k = i
    · subst q; rw [st2_at, up_at, hx]
    · rw [st2_nk _ _ _ q, up_nk _ q]; exact h7 k hk
  · rw [st2_ne _ _ _ (by omega)]; intro k hk; rw [up_nc _ (by omega)]; exact h8 k hk
  · rw [st2_ne _ _ _ (by omega)]; intro t k ht hk; rw [up_nc _ (by omega)]; exact h9 t k ht hk
theorem M_size {A : Gs} {w : Wd} (h : M A w) (i v : Nat) : M (up A 24 i v) (st2 w 52 i (nI v)) := by
  obtain ⟨h1, h2, h3, h4, h5, h6, h7, h8, h9⟩ := h
  refine ⟨?_, ?_, ?_, ?_, ?_, ?_, ?_, ?_, ?_⟩
  · rw [st2_ne _ _ _ (by omega), rowS_up _ (by omega)]; exact h1
  · rw [st2_ne _ _ _ (by omega), up_nc _ (by omega)]; exact h2
  · rw [st2_ne _ _ _ (by omega), up_nc _ (by omega)]; exact h3
  · rw [st2_ne _ _ _ (by omega), up_nc _ (by omega)]
    intro q k hk
    rw [layK_up _ (by omega)]
    exact h4 q k hk
  · rw [st2_ne _ _ _ (by omega)]; intro k hk; rw [up_nc _ (by omega)]; exact h5 k hk
  · rw [st2_ne _ _ _ (by omega)]; intro k hk; rw [up_nc _ (by omega)]; exact h6 k hk
  · rw [st2_ne _ _ _ (by omega)]; intro k hk; rw [up_nc _ (by omega)]; exact h7 k hk
  · intro k hk
    by_cases q : k = i
    · subst q; rw [st2_at, up_at]
    · rw [st2_nk _ _ _ q, up_nk _ q]; exact h8 k hk
  · rw [st2_ne _ _ _ (by omega)]; intro t k ht hk; rw [up_nc _ (by omega)]; exact h9 t k ht hk
theorem M_num {A : Gs} {w : Wd} (h : M A w) {t i : Nat} (ht0 : t < 4) (hi0 : i < 40) {x : Int32} {v : Nat} (hx : x = nI v) : M (up A (25 + t) i v) (st2 w 53 (40 * t + i) x) := by
  subst hx
  obtain ⟨h1, h2, h3, h4, h5, h6, h7, h8, h9⟩ := h
  refine ⟨?_, ?_, ?_, ?_, ?_, ?_, ?_, ?_, ?_⟩
  · rw [st2_ne _ _ _ (by omega), rowS_up _ (by omega)]; exact h1
  · rw [st2_ne _ _ _ (by omega), up_nc _ (by omega)]; exact h2
  · rw [st2_ne _ _ _ (by omega), up_nc _ (by omega)]; exact h3
  · rw [st2_ne _ _ _ (by omega), up_nc _ (by omega)]
    intro q k hk
    rw [layK_up _ (by omega)]
    exact h4 q k hk
  · rw [st2_ne _ _ _ (by omega)]; intro k hk; rw [up_nc _ (by omega)]; exact h5 k hk
  · rw [st2_ne _ _ _ (by omega)]; intro k hk; rw [up_nc _ (by omega)]; exact h6 k hk
  · rw [st2_ne _ _ _ (by omega)]; intro k hk; rw [up_nc _ (by omega)]; exact h7 k hk
  · rw [st2_ne _ _ _ (by omega)]; intro k hk; rw [up_nc _ (by omega)]; exact h8 k hk
  · intro t' k ht hk
    by_cases q : t' = t
    · subst q
      by_cases q2 : k = i
      · subst q2; rw [st2_at, up_at]
      · rw [st2_nk _ _ _ (by omega), up_nk _ q2]; exact h9 t' k ht hk
    · rw [st2_nk _ _ _ (by omega), up_nc _ (by omega)]; exact h9 t' k ht hk
/-! AN INT AS A NUMBER -/
def un (x : Int32) : Nat := x.toUInt32.toNat
theorem nI_un (x : Int32) : nI (un x) = x := by
  apply Int32.toBitVec_inj.mp
  show BitVec.ofNat 32 x.toBitVec.toNat = x.toBitVec
  apply BitVec.eq_of_toNat_eq
  rw [BitVec.toNat_ofNat]
  exact Nat.mod_eq_of_lt x.toBitVec.isLt
theorem un_nI {k : Nat} (h : k < 4294967296) : un (nI k) = k := by
  show (BitVec.ofNat 32 k).toNat = k
  rw [BitVec.toNat_ofNat]
  exact Nat.mod_eq_of_lt h
theorem un_m1 : un (-1) = 4294967295 := by decide
/-! SEED, SPOTS -/
def o_seed (A : Gs) (x : Int32) : Int32 × Gs := (nI (A 0 2), up A 0 2 (un x))
theorem m_seed {A : Gs} {w : Wd} {x : Int32} (h : M A (putS w A)) : opM 167 [.int x] (o_seed A x) (putS w A) := by
  refine opM_set h (up_r (by omega)) ?_
  have e := putS_s0 w A (k := 2) (v := un x) (by omega)
  rw [nI_un] at e
  simp (disch := first | omega | decide | exact nI0_01 | exact nI1_01 | exact bz_01 _) only [Option.bind_some, List.cons_append, List.nil_append, Nat.reduceAdd, Nat.reduceMul, Nat.reduceLeDiff, Nat.reduceEqDiff, ↓reduceIte, n167, u167_0, u167_1, u167_2, u167_3, u167_6, x_becomes, putS_0, e]
def o_hold (A : Gs) (x y : Int32) : Int32 × Gs := if ok x 9 = true ∧ (y = -1 ∨ isW A y = true) then (nI 1, up A 9 (ix x) (un y)) else bad A 0
theorem m_hold {A : Gs} {w : Wd} {x y : Int32} (h : M A (putS w A)) (hI : Iv A) : opM 188 [.int x, .int y] (o_hold A x y) (putS w A) := by
  unfold o_hold
  rcases ok_case x 9 (by omega) with ⟨k, hk, rfl, ek, ik⟩ | ek
  · have e := putS_s9 w A (k := k) (v := un y) (by omega)
    rw [nI_un] at e
    by_cases h1 : y = -1
    · rw [if_pos ⟨ek, Or.inl h1⟩, ik]
      refine opM_set h (up_r (by omega)) ?_
      subst h1
      simp (disch := first | omega | decide | exact nI0_01 | exact nI1_01 | exact bz_01 _) only [Option.bind_some, List.cons_append, List.nil_append, Nat.reduceAdd, Nat.reduceMul, Nat.reduceLeDiff, Nat.reduceEqDiff, ↓reduceIte, n188, u188_0, u188_1, u188_2, u188_3, u188_6, u188_9, u188_12, u188_13, u188_14, u188_17, u188_18, u188_19, u188_22, u188_25, u188_26, u188_28, u188_31, u188_32, u188_33, u188_36, u188_38, u188_39, u188_40, u188_41, u188_42, u188_43, xin_1, xin_2, xin_3, xin_4, xin_5, xin_6, xin_7, xin_9, xin_20, xin_40, xin_99, xin_100, xin_999, xin_9999, xin_1_60, xin_1_20, xin_1_4, xin_2_4, xin_v, ek, bz_t, bz_f, nn_eq0, nn_eq, eq_self, not_true_eq_false, not_false_eq_true, nI_add, e]
    · cases h2 : isW A y with
      | true =>
        rw [if_pos ⟨ek, Or.inr rfl⟩, ik]
        refine opM_set h (up_r (by omega)) ?_
        simp (disch := first | omega | decide | exact nI0_01 | exact nI1_01 | exact bz_01 _) only [Option.bind_some, List.cons_append, List.nil_append, Nat.reduceAdd, Nat.reduceMul, Nat.reduceLeDiff, Nat.reduceEqDiff, ↓reduceIte, n188, u188_0, u188_1, u188_2, u188_3, u188_6, u188_9, u188_12, u188_13, u188_14, u188_17, u188_18, u188_19, u188_22, u188_25, u188_26, u188_28, u188_31, u188_32, u188_33, u188_36, u188_38, u188_39, u188_40, u188_41, u188_42, u188_43, xin_1, xin_2, xin_3, xin_4, xin_5, xin_6, xin_7, xin_9, xin_20, xin_40, xin_99, xin_100, xin_999, xin_9999, xin_1_60, xin_1_20, xin_1_4, xin_2_4, xin_v, ek, h1, x_isWriter hI.1, h2, if_false, bz_t, bz_f, nn_eq0, nn_eq, eq_self, not_true_eq_false, not_false_eq_true, nI_add, e]
      | false =>
        rw [if_neg (by simp [h1])]
        refine opM_bad h (by omega) ?_
        simp (disch := first | omega | decide | exact nI0_01 | exact nI1_01 | exact bz_01 _) only [Option.bind_some, List.cons_append, List.nil_append, Nat.reduceAdd, Nat.reduceMul, Nat.reduceLeDiff, Nat.reduceEqDiff, ↓reduceIte, n188, u188_0, u188_1, u188_2, u188_3, u188_6, u188_9, u188_12, u188_13, u188_14, u188_17, u188_18, u188_19, u188_22, u188_25, u188_26, u188_28, u188_31, u188_32, u188_33, u188_36, u188_38, u188_39, u188_40, u188_41, u188_42, u188_43, xin_1, xin_2, xin_3, xin_4, xin_5, xin_6, xin_7, xin_9, xin_20, xin_40, xin_99, xin_100, xin_999, xin_9999, xin_1_60, xin_1_20, xin_1_4, xin_2_4, xin_v, ek, h1, x_isWriter hI.1, h2, if_false, bz_t, bz_f, nn_eq0, nn_eq, eq_self, not_true_eq_false, not_false_eq_true, x_f0]
  · rw [if_neg (by simp [ek])]
    refine opM_bad h (by omega) ?_
    simp (disch := first | omega | decide | exact nI0_01 | exact nI1_01 | exact bz_01 _) only [Option.bind_some, List.cons_append, List.nil_append, Nat.reduceAdd, Nat.reduceMul, Nat.reduceLeDiff, Nat.reduceEqDiff, ↓reduceIte, n188, u188_0, u188_1, u188_2, u188_3, u188_6, u188_9, u188_12, u188_13, u188_14, u188_17, u188_18, u188_19, u188_22, u188_25, u188_26, u188_28, u188_31, u188_32, u188_33, u188_36, u188_38, u188_39, u188_40, u188_41, u188_42, u188_43, xin_1, xin_2, xin_3, xin_4, xin_5, xin_6, xin_7, xin_9, xin_20, xin_40, xin_99, xin_100, xin_999, xin_9999, xin_1_60, xin_1_20, xin_1_4, xin_2_4, xin_v, ek, bz_t, bz_f, nn_eq0, nn_eq, eq_self, not_true_eq_false, not_false_eq_true, x_f0]
def undr (a b : Nat) : Bool := decide (b = 0) || decide (a = b) || (decide (b = 2) && (decide (a = 3) || decide (a = 4))) || (decide (b = 3) && decide (a = 4)) || (decide (b = 1) && decide (a = 6))
theorem x_isUnder {a b : Nat} {w : Wd} (ha : a < 7) (hb : b < 7) : CALL 189 [.int (nI a), .int (nI b)] w = some ([.int (bz (undr a b))], w) := by
  rcases kd_cases ha with rfl | rfl | rfl | rfl | rfl | rfl | rfl <;> rcases kd_cases hb with rfl | rfl | rfl | rfl | rfl | rfl | rfl <;> simp (disch := first | omega | decide | exact nI0_01 | exact nI1_01 | exact bz_01 _) only [Option.bind_some, List.cons_append, List.nil_append, Nat.reduceAdd, Nat.reduceMul, Nat.reduceLeDiff, Nat.reduceEqDiff, ↓reduceIte, n189, u189_0, u189_1, u189_4, u189_5, u189_6, u189_9, u189_10, u189_11, u189_14, u189_15, u189_16, u189_19, u189_20, u189_21, u189_24, u189_25, u189_26, u189_29, u189_30, u189_31, u189_34, u189_35, u189_36, u189_39, u189_40, u189_42, u189_45, u189_46, u189_49, u189_50, bz_t, bz_f, nn_eq0, nn_eq, eq_self, not_true_eq_false, not_false_eq_true] <;> rfl
def Spt (A : Gs) : Prop := ∀ k, k < 10 → A 9 k < A 0 0 ∨ A 9 k = 4294967295
theorem nI_m1 : nI 4294967295 = -1 := by decide
def o_as (A : Gs) (x y : Int32) : Int32 × Gs := if ok x 9 = true ∧ ok y 6 = true then (if A 9 (ix x) < A 0 0 then (if undr (A 4 (A 9 (ix x))) (ix y) = true then (nI (A 9 (ix x)), A) else bad A 2) else bad A 5) else bad A 0
theorem m_as {A : Gs} {w : Wd} {x y : Int32} (h : M A (putS w A)) (hI : Iv A) (hP : Spt A) : opM 190 [.int x, .int y] (o_as A x y) (putS w A) := by
  have h0 := hI.1
  unfold o_as
  rcases ok_case x 9 (by omega) with ⟨k, hk, rfl, ek, ik⟩ | ek
  · try simp only [ik]
    rcases ok_case y 6 (by omega) with ⟨m, hm, rfl, em, im⟩ | em
    · try simp only [im]
      rw [if_pos (by simp [ek, em])]
      rcases hP k (by omega) with h1 | h1
      · rw [if_pos h1]
        have hw := hI.2.2.2.2 (A 9 k) (by omega)
        have hk9 : A 9 k < 8 := by omega
        cases h2 : undr (A 4 (A 9 k)) m with
        | true =>
          rw [if_pos rfl]
          refine opM_get h ?_
          simp (disch := first | omega | decide | exact nI0_01 | exact nI1_01 | exact bz_01 _) only [Option.bind_some, List.cons_append, List.nil_append, Nat.reduceAdd, Nat.reduceMul, Nat.reduceLeDiff, Nat.reduceEqDiff, ↓reduceIte, n190, u190_0, u190_1, u190_2, u190_3, u190_6, u190_9, u190_12, u190_13, u190_14, u190_15, u190_18, u190_21, u190_24, u190_25, u190_27, u190_30, u190_31, u190_32, u190_35, u190_37, u190_38, u190_39, u190_40, u190_41, u190_42, u190_45, u190_46, u190_49, u190_52, u190_53, u190_54, u190_55, u190_56, u190_59, u190_60, u190_63, u190_66, u190_67, u190_70, u190_71, u190_74, u190_77, xin_1, xin_2, xin_3, xin_4, xin_5, xin_6, xin_7, xin_9, xin_20, xin_40, xin_99, xin_100, xin_999, xin_9999, xin_1_60, xin_1_20, xin_1_4, xin_2_4, xin_v, ek, em, bz_t, bz_f, nn_eq0, nn_eq, eq_self, not_true_eq_false, not_false_eq_true, nI_add, putS_9, nn_ge0, s_its, x_isUnder, h2]
        | false =>
          rw [if_neg (by decide)]
          refine opM_bad h (by omega) ?_
          simp (disch := first | omega | decide | exact nI0_01 | exact nI1_01 | exact bz_01 _) only [Option.bind_some, List.cons_append, List.nil_append, Nat.reduceAdd, Nat.reduceMul, Nat.reduceLeDiff, Nat.reduceEqDiff, ↓reduceIte, n190, u190_0, u190_1, u190_2, u190_3, u190_6, u190_9, u190_12, u190_13, u190_14, u190_15, u190_18, u190_21, u190_24, u190_25, u190_27, u190_30, u190_31, u190_32, u190_35, u190_37, u190_38, u190_39, u190_40, u190_41, u190_42, u190_45, u190_46, u190_49, u190_52, u190_53, u190_54, u190_55, u190_56, u190_59, u190_60, u190_63, u190_66, u190_67, u190_70, u190_71, u190_74, u190_77, xin_1, xin_2, xin_3, xin_4, xin_5, xin_6, xin_7, xin_9, xin_20, xin_40, xin_99, xin_100, xin_999, xin_9999, xin_1_60, xin_1_20, xin_1_4, xin_2_4, xin_v, ek, em, bz_t, bz_f, nn_eq0, nn_eq, eq_self, not_true_eq_false, not_false_eq_true, nI_add, putS_9, nn_ge0, s_its, x_isUnder, h2, x_f2]
      · rw [if_neg (by omega)]
        refine opM_bad h (by omega) ?_
        have hm : ¬ (0 : Int32) ≤ -1 := by decide
        simp (disch := first | omega | decide | exact nI0_01 | exact nI1_01 | exact bz_01 _) only [Option.bind_some, List.cons_append, List.nil_append, Nat.reduceAdd, Nat.reduceMul, Nat.reduceLeDiff, Nat.reduceEqDiff, ↓reduceIte, n190, u190_0, u190_1, u190_2, u190_3, u190_6, u190_9, u190_12, u190_13, u190_14, u190_15, u190_18, u190_21, u190_24, u190_25, u190_27, u190_30, u190_31, u190_32, u190_35, u190_37, u190_38, u190_39, u190_40, u190_41, u190_42, u190_45, u190_46, u190_49, u190_52, u190_53, u190_54, u190_55, u190_56, u190_59, u190_60, u190_63, u190_66, u190_67, u190_70, u190_71, u190_74, u190_77, xin_1, xin_2, xin_3, xin_4, xin_5, xin_6, xin_7, xin_9, xin_20, xin_40, xin_99, xin_100, xin_999, xin_9999, xin_1_60, xin_1_20, xin_1_4, xin_2_4, xin_v, ek, em, bz_t, bz_f, nn_eq0, nn_eq, eq_self, not_true_eq_false, not_false_eq_true, nI_add, putS_9, h1, nI_m1, hm, if_false, x_f5]
    · rw [if_neg (by simp [em])]
      refine opM_bad h (by omega) ?_
      simp (disch := first | omega | decide | exact nI0_01 | exact nI1_01 | exact bz_01 _) only [Option.bind_some, List.cons_append, List.nil_append, Nat.reduceAdd, Nat.reduceMul, Nat.reduceLeDiff, Nat.reduceEqDiff, ↓reduceIte, n190, u190_0, u190_1, u190_2, u190_3, u190_6, u190_9, u190_12, u190_13, u190_14, u190_15, u190_18, u190_21, u190_24, u190_25, u190_27, u190_30, u190_31, u190_32, u190_35, u190_37, u190_38, u190_39, u190_40, u190_41, u190_42, u190_45, u190_46, u190_49, u190_52, u190_53, u190_54, u190_55, u190_56, u190_59, u190_60, u190_63, u190_66, u190_67, u190_70, u190_71, u190_74, u190_77, xin_1, xin_2, xin_3, xin_4, xin_5, xin_6, xin_7, xin_9, xin_20, xin_40, xin_99, xin_100, xin_999, xin_9999, xin_1_60, xin_1_20, xin_1_4, xin_2_4, xin_v, ek, em, bz_t, bz_f, nn_eq0, nn_eq, eq_self, not_true_eq_false, not_false_eq_true, x_f0]
  · rw [if_neg (by simp [ek])]
    refine opM_bad h (by omega) ?_
    simp (disch := first | omega | decide | exact nI0_01 | exact nI1_01 | exact bz_01 _) only [Option.bind_some, List.cons_append, List.nil_append, Nat.reduceAdd, Nat.reduceMul, Nat.reduceLeDiff, Nat.reduceEqDiff, ↓reduceIte, n190, u190_0, u190_1, u190_2, u190_3, u190_6, u190_9, u190_12, u190_13, u190_14, u190_15, u190_18, u190_21, u190_24, u190_25, u190_27, u190_30, u190_31, u190_32, u190_35, u190_37, u190_38, u190_39, u190_40, u190_41, u190_42, u190_45, u190_46, u190_49, u190_52, u190_53, u190_54, u190_55, u190_56, u190_59, u190_60, u190_63, u190_66, u190_67, u190_70, u190_71, u190_74, u190_77, xin_1, xin_2, xin_3, xin_4, xin_5, xin_6, xin_7, xin_9, xin_20, xin_40, xin_99, xin_100, xin_999, xin_9999, xin_1_60, xin_1_20, xin_1_4, xin_2_4, xin_v, ek, bz_t, bz_f, nn_eq0, nn_eq, eq_self, not_true_eq_false, not_false_eq_true, x_f0]
/-! COUNTS -/
def hld (A : Gs) : Nat → Nat → Nat
  | 0, _ => 0
  | m + 1, k => (if 0 ≤ nI (A 9 k) then 1 else 0) + hld A m (k + 1)
theorem count_loop {w : Wd} {A : Gs} : ∀ (m k s : Nat), m + k = 10 → RUN 201 93 [some (.ref 44), some (.int (nI 7)), some (.int (nI s)), some (.int (nI k))] [] [] (putS w A) = some ([.int (nI (s + hld A m k))], putS w A) := by
  intro m
  induction m with
  | zero =>
    intro k s hm
    have e : k = 10 := by omega
    subst e
    rw [u201_93]
    simp (disch := first | omega | decide | exact nI0_01 | exact nI1_01 | exact bz_01 _) only [Option.bind_some, List.cons_append, List.nil_append, Nat.reduceAdd, Nat.reduceMul, Nat.reduceLeDiff, Nat.reduceEqDiff, ↓reduceIte, n201, u201_0, u201_1, u201_2, u201_3, u201_48, u201_49, u201_52, u201_53, u201_54, u201_55, u201_56, u201_59, u201_60, u201_61, u201_62, u201_63, u201_66, u201_67, u201_68, u201_69, u201_72, u201_73, u201_74, u201_75, u201_78, u201_79, u201_80, u201_83, u201_84, u201_85, u201_88, u201_89, u201_90, u201_91, u201_92, u201_94, u201_96, u201_99, u201_100, u201_101, u201_104, u201_106, u201_107, u201_108, u201_109, u201_112, u201_113, u201_116, u201_117, u201_118, u201_119, u201_122, u201_125, u201_126, u201_127, u201_128, u201_130, u201_133, nn_le, Nat.le_refl]
    rfl
  | succ m ih =>
    intro k s hm
    have h1 : ¬ 10 ≤ k := by omega
    rw [u201_93]
    by_cases h2 : 0 ≤ nI (A 9 k)
    · simp (disch := first | omega | decide | exact nI0_01 | exact nI1_01 | exact bz_01 _) only [Option.bind_some, List.cons_append, List.nil_append, Nat.reduceAdd, Nat.reduceMul, Nat.reduceLeDiff, Nat.reduceEqDiff, ↓reduceIte, n201, u201_0, u201_1, u201_2, u201_3, u201_48, u201_49, u201_52, u201_53, u201_54, u201_55, u201_56, u201_59, u201_60, u201_61, u201_62, u201_63, u201_66, u201_67, u201_68, u201_69, u201_72, u201_73, u201_74, u201_75, u201_78, u201_79, u201_80, u201_83, u201_84, u201_85, u201_88, u201_89, u201_90, u201_91, u201_92, u201_94, u201_96, u201_99, u201_100, u201_101, u201_104, u201_106, u201_107, u201_108, u201_109, u201_112, u201_113, u201_116, u201_117, u201_118, u201_119, u201_122, u201_125, u201_126, u201_127, u201_128, u201_130, u201_133, nn_le, h1, if_false, nI_add, putS_9, h2, if_true]
      rw [ih (k + 1) (s + 1) (by omega), hld, if_pos h2, Nat.add_assoc]
    · simp (disch := first | omega | decide | exact nI0_01 | exact nI1_01 | exact bz_01 _) only [Option.bind_some, List.cons_append, List.nil_append, Nat.reduceAdd, Nat.reduceMul, Nat.reduceLeDiff, Nat.reduceEqDiff, ↓reduceIte, n201, u201_0, u201_1, u201_2, u201_3, u201_48, u201_49, u201_52, u201_53, u201_54, u201_55, u201_56, u201_59, u201_60, u201_61, u201_62, u201_63, u201_66, u201_67, u201_68, u201_69, u201_72, u201_73, u201_74, u201_75, u201_78, u201_79, u201_80, u201_83, u201_84, u201_85, u201_88, u201_89, u201_90, u201_91, u201_92, u201_94, u201_96, u201_99, u201_100, u201_101, u201_104, u201_106, u201_107, u201_108, u201_109, u201_112, u201_113, u201_116, u201_117, u201_118, u201_119, u201_122, u201_125, u201_126, u201_127, u201_128, u201_130, u201_133, nn_le, h1, if_false, nI_add, putS_9, h2, Nat.add_zero]
      rw [ih (k + 1) s (by omega), hld, if_neg h2, Nat.zero_add]
def cntV (A : Gs) (c : Nat) : Nat := if c = 0 then A 0 1 else if c = 1 then A 0 0 else if c = 2 then sm (A 1) 10 0 else if c = 3 then sm (A 8) (A 0 0) 0 else if c = 4 then sm (A 7) (A 0 0) 0 else if c = 5 then A 20 1 else if c = 6 then A 0 2 else hld A 10 0
def o_count (A : Gs) (x : Int32) : Int32 × Gs := if ok x 7 = true then (nI (cntV A (ix x)), A) else bad A 0
theorem m_count {A : Gs} {w : Wd} {x : Int32} (h : M A (putS w A)) (hI : Iv A) : opM 201 [.int x] (o_count A x) (putS w A) := by
  unfold o_count
  rcases ok_case x 7 (by omega) with ⟨k, hk, rfl, ek, ik⟩ | ek
  · rw [if_pos ek, ik]
    refine opM_get h ?_
    have h7 := h.2.2.1
    rcases (by omega : k = 0 ∨ k = 1 ∨ k = 2 ∨ k = 3 ∨ k = 4 ∨ k = 5 ∨ k = 6 ∨ k = 7) with rfl | rfl | rfl | rfl | rfl | rfl | rfl | rfl
    · simp (disch := first | omega | decide | exact nI0_01 | exact nI1_01 | exact bz_01 _) only [Option.bind_some, List.cons_append, List.nil_append, Nat.reduceAdd, Nat.reduceMul, Nat.reduceLeDiff, Nat.reduceEqDiff, ↓reduceIte, n201, u201_0, u201_1, u201_2, u201_3, u201_48, u201_49, u201_52, u201_53, u201_54, u201_55, u201_56, u201_59, u201_60, u201_61, u201_62, u201_63, u201_66, u201_67, u201_68, u201_69, u201_72, u201_73, u201_74, u201_75, u201_78, u201_79, u201_80, u201_83, u201_84, u201_85, u201_88, u201_89, u201_90, u201_91, u201_92, u201_94, u201_96, u201_99, u201_100, u201_101, u201_104, u201_106, u201_107, u201_108, u201_109, u201_112, u201_113, u201_116, u201_117, u201_118, u201_119, u201_122, u201_125, u201_126, u201_127, u201_128, u201_130, u201_133, bz_t, bz_f, nn_eq0, nn_eq, eq_self, not_true_eq_false, not_false_eq_true, putS_0, cntV]
    · simp (disch := first | omega | decide | exact nI0_01 | exact nI1_01 | exact bz_01 _) only [Option.bind_some, List.cons_append, List.nil_append, Nat.reduceAdd, Nat.reduceMul, Nat.reduceLeDiff, Nat.reduceEqDiff, ↓reduceIte, n201, u201_0, u201_1, u201_2, u201_3, u201_48, u201_49, u201_52, u201_53, u201_54, u201_55, u201_56, u201_59, u201_60, u201_61, u201_62, u201_63, u201_66, u201_67, u201_68, u201_69, u201_72, u201_73, u201_74, u201_75, u201_78, u201_79, u201_80, u201_83, u201_84, u201_85, u201_88, u201_89, u201_90, u201_91, u201_92, u201_94, u201_96, u201_99, u201_100, u201_101, u201_104, u201_106, u201_107, u201_108, u201_109, u201_112, u201_113, u201_116, u201_117, u201_118, u201_119, u201_122, u201_125, u201_126, u201_127, u201_128, u201_130, u201_133, bz_t, bz_f, nn_eq0, nn_eq, eq_self, not_true_eq_false, not_false_eq_true, putS_0, cntV]
    · simp (disch := first | omega | decide | exact nI0_01 | exact nI1_01 | exact bz_01 _) only [Option.bind_some, List.cons_append, List.nil_append, Nat.reduceAdd, Nat.reduceMul, Nat.reduceLeDiff, Nat.reduceEqDiff, ↓reduceIte, n201, u201_0, u201_1, u201_2, u201_3, u201_48, u201_49, u201_52, u201_53, u201_54, u201_55, u201_56, u201_59, u201_60, u201_61, u201_62, u201_63, u201_66, u201_67, u201_68, u201_69, u201_72, u201_73, u201_74, u201_75, u201_78, u201_79, u201_80, u201_83, u201_84, u201_85, u201_88, u201_89, u201_90, u201_91, u201_92, u201_94, u201_96, u201_99, u201_100, u201_101, u201_104, u201_106, u201_107, u201_108, u201_109, u201_112, u201_113, u201_116, u201_117, u201_118, u201_119, u201_122, u201_125, u201_126, u201_127, u201_128, u201_130, u201_133, bz_t, bz_f, nn_eq0, nn_eq, eq_self, not_true_eq_false, not_false_eq_true, x_jarAll, cntV]
    · simp (disch := first | omega | decide | exact nI0_01 | exact nI1_01 | exact bz_01 _) only [Option.bind_some, List.cons_append, List.nil_append, Nat.reduceAdd, Nat.reduceMul, Nat.reduceLeDiff, Nat.reduceEqDiff, ↓reduceIte, n201, u201_0, u201_1, u201_2, u201_3, u201_48, u201_49, u201_52, u201_53, u201_54, u201_55, u201_56, u201_59, u201_60, u201_61, u201_62, u201_63, u201_66, u201_67, u201_68, u201_69, u201_72, u201_73, u201_74, u201_75, u201_78, u201_79, u201_80, u201_83, u201_84, u201_85, u201_88, u201_89, u201_90, u201_91, u201_92, u201_94, u201_96, u201_99, u201_100, u201_101, u201_104, u201_106, u201_107, u201_108, u201_109, u201_112, u201_113, u201_116, u201_117, u201_118, u201_119, u201_122, u201_125, u201_126, u201_127, u201_128, u201_130, u201_133, bz_t, bz_f, nn_eq0, nn_eq, eq_self, not_true_eq_false, not_false_eq_true, x_sumOf hI, cntV]
    · simp (disch := first | omega | decide | exact nI0_01 | exact nI1_01 | exact bz_01 _) only [Option.bind_some, List.cons_append, List.nil_append, Nat.reduceAdd, Nat.reduceMul, Nat.reduceLeDiff, Nat.reduceEqDiff, ↓reduceIte, n201, u201_0, u201_1, u201_2, u201_3, u201_48, u201_49, u201_52, u201_53, u201_54, u201_55, u201_56, u201_59, u201_60, u201_61, u201_62, u201_63, u201_66, u201_67, u201_68, u201_69, u201_72, u201_73, u201_74, u201_75, u201_78, u201_79, u201_80, u201_83, u201_84, u201_85, u201_88, u201_89, u201_90, u201_91, u201_92, u201_94, u201_96, u201_99, u201_100, u201_101, u201_104, u201_106, u201_107, u201_108, u201_109, u201_112, u201_113, u201_116, u201_117, u201_118, u201_119, u201_122, u201_125, u201_126, u201_127, u201_128, u201_130, u201_133, bz_t, bz_f, nn_eq0, nn_eq, eq_self, not_true_eq_false, not_false_eq_true, x_sumOf hI, cntV]
    · simp (disch := first | omega | decide | exact nI0_01 | exact nI1_01 | exact bz_01 _) only [Option.bind_some, List.cons_append, List.nil_append, Nat.reduceAdd, Nat.reduceMul, Nat.reduceLeDiff, Nat.reduceEqDiff, ↓reduceIte, n201, u201_0, u201_1, u201_2, u201_3, u201_48, u201_49, u201_52, u201_53, u201_54, u201_55, u201_56, u201_59, u201_60, u201_61, u201_62, u201_63, u201_66, u201_67, u201_68, u201_69, u201_72, u201_73, u201_74, u201_75, u201_78, u201_79, u201_80, u201_83, u201_84, u201_85, u201_88, u201_89, u201_90, u201_91, u201_92, u201_94, u201_96, u201_99, u201_100, u201_101, u201_104, u201_106, u201_107, u201_108, u201_109, u201_112, u201_113, u201_116, u201_117, u201_118, u201_119, u201_122, u201_125, u201_126, u201_127, u201_128, u201_130, u201_133, bz_t, bz_f, nn_eq0, nn_eq, eq_self, not_true_eq_false, not_false_eq_true, h7, cntV]
    · simp (disch := first | omega | decide | exact nI0_01 | exact nI1_01 | exact bz_01 _) only [Option.bind_some, List.cons_append, List.nil_append, Nat.reduceAdd, Nat.reduceMul, Nat.reduceLeDiff, Nat.reduceEqDiff, ↓reduceIte, n201, u201_0, u201_1, u201_2, u201_3, u201_48, u201_49, u201_52, u201_53, u201_54, u201_55, u201_56, u201_59, u201_60, u201_61, u201_62, u201_63, u201_66, u201_67, u201_68, u201_69, u201_72, u201_73, u201_74, u201_75, u201_78, u201_79, u201_80, u201_83, u201_84, u201_85, u201_88, u201_89, u201_90, u201_91, u201_92, u201_94, u201_96, u201_99, u201_100, u201_101, u201_104, u201_106, u201_107, u201_108, u201_109, u201_112, u201_113, u201_116, u201_117, u201_118, u201_119, u201_122, u201_125, u201_126, u201_127, u201_128, u201_130, u201_133, bz_t, bz_f, nn_eq0, nn_eq, eq_self, not_true_eq_false, not_false_eq_true, putS_0, cntV]
    · simp (disch := first | omega | decide | exact nI0_01 | exact nI1_01 | exact bz_01 _) only [Option.bind_some, List.cons_append, List.nil_append, Nat.reduceAdd, Nat.reduceMul, Nat.reduceLeDiff, Nat.reduceEqDiff, ↓reduceIte, n201, u201_0, u201_1, u201_2, u201_3, u201_48, u201_49, u201_52, u201_53, u201_54, u201_55, u201_56, u201_59, u201_60, u201_61, u201_62, u201_63, u201_66, u201_67, u201_68, u201_69, u201_72, u201_73, u201_74, u201_75, u201_78, u201_79, u201_80, u201_83, u201_84, u201_85, u201_88, u201_89, u201_90, u201_91, u201_92, u201_94, u201_96, u201_99, u201_100, u201_101, u201_104, u201_106, u201_107, u201_108, u201_109, u201_112, u201_113, u201_116, u201_117, u201_118, u201_119, u201_122, u201_125, u201_126, u201_127, u201_128, u201_130, u201_133, bz_t, bz_f, nn_eq0, nn_eq, eq_self, not_true_eq_false, not_false_eq_true, cntV]
      rw [count_loop 10 0 0 rfl, Nat.zero_add]
  · rw [if_neg (by simp [ek])]
    refine opM_bad h (by omega) ?_
    have n0 := ok_ne ek (j := 0) (by omega) (by omega)
    have n1 := ok_ne ek (j := 1) (by omega) (by omega)
    have n2 := ok_ne ek (j := 2) (by omega) (by omega)
    have n3 := ok_ne ek (j := 3) (by omega) (by omega)
    have n4 := ok_ne ek (j := 4) (by omega) (by omega)
    have n5 := ok_ne ek (j := 5) (by omega) (by omega)
    have n6 := ok_ne ek (j := 6) (by omega) (by omega)
    have n7 := ok_ne ek (j := 7) (by omega) (by omega)
    simp (disch := first | omega | decide | exact nI0_01 | exact nI1_01 | exact bz_01 _) only [Option.bind_some, List.cons_append, List.nil_append, Nat.reduceAdd, Nat.reduceMul, Nat.reduceLeDiff, Nat.reduceEqDiff, ↓reduceIte, n201, u201_0, u201_1, u201_2, u201_3, u201_48, u201_49, u201_52, u201_53, u201_54, u201_55, u201_56, u201_59, u201_60, u201_61, u201_62, u201_63, u201_66, u201_67, u201_68, u201_69, u201_72, u201_73, u201_74, u201_75, u201_78, u201_79, u201_80, u201_83, u201_84, u201_85, u201_88, u201_89, u201_90, u201_91, u201_92, u201_94, u201_96, u201_99, u201_100, u201_101, u201_104, u201_106, u201_107, u201_108, u201_109, u201_112, u201_113, u201_116, u201_117, u201_118, u201_119, u201_122, u201_125, u201_126, u201_127, u201_128, u201_130, u201_133, n0, n1, n2, n3, n4, n5, n6, n7, if_false, x_f0]
theorem x_in3 {x : Int32} {w : Wd} : CALL 102 [.long x.toInt64, .long (-1), .long 6] w = some ([.int (bz (decide (-1 ≤ x.toInt ∧ x.toInt ≤ 6)))], w) := by
  have e1 : ((-1 : Int64) ≤ x.toInt64) = (-1 ≤ x.toInt) := by
    rw [Int64.le_iff_toInt_le, Int32.toInt_toInt64]; rfl
  have e2 : (x.toInt64 ≤ (6 : Int64)) = (x.toInt ≤ 6) := by
    rw [Int64.le_iff_toInt_le, Int32.toInt_toInt64]; rfl
  simp (disch := first | omega | decide | exact nI0_01 | exact nI1_01 | exact bz_01 _) only [Option.bind_some, List.cons_append, List.nil_append, Nat.reduceAdd, Nat.reduceMul, Nat.reduceLeDiff, Nat.reduceEqDiff, ↓reduceIte, n102, u102_0, u102_1, u102_2, u102_3, u102_6, u102_7, u102_9, u102_10, u102_13, u102_14, u102_17, u102_18]
  simp only [l_ge, l_gt, e1, e2]
  by_cases h1 : -1 ≤ x.toInt
  · by_cases h2 : x.toInt ≤ 6
    · simp [h1, h2, bz]; decide
    · simp [h1, h2, bz]; decide
  · simp [h1, bz]; decide
def o_status (A : Gs) (x : Int32) : Int32 × Gs := if x = -1 then (nI (A 22 0), A) else if ok x 6 = true then (nI (A 22 (ix x + 1)), A) else bad A 0
theorem m_status {A : Gs} {w : Wd} {x : Int32} (h : M A (putS w A)) : opM 202 [.int x] (o_status A x) (putS w A) := by
  have h6 : ∀ k, k < 8 → (putS w A).1 49 k = nI (A 22 k) := h.2.2.2.2.2.1
  unfold o_status
  by_cases h1 : x = -1
  · rw [if_pos h1]
    refine opM_get h ?_
    subst h1
    have e : bz (decide (-1 ≤ (-1 : Int32).toInt ∧ (-1 : Int32).toInt ≤ 6)) = nI 1 := by decide
    have e0 : (-1 : Int32) + nI 1 = nI 0 := by decide
    simp (disch := first | omega | decide | exact nI0_01 | exact nI1_01 | exact bz_01 _) only [Option.bind_some, List.cons_append, List.nil_append, Nat.reduceAdd, Nat.reduceMul, Nat.reduceLeDiff, Nat.reduceEqDiff, ↓reduceIte, n202, u202_0, u202_1, u202_2, u202_5, u202_8, u202_11, u202_14, u202_15, u202_18, u202_19, u202_20, u202_21, u202_22, u202_25, u202_26, u202_28, u202_31, x_in3, e, bz_t, bz_f, nn_eq0, nn_eq, eq_self, not_true_eq_false, not_false_eq_true, e0, h6]
  · rw [if_neg h1]
    rcases ok_case x 6 (by omega) with ⟨k, hk, rfl, ek, ik⟩ | ek
    · rw [if_pos ek, ik]
      refine opM_get h ?_
      have e : bz (decide (-1 ≤ (nI k).toInt ∧ (nI k).toInt ≤ 6)) = nI 1 := by
        rw [nI_toInt (by omega)]
        exact bz_ye (by omega)
      simp (disch := first | omega | decide | exact nI0_01 | exact nI1_01 | exact bz_01 _) only [Option.bind_some, List.cons_append, List.nil_append, Nat.reduceAdd, Nat.reduceMul, Nat.reduceLeDiff, Nat.reduceEqDiff, ↓reduceIte, n202, u202_0, u202_1, u202_2, u202_5, u202_8, u202_11, u202_14, u202_15, u202_18, u202_19, u202_20, u202_21, u202_22, u202_25, u202_26, u202_28, u202_31, x_in3, e, bz_t, bz_f, nn_eq0, nn_eq, eq_self, not_true_eq_false, not_false_eq_true, nI_add, h6]
    · rw [if_neg (by simp [ek])]
      refine opM_bad h (by omega) ?_
      have e : bz (decide (-1 ≤ x.toInt ∧ x.toInt ≤ 6)) = nI 0 := by
        refine bz_no (fun q => ?_)
        have h2 : ¬ x.toInt = -1 := fun z => h1 (Int32.toInt_inj.mp (by rw [z]; rfl))
        have h3 : ok x 6 = true := decide_eq_true ⟨by omega, q.2⟩
        rw [ek] at h3
        exact absurd h3 (by decide)
      simp (disch := first | omega | decide | exact nI0_01 | exact nI1_01 | exact bz_01 _) only [Option.bind_some, List.cons_append, List.nil_append, Nat.reduceAdd, Nat.reduceMul, Nat.reduceLeDiff, Nat.reduceEqDiff, ↓reduceIte, n202, u202_0, u202_1, u202_2, u202_5, u202_8, u202_11, u202_14, u202_15, u202_18, u202_19, u202_20, u202_21, u202_22, u202_25, u202_26, u202_28, u202_31, x_in3, e, bz_t, bz_f, nn_eq0, nn_eq, eq_self, not_true_eq_false, not_false_eq_true, x_f0]
def ltS (b : Nat) : Nat := 2 ^ dg b 1 ||| 2 ^ dg b 2 ||| 2 ^ dg b 3
theorem ltS_int : ∀ d, d < 10 → ∀ e, e < 10 → ∀ f, f < 10 → (nI 1 <<< (nI d &&& 31) ||| nI 1 <<< (nI e &&& 31) ||| nI 1 <<< (nI f &&& 31)) = nI (2 ^ d ||| 2 ^ e ||| 2 ^ f) ∧ (2 ^ d ||| 2 ^ e ||| 2 ^ f) < 1024 := by decide +kernel
theorem x_lettersOf {b : Nat} {w : Wd} (hb : b ≤ 999) : CALL 119 [.int (nI b)] w = some ([.int (nI (ltS b))], w) := by
  have e1 : b / 100 = dg b 1 := by simp only [dg, tens]; omega
  have e2 : b / 10 % 10 = dg b 2 := by simp only [dg, tens]
  have e3 : b % 10 = dg b 3 := by simp only [dg, tens]; omega
  have key := (ltS_int (dg b 1) (dg_lt _ _) (dg b 2) (dg_lt _ _) (dg b 3) (dg_lt _ _)).1
  simp (disch := first | omega | decide | exact nI0_01 | exact nI1_01 | exact bz_01 _) only [Option.bind_some, List.cons_append, List.nil_append, Nat.reduceAdd, Nat.reduceMul, Nat.reduceLeDiff, Nat.reduceEqDiff, ↓reduceIte, n119, u119_0, u119_1, u119_2, u119_4, u119_5, u119_6, u119_7, u119_8, u119_10, u119_11, u119_13, u119_14, u119_15, u119_16, u119_17, u119_18, u119_20, u119_21, u119_22, u119_23, pk_div, nn_rem, e1, e2, e3, key]
  rfl
theorem ltS_lt (b : Nat) : ltS b < 1024 := (ltS_int (dg b 1) (dg_lt _ _) (dg b 2) (dg_lt _ _) (dg b 3) (dg_lt _ _)).2
def o_fishOf (A : Gs) (x y : Int32) : Int32 × Gs := if ok x 5 = true ∧ ok y 2 = true then (nI (if ix y = 0 then A 2 (ix x) else if ix y = 1 then A 3 (ix x) else pop (ltS (A 2 (ix x)))), A) else bad A 0
theorem m_fishOf {A : Gs} {w : Wd} {x y : Int32} (h : M A (putS w A)) (hI : Iv A) : opM 120 [.int x, .int y] (o_fishOf A x y) (putS w A) := by
  unfold o_fishOf
  rcases ok_case x 5 (by omega) with ⟨k, hk, rfl, ek, ik⟩ | ek
  · try simp only [ik]
    rcases ok_case y 2 (by omega) with ⟨m, hm, rfl, em, im⟩ | em
    · try simp only [im]
      rw [if_pos (by simp [ek, em])]
      refine opM_get h ?_
      have hb := hI.2.2.1 k (by omega)
      have hl := ltS_lt (A 2 k)
      have h12 : ¬ 2 ≤ 1 := by omega
      rcases (by omega : m = 0 ∨ m = 1 ∨ m = 2) with rfl | rfl | rfl
      · simp (disch := first | omega | decide | exact nI0_01 | exact nI1_01 | exact bz_01 _) only [Option.bind_some, List.cons_append, List.nil_append, Nat.reduceAdd, Nat.reduceMul, Nat.reduceLeDiff, Nat.reduceEqDiff, ↓reduceIte, n120, u120_0, u120_1, u120_4, u120_7, u120_8, u120_9, u120_10, u120_13, u120_16, u120_19, u120_20, u120_22, u120_25, u120_26, u120_27, u120_28, u120_31, u120_32, u120_35, u120_37, u120_39, u120_40, u120_41, u120_42, u120_43, u120_44, u120_45, u120_48, u120_49, u120_52, u120_54, u120_55, u120_56, u120_57, u120_60, u120_63, x_isFish, xin_1, xin_2, xin_3, xin_4, xin_5, xin_6, xin_7, xin_9, xin_20, xin_40, xin_99, xin_100, xin_999, xin_9999, xin_1_60, xin_1_20, xin_1_4, xin_2_4, xin_v, ek, em, bz_t, bz_f, nn_eq0, nn_eq, eq_self, not_true_eq_false, not_false_eq_true, nn_le, pk_mul, nI_add, Nat.mul_zero, Nat.add_zero, putS_2]
      · simp (disch := first | omega | decide | exact nI0_01 | exact nI1_01 | exact bz_01 _) only [Option.bind_some, List.cons_append, List.nil_append, Nat.reduceAdd, Nat.reduceMul, Nat.reduceLeDiff, Nat.reduceEqDiff, ↓reduceIte, n120, u120_0, u120_1, u120_4, u120_7, u120_8, u120_9, u120_10, u120_13, u120_16, u120_19, u120_20, u120_22, u120_25, u120_26, u120_27, u120_28, u120_31, u120_32, u120_35, u120_37, u120_39, u120_40, u120_41, u120_42, u120_43, u120_44, u120_45, u120_48, u120_49, u120_52, u120_54, u120_55, u120_56, u120_57, u120_60, u120_63, x_isFish, xin_1, xin_2, xin_3, xin_4, xin_5, xin_6, xin_7, xin_9, xin_20, xin_40, xin_99, xin_100, xin_999, xin_9999, xin_1_60, xin_1_20, xin_1_4, xin_2_4, xin_v, ek, em, bz_t, bz_f, nn_eq0, nn_eq, eq_self, not_true_eq_false, not_false_eq_true, nn_le, pk_mul, nI_add, putS_3]
      · simp (disch := first | omega | decide | exact nI0_01 | exact nI1_01 | exact bz_01 _) only [Option.bind_some, List.cons_append, List.nil_append, Nat.reduceAdd, Nat.reduceMul, Nat.reduceLeDiff, Nat.reduceEqDiff, ↓reduceIte, n120, u120_0, u120_1, u120_4, u120_7, u120_8, u120_9, u120_10, u120_13, u120_16, u120_19, u120_20, u120_22, u120_25, u120_26, u120_27, u120_28, u120_31, u120_32, u120_35, u120_37, u120_39, u120_40, u120_41, u120_42, u120_43, u120_44, u120_45, u120_48, u120_49, u120_52, u120_54, u120_55, u120_56, u120_57, u120_60, u120_63, x_isFish, xin_1, xin_2, xin_3, xin_4, xin_5, xin_6, xin_7, xin_9, xin_20, xin_40, xin_99, xin_100, xin_999, xin_9999, xin_1_60, xin_1_20, xin_1_4, xin_2_4, xin_v, ek, em, bz_t, bz_f, nn_eq0, nn_eq, eq_self, not_true_eq_false, not_false_eq_true, nn_le, nI_add, putS_2, x_lettersOf, x_many]
    · rw [if_neg (by simp [em])]
      refine opM_bad h (by omega) ?_
      simp (disch := first | omega | decide | exact nI0_01 | exact nI1_01 | exact bz_01 _) only [Option.bind_some, List.cons_append, List.nil_append, Nat.reduceAdd, Nat.reduceMul, Nat.reduceLeDiff, Nat.reduceEqDiff, ↓reduceIte, n120, u120_0, u120_1, u120_4, u120_7, u120_8, u120_9, u120_10, u120_13, u120_16, u120_19, u120_20, u120_22, u120_25, u120_26, u120_27, u120_28, u120_31, u120_32, u120_35, u120_37, u120_39, u120_40, u120_41, u120_42, u120_43, u120_44, u120_45, u120_48, u120_49, u120_52, u120_54, u120_55, u120_56, u120_57, u120_60, u120_63, x_isFish, xin_1, xin_2, xin_3, xin_4, xin_5, xin_6, xin_7, xin_9, xin_20, xin_40, xin_99, xin_100, xin_999, xin_9999, xin_1_60, xin_1_20, xin_1_4, xin_2_4, xin_v, ek, em, bz_t, bz_f, nn_eq0, nn_eq, eq_self, not_true_eq_false, not_false_eq_true, x_f0]
  · rw [if_neg (by simp [ek])]
    refine opM_bad h (by omega) ?_
    simp (disch := first | omega | decide | exact nI0_01 | exact nI1_01 | exact bz_01 _) only [Option.bind_some, List.cons_append, List.nil_append, Nat.reduceAdd, Nat.reduceMul, Nat.reduceLeDiff, Nat.reduceEqDiff, ↓reduceIte, n120, u120_0, u120_1, u120_4, u120_7, u120_8, u120_9, u120_10, u120_13, u120_16, u120_19, u120_20, u120_22, u120_25, u120_26, u120_27, u120_28, u120_31, u120_32, u120_35, u120_37, u120_39, u120_40, u120_41, u120_42, u120_43, u120_44, u120_45, u120_48, u120_49, u120_52, u120_54, u120_55, u120_56, u120_57, u120_60, u120_63, x_isFish, xin_1, xin_2, xin_3, xin_4, xin_5, xin_6, xin_7, xin_9, xin_20, xin_40, xin_99, xin_100, xin_999, xin_9999, xin_1_60, xin_1_20, xin_1_4, xin_2_4, xin_v, ek, bz_t, bz_f, nn_eq0, nn_eq, eq_self, not_true_eq_false, not_false_eq_true, x_f0]
