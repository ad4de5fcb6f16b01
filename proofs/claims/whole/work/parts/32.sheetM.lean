/-! THE TAPE -/
def byt (x : Int32) (i : Nat) : Nat := un x / 2 ^ (8 * i) % 256
theorem byt_lt (x : Int32) (i : Nat) : byt x i < 256 := Nat.mod_lt _ (by omega)
theorem byt_u (x : Int32) {i : Nat} (hi : i < 4) : ((x.toUInt32 >>> ((nI (8 * i)).toUInt32 &&& Int32.toUInt32 31)).toInt32 &&& nI 255) = nI (byt x i) := by
  have key : ∀ i, i < 4 → ((nI (8 * i)).toUInt32 &&& Int32.toUInt32 31).toNat % 32 = 8 * i := by decide
  apply Int32.toBitVec_inj.mp
  apply BitVec.eq_of_toNat_eq
  show ((x.toUInt32 >>> ((nI (8 * i)).toUInt32 &&& Int32.toUInt32 31)).toBitVec &&& BitVec.ofNat 32 255).toNat = (BitVec.ofNat 32 (byt x i)).toNat
  rw [BitVec.toNat_and, BitVec.toNat_ofNat, BitVec.toNat_ofNat]
  show (x.toUInt32 >>> ((nI (8 * i)).toUInt32 &&& Int32.toUInt32 31)).toNat &&& (255 % 2 ^ 32) = _
  rw [UInt32.toNat_shiftRight, key i hi, Nat.shiftRight_eq_div_pow]
  have hb := byt_lt x i
  rw [Nat.mod_eq_of_lt (a := byt x i) (by omega)]
  exact Nat.and_two_pow_sub_one_eq_mod _ 8
theorem byt_bv : ∀ (v : BitVec 32) (i : Nat), i < 4 → (v.sshiftRight (8 * i) &&& 255#32) = (v >>> (8 * i) &&& 255#32) := by
  intro v i hi
  apply BitVec.eq_of_getLsbD_eq
  intro j hj
  rw [BitVec.getLsbD_and, BitVec.getLsbD_and, BitVec.getLsbD_sshiftRight, BitVec.getLsbD_ushiftRight]
  by_cases h : j < 8
  · have h1 : 8 * i + j < 32 := by omega
    have h2 : ¬ 32 ≤ j := by omega
    simp [h1, hj, h2]
  · have h2 : (255#32).getLsbD j = false := by
      have key : ∀ j, j < 32 → 8 ≤ j → (255#32).getLsbD j = false := by decide
      exact key j hj (by omega)
    rw [h2, Bool.and_false, Bool.and_false]
theorem byt_s (x : Int32) {i : Nat} (hi : i < 4) : ((x >>> (nI (8 * i) &&& 31)) &&& nI 255) = nI (byt x i) := by
  rw [← byt_u x hi]
  apply Int32.toBitVec_inj.mp
  have key : ∀ i, i < 4 → ((nI (8 * i) &&& 31).toBitVec.smod 32).toNat = 8 * i ∧ ((nI (8 * i)).toUInt32 &&& Int32.toUInt32 31).toNat % 32 = 8 * i := by decide
  have k := key i hi
  show (x.toBitVec.sshiftRight ((nI (8 * i) &&& 31).toBitVec.smod 32).toNat &&& 255#32) = ((x.toUInt32 >>> ((nI (8 * i)).toUInt32 &&& Int32.toUInt32 31)).toBitVec &&& 255#32)
  rw [k.1, byt_bv _ _ hi]
  congr 1
  apply BitVec.eq_of_toNat_eq
  show _ = (x.toUInt32 >>> ((nI (8 * i)).toUInt32 &&& Int32.toUInt32 31)).toNat
  rw [UInt32.toNat_shiftRight, k.2, BitVec.toNat_ushiftRight]
  rfl
def fdS (x : Int32) : Nat → Gs → Gs
  | 0, A => A
  | m + 1, A => fdS x m (up (up A 21 (A 20 1) (byt x m)) 20 1 (A 20 1 + 1))
theorem feed_loop {x n : Int32} : ∀ (m : Nat) (A : Gs) (w : Wd), M A w → A 20 1 + m ≤ 120 → m ≤ 4 → ∃ w', RUN 168 41 [some (.ref 44), some (.int x), some (.int n), some (.int (nI m + -1))] [] [] w = some ([.int (nI (A 20 1 + m))], w') ∧ M (fdS x m A) w' ∧ fM w w' := by
  intro m
  induction m with
  | zero =>
    intro A w h ht hm
    refine ⟨w, ?_, h, fM.rf w⟩
    have e : nI 0 + -1 < 0 := by decide
    have h7 := h.2.2.1
    rw [u168_41]
    simp (disch := first | omega | decide | exact nI0_01 | exact nI1_01 | exact bz_01 _) only [Option.bind_some, List.cons_append, List.nil_append, Nat.reduceAdd, Nat.reduceMul, Nat.reduceLeDiff, Nat.reduceEqDiff, ↓reduceIte, n168, u168_0, u168_1, u168_2, u168_3, u168_6, u168_9, u168_12, u168_13, u168_15, u168_18, u168_19, u168_20, u168_23, u168_24, u168_25, u168_27, u168_30, u168_31, u168_33, u168_36, u168_37, u168_38, u168_39, u168_40, u168_42, u168_45, u168_46, u168_49, u168_50, u168_53, u168_54, u168_56, u168_57, u168_58, u168_59, u168_62, u168_63, u168_64, u168_65, u168_66, u168_69, u168_70, u168_71, u168_74, u168_77, u168_80, u168_81, u168_84, e, if_true, h7, Nat.add_zero]
  | succ m ih =>
    intro A w h ht hm
    have h7 := h.2.2.1
    have hM := M_tape (M_byte h (A 20 1) (byt x m)) (A 20 1 + 1)
    have e1 : up (up A 21 (A 20 1) (byt x m)) 20 1 (A 20 1 + 1) 20 1 = A 20 1 + 1 := up_at _ _ _ _
    obtain ⟨w', h1, h2, h3⟩ := ih _ _ hM (by rw [e1]; omega) (by omega)
    rw [e1] at h1
    refine ⟨w', ?_, h2, ((fM.rf w).st (by omega) (by omega) _ _ |>.st (by omega) (by omega) _ _).tr h3⟩
    have e7 : (st2 w 50 (A 20 1) (nI (byt x m))).1 44 7 = nI (A 20 1) := by rw [st2_ne _ _ _ (by omega)]; exact h7
    have en : ¬ nI m < 0 := by rw [nn_lt0 (by omega)]; exact fun z => z
    have ha : A 20 1 < 120 := by omega
    have hb : nI (m + 1) + -1 = nI m := pk_m1 m
    have hbs := byt_s x (i := m) (by omega)
    rw [hb, u168_41]
    simp (disch := first | omega | decide | exact nI0_01 | exact nI1_01 | exact bz_01 _) only [Option.bind_some, List.cons_append, List.nil_append, Nat.reduceAdd, Nat.reduceMul, Nat.reduceLeDiff, Nat.reduceEqDiff, ↓reduceIte, n168, u168_0, u168_1, u168_2, u168_3, u168_6, u168_9, u168_12, u168_13, u168_15, u168_18, u168_19, u168_20, u168_23, u168_24, u168_25, u168_27, u168_30, u168_31, u168_33, u168_36, u168_37, u168_38, u168_39, u168_40, u168_42, u168_45, u168_46, u168_49, u168_50, u168_53, u168_54, u168_56, u168_57, u168_58, u168_59, u168_62, u168_63, u168_64, u168_65, u168_66, u168_69, u168_70, u168_71, u168_74, u168_77, u168_80, u168_81, u168_84, en, if_false, h7, pk_mul, hbs, e7, nI_add]
    rw [h1, show A 20 1 + 1 + m = A 20 1 + (m + 1) by omega]
def o_feed (A : Gs) (x n : Int32) : Int32 × Gs := if ok2 n 1 4 = true then (if 120 < A 20 1 + ix n then bad A 1 else (nI (A 20 1 + ix n), fdS x (ix n) A)) else bad A 0
theorem m_feed {A : Gs} {w : Wd} {x n : Int32} (h : M A (putS w A)) (ht : A 20 1 ≤ 120) : opM 168 [.int x, .int n] (o_feed A x n) (putS w A) := by
  have h7 := h.2.2.1
  unfold o_feed
  rcases ok2_case n 1 4 (by omega) with ⟨k, hk, lk, rfl, ek, ik⟩ | ek
  · try simp only [ik]
    rw [if_pos (by simp [ek])]
    by_cases h1 : 120 < A 20 1 + k
    · rw [if_pos h1]
      refine opM_bad h (by omega) ?_
      have h2 : ¬ A 20 1 + k ≤ 120 := by omega
      simp (disch := first | omega | decide | exact nI0_01 | exact nI1_01 | exact bz_01 _) only [Option.bind_some, List.cons_append, List.nil_append, Nat.reduceAdd, Nat.reduceMul, Nat.reduceLeDiff, Nat.reduceEqDiff, ↓reduceIte, n168, u168_0, u168_1, u168_2, u168_3, u168_6, u168_9, u168_12, u168_13, u168_15, u168_18, u168_19, u168_20, u168_23, u168_24, u168_25, u168_27, u168_30, u168_31, u168_33, u168_36, u168_37, u168_38, u168_39, u168_40, u168_42, u168_45, u168_46, u168_49, u168_50, u168_53, u168_54, u168_56, u168_57, u168_58, u168_59, u168_62, u168_63, u168_64, u168_65, u168_66, u168_69, u168_70, u168_71, u168_74, u168_77, u168_80, u168_81, u168_84, xin_1, xin_2, xin_3, xin_4, xin_5, xin_6, xin_7, xin_9, xin_20, xin_40, xin_99, xin_100, xin_999, xin_9999, xin_1_60, xin_1_20, xin_1_4, xin_2_4, xin_v, ek, bz_t, bz_f, nn_eq0, nn_eq, eq_self, not_true_eq_false, not_false_eq_true, h7, nI_add, nn_le, nn_lt, h1, h2, if_true, if_false, x_f1]
    · rw [if_neg h1]
      have h2 : A 20 1 + k ≤ 120 := by omega
      obtain ⟨w', h3, h4, h5⟩ := feed_loop (x := x) (n := nI k) k A (putS w A) h h2 lk
      refine opM_is ?_ h4 h5
      have e : nI k - nI 1 = nI k + -1 := by rw [nn_sub hk, show k = (k - 1) + 1 by omega, pk_m1]; rfl
      simp (disch := first | omega | decide | exact nI0_01 | exact nI1_01 | exact bz_01 _) only [Option.bind_some, List.cons_append, List.nil_append, Nat.reduceAdd, Nat.reduceMul, Nat.reduceLeDiff, Nat.reduceEqDiff, ↓reduceIte, n168, u168_0, u168_1, u168_2, u168_3, u168_6, u168_9, u168_12, u168_13, u168_15, u168_18, u168_19, u168_20, u168_23, u168_24, u168_25, u168_27, u168_30, u168_31, u168_33, u168_36, u168_37, u168_38, u168_39, u168_40, u168_42, u168_45, u168_46, u168_49, u168_50, u168_53, u168_54, u168_56, u168_57, u168_58, u168_59, u168_62, u168_63, u168_64, u168_65, u168_66, u168_69, u168_70, u168_71, u168_74, u168_77, u168_80, u168_81, u168_84, xin_1, xin_2, xin_3, xin_4, xin_5, xin_6, xin_7, xin_9, xin_20, xin_40, xin_99, xin_100, xin_999, xin_9999, xin_1_60, xin_1_20, xin_1_4, xin_2_4, xin_v, ek, bz_t, bz_f, nn_eq0, nn_eq, eq_self, not_true_eq_false, not_false_eq_true, h7, nI_add, nn_le, nn_lt, h1, h2, if_true, if_false, e]
      exact h3
  · rw [if_neg (by simp [ek])]
    refine opM_bad h (by omega) ?_
    simp (disch := first | omega | decide | exact nI0_01 | exact nI1_01 | exact bz_01 _) only [Option.bind_some, List.cons_append, List.nil_append, Nat.reduceAdd, Nat.reduceMul, Nat.reduceLeDiff, Nat.reduceEqDiff, ↓reduceIte, n168, u168_0, u168_1, u168_2, u168_3, u168_6, u168_9, u168_12, u168_13, u168_15, u168_18, u168_19, u168_20, u168_23, u168_24, u168_25, u168_27, u168_30, u168_31, u168_33, u168_36, u168_37, u168_38, u168_39, u168_40, u168_42, u168_45, u168_46, u168_49, u168_50, u168_53, u168_54, u168_56, u168_57, u168_58, u168_59, u168_62, u168_63, u168_64, u168_65, u168_66, u168_69, u168_70, u168_71, u168_74, u168_77, u168_80, u168_81, u168_84, xin_1, xin_2, xin_3, xin_4, xin_5, xin_6, xin_7, xin_9, xin_20, xin_40, xin_99, xin_100, xin_999, xin_9999, xin_1_60, xin_1_20, xin_1_4, xin_2_4, xin_v, ek, bz_t, bz_f, nn_eq0, nn_eq, eq_self, not_true_eq_false, not_false_eq_true, x_f0]
def o_wipe (A : Gs) : Int32 × Gs := (nI (A 20 1), up A 20 1 0)
theorem m_wipe {A : Gs} {w : Wd} (h : M A w) : opM 169 [] (o_wipe A) w := by
  have h7 := h.2.2.1
  refine opM_is (w' := st2 w 44 7 (nI 0)) ?_ (M_tape h 0) ((fM.rf w).st (by omega) (by omega) _ _)
  simp (disch := first | omega | decide | exact nI0_01 | exact nI1_01 | exact bz_01 _) only [Option.bind_some, List.cons_append, List.nil_append, Nat.reduceAdd, Nat.reduceMul, Nat.reduceLeDiff, Nat.reduceEqDiff, ↓reduceIte, n169, u169_0, u169_1, u169_4, u169_5, u169_6, u169_7, u169_10, u169_11, h7]
/-! IMAGES -/
def img (A : Gs) : Gs := fun c k => if 10 ≤ c ∧ c < 20 then A (c - 10) k else if c = 20 ∧ k = 0 then 1 else A c k
def und (A : Gs) : Gs := fun c k => if c < 10 then A (10 + c) k else A c k
theorem lay_und (A : Gs) (k : Nat) : lay (und A) k = lay (fun c => A (10 + c)) k := by
  have e : ∀ c j, c < 10 → und A c j = A (10 + c) j := fun c j h => if_pos h
  unfold lay
  rw [e 0 _ (by omega), e 1 _ (by omega), e 2 _ (by omega), e 3 _ (by omega), e (4 + (k - 25) % 5) _ (by omega), e 9 _ (by omega)]
theorem lay_img (A : Gs) (k : Nat) : lay (fun c => img A (10 + c)) k = lay A k := by
  have e : ∀ c j, c < 10 → img A (10 + c) j = A c j := fun c j h => by
    unfold img
    rw [if_pos (by omega), Nat.add_sub_cancel_left]
  unfold lay
  show (if k < 3 then img A (10 + 0) k else if k < 13 then img A (10 + 1) (k - 3) else if k < 19 then img A (10 + 2) (k - 13) else if k < 25 then img A (10 + 3) (k - 19) else if k < 65 then img A (10 + (4 + (k - 25) % 5)) ((k - 25) / 5) else img A (10 + 9) (k - 65)) = _
  rw [e 0 _ (by omega), e 1 _ (by omega), e 2 _ (by omega), e 3 _ (by omega), e (4 + (k - 25) % 5) _ (by omega), e 9 _ (by omega)]
theorem img_lo (A : Gs) {c : Nat} (h : c < 10) : img A c = A c := by
  funext k
  unfold img
  rw [if_neg (by omega), if_neg (by omega)]
theorem img_hi (A : Gs) {c : Nat} (h : 21 ≤ c) : img A c = A c := by
  funext k
  unfold img
  rw [if_neg (by omega), if_neg (by omega)]
def o_image (A : Gs) : Int32 × Gs := (nI 1, img A)
theorem m_image {A : Gs} {w : Wd} (h : M A (putS w A)) : opM 198 [] (o_image A) (putS w A) := by
  refine opM_is (w' := st2 (putS (putA w 46 A) A) 44 4 (nI 1)) ?_ ?_ ?_
  · simp (disch := first | omega | decide | exact nI0_01 | exact nI1_01 | exact bz_01 _) only [Option.bind_some, List.cons_append, List.nil_append, Nat.reduceAdd, Nat.reduceMul, Nat.reduceLeDiff, Nat.reduceEqDiff, ↓reduceIte, n198, u198_0, u198_1, u198_4, u198_5, u198_8, u198_11, u198_12, u198_13, u198_16, u198_17, x_aside]
  · obtain ⟨h1, h2, h3, h4, h5, h6, h7, h8, h9⟩ := h
    have e : ∀ a, a ≠ 44 → a ≠ 45 → a ≠ 46 → (st2 (putS (putA w 46 A) A) 44 4 (nI 1)).1 a = (putS w A).1 a := fun a q1 q2 q3 => by
      rw [st2_ne _ _ _ q1, putS_ne _ _ q2, putA_ne _ _ q3, putS_ne _ _ q2]
    refine ⟨?_, ?_, ?_, ?_, ?_, ?_, ?_, ?_, ?_⟩
    · rw [st2_ne _ _ _ (by omega)]
      unfold putS
      rw [put_at]
      funext j
      unfold rowS lay
      rw [img_lo A (by omega), img_lo A (by omega), img_lo A (by omega), img_lo A (by omega), img_lo A (by omega), img_lo A (by omega)]
    · rw [st2_at]; rfl
    · rw [st2_nk _ _ _ (by omega), putS_ne _ _ (by omega), putA_ne _ _ (by omega), ← putS_ne w A (by omega), h3]; rfl
    · intro q k hk
      rw [st2_ne _ _ _ (by omega), putS_ne _ _ (by omega), lay_img]
      unfold putA
      rw [put_at, if_pos hk]
    · rw [e 50 (by omega) (by omega) (by omega), img_hi A (by omega)]; exact h5
    · rw [e 49 (by omega) (by omega) (by omega), img_hi A (by omega)]; exact h6
    · rw [e 51 (by omega) (by omega) (by omega), img_hi A (by omega)]; exact h7
    · rw [e 52 (by omega) (by omega) (by omega), img_hi A (by omega)]; exact h8
    · rw [e 53 (by omega) (by omega) (by omega)]; intro t k ht hk; rw [img_hi A (by omega)]; exact h9 t k ht hk
  · have hf : fM (putS w A) (putS (putA w 46 A) A) := ⟨fun a ha => by rw [putS_ne _ _ (by omega), putA_ne _ _ (by omega), putS_ne _ _ (by omega)], rfl⟩
    exact hf.st (by omega) (by omega) _ _
def o_undo (A : Gs) : Int32 × Gs := if A 20 0 = 1 then (nI (A 10 1), und A) else bad A 3
theorem m_undo {A : Gs} {w : Wd} (h : M A (putS w A)) (hk : A 20 0 ≤ 1) : opM 199 [] (o_undo A) (putS w A) := by
  unfold o_undo
  have h4 := h.2.1
  by_cases h1 : A 20 0 = 1
  · rw [if_pos h1]
    have hK : ∀ k, k < 75 → w.1 46 k = nI (lay (und A) k) := fun k hk => by
      rw [lay_und, ← h.2.2.2.1 h1 k hk, putS_ne _ _ (by omega)]
    have hb := x_back (b := 46) (w := w) (A := und A) (A' := A) (by omega) hK
    refine opM_is (w' := putS w (und A)) ?_ (M_put h ?_) (fM.pS _ _)
    · have e : und A 0 1 = A 10 1 := rfl
      simp (disch := first | omega | decide | exact nI0_01 | exact nI1_01 | exact bz_01 _) only [Option.bind_some, List.cons_append, List.nil_append, Nat.reduceAdd, Nat.reduceMul, Nat.reduceLeDiff, Nat.reduceEqDiff, ↓reduceIte, n199, u199_0, u199_1, u199_4, u199_7, u199_8, u199_10, u199_13, u199_14, u199_15, u199_18, u199_19, u199_22, u199_25, u199_26, u199_29, u199_30, u199_31, h4, h1, bz_t, bz_f, nn_eq0, nn_eq, eq_self, not_true_eq_false, not_false_eq_true, hb, putS_0, e]
    · intro c hc
      funext k
      unfold und
      rw [if_neg (by omega)]
  · rw [if_neg h1]
    have h0 : A 20 0 = 0 := by omega
    refine opM_bad h (by omega) ?_
    simp (disch := first | omega | decide | exact nI0_01 | exact nI1_01 | exact bz_01 _) only [Option.bind_some, List.cons_append, List.nil_append, Nat.reduceAdd, Nat.reduceMul, Nat.reduceLeDiff, Nat.reduceEqDiff, ↓reduceIte, n199, u199_0, u199_1, u199_4, u199_7, u199_8, u199_10, u199_13, u199_14, u199_15, u199_18, u199_19, u199_22, u199_25, u199_26, u199_29, u199_30, u199_31, h4, h0, bz_t, bz_f, nn_eq0, nn_eq, eq_self, not_true_eq_false, not_false_eq_true, x_f3]
def o_tear (A : Gs) : Int32 × Gs := (nI (A 20 0), up A 20 0 0)
theorem m_tear {A : Gs} {w : Wd} (h : M A w) (hk : A 20 0 ≤ 1) : opM 200 [] (o_tear A) w := by
  have h4 := h.2.1
  refine opM_is (w' := st2 w 44 4 (nI 0)) ?_ (M_torn h) ((fM.rf w).st (by omega) (by omega) _ _)
  rcases (by omega : A 20 0 = 0 ∨ A 20 0 = 1) with h1 | h1 <;> simp (disch := first | omega | decide | exact nI0_01 | exact nI1_01 | exact bz_01 _) only [Option.bind_some, List.cons_append, List.nil_append, Nat.reduceAdd, Nat.reduceMul, Nat.reduceLeDiff, Nat.reduceEqDiff, ↓reduceIte, n200, u200_0, u200_1, u200_4, u200_5, u200_6, u200_7, u200_10, u200_11, u200_14, u200_15, u200_18, u200_19, h4, h1, bz_t, bz_f, nn_eq0, nn_eq, eq_self, not_true_eq_false, not_false_eq_true]
/-! SHEETS -/
def zr (t : Nat) : Nat → Nat → Gs → Gs
  | 0, _, A => A
  | m + 1, k, A => zr t m (k + 1) (up A (25 + t) k 0)
theorem sheet_loop {t : Nat} {b n x5 : Option Value} (ht : t < 4) : ∀ (m k : Nat) (A : Gs) (w : Wd), M A w → m + k = 40 → ∃ w', RUN 192 94 [some (.ref 44), some (.int (nI t)), b, n, some (.int (nI k))] [] [] w = some ([.int (nI (A 24 t))], w') ∧ M (zr t m k A) w' ∧ fM w w' := by
  intro m
  induction m with
  | zero =>
    intro k A w h hm
    have e : k = 40 := by omega
    subst e
    refine ⟨w, ?_, h, fM.rf w⟩
    have h8 := h.size ht
    rw [u192_94]
    simp (disch := first | omega | decide | exact nI0_01 | exact nI1_01 | exact bz_01 _) only [Option.bind_some, List.cons_append, List.nil_append, Nat.reduceAdd, Nat.reduceMul, Nat.reduceLeDiff, Nat.reduceEqDiff, ↓reduceIte, n192, u192_0, u192_1, u192_4, u192_7, u192_8, u192_11, u192_12, u192_14, u192_17, u192_18, u192_20, u192_23, u192_24, u192_26, u192_29, u192_30, u192_32, u192_35, u192_36, u192_37, u192_40, u192_41, u192_44, u192_47, u192_48, u192_49, u192_51, u192_54, u192_55, u192_57, u192_60, u192_61, u192_62, u192_65, u192_66, u192_67, u192_70, u192_71, u192_74, u192_75, u192_76, u192_77, u192_80, u192_81, u192_82, u192_85, u192_86, u192_89, u192_90, u192_91, u192_92, u192_96, u192_98, u192_101, u192_102, u192_105, u192_107, u192_108, u192_109, u192_111, u192_112, u192_113, u192_114, u192_117, u192_120, u192_121, u192_124, u192_125, u192_126, nn_le, Nat.le_refl, if_true, h8]
  | succ m ih =>
    intro k A w h hm
    have h1 : ¬ 40 ≤ k := by omega
    have hM := M_num h ht (i := k) (by omega) (x := nI 0) (v := 0) rfl
    obtain ⟨w', h2, h3, h4⟩ := ih (k + 1) _ _ hM (by omega)
    have e : up A (25 + t) k 0 24 t = A 24 t := up_nc _ (by omega)
    rw [e] at h2
    refine ⟨w', ?_, h3, ((fM.rf w).st (by omega) (by omega) _ _).tr h4⟩
    rw [u192_94]
    simp (disch := first | omega | decide | exact nI0_01 | exact nI1_01 | exact bz_01 _) only [Option.bind_some, List.cons_append, List.nil_append, Nat.reduceAdd, Nat.reduceMul, Nat.reduceLeDiff, Nat.reduceEqDiff, ↓reduceIte, n192, u192_0, u192_1, u192_4, u192_7, u192_8, u192_11, u192_12, u192_14, u192_17, u192_18, u192_20, u192_23, u192_24, u192_26, u192_29, u192_30, u192_32, u192_35, u192_36, u192_37, u192_40, u192_41, u192_44, u192_47, u192_48, u192_49, u192_51, u192_54, u192_55, u192_57, u192_60, u192_61, u192_62, u192_65, u192_66, u192_67, u192_70, u192_71, u192_74, u192_75, u192_76, u192_77, u192_80, u192_81, u192_82, u192_85, u192_86, u192_89, u192_90, u192_91, u192_92, u192_96, u192_98, u192_101, u192_102, u192_105, u192_107, u192_108, u192_109, u192_111, u192_112, u192_113, u192_114, u192_117, u192_120, u192_121, u192_124, u192_125, u192_126, nn_le, h1, if_false, pk_mul, nI_add]
    exact h2
theorem zr_r {t : Nat} : ∀ m k (A : Gs) {c : Nat}, c ≠ 25 + t → zr t m k A c = A c
  | 0, _, _, _, _ => rfl
  | m + 1, k, A, c, h => by
    rw [zr, zr_r m (k + 1) _ h]
    funext j
    rw [up_nc A h]
def o_sheet (A : Gs) (t b n : Int32) : Int32 × Gs := if ok t 3 = true ∧ (b = nI 0 ∨ b = nI 8 ∨ b = nI 16 ∨ b = nI 32) then (if n < 0 then bad A 6 else if ok n 40 = true then (nI (if b = nI 0 then 0 else ix n), zr (ix t) 40 0 (up (up A 23 (ix t) (ix b)) 24 (ix t) (if b = nI 0 then 0 else ix n))) else bad A 0) else bad A 0
theorem m_sheet {A : Gs} {w : Wd} {t b n : Int32} (h : M A w) : opM 192 [.int t, .int b, .int n] (o_sheet A t b n) w := by
  unfold o_sheet
  rcases ok_case t 3 (by omega) with ⟨k, hk, rfl, ek, ik⟩ | ek
  · have hk4 : k < 4 := by omega
    by_cases hb : b = nI 0 ∨ b = nI 8 ∨ b = nI 16 ∨ b = nI 32
    · rw [if_pos ⟨ek, hb⟩, ik]
      by_cases hn : n < 0
      · rw [if_pos hn]
        refine opM_bad h (by omega) ?_
        have hn2 : ¬ 0 ≤ n := Int32.not_le.mpr hn
        rcases hb with rfl | rfl | rfl | rfl <;> simp (disch := first | omega | decide | exact nI0_01 | exact nI1_01 | exact bz_01 _) only [Option.bind_some, List.cons_append, List.nil_append, Nat.reduceAdd, Nat.reduceMul, Nat.reduceLeDiff, Nat.reduceEqDiff, ↓reduceIte, n192, u192_0, u192_1, u192_4, u192_7, u192_8, u192_11, u192_12, u192_14, u192_17, u192_18, u192_20, u192_23, u192_24, u192_26, u192_29, u192_30, u192_32, u192_35, u192_36, u192_37, u192_40, u192_41, u192_44, u192_47, u192_48, u192_49, u192_51, u192_54, u192_55, u192_57, u192_60, u192_61, u192_62, u192_65, u192_66, u192_67, u192_70, u192_71, u192_74, u192_75, u192_76, u192_77, u192_80, u192_81, u192_82, u192_85, u192_86, u192_89, u192_90, u192_91, u192_92, u192_96, u192_98, u192_101, u192_102, u192_105, u192_107, u192_108, u192_109, u192_111, u192_112, u192_113, u192_114, u192_117, u192_120, u192_121, u192_124, u192_125, u192_126, x_isSheet, ek, bz_t, bz_f, nn_eq0, nn_eq, eq_self, not_true_eq_false, not_false_eq_true, hn, hn2, if_true, if_false, x_f6]
      · rw [if_neg hn]
        have hn2 : 0 ≤ n := Int32.not_lt.mp hn
        rcases ok_case n 40 (by omega) with ⟨m, hm, rfl, em, im⟩ | em
        · rw [if_pos em, im]
          have hm2 : ¬ 40 < m := by omega
          rcases hb with rfl | rfl | rfl | rfl
          · obtain ⟨w', h2, h3, h4⟩ := sheet_loop (b := some (.int (nI 0))) (n := some (.int (nI m))) (x5 := none) hk4 40 0 _ _ (M_size (M_bits h k 0 (x := -1) rfl) k 0) rfl
            rw [up_at] at h2
            refine opM_is ?_ h3 (((fM.rf w).st (by omega) (by omega) _ _ |>.st (by omega) (by omega) _ _).tr h4)
            simp (disch := first | omega | decide | exact nI0_01 | exact nI1_01 | exact bz_01 _) only [Option.bind_some, List.cons_append, List.nil_append, Nat.reduceAdd, Nat.reduceMul, Nat.reduceLeDiff, Nat.reduceEqDiff, ↓reduceIte, n192, u192_0, u192_1, u192_4, u192_7, u192_8, u192_11, u192_12, u192_14, u192_17, u192_18, u192_20, u192_23, u192_24, u192_26, u192_29, u192_30, u192_32, u192_35, u192_36, u192_37, u192_40, u192_41, u192_44, u192_47, u192_48, u192_49, u192_51, u192_54, u192_55, u192_57, u192_60, u192_61, u192_62, u192_65, u192_66, u192_67, u192_70, u192_71, u192_74, u192_75, u192_76, u192_77, u192_80, u192_81, u192_82, u192_85, u192_86, u192_89, u192_90, u192_91, u192_92, u192_96, u192_98, u192_101, u192_102, u192_105, u192_107, u192_108, u192_109, u192_111, u192_112, u192_113, u192_114, u192_117, u192_120, u192_121, u192_124, u192_125, u192_126, x_isSheet, ek, bz_t, bz_f, nn_eq0, nn_eq, eq_self, not_true_eq_false, not_false_eq_true, nn_ge0, nn_lt, nn_le, hm, hm2, if_true, if_false]
            exact h2
          · obtain ⟨w', h2, h3, h4⟩ := sheet_loop (b := some (.int (nI 8))) (n := some (.int (nI m))) (x5 := none) hk4 40 0 _ _ (M_size (M_bits h k 8 (x := nI 8) rfl) k m) rfl
            rw [up_at] at h2
            refine opM_is ?_ h3 (((fM.rf w).st (by omega) (by omega) _ _ |>.st (by omega) (by omega) _ _).tr h4)
            simp (disch := first | omega | decide | exact nI0_01 | exact nI1_01 | exact bz_01 _) only [Option.bind_some, List.cons_append, List.nil_append, Nat.reduceAdd, Nat.reduceMul, Nat.reduceLeDiff, Nat.reduceEqDiff, ↓reduceIte, n192, u192_0, u192_1, u192_4, u192_7, u192_8, u192_11, u192_12, u192_14, u192_17, u192_18, u192_20, u192_23, u192_24, u192_26, u192_29, u192_30, u192_32, u192_35, u192_36, u192_37, u192_40, u192_41, u192_44, u192_47, u192_48, u192_49, u192_51, u192_54, u192_55, u192_57, u192_60, u192_61, u192_62, u192_65, u192_66, u192_67, u192_70, u192_71, u192_74, u192_75, u192_76, u192_77, u192_80, u192_81, u192_82, u192_85, u192_86, u192_89, u192_90, u192_91, u192_92, u192_96, u192_98, u192_101, u192_102, u192_105, u192_107, u192_108, u192_109, u192_111, u192_112, u192_113, u192_114, u192_117, u192_120, u192_121, u192_124, u192_125, u192_126, x_isSheet, ek, bz_t, bz_f, nn_eq0, nn_eq, eq_self, not_true_eq_false, not_false_eq_true, nn_ge0, nn_lt, nn_le, hm, hm2, if_true, if_false]
            exact h2
          · obtain ⟨w', h2, h3, h4⟩ := sheet_loop (b := some (.int (nI 16))) (n := some (.int (nI m))) (x5 := none) hk4 40 0 _ _ (M_size (M_bits h k 16 (x := nI 16) rfl) k m) rfl
            rw [up_at] at h2
            refine opM_is ?_ h3 (((fM.rf w).st (by omega) (by omega) _ _ |>.st (by omega) (by omega) _ _).tr h4)
            simp (disch := first | omega | decide | exact nI0_01 | exact nI1_01 | exact bz_01 _) only [Option.bind_some, List.cons_append, List.nil_append, Nat.reduceAdd, Nat.reduceMul, Nat.reduceLeDiff, Nat.reduceEqDiff, ↓reduceIte, n192, u192_0, u192_1, u192_4, u192_7, u192_8, u192_11, u192_12, u192_14, u192_17, u192_18, u192_20, u192_23, u192_24, u192_26, u192_29, u192_30, u192_32, u192_35, u192_36, u192_37, u192_40, u192_41, u192_44, u192_47, u192_48, u192_49, u192_51, u192_54, u192_55, u192_57, u192_60, u192_61, u192_62, u192_65, u192_66, u192_67, u192_70, u192_71, u192_74, u192_75, u192_76, u192_77, u192_80, u192_81, u192_82, u192_85, u192_86, u192_89, u192_90, u192_91, u192_92, u192_96, u192_98, u192_101, u192_102, u192_105, u192_107, u192_108, u192_109, u192_111, u192_112, u192_113, u192_114, u192_117, u192_120, u192_121, u192_124, u192_125, u192_126, x_isSheet, ek, bz_t, bz_f, nn_eq0, nn_eq, eq_self, not_true_eq_false, not_false_eq_true, nn_ge0, nn_lt, nn_le, hm, hm2, if_true, if_false]
            exact h2
          · obtain ⟨w', h2, h3, h4⟩ := sheet_loop (b := some (.int (nI 32))) (n := some (.int (nI m))) (x5 := none) hk4 40 0 _ _ (M_size (M_bits h k 32 (x := nI 32) rfl) k m) rfl
            rw [up_at] at h2
            refine opM_is ?_ h3 (((fM.rf w).st (by omega) (by omega) _ _ |>.st (by omega) (by omega) _ _).tr h4)
            simp (disch := first | omega | decide | exact nI0_01 | exact nI1_01 | exact bz_01 _) only [Option.bind_some, List.cons_append, List.nil_append, Nat.reduceAdd, Nat.reduceMul, Nat.reduceLeDiff, Nat.reduceEqDiff, ↓reduceIte, n192, u192_0, u192_1, u192_4, u192_7, u192_8, u192_11, u192_12, u192_14, u192_17, u192_18, u192_20, u192_23, u192_24, u192_26, u192_29, u192_30, u192_32, u192_35, u192_36, u192_37, u192_40, u192_41, u192_44, u192_47, u192_48, u192_49, u192_51, u192_54, u192_55, u192_57, u192_60, u192_61, u192_62, u192_65, u192_66, u192_67, u192_70, u192_71, u192_74, u192_75, u192_76, u192_77, u192_80, u192_81, u192_82, u192_85, u192_86, u192_89, u192_90, u192_91, u192_92, u192_96, u192_98, u192_101, u192_102, u192_105, u192_107, u192_108, u192_109, u192_111, u192_112, u192_113, u192_114, u192_117, u192_120, u192_121, u192_124, u192_125, u192_126, x_isSheet, ek, bz_t, bz_f, nn_eq0, nn_eq, eq_self, not_true_eq_false, not_false_eq_true, nn_ge0, nn_lt, nn_le, hm, hm2, if_true, if_false]
            exact h2
        · rw [if_neg (by simp [em])]
          refine opM_bad h (by omega) ?_
          have h40 : nI 40 < n := by
            have hz : 0 ≤ n.toInt := by rw [ge_z] at hn2; exact hn2
            rw [gt_nI (by omega)]
            unfold ok at em
            have := of_decide_eq_false em
            omega
          have h41 : ¬ n ≤ nI 40 := Int32.not_le.mpr h40
          rcases hb with rfl | rfl | rfl | rfl <;> simp (disch := first | omega | decide | exact nI0_01 | exact nI1_01 | exact bz_01 _) only [Option.bind_some, List.cons_append, List.nil_append, Nat.reduceAdd, Nat.reduceMul, Nat.reduceLeDiff, Nat.reduceEqDiff, ↓reduceIte, n192, u192_0, u192_1, u192_4, u192_7, u192_8, u192_11, u192_12, u192_14, u192_17, u192_18, u192_20, u192_23, u192_24, u192_26, u192_29, u192_30, u192_32, u192_35, u192_36, u192_37, u192_40, u192_41, u192_44, u192_47, u192_48, u192_49, u192_51, u192_54, u192_55, u192_57, u192_60, u192_61, u192_62, u192_65, u192_66, u192_67, u192_70, u192_71, u192_74, u192_75, u192_76, u192_77, u192_80, u192_81, u192_82, u192_85, u192_86, u192_89, u192_90, u192_91, u192_92, u192_96, u192_98, u192_101, u192_102, u192_105, u192_107, u192_108, u192_109, u192_111, u192_112, u192_113, u192_114, u192_117, u192_120, u192_121, u192_124, u192_125, u192_126, x_isSheet, ek, bz_t, bz_f, nn_eq0, nn_eq, eq_self, not_true_eq_false, not_false_eq_true, hn, hn2, h40, h41, if_true, if_false, x_f0]
    · rw [if_neg (fun q => hb q.2)]
      refine opM_bad h (by omega) ?_
      have b0 : ¬ b = 0 := fun z => hb (Or.inl z)
      have b1 : ¬ b = nI 8 := fun z => hb (Or.inr (Or.inl z))
      have b2 : ¬ b = nI 16 := fun z => hb (Or.inr (Or.inr (Or.inl z)))
      have b3 : ¬ b = nI 32 := fun z => hb (Or.inr (Or.inr (Or.inr z)))
      simp (disch := first | omega | decide | exact nI0_01 | exact nI1_01 | exact bz_01 _) only [Option.bind_some, List.cons_append, List.nil_append, Nat.reduceAdd, Nat.reduceMul, Nat.reduceLeDiff, Nat.reduceEqDiff, ↓reduceIte, n192, u192_0, u192_1, u192_4, u192_7, u192_8, u192_11, u192_12, u192_14, u192_17, u192_18, u192_20, u192_23, u192_24, u192_26, u192_29, u192_30, u192_32, u192_35, u192_36, u192_37, u192_40, u192_41, u192_44, u192_47, u192_48, u192_49, u192_51, u192_54, u192_55, u192_57, u192_60, u192_61, u192_62, u192_65, u192_66, u192_67, u192_70, u192_71, u192_74, u192_75, u192_76, u192_77, u192_80, u192_81, u192_82, u192_85, u192_86, u192_89, u192_90, u192_91, u192_92, u192_96, u192_98, u192_101, u192_102, u192_105, u192_107, u192_108, u192_109, u192_111, u192_112, u192_113, u192_114, u192_117, u192_120, u192_121, u192_124, u192_125, u192_126, x_isSheet, ek, bz_t, bz_f, nn_eq0, nn_eq, eq_self, not_true_eq_false, not_false_eq_true, b0, b1, b2, b3, if_true, if_false, x_f0]
  · rw [if_neg (by simp [ek])]
    refine opM_bad h (by omega) ?_
    simp (disch := first | omega | decide | exact nI0_01 | exact nI1_01 | exact bz_01 _) only [Option.bind_some, List.cons_append, List.nil_append, Nat.reduceAdd, Nat.reduceMul, Nat.reduceLeDiff, Nat.reduceEqDiff, ↓reduceIte, n192, u192_0, u192_1, u192_4, u192_7, u192_8, u192_11, u192_12, u192_14, u192_17, u192_18, u192_20, u192_23, u192_24, u192_26, u192_29, u192_30, u192_32, u192_35, u192_36, u192_37, u192_40, u192_41, u192_44, u192_47, u192_48, u192_49, u192_51, u192_54, u192_55, u192_57, u192_60, u192_61, u192_62, u192_65, u192_66, u192_67, u192_70, u192_71, u192_74, u192_75, u192_76, u192_77, u192_80, u192_81, u192_82, u192_85, u192_86, u192_89, u192_90, u192_91, u192_92, u192_96, u192_98, u192_101, u192_102, u192_105, u192_107, u192_108, u192_109, u192_111, u192_112, u192_113, u192_114, u192_117, u192_120, u192_121, u192_124, u192_125, u192_126, x_isSheet, ek, bz_t, bz_f, nn_eq0, nn_eq, eq_self, not_true_eq_false, not_false_eq_true, x_f0]
