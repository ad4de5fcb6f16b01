theorem isN_no {B : Nat → Nat} {s : List Nat} {t : Tk} (h : ¬ (t.1 = 1 ∧ t.2.2.1 = t.2.1 + s.length)) : isN B s t = false := by
  unfold isN
  by_cases q1 : t.1 = 1
  · by_cases q2 : t.2.2.1 = t.2.1 + s.length
    · exact absurd ⟨q1, q2⟩ h
    · simp [q2]
  · simp [q1]
theorem isN_ye {B : Nat → Nat} {s : List Nat} {t : Tk} (h : t.1 = 1 ∧ t.2.2.1 = t.2.1 + s.length) : isN B s t = mtc B s t.2.1 := by
  unfold isN
  simp [h.1, h.2]
theorem wd_no {t : Tk} {L : Nat} (h : ¬ (t.1 = 1 ∧ t.2.2.1 = t.2.1 + L)) : (decide (t.1 = 1) && decide (t.2.2.1 = t.2.1 + L)) = false := by
  by_cases q1 : t.1 = 1
  · by_cases q2 : t.2.2.1 = t.2.1 + L
    · exact absurd ⟨q1, q2⟩ h
    · simp [q2]
  · simp [q1]
theorem wd_ye {t : Tk} {L : Nat} (h : t.1 = 1 ∧ t.2.2.1 = t.2.1 + L) : (decide (t.1 = 1) && decide (t.2.2.1 = t.2.1 + L)) = true := by simp [h.1, h.2]
theorem TS.four {w : Wd} {n : Nat} {B : Nat → Nat} (hE : Env w n B) {t : Tk} {fa : Int32} {G : Gs} {W : Wd} (h : TS w t fa G W) (ht : tko n t) {a b c d : Nat} (ha : a < 256) (hb : b < 256) (hc : c < 256) (hd : d < 256) : CALL 177 [.ref 44, .int (nI a), .int (nI b), .int (nI c), .int (nI d)] W = some ([.int (bz (isN B [a, b, c, d] t))], W) := by
  have hW := h.isWord (L := 4) ht hE.2.2.1 (by omega)
  by_cases hw : t.1 = 1 ∧ t.2.2.1 = t.2.1 + 4
  · rw [wd_ye hw] at hW
    have ht2 := ht.2.1
    have h1 := h.has3 hE (i := 0) (a := a) (b := b) (c := c) (by omega) ha hb hc
    have h2 := h.has3 hE (i := 1) (a := b) (b := c) (c := d) (by omega) hb hc hd
    rw [isN_ye (s := [a, b, c, d]) hw]
    simp only [mtc, Bool.and_true, Nat.add_zero, Nat.add_assoc, Nat.reduceAdd] at h1 h2 ⊢
    cases e1 : decide (B t.2.1 = a) <;> cases e2 : decide (B (t.2.1 + 1) = b) <;> cases e3 : decide (B (t.2.1 + 2) = c) <;> cases e4 : decide (B (t.2.1 + 3) = d) <;> rw [e1, e2, e3] at h1 <;> rw [e2, e3, e4] at h2 <;> simp (disch := first | omega | decide | exact nI0_01 | exact nI1_01 | exact bz_01 _) only [Option.bind_some, List.cons_append, List.nil_append, Nat.reduceAdd, Nat.reduceMul, Nat.reduceLeDiff, Nat.reduceEqDiff, ↓reduceIte, n177, u177_0, u177_1, u177_2, u177_5, u177_8, u177_9, u177_10, u177_11, u177_12, u177_13, u177_16, u177_19, u177_20, u177_21, u177_22, u177_23, u177_25, u177_28, u177_31, u177_32, u177_35, u177_36, hW, h1, h2, bz_t, bz_f, nn_eq0, nn_eq, eq_self, not_true_eq_false, not_false_eq_true, Bool.and_true, Bool.and_false, Bool.true_and, Bool.false_and]
  · rw [wd_no hw] at hW
    rw [isN_no (s := [a, b, c, d]) hw]
    simp (disch := first | omega | decide | exact nI0_01 | exact nI1_01 | exact bz_01 _) only [Option.bind_some, List.cons_append, List.nil_append, Nat.reduceAdd, Nat.reduceMul, Nat.reduceLeDiff, Nat.reduceEqDiff, ↓reduceIte, n177, u177_0, u177_1, u177_2, u177_5, u177_8, u177_9, u177_10, u177_11, u177_12, u177_13, u177_16, u177_19, u177_20, u177_21, u177_22, u177_23, u177_25, u177_28, u177_31, u177_32, u177_35, u177_36, hW, bz_t, bz_f, nn_eq0, nn_eq, eq_self, not_true_eq_false, not_false_eq_true]
theorem TS.five {w : Wd} {n : Nat} {B : Nat → Nat} (hE : Env w n B) {t : Tk} {fa : Int32} {G : Gs} {W : Wd} (h : TS w t fa G W) (ht : tko n t) {a b c d e : Nat} (ha : a < 256) (hb : b < 256) (hc : c < 256) (hd : d < 256) (he : e < 256) : CALL 178 [.ref 44, .int (nI a), .int (nI b), .int (nI c), .int (nI d), .int (nI e)] W = some ([.int (bz (isN B [a, b, c, d, e] t))], W) := by
  have hW := h.isWord (L := 5) ht hE.2.2.1 (by omega)
  by_cases hw : t.1 = 1 ∧ t.2.2.1 = t.2.1 + 5
  · rw [wd_ye hw] at hW
    have ht2 := ht.2.1
    have h1 := h.has3 hE (i := 0) (a := a) (b := b) (c := c) (by omega) ha hb hc
    have h2 := h.has3 hE (i := 2) (a := c) (b := d) (c := e) (by omega) hc hd he
    rw [isN_ye (s := [a, b, c, d, e]) hw]
    simp only [mtc, Bool.and_true, Nat.add_zero, Nat.add_assoc, Nat.reduceAdd] at h1 h2 ⊢
    cases e1 : decide (B t.2.1 = a) <;> cases e2 : decide (B (t.2.1 + 1) = b) <;> cases e3 : decide (B (t.2.1 + 2) = c) <;> cases e4 : decide (B (t.2.1 + 3) = d) <;> cases e5 : decide (B (t.2.1 + 4) = e) <;> rw [e1, e2, e3] at h1 <;> rw [e3, e4, e5] at h2 <;> simp (disch := first | omega | decide | exact nI0_01 | exact nI1_01 | exact bz_01 _) only [Option.bind_some, List.cons_append, List.nil_append, Nat.reduceAdd, Nat.reduceMul, Nat.reduceLeDiff, Nat.reduceEqDiff, ↓reduceIte, n178, u178_0, u178_1, u178_2, u178_5, u178_8, u178_9, u178_10, u178_11, u178_12, u178_13, u178_16, u178_19, u178_20, u178_21, u178_22, u178_24, u178_26, u178_29, u178_32, u178_33, u178_36, u178_37, hW, h1, h2, bz_t, bz_f, nn_eq0, nn_eq, eq_self, not_true_eq_false, not_false_eq_true, Bool.and_true, Bool.and_false, Bool.true_and, Bool.false_and]
  · rw [wd_no hw] at hW
    rw [isN_no (s := [a, b, c, d, e]) hw]
    simp (disch := first | omega | decide | exact nI0_01 | exact nI1_01 | exact bz_01 _) only [Option.bind_some, List.cons_append, List.nil_append, Nat.reduceAdd, Nat.reduceMul, Nat.reduceLeDiff, Nat.reduceEqDiff, ↓reduceIte, n178, u178_0, u178_1, u178_2, u178_5, u178_8, u178_9, u178_10, u178_11, u178_12, u178_13, u178_16, u178_19, u178_20, u178_21, u178_22, u178_24, u178_26, u178_29, u178_32, u178_33, u178_36, u178_37, hW, bz_t, bz_f, nn_eq0, nn_eq, eq_self, not_true_eq_false, not_false_eq_true]
theorem TS.six {w : Wd} {n : Nat} {B : Nat → Nat} (hE : Env w n B) {t : Tk} {fa : Int32} {G : Gs} {W : Wd} (h : TS w t fa G W) (ht : tko n t) {a b c d e f : Nat} (ha : a < 256) (hb : b < 256) (hc : c < 256) (hd : d < 256) (he : e < 256) (hf : f < 256) : CALL 179 [.ref 44, .int (nI a), .int (nI b), .int (nI c), .int (nI d), .int (nI e), .int (nI f)] W = some ([.int (bz (isN B [a, b, c, d, e, f] t))], W) := by
  have hW := h.isWord (L := 6) ht hE.2.2.1 (by omega)
  by_cases hw : t.1 = 1 ∧ t.2.2.1 = t.2.1 + 6
  · rw [wd_ye hw] at hW
    have ht2 := ht.2.1
    have h1 := h.has3 hE (i := 0) (a := a) (b := b) (c := c) (by omega) ha hb hc
    have h2 := h.has3 hE (i := 3) (a := d) (b := e) (c := f) (by omega) hd he hf
    rw [isN_ye (s := [a, b, c, d, e, f]) hw]
    simp only [mtc, Bool.and_true, Nat.add_zero, Nat.add_assoc, Nat.reduceAdd] at h1 h2 ⊢
    generalize e1 : decide (B t.2.1 = a) = d1 at h1 ⊢
    generalize e2 : decide (B (t.2.1 + 1) = b) = d2 at h1 ⊢
    generalize e3 : decide (B (t.2.1 + 2) = c) = d3 at h1 ⊢
    generalize e4 : (decide (B (t.2.1 + 3) = d) && (decide (B (t.2.1 + 4) = e) && decide (B (t.2.1 + 5) = f))) = d4
    have e5 : (decide (B (t.2.1 + 3) = d) && decide (B (t.2.1 + 4) = e) && decide (B (t.2.1 + 5) = f)) = d4 := by rw [Bool.and_assoc]; exact e4
    rw [e5] at h2
    cases d1 <;> cases d2 <;> cases d3 <;> cases d4 <;> simp (disch := first | omega | decide | exact nI0_01 | exact nI1_01 | exact bz_01 _) only [Option.bind_some, List.cons_append, List.nil_append, Nat.reduceAdd, Nat.reduceMul, Nat.reduceLeDiff, Nat.reduceEqDiff, ↓reduceIte, n179, u179_0, u179_1, u179_3, u179_6, u179_9, u179_10, u179_11, u179_12, u179_13, u179_14, u179_17, u179_20, u179_21, u179_22, u179_24, u179_26, u179_28, u179_31, u179_34, u179_35, u179_38, u179_39, hW, h1, h2, bz_t, bz_f, nn_eq0, nn_eq, eq_self, not_true_eq_false, not_false_eq_true, Bool.and_true, Bool.and_false, Bool.true_and, Bool.false_and]
  · rw [wd_no hw] at hW
    rw [isN_no (s := [a, b, c, d, e, f]) hw]
    simp (disch := first | omega | decide | exact nI0_01 | exact nI1_01 | exact bz_01 _) only [Option.bind_some, List.cons_append, List.nil_append, Nat.reduceAdd, Nat.reduceMul, Nat.reduceLeDiff, Nat.reduceEqDiff, ↓reduceIte, n179, u179_0, u179_1, u179_3, u179_6, u179_9, u179_10, u179_11, u179_12, u179_13, u179_14, u179_17, u179_20, u179_21, u179_22, u179_24, u179_26, u179_28, u179_31, u179_34, u179_35, u179_38, u179_39, hW, bz_t, bz_f, nn_eq0, nn_eq, eq_self, not_true_eq_false, not_false_eq_true]
theorem mtc_3 {B : Nat → Nat} {a b c p : Nat} : mtc B [a, b, c] p = (decide (B (p + 0) = a) && decide (B (p + 0 + 1) = b) && decide (B (p + 0 + 2) = c)) := by
  simp only [mtc, Bool.and_true, Nat.add_zero, Nat.add_assoc, Nat.reduceAdd, Bool.and_assoc]
theorem mtc_7 {B : Nat → Nat} {a b c d e f g p : Nat} : mtc B [a, b, c, d, e, f, g] p = ((decide (B (p + 0) = a) && decide (B (p + 0 + 1) = b) && decide (B (p + 0 + 2) = c)) && (decide (B (p + 3) = d) && decide (B (p + 3 + 1) = e) && decide (B (p + 3 + 2) = f)) && (decide (B (p + 4) = e) && decide (B (p + 4 + 1) = f) && decide (B (p + 4 + 2) = g))) := by
  simp only [mtc, Bool.and_true, Nat.add_zero, Nat.add_assoc, Nat.reduceAdd]
  cases decide (B p = a) <;> cases decide (B (p + 1) = b) <;> cases decide (B (p + 2) = c) <;> cases decide (B (p + 3) = d) <;> cases decide (B (p + 4) = e) <;> cases decide (B (p + 5) = f) <;> cases decide (B (p + 6) = g) <;> rfl
/-- the seven letters of a scholar: three looks -/
theorem TS.kind {w : Wd} {n : Nat} {B : Nat → Nat} (hE : Env w n B) {t : Tk} {fa : Int32} {G : Gs} {W : Wd} (h : TS w t fa G W) (ht : tko n t) : CALL 181 [.ref 44] W = some ([.int (if kdH B t < 7 then nI (kdH B t) else -1)], W) := by
  have k0 := h.six hE ht (a := 119) (b := 114) (c := 105) (d := 116) (e := 101) (f := 114) (by omega) (by omega) (by omega) (by omega) (by omega) (by omega)
  have k1 := h.four hE ht (a := 112) (b := 111) (c := 101) (d := 116) (by omega) (by omega) (by omega) (by omega)
  have k3 := h.six hE ht (a := 108) (b := 97) (c := 119) (d := 121) (e := 101) (f := 114) (by omega) (by omega) (by omega) (by omega) (by omega) (by omega)
  have k4 := h.six hE ht (a := 99) (b := 101) (c := 110) (d := 115) (e := 111) (f := 114) (by omega) (by omega) (by omega) (by omega) (by omega) (by omega)
  have k5 := h.five hE ht (a := 99) (b := 104) (c := 105) (d := 108) (e := 100) (by omega) (by omega) (by omega) (by omega) (by omega)
  have k6 := h.five hE ht (a := 119) (b := 105) (c := 100) (d := 111) (e := 119) (by omega) (by omega) (by omega) (by omega) (by omega)
  have kW := h.isWord (L := 7) ht hE.2.2.1 (by omega)
  have k2 : RUN 181 38 [some (.ref 44)] [] [] W = if isN B [115, 99, 104, 111, 108, 97, 114] t = true then some ([.int (nI 2)], W) else RUN 181 91 [some (.ref 44)] [] [] W := by
    by_cases hw : t.1 = 1 ∧ t.2.2.1 = t.2.1 + 7
    · rw [wd_ye hw] at kW
      have ht2 := ht.2.1
      have h1 := h.has3 hE (i := 0) (a := 115) (b := 99) (c := 104) (by omega) (by omega) (by omega) (by omega)
      have h2 := h.has3 hE (i := 3) (a := 111) (b := 108) (c := 97) (by omega) (by omega) (by omega) (by omega)
      have h3 := h.has3 hE (i := 4) (a := 108) (b := 97) (c := 114) (by omega) (by omega) (by omega) (by omega)
      rw [isN_ye (s := [115, 99, 104, 111, 108, 97, 114]) hw, mtc_7]
      generalize (decide (B (t.2.1 + 0) = 115) && decide (B (t.2.1 + 0 + 1) = 99) && decide (B (t.2.1 + 0 + 2) = 104)) = d1 at h1 ⊢
      generalize (decide (B (t.2.1 + 3) = 111) && decide (B (t.2.1 + 3 + 1) = 108) && decide (B (t.2.1 + 3 + 2) = 97)) = d2 at h2 ⊢
      generalize (decide (B (t.2.1 + 4) = 108) && decide (B (t.2.1 + 4 + 1) = 97) && decide (B (t.2.1 + 4 + 2) = 114)) = d3 at h3 ⊢
      cases d1 <;> cases d2 <;> cases d3 <;> simp (disch := first | omega | decide | exact nI0_01 | exact nI1_01 | exact bz_01 _) only [Option.bind_some, List.cons_append, List.nil_append, Nat.reduceAdd, Nat.reduceMul, Nat.reduceLeDiff, Nat.reduceEqDiff, ↓reduceIte, u181_38, u181_39, u181_41, u181_44, u181_47, u181_48, u181_49, u181_51, u181_53, u181_55, u181_58, u181_61, u181_62, u181_63, u181_65, u181_67, u181_69, u181_72, u181_75, u181_76, u181_77, u181_79, u181_81, u181_83, u181_86, u181_89, u181_90, kW, h1, h2, h3, bz_t, bz_f, nn_eq0, nn_eq, eq_self, not_true_eq_false, not_false_eq_true, Bool.and_true, Bool.and_false, Bool.true_and, Bool.false_and, Bool.false_eq_true, if_true, if_false]
    · rw [wd_no hw] at kW
      rw [isN_no (s := [115, 99, 104, 111, 108, 97, 114]) hw]
      simp (disch := first | omega | decide | exact nI0_01 | exact nI1_01 | exact bz_01 _) only [Option.bind_some, List.cons_append, List.nil_append, Nat.reduceAdd, Nat.reduceMul, Nat.reduceLeDiff, Nat.reduceEqDiff, ↓reduceIte, u181_38, u181_39, u181_41, u181_44, u181_47, u181_48, u181_49, u181_51, u181_53, u181_55, u181_58, u181_61, u181_62, u181_63, u181_65, u181_67, u181_69, u181_72, u181_75, u181_76, u181_77, u181_79, u181_81, u181_83, u181_86, u181_89, u181_90, kW, bz_t, bz_f, nn_eq0, nn_eq, eq_self, not_true_eq_false, not_false_eq_true, Bool.false_eq_true, if_false]
  unfold kdH
  cases q0 : isN B [119, 114, 105, 116, 101, 114] t with
  | true =>
    rw [q0] at k0
    simp (disch := first | omega | decide | exact nI0_01 | exact nI1_01 | exact bz_01 _) only [Option.bind_some, List.cons_append, List.nil_append, Nat.reduceAdd, Nat.reduceMul, Nat.reduceLeDiff, Nat.reduceEqDiff, ↓reduceIte, u181_0, u181_1, u181_3, u181_5, u181_7, u181_9, u181_11, u181_13, u181_16, u181_19, u181_20, u181_21, u181_22, u181_24, u181_26, u181_28, u181_30, u181_33, u181_36, u181_37, n181, k0, bz_t, bz_f, nn_eq0, nn_eq, eq_self, not_true_eq_false, not_false_eq_true, if_true]
    rfl
  | false =>
    rw [q0] at k0
    cases q1 : isN B [112, 111, 101, 116] t with
    | true =>
      rw [q1] at k1
      simp (disch := first | omega | decide | exact nI0_01 | exact nI1_01 | exact bz_01 _) only [Option.bind_some, List.cons_append, List.nil_append, Nat.reduceAdd, Nat.reduceMul, Nat.reduceLeDiff, Nat.reduceEqDiff, ↓reduceIte, u181_0, u181_1, u181_3, u181_5, u181_7, u181_9, u181_11, u181_13, u181_16, u181_19, u181_20, u181_21, u181_22, u181_24, u181_26, u181_28, u181_30, u181_33, u181_36, u181_37, n181, k0, k1, bz_t, bz_f, nn_eq0, nn_eq, eq_self, not_true_eq_false, not_false_eq_true, Bool.false_eq_true, if_true, if_false]
      rfl
    | false =>
      rw [q1] at k1
      simp (disch := first | omega | decide | exact nI0_01 | exact nI1_01 | exact bz_01 _) only [Option.bind_some, List.cons_append, List.nil_append, Nat.reduceAdd, Nat.reduceMul, Nat.reduceLeDiff, Nat.reduceEqDiff, ↓reduceIte, u181_0, u181_1, u181_3, u181_5, u181_7, u181_9, u181_11, u181_13, u181_16, u181_19, u181_20, u181_21, u181_22, u181_24, u181_26, u181_28, u181_30, u181_33, u181_36, u181_37, n181, k0, k1, bz_t, bz_f, nn_eq0, nn_eq, eq_self, not_true_eq_false, not_false_eq_true, Bool.false_eq_true, if_true, if_false]
      rw [k2]
      cases q2 : isN B [115, 99, 104, 111, 108, 97, 114] t with
      | true =>
        simp (disch := first | omega | decide | exact nI0_01 | exact nI1_01 | exact bz_01 _) only [Option.bind_some, List.cons_append, List.nil_append, Nat.reduceAdd, Nat.reduceMul, Nat.reduceLeDiff, Nat.reduceEqDiff, ↓reduceIte, Bool.false_eq_true, if_true, if_false]
        rfl
      | false =>
        cases q3 : isN B [108, 97, 119, 121, 101, 114] t with
        | true =>
          rw [q3] at k3
          simp (disch := first | omega | decide | exact nI0_01 | exact nI1_01 | exact bz_01 _) only [Option.bind_some, List.cons_append, List.nil_append, Nat.reduceAdd, Nat.reduceMul, Nat.reduceLeDiff, Nat.reduceEqDiff, ↓reduceIte, u181_91, u181_92, u181_94, u181_96, u181_98, u181_100, u181_102, u181_104, u181_107, u181_110, u181_111, u181_112, u181_113, u181_115, u181_117, u181_119, u181_121, u181_123, u181_125, u181_128, u181_131, u181_132, u181_133, u181_134, u181_136, u181_138, u181_140, u181_142, u181_144, u181_147, u181_150, u181_151, u181_152, u181_153, u181_155, u181_157, u181_159, u181_161, u181_163, u181_166, u181_169, u181_171, u181_174, u181_175, k3, bz_t, bz_f, nn_eq0, nn_eq, eq_self, not_true_eq_false, not_false_eq_true, Bool.false_eq_true, if_true, if_false]
          rfl
        | false =>
          rw [q3] at k3
          cases q4 : isN B [99, 101, 110, 115, 111, 114] t with
          | true =>
            rw [q4] at k4
            simp (disch := first | omega | decide | exact nI0_01 | exact nI1_01 | exact bz_01 _) only [Option.bind_some, List.cons_append, List.nil_append, Nat.reduceAdd, Nat.reduceMul, Nat.reduceLeDiff, Nat.reduceEqDiff, ↓reduceIte, u181_91, u181_92, u181_94, u181_96, u181_98, u181_100, u181_102, u181_104, u181_107, u181_110, u181_111, u181_112, u181_113, u181_115, u181_117, u181_119, u181_121, u181_123, u181_125, u181_128, u181_131, u181_132, u181_133, u181_134, u181_136, u181_138, u181_140, u181_142, u181_144, u181_147, u181_150, u181_151, u181_152, u181_153, u181_155, u181_157, u181_159, u181_161, u181_163, u181_166, u181_169, u181_171, u181_174, u181_175, k3, k4, bz_t, bz_f, nn_eq0, nn_eq, eq_self, not_true_eq_false, not_false_eq_true, Bool.false_eq_true, if_true, if_false]
            rfl
          | false =>
            rw [q4] at k4
            cases q5 : isN B [99, 104, 105, 108, 100] t with
            | true =>
              rw [q5] at k5
              simp (disch := first | omega | decide | exact nI0_01 | exact nI1_01 | exact bz_01 _) only [Option.bind_some, List.cons_append, List.nil_append, Nat.reduceAdd, Nat.reduceMul, Nat.reduceLeDiff, Nat.reduceEqDiff, ↓reduceIte, u181_91, u181_92, u181_94, u181_96, u181_98, u181_100, u181_102, u181_104, u181_107, u181_110, u181_111, u181_112, u181_113, u181_115, u181_117, u181_119, u181_121, u181_123, u181_125, u181_128, u181_131, u181_132, u181_133, u181_134, u181_136, u181_138, u181_140, u181_142, u181_144, u181_147, u181_150, u181_151, u181_152, u181_153, u181_155, u181_157, u181_159, u181_161, u181_163, u181_166, u181_169, u181_171, u181_174, u181_175, k3, k4, k5, bz_t, bz_f, nn_eq0, nn_eq, eq_self, not_true_eq_false, not_false_eq_true, Bool.false_eq_true, if_true, if_false]
              rfl
            | false =>
              rw [q5] at k5
              cases q6 : isN B [119, 105, 100, 111, 119] t with
              | true =>
                rw [q6] at k6
                simp (disch := first | omega | decide | exact nI0_01 | exact nI1_01 | exact bz_01 _) only [Option.bind_some, List.cons_append, List.nil_append, Nat.reduceAdd, Nat.reduceMul, Nat.reduceLeDiff, Nat.reduceEqDiff, ↓reduceIte, u181_91, u181_92, u181_94, u181_96, u181_98, u181_100, u181_102, u181_104, u181_107, u181_110, u181_111, u181_112, u181_113, u181_115, u181_117, u181_119, u181_121, u181_123, u181_125, u181_128, u181_131, u181_132, u181_133, u181_134, u181_136, u181_138, u181_140, u181_142, u181_144, u181_147, u181_150, u181_151, u181_152, u181_153, u181_155, u181_157, u181_159, u181_161, u181_163, u181_166, u181_169, u181_171, u181_174, u181_175, k3, k4, k5, k6, bz_t, bz_f, nn_eq0, nn_eq, eq_self, not_true_eq_false, not_false_eq_true, Bool.false_eq_true, if_true, if_false]
                rfl
              | false =>
                rw [q6] at k6
                simp (disch := first | omega | decide | exact nI0_01 | exact nI1_01 | exact bz_01 _) only [Option.bind_some, List.cons_append, List.nil_append, Nat.reduceAdd, Nat.reduceMul, Nat.reduceLeDiff, Nat.reduceEqDiff, ↓reduceIte, u181_91, u181_92, u181_94, u181_96, u181_98, u181_100, u181_102, u181_104, u181_107, u181_110, u181_111, u181_112, u181_113, u181_115, u181_117, u181_119, u181_121, u181_123, u181_125, u181_128, u181_131, u181_132, u181_133, u181_134, u181_136, u181_138, u181_140, u181_142, u181_144, u181_147, u181_150, u181_151, u181_152, u181_153, u181_155, u181_157, u181_159, u181_161, u181_163, u181_166, u181_169, u181_171, u181_174, u181_175, k3, k4, k5, k6, bz_t, bz_f, nn_eq0, nn_eq, eq_self, not_true_eq_false, not_false_eq_true, Bool.false_eq_true, if_true, if_false]
                rfl
