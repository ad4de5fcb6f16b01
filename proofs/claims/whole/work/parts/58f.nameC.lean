/-! THE COMPONENT'S NAMES AND NUMBERS -/
def TT (w : Wd) (t : Tk) (G : Gs) (W : Wd) : Prop := ∃ vm, (t.1 = 2 → vm = t.2.2.2 ∧ vm ≤ 10000) ∧ W = putR (TC w t.1 t.2.1 t.2.2.1 vm) 11 G
theorem TT.next {w : Wd} {n : Nat} {B : Nat → Nat} (hE : EnvC w n B) {t : Tk} {G : Gs} {W : Wd} (h : TT w t G W) (ht : tko n t) : ∃ W', CALL 41 [.ref 40] W = some ([], W') ∧ TT w (nxt n B t) G W' := by
  obtain ⟨vm, h1, rfl⟩ := h
  obtain ⟨vm', h2, h3⟩ := c_nxTok hE (k := t.1) (fr := t.2.1) (v := vm) (G := G) ht.2.1
  exact ⟨_, h3, vm', h2, rfl⟩
theorem TT.num {w : Wd} {t : Tk} {G : Gs} {W : Wd} (h : TT w t G W) (hk : t.1 ≤ 4) {hi : Nat} (hh : hi ≤ 9999) : CALL 39 [.ref 40, .int (nI hi)] W = some ([.int (bz (nOk t hi))], W) := by
  obtain ⟨vm, h1, rfl⟩ := h
  by_cases q1 : t.1 = 2
  · obtain ⟨e1, e2⟩ := h1 q1
    by_cases q2 : t.2.2.2 ≤ hi
    · have hn : nOk t hi = true := by unfold nOk; simp [q1, q2]
      have q3 : ¬ hi < t.2.2.2 := by omega
      rw [e1] at e2 ⊢
      simp (disch := first | omega | decide | assumption | exact nI0_01 | exact nI1_01 | exact bz_01 _ | exact rf1 | exact rf11 | exact rf21) only [Option.bind_some, List.cons_append, List.nil_append, Nat.reduceAdd, Nat.reduceMul, Nat.reduceLeDiff, Nat.reduceEqDiff, ↓reduceIte, n39, u39_0, u39_1, u39_4, u39_5, u39_8, u39_9, u39_12, u39_13, u39_16, u39_17, u39_20, u39_21, TC_2, TC_5, q1, nn_lt, q3, if_false, hn, bz_t, bz_f, nn_eq0, nn_eq, eq_self, not_true_eq_false, not_false_eq_true]
    · have hn : nOk t hi = false := by unfold nOk; simp [q2]
      have q3 : hi < t.2.2.2 := by omega
      rw [e1] at e2 ⊢
      simp (disch := first | omega | decide | assumption | exact nI0_01 | exact nI1_01 | exact bz_01 _ | exact rf1 | exact rf11 | exact rf21) only [Option.bind_some, List.cons_append, List.nil_append, Nat.reduceAdd, Nat.reduceMul, Nat.reduceLeDiff, Nat.reduceEqDiff, ↓reduceIte, n39, u39_0, u39_1, u39_4, u39_5, u39_8, u39_9, u39_12, u39_13, u39_16, u39_17, u39_20, u39_21, TC_2, TC_5, q1, nn_lt, q3, if_true, hn, bz_t, bz_f, nn_eq0, nn_eq, eq_self, not_true_eq_false, not_false_eq_true]
  · have hn : nOk t hi = false := by unfold nOk; simp [q1]
    simp (disch := first | omega | decide | assumption | exact nI0_01 | exact nI1_01 | exact bz_01 _ | exact rf1 | exact rf11 | exact rf21) only [Option.bind_some, List.cons_append, List.nil_append, Nat.reduceAdd, Nat.reduceMul, Nat.reduceLeDiff, Nat.reduceEqDiff, ↓reduceIte, n39, u39_0, u39_1, u39_4, u39_5, u39_8, u39_9, u39_12, u39_13, u39_16, u39_17, u39_20, u39_21, TC_2, q1, hn, bz_t, bz_f, nn_eq0, nn_eq, eq_self, not_true_eq_false, not_false_eq_true]
theorem TT.take {w : Wd} {n : Nat} {B : Nat → Nat} (hE : EnvC w n B) {t : Tk} {G : Gs} {W : Wd} (h : TT w t G W) (ht : tko n t) {hi : Nat} (hn : nOk t hi = true) : ∃ W', CALL 40 [.ref 40] W = some ([.int (nI t.2.2.2)], W') ∧ TT w (nxt n B t) G W' := by
  have h2 := (nOk_le hn).1
  obtain ⟨W', n1, n2⟩ := h.next hE ht
  obtain ⟨vm, h1, rfl⟩ := h
  refine ⟨W', ?_, n2⟩
  have e := (h1 h2).1
  subst e
  simp (disch := first | omega | decide | assumption | exact nI0_01 | exact nI1_01 | exact bz_01 _ | exact rf1 | exact rf11 | exact rf21) only [Option.bind_some, List.cons_append, List.nil_append, Nat.reduceAdd, Nat.reduceMul, Nat.reduceLeDiff, Nat.reduceEqDiff, ↓reduceIte, n40, u40_0, u40_1, u40_4, u40_5, u40_6, u40_9, u40_10, TC_5, n1]
theorem sch_at {i k : Nat} : sch i k = nI ((stx i).getD k 0) := rfl
theorem stx_lt : ∀ i, i < 12 → ∀ k, k < 8 → (stx i).getD k 0 < 256 := by decide
theorem slen_le : ∀ i, i < 12 → slen i ≤ 7 := by decide
theorem drop_at {l : List Nat} {k : Nat} (h : k < l.length) : l.drop k = l.getD k 0 :: l.drop (k + 1) := by
  rw [List.drop_eq_getElem_cons h]
  congr 1
  simp [h]
theorem isN_loop {w : Wd} {n : Nat} {B : Nat → Nat} (hE : EnvC w n B) {t : Tk} {G : Gs} {vm o : Nat} (ho : 60 ≤ o ∧ o < 72) (hp : t.2.1 + slen (o - 60) ≤ n) : ∀ (m k : Nat), m + k = slen (o - 60) → RUN 38 28 [some (.ref 40), some (.ref o), some (.int (nI k))] [] [] (putR (TC w t.1 t.2.1 t.2.2.1 vm) 11 G) = some ([.int (bz (mtc B ((stx (o - 60)).drop k) (t.2.1 + k)))], putR (TC w t.1 t.2.1 t.2.2.1 vm) 11 G) := by
  obtain ⟨h1, h2, h3, h4⟩ := hE
  have hl := slen_le (o - 60) (by omega)
  intro m
  induction m with
  | zero =>
    intro k hm
    have hk : slen (o - 60) ≤ k := by omega
    have e : (stx (o - 60)).drop k = [] := List.drop_eq_nil_of_le hk
    rw [u38_28, e]
    simp (disch := first | omega | decide | assumption | exact nI0_01 | exact nI1_01 | exact bz_01 _ | exact rf1 | exact rf11 | exact rf21) only [Option.bind_some, List.cons_append, List.nil_append, Nat.reduceAdd, Nat.reduceMul, Nat.reduceLeDiff, Nat.reduceEqDiff, ↓reduceIte, u38_29, u38_30, u38_33, u38_36, u38_37, u38_40, u38_41, u38_42, u38_44, u38_47, u38_48, u38_51, u38_52, u38_55, u38_56, u38_57, u38_58, u38_59, u38_60, u38_63, u38_66, u38_67, u38_68, u38_71, u38_74, u38_75, nn_le, hk, if_true]
    rfl
  | succ m ih =>
    intro k hm
    have hk : k < slen (o - 60) := by omega
    have hk' : ¬ slen (o - 60) ≤ k := by omega
    have h120 : ¬ 120 ≤ t.2.1 + k := by omega
    have hb := h2 (t.2.1 + k) (by omega)
    have hB := h4 (t.2.1 + k) (by omega)
    have hs := stx_lt (o - 60) (by omega) k (by omega)
    have ed : (stx (o - 60)).drop k = (stx (o - 60)).getD k 0 :: (stx (o - 60)).drop (k + 1) := drop_at hk
    rw [u38_28, ed, mtc]
    by_cases q : B (t.2.1 + k) = (stx (o - 60)).getD k 0
    · have i2 := ih (k + 1) (by omega)
      rw [show t.2.1 + (k + 1) = t.2.1 + k + 1 by omega] at i2
      rw [decide_eq_true q, Bool.true_and, ← i2]
      simp (disch := first | omega | decide | assumption | exact nI0_01 | exact nI1_01 | exact bz_01 _ | exact rf1 | exact rf11 | exact rf21) only [Option.bind_some, List.cons_append, List.nil_append, Nat.reduceAdd, Nat.reduceMul, Nat.reduceLeDiff, Nat.reduceEqDiff, ↓reduceIte, u38_29, u38_30, u38_33, u38_36, u38_37, u38_40, u38_41, u38_42, u38_44, u38_47, u38_48, u38_51, u38_52, u38_55, u38_56, u38_57, u38_58, u38_59, u38_60, u38_63, u38_66, u38_67, u38_68, u38_71, u38_74, u38_75, nn_le, hk', if_false, TC_3, nI_add, h120, TC_41, hb, sch_at, q, if_true]
    · rw [decide_eq_false q, Bool.false_and, bz_f]
      simp (disch := first | omega | decide | assumption | exact nI0_01 | exact nI1_01 | exact bz_01 _ | exact rf1 | exact rf11 | exact rf21) only [Option.bind_some, List.cons_append, List.nil_append, Nat.reduceAdd, Nat.reduceMul, Nat.reduceLeDiff, Nat.reduceEqDiff, ↓reduceIte, u38_29, u38_30, u38_33, u38_36, u38_37, u38_40, u38_41, u38_42, u38_44, u38_47, u38_48, u38_51, u38_52, u38_55, u38_56, u38_57, u38_58, u38_59, u38_60, u38_63, u38_66, u38_67, u38_68, u38_71, u38_74, u38_75, nn_le, hk', if_false, TC_3, nI_add, h120, TC_41, hb, sch_at, nn_eq, q, if_false]
theorem TT.name {w : Wd} {n : Nat} {B : Nat → Nat} (hE : EnvC w n B) {t : Tk} {G : Gs} {W : Wd} (h : TT w t G W) (ht : tko n t) {o : Nat} (ho : 60 ≤ o ∧ o < 72) : CALL 38 [.ref 40, .ref o] W = some ([.int (bz (isN B (stx (o - 60)) t))], W) := by
  obtain ⟨vm, h1, rfl⟩ := h
  obtain ⟨t1, t2, t3⟩ := ht
  have hn := hE.2.2.1
  have hl := slen_le (o - 60) (by omega)
  by_cases q1 : t.1 = 1
  · by_cases q2 : t.2.2.1 = t.2.1 + slen (o - 60)
    · have q3 : t.2.2.1 - t.2.1 = slen (o - 60) := by omega
      have hL := isN_loop hE (t := t) (G := G) (vm := vm) ho (by omega) (slen (o - 60)) 0 rfl
      rw [isN_ye ⟨q1, q2⟩]
      simp only [List.drop_zero, Nat.add_zero] at hL
      rw [← hL]
      simp (disch := first | omega | decide | assumption | exact nI0_01 | exact nI1_01 | exact bz_01 _ | exact rf1 | exact rf11 | exact rf21) only [Option.bind_some, List.cons_append, List.nil_append, Nat.reduceAdd, Nat.reduceMul, Nat.reduceLeDiff, Nat.reduceEqDiff, ↓reduceIte, u38_0, u38_1, u38_4, u38_5, u38_8, u38_9, u38_12, u38_13, u38_16, u38_17, u38_18, u38_21, u38_24, u38_25, u38_26, u38_27, n38, TC_2, TC_3, TC_4, q1, bz_t, bz_f, nn_eq0, nn_eq, eq_self, not_true_eq_false, not_false_eq_true, nn_sub, q3, if_true]
    · have q3 : ¬ t.2.2.1 - t.2.1 = slen (o - 60) := by omega
      rw [isN_no (fun z => q2 z.2)]
      simp (disch := first | omega | decide | assumption | exact nI0_01 | exact nI1_01 | exact bz_01 _ | exact rf1 | exact rf11 | exact rf21) only [Option.bind_some, List.cons_append, List.nil_append, Nat.reduceAdd, Nat.reduceMul, Nat.reduceLeDiff, Nat.reduceEqDiff, ↓reduceIte, u38_0, u38_1, u38_4, u38_5, u38_8, u38_9, u38_12, u38_13, u38_16, u38_17, u38_18, u38_21, u38_24, u38_25, u38_26, u38_27, n38, TC_2, TC_3, TC_4, q1, bz_t, bz_f, nn_eq0, nn_eq, eq_self, not_true_eq_false, not_false_eq_true, nn_sub, q3, if_false]
  · rw [isN_no (fun z => q1 z.1)]
    simp (disch := first | omega | decide | assumption | exact nI0_01 | exact nI1_01 | exact bz_01 _ | exact rf1 | exact rf11 | exact rf21) only [Option.bind_some, List.cons_append, List.nil_append, Nat.reduceAdd, Nat.reduceMul, Nat.reduceLeDiff, Nat.reduceEqDiff, ↓reduceIte, u38_0, u38_1, u38_4, u38_5, u38_8, u38_9, u38_12, u38_13, u38_16, u38_17, u38_18, u38_21, u38_24, u38_25, u38_26, u38_27, n38, TC_2, q1, bz_t, bz_f, nn_eq0, nn_eq, eq_self, not_true_eq_false, not_false_eq_true, if_true]
/-- how an item ends -/
def rsC (w : Wd) (n : Nat) (x : Pr) (r : Int32) (W : Wd) : Prop := match x with
  | .inl p => r = nI 0 ∧ p ≤ n ∧ ∃ (t : Tk) (G : Gs), TT w t G W ∧ t.2.1 = p
  | .inr (G, t) => r = nI 1 ∧ TT w t G W
theorem rsC_01 {w : Wd} {n : Nat} {x : Pr} {r : Int32} {W : Wd} (h : rsC w n x r W) : r = nI 0 ∨ r = nI 1 := by
  unfold rsC at h
  split at h
  · exact Or.inl h.1
  · exact Or.inr h.1
theorem rsC_f {w : Wd} {n : Nat} {t : Tk} {G : Gs} {W : Wd} (h : TT w t G W) (ht : tko n t) : rsC w n (.inl t.2.1) (nI 0) W := ⟨rfl, Nat.le_trans ht.1 ht.2.1, t, G, h, rfl⟩
theorem TT.is {w : Wd} {t : Tk} {G : Gs} {W : Wd} (h : TT w t G W) : ∃ X, W = putR X 11 G ∧ ∀ G', TT w t G' (putR X 11 G') := by
  obtain ⟨vm, h1, h2⟩ := h
  exact ⟨_, h2, fun G' => ⟨vm, h1, rfl⟩⟩
theorem T_s1 {w : Wd} {G : Gs} {k v : Nat} (h : k < 10) : st2 (putR w 11 G) 12 k (nI v) = putR w 11 (up G 1 k v) := R_s1 h
