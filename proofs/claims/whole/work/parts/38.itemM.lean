/-! NAMES AND ITEMS -/
def mtc (B : Nat → Nat) : List Nat → Nat → Bool
  | [], _ => true
  | c :: s, p => decide (B p = c) && mtc B s (p + 1)
def isN (B : Nat → Nat) (s : List Nat) (t : Tk) : Bool := decide (t.1 = 1) && decide (t.2.2.1 = t.2.1 + s.length) && mtc B s t.2.1
theorem mtc_inj (B : Nat → Nat) : ∀ (s s' : List Nat) (p : Nat), s.length = s'.length → mtc B s p = true → mtc B s' p = true → s = s'
  | [], [], _, _, _, _ => rfl
  | [], _ :: _, _, h, _, _ => by simp at h
  | _ :: _, [], _, h, _, _ => by simp at h
  | c :: s, c' :: s', p, h, h1, h2 => by
    simp only [mtc, Bool.and_eq_true, decide_eq_true_eq] at h1 h2
    rw [← h1.1, ← h2.1, mtc_inj B s s' (p + 1) (by simpa using h) h1.2 h2.2]
theorem isN_inj {B : Nat → Nat} {s s' : List Nat} {t : Tk} (h : isN B s t = true) (h' : isN B s' t = true) : s = s' := by
  simp only [isN, Bool.and_eq_true, decide_eq_true_eq] at h h'
  exact mtc_inj B s s' _ (by omega) h.2 h'.2
abbrev Pr : Type := Nat ⊕ (Gs × Tk)
def nOk (t : Tk) (hi : Nat) : Bool := decide (t.1 = 2) && decide (t.2.2.2 ≤ hi)
def nxt (n : Nat) (B : Nat → Nat) (t : Tk) : Tk := tok n B t.2.2.1
def prh (n : Nat) (B : Nat → Nat) (c : Bool) (t : Tk) (hi : Nat) (F : Nat → Gs) (G : Gs) : Pr := if c = true then (if nOk (nxt n B t) hi = true then .inr (F (nxt n B t).2.2.2, nxt n B (nxt n B t)) else .inl (nxt n B t).2.1) else .inr (G, t)
def sb (x : Pr) (f : Gs → Tk → Pr) : Pr := match x with | .inl p => .inl p | .inr (G, t) => f G t
def fishS (n : Nat) (B : Nat → Nat) (G : Gs) (t : Tk) : Pr := if nOk (nxt n B t) 5 = true then sb (prh n B true (nxt n B t) 999 (fun v => up G 2 (nxt n B t).2.2.2 v) G) (fun G' t' => prh n B (isN B [99, 97, 116, 99, 104] t') t' 20 (fun v => up G' 3 (nxt n B t).2.2.2 v) G') else .inl (nxt n B t).2.1
def jarS (n : Nat) (B : Nat → Nat) (G : Gs) (t : Tk) : Pr := if nOk (nxt n B t) 9 = true then prh n B true (nxt n B t) 999 (fun v => up G 1 (nxt n B t).2.2.2 v) G else .inl (nxt n B t).2.1
def wrS (n : Nat) (B : Nat → Nat) (kd : Nat) (G : Gs) (t : Tk) : Pr := if G 0 0 = 8 then .inl t.2.1 else sb (prh n B (isN B [119, 111, 114, 100] (nxt n B t)) (nxt n B t) 9999 (fun v => up (comes G kd 0 30) 5 (G 0 0) v) (comes G kd 0 30)) (fun G' t' => prh n B (isN B [102, 97, 116] t') t' 99 (fun v => up G' 7 (G 0 0) v) G')
def kdH (B : Nat → Nat) (t : Tk) : Nat := if isN B [119, 114, 105, 116, 101, 114] t = true then 0 else if isN B [112, 111, 101, 116] t = true then 1 else if isN B [115, 99, 104, 111, 108, 97, 114] t = true then 2 else if isN B [108, 97, 119, 121, 101, 114] t = true then 3 else if isN B [99, 101, 110, 115, 111, 114] t = true then 4 else if isN B [99, 104, 105, 108, 100] t = true then 5 else if isN B [119, 105, 100, 111, 119] t = true then 6 else 7
def itS (n : Nat) (B : Nat → Nat) (G : Gs) (t : Tk) : Pr := if kdH B t < 7 then wrS n B (kdH B t) G t else if isN B [102, 105, 115, 104] t = true then fishS n B G t else if isN B [106, 97, 114] t = true then jarS n B G t else .inl t.2.1
/-! THE REFERENCE -/
def TS (w : Wd) (t : Tk) (fa : Int32) (G : Gs) (W : Wd) : Prop := ∃ vm, vok t.2.2.2 vm ∧ W = putS (TW w t.1 t.2.1 t.2.2.1 vm fa) G
def tko (n : Nat) (t : Tk) : Prop := t.2.1 ≤ t.2.2.1 ∧ t.2.2.1 ≤ n ∧ t.1 ≤ 4 ∧ (t.1 ≠ 0 → t.2.1 < t.2.2.1)
theorem tko_n {n : Nat} {B : Nat → Nat} {t : Tk} (h : tko n t) : tko n (nxt n B t) := by
  have := tok_in n B h.2.1
  exact ⟨this.2.1, this.2.2.1, this.2.2.2.2.1, this.2.2.2.1⟩
theorem TS.next {w : Wd} {n : Nat} {B : Nat → Nat} (hE : Env w n B) {t : Tk} {fa : Int32} {G : Gs} {W : Wd} (h : TS w t fa G W) (ht : tko n t) : ∃ W', CALL 173 [.ref 44] W = some ([], W') ∧ TS w (nxt n B t) fa G W' := by
  obtain ⟨vm, h1, rfl⟩ := h
  obtain ⟨vm', h2, h3⟩ := x_nextToken hE (k := t.1) (fr := t.2.1) (v := vm) (fa := fa) (G := G) ht.2.1
  exact ⟨_, h3, vm', h2, rfl⟩
theorem TS.fails {w : Wd} {t : Tk} {fa : Int32} {G : Gs} {W : Wd} (h : TS w t fa G W) : ∃ W', CALL 176 [.ref 44] W = some ([.int (nI 0)], W') ∧ TS w t (nI t.2.1) G W' := by
  obtain ⟨vm, h1, rfl⟩ := h
  refine ⟨_, ?_, vm, h1, rfl⟩
  simp (disch := first | omega | decide | exact nI0_01 | exact nI1_01 | exact bz_01 _) only [Option.bind_some, List.cons_append, List.nil_append, Nat.reduceAdd, Nat.reduceMul, Nat.reduceLeDiff, Nat.reduceEqDiff, ↓reduceIte, n176, u176_0, u176_1, u176_2, u176_5, u176_8, u176_9, TW_12, TW_s15]
theorem vok_le {v vm hi : Nat} (h : vok v vm) (hh : hi ≤ 9999) : (v ≤ hi ↔ vm ≤ hi) ∧ (v ≤ hi → v = vm) ∧ vm ≤ 99999 := by
  rcases h with q | q <;> omega
theorem TS.num {w : Wd} {t : Tk} {fa : Int32} {G : Gs} {W : Wd} (h : TS w t fa G W) (hk : t.1 ≤ 4) {hi : Nat} (hh : hi ≤ 9999) : ∃ W', CALL 180 [.ref 44, .int (nI 0), .int (nI hi)] W = some ([.int (bz (nOk t hi))], W') ∧ (nOk t hi = true → TS w t fa G W' ∧ W'.1 44 14 = nI t.2.2.2) ∧ (nOk t hi = false → TS w t (nI t.2.1) G W') := by
  have h0 := h
  obtain ⟨vm, h1, rfl⟩ := h
  obtain ⟨W2, f1, f2⟩ := h0.fails
  have hv := vok_le h1 hh
  have e0 : (nI 0).toInt64 = 0 := rfl
  by_cases q1 : t.1 = 2
  · have q1' : nI t.1 = nI 2 := by rw [q1]
    by_cases q2 : t.2.2.2 ≤ hi
    · have hn : nOk t hi = true := by unfold nOk; simp [q1, q2]
      have ho : ok (nI vm) hi = true := by rw [ok_nI (by omega)]; exact decide_eq_true (hv.1.mp q2)
      refine ⟨_, ?_, fun _ => ⟨h0, by rw [TW_14, hv.2.1 q2]⟩, fun z => by rw [hn] at z; exact absurd z (by decide)⟩
      simp (disch := first | omega | decide | exact nI0_01 | exact nI1_01 | exact bz_01 _) only [Option.bind_some, List.cons_append, List.nil_append, Nat.reduceAdd, Nat.reduceMul, Nat.reduceLeDiff, Nat.reduceEqDiff, ↓reduceIte, n180, u180_0, u180_1, u180_4, u180_5, u180_8, u180_9, u180_12, u180_13, u180_14, u180_15, u180_16, u180_17, u180_20, u180_23, u180_24, u180_27, u180_30, u180_31, u180_34, u180_35, TW_11, TW_14, q1', e0, xin_v, ho, hn, bz_t, bz_f, nn_eq0, nn_eq, eq_self, not_true_eq_false, not_false_eq_true]
    · have hn : nOk t hi = false := by unfold nOk; simp [q2]
      have ho : ok (nI vm) hi = false := by rw [ok_nI (by omega)]; exact decide_eq_false (fun z => q2 (hv.1.mpr z))
      refine ⟨W2, ?_, fun z => by rw [hn] at z; exact absurd z (by decide), fun _ => f2⟩
      simp (disch := first | omega | decide | exact nI0_01 | exact nI1_01 | exact bz_01 _) only [Option.bind_some, List.cons_append, List.nil_append, Nat.reduceAdd, Nat.reduceMul, Nat.reduceLeDiff, Nat.reduceEqDiff, ↓reduceIte, n180, u180_0, u180_1, u180_4, u180_5, u180_8, u180_9, u180_12, u180_13, u180_14, u180_15, u180_16, u180_17, u180_20, u180_23, u180_24, u180_27, u180_30, u180_31, u180_34, u180_35, TW_11, TW_14, q1', e0, xin_v, ho, hn, bz_t, bz_f, nn_eq0, nn_eq, eq_self, not_true_eq_false, not_false_eq_true, f1]
  · have hn : nOk t hi = false := by unfold nOk; simp [q1]
    refine ⟨W2, ?_, fun z => by rw [hn] at z; exact absurd z (by decide), fun _ => f2⟩
    simp (disch := first | omega | decide | exact nI0_01 | exact nI1_01 | exact bz_01 _) only [Option.bind_some, List.cons_append, List.nil_append, Nat.reduceAdd, Nat.reduceMul, Nat.reduceLeDiff, Nat.reduceEqDiff, ↓reduceIte, n180, u180_0, u180_1, u180_4, u180_5, u180_8, u180_9, u180_12, u180_13, u180_14, u180_15, u180_16, u180_17, u180_20, u180_23, u180_24, u180_27, u180_30, u180_31, u180_34, u180_35, TW_11, q1, hn, bz_t, bz_f, nn_eq0, nn_eq, eq_self, not_true_eq_false, not_false_eq_true, f1]
/-- how an item ends -/
def rs (w : Wd) (x : Pr) (r : Int32) (W : Wd) : Prop := match x with
  | .inl p => r = nI 0 ∧ ∃ (t : Tk) (G : Gs), TS w t (nI p) G W
  | .inr (G, t) => r = nI 1 ∧ ∃ fa, TS w t fa G W
theorem TS.perhaps {w : Wd} {n : Nat} {B : Nat → Nat} (hE : Env w n B) {t : Tk} {fa : Int32} {G : Gs} {W : Wd} (h : TS w t fa G W) (ht : tko n t) {c : Bool} {p hi : Nat} {F : Nat → Gs} (hh : hi ≤ 9999) (hp : p < 75) (hF : ∀ (X : Wd) (v : Nat), st2 (putS X G) 45 p (nI v) = putS X (F v)) : ∃ r W', CALL 182 [.ref 44, .int (bz c), .int (nI p), .int (nI hi)] W = some ([.int r], W') ∧ rs w (prh n B c t hi F G) r W' := by
  cases c with
  | false =>
    refine ⟨nI 1, W, ?_, ?_⟩
    · simp (disch := first | omega | decide | exact nI0_01 | exact nI1_01 | exact bz_01 _) only [Option.bind_some, List.cons_append, List.nil_append, Nat.reduceAdd, Nat.reduceMul, Nat.reduceLeDiff, Nat.reduceEqDiff, ↓reduceIte, n182, u182_0, u182_1, u182_4, u182_5, u182_6, u182_7, u182_10, u182_11, u182_12, u182_13, u182_16, u182_19, u182_20, u182_21, u182_22, u182_25, u182_26, u182_27, u182_30, u182_31, u182_32, u182_35, u182_36, bz_t, bz_f, nn_eq0, nn_eq, eq_self, not_true_eq_false, not_false_eq_true]
    · exact ⟨rfl, fa, h⟩
  | true =>
    obtain ⟨W1, n1, n2⟩ := h.next hE ht
    have ht1 := tko_n (B := B) ht
    obtain ⟨W2, c1, c2, c3⟩ := n2.num ht1.2.2.1 hh
    unfold prh
    rw [if_pos rfl]
    cases q : nOk (nxt n B t) hi with
    | true =>
      rw [if_pos rfl]
      rw [q] at c1
      obtain ⟨d1, d2⟩ := c2 q
      obtain ⟨vm, d3, d4⟩ := d1
      have d5 : TS w (nxt n B t) fa (F (nxt n B t).2.2.2) (st2 W2 45 p (nI (nxt n B t).2.2.2)) := by
        refine ⟨vm, d3, ?_⟩
        rw [d4]
        exact hF _ _
      obtain ⟨W3, e1, e2⟩ := d5.next hE ht1
      refine ⟨nI 1, W3, ?_, rfl, fa, e2⟩
      simp (disch := first | omega | decide | exact nI0_01 | exact nI1_01 | exact bz_01 _) only [Option.bind_some, List.cons_append, List.nil_append, Nat.reduceAdd, Nat.reduceMul, Nat.reduceLeDiff, Nat.reduceEqDiff, ↓reduceIte, n182, u182_0, u182_1, u182_4, u182_5, u182_6, u182_7, u182_10, u182_11, u182_12, u182_13, u182_16, u182_19, u182_20, u182_21, u182_22, u182_25, u182_26, u182_27, u182_30, u182_31, u182_32, u182_35, u182_36, bz_t, bz_f, nn_eq0, nn_eq, eq_self, not_true_eq_false, not_false_eq_true, n1, c1, d2, e1]
    | false =>
      rw [if_neg (by decide)]
      rw [q] at c1
      refine ⟨nI 0, W2, ?_, rfl, nxt n B t, G, c3 q⟩
      simp (disch := first | omega | decide | exact nI0_01 | exact nI1_01 | exact bz_01 _) only [Option.bind_some, List.cons_append, List.nil_append, Nat.reduceAdd, Nat.reduceMul, Nat.reduceLeDiff, Nat.reduceEqDiff, ↓reduceIte, n182, u182_0, u182_1, u182_4, u182_5, u182_6, u182_7, u182_10, u182_11, u182_12, u182_13, u182_16, u182_19, u182_20, u182_21, u182_22, u182_25, u182_26, u182_27, u182_30, u182_31, u182_32, u182_35, u182_36, bz_t, bz_f, nn_eq0, nn_eq, eq_self, not_true_eq_false, not_false_eq_true, n1, c1]
/-! WORDS -/
theorem TS.isWord {w : Wd} {t : Tk} {fa : Int32} {G : Gs} {W : Wd} {n L : Nat} (h : TS w t fa G W) (ht : tko n t) (hn : n ≤ 120) (hL : L < 100) : CALL 175 [.ref 44, .int (nI L)] W = some ([.int (bz (decide (t.1 = 1) && decide (t.2.2.1 = t.2.1 + L)))], W) := by
  obtain ⟨vm, h1, rfl⟩ := h
  obtain ⟨t1, t2, t3⟩ := ht
  by_cases q1 : t.1 = 1
  · have q1' : nI t.1 = nI 1 := by rw [q1]
    by_cases q2 : t.2.2.1 = t.2.1 + L
    · have q3 : t.2.2.1 - t.2.1 = L := by omega
      simp (disch := first | omega | decide | exact nI0_01 | exact nI1_01 | exact bz_01 _) only [Option.bind_some, List.cons_append, List.nil_append, Nat.reduceAdd, Nat.reduceMul, Nat.reduceLeDiff, Nat.reduceEqDiff, ↓reduceIte, n175, u175_0, u175_1, u175_4, u175_5, u175_8, u175_9, u175_12, u175_13, u175_16, u175_17, u175_18, u175_21, u175_22, u175_25, u175_26, TW_11, TW_12, TW_13, q1', q1, q2, bz_t, bz_f, nn_eq0, nn_eq, eq_self, not_true_eq_false, not_false_eq_true, nn_sub, Nat.add_sub_cancel_left, decide_true, Bool.and_self]
    · have q3 : ¬ t.2.2.1 - t.2.1 = L := by omega
      simp (disch := first | omega | decide | exact nI0_01 | exact nI1_01 | exact bz_01 _) only [Option.bind_some, List.cons_append, List.nil_append, Nat.reduceAdd, Nat.reduceMul, Nat.reduceLeDiff, Nat.reduceEqDiff, ↓reduceIte, n175, u175_0, u175_1, u175_4, u175_5, u175_8, u175_9, u175_12, u175_13, u175_16, u175_17, u175_18, u175_21, u175_22, u175_25, u175_26, TW_11, TW_12, TW_13, q1', q1, q2, q3, bz_t, bz_f, nn_eq0, nn_eq, eq_self, not_true_eq_false, not_false_eq_true, nn_sub, decide_true, decide_false, Bool.and_false]
  · simp (disch := first | omega | decide | exact nI0_01 | exact nI1_01 | exact bz_01 _) only [Option.bind_some, List.cons_append, List.nil_append, Nat.reduceAdd, Nat.reduceMul, Nat.reduceLeDiff, Nat.reduceEqDiff, ↓reduceIte, n175, u175_0, u175_1, u175_4, u175_5, u175_8, u175_9, u175_12, u175_13, u175_16, u175_17, u175_18, u175_21, u175_22, u175_25, u175_26, TW_11, TW_12, TW_13, q1, bz_t, bz_f, nn_eq0, nn_eq, eq_self, not_true_eq_false, not_false_eq_true, decide_false, Bool.false_and]
theorem TS.has3 {w : Wd} {n : Nat} {B : Nat → Nat} (hE : Env w n B) {t : Tk} {fa : Int32} {G : Gs} {W : Wd} (h : TS w t fa G W) {i a b c : Nat} (hi : t.2.1 + i + 2 < n) (ha : a < 256) (hb : b < 256) (hc : c < 256) : CALL 174 [.ref 44, .int (nI i), .int (nI a), .int (nI b), .int (nI c)] W = some ([.int (bz (decide (B (t.2.1 + i) = a) && decide (B (t.2.1 + i + 1) = b) && decide (B (t.2.1 + i + 2) = c)))], W) := by
  have hn := hE.2.2.1
  obtain ⟨vm, h1, rfl⟩ := h
  have b1 := bt_in (B := B) (show t.2.1 + i < n by omega)
  have b2 := bt_in (B := B) (show t.2.1 + i + 1 < n by omega)
  have b3 := bt_in (B := B) (show t.2.1 + i + 2 < n by omega)
  have B1 := hE.2.2.2 (t.2.1 + i) (by omega)
  have B2 := hE.2.2.2 (t.2.1 + i + 1) (by omega)
  have B3 := hE.2.2.2 (t.2.1 + i + 2) (by omega)
  by_cases q1 : B (t.2.1 + i) = a
  · by_cases q2 : B (t.2.1 + i + 1) = b
    · by_cases q3 : B (t.2.1 + i + 2) = c
      · simp (disch := first | omega | decide | exact nI0_01 | exact nI1_01 | exact bz_01 _) only [Option.bind_some, List.cons_append, List.nil_append, Nat.reduceAdd, Nat.reduceMul, Nat.reduceLeDiff, Nat.reduceEqDiff, ↓reduceIte, n174, u174_0, u174_1, u174_2, u174_5, u174_6, u174_7, u174_10, u174_11, u174_14, u174_15, u174_16, u174_19, u174_20, u174_21, u174_22, u174_23, u174_26, u174_27, u174_30, u174_31, u174_32, u174_35, u174_36, u174_37, u174_38, u174_39, u174_42, u174_44, u174_47, u174_48, u174_51, u174_52, TW_12, nI_add, x_byteAt hE, b1, b2, b3, nn_eq, q1, q2, q3, not_true_eq_false, decide_true, Bool.and_self, bz_t]
      · simp (disch := first | omega | decide | exact nI0_01 | exact nI1_01 | exact bz_01 _) only [Option.bind_some, List.cons_append, List.nil_append, Nat.reduceAdd, Nat.reduceMul, Nat.reduceLeDiff, Nat.reduceEqDiff, ↓reduceIte, n174, u174_0, u174_1, u174_2, u174_5, u174_6, u174_7, u174_10, u174_11, u174_14, u174_15, u174_16, u174_19, u174_20, u174_21, u174_22, u174_23, u174_26, u174_27, u174_30, u174_31, u174_32, u174_35, u174_36, u174_37, u174_38, u174_39, u174_42, u174_44, u174_47, u174_48, u174_51, u174_52, TW_12, nI_add, x_byteAt hE, b1, b2, b3, nn_eq, q1, q2, q3, not_true_eq_false, not_false_eq_true, if_true, decide_true, decide_false, Bool.and_false, bz_f]
    · simp (disch := first | omega | decide | exact nI0_01 | exact nI1_01 | exact bz_01 _) only [Option.bind_some, List.cons_append, List.nil_append, Nat.reduceAdd, Nat.reduceMul, Nat.reduceLeDiff, Nat.reduceEqDiff, ↓reduceIte, n174, u174_0, u174_1, u174_2, u174_5, u174_6, u174_7, u174_10, u174_11, u174_14, u174_15, u174_16, u174_19, u174_20, u174_21, u174_22, u174_23, u174_26, u174_27, u174_30, u174_31, u174_32, u174_35, u174_36, u174_37, u174_38, u174_39, u174_42, u174_44, u174_47, u174_48, u174_51, u174_52, TW_12, nI_add, x_byteAt hE, b1, b2, nn_eq, q1, q2, not_true_eq_false, not_false_eq_true, if_true, decide_true, decide_false, Bool.and_false, Bool.false_and, bz_f]
  · simp (disch := first | omega | decide | exact nI0_01 | exact nI1_01 | exact bz_01 _) only [Option.bind_some, List.cons_append, List.nil_append, Nat.reduceAdd, Nat.reduceMul, Nat.reduceLeDiff, Nat.reduceEqDiff, ↓reduceIte, n174, u174_0, u174_1, u174_2, u174_5, u174_6, u174_7, u174_10, u174_11, u174_14, u174_15, u174_16, u174_19, u174_20, u174_21, u174_22, u174_23, u174_26, u174_27, u174_30, u174_31, u174_32, u174_35, u174_36, u174_37, u174_38, u174_39, u174_42, u174_44, u174_47, u174_48, u174_51, u174_52, TW_12, nI_add, x_byteAt hE, b1, nn_eq, q1, not_false_eq_true, if_true, decide_false, Bool.false_and, bz_f]
