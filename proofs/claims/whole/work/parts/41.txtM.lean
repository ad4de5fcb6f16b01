theorem TS.itemHere {w : Wd} {n : Nat} {B : Nat → Nat} (hE : Env w n B) {t : Tk} {fa : Int32} {G : Gs} {W : Wd} (h : TS w t fa G W) (ht : tko n t) (hN : G 0 0 ≤ 8) : ∃ r W', CALL 186 [.ref 44] W = some ([.int r], W') ∧ rs w (itS n B G t) r W' := by
  have k1 := h.kind hE ht
  unfold itS
  by_cases q1 : kdH B t < 7
  · rw [if_pos q1]
    rw [if_pos q1] at k1
    obtain ⟨r, W', f1, f2⟩ := h.writerHere hE ht hN q1
    refine ⟨r, W', ?_, f2⟩
    rcases rs_01 f2 with hr | hr <;> subst hr <;> simp (disch := first | omega | decide | exact nI0_01 | exact nI1_01 | exact bz_01 _) only [Option.bind_some, List.cons_append, List.nil_append, Nat.reduceAdd, Nat.reduceMul, Nat.reduceLeDiff, Nat.reduceEqDiff, ↓reduceIte, n186, u186_0, u186_1, u186_4, u186_5, u186_6, u186_9, u186_10, u186_11, u186_14, u186_15, u186_16, u186_18, u186_20, u186_22, u186_24, u186_27, u186_30, u186_31, u186_34, u186_35, u186_36, u186_37, u186_40, u186_43, u186_44, u186_45, u186_47, u186_49, u186_51, u186_54, u186_57, u186_58, u186_61, u186_64, u186_65, u186_68, k1, nn_lt0, if_false, f1]
  · rw [if_neg q1]
    rw [if_neg q1] at k1
    have hm1 : (-1 : Int32) < 0 := by decide
    have g0 := h.four hE ht (a := 102) (b := 105) (c := 115) (d := 104) (by omega) (by omega) (by omega) (by omega)
    cases q2 : isN B [102, 105, 115, 104] t with
    | true =>
      rw [if_pos rfl]
      rw [q2] at g0
      obtain ⟨r, W', f1, f2⟩ := h.fishHere hE ht
      refine ⟨r, W', ?_, f2⟩
      rcases rs_01 f2 with hr | hr <;> subst hr <;> simp (disch := first | omega | decide | exact nI0_01 | exact nI1_01 | exact bz_01 _) only [Option.bind_some, List.cons_append, List.nil_append, Nat.reduceAdd, Nat.reduceMul, Nat.reduceLeDiff, Nat.reduceEqDiff, ↓reduceIte, n186, u186_0, u186_1, u186_4, u186_5, u186_6, u186_9, u186_10, u186_11, u186_14, u186_15, u186_16, u186_18, u186_20, u186_22, u186_24, u186_27, u186_30, u186_31, u186_34, u186_35, u186_36, u186_37, u186_40, u186_43, u186_44, u186_45, u186_47, u186_49, u186_51, u186_54, u186_57, u186_58, u186_61, u186_64, u186_65, u186_68, k1, hm1, if_true, g0, bz_t, bz_f, nn_eq0, nn_eq, eq_self, not_true_eq_false, not_false_eq_true, f1]
    | false =>
      rw [if_neg (by decide)]
      rw [q2] at g0
      have gW := h.isWord (L := 3) ht hE.2.2.1 (by omega)
      obtain ⟨W2, b1, b2⟩ := h.fails
      by_cases hw : t.1 = 1 ∧ t.2.2.1 = t.2.1 + 3
      · rw [wd_ye hw] at gW
        have ht2 := ht.2.1
        have g1 := h.has3 hE (i := 0) (a := 106) (b := 97) (c := 114) (by omega) (by omega) (by omega) (by omega)
        have ef : isN B [106, 97, 114] t = _ := (isN_ye (s := [106, 97, 114]) hw).trans mtc_3
        rw [← ef] at g1
        cases q3 : isN B [106, 97, 114] t with
        | true =>
          rw [if_pos rfl]
          rw [q3] at g1
          obtain ⟨r, W', f1, f2⟩ := h.jarHere hE ht
          refine ⟨r, W', ?_, f2⟩
          rcases rs_01 f2 with hr | hr <;> subst hr <;> simp (disch := first | omega | decide | exact nI0_01 | exact nI1_01 | exact bz_01 _) only [Option.bind_some, List.cons_append, List.nil_append, Nat.reduceAdd, Nat.reduceMul, Nat.reduceLeDiff, Nat.reduceEqDiff, ↓reduceIte, n186, u186_0, u186_1, u186_4, u186_5, u186_6, u186_9, u186_10, u186_11, u186_14, u186_15, u186_16, u186_18, u186_20, u186_22, u186_24, u186_27, u186_30, u186_31, u186_34, u186_35, u186_36, u186_37, u186_40, u186_43, u186_44, u186_45, u186_47, u186_49, u186_51, u186_54, u186_57, u186_58, u186_61, u186_64, u186_65, u186_68, k1, hm1, if_true, g0, gW, g1, bz_t, bz_f, nn_eq0, nn_eq, eq_self, not_true_eq_false, not_false_eq_true, f1]
        | false =>
          rw [if_neg (by decide)]
          rw [q3] at g1
          refine ⟨nI 0, W2, ?_, rfl, _, _, b2⟩
          simp (disch := first | omega | decide | exact nI0_01 | exact nI1_01 | exact bz_01 _) only [Option.bind_some, List.cons_append, List.nil_append, Nat.reduceAdd, Nat.reduceMul, Nat.reduceLeDiff, Nat.reduceEqDiff, ↓reduceIte, n186, u186_0, u186_1, u186_4, u186_5, u186_6, u186_9, u186_10, u186_11, u186_14, u186_15, u186_16, u186_18, u186_20, u186_22, u186_24, u186_27, u186_30, u186_31, u186_34, u186_35, u186_36, u186_37, u186_40, u186_43, u186_44, u186_45, u186_47, u186_49, u186_51, u186_54, u186_57, u186_58, u186_61, u186_64, u186_65, u186_68, k1, hm1, if_true, g0, gW, g1, bz_t, bz_f, nn_eq0, nn_eq, eq_self, not_true_eq_false, not_false_eq_true, b1]
      · rw [wd_no hw] at gW
        have ef : isN B [106, 97, 114] t = false := isN_no (s := [106, 97, 114]) hw
        rw [ef, if_neg (by decide)]
        refine ⟨nI 0, W2, ?_, rfl, _, _, b2⟩
        simp (disch := first | omega | decide | exact nI0_01 | exact nI1_01 | exact bz_01 _) only [Option.bind_some, List.cons_append, List.nil_append, Nat.reduceAdd, Nat.reduceMul, Nat.reduceLeDiff, Nat.reduceEqDiff, ↓reduceIte, n186, u186_0, u186_1, u186_4, u186_5, u186_6, u186_9, u186_10, u186_11, u186_14, u186_15, u186_16, u186_18, u186_20, u186_22, u186_24, u186_27, u186_30, u186_31, u186_34, u186_35, u186_36, u186_37, u186_40, u186_43, u186_44, u186_45, u186_47, u186_49, u186_51, u186_54, u186_57, u186_58, u186_61, u186_64, u186_65, u186_68, k1, hm1, if_true, g0, gW, bz_t, bz_f, nn_eq0, nn_eq, eq_self, not_true_eq_false, not_false_eq_true, b1]
/-! A TEXT -/
def txN (n : Nat) (B : Nat → Nat) : Nat → Nat → Gs → Tk → Nat ⊕ (Gs × Nat)
  | 0, _, _, t => .inl t.2.1
  | m + 1, i, G, t => match itS n B G t with
    | .inl p => .inl p
    | .inr (G', t') => if t'.1 = 3 then txN n B m (i + 1) G' (nxt n B t') else if t'.1 = 0 then .inr (G', i) else .inl t'.2.1
def txV (A : Gs) (x : Nat ⊕ (Gs × Nat)) : Int32 × Gs := match x with
  | .inl p => (-1 - nI p, up A 20 1 0)
  | .inr (G, i) => (nI i, up G 20 1 0)
def o_text (A : Gs) : Int32 × Gs := txV A (txN (A 20 1) (A 21) 120 1 A (tok (A 20 1) (A 21) 0))
theorem M_TW {A : Gs} {w : Wd} (h : M A (putS w A)) {k fr to v : Nat} {fa : Int32} : M A (putS (TW w k fr to v fa) A) := by
  refine h.mv (fun a h1 h2 h3 h4 => ?_) ?_ ?_
  · by_cases q : a = 45
    · subst q; unfold putS; rw [put_at, put_at]
    · rw [putS_ne _ _ q, putS_ne _ _ q]; exact put_ne _ _ (by omega)
  · rw [TW_r, putS_ne _ _ (by omega)]; rfl
  · rw [TW_r, putS_ne _ _ (by omega)]; rfl
theorem fM_TW {A G : Gs} {w : Wd} {k fr to v : Nat} {fa : Int32} : fM (putS w A) (putS (TW w k fr to v fa) G) := by
  refine ⟨fun a ha => ?_, rfl⟩
  rw [putS_ne _ _ (by omega), putS_ne _ _ (by omega)]
  exact put_ne _ _ (by omega)
theorem TW_self (w : Wd) : TW w (un (w.1 44 11)) (un (w.1 44 12)) (un (w.1 44 13)) (un (w.1 44 14)) (w.1 44 15) = w := by
  refine put_id w ?_
  funext j
  by_cases h1 : j = 11
  · subst h1; rw [if_pos rfl, nI_un]
  · by_cases h2 : j = 12
    · subst h2; rw [if_neg (by omega), if_pos rfl, nI_un]
    · by_cases h3 : j = 13
      · subst h3; rw [if_neg (by omega), if_neg (by omega), if_pos rfl, nI_un]
      · by_cases h4 : j = 14
        · subst h4; rw [if_neg (by omega), if_neg (by omega), if_neg (by omega), if_pos rfl, nI_un]
        · by_cases h5 : j = 15
          · subst h5; rw [if_neg (by omega), if_neg (by omega), if_neg (by omega), if_neg (by omega), if_pos rfl]
          · rw [if_neg h1, if_neg h2, if_neg h3, if_neg h4, if_neg h5]
theorem st2_S (w : Wd) (G : Gs) {b : Nat} (hb : b ≠ 45) (k : Nat) (v : Int32) : st2 (putS w G) b k v = putS (st2 w b k v) G := by
  unfold st2
  rw [putS_ne _ _ hb, put_S _ _ hb]
/-- how a text ends -/
theorem text_bad {w : Wd} {A G : Gs} {t : Tk} {p : Nat} {W : Wd} {i : Int32} {gd : Option Value} (h0 : M A (putS w A)) (h47 : ∀ k, k < 75 → w.1 47 k = nI (lay A k)) (h : TS w t (nI p) G W) : ∃ W', RUN 187 76 [some (.ref 44), some (.int i), gd] [] [] W = some ([.int (-1 - nI p)], W') ∧ M (up A 20 1 0) W' ∧ fM (putS w A) W' := by
  obtain ⟨vm, v1, rfl⟩ := h
  have e := st2_S (TW w t.1 t.2.1 t.2.2.1 vm (nI p)) G (b := 44) (by omega) 7 (nI 0)
  have hb := x_back (b := 47) (w := st2 (TW w t.1 t.2.1 t.2.2.1 vm (nI p)) 44 7 (nI 0)) (A := A) (A' := G) (by omega) (fun k hk => by
    rw [st2_ne _ _ _ (by omega)]
    show (put w 44 _).1 47 k = _
    rw [put_ne _ _ (by omega)]
    exact h47 k hk)
  refine ⟨putS (st2 (TW w t.1 t.2.1 t.2.2.1 vm (nI p)) 44 7 (nI 0)) A, ?_, ?_, ?_⟩
  · have e15 : (putS (st2 (TW w t.1 t.2.1 t.2.2.1 vm (nI p)) 44 7 (nI 0)) A).1 44 15 = nI p := by
      rw [← st2_S _ _ (by omega), st2_nk _ _ _ (by omega), TW_15]
    simp (disch := first | omega | decide | exact nI0_01 | exact nI1_01 | exact bz_01 _) only [Option.bind_some, List.cons_append, List.nil_append, Nat.reduceAdd, Nat.reduceMul, Nat.reduceLeDiff, Nat.reduceEqDiff, ↓reduceIte, u187_76, u187_77, u187_78, u187_79, u187_80, u187_83, u187_84, u187_87, u187_88, u187_91, u187_92, u187_95, u187_98, u187_99, u187_102, u187_103, u187_106, u187_107, u187_108, u187_111, u187_112, e, hb, bz_t, bz_f, nn_eq0, nn_eq, eq_self, not_true_eq_false, not_false_eq_true, e15]
  · rw [← st2_S _ _ (by omega)]
    exact M_tape (M_TW h0) 0
  · rw [← st2_S _ _ (by omega)]
    exact fM_TW.st (by omega) (by omega) _ _
theorem text_good {w : Wd} {A G : Gs} {t : Tk} {fa : Int32} {W : Wd} {i : Nat} (h0 : M A (putS w A)) (hr : ∀ c, 10 ≤ c → G c = A c) (h : TS w t fa G W) : ∃ W', RUN 187 72 [some (.ref 44), some (.int (nI i)), some (.int (nI 1))] [] [] W = some ([.int (nI i)], W') ∧ M (up G 20 1 0) W' ∧ fM (putS w A) W' := by
  obtain ⟨vm, v1, rfl⟩ := h
  refine ⟨st2 (putS (TW w t.1 t.2.1 t.2.2.1 vm fa) G) 44 7 (nI 0), ?_, M_tape (M_put (M_TW h0) hr) 0, fM_TW.st (by omega) (by omega) _ _⟩
  simp (disch := first | omega | decide | exact nI0_01 | exact nI1_01 | exact bz_01 _) only [Option.bind_some, List.cons_append, List.nil_append, Nat.reduceAdd, Nat.reduceMul, Nat.reduceLeDiff, Nat.reduceEqDiff, ↓reduceIte, u187_72, u187_73, u187_76, u187_77, u187_78, u187_79, u187_80, u187_83, u187_84, u187_87, u187_88, u187_91, u187_92, u187_95, u187_98, u187_99, u187_102, u187_103, u187_106, u187_107, u187_108, u187_111, u187_112, bz_t, bz_f, nn_eq0, nn_eq, eq_self, not_true_eq_false, not_false_eq_true]
theorem itS_1 {n : Nat} {B : Nat → Nat} {G : Gs} {t : Tk} {r : Gs × Tk} (h : itS n B G t = .inr r) : t.1 = 1 := by
  by_cases h1 : t.1 = 1
  · exact h1
  · have hn : ∀ s, isN B s t = false := fun s => isN_no (fun z => h1 z.1)
    have hk : kdH B t = 7 := by unfold kdH; simp only [hn, Bool.false_eq_true, if_false]
    unfold itS at h
    rw [hk] at h
    simp only [hn, Bool.false_eq_true, if_false, Nat.lt_irrefl] at h
    exact absurd h (by simp)
theorem text_loop {w : Wd} {A : Gs} (h0 : M A (putS w A)) (h47 : ∀ k, k < 75 → w.1 47 k = nI (lay A k)) (hI : Iv A) {n : Nat} {B : Nat → Nat} (hE : Env w n B) : ∀ (m i : Nat) (G : Gs) (t : Tk) (r : Int32) (W : Wd), Qs A G → tko n t → n ≤ t.2.1 + 2 * m → rs w (itS n B G t) r W → ∃ W', RUN 187 27 [some (.ref 44), some (.int (nI i)), some (.int r)] [] [] W = some ([.int (txV A (txN n B (m + 1) i G t)).1], W') ∧ M (txV A (txN n B (m + 1) i G t)).2 W' ∧ fM (putS w A) W' := by
  intro m
  induction m with
  | zero =>
    intro i G t r W hQ ht hm hr
    rw [u187_27]
    unfold txN
    cases q : itS n B G t with
    | inl p =>
      obtain ⟨e, t', G', h1⟩ := rs_inl q hr
      subst e
      obtain ⟨W', f1, f2, f3⟩ := text_bad (i := nI i) h0 h47 h1
      refine ⟨W', ?_, f2, f3⟩
      simp (disch := first | omega | decide | exact nI0_01 | exact nI1_01 | exact bz_01 _) only [Option.bind_some, List.cons_append, List.nil_append, Nat.reduceAdd, Nat.reduceMul, Nat.reduceLeDiff, Nat.reduceEqDiff, ↓reduceIte, u187_28, u187_31, u187_32, u187_35, u187_36, u187_39, u187_40, u187_43, u187_44, u187_47, u187_48, u187_51, u187_54, u187_55, u187_58, u187_59, u187_62, u187_65, u187_66, u187_69, u187_72, u187_73, bz_t, bz_f, nn_eq0, nn_eq, eq_self, not_true_eq_false, not_false_eq_true]
      exact f1
    | inr x =>
      have h1 := itS_1 q
      have h2 := ht.2.2.2 (by omega)
      have h3 := ht.2.1
      omega
  | succ m ih =>
    intro i G t r W hQ ht hm hr
    have hN : G 0 0 ≤ 8 := (hQ.2.1 hI).1
    rw [u187_27]
    unfold txN
    cases q : itS n B G t with
    | inl p =>
      obtain ⟨e, t', G', h1⟩ := rs_inl q hr
      subst e
      obtain ⟨W', f1, f2, f3⟩ := text_bad (i := nI i) h0 h47 h1
      refine ⟨W', ?_, f2, f3⟩
      simp (disch := first | omega | decide | exact nI0_01 | exact nI1_01 | exact bz_01 _) only [Option.bind_some, List.cons_append, List.nil_append, Nat.reduceAdd, Nat.reduceMul, Nat.reduceLeDiff, Nat.reduceEqDiff, ↓reduceIte, u187_28, u187_31, u187_32, u187_35, u187_36, u187_39, u187_40, u187_43, u187_44, u187_47, u187_48, u187_51, u187_54, u187_55, u187_58, u187_59, u187_62, u187_65, u187_66, u187_69, u187_72, u187_73, bz_t, bz_f, nn_eq0, nn_eq, eq_self, not_true_eq_false, not_false_eq_true]
      exact f1
    | inr x =>
      obtain ⟨G', t'⟩ := x
      obtain ⟨e, fa, h1⟩ := rs_inr q hr
      subst e
      have hq := itS_Q ht hN q
      have hg := nxt_ge (n := n) (B := B) ht
      have i1 := tok_in n B ht.2.1
      have i2 : t.2.2.1 ≤ (nxt n B t).2.1 := i1.1
      have i3 := ht.2.2.2 (by have := itS_1 q; omega)
      have hk' := hq.2.1
      have e11 : W.1 44 11 = nI t'.1 := by
        obtain ⟨vm, v1, rfl⟩ := h1
        exact TW_11
      show ∃ W', _ = some ([Value.int (txV A (if t'.1 = 3 then txN n B (m + 1) (i + 1) G' (nxt n B t') else if t'.1 = 0 then .inr (G', i) else .inl t'.2.1)).1], W') ∧ M (txV A (if t'.1 = 3 then txN n B (m + 1) (i + 1) G' (nxt n B t') else if t'.1 = 0 then .inr (G', i) else .inl t'.2.1)).2 W' ∧ fM (putS w A) W'
      by_cases h3 : t'.1 = 3
      · rw [if_pos h3]
        obtain ⟨W1, n1, n2⟩ := h1.next hE hk'
        have ht2 := tko_n (B := B) hk'
        have i4 := tok_in n B hk'.2.1
        have i5 : t'.2.2.1 ≤ (nxt n B t').2.1 := i4.1
        have i6 := hk'.2.2.2 (by omega)
        have i7 := hq.2.2
        have hQ' := hQ.tr hq.1
        have hN' : G' 0 0 ≤ 8 := (hQ'.2.1 hI).1
        obtain ⟨r2, W2, f1, f2⟩ := n2.itemHere hE ht2 hN'
        obtain ⟨W3, g1, g2, g3⟩ := ih (i + 1) G' (nxt n B t') r2 W2 hQ' ht2 (by omega) f2
        refine ⟨W3, ?_, g2, g3⟩
        rw [h3] at e11
        simp (disch := first | omega | decide | exact nI0_01 | exact nI1_01 | exact bz_01 _) only [Option.bind_some, List.cons_append, List.nil_append, Nat.reduceAdd, Nat.reduceMul, Nat.reduceLeDiff, Nat.reduceEqDiff, ↓reduceIte, u187_28, u187_31, u187_32, u187_35, u187_36, u187_39, u187_40, u187_43, u187_44, u187_47, u187_48, u187_51, bz_t, bz_f, nn_eq0, nn_eq, eq_self, not_true_eq_false, not_false_eq_true, e11, n1, f1, nI_add]
        exact g1
      · rw [if_neg h3]
        have hk4 := hk'.2.2.1
        by_cases h4 : t'.1 = 0
        · rw [if_pos h4]
          obtain ⟨W', f1, f2, f3⟩ := text_good (i := i) h0 (hQ.tr hq.1).1 h1
          refine ⟨W', ?_, f2, f3⟩
          rw [h4] at e11
          simp (disch := first | omega | decide | exact nI0_01 | exact nI1_01 | exact bz_01 _) only [Option.bind_some, List.cons_append, List.nil_append, Nat.reduceAdd, Nat.reduceMul, Nat.reduceLeDiff, Nat.reduceEqDiff, ↓reduceIte, u187_28, u187_31, u187_32, u187_35, u187_36, u187_39, u187_40, u187_43, u187_44, u187_47, u187_48, u187_51, u187_54, u187_55, u187_58, u187_59, u187_62, u187_65, u187_66, u187_69, bz_t, bz_f, nn_eq0, nn_eq, eq_self, not_true_eq_false, not_false_eq_true, e11]
          exact f1
        · rw [if_neg h4]
          obtain ⟨W1, b1, b2⟩ := h1.fails
          obtain ⟨W', f1, f2, f3⟩ := text_bad (i := nI i) h0 h47 b2
          refine ⟨W', ?_, f2, f3⟩
          simp (disch := first | omega | decide | exact nI0_01 | exact nI1_01 | exact bz_01 _) only [Option.bind_some, List.cons_append, List.nil_append, Nat.reduceAdd, Nat.reduceMul, Nat.reduceLeDiff, Nat.reduceEqDiff, ↓reduceIte, u187_28, u187_31, u187_32, u187_35, u187_36, u187_39, u187_40, u187_43, u187_44, u187_47, u187_48, u187_51, u187_54, u187_55, u187_58, u187_59, u187_62, u187_65, u187_66, u187_69, bz_t, bz_f, nn_eq0, nn_eq, eq_self, not_true_eq_false, not_false_eq_true, e11, h3, h4, b1]
          exact f1
theorem m_text {A : Gs} {w : Wd} (h : M A (putS w A)) (hI : Iv A) (ht : A 20 1 ≤ 120) (hB : ∀ j, j < 120 → A 21 j < 256) : opM 187 [] (o_text A) (putS w A) := by
  have h0 := M_aside h (b := 47) (Or.inl rfl)
  have h47 : ∀ k, k < 75 → (putA w 47 A).1 47 k = nI (lay A k) := fun k hk => by unfold putA; rw [put_at, if_pos hk]
  have hE : Env (putA w 47 A) (A 20 1) (A 21) := by
    refine ⟨?_, ?_, ht, hB⟩
    · rw [putA_ne _ _ (by omega), ← putS_ne w A (by omega)]; exact h.2.2.1
    · intro j hj
      rw [putA_ne _ _ (by omega), ← putS_ne w A (by omega)]; exact h.2.2.2.2.1 j hj
  have e0 := TW_self (putA w 47 A)
  have ts0 := @TW_s13 (putA w 47 A) (un ((putA w 47 A).1 44 11)) (un ((putA w 47 A).1 44 12)) (un ((putA w 47 A).1 44 13)) (un ((putA w 47 A).1 44 14)) 0 ((putA w 47 A).1 44 15) A
  rw [e0] at ts0
  obtain ⟨vm, v1, v2⟩ := x_nextToken hE (k := un ((putA w 47 A).1 44 11)) (fr := un ((putA w 47 A).1 44 12)) (to := 0) (v := un ((putA w 47 A).1 44 14)) (fa := (putA w 47 A).1 44 15) (G := A) (by omega)
  have hk0 := tok_in (A 20 1) (A 21) (p := 0) (by omega)
  have ht0 : tko (A 20 1) (tok (A 20 1) (A 21) 0) := ⟨hk0.2.1, hk0.2.2.1, hk0.2.2.2.2.1, hk0.2.2.2.1⟩
  have hT : TS (putA w 47 A) (tok (A 20 1) (A 21) 0) ((putA w 47 A).1 44 15) A _ := ⟨vm, v1, rfl⟩
  obtain ⟨r, W1, f1, f2⟩ := hT.itemHere hE ht0 hI.1
  obtain ⟨W2, g1, g2, g3⟩ := text_loop h0 h47 hI hE 119 1 A (tok (A 20 1) (A 21) 0) r W1 (Qs.rf A) ht0 (by omega) f2
  refine opM_is (w' := W2) (v := (o_text A).1) (A' := (o_text A).2) ?_ g2 ((fM_aside (Or.inl rfl)).tr g3)
  simp (disch := first | omega | decide | exact nI0_01 | exact nI1_01 | exact bz_01 _) only [Option.bind_some, List.cons_append, List.nil_append, Nat.reduceAdd, Nat.reduceMul, Nat.reduceLeDiff, Nat.reduceEqDiff, ↓reduceIte, u187_0, u187_1, u187_4, u187_5, u187_8, u187_11, u187_12, u187_13, u187_16, u187_17, u187_20, u187_21, u187_22, u187_23, u187_26, n187, x_aside, ts0, v2, f1]
  exact g1
