/-! THE COMPONENT READS A TEXT -/
def rdC (w : Wd) (n : Nat) (x : Nat ⊕ (Gs × Nat)) (v : Int32) (W : Wd) : Prop := match x with
  | .inl p => v = -1 - nI p ∧ p ≤ n ∧ ∃ (t : Tk) (G : Gs), TT w t G W
  | .inr (G, i) => v = nI i ∧ i ≤ 120 ∧ ∃ t : Tk, TT w t G W
theorem rsC_inl {w : Wd} {n : Nat} {x : Pr} {p : Nat} {r : Int32} {W : Wd} (hx : x = .inl p) (h : rsC w n x r W) : r = nI 0 ∧ p ≤ n ∧ ∃ (t : Tk) (G : Gs), TT w t G W ∧ t.2.1 = p := by rw [hx] at h; exact h
theorem rsC_inr {w : Wd} {n : Nat} {x : Pr} {G : Gs} {t : Tk} {r : Int32} {W : Wd} (hx : x = .inr (G, t)) (h : rsC w n x r W) : r = nI 1 ∧ TT w t G W := by rw [hx] at h; exact h
theorem TT.r2 {w : Wd} {t : Tk} {G : Gs} {W : Wd} (h : TT w t G W) : W.1 40 2 = nI t.1 := by
  obtain ⟨vm, -, rfl⟩ := h
  exact TC_2
theorem TT.r3 {w : Wd} {t : Tk} {G : Gs} {W : Wd} (h : TT w t G W) : W.1 40 3 = nI t.2.1 := by
  obtain ⟨vm, -, rfl⟩ := h
  exact TC_3
theorem ri_loop {w : Wd} {A : Gs} (hI : Iv A) {n : Nat} {B : Nat → Nat} (hE : EnvC w n B) : ∀ (m i : Nat) (G : Gs) (t : Tk) (W : Wd), Qs A G → tko n t → m + i = 121 → TT w t G W → ∃ v W', RUN 33 11 [some (.ref 40), some (.ref 11), some (.int (nI i))] [] [] W = some ([.int v], W') ∧ rdC w n (txN n B m i G t) v W' := by
  have hn := hE.2.2.1
  intro m
  induction m with
  | zero =>
    intro i G t W hQ ht hm h
    have h1 : 120 < i := by omega
    have e3 := h.r3
    rw [u33_11, txN]
    refine ⟨-1 - nI t.2.1, W, ?_, rfl, Nat.le_trans ht.1 ht.2.1, t, G, h⟩
    simp (disch := first | omega | decide | assumption | exact nI0_01 | exact nI1_01 | exact bz_01 _ | exact rf1 | exact rf11 | exact rf21) only [Option.bind_some, List.cons_append, List.nil_append, Nat.reduceAdd, Nat.reduceMul, Nat.reduceLeDiff, Nat.reduceEqDiff, ↓reduceIte, u33_12, u33_14, u33_17, u33_18, u33_19, u33_22, u33_25, u33_26, u33_27, u33_30, u33_31, u33_32, u33_33, u33_36, u33_39, u33_40, u33_41, u33_42, u33_45, u33_46, u33_49, u33_50, u33_51, u33_54, u33_55, u33_56, u33_57, u33_60, u33_63, u33_66, u33_67, u33_68, u33_71, u33_72, nn_lt, h1, if_true, e3]
  | succ m ih =>
    intro i G t W hQ ht hm h
    have h1 : ¬ 120 < i := by omega
    have hN : G 0 0 ≤ 8 := (hQ.2.1 hI).1
    obtain ⟨r, W1, f1, f2⟩ := h.rI hE ht hN
    rw [u33_11, txN]
    cases q : itS n B G t with
    | inl p =>
      obtain ⟨e, hp, t', G', k1, k2⟩ := rsC_inl q f2
      subst e
      have e3 := k1.r3
      rw [k2] at e3
      refine ⟨-1 - nI p, W1, ?_, rfl, hp, t', G', k1⟩
      simp (disch := first | omega | decide | assumption | exact nI0_01 | exact nI1_01 | exact bz_01 _ | exact rf1 | exact rf11 | exact rf21) only [Option.bind_some, List.cons_append, List.nil_append, Nat.reduceAdd, Nat.reduceMul, Nat.reduceLeDiff, Nat.reduceEqDiff, ↓reduceIte, u33_12, u33_14, u33_17, u33_18, u33_19, u33_22, u33_25, u33_26, u33_27, u33_30, u33_31, u33_32, u33_33, u33_36, u33_39, u33_40, u33_41, u33_42, u33_45, u33_46, u33_49, u33_50, u33_51, u33_54, u33_55, u33_56, u33_57, u33_60, u33_63, u33_66, u33_67, u33_68, u33_71, u33_72, nn_lt, h1, if_false, f1, bz_t, bz_f, nn_eq0, nn_eq, eq_self, not_true_eq_false, not_false_eq_true, e3]
    | inr x =>
      obtain ⟨G', t'⟩ := x
      obtain ⟨e, k1⟩ := rsC_inr q f2
      subst e
      have hq := itS_Q ht hN q
      have hk' := hq.2.1
      have hQ' := hQ.tr hq.1
      have e2 := k1.r2
      have e3 := k1.r3
      have ht4 := hk'.2.2.1
      show ∃ v W', _ ∧ rdC w n (if t'.1 = 3 then txN n B m (i + 1) G' (nxt n B t') else if t'.1 = 0 then .inr (G', i) else .inl t'.2.1) v W'
      by_cases h3 : t'.1 = 3
      · rw [if_pos h3]
        obtain ⟨W2, n1, n2⟩ := k1.next hE hk'
        obtain ⟨v, W3, g1, g2⟩ := ih (i + 1) G' (nxt n B t') W2 hQ' (tko_n hk') (by omega) n2
        refine ⟨v, W3, ?_, g2⟩
        rw [h3] at e2
        simp (disch := first | omega | decide | assumption | exact nI0_01 | exact nI1_01 | exact bz_01 _ | exact rf1 | exact rf11 | exact rf21) only [Option.bind_some, List.cons_append, List.nil_append, Nat.reduceAdd, Nat.reduceMul, Nat.reduceLeDiff, Nat.reduceEqDiff, ↓reduceIte, u33_12, u33_14, u33_17, u33_18, u33_19, u33_22, u33_25, u33_26, u33_27, u33_30, u33_31, u33_32, u33_33, u33_36, u33_39, u33_40, u33_41, u33_42, u33_45, u33_46, u33_49, u33_50, u33_51, u33_54, u33_55, u33_56, u33_57, u33_60, u33_63, u33_66, u33_67, u33_68, u33_71, u33_72, nn_lt, h1, if_false, f1, bz_t, bz_f, nn_eq0, nn_eq, eq_self, not_true_eq_false, not_false_eq_true, e2, n1, nI_add]
        exact g1
      · rw [if_neg h3]
        by_cases h4 : t'.1 = 0
        · rw [if_pos h4]
          rw [h4] at e2
          refine ⟨nI i, W1, ?_, rfl, by omega, t', k1⟩
          simp (disch := first | omega | decide | assumption | exact nI0_01 | exact nI1_01 | exact bz_01 _ | exact rf1 | exact rf11 | exact rf21) only [Option.bind_some, List.cons_append, List.nil_append, Nat.reduceAdd, Nat.reduceMul, Nat.reduceLeDiff, Nat.reduceEqDiff, ↓reduceIte, u33_12, u33_14, u33_17, u33_18, u33_19, u33_22, u33_25, u33_26, u33_27, u33_30, u33_31, u33_32, u33_33, u33_36, u33_39, u33_40, u33_41, u33_42, u33_45, u33_46, u33_49, u33_50, u33_51, u33_54, u33_55, u33_56, u33_57, u33_60, u33_63, u33_66, u33_67, u33_68, u33_71, u33_72, nn_lt, h1, if_false, f1, bz_t, bz_f, nn_eq0, nn_eq, eq_self, not_true_eq_false, not_false_eq_true, e2]
        · rw [if_neg h4]
          refine ⟨-1 - nI t'.2.1, W1, ?_, rfl, Nat.le_trans hk'.1 hk'.2.1, t', G', k1⟩
          simp (disch := first | omega | decide | assumption | exact nI0_01 | exact nI1_01 | exact bz_01 _ | exact rf1 | exact rf11 | exact rf21) only [Option.bind_some, List.cons_append, List.nil_append, Nat.reduceAdd, Nat.reduceMul, Nat.reduceLeDiff, Nat.reduceEqDiff, ↓reduceIte, u33_12, u33_14, u33_17, u33_18, u33_19, u33_22, u33_25, u33_26, u33_27, u33_30, u33_31, u33_32, u33_33, u33_36, u33_39, u33_40, u33_41, u33_42, u33_45, u33_46, u33_49, u33_50, u33_51, u33_54, u33_55, u33_56, u33_57, u33_60, u33_63, u33_66, u33_67, u33_68, u33_71, u33_72, nn_lt, h1, if_false, f1, bz_t, bz_f, nn_eq0, nn_eq, eq_self, not_true_eq_false, not_false_eq_true, e2, h3, h4, e3]
theorem TC_self (w : Wd) : TC w (un (w.1 40 2)) (un (w.1 40 3)) (un (w.1 40 4)) (un (w.1 40 5)) = w := by
  refine put_id w ?_
  funext j
  by_cases h1 : j = 2
  · subst h1; rw [if_pos rfl, nI_un]
  · by_cases h2 : j = 3
    · subst h2; rw [if_neg (by omega), if_pos rfl, nI_un]
    · by_cases h3 : j = 4
      · subst h3; rw [if_neg (by omega), if_neg (by omega), if_pos rfl, nI_un]
      · by_cases h4 : j = 5
        · subst h4; rw [if_neg (by omega), if_neg (by omega), if_neg (by omega), if_pos rfl, nI_un]
        · rw [if_neg h1, if_neg h2, if_neg h3, if_neg h4]
theorem c_readInto {w : Wd} {A : Gs} (hI : Iv A) {n : Nat} {B : Nat → Nat} (hE : EnvC w n B) : ∃ v W', CALL 33 [.ref 40, .ref 11] (putR w 11 A) = some ([.int v], W') ∧ rdC w n (txN n B 120 1 A (tok n B 0)) v W' := by
  have ts0 := @TC_s4 w (un (w.1 40 2)) (un (w.1 40 3)) (un (w.1 40 4)) (un (w.1 40 5)) 0 A
  rw [TC_self w] at ts0
  obtain ⟨vm, v1, v2⟩ := c_nxTok hE (k := un (w.1 40 2)) (fr := un (w.1 40 3)) (to := 0) (v := un (w.1 40 5)) (G := A) (by omega)
  have hk0 := tok_in n B (p := 0) (by omega)
  have ht0 : tko n (tok n B 0) := ⟨hk0.2.1, hk0.2.2.1, hk0.2.2.2.2.1, hk0.2.2.2.1⟩
  obtain ⟨v, W', g1, g2⟩ := ri_loop hI hE 120 1 A (tok n B 0) _ (Qs.rf A) ht0 rfl ⟨vm, v1, rfl⟩
  refine ⟨v, W', ?_, g2⟩
  simp (disch := first | omega | decide | assumption | exact nI0_01 | exact nI1_01 | exact bz_01 _ | exact rf1 | exact rf11 | exact rf21) only [Option.bind_some, List.cons_append, List.nil_append, Nat.reduceAdd, Nat.reduceMul, Nat.reduceLeDiff, Nat.reduceEqDiff, ↓reduceIte, u33_0, u33_1, u33_2, u33_5, u33_6, u33_9, u33_10, n33, ts0, v2]
  exact g1
theorem TT.out {w : Wd} {t : Tk} {G : Gs} {W : Wd} (h : TT w t G W) {a : Nat} (ha : a < 11 ∨ 20 < a) (h40 : a ≠ 40) : W.1 a = w.1 a := by
  obtain ⟨vm, -, rfl⟩ := h
  rw [putR_ne _ _ (by omega)]
  exact put_ne _ _ h40
theorem TT.o40 {w : Wd} {t : Tk} {G : Gs} {W : Wd} (h : TT w t G W) : W.1 40 1 = w.1 40 1 := by
  obtain ⟨vm, -, rfl⟩ := h
  exact TC_1
theorem C_bec {A A' : Gs} {w v : Wd} (h : C A w) (hA : ∀ c, 10 ≤ c → A' c = A c) (e : ∀ a, (a < 1 ∨ 20 < a) → a ≠ 40 → v.1 a = w.1 a) (e40 : v.1 40 1 = w.1 40 1) : C A' (putR v 1 A') := by
  obtain ⟨g1, g2, g3, g4, g5, g6, g7, g8, g9⟩ := h
  have e : ∀ a, (a < 1 ∨ 20 < a) → a ≠ 40 → (putR v 1 A').1 a = w.1 a := fun a ha h40 => by rw [putR_ne _ _ (by omega)]; exact e a ha h40
  refine ⟨putR_putR _ _ _ _, ?_, ?_, ?_, ?_, ?_, ?_, ?_, ?_⟩
  · rw [e 0 (by omega) (by omega), hA 20 (by omega)]; exact g2
  · rw [putR_ne _ _ (by omega), e40, hA 20 (by omega)]; exact g3
  · rw [hA 20 (by omega)]
    intro z
    rw [putR_gs (G := fun c => A (10 + c)) (fun c _ => hA (10 + c) (by omega))]
    exact putR_rd (g4 z) (fun a p q => e a (by omega) (by omega))
  · rw [e 41 (by omega) (by omega), hA 21 (by omega)]; exact g5
  · rw [e 42 (by omega) (by omega), hA 22 (by omega)]; exact g6
  · intro t ht; rw [e (32 + 2 * t) (by omega) (by omega), hA 23 (by omega)]; exact g7 t ht
  · intro t ht; rw [e (32 + 2 * t) (by omega) (by omega), hA 24 (by omega)]; exact g8 t ht
  · intro t k ht hk; rw [e (33 + 2 * t) (by omega) (by omega), hA (25 + t) (by omega)]; exact g9 t k ht hk
theorem txN_r {A : Gs} (hI : Iv A) {n : Nat} {B : Nat → Nat} : ∀ (m i : Nat) (G : Gs) (t : Tk) (G' : Gs) (j : Nat), Qs A G → tko n t → txN n B m i G t = .inr (G', j) → Qs A G' := by
  intro m
  induction m with
  | zero => intro i G t G' j hQ ht h; cases h
  | succ m ih =>
    intro i G t G' j hQ ht h
    have hN : G 0 0 ≤ 8 := (hQ.2.1 hI).1
    rw [txN] at h
    cases q : itS n B G t with
    | inl p => rw [q] at h; cases h
    | inr x =>
      obtain ⟨G1, t1⟩ := x
      rw [q] at h
      have hq := itS_Q ht hN q
      have h : (if t1.1 = 3 then txN n B m (i + 1) G1 (nxt n B t1) else if t1.1 = 0 then .inr (G1, i) else .inl t1.2.1) = (.inr (G', j) : Nat ⊕ (Gs × Nat)) := h
      by_cases h3 : t1.1 = 3
      · rw [if_pos h3] at h
        exact ih (i + 1) G1 (nxt n B t1) G' j (hQ.tr hq.1) (tko_n hq.2.1) h
      · rw [if_neg h3] at h
        by_cases h4 : t1.1 = 0
        · rw [if_pos h4] at h
          have e := Sum.inr.inj h
          have e1 : G1 = G' := congrArg Prod.fst e
          rw [← e1]
          exact hQ.tr hq.1
        · rw [if_neg h4] at h; cases h
theorem m1_sub : ∀ p, p < 121 → (-1 : Int32) - nI p < 0 := by decide
theorem k_text {A : Gs} {w : Wd} (h : C A w) (hI : Iv A) (ht : A 20 1 ≤ 120) (hB : ∀ j, j < 120 → A 21 j < 256) : opC 79 [] (o_text A) w := by
  obtain ⟨v, e1, e2, e3⟩ := h.trial
  have hE : EnvC v (A 20 1) (A 21) := ⟨e2.2.2.1, e2.2.2.2.2.1, ht, hB⟩
  obtain ⟨x, W', r1, r2⟩ := c_readInto hI hE
  have hk0 := tok_in (A 20 1) (A 21) (p := 0) (by omega)
  have ht0 : tko (A 20 1) (tok (A 20 1) (A 21) 0) := ⟨hk0.2.1, hk0.2.2.1, hk0.2.2.2.2.1, hk0.2.2.2.1⟩
  unfold o_text
  cases q : txN (A 20 1) (A 21) 120 1 A (tok (A 20 1) (A 21) 0) with
  | inl p =>
    rw [q] at r2
    obtain ⟨rfl, hp, t, G, r3⟩ := r2
    have hm := m1_sub p (by omega)
    have hC : C A W' := e2.mv (fun a h1 h2 h3 h4 => r3.out h2 h3) r3.o40
    refine ⟨st2 W' 40 1 (nI 0), ?_, C_tape hC 0, ?_⟩
    · simp (disch := first | omega | decide | assumption | exact nI0_01 | exact nI1_01 | exact bz_01 _ | exact rf1 | exact rf11 | exact rf21) only [Option.bind_some, List.cons_append, List.nil_append, Nat.reduceAdd, Nat.reduceMul, Nat.reduceLeDiff, Nat.reduceEqDiff, ↓reduceIte, n79, u79_0, u79_1, u79_4, u79_5, u79_8, u79_11, u79_12, u79_15, u79_16, u79_19, u79_22, u79_23, u79_24, u79_27, u79_28, u79_31, u79_32, u79_35, u79_38, u79_39, u79_42, u79_43, u79_46, u79_47, e1, r1, hm, if_true]
      rfl
    · have f1 : fC w W' := fun a ha => by rw [r3.out (by omega) (by omega)]; exact e3 a ha
      exact f1.st (by omega) _ _
  | inr y =>
    obtain ⟨G, i⟩ := y
    rw [q] at r2
    obtain ⟨rfl, hi, t, r3⟩ := r2
    have hQ := txN_r hI 120 1 A _ G i (Qs.rf A) ht0 q
    have hW : putR W' 11 G = W' := by
      obtain ⟨vm, -, rfl⟩ := r3
      exact putR_putR _ _ _ _
    obtain ⟨u, u1, u2⟩ := c_become rf1 rf11 (by omega) hW
    have hC : C G (putR u 1 G) := C_bec e2 hQ.1 (fun a h1 h2 => by rw [u2 a (by omega)]; exact r3.out (by omega) h2) (by rw [u2 40 (by omega)]; exact r3.o40)
    refine ⟨st2 (putR u 1 G) 40 1 (nI 0), ?_, C_tape hC 0, ?_⟩
    · simp (disch := first | omega | decide | assumption | exact nI0_01 | exact nI1_01 | exact bz_01 _ | exact rf1 | exact rf11 | exact rf21) only [Option.bind_some, List.cons_append, List.nil_append, Nat.reduceAdd, Nat.reduceMul, Nat.reduceLeDiff, Nat.reduceEqDiff, ↓reduceIte, n79, u79_0, u79_1, u79_4, u79_5, u79_8, u79_11, u79_12, u79_15, u79_16, u79_19, u79_22, u79_23, u79_24, u79_27, u79_28, u79_31, u79_32, u79_35, u79_38, u79_39, u79_42, u79_43, u79_46, u79_47, e1, r1, nn_lt0, if_false, u1]
      rfl
    · have f1 : fC w (putR u 1 G) := fun a ha => by
        rw [putR_ne _ _ (by omega), u2 a (by omega), r3.out (by omega) (by omega)]; exact e3 a ha
      exact f1.st (by omega) _ _
