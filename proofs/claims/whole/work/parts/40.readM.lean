/-! ITEMS: WHAT THEY KEEP -/
def Qs (G G' : Gs) : Prop := (∀ c, 10 ≤ c → G' c = G c) ∧ (Iv G → Iv G') ∧ G' 9 = G 9 ∧ G 0 0 ≤ G' 0 0 ∧ G' 0 1 = G 0 1
theorem Qs.rf (G : Gs) : Qs G G := ⟨fun _ _ => rfl, id, rfl, Nat.le_refl _, rfl⟩
theorem Qs.tr {G G' G'' : Gs} (h : Qs G G') (h' : Qs G' G'') : Qs G G'' := ⟨fun c hc => (h'.1 c hc).trans (h.1 c hc), fun q => h'.2.1 (h.2.1 q), h'.2.2.1.trans h.2.2.1, Nat.le_trans h.2.2.2.1 h'.2.2.2.1, h'.2.2.2.2.trans h.2.2.2.2⟩
theorem Qs.up {G : Gs} {c k v : Nat} (h1 : c ≠ 0) (h2 : c < 9) (h3 : Iv G → Iv (up G c k v)) : Qs G (up G c k v) := by
  refine ⟨up_r (by omega), h3, ?_, ?_, up_nc _ (by omega)⟩
  · funext j; rw [up_nc _ (by omega)]
  · rw [up_nc _ (by omega)]; exact Nat.le_refl _
theorem Iv.comes {G : Gs} (h : Iv G) (hN : G 0 0 < 8) {k d f : Nat} (hk : k < 7) (hd : d ≤ 9999) (hf : f ≤ 99) : Iv (comes G k d f) := by
  have h5 := ((((h.uw (c := 4) (k := G 0 0) (v := k) (Or.inl ⟨rfl, hk⟩)).uw (c := 5) (k := G 0 0) (v := d) (Or.inr (Or.inl ⟨rfl, hd⟩))).uw (c := 6) (k := G 0 0) (v := 0) (Or.inr (Or.inr (Or.inl ⟨rfl, by omega⟩)))).uw (c := 7) (k := G 0 0) (v := f) (Or.inr (Or.inr (Or.inr (Or.inl ⟨rfl, hf⟩))))).uw (c := 8) (k := G 0 0) (v := 0) (Or.inr (Or.inr (Or.inr (Or.inr ⟨rfl, by omega⟩))))
  obtain ⟨a0, a1, a2, a3, a4⟩ := h5
  unfold Jvm.Pilot.@@N@@.comes
  refine ⟨by rw [up_at]; omega, fun a ha => by rw [up_nc _ (by omega)]; exact a1 a ha, fun a ha => by rw [up_nc _ (by omega)]; exact a2 a ha, fun a ha => by rw [up_nc _ (by omega)]; exact a3 a ha, fun a ha => ?_⟩
  rw [up_nc _ (by omega), up_nc _ (by omega), up_nc _ (by omega), up_nc _ (by omega), up_nc _ (by omega)]
  exact a4 a ha
theorem Qs.comes {G : Gs} (hN : G 0 0 < 8) {k d f : Nat} (hk : k < 7) (hd : d ≤ 9999) (hf : f ≤ 99) : Qs G (comes G k d f) := by
  refine ⟨comes_r, fun h => h.comes hN hk hd hf, ?_, by rw [comes_0]; omega, ?_⟩
  · unfold Jvm.Pilot.@@N@@.comes
    funext j
    rw [up_nc _ (by omega), up_nc _ (by omega), up_nc _ (by omega), up_nc _ (by omega), up_nc _ (by omega), up_nc _ (by omega)]
  · unfold Jvm.Pilot.@@N@@.comes
    rw [up_nk _ (by omega), up_nc _ (by omega), up_nc _ (by omega), up_nc _ (by omega), up_nc _ (by omega), up_nc _ (by omega)]
theorem nOk_le {t : Tk} {hi : Nat} (h : nOk t hi = true) : t.1 = 2 ∧ t.2.2.2 ≤ hi := by
  simpa [nOk] using h
theorem prh_Q {n : Nat} {B : Nat → Nat} {c : Bool} {t : Tk} {hi : Nat} {F : Nat → Gs} {G : Gs} (ht : tko n t) (hF : ∀ v, v ≤ hi → Qs G (F v)) {G' : Gs} {t' : Tk} (h : prh n B c t hi F G = .inr (G', t')) : Qs G G' ∧ tko n t' ∧ t.2.1 ≤ t'.2.1 := by
  unfold prh at h
  by_cases h1 : c = true
  · rw [if_pos h1] at h
    by_cases h2 : nOk (nxt n B t) hi = true
    · rw [if_pos h2] at h
      have e := Sum.inr.inj h
      have e1 : F (nxt n B t).2.2.2 = G' := congrArg Prod.fst e
      have e2 : nxt n B (nxt n B t) = t' := congrArg Prod.snd e
      rw [← e1, ← e2]
      have k1 := tko_n (B := B) ht
      have i1 := tok_in n B ht.2.1
      have i2 := tok_in n B k1.2.1
      refine ⟨hF _ (nOk_le h2).2, tko_n k1, ?_⟩
      have a1 := ht.1
      have a2 : t.2.2.1 ≤ (nxt n B t).2.1 := i1.1
      have a3 := k1.1
      have a4 : (nxt n B t).2.2.1 ≤ (nxt n B (nxt n B t)).2.1 := i2.1
      omega
    · rw [if_neg h2] at h; exact absurd h (by simp)
  · rw [if_neg h1] at h
    have e := Sum.inr.inj h
    have e1 : G = G' := congrArg Prod.fst e
    have e2 : t = t' := congrArg Prod.snd e
    rw [← e1, ← e2]
    exact ⟨Qs.rf G, ht, Nat.le_refl _⟩
theorem sb_inr {x : Pr} {f : Gs → Tk → Pr} {r : Gs × Tk} (h : sb x f = .inr r) : ∃ G t, x = .inr (G, t) ∧ f G t = .inr r := by
  cases x with
  | inl p => exact absurd h (by simp [sb])
  | inr q => exact ⟨q.1, q.2, rfl, h⟩
theorem nxt_ge {n : Nat} {B : Nat → Nat} {t : Tk} (ht : tko n t) : t.2.1 ≤ (nxt n B t).2.1 := by
  have i1 := tok_in n B ht.2.1
  have a1 := ht.1
  have a2 : t.2.2.1 ≤ (nxt n B t).2.1 := i1.1
  omega
theorem fishS_Q {n : Nat} {B : Nat → Nat} {G : Gs} {t : Tk} (ht : tko n t) {G' : Gs} {t' : Tk} (h : fishS n B G t = .inr (G', t')) : Qs G G' ∧ tko n t' ∧ (nxt n B t).2.1 ≤ t'.2.1 := by
  unfold fishS at h
  by_cases h1 : nOk (nxt n B t) 5 = true
  · rw [if_pos h1] at h
    obtain ⟨G1, t1, h2, h3⟩ := sb_inr h
    have q1 := prh_Q (tko_n ht) (fun v hv => Qs.up (by omega) (by omega) (fun z => z.u2 hv)) h2
    have q2 := prh_Q q1.2.1 (fun v hv => Qs.up (by omega) (by omega) (fun z => z.u3 hv)) h3
    exact ⟨q1.1.tr q2.1, q2.2.1, Nat.le_trans q1.2.2 q2.2.2⟩
  · rw [if_neg h1] at h; exact absurd h (by simp)
theorem jarS_Q {n : Nat} {B : Nat → Nat} {G : Gs} {t : Tk} (ht : tko n t) {G' : Gs} {t' : Tk} (h : jarS n B G t = .inr (G', t')) : Qs G G' ∧ tko n t' ∧ (nxt n B t).2.1 ≤ t'.2.1 := by
  unfold jarS at h
  by_cases h1 : nOk (nxt n B t) 9 = true
  · rw [if_pos h1] at h
    exact prh_Q (tko_n ht) (fun v hv => Qs.up (by omega) (by omega) (fun z => z.u1 hv)) h
  · rw [if_neg h1] at h; exact absurd h (by simp)
theorem wrS_Q {n : Nat} {B : Nat → Nat} {G : Gs} {kd : Nat} {t : Tk} (ht : tko n t) (hN : G 0 0 ≤ 8) (hk : kd < 7) {G' : Gs} {t' : Tk} (h : wrS n B kd G t = .inr (G', t')) : Qs G G' ∧ tko n t' ∧ (nxt n B t).2.1 ≤ t'.2.1 := by
  unfold wrS at h
  by_cases h1 : G 0 0 = 8
  · rw [if_pos h1] at h; exact absurd h (by simp)
  · rw [if_neg h1] at h
    obtain ⟨G1, t1, h2, h3⟩ := sb_inr h
    have q0 := Qs.comes (G := G) (k := kd) (d := 0) (f := 30) (by omega) hk (by omega) (by omega)
    have q1 := prh_Q (tko_n ht) (fun v hv => Qs.up (by omega) (by omega) (fun z => z.uw (Or.inr (Or.inl ⟨rfl, hv⟩)))) h2
    have q2 := prh_Q q1.2.1 (fun v hv => Qs.up (by omega) (by omega) (fun z => z.uw (Or.inr (Or.inr (Or.inr (Or.inl ⟨rfl, hv⟩)))))) h3
    exact ⟨(q0.tr q1.1).tr q2.1, q2.2.1, Nat.le_trans q1.2.2 q2.2.2⟩
theorem itS_Q {n : Nat} {B : Nat → Nat} {G : Gs} {t : Tk} (ht : tko n t) (hN : G 0 0 ≤ 8) {G' : Gs} {t' : Tk} (h : itS n B G t = .inr (G', t')) : Qs G G' ∧ tko n t' ∧ (nxt n B t).2.1 ≤ t'.2.1 := by
  unfold itS at h
  by_cases h1 : kdH B t < 7
  · rw [if_pos h1] at h; exact wrS_Q ht hN h1 h
  · rw [if_neg h1] at h
    by_cases h2 : isN B [102, 105, 115, 104] t = true
    · rw [if_pos h2] at h; exact fishS_Q ht h
    · rw [if_neg h2] at h
      by_cases h3 : isN B [106, 97, 114] t = true
      · rw [if_pos h3] at h; exact jarS_Q ht h
      · rw [if_neg h3] at h; exact absurd h (by simp)
/-! THE REFERENCE READS -/
theorem rs_inl {w : Wd} {x : Pr} {p : Nat} {r : Int32} {W : Wd} (hx : x = .inl p) (h : rs w x r W) : r = nI 0 ∧ ∃ (t : Tk) (G : Gs), TS w t (nI p) G W := by rw [hx] at h; exact h
theorem rs_inr {w : Wd} {x : Pr} {G : Gs} {t : Tk} {r : Int32} {W : Wd} (hx : x = .inr (G, t)) (h : rs w x r W) : r = nI 1 ∧ ∃ fa, TS w t fa G W := by rw [hx] at h; exact h
theorem TS.two {w : Wd} {n : Nat} {B : Nat → Nat} (hE : Env w n B) {x : Pr} {f : Gs → Tk → Pr} {r : Int32} {W : Wd} (h : rs w x r W) (hx : ∀ G t, x = .inr (G, t) → tko n t) {M pcf pc1 : Nat} {L : Lc} (e0 : r = nI 0 → RUN M pc1 L [] [.int r] W = some ([.int (nI 0)], W)) (e1 : ∀ G t fa, x = .inr (G, t) → TS w t fa G W → r = nI 1 → ∃ r' W', RUN M pc1 L [] [.int r] W = some ([.int r'], W') ∧ rs w (f G t) r' W') : ∃ r' W', RUN M pc1 L [] [.int r] W = some ([.int r'], W') ∧ rs w (sb x f) r' W' := by
  cases x with
  | inl p =>
    obtain ⟨h1, h2⟩ := h
    exact ⟨nI 0, W, e0 h1, rfl, h2⟩
  | inr q =>
    obtain ⟨h1, fa, h2⟩ := h
    exact e1 q.1 q.2 fa rfl h2 h1
theorem TS.fishHere {w : Wd} {n : Nat} {B : Nat → Nat} (hE : Env w n B) {t : Tk} {fa : Int32} {G : Gs} {W : Wd} (h : TS w t fa G W) (ht : tko n t) : ∃ r W', CALL 184 [.ref 44] W = some ([.int r], W') ∧ rs w (fishS n B G t) r W' := by
  obtain ⟨W1, n1, n2⟩ := h.next hE ht
  have ht1 := tko_n (B := B) ht
  obtain ⟨W2, c1, c2, c3⟩ := n2.num ht1.2.2.1 (hi := 5) (by omega)
  unfold fishS
  cases q : nOk (nxt n B t) 5 with
  | false =>
    rw [if_neg (by decide)]
    rw [q] at c1
    refine ⟨nI 0, W2, ?_, rfl, _, _, c3 q⟩
    simp (disch := first | omega | decide | exact nI0_01 | exact nI1_01 | exact bz_01 _) only [Option.bind_some, List.cons_append, List.nil_append, Nat.reduceAdd, Nat.reduceMul, Nat.reduceLeDiff, Nat.reduceEqDiff, ↓reduceIte, n184, u184_0, u184_1, u184_4, u184_5, u184_6, u184_7, u184_10, u184_13, u184_14, u184_15, u184_16, u184_19, u184_20, u184_21, u184_22, u184_24, u184_25, u184_26, u184_29, u184_32, u184_35, u184_36, u184_37, u184_39, u184_41, u184_43, u184_45, u184_47, u184_50, u184_52, u184_53, u184_54, u184_56, u184_59, u184_62, u184_63, u184_66, u184_67, bz_t, bz_f, nn_eq0, nn_eq, eq_self, not_true_eq_false, not_false_eq_true, n1, c1]
  | true =>
    rw [if_pos rfl]
    rw [q] at c1
    obtain ⟨d1, d2⟩ := c2 q
    have hv := (nOk_le q).2
    obtain ⟨r1, W3, p1, p2⟩ := d1.perhaps hE ht1 (c := true) (p := 13 + (nxt n B t).2.2.2) (hi := 999) (F := fun v => up G 2 (nxt n B t).2.2.2 v) (by omega) (by omega) (fun X v => putS_s2 X G (by omega))
    rw [bz_t] at p1
    obtain ⟨r2, W4, f1, f2⟩ := TS.two (M := 184) (pc1 := 32) (L := [some (.ref 44), some (.int (nI (nxt n B t).2.2.2))]) (pcf := 0) (f := fun G' t' => prh n B (isN B [99, 97, 116, 99, 104] t') t' 20 (fun v => up G' 3 (nxt n B t).2.2.2 v) G') hE p2 (fun G' t' z => (prh_Q ht1 (fun v hv => Qs.up (by omega) (by omega) (fun z => z.u2 hv)) z).2.1) (fun e => by subst e; simp (disch := first | omega | decide | exact nI0_01 | exact nI1_01 | exact bz_01 _) only [Option.bind_some, List.cons_append, List.nil_append, Nat.reduceAdd, Nat.reduceMul, Nat.reduceLeDiff, Nat.reduceEqDiff, ↓reduceIte, n184, u184_0, u184_1, u184_4, u184_5, u184_6, u184_7, u184_10, u184_13, u184_14, u184_15, u184_16, u184_19, u184_20, u184_21, u184_22, u184_24, u184_25, u184_26, u184_29, u184_32, u184_35, u184_36, u184_37, u184_39, u184_41, u184_43, u184_45, u184_47, u184_50, u184_52, u184_53, u184_54, u184_56, u184_59, u184_62, u184_63, u184_66, u184_67, bz_t, bz_f, nn_eq0, nn_eq, eq_self, not_true_eq_false, not_false_eq_true]) (fun G' t' fa' z z2 e => by
      subst e
      have ht' := (prh_Q ht1 (fun v hv => Qs.up (by omega) (by omega) (fun z => z.u2 hv)) z).2.1
      have g1 := z2.five hE ht' (a := 99) (b := 97) (c := 116) (d := 99) (e := 104) (by omega) (by omega) (by omega) (by omega) (by omega)
      obtain ⟨r3, W5, g2, g3⟩ := z2.perhaps hE ht' (c := isN B [99, 97, 116, 99, 104] t') (p := 19 + (nxt n B t).2.2.2) (hi := 20) (F := fun v => up G' 3 (nxt n B t).2.2.2 v) (by omega) (by omega) (fun X v => putS_s3 X G' (by omega))
      have hr : r3 = nI 0 ∨ r3 = nI 1 := by
        unfold rs at g3
        split at g3
        · exact Or.inl g3.1
        · exact Or.inr g3.1
      refine ⟨r3, W5, ?_, g3⟩
      rcases hr with hr | hr <;> subst hr <;> simp (disch := first | omega | decide | exact nI0_01 | exact nI1_01 | exact bz_01 _) only [Option.bind_some, List.cons_append, List.nil_append, Nat.reduceAdd, Nat.reduceMul, Nat.reduceLeDiff, Nat.reduceEqDiff, ↓reduceIte, n184, u184_0, u184_1, u184_4, u184_5, u184_6, u184_7, u184_10, u184_13, u184_14, u184_15, u184_16, u184_19, u184_20, u184_21, u184_22, u184_24, u184_25, u184_26, u184_29, u184_32, u184_35, u184_36, u184_37, u184_39, u184_41, u184_43, u184_45, u184_47, u184_50, u184_52, u184_53, u184_54, u184_56, u184_59, u184_62, u184_63, u184_66, u184_67, bz_t, bz_f, nn_eq0, nn_eq, eq_self, not_true_eq_false, not_false_eq_true, g1, nI_add, g2])
    refine ⟨r2, W4, ?_, f2⟩
    simp (disch := first | omega | decide | exact nI0_01 | exact nI1_01 | exact bz_01 _) only [Option.bind_some, List.cons_append, List.nil_append, Nat.reduceAdd, Nat.reduceMul, Nat.reduceLeDiff, Nat.reduceEqDiff, ↓reduceIte, u184_0, u184_1, u184_4, u184_5, u184_6, u184_7, u184_10, u184_13, u184_14, u184_15, u184_16, u184_19, u184_20, u184_21, u184_22, u184_24, u184_25, u184_26, u184_29, n184, bz_t, bz_f, nn_eq0, nn_eq, eq_self, not_true_eq_false, not_false_eq_true, n1, c1, d2, nI_add, p1]
    exact f1
theorem rs_01 {w : Wd} {x : Pr} {r : Int32} {W : Wd} (h : rs w x r W) : r = nI 0 ∨ r = nI 1 := by
  unfold rs at h
  split at h
  · exact Or.inl h.1
  · exact Or.inr h.1
theorem TS.jarHere {w : Wd} {n : Nat} {B : Nat → Nat} (hE : Env w n B) {t : Tk} {fa : Int32} {G : Gs} {W : Wd} (h : TS w t fa G W) (ht : tko n t) : ∃ r W', CALL 185 [.ref 44] W = some ([.int r], W') ∧ rs w (jarS n B G t) r W' := by
  obtain ⟨W1, n1, n2⟩ := h.next hE ht
  have ht1 := tko_n (B := B) ht
  obtain ⟨W2, c1, c2, c3⟩ := n2.num ht1.2.2.1 (hi := 9) (by omega)
  unfold jarS
  cases q : nOk (nxt n B t) 9 with
  | false =>
    rw [if_neg (by decide)]
    rw [q] at c1
    refine ⟨nI 0, W2, ?_, rfl, _, _, c3 q⟩
    simp (disch := first | omega | decide | exact nI0_01 | exact nI1_01 | exact bz_01 _) only [Option.bind_some, List.cons_append, List.nil_append, Nat.reduceAdd, Nat.reduceMul, Nat.reduceLeDiff, Nat.reduceEqDiff, ↓reduceIte, n185, u185_0, u185_1, u185_4, u185_5, u185_6, u185_8, u185_11, u185_14, u185_15, u185_16, u185_17, u185_18, u185_21, u185_22, u185_25, u185_28, u185_31, u185_32, u185_35, u185_36, bz_t, bz_f, nn_eq0, nn_eq, eq_self, not_true_eq_false, not_false_eq_true, n1, c1]
  | true =>
    rw [if_pos rfl]
    rw [q] at c1
    obtain ⟨d1, d2⟩ := c2 q
    have hv := (nOk_le q).2
    obtain ⟨r1, W3, p1, p2⟩ := d1.perhaps hE ht1 (c := true) (p := 3 + (nxt n B t).2.2.2) (hi := 999) (F := fun v => up G 1 (nxt n B t).2.2.2 v) (by omega) (by omega) (fun X v => putS_s1 X G (by omega))
    rw [bz_t] at p1
    refine ⟨r1, W3, ?_, p2⟩
    rcases rs_01 p2 with hr | hr <;> subst hr <;> simp (disch := first | omega | decide | exact nI0_01 | exact nI1_01 | exact bz_01 _) only [Option.bind_some, List.cons_append, List.nil_append, Nat.reduceAdd, Nat.reduceMul, Nat.reduceLeDiff, Nat.reduceEqDiff, ↓reduceIte, n185, u185_0, u185_1, u185_4, u185_5, u185_6, u185_8, u185_11, u185_14, u185_15, u185_16, u185_17, u185_18, u185_21, u185_22, u185_25, u185_28, u185_31, u185_32, u185_35, u185_36, bz_t, bz_f, nn_eq0, nn_eq, eq_self, not_true_eq_false, not_false_eq_true, n1, c1, d2, nI_add, p1]
theorem TS.writerHere {w : Wd} {n : Nat} {B : Nat → Nat} (hE : Env w n B) {t : Tk} {fa : Int32} {G : Gs} {W : Wd} {kd : Nat} (h : TS w t fa G W) (ht : tko n t) (hN : G 0 0 ≤ 8) (hk : kd < 7) : ∃ r W', CALL 183 [.ref 44, .int (nI kd)] W = some ([.int r], W') ∧ rs w (wrS n B kd G t) r W' := by
  unfold wrS
  have h0 := h
  obtain ⟨vm, v1, rfl⟩ := h
  by_cases q : G 0 0 = 8
  · rw [if_pos q]
    obtain ⟨W1, f1, f2⟩ := h0.fails
    refine ⟨nI 0, W1, ?_, rfl, _, _, f2⟩
    simp (disch := first | omega | decide | exact nI0_01 | exact nI1_01 | exact bz_01 _) only [Option.bind_some, List.cons_append, List.nil_append, Nat.reduceAdd, Nat.reduceMul, Nat.reduceLeDiff, Nat.reduceEqDiff, ↓reduceIte, n183, u183_0, u183_1, u183_4, u183_5, u183_6, u183_8, u183_11, u183_12, u183_15, u183_16, u183_17, u183_18, u183_19, u183_22, u183_23, u183_26, u183_27, u183_28, u183_29, u183_30, u183_31, u183_32, u183_35, u183_36, u183_37, u183_39, u183_41, u183_43, u183_45, u183_48, u183_49, u183_50, u183_53, u183_56, u183_59, u183_62, u183_63, u183_64, u183_65, u183_68, u183_71, u183_72, u183_73, u183_75, u183_77, u183_79, u183_82, u183_85, u183_86, u183_89, u183_90, u183_91, u183_92, u183_95, u183_97, u183_100, u183_103, u183_104, u183_107, u183_108, putS_0, q, bz_t, bz_f, nn_eq0, nn_eq, eq_self, not_true_eq_false, not_false_eq_true, f1]
  · rw [if_neg q]
    have hN' : G 0 0 < 8 := by omega
    have hC := x_comes (k := kd) (d := 0) (w := TW w t.1 t.2.1 t.2.2.1 vm fa) hN'
    have h1 : TS w t fa (comes G kd 0 30) (putS (TW w t.1 t.2.1 t.2.2.1 vm fa) (comes G kd 0 30)) := ⟨vm, v1, rfl⟩
    have q0 := Qs.comes (G := G) (k := kd) (d := 0) (f := 30) hN' hk (by omega) (by omega)
    obtain ⟨W1, n1, n2⟩ := h1.next hE ht
    have ht1 := tko_n (B := B) ht
    have g0 := n2.four hE ht1 (a := 119) (b := 111) (c := 114) (d := 100) (by omega) (by omega) (by omega) (by omega)
    obtain ⟨r1, W3, p1, p2⟩ := n2.perhaps hE ht1 (c := isN B [119, 111, 114, 100] (nxt n B t)) (p := 25 + 5 * G 0 0 + 1) (hi := 9999) (F := fun v => up (comes G kd 0 30) 5 (G 0 0) v) (by omega) (by omega) (fun X v => putS_sw X _ hN' (by omega))
    obtain ⟨r2, W4, f1, f2⟩ := TS.two (M := 183) (pc1 := 59) (L := [some (.ref 44), some (.int (nI kd)), some (.int (nI (G 0 0)))]) (pcf := 0) (f := fun G' t' => prh n B (isN B [102, 97, 116] t') t' 99 (fun v => up G' 7 (G 0 0) v) G') hE p2 (fun G' t' z => (prh_Q ht1 (fun v hv => Qs.up (by omega) (by omega) (fun z => z.uw (Or.inr (Or.inl ⟨rfl, hv⟩)))) z).2.1) (fun e => by subst e; simp (disch := first | omega | decide | exact nI0_01 | exact nI1_01 | exact bz_01 _) only [Option.bind_some, List.cons_append, List.nil_append, Nat.reduceAdd, Nat.reduceMul, Nat.reduceLeDiff, Nat.reduceEqDiff, ↓reduceIte, u183_59, u183_62, u183_63, u183_64, u183_65, u183_68, u183_71, u183_72, u183_73, u183_75, u183_77, u183_79, u183_82, u183_85, u183_86, u183_89, u183_90, u183_91, u183_92, u183_95, u183_97, u183_100, u183_103, u183_104, u183_107, u183_108, bz_t, bz_f, nn_eq0, nn_eq, eq_self, not_true_eq_false, not_false_eq_true]) (fun G' t' fa' z z2 e => by
      subst e
      have ht' := (prh_Q ht1 (fun v hv => Qs.up (by omega) (by omega) (fun z => z.uw (Or.inr (Or.inl ⟨rfl, hv⟩)))) z).2.1
      obtain ⟨r3, W5, g2, g3⟩ := z2.perhaps hE ht' (c := isN B [102, 97, 116] t') (p := 25 + 5 * G 0 0 + 3) (hi := 99) (F := fun v => up G' 7 (G 0 0) v) (by omega) (by omega) (fun X v => putS_sw X G' hN' (by omega))
      have gW := z2.isWord (L := 3) ht' hE.2.2.1 (by omega)
      refine ⟨r3, W5, ?_, g3⟩
      by_cases hw : t'.1 = 1 ∧ t'.2.2.1 = t'.2.1 + 3
      · rw [wd_ye hw] at gW
        have ht2 := ht'.2.1
        have g1 := z2.has3 hE (i := 0) (a := 102) (b := 97) (c := 116) (by omega) (by omega) (by omega) (by omega)
        have ef : isN B [102, 97, 116] t' = _ := (isN_ye (s := [102, 97, 116]) hw).trans mtc_3
        rw [← ef] at g1
        rcases rs_01 g3 with hr | hr <;> subst hr <;> cases hb : isN B [102, 97, 116] t' <;> rw [hb] at g1 g2 <;> simp only [bz_f, bz_t] at g2 <;> simp (disch := first | omega | decide | exact nI0_01 | exact nI1_01 | exact bz_01 _) only [Option.bind_some, List.cons_append, List.nil_append, Nat.reduceAdd, Nat.reduceMul, Nat.reduceLeDiff, Nat.reduceEqDiff, ↓reduceIte, u183_59, u183_62, u183_63, u183_64, u183_65, u183_68, u183_71, u183_72, u183_73, u183_75, u183_77, u183_79, u183_82, u183_85, u183_86, u183_89, u183_90, u183_91, u183_92, u183_95, u183_97, u183_100, u183_103, u183_104, u183_107, u183_108, bz_t, bz_f, nn_eq0, nn_eq, eq_self, not_true_eq_false, not_false_eq_true, gW, g1, x_at, g2, Bool.false_eq_true, if_false, if_true]
      · rw [wd_no hw] at gW
        have ef : isN B [102, 97, 116] t' = false := isN_no (s := [102, 97, 116]) hw
        rw [ef, bz_f] at g2
        rcases rs_01 g3 with hr | hr <;> subst hr <;> simp (disch := first | omega | decide | exact nI0_01 | exact nI1_01 | exact bz_01 _) only [Option.bind_some, List.cons_append, List.nil_append, Nat.reduceAdd, Nat.reduceMul, Nat.reduceLeDiff, Nat.reduceEqDiff, ↓reduceIte, u183_59, u183_62, u183_63, u183_64, u183_65, u183_68, u183_71, u183_72, u183_73, u183_75, u183_77, u183_79, u183_82, u183_85, u183_86, u183_89, u183_90, u183_91, u183_92, u183_95, u183_97, u183_100, u183_103, u183_104, u183_107, u183_108, bz_t, bz_f, nn_eq0, nn_eq, eq_self, not_true_eq_false, not_false_eq_true, gW, x_at, g2])
    refine ⟨r2, W4, ?_, f2⟩
    simp (disch := first | omega | decide | exact nI0_01 | exact nI1_01 | exact bz_01 _) only [Option.bind_some, List.cons_append, List.nil_append, Nat.reduceAdd, Nat.reduceMul, Nat.reduceLeDiff, Nat.reduceEqDiff, ↓reduceIte, u183_0, u183_1, u183_4, u183_5, u183_6, u183_8, u183_11, u183_12, u183_15, u183_16, u183_17, u183_18, u183_19, u183_22, u183_23, u183_26, u183_27, u183_28, u183_29, u183_30, u183_31, u183_32, u183_35, u183_36, u183_37, u183_39, u183_41, u183_43, u183_45, u183_48, u183_49, u183_50, u183_53, u183_56, n183, putS_0, nn_eq, q, not_false_eq_true, if_true, hC, comes_0, nn_sub, Nat.add_sub_cancel, n1, g0, x_at, p1]
    exact f1
