/-! SHEETS OF THE COMPONENT -/
theorem sh_at {t : Nat} (h : t < 4) : shB (32 + 2 * t) := by
  unfold shB; omega
theorem C.sbits {A : Gs} {w : Wd} (h : C A w) {t : Nat} (ht : t < 4) : w.1 (32 + 2 * t) 2 = nI (A 23 t) := h.2.2.2.2.2.2.1 t ht
theorem C.ssize {A : Gs} {w : Wd} (h : C A w) {t : Nat} (ht : t < 4) : w.1 (32 + 2 * t) 1 = nI (A 24 t) := h.2.2.2.2.2.2.2.1 t ht
theorem C.snum {A : Gs} {w : Wd} (h : C A w) {t k : Nat} (ht : t < 4) (hk : k < 40) : w.1 (32 + 2 * t + 1) k = nI (A (25 + t) k) := by
  rw [show 32 + 2 * t + 1 = 33 + 2 * t by omega]
  exact h.2.2.2.2.2.2.2.2 t k ht hk
theorem C_sbit {A : Gs} {w : Wd} (h : C A w) {i : Nat} (hi : i < 4) (v : Nat) : C (up A 23 i v) (st2 w (32 + 2 * i) 2 (nI v)) := by
  refine C_gen h (up_lo A (by omega)) (fun a ha => st2_ne _ _ _ (by omega)) (fun z => by rw [up_nc _ (by omega)] at z; exact z) ?_ ?_ (fun k hk => ?_) (fun k hk => ?_) (fun t ht => ?_) (fun t ht => ?_) (fun t k ht hk => ?_)
  · rw [st2_ne _ _ _ (by omega), up_nc _ (by omega)]; exact h.2.1
  · rw [st2_ne _ _ _ (by omega), up_nc _ (by omega)]; exact h.2.2.1
  · rw [st2_ne _ _ _ (by omega), up_nc _ (by omega)]; exact h.2.2.2.2.1 k hk
  · rw [st2_ne _ _ _ (by omega), up_nc _ (by omega)]; exact h.2.2.2.2.2.1 k hk
  · by_cases q : t = i
    · subst q; rw [st2_at, up_at]
    · rw [st2_ne _ _ _ (by omega), up_nk _ q]; exact h.2.2.2.2.2.2.1 t ht
  · rw [up_nc _ (by omega)]
    by_cases q : t = i
    · subst q; rw [st2_nk _ _ _ (by omega)]; exact h.2.2.2.2.2.2.2.1 t ht
    · rw [st2_ne _ _ _ (by omega)]; exact h.2.2.2.2.2.2.2.1 t ht
  · rw [st2_ne _ _ _ (by omega), up_nc _ (by omega)]; exact h.2.2.2.2.2.2.2.2 t k ht hk
theorem C_ssiz {A : Gs} {w : Wd} (h : C A w) {i : Nat} (hi : i < 4) (v : Nat) : C (up A 24 i v) (st2 w (32 + 2 * i) 1 (nI v)) := by
  refine C_gen h (up_lo A (by omega)) (fun a ha => st2_ne _ _ _ (by omega)) (fun z => by rw [up_nc _ (by omega)] at z; exact z) ?_ ?_ (fun k hk => ?_) (fun k hk => ?_) (fun t ht => ?_) (fun t ht => ?_) (fun t k ht hk => ?_)
  · rw [st2_ne _ _ _ (by omega), up_nc _ (by omega)]; exact h.2.1
  · rw [st2_ne _ _ _ (by omega), up_nc _ (by omega)]; exact h.2.2.1
  · rw [st2_ne _ _ _ (by omega), up_nc _ (by omega)]; exact h.2.2.2.2.1 k hk
  · rw [st2_ne _ _ _ (by omega), up_nc _ (by omega)]; exact h.2.2.2.2.2.1 k hk
  · rw [up_nc _ (by omega)]
    by_cases q : t = i
    · subst q; rw [st2_nk _ _ _ (by omega)]; exact h.2.2.2.2.2.2.1 t ht
    · rw [st2_ne _ _ _ (by omega)]; exact h.2.2.2.2.2.2.1 t ht
  · by_cases q : t = i
    · subst q; rw [st2_at, up_at]
    · rw [st2_ne _ _ _ (by omega), up_nk _ q]; exact h.2.2.2.2.2.2.2.1 t ht
  · rw [st2_ne _ _ _ (by omega), up_nc _ (by omega)]; exact h.2.2.2.2.2.2.2.2 t k ht hk
theorem C_snm {A : Gs} {w : Wd} (h : C A w) {i : Nat} (hi : i < 4) {j v : Nat} {x : Int32} (hx : x = nI v) : C (up A (25 + i) j v) (st2 w (32 + 2 * i + 1) j x) := by
  subst hx
  refine C_gen h (up_lo A (by omega)) (fun a ha => st2_ne _ _ _ (by omega)) (fun z => by rw [up_nc _ (by omega)] at z; exact z) ?_ ?_ (fun k hk => ?_) (fun k hk => ?_) (fun t ht => ?_) (fun t ht => ?_) (fun t k ht hk => ?_)
  · rw [st2_ne _ _ _ (by omega), up_nc _ (by omega)]; exact h.2.1
  · rw [st2_ne _ _ _ (by omega), up_nc _ (by omega)]; exact h.2.2.1
  · rw [st2_ne _ _ _ (by omega), up_nc _ (by omega)]; exact h.2.2.2.2.1 k hk
  · rw [st2_ne _ _ _ (by omega), up_nc _ (by omega)]; exact h.2.2.2.2.2.1 k hk
  · rw [st2_ne _ _ _ (by omega), up_nc _ (by omega)]; exact h.2.2.2.2.2.2.1 t ht
  · rw [st2_ne _ _ _ (by omega), up_nc _ (by omega)]; exact h.2.2.2.2.2.2.2.1 t ht
  · by_cases q : t = i
    · subst q
      rw [show 33 + 2 * t = 32 + 2 * t + 1 by omega]
      by_cases q2 : k = j
      · subst q2; rw [st2_at, up_at]
      · rw [st2_nk _ _ _ q2, up_nk _ q2]; exact h.snum ht hk
    · rw [st2_ne _ _ _ (by omega), up_nc _ (by omega)]; exact h.2.2.2.2.2.2.2.2 t k ht hk
theorem c_isMissing {o b : Nat} {w : Wd} (ho : shB o) (h : w.1 o 2 = nI b) (hb : b < 100) : CALL 28 [.ref o] w = some ([.int (bz (decide (b = 0)))], w) := by
  by_cases h0 : b = 0
  · simp (disch := first | omega | decide | assumption | exact nI0_01 | exact nI1_01 | exact bz_01 _ | exact rf1 | exact rf11 | exact rf21) only [Option.bind_some, List.cons_append, List.nil_append, Nat.reduceAdd, Nat.reduceMul, Nat.reduceLeDiff, Nat.reduceEqDiff, ↓reduceIte, n28, u28_0, u28_1, u28_4, u28_7, u28_8, u28_11, u28_12, h, nn_eq0, h0, not_true_eq_false, decide_true, bz_t, if_true, if_false]
  · simp (disch := first | omega | decide | assumption | exact nI0_01 | exact nI1_01 | exact bz_01 _ | exact rf1 | exact rf11 | exact rf21) only [Option.bind_some, List.cons_append, List.nil_append, Nat.reduceAdd, Nat.reduceMul, Nat.reduceLeDiff, Nat.reduceEqDiff, ↓reduceIte, n28, u28_0, u28_1, u28_4, u28_7, u28_8, u28_11, u28_12, h, nn_eq0, h0, not_false_eq_true, decide_false, bz_f, if_true, if_false]
theorem bits_lt {A : Gs} (hS : Shs A) {t : Nat} (ht : t < 4) : A 23 t < 100 := by
  rcases (hS t ht).1 with q | q | q | q <;> omega
theorem C.miss {A : Gs} {w : Wd} (h : C A w) (hS : Shs A) {t : Nat} (ht : t < 4) : CALL 28 [.ref (32 + 2 * t)] w = some ([.int (bz (decide (A 23 t = 0)))], w) := c_isMissing (sh_at ht) (h.sbits ht) (bits_lt hS ht)
theorem c_low {o b : Nat} {w : Wd} {v : Int32} (ho : shB o) (h : w.1 o 2 = nI b) (hb : b = 8 ∨ b = 16 ∨ b = 32) : CALL 30 [.ref o, .int v] w = some ([.int (lowb b v)], w) := by
  rcases hb with rfl | rfl | rfl <;> simp (disch := first | omega | decide | assumption | exact nI0_01 | exact nI1_01 | exact bz_01 _ | exact rf1 | exact rf11 | exact rf21) only [Option.bind_some, List.cons_append, List.nil_append, Nat.reduceAdd, Nat.reduceMul, Nat.reduceLeDiff, Nat.reduceEqDiff, ↓reduceIte, n30, u30_0, u30_1, u30_4, u30_6, u30_9, u30_10, u30_11, u30_12, u30_13, u30_16, u30_18, u30_21, u30_22, u30_23, u30_26, u30_27, h, bz_t, bz_f, nn_eq0, nn_eq, eq_self, not_true_eq_false, not_false_eq_true, lowb]
