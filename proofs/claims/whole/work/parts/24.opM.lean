/-! WHAT EACH CALL DOES TO THE WHOLE: rows 0 to 9 the reef, 10 to 19 the image, 20 (whether there is one, size of the tape), 21 the tape, 22 findings, 23 bits, 24 sizes, 25 to 28 the sheets -/
theorem nI_l64 {b : Nat} (h : b < 2147483648) : (nI b).toInt64 = lN b := by
  apply Int64.toInt_inj.mp
  rw [Int32.toInt_toInt64, nI_toInt h, lN_toInt h]
theorem xin_v {x : Int32} {b : Nat} {w : Wd} (hb : b < 2147483648) : CALL 102 [.long x.toInt64, .long 0, .long (nI b).toInt64] w = some ([.int (bz (ok x b))], w) := x_in (nI_l64 hb) hb
theorem xin_1 {x : Int32} {w : Wd} : CALL 102 [.long x.toInt64, .long 0, .long 1] w = some ([.int (bz (ok x 1))], w) := x_in (by decide) (by omega)
theorem xin_2 {x : Int32} {w : Wd} : CALL 102 [.long x.toInt64, .long 0, .long 2] w = some ([.int (bz (ok x 2))], w) := x_in (by decide) (by omega)
theorem xin_3 {x : Int32} {w : Wd} : CALL 102 [.long x.toInt64, .long 0, .long 3] w = some ([.int (bz (ok x 3))], w) := x_in (by decide) (by omega)
theorem xin_4 {x : Int32} {w : Wd} : CALL 102 [.long x.toInt64, .long 0, .long 4] w = some ([.int (bz (ok x 4))], w) := x_in (by decide) (by omega)
theorem xin_5 {x : Int32} {w : Wd} : CALL 102 [.long x.toInt64, .long 0, .long 5] w = some ([.int (bz (ok x 5))], w) := x_in (by decide) (by omega)
theorem xin_6 {x : Int32} {w : Wd} : CALL 102 [.long x.toInt64, .long 0, .long 6] w = some ([.int (bz (ok x 6))], w) := x_in (by decide) (by omega)
theorem xin_7 {x : Int32} {w : Wd} : CALL 102 [.long x.toInt64, .long 0, .long 7] w = some ([.int (bz (ok x 7))], w) := x_in (by decide) (by omega)
theorem xin_9 {x : Int32} {w : Wd} : CALL 102 [.long x.toInt64, .long 0, .long 9] w = some ([.int (bz (ok x 9))], w) := x_in (by decide) (by omega)
theorem xin_20 {x : Int32} {w : Wd} : CALL 102 [.long x.toInt64, .long 0, .long 20] w = some ([.int (bz (ok x 20))], w) := x_in (by decide) (by omega)
theorem xin_40 {x : Int32} {w : Wd} : CALL 102 [.long x.toInt64, .long 0, .long 40] w = some ([.int (bz (ok x 40))], w) := x_in (by decide) (by omega)
theorem xin_99 {x : Int32} {w : Wd} : CALL 102 [.long x.toInt64, .long 0, .long 99] w = some ([.int (bz (ok x 99))], w) := x_in (by decide) (by omega)
theorem xin_100 {x : Int32} {w : Wd} : CALL 102 [.long x.toInt64, .long 0, .long 100] w = some ([.int (bz (ok x 100))], w) := x_in (by decide) (by omega)
theorem xin_999 {x : Int32} {w : Wd} : CALL 102 [.long x.toInt64, .long 0, .long 999] w = some ([.int (bz (ok x 999))], w) := x_in (by decide) (by omega)
theorem xin_9999 {x : Int32} {w : Wd} : CALL 102 [.long x.toInt64, .long 0, .long 9999] w = some ([.int (bz (ok x 9999))], w) := x_in (by decide) (by omega)
theorem xin_1_60 {x : Int32} {w : Wd} : CALL 102 [.long x.toInt64, .long 1, .long 60] w = some ([.int (bz (ok2 x 1 60))], w) := x_isIn (by decide) (by decide) (by omega) (by omega)
theorem xin_1_20 {x : Int32} {w : Wd} : CALL 102 [.long x.toInt64, .long 1, .long 20] w = some ([.int (bz (ok2 x 1 20))], w) := x_isIn (by decide) (by decide) (by omega) (by omega)
theorem xin_1_4 {x : Int32} {w : Wd} : CALL 102 [.long x.toInt64, .long 1, .long 4] w = some ([.int (bz (ok2 x 1 4))], w) := x_isIn (by decide) (by decide) (by omega) (by omega)
theorem xin_2_4 {x : Int32} {w : Wd} : CALL 102 [.long x.toInt64, .long 2, .long 4] w = some ([.int (bz (ok2 x 2 4))], w) := x_isIn (by decide) (by decide) (by omega) (by omega)
theorem rows_st {A A' : Gs} (h : ∀ c, 10 ≤ c → A' c = A c) {c k : Nat} (hc : 10 ≤ c) : A' c k = A c k := congrFun (h c hc) k
def fM (w w' : Wd) : Prop := (∀ a, a < 44 ∨ 54 ≤ a → w'.1 a = w.1 a) ∧ w'.2 = w.2
def M (A : Gs) (w : Wd) : Prop := w.1 45 = rowS A ∧ w.1 44 4 = nI (A 20 0) ∧ w.1 44 7 = nI (A 20 1) ∧ (A 20 0 = 1 → ∀ k, k < 75 → w.1 46 k = nI (lay (fun c => A (10 + c)) k)) ∧ (∀ k, k < 120 → w.1 50 k = nI (A 21 k)) ∧ (∀ k, k < 8 → w.1 49 k = nI (A 22 k)) ∧ (∀ t, t < 4 → w.1 51 t = if A 23 t = 0 then -1 else nI (A 23 t)) ∧ (∀ t, t < 4 → w.1 52 t = nI (A 24 t)) ∧ ∀ t k, t < 4 → k < 40 → w.1 53 (40 * t + k) = nI (A (25 + t) k)
theorem M.row {A : Gs} {w : Wd} (h : M A w) : putS w A = w := put_id w h.1
theorem M_put {A A' : Gs} {w : Wd} (h : M A (putS w A)) (hA : ∀ c, 10 ≤ c → A' c = A c) : M A' (putS w A') := by
  obtain ⟨h1, h2, h3, h4, h5, h6, h7, h8, h9⟩ := h
  have e : ∀ a, a ≠ 45 → (putS w A').1 a = (putS w A).1 a := fun a ha => by rw [putS_ne _ _ ha, putS_ne _ _ ha]
  have hk : (fun c => A' (10 + c)) = fun c => A (10 + c) := funext fun c => hA (10 + c) (by omega)
  refine ⟨put_at _ _ _, ?_, ?_, ?_, ?_, ?_, ?_, ?_, ?_⟩
  · rw [e 44 (by omega), rows_st hA (by omega)]; exact h2
  · rw [e 44 (by omega), rows_st hA (by omega)]; exact h3
  · rw [e 46 (by omega), rows_st hA (by omega), hk]; exact h4
  · rw [e 50 (by omega), hA 21 (by omega)]; exact h5
  · rw [e 49 (by omega), hA 22 (by omega)]; exact h6
  · rw [e 51 (by omega), hA 23 (by omega)]; exact h7
  · rw [e 52 (by omega), hA 24 (by omega)]; exact h8
  · rw [e 53 (by omega)]
    intro t k ht hk
    rw [hA (25 + t) (by omega)]
    exact h9 t k ht hk
theorem M.mv {A : Gs} {w w' : Wd} (h : M A w) (e : ∀ a, 45 ≤ a → a < 54 → a ≠ 47 → a ≠ 48 → w'.1 a = w.1 a) (e4 : w'.1 44 4 = w.1 44 4) (e7 : w'.1 44 7 = w.1 44 7) : M A w' := by
  obtain ⟨h1, h2, h3, h4, h5, h6, h7, h8, h9⟩ := h
  refine ⟨?_, ?_, ?_, ?_, ?_, ?_, ?_, ?_, ?_⟩
  · rw [e 45 (by omega) (by omega) (by omega) (by omega)]; exact h1
  · rw [e4]; exact h2
  · rw [e7]; exact h3
  · rw [e 46 (by omega) (by omega) (by omega) (by omega)]; exact h4
  · rw [e 50 (by omega) (by omega) (by omega) (by omega)]; exact h5
  · rw [e 49 (by omega) (by omega) (by omega) (by omega)]; exact h6
  · rw [e 51 (by omega) (by omega) (by omega) (by omega)]; exact h7
  · rw [e 52 (by omega) (by omega) (by omega) (by omega)]; exact h8
  · rw [e 53 (by omega) (by omega) (by omega) (by omega)]; exact h9
theorem st2_ne (w : Wd) {a b : Nat} (k : Nat) (v : Int32) (h : b ≠ a) : (st2 w a k v).1 b = w.1 b := put_ne w _ h
theorem st2_at (w : Wd) (a k : Nat) (v : Int32) : (st2 w a k v).1 a k = v := by unfold st2; rw [put_at]; exact if_pos rfl
theorem st2_nk (w : Wd) (a : Nat) {k j : Nat} (v : Int32) (h : j ≠ k) : (st2 w a k v).1 a j = w.1 a j := by unfold st2; rw [put_at]; exact if_neg h
theorem st2_2 (w : Wd) (a k : Nat) (v : Int32) : (st2 w a k v).2 = w.2 := rfl
def fnd (A : Gs) (k : Nat) : Gs := up (up A 22 0 (A 22 0 + 1)) 22 (k + 1) (A 22 (k + 1) + 1)
theorem fnd_row (A : Gs) (k : Nat) {c : Nat} (h : c ≠ 22) : fnd A k c = A c := by
  funext j
  unfold fnd
  rw [up_nc _ h, up_nc _ h]
theorem M_fnd {A : Gs} {w : Wd} (h : M A w) {k : Nat} (hk : k < 7) : M (fnd A k) (fndM w k) := by
  obtain ⟨h1, h2, h3, h4, h5, h6, h7, h8, h9⟩ := h
  have e : ∀ a, a ≠ 49 → (fndM w k).1 a = w.1 a := fun a ha => by unfold fndM; rw [st2_ne _ _ _ ha, st2_ne _ _ _ ha]
  have hr : rowS (fnd A k) = rowS A := by
    funext j
    unfold rowS lay
    rw [fnd_row A k (by omega), fnd_row A k (by omega), fnd_row A k (by omega), fnd_row A k (by omega), fnd_row A k (by omega), fnd_row A k (by omega)]
  refine ⟨?_, ?_, ?_, ?_, ?_, ?_, ?_, ?_, ?_⟩
  · rw [e 45 (by omega), hr]; exact h1
  · rw [e 44 (by omega), fnd_row A k (by omega)]; exact h2
  · rw [e 44 (by omega), fnd_row A k (by omega)]; exact h3
  · rw [e 46 (by omega), fnd_row A k (by omega)]
    intro hq j hj
    rw [h4 hq j hj]
    congr 1
    unfold lay
    show _ = (if j < 3 then fnd A k 10 j else if j < 13 then fnd A k 11 (j - 3) else if j < 19 then fnd A k 12 (j - 13) else if j < 25 then fnd A k 13 (j - 19) else if j < 65 then fnd A k (10 + (4 + (j - 25) % 5)) ((j - 25) / 5) else fnd A k 19 (j - 65))
    rw [fnd_row A k (by omega), fnd_row A k (by omega), fnd_row A k (by omega), fnd_row A k (by omega), fnd_row A k (by omega), fnd_row A k (by omega)]
  · rw [e 50 (by omega), fnd_row A k (by omega)]; exact h5
  · intro j hj
    unfold fndM fnd
    by_cases q : j = k + 1
    · subst q
      rw [st2_at, up_at, h6 _ hj]
      rw [show (1 : Int32) = nI 1 from rfl, nI_add]
    · rw [st2_nk _ _ _ q, up_nk _ q]
      by_cases q0 : j = 0
      · subst q0
        rw [st2_at, up_at, h6 0 (by omega), show (1 : Int32) = nI 1 from rfl, nI_add]
      · rw [st2_nk _ _ _ q0, up_nk _ q0]; exact h6 j hj
  · rw [e 51 (by omega), fnd_row A k (by omega)]; exact h7
  · rw [e 52 (by omega), fnd_row A k (by omega)]; exact h8
  · rw [e 53 (by omega)]
    intro t j ht hj
    rw [fnd_row A k (by omega)]
    exact h9 t j ht hj
theorem fM.rf (w : Wd) : fM w w := ⟨fun _ _ => rfl, rfl⟩
theorem fM.tr {w w' w'' : Wd} (h : fM w w') (h' : fM w' w'') : fM w w'' := ⟨fun a ha => (h'.1 a ha).trans (h.1 a ha), h'.2.trans h.2⟩
theorem fM.put {w w' : Wd} (h : fM w w') {a : Nat} (ha : 44 ≤ a) (hb : a < 54) (f : Nat → Int32) : fM w (put w' a f) := ⟨fun b hb' => by rw [put_ne _ _ (by omega)]; exact h.1 b hb', h.2⟩
theorem fM.st {w w' : Wd} (h : fM w w') {a : Nat} (ha : 44 ≤ a) (hb : a < 54) (k : Nat) (v : Int32) : fM w (st2 w' a k v) := h.put ha hb _
theorem fM.pS {w : Wd} (A A' : Gs) : fM (putS w A) (putS w A') := ⟨fun b hb' => by rw [putS_ne _ _ (by omega), putS_ne _ _ (by omega)], rfl⟩
theorem fM.fd {w w' : Wd} (h : fM w w') (k : Nat) : fM w (fndM w' k) := (h.st (by omega) (by omega) _ _).st (by omega) (by omega) _ _
def opM (f : Nat) (args : List Value) (r : Int32 × Gs) (w : Wd) : Prop := ∃ w', CALL f (.ref 44 :: args) w = some ([.int r.1], w') ∧ M r.2 w' ∧ fM w w'
def bad (A : Gs) (k : Nat) : Int32 × Gs := (lo k, fnd A k)
theorem opM_bad {A : Gs} {w : Wd} {f k : Nat} {args : List Value} (h : M A w) (hk : k < 7) (e : CALL f (.ref 44 :: args) w = some ([.int (lo k)], fndM w k)) : opM f args (bad A k) w := ⟨_, e, M_fnd h hk, (fM.rf w).fd k⟩
theorem opM_get {A : Gs} {w : Wd} {f : Nat} {v : Int32} {args : List Value} (h : M A w) (e : CALL f (.ref 44 :: args) w = some ([.int v], w)) : opM f args (v, A) w := ⟨_, e, h, fM.rf w⟩
theorem opM_set {A A' : Gs} {w : Wd} {f : Nat} {v : Int32} {args : List Value} (h : M A (putS w A)) (hA : ∀ c, 10 ≤ c → A' c = A c) (e : CALL f (.ref 44 :: args) (putS w A) = some ([.int v], putS w A')) : opM f args (v, A') (putS w A) := ⟨_, e, M_put h hA, fM.pS A A'⟩
theorem up_r {A : Gs} {c k v : Nat} (h : c < 10) : ∀ d, 10 ≤ d → up A c k v d = A d := fun d hd => by
  funext j
  rw [up_nc A (by omega)]
theorem up_r2 {A A' : Gs} {c k v : Nat} (hA : ∀ d, 10 ≤ d → A' d = A d) (h : c < 10) : ∀ d, 10 ≤ d → up A' c k v d = A d := fun d hd => by
  rw [up_r h d hd, hA d hd]
def o_jar (A : Gs) (x v : Int32) : Int32 × Gs := if ok x 9 = true ∧ ok v 999 = true then (nI (A 1 (ix x)), up A 1 (ix x) (ix v)) else bad A 0
theorem m_jar {A : Gs} {w : Wd} {x v : Int32} (h : M A (putS w A)) : opM 116 [.int x, .int v] (o_jar A x v) (putS w A) := by
  unfold o_jar
  rcases ok_case x 9 (by omega) with ⟨k, hk, rfl, e1, e2⟩ | e1
  · rcases ok_case v 999 (by omega) with ⟨m, hm, rfl, f1, f2⟩ | f1
    · rw [if_pos ⟨e1, f1⟩, e2, f2]
      refine opM_set h (up_r (by omega)) ?_
      simp (disch := first | omega | decide | exact nI0_01 | exact nI1_01 | exact bz_01 _) only [Option.bind_some, List.cons_append, List.nil_append, Nat.reduceAdd, Nat.reduceMul, Nat.reduceLeDiff, Nat.reduceEqDiff, ↓reduceIte, n116, u116_0, u116_1, u116_4, u116_7, u116_8, u116_9, u116_10, u116_13, u116_16, u116_19, u116_20, u116_21, u116_22, u116_23, u116_24, u116_27, u116_30, u116_31, u116_33, u116_36, x_isLetter10, xin_1, xin_2, xin_3, xin_4, xin_5, xin_6, xin_7, xin_9, xin_20, xin_40, xin_99, xin_100, xin_999, xin_9999, xin_1_60, xin_1_20, xin_1_4, xin_2_4, xin_v, e1, f1, bz_t, bz_f, nn_eq0, nn_eq, eq_self, not_true_eq_false, not_false_eq_true, nI_add, x_becomes, putS_1, putS_s1]
    · rw [if_neg (by simp [f1])]
      refine opM_bad h (by omega) ?_
      simp (disch := first | omega | decide | exact nI0_01 | exact nI1_01 | exact bz_01 _) only [Option.bind_some, List.cons_append, List.nil_append, Nat.reduceAdd, Nat.reduceMul, Nat.reduceLeDiff, Nat.reduceEqDiff, ↓reduceIte, n116, u116_0, u116_1, u116_4, u116_7, u116_8, u116_9, u116_10, u116_13, u116_16, u116_19, u116_20, u116_21, u116_22, u116_23, u116_24, u116_27, u116_30, u116_31, u116_33, u116_36, x_isLetter10, xin_1, xin_2, xin_3, xin_4, xin_5, xin_6, xin_7, xin_9, xin_20, xin_40, xin_99, xin_100, xin_999, xin_9999, xin_1_60, xin_1_20, xin_1_4, xin_2_4, xin_v, e1, f1, bz_t, bz_f, nn_eq0, nn_eq, eq_self, not_true_eq_false, not_false_eq_true, x_f0]
  · rw [if_neg (by simp [e1])]
    refine opM_bad h (by omega) ?_
    simp (disch := first | omega | decide | exact nI0_01 | exact nI1_01 | exact bz_01 _) only [Option.bind_some, List.cons_append, List.nil_append, Nat.reduceAdd, Nat.reduceMul, Nat.reduceLeDiff, Nat.reduceEqDiff, ↓reduceIte, n116, u116_0, u116_1, u116_4, u116_7, u116_8, u116_9, u116_10, u116_13, u116_16, u116_19, u116_20, u116_21, u116_22, u116_23, u116_24, u116_27, u116_30, u116_31, u116_33, u116_36, x_isLetter10, xin_1, xin_2, xin_3, xin_4, xin_5, xin_6, xin_7, xin_9, xin_20, xin_40, xin_99, xin_100, xin_999, xin_9999, xin_1_60, xin_1_20, xin_1_4, xin_2_4, xin_v, e1, bz_t, bz_f, nn_eq0, nn_eq, eq_self, not_true_eq_false, not_false_eq_true, x_f0]
def o_bones (A : Gs) (x : Int32) : Int32 × Gs := if ok x 9 = true then (nI (A 1 (ix x)), A) else bad A 0
theorem m_bones {A : Gs} {w : Wd} {x : Int32} (h : M A (putS w A)) : opM 117 [.int x] (o_bones A x) (putS w A) := by
  unfold o_bones
  rcases ok_case x 9 (by omega) with ⟨k, hk, rfl, e1, e2⟩ | e1
  · rw [if_pos e1, e2]
    refine opM_get h ?_
    simp (disch := first | omega | decide | exact nI0_01 | exact nI1_01 | exact bz_01 _) only [Option.bind_some, List.cons_append, List.nil_append, Nat.reduceAdd, Nat.reduceMul, Nat.reduceLeDiff, Nat.reduceEqDiff, ↓reduceIte, n117, u117_0, u117_1, u117_4, u117_7, u117_8, u117_11, u117_12, u117_13, u117_14, u117_15, u117_18, u117_19, u117_21, u117_24, x_isLetter10, e1, bz_t, bz_f, nn_eq0, nn_eq, eq_self, not_true_eq_false, not_false_eq_true, nI_add, putS_1]
  · rw [if_neg (by simp [e1])]
    refine opM_bad h (by omega) ?_
    simp (disch := first | omega | decide | exact nI0_01 | exact nI1_01 | exact bz_01 _) only [Option.bind_some, List.cons_append, List.nil_append, Nat.reduceAdd, Nat.reduceMul, Nat.reduceLeDiff, Nat.reduceEqDiff, ↓reduceIte, n117, u117_0, u117_1, u117_4, u117_7, u117_8, u117_11, u117_12, u117_13, u117_14, u117_15, u117_18, u117_19, u117_21, u117_24, x_isLetter10, e1, bz_t, bz_f, nn_eq0, nn_eq, eq_self, not_true_eq_false, not_false_eq_true, x_f0]
def o_fish (A : Gs) (x y v : Int32) : Int32 × Gs := if ok x 5 = true ∧ ok y 1 = true ∧ ok v (if y = 0 then 999 else 20) = true then (nI (A (2 + ix y) (ix x)), up A (2 + ix y) (ix x) (ix v)) else bad A 0
theorem m_fish {A : Gs} {w : Wd} {x y v : Int32} (h : M A (putS w A)) : opM 118 [.int x, .int y, .int v] (o_fish A x y v) (putS w A) := by
  unfold o_fish
  rcases ok_case x 5 (by omega) with ⟨k, hk, rfl, e1, e2⟩ | e1
  · rcases ok_case y 1 (by omega) with ⟨m, hm, rfl, f1, f2⟩ | f1
    · have hm2 : m = 0 ∨ m = 1 := by omega
      rcases hm2 with rfl | rfl
      · rcases ok_case v 999 (by omega) with ⟨n, hn, rfl, g1, g2⟩ | g1
        · rw [if_pos ⟨e1, f1, g1⟩, e2, f2, g2]
          refine opM_set h (up_r (by omega)) ?_
          simp (disch := first | omega | decide | exact nI0_01 | exact nI1_01 | exact bz_01 _) only [Option.bind_some, List.cons_append, List.nil_append, Nat.reduceAdd, Nat.reduceMul, Nat.reduceLeDiff, Nat.reduceEqDiff, ↓reduceIte, n118, u118_0, u118_1, u118_4, u118_7, u118_8, u118_9, u118_10, u118_11, u118_14, u118_17, u118_18, u118_19, u118_20, u118_21, u118_24, u118_27, u118_30, u118_33, u118_36, u118_39, u118_40, u118_42, u118_45, u118_46, u118_47, u118_49, u118_51, u118_52, u118_53, u118_54, u118_55, u118_56, u118_57, u118_60, x_isFish, xin_1, xin_2, xin_3, xin_4, xin_5, xin_6, xin_7, xin_9, xin_20, xin_40, xin_99, xin_100, xin_999, xin_9999, xin_1_60, xin_1_20, xin_1_4, xin_2_4, xin_v, e1, f1, g1, bz_t, bz_f, nn_eq0, nn_eq, eq_self, not_true_eq_false, not_false_eq_true, nI_add, x_becomes, pk_mul, Nat.mul_zero, Nat.add_zero, putS_2, putS_s2]
        · rw [if_neg (by rintro ⟨-, -, q⟩; rw [if_pos (by rfl)] at q; rw [g1] at q; exact absurd q (by decide))]
          refine opM_bad h (by omega) ?_
          simp (disch := first | omega | decide | exact nI0_01 | exact nI1_01 | exact bz_01 _) only [Option.bind_some, List.cons_append, List.nil_append, Nat.reduceAdd, Nat.reduceMul, Nat.reduceLeDiff, Nat.reduceEqDiff, ↓reduceIte, n118, u118_0, u118_1, u118_4, u118_7, u118_8, u118_9, u118_10, u118_11, u118_14, u118_17, u118_18, u118_19, u118_20, u118_21, u118_24, u118_27, u118_30, u118_33, u118_36, u118_39, u118_40, u118_42, u118_45, u118_46, u118_47, u118_49, u118_51, u118_52, u118_53, u118_54, u118_55, u118_56, u118_57, u118_60, x_isFish, xin_1, xin_2, xin_3, xin_4, xin_5, xin_6, xin_7, xin_9, xin_20, xin_40, xin_99, xin_100, xin_999, xin_9999, xin_1_60, xin_1_20, xin_1_4, xin_2_4, xin_v, e1, f1, g1, bz_t, bz_f, nn_eq0, nn_eq, eq_self, not_true_eq_false, not_false_eq_true, x_f0]
      · rcases ok_case v 20 (by omega) with ⟨n, hn, rfl, g1, g2⟩ | g1
        · rw [if_pos ⟨e1, f1, g1⟩, e2, f2, g2]
          refine opM_set h (up_r (by omega)) ?_
          simp (disch := first | omega | decide | exact nI0_01 | exact nI1_01 | exact bz_01 _) only [Option.bind_some, List.cons_append, List.nil_append, Nat.reduceAdd, Nat.reduceMul, Nat.reduceLeDiff, Nat.reduceEqDiff, ↓reduceIte, n118, u118_0, u118_1, u118_4, u118_7, u118_8, u118_9, u118_10, u118_11, u118_14, u118_17, u118_18, u118_19, u118_20, u118_21, u118_24, u118_27, u118_30, u118_33, u118_36, u118_39, u118_40, u118_42, u118_45, u118_46, u118_47, u118_49, u118_51, u118_52, u118_53, u118_54, u118_55, u118_56, u118_57, u118_60, x_isFish, xin_1, xin_2, xin_3, xin_4, xin_5, xin_6, xin_7, xin_9, xin_20, xin_40, xin_99, xin_100, xin_999, xin_9999, xin_1_60, xin_1_20, xin_1_4, xin_2_4, xin_v, e1, f1, g1, bz_t, bz_f, nn_eq0, nn_eq, eq_self, not_true_eq_false, not_false_eq_true, nI_add, x_becomes, pk_mul, putS_3, putS_s3]
        · rw [if_neg (by rintro ⟨-, -, q⟩; rw [if_neg (by decide)] at q; rw [g1] at q; exact absurd q (by decide))]
          refine opM_bad h (by omega) ?_
          simp (disch := first | omega | decide | exact nI0_01 | exact nI1_01 | exact bz_01 _) only [Option.bind_some, List.cons_append, List.nil_append, Nat.reduceAdd, Nat.reduceMul, Nat.reduceLeDiff, Nat.reduceEqDiff, ↓reduceIte, n118, u118_0, u118_1, u118_4, u118_7, u118_8, u118_9, u118_10, u118_11, u118_14, u118_17, u118_18, u118_19, u118_20, u118_21, u118_24, u118_27, u118_30, u118_33, u118_36, u118_39, u118_40, u118_42, u118_45, u118_46, u118_47, u118_49, u118_51, u118_52, u118_53, u118_54, u118_55, u118_56, u118_57, u118_60, x_isFish, xin_1, xin_2, xin_3, xin_4, xin_5, xin_6, xin_7, xin_9, xin_20, xin_40, xin_99, xin_100, xin_999, xin_9999, xin_1_60, xin_1_20, xin_1_4, xin_2_4, xin_v, e1, f1, g1, bz_t, bz_f, nn_eq0, nn_eq, eq_self, not_true_eq_false, not_false_eq_true, x_f0]
    · rw [if_neg (by simp [f1])]
      refine opM_bad h (by omega) ?_
      simp (disch := first | omega | decide | exact nI0_01 | exact nI1_01 | exact bz_01 _) only [Option.bind_some, List.cons_append, List.nil_append, Nat.reduceAdd, Nat.reduceMul, Nat.reduceLeDiff, Nat.reduceEqDiff, ↓reduceIte, n118, u118_0, u118_1, u118_4, u118_7, u118_8, u118_9, u118_10, u118_11, u118_14, u118_17, u118_18, u118_19, u118_20, u118_21, u118_24, u118_27, u118_30, u118_33, u118_36, u118_39, u118_40, u118_42, u118_45, u118_46, u118_47, u118_49, u118_51, u118_52, u118_53, u118_54, u118_55, u118_56, u118_57, u118_60, x_isFish, xin_1, xin_2, xin_3, xin_4, xin_5, xin_6, xin_7, xin_9, xin_20, xin_40, xin_99, xin_100, xin_999, xin_9999, xin_1_60, xin_1_20, xin_1_4, xin_2_4, xin_v, e1, f1, bz_t, bz_f, nn_eq0, nn_eq, eq_self, not_true_eq_false, not_false_eq_true, x_f0]
  · rw [if_neg (by simp [e1])]
    refine opM_bad h (by omega) ?_
    simp (disch := first | omega | decide | exact nI0_01 | exact nI1_01 | exact bz_01 _) only [Option.bind_some, List.cons_append, List.nil_append, Nat.reduceAdd, Nat.reduceMul, Nat.reduceLeDiff, Nat.reduceEqDiff, ↓reduceIte, n118, u118_0, u118_1, u118_4, u118_7, u118_8, u118_9, u118_10, u118_11, u118_14, u118_17, u118_18, u118_19, u118_20, u118_21, u118_24, u118_27, u118_30, u118_33, u118_36, u118_39, u118_40, u118_42, u118_45, u118_46, u118_47, u118_49, u118_51, u118_52, u118_53, u118_54, u118_55, u118_56, u118_57, u118_60, x_isFish, xin_1, xin_2, xin_3, xin_4, xin_5, xin_6, xin_7, xin_9, xin_20, xin_40, xin_99, xin_100, xin_999, xin_9999, xin_1_60, xin_1_20, xin_1_4, xin_2_4, xin_v, e1, bz_t, bz_f, nn_eq0, nn_eq, eq_self, not_true_eq_false, not_false_eq_true, x_f0]
