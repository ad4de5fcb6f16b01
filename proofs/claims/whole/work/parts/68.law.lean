/-! THE LAW -/
theorem M_fC {A : Gs} {w w' : Wd} (h : M A w) (e : fC w w') : M A w' := h.mv (fun a h1 h2 h3 h4 => e a (by omega)) (by rw [e 44 (by omega)]) (by rw [e 44 (by omega)])
theorem C_fM {A : Gs} {w w' : Wd} (h : C A w) (e : fM w w') : C A w' := h.mv (fun a h1 h2 h3 h4 => e.1 a (Or.inl h1)) (by rw [e.1 40 (by omega)])
def Rel (N : Nat) (xs : Nat → Int32) (A : Gs) (W : Wd) : Prop := C A W ∧ M A W ∧ W.1 57 = xs ∧ W.1 58 0 = nI N
theorem two {A : Gs} {f g : Nat} {args : List Value} {r : Int32 × Gs} {W : Wd} {N : Nat} {xs : Nat → Int32} (h : Rel N xs A W) (hc : opC f args r W) (hm : ∀ w, M A w → opM g args r w) : ∃ W1 W2, CALL f (.ref 0 :: args) W = some ([.int r.1], W1) ∧ CALL g (.ref 44 :: args) W1 = some ([.int r.1], W2) ∧ W1.1 57 = xs ∧ W1.1 58 0 = nI N ∧ Rel N xs r.2 W2 := by
  obtain ⟨hC, hM, h57, h58⟩ := h
  obtain ⟨W1, e1, c1, f1⟩ := hc
  obtain ⟨W2, e2, m2, f2⟩ := hm W1 (M_fC hM f1)
  exact ⟨W1, W2, e1, e2, by rw [f1 57 (by omega)]; exact h57, by rw [f1 58 (by omega)]; exact h58, C_fM c1 f2, m2, by rw [f2.1 57 (by omega), f1 57 (by omega)]; exact h57, by rw [f2.1 58 (by omega), f1 58 (by omega)]; exact h58⟩
theorem twoL {A : Gs} {f g : Nat} {args : List Value} {r : Int64 × Gs} {W : Wd} {N : Nat} {xs : Nat → Int32} (h : Rel N xs A W) (hc : opCL f args r W) (hm : ∀ w, M A w → opML g args r w) : ∃ W1 W2, CALL f (.ref 0 :: args) W = some ([.long r.1], W1) ∧ CALL g (.ref 44 :: args) W1 = some ([.long r.1], W2) ∧ W1.1 57 = xs ∧ W1.1 58 0 = nI N ∧ Rel N xs r.2 W2 := by
  obtain ⟨hC, hM, h57, h58⟩ := h
  obtain ⟨W1, e1, c1, f1⟩ := hc
  obtain ⟨W2, e2, m2, f2⟩ := hm W1 (M_fC hM f1)
  exact ⟨W1, W2, e1, e2, by rw [f1 57 (by omega)]; exact h57, by rw [f1 58 (by omega)]; exact h58, C_fM c1 f2, m2, by rw [f2.1 57 (by omega), f1 57 (by omega)]; exact h57, by rw [f2.1 58 (by omega), f1 58 (by omega)]; exact h58⟩
theorem mrow {A : Gs} {f : Nat} {args : List Value} {r : Int32 × Gs} {w : Wd} (h : M A w) (e : M A (putS w A) → opM f args r (putS w A)) : opM f args r w := by
  rw [h.row] at e
  exact e h
theorem mrowL {A : Gs} {f : Nat} {args : List Value} {r : Int64 × Gs} {w : Wd} (h : M A w) (e : M A (putS w A) → opML f args r (putS w A)) : opML f args r w := by
  rw [h.row] at e
  exact e h
theorem crow {A : Gs} {f : Nat} {args : List Value} {r : Int32 × Gs} {w : Wd} (h : C A w) (e : C A (putR w 1 A) → opC f args r (putR w 1 A)) : opC f args r w := by
  rw [h.1] at e
  exact e h
theorem crowL {A : Gs} {f : Nat} {args : List Value} {r : Int64 × Gs} {w : Wd} (h : C A w) (e : C A (putR w 1 A) → opCL f args r (putR w 1 A)) : opCL f args r w := by
  rw [h.1] at e
  exact e h
abbrev LWL (i : Nat) : Lc := [some (.ref 57), some (.ref 0), some (.ref 44), some (.int (nI i))]
def Nxt (N : Nat) (xs : Nat → Int32) (i : Nat) (X : Option Rs) : Prop := ∃ A' W', X = RUN 204 18 (LWL (i + 6)) [] [] W' ∧ Rel N xs A' W' ∧ Inv (10 * (i + 6)) A'
theorem Nxt.ite {N : Nat} {xs : Nat → Int32} {i : Nat} {c : Prop} {d : Decidable c} {X Y : Option Rs} (h1 : Nxt N xs i X) (h2 : Nxt N xs i Y) : Nxt N xs i (if c then X else Y) := by
  by_cases h : c
  · rw [if_pos h]; exact h1
  · rw [if_neg h]; exact h2
theorem rd_in1 {N i k : Nat} {w : Wd} (h : w.1 58 0 = nI N) (hN : N ≤ 3072) (hk : i + k < N) : i + k < (w.1 58 0).toNatClampNeg := by
  rw [h, nI_clamp (by omega)]
  exact hk
theorem inv_6 {i : Nat} {A : Gs} (h : Inv (10 * i + 60) A) : Inv (10 * (i + 6)) A := h.le (by omega)

theorem lw_0 {N i : Nat} {xs : Nat → Int32} {A : Gs} {W : Wd} (h : Rel N xs A W) (hI : Inv (10 * i) A) (hi : i + 6 ≤ N) (hN : N ≤ 3072) : Nxt N xs i (RUN 204 220 (LWL i) [] [] W) := by
  obtain ⟨W1, W2, e1, e2, a57, a58, hR⟩ := two h (crow h.1 (fun z => k_jar (x := xs (i + 1)) (v := xs (i + 2)) z )) (fun w hw => mrow hw (fun z => m_jar (x := xs (i + 1)) (v := xs (i + 2)) z ))
  have b57 := h.2.2.1
  have b58 := h.2.2.2
  have r1 := rd_in1 b58 hN (i := i) (k := 1) (by omega)
  have s1 := rd_in1 a58 hN (i := i) (k := 1) (by omega)
  have r2 := rd_in1 b58 hN (i := i) (k := 2) (by omega)
  have s2 := rd_in1 a58 hN (i := i) (k := 2) (by omega)
  refine ⟨_, W2, ?_, hR, inv_6 (i_jar hI)⟩
  simp (disch := first | omega | decide | assumption | exact nI0_01 | exact nI1_01 | exact bz_01 _ | exact rf1 | exact rf11 | exact rf21) only [Option.bind_some, List.cons_append, List.nil_append, Nat.reduceAdd, Nat.reduceMul, Nat.reduceLeDiff, Nat.reduceEqDiff, ↓reduceIte, LWL, u204_220, u204_221, u204_222, u204_223, u204_224, u204_225, u204_226, u204_227, u204_228, u204_229, u204_230, u204_231, u204_234, u204_235, u204_236, u204_237, u204_238, u204_239, u204_240, u204_241, u204_242, u204_243, u204_244, u204_245, u204_248, u204_251, u204_252, u204_1510, u204_1513, nI_add, b57, a57, e1, e2, eq_self, if_true]
theorem lw_1 {N i : Nat} {xs : Nat → Int32} {A : Gs} {W : Wd} (h : Rel N xs A W) (hI : Inv (10 * i) A) (hi : i + 6 ≤ N) (hN : N ≤ 3072) : Nxt N xs i (RUN 204 253 (LWL i) [] [] W) := by
  obtain ⟨W1, W2, e1, e2, a57, a58, hR⟩ := two h (crow h.1 (fun z => k_bones (x := xs (i + 1)) z )) (fun w hw => mrow hw (fun z => m_bones (x := xs (i + 1)) z ))
  have b57 := h.2.2.1
  have b58 := h.2.2.2
  have r1 := rd_in1 b58 hN (i := i) (k := 1) (by omega)
  have s1 := rd_in1 a58 hN (i := i) (k := 1) (by omega)
  refine ⟨_, W2, ?_, hR, inv_6 (i_bones hI)⟩
  simp (disch := first | omega | decide | assumption | exact nI0_01 | exact nI1_01 | exact bz_01 _ | exact rf1 | exact rf11 | exact rf21) only [Option.bind_some, List.cons_append, List.nil_append, Nat.reduceAdd, Nat.reduceMul, Nat.reduceLeDiff, Nat.reduceEqDiff, ↓reduceIte, LWL, u204_253, u204_254, u204_255, u204_256, u204_257, u204_258, u204_259, u204_262, u204_263, u204_264, u204_265, u204_266, u204_267, u204_268, u204_271, u204_274, u204_275, u204_1510, u204_1513, nI_add, b57, a57, e1, e2, eq_self, if_true]
theorem lw_2 {N i : Nat} {xs : Nat → Int32} {A : Gs} {W : Wd} (h : Rel N xs A W) (hI : Inv (10 * i) A) (hi : i + 6 ≤ N) (hN : N ≤ 3072) : Nxt N xs i (RUN 204 276 (LWL i) [] [] W) := by
  obtain ⟨W1, W2, e1, e2, a57, a58, hR⟩ := two h (crow h.1 (fun z => k_fish (x := xs (i + 1)) (y := xs (i + 2)) (v := xs (i + 3)) z )) (fun w hw => mrow hw (fun z => m_fish (x := xs (i + 1)) (y := xs (i + 2)) (v := xs (i + 3)) z ))
  have b57 := h.2.2.1
  have b58 := h.2.2.2
  have r1 := rd_in1 b58 hN (i := i) (k := 1) (by omega)
  have s1 := rd_in1 a58 hN (i := i) (k := 1) (by omega)
  have r2 := rd_in1 b58 hN (i := i) (k := 2) (by omega)
  have s2 := rd_in1 a58 hN (i := i) (k := 2) (by omega)
  have r3 := rd_in1 b58 hN (i := i) (k := 3) (by omega)
  have s3 := rd_in1 a58 hN (i := i) (k := 3) (by omega)
  refine ⟨_, W2, ?_, hR, inv_6 (i_fish hI)⟩
  simp (disch := first | omega | decide | assumption | exact nI0_01 | exact nI1_01 | exact bz_01 _ | exact rf1 | exact rf11 | exact rf21) only [Option.bind_some, List.cons_append, List.nil_append, Nat.reduceAdd, Nat.reduceMul, Nat.reduceLeDiff, Nat.reduceEqDiff, ↓reduceIte, LWL, u204_276, u204_277, u204_278, u204_279, u204_280, u204_281, u204_282, u204_283, u204_284, u204_285, u204_286, u204_287, u204_288, u204_289, u204_290, u204_291, u204_292, u204_295, u204_296, u204_297, u204_298, u204_299, u204_300, u204_301, u204_302, u204_303, u204_304, u204_305, u204_306, u204_307, u204_308, u204_309, u204_310, u204_311, u204_314, u204_317, u204_318, u204_1510, u204_1513, nI_add, b57, a57, e1, e2, eq_self, if_true]
theorem lw_3 {N i : Nat} {xs : Nat → Int32} {A : Gs} {W : Wd} (h : Rel N xs A W) (hI : Inv (10 * i) A) (hi : i + 6 ≤ N) (hN : N ≤ 3072) : Nxt N xs i (RUN 204 319 (LWL i) [] [] W) := by
  obtain ⟨W1, W2, e1, e2, a57, a58, hR⟩ := two h (crow h.1 (fun z => k_fishOf (x := xs (i + 1)) (y := xs (i + 2)) z hI.1)) (fun w hw => mrow hw (fun z => m_fishOf (x := xs (i + 1)) (y := xs (i + 2)) z hI.1))
  have b57 := h.2.2.1
  have b58 := h.2.2.2
  have r1 := rd_in1 b58 hN (i := i) (k := 1) (by omega)
  have s1 := rd_in1 a58 hN (i := i) (k := 1) (by omega)
  have r2 := rd_in1 b58 hN (i := i) (k := 2) (by omega)
  have s2 := rd_in1 a58 hN (i := i) (k := 2) (by omega)
  refine ⟨_, W2, ?_, hR, inv_6 (i_fishOf hI)⟩
  simp (disch := first | omega | decide | assumption | exact nI0_01 | exact nI1_01 | exact bz_01 _ | exact rf1 | exact rf11 | exact rf21) only [Option.bind_some, List.cons_append, List.nil_append, Nat.reduceAdd, Nat.reduceMul, Nat.reduceLeDiff, Nat.reduceEqDiff, ↓reduceIte, LWL, u204_319, u204_320, u204_321, u204_322, u204_323, u204_324, u204_325, u204_326, u204_327, u204_328, u204_329, u204_330, u204_333, u204_334, u204_335, u204_336, u204_337, u204_338, u204_339, u204_340, u204_341, u204_342, u204_343, u204_344, u204_347, u204_350, u204_351, u204_1510, u204_1513, nI_add, b57, a57, e1, e2, eq_self, if_true]
theorem lw_4 {N i : Nat} {xs : Nat → Int32} {A : Gs} {W : Wd} (h : Rel N xs A W) (hI : Inv (10 * i) A) (hi : i + 6 ≤ N) (hN : N ≤ 3072) : Nxt N xs i (RUN 204 352 (LWL i) [] [] W) := by
  obtain ⟨W1, W2, e1, e2, a57, a58, hR⟩ := two h (crow h.1 (fun z => k_writer (x := xs (i + 1)) (y := xs (i + 2)) z hI.1)) (fun w hw => mrow hw (fun z => m_writer (x := xs (i + 1)) (y := xs (i + 2)) z hI.1))
  have b57 := h.2.2.1
  have b58 := h.2.2.2
  have r1 := rd_in1 b58 hN (i := i) (k := 1) (by omega)
  have s1 := rd_in1 a58 hN (i := i) (k := 1) (by omega)
  have r2 := rd_in1 b58 hN (i := i) (k := 2) (by omega)
  have s2 := rd_in1 a58 hN (i := i) (k := 2) (by omega)
  refine ⟨_, W2, ?_, hR, inv_6 (i_writer hI)⟩
  simp (disch := first | omega | decide | assumption | exact nI0_01 | exact nI1_01 | exact bz_01 _ | exact rf1 | exact rf11 | exact rf21) only [Option.bind_some, List.cons_append, List.nil_append, Nat.reduceAdd, Nat.reduceMul, Nat.reduceLeDiff, Nat.reduceEqDiff, ↓reduceIte, LWL, u204_352, u204_353, u204_354, u204_355, u204_356, u204_357, u204_358, u204_359, u204_360, u204_361, u204_362, u204_363, u204_366, u204_367, u204_368, u204_369, u204_370, u204_371, u204_372, u204_373, u204_374, u204_375, u204_376, u204_377, u204_380, u204_383, u204_384, u204_1510, u204_1513, nI_add, b57, a57, e1, e2, eq_self, if_true]
theorem lw_5 {N i : Nat} {xs : Nat → Int32} {A : Gs} {W : Wd} (h : Rel N xs A W) (hI : Inv (10 * i) A) (hi : i + 6 ≤ N) (hN : N ≤ 3072) : Nxt N xs i (RUN 204 385 (LWL i) [] [] W) := by
  obtain ⟨W1, W2, e1, e2, a57, a58, hR⟩ := two h (crow h.1 (fun z => k_of (x := xs (i + 1)) (y := xs (i + 2)) z hI.1)) (fun w hw => mrow hw (fun z => m_of (x := xs (i + 1)) (y := xs (i + 2)) z hI.1))
  have b57 := h.2.2.1
  have b58 := h.2.2.2
  have r1 := rd_in1 b58 hN (i := i) (k := 1) (by omega)
  have s1 := rd_in1 a58 hN (i := i) (k := 1) (by omega)
  have r2 := rd_in1 b58 hN (i := i) (k := 2) (by omega)
  have s2 := rd_in1 a58 hN (i := i) (k := 2) (by omega)
  refine ⟨_, W2, ?_, hR, inv_6 (i_of hI)⟩
  simp (disch := first | omega | decide | assumption | exact nI0_01 | exact nI1_01 | exact bz_01 _ | exact rf1 | exact rf11 | exact rf21) only [Option.bind_some, List.cons_append, List.nil_append, Nat.reduceAdd, Nat.reduceMul, Nat.reduceLeDiff, Nat.reduceEqDiff, ↓reduceIte, LWL, u204_385, u204_386, u204_387, u204_388, u204_389, u204_390, u204_391, u204_392, u204_393, u204_394, u204_395, u204_396, u204_399, u204_400, u204_401, u204_402, u204_403, u204_404, u204_405, u204_406, u204_407, u204_408, u204_409, u204_410, u204_413, u204_416, u204_417, u204_1510, u204_1513, nI_add, b57, a57, e1, e2, eq_self, if_true]
theorem lw_6 {N i : Nat} {xs : Nat → Int32} {A : Gs} {W : Wd} (h : Rel N xs A W) (hI : Inv (10 * i) A) (hi : i + 6 ≤ N) (hN : N ≤ 3072) : Nxt N xs i (RUN 204 418 (LWL i) [] [] W) := by
  obtain ⟨W1, W2, e1, e2, a57, a58, hR⟩ := two h (crow h.1 (fun z => k_change (x := xs (i + 1)) (y := xs (i + 2)) (v := xs (i + 3)) z hI.1)) (fun w hw => mrow hw (fun z => m_change (x := xs (i + 1)) (y := xs (i + 2)) (v := xs (i + 3)) z hI.1))
  have b57 := h.2.2.1
  have b58 := h.2.2.2
  have r1 := rd_in1 b58 hN (i := i) (k := 1) (by omega)
  have s1 := rd_in1 a58 hN (i := i) (k := 1) (by omega)
  have r2 := rd_in1 b58 hN (i := i) (k := 2) (by omega)
  have s2 := rd_in1 a58 hN (i := i) (k := 2) (by omega)
  have r3 := rd_in1 b58 hN (i := i) (k := 3) (by omega)
  have s3 := rd_in1 a58 hN (i := i) (k := 3) (by omega)
  refine ⟨_, W2, ?_, hR, inv_6 (i_change hI)⟩
  simp (disch := first | omega | decide | assumption | exact nI0_01 | exact nI1_01 | exact bz_01 _ | exact rf1 | exact rf11 | exact rf21) only [Option.bind_some, List.cons_append, List.nil_append, Nat.reduceAdd, Nat.reduceMul, Nat.reduceLeDiff, Nat.reduceEqDiff, ↓reduceIte, LWL, u204_418, u204_419, u204_420, u204_421, u204_422, u204_423, u204_424, u204_425, u204_426, u204_427, u204_428, u204_429, u204_430, u204_431, u204_432, u204_433, u204_434, u204_437, u204_438, u204_439, u204_440, u204_441, u204_442, u204_443, u204_444, u204_445, u204_446, u204_447, u204_448, u204_449, u204_450, u204_451, u204_452, u204_453, u204_456, u204_459, u204_460, u204_1510, u204_1513, nI_add, b57, a57, e1, e2, eq_self, if_true]
theorem lw_7 {N i : Nat} {xs : Nat → Int32} {A : Gs} {W : Wd} (h : Rel N xs A W) (hI : Inv (10 * i) A) (hi : i + 6 ≤ N) (hN : N ≤ 3072) : Nxt N xs i (RUN 204 461 (LWL i) [] [] W) := by
  obtain ⟨W1, W2, e1, e2, a57, a58, hR⟩ := two h (crow h.1 (fun z => k_keeps (x := xs (i + 1)) (y := xs (i + 2)) z hI.1)) (fun w hw => mrow hw (fun z => m_keeps (x := xs (i + 1)) (y := xs (i + 2)) z hI.1))
  have b57 := h.2.2.1
  have b58 := h.2.2.2
  have r1 := rd_in1 b58 hN (i := i) (k := 1) (by omega)
  have s1 := rd_in1 a58 hN (i := i) (k := 1) (by omega)
  have r2 := rd_in1 b58 hN (i := i) (k := 2) (by omega)
  have s2 := rd_in1 a58 hN (i := i) (k := 2) (by omega)
  refine ⟨_, W2, ?_, hR, inv_6 (i_keeps hI)⟩
  simp (disch := first | omega | decide | assumption | exact nI0_01 | exact nI1_01 | exact bz_01 _ | exact rf1 | exact rf11 | exact rf21) only [Option.bind_some, List.cons_append, List.nil_append, Nat.reduceAdd, Nat.reduceMul, Nat.reduceLeDiff, Nat.reduceEqDiff, ↓reduceIte, LWL, u204_461, u204_462, u204_463, u204_464, u204_465, u204_466, u204_467, u204_468, u204_469, u204_470, u204_471, u204_472, u204_475, u204_476, u204_477, u204_478, u204_479, u204_480, u204_481, u204_482, u204_483, u204_484, u204_485, u204_486, u204_489, u204_492, u204_493, u204_1510, u204_1513, nI_add, b57, a57, e1, e2, eq_self, if_true]
theorem lw_8 {N i : Nat} {xs : Nat → Int32} {A : Gs} {W : Wd} (h : Rel N xs A W) (hI : Inv (10 * i) A) (hi : i + 6 ≤ N) (hN : N ≤ 3072) : Nxt N xs i (RUN 204 494 (LWL i) [] [] W) := by
  obtain ⟨W1, W2, e1, e2, a57, a58, hR⟩ := two h (crow h.1 (fun z => k_spells (x := xs (i + 1)) z hI.1)) (fun w hw => mrow hw (fun z => m_spells (x := xs (i + 1)) z hI.1))
  have b57 := h.2.2.1
  have b58 := h.2.2.2
  have r1 := rd_in1 b58 hN (i := i) (k := 1) (by omega)
  have s1 := rd_in1 a58 hN (i := i) (k := 1) (by omega)
  refine ⟨_, W2, ?_, hR, inv_6 (i_spells hI)⟩
  simp (disch := first | omega | decide | assumption | exact nI0_01 | exact nI1_01 | exact bz_01 _ | exact rf1 | exact rf11 | exact rf21) only [Option.bind_some, List.cons_append, List.nil_append, Nat.reduceAdd, Nat.reduceMul, Nat.reduceLeDiff, Nat.reduceEqDiff, ↓reduceIte, LWL, u204_494, u204_495, u204_496, u204_497, u204_498, u204_499, u204_500, u204_503, u204_504, u204_505, u204_506, u204_507, u204_508, u204_509, u204_512, u204_515, u204_516, u204_1510, u204_1513, nI_add, b57, a57, e1, e2, eq_self, if_true]
theorem lw_9 {N i : Nat} {xs : Nat → Int32} {A : Gs} {W : Wd} (h : Rel N xs A W) (hI : Inv (10 * i) A) (hi : i + 6 ≤ N) (hN : N ≤ 3072) : Nxt N xs i (RUN 204 517 (LWL i) [] [] W) := by
  have hd : A 0 1 ≤ 40000 := Nat.le_trans hI.2.2.2.2.2.2.2.1 (by omega)
  obtain ⟨W1, W2, e1, e2, a57, a58, hR⟩ := two h (crow h.1 (fun z => k_go (x := xs (i + 1)) z hI.1 hd)) (fun w hw => mrow hw (fun z => m_go (x := xs (i + 1)) z hI.1 hd))
  have b57 := h.2.2.1
  have b58 := h.2.2.2
  have r1 := rd_in1 b58 hN (i := i) (k := 1) (by omega)
  have s1 := rd_in1 a58 hN (i := i) (k := 1) (by omega)
  refine ⟨_, W2, ?_, hR, inv_6 (i_go hI)⟩
  simp (disch := first | omega | decide | assumption | exact nI0_01 | exact nI1_01 | exact bz_01 _ | exact rf1 | exact rf11 | exact rf21) only [Option.bind_some, List.cons_append, List.nil_append, Nat.reduceAdd, Nat.reduceMul, Nat.reduceLeDiff, Nat.reduceEqDiff, ↓reduceIte, LWL, u204_517, u204_518, u204_519, u204_520, u204_521, u204_522, u204_523, u204_526, u204_527, u204_528, u204_529, u204_530, u204_531, u204_532, u204_535, u204_538, u204_539, u204_1510, u204_1513, nI_add, b57, a57, e1, e2, eq_self, if_true]
theorem lw_10 {N i : Nat} {xs : Nat → Int32} {A : Gs} {W : Wd} (h : Rel N xs A W) (hI : Inv (10 * i) A) (hi : i + 6 ≤ N) (hN : N ≤ 3072) : Nxt N xs i (RUN 204 540 (LWL i) [] [] W) := by
  obtain ⟨W1, W2, e1, e2, a57, a58, hR⟩ := two h (crow h.1 (fun z => k_now (x := xs (i + 1)) z hI.1)) (fun w hw => mrow hw (fun z => m_now (x := xs (i + 1)) z hI.1))
  have b57 := h.2.2.1
  have b58 := h.2.2.2
  have r1 := rd_in1 b58 hN (i := i) (k := 1) (by omega)
  have s1 := rd_in1 a58 hN (i := i) (k := 1) (by omega)
  refine ⟨_, W2, ?_, hR, inv_6 (i_now hI)⟩
  simp (disch := first | omega | decide | assumption | exact nI0_01 | exact nI1_01 | exact bz_01 _ | exact rf1 | exact rf11 | exact rf21) only [Option.bind_some, List.cons_append, List.nil_append, Nat.reduceAdd, Nat.reduceMul, Nat.reduceLeDiff, Nat.reduceEqDiff, ↓reduceIte, LWL, u204_540, u204_541, u204_542, u204_543, u204_544, u204_545, u204_546, u204_549, u204_550, u204_551, u204_552, u204_553, u204_554, u204_555, u204_558, u204_561, u204_562, u204_1510, u204_1513, nI_add, b57, a57, e1, e2, eq_self, if_true]
theorem lw_11 {N i : Nat} {xs : Nat → Int32} {A : Gs} {W : Wd} (h : Rel N xs A W) (hI : Inv (10 * i) A) (hi : i + 6 ≤ N) (hN : N ≤ 3072) : Nxt N xs i (RUN 204 563 (LWL i) [] [] W) := by
  have hd : A 0 1 ≤ 40000 := Nat.le_trans hI.2.2.2.2.2.2.2.1 (by omega)
  obtain ⟨W1, W2, e1, e2, a57, a58, hR⟩ := two h (k_ahead (x := xs (i + 1)) (y := xs (i + 2)) (n := xs (i + 3)) h.1 hI.1 hd) (fun w hw => mrow hw (fun z => m_ahead (x := xs (i + 1)) (y := xs (i + 2)) (n := xs (i + 3)) z hI.1 hd))
  have b57 := h.2.2.1
  have b58 := h.2.2.2
  have r1 := rd_in1 b58 hN (i := i) (k := 1) (by omega)
  have s1 := rd_in1 a58 hN (i := i) (k := 1) (by omega)
  have r2 := rd_in1 b58 hN (i := i) (k := 2) (by omega)
  have s2 := rd_in1 a58 hN (i := i) (k := 2) (by omega)
  have r3 := rd_in1 b58 hN (i := i) (k := 3) (by omega)
  have s3 := rd_in1 a58 hN (i := i) (k := 3) (by omega)
  refine ⟨_, W2, ?_, hR, inv_6 (i_ahead hI)⟩
  simp (disch := first | omega | decide | assumption | exact nI0_01 | exact nI1_01 | exact bz_01 _ | exact rf1 | exact rf11 | exact rf21) only [Option.bind_some, List.cons_append, List.nil_append, Nat.reduceAdd, Nat.reduceMul, Nat.reduceLeDiff, Nat.reduceEqDiff, ↓reduceIte, LWL, u204_563, u204_564, u204_565, u204_566, u204_567, u204_568, u204_569, u204_570, u204_571, u204_572, u204_573, u204_574, u204_575, u204_576, u204_577, u204_578, u204_579, u204_582, u204_583, u204_584, u204_585, u204_586, u204_587, u204_588, u204_589, u204_590, u204_591, u204_592, u204_593, u204_594, u204_595, u204_596, u204_597, u204_598, u204_601, u204_604, u204_605, u204_1510, u204_1513, nI_add, b57, a57, e1, e2, eq_self, if_true]
theorem lw_12 {N i : Nat} {xs : Nat → Int32} {A : Gs} {W : Wd} (h : Rel N xs A W) (hI : Inv (10 * i) A) (hi : i + 6 ≤ N) (hN : N ≤ 3072) : Nxt N xs i (RUN 204 606 (LWL i) [] [] W) := by
  have hd : A 0 1 ≤ 40000 := Nat.le_trans hI.2.2.2.2.2.2.2.1 (by omega)
  obtain ⟨W1, W2, e1, e2, a57, a58, hR⟩ := two h (k_later (x := xs (i + 1)) (n := xs (i + 2)) h.1 hI.1 hd) (fun w hw => mrow hw (fun z => m_later (x := xs (i + 1)) (n := xs (i + 2)) z hI.1 hd))
  have b57 := h.2.2.1
  have b58 := h.2.2.2
  have r1 := rd_in1 b58 hN (i := i) (k := 1) (by omega)
  have s1 := rd_in1 a58 hN (i := i) (k := 1) (by omega)
  have r2 := rd_in1 b58 hN (i := i) (k := 2) (by omega)
  have s2 := rd_in1 a58 hN (i := i) (k := 2) (by omega)
  refine ⟨_, W2, ?_, hR, inv_6 (i_later hI)⟩
  simp (disch := first | omega | decide | assumption | exact nI0_01 | exact nI1_01 | exact bz_01 _ | exact rf1 | exact rf11 | exact rf21) only [Option.bind_some, List.cons_append, List.nil_append, Nat.reduceAdd, Nat.reduceMul, Nat.reduceLeDiff, Nat.reduceEqDiff, ↓reduceIte, LWL, u204_606, u204_607, u204_608, u204_609, u204_610, u204_611, u204_612, u204_613, u204_614, u204_615, u204_616, u204_617, u204_620, u204_621, u204_622, u204_623, u204_624, u204_625, u204_626, u204_627, u204_628, u204_629, u204_630, u204_631, u204_634, u204_637, u204_638, u204_1510, u204_1513, nI_add, b57, a57, e1, e2, eq_self, if_true]
theorem lw_13 {N i : Nat} {xs : Nat → Int32} {A : Gs} {W : Wd} (h : Rel N xs A W) (hI : Inv (10 * i) A) (hi : i + 6 ≤ N) (hN : N ≤ 3072) : Nxt N xs i (RUN 204 639 (LWL i) [] [] W) := by
  have hd : A 0 1 ≤ 40000 := Nat.le_trans hI.2.2.2.2.2.2.2.1 (by omega)
  obtain ⟨W1, W2, e1, e2, a57, a58, hR⟩ := two h (k_when (x := xs (i + 1)) (v := xs (i + 2)) h.1 hI.1 hd) (fun w hw => mrow hw (fun z => m_when (x := xs (i + 1)) (v := xs (i + 2)) z hI.1 hd))
  have b57 := h.2.2.1
  have b58 := h.2.2.2
  have r1 := rd_in1 b58 hN (i := i) (k := 1) (by omega)
  have s1 := rd_in1 a58 hN (i := i) (k := 1) (by omega)
  have r2 := rd_in1 b58 hN (i := i) (k := 2) (by omega)
  have s2 := rd_in1 a58 hN (i := i) (k := 2) (by omega)
  refine ⟨_, W2, ?_, hR, inv_6 (i_when hI)⟩
  simp (disch := first | omega | decide | assumption | exact nI0_01 | exact nI1_01 | exact bz_01 _ | exact rf1 | exact rf11 | exact rf21) only [Option.bind_some, List.cons_append, List.nil_append, Nat.reduceAdd, Nat.reduceMul, Nat.reduceLeDiff, Nat.reduceEqDiff, ↓reduceIte, LWL, u204_639, u204_640, u204_641, u204_642, u204_643, u204_644, u204_645, u204_646, u204_647, u204_648, u204_649, u204_650, u204_653, u204_654, u204_655, u204_656, u204_657, u204_658, u204_659, u204_660, u204_661, u204_662, u204_663, u204_664, u204_667, u204_670, u204_671, u204_1510, u204_1513, nI_add, b57, a57, e1, e2, eq_self, if_true]
theorem lw_14 {N i : Nat} {xs : Nat → Int32} {A : Gs} {W : Wd} (h : Rel N xs A W) (hI : Inv (10 * i) A) (hi : i + 6 ≤ N) (hN : N ≤ 3072) : Nxt N xs i (RUN 204 672 (LWL i) [] [] W) := by
  have hd : A 0 1 ≤ 40000 := Nat.le_trans hI.2.2.2.2.2.2.2.1 (by omega)
  obtain ⟨W1, W2, e1, e2, a57, a58, hR⟩ := two h (k_starves (x := xs (i + 1)) h.1 hI.1 hd) (fun w hw => mrow hw (fun z => m_starves (x := xs (i + 1)) z hI.1 hd))
  have b57 := h.2.2.1
  have b58 := h.2.2.2
  have r1 := rd_in1 b58 hN (i := i) (k := 1) (by omega)
  have s1 := rd_in1 a58 hN (i := i) (k := 1) (by omega)
  refine ⟨_, W2, ?_, hR, inv_6 (i_starves hI)⟩
  simp (disch := first | omega | decide | assumption | exact nI0_01 | exact nI1_01 | exact bz_01 _ | exact rf1 | exact rf11 | exact rf21) only [Option.bind_some, List.cons_append, List.nil_append, Nat.reduceAdd, Nat.reduceMul, Nat.reduceLeDiff, Nat.reduceEqDiff, ↓reduceIte, LWL, u204_672, u204_673, u204_674, u204_675, u204_676, u204_677, u204_678, u204_681, u204_682, u204_683, u204_684, u204_685, u204_686, u204_687, u204_690, u204_693, u204_694, u204_1510, u204_1513, nI_add, b57, a57, e1, e2, eq_self, if_true]
theorem lw_15 {N i : Nat} {xs : Nat → Int32} {A : Gs} {W : Wd} (h : Rel N xs A W) (hI : Inv (10 * i) A) (hi : i + 6 ≤ N) (hN : N ≤ 3072) : Nxt N xs i (RUN 204 695 (LWL i) [] [] W) := by
  have hd : A 0 1 ≤ 40000 := Nat.le_trans hI.2.2.2.2.2.2.2.1 (by omega)
  obtain ⟨W1, W2, e1, e2, a57, a58, hR⟩ := two h (k_out (x := xs (i + 1)) h.1 hI.1 hd) (fun w hw => mrow hw (fun z => m_out (x := xs (i + 1)) z hI.1 hd))
  have b57 := h.2.2.1
  have b58 := h.2.2.2
  have r1 := rd_in1 b58 hN (i := i) (k := 1) (by omega)
  have s1 := rd_in1 a58 hN (i := i) (k := 1) (by omega)
  refine ⟨_, W2, ?_, hR, inv_6 (i_out hI)⟩
  simp (disch := first | omega | decide | assumption | exact nI0_01 | exact nI1_01 | exact bz_01 _ | exact rf1 | exact rf11 | exact rf21) only [Option.bind_some, List.cons_append, List.nil_append, Nat.reduceAdd, Nat.reduceMul, Nat.reduceLeDiff, Nat.reduceEqDiff, ↓reduceIte, LWL, u204_695, u204_696, u204_697, u204_698, u204_699, u204_700, u204_701, u204_704, u204_705, u204_706, u204_707, u204_708, u204_709, u204_710, u204_713, u204_716, u204_717, u204_1510, u204_1513, nI_add, b57, a57, e1, e2, eq_self, if_true]
theorem lw_16 {N i : Nat} {xs : Nat → Int32} {A : Gs} {W : Wd} (h : Rel N xs A W) (hI : Inv (10 * i) A) (hi : i + 6 ≤ N) (hN : N ≤ 3072) : Nxt N xs i (RUN 204 718 (LWL i) [] [] W) := by
  have hd : A 0 1 ≤ 40000 := Nat.le_trans hI.2.2.2.2.2.2.2.1 (by omega)
  obtain ⟨W1, W2, e1, e2, a57, a58, hR⟩ := two h (k_catchFor (x := xs (i + 1)) h.1 hI.1 hd) (fun w hw => mrow hw (fun z => m_catchFor (x := xs (i + 1)) z hI.1 hd))
  have b57 := h.2.2.1
  have b58 := h.2.2.2
  have r1 := rd_in1 b58 hN (i := i) (k := 1) (by omega)
  have s1 := rd_in1 a58 hN (i := i) (k := 1) (by omega)
  refine ⟨_, W2, ?_, hR, inv_6 (i_catchFor hI)⟩
  simp (disch := first | omega | decide | assumption | exact nI0_01 | exact nI1_01 | exact bz_01 _ | exact rf1 | exact rf11 | exact rf21) only [Option.bind_some, List.cons_append, List.nil_append, Nat.reduceAdd, Nat.reduceMul, Nat.reduceLeDiff, Nat.reduceEqDiff, ↓reduceIte, LWL, u204_718, u204_719, u204_720, u204_721, u204_722, u204_723, u204_724, u204_727, u204_728, u204_729, u204_730, u204_731, u204_732, u204_733, u204_736, u204_739, u204_740, u204_1510, u204_1513, nI_add, b57, a57, e1, e2, eq_self, if_true]
theorem lw_17 {N i : Nat} {xs : Nat → Int32} {A : Gs} {W : Wd} (h : Rel N xs A W) (hI : Inv (10 * i) A) (hi : i + 6 ≤ N) (hN : N ≤ 3072) : Nxt N xs i (RUN 204 741 (LWL i) [] [] W) := by
  have hd : A 0 1 ≤ 40000 := Nat.le_trans hI.2.2.2.2.2.2.2.1 (by omega)
  obtain ⟨W1, W2, e1, e2, a57, a58, hR⟩ := two h (k_fewest (x := xs (i + 1)) (y := xs (i + 2)) (v := xs (i + 3)) (n := xs (i + 4)) h.1 hI.1 hd) (fun w hw => mrow hw (fun z => m_fewest (x := xs (i + 1)) (y := xs (i + 2)) (v := xs (i + 3)) (n := xs (i + 4)) z hI.1 hd))
  have b57 := h.2.2.1
  have b58 := h.2.2.2
  have r1 := rd_in1 b58 hN (i := i) (k := 1) (by omega)
  have s1 := rd_in1 a58 hN (i := i) (k := 1) (by omega)
  have r2 := rd_in1 b58 hN (i := i) (k := 2) (by omega)
  have s2 := rd_in1 a58 hN (i := i) (k := 2) (by omega)
  have r3 := rd_in1 b58 hN (i := i) (k := 3) (by omega)
  have s3 := rd_in1 a58 hN (i := i) (k := 3) (by omega)
  have r4 := rd_in1 b58 hN (i := i) (k := 4) (by omega)
  have s4 := rd_in1 a58 hN (i := i) (k := 4) (by omega)
  refine ⟨_, W2, ?_, hR, inv_6 (i_fewest hI)⟩
  simp (disch := first | omega | decide | assumption | exact nI0_01 | exact nI1_01 | exact bz_01 _ | exact rf1 | exact rf11 | exact rf21) only [Option.bind_some, List.cons_append, List.nil_append, Nat.reduceAdd, Nat.reduceMul, Nat.reduceLeDiff, Nat.reduceEqDiff, ↓reduceIte, LWL, u204_741, u204_742, u204_743, u204_744, u204_745, u204_746, u204_747, u204_748, u204_749, u204_750, u204_751, u204_752, u204_753, u204_754, u204_755, u204_756, u204_757, u204_758, u204_759, u204_760, u204_761, u204_762, u204_765, u204_766, u204_767, u204_768, u204_769, u204_770, u204_771, u204_772, u204_773, u204_774, u204_775, u204_776, u204_777, u204_778, u204_779, u204_780, u204_781, u204_782, u204_783, u204_784, u204_785, u204_786, u204_789, u204_792, u204_793, u204_1510, u204_1513, nI_add, b57, a57, e1, e2, eq_self, if_true]
theorem lw_18 {N i : Nat} {xs : Nat → Int32} {A : Gs} {W : Wd} (h : Rel N xs A W) (hI : Inv (10 * i) A) (hi : i + 6 ≤ N) (hN : N ≤ 3072) : Nxt N xs i (RUN 204 794 (LWL i) [] [] W) := by
  have hd : A 0 1 ≤ 40000 := Nat.le_trans hI.2.2.2.2.2.2.2.1 (by omega)
  obtain ⟨W1, W2, e1, e2, a57, a58, hR⟩ := two h (k_letterFor (x := xs (i + 1)) (n := xs (i + 2)) h.1 hI.1 hd) (fun w hw => mrow hw (fun z => m_letterFor (x := xs (i + 1)) (n := xs (i + 2)) z hI.1 hd))
  have b57 := h.2.2.1
  have b58 := h.2.2.2
  have r1 := rd_in1 b58 hN (i := i) (k := 1) (by omega)
  have s1 := rd_in1 a58 hN (i := i) (k := 1) (by omega)
  have r2 := rd_in1 b58 hN (i := i) (k := 2) (by omega)
  have s2 := rd_in1 a58 hN (i := i) (k := 2) (by omega)
  refine ⟨_, W2, ?_, hR, inv_6 (i_letterFor hI)⟩
  simp (disch := first | omega | decide | assumption | exact nI0_01 | exact nI1_01 | exact bz_01 _ | exact rf1 | exact rf11 | exact rf21) only [Option.bind_some, List.cons_append, List.nil_append, Nat.reduceAdd, Nat.reduceMul, Nat.reduceLeDiff, Nat.reduceEqDiff, ↓reduceIte, LWL, u204_794, u204_795, u204_796, u204_797, u204_798, u204_799, u204_800, u204_801, u204_802, u204_803, u204_804, u204_805, u204_808, u204_809, u204_810, u204_811, u204_812, u204_813, u204_814, u204_815, u204_816, u204_817, u204_818, u204_819, u204_822, u204_825, u204_826, u204_1510, u204_1513, nI_add, b57, a57, e1, e2, eq_self, if_true]
theorem lw_19 {N i : Nat} {xs : Nat → Int32} {A : Gs} {W : Wd} (h : Rel N xs A W) (hI : Inv (10 * i) A) (hi : i + 6 ≤ N) (hN : N ≤ 3072) : Nxt N xs i (RUN 204 827 (LWL i) [] [] W) := by
  have hd : A 0 1 ≤ 40000 := Nat.le_trans hI.2.2.2.2.2.2.2.1 (by omega)
  obtain ⟨W1, W2, e1, e2, a57, a58, hR⟩ := two h (k_kindFor (x := xs (i + 1)) (n := xs (i + 2)) h.1 hI.1 hd) (fun w hw => mrow hw (fun z => m_kindFor (x := xs (i + 1)) (n := xs (i + 2)) z hI.1 hd))
  have b57 := h.2.2.1
  have b58 := h.2.2.2
  have r1 := rd_in1 b58 hN (i := i) (k := 1) (by omega)
  have s1 := rd_in1 a58 hN (i := i) (k := 1) (by omega)
  have r2 := rd_in1 b58 hN (i := i) (k := 2) (by omega)
  have s2 := rd_in1 a58 hN (i := i) (k := 2) (by omega)
  refine ⟨_, W2, ?_, hR, inv_6 (i_kindFor hI)⟩
  simp (disch := first | omega | decide | assumption | exact nI0_01 | exact nI1_01 | exact bz_01 _ | exact rf1 | exact rf11 | exact rf21) only [Option.bind_some, List.cons_append, List.nil_append, Nat.reduceAdd, Nat.reduceMul, Nat.reduceLeDiff, Nat.reduceEqDiff, ↓reduceIte, LWL, u204_827, u204_828, u204_829, u204_830, u204_831, u204_832, u204_833, u204_834, u204_835, u204_836, u204_837, u204_838, u204_841, u204_842, u204_843, u204_844, u204_845, u204_846, u204_847, u204_848, u204_849, u204_850, u204_851, u204_852, u204_855, u204_858, u204_859, u204_1510, u204_1513, nI_add, b57, a57, e1, e2, eq_self, if_true]
theorem lw_20 {N i : Nat} {xs : Nat → Int32} {A : Gs} {W : Wd} (h : Rel N xs A W) (hI : Inv (10 * i) A) (hi : i + 6 ≤ N) (hN : N ≤ 3072) : Nxt N xs i (RUN 204 860 (LWL i) [] [] W) := by
  have hd : A 0 1 ≤ 40000 := Nat.le_trans hI.2.2.2.2.2.2.2.1 (by omega)
  obtain ⟨W1, W2, e1, e2, a57, a58, hR⟩ := two h (k_away (x := xs (i + 1)) (v := xs (i + 2)) (n := xs (i + 3)) h.1 hI.1 hd) (fun w hw => mrow hw (fun z => m_away (x := xs (i + 1)) (v := xs (i + 2)) (n := xs (i + 3)) z hI.1 hd))
  have b57 := h.2.2.1
  have b58 := h.2.2.2
  have r1 := rd_in1 b58 hN (i := i) (k := 1) (by omega)
  have s1 := rd_in1 a58 hN (i := i) (k := 1) (by omega)
  have r2 := rd_in1 b58 hN (i := i) (k := 2) (by omega)
  have s2 := rd_in1 a58 hN (i := i) (k := 2) (by omega)
  have r3 := rd_in1 b58 hN (i := i) (k := 3) (by omega)
  have s3 := rd_in1 a58 hN (i := i) (k := 3) (by omega)
  refine ⟨_, W2, ?_, hR, inv_6 (i_away hI)⟩
  simp (disch := first | omega | decide | assumption | exact nI0_01 | exact nI1_01 | exact bz_01 _ | exact rf1 | exact rf11 | exact rf21) only [Option.bind_some, List.cons_append, List.nil_append, Nat.reduceAdd, Nat.reduceMul, Nat.reduceLeDiff, Nat.reduceEqDiff, ↓reduceIte, LWL, u204_860, u204_861, u204_862, u204_863, u204_864, u204_865, u204_866, u204_867, u204_868, u204_869, u204_870, u204_871, u204_872, u204_873, u204_874, u204_875, u204_876, u204_879, u204_880, u204_881, u204_882, u204_883, u204_884, u204_885, u204_886, u204_887, u204_888, u204_889, u204_890, u204_891, u204_892, u204_893, u204_894, u204_895, u204_898, u204_901, u204_902, u204_1510, u204_1513, nI_add, b57, a57, e1, e2, eq_self, if_true]
theorem lw_21 {N i : Nat} {xs : Nat → Int32} {A : Gs} {W : Wd} (h : Rel N xs A W) (hI : Inv (10 * i) A) (hi : i + 6 ≤ N) (hN : N ≤ 3072) : Nxt N xs i (RUN 204 903 (LWL i) [] [] W) := by
  have hd : A 0 1 ≤ 40000 := Nat.le_trans hI.2.2.2.2.2.2.2.1 (by omega)
  obtain ⟨W1, W2, e1, e2, a57, a58, hR⟩ := two h (k_bonesFor (x := xs (i + 1)) (n := xs (i + 2)) h.1 hI.1 hd) (fun w hw => mrow hw (fun z => m_bonesFor (x := xs (i + 1)) (n := xs (i + 2)) z hI.1 hd))
  have b57 := h.2.2.1
  have b58 := h.2.2.2
  have r1 := rd_in1 b58 hN (i := i) (k := 1) (by omega)
  have s1 := rd_in1 a58 hN (i := i) (k := 1) (by omega)
  have r2 := rd_in1 b58 hN (i := i) (k := 2) (by omega)
  have s2 := rd_in1 a58 hN (i := i) (k := 2) (by omega)
  refine ⟨_, W2, ?_, hR, inv_6 (i_bonesFor hI)⟩
  simp (disch := first | omega | decide | assumption | exact nI0_01 | exact nI1_01 | exact bz_01 _ | exact rf1 | exact rf11 | exact rf21) only [Option.bind_some, List.cons_append, List.nil_append, Nat.reduceAdd, Nat.reduceMul, Nat.reduceLeDiff, Nat.reduceEqDiff, ↓reduceIte, LWL, u204_903, u204_904, u204_905, u204_906, u204_907, u204_908, u204_909, u204_910, u204_911, u204_912, u204_913, u204_914, u204_917, u204_918, u204_919, u204_920, u204_921, u204_922, u204_923, u204_924, u204_925, u204_926, u204_927, u204_928, u204_931, u204_934, u204_935, u204_1510, u204_1513, nI_add, b57, a57, e1, e2, eq_self, if_true]
theorem lw_22 {N i : Nat} {xs : Nat → Int32} {A : Gs} {W : Wd} (h : Rel N xs A W) (hI : Inv (10 * i) A) (hi : i + 6 ≤ N) (hN : N ≤ 3072) : Nxt N xs i (RUN 204 936 (LWL i) [] [] W) := by
  have hd : A 0 1 ≤ 40000 := Nat.le_trans hI.2.2.2.2.2.2.2.1 (by omega)
  obtain ⟨W1, W2, e1, e2, a57, a58, hR⟩ := two h (k_fits (t := xs (i + 1)) (x := xs (i + 2)) h.1 hI.1 hI.2.2.1 hd) (fun w hw => mrow hw (fun z => m_fits (t := xs (i + 1)) (x := xs (i + 2)) z hI.1 hI.2.2.1 hd))
  have b57 := h.2.2.1
  have b58 := h.2.2.2
  have r1 := rd_in1 b58 hN (i := i) (k := 1) (by omega)
  have s1 := rd_in1 a58 hN (i := i) (k := 1) (by omega)
  have r2 := rd_in1 b58 hN (i := i) (k := 2) (by omega)
  have s2 := rd_in1 a58 hN (i := i) (k := 2) (by omega)
  refine ⟨_, W2, ?_, hR, inv_6 (i_fits hI)⟩
  simp (disch := first | omega | decide | assumption | exact nI0_01 | exact nI1_01 | exact bz_01 _ | exact rf1 | exact rf11 | exact rf21) only [Option.bind_some, List.cons_append, List.nil_append, Nat.reduceAdd, Nat.reduceMul, Nat.reduceLeDiff, Nat.reduceEqDiff, ↓reduceIte, LWL, u204_936, u204_937, u204_938, u204_939, u204_940, u204_941, u204_942, u204_943, u204_944, u204_945, u204_946, u204_947, u204_950, u204_951, u204_952, u204_953, u204_954, u204_955, u204_956, u204_957, u204_958, u204_959, u204_960, u204_961, u204_964, u204_967, u204_968, u204_1510, u204_1513, nI_add, b57, a57, e1, e2, eq_self, if_true]
theorem lw_23 {N i : Nat} {xs : Nat → Int32} {A : Gs} {W : Wd} (h : Rel N xs A W) (hI : Inv (10 * i) A) (hi : i + 6 ≤ N) (hN : N ≤ 3072) : Nxt N xs i (RUN 204 969 (LWL i) [] [] W) := by
  have hd : A 0 1 ≤ 40000 := Nat.le_trans hI.2.2.2.2.2.2.2.1 (by omega)
  obtain ⟨W1, W2, e1, e2, a57, a58, hR⟩ := two h (k_kinds (t := xs (i + 1)) (x := xs (i + 2)) h.1 hI.1 hI.2.2.1 hd) (fun w hw => mrow hw (fun z => m_kinds (t := xs (i + 1)) (x := xs (i + 2)) z hI.1 hI.2.2.1 hd))
  have b57 := h.2.2.1
  have b58 := h.2.2.2
  have r1 := rd_in1 b58 hN (i := i) (k := 1) (by omega)
  have s1 := rd_in1 a58 hN (i := i) (k := 1) (by omega)
  have r2 := rd_in1 b58 hN (i := i) (k := 2) (by omega)
  have s2 := rd_in1 a58 hN (i := i) (k := 2) (by omega)
  refine ⟨_, W2, ?_, hR, inv_6 (i_kinds hI)⟩
  simp (disch := first | omega | decide | assumption | exact nI0_01 | exact nI1_01 | exact bz_01 _ | exact rf1 | exact rf11 | exact rf21) only [Option.bind_some, List.cons_append, List.nil_append, Nat.reduceAdd, Nat.reduceMul, Nat.reduceLeDiff, Nat.reduceEqDiff, ↓reduceIte, LWL, u204_969, u204_970, u204_971, u204_972, u204_973, u204_974, u204_975, u204_976, u204_977, u204_978, u204_979, u204_980, u204_983, u204_984, u204_985, u204_986, u204_987, u204_988, u204_989, u204_990, u204_991, u204_992, u204_993, u204_994, u204_997, u204_1000, u204_1001, u204_1510, u204_1513, nI_add, b57, a57, e1, e2, eq_self, if_true]
theorem lw_24 {N i : Nat} {xs : Nat → Int32} {A : Gs} {W : Wd} (h : Rel N xs A W) (hI : Inv (10 * i) A) (hi : i + 6 ≤ N) (hN : N ≤ 3072) : Nxt N xs i (RUN 204 1002 (LWL i) [] [] W) := by
  obtain ⟨W1, W2, e1, e2, a57, a58, hR⟩ := two h (crow h.1 (fun z => k_texts (x := xs (i + 1)) z hI.1)) (fun w hw => mrow hw (fun z => m_texts (x := xs (i + 1)) z hI.1))
  have b57 := h.2.2.1
  have b58 := h.2.2.2
  have r1 := rd_in1 b58 hN (i := i) (k := 1) (by omega)
  have s1 := rd_in1 a58 hN (i := i) (k := 1) (by omega)
  refine ⟨_, W2, ?_, hR, inv_6 (i_texts hI)⟩
  simp (disch := first | omega | decide | assumption | exact nI0_01 | exact nI1_01 | exact bz_01 _ | exact rf1 | exact rf11 | exact rf21) only [Option.bind_some, List.cons_append, List.nil_append, Nat.reduceAdd, Nat.reduceMul, Nat.reduceLeDiff, Nat.reduceEqDiff, ↓reduceIte, LWL, u204_1002, u204_1003, u204_1004, u204_1005, u204_1006, u204_1007, u204_1008, u204_1011, u204_1012, u204_1013, u204_1014, u204_1015, u204_1016, u204_1017, u204_1020, u204_1023, u204_1024, u204_1510, u204_1513, nI_add, b57, a57, e1, e2, eq_self, if_true]
theorem lw_25 {N i : Nat} {xs : Nat → Int32} {A : Gs} {W : Wd} (h : Rel N xs A W) (hI : Inv (10 * i) A) (hi : i + 6 ≤ N) (hN : N ≤ 3072) : Nxt N xs i (RUN 204 1025 (LWL i) [] [] W) := by
  have hd : A 0 1 ≤ 40000 := Nat.le_trans hI.2.2.2.2.2.2.2.1 (by omega)
  obtain ⟨W1, W2, e1, e2, a57, a58, hR⟩ := two h (crow h.1 (fun z => k_catches (x := xs (i + 1)) z hI.1 hd)) (fun w hw => mrow hw (fun z => m_catches (x := xs (i + 1)) z hI.1 hd))
  have b57 := h.2.2.1
  have b58 := h.2.2.2
  have r1 := rd_in1 b58 hN (i := i) (k := 1) (by omega)
  have s1 := rd_in1 a58 hN (i := i) (k := 1) (by omega)
  refine ⟨_, W2, ?_, hR, inv_6 (i_catches hI)⟩
  simp (disch := first | omega | decide | assumption | exact nI0_01 | exact nI1_01 | exact bz_01 _ | exact rf1 | exact rf11 | exact rf21) only [Option.bind_some, List.cons_append, List.nil_append, Nat.reduceAdd, Nat.reduceMul, Nat.reduceLeDiff, Nat.reduceEqDiff, ↓reduceIte, LWL, u204_1025, u204_1026, u204_1027, u204_1028, u204_1029, u204_1030, u204_1031, u204_1034, u204_1035, u204_1036, u204_1037, u204_1038, u204_1039, u204_1040, u204_1043, u204_1046, u204_1047, u204_1510, u204_1513, nI_add, b57, a57, e1, e2, eq_self, if_true]
theorem lw_26 {N i : Nat} {xs : Nat → Int32} {A : Gs} {W : Wd} (h : Rel N xs A W) (hI : Inv (10 * i) A) (hi : i + 6 ≤ N) (hN : N ≤ 3072) : Nxt N xs i (RUN 204 1048 (LWL i) [] [] W) := by
  obtain ⟨W1, W2, e1, e2, a57, a58, hR⟩ := twoL h (crowL h.1 (fun z => k_odds (x := xs (i + 1)) (y := xs (i + 2)) z hI.1)) (fun w hw => mrowL hw (fun z => m_odds (x := xs (i + 1)) (y := xs (i + 2)) z hI.1))
  have b57 := h.2.2.1
  have b58 := h.2.2.2
  have r1 := rd_in1 b58 hN (i := i) (k := 1) (by omega)
  have s1 := rd_in1 a58 hN (i := i) (k := 1) (by omega)
  have r2 := rd_in1 b58 hN (i := i) (k := 2) (by omega)
  have s2 := rd_in1 a58 hN (i := i) (k := 2) (by omega)
  refine ⟨_, W2, ?_, hR, inv_6 (i_odds hI)⟩
  have hz : lg_cmp (o_odds A (xs (i + 1)) (xs (i + 2))).1 (o_odds A (xs (i + 1)) (xs (i + 2))).1 = 0 := (lg_cmp_eq _ _).mpr rfl
  simp (disch := first | omega | decide | assumption | exact nI0_01 | exact nI1_01 | exact bz_01 _ | exact rf1 | exact rf11 | exact rf21) only [Option.bind_some, List.cons_append, List.nil_append, Nat.reduceAdd, Nat.reduceMul, Nat.reduceLeDiff, Nat.reduceEqDiff, ↓reduceIte, LWL, u204_1048, u204_1049, u204_1050, u204_1051, u204_1052, u204_1053, u204_1054, u204_1055, u204_1056, u204_1057, u204_1058, u204_1059, u204_1062, u204_1063, u204_1064, u204_1065, u204_1066, u204_1067, u204_1068, u204_1069, u204_1070, u204_1071, u204_1072, u204_1073, u204_1076, u204_1077, u204_1080, u204_1081, u204_1510, u204_1513, nI_add, b57, a57, e1, e2, hz, eq_self, if_true]
theorem lw_27 {N i : Nat} {xs : Nat → Int32} {A : Gs} {W : Wd} (h : Rel N xs A W) (hI : Inv (10 * i) A) (hi : i + 6 ≤ N) (hN : N ≤ 3072) : Nxt N xs i (RUN 204 1082 (LWL i) [] [] W) := by
  obtain ⟨W1, W2, e1, e2, a57, a58, hR⟩ := two h (crow h.1 (fun z => k_seed (x := xs (i + 1)) z )) (fun w hw => mrow hw (fun z => m_seed (x := xs (i + 1)) z ))
  have b57 := h.2.2.1
  have b58 := h.2.2.2
  have r1 := rd_in1 b58 hN (i := i) (k := 1) (by omega)
  have s1 := rd_in1 a58 hN (i := i) (k := 1) (by omega)
  refine ⟨_, W2, ?_, hR, inv_6 (i_seed hI)⟩
  simp (disch := first | omega | decide | assumption | exact nI0_01 | exact nI1_01 | exact bz_01 _ | exact rf1 | exact rf11 | exact rf21) only [Option.bind_some, List.cons_append, List.nil_append, Nat.reduceAdd, Nat.reduceMul, Nat.reduceLeDiff, Nat.reduceEqDiff, ↓reduceIte, LWL, u204_1082, u204_1083, u204_1084, u204_1085, u204_1086, u204_1087, u204_1088, u204_1091, u204_1092, u204_1093, u204_1094, u204_1095, u204_1096, u204_1097, u204_1100, u204_1103, u204_1104, u204_1510, u204_1513, nI_add, b57, a57, e1, e2, eq_self, if_true]
theorem lw_28 {N i : Nat} {xs : Nat → Int32} {A : Gs} {W : Wd} (h : Rel N xs A W) (hI : Inv (10 * i) A) (hi : i + 6 ≤ N) (hN : N ≤ 3072) : Nxt N xs i (RUN 204 1105 (LWL i) [] [] W) := by
  obtain ⟨W1, W2, e1, e2, a57, a58, hR⟩ := two h (k_feed (x := xs (i + 1)) (n := xs (i + 2)) h.1 hI.2.2.2.2.1) (fun w hw => mrow hw (fun z => m_feed (x := xs (i + 1)) (n := xs (i + 2)) z hI.2.2.2.2.1))
  have b57 := h.2.2.1
  have b58 := h.2.2.2
  have r1 := rd_in1 b58 hN (i := i) (k := 1) (by omega)
  have s1 := rd_in1 a58 hN (i := i) (k := 1) (by omega)
  have r2 := rd_in1 b58 hN (i := i) (k := 2) (by omega)
  have s2 := rd_in1 a58 hN (i := i) (k := 2) (by omega)
  refine ⟨_, W2, ?_, hR, inv_6 (i_feed hI)⟩
  simp (disch := first | omega | decide | assumption | exact nI0_01 | exact nI1_01 | exact bz_01 _ | exact rf1 | exact rf11 | exact rf21) only [Option.bind_some, List.cons_append, List.nil_append, Nat.reduceAdd, Nat.reduceMul, Nat.reduceLeDiff, Nat.reduceEqDiff, ↓reduceIte, LWL, u204_1105, u204_1106, u204_1107, u204_1108, u204_1109, u204_1110, u204_1111, u204_1112, u204_1113, u204_1114, u204_1115, u204_1116, u204_1119, u204_1120, u204_1121, u204_1122, u204_1123, u204_1124, u204_1125, u204_1126, u204_1127, u204_1128, u204_1129, u204_1130, u204_1133, u204_1136, u204_1137, u204_1510, u204_1513, nI_add, b57, a57, e1, e2, eq_self, if_true]
theorem lw_29 {N i : Nat} {xs : Nat → Int32} {A : Gs} {W : Wd} (h : Rel N xs A W) (hI : Inv (10 * i) A) (hi : i + 6 ≤ N) (hN : N ≤ 3072) : Nxt N xs i (RUN 204 1138 (LWL i) [] [] W) := by
  obtain ⟨W1, W2, e1, e2, a57, a58, hR⟩ := two h (k_wipe  h.1 ) (fun w hw => m_wipe  hw )
  have b57 := h.2.2.1
  have b58 := h.2.2.2
  refine ⟨_, W2, ?_, hR, inv_6 (i_wipe hI)⟩
  simp (disch := first | omega | decide | assumption | exact nI0_01 | exact nI1_01 | exact bz_01 _ | exact rf1 | exact rf11 | exact rf21) only [Option.bind_some, List.cons_append, List.nil_append, Nat.reduceAdd, Nat.reduceMul, Nat.reduceLeDiff, Nat.reduceEqDiff, ↓reduceIte, LWL, u204_1138, u204_1139, u204_1142, u204_1143, u204_1146, u204_1149, u204_1150, u204_1510, u204_1513, nI_add, e1, e2, eq_self, if_true]
theorem lw_30 {N i : Nat} {xs : Nat → Int32} {A : Gs} {W : Wd} (h : Rel N xs A W) (hI : Inv (10 * i) A) (hi : i + 6 ≤ N) (hN : N ≤ 3072) : Nxt N xs i (RUN 204 1151 (LWL i) [] [] W) := by
  obtain ⟨W1, W2, e1, e2, a57, a58, hR⟩ := two h (k_text  h.1 hI.1 hI.2.2.2.2.1 hI.2.2.2.2.2.1) (fun w hw => mrow hw (fun z => m_text  z hI.1 hI.2.2.2.2.1 hI.2.2.2.2.2.1))
  have b57 := h.2.2.1
  have b58 := h.2.2.2
  refine ⟨_, W2, ?_, hR, inv_6 (i_text hI)⟩
  simp (disch := first | omega | decide | assumption | exact nI0_01 | exact nI1_01 | exact bz_01 _ | exact rf1 | exact rf11 | exact rf21) only [Option.bind_some, List.cons_append, List.nil_append, Nat.reduceAdd, Nat.reduceMul, Nat.reduceLeDiff, Nat.reduceEqDiff, ↓reduceIte, LWL, u204_1151, u204_1152, u204_1155, u204_1156, u204_1159, u204_1162, u204_1163, u204_1510, u204_1513, nI_add, e1, e2, eq_self, if_true]
theorem lw_31 {N i : Nat} {xs : Nat → Int32} {A : Gs} {W : Wd} (h : Rel N xs A W) (hI : Inv (10 * i) A) (hi : i + 6 ≤ N) (hN : N ≤ 3072) : Nxt N xs i (RUN 204 1164 (LWL i) [] [] W) := by
  obtain ⟨W1, W2, e1, e2, a57, a58, hR⟩ := two h (crow h.1 (fun z => k_hold (x := xs (i + 1)) (y := xs (i + 2)) z hI.1)) (fun w hw => mrow hw (fun z => m_hold (x := xs (i + 1)) (y := xs (i + 2)) z hI.1))
  have b57 := h.2.2.1
  have b58 := h.2.2.2
  have r1 := rd_in1 b58 hN (i := i) (k := 1) (by omega)
  have s1 := rd_in1 a58 hN (i := i) (k := 1) (by omega)
  have r2 := rd_in1 b58 hN (i := i) (k := 2) (by omega)
  have s2 := rd_in1 a58 hN (i := i) (k := 2) (by omega)
  refine ⟨_, W2, ?_, hR, inv_6 (i_hold hI)⟩
  simp (disch := first | omega | decide | assumption | exact nI0_01 | exact nI1_01 | exact bz_01 _ | exact rf1 | exact rf11 | exact rf21) only [Option.bind_some, List.cons_append, List.nil_append, Nat.reduceAdd, Nat.reduceMul, Nat.reduceLeDiff, Nat.reduceEqDiff, ↓reduceIte, LWL, u204_1164, u204_1165, u204_1166, u204_1167, u204_1168, u204_1169, u204_1170, u204_1171, u204_1172, u204_1173, u204_1174, u204_1175, u204_1178, u204_1179, u204_1180, u204_1181, u204_1182, u204_1183, u204_1184, u204_1185, u204_1186, u204_1187, u204_1188, u204_1189, u204_1192, u204_1195, u204_1196, u204_1510, u204_1513, nI_add, b57, a57, e1, e2, eq_self, if_true]
theorem lw_32 {N i : Nat} {xs : Nat → Int32} {A : Gs} {W : Wd} (h : Rel N xs A W) (hI : Inv (10 * i) A) (hi : i + 6 ≤ N) (hN : N ≤ 3072) : Nxt N xs i (RUN 204 1197 (LWL i) [] [] W) := by
  obtain ⟨W1, W2, e1, e2, a57, a58, hR⟩ := two h (crow h.1 (fun z => k_as (x := xs (i + 1)) (y := xs (i + 2)) z hI.1 hI.2.1)) (fun w hw => mrow hw (fun z => m_as (x := xs (i + 1)) (y := xs (i + 2)) z hI.1 hI.2.1))
  have b57 := h.2.2.1
  have b58 := h.2.2.2
  have r1 := rd_in1 b58 hN (i := i) (k := 1) (by omega)
  have s1 := rd_in1 a58 hN (i := i) (k := 1) (by omega)
  have r2 := rd_in1 b58 hN (i := i) (k := 2) (by omega)
  have s2 := rd_in1 a58 hN (i := i) (k := 2) (by omega)
  refine ⟨_, W2, ?_, hR, inv_6 (i_as hI)⟩
  simp (disch := first | omega | decide | assumption | exact nI0_01 | exact nI1_01 | exact bz_01 _ | exact rf1 | exact rf11 | exact rf21) only [Option.bind_some, List.cons_append, List.nil_append, Nat.reduceAdd, Nat.reduceMul, Nat.reduceLeDiff, Nat.reduceEqDiff, ↓reduceIte, LWL, u204_1197, u204_1198, u204_1199, u204_1200, u204_1201, u204_1202, u204_1203, u204_1204, u204_1205, u204_1206, u204_1207, u204_1208, u204_1211, u204_1212, u204_1213, u204_1214, u204_1215, u204_1216, u204_1217, u204_1218, u204_1219, u204_1220, u204_1221, u204_1222, u204_1225, u204_1228, u204_1229, u204_1510, u204_1513, nI_add, b57, a57, e1, e2, eq_self, if_true]
theorem lw_33 {N i : Nat} {xs : Nat → Int32} {A : Gs} {W : Wd} (h : Rel N xs A W) (hI : Inv (10 * i) A) (hi : i + 6 ≤ N) (hN : N ≤ 3072) : Nxt N xs i (RUN 204 1230 (LWL i) [] [] W) := by
  obtain ⟨W1, W2, e1, e2, a57, a58, hR⟩ := two h (k_sheet (t := xs (i + 1)) (b := xs (i + 2)) (n := xs (i + 3)) h.1 ) (fun w hw => m_sheet (t := xs (i + 1)) (b := xs (i + 2)) (n := xs (i + 3)) hw )
  have b57 := h.2.2.1
  have b58 := h.2.2.2
  have r1 := rd_in1 b58 hN (i := i) (k := 1) (by omega)
  have s1 := rd_in1 a58 hN (i := i) (k := 1) (by omega)
  have r2 := rd_in1 b58 hN (i := i) (k := 2) (by omega)
  have s2 := rd_in1 a58 hN (i := i) (k := 2) (by omega)
  have r3 := rd_in1 b58 hN (i := i) (k := 3) (by omega)
  have s3 := rd_in1 a58 hN (i := i) (k := 3) (by omega)
  refine ⟨_, W2, ?_, hR, inv_6 (i_sheet hI)⟩
  simp (disch := first | omega | decide | assumption | exact nI0_01 | exact nI1_01 | exact bz_01 _ | exact rf1 | exact rf11 | exact rf21) only [Option.bind_some, List.cons_append, List.nil_append, Nat.reduceAdd, Nat.reduceMul, Nat.reduceLeDiff, Nat.reduceEqDiff, ↓reduceIte, LWL, u204_1230, u204_1231, u204_1232, u204_1233, u204_1234, u204_1235, u204_1236, u204_1237, u204_1238, u204_1239, u204_1240, u204_1241, u204_1242, u204_1243, u204_1244, u204_1245, u204_1246, u204_1249, u204_1250, u204_1251, u204_1252, u204_1253, u204_1254, u204_1255, u204_1256, u204_1257, u204_1258, u204_1259, u204_1260, u204_1261, u204_1262, u204_1263, u204_1264, u204_1265, u204_1268, u204_1271, u204_1272, u204_1510, u204_1513, nI_add, b57, a57, e1, e2, eq_self, if_true]
theorem lw_34 {N i : Nat} {xs : Nat → Int32} {A : Gs} {W : Wd} (h : Rel N xs A W) (hI : Inv (10 * i) A) (hi : i + 6 ≤ N) (hN : N ≤ 3072) : Nxt N xs i (RUN 204 1273 (LWL i) [] [] W) := by
  obtain ⟨W1, W2, e1, e2, a57, a58, hR⟩ := two h (k_write (t := xs (i + 1)) (i := xs (i + 2)) (v := xs (i + 3)) h.1 hI.2.2.1) (fun w hw => m_write (t := xs (i + 1)) (i := xs (i + 2)) (v := xs (i + 3)) hw hI.2.2.1)
  have b57 := h.2.2.1
  have b58 := h.2.2.2
  have r1 := rd_in1 b58 hN (i := i) (k := 1) (by omega)
  have s1 := rd_in1 a58 hN (i := i) (k := 1) (by omega)
  have r2 := rd_in1 b58 hN (i := i) (k := 2) (by omega)
  have s2 := rd_in1 a58 hN (i := i) (k := 2) (by omega)
  have r3 := rd_in1 b58 hN (i := i) (k := 3) (by omega)
  have s3 := rd_in1 a58 hN (i := i) (k := 3) (by omega)
  refine ⟨_, W2, ?_, hR, inv_6 (i_write hI)⟩
  simp (disch := first | omega | decide | assumption | exact nI0_01 | exact nI1_01 | exact bz_01 _ | exact rf1 | exact rf11 | exact rf21) only [Option.bind_some, List.cons_append, List.nil_append, Nat.reduceAdd, Nat.reduceMul, Nat.reduceLeDiff, Nat.reduceEqDiff, ↓reduceIte, LWL, u204_1273, u204_1274, u204_1275, u204_1276, u204_1277, u204_1278, u204_1279, u204_1280, u204_1281, u204_1282, u204_1283, u204_1284, u204_1285, u204_1286, u204_1287, u204_1288, u204_1289, u204_1292, u204_1293, u204_1294, u204_1295, u204_1296, u204_1297, u204_1298, u204_1299, u204_1300, u204_1301, u204_1302, u204_1303, u204_1304, u204_1305, u204_1306, u204_1307, u204_1308, u204_1311, u204_1314, u204_1315, u204_1510, u204_1513, nI_add, b57, a57, e1, e2, eq_self, if_true]
theorem lw_35 {N i : Nat} {xs : Nat → Int32} {A : Gs} {W : Wd} (h : Rel N xs A W) (hI : Inv (10 * i) A) (hi : i + 6 ≤ N) (hN : N ≤ 3072) : Nxt N xs i (RUN 204 1316 (LWL i) [] [] W) := by
  obtain ⟨W1, W2, e1, e2, a57, a58, hR⟩ := two h (k_copy (t := xs (i + 1)) (f := xs (i + 2)) (u := xs (i + 3)) (g := xs (i + 4)) (n := xs (i + 5)) h.1 hI.2.2.1) (fun w hw => m_copy (t := xs (i + 1)) (f := xs (i + 2)) (u := xs (i + 3)) (g := xs (i + 4)) (n := xs (i + 5)) hw hI.2.2.1)
  have b57 := h.2.2.1
  have b58 := h.2.2.2
  have r1 := rd_in1 b58 hN (i := i) (k := 1) (by omega)
  have s1 := rd_in1 a58 hN (i := i) (k := 1) (by omega)
  have r2 := rd_in1 b58 hN (i := i) (k := 2) (by omega)
  have s2 := rd_in1 a58 hN (i := i) (k := 2) (by omega)
  have r3 := rd_in1 b58 hN (i := i) (k := 3) (by omega)
  have s3 := rd_in1 a58 hN (i := i) (k := 3) (by omega)
  have r4 := rd_in1 b58 hN (i := i) (k := 4) (by omega)
  have s4 := rd_in1 a58 hN (i := i) (k := 4) (by omega)
  have r5 := rd_in1 b58 hN (i := i) (k := 5) (by omega)
  have s5 := rd_in1 a58 hN (i := i) (k := 5) (by omega)
  refine ⟨_, W2, ?_, hR, inv_6 (i_copy hI)⟩
  simp (disch := first | omega | decide | assumption | exact nI0_01 | exact nI1_01 | exact bz_01 _ | exact rf1 | exact rf11 | exact rf21) only [Option.bind_some, List.cons_append, List.nil_append, Nat.reduceAdd, Nat.reduceMul, Nat.reduceLeDiff, Nat.reduceEqDiff, ↓reduceIte, LWL, u204_1316, u204_1317, u204_1318, u204_1319, u204_1320, u204_1321, u204_1322, u204_1323, u204_1324, u204_1325, u204_1326, u204_1327, u204_1328, u204_1329, u204_1330, u204_1331, u204_1332, u204_1333, u204_1334, u204_1335, u204_1336, u204_1337, u204_1338, u204_1339, u204_1340, u204_1341, u204_1342, u204_1345, u204_1346, u204_1347, u204_1348, u204_1349, u204_1350, u204_1351, u204_1352, u204_1353, u204_1354, u204_1355, u204_1356, u204_1357, u204_1358, u204_1359, u204_1360, u204_1361, u204_1362, u204_1363, u204_1364, u204_1365, u204_1366, u204_1367, u204_1368, u204_1369, u204_1370, u204_1371, u204_1374, u204_1377, u204_1378, u204_1510, u204_1513, nI_add, b57, a57, e1, e2, eq_self, if_true]
theorem lw_36 {N i : Nat} {xs : Nat → Int32} {A : Gs} {W : Wd} (h : Rel N xs A W) (hI : Inv (10 * i) A) (hi : i + 6 ≤ N) (hN : N ≤ 3072) : Nxt N xs i (RUN 204 1379 (LWL i) [] [] W) := by
  obtain ⟨W1, W2, e1, e2, a57, a58, hR⟩ := two h (crow h.1 (fun z => k_load (t := xs (i + 1)) z hI.2.2.1)) (fun w hw => mrow hw (fun z => m_load (t := xs (i + 1)) z hI.2.2.1))
  have b57 := h.2.2.1
  have b58 := h.2.2.2
  have r1 := rd_in1 b58 hN (i := i) (k := 1) (by omega)
  have s1 := rd_in1 a58 hN (i := i) (k := 1) (by omega)
  refine ⟨_, W2, ?_, hR, inv_6 (i_load hI)⟩
  simp (disch := first | omega | decide | assumption | exact nI0_01 | exact nI1_01 | exact bz_01 _ | exact rf1 | exact rf11 | exact rf21) only [Option.bind_some, List.cons_append, List.nil_append, Nat.reduceAdd, Nat.reduceMul, Nat.reduceLeDiff, Nat.reduceEqDiff, ↓reduceIte, LWL, u204_1379, u204_1380, u204_1381, u204_1382, u204_1383, u204_1384, u204_1385, u204_1388, u204_1389, u204_1390, u204_1391, u204_1392, u204_1393, u204_1394, u204_1397, u204_1400, u204_1401, u204_1510, u204_1513, nI_add, b57, a57, e1, e2, eq_self, if_true]
theorem lw_37 {N i : Nat} {xs : Nat → Int32} {A : Gs} {W : Wd} (h : Rel N xs A W) (hI : Inv (10 * i) A) (hi : i + 6 ≤ N) (hN : N ≤ 3072) : Nxt N xs i (RUN 204 1402 (LWL i) [] [] W) := by
  obtain ⟨W1, W2, e1, e2, a57, a58, hR⟩ := two h (crow h.1 (fun z => k_judge (t := xs (i + 1)) z hI.1 hI.2.2.1)) (fun w hw => mrow hw (fun z => m_judge (t := xs (i + 1)) z hI.1 hI.2.2.1))
  have b57 := h.2.2.1
  have b58 := h.2.2.2
  have r1 := rd_in1 b58 hN (i := i) (k := 1) (by omega)
  have s1 := rd_in1 a58 hN (i := i) (k := 1) (by omega)
  refine ⟨_, W2, ?_, hR, inv_6 (i_judge hI)⟩
  simp (disch := first | omega | decide | assumption | exact nI0_01 | exact nI1_01 | exact bz_01 _ | exact rf1 | exact rf11 | exact rf21) only [Option.bind_some, List.cons_append, List.nil_append, Nat.reduceAdd, Nat.reduceMul, Nat.reduceLeDiff, Nat.reduceEqDiff, ↓reduceIte, LWL, u204_1402, u204_1403, u204_1404, u204_1405, u204_1406, u204_1407, u204_1408, u204_1411, u204_1412, u204_1413, u204_1414, u204_1415, u204_1416, u204_1417, u204_1420, u204_1423, u204_1424, u204_1510, u204_1513, nI_add, b57, a57, e1, e2, eq_self, if_true]
theorem lw_38 {N i : Nat} {xs : Nat → Int32} {A : Gs} {W : Wd} (h : Rel N xs A W) (hI : Inv (10 * i) A) (hi : i + 6 ≤ N) (hN : N ≤ 3072) : Nxt N xs i (RUN 204 1425 (LWL i) [] [] W) := by
  obtain ⟨W1, W2, e1, e2, a57, a58, hR⟩ := two h (k_image  h.1 ) (fun w hw => mrow hw (fun z => m_image  z ))
  have b57 := h.2.2.1
  have b58 := h.2.2.2
  refine ⟨_, W2, ?_, hR, inv_6 (i_image hI)⟩
  simp (disch := first | omega | decide | assumption | exact nI0_01 | exact nI1_01 | exact bz_01 _ | exact rf1 | exact rf11 | exact rf21) only [Option.bind_some, List.cons_append, List.nil_append, Nat.reduceAdd, Nat.reduceMul, Nat.reduceLeDiff, Nat.reduceEqDiff, ↓reduceIte, LWL, u204_1425, u204_1426, u204_1429, u204_1430, u204_1433, u204_1436, u204_1437, u204_1510, u204_1513, nI_add, e1, e2, eq_self, if_true]
theorem lw_39 {N i : Nat} {xs : Nat → Int32} {A : Gs} {W : Wd} (h : Rel N xs A W) (hI : Inv (10 * i) A) (hi : i + 6 ≤ N) (hN : N ≤ 3072) : Nxt N xs i (RUN 204 1438 (LWL i) [] [] W) := by
  obtain ⟨W1, W2, e1, e2, a57, a58, hR⟩ := two h (k_undo  h.1 hI.2.2.2.1) (fun w hw => mrow hw (fun z => m_undo  z hI.2.2.2.1))
  have b57 := h.2.2.1
  have b58 := h.2.2.2
  refine ⟨_, W2, ?_, hR, inv_6 (i_undo hI)⟩
  simp (disch := first | omega | decide | assumption | exact nI0_01 | exact nI1_01 | exact bz_01 _ | exact rf1 | exact rf11 | exact rf21) only [Option.bind_some, List.cons_append, List.nil_append, Nat.reduceAdd, Nat.reduceMul, Nat.reduceLeDiff, Nat.reduceEqDiff, ↓reduceIte, LWL, u204_1438, u204_1439, u204_1442, u204_1443, u204_1446, u204_1449, u204_1450, u204_1510, u204_1513, nI_add, e1, e2, eq_self, if_true]
theorem lw_40 {N i : Nat} {xs : Nat → Int32} {A : Gs} {W : Wd} (h : Rel N xs A W) (hI : Inv (10 * i) A) (hi : i + 6 ≤ N) (hN : N ≤ 3072) : Nxt N xs i (RUN 204 1451 (LWL i) [] [] W) := by
  obtain ⟨W1, W2, e1, e2, a57, a58, hR⟩ := two h (k_tear  h.1 hI.2.2.2.1) (fun w hw => m_tear  hw hI.2.2.2.1)
  have b57 := h.2.2.1
  have b58 := h.2.2.2
  refine ⟨_, W2, ?_, hR, inv_6 (i_tear hI)⟩
  simp (disch := first | omega | decide | assumption | exact nI0_01 | exact nI1_01 | exact bz_01 _ | exact rf1 | exact rf11 | exact rf21) only [Option.bind_some, List.cons_append, List.nil_append, Nat.reduceAdd, Nat.reduceMul, Nat.reduceLeDiff, Nat.reduceEqDiff, ↓reduceIte, LWL, u204_1451, u204_1452, u204_1455, u204_1456, u204_1459, u204_1462, u204_1463, u204_1510, u204_1513, nI_add, e1, e2, eq_self, if_true]
theorem lw_41 {N i : Nat} {xs : Nat → Int32} {A : Gs} {W : Wd} (h : Rel N xs A W) (hI : Inv (10 * i) A) (hi : i + 6 ≤ N) (hN : N ≤ 3072) : Nxt N xs i (RUN 204 1464 (LWL i) [] [] W) := by
  obtain ⟨W1, W2, e1, e2, a57, a58, hR⟩ := two h (crow h.1 (fun z => k_count (x := xs (i + 1)) z hI.1)) (fun w hw => mrow hw (fun z => m_count (x := xs (i + 1)) z hI.1))
  have b57 := h.2.2.1
  have b58 := h.2.2.2
  have r1 := rd_in1 b58 hN (i := i) (k := 1) (by omega)
  have s1 := rd_in1 a58 hN (i := i) (k := 1) (by omega)
  refine ⟨_, W2, ?_, hR, inv_6 (i_count hI)⟩
  simp (disch := first | omega | decide | assumption | exact nI0_01 | exact nI1_01 | exact bz_01 _ | exact rf1 | exact rf11 | exact rf21) only [Option.bind_some, List.cons_append, List.nil_append, Nat.reduceAdd, Nat.reduceMul, Nat.reduceLeDiff, Nat.reduceEqDiff, ↓reduceIte, LWL, u204_1464, u204_1465, u204_1466, u204_1467, u204_1468, u204_1469, u204_1470, u204_1473, u204_1474, u204_1475, u204_1476, u204_1477, u204_1478, u204_1479, u204_1482, u204_1485, u204_1486, u204_1510, u204_1513, nI_add, b57, a57, e1, e2, eq_self, if_true]
theorem lw_42 {N i : Nat} {xs : Nat → Int32} {A : Gs} {W : Wd} (h : Rel N xs A W) (hI : Inv (10 * i) A) (hi : i + 6 ≤ N) (hN : N ≤ 3072) : Nxt N xs i (RUN 204 1487 (LWL i) [] [] W) := by
  obtain ⟨W1, W2, e1, e2, a57, a58, hR⟩ := two h (k_status (x := xs (i + 1)) h.1 hI.2.2.2.2.2.2.1) (fun w hw => mrow hw (fun z => m_status (x := xs (i + 1)) z ))
  have b57 := h.2.2.1
  have b58 := h.2.2.2
  have r1 := rd_in1 b58 hN (i := i) (k := 1) (by omega)
  have s1 := rd_in1 a58 hN (i := i) (k := 1) (by omega)
  refine ⟨_, W2, ?_, hR, inv_6 (i_status hI)⟩
  simp (disch := first | omega | decide | assumption | exact nI0_01 | exact nI1_01 | exact bz_01 _ | exact rf1 | exact rf11 | exact rf21) only [Option.bind_some, List.cons_append, List.nil_append, Nat.reduceAdd, Nat.reduceMul, Nat.reduceLeDiff, Nat.reduceEqDiff, ↓reduceIte, LWL, u204_1487, u204_1488, u204_1489, u204_1490, u204_1491, u204_1492, u204_1493, u204_1496, u204_1497, u204_1498, u204_1499, u204_1500, u204_1501, u204_1502, u204_1505, u204_1508, u204_1509, u204_1510, u204_1513, nI_add, b57, a57, e1, e2, eq_self, if_true]
theorem lw_no {N i : Nat} {xs : Nat → Int32} {A : Gs} {W : Wd} (h : Rel N xs A W) (hI : Inv (10 * i) A) : Nxt N xs i (RUN 204 1510 (LWL i) [] [] W) := by
  refine ⟨A, W, ?_, h, inv_6 hI.same⟩
  simp (disch := first | omega | decide | assumption | exact nI0_01 | exact nI1_01 | exact bz_01 _ | exact rf1 | exact rf11 | exact rf21) only [Option.bind_some, List.cons_append, List.nil_append, Nat.reduceAdd, Nat.reduceMul, Nat.reduceLeDiff, Nat.reduceEqDiff, ↓reduceIte, LWL, u204_1510, u204_1513, nI_add]
theorem lw_sw {N i : Nat} {xs : Nat → Int32} {A : Gs} {W : Wd} {v : Int32} (h : Rel N xs A W) (hI : Inv (10 * i) A) (hi : i + 6 ≤ N) (hN : N ≤ 3072) : Nxt N xs i (RUN 204 33 (LWL i) [] [.int v] W) := by
  rw [u204_33]
  exact (lw_0 h hI hi hN).ite ((lw_1 h hI hi hN).ite ((lw_2 h hI hi hN).ite ((lw_3 h hI hi hN).ite ((lw_4 h hI hi hN).ite ((lw_5 h hI hi hN).ite ((lw_6 h hI hi hN).ite ((lw_7 h hI hi hN).ite ((lw_8 h hI hi hN).ite ((lw_9 h hI hi hN).ite ((lw_10 h hI hi hN).ite ((lw_11 h hI hi hN).ite ((lw_12 h hI hi hN).ite ((lw_13 h hI hi hN).ite ((lw_14 h hI hi hN).ite ((lw_15 h hI hi hN).ite ((lw_16 h hI hi hN).ite ((lw_17 h hI hi hN).ite ((lw_18 h hI hi hN).ite ((lw_19 h hI hi hN).ite ((lw_20 h hI hi hN).ite ((lw_21 h hI hi hN).ite ((lw_22 h hI hi hN).ite ((lw_23 h hI hi hN).ite ((lw_24 h hI hi hN).ite ((lw_25 h hI hi hN).ite ((lw_26 h hI hi hN).ite ((lw_27 h hI hi hN).ite ((lw_28 h hI hi hN).ite ((lw_29 h hI hi hN).ite ((lw_30 h hI hi hN).ite ((lw_31 h hI hi hN).ite ((lw_32 h hI hi hN).ite ((lw_33 h hI hi hN).ite ((lw_34 h hI hi hN).ite ((lw_35 h hI hi hN).ite ((lw_36 h hI hi hN).ite ((lw_37 h hI hi hN).ite ((lw_38 h hI hi hN).ite ((lw_39 h hI hi hN).ite ((lw_40 h hI hi hN).ite ((lw_41 h hI hi hN).ite ((lw_42 h hI hi hN).ite (lw_no h hI)))))))))))))))))))))))))))))))))))))))))))
theorem lw_neg : ∀ n, n < 6 → (nI n - nI 6).toInt < 0 := by decide
theorem law_all {N : Nat} {xs : Nat → Int32} (hN : N ≤ 3072) : ∀ (m i : Nat) (A : Gs) (W : Wd), Rel N xs A W → Inv (10 * i) A → N ≤ i + 6 * m + 5 → i ≤ 4000 → ∃ W', RUN 204 18 (LWL i) [] [] W = some ([.int (nI 1)], W') := by
  have ex : ∀ (i : Nat) (W : Wd), W.1 58 0 = nI N → i ≤ 4000 → ¬ i + 6 ≤ N → RUN 204 18 (LWL i) [] [] W = some ([.int (nI 1)], W) := by
    intro i W b58 hi4 hi
    have hc : nI N - nI 6 < nI i := by
      rw [Int32.lt_iff_toInt_lt, nI_toInt (show i < 2147483648 by omega)]
      by_cases q : 6 ≤ N
      · rw [nn_sub q, nI_toInt (by omega)]
        omega
      · have := lw_neg N (by omega)
        omega
    rw [LWL, u204_18]
    simp (disch := first | omega | decide | assumption | exact nI0_01 | exact nI1_01 | exact bz_01 _ | exact rf1 | exact rf11 | exact rf21) only [Option.bind_some, List.cons_append, List.nil_append, Nat.reduceAdd, Nat.reduceMul, Nat.reduceLeDiff, Nat.reduceEqDiff, ↓reduceIte, u204_19, u204_20, u204_21, u204_23, u204_24, u204_1516, u204_1517, b58, hc, if_true]
  intro m
  induction m with
  | zero =>
    intro i A W h hI hm hi4
    exact ⟨W, ex i W h.2.2.2 hi4 (by omega)⟩
  | succ m ih =>
    intro i A W h hI hm hi4
    by_cases hi : i + 6 ≤ N
    · have b57 := h.2.2.1
      have b58 := h.2.2.2
      have hc : ¬ N - 6 < i := by omega
      have r0 : i < (W.1 58 0).toNatClampNeg := by rw [b58, nI_clamp (by omega)]; omega
      obtain ⟨A', W', e1, e2, e3⟩ := lw_sw (v := xs i &&& nI 63) h hI hi hN
      obtain ⟨W2, e4⟩ := ih (i + 6) A' W' e2 e3 (by omega) (by omega)
      refine ⟨W2, ?_⟩
      have h6 : 6 ≤ N := by omega
      have hi2 : i < 2147483648 := by omega
      rw [← e4, ← e1, LWL, u204_18]
      simp (disch := first | omega | decide | assumption | exact nI0_01 | exact nI1_01 | exact bz_01 _ | exact rf1 | exact rf11 | exact rf21) only [Option.bind_some, List.cons_append, List.nil_append, Nat.reduceAdd, Nat.reduceMul, Nat.reduceLeDiff, Nat.reduceEqDiff, ↓reduceIte, LWL, u204_19, u204_20, u204_21, u204_23, u204_24, u204_27, u204_28, u204_29, u204_30, u204_32, b57, b58, nn_sub, nn_lt, hc, if_false]
    · exact ⟨W, ex i W h.2.2.2 hi4 hi⟩
