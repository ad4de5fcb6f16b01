/-! COPIES -/
def rng (f n : Int32) (z : Nat) : Bool := decide (0 ≤ f.toInt ∧ 0 ≤ n.toInt ∧ n.toInt + f.toInt ≤ (z : Int))
def cpyS (A : Gs) (t f u g n : Nat) : Gs := fun c k => if c = 25 + u ∧ g ≤ k ∧ k < g + n then A (25 + t) (f + (k - g)) else A c k
theorem cpyS_r {A : Gs} {t f u g n c : Nat} (h : c ≠ 25 + u) : cpyS A t f u g n c = A c := by
  funext k
  unfold cpyS
  rw [if_neg (fun z => h z.1)]
theorem sub_lt {z a m : Nat} (hz : z ≤ 40) (ha : a < 2147483648) (hm : m < 2147483648) : (nI z - nI a < nI m) = (z < a + m) := by
  have e : (nI z - nI a).toInt = (z : Int) - a := by
    rw [Int32.toInt_sub, nI_toInt (by omega), nI_toInt ha]
    exact Int.bmod_eq_of_le (by omega) (by omega)
  rw [Int32.lt_iff_toInt_lt, e, nI_toInt hm]
  exact propext ⟨fun h => by omega, fun h => by omega⟩
theorem sub_ge {z a m : Nat} (hz : z ≤ 40) (ha : a < 2147483648) (hm : m < 2147483648) : (nI m ≤ nI z - nI a) = (a + m ≤ z) := by
  have h := sub_lt hz ha hm
  rw [← Int32.not_lt, h]
  exact propext ⟨fun h => by omega, fun h => by omega⟩
theorem ge0_case (v : Int32) : v < 0 ∨ ∃ k, k < 2147483648 ∧ v = nI k ∧ ix v = k := by
  by_cases h : v < 0
  · exact Or.inl h
  · right
    have h2 : 0 ≤ v.toInt := by
      have := Int32.not_lt.mp h
      rw [ge_z] at this; exact this
    have h3 := Int32.toInt_lt v
    have e : v = nI v.toInt.toNat := by
      apply Int32.toInt_inj.mp
      rw [nI_toInt (by omega)]
      omega
    exact ⟨v.toInt.toNat, by omega, e, rfl⟩
def cst (a b n : Nat) (f : Nat → Int32) (j k : Nat) : Int32 := if a < b then (if b + n ≤ k + j ∧ k < b + n then f (a + (k - b)) else f k) else (if b ≤ k ∧ k < b + j then f (a + (k - b)) else f k)
theorem cst_0 (a b n : Nat) (f : Nat → Int32) : cst a b n f 0 = f := by
  funext k
  unfold cst
  split
  · rw [if_neg (by omega)]
  · rw [if_neg (by omega)]
theorem cst_n (a b n : Nat) (f : Nat → Int32) : cst a b n f n = fun k => if b ≤ k ∧ k < b + n then f (a + (k - b)) else f k := by
  funext k
  unfold cst
  by_cases h : a < b
  · rw [if_pos h]
    by_cases h2 : b ≤ k ∧ k < b + n
    · rw [if_pos h2, if_pos (by omega)]
    · rw [if_neg h2, if_neg (by omega)]
  · rw [if_neg h]
theorem cst_d {a b n j : Nat} (f : Nat → Int32) (h : a < b) (hj : j < n) : upd (cst a b n f j) (b + (n - 1 - j)) (cst a b n f j (a + (n - 1 - j))) = cst a b n f (j + 1) := by
  have e : cst a b n f j (a + (n - 1 - j)) = f (a + (n - 1 - j)) := by
    unfold cst
    rw [if_pos h, if_neg (by omega)]
  rw [e]
  funext k
  unfold upd cst
  rw [if_pos h, if_pos h]
  by_cases q : k = b + (n - 1 - j)
  · rw [if_pos q, if_pos (by omega), q, Nat.add_sub_cancel_left]
  · rw [if_neg q]
    by_cases q2 : b + n ≤ k + j ∧ k < b + n
    · rw [if_pos q2, if_pos (by omega)]
    · rw [if_neg q2, if_neg (by omega)]
theorem cst_u {a b n j : Nat} (f : Nat → Int32) (h : ¬ a < b) : upd (cst a b n f j) (b + j) (cst a b n f j (a + j)) = cst a b n f (j + 1) := by
  have e : cst a b n f j (a + j) = f (a + j) := by
    unfold cst
    rw [if_neg h, if_neg (by omega)]
  rw [e]
  funext k
  unfold upd cst
  rw [if_neg h, if_neg h]
  by_cases q : k = b + j
  · rw [if_pos q, if_pos (by omega), q, Nat.add_sub_cancel_left]
  · rw [if_neg q]
    by_cases q2 : b ≤ k ∧ k < b + j
    · rw [if_pos q2, if_pos (by omega)]
    · rw [if_neg q2, if_neg (by omega)]
theorem cp_loop {x1 x2 x3 x4 : Option Value} {a b n : Nat} {w : Wd} {f : Nat → Int32} (ha : a + n ≤ 160) (hb : b + n ≤ 160) : ∀ (m j : Nat) (x9 : Option Value), m + j = n → RUN 194 138 [some (.ref 44), x1, x2, x3, x4, some (.int (nI n)), some (.int (nI a)), some (.int (nI b)), some (.int (nI j)), x9] [] [] (put w 53 (cst a b n f j)) = some ([.int (nI n)], put w 53 (cst a b n f n)) := by
  intro m
  induction m with
  | zero =>
    intro j x9 hm
    have e : j = n := by omega
    subst e
    rw [u194_138]
    simp (disch := first | omega | decide | exact nI0_01 | exact nI1_01 | exact bz_01 _) only [Option.bind_some, List.cons_append, List.nil_append, Nat.reduceAdd, Nat.reduceMul, Nat.reduceLeDiff, Nat.reduceEqDiff, ↓reduceIte, n194, u194_0, u194_1, u194_4, u194_7, u194_8, u194_11, u194_14, u194_15, u194_17, u194_20, u194_21, u194_22, u194_25, u194_26, u194_27, u194_30, u194_31, u194_34, u194_35, u194_36, u194_39, u194_40, u194_43, u194_46, u194_47, u194_48, u194_51, u194_52, u194_53, u194_54, u194_57, u194_58, u194_59, u194_62, u194_63, u194_66, u194_69, u194_70, u194_71, u194_74, u194_76, u194_79, u194_81, u194_84, u194_86, u194_87, u194_90, u194_91, u194_92, u194_93, u194_94, u194_97, u194_99, u194_100, u194_103, u194_104, u194_105, u194_107, u194_108, u194_111, u194_112, u194_114, u194_117, u194_118, u194_120, u194_121, u194_122, u194_123, u194_124, u194_126, u194_128, u194_129, u194_130, u194_132, u194_133, u194_135, u194_136, u194_140, u194_142, u194_145, u194_147, u194_149, u194_152, u194_154, u194_155, u194_156, u194_158, u194_159, u194_162, u194_164, u194_166, u194_167, u194_170, u194_172, u194_174, u194_175, u194_176, u194_179, u194_181, u194_183, u194_184, u194_185, u194_186, u194_189, u194_192, u194_194, nn_le, Nat.le_refl, if_true]
  | succ m ih =>
    intro j x9 hm
    have h1 : ¬ n ≤ j := by omega
    by_cases h2 : a < b
    · have h2' : ¬ b ≤ a := by omega
      have i1 : nI n - nI 1 - nI j = nI (n - 1 - j) := by rw [nn_sub (by omega), nn_sub (by omega)]
      have ha2 : a + (n - 1 - j) < 160 := by omega
      have hb2 : b + (n - 1 - j) < 160 := by omega
      rw [u194_138]
      simp (disch := first | omega | decide | exact nI0_01 | exact nI1_01 | exact bz_01 _) only [Option.bind_some, List.cons_append, List.nil_append, Nat.reduceAdd, Nat.reduceMul, Nat.reduceLeDiff, Nat.reduceEqDiff, ↓reduceIte, n194, u194_0, u194_1, u194_4, u194_7, u194_8, u194_11, u194_14, u194_15, u194_17, u194_20, u194_21, u194_22, u194_25, u194_26, u194_27, u194_30, u194_31, u194_34, u194_35, u194_36, u194_39, u194_40, u194_43, u194_46, u194_47, u194_48, u194_51, u194_52, u194_53, u194_54, u194_57, u194_58, u194_59, u194_62, u194_63, u194_66, u194_69, u194_70, u194_71, u194_74, u194_76, u194_79, u194_81, u194_84, u194_86, u194_87, u194_90, u194_91, u194_92, u194_93, u194_94, u194_97, u194_99, u194_100, u194_103, u194_104, u194_105, u194_107, u194_108, u194_111, u194_112, u194_114, u194_117, u194_118, u194_120, u194_121, u194_122, u194_123, u194_124, u194_126, u194_128, u194_129, u194_130, u194_132, u194_133, u194_135, u194_136, u194_140, u194_142, u194_145, u194_147, u194_149, u194_152, u194_154, u194_155, u194_156, u194_158, u194_159, u194_162, u194_164, u194_166, u194_167, u194_170, u194_172, u194_174, u194_175, u194_176, u194_179, u194_181, u194_183, u194_184, u194_185, u194_186, u194_189, u194_192, u194_194, nn_le, h1, h2', if_false, i1, nI_add, put_at, st2_put, cst_d f h2 (show j < n by omega)]
      exact ih (j + 1) _ (by omega)
    · have h2' : b ≤ a := by omega
      have ha2 : a + j < 160 := by omega
      have hb2 : b + j < 160 := by omega
      rw [u194_138]
      simp (disch := first | omega | decide | exact nI0_01 | exact nI1_01 | exact bz_01 _) only [Option.bind_some, List.cons_append, List.nil_append, Nat.reduceAdd, Nat.reduceMul, Nat.reduceLeDiff, Nat.reduceEqDiff, ↓reduceIte, n194, u194_0, u194_1, u194_4, u194_7, u194_8, u194_11, u194_14, u194_15, u194_17, u194_20, u194_21, u194_22, u194_25, u194_26, u194_27, u194_30, u194_31, u194_34, u194_35, u194_36, u194_39, u194_40, u194_43, u194_46, u194_47, u194_48, u194_51, u194_52, u194_53, u194_54, u194_57, u194_58, u194_59, u194_62, u194_63, u194_66, u194_69, u194_70, u194_71, u194_74, u194_76, u194_79, u194_81, u194_84, u194_86, u194_87, u194_90, u194_91, u194_92, u194_93, u194_94, u194_97, u194_99, u194_100, u194_103, u194_104, u194_105, u194_107, u194_108, u194_111, u194_112, u194_114, u194_117, u194_118, u194_120, u194_121, u194_122, u194_123, u194_124, u194_126, u194_128, u194_129, u194_130, u194_132, u194_133, u194_135, u194_136, u194_140, u194_142, u194_145, u194_147, u194_149, u194_152, u194_154, u194_155, u194_156, u194_158, u194_159, u194_162, u194_164, u194_166, u194_167, u194_170, u194_172, u194_174, u194_175, u194_176, u194_179, u194_181, u194_183, u194_184, u194_185, u194_186, u194_189, u194_192, u194_194, nn_le, h1, h2', if_false, if_true, nI_add, put_at, st2_put, cst_u f h2]
      exact ih (j + 1) _ (by omega)
theorem M_copy {A : Gs} {w : Wd} (h : M A w) {t f u g n : Nat} (ht : t < 4) (hu : u < 4) (hf : f + n ≤ 40) (hg : g + n ≤ 40) : M (cpyS A t f u g n) (put w 53 (fun k => if 40 * u + g ≤ k ∧ k < 40 * u + g + n then w.1 53 (40 * t + f + (k - (40 * u + g))) else w.1 53 k)) := by
  obtain ⟨h1, h2, h3, h4, h5, h6, h7, h8, h9⟩ := h
  have hr : rowS (cpyS A t f u g n) = rowS A := by
    funext j
    unfold rowS lay
    rw [cpyS_r (by omega), cpyS_r (by omega), cpyS_r (by omega), cpyS_r (by omega), cpyS_r (by omega), cpyS_r (by omega)]
  refine ⟨?_, ?_, ?_, ?_, ?_, ?_, ?_, ?_, ?_⟩
  · rw [put_ne _ _ (by omega), hr]; exact h1
  · rw [put_ne _ _ (by omega), cpyS_r (by omega)]; exact h2
  · rw [put_ne _ _ (by omega), cpyS_r (by omega)]; exact h3
  · rw [put_ne _ _ (by omega), cpyS_r (by omega)]
    intro q k hk
    rw [h4 q k hk]
    congr 1
    unfold lay
    show _ = (if k < 3 then cpyS A t f u g n 10 k else if k < 13 then cpyS A t f u g n 11 (k - 3) else if k < 19 then cpyS A t f u g n 12 (k - 13) else if k < 25 then cpyS A t f u g n 13 (k - 19) else if k < 65 then cpyS A t f u g n (10 + (4 + (k - 25) % 5)) ((k - 25) / 5) else cpyS A t f u g n 19 (k - 65))
    rw [cpyS_r (by omega), cpyS_r (by omega), cpyS_r (by omega), cpyS_r (by omega), cpyS_r (by omega), cpyS_r (by omega)]
  · rw [put_ne _ _ (by omega), cpyS_r (by omega)]; exact h5
  · rw [put_ne _ _ (by omega), cpyS_r (by omega)]; exact h6
  · rw [put_ne _ _ (by omega), cpyS_r (by omega)]; exact h7
  · rw [put_ne _ _ (by omega), cpyS_r (by omega)]; exact h8
  · intro t' k ht' hk
    rw [put_at]
    unfold cpyS
    show (if 40 * u + g ≤ 40 * t' + k ∧ 40 * t' + k < 40 * u + g + n then w.1 53 (40 * t + f + (40 * t' + k - (40 * u + g))) else w.1 53 (40 * t' + k)) = _
    by_cases q : 25 + t' = 25 + u ∧ g ≤ k ∧ k < g + n
    · have e : t' = u := by omega
      subst e
      rw [if_pos (by omega), if_pos q, show 40 * t + f + (40 * t' + k - (40 * t' + g)) = 40 * t + (f + (k - g)) by omega]
      exact h9 t _ ht (by omega)
    · rw [if_neg (by omega), if_neg q]
      exact h9 t' k ht' hk
def o_copy (A : Gs) (t f u g n : Int32) : Int32 × Gs := if ok t 3 = true ∧ ok u 3 = true then (if A 23 (ix t) = 0 ∨ A 23 (ix u) = 0 then bad A 5 else if ¬ A 23 (ix t) = A 23 (ix u) then bad A 2 else if rng f n (A 24 (ix t)) = true ∧ rng g n (A 24 (ix u)) = true then (nI (ix n), cpyS A (ix t) (ix f) (ix u) (ix g) (ix n)) else bad A 0) else bad A 0
theorem rng_nI {f n z : Nat} (hf : f < 2147483648) (hn : n < 2147483648) : rng (nI f) (nI n) z = decide (n + f ≤ z) := by
  unfold rng
  rw [nI_toInt hf, nI_toInt hn]
  by_cases h : n + f ≤ z
  · rw [decide_eq_true h]; exact decide_eq_true (by omega)
  · rw [decide_eq_false h]; exact decide_eq_false (by omega)
theorem rng_f {f n : Int32} {z : Nat} (h : f < 0 ∨ n < 0) : rng f n z = false := by
  refine decide_eq_false (fun q => ?_)
  rcases h with h | h
  · rw [lt_z] at h; omega
  · rw [lt_z] at h; omega
theorem m_copy {A : Gs} {w : Wd} {t f u g n : Int32} (h : M A w) (hS : Shs A) : opM 194 [.int t, .int f, .int u, .int g, .int n] (o_copy A t f u g n) w := by
  unfold o_copy
  rcases ok_case t 3 (by omega) with ⟨k, hk, rfl, ek, ik⟩ | ek
  · rcases ok_case u 3 (by omega) with ⟨l, hl, rfl, el, il⟩ | el
    · have hk4 : k < 4 := by omega
      have hl4 : l < 4 := by omega
      rw [if_pos ⟨ek, el⟩, ik, il]
      have hb := h.bits hk4
      have hz := h.size hk4
      have hn := bits_neg hS hk4
      have hS2 := (hS k hk4).2
      have hbl := h.bits hl4
      have hzl := h.size hl4
      have hnl := bits_neg hS hl4
      have hS2l := (hS l hl4).2
      have hm : ¬ (0 : Int32) ≤ -1 := by decide
      have hm' : (-1 : Int32) < 0 := by decide
      by_cases h0 : A 23 k = 0
      · rw [if_pos (Or.inl h0)]
        rw [if_pos h0] at hb
        refine opM_bad h (by omega) ?_
        simp (disch := first | omega | decide | exact nI0_01 | exact nI1_01 | exact bz_01 _) only [Option.bind_some, List.cons_append, List.nil_append, Nat.reduceAdd, Nat.reduceMul, Nat.reduceLeDiff, Nat.reduceEqDiff, ↓reduceIte, n194, u194_0, u194_1, u194_4, u194_7, u194_8, u194_11, u194_14, u194_15, u194_17, u194_20, u194_21, u194_22, u194_25, u194_26, u194_27, u194_30, u194_31, u194_34, u194_35, u194_36, u194_39, u194_40, u194_43, u194_46, u194_47, u194_48, u194_51, u194_52, u194_53, u194_54, u194_57, u194_58, u194_59, u194_62, u194_63, u194_66, u194_69, u194_70, u194_71, u194_74, u194_76, u194_79, u194_81, u194_84, u194_86, u194_87, u194_90, u194_91, u194_92, u194_93, u194_94, u194_97, u194_99, u194_100, u194_103, u194_104, u194_105, u194_107, u194_108, u194_111, u194_112, u194_114, u194_117, u194_118, u194_120, u194_121, u194_122, u194_123, u194_124, u194_126, u194_128, u194_129, u194_130, u194_132, u194_133, u194_135, u194_136, u194_140, u194_142, u194_145, u194_147, u194_149, u194_152, u194_154, u194_155, u194_156, u194_158, u194_159, u194_162, u194_164, u194_166, u194_167, u194_170, u194_172, u194_174, u194_175, u194_176, u194_179, u194_181, u194_183, u194_184, u194_185, u194_186, u194_189, u194_192, u194_194, x_isSheet, ek, el, bz_t, bz_f, nn_eq0, nn_eq, eq_self, not_true_eq_false, not_false_eq_true, hb, hm, hm', if_false, if_true, x_f5]
      · rw [if_neg h0] at hb hn
        have hp : (0 : Int32) ≤ nI (A 23 k) := by rw [hn]; exact h0
        have hp' : ¬ nI (A 23 k) < 0 := Int32.not_lt.mpr hp
        by_cases h0l : A 23 l = 0
        · rw [if_pos (Or.inr h0l)]
          rw [if_pos h0l] at hbl
          refine opM_bad h (by omega) ?_
          simp (disch := first | omega | decide | exact nI0_01 | exact nI1_01 | exact bz_01 _) only [Option.bind_some, List.cons_append, List.nil_append, Nat.reduceAdd, Nat.reduceMul, Nat.reduceLeDiff, Nat.reduceEqDiff, ↓reduceIte, n194, u194_0, u194_1, u194_4, u194_7, u194_8, u194_11, u194_14, u194_15, u194_17, u194_20, u194_21, u194_22, u194_25, u194_26, u194_27, u194_30, u194_31, u194_34, u194_35, u194_36, u194_39, u194_40, u194_43, u194_46, u194_47, u194_48, u194_51, u194_52, u194_53, u194_54, u194_57, u194_58, u194_59, u194_62, u194_63, u194_66, u194_69, u194_70, u194_71, u194_74, u194_76, u194_79, u194_81, u194_84, u194_86, u194_87, u194_90, u194_91, u194_92, u194_93, u194_94, u194_97, u194_99, u194_100, u194_103, u194_104, u194_105, u194_107, u194_108, u194_111, u194_112, u194_114, u194_117, u194_118, u194_120, u194_121, u194_122, u194_123, u194_124, u194_126, u194_128, u194_129, u194_130, u194_132, u194_133, u194_135, u194_136, u194_140, u194_142, u194_145, u194_147, u194_149, u194_152, u194_154, u194_155, u194_156, u194_158, u194_159, u194_162, u194_164, u194_166, u194_167, u194_170, u194_172, u194_174, u194_175, u194_176, u194_179, u194_181, u194_183, u194_184, u194_185, u194_186, u194_189, u194_192, u194_194, x_isSheet, ek, el, bz_t, bz_f, nn_eq0, nn_eq, eq_self, not_true_eq_false, not_false_eq_true, hb, hbl, hp, hp', hm, hm', if_false, if_true, x_f5]
        · rw [if_neg h0l] at hbl hnl
          have hpl : (0 : Int32) ≤ nI (A 23 l) := by rw [hnl]; exact h0l
          have hpl' : ¬ nI (A 23 l) < 0 := Int32.not_lt.mpr hpl
          have hbk := (hS k hk4).1
          have hbl4 := (hS l hl4).1
          rw [if_neg (fun z => z.elim h0 h0l)]
          by_cases hu : A 23 k = A 23 l
          · rw [if_neg (fun z => z hu)]
            have fin : ∀ (v : Int32), v = lo 0 → RUN 194 111 [some (.ref 44), some (.int (nI k)), some (.int f), some (.int (nI l)), some (.int g), some (.int n), none, none, none, none] [] [] w = some ([.int (lo 0)], fndM w 0) := fun v hv => by
              simp (disch := first | omega | decide | exact nI0_01 | exact nI1_01 | exact bz_01 _) only [Option.bind_some, List.cons_append, List.nil_append, Nat.reduceAdd, Nat.reduceMul, Nat.reduceLeDiff, Nat.reduceEqDiff, ↓reduceIte, n194, u194_0, u194_1, u194_4, u194_7, u194_8, u194_11, u194_14, u194_15, u194_17, u194_20, u194_21, u194_22, u194_25, u194_26, u194_27, u194_30, u194_31, u194_34, u194_35, u194_36, u194_39, u194_40, u194_43, u194_46, u194_47, u194_48, u194_51, u194_52, u194_53, u194_54, u194_57, u194_58, u194_59, u194_62, u194_63, u194_66, u194_69, u194_70, u194_71, u194_74, u194_76, u194_79, u194_81, u194_84, u194_86, u194_87, u194_90, u194_91, u194_92, u194_93, u194_94, u194_97, u194_99, u194_100, u194_103, u194_104, u194_105, u194_107, u194_108, u194_111, u194_112, u194_114, u194_117, u194_118, u194_120, u194_121, u194_122, u194_123, u194_124, u194_126, u194_128, u194_129, u194_130, u194_132, u194_133, u194_135, u194_136, u194_140, u194_142, u194_145, u194_147, u194_149, u194_152, u194_154, u194_155, u194_156, u194_158, u194_159, u194_162, u194_164, u194_166, u194_167, u194_170, u194_172, u194_174, u194_175, u194_176, u194_179, u194_181, u194_183, u194_184, u194_185, u194_186, u194_189, u194_192, u194_194, x_f0]
            have st : CALL 194 [.ref 44, .int (nI k), .int f, .int (nI l), .int g, .int n] w = RUN 194 70 [some (.ref 44), some (.int (nI k)), some (.int f), some (.int (nI l)), some (.int g), some (.int n), none, none, none, none] [] [] w := by
              simp (disch := first | omega | decide | exact nI0_01 | exact nI1_01 | exact bz_01 _) only [Option.bind_some, List.cons_append, List.nil_append, Nat.reduceAdd, Nat.reduceMul, Nat.reduceLeDiff, Nat.reduceEqDiff, ↓reduceIte, u194_0, u194_1, u194_4, u194_7, u194_8, u194_11, u194_14, u194_15, u194_17, u194_20, u194_21, u194_22, u194_25, u194_26, u194_27, u194_30, u194_31, u194_34, u194_35, u194_36, u194_39, u194_40, u194_43, u194_46, u194_47, u194_48, u194_51, u194_52, u194_53, u194_54, u194_57, u194_58, u194_59, u194_62, u194_63, u194_66, u194_69, n194, x_isSheet, ek, el, bz_t, bz_f, nn_eq0, nn_eq, eq_self, not_true_eq_false, not_false_eq_true, hb, hbl, hp, hp', hpl, hpl', hu, if_false, if_true]
            rcases ge0_case f with hf | ⟨a, ha, rfl, ia⟩
            · rw [if_neg (fun z => by rw [rng_f (Or.inl hf)] at z; exact absurd z.1 (by decide))]
              refine opM_bad h (by omega) ?_
              rw [st]
              simp (disch := first | omega | decide | exact nI0_01 | exact nI1_01 | exact bz_01 _) only [Option.bind_some, List.cons_append, List.nil_append, Nat.reduceAdd, Nat.reduceMul, Nat.reduceLeDiff, Nat.reduceEqDiff, ↓reduceIte, u194_70, u194_71, u194_74, u194_76, u194_79, u194_81, u194_84, u194_86, u194_87, u194_90, u194_91, u194_92, u194_93, u194_94, u194_97, u194_99, u194_100, u194_103, u194_104, u194_105, u194_107, u194_108, hf, if_true]
              exact fin _ rfl
            · rcases ge0_case g with hg | ⟨b, hb', rfl, ib⟩
              · rw [if_neg (fun z => by rw [rng_f (Or.inl hg)] at z; exact absurd z.2 (by decide))]
                refine opM_bad h (by omega) ?_
                rw [st]
                simp (disch := first | omega | decide | exact nI0_01 | exact nI1_01 | exact bz_01 _) only [Option.bind_some, List.cons_append, List.nil_append, Nat.reduceAdd, Nat.reduceMul, Nat.reduceLeDiff, Nat.reduceEqDiff, ↓reduceIte, u194_70, u194_71, u194_74, u194_76, u194_79, u194_81, u194_84, u194_86, u194_87, u194_90, u194_91, u194_92, u194_93, u194_94, u194_97, u194_99, u194_100, u194_103, u194_104, u194_105, u194_107, u194_108, nn_lt0, hg, if_true, if_false]
                exact fin _ rfl
              · rcases ge0_case n with hn' | ⟨m, hm2, rfl, im⟩
                · rw [if_neg (fun z => by rw [rng_f (Or.inr hn')] at z; exact absurd z.1 (by decide))]
                  refine opM_bad h (by omega) ?_
                  rw [st]
                  simp (disch := first | omega | decide | exact nI0_01 | exact nI1_01 | exact bz_01 _) only [Option.bind_some, List.cons_append, List.nil_append, Nat.reduceAdd, Nat.reduceMul, Nat.reduceLeDiff, Nat.reduceEqDiff, ↓reduceIte, u194_70, u194_71, u194_74, u194_76, u194_79, u194_81, u194_84, u194_86, u194_87, u194_90, u194_91, u194_92, u194_93, u194_94, u194_97, u194_99, u194_100, u194_103, u194_104, u194_105, u194_107, u194_108, nn_lt0, hn', if_true, if_false]
                  exact fin _ rfl
                · rw [rng_nI ha hm2, rng_nI hb' hm2, ia, ib, im]
                  by_cases q1 : m + a ≤ A 24 k
                  · have q1' : ¬ A 24 k < a + m := by omega
                    by_cases q2 : m + b ≤ A 24 l
                    · rw [if_pos ⟨decide_eq_true q1, decide_eq_true q2⟩]
                      have q2' : b + m ≤ A 24 l := by omega
                      have hC := M_copy h hk4 hl4 (f := a) (g := b) (n := m) (by omega) (by omega)
                      have hL := cp_loop (x1 := some (.int (nI k))) (x2 := some (.int (nI a))) (x3 := some (.int (nI l))) (x4 := some (.int (nI b))) (a := 40 * k + a) (b := 40 * l + b) (n := m) (w := w) (f := w.1 53) (by omega) (by omega) m 0 none rfl
                      rw [cst_0, put_id w rfl, cst_n] at hL
                      refine opM_is ?_ hC ((fM.rf w).put (by omega) (by omega) _)
                      rw [st]
                      simp (disch := first | omega | decide | exact nI0_01 | exact nI1_01 | exact bz_01 _) only [Option.bind_some, List.cons_append, List.nil_append, Nat.reduceAdd, Nat.reduceMul, Nat.reduceLeDiff, Nat.reduceEqDiff, ↓reduceIte, u194_70, u194_71, u194_74, u194_76, u194_79, u194_81, u194_84, u194_86, u194_87, u194_90, u194_91, u194_92, u194_93, u194_94, u194_97, u194_99, u194_100, u194_103, u194_104, u194_105, u194_107, u194_108, u194_111, u194_112, u194_114, u194_117, u194_118, u194_120, u194_121, u194_122, u194_123, u194_124, u194_126, u194_128, u194_129, u194_130, u194_132, u194_133, u194_135, u194_136, nn_lt0, if_false, if_true, hz, hzl, sub_lt, sub_ge, q1', q2', pk_mul, nI_add]
                      exact hL
                    · rw [if_neg (fun z => q2 (of_decide_eq_true z.2))]
                      have q2' : ¬ b + m ≤ A 24 l := by omega
                      refine opM_bad h (by omega) ?_
                      rw [st]
                      simp (disch := first | omega | decide | exact nI0_01 | exact nI1_01 | exact bz_01 _) only [Option.bind_some, List.cons_append, List.nil_append, Nat.reduceAdd, Nat.reduceMul, Nat.reduceLeDiff, Nat.reduceEqDiff, ↓reduceIte, u194_70, u194_71, u194_74, u194_76, u194_79, u194_81, u194_84, u194_86, u194_87, u194_90, u194_91, u194_92, u194_93, u194_94, u194_97, u194_99, u194_100, u194_103, u194_104, u194_105, u194_107, u194_108, nn_lt0, if_false, if_true, hz, hzl, sub_lt, sub_ge, q1', q2']
                      exact fin _ rfl
                  · rw [if_neg (fun z => q1 (of_decide_eq_true z.1))]
                    have q1' : A 24 k < a + m := by omega
                    refine opM_bad h (by omega) ?_
                    rw [st]
                    simp (disch := first | omega | decide | exact nI0_01 | exact nI1_01 | exact bz_01 _) only [Option.bind_some, List.cons_append, List.nil_append, Nat.reduceAdd, Nat.reduceMul, Nat.reduceLeDiff, Nat.reduceEqDiff, ↓reduceIte, u194_70, u194_71, u194_74, u194_76, u194_79, u194_81, u194_84, u194_86, u194_87, u194_90, u194_91, u194_92, u194_93, u194_94, u194_97, u194_99, u194_100, u194_103, u194_104, u194_105, u194_107, u194_108, nn_lt0, if_false, if_true, hz, sub_lt, q1']
                    exact fin _ rfl
          · rw [if_pos hu]
            refine opM_bad h (by omega) ?_
            simp (disch := first | omega | decide | exact nI0_01 | exact nI1_01 | exact bz_01 _) only [Option.bind_some, List.cons_append, List.nil_append, Nat.reduceAdd, Nat.reduceMul, Nat.reduceLeDiff, Nat.reduceEqDiff, ↓reduceIte, n194, u194_0, u194_1, u194_4, u194_7, u194_8, u194_11, u194_14, u194_15, u194_17, u194_20, u194_21, u194_22, u194_25, u194_26, u194_27, u194_30, u194_31, u194_34, u194_35, u194_36, u194_39, u194_40, u194_43, u194_46, u194_47, u194_48, u194_51, u194_52, u194_53, u194_54, u194_57, u194_58, u194_59, u194_62, u194_63, u194_66, u194_69, u194_70, u194_71, u194_74, u194_76, u194_79, u194_81, u194_84, u194_86, u194_87, u194_90, u194_91, u194_92, u194_93, u194_94, u194_97, u194_99, u194_100, u194_103, u194_104, u194_105, u194_107, u194_108, u194_111, u194_112, u194_114, u194_117, u194_118, u194_120, u194_121, u194_122, u194_123, u194_124, u194_126, u194_128, u194_129, u194_130, u194_132, u194_133, u194_135, u194_136, u194_140, u194_142, u194_145, u194_147, u194_149, u194_152, u194_154, u194_155, u194_156, u194_158, u194_159, u194_162, u194_164, u194_166, u194_167, u194_170, u194_172, u194_174, u194_175, u194_176, u194_179, u194_181, u194_183, u194_184, u194_185, u194_186, u194_189, u194_192, u194_194, x_isSheet, ek, el, bz_t, bz_f, nn_eq0, nn_eq, eq_self, not_true_eq_false, not_false_eq_true, hb, hbl, hp, hp', hpl, hpl', hu, if_false, if_true, not_false_eq_true, x_f2]
    · rw [if_neg (by simp [el])]
      refine opM_bad h (by omega) ?_
      simp (disch := first | omega | decide | exact nI0_01 | exact nI1_01 | exact bz_01 _) only [Option.bind_some, List.cons_append, List.nil_append, Nat.reduceAdd, Nat.reduceMul, Nat.reduceLeDiff, Nat.reduceEqDiff, ↓reduceIte, n194, u194_0, u194_1, u194_4, u194_7, u194_8, u194_11, u194_14, u194_15, u194_17, u194_20, u194_21, u194_22, u194_25, u194_26, u194_27, u194_30, u194_31, u194_34, u194_35, u194_36, u194_39, u194_40, u194_43, u194_46, u194_47, u194_48, u194_51, u194_52, u194_53, u194_54, u194_57, u194_58, u194_59, u194_62, u194_63, u194_66, u194_69, u194_70, u194_71, u194_74, u194_76, u194_79, u194_81, u194_84, u194_86, u194_87, u194_90, u194_91, u194_92, u194_93, u194_94, u194_97, u194_99, u194_100, u194_103, u194_104, u194_105, u194_107, u194_108, u194_111, u194_112, u194_114, u194_117, u194_118, u194_120, u194_121, u194_122, u194_123, u194_124, u194_126, u194_128, u194_129, u194_130, u194_132, u194_133, u194_135, u194_136, u194_140, u194_142, u194_145, u194_147, u194_149, u194_152, u194_154, u194_155, u194_156, u194_158, u194_159, u194_162, u194_164, u194_166, u194_167, u194_170, u194_172, u194_174, u194_175, u194_176, u194_179, u194_181, u194_183, u194_184, u194_185, u194_186, u194_189, u194_192, u194_194, x_isSheet, ek, el, bz_t, bz_f, nn_eq0, nn_eq, eq_self, not_true_eq_false, not_false_eq_true, x_f0]
  · rw [if_neg (by simp [ek])]
    refine opM_bad h (by omega) ?_
    simp (disch := first | omega | decide | exact nI0_01 | exact nI1_01 | exact bz_01 _) only [Option.bind_some, List.cons_append, List.nil_append, Nat.reduceAdd, Nat.reduceMul, Nat.reduceLeDiff, Nat.reduceEqDiff, ↓reduceIte, n194, u194_0, u194_1, u194_4, u194_7, u194_8, u194_11, u194_14, u194_15, u194_17, u194_20, u194_21, u194_22, u194_25, u194_26, u194_27, u194_30, u194_31, u194_34, u194_35, u194_36, u194_39, u194_40, u194_43, u194_46, u194_47, u194_48, u194_51, u194_52, u194_53, u194_54, u194_57, u194_58, u194_59, u194_62, u194_63, u194_66, u194_69, u194_70, u194_71, u194_74, u194_76, u194_79, u194_81, u194_84, u194_86, u194_87, u194_90, u194_91, u194_92, u194_93, u194_94, u194_97, u194_99, u194_100, u194_103, u194_104, u194_105, u194_107, u194_108, u194_111, u194_112, u194_114, u194_117, u194_118, u194_120, u194_121, u194_122, u194_123, u194_124, u194_126, u194_128, u194_129, u194_130, u194_132, u194_133, u194_135, u194_136, u194_140, u194_142, u194_145, u194_147, u194_149, u194_152, u194_154, u194_155, u194_156, u194_158, u194_159, u194_162, u194_164, u194_166, u194_167, u194_170, u194_172, u194_174, u194_175, u194_176, u194_179, u194_181, u194_183, u194_184, u194_185, u194_186, u194_189, u194_192, u194_194, x_isSheet, ek, bz_t, bz_f, nn_eq0, nn_eq, eq_self, not_true_eq_false, not_false_eq_true, x_f0]
