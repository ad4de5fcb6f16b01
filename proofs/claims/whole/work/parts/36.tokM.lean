/-! TOKENS -/
def ltr (b : Nat) : Bool := decide (97 ≤ b ∧ b ≤ 122)
def dgt (b : Nat) : Bool := decide (48 ≤ b ∧ b ≤ 57)
def sk (B : Nat → Nat) : Nat → Nat → Nat
  | 0, q => q
  | m + 1, q => if B q = 32 then sk B m (q + 1) else q
def rl (B : Nat → Nat) : Nat → Nat → Nat
  | 0, q => q
  | m + 1, q => if ltr (B q) = true then rl B m (q + 1) else q
def rd (B : Nat → Nat) : Nat → Nat → Nat
  | 0, q => q
  | m + 1, q => if dgt (B q) = true then rd B m (q + 1) else q
def vl (B : Nat → Nat) : Nat → Nat → Nat → Nat
  | 0, _, v => v
  | m + 1, q, v => if dgt (B q) = true then vl B m (q + 1) (min 10000 (10 * v + (B q - 48))) else v
/-- a token: what it is, from, to, its value -/
abbrev Tk : Type := Nat × Nat × Nat × Nat
def tok (n : Nat) (B : Nat → Nat) (p : Nat) : Tk :=
  if n ≤ sk B (n - p) p then (0, sk B (n - p) p, sk B (n - p) p, 0)
  else if ltr (B (sk B (n - p) p)) = true then (1, sk B (n - p) p, rl B (n - sk B (n - p) p) (sk B (n - p) p), 0)
  else if dgt (B (sk B (n - p) p)) = true then (2, sk B (n - p) p, rd B (n - sk B (n - p) p) (sk B (n - p) p), vl B (n - sk B (n - p) p) (sk B (n - p) p) 0)
  else if B (sk B (n - p) p) = 59 then (3, sk B (n - p) p, sk B (n - p) p + 1, 0)
  else (4, sk B (n - p) p, sk B (n - p) p + 1, 0)
theorem sk_in (B : Nat → Nat) : ∀ m q, q ≤ sk B m q ∧ sk B m q ≤ q + m
  | 0, _ => ⟨Nat.le_refl _, Nat.le_refl _⟩
  | m + 1, q => by
    have := sk_in B m (q + 1)
    unfold sk
    split <;> omega
theorem rl_in (B : Nat → Nat) : ∀ m q, q ≤ rl B m q ∧ rl B m q ≤ q + m
  | 0, _ => ⟨Nat.le_refl _, Nat.le_refl _⟩
  | m + 1, q => by
    have := rl_in B m (q + 1)
    unfold rl
    split <;> omega
theorem rd_in (B : Nat → Nat) : ∀ m q, q ≤ rd B m q ∧ rd B m q ≤ q + m
  | 0, _ => ⟨Nat.le_refl _, Nat.le_refl _⟩
  | m + 1, q => by
    have := rd_in B m (q + 1)
    unfold rd
    split <;> omega
theorem vl_le (B : Nat → Nat) : ∀ m q v, v ≤ 10000 → vl B m q v ≤ 10000
  | 0, _, _, h => h
  | m + 1, q, v, h => by
    unfold vl
    split
    · exact vl_le B m _ _ (Nat.min_le_left _ _)
    · exact h
theorem tok_in (n : Nat) (B : Nat → Nat) {p : Nat} (hp : p ≤ n) : p ≤ (tok n B p).2.1 ∧ (tok n B p).2.1 ≤ (tok n B p).2.2.1 ∧ (tok n B p).2.2.1 ≤ n ∧ ((tok n B p).1 ≠ 0 → (tok n B p).2.1 < (tok n B p).2.2.1) ∧ (tok n B p).1 ≤ 4 ∧ (tok n B p).2.2.2 ≤ 10000 := by
  have h1 := sk_in B (n - p) p
  have h2 := rl_in B (n - sk B (n - p) p) (sk B (n - p) p)
  have h3 := rd_in B (n - sk B (n - p) p) (sk B (n - p) p)
  have h4 := vl_le B (n - sk B (n - p) p) (sk B (n - p) p) 0 (by omega)
  unfold tok
  by_cases q1 : n ≤ sk B (n - p) p
  · simp only [if_pos q1]
    refine ⟨by omega, by omega, by omega, fun z => absurd rfl z, by omega, by omega⟩
  · simp only [if_neg q1]
    by_cases q2 : ltr (B (sk B (n - p) p)) = true
    · have e : n - sk B (n - p) p = (n - sk B (n - p) p - 1) + 1 := by omega
      have h5 := rl_in B (n - sk B (n - p) p - 1) (sk B (n - p) p + 1)
      have e2 : rl B (n - sk B (n - p) p) (sk B (n - p) p) = rl B (n - sk B (n - p) p - 1) (sk B (n - p) p + 1) := by
        rw [e, rl, if_pos q2, Nat.add_sub_cancel]
      simp only [if_pos q2]
      refine ⟨by omega, by omega, by omega, fun _ => by omega, by omega, by omega⟩
    · simp only [if_neg q2]
      by_cases q3 : dgt (B (sk B (n - p) p)) = true
      · have e : n - sk B (n - p) p = (n - sk B (n - p) p - 1) + 1 := by omega
        have h5 := rd_in B (n - sk B (n - p) p - 1) (sk B (n - p) p + 1)
        have e2 : rd B (n - sk B (n - p) p) (sk B (n - p) p) = rd B (n - sk B (n - p) p - 1) (sk B (n - p) p + 1) := by
          rw [e, rd, if_pos q3, Nat.add_sub_cancel]
        simp only [if_pos q3]
        refine ⟨by omega, by omega, by omega, fun _ => by omega, by omega, h4⟩
      · simp only [if_neg q3]
        by_cases q4 : B (sk B (n - p) p) = 59
        · simp only [if_pos q4]
          refine ⟨by omega, by omega, by omega, fun _ => by omega, by omega, by omega⟩
        · simp only [if_neg q4]
          refine ⟨by omega, by omega, by omega, fun _ => by omega, by omega, by omega⟩
/-! THE REFERENCE'S TOKENS -/
def TW (w : Wd) (k fr to v : Nat) (fa : Int32) : Wd := put w 44 (fun j => if j = 11 then nI k else if j = 12 then nI fr else if j = 13 then nI to else if j = 14 then nI v else if j = 15 then fa else w.1 44 j)
theorem TW_r (w : Wd) (k fr to v : Nat) (fa : Int32) (G : Gs) (j : Nat) : (putS (TW w k fr to v fa) G).1 44 j = if j = 11 then nI k else if j = 12 then nI fr else if j = 13 then nI to else if j = 14 then nI v else if j = 15 then fa else w.1 44 j := by
  rw [putS_ne _ _ (by omega)]
  unfold TW
  rw [put_at]
theorem TW_11 {w : Wd} {k fr to v : Nat} {fa : Int32} {G : Gs} : (putS (TW w k fr to v fa) G).1 44 11 = nI k := TW_r w k fr to v fa G 11
theorem TW_12 {w : Wd} {k fr to v : Nat} {fa : Int32} {G : Gs} : (putS (TW w k fr to v fa) G).1 44 12 = nI fr := TW_r w k fr to v fa G 12
theorem TW_13 {w : Wd} {k fr to v : Nat} {fa : Int32} {G : Gs} : (putS (TW w k fr to v fa) G).1 44 13 = nI to := TW_r w k fr to v fa G 13
theorem TW_14 {w : Wd} {k fr to v : Nat} {fa : Int32} {G : Gs} : (putS (TW w k fr to v fa) G).1 44 14 = nI v := TW_r w k fr to v fa G 14
theorem TW_15 {w : Wd} {k fr to v : Nat} {fa : Int32} {G : Gs} : (putS (TW w k fr to v fa) G).1 44 15 = fa := TW_r w k fr to v fa G 15
theorem TW_7 {w : Wd} {k fr to v : Nat} {fa : Int32} {G : Gs} : (putS (TW w k fr to v fa) G).1 44 7 = w.1 44 7 := TW_r w k fr to v fa G 7
theorem TW_50 {w : Wd} {k fr to v : Nat} {fa : Int32} {G : Gs} : (putS (TW w k fr to v fa) G).1 50 = w.1 50 := by
  rw [putS_ne _ _ (by omega)]
  exact put_ne _ _ (by omega)
theorem TW_st {w : Wd} {k fr to v k' fr' to' v' : Nat} {fa fa' : Int32} {G : Gs} {j : Nat} {x : Int32} (h : ∀ i, (if i = j then x else if i = 11 then nI k else if i = 12 then nI fr else if i = 13 then nI to else if i = 14 then nI v else if i = 15 then fa else w.1 44 i) = if i = 11 then nI k' else if i = 12 then nI fr' else if i = 13 then nI to' else if i = 14 then nI v' else if i = 15 then fa' else w.1 44 i) : st2 (putS (TW w k fr to v fa) G) 44 j x = putS (TW w k' fr' to' v' fa') G := by
  have e : st2 (putS (TW w k fr to v fa) G) 44 j x = put (putS (TW w k fr to v fa) G) 44 (fun i => if i = 11 then nI k' else if i = 12 then nI fr' else if i = 13 then nI to' else if i = 14 then nI v' else if i = 15 then fa' else w.1 44 i) := by
    unfold st2
    congr 1
    funext i
    unfold upd
    rw [TW_r]
    exact h i
  rw [e, put_S _ _ (by omega)]
  unfold TW
  rw [put_put]
theorem TW_s11 {w : Wd} {k fr to v k' : Nat} {fa : Int32} {G : Gs} : st2 (putS (TW w k fr to v fa) G) 44 11 (nI k') = putS (TW w k' fr to v fa) G := TW_st (fun i => by
  by_cases h1 : i = 11
  · simp only [if_pos h1]
  · simp only [if_neg h1])
theorem TW_s12 {w : Wd} {k fr to v k' : Nat} {fa : Int32} {G : Gs} : st2 (putS (TW w k fr to v fa) G) 44 12 (nI k') = putS (TW w k k' to v fa) G := TW_st (fun i => by
  by_cases h1 : i = 12
  · subst h1; rfl
  · simp only [if_neg h1])
theorem TW_s13 {w : Wd} {k fr to v k' : Nat} {fa : Int32} {G : Gs} : st2 (putS (TW w k fr to v fa) G) 44 13 (nI k') = putS (TW w k fr k' v fa) G := TW_st (fun i => by
  by_cases h1 : i = 13
  · subst h1; rfl
  · simp only [if_neg h1])
theorem TW_s14 {w : Wd} {k fr to v k' : Nat} {fa : Int32} {G : Gs} : st2 (putS (TW w k fr to v fa) G) 44 14 (nI k') = putS (TW w k fr to k' fa) G := TW_st (fun i => by
  by_cases h1 : i = 14
  · subst h1; rfl
  · simp only [if_neg h1])
theorem TW_s15 {w : Wd} {k fr to v : Nat} {fa x : Int32} {G : Gs} : st2 (putS (TW w k fr to v fa) G) 44 15 x = putS (TW w k fr to v x) G := TW_st (fun i => by
  by_cases h1 : i = 15
  · subst h1; rfl
  · simp only [if_neg h1])
/-- the bytes that are read -/
def Env (w : Wd) (n : Nat) (B : Nat → Nat) : Prop := w.1 44 7 = nI n ∧ (∀ j, j < 120 → w.1 50 j = nI (B j)) ∧ n ≤ 120 ∧ ∀ j, j < 120 → B j < 256
def bt (n : Nat) (B : Nat → Nat) (i : Nat) : Int32 := if i < n then nI (B i) else -1
theorem x_byteAt {w : Wd} {n : Nat} {B : Nat → Nat} (hE : Env w n B) {k fr to v i : Nat} {fa : Int32} {G : Gs} (hi : i < 2147483648) : CALL 172 [.ref 44, .int (nI i)] (putS (TW w k fr to v fa) G) = some ([.int (bt n B i)], putS (TW w k fr to v fa) G) := by
  obtain ⟨h1, h2, h3, h4⟩ := hE
  unfold bt
  by_cases h : i < n
  · have h' : ¬ n ≤ i := by omega
    have hi120 : i < 120 := by omega
    simp (disch := first | omega | decide | exact nI0_01 | exact nI1_01 | exact bz_01 _) only [Option.bind_some, List.cons_append, List.nil_append, Nat.reduceAdd, Nat.reduceMul, Nat.reduceLeDiff, Nat.reduceEqDiff, ↓reduceIte, n172, u172_0, u172_1, u172_2, u172_5, u172_8, u172_9, u172_12, u172_13, u172_14, u172_17, u172_18, TW_7, h1, nn_le, h', if_false, TW_50, h2 i hi120, h, if_true]
  · have h' : n ≤ i := by omega
    simp (disch := first | omega | decide | exact nI0_01 | exact nI1_01 | exact bz_01 _) only [Option.bind_some, List.cons_append, List.nil_append, Nat.reduceAdd, Nat.reduceMul, Nat.reduceLeDiff, Nat.reduceEqDiff, ↓reduceIte, n172, u172_0, u172_1, u172_2, u172_5, u172_8, u172_9, u172_12, u172_13, u172_14, u172_17, u172_18, TW_7, h1, nn_le, h', if_true, h, if_false]
theorem x_isLetterB {b : Nat} {w : Wd} (hb : b < 256) : CALL 170 [.int (nI b)] w = some ([.int (bz (ltr b))], w) := by
  unfold ltr
  simp (disch := first | omega | decide | exact nI0_01 | exact nI1_01 | exact bz_01 _) only [Option.bind_some, List.cons_append, List.nil_append, Nat.reduceAdd, Nat.reduceMul, Nat.reduceLeDiff, Nat.reduceEqDiff, ↓reduceIte, n170, u170_0, u170_1, u170_3, u170_6, u170_7, u170_9, u170_12, u170_13, u170_16, u170_17, nn_lt, nn_le]
  by_cases h1 : b < 97
  · rw [bz_no (by omega)]; simp [h1]
  · by_cases h2 : b ≤ 122
    · have h3 : ¬ 122 < b := by omega
      rw [bz_ye (by omega)]; simp [h1, h2, h3]
    · have h3 : 122 < b := by omega
      rw [bz_no (by omega)]; simp [h1, h2, h3]
theorem x_isDigitB {b : Nat} {w : Wd} (hb : b < 256) : CALL 171 [.int (nI b)] w = some ([.int (bz (dgt b))], w) := by
  unfold dgt
  simp (disch := first | omega | decide | exact nI0_01 | exact nI1_01 | exact bz_01 _) only [Option.bind_some, List.cons_append, List.nil_append, Nat.reduceAdd, Nat.reduceMul, Nat.reduceLeDiff, Nat.reduceEqDiff, ↓reduceIte, n171, u171_0, u171_1, u171_3, u171_6, u171_7, u171_9, u171_12, u171_13, u171_16, u171_17, nn_lt, nn_le]
  by_cases h1 : b < 48
  · rw [bz_no (by omega)]; simp [h1]
  · by_cases h2 : b ≤ 57
    · have h3 : ¬ 57 < b := by omega
      rw [bz_ye (by omega)]; simp [h1, h2, h3]
    · have h3 : 57 < b := by omega
      rw [bz_no (by omega)]; simp [h1, h2, h3]
theorem x_isLetter1 {w : Wd} : CALL 170 [.int (-1)] w = some ([.int (nI 0)], w) := by
  have h : (-1 : Int32) < nI 97 := by decide
  simp (disch := first | omega | decide | exact nI0_01 | exact nI1_01 | exact bz_01 _) only [Option.bind_some, List.cons_append, List.nil_append, Nat.reduceAdd, Nat.reduceMul, Nat.reduceLeDiff, Nat.reduceEqDiff, ↓reduceIte, n170, u170_0, u170_1, u170_3, u170_6, u170_7, u170_9, u170_12, u170_13, u170_16, u170_17, h, if_true]
theorem x_isDigit1 {w : Wd} : CALL 171 [.int (-1)] w = some ([.int (nI 0)], w) := by
  have h : (-1 : Int32) < nI 48 := by decide
  simp (disch := first | omega | decide | exact nI0_01 | exact nI1_01 | exact bz_01 _) only [Option.bind_some, List.cons_append, List.nil_append, Nat.reduceAdd, Nat.reduceMul, Nat.reduceLeDiff, Nat.reduceEqDiff, ↓reduceIte, n171, u171_0, u171_1, u171_3, u171_6, u171_7, u171_9, u171_12, u171_13, u171_16, u171_17, h, if_true]
