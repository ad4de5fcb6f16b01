/-! THE FIRST STATE -/
def A0 : Gs := fun c k => if c = 0 then (if k = 2 then 1 else 0) else if c = 2 then 12 else if c = 3 then 3 else if c = 9 then 4294967295 else 0
theorem a0_lay : ∀ k, k < 75 → sm2 10 k = nI (lay A0 k) := by decide +kernel
theorem a0_row : sm2 10 = rowS A0 := by
  funext k
  unfold rowS
  by_cases h : k < 75
  · rw [if_pos h]; exact a0_lay k h
  · rw [if_neg h]
    unfold sm2 sm1
    rw [if_neg (by omega), if_neg (by omega), if_neg (by omega), if_neg (by omega)]
theorem M_0 (N : Nat) (xs : Nat → Int32) : M A0 (W0 N xs) := by
  refine ⟨a0_row, rfl, rfl, fun z => absurd z (by decide), fun _ _ => rfl, fun _ _ => rfl, fun t ht => ?_, fun _ _ => rfl, fun t k ht _ => ?_⟩
  · show fil (-1) 4 t = _
    unfold fil
    rw [if_pos ht]
    rfl
  · rcases (by omega : t = 0 ∨ t = 1 ∨ t = 2 ∨ t = 3) with rfl | rfl | rfl | rfl <;> rfl
theorem fil_at {v : Int32} {n k : Nat} (h : k < n) : fil v n k = v := if_pos h
theorem C_0 (N : Nat) (xs : Nat → Int32) : C A0 (W0 N xs) := by
  refine ⟨rd_of rfl rfl rfl (fun c h1 h2 k hk => ?_), rfl, rfl, fun z => absurd z (by decide), fun _ _ => rfl, fun _ _ => rfl, fun t ht => ?_, fun t ht => ?_, fun t k ht hk => ?_⟩
  · rcases (by omega : c = 1 ∨ c = 2 ∨ c = 3 ∨ c = 4 ∨ c = 5 ∨ c = 6 ∨ c = 7 ∨ c = 8 ∨ c = 9) with rfl | rfl | rfl | rfl | rfl | rfl | rfl | rfl | rfl
    · rfl
    · exact fil_at (v := 12) (n := 6) hk
    · exact fil_at (v := 3) (n := 6) hk
    · rfl
    · rfl
    · rfl
    · rfl
    · rfl
    · have e : nI (A0 9 k) = -1 := by
        show nI 4294967295 = -1
        decide
      rw [e]
      exact fil_at (v := -1) (n := 10) hk
  · rcases (by omega : t = 0 ∨ t = 1 ∨ t = 2 ∨ t = 3) with rfl | rfl | rfl | rfl <;> rfl
  · rcases (by omega : t = 0 ∨ t = 1 ∨ t = 2 ∨ t = 3) with rfl | rfl | rfl | rfl <;> rfl
  · rcases (by omega : t = 0 ∨ t = 1 ∨ t = 2 ∨ t = 3) with rfl | rfl | rfl | rfl <;> rfl
theorem Inv_0 : Inv 0 A0 := by
  refine ⟨⟨Nat.zero_le _, fun k _ => Nat.zero_le _, fun k _ => ?_, fun k _ => ?_, fun k _ => ?_⟩, fun k _ => Or.inr rfl, fun t _ => ⟨Or.inl rfl, Nat.zero_le _⟩, Nat.zero_le _, Nat.zero_le _, fun j _ => ?_, rfl, Nat.le_refl _, fun z => absurd z (by decide)⟩
  · show 12 ≤ 999; omega
  · show 3 ≤ 20; omega
  · show 0 < 7 ∧ 0 ≤ 9999 ∧ 0 < 4 ∧ 0 ≤ 99 ∧ 0 ≤ 9999; omega
  · show 0 < 256; omega
theorem Rel_0 (N : Nat) (xs : Nat → Int32) : Rel N xs A0 (W0 N xs) := ⟨C_0 N xs, M_0 N xs, rfl, rfl⟩
/-! WHAT IS THERE AT THE START -/
theorem in_tbl {W : Cond} (h : W ∈ Gz) : W ∈ lw_tbl := (List.mem_filter.mp h).1
section ST0
variable {s : State} {args : Array Value}
theorem start_K (hts : ∀ w ∈ lw_tbl, w.before args s = true) : ∃ D : va_G, va_K D clz [] s := by
  obtain ⟨c0, i0, h0⟩ := u_known (C := RX1) (T := TX1) (N := 12) (n := 12) hts (fun w hw => (uw_chk 0 (by omega) w hw).1) (hts (.instantiable RX1 12) (in_tbl ci_in_RX1))
  obtain ⟨c1, i1, h1⟩ := u_known (C := RX2) (T := TX2) (N := 3) (n := 3) hts (fun w hw => (uw_chk 1 (by omega) w hw).1) (hts (.instantiable RX2 3) (in_tbl ci_in_RX2))
  obtain ⟨c2, i2, h2⟩ := u_known (C := RX3) (T := TX3) (N := 6) (n := 6) hts (fun w hw => (uw_chk 2 (by omega) w hw).1) (hts (.instantiable RX3 6) (in_tbl ci_in_RX3))
  obtain ⟨c3, i3, h3⟩ := u_known (C := RX4) (T := TX4) (N := 8) (n := 8) hts (fun w hw => (uw_chk 3 (by omega) w hw).1) (hts (.instantiable RX4 8) (in_tbl ci_in_RX4))
  obtain ⟨c4, i4, h4⟩ := u_known (C := RX5) (T := TX5) (N := 16) (n := 16) hts (fun w hw => (uw_chk 4 (by omega) w hw).1) (hts (.instantiable RX5 16) (in_tbl ci_in_RX5))
  refine ⟨(fun k => match k with | 0 => c0 | 1 => c1 | 2 => c2 | 3 => c3 | _ => c4, fun k => match k with | 0 => i0 | 1 => i1 | 2 => i2 | 3 => i3 | _ => i4), ?_, fun k q h => by simp at h⟩
  intro k q hq
  match k, hq with
  | 0, hq => cases hq; exact h0
  | 1, hq => cases hq; exact h1
  | 2, hq => cases hq; exact h2
  | 3, hq => cases hq; exact h3
  | 4, hq => cases hq; exact h4
  | k + 5, hq => simp [clz] at hq
theorem ao_tbl : Cond.arrayOver (.object RX2) ∈ lw_tbl := List.mem_of_getElem? (i := 140) (by decide +kernel)
theorem start_T {D : va_G} (hts : ∀ w ∈ lw_tbl, w.before args s = true) (hK : va_K D clz [] s) : ∃ cI cL cQ : ClassId, va_K D clz (tyz cI cL cQ) s := by
  obtain ⟨cI, kI, coI, a1, a2, a3⟩ := Cond.arrayClass_spec (args := args) (first := s) (o := none) (s := s) (idx := []) (hts (.arrayClass .int) (in_tbl ci_ar_int))
  obtain ⟨cL, kL, coL, b1, b2, b3⟩ := Cond.arrayClass_spec (args := args) (first := s) (o := none) (s := s) (idx := []) (hts (.arrayClass .long) (in_tbl ci_ar_long))
  obtain ⟨coQ, cQ, kQ, d1, d2, d3, d4, d5⟩ := Cond.arrayOver_spec (hts (.arrayOver (.object RX2)) ao_tbl)
  refine ⟨cI, cL, cQ, hK.1, fun k q hq => ?_⟩
  match k, hq with
  | 0, hq => cases hq; exact ⟨fun n z => ⟨fun k h => (by cases h), kI, a2, coI, a3⟩, a1⟩
  | 1, hq => cases hq; exact ⟨fun n z => ⟨fun k h => (by cases h), kL, b2, coL, b3⟩, b1⟩
  | 2, hq => cases hq; exact ⟨fun n z => ⟨fun k h => (by cases h), kQ, d3, coQ, d4⟩, kQ, coQ, d3, d4, d1, d5⟩
  | k + 3, hq => simp [tyz] at hq
def FL : List Cond := flatC (Jvm.Cond.and given_1 narrow_1)
def tmS (i : Nat) : Term := .string (sO i) (sK i)
set_option maxRecDepth 100000 in
theorem fl_st : ∀ a, a < 3 → Cond.arrayOf (.static (gC (54 + a)) (gF (54 + a)) "[I") .int ∈ FL ∧ Cond.eq (.length (.static (gC (54 + a)) (gF (54 + a)) "[I")) (.int (Int32.ofNat (sl (54 + a)))) ∈ FL ∧ ∀ j, j < sl (54 + a) → Cond.eq (.elem (.static (gC (54 + a)) (gF (54 + a)) "[I") (.int (Int32.ofNat j))) (.int (sv (54 + a) j)) ∈ FL := by decide +kernel
set_option maxRecDepth 100000 in
theorem fl_s1 : ∀ i, i < 12 → Cond.exactly (tmS i) "java/lang/String" ∈ FL ∧ Cond.eq (.field (tmS i) "java/lang/String" "coder" "B") (.int 0) ∈ FL ∧ Cond.arrayOf (.field (tmS i) "java/lang/String" "value" "[B") .byte ∈ FL ∧ Cond.eq (.length (.field (tmS i) "java/lang/String" "value" "[B")) (.int (Int32.ofNat (lenS.getD i 0))) ∈ FL := by decide +kernel
set_option maxRecDepth 100000 in
theorem fl_s2 : ∀ i, i < 12 → ∀ j, j < lenS.getD i 0 → Cond.eq (.elem (.field (tmS i) "java/lang/String" "value" "[B") (.int (Int32.ofNat j))) (.int ((bytS.getD i []).getD j 0)) ∈ FL := by decide +kernel
set_option maxRecDepth 100000 in
theorem fl_s3 : ∀ i, i < 12 → ∀ j, j < 12 → i = j ∨ Cond.not (Cond.eq (tmS i) (tmS j)) ∈ FL ∨ Cond.not (Cond.eq (tmS j) (tmS i)) ∈ FL := by decide +kernel
set_option maxRecDepth 100000 in
theorem tb_s : ∀ i, i < 12 → lw_tbl[sP i]? = some (.stringRef (sO i) (sK i) (sT i)) := by decide +kernel
set_option maxRecDepth 100000 in
theorem tb_l : ∀ a, a < 3 → Cond.laysStatic (gC (54 + a)) (gF (54 + a)) "[I" ∈ lw_tbl ∧ Cond.initialized (gC (54 + a)) ∈ lw_tbl := by decide +kernel
theorem fl_c : Cond.eq (.static "java/lang/String" "COMPACT_STRINGS" "Z") (.int 1) ∈ FL := by decide +kernel
theorem fl_f : Cond.isRef (.static "jdk/internal/util/Preconditions" "SIOOBE_FORMATTER" "Ljava/util/function/BiFunction;") ∈ FL := by decide +kernel
theorem tb_c : Cond.laysStatic "java/lang/String" "COMPACT_STRINGS" "Z" ∈ lw_tbl := List.mem_of_getElem? (i := 560) (by decide +kernel)
theorem tb_f : Cond.laysStatic "jdk/internal/util/Preconditions" "SIOOBE_FORMATTER" "Ljava/util/function/BiFunction;" ∈ lw_tbl := List.mem_of_getElem? (i := 576) (by decide +kernel)
theorem tb_n1 : Cond.methodLinkNest RX1 69 yX4_digit "BoneWords" ∈ lw_tbl := List.mem_of_getElem? (i := 303) (by decide +kernel)
theorem tb_n2 : Cond.methodLinkNest RX1 108 yX4_bone "BoneWords" ∈ lw_tbl := List.mem_of_getElem? (i := 358) (by decide +kernel)
theorem tb_n3 : Cond.fieldLinkNest RX1 76 "BoneWords" "TENS" "[I" "BoneWords" ∈ lw_tbl := List.mem_of_getElem? (i := 445) (by decide +kernel)
theorem tb_n4 : Cond.methodLinkNest RX4 34 yX3_init "BoneWords" ∈ lw_tbl := List.mem_of_getElem? (i := 143) (by decide +kernel)
theorem tb_n5 : Cond.methodLinkNest RX4 47 yX2_init "BoneWords" ∈ lw_tbl := List.mem_of_getElem? (i := 168) (by decide +kernel)
theorem start_S {b L : Nat} {xs : Nat → Int32} (hts : ∀ w ∈ lw_tbl, w.before args s = true) (hfl : ∀ c ∈ FL, c.before args s = true) (hL : L < 2147483648) (hX : va_X b L xs s s.heap) (hbl : b < s.heap.size) : ∃ tS adK : Nat → Nat, ∀ ad : Nat → Nat, (∀ a, a < 3 → ad (54 + a) = tS a) → ad 57 = b → (∀ i, i < 12 → ad (60 + i) = adK i) → Sta L xs ad (fun q => s.heap.size ≤ q) s s.heap := by
  have hA : ∀ a : Nat, a < s.heap.size → ¬ (fun q => s.heap.size ≤ q) a := fun a h => Nat.not_le.mpr h
  have hT : ∀ a : Nat, ∃ t : Nat, a < 3 → va_Z (gC (54 + a)) (gF (54 + a)) "[I" (.ref t) (fun q => s.heap.size ≤ q) s s.heap ∧ va_T .int t (sl (54 + a)) (fun j => .int (sv (54 + a) j)) (fun q => s.heap.size ≤ q) s s.heap := by
    intro a
    by_cases ha : a < 3
    · obtain ⟨f1, f2, f3⟩ := fl_st a ha
      have hN : sl (54 + a) < 2 ^ 31 := by
        rcases (by omega : a = 0 ∨ a = 1 ∨ a = 2) with rfl | rfl | rfl <;> decide
      obtain ⟨t, ht, hT⟩ := va_Tof (f := fun j => .int (sv (54 + a) j)) (A := fun q => s.heap.size ≤ q) hN (hfl _ f1) (va_eqt (hfl _ f2)) (fun j hj => va_eqt (hfl _ (f3 j hj))) hA
      exact ⟨t, fun _ => ⟨va_Zref (hts _ (tb_l a ha).1) (hts _ (tb_l a ha).2) ht hA, hT⟩⟩
    · exact ⟨0, fun h => absurd h ha⟩
  obtain ⟨tS, htS⟩ := Classical.axiomOfChoice hT
  have hlen : ∀ i : Nat, i < 12 → lenS.getD i 0 < 2 ^ 31 := by decide
  obtain ⟨adK, adV, hvs, hev⟩ := vk_Sof (args := args) (s := s) (N := 12) (tm := tmS) (len := lenS) (byt := bytS) (A := fun q => s.heap.size ≤ q) hlen (fun i hi => hfl _ (fl_s1 i hi).1) (fun i hi => hfl _ (fl_s1 i hi).2.1) (fun i hi => hfl _ (fl_s1 i hi).2.2.1) (fun i hi => hfl _ (fl_s1 i hi).2.2.2) (fun i hi j hj => hfl _ (fl_s2 i hi j hj)) (fun i j hi hj hij => by
    rcases fl_s3 i hi j hj with h | h | h
    · exact absurd h hij
    · exact Or.inl (hfl _ h)
    · exact Or.inr (hfl _ h)) hA
  obtain ⟨scr, x1, x2, x3, x4, x5⟩ := hX
  refine ⟨tS, adK, fun ad h54 h57 h60 => ⟨fun a ha hb => ?_, ⟨hL, ?_⟩, ⟨adV, ?_⟩, ⟨va_Zof (hts _ tb_c) (hts _ (in_tbl g_in_String)) (va_eqi (hfl _ fl_c)) hA, va_Zqof (hts _ tb_f) (hts _ (in_tbl js_in3)) (hfl _ fl_f) hA⟩, fun i hi => ?_, va_Nw.of rfl (hts _ tb_n1), va_Nw.of rfl (hts _ tb_n2), va_Nw.of rfl (hts _ tb_n3)⟩⟩
  · have e : 54 + (a - 54) = a := by omega
    have h := htS (a - 54) (by omega)
    rw [e] at h
    have h2 := h54 (a - 54) (by omega)
    rw [e] at h2
    rw [h2]
    exact h
  · rw [h57]
    exact ⟨scr, x1, x2, x3, Nat.le_of_eq x4.symm, congrArg Nat.toInt32 x4, x5, hA b hbl⟩
  · refine ⟨fun i hi => ?_, fun i j hi hj e => hvs.2 i j hi hj ?_⟩
    · have h := hvs.1 i hi
      show va_O _ (ad (60 + i)) _ _ _ ∧ va_OF _ _ _ _ (ad (60 + i)) _ _ _ ∧ va_OF _ _ _ _ (ad (60 + i)) _ _ _ ∧ _
      rw [h60 i hi]
      exact h
    · have e2 : ad (60 + i) = ad (60 + j) := e
      rw [h60 i hi, h60 j hj] at e2
      exact e2
  · rw [h60 i hi]
    exact vk_R.of (hts _ (List.mem_of_getElem? (tb_s i hi))) (hev i hi)
end ST0
