/-! A REEF BECOMES ANOTHER -/
def cpR (o o' : Nat) : Nat → Wd → Wd
  | 0, w => w
  | c + 1, w => put (cpR o o' c w) (o + (c + 1)) (fun k => (cpR o o' c w).1 (o' + (c + 1)) (0 + k))
def aw9 (o a : Nat) : Prop := a < o ∨ o + 9 < a
theorem cpR_out {o o' : Nat} (w : Wd) : ∀ m, m ≤ 9 → ∀ a, (a ≤ o ∨ o + m < a) → (cpR o o' m w).1 a = w.1 a
  | 0, _, _, _ => rfl
  | m + 1, hm, a, h => by
    rw [cpR, put_ne _ _ (by omega)]
    exact cpR_out w m (by omega) a (by omega)
theorem cpR_2 {o o' : Nat} (w : Wd) : ∀ m, (cpR o o' m w).2 = w.2
  | 0 => rfl
  | m + 1 => by rw [cpR]; exact cpR_2 w m
theorem cpR_at {o o' : Nat} (hd : o + 9 < o' ∨ o' + 9 < o) (w : Wd) : ∀ m, m ≤ 9 → ∀ c, 1 ≤ c → c ≤ m → ∀ k, (cpR o o' m w).1 (o + c) k = w.1 (o' + c) k
  | 0, _, _, h1, h2, _ => by omega
  | m + 1, hm, c, h1, h2, k => by
    rw [cpR]
    by_cases q : c = m + 1
    · subst q
      rw [put_at, cpR_out w m (by omega) _ (by omega), Nat.zero_add]
    · rw [put_ne _ _ (by omega)]
      exact cpR_at hd w m (by omega) c h1 (by omega) k
theorem rd_of {w : Wd} {o : Nat} {G : Gs} (h9 : w.1 o 9 = nI (G 0 0)) (h10 : w.1 o 10 = nI (G 0 1)) (h11 : w.1 o 11 = nI (G 0 2)) (h : ∀ c, 1 ≤ c → c ≤ 9 → ∀ k, k < szR c → w.1 (o + c) k = nI (G c k)) : putR w o G = w := by
  refine Prod.ext (funext fun a => funext fun j => ?_) rfl
  show (if a = o then (if j = 9 then nI (G 0 0) else if j = 10 then nI (G 0 1) else if j = 11 then nI (G 0 2) else w.1 a j) else if o < a ∧ a ≤ o + 9 ∧ j < szR (a - o) then nI (G (a - o) j) else w.1 a j) = w.1 a j
  by_cases q : a = o
  · subst q
    rw [if_pos rfl]
    by_cases q1 : j = 9
    · subst q1; rw [if_pos rfl, h9]
    · rw [if_neg q1]
      by_cases q2 : j = 10
      · subst q2; rw [if_pos rfl, h10]
      · rw [if_neg q2]
        by_cases q3 : j = 11
        · subst q3; rw [if_pos rfl, h11]
        · rw [if_neg q3]
  · rw [if_neg q]
    by_cases q3 : o < a ∧ a ≤ o + 9 ∧ j < szR (a - o)
    · rw [if_pos q3, ← h (a - o) (by omega) (by omega) j q3.2.2, show o + (a - o) = a by omega]
    · rw [if_neg q3]
theorem rf_apart {o o' : Nat} (h : rfB o) (h' : rfB o') (hne : o ≠ o') : o + 9 < o' ∨ o' + 9 < o := by
  rcases h with rfl | rfl | rfl <;> rcases h' with rfl | rfl | rfl <;> omega
theorem c_become {o o' : Nat} {w : Wd} {G : Gs} (ho : rfB o) (ho' : rfB o') (hne : o ≠ o') (h : putR w o' G = w) : ∃ v, CALL 7 [.ref o, .ref o'] w = some ([], putR v o G) ∧ (∀ a, (a < o ∨ o + 9 < a) → v.1 a = w.1 a) := by
  have hd := rf_apart ho ho' hne
  have a1 := al_rf1 ho
  have a2 := al_rf2 ho
  have a3 := al_rf3 ho
  have a4 := al_rf4 ho
  have a5 := al_rf5 ho
  have a6 := al_rf6 ho
  have a7 := al_rf7 ho
  have a8 := al_rf8 ho
  have a9 := al_rf9 ho
  have b1 := al_rf1 ho'
  have b2 := al_rf2 ho'
  have b3 := al_rf3 ho'
  have b4 := al_rf4 ho'
  have b5 := al_rf5 ho'
  have b6 := al_rf6 ho'
  have b7 := al_rf7 ho'
  have b8 := al_rf8 ho'
  have b9 := al_rf9 ho'
  have l0 := rf_lt ho (k := 9) (by omega)
  have l1 := rf_lt ho' (k := 9) (by omega)
  let X0 : Wd := cpR o o' 9 w
  let X1 : Wd := st2 X0 o 9 (X0.1 o' 9)
  let X2 : Wd := st2 X1 o 10 (X1.1 o' 10)
  let X3 : Wd := st2 X2 o 11 (X2.1 o' 11)
  have e : CALL 7 [.ref o, .ref o'] w = some ([], X3) := by
    simp (disch := first | omega | decide | assumption | exact nI0_01 | exact nI1_01 | exact bz_01 _ | exact rf1 | exact rf11 | exact rf21) only [Option.bind_some, List.cons_append, List.nil_append, Nat.reduceAdd, Nat.reduceMul, Nat.reduceLeDiff, Nat.reduceEqDiff, ↓reduceIte, n7, u7_0, u7_1, u7_4, u7_5, u7_6, u7_9, u7_10, u7_12, u7_15, u7_16, u7_19, u7_20, u7_21, u7_24, u7_25, u7_27, u7_30, u7_31, u7_34, u7_35, u7_36, u7_39, u7_40, u7_42, u7_45, u7_46, u7_49, u7_50, u7_51, u7_54, u7_55, u7_57, u7_60, u7_61, u7_64, u7_65, u7_66, u7_69, u7_70, u7_72, u7_75, u7_76, u7_79, u7_80, u7_81, u7_84, u7_85, u7_87, u7_90, u7_91, u7_94, u7_95, u7_96, u7_99, u7_100, u7_102, u7_105, u7_106, u7_109, u7_110, u7_111, u7_114, u7_115, u7_117, u7_120, u7_121, u7_124, u7_125, u7_126, u7_129, u7_130, u7_132, u7_135, u7_136, u7_137, u7_140, u7_143, u7_144, u7_145, u7_148, u7_151, u7_152, u7_153, u7_156, u7_159, a1, a2, a3, a4, a5, a6, a7, a8, a9]
    rfl
  have i3 : ∀ a, a ≠ o → X3.1 a = X0.1 a := fun a ha => by
    show (st2 X2 o 11 (X2.1 o' 11)).1 a = _
    rw [st2_ne _ _ _ ha]
    show (st2 X1 o 10 (X1.1 o' 10)).1 a = _
    rw [st2_ne _ _ _ ha]
    show (st2 X0 o 9 (X0.1 o' 9)).1 a = _
    rw [st2_ne _ _ _ ha]
  have hne' : o' ≠ o := fun z => hne z.symm
  have r0 : ∀ k, X0.1 o' k = w.1 o' k := fun k => by
    show (cpR o o' 9 w).1 o' k = _
    rw [cpR_out w 9 (by omega) o' (by omega)]
  have r1 : ∀ k, X1.1 o' k = w.1 o' k := fun k => by
    show (st2 X0 o 9 (X0.1 o' 9)).1 o' k = _
    rw [st2_ne _ _ _ hne', r0]
  have r2 : ∀ k, X2.1 o' k = w.1 o' k := fun k => by
    show (st2 X1 o 10 (X1.1 o' 10)).1 o' k = _
    rw [st2_ne _ _ _ hne', r1]
  have hw9 : w.1 o' 9 = nI (G 0 0) := by rw [← h]; exact R_9
  have hw10 : w.1 o' 10 = nI (G 0 1) := by rw [← h]; exact R_10
  have hw11 : w.1 o' 11 = nI (G 0 2) := by rw [← h]; exact R_11
  have hR : putR X3 o G = X3 := by
    refine rd_of ?_ ?_ ?_ (fun c h1 h2 k hk => ?_)
    · show (st2 X2 o 11 (X2.1 o' 11)).1 o 9 = _
      rw [st2_nk _ _ _ (by omega)]
      show (st2 X1 o 10 (X1.1 o' 10)).1 o 9 = _
      rw [st2_nk _ _ _ (by omega)]
      show (st2 X0 o 9 (X0.1 o' 9)).1 o 9 = _
      rw [st2_at, r0, hw9]
    · show (st2 X2 o 11 (X2.1 o' 11)).1 o 10 = _
      rw [st2_nk _ _ _ (by omega)]
      show (st2 X1 o 10 (X1.1 o' 10)).1 o 10 = _
      rw [st2_at, r1, hw10]
    · show (st2 X2 o 11 (X2.1 o' 11)).1 o 11 = _
      rw [st2_at, r2, hw11]
    · rw [i3 _ (by omega)]
      show (cpR o o' 9 w).1 (o + c) k = _
      rw [cpR_at hd w 9 (by omega) c h1 h2, ← h]
      exact R_c w o' G h1 h2 hk
  refine ⟨X3, ?_, fun a ha => ?_⟩
  · rw [hR]; exact e
  · rw [i3 a (by omega)]
    exact cpR_out w 9 (by omega) a (by omega)
/-! SUMS, SETS -/
theorem c_row {o c : Nat} {w : Wd} (ho : rfB o) (hc : c < 5) : CALL 10 [.ref o, .int (nI c)] w = some ([.ref (o + (4 + c))], w) := by
  rcases (by omega : c = 0 ∨ c = 1 ∨ c = 2 ∨ c = 3 ∨ c = 4) with rfl | rfl | rfl | rfl | rfl <;> simp (disch := first | omega | decide | assumption | exact nI0_01 | exact nI1_01 | exact bz_01 _ | exact rf1 | exact rf11 | exact rf21) only [Option.bind_some, List.cons_append, List.nil_append, Nat.reduceAdd, Nat.reduceMul, Nat.reduceLeDiff, Nat.reduceEqDiff, ↓reduceIte, n10, u10_0, u10_1, u10_32, u10_33, u10_36, u10_37, u10_38, u10_41, u10_42, u10_43, u10_46, u10_47, u10_48, u10_51, u10_52, u10_53, u10_56, nn_eq]
theorem rf_al {o c : Nat} (ho : rfB o) (hc : c < 5) : al (o + (4 + c)) = 8 := by
  rcases (by omega : c = 0 ∨ c = 1 ∨ c = 2 ∨ c = 3 ∨ c = 4) with rfl | rfl | rfl | rfl | rfl <;> rcases ho with rfl | rfl | rfl <;> rfl
theorem R_w {w : Wd} {o c : Nat} {G : Gs} {k : Nat} (hc : c < 5) (h : k < 8) : (putR w o G).1 (o + (4 + c)) k = nI (G (4 + c) k) := R_c w o G (by omega) (by omega) (by rcases (by omega : c = 0 ∨ c = 1 ∨ c = 2 ∨ c = 3 ∨ c = 4) with rfl | rfl | rfl | rfl | rfl <;> exact h)
theorem R_sw {w : Wd} {o c : Nat} {G : Gs} {k v : Nat} (hc : c < 5) (h : k < 8) : st2 (putR w o G) (o + (4 + c)) k (nI v) = putR w o (up G (4 + c) k v) := R_st w o G (by omega) (by omega) (by rcases (by omega : c = 0 ∨ c = 1 ∨ c = 2 ∨ c = 3 ∨ c = 4) with rfl | rfl | rfl | rfl | rfl <;> exact h)
