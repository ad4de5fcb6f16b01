theorem R_if_eq {M pc : Nat} {cc : ByteArray} {L : Lc} {K : Lk} {st : List Value} {w : Wd} {x : Int32} {o : Int} {t : Nat} (hB : mB M = cc) (hd : decode cc pc = .ok (.ifCond .eq o, 3)) (h0 : decide ((pc : Int) + o < 0) = false) (ht : jp pc o = t) : RUN M pc L K (.int x :: st) w = if x = 0 then RUN M t L K st w else RUN M (pc + 3) L K st w := by
  have h0' : ¬ ((pc : Int) + o < 0) := of_decide_eq_false h0
  refine RUN_if (p1 := t) (p2 := pc + 3) (st' := st) (b := decide (x = 0)) hB hd ?_ inferInstance rfl
  show ((if (pc : Int) + o < 0 then none else if1 pc (jp pc o) L K (.int x :: st) w (fun x => decide (x = 0))).or _) = _
  rw [if_neg h0', ht]
  show ((if decide (x = 0) = true then nx t L K st w else nx (pc + 3) L K st w).or _) = _
  cases decide (x = 0) <;> rfl
theorem R_icmp_eq {M pc : Nat} {cc : ByteArray} {L : Lc} {K : Lk} {st : List Value} {w : Wd} {x y : Int32} {o : Int} {t : Nat} (hB : mB M = cc) (hd : decode cc pc = .ok (.if_icmp .eq o, 3)) (h0 : decide ((pc : Int) + o < 0) = false) (ht : jp pc o = t) : RUN M pc L K (.int y :: .int x :: st) w = if x = y then RUN M t L K st w else RUN M (pc + 3) L K st w := by
  have h0' : ¬ ((pc : Int) + o < 0) := of_decide_eq_false h0
  refine RUN_if (p1 := t) (p2 := pc + 3) (st' := st) (b := decide (x = y)) hB hd ?_ inferInstance rfl
  show ((if (pc : Int) + o < 0 then none else if2 pc (jp pc o) L K (.int y :: .int x :: st) w (fun x y => decide (x = y))).or _) = _
  rw [if_neg h0', ht]
  show ((if decide (x = y) = true then nx t L K st w else nx (pc + 3) L K st w).or _) = _
  cases decide (x = y) <;> rfl
theorem R_if_ne {M pc : Nat} {cc : ByteArray} {L : Lc} {K : Lk} {st : List Value} {w : Wd} {x : Int32} {o : Int} {t : Nat} (hB : mB M = cc) (hd : decode cc pc = .ok (.ifCond .ne o, 3)) (h0 : decide ((pc : Int) + o < 0) = false) (ht : jp pc o = t) : RUN M pc L K (.int x :: st) w = if ¬ x = 0 then RUN M t L K st w else RUN M (pc + 3) L K st w := by
  have h0' : ¬ ((pc : Int) + o < 0) := of_decide_eq_false h0
  refine RUN_if (p1 := t) (p2 := pc + 3) (st' := st) (b := decide (¬ x = 0)) hB hd ?_ inferInstance rfl
  show ((if (pc : Int) + o < 0 then none else if1 pc (jp pc o) L K (.int x :: st) w (fun x => decide (¬ x = 0))).or _) = _
  rw [if_neg h0', ht]
  show ((if decide (¬ x = 0) = true then nx t L K st w else nx (pc + 3) L K st w).or _) = _
  cases decide (¬ x = 0) <;> rfl
theorem R_icmp_ne {M pc : Nat} {cc : ByteArray} {L : Lc} {K : Lk} {st : List Value} {w : Wd} {x y : Int32} {o : Int} {t : Nat} (hB : mB M = cc) (hd : decode cc pc = .ok (.if_icmp .ne o, 3)) (h0 : decide ((pc : Int) + o < 0) = false) (ht : jp pc o = t) : RUN M pc L K (.int y :: .int x :: st) w = if ¬ x = y then RUN M t L K st w else RUN M (pc + 3) L K st w := by
  have h0' : ¬ ((pc : Int) + o < 0) := of_decide_eq_false h0
  refine RUN_if (p1 := t) (p2 := pc + 3) (st' := st) (b := decide (¬ x = y)) hB hd ?_ inferInstance rfl
  show ((if (pc : Int) + o < 0 then none else if2 pc (jp pc o) L K (.int y :: .int x :: st) w (fun x y => decide (¬ x = y))).or _) = _
  rw [if_neg h0', ht]
  show ((if decide (¬ x = y) = true then nx t L K st w else nx (pc + 3) L K st w).or _) = _
  cases decide (¬ x = y) <;> rfl
theorem R_if_lt {M pc : Nat} {cc : ByteArray} {L : Lc} {K : Lk} {st : List Value} {w : Wd} {x : Int32} {o : Int} {t : Nat} (hB : mB M = cc) (hd : decode cc pc = .ok (.ifCond .lt o, 3)) (h0 : decide ((pc : Int) + o < 0) = false) (ht : jp pc o = t) : RUN M pc L K (.int x :: st) w = if x < 0 then RUN M t L K st w else RUN M (pc + 3) L K st w := by
  have h0' : ¬ ((pc : Int) + o < 0) := of_decide_eq_false h0
  refine RUN_if (p1 := t) (p2 := pc + 3) (st' := st) (b := decide (x < 0)) hB hd ?_ inferInstance rfl
  show ((if (pc : Int) + o < 0 then none else if1 pc (jp pc o) L K (.int x :: st) w (fun x => decide (x < 0))).or _) = _
  rw [if_neg h0', ht]
  show ((if decide (x < 0) = true then nx t L K st w else nx (pc + 3) L K st w).or _) = _
  cases decide (x < 0) <;> rfl
theorem R_icmp_lt {M pc : Nat} {cc : ByteArray} {L : Lc} {K : Lk} {st : List Value} {w : Wd} {x y : Int32} {o : Int} {t : Nat} (hB : mB M = cc) (hd : decode cc pc = .ok (.if_icmp .lt o, 3)) (h0 : decide ((pc : Int) + o < 0) = false) (ht : jp pc o = t) : RUN M pc L K (.int y :: .int x :: st) w = if x < y then RUN M t L K st w else RUN M (pc + 3) L K st w := by
  have h0' : ¬ ((pc : Int) + o < 0) := of_decide_eq_false h0
  refine RUN_if (p1 := t) (p2 := pc + 3) (st' := st) (b := decide (x < y)) hB hd ?_ inferInstance rfl
  show ((if (pc : Int) + o < 0 then none else if2 pc (jp pc o) L K (.int y :: .int x :: st) w (fun x y => decide (x < y))).or _) = _
  rw [if_neg h0', ht]
  show ((if decide (x < y) = true then nx t L K st w else nx (pc + 3) L K st w).or _) = _
  cases decide (x < y) <;> rfl
theorem R_if_ge {M pc : Nat} {cc : ByteArray} {L : Lc} {K : Lk} {st : List Value} {w : Wd} {x : Int32} {o : Int} {t : Nat} (hB : mB M = cc) (hd : decode cc pc = .ok (.ifCond .ge o, 3)) (h0 : decide ((pc : Int) + o < 0) = false) (ht : jp pc o = t) : RUN M pc L K (.int x :: st) w = if 0 ≤ x then RUN M t L K st w else RUN M (pc + 3) L K st w := by
  have h0' : ¬ ((pc : Int) + o < 0) := of_decide_eq_false h0
  refine RUN_if (p1 := t) (p2 := pc + 3) (st' := st) (b := decide (0 ≤ x)) hB hd ?_ inferInstance rfl
  show ((if (pc : Int) + o < 0 then none else if1 pc (jp pc o) L K (.int x :: st) w (fun x => decide (0 ≤ x))).or _) = _
  rw [if_neg h0', ht]
  show ((if decide (0 ≤ x) = true then nx t L K st w else nx (pc + 3) L K st w).or _) = _
  cases decide (0 ≤ x) <;> rfl
theorem R_icmp_ge {M pc : Nat} {cc : ByteArray} {L : Lc} {K : Lk} {st : List Value} {w : Wd} {x y : Int32} {o : Int} {t : Nat} (hB : mB M = cc) (hd : decode cc pc = .ok (.if_icmp .ge o, 3)) (h0 : decide ((pc : Int) + o < 0) = false) (ht : jp pc o = t) : RUN M pc L K (.int y :: .int x :: st) w = if y ≤ x then RUN M t L K st w else RUN M (pc + 3) L K st w := by
  have h0' : ¬ ((pc : Int) + o < 0) := of_decide_eq_false h0
  refine RUN_if (p1 := t) (p2 := pc + 3) (st' := st) (b := decide (y ≤ x)) hB hd ?_ inferInstance rfl
  show ((if (pc : Int) + o < 0 then none else if2 pc (jp pc o) L K (.int y :: .int x :: st) w (fun x y => decide (y ≤ x))).or _) = _
  rw [if_neg h0', ht]
  show ((if decide (y ≤ x) = true then nx t L K st w else nx (pc + 3) L K st w).or _) = _
  cases decide (y ≤ x) <;> rfl
theorem R_if_gt {M pc : Nat} {cc : ByteArray} {L : Lc} {K : Lk} {st : List Value} {w : Wd} {x : Int32} {o : Int} {t : Nat} (hB : mB M = cc) (hd : decode cc pc = .ok (.ifCond .gt o, 3)) (h0 : decide ((pc : Int) + o < 0) = false) (ht : jp pc o = t) : RUN M pc L K (.int x :: st) w = if 0 < x then RUN M t L K st w else RUN M (pc + 3) L K st w := by
  have h0' : ¬ ((pc : Int) + o < 0) := of_decide_eq_false h0
  refine RUN_if (p1 := t) (p2 := pc + 3) (st' := st) (b := decide (0 < x)) hB hd ?_ inferInstance rfl
  show ((if (pc : Int) + o < 0 then none else if1 pc (jp pc o) L K (.int x :: st) w (fun x => decide (0 < x))).or _) = _
  rw [if_neg h0', ht]
  show ((if decide (0 < x) = true then nx t L K st w else nx (pc + 3) L K st w).or _) = _
  cases decide (0 < x) <;> rfl
theorem R_icmp_gt {M pc : Nat} {cc : ByteArray} {L : Lc} {K : Lk} {st : List Value} {w : Wd} {x y : Int32} {o : Int} {t : Nat} (hB : mB M = cc) (hd : decode cc pc = .ok (.if_icmp .gt o, 3)) (h0 : decide ((pc : Int) + o < 0) = false) (ht : jp pc o = t) : RUN M pc L K (.int y :: .int x :: st) w = if y < x then RUN M t L K st w else RUN M (pc + 3) L K st w := by
  have h0' : ¬ ((pc : Int) + o < 0) := of_decide_eq_false h0
  refine RUN_if (p1 := t) (p2 := pc + 3) (st' := st) (b := decide (y < x)) hB hd ?_ inferInstance rfl
  show ((if (pc : Int) + o < 0 then none else if2 pc (jp pc o) L K (.int y :: .int x :: st) w (fun x y => decide (y < x))).or _) = _
  rw [if_neg h0', ht]
  show ((if decide (y < x) = true then nx t L K st w else nx (pc + 3) L K st w).or _) = _
  cases decide (y < x) <;> rfl
theorem R_if_le {M pc : Nat} {cc : ByteArray} {L : Lc} {K : Lk} {st : List Value} {w : Wd} {x : Int32} {o : Int} {t : Nat} (hB : mB M = cc) (hd : decode cc pc = .ok (.ifCond .le o, 3)) (h0 : decide ((pc : Int) + o < 0) = false) (ht : jp pc o = t) : RUN M pc L K (.int x :: st) w = if x ≤ 0 then RUN M t L K st w else RUN M (pc + 3) L K st w := by
  have h0' : ¬ ((pc : Int) + o < 0) := of_decide_eq_false h0
  refine RUN_if (p1 := t) (p2 := pc + 3) (st' := st) (b := decide (x ≤ 0)) hB hd ?_ inferInstance rfl
  show ((if (pc : Int) + o < 0 then none else if1 pc (jp pc o) L K (.int x :: st) w (fun x => decide (x ≤ 0))).or _) = _
  rw [if_neg h0', ht]
  show ((if decide (x ≤ 0) = true then nx t L K st w else nx (pc + 3) L K st w).or _) = _
  cases decide (x ≤ 0) <;> rfl
theorem R_icmp_le {M pc : Nat} {cc : ByteArray} {L : Lc} {K : Lk} {st : List Value} {w : Wd} {x y : Int32} {o : Int} {t : Nat} (hB : mB M = cc) (hd : decode cc pc = .ok (.if_icmp .le o, 3)) (h0 : decide ((pc : Int) + o < 0) = false) (ht : jp pc o = t) : RUN M pc L K (.int y :: .int x :: st) w = if x ≤ y then RUN M t L K st w else RUN M (pc + 3) L K st w := by
  have h0' : ¬ ((pc : Int) + o < 0) := of_decide_eq_false h0
  refine RUN_if (p1 := t) (p2 := pc + 3) (st' := st) (b := decide (x ≤ y)) hB hd ?_ inferInstance rfl
  show ((if (pc : Int) + o < 0 then none else if2 pc (jp pc o) L K (.int y :: .int x :: st) w (fun x y => decide (x ≤ y))).or _) = _
  rw [if_neg h0', ht]
  show ((if decide (x ≤ y) = true then nx t L K st w else nx (pc + 3) L K st w).or _) = _
  cases decide (x ≤ y) <;> rfl
noncomputable def swR (M pc : Nat) (L : Lc) (K : Lk) (st : List Value) (w : Wd) (d : Int) (x : Int32) : Int → List Int → Option Rs
  | _, [] => RUN M (jp pc d) L K st w
  | lo, o :: os => if x = Int32.ofInt lo then RUN M (jp pc o) L K st w else swR M pc L K st w d x (lo + 1) os
theorem swR_eq (M pc : Nat) (L : Lc) (K : Lk) (st : List Value) (w : Wd) (d : Int) (x : Int32) : ∀ (os : List Int) (lo : Int), RUN M (jp pc (swt x lo os d)) L K st w = swR M pc L K st w d x lo os := by
  intro os
  induction os with
  | nil => intro lo; rfl
  | cons o os ih =>
    intro lo
    show RUN M (jp pc (if x = Int32.ofInt lo then o else swt x (lo + 1) os d)) L K st w = if x = Int32.ofInt lo then RUN M (jp pc o) L K st w else swR M pc L K st w d x (lo + 1) os
    by_cases h : x = Int32.ofInt lo
    · rw [if_pos h, if_pos h]
    · rw [if_neg h, if_neg h]; exact ih (lo + 1)
theorem R_switch {M pc : Nat} {cc : ByteArray} {L : Lc} {K : Lk} {st : List Value} {w : Wd} {x : Int32} {d lo hi : Int} {os : Array Int} {n : Nat} (hB : mB M = cc) (hd : decode cc pc = .ok (.tableswitch d lo hi os, n)) (hg : (decide (0 ≤ lo) && decide (hi < 1000) && decide (hi + 1 = lo + os.toList.length) && decide (0 ≤ d) && os.toList.all (fun o => decide (0 ≤ o))) = true) : RUN M pc L K (.int x :: st) w = swR M pc L K st w d x lo os.toList := by
  rw [← swR_eq]
  refine RUN_to hB hd ?_
  show ((if (decide (0 ≤ lo) && decide (hi < 1000) && decide (hi + 1 = lo + os.toList.length) && decide (0 ≤ d) && os.toList.all (fun o => decide (0 ≤ o))) = true then nx (jp pc (swt x lo os.toList d)) L K st w else none).or _) = _
  rw [if_pos hg]
  rfl
theorem R_idiv {M pc : Nat} {cc : ByteArray} {L : Lc} {K : Lk} {st : List Value} {w : Wd} {x y : Int32} (hB : mB M = cc) (hd : decode cc pc = .ok (.idiv, 1)) (hy : ¬ y = 0) : RUN M pc L K (.int y :: .int x :: st) w = RUN M (pc + 1) L K (.int (x / y) :: st) w := by
  refine RUN_to hB hd ?_
  show ((if y = 0 then none else nx (pc + 1) L K (.int (x / y) :: st) w).or _) = _
  rw [if_neg hy]
  rfl
theorem R_irem {M pc : Nat} {cc : ByteArray} {L : Lc} {K : Lk} {st : List Value} {w : Wd} {x y : Int32} (hB : mB M = cc) (hd : decode cc pc = .ok (.irem, 1)) (hy : ¬ y = 0) : RUN M pc L K (.int y :: .int x :: st) w = RUN M (pc + 1) L K (.int (x - x / y * y) :: st) w := by
  refine RUN_to hB hd ?_
  show ((if y = 0 then none else nx (pc + 1) L K (.int (x - x / y * y) :: st) w).or _) = _
  rw [if_neg hy]
  rfl
theorem R_ldiv {M pc : Nat} {cc : ByteArray} {L : Lc} {K : Lk} {st : List Value} {w : Wd} {x y : Int64} (hB : mB M = cc) (hd : decode cc pc = .ok (.ldiv, 1)) (hy : ¬ y = 0) : RUN M pc L K (.long y :: .long x :: st) w = RUN M (pc + 1) L K (.long (x / y) :: st) w := by
  refine RUN_to hB hd ?_
  show ((if y = 0 then none else nx (pc + 1) L K (.long (x / y) :: st) w).or _) = _
  rw [if_neg hy]
  rfl
theorem R_lrem {M pc : Nat} {cc : ByteArray} {L : Lc} {K : Lk} {st : List Value} {w : Wd} {x y : Int64} (hB : mB M = cc) (hd : decode cc pc = .ok (.lrem, 1)) (hy : ¬ y = 0) : RUN M pc L K (.long y :: .long x :: st) w = RUN M (pc + 1) L K (.long (x - x / y * y) :: st) w := by
  refine RUN_to hB hd ?_
  show ((if y = 0 then none else nx (pc + 1) L K (.long (x - x / y * y) :: st) w).or _) = _
  rw [if_neg hy]
  rfl
def rfB (o : Nat) : Prop := o = 1 ∨ o = 11 ∨ o = 21
def shB (o : Nat) : Prop := o = 32 ∨ o = 34 ∨ o = 36 ∨ o = 38
theorem okc_rf {o : Nat} (h : rfB o) : okc o = some 0 := by rcases h with rfl | rfl | rfl <;> rfl
theorem okc_sh {o : Nat} (h : shB o) : okc o = some 1 := by rcases h with rfl | rfl | rfl | rfl <;> rfl
theorem rf_lt {o k : Nat} (h : rfB o) (hk : k ≤ 9) : o + k < 54 := by rcases h with rfl | rfl | rfl <;> omega
theorem sh_lt {o : Nat} (h : shB o) : o + 1 < 54 := by rcases h with rfl | rfl | rfl | rfl <;> omega
theorem al_sh {o : Nat} (h : shB o) : al (o + 1) = 40 := by rcases h with rfl | rfl | rfl | rfl <;> rfl
theorem al_rf1 {o : Nat} (h : rfB o) : al (o + 1) = 10 := by rcases h with rfl | rfl | rfl <;> rfl
theorem al_rf2 {o : Nat} (h : rfB o) : al (o + 2) = 6 := by rcases h with rfl | rfl | rfl <;> rfl
theorem al_rf3 {o : Nat} (h : rfB o) : al (o + 3) = 6 := by rcases h with rfl | rfl | rfl <;> rfl
theorem al_rf4 {o : Nat} (h : rfB o) : al (o + 4) = 8 := by rcases h with rfl | rfl | rfl <;> rfl
theorem al_rf5 {o : Nat} (h : rfB o) : al (o + 5) = 8 := by rcases h with rfl | rfl | rfl <;> rfl
theorem al_rf6 {o : Nat} (h : rfB o) : al (o + 6) = 8 := by rcases h with rfl | rfl | rfl <;> rfl
theorem al_rf7 {o : Nat} (h : rfB o) : al (o + 7) = 8 := by rcases h with rfl | rfl | rfl <;> rfl
theorem al_rf8 {o : Nat} (h : rfB o) : al (o + 8) = 8 := by rcases h with rfl | rfl | rfl <;> rfl
theorem al_rf9 {o : Nat} (h : rfB o) : al (o + 9) = 10 := by rcases h with rfl | rfl | rfl <;> rfl
theorem al_le (a : Nat) : al a ≤ 160 := by unfold al; split <;> decide
theorem R_getR {M pc : Nat} {cc : ByteArray} {L : Lc} {K : Lk} {st : List Value} {w : Wd} {k a b c f : Nat} (hB : mB M = cc) (hd : decode cc pc = .ok (.getfield k, 3)) (hf : fl (mC M) k = some (c, f)) (ho : okc a = some c) (hr : frc c a f = some b) : RUN M pc L K (.ref a :: st) w = RUN M (pc + 3) L K (.ref b :: st) w := by
  refine RUN_to hB hd ?_
  show ((match fl (mC M) k with
      | some (c, f) => if okc a = some c then (match frc c a f with
        | some b => nx (pc + 3) L K (.ref b :: st) w
        | none => nx (pc + 3) L K (.int (w.1 a f) :: st) w) else none
      | none => none : St1).or _) = _
  rw [hf]
  show ((if okc a = some c then (match frc c a f with
        | some b => nx (pc + 3) L K (.ref b :: st) w
        | none => nx (pc + 3) L K (.int (w.1 a f) :: st) w) else none).or _) = _
  rw [if_pos ho, hr]
  rfl
theorem R_getI {M pc : Nat} {cc : ByteArray} {L : Lc} {K : Lk} {st : List Value} {w : Wd} {k a c f : Nat} (hB : mB M = cc) (hd : decode cc pc = .ok (.getfield k, 3)) (hf : fl (mC M) k = some (c, f)) (ho : okc a = some c) (hr : frc c a f = none) : RUN M pc L K (.ref a :: st) w = RUN M (pc + 3) L K (.int (w.1 a f) :: st) w := by
  refine RUN_to hB hd ?_
  show ((match fl (mC M) k with
      | some (c, f) => if okc a = some c then (match frc c a f with
        | some b => nx (pc + 3) L K (.ref b :: st) w
        | none => nx (pc + 3) L K (.int (w.1 a f) :: st) w) else none
      | none => none : St1).or _) = _
  rw [hf]
  show ((if okc a = some c then (match frc c a f with
        | some b => nx (pc + 3) L K (.ref b :: st) w
        | none => nx (pc + 3) L K (.int (w.1 a f) :: st) w) else none).or _) = _
  rw [if_pos ho, hr]
  rfl
theorem R_putI {M pc : Nat} {cc : ByteArray} {L : Lc} {K : Lk} {st : List Value} {w : Wd} {k a c f : Nat} {v : Int32} (hB : mB M = cc) (hd : decode cc pc = .ok (.putfield k, 3)) (hf : fl (mC M) k = some (c, f)) (ho : okc a = some c) (hr : frc c a f = none) (hz : fzc c f = true → v = 0 ∨ v = 1) : RUN M pc L K (.int v :: .ref a :: st) w = RUN M (pc + 3) L K st (st2 w a f v) := by
  refine RUN_to hB hd ?_
  show ((match fl (mC M) k with
      | some (c, f) => if okc a = some c ∧ frc c a f = none ∧ (fzc c f = true → v = 0 ∨ v = 1) then nx (pc + 3) L K st (st2 w a f v) else none
      | none => none : St1).or _) = _
  rw [hf]
  show ((if okc a = some c ∧ frc c a f = none ∧ (fzc c f = true → v = 0 ∨ v = 1) then nx (pc + 3) L K st (st2 w a f v) else none).or _) = _
  rw [if_pos ⟨ho, hr, hz⟩]
  rfl
theorem nI_ok {j n : Nat} (hj : j < n) (hl : n < 2147483648) : ¬ (nI j < 0 ∨ n ≤ (nI j).toNatClampNeg) := nI_in hj hl
theorem R_iald {M pc : Nat} {cc : ByteArray} {L : Lc} {K : Lk} {st : List Value} {w : Wd} {a n j : Nat} (hB : mB M = cc) (hd : decode cc pc = .ok (.iaload, 1)) (h1 : a < 54) (h2 : al a = n) (hj : j < n) (hl : n < 2147483648) : RUN M pc L K (.int (nI j) :: .ref a :: st) w = RUN M (pc + 1) L K (.int (w.1 a j) :: st) w := by
  refine RUN_to hB hd ?_
  show ((if a < 54 then (if nI j < 0 ∨ al a ≤ (nI j).toNatClampNeg then none else nx (pc + 1) L K (.int (w.1 a (nI j).toNatClampNeg) :: st) w) else _ : St1).or _) = _
  rw [if_pos h1, h2, if_neg (nI_ok hj hl), nI_clamp (by omega)]
  rfl
theorem R_ialdT {M pc : Nat} {cc : ByteArray} {L : Lc} {K : Lk} {st : List Value} {w : Wd} {a n j : Nat} (hB : mB M = cc) (hd : decode cc pc = .ok (.iaload, 1)) (h0 : 54 ≤ a) (h1 : a < 57) (h2 : sl a = n) (hj : j < n) (hl : n < 2147483648) : RUN M pc L K (.int (nI j) :: .ref a :: st) w = RUN M (pc + 1) L K (.int (sv a j) :: st) w := by
  refine RUN_to hB hd ?_
  show ((if a < 54 then _ else if a < 57 then (if nI j < 0 ∨ sl a ≤ (nI j).toNatClampNeg then none else nx (pc + 1) L K (.int (sv a (nI j).toNatClampNeg) :: st) w) else _ : St1).or _) = _
  rw [if_neg (by omega), if_pos h1, h2, if_neg (nI_ok hj hl), nI_clamp (by omega)]
  rfl
theorem R_ialdS {M pc : Nat} {cc : ByteArray} {L : Lc} {K : Lk} {st : List Value} {w : Wd} {j : Nat} (hB : mB M = cc) (hd : decode cc pc = .ok (.iaload, 1)) (hj : j < (w.1 58 0).toNatClampNeg) (hl : j < 2147483648) : RUN M pc L K (.int (nI j) :: .ref 57 :: st) w = RUN M (pc + 1) L K (.int (w.1 57 j) :: st) w := by
  refine RUN_to hB hd ?_
  show ((if nI j < 0 ∨ (w.1 58 0).toNatClampNeg ≤ (nI j).toNatClampNeg then none else nx (pc + 1) L K (.int (w.1 57 (nI j).toNatClampNeg) :: st) w : St1).or _) = _
  rw [nI_clamp hl, if_neg (by rintro (h | h); exact nI_pos hl h; omega)]
  rfl
theorem R_iast {M pc : Nat} {cc : ByteArray} {L : Lc} {K : Lk} {st : List Value} {w : Wd} {a n j : Nat} {v : Int32} (hB : mB M = cc) (hd : decode cc pc = .ok (.iastore, 1)) (h1 : a < 54) (h2 : al a = n) (hj : j < n) (hl : n < 2147483648) : RUN M pc L K (.int v :: .int (nI j) :: .ref a :: st) w = RUN M (pc + 1) L K st (st2 w a j v) := by
  refine RUN_to hB hd ?_
  show ((if a < 54 then (if nI j < 0 ∨ al a ≤ (nI j).toNatClampNeg then none else nx (pc + 1) L K st (st2 w a (nI j).toNatClampNeg v)) else none : St1).or _) = _
  rw [if_pos h1, h2, if_neg (nI_ok hj hl), nI_clamp (by omega)]
  rfl
theorem R_lald {M pc : Nat} {cc : ByteArray} {L : Lc} {K : Lk} {st : List Value} {w : Wd} {j : Nat} (hB : mB M = cc) (hd : decode cc pc = .ok (.laload, 1)) (hj : j < 5) : RUN M pc L K (.int (nI j) :: .ref 43 :: st) w = RUN M (pc + 1) L K (.long (w.2 j) :: st) w := by
  refine RUN_to hB hd ?_
  show ((if nI j < 0 ∨ 5 ≤ (nI j).toNatClampNeg then none else nx (pc + 1) L K (.long (w.2 (nI j).toNatClampNeg) :: st) w : St1).or _) = _
  rw [if_neg (nI_ok hj (by omega)), nI_clamp (by omega)]
  rfl
theorem R_last {M pc : Nat} {cc : ByteArray} {L : Lc} {K : Lk} {st : List Value} {w : Wd} {j : Nat} {v : Int64} (hB : mB M = cc) (hd : decode cc pc = .ok (.lastore, 1)) (hj : j < 5) : RUN M pc L K (.long v :: .int (nI j) :: .ref 43 :: st) w = RUN M (pc + 1) L K st (w.1, vp_updL w.2 j v) := by
  refine RUN_to hB hd ?_
  show ((if nI j < 0 ∨ 5 ≤ (nI j).toNatClampNeg then none else nx (pc + 1) L K st (w.1, vp_updL w.2 (nI j).toNatClampNeg v) : St1).or _) = _
  rw [if_neg (nI_ok hj (by omega)), nI_clamp (by omega)]
  rfl
theorem R_aald {M pc : Nat} {cc : ByteArray} {L : Lc} {K : Lk} {st : List Value} {w : Wd} {j : Nat} (hB : mB M = cc) (hd : decode cc pc = .ok (.aaload, 1)) (hj : j < 4) : RUN M pc L K (.int (nI j) :: .ref 31 :: st) w = RUN M (pc + 1) L K (.ref (32 + 2 * j) :: st) w := by
  refine RUN_to hB hd ?_
  show ((if nI j < 0 ∨ 4 ≤ (nI j).toNatClampNeg then none else nx (pc + 1) L K (.ref (32 + 2 * (nI j).toNatClampNeg) :: st) w : St1).or _) = _
  rw [if_neg (nI_ok hj (by omega)), nI_clamp (by omega)]
  rfl
theorem R_callS {M pc : Nat} {cc : ByteArray} {L : Lc} {K : Lk} {st : List Value} {w : Wd} {k t n : Nat} (hB : mB M = cc) (hd : decode cc pc = .ok (.invokestatic k, 3)) (hc : cs (mC M) k = some t) (hs : mS t = true) (hv : mV t < mV M) (hn : mA t = n) (h3 : t < 300) (h4 : n ≤ st.length) (hx : wds (st.take n) ≤ mX t) (hw : wds (st.drop n) ≤ 8) : RUN M pc L K st w = (CALL t (st.take n).reverse w).bind (fun z => RUN M (pc + 3) L K (z.1 ++ st.drop n) z.2) := by
  subst hn
  refine (RUN_call (t := t) (as := (st.take (mA t)).reverse) (rest := st.drop (mA t)) hB hd rfl hv ?_).trans ?_
  · show (match cs (mC M) k with
      | some t => if t < 300 then
        (if mS t = true ∧ mV t < mV M ∧ mA t ≤ st.length ∧ wds (st.take (mA t)) ≤ mX t ∧ wds (st.drop (mA t)) ≤ 8 then (match CL (mV M) t (st.take (mA t)).reverse w with
          | some (r, w1) => nx (pc + 3) L K (r ++ st.drop (mA t)) w1
          | none => none) else none)
        else exP t pc L K st w
      | none => none : St1) = _
    rw [hc]
    show (if t < 300 then
        (if mS t = true ∧ mV t < mV M ∧ mA t ≤ st.length ∧ wds (st.take (mA t)) ≤ mX t ∧ wds (st.drop (mA t)) ≤ 8 then (match CL (mV M) t (st.take (mA t)).reverse w with
          | some (r, w1) => nx (pc + 3) L K (r ++ st.drop (mA t)) w1
          | none => none) else none)
        else exP t pc L K st w : St1) = _
    rw [if_pos h3, if_pos ⟨hs, hv, h4, hx, hw⟩]
    cases CL (mV M) t (st.take (mA t)).reverse w with
    | none => rfl
    | some x => rfl
  · cases CALL t (st.take (mA t)).reverse w with
    | none => rfl
    | some x => rfl
theorem R_callV {M pc : Nat} {cc : ByteArray} {L : Lc} {K : Lk} {st : List Value} {w : Wd} {k t n b : Nat} {rest : List Value} (hB : mB M = cc) (hd : decode cc pc = .ok (.invokevirtual k, 3)) (hc : cs (mC M) k = some t) (hs : mS t = false) (hv : mV t < mV M) (hn : mA t = n) (h3 : t < 300) (hdr : st.drop n = .ref b :: rest) (hok : okc b = some (mC t - 1)) (hx : wds (st.take n) + 1 ≤ mX t) (hw : wds (st.drop (n + 1)) ≤ 8) : RUN M pc L K st w = (CALL t (.ref b :: (st.take n).reverse) w).bind (fun z => RUN M (pc + 3) L K (z.1 ++ st.drop (n + 1)) z.2) := by
  subst hn
  refine (RUN_call (t := t) (as := .ref b :: (st.take (mA t)).reverse) (rest := st.drop (mA t + 1)) hB hd rfl hv ?_).trans ?_
  · show (match cs (mC M) k with
      | some t => if t < 300 then
        (if mS t = false ∧ mV t < mV M ∧ wds (st.take (mA t)) + 1 ≤ mX t ∧ wds (st.drop (mA t + 1)) ≤ 8 then (match st.drop (mA t) with
          | .ref b :: _ => if okc b = some (mC t - 1) then (match CL (mV M) t (.ref b :: (st.take (mA t)).reverse) w with
            | some (r, w1) => nx (pc + 3) L K (r ++ st.drop (mA t + 1)) w1
            | none => none) else none
          | _ => none) else none)
        else _
      | none => none : St1) = _
    rw [hc]
    show (if t < 300 then
        (if mS t = false ∧ mV t < mV M ∧ wds (st.take (mA t)) + 1 ≤ mX t ∧ wds (st.drop (mA t + 1)) ≤ 8 then (match st.drop (mA t) with
          | .ref b :: _ => if okc b = some (mC t - 1) then (match CL (mV M) t (.ref b :: (st.take (mA t)).reverse) w with
            | some (r, w1) => nx (pc + 3) L K (r ++ st.drop (mA t + 1)) w1
            | none => none) else none
          | _ => none) else none)
        else _ : St1) = _
    rw [if_pos h3, if_pos ⟨hs, hv, hx, hw⟩, hdr]
    show (if okc b = some (mC t - 1) then (match CL (mV M) t (.ref b :: (st.take (mA t)).reverse) w with
            | some (r, w1) => nx (pc + 3) L K (r ++ st.drop (mA t + 1)) w1
            | none => none) else none : St1) = _
    rw [if_pos hok]
    cases CL (mV M) t (.ref b :: (st.take (mA t)).reverse) w with
    | none => rfl
    | some x => rfl
  · cases CALL t (.ref b :: (st.take (mA t)).reverse) w with
    | none => rfl
    | some x => rfl
theorem R_prim {M pc : Nat} {cc : ByteArray} {L : Lc} {K : Lk} {st : List Value} {w : Wd} {k t p' : Nat} {L' : Lc} {K' : Lk} {st' : List Value} {w' : Wd} (hB : mB M = cc) (hd : decode cc pc = .ok (.invokestatic k, 3)) (hc : cs (mC M) k = some t) (h3 : ¬ t < 300) (he : exP t pc L K st w = nx p' L' K' st' w') : RUN M pc L K st w = RUN M p' L' K' st' w' := by
  refine RUN_to hB hd ?_
  show (match cs (mC M) k with
      | some t => if t < 300 then _ else exP t pc L K st w
      | none => none : St1) = _
  rw [hc]
  show (if t < 300 then _ else exP t pc L K st w : St1) = _
  rw [if_neg h3, he]
theorem R_p300 {M pc : Nat} {cc : ByteArray} {L : Lc} {K : Lk} {st : List Value} {w : Wd} {k : Nat} {x y : Int32} (hB : mB M = cc) (hd : decode cc pc = .ok (.invokestatic k, 3)) (hc : cs (mC M) k = some 300) (hw : wds st ≤ 20) : RUN M pc L K (.int y :: .int x :: st) w = RUN M (pc + 3) L K (.int (if x < y then y else x) :: st) w := R_prim hB hd hc (by decide) (if_pos hw)
theorem R_p301 {M pc : Nat} {cc : ByteArray} {L : Lc} {K : Lk} {st : List Value} {w : Wd} {k : Nat} {x y : Int32} (hB : mB M = cc) (hd : decode cc pc = .ok (.invokestatic k, 3)) (hc : cs (mC M) k = some 301) (hw : wds st ≤ 20) : RUN M pc L K (.int y :: .int x :: st) w = RUN M (pc + 3) L K (.int (if y < x then y else x) :: st) w := R_prim hB hd hc (by decide) (if_pos hw)
theorem R_p302 {M pc : Nat} {cc : ByteArray} {L : Lc} {K : Lk} {st : List Value} {w : Wd} {k : Nat} {x y : Int64} (hB : mB M = cc) (hd : decode cc pc = .ok (.invokestatic k, 3)) (hc : cs (mC M) k = some 302) (hw : wds st ≤ 20) : RUN M pc L K (.long y :: .long x :: st) w = RUN M (pc + 3) L K (.long (if y < x then x else y) :: st) w := R_prim hB hd hc (by decide) (if_pos hw)
theorem R_copy {M pc : Nat} {cc : ByteArray} {L : Lc} {K : Lk} {w : Wd} {k n d p a b : Nat} (hB : mB M = cc) (hd : decode cc pc = .ok (.invokestatic k, 3)) (hc : cs (mC M) k = some 303) (h1 : a < 54) (h2 : b < 54) (h3 : 0 < al a) (h4 : 0 < al b) (h5 : p + n ≤ al a) (h6 : d + n ≤ al b) : RUN M pc L K [.int (nI n), .int (nI d), .ref b, .int (nI p), .ref a] w = RUN M (pc + 3) L K [] (if n = al b then put w b (fun k => w.1 a (p + k)) else put w b (va_cpy (w.1 a) (w.1 b) p d n)) := by
  have ha := al_le a
  have hb := al_le b
  have ep : (nI p).toNatClampNeg = p := nI_clamp (by omega)
  have en : (nI n).toNatClampNeg = n := nI_clamp (by omega)
  have ed : (nI d).toNatClampNeg = d := nI_clamp (by omega)
  refine R_prim hB hd hc (by decide) ?_
  refine (if_pos ⟨Nat.le_of_ble_eq_true rfl, h1, h2, h3, h4, nI_pos (by omega), nI_pos (by omega), nI_pos (by omega), by rw [ep, en]; exact h5, by rw [ed, en]; exact h6⟩).trans ?_
  rw [ep, en, ed]
  by_cases h : n = al b
  · rw [if_pos h, if_pos h]
  · rw [if_neg h, if_neg h]
theorem R_slen {M pc : Nat} {cc : ByteArray} {L : Lc} {K : Lk} {st : List Value} {w : Wd} {k o : Nat} (hB : mB M = cc) (hd : decode cc pc = .ok (.invokevirtual k, 3)) (hc : cs (mC M) k = some 310) (ho : 60 ≤ o ∧ o < 72) (hw : wds st ≤ 8) : RUN M pc L K (.ref o :: st) w = RUN M (pc + 3) L K (.int (nI (slen (o - 60))) :: st) w := by
  refine RUN_to hB hd ?_
  show (match cs (mC M) k with
      | some t => if t < 300 then _ else if t = 310 then (if 60 ≤ o ∧ o < 72 ∧ wds st ≤ 8 then nx (pc + 3) L K (.int (nI (slen (o - 60))) :: st) w else none) else _
      | none => none : St1) = _
  rw [hc]
  show (if 60 ≤ o ∧ o < 72 ∧ wds st ≤ 8 then nx (pc + 3) L K (.int (nI (slen (o - 60))) :: st) w else none : St1) = _
  rw [if_pos ⟨ho.1, ho.2, hw⟩]
theorem R_sch {M pc : Nat} {cc : ByteArray} {L : Lc} {K : Lk} {st : List Value} {w : Wd} {k o j : Nat} (hB : mB M = cc) (hd : decode cc pc = .ok (.invokevirtual k, 3)) (hc : cs (mC M) k = some 311) (ho : 60 ≤ o ∧ o < 72) (hj : j < slen (o - 60)) (hw : wds st ≤ 8) : RUN M pc L K (.int (nI j) :: .ref o :: st) w = RUN M (pc + 3) L K (.int (sch (o - 60) j) :: st) w := by
  have hs : slen (o - 60) ≤ 7 := by
    obtain ⟨i, hi⟩ : ∃ i, i = o - 60 := ⟨_, rfl⟩
    rw [← hi]
    unfold slen stx
    split <;> decide
  have ej : (nI j).toNatClampNeg = j := nI_clamp (by omega)
  refine RUN_to hB hd ?_
  show (match cs (mC M) k with
      | some t => if t < 300 then _ else if t = 310 then _ else if t = 311 then (if 60 ≤ o ∧ o < 72 ∧ wds st ≤ 8 ∧ ¬ nI j < 0 ∧ (nI j).toNatClampNeg < slen (o - 60) then nx (pc + 3) L K (.int (sch (o - 60) (nI j).toNatClampNeg) :: st) w else none) else none
      | none => none : St1) = _
  rw [hc]
  show (if 60 ≤ o ∧ o < 72 ∧ wds st ≤ 8 ∧ ¬ nI j < 0 ∧ (nI j).toNatClampNeg < slen (o - 60) then nx (pc + 3) L K (.int (sch (o - 60) (nI j).toNatClampNeg) :: st) w else none : St1) = _
  rw [ej, if_pos ⟨ho.1, ho.2, hw, nI_pos (by omega), hj⟩]
theorem R_retZ {M pc : Nat} {cc : ByteArray} {L : Lc} {K : Lk} {w : Wd} {v : Int32} (hB : mB M = cc) (hd : decode cc pc = .ok (.ireturn, 1)) (hr : mR M = some .boolean) (hv : v = 0 ∨ v = 1) : RUN M pc L K [.int v] w = some ([.int v], w) := by
  refine RUN_end hB hd ?_
  have e : exR M (.ireturn, 1) [.int v] w = some ([.int v], w) := by
    show (match mR M with
      | some .int => some ([.int v], w)
      | some .boolean => if v = 0 ∨ v = 1 then some ([.int v], w) else none
      | _ => none : Option Rs) = _
    rw [hr]
    exact if_pos hv
  show (match exR M (.ireturn, 1) [.int v] w with
    | some r => some (.inr r)
    | none => none : Option (Cf ⊕ Rs)) = _
  rw [e]
