/-! CONSTRUCTORS -/
theorem ci_obj_i : Cond.instanceMethod objectInit ∈ Gz := Gz_in (k := 79) ⟨by decide +kernel, by decide +kernel⟩
theorem ci_obj_c : Cond.code objectInit ⟨#[0xb1]⟩ 1 none ∈ Gz := Gz_in (k := 80) ⟨by decide +kernel, by decide +kernel⟩
theorem ci_ol_RX1 : Cond.methodLink RX1 3 objectInit ∈ Gz := Gz_in (k := 86) ⟨by decide +kernel, by decide +kernel⟩
theorem ci_c_RX1 : Cond.code yX1_init cX1_init 2 none ∈ Gz := Gz_in (k := 85) ⟨by decide +kernel, by decide +kernel⟩
theorem ci_i_RX1 : Cond.instanceMethod yX1_init ∈ Gz := Gz_in (k := 84) ⟨by decide +kernel, by decide +kernel⟩
theorem ci_n_RX1 : Cond.initialized RX1 ∈ Gz := Gz_in (k := 61) ⟨by decide +kernel, by decide +kernel⟩
theorem ci_ol_RX2 : Cond.methodLink RX2 3 objectInit ∈ Gz := Gz_in (k := 171) ⟨by decide +kernel, by decide +kernel⟩
theorem ci_c_RX2 : Cond.code yX2_init cX2_init 1 none ∈ Gz := Gz_in (k := 170) ⟨by decide +kernel, by decide +kernel⟩
theorem ci_i_RX2 : Cond.instanceMethod yX2_init ∈ Gz := Gz_in (k := 169) ⟨by decide +kernel, by decide +kernel⟩
theorem ci_n_RX2 : Cond.initialized RX2 ∈ Gz := Gz_in (k := 63) ⟨by decide +kernel, by decide +kernel⟩
theorem ci_ol_RX3 : Cond.methodLink RX3 3 objectInit ∈ Gz := Gz_in (k := 146) ⟨by decide +kernel, by decide +kernel⟩
theorem ci_c_RX3 : Cond.code yX3_init cX3_init 1 none ∈ Gz := Gz_in (k := 145) ⟨by decide +kernel, by decide +kernel⟩
theorem ci_i_RX3 : Cond.instanceMethod yX3_init ∈ Gz := Gz_in (k := 144) ⟨by decide +kernel, by decide +kernel⟩
theorem ci_n_RX3 : Cond.initialized RX3 ∈ Gz := Gz_in (k := 62) ⟨by decide +kernel, by decide +kernel⟩
theorem ci_ol_RX4 : Cond.methodLink RX4 1 objectInit ∈ Gz := Gz_in (k := 78) ⟨by decide +kernel, by decide +kernel⟩
theorem ci_c_RX4 : Cond.code yX4_init cX4_init 2 none ∈ Gz := Gz_in (k := 77) ⟨by decide +kernel, by decide +kernel⟩
theorem ci_i_RX4 : Cond.instanceMethod yX4_init ∈ Gz := Gz_in (k := 76) ⟨by decide +kernel, by decide +kernel⟩
theorem ci_n_RX4 : Cond.initialized RX4 ∈ Gz := Gz_in (k := 60) ⟨by decide +kernel, by decide +kernel⟩
theorem ci_ol_RX5 : Cond.methodLink RX5 1 objectInit ∈ Gz := Gz_in (k := 712) ⟨by decide +kernel, by decide +kernel⟩
theorem ci_c_RX5 : Cond.code yX5_init cX5_init 2 none ∈ Gz := Gz_in (k := 711) ⟨by decide +kernel, by decide +kernel⟩
theorem ci_i_RX5 : Cond.instanceMethod yX5_init ∈ Gz := Gz_in (k := 710) ⟨by decide +kernel, by decide +kernel⟩
theorem ci_n_RX5 : Cond.initialized RX5 ∈ Gz := Gz_in (k := 64) ⟨by decide +kernel, by decide +kernel⟩
theorem ci_cl_RL_RX4 : Cond.classLink RL 7 RX4 ∈ Gz := Gz_in (k := 73) ⟨by decide +kernel, by decide +kernel⟩
theorem ci_in_RX4 : Cond.instantiable RX4 8 ∈ Gz := Gz_in (k := 74) ⟨by decide +kernel, by decide +kernel⟩
theorem ci_cl_RX4_RX1 : Cond.classLink RX4 7 RX1 ∈ Gz := Gz_in (k := 81) ⟨by decide +kernel, by decide +kernel⟩
theorem ci_in_RX1 : Cond.instantiable RX1 12 ∈ Gz := Gz_in (k := 82) ⟨by decide +kernel, by decide +kernel⟩
theorem ci_ar_int : Cond.arrayClass .int ∈ Gz := Gz_in (k := 138) ⟨by decide +kernel, by decide +kernel⟩
theorem ci_cl_RX4_RX2 : Cond.classLink RX4 26 RX2 ∈ Gz := Gz_in (k := 139) ⟨by decide +kernel, by decide +kernel⟩
theorem ci_cl_RX4_RX3 : Cond.classLink RX4 32 RX3 ∈ Gz := Gz_in (k := 141) ⟨by decide +kernel, by decide +kernel⟩
theorem ci_in_RX3 : Cond.instantiable RX3 6 ∈ Gz := Gz_in (k := 142) ⟨by decide +kernel, by decide +kernel⟩
theorem ci_in_RX2 : Cond.instantiable RX2 3 ∈ Gz := Gz_in (k := 167) ⟨by decide +kernel, by decide +kernel⟩
theorem ci_ar_long : Cond.arrayClass .long ∈ Gz := Gz_in (k := 185) ⟨by decide +kernel, by decide +kernel⟩
theorem ci_cl_RL_RX5 : Cond.classLink RL 10 RX5 ∈ Gz := Gz_in (k := 707) ⟨by decide +kernel, by decide +kernel⟩
theorem ci_in_RX5 : Cond.instantiable RX5 16 ∈ Gz := Gz_in (k := 708) ⟨by decide +kernel, by decide +kernel⟩
theorem ci_l_RX4_X1 : Cond.methodLink RX4 9 yX1_init ∈ Gz := Gz_in (k := 83) ⟨by decide +kernel, by decide +kernel⟩
theorem ci_l_RL_X4 : Cond.methodLink RL 9 yX4_init ∈ Gz := Gz_in (k := 75) ⟨by decide +kernel, by decide +kernel⟩
theorem ci_l_RL_X5 : Cond.methodLink RL 12 yX5_init ∈ Gz := Gz_in (k := 709) ⟨by decide +kernel, by decide +kernel⟩
theorem ci_f_RX1_9 : Cond.fieldLink RX1 9 "BoneWords$Reef" "jar" "[I" ∈ Gz := Gz_in (k := 87) ⟨by decide +kernel, by decide +kernel⟩
theorem ci_f_RX1_15 : Cond.fieldLink RX1 15 "BoneWords$Reef" "bonesOf" "[I" ∈ Gz := Gz_in (k := 90) ⟨by decide +kernel, by decide +kernel⟩
theorem ci_f_RX1_18 : Cond.fieldLink RX1 18 "BoneWords$Reef" "catchOf" "[I" ∈ Gz := Gz_in (k := 93) ⟨by decide +kernel, by decide +kernel⟩
theorem ci_f_RX1_21 : Cond.fieldLink RX1 21 "BoneWords$Reef" "kind" "[I" ∈ Gz := Gz_in (k := 96) ⟨by decide +kernel, by decide +kernel⟩
theorem ci_f_RX1_24 : Cond.fieldLink RX1 24 "BoneWords$Reef" "word" "[I" ∈ Gz := Gz_in (k := 98) ⟨by decide +kernel, by decide +kernel⟩
theorem ci_f_RX1_27 : Cond.fieldLink RX1 27 "BoneWords$Reef" "at" "[I" ∈ Gz := Gz_in (k := 99) ⟨by decide +kernel, by decide +kernel⟩
theorem ci_f_RX1_30 : Cond.fieldLink RX1 30 "BoneWords$Reef" "fat" "[I" ∈ Gz := Gz_in (k := 101) ⟨by decide +kernel, by decide +kernel⟩
theorem ci_f_RX1_33 : Cond.fieldLink RX1 33 "BoneWords$Reef" "written" "[I" ∈ Gz := Gz_in (k := 103) ⟨by decide +kernel, by decide +kernel⟩
theorem ci_f_RX1_36 : Cond.fieldLink RX1 36 "BoneWords$Reef" "spots" "[I" ∈ Gz := Gz_in (k := 105) ⟨by decide +kernel, by decide +kernel⟩
theorem ci_f_RX1_39 : Cond.fieldLink RX1 39 "BoneWords$Reef" "writers" "I" ∈ Gz := Gz_in (k := 107) ⟨by decide +kernel, by decide +kernel⟩
theorem ci_f_RX1_43 : Cond.fieldLink RX1 43 "BoneWords$Reef" "day" "I" ∈ Gz := Gz_in (k := 109) ⟨by decide +kernel, by decide +kernel⟩
theorem ci_f_RX1_46 : Cond.fieldLink RX1 46 "BoneWords$Reef" "z" "I" ∈ Gz := Gz_in (k := 111) ⟨by decide +kernel, by decide +kernel⟩
theorem ci_f_RX2_9 : Cond.fieldLink RX2 9 "BoneWords$Sheet" "row" "[I" ∈ Gz := Gz_in (k := 172) ⟨by decide +kernel, by decide +kernel⟩
theorem ci_f_RX2_15 : Cond.fieldLink RX2 15 "BoneWords$Sheet" "size" "I" ∈ Gz := Gz_in (k := 174) ⟨by decide +kernel, by decide +kernel⟩
theorem ci_f_RX2_19 : Cond.fieldLink RX2 19 "BoneWords$Sheet" "bits" "I" ∈ Gz := Gz_in (k := 176) ⟨by decide +kernel, by decide +kernel⟩
theorem ci_f_RX3_9 : Cond.fieldLink RX3 9 "BoneWords$Tape" "bytes" "[I" ∈ Gz := Gz_in (k := 147) ⟨by decide +kernel, by decide +kernel⟩
theorem ci_f_RX3_15 : Cond.fieldLink RX3 15 "BoneWords$Tape" "size" "I" ∈ Gz := Gz_in (k := 148) ⟨by decide +kernel, by decide +kernel⟩
theorem ci_f_RX3_19 : Cond.fieldLink RX3 19 "BoneWords$Tape" "token" "I" ∈ Gz := Gz_in (k := 150) ⟨by decide +kernel, by decide +kernel⟩
theorem ci_f_RX3_22 : Cond.fieldLink RX3 22 "BoneWords$Tape" "place" "I" ∈ Gz := Gz_in (k := 151) ⟨by decide +kernel, by decide +kernel⟩
theorem ci_f_RX3_25 : Cond.fieldLink RX3 25 "BoneWords$Tape" "next" "I" ∈ Gz := Gz_in (k := 152) ⟨by decide +kernel, by decide +kernel⟩
theorem ci_f_RX3_28 : Cond.fieldLink RX3 28 "BoneWords$Tape" "value" "I" ∈ Gz := Gz_in (k := 153) ⟨by decide +kernel, by decide +kernel⟩
theorem ci_f_RX4_10 : Cond.fieldLink RX4 10 "BoneWords" "reef" "LBoneWords$Reef;" ∈ Gz := Gz_in (k := 186) ⟨by decide +kernel, by decide +kernel⟩
theorem ci_f_RX4_16 : Cond.fieldLink RX4 16 "BoneWords" "trial" "LBoneWords$Reef;" ∈ Gz := Gz_in (k := 187) ⟨by decide +kernel, by decide +kernel⟩
theorem ci_f_RX4_19 : Cond.fieldLink RX4 19 "BoneWords" "kept" "LBoneWords$Reef;" ∈ Gz := Gz_in (k := 188) ⟨by decide +kernel, by decide +kernel⟩
theorem ci_f_RX4_22 : Cond.fieldLink RX4 22 "BoneWords" "isKept" "Z" ∈ Gz := Gz_in (k := 189) ⟨by decide +kernel, by decide +kernel⟩
theorem ci_f_RX4_28 : Cond.fieldLink RX4 28 "BoneWords" "sheets" "[LBoneWords$Sheet;" ∈ Gz := Gz_in (k := 190) ⟨by decide +kernel, by decide +kernel⟩
theorem ci_f_RX4_35 : Cond.fieldLink RX4 35 "BoneWords" "tape" "LBoneWords$Tape;" ∈ Gz := Gz_in (k := 191) ⟨by decide +kernel, by decide +kernel⟩
theorem ci_f_RX4_39 : Cond.fieldLink RX4 39 "BoneWords" "found" "[I" ∈ Gz := Gz_in (k := 192) ⟨by decide +kernel, by decide +kernel⟩
theorem ci_f_RX4_43 : Cond.fieldLink RX4 43 "BoneWords" "rows" "[J" ∈ Gz := Gz_in (k := 193) ⟨by decide +kernel, by decide +kernel⟩
theorem ci_f_RX5_7 : Cond.fieldLink RX5 7 "BoneWordsModel" "s" "[I" ∈ Gz := Gz_in (k := 713) ⟨by decide +kernel, by decide +kernel⟩
theorem ci_f_RX5_13 : Cond.fieldLink RX5 13 "BoneWordsModel" "kept" "[I" ∈ Gz := Gz_in (k := 714) ⟨by decide +kernel, by decide +kernel⟩
theorem ci_f_RX5_16 : Cond.fieldLink RX5 16 "BoneWordsModel" "before" "[I" ∈ Gz := Gz_in (k := 715) ⟨by decide +kernel, by decide +kernel⟩
theorem ci_f_RX5_19 : Cond.fieldLink RX5 19 "BoneWordsModel" "aside" "[I" ∈ Gz := Gz_in (k := 716) ⟨by decide +kernel, by decide +kernel⟩
theorem ci_f_RX5_22 : Cond.fieldLink RX5 22 "BoneWordsModel" "findings" "[I" ∈ Gz := Gz_in (k := 718) ⟨by decide +kernel, by decide +kernel⟩
theorem ci_f_RX5_25 : Cond.fieldLink RX5 25 "BoneWordsModel" "tape" "[I" ∈ Gz := Gz_in (k := 719) ⟨by decide +kernel, by decide +kernel⟩
theorem ci_f_RX5_28 : Cond.fieldLink RX5 28 "BoneWordsModel" "bitsOf" "[I" ∈ Gz := Gz_in (k := 721) ⟨by decide +kernel, by decide +kernel⟩
theorem ci_f_RX5_31 : Cond.fieldLink RX5 31 "BoneWordsModel" "sizes" "[I" ∈ Gz := Gz_in (k := 722) ⟨by decide +kernel, by decide +kernel⟩
theorem ci_f_RX5_34 : Cond.fieldLink RX5 34 "BoneWordsModel" "numbers" "[I" ∈ Gz := Gz_in (k := 723) ⟨by decide +kernel, by decide +kernel⟩
def fil (v : Int32) (k : Nat) : Nat → Int32 := fun j => if j < k then v else 0
theorem fil_0 (v : Int32) : fil v 0 = fun _ => 0 := funext fun j => if_neg (Nat.not_lt_zero j)
theorem upd_fil (v : Int32) (k : Nat) : upd (fil v k) k v = fil v (k + 1) := by
  funext j
  unfold upd fil
  by_cases h : j = k
  · rw [if_pos h, if_pos (by omega)]
  · rw [if_neg h]
    by_cases h2 : j < k
    · rw [if_pos h2, if_pos (by omega)]
    · rw [if_neg h2, if_neg (by omega)]
def sm1 (k : Nat) : Nat → Int32 := fun j => if j = 2 then 1 else if 13 ≤ j ∧ j < 13 + k then 12 else if 19 ≤ j ∧ j < 19 + k then 3 else 0
def sm2 (k : Nat) : Nat → Int32 := fun j => if 65 ≤ j ∧ j < 65 + k then -1 else sm1 6 j
theorem sm1_0 : upd (fun _ => 0) 2 1 = sm1 0 := by
  funext j
  unfold upd sm1
  by_cases h : j = 2
  · rw [if_pos h, if_pos h]
  · rw [if_neg h, if_neg h, if_neg (by omega), if_neg (by omega)]
theorem sm1_s {k : Nat} (hk : k < 6) : upd (upd (sm1 k) (13 + k) 12) (19 + k) 3 = sm1 (k + 1) := by
  funext j
  unfold upd sm1
  by_cases h2 : j = 2
  · rw [if_neg (by omega), if_neg (by omega), if_pos h2, if_pos h2]
  · by_cases h3 : j = 19 + k
    · rw [if_pos h3, if_neg h2, if_neg (by omega), if_pos (by omega)]
    · by_cases h4 : j = 13 + k
      · rw [if_neg h3, if_pos h4, if_neg h2, if_pos (by omega)]
      · rw [if_neg h3, if_neg h4, if_neg h2, if_neg h2]
        by_cases h5 : 13 ≤ j ∧ j < 13 + k
        · rw [if_pos h5, if_pos (by omega)]
        · rw [if_neg h5, if_neg (show ¬ (13 ≤ j ∧ j < 13 + (k + 1)) by omega)]
          by_cases h6 : 19 ≤ j ∧ j < 19 + k
          · rw [if_pos h6, if_pos (by omega)]
          · rw [if_neg h6, if_neg (by omega)]
theorem sm2_0 : sm1 6 = sm2 0 := by
  funext j
  exact (if_neg (by omega)).symm
theorem sm2_s (k : Nat) : upd (sm2 k) (65 + k) (-1) = sm2 (k + 1) := by
  funext j
  unfold upd sm2
  by_cases h : j = 65 + k
  · rw [if_pos h, if_pos (by omega)]
  · rw [if_neg h]
    by_cases h2 : 65 ≤ j ∧ j < 65 + k
    · rw [if_pos h2, if_pos (by omega)]
    · rw [if_neg h2, if_neg (by omega)]
theorem D1 {A : Nat → Prop} {a : Nat} {e : va_E} (h : A a) : va_D A [(a, e)] := by
  refine ⟨fun i j p q hi hj _ => ?_, fun k q hk => ?_⟩
  · have h1 : i < 1 := (List.getElem?_eq_some_iff.mp hi).1
    have h2 : j < 1 := (List.getElem?_eq_some_iff.mp hj).1
    omega
  · have h1 : k < 1 := (List.getElem?_eq_some_iff.mp hk).1
    rw [show k = 0 by omega] at hk
    cases hk
    exact h
theorem va_P_cellQ {D : va_G} {cl : List vw_C} {ws : va_W} {H : Heap} {b a n : Nat} {cA : ClassId} {f g : Nat → Option Nat} (h : va_P D cl (ws.set b (a, .inl (cA, n, .inr (.inr (.inr (.inr f)))))) H) (hb : b < ws.length) (hfg : ∀ j, j < n → f j = g j) : va_P D cl (ws.set b (a, .inl (cA, n, .inr (.inr (.inr (.inr g)))))) H := by
  intro k q hk
  by_cases hkb : k = b
  · subst hkb
    rw [List.getElem?_set_self hb] at hk
    cases hk
    have h1 := h k _ (List.getElem?_set_self hb)
    have e : vp_cell cA (n, .inr (.inr (.inr (.inr f)))) = vp_cell cA (n, .inr (.inr (.inr (.inr g)))) := by
      rw [vp_cell_q, vp_cell_q]
      unfold arrV
      congr 1
      exact congrArg Array.ofFn (funext fun j => congrArg va_rf (hfg j.val j.isLt))
    show H[a]? = some (vp_cell _ _)
    rw [← e]
    exact h1
  · rw [List.getElem?_set_ne (Ne.symm hkb)] at hk
    exact h k q (by rw [List.getElem?_set_ne (Ne.symm hkb)]; exact hk)
section CON
variable {p : Program} {l : Launch} {e : Jvm.Env} {R : Room} {s : State} {m : MethodId} {args : Array Value} {below : List Frame} {meth : Method} {c : Code} {H H0 : Heap} {locs : List Loc} {cells slots : Nat} {Q : State → Prop} {D : va_G} {cI cL cQ : ClassId} {ws : va_W} {A : Nat → Prop} {cc : ByteArray} {pc : Nat} {ls : Array Slot} {rest : List Value}
theorem nw_I (hx : p.tables.exec = Jvm.exec) (hb : c.code = cc) (harr : (Cond.arrayClass .int).before args s = true) (hK : va_K D clz (tyz cI cL cQ) s) (hP : va_P D clz ws H) (hD : va_D A ws) (hS : va_S A H0 H locs) (hA : ∀ q, H0.size ≤ q → A q) (f : Nat → Int32) (hf : f = fun _ => 0) {n : Int32} {N' : Nat} (hn : ¬ n < 0) (hN : n.toNatClampNeg = N') (hbytes : N' * 4 ≤ 536870912) (hcells : cells + 1 ≤ R.cells) (hslots : slots + N' ≤ R.slots) (hdg : decode cc pc = .ok (.newarray .int, 2))
    (kk : ∀ (q : Nat) (H1 : Heap), va_P D clz (ws ++ [(q, .inl (cI, N', .inl f))]) H1 → va_D A (ws ++ [(q, .inl (cI, N', .inl f))]) → va_S A H0 H1 locs → W p l e R s m args below meth c H1 locs (cells + 1) (slots + N') Q (F0 m (pc + 2) ls (.ref q :: rest))) : W p l e R s m args below meth c H locs cells slots Q (F0 m pc ls (.int n :: rest)) := by
  subst hf
  refine va_newa (atype := .int) (ty := .int) (a0 := (N', .inl (fun _ => 0))) hx hb harr rfl hK hP hD hS hA (fun cA => by rw [vp_cell_i]; rfl) hn hN hbytes hcells hslots hdg (fun q cA H1 hK1 hP1 hD1 hS1 => ?_)
  have e1 : s.vm.findClass ("[" ++ FieldType.int.toString) = some cA := (hK1.2 3 (cA, .int) rfl).2
  have e2 : s.vm.findClass ("[" ++ FieldType.int.toString) = some cI := (hK.2 0 (cI, .int) rfl).2
  have e3 : cA = cI := Option.some.inj (e1.symm.trans e2)
  subst e3
  exact kk q H1 hP1 hD1 hS1
theorem nw_L (hx : p.tables.exec = Jvm.exec) (hb : c.code = cc) (harr : (Cond.arrayClass .long).before args s = true) (hK : va_K D clz (tyz cI cL cQ) s) (hP : va_P D clz ws H) (hD : va_D A ws) (hS : va_S A H0 H locs) (hA : ∀ q, H0.size ≤ q → A q) {n : Int32} {N' : Nat} (hn : ¬ n < 0) (hN : n.toNatClampNeg = N') (hbytes : N' * 8 ≤ 536870912) (hcells : cells + 1 ≤ R.cells) (hslots : slots + N' ≤ R.slots) (hdg : decode cc pc = .ok (.newarray .long, 2))
    (kk : ∀ (q : Nat) (H1 : Heap), va_P D clz (ws ++ [(q, .inl (cL, N', .inr (.inl (fun _ => 0))))]) H1 → va_D A (ws ++ [(q, .inl (cL, N', .inr (.inl (fun _ => 0))))]) → va_S A H0 H1 locs → W p l e R s m args below meth c H1 locs (cells + 1) (slots + N') Q (F0 m (pc + 2) ls (.ref q :: rest))) : W p l e R s m args below meth c H locs cells slots Q (F0 m pc ls (.int n :: rest)) := by
  refine va_newa (atype := .long) (ty := .long) (a0 := (N', .inr (.inl (fun _ => 0)))) hx hb harr rfl hK hP hD hS hA (fun cA => by rw [vp_cell_l]; rfl) hn hN hbytes hcells hslots hdg (fun q cA H1 hK1 hP1 hD1 hS1 => ?_)
  have e1 : s.vm.findClass ("[" ++ FieldType.long.toString) = some cA := (hK1.2 3 (cA, .long) rfl).2
  have e2 : s.vm.findClass ("[" ++ FieldType.long.toString) = some cL := (hK.2 1 (cL, .long) rfl).2
  have e3 : cA = cL := Option.some.inj (e1.symm.trans e2)
  subst e3
  exact kk q H1 hP1 hD1 hS1
theorem nw_Q {index : Nat} (hx : p.tables.exec = Jvm.exec) (hb : c.code = cc) (hown : s.vm.findClass RX4 = some m.cls) (hlink : (Cond.classLink RX4 index RX2).before args s = true) (hover : va_AO RX2 s) (hK : va_K D clz (tyz cI cL cQ) s) (hP : va_P D clz ws H) (hD : va_D A ws) (hS : va_S A H0 H locs) (hA : ∀ q, H0.size ≤ q → A q) {n : Int32} {N' : Nat} (hn : ¬ n < 0) (hN : n.toNatClampNeg = N') (hbytes : N' * 4 ≤ 536870912) (hcells : cells + 1 ≤ R.cells) (hslots : slots + N' ≤ R.slots) (hdg : decode cc pc = .ok (.anewarray index, 3))
    (kk : ∀ (q : Nat) (H1 : Heap), va_P D clz (ws ++ [(q, .inl (cQ, N', .inr (.inr (.inr (.inr (fun _ => none))))))]) H1 → va_D A (ws ++ [(q, .inl (cQ, N', .inr (.inr (.inr (.inr (fun _ => none))))))]) → va_S A H0 H1 locs → W p l e R s m args below meth c H1 locs (cells + 1) (slots + N') Q (F0 m (pc + 3) ls (.ref q :: rest))) : W p l e R s m args below meth c H locs cells slots Q (F0 m pc ls (.int n :: rest)) := by
  refine va_newq hx hb hown hlink hover hK hP hD hS hA hn hN hbytes hcells hslots hdg (fun q cA H1 hK1 hP1 hD1 hS1 => ?_)
  obtain ⟨_, _, _, _, _, e1⟩ := (hK1.2 3 (cA, .object RX2) rfl).2
  obtain ⟨_, _, _, _, _, e2⟩ := (hK.2 2 (cQ, .object RX2) rfl).2
  have e3 : cA = cQ := Option.some.inj (e1.symm.trans e2)
  subst e3
  exact kk q H1 hP1 hD1 hS1
end CON
def rf9 (q1 q2 q3 q4 q5 q6 q7 q8 q9 : Nat) : Nat → Nat := fun k => match k with
  | 1 => q1 | 2 => q2 | 3 => q3 | 4 => q4 | 5 => q5 | 6 => q6 | 7 => q7 | 8 => q8 | _ => q9
def wReef (cI : ClassId) (a : Nat) (r : Nat → Nat) : va_W := [(a, .inr (0, [.ref (r 1), .ref (r 2), .ref (r 3), .ref (r 4), .ref (r 5), .ref (r 6), .ref (r 7), .ref (r 8), .ref (r 9), .int 0, .int 0, .int 1])), (r 1, .inl (cI, 10, .inl (fun _ => 0))), (r 2, .inl (cI, 6, .inl (fil 12 6))), (r 3, .inl (cI, 6, .inl (fil 3 6))), (r 4, .inl (cI, 8, .inl (fun _ => 0))), (r 5, .inl (cI, 8, .inl (fun _ => 0))), (r 6, .inl (cI, 8, .inl (fun _ => 0))), (r 7, .inl (cI, 8, .inl (fun _ => 0))), (r 8, .inl (cI, 8, .inl (fun _ => 0))), (r 9, .inl (cI, 10, .inl (fil (-1) 10)))]
def wSheet (cI : ClassId) (a : Nat) (r : Nat → Nat) : va_W := [(a, .inr (1, [.ref (r 1), .int 0, .int 0])), (r 1, .inl (cI, 40, .inl (fun _ => 0)))]
def wTape (cI : ClassId) (a : Nat) (r : Nat → Nat) : va_W := [(a, .inr (2, [.ref (r 1), .int 0, .int 0, .int 0, .int 0, .int 0])), (r 1, .inl (cI, 120, .inl (fun _ => 0)))]
def wMo (cI : ClassId) (a : Nat) (r : Nat → Nat) : va_W := [(a, .inr (4, [.ref (r 1), .ref (r 2), .ref (r 3), .ref (r 4), .int 0, .ref (r 5), .ref (r 6), .int 0, .ref (r 7), .ref (r 8), .ref (r 9), .int 0, .int 0, .int 0, .int 0, .int 0])), (r 1, .inl (cI, 75, .inl (sm2 10))), (r 2, .inl (cI, 75, .inl (fun _ => 0))), (r 3, .inl (cI, 75, .inl (fun _ => 0))), (r 4, .inl (cI, 75, .inl (fun _ => 0))), (r 5, .inl (cI, 8, .inl (fun _ => 0))), (r 6, .inl (cI, 120, .inl (fun _ => 0))), (r 7, .inl (cI, 4, .inl (fil (-1) 4))), (r 8, .inl (cI, 4, .inl (fun _ => 0))), (r 9, .inl (cI, 160, .inl (fun _ => 0)))]
set_option maxHeartbeats 4000000 in
set_option maxRecDepth 100000 in
theorem k_iSheet {l : Launch} {D : va_G} {cI cL cQ : ClassId} {a sz : Nat} : Met l yX2_init (wJ yX2_init cX2_init 1 none) ({ frames := 1, cells := 1, slots := 40, locals := 12 }) (va_Pc [.ref a] (fun U => U.heap.size = sz ∧ va_P D clz [(a, .inr (1, [.null, .int 0, .int 0]))] U.heap ∧ va_K D clz (tyz cI cL cQ) U)) (va_Qv (fun _ : Nat → Nat => True) (fun r t => va_P D clz (wSheet cI a r) t.heap ∧ va_D (va_A [(a, .inr (1, [.null, .int 0, .int 0]))] sz) (wSheet cI a r)) (va_A [(a, .inr (1, [.null, .int 0, .int 0]))] sz)) 1 40 (va_A [(a, .inr (1, [.null, .int 0, .int 0]))] sz) := by
  refine Met.ofW (cc := cX2_init) (maxL := 1) (ret := none) (by decide) rfl ?_
  intro p e s m args below meth c s₁ B hml hv
  obtain ⟨rfl, hsz, hP, hK⟩ := hv
  have hx := B.exec
  have hb := B.bytes
  have hr := B.returns
  have hlocks := B.notSynchronized
  have hin : meth.name = "<init>" := (name_of_methodNamed B.named B.method).1
  have hown : s.vm.findClass RX2 = some m.cls := findClass_of_methodNamed B.named
  have hts := atoms_spec (ws := wJ yX2_init cX2_init 1 none) B.pre
  have hG : ∀ W ∈ Gz, W.before (([.ref a] : List Value).toArray) s = true := fun W hW => hts W (List.mem_cons_of_mem _ hW)
  subst hsz
  have hD : va_D (va_A [(a, .inr (1, [.null, .int 0, .int 0]))] s.heap.size) [(a, .inr (1, [.null, .int 0, .int 0]))] := D1 (Or.inl ⟨0, _, rfl⟩)
  generalize hAe : va_A [(a, .inr (1, [.null, .int 0, .int 0]))] s.heap.size = A at hD ⊢
  have hA : ∀ q : Nat, s.heap.size ≤ q → A q := fun q h => by rw [← hAe]; exact Or.inr h
  have hS : va_S A s.heap s.heap [] := va_S.rf
  have hl := lv_entry ([.ref a]) (n := 1) (Nat.le_of_ble_eq_true rfl)
  rw [lg_entry_eq]
  generalize (lg_sl ([.ref a]) ++ List.replicate (1 - (lg_sl ([.ref a])).length) Slot.unset).toArray = ls at hl ⊢
  have hl : lv_has ls 1 [(0, .ref a)] := hl
  refine lv_aload_n hx hb dX2_init_0 rfl (lv_at hl 0 rfl) ?_
  refine W.objInit hx hb hown (hG _ ci_ol_RX2) (hG _ ci_obj_i) (hG _ ci_obj_c) rfl (by rw [hml]; exact hl.1) rfl dX2_init_1 (Nat.le_of_ble_eq_true rfl) (Nat.le_of_ble_eq_true rfl) ?_
  refine W.eq (g2 := F0 m 4 ls []) rfl ?_
  refine lv_aload_n hx hb dX2_init_4 rfl (lv_at hl 0 rfl) ?_
  refine lv_bipush (v := 40) hx hb dX2_init_5 (by decide) ?_
  refine nw_I hx hb (hG _ ci_ar_int) hK hP hD hS hA (fun _ => 0) rfl (N' := 40) (by decide) (by decide) (Nat.le_of_ble_eq_true rfl) (show 1 ≤ 1 by decide) (show 40 ≤ 40 by decide) dX2_init_7 (fun q1 H hP hD hS => ?_)
  have hP : va_P D clz [(a, .inr (1, [.null, .int 0, .int 0])), (q1, .inl (cI, 40, .inl (fun _ => 0)))] H := hP
  have hD : va_D A [(a, .inr (1, [.null, .int 0, .int 0])), (q1, .inl (cI, 40, .inl (fun _ => 0)))] := hD
  refine W.widen (k := 1) (n := 40) (by omega) (by omega) ?_
  refine va_putF (D := D) (ci := 1) (v := .ref q1) (ty := .array .int) (C := RX2) (T := TX2) (N := 3) hx hb hG (uw_ok (c := 1) (by omega)) tyX2 tyX2_ok nmX2 hown hK hP hD hS 0 rfl rfl 0 (by decide) (hG _ ci_f_RX2_9) (fun _ h9 => h9) rfl hin rfl (by decide +kernel) rfl rfl (Nat.le_of_ble_eq_true rfl) dX2_init_9 (fun H locs hP hD hS => ?_)
  have hP : va_P D clz [(a, .inr (1, [.ref q1, .int 0, .int 0])), (q1, .inl (cI, 40, .inl (fun _ => 0)))] H := hP
  have hD : va_D A [(a, .inr (1, [.ref q1, .int 0, .int 0])), (q1, .inl (cI, 40, .inl (fun _ => 0)))] := hD
  refine lv_aload_n hx hb dX2_init_12 rfl (lv_at hl 0 rfl) ?_
  refine lv_iconst (v := 0) hx hb dX2_init_13 (by decide) ?_
  refine va_put (D := D) (ci := 1) (v := .int 0) (ty := .int) (C := RX2) (T := TX2) (N := 3) hx hb hG (uw_ok (c := 1) (by omega)) tyX2 tyX2_ok nmX2 hown hK hP hD hS 0 rfl rfl 1 (by decide) (hG _ ci_f_RX2_15) (fun _ h9 => h9) rfl (by decide +kernel) rfl rfl (Nat.le_of_ble_eq_true rfl) dX2_init_14 (fun H locs hP hD hS => ?_)
  have hP : va_P D clz [(a, .inr (1, [.ref q1, .int 0, .int 0])), (q1, .inl (cI, 40, .inl (fun _ => 0)))] H := hP
  have hD : va_D A [(a, .inr (1, [.ref q1, .int 0, .int 0])), (q1, .inl (cI, 40, .inl (fun _ => 0)))] := hD
  refine lv_aload_n hx hb dX2_init_17 rfl (lv_at hl 0 rfl) ?_
  refine lv_iconst (v := 0) hx hb dX2_init_18 (by decide) ?_
  refine va_put (D := D) (ci := 1) (v := .int 0) (ty := .int) (C := RX2) (T := TX2) (N := 3) hx hb hG (uw_ok (c := 1) (by omega)) tyX2 tyX2_ok nmX2 hown hK hP hD hS 0 rfl rfl 2 (by decide) (hG _ ci_f_RX2_19) (fun _ h9 => h9) rfl (by decide +kernel) rfl rfl (Nat.le_of_ble_eq_true rfl) dX2_init_19 (fun H locs hP hD hS => ?_)
  have hP : va_P D clz [(a, .inr (1, [.ref q1, .int 0, .int 0])), (q1, .inl (cI, 40, .inl (fun _ => 0)))] H := hP
  have hD : va_D A [(a, .inr (1, [.ref q1, .int 0, .int 0])), (q1, .inl (cI, 40, .inl (fun _ => 0)))] := hD
  exact W.vret hx hb hr (fun t ht hW => ⟨⟨(fun _ => q1), rfl, trivial, by rw [ht]; exact hP, hD⟩, hS.F ht⟩) hS.2.2 dX2_init_22
set_option maxHeartbeats 4000000 in
set_option maxRecDepth 100000 in
theorem k_iTape {l : Launch} {D : va_G} {cI cL cQ : ClassId} {a sz : Nat} : Met l yX3_init (wJ yX3_init cX3_init 1 none) ({ frames := 1, cells := 1, slots := 120, locals := 12 }) (va_Pc [.ref a] (fun U => U.heap.size = sz ∧ va_P D clz [(a, .inr (2, [.null, .int 0, .int 0, .int 0, .int 0, .int 0]))] U.heap ∧ va_K D clz (tyz cI cL cQ) U)) (va_Qv (fun _ : Nat → Nat => True) (fun r t => va_P D clz (wTape cI a r) t.heap ∧ va_D (va_A [(a, .inr (2, [.null, .int 0, .int 0, .int 0, .int 0, .int 0]))] sz) (wTape cI a r)) (va_A [(a, .inr (2, [.null, .int 0, .int 0, .int 0, .int 0, .int 0]))] sz)) 1 120 (va_A [(a, .inr (2, [.null, .int 0, .int 0, .int 0, .int 0, .int 0]))] sz) := by
  refine Met.ofW (cc := cX3_init) (maxL := 1) (ret := none) (by decide) rfl ?_
  intro p e s m args below meth c s₁ B hml hv
  obtain ⟨rfl, hsz, hP, hK⟩ := hv
  have hx := B.exec
  have hb := B.bytes
  have hr := B.returns
  have hlocks := B.notSynchronized
  have hin : meth.name = "<init>" := (name_of_methodNamed B.named B.method).1
  have hown : s.vm.findClass RX3 = some m.cls := findClass_of_methodNamed B.named
  have hts := atoms_spec (ws := wJ yX3_init cX3_init 1 none) B.pre
  have hG : ∀ W ∈ Gz, W.before (([.ref a] : List Value).toArray) s = true := fun W hW => hts W (List.mem_cons_of_mem _ hW)
  subst hsz
  have hD : va_D (va_A [(a, .inr (2, [.null, .int 0, .int 0, .int 0, .int 0, .int 0]))] s.heap.size) [(a, .inr (2, [.null, .int 0, .int 0, .int 0, .int 0, .int 0]))] := D1 (Or.inl ⟨0, _, rfl⟩)
  generalize hAe : va_A [(a, .inr (2, [.null, .int 0, .int 0, .int 0, .int 0, .int 0]))] s.heap.size = A at hD ⊢
  have hA : ∀ q : Nat, s.heap.size ≤ q → A q := fun q h => by rw [← hAe]; exact Or.inr h
  have hS : va_S A s.heap s.heap [] := va_S.rf
  have hl := lv_entry ([.ref a]) (n := 1) (Nat.le_of_ble_eq_true rfl)
  rw [lg_entry_eq]
  generalize (lg_sl ([.ref a]) ++ List.replicate (1 - (lg_sl ([.ref a])).length) Slot.unset).toArray = ls at hl ⊢
  have hl : lv_has ls 1 [(0, .ref a)] := hl
  refine lv_aload_n hx hb dX3_init_0 rfl (lv_at hl 0 rfl) ?_
  refine W.objInit hx hb hown (hG _ ci_ol_RX3) (hG _ ci_obj_i) (hG _ ci_obj_c) rfl (by rw [hml]; exact hl.1) rfl dX3_init_1 (Nat.le_of_ble_eq_true rfl) (Nat.le_of_ble_eq_true rfl) ?_
  refine W.eq (g2 := F0 m 4 ls []) rfl ?_
  refine lv_aload_n hx hb dX3_init_4 rfl (lv_at hl 0 rfl) ?_
  refine lv_bipush (v := 120) hx hb dX3_init_5 (by decide) ?_
  refine nw_I hx hb (hG _ ci_ar_int) hK hP hD hS hA (fun _ => 0) rfl (N' := 120) (by decide) (by decide) (Nat.le_of_ble_eq_true rfl) (show 1 ≤ 1 by decide) (show 120 ≤ 120 by decide) dX3_init_7 (fun q1 H hP hD hS => ?_)
  have hP : va_P D clz [(a, .inr (2, [.null, .int 0, .int 0, .int 0, .int 0, .int 0])), (q1, .inl (cI, 120, .inl (fun _ => 0)))] H := hP
  have hD : va_D A [(a, .inr (2, [.null, .int 0, .int 0, .int 0, .int 0, .int 0])), (q1, .inl (cI, 120, .inl (fun _ => 0)))] := hD
  refine W.widen (k := 1) (n := 120) (by omega) (by omega) ?_
  refine va_putF (D := D) (ci := 2) (v := .ref q1) (ty := .array .int) (C := RX3) (T := TX3) (N := 6) hx hb hG (uw_ok (c := 2) (by omega)) tyX3 tyX3_ok nmX3 hown hK hP hD hS 0 rfl rfl 0 (by decide) (hG _ ci_f_RX3_9) (fun _ h9 => h9) rfl hin rfl (by decide +kernel) rfl rfl (Nat.le_of_ble_eq_true rfl) dX3_init_9 (fun H locs hP hD hS => ?_)
  have hP : va_P D clz [(a, .inr (2, [.ref q1, .int 0, .int 0, .int 0, .int 0, .int 0])), (q1, .inl (cI, 120, .inl (fun _ => 0)))] H := hP
  have hD : va_D A [(a, .inr (2, [.ref q1, .int 0, .int 0, .int 0, .int 0, .int 0])), (q1, .inl (cI, 120, .inl (fun _ => 0)))] := hD
  refine lv_aload_n hx hb dX3_init_12 rfl (lv_at hl 0 rfl) ?_
  refine lv_iconst (v := 0) hx hb dX3_init_13 (by decide) ?_
  refine va_put (D := D) (ci := 2) (v := .int 0) (ty := .int) (C := RX3) (T := TX3) (N := 6) hx hb hG (uw_ok (c := 2) (by omega)) tyX3 tyX3_ok nmX3 hown hK hP hD hS 0 rfl rfl 1 (by decide) (hG _ ci_f_RX3_15) (fun _ h9 => h9) rfl (by decide +kernel) rfl rfl (Nat.le_of_ble_eq_true rfl) dX3_init_14 (fun H locs hP hD hS => ?_)
  have hP : va_P D clz [(a, .inr (2, [.ref q1, .int 0, .int 0, .int 0, .int 0, .int 0])), (q1, .inl (cI, 120, .inl (fun _ => 0)))] H := hP
  have hD : va_D A [(a, .inr (2, [.ref q1, .int 0, .int 0, .int 0, .int 0, .int 0])), (q1, .inl (cI, 120, .inl (fun _ => 0)))] := hD
  refine lv_aload_n hx hb dX3_init_17 rfl (lv_at hl 0 rfl) ?_
  refine lv_iconst (v := 0) hx hb dX3_init_18 (by decide) ?_
  refine va_put (D := D) (ci := 2) (v := .int 0) (ty := .int) (C := RX3) (T := TX3) (N := 6) hx hb hG (uw_ok (c := 2) (by omega)) tyX3 tyX3_ok nmX3 hown hK hP hD hS 0 rfl rfl 2 (by decide) (hG _ ci_f_RX3_19) (fun _ h9 => h9) rfl (by decide +kernel) rfl rfl (Nat.le_of_ble_eq_true rfl) dX3_init_19 (fun H locs hP hD hS => ?_)
  have hP : va_P D clz [(a, .inr (2, [.ref q1, .int 0, .int 0, .int 0, .int 0, .int 0])), (q1, .inl (cI, 120, .inl (fun _ => 0)))] H := hP
  have hD : va_D A [(a, .inr (2, [.ref q1, .int 0, .int 0, .int 0, .int 0, .int 0])), (q1, .inl (cI, 120, .inl (fun _ => 0)))] := hD
  refine lv_aload_n hx hb dX3_init_22 rfl (lv_at hl 0 rfl) ?_
  refine lv_iconst (v := 0) hx hb dX3_init_23 (by decide) ?_
  refine va_put (D := D) (ci := 2) (v := .int 0) (ty := .int) (C := RX3) (T := TX3) (N := 6) hx hb hG (uw_ok (c := 2) (by omega)) tyX3 tyX3_ok nmX3 hown hK hP hD hS 0 rfl rfl 3 (by decide) (hG _ ci_f_RX3_22) (fun _ h9 => h9) rfl (by decide +kernel) rfl rfl (Nat.le_of_ble_eq_true rfl) dX3_init_24 (fun H locs hP hD hS => ?_)
  have hP : va_P D clz [(a, .inr (2, [.ref q1, .int 0, .int 0, .int 0, .int 0, .int 0])), (q1, .inl (cI, 120, .inl (fun _ => 0)))] H := hP
  have hD : va_D A [(a, .inr (2, [.ref q1, .int 0, .int 0, .int 0, .int 0, .int 0])), (q1, .inl (cI, 120, .inl (fun _ => 0)))] := hD
  refine lv_aload_n hx hb dX3_init_27 rfl (lv_at hl 0 rfl) ?_
  refine lv_iconst (v := 0) hx hb dX3_init_28 (by decide) ?_
  refine va_put (D := D) (ci := 2) (v := .int 0) (ty := .int) (C := RX3) (T := TX3) (N := 6) hx hb hG (uw_ok (c := 2) (by omega)) tyX3 tyX3_ok nmX3 hown hK hP hD hS 0 rfl rfl 4 (by decide) (hG _ ci_f_RX3_25) (fun _ h9 => h9) rfl (by decide +kernel) rfl rfl (Nat.le_of_ble_eq_true rfl) dX3_init_29 (fun H locs hP hD hS => ?_)
  have hP : va_P D clz [(a, .inr (2, [.ref q1, .int 0, .int 0, .int 0, .int 0, .int 0])), (q1, .inl (cI, 120, .inl (fun _ => 0)))] H := hP
  have hD : va_D A [(a, .inr (2, [.ref q1, .int 0, .int 0, .int 0, .int 0, .int 0])), (q1, .inl (cI, 120, .inl (fun _ => 0)))] := hD
  refine lv_aload_n hx hb dX3_init_32 rfl (lv_at hl 0 rfl) ?_
  refine lv_iconst (v := 0) hx hb dX3_init_33 (by decide) ?_
  refine va_put (D := D) (ci := 2) (v := .int 0) (ty := .int) (C := RX3) (T := TX3) (N := 6) hx hb hG (uw_ok (c := 2) (by omega)) tyX3 tyX3_ok nmX3 hown hK hP hD hS 0 rfl rfl 5 (by decide) (hG _ ci_f_RX3_28) (fun _ h9 => h9) rfl (by decide +kernel) rfl rfl (Nat.le_of_ble_eq_true rfl) dX3_init_34 (fun H locs hP hD hS => ?_)
  have hP : va_P D clz [(a, .inr (2, [.ref q1, .int 0, .int 0, .int 0, .int 0, .int 0])), (q1, .inl (cI, 120, .inl (fun _ => 0)))] H := hP
  have hD : va_D A [(a, .inr (2, [.ref q1, .int 0, .int 0, .int 0, .int 0, .int 0])), (q1, .inl (cI, 120, .inl (fun _ => 0)))] := hD
  exact W.vret hx hb hr (fun t ht hW => ⟨⟨(fun _ => q1), rfl, trivial, by rw [ht]; exact hP, hD⟩, hS.F ht⟩) hS.2.2 dX3_init_37
set_option maxHeartbeats 4000000 in
set_option maxRecDepth 100000 in
theorem k_iReef {l : Launch} {D : va_G} {cI cL cQ : ClassId} {a sz : Nat} : Met l yX1_init (wJ yX1_init cX1_init 2 none) ({ frames := 1, cells := 9, slots := 72, locals := 12 }) (va_Pc [.ref a] (fun U => U.heap.size = sz ∧ va_P D clz [(a, .inr (0, [.null, .null, .null, .null, .null, .null, .null, .null, .null, .int 0, .int 0, .int 0]))] U.heap ∧ va_K D clz (tyz cI cL cQ) U)) (va_Qv (fun _ : Nat → Nat => True) (fun r t => va_P D clz (wReef cI a r) t.heap ∧ va_D (va_A [(a, .inr (0, [.null, .null, .null, .null, .null, .null, .null, .null, .null, .int 0, .int 0, .int 0]))] sz) (wReef cI a r)) (va_A [(a, .inr (0, [.null, .null, .null, .null, .null, .null, .null, .null, .null, .int 0, .int 0, .int 0]))] sz)) 9 72 (va_A [(a, .inr (0, [.null, .null, .null, .null, .null, .null, .null, .null, .null, .int 0, .int 0, .int 0]))] sz) := by
  refine Met.ofW (cc := cX1_init) (maxL := 2) (ret := none) (by decide) rfl ?_
  intro p e s m args below meth c s₁ B hml hv
  obtain ⟨rfl, hsz, hP, hK⟩ := hv
  have hx := B.exec
  have hb := B.bytes
  have hr := B.returns
  have hlocks := B.notSynchronized
  have hin : meth.name = "<init>" := (name_of_methodNamed B.named B.method).1
  have hown : s.vm.findClass RX1 = some m.cls := findClass_of_methodNamed B.named
  have hts := atoms_spec (ws := wJ yX1_init cX1_init 2 none) B.pre
  have hG : ∀ W ∈ Gz, W.before (([.ref a] : List Value).toArray) s = true := fun W hW => hts W (List.mem_cons_of_mem _ hW)
  subst hsz
  have hD : va_D (va_A [(a, .inr (0, [.null, .null, .null, .null, .null, .null, .null, .null, .null, .int 0, .int 0, .int 0]))] s.heap.size) [(a, .inr (0, [.null, .null, .null, .null, .null, .null, .null, .null, .null, .int 0, .int 0, .int 0]))] := D1 (Or.inl ⟨0, _, rfl⟩)
  generalize hAe : va_A [(a, .inr (0, [.null, .null, .null, .null, .null, .null, .null, .null, .null, .int 0, .int 0, .int 0]))] s.heap.size = A at hD ⊢
  have hA : ∀ q : Nat, s.heap.size ≤ q → A q := fun q h => by rw [← hAe]; exact Or.inr h
  have hS : va_S A s.heap s.heap [] := va_S.rf
  have hl := lv_entry ([.ref a]) (n := 2) (Nat.le_of_ble_eq_true rfl)
  rw [lg_entry_eq]
  generalize (lg_sl ([.ref a]) ++ List.replicate (2 - (lg_sl ([.ref a])).length) Slot.unset).toArray = ls at hl ⊢
  have hl : lv_has ls 2 [(0, .ref a)] := hl
  refine lv_aload_n hx hb dX1_init_0 rfl (lv_at hl 0 rfl) ?_
  refine W.objInit hx hb hown (hG _ ci_ol_RX1) (hG _ ci_obj_i) (hG _ ci_obj_c) rfl (by rw [hml]; exact hl.1) rfl dX1_init_1 (Nat.le_of_ble_eq_true rfl) (Nat.le_of_ble_eq_true rfl) ?_
  refine W.eq (g2 := F0 m 4 ls []) rfl ?_
  refine lv_aload_n hx hb dX1_init_4 rfl (lv_at hl 0 rfl) ?_
  refine lv_bipush (v := 10) hx hb dX1_init_5 (by decide) ?_
  refine nw_I hx hb (hG _ ci_ar_int) hK hP hD hS hA (fun _ => 0) rfl (N' := 10) (by decide) (by decide) (Nat.le_of_ble_eq_true rfl) (show 1 ≤ 9 by decide) (show 10 ≤ 72 by decide) dX1_init_7 (fun q1 H hP hD hS => ?_)
  have hP : va_P D clz [(a, .inr (0, [.null, .null, .null, .null, .null, .null, .null, .null, .null, .int 0, .int 0, .int 0])), (q1, .inl (cI, 10, .inl (fun _ => 0)))] H := hP
  have hD : va_D A [(a, .inr (0, [.null, .null, .null, .null, .null, .null, .null, .null, .null, .int 0, .int 0, .int 0])), (q1, .inl (cI, 10, .inl (fun _ => 0)))] := hD
  refine W.widen (k := 1) (n := 10) (by omega) (by omega) ?_
  refine va_putF (D := D) (ci := 0) (v := .ref q1) (ty := .array .int) (C := RX1) (T := TX1) (N := 12) hx hb hG (uw_ok (c := 0) (by omega)) tyX1 tyX1_ok nmX1 hown hK hP hD hS 0 rfl rfl 0 (by decide) (hG _ ci_f_RX1_9) (fun _ h9 => h9) rfl hin rfl (by decide +kernel) rfl rfl (Nat.le_of_ble_eq_true rfl) dX1_init_9 (fun H locs hP hD hS => ?_)
  have hP : va_P D clz [(a, .inr (0, [.ref q1, .null, .null, .null, .null, .null, .null, .null, .null, .int 0, .int 0, .int 0])), (q1, .inl (cI, 10, .inl (fun _ => 0)))] H := hP
  have hD : va_D A [(a, .inr (0, [.ref q1, .null, .null, .null, .null, .null, .null, .null, .null, .int 0, .int 0, .int 0])), (q1, .inl (cI, 10, .inl (fun _ => 0)))] := hD
  refine lv_aload_n hx hb dX1_init_12 rfl (lv_at hl 0 rfl) ?_
  refine lv_bipush (v := 6) hx hb dX1_init_13 (by decide) ?_
  refine nw_I hx hb (hG _ ci_ar_int) hK hP hD hS hA (fil 12 0) (fil_0 12) (N' := 6) (by decide) (by decide) (Nat.le_of_ble_eq_true rfl) (show 2 ≤ 9 by decide) (show 16 ≤ 72 by decide) dX1_init_15 (fun q2 H hP hD hS => ?_)
  have hP : va_P D clz [(a, .inr (0, [.ref q1, .null, .null, .null, .null, .null, .null, .null, .null, .int 0, .int 0, .int 0])), (q1, .inl (cI, 10, .inl (fun _ => 0))), (q2, .inl (cI, 6, .inl (fil 12 0)))] H := hP
  have hD : va_D A [(a, .inr (0, [.ref q1, .null, .null, .null, .null, .null, .null, .null, .null, .int 0, .int 0, .int 0])), (q1, .inl (cI, 10, .inl (fun _ => 0))), (q2, .inl (cI, 6, .inl (fil 12 0)))] := hD
  refine W.widen (k := 2) (n := 16) (by omega) (by omega) ?_
  refine va_putF (D := D) (ci := 0) (v := .ref q2) (ty := .array .int) (C := RX1) (T := TX1) (N := 12) hx hb hG (uw_ok (c := 0) (by omega)) tyX1 tyX1_ok nmX1 hown hK hP hD hS 0 rfl rfl 1 (by decide) (hG _ ci_f_RX1_15) (fun _ h9 => h9) rfl hin rfl (by decide +kernel) rfl rfl (Nat.le_of_ble_eq_true rfl) dX1_init_17 (fun H locs hP hD hS => ?_)
  have hP : va_P D clz [(a, .inr (0, [.ref q1, .ref q2, .null, .null, .null, .null, .null, .null, .null, .int 0, .int 0, .int 0])), (q1, .inl (cI, 10, .inl (fun _ => 0))), (q2, .inl (cI, 6, .inl (fil 12 0)))] H := hP
  have hD : va_D A [(a, .inr (0, [.ref q1, .ref q2, .null, .null, .null, .null, .null, .null, .null, .int 0, .int 0, .int 0])), (q1, .inl (cI, 10, .inl (fun _ => 0))), (q2, .inl (cI, 6, .inl (fil 12 0)))] := hD
  refine lv_aload_n hx hb dX1_init_20 rfl (lv_at hl 0 rfl) ?_
  refine lv_bipush (v := 6) hx hb dX1_init_21 (by decide) ?_
  refine nw_I hx hb (hG _ ci_ar_int) hK hP hD hS hA (fil 3 0) (fil_0 3) (N' := 6) (by decide) (by decide) (Nat.le_of_ble_eq_true rfl) (show 3 ≤ 9 by decide) (show 22 ≤ 72 by decide) dX1_init_23 (fun q3 H hP hD hS => ?_)
  have hP : va_P D clz [(a, .inr (0, [.ref q1, .ref q2, .null, .null, .null, .null, .null, .null, .null, .int 0, .int 0, .int 0])), (q1, .inl (cI, 10, .inl (fun _ => 0))), (q2, .inl (cI, 6, .inl (fil 12 0))), (q3, .inl (cI, 6, .inl (fil 3 0)))] H := hP
  have hD : va_D A [(a, .inr (0, [.ref q1, .ref q2, .null, .null, .null, .null, .null, .null, .null, .int 0, .int 0, .int 0])), (q1, .inl (cI, 10, .inl (fun _ => 0))), (q2, .inl (cI, 6, .inl (fil 12 0))), (q3, .inl (cI, 6, .inl (fil 3 0)))] := hD
  refine W.widen (k := 3) (n := 22) (by omega) (by omega) ?_
  refine va_putF (D := D) (ci := 0) (v := .ref q3) (ty := .array .int) (C := RX1) (T := TX1) (N := 12) hx hb hG (uw_ok (c := 0) (by omega)) tyX1 tyX1_ok nmX1 hown hK hP hD hS 0 rfl rfl 2 (by decide) (hG _ ci_f_RX1_18) (fun _ h9 => h9) rfl hin rfl (by decide +kernel) rfl rfl (Nat.le_of_ble_eq_true rfl) dX1_init_25 (fun H locs hP hD hS => ?_)
  have hP : va_P D clz [(a, .inr (0, [.ref q1, .ref q2, .ref q3, .null, .null, .null, .null, .null, .null, .int 0, .int 0, .int 0])), (q1, .inl (cI, 10, .inl (fun _ => 0))), (q2, .inl (cI, 6, .inl (fil 12 0))), (q3, .inl (cI, 6, .inl (fil 3 0)))] H := hP
  have hD : va_D A [(a, .inr (0, [.ref q1, .ref q2, .ref q3, .null, .null, .null, .null, .null, .null, .int 0, .int 0, .int 0])), (q1, .inl (cI, 10, .inl (fun _ => 0))), (q2, .inl (cI, 6, .inl (fil 12 0))), (q3, .inl (cI, 6, .inl (fil 3 0)))] := hD
  refine lv_aload_n hx hb dX1_init_28 rfl (lv_at hl 0 rfl) ?_
  refine lv_bipush (v := 8) hx hb dX1_init_29 (by decide) ?_
  refine nw_I hx hb (hG _ ci_ar_int) hK hP hD hS hA (fun _ => 0) rfl (N' := 8) (by decide) (by decide) (Nat.le_of_ble_eq_true rfl) (show 4 ≤ 9 by decide) (show 30 ≤ 72 by decide) dX1_init_31 (fun q4 H hP hD hS => ?_)
  have hP : va_P D clz [(a, .inr (0, [.ref q1, .ref q2, .ref q3, .null, .null, .null, .null, .null, .null, .int 0, .int 0, .int 0])), (q1, .inl (cI, 10, .inl (fun _ => 0))), (q2, .inl (cI, 6, .inl (fil 12 0))), (q3, .inl (cI, 6, .inl (fil 3 0))), (q4, .inl (cI, 8, .inl (fun _ => 0)))] H := hP
  have hD : va_D A [(a, .inr (0, [.ref q1, .ref q2, .ref q3, .null, .null, .null, .null, .null, .null, .int 0, .int 0, .int 0])), (q1, .inl (cI, 10, .inl (fun _ => 0))), (q2, .inl (cI, 6, .inl (fil 12 0))), (q3, .inl (cI, 6, .inl (fil 3 0))), (q4, .inl (cI, 8, .inl (fun _ => 0)))] := hD
  refine W.widen (k := 4) (n := 30) (by omega) (by omega) ?_
  refine va_putF (D := D) (ci := 0) (v := .ref q4) (ty := .array .int) (C := RX1) (T := TX1) (N := 12) hx hb hG (uw_ok (c := 0) (by omega)) tyX1 tyX1_ok nmX1 hown hK hP hD hS 0 rfl rfl 3 (by decide) (hG _ ci_f_RX1_21) (fun _ h9 => h9) rfl hin rfl (by decide +kernel) rfl rfl (Nat.le_of_ble_eq_true rfl) dX1_init_33 (fun H locs hP hD hS => ?_)
  have hP : va_P D clz [(a, .inr (0, [.ref q1, .ref q2, .ref q3, .ref q4, .null, .null, .null, .null, .null, .int 0, .int 0, .int 0])), (q1, .inl (cI, 10, .inl (fun _ => 0))), (q2, .inl (cI, 6, .inl (fil 12 0))), (q3, .inl (cI, 6, .inl (fil 3 0))), (q4, .inl (cI, 8, .inl (fun _ => 0)))] H := hP
  have hD : va_D A [(a, .inr (0, [.ref q1, .ref q2, .ref q3, .ref q4, .null, .null, .null, .null, .null, .int 0, .int 0, .int 0])), (q1, .inl (cI, 10, .inl (fun _ => 0))), (q2, .inl (cI, 6, .inl (fil 12 0))), (q3, .inl (cI, 6, .inl (fil 3 0))), (q4, .inl (cI, 8, .inl (fun _ => 0)))] := hD
  refine lv_aload_n hx hb dX1_init_36 rfl (lv_at hl 0 rfl) ?_
  refine lv_bipush (v := 8) hx hb dX1_init_37 (by decide) ?_
  refine nw_I hx hb (hG _ ci_ar_int) hK hP hD hS hA (fun _ => 0) rfl (N' := 8) (by decide) (by decide) (Nat.le_of_ble_eq_true rfl) (show 5 ≤ 9 by decide) (show 38 ≤ 72 by decide) dX1_init_39 (fun q5 H hP hD hS => ?_)
  have hP : va_P D clz [(a, .inr (0, [.ref q1, .ref q2, .ref q3, .ref q4, .null, .null, .null, .null, .null, .int 0, .int 0, .int 0])), (q1, .inl (cI, 10, .inl (fun _ => 0))), (q2, .inl (cI, 6, .inl (fil 12 0))), (q3, .inl (cI, 6, .inl (fil 3 0))), (q4, .inl (cI, 8, .inl (fun _ => 0))), (q5, .inl (cI, 8, .inl (fun _ => 0)))] H := hP
  have hD : va_D A [(a, .inr (0, [.ref q1, .ref q2, .ref q3, .ref q4, .null, .null, .null, .null, .null, .int 0, .int 0, .int 0])), (q1, .inl (cI, 10, .inl (fun _ => 0))), (q2, .inl (cI, 6, .inl (fil 12 0))), (q3, .inl (cI, 6, .inl (fil 3 0))), (q4, .inl (cI, 8, .inl (fun _ => 0))), (q5, .inl (cI, 8, .inl (fun _ => 0)))] := hD
  refine W.widen (k := 5) (n := 38) (by omega) (by omega) ?_
  refine va_putF (D := D) (ci := 0) (v := .ref q5) (ty := .array .int) (C := RX1) (T := TX1) (N := 12) hx hb hG (uw_ok (c := 0) (by omega)) tyX1 tyX1_ok nmX1 hown hK hP hD hS 0 rfl rfl 4 (by decide) (hG _ ci_f_RX1_24) (fun _ h9 => h9) rfl hin rfl (by decide +kernel) rfl rfl (Nat.le_of_ble_eq_true rfl) dX1_init_41 (fun H locs hP hD hS => ?_)
  have hP : va_P D clz [(a, .inr (0, [.ref q1, .ref q2, .ref q3, .ref q4, .ref q5, .null, .null, .null, .null, .int 0, .int 0, .int 0])), (q1, .inl (cI, 10, .inl (fun _ => 0))), (q2, .inl (cI, 6, .inl (fil 12 0))), (q3, .inl (cI, 6, .inl (fil 3 0))), (q4, .inl (cI, 8, .inl (fun _ => 0))), (q5, .inl (cI, 8, .inl (fun _ => 0)))] H := hP
  have hD : va_D A [(a, .inr (0, [.ref q1, .ref q2, .ref q3, .ref q4, .ref q5, .null, .null, .null, .null, .int 0, .int 0, .int 0])), (q1, .inl (cI, 10, .inl (fun _ => 0))), (q2, .inl (cI, 6, .inl (fil 12 0))), (q3, .inl (cI, 6, .inl (fil 3 0))), (q4, .inl (cI, 8, .inl (fun _ => 0))), (q5, .inl (cI, 8, .inl (fun _ => 0)))] := hD
  refine lv_aload_n hx hb dX1_init_44 rfl (lv_at hl 0 rfl) ?_
  refine lv_bipush (v := 8) hx hb dX1_init_45 (by decide) ?_
  refine nw_I hx hb (hG _ ci_ar_int) hK hP hD hS hA (fun _ => 0) rfl (N' := 8) (by decide) (by decide) (Nat.le_of_ble_eq_true rfl) (show 6 ≤ 9 by decide) (show 46 ≤ 72 by decide) dX1_init_47 (fun q6 H hP hD hS => ?_)
  have hP : va_P D clz [(a, .inr (0, [.ref q1, .ref q2, .ref q3, .ref q4, .ref q5, .null, .null, .null, .null, .int 0, .int 0, .int 0])), (q1, .inl (cI, 10, .inl (fun _ => 0))), (q2, .inl (cI, 6, .inl (fil 12 0))), (q3, .inl (cI, 6, .inl (fil 3 0))), (q4, .inl (cI, 8, .inl (fun _ => 0))), (q5, .inl (cI, 8, .inl (fun _ => 0))), (q6, .inl (cI, 8, .inl (fun _ => 0)))] H := hP
  have hD : va_D A [(a, .inr (0, [.ref q1, .ref q2, .ref q3, .ref q4, .ref q5, .null, .null, .null, .null, .int 0, .int 0, .int 0])), (q1, .inl (cI, 10, .inl (fun _ => 0))), (q2, .inl (cI, 6, .inl (fil 12 0))), (q3, .inl (cI, 6, .inl (fil 3 0))), (q4, .inl (cI, 8, .inl (fun _ => 0))), (q5, .inl (cI, 8, .inl (fun _ => 0))), (q6, .inl (cI, 8, .inl (fun _ => 0)))] := hD
  refine W.widen (k := 6) (n := 46) (by omega) (by omega) ?_
  refine va_putF (D := D) (ci := 0) (v := .ref q6) (ty := .array .int) (C := RX1) (T := TX1) (N := 12) hx hb hG (uw_ok (c := 0) (by omega)) tyX1 tyX1_ok nmX1 hown hK hP hD hS 0 rfl rfl 5 (by decide) (hG _ ci_f_RX1_27) (fun _ h9 => h9) rfl hin rfl (by decide +kernel) rfl rfl (Nat.le_of_ble_eq_true rfl) dX1_init_49 (fun H locs hP hD hS => ?_)
  have hP : va_P D clz [(a, .inr (0, [.ref q1, .ref q2, .ref q3, .ref q4, .ref q5, .ref q6, .null, .null, .null, .int 0, .int 0, .int 0])), (q1, .inl (cI, 10, .inl (fun _ => 0))), (q2, .inl (cI, 6, .inl (fil 12 0))), (q3, .inl (cI, 6, .inl (fil 3 0))), (q4, .inl (cI, 8, .inl (fun _ => 0))), (q5, .inl (cI, 8, .inl (fun _ => 0))), (q6, .inl (cI, 8, .inl (fun _ => 0)))] H := hP
  have hD : va_D A [(a, .inr (0, [.ref q1, .ref q2, .ref q3, .ref q4, .ref q5, .ref q6, .null, .null, .null, .int 0, .int 0, .int 0])), (q1, .inl (cI, 10, .inl (fun _ => 0))), (q2, .inl (cI, 6, .inl (fil 12 0))), (q3, .inl (cI, 6, .inl (fil 3 0))), (q4, .inl (cI, 8, .inl (fun _ => 0))), (q5, .inl (cI, 8, .inl (fun _ => 0))), (q6, .inl (cI, 8, .inl (fun _ => 0)))] := hD
  refine lv_aload_n hx hb dX1_init_52 rfl (lv_at hl 0 rfl) ?_
  refine lv_bipush (v := 8) hx hb dX1_init_53 (by decide) ?_
  refine nw_I hx hb (hG _ ci_ar_int) hK hP hD hS hA (fun _ => 0) rfl (N' := 8) (by decide) (by decide) (Nat.le_of_ble_eq_true rfl) (show 7 ≤ 9 by decide) (show 54 ≤ 72 by decide) dX1_init_55 (fun q7 H hP hD hS => ?_)
  have hP : va_P D clz [(a, .inr (0, [.ref q1, .ref q2, .ref q3, .ref q4, .ref q5, .ref q6, .null, .null, .null, .int 0, .int 0, .int 0])), (q1, .inl (cI, 10, .inl (fun _ => 0))), (q2, .inl (cI, 6, .inl (fil 12 0))), (q3, .inl (cI, 6, .inl (fil 3 0))), (q4, .inl (cI, 8, .inl (fun _ => 0))), (q5, .inl (cI, 8, .inl (fun _ => 0))), (q6, .inl (cI, 8, .inl (fun _ => 0))), (q7, .inl (cI, 8, .inl (fun _ => 0)))] H := hP
  have hD : va_D A [(a, .inr (0, [.ref q1, .ref q2, .ref q3, .ref q4, .ref q5, .ref q6, .null, .null, .null, .int 0, .int 0, .int 0])), (q1, .inl (cI, 10, .inl (fun _ => 0))), (q2, .inl (cI, 6, .inl (fil 12 0))), (q3, .inl (cI, 6, .inl (fil 3 0))), (q4, .inl (cI, 8, .inl (fun _ => 0))), (q5, .inl (cI, 8, .inl (fun _ => 0))), (q6, .inl (cI, 8, .inl (fun _ => 0))), (q7, .inl (cI, 8, .inl (fun _ => 0)))] := hD
  refine W.widen (k := 7) (n := 54) (by omega) (by omega) ?_
  refine va_putF (D := D) (ci := 0) (v := .ref q7) (ty := .array .int) (C := RX1) (T := TX1) (N := 12) hx hb hG (uw_ok (c := 0) (by omega)) tyX1 tyX1_ok nmX1 hown hK hP hD hS 0 rfl rfl 6 (by decide) (hG _ ci_f_RX1_30) (fun _ h9 => h9) rfl hin rfl (by decide +kernel) rfl rfl (Nat.le_of_ble_eq_true rfl) dX1_init_57 (fun H locs hP hD hS => ?_)
  have hP : va_P D clz [(a, .inr (0, [.ref q1, .ref q2, .ref q3, .ref q4, .ref q5, .ref q6, .ref q7, .null, .null, .int 0, .int 0, .int 0])), (q1, .inl (cI, 10, .inl (fun _ => 0))), (q2, .inl (cI, 6, .inl (fil 12 0))), (q3, .inl (cI, 6, .inl (fil 3 0))), (q4, .inl (cI, 8, .inl (fun _ => 0))), (q5, .inl (cI, 8, .inl (fun _ => 0))), (q6, .inl (cI, 8, .inl (fun _ => 0))), (q7, .inl (cI, 8, .inl (fun _ => 0)))] H := hP
  have hD : va_D A [(a, .inr (0, [.ref q1, .ref q2, .ref q3, .ref q4, .ref q5, .ref q6, .ref q7, .null, .null, .int 0, .int 0, .int 0])), (q1, .inl (cI, 10, .inl (fun _ => 0))), (q2, .inl (cI, 6, .inl (fil 12 0))), (q3, .inl (cI, 6, .inl (fil 3 0))), (q4, .inl (cI, 8, .inl (fun _ => 0))), (q5, .inl (cI, 8, .inl (fun _ => 0))), (q6, .inl (cI, 8, .inl (fun _ => 0))), (q7, .inl (cI, 8, .inl (fun _ => 0)))] := hD
  refine lv_aload_n hx hb dX1_init_60 rfl (lv_at hl 0 rfl) ?_
  refine lv_bipush (v := 8) hx hb dX1_init_61 (by decide) ?_
  refine nw_I hx hb (hG _ ci_ar_int) hK hP hD hS hA (fun _ => 0) rfl (N' := 8) (by decide) (by decide) (Nat.le_of_ble_eq_true rfl) (show 8 ≤ 9 by decide) (show 62 ≤ 72 by decide) dX1_init_63 (fun q8 H hP hD hS => ?_)
  have hP : va_P D clz [(a, .inr (0, [.ref q1, .ref q2, .ref q3, .ref q4, .ref q5, .ref q6, .ref q7, .null, .null, .int 0, .int 0, .int 0])), (q1, .inl (cI, 10, .inl (fun _ => 0))), (q2, .inl (cI, 6, .inl (fil 12 0))), (q3, .inl (cI, 6, .inl (fil 3 0))), (q4, .inl (cI, 8, .inl (fun _ => 0))), (q5, .inl (cI, 8, .inl (fun _ => 0))), (q6, .inl (cI, 8, .inl (fun _ => 0))), (q7, .inl (cI, 8, .inl (fun _ => 0))), (q8, .inl (cI, 8, .inl (fun _ => 0)))] H := hP
  have hD : va_D A [(a, .inr (0, [.ref q1, .ref q2, .ref q3, .ref q4, .ref q5, .ref q6, .ref q7, .null, .null, .int 0, .int 0, .int 0])), (q1, .inl (cI, 10, .inl (fun _ => 0))), (q2, .inl (cI, 6, .inl (fil 12 0))), (q3, .inl (cI, 6, .inl (fil 3 0))), (q4, .inl (cI, 8, .inl (fun _ => 0))), (q5, .inl (cI, 8, .inl (fun _ => 0))), (q6, .inl (cI, 8, .inl (fun _ => 0))), (q7, .inl (cI, 8, .inl (fun _ => 0))), (q8, .inl (cI, 8, .inl (fun _ => 0)))] := hD
  refine W.widen (k := 8) (n := 62) (by omega) (by omega) ?_
  refine va_putF (D := D) (ci := 0) (v := .ref q8) (ty := .array .int) (C := RX1) (T := TX1) (N := 12) hx hb hG (uw_ok (c := 0) (by omega)) tyX1 tyX1_ok nmX1 hown hK hP hD hS 0 rfl rfl 7 (by decide) (hG _ ci_f_RX1_33) (fun _ h9 => h9) rfl hin rfl (by decide +kernel) rfl rfl (Nat.le_of_ble_eq_true rfl) dX1_init_65 (fun H locs hP hD hS => ?_)
  have hP : va_P D clz [(a, .inr (0, [.ref q1, .ref q2, .ref q3, .ref q4, .ref q5, .ref q6, .ref q7, .ref q8, .null, .int 0, .int 0, .int 0])), (q1, .inl (cI, 10, .inl (fun _ => 0))), (q2, .inl (cI, 6, .inl (fil 12 0))), (q3, .inl (cI, 6, .inl (fil 3 0))), (q4, .inl (cI, 8, .inl (fun _ => 0))), (q5, .inl (cI, 8, .inl (fun _ => 0))), (q6, .inl (cI, 8, .inl (fun _ => 0))), (q7, .inl (cI, 8, .inl (fun _ => 0))), (q8, .inl (cI, 8, .inl (fun _ => 0)))] H := hP
  have hD : va_D A [(a, .inr (0, [.ref q1, .ref q2, .ref q3, .ref q4, .ref q5, .ref q6, .ref q7, .ref q8, .null, .int 0, .int 0, .int 0])), (q1, .inl (cI, 10, .inl (fun _ => 0))), (q2, .inl (cI, 6, .inl (fil 12 0))), (q3, .inl (cI, 6, .inl (fil 3 0))), (q4, .inl (cI, 8, .inl (fun _ => 0))), (q5, .inl (cI, 8, .inl (fun _ => 0))), (q6, .inl (cI, 8, .inl (fun _ => 0))), (q7, .inl (cI, 8, .inl (fun _ => 0))), (q8, .inl (cI, 8, .inl (fun _ => 0)))] := hD
  refine lv_aload_n hx hb dX1_init_68 rfl (lv_at hl 0 rfl) ?_
  refine lv_bipush (v := 10) hx hb dX1_init_69 (by decide) ?_
  refine nw_I hx hb (hG _ ci_ar_int) hK hP hD hS hA (fil (-1) 0) (fil_0 (-1)) (N' := 10) (by decide) (by decide) (Nat.le_of_ble_eq_true rfl) (show 9 ≤ 9 by decide) (show 72 ≤ 72 by decide) dX1_init_71 (fun q9 H hP hD hS => ?_)
  have hP : va_P D clz [(a, .inr (0, [.ref q1, .ref q2, .ref q3, .ref q4, .ref q5, .ref q6, .ref q7, .ref q8, .null, .int 0, .int 0, .int 0])), (q1, .inl (cI, 10, .inl (fun _ => 0))), (q2, .inl (cI, 6, .inl (fil 12 0))), (q3, .inl (cI, 6, .inl (fil 3 0))), (q4, .inl (cI, 8, .inl (fun _ => 0))), (q5, .inl (cI, 8, .inl (fun _ => 0))), (q6, .inl (cI, 8, .inl (fun _ => 0))), (q7, .inl (cI, 8, .inl (fun _ => 0))), (q8, .inl (cI, 8, .inl (fun _ => 0))), (q9, .inl (cI, 10, .inl (fil (-1) 0)))] H := hP
  have hD : va_D A [(a, .inr (0, [.ref q1, .ref q2, .ref q3, .ref q4, .ref q5, .ref q6, .ref q7, .ref q8, .null, .int 0, .int 0, .int 0])), (q1, .inl (cI, 10, .inl (fun _ => 0))), (q2, .inl (cI, 6, .inl (fil 12 0))), (q3, .inl (cI, 6, .inl (fil 3 0))), (q4, .inl (cI, 8, .inl (fun _ => 0))), (q5, .inl (cI, 8, .inl (fun _ => 0))), (q6, .inl (cI, 8, .inl (fun _ => 0))), (q7, .inl (cI, 8, .inl (fun _ => 0))), (q8, .inl (cI, 8, .inl (fun _ => 0))), (q9, .inl (cI, 10, .inl (fil (-1) 0)))] := hD
  refine W.widen (k := 9) (n := 72) (by omega) (by omega) ?_
  refine va_putF (D := D) (ci := 0) (v := .ref q9) (ty := .array .int) (C := RX1) (T := TX1) (N := 12) hx hb hG (uw_ok (c := 0) (by omega)) tyX1 tyX1_ok nmX1 hown hK hP hD hS 0 rfl rfl 8 (by decide) (hG _ ci_f_RX1_36) (fun _ h9 => h9) rfl hin rfl (by decide +kernel) rfl rfl (Nat.le_of_ble_eq_true rfl) dX1_init_73 (fun H locs hP hD hS => ?_)
  have hP : va_P D clz [(a, .inr (0, [.ref q1, .ref q2, .ref q3, .ref q4, .ref q5, .ref q6, .ref q7, .ref q8, .ref q9, .int 0, .int 0, .int 0])), (q1, .inl (cI, 10, .inl (fun _ => 0))), (q2, .inl (cI, 6, .inl (fil 12 0))), (q3, .inl (cI, 6, .inl (fil 3 0))), (q4, .inl (cI, 8, .inl (fun _ => 0))), (q5, .inl (cI, 8, .inl (fun _ => 0))), (q6, .inl (cI, 8, .inl (fun _ => 0))), (q7, .inl (cI, 8, .inl (fun _ => 0))), (q8, .inl (cI, 8, .inl (fun _ => 0))), (q9, .inl (cI, 10, .inl (fil (-1) 0)))] H := hP
  have hD : va_D A [(a, .inr (0, [.ref q1, .ref q2, .ref q3, .ref q4, .ref q5, .ref q6, .ref q7, .ref q8, .ref q9, .int 0, .int 0, .int 0])), (q1, .inl (cI, 10, .inl (fun _ => 0))), (q2, .inl (cI, 6, .inl (fil 12 0))), (q3, .inl (cI, 6, .inl (fil 3 0))), (q4, .inl (cI, 8, .inl (fun _ => 0))), (q5, .inl (cI, 8, .inl (fun _ => 0))), (q6, .inl (cI, 8, .inl (fun _ => 0))), (q7, .inl (cI, 8, .inl (fun _ => 0))), (q8, .inl (cI, 8, .inl (fun _ => 0))), (q9, .inl (cI, 10, .inl (fil (-1) 0)))] := hD
  refine lv_aload_n hx hb dX1_init_76 rfl (lv_at hl 0 rfl) ?_
  refine lv_iconst (v := 0) hx hb dX1_init_77 (by decide) ?_
  refine va_put (D := D) (ci := 0) (v := .int 0) (ty := .int) (C := RX1) (T := TX1) (N := 12) hx hb hG (uw_ok (c := 0) (by omega)) tyX1 tyX1_ok nmX1 hown hK hP hD hS 0 rfl rfl 9 (by decide) (hG _ ci_f_RX1_39) (fun _ h9 => h9) rfl (by decide +kernel) rfl rfl (Nat.le_of_ble_eq_true rfl) dX1_init_78 (fun H locs hP hD hS => ?_)
  have hP : va_P D clz [(a, .inr (0, [.ref q1, .ref q2, .ref q3, .ref q4, .ref q5, .ref q6, .ref q7, .ref q8, .ref q9, .int 0, .int 0, .int 0])), (q1, .inl (cI, 10, .inl (fun _ => 0))), (q2, .inl (cI, 6, .inl (fil 12 0))), (q3, .inl (cI, 6, .inl (fil 3 0))), (q4, .inl (cI, 8, .inl (fun _ => 0))), (q5, .inl (cI, 8, .inl (fun _ => 0))), (q6, .inl (cI, 8, .inl (fun _ => 0))), (q7, .inl (cI, 8, .inl (fun _ => 0))), (q8, .inl (cI, 8, .inl (fun _ => 0))), (q9, .inl (cI, 10, .inl (fil (-1) 0)))] H := hP
  have hD : va_D A [(a, .inr (0, [.ref q1, .ref q2, .ref q3, .ref q4, .ref q5, .ref q6, .ref q7, .ref q8, .ref q9, .int 0, .int 0, .int 0])), (q1, .inl (cI, 10, .inl (fun _ => 0))), (q2, .inl (cI, 6, .inl (fil 12 0))), (q3, .inl (cI, 6, .inl (fil 3 0))), (q4, .inl (cI, 8, .inl (fun _ => 0))), (q5, .inl (cI, 8, .inl (fun _ => 0))), (q6, .inl (cI, 8, .inl (fun _ => 0))), (q7, .inl (cI, 8, .inl (fun _ => 0))), (q8, .inl (cI, 8, .inl (fun _ => 0))), (q9, .inl (cI, 10, .inl (fil (-1) 0)))] := hD
  refine lv_aload_n hx hb dX1_init_81 rfl (lv_at hl 0 rfl) ?_
  refine lv_iconst (v := 0) hx hb dX1_init_82 (by decide) ?_
  refine va_put (D := D) (ci := 0) (v := .int 0) (ty := .int) (C := RX1) (T := TX1) (N := 12) hx hb hG (uw_ok (c := 0) (by omega)) tyX1 tyX1_ok nmX1 hown hK hP hD hS 0 rfl rfl 10 (by decide) (hG _ ci_f_RX1_43) (fun _ h9 => h9) rfl (by decide +kernel) rfl rfl (Nat.le_of_ble_eq_true rfl) dX1_init_83 (fun H locs hP hD hS => ?_)
  have hP : va_P D clz [(a, .inr (0, [.ref q1, .ref q2, .ref q3, .ref q4, .ref q5, .ref q6, .ref q7, .ref q8, .ref q9, .int 0, .int 0, .int 0])), (q1, .inl (cI, 10, .inl (fun _ => 0))), (q2, .inl (cI, 6, .inl (fil 12 0))), (q3, .inl (cI, 6, .inl (fil 3 0))), (q4, .inl (cI, 8, .inl (fun _ => 0))), (q5, .inl (cI, 8, .inl (fun _ => 0))), (q6, .inl (cI, 8, .inl (fun _ => 0))), (q7, .inl (cI, 8, .inl (fun _ => 0))), (q8, .inl (cI, 8, .inl (fun _ => 0))), (q9, .inl (cI, 10, .inl (fil (-1) 0)))] H := hP
  have hD : va_D A [(a, .inr (0, [.ref q1, .ref q2, .ref q3, .ref q4, .ref q5, .ref q6, .ref q7, .ref q8, .ref q9, .int 0, .int 0, .int 0])), (q1, .inl (cI, 10, .inl (fun _ => 0))), (q2, .inl (cI, 6, .inl (fil 12 0))), (q3, .inl (cI, 6, .inl (fil 3 0))), (q4, .inl (cI, 8, .inl (fun _ => 0))), (q5, .inl (cI, 8, .inl (fun _ => 0))), (q6, .inl (cI, 8, .inl (fun _ => 0))), (q7, .inl (cI, 8, .inl (fun _ => 0))), (q8, .inl (cI, 8, .inl (fun _ => 0))), (q9, .inl (cI, 10, .inl (fil (-1) 0)))] := hD
  refine lv_aload_n hx hb dX1_init_86 rfl (lv_at hl 0 rfl) ?_
  refine lv_iconst (v := 1) hx hb dX1_init_87 (by decide) ?_
  refine va_put (D := D) (ci := 0) (v := .int 1) (ty := .int) (C := RX1) (T := TX1) (N := 12) hx hb hG (uw_ok (c := 0) (by omega)) tyX1 tyX1_ok nmX1 hown hK hP hD hS 0 rfl rfl 11 (by decide) (hG _ ci_f_RX1_46) (fun _ h9 => h9) rfl (by decide +kernel) rfl rfl (Nat.le_of_ble_eq_true rfl) dX1_init_88 (fun H locs hP hD hS => ?_)
  have hP : va_P D clz [(a, .inr (0, [.ref q1, .ref q2, .ref q3, .ref q4, .ref q5, .ref q6, .ref q7, .ref q8, .ref q9, .int 0, .int 0, .int 1])), (q1, .inl (cI, 10, .inl (fun _ => 0))), (q2, .inl (cI, 6, .inl (fil 12 0))), (q3, .inl (cI, 6, .inl (fil 3 0))), (q4, .inl (cI, 8, .inl (fun _ => 0))), (q5, .inl (cI, 8, .inl (fun _ => 0))), (q6, .inl (cI, 8, .inl (fun _ => 0))), (q7, .inl (cI, 8, .inl (fun _ => 0))), (q8, .inl (cI, 8, .inl (fun _ => 0))), (q9, .inl (cI, 10, .inl (fil (-1) 0)))] H := hP
  have hD : va_D A [(a, .inr (0, [.ref q1, .ref q2, .ref q3, .ref q4, .ref q5, .ref q6, .ref q7, .ref q8, .ref q9, .int 0, .int 0, .int 1])), (q1, .inl (cI, 10, .inl (fun _ => 0))), (q2, .inl (cI, 6, .inl (fil 12 0))), (q3, .inl (cI, 6, .inl (fil 3 0))), (q4, .inl (cI, 8, .inl (fun _ => 0))), (q5, .inl (cI, 8, .inl (fun _ => 0))), (q6, .inl (cI, 8, .inl (fun _ => 0))), (q7, .inl (cI, 8, .inl (fun _ => 0))), (q8, .inl (cI, 8, .inl (fun _ => 0))), (q9, .inl (cI, 10, .inl (fil (-1) 0)))] := hD
  have loop2 : ∀ (n k : Nat) (H : Heap) (locs : List Loc) (ls : Array Slot), n + k = 10 → va_P D clz [(a, .inr (0, [.ref q1, .ref q2, .ref q3, .ref q4, .ref q5, .ref q6, .ref q7, .ref q8, .ref q9, .int 0, .int 0, .int 1])), (q1, .inl (cI, 10, .inl (fun _ => 0))), (q2, .inl (cI, 6, .inl (fil 12 6))), (q3, .inl (cI, 6, .inl (fil 3 6))), (q4, .inl (cI, 8, .inl (fun _ => 0))), (q5, .inl (cI, 8, .inl (fun _ => 0))), (q6, .inl (cI, 8, .inl (fun _ => 0))), (q7, .inl (cI, 8, .inl (fun _ => 0))), (q8, .inl (cI, 8, .inl (fun _ => 0))), (q9, .inl (cI, 10, .inl (fil (-1) k)))] H → va_D A [(a, .inr (0, [.ref q1, .ref q2, .ref q3, .ref q4, .ref q5, .ref q6, .ref q7, .ref q8, .ref q9, .int 0, .int 0, .int 1])), (q1, .inl (cI, 10, .inl (fun _ => 0))), (q2, .inl (cI, 6, .inl (fil 12 6))), (q3, .inl (cI, 6, .inl (fil 3 6))), (q4, .inl (cI, 8, .inl (fun _ => 0))), (q5, .inl (cI, 8, .inl (fun _ => 0))), (q6, .inl (cI, 8, .inl (fun _ => 0))), (q7, .inl (cI, 8, .inl (fun _ => 0))), (q8, .inl (cI, 8, .inl (fun _ => 0))), (q9, .inl (cI, 10, .inl (fil (-1) k)))] → va_S A s.heap H locs → lv_has ls 2 [(1, .int (nI k)), (0, .ref a)] → W p l e (headSpec (wJ yX1_init cX1_init 2 none) ({ frames := 1, cells := 9, slots := 72, locals := 12 })).room s m (([.ref a] : List Value).toArray) below meth c H locs 9 72 (MQ below (va_Qv (fun _ : Nat → Nat => True) (fun r t => va_P D clz (wReef cI a r) t.heap ∧ va_D A (wReef cI a r)) A) (([.ref a] : List Value).toArray) s 9 72 A) (F0 m 122 ls []) := by
    intro n
    induction n with
    | zero =>
      intro k H locs ls hk hP hD hS hl
      have e : k = 10 := by omega
      subst e
      refine lv_iload_n hx hb dX1_init_122 rfl (lv_at hl 0 rfl) ?_
      refine lv_bipush (v := nI 10) hx hb dX1_init_123 (by decide) ?_
      refine lv_icmp_ge (tgt := 141) hx hb dX1_init_125 (by decide) (fun _ => ?_) (fun z => absurd (Int32.le_refl _) z)
      exact W.vret hx hb hr (fun t ht hW => ⟨⟨rf9 q1 q2 q3 q4 q5 q6 q7 q8 q9, rfl, trivial, by rw [ht]; exact hP, hD⟩, hS.F ht⟩) hS.2.2 dX1_init_141
    | succ n ih =>
      intro k H locs ls hk hP hD hS hl
      refine lv_iload_n hx hb dX1_init_122 rfl (lv_at hl 0 rfl) ?_
      refine lv_bipush (v := nI 10) hx hb dX1_init_123 (by decide) ?_
      refine lv_icmp_ge (tgt := 141) hx hb dX1_init_125 (by decide) (fun z => absurd z (by rw [nn_le (by omega) (by omega)]; omega)) (fun _ => ?_)
      refine lv_aload_n hx hb dX1_init_128 rfl (lv_at hl 1 rfl) ?_
      refine va_get (D := D) (ci := 0) (v := .ref q9) (C := RX1) (T := TX1) (N := 12) hx hb hG (uw_ok (c := 0) (by omega)) hown hK hP 0 rfl rfl 8 (by decide) (hG _ ci_f_RX1_36) (fun _ h9 => h9) rfl dX1_init_129 ?_
      refine lv_iload_n hx hb dX1_init_132 rfl (lv_at hl 0 rfl) ?_
      refine lv_iconst (v := -1) hx hb dX1_init_133 (by decide) ?_
      refine va_iast hx hb hK hP hD hS 9 0 rfl rfl (vp_in_nI (show k < 10 by omega) (by omega)) dX1_init_134 (fun H locs hP hD hS => ?_)
      rw [nI_clamp (by omega), upd_fil] at hP hD
      have hP : va_P D clz [(a, .inr (0, [.ref q1, .ref q2, .ref q3, .ref q4, .ref q5, .ref q6, .ref q7, .ref q8, .ref q9, .int 0, .int 0, .int 1])), (q1, .inl (cI, 10, .inl (fun _ => 0))), (q2, .inl (cI, 6, .inl (fil 12 6))), (q3, .inl (cI, 6, .inl (fil 3 6))), (q4, .inl (cI, 8, .inl (fun _ => 0))), (q5, .inl (cI, 8, .inl (fun _ => 0))), (q6, .inl (cI, 8, .inl (fun _ => 0))), (q7, .inl (cI, 8, .inl (fun _ => 0))), (q8, .inl (cI, 8, .inl (fun _ => 0))), (q9, .inl (cI, 10, .inl (fil (-1) (k + 1))))] H := hP
      have hD : va_D A [(a, .inr (0, [.ref q1, .ref q2, .ref q3, .ref q4, .ref q5, .ref q6, .ref q7, .ref q8, .ref q9, .int 0, .int 0, .int 1])), (q1, .inl (cI, 10, .inl (fun _ => 0))), (q2, .inl (cI, 6, .inl (fil 12 6))), (q3, .inl (cI, 6, .inl (fil 3 6))), (q4, .inl (cI, 8, .inl (fun _ => 0))), (q5, .inl (cI, 8, .inl (fun _ => 0))), (q6, .inl (cI, 8, .inl (fun _ => 0))), (q7, .inl (cI, 8, .inl (fun _ => 0))), (q8, .inl (cI, 8, .inl (fun _ => 0))), (q9, .inl (cI, 10, .inl (fil (-1) (k + 1))))] := hD
      refine lv_iinc (v := nI (k + 1)) (lv' := [(1, .int (nI (k + 1))), (0, .ref a)]) hx hb dX1_init_135 hl (k := 0) rfl (nI_1 k) (by decide) rfl (fun ls hl => ?_)
      refine lv_goto (tgt := 122) hx hb dX1_init_138 (by decide) ?_
      exact ih (k + 1) H locs ls (by omega) hP hD hS hl
  have loop1 : ∀ (n k : Nat) (H : Heap) (locs : List Loc) (ls : Array Slot), n + k = 6 → va_P D clz [(a, .inr (0, [.ref q1, .ref q2, .ref q3, .ref q4, .ref q5, .ref q6, .ref q7, .ref q8, .ref q9, .int 0, .int 0, .int 1])), (q1, .inl (cI, 10, .inl (fun _ => 0))), (q2, .inl (cI, 6, .inl (fil 12 k))), (q3, .inl (cI, 6, .inl (fil 3 k))), (q4, .inl (cI, 8, .inl (fun _ => 0))), (q5, .inl (cI, 8, .inl (fun _ => 0))), (q6, .inl (cI, 8, .inl (fun _ => 0))), (q7, .inl (cI, 8, .inl (fun _ => 0))), (q8, .inl (cI, 8, .inl (fun _ => 0))), (q9, .inl (cI, 10, .inl (fil (-1) 0)))] H → va_D A [(a, .inr (0, [.ref q1, .ref q2, .ref q3, .ref q4, .ref q5, .ref q6, .ref q7, .ref q8, .ref q9, .int 0, .int 0, .int 1])), (q1, .inl (cI, 10, .inl (fun _ => 0))), (q2, .inl (cI, 6, .inl (fil 12 k))), (q3, .inl (cI, 6, .inl (fil 3 k))), (q4, .inl (cI, 8, .inl (fun _ => 0))), (q5, .inl (cI, 8, .inl (fun _ => 0))), (q6, .inl (cI, 8, .inl (fun _ => 0))), (q7, .inl (cI, 8, .inl (fun _ => 0))), (q8, .inl (cI, 8, .inl (fun _ => 0))), (q9, .inl (cI, 10, .inl (fil (-1) 0)))] → va_S A s.heap H locs → lv_has ls 2 [(1, .int (nI k)), (0, .ref a)] → W p l e (headSpec (wJ yX1_init cX1_init 2 none) ({ frames := 1, cells := 9, slots := 72, locals := 12 })).room s m (([.ref a] : List Value).toArray) below meth c H locs 9 72 (MQ below (va_Qv (fun _ : Nat → Nat => True) (fun r t => va_P D clz (wReef cI a r) t.heap ∧ va_D A (wReef cI a r)) A) (([.ref a] : List Value).toArray) s 9 72 A) (F0 m 93 ls []) := by
    intro n
    induction n with
    | zero =>
      intro k H locs ls hk hP hD hS hl
      have e : k = 6 := by omega
      subst e
      refine lv_iload_n hx hb dX1_init_93 rfl (lv_at hl 0 rfl) ?_
      refine lv_bipush (v := nI 6) hx hb dX1_init_94 (by decide) ?_
      refine lv_icmp_ge (tgt := 120) hx hb dX1_init_96 (by decide) (fun _ => ?_) (fun z => absurd (Int32.le_refl _) z)
      refine lv_iconst (v := nI 0) hx hb dX1_init_120 (by decide) ?_
      refine lv_istore_n (lv' := [(1, .int (nI 0)), (0, .ref a)]) hx hb dX1_init_121 rfl hl (by decide) rfl (fun ls hl => ?_)
      exact loop2 10 0 H locs ls rfl hP hD hS hl
    | succ n ih =>
      intro k H locs ls hk hP hD hS hl
      refine lv_iload_n hx hb dX1_init_93 rfl (lv_at hl 0 rfl) ?_
      refine lv_bipush (v := nI 6) hx hb dX1_init_94 (by decide) ?_
      refine lv_icmp_ge (tgt := 120) hx hb dX1_init_96 (by decide) (fun z => absurd z (by rw [nn_le (by omega) (by omega)]; omega)) (fun _ => ?_)
      refine lv_aload_n hx hb dX1_init_99 rfl (lv_at hl 1 rfl) ?_
      refine va_get (D := D) (ci := 0) (v := .ref q2) (C := RX1) (T := TX1) (N := 12) hx hb hG (uw_ok (c := 0) (by omega)) hown hK hP 0 rfl rfl 1 (by decide) (hG _ ci_f_RX1_15) (fun _ h9 => h9) rfl dX1_init_100 ?_
      refine lv_iload_n hx hb dX1_init_103 rfl (lv_at hl 0 rfl) ?_
      refine lv_bipush (v := 12) hx hb dX1_init_104 (by decide) ?_
      refine va_iast hx hb hK hP hD hS 2 0 rfl rfl (vp_in_nI (show k < 6 by omega) (by omega)) dX1_init_106 (fun H locs hP hD hS => ?_)
      rw [nI_clamp (by omega), upd_fil] at hP hD
      have hP : va_P D clz [(a, .inr (0, [.ref q1, .ref q2, .ref q3, .ref q4, .ref q5, .ref q6, .ref q7, .ref q8, .ref q9, .int 0, .int 0, .int 1])), (q1, .inl (cI, 10, .inl (fun _ => 0))), (q2, .inl (cI, 6, .inl (fil 12 (k + 1)))), (q3, .inl (cI, 6, .inl (fil 3 k))), (q4, .inl (cI, 8, .inl (fun _ => 0))), (q5, .inl (cI, 8, .inl (fun _ => 0))), (q6, .inl (cI, 8, .inl (fun _ => 0))), (q7, .inl (cI, 8, .inl (fun _ => 0))), (q8, .inl (cI, 8, .inl (fun _ => 0))), (q9, .inl (cI, 10, .inl (fil (-1) 0)))] H := hP
      have hD : va_D A [(a, .inr (0, [.ref q1, .ref q2, .ref q3, .ref q4, .ref q5, .ref q6, .ref q7, .ref q8, .ref q9, .int 0, .int 0, .int 1])), (q1, .inl (cI, 10, .inl (fun _ => 0))), (q2, .inl (cI, 6, .inl (fil 12 (k + 1)))), (q3, .inl (cI, 6, .inl (fil 3 k))), (q4, .inl (cI, 8, .inl (fun _ => 0))), (q5, .inl (cI, 8, .inl (fun _ => 0))), (q6, .inl (cI, 8, .inl (fun _ => 0))), (q7, .inl (cI, 8, .inl (fun _ => 0))), (q8, .inl (cI, 8, .inl (fun _ => 0))), (q9, .inl (cI, 10, .inl (fil (-1) 0)))] := hD
      refine lv_aload_n hx hb dX1_init_107 rfl (lv_at hl 1 rfl) ?_
      refine va_get (D := D) (ci := 0) (v := .ref q3) (C := RX1) (T := TX1) (N := 12) hx hb hG (uw_ok (c := 0) (by omega)) hown hK hP 0 rfl rfl 2 (by decide) (hG _ ci_f_RX1_18) (fun _ h9 => h9) rfl dX1_init_108 ?_
      refine lv_iload_n hx hb dX1_init_111 rfl (lv_at hl 0 rfl) ?_
      refine lv_iconst (v := 3) hx hb dX1_init_112 (by decide) ?_
      refine va_iast hx hb hK hP hD hS 3 0 rfl rfl (vp_in_nI (show k < 6 by omega) (by omega)) dX1_init_113 (fun H locs hP hD hS => ?_)
      rw [nI_clamp (by omega), upd_fil] at hP hD
      have hP : va_P D clz [(a, .inr (0, [.ref q1, .ref q2, .ref q3, .ref q4, .ref q5, .ref q6, .ref q7, .ref q8, .ref q9, .int 0, .int 0, .int 1])), (q1, .inl (cI, 10, .inl (fun _ => 0))), (q2, .inl (cI, 6, .inl (fil 12 (k + 1)))), (q3, .inl (cI, 6, .inl (fil 3 (k + 1)))), (q4, .inl (cI, 8, .inl (fun _ => 0))), (q5, .inl (cI, 8, .inl (fun _ => 0))), (q6, .inl (cI, 8, .inl (fun _ => 0))), (q7, .inl (cI, 8, .inl (fun _ => 0))), (q8, .inl (cI, 8, .inl (fun _ => 0))), (q9, .inl (cI, 10, .inl (fil (-1) 0)))] H := hP
      have hD : va_D A [(a, .inr (0, [.ref q1, .ref q2, .ref q3, .ref q4, .ref q5, .ref q6, .ref q7, .ref q8, .ref q9, .int 0, .int 0, .int 1])), (q1, .inl (cI, 10, .inl (fun _ => 0))), (q2, .inl (cI, 6, .inl (fil 12 (k + 1)))), (q3, .inl (cI, 6, .inl (fil 3 (k + 1)))), (q4, .inl (cI, 8, .inl (fun _ => 0))), (q5, .inl (cI, 8, .inl (fun _ => 0))), (q6, .inl (cI, 8, .inl (fun _ => 0))), (q7, .inl (cI, 8, .inl (fun _ => 0))), (q8, .inl (cI, 8, .inl (fun _ => 0))), (q9, .inl (cI, 10, .inl (fil (-1) 0)))] := hD
      refine lv_iinc (v := nI (k + 1)) (lv' := [(1, .int (nI (k + 1))), (0, .ref a)]) hx hb dX1_init_114 hl (k := 0) rfl (nI_1 k) (by decide) rfl (fun ls hl => ?_)
      refine lv_goto (tgt := 93) hx hb dX1_init_117 (by decide) ?_
      exact ih (k + 1) H locs ls (by omega) hP hD hS hl
  refine lv_iconst (v := nI 0) hx hb dX1_init_91 (by decide) ?_
  refine lv_istore_n (lv' := [(1, .int (nI 0)), (0, .ref a)]) hx hb dX1_init_92 rfl hl (by decide) rfl (fun ls hl => ?_)
  exact loop1 6 0 H locs ls rfl hP hD hS hl
set_option maxHeartbeats 4000000 in
set_option maxRecDepth 100000 in
theorem k_iModel {l : Launch} {D : va_G} {cI cL cQ : ClassId} {a sz : Nat} : Met l yX5_init (wJ yX5_init cX5_init 2 none) ({ frames := 1, cells := 9, slots := 596, locals := 12 }) (va_Pc [.ref a] (fun U => U.heap.size = sz ∧ va_P D clz [(a, .inr (4, [.null, .null, .null, .null, .int 0, .null, .null, .int 0, .null, .null, .null, .int 0, .int 0, .int 0, .int 0, .int 0]))] U.heap ∧ va_K D clz (tyz cI cL cQ) U)) (va_Qv (fun _ : Nat → Nat => True) (fun r t => va_P D clz (wMo cI a r) t.heap ∧ va_D (va_A [(a, .inr (4, [.null, .null, .null, .null, .int 0, .null, .null, .int 0, .null, .null, .null, .int 0, .int 0, .int 0, .int 0, .int 0]))] sz) (wMo cI a r)) (va_A [(a, .inr (4, [.null, .null, .null, .null, .int 0, .null, .null, .int 0, .null, .null, .null, .int 0, .int 0, .int 0, .int 0, .int 0]))] sz)) 9 596 (va_A [(a, .inr (4, [.null, .null, .null, .null, .int 0, .null, .null, .int 0, .null, .null, .null, .int 0, .int 0, .int 0, .int 0, .int 0]))] sz) := by
  refine Met.ofW (cc := cX5_init) (maxL := 2) (ret := none) (by decide) rfl ?_
  intro p e s m args below meth c s₁ B hml hv
  obtain ⟨rfl, hsz, hP, hK⟩ := hv
  have hx := B.exec
  have hb := B.bytes
  have hr := B.returns
  have hlocks := B.notSynchronized
  have hin : meth.name = "<init>" := (name_of_methodNamed B.named B.method).1
  have hown : s.vm.findClass RX5 = some m.cls := findClass_of_methodNamed B.named
  have hts := atoms_spec (ws := wJ yX5_init cX5_init 2 none) B.pre
  have hG : ∀ W ∈ Gz, W.before (([.ref a] : List Value).toArray) s = true := fun W hW => hts W (List.mem_cons_of_mem _ hW)
  subst hsz
  have hD : va_D (va_A [(a, .inr (4, [.null, .null, .null, .null, .int 0, .null, .null, .int 0, .null, .null, .null, .int 0, .int 0, .int 0, .int 0, .int 0]))] s.heap.size) [(a, .inr (4, [.null, .null, .null, .null, .int 0, .null, .null, .int 0, .null, .null, .null, .int 0, .int 0, .int 0, .int 0, .int 0]))] := D1 (Or.inl ⟨0, _, rfl⟩)
  generalize hAe : va_A [(a, .inr (4, [.null, .null, .null, .null, .int 0, .null, .null, .int 0, .null, .null, .null, .int 0, .int 0, .int 0, .int 0, .int 0]))] s.heap.size = A at hD ⊢
  have hA : ∀ q : Nat, s.heap.size ≤ q → A q := fun q h => by rw [← hAe]; exact Or.inr h
  have hS : va_S A s.heap s.heap [] := va_S.rf
  have hl := lv_entry ([.ref a]) (n := 2) (Nat.le_of_ble_eq_true rfl)
  rw [lg_entry_eq]
  generalize (lg_sl ([.ref a]) ++ List.replicate (2 - (lg_sl ([.ref a])).length) Slot.unset).toArray = ls at hl ⊢
  have hl : lv_has ls 2 [(0, .ref a)] := hl
  refine lv_aload_n hx hb dX5_init_0 rfl (lv_at hl 0 rfl) ?_
  refine W.objInit hx hb hown (hG _ ci_ol_RX5) (hG _ ci_obj_i) (hG _ ci_obj_c) rfl (by rw [hml]; exact hl.1) rfl dX5_init_1 (Nat.le_of_ble_eq_true rfl) (Nat.le_of_ble_eq_true rfl) ?_
  refine W.eq (g2 := F0 m 4 ls []) rfl ?_
  refine lv_aload_n hx hb dX5_init_4 rfl (lv_at hl 0 rfl) ?_
  refine lv_bipush (v := 75) hx hb dX5_init_5 (by decide) ?_
  refine nw_I hx hb (hG _ ci_ar_int) hK hP hD hS hA (fun _ => 0) rfl (N' := 75) (by decide) (by decide) (Nat.le_of_ble_eq_true rfl) (show 1 ≤ 9 by decide) (show 75 ≤ 596 by decide) dX5_init_7 (fun q1 H hP hD hS => ?_)
  have hP : va_P D clz [(a, .inr (4, [.null, .null, .null, .null, .int 0, .null, .null, .int 0, .null, .null, .null, .int 0, .int 0, .int 0, .int 0, .int 0])), (q1, .inl (cI, 75, .inl (fun _ => 0)))] H := hP
  have hD : va_D A [(a, .inr (4, [.null, .null, .null, .null, .int 0, .null, .null, .int 0, .null, .null, .null, .int 0, .int 0, .int 0, .int 0, .int 0])), (q1, .inl (cI, 75, .inl (fun _ => 0)))] := hD
  refine W.widen (k := 1) (n := 75) (by omega) (by omega) ?_
  refine va_putF (D := D) (ci := 4) (v := .ref q1) (ty := .array .int) (C := RX5) (T := TX5) (N := 16) hx hb hG (uw_ok (c := 4) (by omega)) tyX5 tyX5_ok nmX5 hown hK hP hD hS 0 rfl rfl 0 (by decide) (hG _ ci_f_RX5_7) (fun _ h9 => h9) rfl hin rfl (by decide +kernel) rfl rfl (Nat.le_of_ble_eq_true rfl) dX5_init_9 (fun H locs hP hD hS => ?_)
  have hP : va_P D clz [(a, .inr (4, [.ref q1, .null, .null, .null, .int 0, .null, .null, .int 0, .null, .null, .null, .int 0, .int 0, .int 0, .int 0, .int 0])), (q1, .inl (cI, 75, .inl (fun _ => 0)))] H := hP
  have hD : va_D A [(a, .inr (4, [.ref q1, .null, .null, .null, .int 0, .null, .null, .int 0, .null, .null, .null, .int 0, .int 0, .int 0, .int 0, .int 0])), (q1, .inl (cI, 75, .inl (fun _ => 0)))] := hD
  refine lv_aload_n hx hb dX5_init_12 rfl (lv_at hl 0 rfl) ?_
  refine lv_bipush (v := 75) hx hb dX5_init_13 (by decide) ?_
  refine nw_I hx hb (hG _ ci_ar_int) hK hP hD hS hA (fun _ => 0) rfl (N' := 75) (by decide) (by decide) (Nat.le_of_ble_eq_true rfl) (show 2 ≤ 9 by decide) (show 150 ≤ 596 by decide) dX5_init_15 (fun q2 H hP hD hS => ?_)
  have hP : va_P D clz [(a, .inr (4, [.ref q1, .null, .null, .null, .int 0, .null, .null, .int 0, .null, .null, .null, .int 0, .int 0, .int 0, .int 0, .int 0])), (q1, .inl (cI, 75, .inl (fun _ => 0))), (q2, .inl (cI, 75, .inl (fun _ => 0)))] H := hP
  have hD : va_D A [(a, .inr (4, [.ref q1, .null, .null, .null, .int 0, .null, .null, .int 0, .null, .null, .null, .int 0, .int 0, .int 0, .int 0, .int 0])), (q1, .inl (cI, 75, .inl (fun _ => 0))), (q2, .inl (cI, 75, .inl (fun _ => 0)))] := hD
  refine W.widen (k := 2) (n := 150) (by omega) (by omega) ?_
  refine va_putF (D := D) (ci := 4) (v := .ref q2) (ty := .array .int) (C := RX5) (T := TX5) (N := 16) hx hb hG (uw_ok (c := 4) (by omega)) tyX5 tyX5_ok nmX5 hown hK hP hD hS 0 rfl rfl 1 (by decide) (hG _ ci_f_RX5_13) (fun _ h9 => h9) rfl hin rfl (by decide +kernel) rfl rfl (Nat.le_of_ble_eq_true rfl) dX5_init_17 (fun H locs hP hD hS => ?_)
  have hP : va_P D clz [(a, .inr (4, [.ref q1, .ref q2, .null, .null, .int 0, .null, .null, .int 0, .null, .null, .null, .int 0, .int 0, .int 0, .int 0, .int 0])), (q1, .inl (cI, 75, .inl (fun _ => 0))), (q2, .inl (cI, 75, .inl (fun _ => 0)))] H := hP
  have hD : va_D A [(a, .inr (4, [.ref q1, .ref q2, .null, .null, .int 0, .null, .null, .int 0, .null, .null, .null, .int 0, .int 0, .int 0, .int 0, .int 0])), (q1, .inl (cI, 75, .inl (fun _ => 0))), (q2, .inl (cI, 75, .inl (fun _ => 0)))] := hD
  refine lv_aload_n hx hb dX5_init_20 rfl (lv_at hl 0 rfl) ?_
  refine lv_bipush (v := 75) hx hb dX5_init_21 (by decide) ?_
  refine nw_I hx hb (hG _ ci_ar_int) hK hP hD hS hA (fun _ => 0) rfl (N' := 75) (by decide) (by decide) (Nat.le_of_ble_eq_true rfl) (show 3 ≤ 9 by decide) (show 225 ≤ 596 by decide) dX5_init_23 (fun q3 H hP hD hS => ?_)
  have hP : va_P D clz [(a, .inr (4, [.ref q1, .ref q2, .null, .null, .int 0, .null, .null, .int 0, .null, .null, .null, .int 0, .int 0, .int 0, .int 0, .int 0])), (q1, .inl (cI, 75, .inl (fun _ => 0))), (q2, .inl (cI, 75, .inl (fun _ => 0))), (q3, .inl (cI, 75, .inl (fun _ => 0)))] H := hP
  have hD : va_D A [(a, .inr (4, [.ref q1, .ref q2, .null, .null, .int 0, .null, .null, .int 0, .null, .null, .null, .int 0, .int 0, .int 0, .int 0, .int 0])), (q1, .inl (cI, 75, .inl (fun _ => 0))), (q2, .inl (cI, 75, .inl (fun _ => 0))), (q3, .inl (cI, 75, .inl (fun _ => 0)))] := hD
  refine W.widen (k := 3) (n := 225) (by omega) (by omega) ?_
  refine va_putF (D := D) (ci := 4) (v := .ref q3) (ty := .array .int) (C := RX5) (T := TX5) (N := 16) hx hb hG (uw_ok (c := 4) (by omega)) tyX5 tyX5_ok nmX5 hown hK hP hD hS 0 rfl rfl 2 (by decide) (hG _ ci_f_RX5_16) (fun _ h9 => h9) rfl hin rfl (by decide +kernel) rfl rfl (Nat.le_of_ble_eq_true rfl) dX5_init_25 (fun H locs hP hD hS => ?_)
  have hP : va_P D clz [(a, .inr (4, [.ref q1, .ref q2, .ref q3, .null, .int 0, .null, .null, .int 0, .null, .null, .null, .int 0, .int 0, .int 0, .int 0, .int 0])), (q1, .inl (cI, 75, .inl (fun _ => 0))), (q2, .inl (cI, 75, .inl (fun _ => 0))), (q3, .inl (cI, 75, .inl (fun _ => 0)))] H := hP
  have hD : va_D A [(a, .inr (4, [.ref q1, .ref q2, .ref q3, .null, .int 0, .null, .null, .int 0, .null, .null, .null, .int 0, .int 0, .int 0, .int 0, .int 0])), (q1, .inl (cI, 75, .inl (fun _ => 0))), (q2, .inl (cI, 75, .inl (fun _ => 0))), (q3, .inl (cI, 75, .inl (fun _ => 0)))] := hD
  refine lv_aload_n hx hb dX5_init_28 rfl (lv_at hl 0 rfl) ?_
  refine lv_bipush (v := 75) hx hb dX5_init_29 (by decide) ?_
  refine nw_I hx hb (hG _ ci_ar_int) hK hP hD hS hA (fun _ => 0) rfl (N' := 75) (by decide) (by decide) (Nat.le_of_ble_eq_true rfl) (show 4 ≤ 9 by decide) (show 300 ≤ 596 by decide) dX5_init_31 (fun q4 H hP hD hS => ?_)
  have hP : va_P D clz [(a, .inr (4, [.ref q1, .ref q2, .ref q3, .null, .int 0, .null, .null, .int 0, .null, .null, .null, .int 0, .int 0, .int 0, .int 0, .int 0])), (q1, .inl (cI, 75, .inl (fun _ => 0))), (q2, .inl (cI, 75, .inl (fun _ => 0))), (q3, .inl (cI, 75, .inl (fun _ => 0))), (q4, .inl (cI, 75, .inl (fun _ => 0)))] H := hP
  have hD : va_D A [(a, .inr (4, [.ref q1, .ref q2, .ref q3, .null, .int 0, .null, .null, .int 0, .null, .null, .null, .int 0, .int 0, .int 0, .int 0, .int 0])), (q1, .inl (cI, 75, .inl (fun _ => 0))), (q2, .inl (cI, 75, .inl (fun _ => 0))), (q3, .inl (cI, 75, .inl (fun _ => 0))), (q4, .inl (cI, 75, .inl (fun _ => 0)))] := hD
  refine W.widen (k := 4) (n := 300) (by omega) (by omega) ?_
  refine va_putF (D := D) (ci := 4) (v := .ref q4) (ty := .array .int) (C := RX5) (T := TX5) (N := 16) hx hb hG (uw_ok (c := 4) (by omega)) tyX5 tyX5_ok nmX5 hown hK hP hD hS 0 rfl rfl 3 (by decide) (hG _ ci_f_RX5_19) (fun _ h9 => h9) rfl hin rfl (by decide +kernel) rfl rfl (Nat.le_of_ble_eq_true rfl) dX5_init_33 (fun H locs hP hD hS => ?_)
  have hP : va_P D clz [(a, .inr (4, [.ref q1, .ref q2, .ref q3, .ref q4, .int 0, .null, .null, .int 0, .null, .null, .null, .int 0, .int 0, .int 0, .int 0, .int 0])), (q1, .inl (cI, 75, .inl (fun _ => 0))), (q2, .inl (cI, 75, .inl (fun _ => 0))), (q3, .inl (cI, 75, .inl (fun _ => 0))), (q4, .inl (cI, 75, .inl (fun _ => 0)))] H := hP
  have hD : va_D A [(a, .inr (4, [.ref q1, .ref q2, .ref q3, .ref q4, .int 0, .null, .null, .int 0, .null, .null, .null, .int 0, .int 0, .int 0, .int 0, .int 0])), (q1, .inl (cI, 75, .inl (fun _ => 0))), (q2, .inl (cI, 75, .inl (fun _ => 0))), (q3, .inl (cI, 75, .inl (fun _ => 0))), (q4, .inl (cI, 75, .inl (fun _ => 0)))] := hD
  refine lv_aload_n hx hb dX5_init_36 rfl (lv_at hl 0 rfl) ?_
  refine lv_bipush (v := 8) hx hb dX5_init_37 (by decide) ?_
  refine nw_I hx hb (hG _ ci_ar_int) hK hP hD hS hA (fun _ => 0) rfl (N' := 8) (by decide) (by decide) (Nat.le_of_ble_eq_true rfl) (show 5 ≤ 9 by decide) (show 308 ≤ 596 by decide) dX5_init_39 (fun q5 H hP hD hS => ?_)
  have hP : va_P D clz [(a, .inr (4, [.ref q1, .ref q2, .ref q3, .ref q4, .int 0, .null, .null, .int 0, .null, .null, .null, .int 0, .int 0, .int 0, .int 0, .int 0])), (q1, .inl (cI, 75, .inl (fun _ => 0))), (q2, .inl (cI, 75, .inl (fun _ => 0))), (q3, .inl (cI, 75, .inl (fun _ => 0))), (q4, .inl (cI, 75, .inl (fun _ => 0))), (q5, .inl (cI, 8, .inl (fun _ => 0)))] H := hP
  have hD : va_D A [(a, .inr (4, [.ref q1, .ref q2, .ref q3, .ref q4, .int 0, .null, .null, .int 0, .null, .null, .null, .int 0, .int 0, .int 0, .int 0, .int 0])), (q1, .inl (cI, 75, .inl (fun _ => 0))), (q2, .inl (cI, 75, .inl (fun _ => 0))), (q3, .inl (cI, 75, .inl (fun _ => 0))), (q4, .inl (cI, 75, .inl (fun _ => 0))), (q5, .inl (cI, 8, .inl (fun _ => 0)))] := hD
  refine W.widen (k := 5) (n := 308) (by omega) (by omega) ?_
  refine va_putF (D := D) (ci := 4) (v := .ref q5) (ty := .array .int) (C := RX5) (T := TX5) (N := 16) hx hb hG (uw_ok (c := 4) (by omega)) tyX5 tyX5_ok nmX5 hown hK hP hD hS 0 rfl rfl 5 (by decide) (hG _ ci_f_RX5_22) (fun _ h9 => h9) rfl hin rfl (by decide +kernel) rfl rfl (Nat.le_of_ble_eq_true rfl) dX5_init_41 (fun H locs hP hD hS => ?_)
  have hP : va_P D clz [(a, .inr (4, [.ref q1, .ref q2, .ref q3, .ref q4, .int 0, .ref q5, .null, .int 0, .null, .null, .null, .int 0, .int 0, .int 0, .int 0, .int 0])), (q1, .inl (cI, 75, .inl (fun _ => 0))), (q2, .inl (cI, 75, .inl (fun _ => 0))), (q3, .inl (cI, 75, .inl (fun _ => 0))), (q4, .inl (cI, 75, .inl (fun _ => 0))), (q5, .inl (cI, 8, .inl (fun _ => 0)))] H := hP
  have hD : va_D A [(a, .inr (4, [.ref q1, .ref q2, .ref q3, .ref q4, .int 0, .ref q5, .null, .int 0, .null, .null, .null, .int 0, .int 0, .int 0, .int 0, .int 0])), (q1, .inl (cI, 75, .inl (fun _ => 0))), (q2, .inl (cI, 75, .inl (fun _ => 0))), (q3, .inl (cI, 75, .inl (fun _ => 0))), (q4, .inl (cI, 75, .inl (fun _ => 0))), (q5, .inl (cI, 8, .inl (fun _ => 0)))] := hD
  refine lv_aload_n hx hb dX5_init_44 rfl (lv_at hl 0 rfl) ?_
  refine lv_bipush (v := 120) hx hb dX5_init_45 (by decide) ?_
  refine nw_I hx hb (hG _ ci_ar_int) hK hP hD hS hA (fun _ => 0) rfl (N' := 120) (by decide) (by decide) (Nat.le_of_ble_eq_true rfl) (show 6 ≤ 9 by decide) (show 428 ≤ 596 by decide) dX5_init_47 (fun q6 H hP hD hS => ?_)
  have hP : va_P D clz [(a, .inr (4, [.ref q1, .ref q2, .ref q3, .ref q4, .int 0, .ref q5, .null, .int 0, .null, .null, .null, .int 0, .int 0, .int 0, .int 0, .int 0])), (q1, .inl (cI, 75, .inl (fun _ => 0))), (q2, .inl (cI, 75, .inl (fun _ => 0))), (q3, .inl (cI, 75, .inl (fun _ => 0))), (q4, .inl (cI, 75, .inl (fun _ => 0))), (q5, .inl (cI, 8, .inl (fun _ => 0))), (q6, .inl (cI, 120, .inl (fun _ => 0)))] H := hP
  have hD : va_D A [(a, .inr (4, [.ref q1, .ref q2, .ref q3, .ref q4, .int 0, .ref q5, .null, .int 0, .null, .null, .null, .int 0, .int 0, .int 0, .int 0, .int 0])), (q1, .inl (cI, 75, .inl (fun _ => 0))), (q2, .inl (cI, 75, .inl (fun _ => 0))), (q3, .inl (cI, 75, .inl (fun _ => 0))), (q4, .inl (cI, 75, .inl (fun _ => 0))), (q5, .inl (cI, 8, .inl (fun _ => 0))), (q6, .inl (cI, 120, .inl (fun _ => 0)))] := hD
  refine W.widen (k := 6) (n := 428) (by omega) (by omega) ?_
  refine va_putF (D := D) (ci := 4) (v := .ref q6) (ty := .array .int) (C := RX5) (T := TX5) (N := 16) hx hb hG (uw_ok (c := 4) (by omega)) tyX5 tyX5_ok nmX5 hown hK hP hD hS 0 rfl rfl 6 (by decide) (hG _ ci_f_RX5_25) (fun _ h9 => h9) rfl hin rfl (by decide +kernel) rfl rfl (Nat.le_of_ble_eq_true rfl) dX5_init_49 (fun H locs hP hD hS => ?_)
  have hP : va_P D clz [(a, .inr (4, [.ref q1, .ref q2, .ref q3, .ref q4, .int 0, .ref q5, .ref q6, .int 0, .null, .null, .null, .int 0, .int 0, .int 0, .int 0, .int 0])), (q1, .inl (cI, 75, .inl (fun _ => 0))), (q2, .inl (cI, 75, .inl (fun _ => 0))), (q3, .inl (cI, 75, .inl (fun _ => 0))), (q4, .inl (cI, 75, .inl (fun _ => 0))), (q5, .inl (cI, 8, .inl (fun _ => 0))), (q6, .inl (cI, 120, .inl (fun _ => 0)))] H := hP
  have hD : va_D A [(a, .inr (4, [.ref q1, .ref q2, .ref q3, .ref q4, .int 0, .ref q5, .ref q6, .int 0, .null, .null, .null, .int 0, .int 0, .int 0, .int 0, .int 0])), (q1, .inl (cI, 75, .inl (fun _ => 0))), (q2, .inl (cI, 75, .inl (fun _ => 0))), (q3, .inl (cI, 75, .inl (fun _ => 0))), (q4, .inl (cI, 75, .inl (fun _ => 0))), (q5, .inl (cI, 8, .inl (fun _ => 0))), (q6, .inl (cI, 120, .inl (fun _ => 0)))] := hD
  refine lv_aload_n hx hb dX5_init_52 rfl (lv_at hl 0 rfl) ?_
  refine lv_iconst (v := 4) hx hb dX5_init_53 (by decide) ?_
  refine nw_I hx hb (hG _ ci_ar_int) hK hP hD hS hA (fil (-1) 0) (fil_0 (-1)) (N' := 4) (by decide) (by decide) (Nat.le_of_ble_eq_true rfl) (show 7 ≤ 9 by decide) (show 432 ≤ 596 by decide) dX5_init_54 (fun q7 H hP hD hS => ?_)
  have hP : va_P D clz [(a, .inr (4, [.ref q1, .ref q2, .ref q3, .ref q4, .int 0, .ref q5, .ref q6, .int 0, .null, .null, .null, .int 0, .int 0, .int 0, .int 0, .int 0])), (q1, .inl (cI, 75, .inl (fun _ => 0))), (q2, .inl (cI, 75, .inl (fun _ => 0))), (q3, .inl (cI, 75, .inl (fun _ => 0))), (q4, .inl (cI, 75, .inl (fun _ => 0))), (q5, .inl (cI, 8, .inl (fun _ => 0))), (q6, .inl (cI, 120, .inl (fun _ => 0))), (q7, .inl (cI, 4, .inl (fil (-1) 0)))] H := hP
  have hD : va_D A [(a, .inr (4, [.ref q1, .ref q2, .ref q3, .ref q4, .int 0, .ref q5, .ref q6, .int 0, .null, .null, .null, .int 0, .int 0, .int 0, .int 0, .int 0])), (q1, .inl (cI, 75, .inl (fun _ => 0))), (q2, .inl (cI, 75, .inl (fun _ => 0))), (q3, .inl (cI, 75, .inl (fun _ => 0))), (q4, .inl (cI, 75, .inl (fun _ => 0))), (q5, .inl (cI, 8, .inl (fun _ => 0))), (q6, .inl (cI, 120, .inl (fun _ => 0))), (q7, .inl (cI, 4, .inl (fil (-1) 0)))] := hD
  refine W.widen (k := 7) (n := 432) (by omega) (by omega) ?_
  refine lv_dup hx hb dX5_init_56 rfl ?_
  refine lv_iconst (v := nI 0) hx hb dX5_init_57 (by decide) ?_
  refine lv_iconst (v := -1) hx hb dX5_init_58 (by decide) ?_
  refine va_iast hx hb hK hP hD hS 7 0 rfl rfl (vp_in_nI (show 0 < 4 by omega) (by omega)) dX5_init_59 (fun H locs hP hD hS => ?_)
  rw [nI_clamp (by omega), upd_fil] at hP hD
  have hP : va_P D clz [(a, .inr (4, [.ref q1, .ref q2, .ref q3, .ref q4, .int 0, .ref q5, .ref q6, .int 0, .null, .null, .null, .int 0, .int 0, .int 0, .int 0, .int 0])), (q1, .inl (cI, 75, .inl (fun _ => 0))), (q2, .inl (cI, 75, .inl (fun _ => 0))), (q3, .inl (cI, 75, .inl (fun _ => 0))), (q4, .inl (cI, 75, .inl (fun _ => 0))), (q5, .inl (cI, 8, .inl (fun _ => 0))), (q6, .inl (cI, 120, .inl (fun _ => 0))), (q7, .inl (cI, 4, .inl (fil (-1) 1)))] H := hP
  have hD : va_D A [(a, .inr (4, [.ref q1, .ref q2, .ref q3, .ref q4, .int 0, .ref q5, .ref q6, .int 0, .null, .null, .null, .int 0, .int 0, .int 0, .int 0, .int 0])), (q1, .inl (cI, 75, .inl (fun _ => 0))), (q2, .inl (cI, 75, .inl (fun _ => 0))), (q3, .inl (cI, 75, .inl (fun _ => 0))), (q4, .inl (cI, 75, .inl (fun _ => 0))), (q5, .inl (cI, 8, .inl (fun _ => 0))), (q6, .inl (cI, 120, .inl (fun _ => 0))), (q7, .inl (cI, 4, .inl (fil (-1) 1)))] := hD
  refine lv_dup hx hb dX5_init_60 rfl ?_
  refine lv_iconst (v := nI 1) hx hb dX5_init_61 (by decide) ?_
  refine lv_iconst (v := -1) hx hb dX5_init_62 (by decide) ?_
  refine va_iast hx hb hK hP hD hS 7 0 rfl rfl (vp_in_nI (show 1 < 4 by omega) (by omega)) dX5_init_63 (fun H locs hP hD hS => ?_)
  rw [nI_clamp (by omega), upd_fil] at hP hD
  have hP : va_P D clz [(a, .inr (4, [.ref q1, .ref q2, .ref q3, .ref q4, .int 0, .ref q5, .ref q6, .int 0, .null, .null, .null, .int 0, .int 0, .int 0, .int 0, .int 0])), (q1, .inl (cI, 75, .inl (fun _ => 0))), (q2, .inl (cI, 75, .inl (fun _ => 0))), (q3, .inl (cI, 75, .inl (fun _ => 0))), (q4, .inl (cI, 75, .inl (fun _ => 0))), (q5, .inl (cI, 8, .inl (fun _ => 0))), (q6, .inl (cI, 120, .inl (fun _ => 0))), (q7, .inl (cI, 4, .inl (fil (-1) 2)))] H := hP
  have hD : va_D A [(a, .inr (4, [.ref q1, .ref q2, .ref q3, .ref q4, .int 0, .ref q5, .ref q6, .int 0, .null, .null, .null, .int 0, .int 0, .int 0, .int 0, .int 0])), (q1, .inl (cI, 75, .inl (fun _ => 0))), (q2, .inl (cI, 75, .inl (fun _ => 0))), (q3, .inl (cI, 75, .inl (fun _ => 0))), (q4, .inl (cI, 75, .inl (fun _ => 0))), (q5, .inl (cI, 8, .inl (fun _ => 0))), (q6, .inl (cI, 120, .inl (fun _ => 0))), (q7, .inl (cI, 4, .inl (fil (-1) 2)))] := hD
  refine lv_dup hx hb dX5_init_64 rfl ?_
  refine lv_iconst (v := nI 2) hx hb dX5_init_65 (by decide) ?_
  refine lv_iconst (v := -1) hx hb dX5_init_66 (by decide) ?_
  refine va_iast hx hb hK hP hD hS 7 0 rfl rfl (vp_in_nI (show 2 < 4 by omega) (by omega)) dX5_init_67 (fun H locs hP hD hS => ?_)
  rw [nI_clamp (by omega), upd_fil] at hP hD
  have hP : va_P D clz [(a, .inr (4, [.ref q1, .ref q2, .ref q3, .ref q4, .int 0, .ref q5, .ref q6, .int 0, .null, .null, .null, .int 0, .int 0, .int 0, .int 0, .int 0])), (q1, .inl (cI, 75, .inl (fun _ => 0))), (q2, .inl (cI, 75, .inl (fun _ => 0))), (q3, .inl (cI, 75, .inl (fun _ => 0))), (q4, .inl (cI, 75, .inl (fun _ => 0))), (q5, .inl (cI, 8, .inl (fun _ => 0))), (q6, .inl (cI, 120, .inl (fun _ => 0))), (q7, .inl (cI, 4, .inl (fil (-1) 3)))] H := hP
  have hD : va_D A [(a, .inr (4, [.ref q1, .ref q2, .ref q3, .ref q4, .int 0, .ref q5, .ref q6, .int 0, .null, .null, .null, .int 0, .int 0, .int 0, .int 0, .int 0])), (q1, .inl (cI, 75, .inl (fun _ => 0))), (q2, .inl (cI, 75, .inl (fun _ => 0))), (q3, .inl (cI, 75, .inl (fun _ => 0))), (q4, .inl (cI, 75, .inl (fun _ => 0))), (q5, .inl (cI, 8, .inl (fun _ => 0))), (q6, .inl (cI, 120, .inl (fun _ => 0))), (q7, .inl (cI, 4, .inl (fil (-1) 3)))] := hD
  refine lv_dup hx hb dX5_init_68 rfl ?_
  refine lv_iconst (v := nI 3) hx hb dX5_init_69 (by decide) ?_
  refine lv_iconst (v := -1) hx hb dX5_init_70 (by decide) ?_
  refine va_iast hx hb hK hP hD hS 7 0 rfl rfl (vp_in_nI (show 3 < 4 by omega) (by omega)) dX5_init_71 (fun H locs hP hD hS => ?_)
  rw [nI_clamp (by omega), upd_fil] at hP hD
  have hP : va_P D clz [(a, .inr (4, [.ref q1, .ref q2, .ref q3, .ref q4, .int 0, .ref q5, .ref q6, .int 0, .null, .null, .null, .int 0, .int 0, .int 0, .int 0, .int 0])), (q1, .inl (cI, 75, .inl (fun _ => 0))), (q2, .inl (cI, 75, .inl (fun _ => 0))), (q3, .inl (cI, 75, .inl (fun _ => 0))), (q4, .inl (cI, 75, .inl (fun _ => 0))), (q5, .inl (cI, 8, .inl (fun _ => 0))), (q6, .inl (cI, 120, .inl (fun _ => 0))), (q7, .inl (cI, 4, .inl (fil (-1) 4)))] H := hP
  have hD : va_D A [(a, .inr (4, [.ref q1, .ref q2, .ref q3, .ref q4, .int 0, .ref q5, .ref q6, .int 0, .null, .null, .null, .int 0, .int 0, .int 0, .int 0, .int 0])), (q1, .inl (cI, 75, .inl (fun _ => 0))), (q2, .inl (cI, 75, .inl (fun _ => 0))), (q3, .inl (cI, 75, .inl (fun _ => 0))), (q4, .inl (cI, 75, .inl (fun _ => 0))), (q5, .inl (cI, 8, .inl (fun _ => 0))), (q6, .inl (cI, 120, .inl (fun _ => 0))), (q7, .inl (cI, 4, .inl (fil (-1) 4)))] := hD
  refine va_putF (D := D) (ci := 4) (v := .ref q7) (ty := .array .int) (C := RX5) (T := TX5) (N := 16) hx hb hG (uw_ok (c := 4) (by omega)) tyX5 tyX5_ok nmX5 hown hK hP hD hS 0 rfl rfl 8 (by decide) (hG _ ci_f_RX5_28) (fun _ h9 => h9) rfl hin rfl (by decide +kernel) rfl rfl (Nat.le_of_ble_eq_true rfl) dX5_init_72 (fun H locs hP hD hS => ?_)
  have hP : va_P D clz [(a, .inr (4, [.ref q1, .ref q2, .ref q3, .ref q4, .int 0, .ref q5, .ref q6, .int 0, .ref q7, .null, .null, .int 0, .int 0, .int 0, .int 0, .int 0])), (q1, .inl (cI, 75, .inl (fun _ => 0))), (q2, .inl (cI, 75, .inl (fun _ => 0))), (q3, .inl (cI, 75, .inl (fun _ => 0))), (q4, .inl (cI, 75, .inl (fun _ => 0))), (q5, .inl (cI, 8, .inl (fun _ => 0))), (q6, .inl (cI, 120, .inl (fun _ => 0))), (q7, .inl (cI, 4, .inl (fil (-1) 4)))] H := hP
  have hD : va_D A [(a, .inr (4, [.ref q1, .ref q2, .ref q3, .ref q4, .int 0, .ref q5, .ref q6, .int 0, .ref q7, .null, .null, .int 0, .int 0, .int 0, .int 0, .int 0])), (q1, .inl (cI, 75, .inl (fun _ => 0))), (q2, .inl (cI, 75, .inl (fun _ => 0))), (q3, .inl (cI, 75, .inl (fun _ => 0))), (q4, .inl (cI, 75, .inl (fun _ => 0))), (q5, .inl (cI, 8, .inl (fun _ => 0))), (q6, .inl (cI, 120, .inl (fun _ => 0))), (q7, .inl (cI, 4, .inl (fil (-1) 4)))] := hD
  refine lv_aload_n hx hb dX5_init_75 rfl (lv_at hl 0 rfl) ?_
  refine lv_iconst (v := 4) hx hb dX5_init_76 (by decide) ?_
  refine nw_I hx hb (hG _ ci_ar_int) hK hP hD hS hA (fun _ => 0) rfl (N' := 4) (by decide) (by decide) (Nat.le_of_ble_eq_true rfl) (show 8 ≤ 9 by decide) (show 436 ≤ 596 by decide) dX5_init_77 (fun q8 H hP hD hS => ?_)
  have hP : va_P D clz [(a, .inr (4, [.ref q1, .ref q2, .ref q3, .ref q4, .int 0, .ref q5, .ref q6, .int 0, .ref q7, .null, .null, .int 0, .int 0, .int 0, .int 0, .int 0])), (q1, .inl (cI, 75, .inl (fun _ => 0))), (q2, .inl (cI, 75, .inl (fun _ => 0))), (q3, .inl (cI, 75, .inl (fun _ => 0))), (q4, .inl (cI, 75, .inl (fun _ => 0))), (q5, .inl (cI, 8, .inl (fun _ => 0))), (q6, .inl (cI, 120, .inl (fun _ => 0))), (q7, .inl (cI, 4, .inl (fil (-1) 4))), (q8, .inl (cI, 4, .inl (fun _ => 0)))] H := hP
  have hD : va_D A [(a, .inr (4, [.ref q1, .ref q2, .ref q3, .ref q4, .int 0, .ref q5, .ref q6, .int 0, .ref q7, .null, .null, .int 0, .int 0, .int 0, .int 0, .int 0])), (q1, .inl (cI, 75, .inl (fun _ => 0))), (q2, .inl (cI, 75, .inl (fun _ => 0))), (q3, .inl (cI, 75, .inl (fun _ => 0))), (q4, .inl (cI, 75, .inl (fun _ => 0))), (q5, .inl (cI, 8, .inl (fun _ => 0))), (q6, .inl (cI, 120, .inl (fun _ => 0))), (q7, .inl (cI, 4, .inl (fil (-1) 4))), (q8, .inl (cI, 4, .inl (fun _ => 0)))] := hD
  refine W.widen (k := 8) (n := 436) (by omega) (by omega) ?_
  refine va_putF (D := D) (ci := 4) (v := .ref q8) (ty := .array .int) (C := RX5) (T := TX5) (N := 16) hx hb hG (uw_ok (c := 4) (by omega)) tyX5 tyX5_ok nmX5 hown hK hP hD hS 0 rfl rfl 9 (by decide) (hG _ ci_f_RX5_31) (fun _ h9 => h9) rfl hin rfl (by decide +kernel) rfl rfl (Nat.le_of_ble_eq_true rfl) dX5_init_79 (fun H locs hP hD hS => ?_)
  have hP : va_P D clz [(a, .inr (4, [.ref q1, .ref q2, .ref q3, .ref q4, .int 0, .ref q5, .ref q6, .int 0, .ref q7, .ref q8, .null, .int 0, .int 0, .int 0, .int 0, .int 0])), (q1, .inl (cI, 75, .inl (fun _ => 0))), (q2, .inl (cI, 75, .inl (fun _ => 0))), (q3, .inl (cI, 75, .inl (fun _ => 0))), (q4, .inl (cI, 75, .inl (fun _ => 0))), (q5, .inl (cI, 8, .inl (fun _ => 0))), (q6, .inl (cI, 120, .inl (fun _ => 0))), (q7, .inl (cI, 4, .inl (fil (-1) 4))), (q8, .inl (cI, 4, .inl (fun _ => 0)))] H := hP
  have hD : va_D A [(a, .inr (4, [.ref q1, .ref q2, .ref q3, .ref q4, .int 0, .ref q5, .ref q6, .int 0, .ref q7, .ref q8, .null, .int 0, .int 0, .int 0, .int 0, .int 0])), (q1, .inl (cI, 75, .inl (fun _ => 0))), (q2, .inl (cI, 75, .inl (fun _ => 0))), (q3, .inl (cI, 75, .inl (fun _ => 0))), (q4, .inl (cI, 75, .inl (fun _ => 0))), (q5, .inl (cI, 8, .inl (fun _ => 0))), (q6, .inl (cI, 120, .inl (fun _ => 0))), (q7, .inl (cI, 4, .inl (fil (-1) 4))), (q8, .inl (cI, 4, .inl (fun _ => 0)))] := hD
  refine lv_aload_n hx hb dX5_init_82 rfl (lv_at hl 0 rfl) ?_
  refine lv_sipush (v := 160) hx hb dX5_init_83 (by decide) ?_
  refine nw_I hx hb (hG _ ci_ar_int) hK hP hD hS hA (fun _ => 0) rfl (N' := 160) (by decide) (by decide) (Nat.le_of_ble_eq_true rfl) (show 9 ≤ 9 by decide) (show 596 ≤ 596 by decide) dX5_init_86 (fun q9 H hP hD hS => ?_)
  have hP : va_P D clz [(a, .inr (4, [.ref q1, .ref q2, .ref q3, .ref q4, .int 0, .ref q5, .ref q6, .int 0, .ref q7, .ref q8, .null, .int 0, .int 0, .int 0, .int 0, .int 0])), (q1, .inl (cI, 75, .inl (fun _ => 0))), (q2, .inl (cI, 75, .inl (fun _ => 0))), (q3, .inl (cI, 75, .inl (fun _ => 0))), (q4, .inl (cI, 75, .inl (fun _ => 0))), (q5, .inl (cI, 8, .inl (fun _ => 0))), (q6, .inl (cI, 120, .inl (fun _ => 0))), (q7, .inl (cI, 4, .inl (fil (-1) 4))), (q8, .inl (cI, 4, .inl (fun _ => 0))), (q9, .inl (cI, 160, .inl (fun _ => 0)))] H := hP
  have hD : va_D A [(a, .inr (4, [.ref q1, .ref q2, .ref q3, .ref q4, .int 0, .ref q5, .ref q6, .int 0, .ref q7, .ref q8, .null, .int 0, .int 0, .int 0, .int 0, .int 0])), (q1, .inl (cI, 75, .inl (fun _ => 0))), (q2, .inl (cI, 75, .inl (fun _ => 0))), (q3, .inl (cI, 75, .inl (fun _ => 0))), (q4, .inl (cI, 75, .inl (fun _ => 0))), (q5, .inl (cI, 8, .inl (fun _ => 0))), (q6, .inl (cI, 120, .inl (fun _ => 0))), (q7, .inl (cI, 4, .inl (fil (-1) 4))), (q8, .inl (cI, 4, .inl (fun _ => 0))), (q9, .inl (cI, 160, .inl (fun _ => 0)))] := hD
  refine W.widen (k := 9) (n := 596) (by omega) (by omega) ?_
  refine va_putF (D := D) (ci := 4) (v := .ref q9) (ty := .array .int) (C := RX5) (T := TX5) (N := 16) hx hb hG (uw_ok (c := 4) (by omega)) tyX5 tyX5_ok nmX5 hown hK hP hD hS 0 rfl rfl 10 (by decide) (hG _ ci_f_RX5_34) (fun _ h9 => h9) rfl hin rfl (by decide +kernel) rfl rfl (Nat.le_of_ble_eq_true rfl) dX5_init_88 (fun H locs hP hD hS => ?_)
  have hP : va_P D clz [(a, .inr (4, [.ref q1, .ref q2, .ref q3, .ref q4, .int 0, .ref q5, .ref q6, .int 0, .ref q7, .ref q8, .ref q9, .int 0, .int 0, .int 0, .int 0, .int 0])), (q1, .inl (cI, 75, .inl (fun _ => 0))), (q2, .inl (cI, 75, .inl (fun _ => 0))), (q3, .inl (cI, 75, .inl (fun _ => 0))), (q4, .inl (cI, 75, .inl (fun _ => 0))), (q5, .inl (cI, 8, .inl (fun _ => 0))), (q6, .inl (cI, 120, .inl (fun _ => 0))), (q7, .inl (cI, 4, .inl (fil (-1) 4))), (q8, .inl (cI, 4, .inl (fun _ => 0))), (q9, .inl (cI, 160, .inl (fun _ => 0)))] H := hP
  have hD : va_D A [(a, .inr (4, [.ref q1, .ref q2, .ref q3, .ref q4, .int 0, .ref q5, .ref q6, .int 0, .ref q7, .ref q8, .ref q9, .int 0, .int 0, .int 0, .int 0, .int 0])), (q1, .inl (cI, 75, .inl (fun _ => 0))), (q2, .inl (cI, 75, .inl (fun _ => 0))), (q3, .inl (cI, 75, .inl (fun _ => 0))), (q4, .inl (cI, 75, .inl (fun _ => 0))), (q5, .inl (cI, 8, .inl (fun _ => 0))), (q6, .inl (cI, 120, .inl (fun _ => 0))), (q7, .inl (cI, 4, .inl (fil (-1) 4))), (q8, .inl (cI, 4, .inl (fun _ => 0))), (q9, .inl (cI, 160, .inl (fun _ => 0)))] := hD
  refine lv_aload_n hx hb dX5_init_91 rfl (lv_at hl 0 rfl) ?_
  refine va_get (D := D) (ci := 4) (v := .ref q1) (C := RX5) (T := TX5) (N := 16) hx hb hG (uw_ok (c := 4) (by omega)) hown hK hP 0 rfl rfl 0 (by decide) (hG _ ci_f_RX5_7) (fun _ h9 => h9) rfl dX5_init_92 ?_
  refine lv_iconst (v := nI 2) hx hb dX5_init_95 (by decide) ?_
  refine lv_iconst (v := 1) hx hb dX5_init_96 (by decide) ?_
  refine va_iast hx hb hK hP hD hS 1 0 rfl rfl (vp_in_nI (show 2 < 75 by omega) (by omega)) dX5_init_97 (fun H locs hP hD hS => ?_)
  rw [nI_clamp (by omega), sm1_0] at hP hD
  have hP : va_P D clz [(a, .inr (4, [.ref q1, .ref q2, .ref q3, .ref q4, .int 0, .ref q5, .ref q6, .int 0, .ref q7, .ref q8, .ref q9, .int 0, .int 0, .int 0, .int 0, .int 0])), (q1, .inl (cI, 75, .inl (sm1 0))), (q2, .inl (cI, 75, .inl (fun _ => 0))), (q3, .inl (cI, 75, .inl (fun _ => 0))), (q4, .inl (cI, 75, .inl (fun _ => 0))), (q5, .inl (cI, 8, .inl (fun _ => 0))), (q6, .inl (cI, 120, .inl (fun _ => 0))), (q7, .inl (cI, 4, .inl (fil (-1) 4))), (q8, .inl (cI, 4, .inl (fun _ => 0))), (q9, .inl (cI, 160, .inl (fun _ => 0)))] H := hP
  have hD : va_D A [(a, .inr (4, [.ref q1, .ref q2, .ref q3, .ref q4, .int 0, .ref q5, .ref q6, .int 0, .ref q7, .ref q8, .ref q9, .int 0, .int 0, .int 0, .int 0, .int 0])), (q1, .inl (cI, 75, .inl (sm1 0))), (q2, .inl (cI, 75, .inl (fun _ => 0))), (q3, .inl (cI, 75, .inl (fun _ => 0))), (q4, .inl (cI, 75, .inl (fun _ => 0))), (q5, .inl (cI, 8, .inl (fun _ => 0))), (q6, .inl (cI, 120, .inl (fun _ => 0))), (q7, .inl (cI, 4, .inl (fil (-1) 4))), (q8, .inl (cI, 4, .inl (fun _ => 0))), (q9, .inl (cI, 160, .inl (fun _ => 0)))] := hD
  have loop2 : ∀ (n k : Nat) (H : Heap) (locs : List Loc) (ls : Array Slot), n + k = 10 → va_P D clz [(a, .inr (4, [.ref q1, .ref q2, .ref q3, .ref q4, .int 0, .ref q5, .ref q6, .int 0, .ref q7, .ref q8, .ref q9, .int 0, .int 0, .int 0, .int 0, .int 0])), (q1, .inl (cI, 75, .inl (sm2 k))), (q2, .inl (cI, 75, .inl (fun _ => 0))), (q3, .inl (cI, 75, .inl (fun _ => 0))), (q4, .inl (cI, 75, .inl (fun _ => 0))), (q5, .inl (cI, 8, .inl (fun _ => 0))), (q6, .inl (cI, 120, .inl (fun _ => 0))), (q7, .inl (cI, 4, .inl (fil (-1) 4))), (q8, .inl (cI, 4, .inl (fun _ => 0))), (q9, .inl (cI, 160, .inl (fun _ => 0)))] H → va_D A [(a, .inr (4, [.ref q1, .ref q2, .ref q3, .ref q4, .int 0, .ref q5, .ref q6, .int 0, .ref q7, .ref q8, .ref q9, .int 0, .int 0, .int 0, .int 0, .int 0])), (q1, .inl (cI, 75, .inl (sm2 k))), (q2, .inl (cI, 75, .inl (fun _ => 0))), (q3, .inl (cI, 75, .inl (fun _ => 0))), (q4, .inl (cI, 75, .inl (fun _ => 0))), (q5, .inl (cI, 8, .inl (fun _ => 0))), (q6, .inl (cI, 120, .inl (fun _ => 0))), (q7, .inl (cI, 4, .inl (fil (-1) 4))), (q8, .inl (cI, 4, .inl (fun _ => 0))), (q9, .inl (cI, 160, .inl (fun _ => 0)))] → va_S A s.heap H locs → lv_has ls 2 [(1, .int (nI k)), (0, .ref a)] → W p l e (headSpec (wJ yX5_init cX5_init 2 none) ({ frames := 1, cells := 9, slots := 596, locals := 12 })).room s m (([.ref a] : List Value).toArray) below meth c H locs 9 596 (MQ below (va_Qv (fun _ : Nat → Nat => True) (fun r t => va_P D clz (wMo cI a r) t.heap ∧ va_D A (wMo cI a r)) A) (([.ref a] : List Value).toArray) s 9 596 A) (F0 m 135 ls []) := by
    intro n
    induction n with
    | zero =>
      intro k H locs ls hk hP hD hS hl
      have e : k = 10 := by omega
      subst e
      refine lv_iload_n hx hb dX5_init_135 rfl (lv_at hl 0 rfl) ?_
      refine lv_bipush (v := nI 10) hx hb dX5_init_136 (by decide) ?_
      refine lv_icmp_ge (tgt := 157) hx hb dX5_init_138 (by decide) (fun _ => ?_) (fun z => absurd (Int32.le_refl _) z)
      exact W.vret hx hb hr (fun t ht hW => ⟨⟨rf9 q1 q2 q3 q4 q5 q6 q7 q8 q9, rfl, trivial, by rw [ht]; exact hP, hD⟩, hS.F ht⟩) hS.2.2 dX5_init_157
    | succ n ih =>
      intro k H locs ls hk hP hD hS hl
      refine lv_iload_n hx hb dX5_init_135 rfl (lv_at hl 0 rfl) ?_
      refine lv_bipush (v := nI 10) hx hb dX5_init_136 (by decide) ?_
      refine lv_icmp_ge (tgt := 157) hx hb dX5_init_138 (by decide) (fun z => absurd z (by rw [nn_le (by omega) (by omega)]; omega)) (fun _ => ?_)
      refine lv_aload_n hx hb dX5_init_141 rfl (lv_at hl 1 rfl) ?_
      refine va_get (D := D) (ci := 4) (v := .ref q1) (C := RX5) (T := TX5) (N := 16) hx hb hG (uw_ok (c := 4) (by omega)) hown hK hP 0 rfl rfl 0 (by decide) (hG _ ci_f_RX5_7) (fun _ h9 => h9) rfl dX5_init_142 ?_
      refine lv_bipush (v := nI 65) hx hb dX5_init_145 (by decide) ?_
      refine lv_iload_n hx hb dX5_init_147 rfl (lv_at hl 0 rfl) ?_
      refine lv_iadd hx hb dX5_init_148 ?_
      rw [nI_add]
      refine lv_iconst (v := -1) hx hb dX5_init_149 (by decide) ?_
      refine va_iast hx hb hK hP hD hS 1 0 rfl rfl (vp_in_nI (show 65 + k < 75 by omega) (by omega)) dX5_init_150 (fun H locs hP hD hS => ?_)
      rw [nI_clamp (by omega), sm2_s] at hP hD
      have hP : va_P D clz [(a, .inr (4, [.ref q1, .ref q2, .ref q3, .ref q4, .int 0, .ref q5, .ref q6, .int 0, .ref q7, .ref q8, .ref q9, .int 0, .int 0, .int 0, .int 0, .int 0])), (q1, .inl (cI, 75, .inl (sm2 (k + 1)))), (q2, .inl (cI, 75, .inl (fun _ => 0))), (q3, .inl (cI, 75, .inl (fun _ => 0))), (q4, .inl (cI, 75, .inl (fun _ => 0))), (q5, .inl (cI, 8, .inl (fun _ => 0))), (q6, .inl (cI, 120, .inl (fun _ => 0))), (q7, .inl (cI, 4, .inl (fil (-1) 4))), (q8, .inl (cI, 4, .inl (fun _ => 0))), (q9, .inl (cI, 160, .inl (fun _ => 0)))] H := hP
      have hD : va_D A [(a, .inr (4, [.ref q1, .ref q2, .ref q3, .ref q4, .int 0, .ref q5, .ref q6, .int 0, .ref q7, .ref q8, .ref q9, .int 0, .int 0, .int 0, .int 0, .int 0])), (q1, .inl (cI, 75, .inl (sm2 (k + 1)))), (q2, .inl (cI, 75, .inl (fun _ => 0))), (q3, .inl (cI, 75, .inl (fun _ => 0))), (q4, .inl (cI, 75, .inl (fun _ => 0))), (q5, .inl (cI, 8, .inl (fun _ => 0))), (q6, .inl (cI, 120, .inl (fun _ => 0))), (q7, .inl (cI, 4, .inl (fil (-1) 4))), (q8, .inl (cI, 4, .inl (fun _ => 0))), (q9, .inl (cI, 160, .inl (fun _ => 0)))] := hD
      refine lv_iinc (v := nI (k + 1)) (lv' := [(1, .int (nI (k + 1))), (0, .ref a)]) hx hb dX5_init_151 hl (k := 0) rfl (nI_1 k) (by decide) rfl (fun ls hl => ?_)
      refine lv_goto (tgt := 135) hx hb dX5_init_154 (by decide) ?_
      exact ih (k + 1) H locs ls (by omega) hP hD hS hl
  have loop1 : ∀ (n k : Nat) (H : Heap) (locs : List Loc) (ls : Array Slot), n + k = 6 → va_P D clz [(a, .inr (4, [.ref q1, .ref q2, .ref q3, .ref q4, .int 0, .ref q5, .ref q6, .int 0, .ref q7, .ref q8, .ref q9, .int 0, .int 0, .int 0, .int 0, .int 0])), (q1, .inl (cI, 75, .inl (sm1 k))), (q2, .inl (cI, 75, .inl (fun _ => 0))), (q3, .inl (cI, 75, .inl (fun _ => 0))), (q4, .inl (cI, 75, .inl (fun _ => 0))), (q5, .inl (cI, 8, .inl (fun _ => 0))), (q6, .inl (cI, 120, .inl (fun _ => 0))), (q7, .inl (cI, 4, .inl (fil (-1) 4))), (q8, .inl (cI, 4, .inl (fun _ => 0))), (q9, .inl (cI, 160, .inl (fun _ => 0)))] H → va_D A [(a, .inr (4, [.ref q1, .ref q2, .ref q3, .ref q4, .int 0, .ref q5, .ref q6, .int 0, .ref q7, .ref q8, .ref q9, .int 0, .int 0, .int 0, .int 0, .int 0])), (q1, .inl (cI, 75, .inl (sm1 k))), (q2, .inl (cI, 75, .inl (fun _ => 0))), (q3, .inl (cI, 75, .inl (fun _ => 0))), (q4, .inl (cI, 75, .inl (fun _ => 0))), (q5, .inl (cI, 8, .inl (fun _ => 0))), (q6, .inl (cI, 120, .inl (fun _ => 0))), (q7, .inl (cI, 4, .inl (fil (-1) 4))), (q8, .inl (cI, 4, .inl (fun _ => 0))), (q9, .inl (cI, 160, .inl (fun _ => 0)))] → va_S A s.heap H locs → lv_has ls 2 [(1, .int (nI k)), (0, .ref a)] → W p l e (headSpec (wJ yX5_init cX5_init 2 none) ({ frames := 1, cells := 9, slots := 596, locals := 12 })).room s m (([.ref a] : List Value).toArray) below meth c H locs 9 596 (MQ below (va_Qv (fun _ : Nat → Nat => True) (fun r t => va_P D clz (wMo cI a r) t.heap ∧ va_D A (wMo cI a r)) A) (([.ref a] : List Value).toArray) s 9 596 A) (F0 m 100 ls []) := by
    intro n
    induction n with
    | zero =>
      intro k H locs ls hk hP hD hS hl
      have e : k = 6 := by omega
      subst e
      refine lv_iload_n hx hb dX5_init_100 rfl (lv_at hl 0 rfl) ?_
      refine lv_bipush (v := nI 6) hx hb dX5_init_101 (by decide) ?_
      refine lv_icmp_ge (tgt := 133) hx hb dX5_init_103 (by decide) (fun _ => ?_) (fun z => absurd (Int32.le_refl _) z)
      rw [sm2_0] at hP hD
      refine lv_iconst (v := nI 0) hx hb dX5_init_133 (by decide) ?_
      refine lv_istore_n (lv' := [(1, .int (nI 0)), (0, .ref a)]) hx hb dX5_init_134 rfl hl (by decide) rfl (fun ls hl => ?_)
      exact loop2 10 0 H locs ls rfl hP hD hS hl
    | succ n ih =>
      intro k H locs ls hk hP hD hS hl
      refine lv_iload_n hx hb dX5_init_100 rfl (lv_at hl 0 rfl) ?_
      refine lv_bipush (v := nI 6) hx hb dX5_init_101 (by decide) ?_
      refine lv_icmp_ge (tgt := 133) hx hb dX5_init_103 (by decide) (fun z => absurd z (by rw [nn_le (by omega) (by omega)]; omega)) (fun _ => ?_)
      refine lv_aload_n hx hb dX5_init_106 rfl (lv_at hl 1 rfl) ?_
      refine va_get (D := D) (ci := 4) (v := .ref q1) (C := RX5) (T := TX5) (N := 16) hx hb hG (uw_ok (c := 4) (by omega)) hown hK hP 0 rfl rfl 0 (by decide) (hG _ ci_f_RX5_7) (fun _ h9 => h9) rfl dX5_init_107 ?_
      refine lv_bipush (v := nI 13) hx hb dX5_init_110 (by decide) ?_
      refine lv_iload_n hx hb dX5_init_112 rfl (lv_at hl 0 rfl) ?_
      refine lv_iadd hx hb dX5_init_113 ?_
      rw [nI_add]
      refine lv_bipush (v := 12) hx hb dX5_init_114 (by decide) ?_
      refine va_iast hx hb hK hP hD hS 1 0 rfl rfl (vp_in_nI (show 13 + k < 75 by omega) (by omega)) dX5_init_116 (fun H locs hP hD hS => ?_)
      rw [nI_clamp (by omega)] at hP hD
      have hP : va_P D clz [(a, .inr (4, [.ref q1, .ref q2, .ref q3, .ref q4, .int 0, .ref q5, .ref q6, .int 0, .ref q7, .ref q8, .ref q9, .int 0, .int 0, .int 0, .int 0, .int 0])), (q1, .inl (cI, 75, .inl (upd (sm1 k) (13 + k) 12))), (q2, .inl (cI, 75, .inl (fun _ => 0))), (q3, .inl (cI, 75, .inl (fun _ => 0))), (q4, .inl (cI, 75, .inl (fun _ => 0))), (q5, .inl (cI, 8, .inl (fun _ => 0))), (q6, .inl (cI, 120, .inl (fun _ => 0))), (q7, .inl (cI, 4, .inl (fil (-1) 4))), (q8, .inl (cI, 4, .inl (fun _ => 0))), (q9, .inl (cI, 160, .inl (fun _ => 0)))] H := hP
      have hD : va_D A [(a, .inr (4, [.ref q1, .ref q2, .ref q3, .ref q4, .int 0, .ref q5, .ref q6, .int 0, .ref q7, .ref q8, .ref q9, .int 0, .int 0, .int 0, .int 0, .int 0])), (q1, .inl (cI, 75, .inl (upd (sm1 k) (13 + k) 12))), (q2, .inl (cI, 75, .inl (fun _ => 0))), (q3, .inl (cI, 75, .inl (fun _ => 0))), (q4, .inl (cI, 75, .inl (fun _ => 0))), (q5, .inl (cI, 8, .inl (fun _ => 0))), (q6, .inl (cI, 120, .inl (fun _ => 0))), (q7, .inl (cI, 4, .inl (fil (-1) 4))), (q8, .inl (cI, 4, .inl (fun _ => 0))), (q9, .inl (cI, 160, .inl (fun _ => 0)))] := hD
      refine lv_aload_n hx hb dX5_init_117 rfl (lv_at hl 1 rfl) ?_
      refine va_get (D := D) (ci := 4) (v := .ref q1) (C := RX5) (T := TX5) (N := 16) hx hb hG (uw_ok (c := 4) (by omega)) hown hK hP 0 rfl rfl 0 (by decide) (hG _ ci_f_RX5_7) (fun _ h9 => h9) rfl dX5_init_118 ?_
      refine lv_bipush (v := nI 19) hx hb dX5_init_121 (by decide) ?_
      refine lv_iload_n hx hb dX5_init_123 rfl (lv_at hl 0 rfl) ?_
      refine lv_iadd hx hb dX5_init_124 ?_
      rw [nI_add]
      refine lv_iconst (v := 3) hx hb dX5_init_125 (by decide) ?_
      refine va_iast hx hb hK hP hD hS 1 0 rfl rfl (vp_in_nI (show 19 + k < 75 by omega) (by omega)) dX5_init_126 (fun H locs hP hD hS => ?_)
      rw [nI_clamp (by omega), sm1_s (by omega)] at hP hD
      have hP : va_P D clz [(a, .inr (4, [.ref q1, .ref q2, .ref q3, .ref q4, .int 0, .ref q5, .ref q6, .int 0, .ref q7, .ref q8, .ref q9, .int 0, .int 0, .int 0, .int 0, .int 0])), (q1, .inl (cI, 75, .inl (sm1 (k + 1)))), (q2, .inl (cI, 75, .inl (fun _ => 0))), (q3, .inl (cI, 75, .inl (fun _ => 0))), (q4, .inl (cI, 75, .inl (fun _ => 0))), (q5, .inl (cI, 8, .inl (fun _ => 0))), (q6, .inl (cI, 120, .inl (fun _ => 0))), (q7, .inl (cI, 4, .inl (fil (-1) 4))), (q8, .inl (cI, 4, .inl (fun _ => 0))), (q9, .inl (cI, 160, .inl (fun _ => 0)))] H := hP
      have hD : va_D A [(a, .inr (4, [.ref q1, .ref q2, .ref q3, .ref q4, .int 0, .ref q5, .ref q6, .int 0, .ref q7, .ref q8, .ref q9, .int 0, .int 0, .int 0, .int 0, .int 0])), (q1, .inl (cI, 75, .inl (sm1 (k + 1)))), (q2, .inl (cI, 75, .inl (fun _ => 0))), (q3, .inl (cI, 75, .inl (fun _ => 0))), (q4, .inl (cI, 75, .inl (fun _ => 0))), (q5, .inl (cI, 8, .inl (fun _ => 0))), (q6, .inl (cI, 120, .inl (fun _ => 0))), (q7, .inl (cI, 4, .inl (fil (-1) 4))), (q8, .inl (cI, 4, .inl (fun _ => 0))), (q9, .inl (cI, 160, .inl (fun _ => 0)))] := hD
      refine lv_iinc (v := nI (k + 1)) (lv' := [(1, .int (nI (k + 1))), (0, .ref a)]) hx hb dX5_init_127 hl (k := 0) rfl (nI_1 k) (by decide) rfl (fun ls hl => ?_)
      refine lv_goto (tgt := 100) hx hb dX5_init_130 (by decide) ?_
      exact ih (k + 1) H locs ls (by omega) hP hD hS hl
  refine lv_iconst (v := nI 0) hx hb dX5_init_98 (by decide) ?_
  refine lv_istore_n (lv' := [(1, .int (nI 0)), (0, .ref a)]) hx hb dX5_init_99 rfl hl (by decide) rfl (fun ls hl => ?_)
  exact loop1 6 0 H locs ls rfl hP hD hS hl
