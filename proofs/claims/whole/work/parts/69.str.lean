/-! STRINGS: length, charAt -/
theorem js_val : Cond.fieldLink RJ0 9 "java/lang/String" "value" "[B" ∈ Gz := Gz_in (k := 1171) ⟨by decide +kernel, by decide +kernel⟩
theorem js_cs : Cond.fieldLink RJ0 38 "java/lang/String" "COMPACT_STRINGS" "Z" ∈ Gz := Gz_in (k := 559) ⟨by decide +kernel, by decide +kernel⟩
theorem js_cod : Cond.fieldLink RJ0 15 "java/lang/String" "coder" "B" ∈ Gz := Gz_in (k := 1172) ⟨by decide +kernel, by decide +kernel⟩
theorem js_fmt : Cond.fieldLink RJ0 1053 "jdk/internal/util/Preconditions" "SIOOBE_FORMATTER" "Ljava/util/function/BiFunction;" ∈ Gz := Gz_in (k := 575) ⟨by decide +kernel, by decide +kernel⟩
theorem js_l335 : Cond.methodLink RJ0 335 yJ0_coder_7d493 ∈ Gz := Gz_in (k := 555) ⟨by decide +kernel, by decide +kernel⟩
theorem js_l492 : Cond.methodLink RJ0 492 yJ0_isLatin1_aae02 ∈ Gz := Gz_in (k := 565) ⟨by decide +kernel, by decide +kernel⟩
theorem js_l495 : Cond.methodLink RJ0 495 yJ1_charAt_3b067 ∈ Gz := Gz_in (k := 569) ⟨by decide +kernel, by decide +kernel⟩
theorem js_l9 : Cond.methodLink RJ1 9 yJ0_checkIndex_df160 ∈ Gz := Gz_in (k := 572) ⟨by decide +kernel, by decide +kernel⟩
theorem js_l1059 : Cond.methodLink RJ0 1059 yJ3_checkIndex_8e157 ∈ Gz := Gz_in (k := 577) ⟨by decide +kernel, by decide +kernel⟩
theorem js_c_coder : Cond.code yJ0_coder_7d493 cJ0_coder_7d493 1 (some .byte) ∈ Gz := Gz_in (k := 558) ⟨by decide +kernel, by decide +kernel⟩
theorem js_i_coder : Cond.instanceMethod yJ0_coder_7d493 ∈ Gz := Gz_in (k := 556) ⟨by decide +kernel, by decide +kernel⟩
theorem js_s_coder : Cond.selects RJ0 yJ0_coder_7d493 yJ0_coder_7d493 ∈ Gz := Gz_in (k := 557) ⟨by decide +kernel, by decide +kernel⟩
theorem js_c_isLat : Cond.code yJ0_isLatin1_aae02 cJ0_isLatin1_aae02 1 (some .boolean) ∈ Gz := Gz_in (k := 568) ⟨by decide +kernel, by decide +kernel⟩
theorem js_i_isLat : Cond.instanceMethod yJ0_isLatin1_aae02 ∈ Gz := Gz_in (k := 566) ⟨by decide +kernel, by decide +kernel⟩
theorem js_s_isLat : Cond.selects RJ0 yJ0_isLatin1_aae02 yJ0_isLatin1_aae02 ∈ Gz := Gz_in (k := 567) ⟨by decide +kernel, by decide +kernel⟩
theorem js_c_l1 : Cond.code yJ1_charAt_3b067 cJ1_charAt_3b067 2 (some .char) ∈ Gz := Gz_in (k := 571) ⟨by decide +kernel, by decide +kernel⟩
theorem js_t_l1 : Cond.static yJ1_charAt_3b067 ∈ Gz := Gz_in (k := 570) ⟨by decide +kernel, by decide +kernel⟩
theorem js_c_chk : Cond.code yJ0_checkIndex_df160 cJ0_checkIndex_df160 2 none ∈ Gz := Gz_in (k := 574) ⟨by decide +kernel, by decide +kernel⟩
theorem js_t_chk : Cond.static yJ0_checkIndex_df160 ∈ Gz := Gz_in (k := 573) ⟨by decide +kernel, by decide +kernel⟩
theorem js_c_pre : Cond.code yJ3_checkIndex_8e157 cJ3_checkIndex_8e157 3 (some .int) ∈ Gz := Gz_in (k := 579) ⟨by decide +kernel, by decide +kernel⟩
theorem js_t_pre : Cond.static yJ3_checkIndex_8e157 ∈ Gz := Gz_in (k := 578) ⟨by decide +kernel, by decide +kernel⟩
theorem js_in1 : Cond.initialized RJ1 ∈ Gz := Gz_in (k := 70) ⟨by decide +kernel, by decide +kernel⟩
theorem js_in3 : Cond.initialized RJ3 ∈ Gz := Gz_in (k := 71) ⟨by decide +kernel, by decide +kernel⟩
def wJ (y : MethodName) (b : ByteArray) (n : Nat) (r : Option FieldType) : List Cond := Cond.code y b n r :: Gz
def rJ (k j : Nat) : Room := { frames := k, cells := 0, slots := 0, locals := j }
def PoJ (r : Option Value) : Array Value → State → Outcome → State → Prop := fun _ st o t => o = .returned r ∧ t.heap = st.heap
section STR
variable {p : Program} {l : Launch} {e : Jvm.Env} {R : Room} {s : State} {m : MethodId} {args : Array Value} {below : List Frame} {meth : Method} {c : Code} {H : Heap} {locs : List Loc} {cells slots : Nat} {Q : State → Prop}
variable {N sz : Nat} {xs : Nat → Int32} {ad : Nat → Nat}
theorem af_H {pc : Nat} {ls : Array Slot} {st0 rest : List Value} {as : Array Value} {r : Option Value} (hr : va_Run p l e R s m args below meth c H locs cells slots 0 0 (F0 m pc ls st0) rest (PoJ r as) (fun _ => False)) (kk : W p l e R s m args below meth c H locs cells slots Q (F0 m (pc + 3) ls (r.toList ++ rest))) : W p l e R s m args below meth c H locs cells slots Q (F0 m pc ls st0) := by
  intro T hT X
  obtain ⟨v, st₀, t, T', L, h0, X', hL, e1, e2, ⟨hv, hF⟩, stp⟩ := hr T hT X
  cases hv
  have hn : L = [] := by
    cases L with
    | nil => rfl
    | cons q L => exact (hL q List.mem_cons_self).elim
  subst hn
  rw [List.append_nil] at X'
  obtain ⟨t2, a1, b1⟩ := kk T' (by rw [e1, hF, h0]) X'
  exact ⟨t2, stp t2 a1, b1⟩
theorem Sta_U {U : State} (hsz : s.heap.size = sz) (hSt : Sta N xs ad (AD ad sz) s s.heap) (hU : U.heap = s.heap) (hW : s.WarmedH U.vm) : U.heap.size = s.heap.size ∧ Sta N xs ad (AD ad s.heap.size) U U.heap := by
  subst hsz
  rw [hU]
  exact ⟨rfl, hSt.warm hW⟩
theorem jc_coder {i : Nat} (hi : i < 12) : Met l yJ0_coder_7d493 (wJ yJ0_coder_7d493 cJ0_coder_7d493 1 (some .byte)) (rJ 0 0) (PreJ N xs ad sz [.ref (60 + i)]) (PoJ (some (.int 0))) 0 0 (fun _ => False) := by
  refine Met.ofW (cc := cJ0_coder_7d493) (maxL := 1) (ret := some .byte) (by decide) rfl ?_
  intro p e s m args below meth c s₁ B hml hpre
  obtain ⟨rfl, hsz, hSt⟩ := hpre
  have hx := B.exec
  have hb := B.bytes
  have hr := B.returns
  have hlocks := B.notSynchronized
  have hown : s.vm.findClass RJ0 = some m.cls := findClass_of_methodNamed B.named
  have hts := atoms_spec (ws := wJ yJ0_coder_7d493 cJ0_coder_7d493 1 (some .byte)) B.pre
  have hG : ∀ W ∈ Gz, W.before (([.ref (60 + i)].map (cv ad)).toArray) s = true := fun W hW => hts W (List.mem_cons_of_mem _ hW)
  have hl := lv_entry ([.ref (60 + i)].map (cv ad)) (n := 1) (Nat.le_of_ble_eq_true rfl)
  rw [lg_entry_eq]
  generalize (lg_sl ([.ref (60 + i)].map (cv ad)) ++ List.replicate (1 - (lg_sl ([.ref (60 + i)].map (cv ad))).length) Slot.unset).toArray = ls at hl ⊢
  have hl : lv_has ls 1 [(0, .ref (ad (60 + i)))] := hl
  have hS : va_S (AD ad sz) s.heap s.heap [] := va_S.rf
  obtain ⟨adV, hvs⟩ := hSt.2.2.1
  refine va_gets hx hb hSt.2.2.2.1.1 hS hown (hG _ js_cs) (fun _ z => z) dJ0_coder_7d493_0 ?_
  refine lv_if_eq (tgt := 13) hx hb dJ0_coder_7d493_3 (by decide) (fun z => absurd z (by decide)) (fun _ => ?_)
  refine lv_aload_n hx hb dJ0_coder_7d493_6 rfl (lv_at hl 0 rfl) ?_
  refine vk_getf hx hb (hvs.1 i hi).2.1 hS hown (hG _ js_cod) (fun _ z => z) dJ0_coder_7d493_7 ?_
  refine lv_goto (tgt := 14) hx hb dJ0_coder_7d493_10 (by decide) ?_
  exact W.zret hx hb hr (by decide) (fun t ht _ => ⟨rfl, ht⟩) (fun q hq => by cases hq) dJ0_coder_7d493_14 hlocks
theorem jc_isLat {i : Nat} (hi : i < 12) : Met l yJ0_isLatin1_aae02 (wJ yJ0_isLatin1_aae02 cJ0_isLatin1_aae02 1 (some .boolean)) (rJ 0 0) (PreJ N xs ad sz [.ref (60 + i)]) (PoJ (some (.int 1))) 0 0 (fun _ => False) := by
  refine Met.ofW (cc := cJ0_isLatin1_aae02) (maxL := 1) (ret := some .boolean) (by decide) rfl ?_
  intro p e s m args below meth c s₁ B hml hpre
  obtain ⟨rfl, hsz, hSt⟩ := hpre
  have hx := B.exec
  have hb := B.bytes
  have hr := B.returns
  have hlocks := B.notSynchronized
  have hown : s.vm.findClass RJ0 = some m.cls := findClass_of_methodNamed B.named
  have hts := atoms_spec (ws := wJ yJ0_isLatin1_aae02 cJ0_isLatin1_aae02 1 (some .boolean)) B.pre
  have hG : ∀ W ∈ Gz, W.before (([.ref (60 + i)].map (cv ad)).toArray) s = true := fun W hW => hts W (List.mem_cons_of_mem _ hW)
  have hl := lv_entry ([.ref (60 + i)].map (cv ad)) (n := 1) (Nat.le_of_ble_eq_true rfl)
  rw [lg_entry_eq]
  generalize (lg_sl ([.ref (60 + i)].map (cv ad)) ++ List.replicate (1 - (lg_sl ([.ref (60 + i)].map (cv ad))).length) Slot.unset).toArray = ls at hl ⊢
  have hl : lv_has ls 1 [(0, .ref (ad (60 + i)))] := hl
  have hS : va_S (AD ad sz) s.heap s.heap [] := va_S.rf
  obtain ⟨adV, hvs⟩ := hSt.2.2.1
  refine va_gets hx hb hSt.2.2.2.1.1 hS hown (hG _ js_cs) (fun _ z => z) dJ0_isLatin1_aae02_0 ?_
  refine lv_if_eq (tgt := 17) hx hb dJ0_isLatin1_aae02_3 (by decide) (fun z => absurd z (by decide)) (fun _ => ?_)
  refine lv_aload_n hx hb dJ0_isLatin1_aae02_6 rfl (lv_at hl 0 rfl) ?_
  refine vk_getf hx hb (hvs.1 i hi).2.1 hS hown (hG _ js_cod) (fun _ z => z) dJ0_isLatin1_aae02_7 ?_
  refine lv_if_ne (tgt := 17) hx hb dJ0_isLatin1_aae02_10 (by decide) (fun z => absurd rfl z) (fun _ => ?_)
  refine lv_iconst (v := 1) hx hb dJ0_isLatin1_aae02_13 (by decide) ?_
  refine lv_goto (tgt := 18) hx hb dJ0_isLatin1_aae02_14 (by decide) ?_
  exact W.zret hx hb hr (by decide) (fun t ht _ => ⟨rfl, ht⟩) (fun q hq => by cases hq) dJ0_isLatin1_aae02_18 hlocks
theorem len_ok : ∀ i, i < 12 → Int32.ofNat (lenS.getD i 0) >>> ((0 : Int32) &&& 31) = nI (slen i) := by decide
theorem jc_length {i : Nat} (hi : i < 12) : Met l yJ0_length_8abf5 wsJl rmJ (PreJ N xs ad sz [.ref (60 + i)]) (PoJ (some (.int (nI (slen i))))) 0 0 (fun _ => False) := by
  refine Met.ofW (cc := cJ0_length_8abf5) (maxL := 1) (ret := some .int) (by decide) rfl ?_
  intro p e s m args below meth c s₁ B hml hpre
  obtain ⟨rfl, hsz, hSt⟩ := hpre
  have hx := B.exec
  have hb := B.bytes
  have hr := B.returns
  have hlocks := B.notSynchronized
  have hown : s.vm.findClass RJ0 = some m.cls := findClass_of_methodNamed B.named
  have hts := atoms_spec (ws := wsJl) B.pre
  have hG : ∀ W ∈ Gz, W.before (([.ref (60 + i)].map (cv ad)).toArray) s = true := fun W hW => hts W (List.mem_cons_of_mem _ hW)
  have hl := lv_entry ([.ref (60 + i)].map (cv ad)) (n := 1) (Nat.le_of_ble_eq_true rfl)
  rw [lg_entry_eq]
  generalize (lg_sl ([.ref (60 + i)].map (cv ad)) ++ List.replicate (1 - (lg_sl ([.ref (60 + i)].map (cv ad))).length) Slot.unset).toArray = ls at hl ⊢
  have hl : lv_has ls 1 [(0, .ref (ad (60 + i)))] := hl
  have hS : va_S (AD ad sz) s.heap s.heap [] := va_S.rf
  obtain ⟨adV, hvs⟩ := id hSt.2.2.1
  refine lv_aload_n hx hb dJ0_length_8abf5_0 rfl (lv_at hl 0 rfl) ?_
  refine vk_getf hx hb (hvs.1 i hi).2.2.1 hS hown (hG _ js_val) (fun _ z => z) dJ0_length_8abf5_1 ?_
  refine va_tlen hx hb (hvs.1 i hi).2.2.2 hS rfl dJ0_length_8abf5_4 ?_
  refine lv_aload_n hx hb dJ0_length_8abf5_5 rfl (lv_at hl 0 rfl) ?_
  have hGI : GoodIn Gz (wsV RJ0 335 RJ0 yJ0_coder_7d493 (wJ yJ0_coder_7d493 cJ0_coder_7d493 1 (some .byte))) := goodIn_Gz (fun W hW => by
    rcases List.mem_append.mp hW with h1 | h1
    · simp at h1
      rcases h1 with rfl | rfl | rfl | rfl
      · exact js_l335
      · exact js_i_coder
      · exact js_s_coder
      · exact g_in_String
    · rcases List.mem_cons.mp h1 with rfl | h1
      · exact js_c_coder
      · exact h1)
  have hpre : PreV s s.heap RJ0 (ad (60 + i)) (PreJ N xs ad s.heap.size [.ref (60 + i)]) [] := ⟨blind_J, vk_recv (adK := fun i => ad (60 + i)) (i := i) hvs hi hS, fun U hU hW => ⟨rfl, Sta_U hsz hSt hU hW⟩⟩
  refine af_H (va_runV (As := []) (rest := [.int (Int32.ofNat (lenS.getD i 0))]) ⟨hx, hb, hml, hown, hG⟩ (jc_coder hi) (cwV 0 hG hGI rfl rfl rfl ⟨rfl, by decide +kernel⟩ ⟨Nat.le_of_ble_eq_true rfl, Nat.le_of_ble_eq_true rfl⟩) hpre rfl rfl hl.1 rfl (lv_room (Nat.le_of_ble_eq_true rfl)) dJ0_length_8abf5_6 ⟨Nat.le_refl _, Nat.le_refl _⟩) ?_
  refine lv_ishr hx hb dJ0_length_8abf5_9 ?_
  rw [len_ok i hi]
  exact W.iret hx hb hr (fun t ht _ => ⟨rfl, ht⟩) (fun q hq => by cases hq) dJ0_length_8abf5_10 hlocks
theorem jc_pre {j n : Nat} {v : Value} (hv : v = .null ∨ ∃ t, v = .ref t) (hj : j < n) (hn : n < 2147483648) : Met l yJ3_checkIndex_8e157 (wJ yJ3_checkIndex_8e157 cJ3_checkIndex_8e157 3 (some .int)) (rJ 0 0) (va_Pc [.int (nI j), .int (nI n), v] (fun _ => True)) (PoJ (some (.int (nI j)))) 0 0 (fun _ => False) := by
  refine Met.ofW (cc := cJ3_checkIndex_8e157) (maxL := 3) (ret := some .int) (by decide) rfl ?_
  intro p e s m args below meth c s₁ B hml hpre
  obtain ⟨rfl, -⟩ := hpre
  have hx := B.exec
  have hb := B.bytes
  have hr := B.returns
  have hlocks := B.notSynchronized
  have hl : ∃ ls : Array Slot, (entryFrame m ([.int (nI j), .int (nI n), v] : List Value).toArray 3) = F0 m 0 ls [] ∧ lv_has ls 3 [(0, .int (nI j)), (1, .int (nI n))] := by
    rw [lg_entry_eq]
    rcases hv with rfl | ⟨t, rfl⟩
    · exact ⟨_, rfl, lv_sub (lv_entry ([.int (nI j), .int (nI n), .null]) (n := 3) (Nat.le_of_ble_eq_true rfl)) [0, 1] rfl⟩
    · exact ⟨_, rfl, lv_sub (lv_entry ([.int (nI j), .int (nI n), .ref t]) (n := 3) (Nat.le_of_ble_eq_true rfl)) [0, 1] rfl⟩
  obtain ⟨ls, el, hl⟩ := hl
  rw [el]
  refine lv_iload_n hx hb dJ3_checkIndex_8e157_0 rfl (lv_at hl 0 rfl) ?_
  refine lv_if_lt (tgt := 9) hx hb dJ3_checkIndex_8e157_1 (by decide) (fun z => absurd z (nI_pos (by omega))) (fun _ => ?_)
  refine lv_iload_n hx hb dJ3_checkIndex_8e157_4 rfl (lv_at hl 0 rfl) ?_
  refine lv_iload_n hx hb dJ3_checkIndex_8e157_5 rfl (lv_at hl 1 rfl) ?_
  refine lv_icmp_lt (tgt := 16) hx hb dJ3_checkIndex_8e157_6 (by decide) (fun _ => ?_) (fun z => absurd (nI_lt hj (by omega)) z)
  refine lv_iload_n hx hb dJ3_checkIndex_8e157_16 rfl (lv_at hl 0 rfl) ?_
  exact W.iret hx hb hr (fun t ht _ => ⟨rfl, ht⟩) (fun q hq => by cases hq) dJ3_checkIndex_8e157_17 hlocks
def PreK (N : Nat) (xs : Nat → Int32) (ad : Nat → Nat) (sz : Nat) (vs : List Value) (B : State → Prop) : Array Value → State → Prop := va_Pc vs (fun U => (U.heap.size = sz ∧ Sta N xs ad (AD ad sz) U U.heap) ∧ B U)
theorem blind_K {vs : List Value} {B : State → Prop} (hB : ∀ (U V : State), V.heap = U.heap → V.vm = U.vm → B U → B V) : FrameBlind (PreK N xs ad sz vs B) := fun a U g mk h => by
  obtain ⟨h1, ⟨h2, h3⟩, h4⟩ := h
  exact ⟨h1, ⟨h2, Sta.same (u := U) (U := U.calling g mk a) rfl h3⟩, hB U _ rfl rfl h4⟩
theorem jc_chk {j n : Nat} (hj : j < n) (hn : n < 2147483648) : Met l yJ0_checkIndex_df160 (wJ yJ0_checkIndex_df160 cJ0_checkIndex_df160 2 none) (rJ 1 30) (PreK N xs ad sz [.int (nI j), .int (nI n)] (fun _ => True)) (PoJ none) 0 0 (fun _ => False) := by
  refine Met.ofW (cc := cJ0_checkIndex_df160) (maxL := 2) (ret := none) (by decide) rfl ?_
  intro p e s m args below meth c s₁ B hml hpre
  obtain ⟨rfl, ⟨hsz, hSt⟩, -⟩ := hpre
  have hx := B.exec
  have hb := B.bytes
  have hr := B.returns
  have hlocks := B.notSynchronized
  have hown : s.vm.findClass RJ0 = some m.cls := findClass_of_methodNamed B.named
  have hts := atoms_spec (ws := wJ yJ0_checkIndex_df160 cJ0_checkIndex_df160 2 none) B.pre
  have hG : ∀ W ∈ Gz, W.before (([.int (nI j), .int (nI n)] : List Value).toArray) s = true := fun W hW => hts W (List.mem_cons_of_mem _ hW)
  have hl := lv_entry ([.int (nI j), .int (nI n)]) (n := 2) (Nat.le_of_ble_eq_true rfl)
  rw [lg_entry_eq]
  generalize (lg_sl ([.int (nI j), .int (nI n)]) ++ List.replicate (2 - (lg_sl ([.int (nI j), .int (nI n)])).length) Slot.unset).toArray = ls at hl ⊢
  have hl : lv_has ls 2 [(0, .int (nI j)), (1, .int (nI n))] := hl
  have hS : va_S (AD ad sz) s.heap s.heap [] := va_S.rf
  have hZ : ∃ v : Value, (v = .null ∨ ∃ t, v = .ref t) ∧ va_Z "jdk/internal/util/Preconditions" "SIOOBE_FORMATTER" "Ljava/util/function/BiFunction;" v (AD ad sz) s s.heap := by
    rcases hSt.2.2.2.1.2 with h | ⟨t, h⟩
    · exact ⟨_, Or.inl rfl, h⟩
    · exact ⟨_, Or.inr ⟨t, rfl⟩, h⟩
  obtain ⟨v, hv, hZ⟩ := hZ
  have hcat : v.category = 1 := by rcases hv with rfl | ⟨t, rfl⟩ <;> rfl
  refine lv_iload_n hx hb dJ0_checkIndex_df160_0 rfl (lv_at hl 0 rfl) ?_
  refine lv_iload_n hx hb dJ0_checkIndex_df160_1 rfl (lv_at hl 1 rfl) ?_
  refine va_gets hx hb hZ hS hown (hG _ js_fmt) (fun _ z => z) dJ0_checkIndex_df160_2 ?_
  have hGI : GoodIn Gz (va_wsS RJ0 1059 yJ3_checkIndex_8e157 (wJ yJ3_checkIndex_8e157 cJ3_checkIndex_8e157 3 (some .int))) := goodIn_Gz (fun W hW => by
    rcases List.mem_append.mp hW with h1 | h1
    · simp at h1
      rcases h1 with rfl | rfl | rfl
      · exact js_l1059
      · exact js_t_pre
      · exact js_in3
    · rcases List.mem_cons.mp h1 with rfl | h1
      · exact js_c_pre
      · exact h1)
  have hpre : PreS s s.heap (va_Pc [.int (nI j), .int (nI n), v] (fun _ => True)) [.int (nI j), .int (nI n), v] := ⟨fun a U g mk h => h, fun U hU hW => ⟨rfl, trivial⟩⟩
  refine af_H (va_runS (As := [.int (nI j), .int (nI n), v]) (rest := []) ⟨hx, hb, hml, hown, hG⟩ (jc_pre hv hj hn) (va_cwS 3 hG hGI rfl rfl rfl (by decide +kernel) ⟨Nat.le_of_ble_eq_true rfl, Nat.le_of_ble_eq_true rfl⟩) hpre rfl rfl hl.1 rfl (lv_room (Nat.le_of_ble_eq_true rfl)) dJ0_checkIndex_df160_5 ⟨Nat.le_refl _, Nat.le_refl _⟩) ?_
  refine lv_pop hx hb dJ0_checkIndex_df160_8 rfl ?_
  exact W.vret hx hb hr (fun t ht _ => ⟨rfl, ht⟩) (fun q hq => by cases hq) dJ0_checkIndex_df160_9 hlocks
theorem chr_ok : ∀ i, i < 12 → ∀ k, k < 8 → ((((bytS.getD i []).getD k 0) &&& 255).toUInt32 % 65536).toInt32 = sch i k ∧ narrow .char (.int (sch i k)) = .int (sch i k) := by decide +kernel
theorem jc_l1 {i k : Nat} {adV : Nat → Nat} (hi : i < 12) (hk : k < slen i) : Met l yJ1_charAt_3b067 (wJ yJ1_charAt_3b067 cJ1_charAt_3b067 2 (some .char)) (rJ 2 60) (PreK N xs ad sz [.ref (adV i), .int (nI k)] (fun U => vk_S 12 lenS bytS (fun i => ad (60 + i)) adV (AD ad sz) U U.heap)) (PoJ (some (.int (sch i k)))) 0 0 (fun _ => False) := by
  refine Met.ofW (cc := cJ1_charAt_3b067) (maxL := 2) (ret := some .char) (by decide) rfl ?_
  intro p e s m args below meth c s₁ B hml hpre
  obtain ⟨rfl, ⟨hsz, hSt⟩, hvs⟩ := hpre
  have hx := B.exec
  have hb := B.bytes
  have hr := B.returns
  have hlocks := B.notSynchronized
  have hown : s.vm.findClass RJ1 = some m.cls := findClass_of_methodNamed B.named
  have hts := atoms_spec (ws := wJ yJ1_charAt_3b067 cJ1_charAt_3b067 2 (some .char)) B.pre
  have hG : ∀ W ∈ Gz, W.before (([.ref (adV i), .int (nI k)] : List Value).toArray) s = true := fun W hW => hts W (List.mem_cons_of_mem _ hW)
  have hl := lv_entry ([.ref (adV i), .int (nI k)]) (n := 2) (Nat.le_of_ble_eq_true rfl)
  rw [lg_entry_eq]
  generalize (lg_sl ([.ref (adV i), .int (nI k)]) ++ List.replicate (2 - (lg_sl ([.ref (adV i), .int (nI k)])).length) Slot.unset).toArray = ls at hl ⊢
  have hl : lv_has ls 2 [(0, .ref (adV i)), (1, .int (nI k))] := hl
  have hS : va_S (AD ad sz) s.heap s.heap [] := va_S.rf
  have hl7 := slen_le i hi
  have hle : ∀ i, i < 12 → lenS.getD i 0 = slen i := by decide
  have hT := (hvs.1 i hi).2.2.2
  rw [hle i hi] at hT
  obtain ⟨c1, c2⟩ := chr_ok i hi k (by omega)
  refine lv_iload_n hx hb dJ1_charAt_3b067_0 rfl (lv_at hl 1 rfl) ?_
  refine lv_aload_n hx hb dJ1_charAt_3b067_1 rfl (lv_at hl 0 rfl) ?_
  refine va_tlen hx hb hT hS (v := nI (slen i)) rfl dJ1_charAt_3b067_2 ?_
  have hGI : GoodIn Gz (va_wsS RJ1 9 yJ0_checkIndex_df160 (wJ yJ0_checkIndex_df160 cJ0_checkIndex_df160 2 none)) := goodIn_Gz (fun W hW => by
    rcases List.mem_append.mp hW with h1 | h1
    · simp at h1
      rcases h1 with rfl | rfl | rfl
      · exact js_l9
      · exact js_t_chk
      · exact g_in_String
    · rcases List.mem_cons.mp h1 with rfl | h1
      · exact js_c_chk
      · exact h1)
  have hpre : PreS s s.heap (PreK N xs ad s.heap.size [.int (nI k), .int (nI (slen i))] (fun _ => True)) [.int (nI k), .int (nI (slen i))] := ⟨blind_K (fun _ _ _ _ h => h), fun U hU hW => ⟨rfl, Sta_U hsz hSt hU hW, trivial⟩⟩
  refine af_H (va_runS (As := [.int (nI k), .int (nI (slen i))]) (rest := []) ⟨hx, hb, hml, hown, hG⟩ (jc_chk hk (by omega)) (va_cwS 2 hG hGI rfl rfl rfl (by decide +kernel) ⟨Nat.le_of_ble_eq_true rfl, Nat.le_of_ble_eq_true rfl⟩) hpre rfl rfl hl.1 rfl (lv_room (Nat.le_of_ble_eq_true rfl)) dJ1_charAt_3b067_3 ⟨Nat.le_refl _, Nat.le_refl _⟩) ?_
  refine lv_aload_n hx hb dJ1_charAt_3b067_6 rfl (lv_at hl 0 rfl) ?_
  refine lv_iload_n hx hb dJ1_charAt_3b067_7 rfl (lv_at hl 1 rfl) ?_
  refine va_tb hx hb hT hS (vp_in_nI hk (by omega)) (v := .int ((bytS.getD i []).getD k 0)) (by rw [nI_clamp (by omega)]) dJ1_charAt_3b067_8 ?_
  refine lv_sipush (v := 255) hx hb dJ1_charAt_3b067_9 (by decide) ?_
  refine lv_iand hx hb dJ1_charAt_3b067_12 ?_
  refine lv_i2c (v := sch i k) hx hb dJ1_charAt_3b067_13 c1 ?_
  exact W.zret hx hb hr c2 (fun t ht _ => ⟨rfl, ht⟩) (fun q hq => by cases hq) dJ1_charAt_3b067_14 hlocks
theorem jc_charAt {i k : Nat} (hi : i < 12) (hk : k < slen i) : Met l yJ0_charAt_5068e wsJc rmJ (PreJ N xs ad sz [.ref (60 + i), .int (nI k)]) (PoJ (some (.int (sch i k)))) 0 0 (fun _ => False) := by
  refine Met.ofW (cc := cJ0_charAt_5068e) (maxL := 2) (ret := some .char) (by decide) rfl ?_
  intro p e s m args below meth c s₁ B hml hpre
  obtain ⟨rfl, hsz, hSt⟩ := hpre
  have hx := B.exec
  have hb := B.bytes
  have hr := B.returns
  have hlocks := B.notSynchronized
  have hown : s.vm.findClass RJ0 = some m.cls := findClass_of_methodNamed B.named
  have hts := atoms_spec (ws := wsJc) B.pre
  have hG : ∀ W ∈ Gz, W.before (([.ref (60 + i), .int (nI k)].map (cv ad)).toArray) s = true := fun W hW => hts W (List.mem_cons_of_mem _ hW)
  have hl := lv_entry ([.ref (60 + i), .int (nI k)].map (cv ad)) (n := 2) (Nat.le_of_ble_eq_true rfl)
  rw [lg_entry_eq]
  generalize (lg_sl ([.ref (60 + i), .int (nI k)].map (cv ad)) ++ List.replicate (2 - (lg_sl ([.ref (60 + i), .int (nI k)].map (cv ad))).length) Slot.unset).toArray = ls at hl ⊢
  have hl : lv_has ls 2 [(0, .ref (ad (60 + i))), (1, .int (nI k))] := hl
  have hS : va_S (AD ad sz) s.heap s.heap [] := va_S.rf
  obtain ⟨adV, hvs⟩ := id hSt.2.2.1
  have hl7 := slen_le i hi
  obtain ⟨c1, c2⟩ := chr_ok i hi k (by omega)
  refine lv_aload_n hx hb dJ0_charAt_5068e_0 rfl (lv_at hl 0 rfl) ?_
  have hGI : GoodIn Gz (wsV RJ0 492 RJ0 yJ0_isLatin1_aae02 (wJ yJ0_isLatin1_aae02 cJ0_isLatin1_aae02 1 (some .boolean))) := goodIn_Gz (fun W hW => by
    rcases List.mem_append.mp hW with h1 | h1
    · simp at h1
      rcases h1 with rfl | rfl | rfl | rfl
      · exact js_l492
      · exact js_i_isLat
      · exact js_s_isLat
      · exact g_in_String
    · rcases List.mem_cons.mp h1 with rfl | h1
      · exact js_c_isLat
      · exact h1)
  have hpre : PreV s s.heap RJ0 (ad (60 + i)) (PreJ N xs ad s.heap.size [.ref (60 + i)]) [] := ⟨blind_J, vk_recv (adK := fun i => ad (60 + i)) (i := i) hvs hi hS, fun U hU hW => ⟨rfl, Sta_U hsz hSt hU hW⟩⟩
  refine af_H (va_runV (As := []) (rest := []) ⟨hx, hb, hml, hown, hG⟩ (jc_isLat hi) (cwV 0 hG hGI rfl rfl rfl ⟨rfl, by decide +kernel⟩ ⟨Nat.le_of_ble_eq_true rfl, Nat.le_of_ble_eq_true rfl⟩) hpre rfl rfl hl.1 rfl (lv_room (Nat.le_of_ble_eq_true rfl)) dJ0_charAt_5068e_1 ⟨Nat.le_refl _, Nat.le_refl _⟩) ?_
  refine lv_if_eq (tgt := 16) hx hb dJ0_charAt_5068e_4 (by decide) (fun z => absurd z (by decide)) (fun _ => ?_)
  refine lv_aload_n hx hb dJ0_charAt_5068e_7 rfl (lv_at hl 0 rfl) ?_
  refine vk_getf hx hb (hvs.1 i hi).2.2.1 hS hown (hG _ js_val) (fun _ z => z) dJ0_charAt_5068e_8 ?_
  refine lv_iload_n hx hb dJ0_charAt_5068e_11 rfl (lv_at hl 1 rfl) ?_
  have hGI2 : GoodIn Gz (va_wsS RJ0 495 yJ1_charAt_3b067 (wJ yJ1_charAt_3b067 cJ1_charAt_3b067 2 (some .char))) := goodIn_Gz (fun W hW => by
    rcases List.mem_append.mp hW with h1 | h1
    · simp at h1
      rcases h1 with rfl | rfl | rfl
      · exact js_l495
      · exact js_t_l1
      · exact js_in1
    · rcases List.mem_cons.mp h1 with rfl | h1
      · exact js_c_l1
      · exact h1)
  have hpre2 : PreS s s.heap (PreK N xs ad s.heap.size [.ref (adV i), .int (nI k)] (fun U => vk_S 12 lenS bytS (fun i => ad (60 + i)) adV (AD ad s.heap.size) U U.heap)) [.ref (adV i), .int (nI k)] := ⟨blind_K (fun U V h1 h2 h => by
      rw [h1]
      exact vk_S.moved (by rw [h2]; exact Vm.Alike.refl _) h), fun U hU hW => ⟨rfl, Sta_U hsz hSt hU hW, by
      show vk_S 12 lenS bytS (fun i => ad (60 + i)) adV (AD ad s.heap.size) U U.heap
      rw [hU, hsz]; exact vk_S.moved hW.alike hvs⟩⟩
  refine af_H (va_runS (As := [.ref (adV i), .int (nI k)]) (rest := []) ⟨hx, hb, hml, hown, hG⟩ (jc_l1 hi hk) (va_cwS 2 hG hGI2 rfl rfl rfl (by decide +kernel) ⟨Nat.le_of_ble_eq_true rfl, Nat.le_of_ble_eq_true rfl⟩) hpre2 rfl rfl hl.1 rfl (lv_room (Nat.le_of_ble_eq_true rfl)) dJ0_charAt_5068e_12 ⟨Nat.le_refl _, Nat.le_refl _⟩) ?_
  exact W.zret hx hb hr c2 (fun t ht _ => ⟨rfl, ht⟩) (fun q hq => by cases hq) dJ0_charAt_5068e_15 hlocks
end STR
theorem Jok_all {l : Launch} {ad : Nat → Nat} {N : Nat} {xs : Nat → Int32} : Jok l ad N xs := fun sz i hi => ⟨jc_length hi, fun j hj => jc_charAt hi hj⟩
