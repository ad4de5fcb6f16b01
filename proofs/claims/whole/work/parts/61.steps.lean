section SND
variable {p : Program} {l : Launch} {e : Jvm.Env} {R : Room} {s : State} {m : MethodId} {args : Array Value} {below : List Frame} {meth : Method} {c : Code} {cells slots : Nat} {Q : State → Prop} {D : va_G} {cI cL cQ : ClassId} {ad : Nat → Nat} {N : Nat} {xs : Nat → Int32} {nL sz : Nat} {cc : ByteArray} {pc oc : Nat} {i : Instr × Nat} {L : Lc} {K : Lk} {st : List Value} {w : Wd} {x : Cf} {A0 : Nat → Prop}
theorem kI_ok {k : Nat} {v : Int32} (ho : oc < 8) (h : kI oc k = some v) : Cond.constant (oN oc) k v ∈ Gz := by
  unfold kI at h
  obtain ⟨y, h1, h2⟩ := Option.map_eq_some_iff.mp h
  have := kI_chk oc ho _ (lookup_in h1)
  dsimp only at this
  rw [h2] at this
  exact Gz_in this
theorem kL_ok {k : Nat} {v : Int64} (ho : oc < 8) (h : kL oc k = some v) : Cond.constantLong (oN oc) k v ∈ Gz := by
  unfold kL at h
  obtain ⟨y, h1, h2⟩ := Option.map_eq_some_iff.mp h
  have := kL_chk oc ho _ (lookup_in h1)
  dsimp only at this
  rw [h2] at this
  exact Gz_in this
theorem kS_ok {k a : Nat} (ho : oc < 8) (h : kS oc k = some a) : 60 ≤ a ∧ a < 72 ∧ oN oc = sO (a - 60) ∧ k = sK (a - 60) := by
  unfold kS at h
  obtain ⟨y, h1, h2⟩ := Option.map_eq_some_iff.mp h
  have := kS_chk oc ho _ (lookup_in h1)
  dsimp only at this
  rw [h2] at this
  exact this
theorem s_exA (hx : p.tables.exec = Jvm.exec) (hb : c.code = cc) (hown : s.vm.findClass (oN oc) = some m.cls) (ho : oc < 8) (hG : ∀ w ∈ Gz, w.before args s = true) (hSt : Sta N xs ad (AD ad sz) s s.heap) (hd : decode cc pc = .ok i) (h : exA oc pc i L K st w = some x) (kk : Cn p l e R s m args below meth c cells slots Q D cI cL cQ ad N xs nL sz x) : Cn p l e R s m args below meth c cells slots Q D cI cL cQ ad N xs nL sz (pc, L, K, st, w) := by
  intro H locs ls hP hS hl hs
  unfold exA at h
  split at h
  · cases h; exact lv_iconst hx hb hd rfl (kk H locs ls hP hS hl hs)
  · cases h; exact lv_bipush hx hb hd rfl (kk H locs ls hP hS hl hs)
  · cases h; exact lv_sipush hx hb hd rfl (kk H locs ls hP hS hl hs)
  · cases h; exact lv_lconst hx hb hd rfl (kk H locs ls hP hS hl hs)
  · split at h
    · rename_i hk
      cases h; exact lv_ldc hx hb hown (hG _ (kI_ok ho hk)) hd (kk H locs ls hP hS hl hs)
    · split at h
      · rename_i a hk
        cases h
        obtain ⟨h1, h2, h3, h4⟩ := kS_ok ho hk
        have hZ := hSt.2.2.2.2.1 (a - 60) (by omega)
        rw [← h3, ← h4, show 60 + (a - 60) = a by omega] at hZ
        exact va_ldcS hx hb hown hZ hd (kk H locs ls hP hS hl hs)
      · cases h
  · split at h
    · rename_i hk
      cases h; exact lv_ldcw hx hb hown (hG _ (kI_ok ho hk)) hd (kk H locs ls hP hS hl hs)
    · cases h
  · split at h
    · rename_i hk
      cases h; exact lv_ldc2 hx hb hown (hG _ (kL_ok ho hk)) hd (kk H locs ls hP hS hl hs)
    · cases h
  · cases h
theorem s_exB (hx : p.tables.exec = Jvm.exec) (hb : c.code = cc) (hd : decode cc pc = .ok i) (h : exB pc i L K st w = some x) (kk : Cn p l e R s m args below meth c cells slots Q D cI cL cQ ad N xs nL sz x) : Cn p l e R s m args below meth c cells slots Q D cI cL cQ ad N xs nL sz (pc, L, K, st, w) := by
  intro H locs ls hP hS hl hs
  have hll : lrep ad ls nL L K := hl
  unfold exB at h
  split at h
  · unfold ldI at h
    split at h
    · cases h; rename_i hL
      exact lv_iload_n hx hb hd rfl (hll.2.2.2.1 _ _ hL).2 (kk H locs ls hP hS hl hs)
    · cases h
  · unfold ldI at h
    split at h
    · cases h; rename_i hL
      exact lv_iload hx hb hd (hll.2.2.2.1 _ _ hL).2 (kk H locs ls hP hS hl hs)
    · cases h
  · unfold ldR at h
    split at h
    · cases h; rename_i hL
      exact lv_aload_n hx hb hd rfl (hll.2.2.2.1 _ _ hL).2 (kk H locs ls hP hS hl hs)
    · cases h
  · unfold ldR at h
    split at h
    · cases h; rename_i hL
      exact lv_aload hx hb hd (hll.2.2.2.1 _ _ hL).2 (kk H locs ls hP hS hl hs)
    · cases h
  · unfold ldL at h
    split at h
    · cases h; rename_i hL
      exact lv_lload_n hx hb hd rfl (hll.2.2.2.2 _ _ hL) (kk H locs ls hP hS hl hs)
    · cases h
  · unfold ldL at h
    split at h
    · cases h; rename_i hL
      exact lv_lload hx hb hd (hll.2.2.2.2 _ _ hL) (kk H locs ls hP hS hl hs)
    · cases h
  · cases h
theorem s_exC (hx : p.tables.exec = Jvm.exec) (hb : c.code = cc) (hd : decode cc pc = .ok i) (h : exC pc i L K st w = some x) (kk : Cn p l e R s m args below meth c cells slots Q D cI cL cQ ad N xs nL sz x) : Cn p l e R s m args below meth c cells slots Q D cI cL cQ ad N xs nL sz (pc, L, K, st, w) := by
  intro H locs ls hP hS hl hs
  have hll : lrep ad ls nL L K := hl
  have hA := asl_has hll
  have hln : L.length ≤ nL := hll.2.2.1
  unfold exC at h
  split at h
  · unfold stI at h
    split at h
    · split at h
      · rename_i hi
        cases h
        exact lv_istore_n hx hb hd rfl hA (Nat.lt_of_lt_of_le hi hln) rfl (fun ls' h' => kk H locs ls' hP hS (lrep_st hll rfl hi h') hs)
      · cases h
    · cases h
  · unfold stI at h
    split at h
    · split at h
      · rename_i hi
        cases h
        exact lv_istore hx hb hd hA (Nat.lt_of_lt_of_le hi hln) rfl (fun ls' h' => kk H locs ls' hP hS (lrep_st hll rfl hi h') hs)
      · cases h
    · cases h
  · unfold stR at h
    split at h
    · split at h
      · rename_i y _ hi
        cases h
        exact lv_astore_n hx hb hd rfl hA (Nat.lt_of_lt_of_le hi hln) rfl (fun ls' h' => kk H locs ls' hP hS (lrep_st (v0 := .ref y) hll rfl hi h') hs)
      · cases h
    · cases h
  · unfold stR at h
    split at h
    · split at h
      · rename_i y _ hi
        cases h
        exact lv_astore hx hb hd hA (Nat.lt_of_lt_of_le hi hln) rfl (fun ls' h' => kk H locs ls' hP hS (lrep_st (v0 := .ref y) hll rfl hi h') hs)
      · cases h
    · cases h
  · unfold stL at h
    split at h
    · split at h
      · rename_i hi
        cases h
        exact lv_lstore_n hx hb hd rfl hA (Nat.lt_of_lt_of_le hi hln) rfl (fun ls' h' => kk H locs ls' hP hS (lrep_sl hll hi h') hs)
      · cases h
    · cases h
  · unfold stL at h
    split at h
    · split at h
      · rename_i hi
        cases h
        exact lv_lstore hx hb hd hA (Nat.lt_of_lt_of_le hi hln) rfl (fun ls' h' => kk H locs ls' hP hS (lrep_sl hll hi h') hs)
      · cases h
    · cases h
  · split at h
    · rename_i hL
      cases h
      have hi := (List.getElem?_eq_some_iff.mp hL).1
      obtain ⟨j, hj⟩ := List.getElem?_of_mem (asl_L (ad := ad) (K := K) (Nat.lt_of_lt_of_le hi hln) hL)
      exact lv_iinc hx hb hd hA hj rfl (Nat.lt_of_lt_of_le hi hln) rfl (fun ls' h' => kk H locs ls' hP hS (lrep_st (v0 := .int _) hll rfl hi h') hs)
    · cases h
  · cases h
theorem s_exD (hx : p.tables.exec = Jvm.exec) (hb : c.code = cc) (hd : decode cc pc = .ok i) (h : exD pc i L K st w = some x) (kk : Cn p l e R s m args below meth c cells slots Q D cI cL cQ ad N xs nL sz x) : Cn p l e R s m args below meth c cells slots Q D cI cL cQ ad N xs nL sz (pc, L, K, st, w) := by
  intro H locs ls hP hS hl hs
  unfold exD at h
  split at h
  iterate 7
    · unfold ii at h
      split at h
      · cases h
        first
          | exact lv_iadd hx hb hd (kk H locs ls hP hS hl hs)
          | exact lv_isub hx hb hd (kk H locs ls hP hS hl hs)
          | exact lv_imul hx hb hd (kk H locs ls hP hS hl hs)
          | exact lv_iand hx hb hd (kk H locs ls hP hS hl hs)
          | exact lv_ior hx hb hd (kk H locs ls hP hS hl hs)
          | exact lv_ishl hx hb hd (kk H locs ls hP hS hl hs)
          | exact lv_ishr hx hb hd (kk H locs ls hP hS hl hs)
      · cases h
  · unfold ii at h
    split at h
    · cases h; exact lv_iushr hx hb hd rfl (kk H locs ls hP hS hl hs)
    · cases h
  · split at h
    · split at h
      · cases h
      · rename_i h0; cases h; exact lv_idiv hx hb hd h0 (kk H locs ls hP hS hl hs)
    · cases h
  · split at h
    · split at h
      · cases h
      · rename_i h0; cases h; exact lv_irem hx hb hd h0 (kk H locs ls hP hS hl hs)
    · cases h
  · cases h
theorem s_exE (hx : p.tables.exec = Jvm.exec) (hb : c.code = cc) (hd : decode cc pc = .ok i) (h : exE pc i L K st w = some x) (kk : Cn p l e R s m args below meth c cells slots Q D cI cL cQ ad N xs nL sz x) : Cn p l e R s m args below meth c cells slots Q D cI cL cQ ad N xs nL sz (pc, L, K, st, w) := by
  intro H locs ls hP hS hl hs
  unfold exE at h
  split at h
  · split at h
    · cases h; exact lv_ladd hx hb hd (kk H locs ls hP hS hl hs)
    · cases h
  · split at h
    · cases h; exact lv_lmul hx hb hd (kk H locs ls hP hS hl hs)
    · cases h
  · split at h
    · split at h
      · cases h
      · rename_i h0; cases h; exact lv_ldiv hx hb hd h0 (kk H locs ls hP hS hl hs)
    · cases h
  · split at h
    · split at h
      · cases h
      · rename_i h0; cases h; exact lv_lrem hx hb hd h0 (kk H locs ls hP hS hl hs)
    · cases h
  · split at h
    · cases h; exact W.lcmp hx hb hd (kk H locs ls hP hS hl hs)
    · cases h
  · split at h
    · cases h; exact lv_i2l hx hb hd rfl (kk H locs ls hP hS hl hs)
    · cases h
  · split at h
    · cases h; exact lv_l2i hx hb hd rfl (kk H locs ls hP hS hl hs)
    · cases h
  · split at h
    · cases h; exact lv_i2b hx hb hd rfl (kk H locs ls hP hS hl hs)
    · cases h
  · split at h
    · cases h; exact lv_i2s hx hb hd rfl (kk H locs ls hP hS hl hs)
    · cases h
  · cases h
theorem jp_eq {o : Int} (h : ¬ ((pc : Int) + o < 0)) : (pc : Int) + o = ((jp pc o : Nat) : Int) := by unfold jp; omega
theorem s_exF (hx : p.tables.exec = Jvm.exec) (hb : c.code = cc) (hd : decode cc pc = .ok i) (h : exF pc i L K st w = some x) (kk : Cn p l e R s m args below meth c cells slots Q D cI cL cQ ad N xs nL sz x) : Cn p l e R s m args below meth c cells slots Q D cI cL cQ ad N xs nL sz (pc, L, K, st, w) := by
  intro H locs ls hP hS hl hs
  unfold exF at h
  split at h
  iterate 6
    · split at h
      · cases h
      · rename_i h0
        unfold if1 at h
        split at h
        · split at h
          · rename_i hc
            have hc := of_decide_eq_true hc
            cases h
            first
              | exact lv_if_eq hx hb hd (jp_eq h0) (fun _ => kk H locs ls hP hS hl hs) (fun n => absurd hc n)
              | exact lv_if_ne hx hb hd (jp_eq h0) (fun _ => kk H locs ls hP hS hl hs) (fun n => absurd n hc)
              | exact lv_if_lt hx hb hd (jp_eq h0) (fun _ => kk H locs ls hP hS hl hs) (fun n => absurd hc n)
              | exact lv_if_ge hx hb hd (jp_eq h0) (fun _ => kk H locs ls hP hS hl hs) (fun n => absurd hc n)
              | exact lv_if_gt hx hb hd (jp_eq h0) (fun _ => kk H locs ls hP hS hl hs) (fun n => absurd hc n)
              | exact lv_if_le hx hb hd (jp_eq h0) (fun _ => kk H locs ls hP hS hl hs) (fun n => absurd hc n)
          · rename_i hc
            have hc := fun z => hc (decide_eq_true z)
            cases h
            first
              | exact lv_if_eq hx hb hd (jp_eq h0) (fun y => absurd y hc) (fun _ => kk H locs ls hP hS hl hs)
              | exact lv_if_ne hx hb hd (jp_eq h0) (fun y => absurd y hc) (fun _ => kk H locs ls hP hS hl hs)
              | exact lv_if_lt hx hb hd (jp_eq h0) (fun y => absurd y hc) (fun _ => kk H locs ls hP hS hl hs)
              | exact lv_if_ge hx hb hd (jp_eq h0) (fun y => absurd y hc) (fun _ => kk H locs ls hP hS hl hs)
              | exact lv_if_gt hx hb hd (jp_eq h0) (fun y => absurd y hc) (fun _ => kk H locs ls hP hS hl hs)
              | exact lv_if_le hx hb hd (jp_eq h0) (fun y => absurd y hc) (fun _ => kk H locs ls hP hS hl hs)
        · cases h
  iterate 6
    · split at h
      · cases h
      · rename_i h0
        unfold if2 at h
        split at h
        · split at h
          · rename_i hc
            have hc := of_decide_eq_true hc
            cases h
            first
              | exact lv_icmp_eq hx hb hd (jp_eq h0) (fun _ => kk H locs ls hP hS hl hs) (fun n => absurd hc n)
              | exact lv_icmp_ne hx hb hd (jp_eq h0) (fun _ => kk H locs ls hP hS hl hs) (fun n => absurd n hc)
              | exact lv_icmp_lt hx hb hd (jp_eq h0) (fun _ => kk H locs ls hP hS hl hs) (fun n => absurd hc n)
              | exact lv_icmp_ge hx hb hd (jp_eq h0) (fun _ => kk H locs ls hP hS hl hs) (fun n => absurd hc n)
              | exact lv_icmp_gt hx hb hd (jp_eq h0) (fun _ => kk H locs ls hP hS hl hs) (fun n => absurd hc n)
              | exact lv_icmp_le hx hb hd (jp_eq h0) (fun _ => kk H locs ls hP hS hl hs) (fun n => absurd hc n)
          · rename_i hc
            have hc := fun z => hc (decide_eq_true z)
            cases h
            first
              | exact lv_icmp_eq hx hb hd (jp_eq h0) (fun y => absurd y hc) (fun _ => kk H locs ls hP hS hl hs)
              | exact lv_icmp_ne hx hb hd (jp_eq h0) (fun y => absurd y hc) (fun _ => kk H locs ls hP hS hl hs)
              | exact lv_icmp_lt hx hb hd (jp_eq h0) (fun y => absurd y hc) (fun _ => kk H locs ls hP hS hl hs)
              | exact lv_icmp_ge hx hb hd (jp_eq h0) (fun y => absurd y hc) (fun _ => kk H locs ls hP hS hl hs)
              | exact lv_icmp_gt hx hb hd (jp_eq h0) (fun y => absurd y hc) (fun _ => kk H locs ls hP hS hl hs)
              | exact lv_icmp_le hx hb hd (jp_eq h0) (fun y => absurd y hc) (fun _ => kk H locs ls hP hS hl hs)
        · cases h
  · split at h
    · cases h
    · rename_i h0
      cases h
      exact lv_goto hx hb hd (jp_eq h0) (kk H locs ls hP hS hl hs)
  · cases h
theorem ofInt_iff {y : Int32} {z : Int} (h0 : 0 ≤ z) (h1 : z < 2147483648) : y = Int32.ofInt z ↔ y.toInt = z := by
  have e : (Int32.ofInt z).toInt = z := Int32.toInt_ofInt_of_le (by omega) (by omega)
  constructor
  · intro h; rw [h, e]
  · intro h; exact Int32.toInt_inj.mp (h.trans e.symm)
theorem swt_spec {y : Int32} {d : Int} : ∀ (os : List Int) (lo : Int), 0 ≤ lo → lo + os.length ≤ 1000 → ((y.toInt < lo ∨ lo + os.length ≤ y.toInt) → swt y lo os d = d) ∧ (lo ≤ y.toInt → y.toInt < lo + os.length → os[(y.toInt - lo).toNat]? = some (swt y lo os d)) := by
  intro os
  induction os with
  | nil => intro lo h0 h1; exact ⟨fun _ => rfl, fun h2 h3 => absurd h3 (by simp; omega)⟩
  | cons o os ih =>
    intro lo h0 h1
    have hl : ((o :: os).length : Int) = os.length + 1 := by simp
    rw [hl] at h1 ⊢
    have h2 := ih (lo + 1) (by omega) (by omega)
    by_cases hy : y.toInt = lo
    · have e : swt y lo (o :: os) d = o := if_pos ((ofInt_iff h0 (by omega)).mpr hy)
      refine ⟨fun h => absurd h (by omega), fun _ _ => ?_⟩
      rw [e, hy, Int.sub_self]
      rfl
    · have e : swt y lo (o :: os) d = swt y (lo + 1) os d := if_neg (fun h => hy ((ofInt_iff h0 (by omega)).mp h))
      rw [e]
      refine ⟨fun h => h2.1 (by omega), fun h3 h4 => ?_⟩
      have h5 := h2.2 (by omega) (by omega)
      have e2 : (y.toInt - lo).toNat = (y.toInt - (lo + 1)).toNat + 1 := by omega
      rw [e2, List.getElem?_cons_succ]
      exact h5
theorem s_exT (hx : p.tables.exec = Jvm.exec) (hb : c.code = cc) (hd : decode cc pc = .ok i) (h : exT pc i L K st w = some x) (kk : Cn p l e R s m args below meth c cells slots Q D cI cL cQ ad N xs nL sz x) : Cn p l e R s m args below meth c cells slots Q D cI cL cQ ad N xs nL sz (pc, L, K, st, w) := by
  intro H locs ls hP hS hl hs
  unfold exT at h
  split at h
  · split at h
    · split at h
      · rename_i d lo hi os _ _ y _ hg
        cases h
        simp only [Bool.and_eq_true, decide_eq_true_eq, List.all_eq_true] at hg
        obtain ⟨⟨⟨⟨g1, g2⟩, g3⟩, g4⟩, g5⟩ := hg
        have hsp := swt_spec (y := y) (d := d) os.toList lo g1 (by omega)
        by_cases hout : y.toInt < lo ∨ hi < y.toInt
        · have e1 : swt y lo os.toList d = d := hsp.1 (by omega)
          exact lv_tableOut hx hb hd hout (tgt := jp pc (swt y lo os.toList d)) (by rw [e1]; unfold jp; omega) (kk H locs ls hP hS hl hs)
        · have h5 := hsp.2 (by omega) (by omega)
          have hm := g5 _ (List.mem_of_getElem? h5)
          refine lv_tableIn hx hb hd (off := swt y lo os.toList d) (tgt := jp pc (swt y lo os.toList d)) (by omega) (by omega) ?_ (by unfold jp; omega) (kk H locs ls hP hS hl hs)
          rw [← Array.getElem?_toList]
          exact h5
      · cases h
    · cases h
  · split at h
    · cases h; exact lv_dup hx hb hd rfl (kk H locs ls hP hS hl hs)
    · cases h; exact lv_dup hx hb hd rfl (kk H locs ls hP hS hl hs)
    · cases h
  · split at h
    · cases h; exact lv_dup2_11 hx hb hd rfl rfl (kk H locs ls hP hS hl hs)
    · cases h
  · split at h
    · cases h; exact lv_pop hx hb hd rfl (kk H locs ls hP hS hl hs)
    · cases h
  · cases h
end SND
