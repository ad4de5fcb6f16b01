theorem enL_len : ∀ (n : Nat) (vs : List Value), (enL n vs).length ≤ n
  | 0, _ => by simp [enL]
  | n + 1, [] => by simp [enL]
  | n + 1, .int x :: vs => by simp [enL]; exact enL_len n vs
  | n + 1, .ref x :: vs => by simp [enL]; exact enL_len n vs
  | 1, .long x :: vs => by simp [enL]
  | n + 2, .long x :: vs => by simp [enL]; exact enL_len n vs
  | n + 1, .float _ :: vs => by simp [enL]
  | n + 1, .double _ :: vs => by simp [enL]
  | n + 1, .null :: vs => by simp [enL]
  | n + 1, .retAddr _ :: vs => by simp [enL]
theorem repl_no {α : Type} {n i : Nat} {v : α} (h : (List.replicate n (none : Option α))[i]? = some (some v)) : False := by
  rw [List.getElem?_replicate] at h
  split at h <;> cases h
theorem enL_ok (ad : Nat → Nat) : ∀ (n : Nat) (vs : List Value) (b i : Nat) (v : Value), (enL n vs)[i]? = some (some v) → v.category = 1 ∧ (b + i, cv ad v) ∈ lv_args b (vs.map (cv ad))
  | 0, _, b, i, v, h => by simp [enL] at h
  | n + 1, [], b, i, v, h => (repl_no h).elim
  | n + 1, .int x :: vs, b, 0, v, h => by cases h; exact ⟨rfl, List.mem_cons_self⟩
  | n + 1, .int x :: vs, b, i + 1, v, h => by
    have := enL_ok ad n vs (b + 1) i v h
    exact ⟨this.1, List.mem_cons_of_mem _ (by rw [show b + (i + 1) = b + 1 + i by omega]; exact this.2)⟩
  | n + 1, .ref x :: vs, b, 0, v, h => by cases h; exact ⟨rfl, List.mem_cons_self⟩
  | n + 1, .ref x :: vs, b, i + 1, v, h => by
    have := enL_ok ad n vs (b + 1) i v h
    exact ⟨this.1, List.mem_cons_of_mem _ (by rw [show b + (i + 1) = b + 1 + i by omega]; exact this.2)⟩
  | 1, .long x :: vs, b, 0, v, h => by cases h
  | 1, .long x :: vs, b, i + 1, v, h => by cases h
  | n + 2, .long x :: vs, b, 0, v, h => by cases h
  | n + 2, .long x :: vs, b, 1, v, h => by cases h
  | n + 2, .long x :: vs, b, i + 2, v, h => by
    have := enL_ok ad n vs (b + 2) i v h
    exact ⟨this.1, List.mem_cons_of_mem _ (by rw [show b + (i + 2) = b + 2 + i by omega]; exact this.2)⟩
  | n + 1, .float _ :: vs, b, i, v, h => (repl_no h).elim
  | n + 1, .double _ :: vs, b, i, v, h => (repl_no h).elim
  | n + 1, .null :: vs, b, i, v, h => (repl_no h).elim
  | n + 1, .retAddr _ :: vs, b, i, v, h => (repl_no h).elim
theorem enK_ok (ad : Nat → Nat) : ∀ (n : Nat) (vs : List Value) (b i : Nat) (v : Int64), (enK n vs)[i]? = some (some v) → (b + i, Value.long v) ∈ lv_args b (vs.map (cv ad))
  | 0, _, b, i, v, h => by simp [enK] at h
  | n + 1, [], b, i, v, h => (repl_no h).elim
  | n + 1, .int x :: vs, b, 0, v, h => by cases h
  | n + 1, .int x :: vs, b, i + 1, v, h => by
    have := enK_ok ad n vs (b + 1) i v h
    exact List.mem_cons_of_mem _ (by rw [show b + (i + 1) = b + 1 + i by omega]; exact this)
  | n + 1, .ref x :: vs, b, 0, v, h => by cases h
  | n + 1, .ref x :: vs, b, i + 1, v, h => by
    have := enK_ok ad n vs (b + 1) i v h
    exact List.mem_cons_of_mem _ (by rw [show b + (i + 1) = b + 1 + i by omega]; exact this)
  | 1, .long x :: vs, b, 0, v, h => by cases h
  | 1, .long x :: vs, b, i + 1, v, h => by cases h
  | n + 2, .long x :: vs, b, 0, v, h => by cases h; exact List.mem_cons_self
  | n + 2, .long x :: vs, b, 1, v, h => by cases h
  | n + 2, .long x :: vs, b, i + 2, v, h => by
    have := enK_ok ad n vs (b + 2) i v h
    exact List.mem_cons_of_mem _ (by rw [show b + (i + 2) = b + 2 + i by omega]; exact this)
  | n + 1, .float _ :: vs, b, i, v, h => (repl_no h).elim
  | n + 1, .double _ :: vs, b, i, v, h => (repl_no h).elim
  | n + 1, .null :: vs, b, i, v, h => (repl_no h).elim
  | n + 1, .retAddr _ :: vs, b, i, v, h => (repl_no h).elim
theorem sl_len (ad : Nat → Nat) : ∀ vs : List Value, (lg_sl (vs.map (cv ad))).length = wds vs
  | [] => rfl
  | v :: vs => by
    have ih := sl_len ad vs
    have e : lg_sl ((v :: vs).map (cv ad)) = (if (cv ad v).category = 2 then [Slot.val (cv ad v), .second] else [.val (cv ad v)]) ++ lg_sl (vs.map (cv ad)) := rfl
    have e2 : wds (v :: vs) = v.category + wds vs := rfl
    rw [e, e2, List.length_append, ih, cv_cat]
    rcases lv_cat v with h | h <;> rw [h] <;> rfl
section SND
variable {l : Launch} {D : va_G} {cI cL cQ : ClassId} {ad : Nat → Nat} {N : Nat} {xs : Nat → Int32}
theorem blocked_in {M : Nat} (hM : M < 204) : ∀ W ∈ wsM M, W ∈ Gz := wsM_in hM
set_option maxHeartbeats 4000000 in
/-- THE MACHINE IS SOUND: what it answers of a method's call, the method does -/
theorem sound (hin : inj54 ad) (hJ : Jok l ad N xs) : ∀ (v M : Nat) (as : List Value) (w : Wd) (r : Rs), M < 204 → wds as ≤ mX M → CL v M as w = some r → Cok l D cI cL cQ ad N xs M as w r := by
  intro v
  induction v with
  | zero => intro M as w r _ _ h; cases h
  | succ v ih =>
    intro M as w r hM hwd h
    have h : (if mV M = v then lim (CL v) M (en0 M as w) else CL v M as w) = some r := h
    by_cases hv : mV M = v
    · rw [if_pos hv] at h
      obtain ⟨n, hn⟩ := lim_ex h
      intro sz
      obtain ⟨d1, d2, d3⟩ := mD_chk M hM
      obtain ⟨e1, e2, e3, e4⟩ := mC_chk M (by omega)
      refine Met.ofW (cc := mB M) (maxL := mX M) (ret := mR M) d2 rfl ?_
      intro p e s m args below meth c s₁ B hml hpre
      obtain ⟨rfl, hsz, hP, hK, hSt, hsc⟩ := hpre
      have hx := B.exec
      have hb := B.bytes
      have hr := B.returns
      have hlocks := B.notSynchronized
      have hown : s.vm.findClass (oN (mC M)) = some m.cls := by rw [← e2]; exact findClass_of_methodNamed B.named
      have hts := atoms_spec (ws := wsM M) B.pre
      have hG : ∀ W ∈ Gz, W.before ((as.map (cv ad)).toArray) s = true := fun W hW => hts W (List.mem_cons_of_mem _ hW)
      have hle : (lg_sl (as.map (cv ad))).length ≤ mX M := by rw [sl_len]; exact hwd
      have hl := lv_entry (as.map (cv ad)) (n := mX M) hle
      rw [lg_entry_eq]
      generalize (lg_sl (as.map (cv ad)) ++ List.replicate (mX M - (lg_sl (as.map (cv ad))).length) Slot.unset).toArray = ls at hl ⊢
      have hlr : lrep ad ls (mX M) (enL (mX M) as) (if mJ M = true then enK (mX M) as else []) := by
        refine ⟨hl.1, hl.2.1, enL_len _ _, fun i v0 hv0 => ?_, fun i x hx0 => ?_⟩
        · have := enL_ok ad (mX M) as 0 i v0 hv0
          rw [Nat.zero_add] at this
          exact ⟨this.1, hl.2.2 _ this.2⟩
        · split at hx0
          · have := enK_ok ad (mX M) as 0 i x hx0
            rw [Nat.zero_add] at this
            exact hl.2.2 _ this
          · simp at hx0
      have hcall : ∀ t as w r, t < 204 → mV t < mV M → wds as ≤ mX t → CL v t as w = some r → Cok l D cI cL cQ ad N xs t as w r := fun t as w r h1 _ h4 h3 => ih t as w r h1 h4 h3
      have hend : ∀ pc i L K st w', decode (mB M) pc = .ok i → exR M i st w' = some r → Cn p l e (rmM (mV M)) s m ((as.map (cv ad)).toArray) below meth c 0 0 (MQ below (PostM D cI cL cQ ad N xs sz r.1 r.2) ((as.map (cv ad)).toArray) s 0 0 (AD ad sz)) D cI cL cQ ad N xs (mX M) sz (pc, L, K, st, w') := by
        intro pc i L K st w' hd hex
        obtain ⟨rfl, hst1⟩ := exR_len hex
        intro H locs ls' hP' hS' hl' hs'
        have hq : ∀ t : State, t.heap = H → s.WarmedH t.vm → PostM D cI cL cQ ad N xs sz st w' ((as.map (cv ad)).toArray) s (.returned ((st.map (cv ad)).head?)) t := fun t ht _ => ⟨rfl, hst1, by rw [ht]; exact hP', hS'.F ht, hs'⟩
        have hf : ∀ q ∈ locs, AD ad sz q.base := hS'.2.2
        unfold exR at hex
        split at hex
        · split at hex
          · split at hex
            · rename_i hmr
              rw [hmr] at hr
              exact W.iret hx hb hr hq hf hd hlocks
            · rename_i hmr
              rw [hmr] at hr
              split at hex
              · rename_i v01
                exact W.zret hx hb hr (by rcases v01 with rfl | rfl <;> decide) hq hf hd hlocks
              · cases hex
            · cases hex
          · cases hex
        · split at hex
          · split at hex
            · rename_i hmr
              rw [hmr] at hr
              exact W.lret hx hb hr hq hf hd hlocks
            · cases hex
          · cases hex
        · split at hex
          · split at hex
            · rename_i hmr
              rw [hmr] at hr
              exact W.aret hx hb hr (Or.inr ⟨_, rfl⟩) (Or.inr ⟨_, rfl⟩) hq hf hd hlocks
            · rename_i hmr
              rw [hmr] at hr
              exact W.aret hx hb hr (Or.inl ⟨_, rfl⟩) (Or.inr ⟨_, rfl⟩) hq hf hd hlocks
            · cases hex
          · cases hex
        · split at hex
          · split at hex
            · rename_i hmr
              rw [hmr] at hr
              exact W.vret hx hb hr hq hf hd hlocks
            · cases hex
          · cases hex
        · cases hex
      rw [← hv] at hcall hn
      exact s_run (R := rmM (mV M)) (cells := 0) (slots := 0) hx hb hml hown e1 hG hK hin hsz hSt ⟨Nat.le_refl _, Nat.le_refl _, Nat.le_refl _, Nat.le_refl _⟩ hJ hcall hend n _ hn s.heap [] ls hP va_S.rf hlr hsc
    · rw [if_neg hv] at h
      exact ih M as w r hM hwd h
end SND
