section SND
variable {p : Program} {l : Launch} {e : Jvm.Env} {R : Room} {s : State} {m : MethodId} {args : Array Value} {below : List Frame} {meth : Method} {c : Code} {cells slots : Nat} {Q : State → Prop} {D : va_G} {cI cL cQ : ClassId} {ad : Nat → Nat} {N : Nat} {xs : Nat → Int32} {nL sz : Nat} {cc : ByteArray} {pc oc : Nat} {i : Instr × Nat} {L : Lc} {K : Lk} {st : List Value} {w : Wd} {x : Cf}
theorem fl_ok {k c f : Nat} (ho : oc < 8) (h : fl oc k = some (c, f)) : c < 5 ∧ f < nfc c ∧ Cond.fieldLink (oN oc) k (oN (c + 1)) (cTT c f).2.1 (cTT c f).2.2.1 ∈ Gz ∧ (cTT c f).1 = oN (c + 1) ∧ (cRf c f = false → (cTT c f).2.2.2 = false ∧ parseFieldDescriptor (cTT c f).2.2.1 = some (if fzc c f = true then .boolean else .int)) := by
  unfold fl at h
  obtain ⟨y, h1, h2⟩ := Option.map_eq_some_iff.mp h
  have h3 := fl_chk oc ho _ (lookup_in h1)
  cases h2
  obtain ⟨a1, a2, a3, a4, a5⟩ := h3
  exact ⟨a1, a2, Gz_in a3, a4, a5⟩
theorem uw_ok {c : Nat} (hc : c < 5) : ∀ W ∈ u_ws (oN (c + 1)) (cTT c) (nfc c), W ∈ Gz := fun W hW => List.mem_filter.mpr (uw_chk c hc W hW)
theorem gs_ok {k a : Nat} (ho : oc < 8) (h : gs oc k = some a) : 54 ≤ a ∧ a < 57 ∧ (Cond.fieldLink (oN oc) k (gC a) (gF a) "[I" ∈ Gz ∨ (oc = 1 ∧ k = 76 ∧ a = 54)) := by
  unfold gs at h
  obtain ⟨y, h1, h2⟩ := Option.map_eq_some_iff.mp h
  have h3 := gs_chk oc ho _ (lookup_in h1)
  cases h2
  obtain ⟨a1, a2, a3, a4⟩ := h3
  refine ⟨a1, a2, ?_⟩
  cases hn : y.2.2 with
  | false => exact Or.inl (Gz_in (a3 hn))
  | true => exact Or.inr (a4 hn)
theorem s_exG (hx : p.tables.exec = Jvm.exec) (hb : c.code = cc) (hown : s.vm.findClass (oN oc) = some m.cls) (ho : oc < 8) (hG : ∀ w ∈ Gz, w.before args s = true) (hK : va_K D clz (tyz cI cL cQ) s) (hin : inj54 ad) (hSt : Sta N xs ad (AD ad sz) s s.heap) (hd : decode cc pc = .ok i) (h : exG oc pc i L K st w = some x) (kk : Cn p l e R s m args below meth c cells slots Q D cI cL cQ ad N xs nL sz x) : Cn p l e R s m args below meth c cells slots Q D cI cL cQ ad N xs nL sz (pc, L, K, st, w) := by
  intro H locs ls hP hS hl hs
  have hs0 : scr N xs w := hs
  have hP0 : va_P D clz (wz ad cI cL cQ w) H := hP
  have hD : va_D (AD ad sz) (wz ad cI cL cQ w) := wz_D hin
  unfold exG at h
  split at h
  · -- getfield
    split at h
    · split at h
      · rename_i k _ a _ _ c0 f hf
        split at h
        · rename_i hok
          obtain ⟨f1, f2, f3, f4, f5⟩ := fl_ok ho hf
          have he : (wz ad cI cL cQ w)[a]? = some (ad a, .inr (c0, fsz ad w c0 a)) := by rw [wz_at (okc_lt hok).1, cel_obj hok]
          split at h
          · rename_i b hr
            cases h
            exact va_get (D := D) hx hb hG (uw_ok f1) hown hK hP0 a he (clz_at c0 f1) f f2 (hG _ f3) (by rw [f4]; exact fun _ z => z) (v := .ref (ad b)) (by rw [fsz_at f2, hr]) hd (kk H locs ls hP hS hl hs)
          · rename_i hr
            cases h
            exact va_get (D := D) hx hb hG (uw_ok f1) hown hK hP0 a he (clz_at c0 f1) f f2 (hG _ f3) (by rw [f4]; exact fun _ z => z) (v := .int (w.1 a f)) (by rw [fsz_at f2, hr]) hd (kk H locs ls hP hS hl hs)
        · cases h
      · cases h
    · cases h
  · -- putfield
    split at h
    · split at h
      · rename_i k _ v a _ _ c0 f hf
        split at h
        · rename_i hok
          obtain ⟨hok, hr, hz⟩ := hok
          obtain ⟨f1, f2, f3, f4, f5⟩ := fl_ok ho hf
          obtain ⟨f6, f7⟩ := f5 (frc_cRf f1 hr)
          have he : (wz ad cI cL cQ w)[a]? = some (ad a, .inr (c0, fsz ad w c0 a)) := by rw [wz_at (okc_lt hok).1, cel_obj hok]
          cases h
          have hfit : narrow (if fzc c0 f = true then FieldType.boolean else .int) (.int v) = .int v ∧ fits (if fzc c0 f = true then FieldType.boolean else .int) (.int v) = true := by
            cases hzz : fzc c0 f with
            | false => exact ⟨rfl, rfl⟩
            | true => rcases hz hzz with rfl | rfl <;> exact ⟨by decide, by decide⟩
          refine va_put (D := D) hx hb hG (uw_ok f1) (cTy c0) (cTy_ok c0 f1).1 (cTy_ok c0 f1).2 hown hK hP0 hD hS a he (clz_at c0 f1) f f2 (hG _ f3) (by rw [f4]; exact fun _ z => z) f6 f7 hfit.1 hfit.2 (by rw [fsz_len]; exact f2) hd (fun H1 locs1 hP1 _ hS1 => ?_)
          have hP1 : va_P D clz ((wz ad cI cL cQ w).set a (ad a, .inr (c0, (fsz ad w c0 a).set f (.int v)))) H1 := hP1
          rw [wz_st2o hok f2 hr] at hP1
          exact kk H1 locs1 ls hP1 hS1 hl (scr_put (okc_lt hok).1 hs0)
        · cases h
      · cases h
    · cases h
  · -- getstatic
    split at h
    · rename_i k _ a hg
      obtain ⟨g1, g2, g3⟩ := gs_ok ho hg
      have hZ := (hSt.1 a g1 g2).1
      cases h
      rcases g3 with g3 | ⟨rfl, rfl, rfl⟩
      · exact va_gets hx hb hZ hS hown (hG _ g3) (fun _ z => z) hd (kk H locs ls hP hS hl hs)
      · exact va_getsN hx hb hZ hS hown (va_Nw.use rfl hSt.2.2.2.2.2.2.2) (fun _ z => z) hd (kk H locs ls hP hS hl hs)
    · cases h
  · -- iaload
    split at h
    · rename_i j a _
      split at h
      · split at h
        · cases h
        · rename_i ha hj
          cases h
          have hp : 0 < al a := by omega
          exact va_iald (D := D) hx hb hK hP0 a 0 (by rw [wz_at ha, cel_arr hp]) rfl hj hd (kk H locs ls hP hS hl hs)
      · split at h
        · split at h
          · cases h
          · rename_i ha1 ha2 hj
            cases h
            exact va_ti hx hb (hSt.1 a (Nat.le_of_not_lt ha1) ha2).2 hS hj rfl hd (kk H locs ls hP hS hl hs)
        · split at h
          · rename_i ha
            subst ha
            split at h
            · cases h
            · rename_i hj
              cases h
              have hN : (w.1 58 0).toNatClampNeg = N := by rw [hs0.2]; exact nI_clamp hSt.2.1.1
              rw [hN] at hj
              exact va_ti hx hb hSt.2.1.2 hS hj (by rw [hs0.1]; rfl) hd (kk H locs ls hP hS hl hs)
          · cases h
    · cases h
  · -- iastore
    split at h
    · rename_i v j a _
      split at h
      · split at h
        · cases h
        · rename_i ha hj
          cases h
          have hp : 0 < al a := by omega
          refine va_iast (D := D) hx hb hK hP0 hD hS a 0 (by rw [wz_at ha, cel_arr hp]) rfl hj hd (fun H1 locs1 hP1 _ hS1 => ?_)
          rw [wz_put hp] at hP1
          exact kk H1 locs1 ls hP1 hS1 hl (scr_put ha hs0)
      · cases h
    · cases h
  · -- laload
    split at h
    · split at h
      · rename_i ha
        subst ha
        split at h
        · cases h
        · rename_i hj
          cases h
          exact va_lald (D := D) hx hb hK hP0 43 1 (by rw [wz_at (by omega)]; rfl) rfl hj hd (kk H locs ls hP hS hl hs)
      · cases h
    · cases h
  · -- lastore
    split at h
    · split at h
      · rename_i ha
        subst ha
        split at h
        · cases h
        · rename_i hj
          cases h
          refine va_last (D := D) hx hb hK hP0 hD hS 43 1 (by rw [wz_at (by omega)]; rfl) rfl hj hd (fun H1 locs1 hP1 _ hS1 => ?_)
          rw [wz_long] at hP1
          exact kk H1 locs1 ls hP1 hS1 hl hs0
      · cases h
    · cases h
  · -- aaload
    split at h
    · split at h
      · rename_i ha
        subst ha
        split at h
        · cases h
        · rename_i hj
          cases h
          exact va_aldq (D := D) (f := fun j => some (ad (32 + 2 * j))) hx hb hK hP0 31 2 (by rw [wz_at (by omega)]; rfl) rfl hj hd (kk H locs ls hP hS hl hs)
      · cases h
    · cases h
  · -- arraylength
    split at h
    · split at h
      · rename_i ha
        subst ha
        cases h
        exact va_tlen hx hb hSt.2.1.2 hS (by rw [hs0.2]; rfl) hd (kk H locs ls hP hS hl hs)
      · cases h
    · cases h
  · cases h
end SND
