theorem rev_stack {ad : Nat → Nat} {st : List Value} {n : Nat} : st.map (cv ad) = (((st.take n).reverse).map (cv ad)).reverse ++ (st.drop n).map (cv ad) := by
  rw [← List.map_reverse, List.reverse_reverse, ← List.map_append, List.take_append_drop]
theorem wds_cons (v : Value) (st : List Value) : wds (v :: st) = v.category + wds st := rfl
theorem wds_app (a b : List Value) : wds (a ++ b) = wds a + wds b := by simp [wds]
theorem wds_rev (st : List Value) : wds st.reverse = wds st := by
  induction st with
  | nil => rfl
  | cons v st ih => rw [List.reverse_cons, wds_app, ih, wds_cons]; simp [wds]; omega
theorem str_ix {b : Nat} (h1 : 60 ≤ b) (h2 : b < 72) : ∃ i : Nat, i < 12 ∧ b = 60 + i ∧ b - 60 = i := ⟨b - 60, by omega, by omega, rfl⟩
section SND
variable {p : Program} {l : Launch} {e : Jvm.Env} {R : Room} {s : State} {m : MethodId} {args : Array Value} {below : List Frame} {meth : Method} {c : Code} {cells slots : Nat} {Q : State → Prop} {D : va_G} {cI cL cQ : ClassId} {ad : Nat → Nat} {N : Nat} {xs : Nat → Int32} {nL sz : Nat} {cc : ByteArray} {pc oc t : Nat} {i : Instr × Nat} {L : Lc} {K : Lk} {st : List Value} {w : Wd} {x : Cf} {k M : Nat} {call : Nat → List Value → Wd → Option Rs}
theorem s_exI (hx : p.tables.exec = Jvm.exec) (hb : c.code = cc) (hml : c.maxLocals = nL) (hown : s.vm.findClass (oN (mC M)) = some m.cls) (ho : mC M < 8) (hG : ∀ w ∈ Gz, w.before args s = true) (hK : va_K D clz (tyz cI cL cQ) s) (hin : inj54 ad) (hsz : s.heap.size = sz) (hSt : Sta N xs ad (AD ad sz) s s.heap) (hR : mV M + 5 ≤ R.frames ∧ 32 * mV M + 150 ≤ R.locals ∧ cells ≤ R.cells ∧ slots ≤ R.slots) (hJ : Jok l ad N xs)
    (hcall : ∀ t as w r, t < 204 → mV t < mV M → wds as ≤ mX t → call t as w = some r → Cok l D cI cL cQ ad N xs t as w r)
    (hd : decode cc pc = .ok i) (h : exI call M pc i L K st w = some x) (kk : Cn p l e R s m args below meth c cells slots Q D cI cL cQ ad N xs nL sz x) : Cn p l e R s m args below meth c cells slots Q D cI cL cQ ad N xs nL sz (pc, L, K, st, w) := by
  unfold exI at h
  split at h
  · -- invokestatic
    split at h
    · rename_i k _ t hc
      obtain ⟨ht0, hlk⟩ := cs_ok ho hc
      split at h
      · rename_i ht
        have ht2 : t < 204 := by omega
        split at h
        · rename_i hcond
          obtain ⟨c1, c2, c3, c4, c5⟩ := hcond
          split at h
          · rename_i r w1 hr
            cases h
            intro H locs ls hP hS hl hs
            have hok := hcall t _ w (r, w1) ht2 c2 (by rw [wds_rev]; exact c4) hr H.size
            obtain ⟨d1, d2, d3⟩ := mD_chk t ht2
            obtain ⟨e1, e2, e3, e4⟩ := mC_chk t (by omega)
            have hrm : (rmM (mV t)).frames + 1 ≤ R.frames ∧ 8 + (mX t + 11) + (rmM (mV t)).locals ≤ R.locals := by
              constructor
              · show mV t + 5 + 1 ≤ _; omega
              · show 8 + (mX t + 11) + (32 * mV t + 150) ≤ _; omega
            have hpre : PreS s H (PreM D cI cL cQ ad N xs H.size (st.take (mA t)).reverse w) (((st.take (mA t)).reverse).map (cv ad)) := ⟨blind_M, fun U hU hW => ⟨rfl, by rw [hU], by rw [hU]; exact hP, va_K.moved hW.alike hK, Sta_call hsz hSt hS hU hW, hs⟩⟩
            have hlen : (((st.take (mA t)).reverse).map (cv ad)).length = mA t := by simp; omega
            have hini : Cond.initialized (mN t).cls ∈ Gz := by rw [e2]; exact Gz_in (oI_chk _ e1)
            have hst : Cond.static (mN t) ∈ Gz := by
              have := mA_chk t ht2
              rw [if_pos c1] at this
              exact Gz_in this
            have hWd : 2 * (F0 m pc ls (st.map (cv ad))).monitorRoom + (((st.drop (mA t)).map (cv ad)).map fun v => v.category).sum ≤ 8 := by
              rw [map_cat]
              show 2 * 0 + _ ≤ 8
              omega
            rcases hlk with hlk | ⟨o1, hh⟩
            · rw [pN_lt ht2] at hlk
              have hGI : GoodIn Gz (va_wsS (oN (mC M)) k (mN t) (wsM t)) := goodIn_Gz (fun W hW => by
                rcases List.mem_append.mp hW with h1 | h1
                · simp at h1
                  rcases h1 with rfl | rfl | rfl
                  · exact hlk
                  · exact hst
                  · exact hini
                · exact wsM_in ht2 W h1)
              exact af_M hsz hS hl (va_runS (As := ((st.take (mA t)).reverse).map (cv ad)) (rest := (st.drop (mA t)).map (cv ad)) ⟨hx, hb, hml, hown, hG⟩ hok (va_cwS (mA t) hG hGI rfl rfl rfl d1 hrm) hpre rfl hlen hl.1 rev_stack hWd hd ⟨hR.2.2.1, hR.2.2.2⟩) kk
            · have hnw : ∃ host, va_Nw (.methodLinkNest (oN (mC M)) k (mN t) host) s := by
                rw [o1]
                rcases hh with ⟨rfl, rfl⟩ | ⟨rfl, rfl⟩
                · exact ⟨_, hSt.2.2.2.2.2.1⟩
                · exact ⟨_, hSt.2.2.2.2.2.2.1⟩
              obtain ⟨host, hnw⟩ := hnw
              exact af_M hsz hS hl (va_runSN (As := ((st.take (mA t)).reverse).map (cv ad)) (rest := (st.drop (mA t)).map (cv ad)) ⟨hx, hb, hml, hown, hG⟩ hok ⟨va_cnB (mA t) hG (goodIn_Gz (wsM_in ht2)) rfl rfl rfl hnw (hG _ hini) d1 hrm, hG _ hst, trivial⟩ hpre rfl hlen hl.1 rev_stack hWd hd ⟨hR.2.2.1, hR.2.2.2⟩) kk
          · cases h
        · cases h
      · rename_i ht
        exact s_exP hx hb hml hown ho hG hK hin ⟨by omega, by omega, hR.2.2.1, hR.2.2.2⟩ hd hc ht h kk
    · cases h
  · -- invokevirtual
    split at h
    · rename_i k _ t hc
      obtain ⟨ht0, hlk⟩ := cs_ok ho hc
      have hlk : t < 98 ∨ 99 < t → Cond.methodLink (oN (mC M)) k (pN t) ∈ Gz := fun hne => hlk.elim id (fun hh => by omega)
      split at h
      · rename_i ht
        have ht2 : t < 204 := by omega
        split at h
        · rename_i hcond
          obtain ⟨c1, c2, c4, c5⟩ := hcond
          split at h
          · rename_i b rest hdr
            split at h
            · rename_i hok0
              split at h
              · rename_i r w1 hr
                cases h
                intro H locs ls hP hS hl hs
                have hP0 : va_P D clz (wz ad cI cL cQ w) H := hP
                have hok := hcall t _ w (r, w1) ht2 c2 (by rw [wds_cons, wds_rev]; show 1 + _ ≤ _; omega) hr H.size
                obtain ⟨d1, d2, d3⟩ := mD_chk t ht2
                obtain ⟨e1, e2, e3, e4⟩ := mC_chk t (by omega)
                have d4 := d3 c1
                have hne : t < 98 ∨ 99 < t := by
                  rcases Nat.lt_or_ge t 98 with q | q
                  · exact Or.inl q
                  · rcases Nat.lt_or_ge 99 t with q2 | q2
                    · exact Or.inr q2
                    · exfalso
                      rcases (show t = 98 ∨ t = 99 by omega) with rfl | rfl <;> exact absurd c1 (by decide)
                have hlk := hlk hne
                rw [pN_lt ht2] at hlk
                have hrm : (rmM (mV t)).frames + 1 ≤ R.frames ∧ 8 + (mX t + 11) + (rmM (mV t)).locals ≤ R.locals := by
                  constructor
                  · show mV t + 5 + 1 ≤ _; omega
                  · show 8 + (mX t + 11) + (32 * mV t + 150) ≤ _; omega
                have hdr2 : st.drop (mA t + 1) = rest := by rw [← List.drop_drop, hdr]; rfl
                have hlen0 : mA t < st.length := by
                  rcases Nat.lt_or_ge (mA t) st.length with q | q
                  · exact q
                  · rw [List.drop_eq_nil_of_le q] at hdr; cases hdr
                have hlen : (((st.take (mA t)).reverse).map (cv ad)).length = mA t := by simp; omega
                have hcl : oN (mC t - 1 + 1) = oN (mC t) := by rw [Nat.sub_add_cancel d4.1]
                have he : (wz ad cI cL cQ w)[b]? = some (ad b, .inr (mC t - 1, fsz ad w (mC t - 1) b)) := by rw [wz_at (okc_lt hok0).1, cel_obj hok0]
                have hpre : PreV s H (oN (mC t)) (ad b) (PreM D cI cL cQ ad N xs H.size (.ref b :: (st.take (mA t)).reverse) w) (((st.take (mA t)).reverse).map (cv ad)) := ⟨blind_M, by
                  have hv := va_recv hK hP0 (clz_at (mC t - 1) (by omega)) he
                  rw [hcl] at hv
                  exact hv, fun U hU hW => ⟨rfl, by rw [hU], by rw [hU]; exact hP, va_K.moved hW.alike hK, Sta_call hsz hSt hS hU hW, hs⟩⟩
                have hini : Cond.initialized (oN (mC t)) ∈ Gz := Gz_in (oI_chk _ e1)
                have him : Cond.instanceMethod (mN t) ∈ Gz := by
                  have := mA_chk t ht2
                  rw [if_neg (by rw [c1]; exact Bool.noConfusion)] at this
                  exact Gz_in this
                have hse : Cond.selects (oN (mC t)) (mN t) (mN t) ∈ Gz := Gz_in (mS_chk t ht2 c1)
                have hstk : (F0 m pc ls (st.map (cv ad))).stack = (((st.take (mA t)).reverse).map (cv ad)).reverse ++ .ref (ad b) :: (st.drop (mA t + 1)).map (cv ad) := by
                  show st.map (cv ad) = _
                  rw [hdr2, rev_stack (n := mA t) (st := st), hdr]
                  rfl
                have hWd : 2 * (F0 m pc ls (st.map (cv ad))).monitorRoom + (((st.drop (mA t + 1)).map (cv ad)).map fun v => v.category).sum ≤ 8 := by
                  rw [map_cat]
                  show 2 * 0 + _ ≤ 8
                  omega
                have hGI : GoodIn Gz (wsV (oN (mC M)) k (oN (mC t)) (mN t) (wsM t)) := goodIn_Gz (fun W hW => by
                  rcases List.mem_append.mp hW with h1 | h1
                  · simp at h1
                    rcases h1 with rfl | rfl | rfl | rfl
                    · exact hlk
                    · exact him
                    · exact hse
                    · exact hini
                  · exact wsM_in ht2 W h1)
                exact af_M hsz hS hl (va_runV (As := ((st.take (mA t)).reverse).map (cv ad)) (rest := (st.drop (mA t + 1)).map (cv ad)) ⟨hx, hb, hml, hown, hG⟩ hok (cwV (mA t) hG hGI rfl rfl rfl ⟨e2, d1⟩ hrm) hpre rfl hlen hl.1 hstk hWd hd ⟨hR.2.2.1, hR.2.2.2⟩) kk
              · cases h
            · cases h
          · cases h
        · cases h
      · split at h
        · -- String.length
          rename_i ht
          subst ht
          split at h
          · rename_i b rest
            split at h
            · rename_i hcond
              obtain ⟨b1, b2, b3⟩ := hcond
              obtain ⟨i0, hi0, rfl, e0⟩ := str_ix b1 b2
              cases h
              have kk : Cn p l e R s m args below meth c cells slots Q D cI cL cQ ad N xs nL sz (pc + 3, L, K, .int (nI (slen i0)) :: rest, w) := by
                have e1 : slen (60 + i0 - 60) = slen i0 := congrArg slen e0
                rw [← e1]; exact kk
              intro H locs ls hP hS hl hs
              have hlk := hlk (by omega)
              have hM := (hJ H.size i0 hi0).1
              have hpre : PreV s H RJ0 (ad (60 + i0)) (PreJ N xs ad H.size [.ref (60 + i0)]) [] := ⟨blind_J, by
                obtain ⟨adV, hvs⟩ := hSt.2.2.1
                exact vk_recv (adK := fun i => ad (60 + i)) (i := i0) hvs hi0 hS, fun U hU hW => ⟨rfl, by rw [hU], Sta_call hsz hSt hS hU hW⟩⟩
              have hGI : GoodIn Gz (wsV (oN (mC M)) k RJ0 yJ0_length_8abf5 wsJl) := goodIn_Gz (fun W hW => by
                rcases List.mem_append.mp hW with h1 | h1
                · simp at h1
                  rcases h1 with rfl | rfl | rfl | rfl
                  · exact hlk
                  · exact g_im_len
                  · exact g_se_len
                  · exact g_in_String
                · rcases List.mem_cons.mp h1 with rfl | h1
                  · exact g_co_len
                  · exact h1)
              exact af_J (as := #[]) hP hS hl hs (va_runV (As := []) (rest := rest.map (cv ad)) ⟨hx, hb, hml, hown, hG⟩ hM (cwV 0 hG hGI rfl rfl rfl ⟨rfl, by decide +kernel⟩ ⟨by show 4 + 1 ≤ _; omega, by show 8 + (1 + 11) + 110 ≤ _; omega⟩) hpre rfl rfl hl.1 rfl (by rw [map_cat]; show 2 * 0 + _ ≤ 8; omega) hd ⟨hR.2.2.1, hR.2.2.2⟩) kk
            · cases h
          · cases h
        · split at h
          · -- String.charAt
            rename_i ht
            subst ht
            split at h
            · rename_i j b rest
              split at h
              · rename_i hcond
                obtain ⟨b1, b2, b3, b4, b5⟩ := hcond
                obtain ⟨i0, hi0, rfl, e0⟩ := str_ix b1 b2
                cases h
                obtain ⟨j0, hj0, ej⟩ := nI_of b4
                have ecl : j.toNatClampNeg = j0 := by rw [ej]; exact nI_clamp hj0
                have e1 : slen (60 + i0 - 60) = slen i0 := congrArg slen e0
                have b5 : j0 < slen i0 := by rw [← e1, ← ecl]; exact b5
                have kk : Cn p l e R s m args below meth c cells slots Q D cI cL cQ ad N xs nL sz (pc + 3, L, K, .int (sch i0 j0) :: rest, w) := by
                  have e2 : sch (60 + i0 - 60) j.toNatClampNeg = sch i0 j0 := by rw [ecl]; exact congrArg (fun z => sch z j0) e0
                  rw [← e2]; exact kk
                intro H locs ls hP hS hl hs
                have hlk := hlk (by omega)
                have hM := (hJ H.size i0 hi0).2 j0 b5
                rw [← ej] at hM
                have hpre : PreV s H RJ0 (ad (60 + i0)) (PreJ N xs ad H.size [.ref (60 + i0), .int j]) [.int j] := ⟨blind_J, by
                  obtain ⟨adV, hvs⟩ := hSt.2.2.1
                  exact vk_recv (adK := fun i => ad (60 + i)) (i := i0) hvs hi0 hS, fun U hU hW => ⟨rfl, by rw [hU], Sta_call hsz hSt hS hU hW⟩⟩
                have hGI : GoodIn Gz (wsV (oN (mC M)) k RJ0 yJ0_charAt_5068e wsJc) := goodIn_Gz (fun W hW => by
                  rcases List.mem_append.mp hW with h1 | h1
                  · simp at h1
                    rcases h1 with rfl | rfl | rfl | rfl
                    · exact hlk
                    · exact g_im_chr
                    · exact g_se_chr
                    · exact g_in_String
                  · rcases List.mem_cons.mp h1 with rfl | h1
                    · exact g_co_chr
                    · exact h1)
                exact af_J (as := #[]) hP hS hl hs (va_runV (As := [.int j]) (rest := rest.map (cv ad)) ⟨hx, hb, hml, hown, hG⟩ hM (cwV 1 hG hGI rfl rfl rfl ⟨rfl, by decide +kernel⟩ ⟨by show 4 + 1 ≤ _; omega, by show 8 + (2 + 11) + 110 ≤ _; omega⟩) hpre rfl rfl hl.1 rfl (by rw [map_cat]; show 2 * 0 + _ ≤ 8; omega) hd ⟨hR.2.2.1, hR.2.2.2⟩) kk
              · cases h
            · cases h
          · cases h
    · cases h
  · cases h
theorem s_exN (hx : p.tables.exec = Jvm.exec) (hb : c.code = cc) (hml : c.maxLocals = nL) (hown : s.vm.findClass (oN (mC M)) = some m.cls) (ho : mC M < 8) (hG : ∀ w ∈ Gz, w.before args s = true) (hK : va_K D clz (tyz cI cL cQ) s) (hin : inj54 ad) (hsz : s.heap.size = sz) (hSt : Sta N xs ad (AD ad sz) s s.heap) (hR : mV M + 5 ≤ R.frames ∧ 32 * mV M + 150 ≤ R.locals ∧ cells ≤ R.cells ∧ slots ≤ R.slots) (hJ : Jok l ad N xs)
    (hcall : ∀ t as w r, t < 204 → mV t < mV M → wds as ≤ mX t → call t as w = some r → Cok l D cI cL cQ ad N xs t as w r)
    (hd : decode cc pc = .ok i) (h : exN call M pc i L K st w = some x) (kk : Cn p l e R s m args below meth c cells slots Q D cI cL cQ ad N xs nL sz x) : Cn p l e R s m args below meth c cells slots Q D cI cL cQ ad N xs nL sz (pc, L, K, st, w) := by
  unfold exN at h
  rcases Option.or_eq_some_iff.mp h with h | ⟨-, h⟩
  · exact s_exA hx hb hown ho hG hSt hd h kk
  rcases Option.or_eq_some_iff.mp h with h | ⟨-, h⟩
  · exact s_exB hx hb hd h kk
  rcases Option.or_eq_some_iff.mp h with h | ⟨-, h⟩
  · exact s_exC hx hb hd h kk
  rcases Option.or_eq_some_iff.mp h with h | ⟨-, h⟩
  · exact s_exD hx hb hd h kk
  rcases Option.or_eq_some_iff.mp h with h | ⟨-, h⟩
  · exact s_exE hx hb hd h kk
  rcases Option.or_eq_some_iff.mp h with h | ⟨-, h⟩
  · exact s_exF hx hb hd h kk
  rcases Option.or_eq_some_iff.mp h with h | ⟨-, h⟩
  · exact s_exT hx hb hd h kk
  rcases Option.or_eq_some_iff.mp h with h | ⟨-, h⟩
  · exact s_exG hx hb hown ho hG hK hin hSt hd h kk
  · exact s_exI hx hb hml hown ho hG hK hin hsz hSt hR hJ hcall hd h kk
/-- a run of the machine is a run of the frame -/
theorem s_run (hx : p.tables.exec = Jvm.exec) (hb : c.code = mB M) (hml : c.maxLocals = nL) (hown : s.vm.findClass (oN (mC M)) = some m.cls) (ho : mC M < 8) (hG : ∀ w ∈ Gz, w.before args s = true) (hK : va_K D clz (tyz cI cL cQ) s) (hin : inj54 ad) (hsz : s.heap.size = sz) (hSt : Sta N xs ad (AD ad sz) s s.heap) (hR : mV M + 5 ≤ R.frames ∧ 32 * mV M + 150 ≤ R.locals ∧ cells ≤ R.cells ∧ slots ≤ R.slots) (hJ : Jok l ad N xs)
    (hcall : ∀ t as w r, t < 204 → mV t < mV M → wds as ≤ mX t → call t as w = some r → Cok l D cI cL cQ ad N xs t as w r) {r : Rs}
    (hend : ∀ pc i L K st w, decode (mB M) pc = .ok i → exR M i st w = some r → Cn p l e R s m args below meth c cells slots Q D cI cL cQ ad N xs nL sz (pc, L, K, st, w)) :
    ∀ (n : Nat) (x : Cf), run call M n x = some r → Cn p l e R s m args below meth c cells slots Q D cI cL cQ ad N xs nL sz x := by
  intro n
  induction n with
  | zero => intro x h; cases h
  | succ n ih =>
    intro x h
    obtain ⟨pc, L, K, st, w⟩ := x
    rw [run] at h
    dsimp only at h
    cases hs : stp call M pc L K st w with
    | none => rw [hs] at h; cases h
    | some y =>
      rw [hs] at h
      unfold stp at hs
      split at hs
      · rename_i i hd
        unfold ex at hs
        split at hs
        · rename_i c1 hn
          cases hs
          exact s_exN hx hb hml hown ho hG hK hin hsz hSt hR hJ hcall hd hn (ih c1 h)
        · split at hs
          · rename_i r1 hr1
            cases hs
            cases h
            exact hend pc i L K st w hd hr1
          · cases hs
      · cases hs
end SND
theorem exR_len {M : Nat} {i : Instr × Nat} {st : List Value} {w : Wd} {r : Rs} (h : exR M i st w = some r) : r = (st, w) ∧ st.length ≤ 1 := by
  unfold exR at h
  repeat' (split at h)
  all_goals first | (cases h; exact ⟨rfl, by simp⟩) | cases h
theorem lv_args_lt : ∀ (vs : List Value) (b : Nat), ∀ q ∈ lv_args b vs, b ≤ q.1
  | [], _, q, h => by cases h
  | v :: vs, b, q, h => by
    rcases List.mem_cons.mp h with rfl | h
    · exact Nat.le_refl _
    · have := lv_args_lt vs _ q h
      split at this <;> omega
