def rmM (v : Nat) : Room := { frames := v + 5, cells := 0, slots := 0, locals := 32 * v + 150 }
def rmJ : Room := { frames := 4, cells := 0, slots := 0, locals := 110 }
def wsM (M : Nat) : List Cond := Cond.code (mN M) (mB M) (mX M) (mR M) :: Gz
def wsJl : List Cond := Cond.code yJ0_length_8abf5 cJ0_length_8abf5 1 (some .int) :: Gz
def wsJc : List Cond := Cond.code yJ0_charAt_5068e cJ0_charAt_5068e 2 (some .char) :: Gz
def PreM (D : va_G) (cI cL cQ : ClassId) (ad : Nat → Nat) (N : Nat) (xs : Nat → Int32) (sz : Nat) (as : List Value) (w : Wd) : Array Value → State → Prop := va_Pc (as.map (cv ad)) (fun U => U.heap.size = sz ∧ va_P D clz (wz ad cI cL cQ w) U.heap ∧ va_K D clz (tyz cI cL cQ) U ∧ Sta N xs ad (AD ad sz) U U.heap ∧ scr N xs w)
def PostM (D : va_G) (cI cL cQ : ClassId) (ad : Nat → Nat) (N : Nat) (xs : Nat → Int32) (sz : Nat) (r : List Value) (w' : Wd) : Array Value → State → Outcome → State → Prop := fun _ st o t => o = .returned ((r.map (cv ad)).head?) ∧ r.length ≤ 1 ∧ va_P D clz (wz ad cI cL cQ w') t.heap ∧ va_F (AD ad sz) st t ∧ scr N xs w'
/-- what a method does at a launch is what the machine says -/
def Cok (l : Launch) (D : va_G) (cI cL cQ : ClassId) (ad : Nat → Nat) (N : Nat) (xs : Nat → Int32) (M : Nat) (as : List Value) (w : Wd) (r : Rs) : Prop :=
  ∀ sz, Met l (mN M) (wsM M) (rmM (mV M)) (PreM D cI cL cQ ad N xs sz as w) (PostM D cI cL cQ ad N xs sz r.1 r.2) 0 0 (AD ad sz)
def PreJ (N : Nat) (xs : Nat → Int32) (ad : Nat → Nat) (sz : Nat) (as : List Value) : Array Value → State → Prop := va_Pc (as.map (cv ad)) (fun U => U.heap.size = sz ∧ Sta N xs ad (AD ad sz) U U.heap)
/-- String.length and String.charAt over the constants -/
def Jok (l : Launch) (ad : Nat → Nat) (N : Nat) (xs : Nat → Int32) : Prop := ∀ sz i, i < 12 →
  Met l yJ0_length_8abf5 wsJl rmJ (PreJ N xs ad sz [.ref (60 + i)]) (fun _ st o t => o = .returned (some (.int (nI (slen i)))) ∧ t.heap = st.heap) 0 0 (fun _ => False) ∧
  ∀ j, j < slen i → Met l yJ0_charAt_5068e wsJc rmJ (PreJ N xs ad sz [.ref (60 + i), .int (nI j)]) (fun _ st o t => o = .returned (some (.int (sch i j))) ∧ t.heap = st.heap) 0 0 (fun _ => False)
theorem goodIn_Gz {ws : List Cond} (h : ∀ W ∈ ws, W ∈ Gz) : GoodIn Gz ws := fun W hW => ⟨h W hW, good_of_word (List.mem_filter.mp (h W hW)).2⟩
theorem wsM_in {M : Nat} (h : M < 204) : ∀ W ∈ wsM M, W ∈ Gz := fun W hW => by
  rcases List.mem_cons.mp hW with rfl | hW
  · exact List.mem_filter.mpr ⟨mt_chk M h, rfl⟩
  · exact hW
theorem cs_ok {oc k t : Nat} (ho : oc < 8) (h : cs oc k = some t) : (t < 204 ∨ (300 ≤ t ∧ t < 304) ∨ t = 310 ∨ t = 311) ∧ (Cond.methodLink (oN oc) k (pN t) ∈ Gz ∨ (oc = 1 ∧ ((k = 69 ∧ t = 98) ∨ (k = 108 ∧ t = 99)))) := by
  unfold cs at h
  obtain ⟨y, h1, h2⟩ := Option.map_eq_some_iff.mp h
  have hm := lookup_in h1
  have h3 := cs_chk1 oc ho _ hm
  have h4 := cs_chk2 oc ho _ hm
  have h5 := cs_chk3 oc ho _ hm
  cases h2
  refine ⟨h3, ?_⟩
  cases hn : y.2.2 with
  | false => exact Or.inl (Gz_in (h4 hn))
  | true => exact Or.inr (h5 hn)
theorem pN_lt {t : Nat} (h : t < 204) : pN t = mN t := by
  unfold pN
  split <;> first | omega | rfl
theorem map_cat (ad : Nat → Nat) (st : List Value) : ((st.map (cv ad)).map fun v => v.category).sum = wds st := by
  unfold wds
  rw [List.map_map]
  congr 1
  exact List.map_congr_left (fun v _ => cv_cat ad v)
theorem va_P_cell {D : va_G} {cl : List vw_C} {ws : va_W} {H : Heap} {b a n : Nat} {cA : ClassId} {f g : Nat → Int32} (h : va_P D cl (ws.set b (a, .inl (cA, n, .inl f))) H) (hb : b < ws.length) (hfg : ∀ j, j < n → f j = g j) : va_P D cl (ws.set b (a, .inl (cA, n, .inl g))) H := by
  intro k q hk
  by_cases hkb : k = b
  · subst hkb
    rw [List.getElem?_set_self hb] at hk
    cases hk
    have h1 := h k _ (List.getElem?_set_self hb)
    have e : vp_cell cA (n, .inl f) = vp_cell cA (n, .inl g) := by
      rw [vp_cell_i, vp_cell_i]
      unfold arrV
      congr 1
      exact congrArg Array.ofFn (funext fun j => congrArg Value.int (hfg j.val j.isLt))
    show H[a]? = some (vp_cell cA (n, .inl g))
    rw [← e]
    exact h1
  · rw [List.getElem?_set_ne (Ne.symm hkb)] at hk
    exact h k q (by rw [List.getElem?_set_ne (Ne.symm hkb)]; exact hk)
section SND
variable {p : Program} {l : Launch} {e : Jvm.Env} {R : Room} {s : State} {m : MethodId} {args : Array Value} {below : List Frame} {meth : Method} {c : Code} {cells slots : Nat} {Q : State → Prop} {D : va_G} {cI cL cQ : ClassId} {ad : Nat → Nat} {N : Nat} {xs : Nat → Int32} {nL sz : Nat} {cc : ByteArray} {pc oc t : Nat} {i : Instr × Nat} {L : Lc} {K : Lk} {st : List Value} {w : Wd} {x : Cf} {k M : Nat} {call : Nat → List Value → Wd → Option Rs}
theorem blind_M {as : List Value} : FrameBlind (PreM D cI cL cQ ad N xs sz as w) := fun a U g mk h => by
  obtain ⟨h1, h2, h3, h4, h5, h6⟩ := h
  exact ⟨h1, h2, h3, va_K.moved (u := U) (U := U.calling g mk a) (Vm.Alike.refl U.vm) h4, Sta.same (u := U) (U := U.calling g mk a) rfl h5, h6⟩
theorem blind_J {as : List Value} : FrameBlind (PreJ N xs ad sz as) := fun a U g mk h => by
  obtain ⟨h1, h2, h3⟩ := h
  exact ⟨h1, h2, Sta.same (u := U) (U := U.calling g mk a) rfl h3⟩
theorem AD_sub {sz2 : Nat} (h : sz ≤ sz2) : ∀ q, AD ad sz2 q → AD ad sz q := fun q hq => hq.elim Or.inl (fun h2 => Or.inr (Nat.le_trans h h2))
/-- what nobody writes, at the callee's start -/
theorem Sta_call {H : Heap} {locs : List Loc} {U : State} (hsz : s.heap.size = sz) (hSt : Sta N xs ad (AD ad sz) s s.heap) (hS : va_S (AD ad sz) s.heap H locs) (hU : U.heap = H) (hW : s.WarmedH U.vm) : Sta N xs ad (AD ad H.size) U U.heap := by
  rw [hU]
  exact ((hSt.kept hS.2.1).warm hW).narrow (AD_sub (by rw [← hsz]; exact hS.1))
/-- behind a call of a method of the machine -/
theorem af_M {H : Heap} {locs : List Loc} {ls : Array Slot} {st0 rest : List Value} {as : Array Value} {r : List Value} {w' : Wd} (hsz : s.heap.size = sz) (hS : va_S (AD ad sz) s.heap H locs) (hl : lrep ad ls nL L K)
    (hr : va_Run p l e R s m args below meth c H locs cells slots 0 0 (F0 m pc ls st0) (rest.map (cv ad)) (PostM D cI cL cQ ad N xs H.size r w' as) (AD ad H.size)) (kk : Cn p l e R s m args below meth c cells slots Q D cI cL cQ ad N xs nL sz (pc + 3, L, K, r ++ rest, w')) : W p l e R s m args below meth c H locs cells slots Q (F0 m pc ls st0) := by
  intro T hT X
  obtain ⟨v, st₀, t, T', L1, h0, X', hL, e1, e2, ⟨hv, hr1, hP1, hF, hsc⟩, stp⟩ := hr T hT X
  cases hv
  have hz : H.size ≤ T'.heap.size := by rw [e1]; have := hF.1; rw [h0] at this; exact this
  have hk : ∀ q : Nat, q < H.size → ¬ AD ad H.size q → T'.heap[q]? = H[q]? := fun q h1 h2 => by rw [e1]; have := hF.2 q (by rw [h0]; exact h1) h2; rw [h0] at this; exact this
  have hsub := AD_sub (ad := ad) (sz := sz) (sz2 := H.size) (by rw [← hsz]; exact hS.1)
  have hS' : va_S (AD ad sz) s.heap T'.heap (locs ++ L1) := ⟨Nat.le_trans hS.1 hz, fun q h1 h2 => by
      rw [hk q (Nat.lt_of_lt_of_le h1 hS.1) (fun h3 => h2 (hsub q h3))]
      exact hS.2.1 q h1 h2, fun q hq => by
      rcases List.mem_append.mp hq with h | h
      · exact hS.2.2 q h
      · exact hsub _ (hL q h)⟩
  have eq : ((r.map (cv ad)).head?).toList ++ rest.map (cv ad) = (r ++ rest).map (cv ad) := by
    rw [List.map_append]
    congr 1
    match r, hr1 with
    | [], _ => rfl
    | [a], _ => rfl
    | a :: b :: r, h => exact absurd h (by simp)
  rw [eq] at stp
  obtain ⟨t2, a1, b1⟩ := kk T'.heap (locs ++ L1) ls (by rw [e1]; exact hP1) hS' hl hsc T' rfl X'
  exact ⟨t2, stp t2 a1, b1⟩
/-- behind a call that leaves the heap -/
theorem af_J {H : Heap} {locs : List Loc} {ls : Array Slot} {st0 rest : List Value} {as : Array Value} {v : Int32} (hP : va_P D clz (wz ad cI cL cQ w) H) (hS : va_S (AD ad sz) s.heap H locs) (hl : lrep ad ls nL L K) (hs : scr N xs w)
    (hr : va_Run p l e R s m args below meth c H locs cells slots 0 0 (F0 m pc ls st0) (rest.map (cv ad)) ((fun _ st o t => o = .returned (some (.int v)) ∧ t.heap = st.heap : Array Value → State → Outcome → State → Prop) as) (fun _ => False)) (kk : Cn p l e R s m args below meth c cells slots Q D cI cL cQ ad N xs nL sz (pc + 3, L, K, .int v :: rest, w)) : W p l e R s m args below meth c H locs cells slots Q (F0 m pc ls st0) := by
  intro T hT X
  obtain ⟨v1, st₀, t, T', L1, h0, X', hL, e1, e2, ⟨hv, hF⟩, stp⟩ := hr T hT X
  cases hv
  have eH : T'.heap = H := by rw [e1, hF, h0]
  have hS' : va_S (AD ad sz) s.heap T'.heap (locs ++ L1) := by
    rw [eH]
    exact ⟨hS.1, hS.2.1, fun q hq => by
      rcases List.mem_append.mp hq with h | h
      · exact hS.2.2 q h
      · exact (hL q h).elim⟩
  obtain ⟨t2, a1, b1⟩ := kk T'.heap (locs ++ L1) ls (by rw [eH]; exact hP) hS' hl hs T' rfl X'
  exact ⟨t2, stp t2 a1, b1⟩
theorem s_exP (hx : p.tables.exec = Jvm.exec) (hb : c.code = cc) (hml : c.maxLocals = nL) (hown : s.vm.findClass (oN oc) = some m.cls) (ho : oc < 8) (hG : ∀ w ∈ Gz, w.before args s = true) (hK : va_K D clz (tyz cI cL cQ) s) (hin : inj54 ad) (hR : 1 ≤ R.frames ∧ 120 ≤ R.locals ∧ cells ≤ R.cells ∧ slots ≤ R.slots) (hd : decode cc pc = .ok (.invokestatic k, 3)) (hc : cs oc k = some t) (ht : ¬ t < 300) (h : exP t pc L K st w = some x) (kk : Cn p l e R s m args below meth c cells slots Q D cI cL cQ ad N xs nL sz x) : Cn p l e R s m args below meth c cells slots Q D cI cL cQ ad N xs nL sz (pc, L, K, st, w) := by
  intro H locs ls hP hS hl hs
  have hs0 : scr N xs w := hs
  have hP0 : va_P D clz (wz ad cI cL cQ w) H := hP
  have hD : va_D (AD ad sz) (wz ad cI cL cQ w) := wz_D hin
  have hlk : Cond.methodLink (oN oc) k (pN t) ∈ Gz := by
    rcases (cs_ok ho hc).2 with h1 | ⟨-, ⟨-, h1⟩ | ⟨-, h1⟩⟩
    · exact h1
    · omega
    · omega
  have hm : c.maxLocals = ls.size := hml.trans hl.1.symm
  unfold exP at h
  split at h
  · split at h
    · split at h
      · rename_i hw
        cases h
        exact va_mmax hx hb hm hown (hG _ hlk) (hG _ g_st_max) (hG _ g_in_Math) (hG _ g_co_max) hR.1 (by rw [map_cat]; omega) hR.2.2.1 hR.2.2.2 hd (kk H locs ls hP hS hl hs)
      · cases h
    · cases h
  · split at h
    · split at h
      · rename_i hw
        cases h
        exact va_mmin hx hb hm hown (hG _ hlk) (hG _ g_st_min) (hG _ g_in_Math) (hG _ g_co_min) hR.1 (by rw [map_cat]; omega) hR.2.2.1 hR.2.2.2 hd (kk H locs ls hP hS hl hs)
      · cases h
    · cases h
  · split at h
    · split at h
      · rename_i hw
        cases h
        exact va_mmax_long hx hb hm hown (hG _ hlk) (hG _ g_st_maxL) (hG _ g_in_Math) (hG _ g_co_maxL) hR.1 (by rw [map_cat]; omega) hR.2.2.1 hR.2.2.2 hd (kk H locs ls hP hS hl hs)
      · cases h
    · cases h
  · split at h
    · rename_i n dp b sp a st9
      split at h
      · rename_i hw
        obtain ⟨w1, w2, w3, w4, w5, w6, w7, w8, w9, w10⟩ := hw
        have hnf : nativeFrameWords "java/lang/System" "arraycopy" 5 ≤ 80 := by decide
        have key : ∀ (H1 : Heap) (locs1 : List Loc), va_P D clz ((wz ad cI cL cQ w).set b (ad b, .inl (cI, al b, .inl (va_cpy (w.1 a) (w.1 b) sp.toNatClampNeg dp.toNatClampNeg n.toNatClampNeg)))) H1 → va_S (AD ad sz) s.heap H1 locs1 → W p l e R s m args below meth c H1 locs1 cells slots Q (F0 m (pc + 3) ls (List.map (cv ad) st9)) := by
          intro H1 locs1 hP1 hS1
          split at h
          · rename_i hn
            cases h
            have hd0 : dp.toNatClampNeg = 0 := by omega
            have hP2 := va_P_cell (g := fun k => w.1 a (sp.toNatClampNeg + k)) hP1 (by rw [wz_len]; exact w3) (fun j hj => by
              unfold va_cpy
              rw [hd0, if_pos ⟨Nat.zero_le _, by omega⟩, Nat.sub_zero])
            rw [wz_put w5] at hP2
            exact kk H1 locs1 ls hP2 hS1 hl (scr_put w3 hs0)
          · cases h
            rw [wz_put w5] at hP1
            exact kk H1 locs1 ls hP1 hS1 hl (scr_put w3 hs0)
        refine va_copyi (D := D) (ty := .int) hx hb hm hown (hG _ hlk) (hG _ g_na_ac) (hG _ g_st_ac) (hG _ g_in_System) hK hP0 hD hS a b 0 0 (by rw [wz_at w2, cel_arr w4]) (by rw [wz_at w3, cel_arr w5]) rfl rfl rfl w6 w7 w8 w9 w10 (fun _ _ => rfl) hR.1 (by rw [map_cat]; omega) hd (fun H1 locs1 hP1 _ hS1 => key H1 locs1 hP1 hS1)
      · cases h
    · cases h
  · cases h
end SND
