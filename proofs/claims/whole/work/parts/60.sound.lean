/-! THE WORLD OF THE MACHINE AS THE KIT HAS IT -/
abbrev clz : List vw_C := [(RX1, TX1, 12), (RX2, TX2, 3), (RX3, TX3, 6), (RX4, TX4, 8), (RX5, TX5, 16)]
abbrev tyz (cI cL cQ : ClassId) : List (ClassId × FieldType) := [(cI, .int), (cL, .long), (cQ, .object "BoneWords$Sheet")]
def cv (ad : Nat → Nat) (v : Value) : Value := match v with
  | .ref a => .ref (ad a)
  | v => v
theorem cv_cat (ad : Nat → Nat) (v : Value) : (cv ad v).category = v.category := by cases v <;> rfl
def fsz (ad : Nat → Nat) (w : Wd) (c a : Nat) : List Value := (List.range (nfc c)).map (fun k => match frc c a k with
  | some b => .ref (ad b)
  | none => .int (w.1 a k))
def cel (ad : Nat → Nat) (cI cL cQ : ClassId) (w : Wd) (a : Nat) : va_E := match okc a with
  | some c => .inr (c, fsz ad w c a)
  | none => if a = 43 then .inl (cL, 5, .inr (.inl w.2)) else if a = 31 then .inl (cQ, 4, .inr (.inr (.inr (.inr (fun j => some (ad (32 + 2 * j))))))) else .inl (cI, al a, .inl (w.1 a))
def wz (ad : Nat → Nat) (cI cL cQ : ClassId) (w : Wd) : va_W := (List.range 54).map (fun a => (ad a, cel ad cI cL cQ w a))
theorem wz_len (ad : Nat → Nat) (cI cL cQ : ClassId) (w : Wd) : (wz ad cI cL cQ w).length = 54 := by simp [wz]
theorem wz_at {ad : Nat → Nat} {cI cL cQ : ClassId} {w : Wd} {a : Nat} (h : a < 54) : (wz ad cI cL cQ w)[a]? = some (ad a, cel ad cI cL cQ w a) := by simp [wz, h]
theorem wz_of {ad : Nat → Nat} {cI cL cQ : ClassId} {w : Wd} {k : Nat} {q : Nat × va_E} (h : (wz ad cI cL cQ w)[k]? = some q) : k < 54 ∧ q = (ad k, cel ad cI cL cQ w k) := by
  have hk : k < 54 := by
    have := (List.getElem?_eq_some_iff.mp h).1
    rwa [wz_len] at this
  rw [wz_at hk] at h
  exact ⟨hk, (Option.some.inj h).symm⟩
theorem wz_set {ad : Nat → Nat} {cI cL cQ : ClassId} {w w' : Wd} {a : Nat} {e : va_E} (h : a < 54) (he : cel ad cI cL cQ w' a = e) (ho : ∀ b, b ≠ a → cel ad cI cL cQ w' b = cel ad cI cL cQ w b) : (wz ad cI cL cQ w).set a (ad a, e) = wz ad cI cL cQ w' := by
  subst he
  refine List.ext_getElem? fun i => ?_
  by_cases hi : i < 54
  · by_cases hia : i = a
    · subst hia
      rw [List.getElem?_set_self (by rw [wz_len]; exact h), wz_at h]
    · rw [List.getElem?_set_ne (Ne.symm hia), wz_at hi, wz_at hi, ho i hia]
  · rw [List.getElem?_eq_none (by rw [List.length_set, wz_len]; omega), List.getElem?_eq_none (by rw [wz_len]; omega)]
def AD (ad : Nat → Nat) (sz : Nat) : Nat → Prop := fun q => (∃ a, a < 54 ∧ q = ad a) ∨ sz ≤ q
def inj54 (ad : Nat → Nat) : Prop := ∀ i j, i < 54 → j < 54 → ad i = ad j → i = j
theorem wz_D {ad : Nat → Nat} {cI cL cQ : ClassId} {w : Wd} {sz : Nat} (h : inj54 ad) : va_D (AD ad sz) (wz ad cI cL cQ w) := by
  refine ⟨fun i j x y hi hj hxy => ?_, fun k q hk => ?_⟩
  · obtain ⟨h1, rfl⟩ := wz_of hi
    obtain ⟨h2, rfl⟩ := wz_of hj
    exact h i j h1 h2 hxy
  · obtain ⟨h1, rfl⟩ := wz_of hk
    exact Or.inl ⟨k, h1, rfl⟩
/-- the locals that the machine knows are held -/
def lrep (ad : Nat → Nat) (ls : Array Slot) (nL : Nat) (L : Lc) (K : Lk) : Prop := ls.size = nL ∧ lv_wf ls ∧ L.length ≤ nL ∧ (∀ (i : Nat) (v : Value), L[i]? = some (some v) → v.category = 1 ∧ ls[i]? = some (.val (cv ad v))) ∧ ∀ (i : Nat) (x : Int64), K[i]? = some (some x) → ls[i]? = some (.val (.long x))

theorem asl_0 : True := trivial
/-- all that is known of the locals, as the kit lists it -/
def asl (ad : Nat → Nat) (L : Lc) (K : Lk) (n : Nat) : List (Nat × Value) := (List.range n).flatMap (fun i => (match L[i]? with
  | some (some v) => [(i, cv ad v)]
  | _ => []) ++ (match K[i]? with
  | some (some x) => [(i, Value.long x)]
  | _ => []))
theorem asl_L {ad : Nat → Nat} {L : Lc} {K : Lk} {n i : Nat} {v : Value} (hi : i < n) (h : L[i]? = some (some v)) : (i, cv ad v) ∈ asl ad L K n := by
  refine List.mem_flatMap.mpr ⟨i, List.mem_range.mpr hi, List.mem_append_left _ ?_⟩
  rw [h]; exact List.mem_singleton.mpr rfl
theorem asl_K {ad : Nat → Nat} {L : Lc} {K : Lk} {n i : Nat} {x : Int64} (hi : i < n) (h : K[i]? = some (some x)) : (i, Value.long x) ∈ asl ad L K n := by
  refine List.mem_flatMap.mpr ⟨i, List.mem_range.mpr hi, List.mem_append_right _ ?_⟩
  rw [h]; exact List.mem_singleton.mpr rfl
theorem asl_has {ad : Nat → Nat} {ls : Array Slot} {nL : Nat} {L : Lc} {K : Lk} (h : lrep ad ls nL L K) : lv_has ls nL (asl ad L K nL) := by
  refine ⟨h.1, h.2.1, fun q hq => ?_⟩
  obtain ⟨i, -, hi⟩ := List.mem_flatMap.mp hq
  rcases List.mem_append.mp hi with h1 | h1
  · split at h1
    · rename_i v hv
      rw [List.mem_singleton.mp h1]
      exact (h.2.2.2.1 i v hv).2
    · cases h1
  · split at h1
    · rename_i v hv
      rw [List.mem_singleton.mp h1]
      exact h.2.2.2.2 i v hv
    · cases h1
theorem lrep_lt {ad : Nat → Nat} {ls : Array Slot} {nL : Nat} {L : Lc} {K : Lk} (h : lrep ad ls nL L K) {i : Nat} {x : Int64} (hk : K[i]? = some (some x)) : i < nL := by
  have := (Array.getElem?_eq_some_iff.mp (h.2.2.2.2 i x hk)).1
  rwa [h.1] at this
theorem lrep_ltL {ad : Nat → Nat} {ls : Array Slot} {nL : Nat} {L : Lc} {K : Lk} (h : lrep ad ls nL L K) {i : Nat} {v : Value} (hk : L[i]? = some (some v)) : i < nL := by
  have := (Array.getElem?_eq_some_iff.mp (h.2.2.2.1 i v hk).2).1
  rwa [h.1] at this
theorem set_none {α : Type} {K : List (Option α)} {i j : Nat} {x : α} (h : (K.set i none)[j]? = some (some x)) : j ≠ i ∧ K[j]? = some (some x) := by
  by_cases hj : j = i
  · subst hj
    by_cases hl : j < K.length
    · rw [List.getElem?_set_self hl] at h; cases h
    · rw [List.getElem?_eq_none (by rw [List.length_set]; omega)] at h; cases h
  · rw [List.getElem?_set_ne (Ne.symm hj)] at h
    exact ⟨hj, h⟩
theorem lrep_st {ad : Nat → Nat} {ls ls' : Array Slot} {nL : Nat} {L : Lc} {K : Lk} {i : Nat} {v0 : Value} (h : lrep ad ls nL L K) (hc : v0.category = 1) (hi : i < L.length) (h' : lv_has ls' nL ((i, cv ad v0) :: (asl ad L K nL).filter (fun q => !(q.1 == i) && !(q.1 + 1 == i && q.2.category == 2)))) : lrep ad ls' nL (L.set i (some v0)) (klI K i) := by
  refine ⟨h'.1, h'.2.1, by rw [List.length_set]; exact h.2.2.1, fun j v hj => ?_, fun j x hj => ?_⟩
  · by_cases hji : j = i
    · subst hji
      rw [List.getElem?_set_self hi] at hj
      cases hj
      exact ⟨hc, h'.2.2 _ List.mem_cons_self⟩
    · rw [List.getElem?_set_ne (Ne.symm hji)] at hj
      obtain ⟨a1, a2⟩ := h.2.2.2.1 j v hj
      refine ⟨a1, h'.2.2 (j, cv ad v) (List.mem_cons_of_mem _ (List.mem_filter.mpr ⟨asl_L (lrep_ltL h hj) hj, ?_⟩))⟩
      simp [hji, cv_cat, a1]
  · obtain ⟨h1, hj⟩ := set_none hj
    obtain ⟨h2, hj⟩ := set_none hj
    refine h'.2.2 (j, Value.long x) (List.mem_cons_of_mem _ (List.mem_filter.mpr ⟨asl_K (lrep_lt h hj) hj, ?_⟩))
    have h3 : ¬ j + 1 = i := by omega
    simp [h2, h3]
theorem lrep_sl {ad : Nat → Nat} {ls ls' : Array Slot} {nL : Nat} {L : Lc} {K : Lk} {i : Nat} {x0 : Int64} (h : lrep ad ls nL L K) (hi : i + 1 < L.length) (h' : lv_has ls' nL ((i, .long x0) :: (asl ad L K nL).filter (fun q => !(q.1 == i) && (!(q.1 == i + 1) && !(q.1 + 1 == i && q.2.category == 2))))) : lrep ad ls' nL ((L.set i none).set (i + 1) none) (((K.set (i - 1) none).set (i + 1) none).set i (some x0)) := by
  refine ⟨h'.1, h'.2.1, by rw [List.length_set, List.length_set]; exact h.2.2.1, fun j v hj => ?_, fun j x hj => ?_⟩
  · obtain ⟨h1, hj⟩ := set_none hj
    obtain ⟨h2, hj⟩ := set_none hj
    obtain ⟨a1, a2⟩ := h.2.2.2.1 j v hj
    refine ⟨a1, h'.2.2 (j, cv ad v) (List.mem_cons_of_mem _ (List.mem_filter.mpr ⟨asl_L (lrep_ltL h hj) hj, ?_⟩))⟩
    simp [h1, h2, cv_cat, a1]
  · by_cases hji : j = i
    · subst hji
      have hl : j < ((K.set (j - 1) none).set (j + 1) none).length := by
        by_cases hl : j < ((K.set (j - 1) none).set (j + 1) none).length
        · exact hl
        · rw [List.getElem?_eq_none (by rw [List.length_set]; omega)] at hj; cases hj
      rw [List.getElem?_set_self hl] at hj
      cases hj
      exact h'.2.2 _ List.mem_cons_self
    · rw [List.getElem?_set_ne (Ne.symm hji)] at hj
      obtain ⟨h1, hj⟩ := set_none hj
      obtain ⟨h2, hj⟩ := set_none hj
      refine h'.2.2 (j, Value.long x) (List.mem_cons_of_mem _ (List.mem_filter.mpr ⟨asl_K (lrep_lt h hj) hj, ?_⟩))
      have h3 : ¬ j + 1 = i := by omega
      simp [hji, h1, h3]
/-- the Strings' texts -/
def lenS : List Nat := (List.range 12).map (fun i => (stx i).length)
def bytS : List (List Int32) := (List.range 12).map (fun i => (stx i).map nI)
/-- what nobody writes: the static rows, the script, the Strings, the links of nest mates -/
def Sta (N : Nat) (xs : Nat → Int32) (ad : Nat → Nat) (A : Nat → Prop) (U : State) (H : Heap) : Prop :=
  (∀ a, 54 ≤ a → a < 57 → va_Z (gC a) (gF a) "[I" (.ref (ad a)) A U H ∧ va_T .int (ad a) (sl a) (fun j => .int (sv a j)) A U H) ∧
  (N < 2147483648 ∧ va_T .int (ad 57) N (fun j => .int (xs j)) A U H) ∧
  (∃ adV : Nat → Nat, vk_S 12 lenS bytS (fun i => ad (60 + i)) adV A U H) ∧
  (va_Z "java/lang/String" "COMPACT_STRINGS" "Z" (.int 1) A U H ∧ va_Zq "jdk/internal/util/Preconditions" "SIOOBE_FORMATTER" "Ljava/util/function/BiFunction;" A U H) ∧
  (∀ i, i < 12 → vk_R (sO i) (sK i) (sT i) (ad (60 + i)) U) ∧
  (va_Nw (.methodLinkNest RX1 69 yX4_digit "BoneWords") U ∧ va_Nw (.methodLinkNest RX1 108 yX4_bone "BoneWords") U ∧ va_Nw (.fieldLinkNest RX1 76 "BoneWords" "TENS" "[I" "BoneWords") U)
theorem Sta.kept {N : Nat} {xs : Nat → Int32} {ad : Nat → Nat} {A : Nat → Prop} {U : State} {H H1 : Heap} (h : Sta N xs ad A U H) (hq : ∀ a : Nat, a < H.size → ¬ A a → H1[a]? = H[a]?) : Sta N xs ad A U H1 := by
  obtain ⟨h1, ⟨h2, h3⟩, ⟨adV, h4⟩, h5, h6, h7⟩ := h
  exact ⟨fun a ha hb => ⟨(h1 a ha hb).1.kept hq, (h1 a ha hb).2.kept hq⟩, ⟨h2, h3.kept hq⟩, ⟨adV, h4.kept hq⟩, ⟨h5.1.kept hq, h5.2.kept hq⟩, h6, h7⟩
theorem Sta.narrow {N : Nat} {xs : Nat → Int32} {ad : Nat → Nat} {A B : Nat → Prop} {U : State} {H : Heap} (h : Sta N xs ad A U H) (hAB : ∀ q, B q → A q) : Sta N xs ad B U H := by
  obtain ⟨h1, ⟨h2, h3⟩, ⟨adV, h4⟩, h5, h6, h7⟩ := h
  exact ⟨fun a ha hb => ⟨(h1 a ha hb).1.narrow hAB, (h1 a ha hb).2.narrow hAB⟩, ⟨h2, h3.narrow hAB⟩, ⟨adV, h4.narrow hAB⟩, ⟨h5.1.narrow hAB, h5.2.narrow hAB⟩, h6, h7⟩
theorem Sta.warm {N : Nat} {xs : Nat → Int32} {ad : Nat → Nat} {A : Nat → Prop} {s U : State} {H : Heap} (hW : s.WarmedH U.vm) (h : Sta N xs ad A s H) : Sta N xs ad A U H := by
  obtain ⟨h1, ⟨h2, h3⟩, ⟨adV, h4⟩, h5, h6, h7, h8, h9⟩ := h
  exact ⟨fun a ha hb => ⟨va_Z.moved hW.alike (h1 a ha hb).1, va_T.moved hW.alike (h1 a ha hb).2⟩, ⟨h2, va_T.moved hW.alike h3⟩, ⟨adV, vk_S.moved hW.alike h4⟩, ⟨va_Z.moved hW.alike h5.1, va_Zq.moved hW.alike h5.2⟩, fun i hi => vk_R.warm hW (h6 i hi), va_Nw.warmM hW h7, va_Nw.warmM hW h8, va_Nw.warmF hW h9⟩
theorem Sta.same {N : Nat} {xs : Nat → Int32} {ad : Nat → Nat} {A : Nat → Prop} {u U : State} {H : Heap} (hv : U.vm = u.vm) (h : Sta N xs ad A u H) : Sta N xs ad A U H := by
  obtain ⟨h1, ⟨h2, h3⟩, ⟨adV, h4⟩, h5, h6, h7, h8, h9⟩ := h
  have ha : u.vm.Alike U.vm := by rw [hv]; exact Vm.Alike.refl _
  exact ⟨fun a hx hb => ⟨va_Z.moved ha (h1 a hx hb).1, va_T.moved ha (h1 a hx hb).2⟩, ⟨h2, va_T.moved ha h3⟩, ⟨adV, vk_S.moved ha h4⟩, ⟨va_Z.moved ha h5.1, va_Zq.moved ha h5.2⟩, fun i hi => vk_R.same hv (h6 i hi), va_Nw.same rfl hv.symm h7, va_Nw.same rfl hv.symm h8, va_Nw.same rfl hv.symm h9⟩
/-- the script stands in the world -/
def scr (N : Nat) (xs : Nat → Int32) (w : Wd) : Prop := w.1 57 = xs ∧ w.1 58 0 = nI N
theorem scr_put {N : Nat} {xs : Nat → Int32} {w : Wd} {a : Nat} {f : Nat → Int32} (ha : a < 54) (h : scr N xs w) : scr N xs (put w a f) := by
  have h1 : (put w a f).1 57 = w.1 57 := by unfold put; exact if_neg (by omega)
  have h2 : (put w a f).1 58 = w.1 58 := by unfold put; exact if_neg (by omega)
  exact ⟨h1.trans h.1, by rw [h2]; exact h.2⟩
/-- from a point of the machine on, the frame comes to Q -/
def Cn (p : Program) (l : Launch) (e : Jvm.Env) (R : Room) (s : State) (m : MethodId) (args : Array Value) (below : List Frame) (meth : Method) (c : Code) (cells slots : Nat) (Q : State → Prop) (D : va_G) (cI cL cQ : ClassId) (ad : Nat → Nat) (N : Nat) (xs : Nat → Int32) (nL sz : Nat) (x : Cf) : Prop :=
  ∀ (H : Heap) (locs : List Loc) (ls : Array Slot), va_P D clz (wz ad cI cL cQ x.2.2.2.2) H → va_S (AD ad sz) s.heap H locs → lrep ad ls nL x.2.1 x.2.2.1 → scr N xs x.2.2.2.2 → W p l e R s m args below meth c H locs cells slots Q (F0 m x.1 ls (x.2.2.2.1.map (cv ad)))
theorem okc_lt {a c : Nat} (h : okc a = some c) : a < 54 ∧ c < 5 := by
  unfold okc at h
  split at h <;> first | (cases h; exact ⟨by omega, by omega⟩) | cases h
theorem al_pos {a : Nat} (h : 0 < al a) : okc a = none ∧ a ≠ 43 ∧ a ≠ 31 ∧ a < 54 := by
  unfold al at h
  split at h <;> first | exact ⟨rfl, by omega, by omega, by omega⟩ | omega
theorem cel_obj {ad : Nat → Nat} {cI cL cQ : ClassId} {w : Wd} {a c : Nat} (h : okc a = some c) : cel ad cI cL cQ w a = .inr (c, fsz ad w c a) := by
  unfold cel; rw [h]
theorem cel_arr {ad : Nat → Nat} {cI cL cQ : ClassId} {w : Wd} {a : Nat} (h : 0 < al a) : cel ad cI cL cQ w a = .inl (cI, al a, .inl (w.1 a)) := by
  obtain ⟨h1, h2, h3, -⟩ := al_pos h
  unfold cel; rw [h1]
  show (if a = 43 then _ else if a = 31 then _ else _) = _
  rw [if_neg h2, if_neg h3]
theorem cel_put {ad : Nat → Nat} {cI cL cQ : ClassId} {w : Wd} {a b : Nat} {f : Nat → Int32} (h : b ≠ a) : cel ad cI cL cQ (put w a f) b = cel ad cI cL cQ w b := by
  have h1 : (put w a f).1 b = w.1 b := by unfold put; exact if_neg h
  unfold cel fsz
  rw [h1]
  rfl
theorem put_self (w : Wd) (a : Nat) (f : Nat → Int32) : (put w a f).1 a = f := by unfold put; exact if_pos rfl
theorem fsz_at {ad : Nat → Nat} {w : Wd} {c a k : Nat} (hk : k < nfc c) : (fsz ad w c a)[k]? = some (match frc c a k with
  | some b => .ref (ad b)
  | none => .int (w.1 a k)) := by
  unfold fsz
  rw [List.getElem?_map, List.getElem?_range hk]
  rfl
theorem fsz_len (ad : Nat → Nat) (w : Wd) (c a : Nat) : (fsz ad w c a).length = nfc c := by simp [fsz]
theorem fsz_set {ad : Nat → Nat} {w : Wd} {c a k : Nat} {v : Int32} (hk : k < nfc c) (hr : frc c a k = none) : (fsz ad w c a).set k (.int v) = fsz ad (st2 w a k v) c a := by
  refine List.ext_getElem? fun j => ?_
  by_cases hj : j < nfc c
  · rw [fsz_at hj]
    have e : (st2 w a k v).1 a = upd (w.1 a) k v := put_self _ _ _
    rw [e]
    by_cases hjk : j = k
    · subst hjk
      rw [List.getElem?_set_self (by rw [fsz_len]; exact hk), hr]
      show some (Value.int v) = some (Value.int (upd (w.1 a) j v j))
      rw [pk_us]
    · rw [List.getElem?_set_ne (Ne.symm hjk), fsz_at hj]
      cases frc c a j with
      | some b => rfl
      | none =>
        show some (Value.int (w.1 a j)) = some (Value.int (upd (w.1 a) k v j))
        rw [pk_un hjk]
  · rw [List.getElem?_eq_none (by rw [List.length_set, fsz_len]; omega), List.getElem?_eq_none (by rw [fsz_len]; omega)]
theorem wz_st2o {ad : Nat → Nat} {cI cL cQ : ClassId} {w : Wd} {a c k : Nat} {v : Int32} (ho : okc a = some c) (hk : k < nfc c) (hr : frc c a k = none) : (wz ad cI cL cQ w).set a (ad a, .inr (c, (fsz ad w c a).set k (.int v))) = wz ad cI cL cQ (st2 w a k v) :=
  wz_set (okc_lt ho).1 (by rw [cel_obj ho, fsz_set hk hr]) (fun b hb => cel_put hb)
theorem wz_put {ad : Nat → Nat} {cI cL cQ : ClassId} {w : Wd} {a : Nat} {f : Nat → Int32} (h : 0 < al a) : (wz ad cI cL cQ w).set a (ad a, .inl (cI, al a, .inl f)) = wz ad cI cL cQ (put w a f) :=
  wz_set (al_pos h).2.2.2 (by rw [cel_arr h, put_self]) (fun b hb => cel_put hb)
theorem wz_long {ad : Nat → Nat} {cI cL cQ : ClassId} {w : Wd} {g : Nat → Int64} : (wz ad cI cL cQ w).set 43 (ad 43, .inl (cL, 5, .inr (.inl g))) = wz ad cI cL cQ (w.1, g) :=
  wz_set (by omega) rfl (fun b hb => by
    unfold cel
    cases okc b with
    | some c => rfl
    | none => show (if b = 43 then _ else _) = (if b = 43 then _ else _); rw [if_neg hb, if_neg hb])
theorem clz_at : ∀ c, c < 5 → clz[c]? = some (oN (c + 1), cTT c, nfc c)
  | 0, _ => rfl
  | 1, _ => rfl
  | 2, _ => rfl
  | 3, _ => rfl
  | 4, _ => rfl
  | n + 5, h => absurd h (by omega)
theorem cTy_ok : ∀ c, c < 5 → (∀ k, k < nfc c → parseFieldDescriptor (cTT c k).2.2.1 = some (cTy c k)) ∧ ∀ a, a < nfc c → ∀ b, b < nfc c → a ≠ b → (cTT c a).2.1 ≠ (cTT c b).2.1
  | 0, _ => ⟨tyX1_ok, nmX1⟩
  | 1, _ => ⟨tyX2_ok, nmX2⟩
  | 2, _ => ⟨tyX3_ok, nmX3⟩
  | 3, _ => ⟨tyX4_ok, nmX4⟩
  | 4, _ => ⟨tyX5_ok, nmX5⟩
  | n + 5, h => absurd h (by omega)
theorem frc_cRf {c a f : Nat} (hc : c < 5) (h : frc c a f = none) : cRf c f = false := by
  have key : frc c 0 f = none := by
    match c, hc with
    | 0, _ =>
      by_cases hf : f < 9
      · exact absurd ((if_pos hf).symm.trans h) (by simp)
      · exact if_neg hf
    | 1, _ =>
      by_cases hf : f = 0
      · exact absurd ((if_pos hf).symm.trans h) (by simp)
      · exact if_neg hf
    | 2, _ => exact h
    | 3, _ => exact h
    | 4, _ => exact h
    | n + 5, h => exact absurd h (by omega)
  unfold cRf
  rw [key]
  rfl
