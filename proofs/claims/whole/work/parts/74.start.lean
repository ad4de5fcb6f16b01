/-! THE LAW, FROM ITS ENTRY -/
def adF (r : Nat → Nat) (q : Nat) (r' tS : Nat → Nat) (b : Nat) (adK : Nat → Nat) : Nat → Nat := fun i => if i < 44 then r i else if i = 44 then q else if i < 54 then r' (i - 44) else if i < 57 then tS (i - 54) else if i = 57 then b else if 60 ≤ i then adK (i - 60) else 0
theorem adF_54 {r : Nat → Nat} {q : Nat} {r' tS : Nat → Nat} {b : Nat} {adK : Nat → Nat} {a : Nat} (h : a < 3) : adF r q r' tS b adK (54 + a) = tS a := by
  unfold adF
  rw [if_neg (by omega), if_neg (by omega), if_neg (by omega), if_pos (by omega), Nat.add_sub_cancel_left]
theorem adF_60 {r : Nat → Nat} {q : Nat} {r' tS : Nat → Nat} {b : Nat} {adK : Nat → Nat} {i : Nat} : adF r q r' tS b adK (60 + i) = adK i := by
  unfold adF
  rw [if_neg (by omega), if_neg (by omega), if_neg (by omega), if_neg (by omega), if_neg (by omega), if_pos (by omega), Nat.add_sub_cancel_left]
def qE (cQ : ClassId) (f : Nat → Option Nat) : va_E := .inl (cQ, 4, .inr (.inr (.inr (.inr f))))
set_option maxRecDepth 100000 in
set_option maxHeartbeats 4000000 in
theorem wz_eq {cI cL cQ : ClassId} {r : Nat → Nat} {q : Nat} {r' tS : Nat → Nat} {b : Nat} {adK : Nat → Nat} {N : Nat} {xs : Nat → Int32} : (wBW cI cL cQ r ++ wMo cI q r').set 31 (r 31, qE cQ (fun j => some (adF r q r' tS b adK (32 + 2 * j)))) = wz (adF r q r' tS b adK) cI cL cQ (W0 N xs) := rfl
set_option maxRecDepth 100000 in
set_option maxHeartbeats 4000000 in
theorem wz_se {cI cL cQ : ClassId} {r : Nat → Nat} {q : Nat} {r' : Nat → Nat} : (wBW cI cL cQ r ++ wMo cI q r').set 31 (r 31, qE cQ (fun j => some (r (32 + 2 * j)))) = wBW cI cL cQ r ++ wMo cI q r' := rfl
theorem wz_31 {cI cL cQ : ClassId} {r : Nat → Nat} {q : Nat} {r' : Nat → Nat} : (wBW cI cL cQ r ++ wMo cI q r')[31]? = some (r 31, qE cQ (fun j => some (r (32 + 2 * j)))) := rfl
theorem wz_ln {cI cL cQ : ClassId} {r : Nat → Nat} {q : Nat} {r' : Nat → Nat} : 31 < (wBW cI cL cQ r ++ wMo cI q r').length := Nat.le_of_ble_eq_true rfl
set_option maxHeartbeats 4000000 in
set_option maxRecDepth 100000 in
theorem whole_start {p : Program} {e : Jvm.Env} {s : State} {m : MethodId} {below : List Frame} {meth : Method} {c : Code} (l : Launch) (hflags : l.flags = flags0) {b L : Nat} {xs : Nat → Int32} (hL : L ≤ 3072) (C0 : lw_At p s m meth c b L xs) : W p l e room_1 s m #[Value.ref b] below meth c s.heap [] 0 0 (lw_Z below #[Value.ref b] s) (entryFrame m ([Value.ref b] : List Value).toArray 4) := by
  obtain ⟨hx, hb, hr, hml, hown0, hts, hX, hbl, hlocks, hgv⟩ := id C0
  have hown : s.vm.findClass RL = some m.cls := hown0
  have hfl : ∀ c ∈ FL, c.before #[Value.ref b] s = true := flat_of_before _ hgv
  have hG : ∀ W ∈ Gz, W.before #[Value.ref b] s = true := fun W hW => hts W (in_tbl hW)
  obtain ⟨tS, adK, hSta⟩ := start_S hts hfl (by omega) hX hbl
  obtain ⟨D, hK0⟩ := start_K hts
  obtain ⟨cI, cL, cQ, hK⟩ := start_T hts hK0
  have hAO : va_AO RX2 s := va_AO.of (hts _ ao_tbl)
  have hN4 : va_Nw (.methodLinkNest RX4 34 yX3_init "BoneWords") s := va_Nw.of rfl (hts _ tb_n4)
  have hN5 : va_Nw (.methodLinkNest RX4 47 yX2_init "BoneWords") s := va_Nw.of rfl (hts _ tb_n5)
  have hA : ∀ q : Nat, s.heap.size ≤ q → (fun q : Nat => s.heap.size ≤ q) q := fun _ h => h
  have hS : va_S (fun q : Nat => s.heap.size ≤ q) s.heap s.heap [] := va_S.rf
  have hP : va_P D clz [] s.heap := fun k q h => by simp at h
  have hD : va_D (fun q : Nat => s.heap.size ≤ q) [] := ⟨fun i j p q h => by simp at h, fun k q h => by simp at h⟩
  have hl := lv_entry ([.ref b]) (n := 4) (Nat.le_of_ble_eq_true rfl)
  rw [lg_entry_eq]
  generalize (lg_sl ([.ref b]) ++ List.replicate (4 - (lg_sl ([.ref b])).length) Slot.unset).toArray = ls at hl ⊢
  have hl : lv_has ls 4 [(0, .ref b)] := hl
  refine va_new (ci := 3) (fs := [.null, .null, .null, .int 0, .null, .null, .null, .null]) (C := RX4) (T := TX4) (N := 8) hx hb hG (uw_ok (c := 3) (by omega)) tyX4 tyX4_ok hown (hG _ ci_cl_RL_RX4) (hG _ ci_in_RX4) (hG _ ci_n_RX4) hK hP hD hS hA rfl (fun j hj => by rcases (show j = 0 ∨ j = 1 ∨ j = 2 ∨ j = 3 ∨ j = 4 ∨ j = 5 ∨ j = 6 ∨ j = 7 by omega) with rfl | rfl | rfl | rfl | rfl | rfl | rfl | rfl <;> rfl) (Nat.le_of_ble_eq_true rfl) (Nat.le_of_ble_eq_true rfl) dL_law_0 (fun a H hP hD hS => ?_)
  have hP : va_P D clz [(a, .inr (3, [.null, .null, .null, .int 0, .null, .null, .null, .null]))] H := hP
  have hD : va_D (fun q : Nat => s.heap.size ≤ q) [(a, .inr (3, [.null, .null, .null, .int 0, .null, .null, .null, .null]))] := hD
  refine W.widen (k := 1) (n := 8) (by omega) (by omega) ?_
  refine lv_dup hx hb dL_law_3 rfl ?_
  have hPc := hP.sub (ws' := [(a, .inr (3, [.null, .null, .null, .int 0, .null, .null, .null, .null]))]) [0] rfl
  have hFc := va_free (wc := [(a, .inr (3, [.null, .null, .null, .int 0, .null, .null, .null, .null]))]) hD hS hA [0] rfl
  refine va_callv (va_runI (As := []) (rest := [.ref a]) ⟨hx, hb, hml, hown, hG⟩ (k_iBW (sz := H.size)) (cwI 0 hG gi_BW rfl rfl rfl (hG _ ci_n_RX4) (hG _ ci_l_RL_X4) (hG _ ci_i_RX4) rfl (by decide +kernel) ⟨Nat.le_of_ble_eq_true rfl, Nat.le_of_ble_eq_true rfl⟩) ⟨fun v U g mk q => by
      obtain ⟨q0, q1, qP, qK, qA, qB, qC⟩ := q
      exact ⟨q0, q1, qP, va_K.moved (u := U) (U := U.calling g mk v) (Vm.Alike.refl U.vm) qK, va_AO.moved (u := U) (U := U.calling g mk v) (Vm.Alike.refl U.vm) qA, va_Nw.same rfl (u := U) (U := U.calling g mk v) rfl qB, va_Nw.same rfl (u := U) (U := U.calling g mk v) rfl qC⟩, fun U hU hW => ⟨rfl, by rw [hU], by rw [hU]; exact hPc, va_K.moved hW.alike hK, va_AO.moved hW.alike hAO, va_Nw.warmM hW hN4, va_Nw.warmM hW hN5⟩⟩ rfl rfl hl.1 rfl (lv_room (Nat.le_of_ble_eq_true rfl)) dL_law_4 ⟨Nat.le_of_ble_eq_true rfl, Nat.le_of_ble_eq_true rfl⟩) hS (fun q _ h => hFc q h) hFc (fun r t H locs ht hvm hr0 hB hz1 hk1 hS => ?_)
  obtain ⟨hP1, hD1⟩ := hB
  rw [ht] at hP1
  obtain ⟨hP, hD⟩ := va_join (wr := []) (w1 := wBW cI cL cQ r) hP hD [0] [] rfl rfl (by decide) (by decide) hk1 hFc hP1 hD1
  have hP : va_P D clz (wBW cI cL cQ r) H := hP
  have hD : va_D (fun q : Nat => s.heap.size ≤ q) (wBW cI cL cQ r) := hD
  refine W.widen (k := 44) (n := 574) (by omega) (by omega) ?_
  refine lv_astore_n (lv' := [(1, .ref a), (0, .ref b)]) hx hb dL_law_7 rfl hl (by decide) rfl (fun ls hl => ?_)
  refine va_new (ci := 4) (fs := [.null, .null, .null, .null, .int 0, .null, .null, .int 0, .null, .null, .null, .int 0, .int 0, .int 0, .int 0, .int 0]) (C := RX5) (T := TX5) (N := 16) hx hb hG (uw_ok (c := 4) (by omega)) tyX5 tyX5_ok hown (hG _ ci_cl_RL_RX5) (hG _ ci_in_RX5) (hG _ ci_n_RX5) hK hP hD hS hA rfl (fun j hj => by rcases (show j = 0 ∨ j = 1 ∨ j = 2 ∨ j = 3 ∨ j = 4 ∨ j = 5 ∨ j = 6 ∨ j = 7 ∨ j = 8 ∨ j = 9 ∨ j = 10 ∨ j = 11 ∨ j = 12 ∨ j = 13 ∨ j = 14 ∨ j = 15 by omega) with rfl | rfl | rfl | rfl | rfl | rfl | rfl | rfl | rfl | rfl | rfl | rfl | rfl | rfl | rfl | rfl <;> rfl) (Nat.le_of_ble_eq_true rfl) (Nat.le_of_ble_eq_true rfl) dL_law_8 (fun q H hP hD hS => ?_)
  refine W.widen (k := 45) (n := 590) (by omega) (by omega) ?_
  refine lv_dup hx hb dL_law_11 rfl ?_
  have hPc := hP.sub (ws' := [(q, .inr (4, [.null, .null, .null, .null, .int 0, .null, .null, .int 0, .null, .null, .null, .int 0, .int 0, .int 0, .int 0, .int 0]))]) [44] rfl
  have hFc := va_free (wc := [(q, .inr (4, [.null, .null, .null, .null, .int 0, .null, .null, .int 0, .null, .null, .null, .int 0, .int 0, .int 0, .int 0, .int 0]))]) hD hS hA [44] rfl
  refine va_callv (va_runI (As := []) (rest := [.ref q]) ⟨hx, hb, hml, hown, hG⟩ (k_iModel (cL := cL) (cQ := cQ) (sz := H.size)) (cwI 0 hG gi_Mo rfl rfl rfl (hG _ ci_n_RX5) (hG _ ci_l_RL_X5) (hG _ ci_i_RX5) rfl (by decide +kernel) ⟨Nat.le_of_ble_eq_true rfl, Nat.le_of_ble_eq_true rfl⟩) ⟨bl_ctor, fun U hU hW => ⟨rfl, by rw [hU], by rw [hU]; exact hPc, va_K.moved hW.alike hK⟩⟩ rfl rfl hl.1 rfl (lv_room (Nat.le_of_ble_eq_true rfl)) dL_law_12 ⟨Nat.le_of_ble_eq_true rfl, Nat.le_of_ble_eq_true rfl⟩) hS (fun q _ h => hFc q h) hFc (fun r' t H locs ht hvm _ hB hz1 hk1 hS => ?_)
  obtain ⟨hP1, hD1⟩ := hB
  rw [ht] at hP1
  obtain ⟨hP, hD⟩ := va_join (wr := wBW cI cL cQ r) (w1 := wMo cI q r') hP hD [44] [0, 1, 2, 3, 4, 5, 6, 7, 8, 9, 10, 11, 12, 13, 14, 15, 16, 17, 18, 19, 20, 21, 22, 23, 24, 25, 26, 27, 28, 29, 30, 31, 32, 33, 34, 35, 36, 37, 38, 39, 40, 41, 42, 43] rfl rfl (by decide) (by decide) hk1 hFc hP1 hD1
  refine W.widen (k := 54) (n := 1186) (by omega) (by omega) ?_
  refine lv_astore_n (lv' := [(2, .ref q), (1, .ref a), (0, .ref b)]) hx hb dL_law_15 rfl hl (by decide) rfl (fun ls hl => ?_)
  refine lv_iconst (v := nI 0) hx hb dL_law_16 (by decide) ?_
  refine lv_istore_n (lv' := [(3, .int (nI 0)), (2, .ref q), (1, .ref a), (0, .ref b)]) hx hb dL_law_17 rfl hl (by decide) rfl (fun ls hl => ?_)
  obtain ⟨ad, had⟩ : ∃ ad, ad = adF r q r' tS b adK := ⟨_, rfl⟩
  have hP : va_P D clz (wz ad cI cL cQ (W0 L xs)) H := by
    rw [had, ← wz_eq]
    refine va_P_cellQ (f := fun j => some (r (32 + 2 * j))) (n := 4) (cA := cQ) (a := r 31) (b := 31) (ws := wBW cI cL cQ r ++ wMo cI q r') ?_ wz_ln (fun j hj => ?_)
    · show va_P D clz ((wBW cI cL cQ r ++ wMo cI q r').set 31 (r 31, qE cQ (fun j => some (r (32 + 2 * j))))) H
      rw [wz_se]
      exact hP
    · show some (r (32 + 2 * j)) = some (adF r q r' tS b adK (32 + 2 * j))
      congr 1
      exact (if_pos (by omega)).symm
  have hD : va_D (fun q : Nat => s.heap.size ≤ q) (wz ad cI cL cQ (W0 L xs)) := by
    rw [had, ← wz_eq]
    exact hD.set wz_31
  have hin : inj54 ad := fun i j hi hj e => hD.1 i j _ _ (wz_at hi) (wz_at hj) e
  have hge : ∀ a, a < 54 → s.heap.size ≤ ad a := fun a ha => hD.2 a _ (wz_at ha)
  have hSt : Sta L xs ad (AD ad s.heap.size) s s.heap := (hSta ad (fun a ha => by rw [had]; exact adF_54 ha) (by rw [had]; rfl) (fun i _ => by rw [had]; exact adF_60)).narrow (fun z hz => by
    rcases hz with ⟨a, ha, rfl⟩ | h
    · exact hge a ha
    · exact h)
  have hS' : va_S (AD ad s.heap.size) s.heap H locs := ⟨hS.1, fun z h1 _ => hS.2.1 z h1 (Nat.not_le.mpr h1), fun z hz => Or.inr (hS.2.2 z hz)⟩
  have e0 : ad 0 = a := by rw [had]; exact hr0
  have e44 : ad 44 = q := by rw [had]; rfl
  have e57 : ad 57 = b := by rw [had]; rfl
  obtain ⟨W', hrun⟩ := law_all hL 513 0 A0 (W0 L xs) (Rel_0 L xs) Inv_0 (by omega) (by omega)
  have hrun : lim (CL (mV 204)) 204 (18, LWL 0, [], [], W0 L xs) = some ([.int (nI 1)], W') := hrun
  obtain ⟨n, hn⟩ := lim_ex hrun
  have hend : ∀ pc i L0 K st w, decode (mB 204) pc = .ok i → exR 204 i st w = some ([Value.int (nI 1)], W') → Cn p l e room_1 s m #[Value.ref b] below meth c 54 1186 (lw_Z below #[Value.ref b] s) D cI cL cQ ad L xs 4 s.heap.size (pc, L0, K, st, w) := by
    intro pc i L0 K st w hd hex
    have hst := (exR_len hex).1
    cases hst
    have hi : i = (.ireturn, 1) := by
      unfold exR at hex
      split at hex
      · rfl
      · simp at hex
      · simp at hex
      · simp at hex
      · simp at hex
    subst hi
    rw [e204] at hd
    intro H locs ls hP hS hl hs
    refine va_forget (fun z hz => ?_) (W.widen (k := 600000) (n := 7302250) (Nat.le_of_ble_eq_true rfl) (Nat.le_of_ble_eq_true rfl) (lw_ret hx hb hr hlocks hd))
    rcases hS.2.2 z hz with ⟨a, ha, e⟩ | h
    · rw [e]; exact hge a ha
    · exact h
  have hcall : ∀ t as w r, t < 204 → mV t < mV 204 → wds as ≤ mX t → CL (mV 204) t as w = some r → Cok l D cI cL cQ ad L xs t as w r := fun t as w r h1 _ h3 h4 => sound hin Jok_all (mV 204) t as w r h1 h3 h4
  have key := s_run (p := p) (l := l) (e := e) (R := room_1) (s := s) (m := m) (args := #[Value.ref b]) (below := below) (meth := meth) (c := c) (cells := 54) (slots := 1186) (Q := lw_Z below #[Value.ref b] s) (D := D) (cI := cI) (cL := cL) (cQ := cQ) (ad := ad) (N := L) (xs := xs) (nL := 4) (sz := s.heap.size) (M := 204) (call := CL (mV 204)) hx (hb.trans e204.symm) hml hown (Nat.le_of_ble_eq_true rfl) hG hK hin rfl hSt ⟨Nat.le_of_ble_eq_true rfl, Nat.le_of_ble_eq_true rfl, Nat.le_of_ble_eq_true rfl, Nat.le_of_ble_eq_true rfl⟩ Jok_all hcall hend n _ hn
  refine key H locs ls hP hS' ⟨hl.1, hl.2.1, Nat.le_refl _, fun i v hv => ?_, fun i x hx => by simp at hx⟩ ⟨rfl, rfl⟩
  match i, hv with
  | 0, hv =>
    cases hv
    refine ⟨rfl, ?_⟩
    show ls[0]? = some (.val (.ref (ad 57)))
    rw [e57]
    exact lv_at hl 3 rfl
  | 1, hv =>
    cases hv
    refine ⟨rfl, ?_⟩
    show ls[1]? = some (.val (.ref (ad 0)))
    rw [e0]
    exact lv_at hl 2 rfl
  | 2, hv =>
    cases hv
    refine ⟨rfl, ?_⟩
    show ls[2]? = some (.val (.ref (ad 44)))
    rw [e44]
    exact lv_at hl 1 rfl
  | 3, hv =>
    cases hv
    exact ⟨rfl, lv_at hl 0 rfl⟩
  | i + 4, hv => simp at hv
