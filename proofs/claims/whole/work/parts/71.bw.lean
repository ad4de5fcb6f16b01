/-! THE COMPONENT IS MADE -/
def fR : Nat → Int32 := fun k => if k = 11 then 1 else 0
def W0 (N : Nat) (xs : Nat → Int32) : Wd := (fun a => match a with
  | 1 => fR | 11 => fR | 21 => fR
  | 3 => fil 12 6 | 13 => fil 12 6 | 23 => fil 12 6
  | 4 => fil 3 6 | 14 => fil 3 6 | 24 => fil 3 6
  | 10 => fil (-1) 10 | 20 => fil (-1) 10 | 30 => fil (-1) 10
  | 45 => sm2 10 | 51 => fil (-1) 4 | 57 => xs | 58 => fun _ => nI N | _ => fun _ => 0, fun _ => 0)
def lst44 (L : List Nat) : Nat → Nat := fun i => L.getD i 0
def wBW (cI cL cQ : ClassId) (r : Nat → Nat) : va_W := (List.range 44).map (fun i => (r i, cel r cI cL cQ (W0 0 (fun _ => 0)) i))
theorem gi_Reef : GoodIn Gz (wJ yX1_init cX1_init 2 none) := goodIn_Gz (fun W hW => by
  rcases List.mem_cons.mp hW with rfl | h1
  · exact ci_c_RX1
  · exact h1)
theorem gi_Sheet : GoodIn Gz (wJ yX2_init cX2_init 1 none) := goodIn_Gz (fun W hW => by
  rcases List.mem_cons.mp hW with rfl | h1
  · exact ci_c_RX2
  · exact h1)
theorem gi_Tape : GoodIn Gz (wJ yX3_init cX3_init 1 none) := goodIn_Gz (fun W hW => by
  rcases List.mem_cons.mp hW with rfl | h1
  · exact ci_c_RX3
  · exact h1)
theorem gi_BW : GoodIn Gz (wJ yX4_init cX4_init 2 none) := goodIn_Gz (fun W hW => by
  rcases List.mem_cons.mp hW with rfl | h1
  · exact ci_c_RX4
  · exact h1)
theorem gi_Mo : GoodIn Gz (wJ yX5_init cX5_init 2 none) := goodIn_Gz (fun W hW => by
  rcases List.mem_cons.mp hW with rfl | h1
  · exact ci_c_RX5
  · exact h1)
theorem bl_ctor {D : va_G} {cI cL cQ : ClassId} {a sz : Nat} {w : va_W} : FrameBlind (va_Pc [.ref a] (fun U => U.heap.size = sz ∧ va_P D clz w U.heap ∧ va_K D clz (tyz cI cL cQ) U)) := fun b U g mk q => by
  obtain ⟨q0, q1, qP, qK⟩ := q
  exact ⟨q0, q1, qP, va_K.moved (u := U) (U := U.calling g mk b) (Vm.Alike.refl U.vm) qK⟩
set_option maxHeartbeats 4000000 in
set_option maxRecDepth 100000 in
theorem k_iBW {l : Launch} {D : va_G} {cI cL cQ : ClassId} {a sz : Nat} : Met l yX4_init (wJ yX4_init cX4_init 2 none) ({ frames := 2, cells := 43, slots := 566, locals := 40 }) (va_Pc [.ref a] (fun U => U.heap.size = sz ∧ va_P D clz [(a, .inr (3, [.null, .null, .null, .int 0, .null, .null, .null, .null]))] U.heap ∧ va_K D clz (tyz cI cL cQ) U ∧ (va_AO RX2 U ∧ va_Nw (.methodLinkNest RX4 34 yX3_init "BoneWords") U ∧ va_Nw (.methodLinkNest RX4 47 yX2_init "BoneWords") U))) (va_Qv (fun r : Nat → Nat => r 0 = a) (fun r t => va_P D clz (wBW cI cL cQ r) t.heap ∧ va_D (va_A [(a, .inr (3, [.null, .null, .null, .int 0, .null, .null, .null, .null]))] sz) (wBW cI cL cQ r)) (va_A [(a, .inr (3, [.null, .null, .null, .int 0, .null, .null, .null, .null]))] sz)) 43 566 (va_A [(a, .inr (3, [.null, .null, .null, .int 0, .null, .null, .null, .null]))] sz) := by
  refine Met.ofW (cc := cX4_init) (maxL := 2) (ret := none) (by decide) rfl ?_
  intro p e s m args below meth c s₁ B hml hv
  obtain ⟨rfl, hsz, hP, hK, hE⟩ := hv
  have hx := B.exec
  have hb := B.bytes
  have hr := B.returns
  have hlocks := B.notSynchronized
  have hin : meth.name = "<init>" := (name_of_methodNamed B.named B.method).1
  have hown : s.vm.findClass RX4 = some m.cls := findClass_of_methodNamed B.named
  have hts := atoms_spec (ws := wJ yX4_init cX4_init 2 none) B.pre
  have hG : ∀ W ∈ Gz, W.before (([.ref a] : List Value).toArray) s = true := fun W hW => hts W (List.mem_cons_of_mem _ hW)
  subst hsz
  have hD : va_D (va_A [(a, .inr (3, [.null, .null, .null, .int 0, .null, .null, .null, .null]))] s.heap.size) [(a, .inr (3, [.null, .null, .null, .int 0, .null, .null, .null, .null]))] := D1 (Or.inl ⟨0, _, rfl⟩)
  generalize hAe : va_A [(a, .inr (3, [.null, .null, .null, .int 0, .null, .null, .null, .null]))] s.heap.size = A at hD ⊢
  have hA : ∀ q : Nat, s.heap.size ≤ q → A q := fun q h => by rw [← hAe]; exact Or.inr h
  have hS : va_S A s.heap s.heap [] := va_S.rf
  have hl := lv_entry ([.ref a]) (n := 2) (Nat.le_of_ble_eq_true rfl)
  rw [lg_entry_eq]
  generalize (lg_sl ([.ref a]) ++ List.replicate (2 - (lg_sl ([.ref a])).length) Slot.unset).toArray = ls at hl ⊢
  have hl : lv_has ls 2 [(0, .ref a)] := hl
  refine lv_aload_n hx hb dX4_init_0 rfl (lv_at hl 0 rfl) ?_
  refine W.objInit hx hb hown (hG _ ci_ol_RX4) (hG _ ci_obj_i) (hG _ ci_obj_c) rfl (by rw [hml]; exact hl.1) rfl dX4_init_1 (Nat.le_of_ble_eq_true rfl) (Nat.le_of_ble_eq_true rfl) ?_
  refine W.eq (g2 := F0 m 4 ls []) rfl ?_
  refine lv_aload_n hx hb dX4_init_4 rfl (lv_at hl 0 rfl) ?_
  refine va_new (ci := 0) (fs := [.null, .null, .null, .null, .null, .null, .null, .null, .null, .int 0, .int 0, .int 0]) (C := RX1) (T := TX1) (N := 12) hx hb hG (uw_ok (c := 0) (by omega)) tyX1 tyX1_ok hown (hG _ ci_cl_RX4_RX1) (hG _ ci_in_RX1) (hG _ ci_n_RX1) hK hP hD hS hA rfl (fun j hj => by rcases (show j = 0 ∨ j = 1 ∨ j = 2 ∨ j = 3 ∨ j = 4 ∨ j = 5 ∨ j = 6 ∨ j = 7 ∨ j = 8 ∨ j = 9 ∨ j = 10 ∨ j = 11 by omega) with rfl | rfl | rfl | rfl | rfl | rfl | rfl | rfl | rfl | rfl | rfl | rfl <;> rfl) (show 1 ≤ 43 by decide) (show 12 ≤ 566 by decide) dX4_init_5 (fun q1 H hP hD hS => ?_)
  have hP : va_P D clz ((a, .inr (3, [.null, .null, .null, .int 0, .null, .null, .null, .null])) :: [(q1, .inr (0, [.null, .null, .null, .null, .null, .null, .null, .null, .null, .int 0, .int 0, .int 0]))]) H := hP
  have hD : va_D A ((a, .inr (3, [.null, .null, .null, .int 0, .null, .null, .null, .null])) :: [(q1, .inr (0, [.null, .null, .null, .null, .null, .null, .null, .null, .null, .int 0, .int 0, .int 0]))]) := hD
  refine W.widen (k := 1) (n := 12) (by omega) (by omega) ?_
  refine lv_dup hx hb dX4_init_8 rfl ?_
  have hPc := hP.sub (ws' := [(q1, .inr (0, [.null, .null, .null, .null, .null, .null, .null, .null, .null, .int 0, .int 0, .int 0]))]) [1] rfl
  have hFc := va_free (wc := [(q1, .inr (0, [.null, .null, .null, .null, .null, .null, .null, .null, .null, .int 0, .int 0, .int 0]))]) hD hS hA [1] rfl
  refine va_callv (va_runI (As := []) (rest := [.ref q1, .ref a]) ⟨hx, hb, hml, hown, hG⟩ (k_iReef (sz := H.size)) (cwI 0 hG gi_Reef rfl rfl rfl (hG _ ci_n_RX1) (hG _ ci_l_RX4_X1) (hG _ ci_i_RX1) rfl (by decide +kernel) ⟨Nat.le_of_ble_eq_true rfl, Nat.le_of_ble_eq_true rfl⟩) ⟨bl_ctor, fun U hU hW => ⟨rfl, by rw [hU], by rw [hU]; exact hPc, va_K.moved hW.alike hK⟩⟩ rfl rfl hl.1 rfl (lv_room (Nat.le_of_ble_eq_true rfl)) dX4_init_9 ⟨(show 10 ≤ 43 by decide), (show 84 ≤ 566 by decide)⟩) hS (fun q _ h => hFc q h) hFc (fun r1 t H locs ht hvm _ hB hz1 hk1 hS => ?_)
  obtain ⟨hP1, hD1⟩ := hB
  rw [ht] at hP1
  obtain ⟨hP, hD⟩ := va_join (wr := [(a, .inr (3, [.null, .null, .null, .int 0, .null, .null, .null, .null]))]) (w1 := wReef cI q1 r1) hP hD [1] [0] rfl rfl (by decide) (by decide) hk1 hFc hP1 hD1
  have hP : va_P D clz ((a, .inr (3, [.null, .null, .null, .int 0, .null, .null, .null, .null])) :: wReef cI q1 r1) H := hP
  have hD : va_D A ((a, .inr (3, [.null, .null, .null, .int 0, .null, .null, .null, .null])) :: wReef cI q1 r1) := hD
  refine W.widen (k := 10) (n := 84) (by omega) (by omega) ?_
  refine va_putF (D := D) (ci := 3) (v := .ref q1) (ty := .object RX1) (C := RX4) (T := TX4) (N := 8) hx hb hG (uw_ok (c := 3) (by omega)) tyX4 tyX4_ok nmX4 hown hK hP hD hS 0 rfl rfl 0 (by decide) (hG _ ci_f_RX4_10) (fun _ h9 => h9) rfl hin rfl (by decide +kernel) rfl rfl (Nat.le_of_ble_eq_true rfl) dX4_init_12 (fun H locs hP hD hS => ?_)
  have hP : va_P D clz ((a, .inr (3, [.ref q1, .null, .null, .int 0, .null, .null, .null, .null])) :: wReef cI q1 r1) H := hP
  have hD : va_D A ((a, .inr (3, [.ref q1, .null, .null, .int 0, .null, .null, .null, .null])) :: wReef cI q1 r1) := hD
  refine lv_aload_n hx hb dX4_init_15 rfl (lv_at hl 0 rfl) ?_
  refine va_new (ci := 0) (fs := [.null, .null, .null, .null, .null, .null, .null, .null, .null, .int 0, .int 0, .int 0]) (C := RX1) (T := TX1) (N := 12) hx hb hG (uw_ok (c := 0) (by omega)) tyX1 tyX1_ok hown (hG _ ci_cl_RX4_RX1) (hG _ ci_in_RX1) (hG _ ci_n_RX1) hK hP hD hS hA rfl (fun j hj => by rcases (show j = 0 ∨ j = 1 ∨ j = 2 ∨ j = 3 ∨ j = 4 ∨ j = 5 ∨ j = 6 ∨ j = 7 ∨ j = 8 ∨ j = 9 ∨ j = 10 ∨ j = 11 by omega) with rfl | rfl | rfl | rfl | rfl | rfl | rfl | rfl | rfl | rfl | rfl | rfl <;> rfl) (show 11 ≤ 43 by decide) (show 96 ≤ 566 by decide) dX4_init_16 (fun q2 H hP hD hS => ?_)
  have hP : va_P D clz ((a, .inr (3, [.ref q1, .null, .null, .int 0, .null, .null, .null, .null])) :: (wReef cI q1 r1 ++ [(q2, .inr (0, [.null, .null, .null, .null, .null, .null, .null, .null, .null, .int 0, .int 0, .int 0]))])) H := hP
  have hD : va_D A ((a, .inr (3, [.ref q1, .null, .null, .int 0, .null, .null, .null, .null])) :: (wReef cI q1 r1 ++ [(q2, .inr (0, [.null, .null, .null, .null, .null, .null, .null, .null, .null, .int 0, .int 0, .int 0]))])) := hD
  refine W.widen (k := 11) (n := 96) (by omega) (by omega) ?_
  refine lv_dup hx hb dX4_init_19 rfl ?_
  have hPc := hP.sub (ws' := [(q2, .inr (0, [.null, .null, .null, .null, .null, .null, .null, .null, .null, .int 0, .int 0, .int 0]))]) [11] rfl
  have hFc := va_free (wc := [(q2, .inr (0, [.null, .null, .null, .null, .null, .null, .null, .null, .null, .int 0, .int 0, .int 0]))]) hD hS hA [11] rfl
  refine va_callv (va_runI (As := []) (rest := [.ref q2, .ref a]) ⟨hx, hb, hml, hown, hG⟩ (k_iReef (sz := H.size)) (cwI 0 hG gi_Reef rfl rfl rfl (hG _ ci_n_RX1) (hG _ ci_l_RX4_X1) (hG _ ci_i_RX1) rfl (by decide +kernel) ⟨Nat.le_of_ble_eq_true rfl, Nat.le_of_ble_eq_true rfl⟩) ⟨bl_ctor, fun U hU hW => ⟨rfl, by rw [hU], by rw [hU]; exact hPc, va_K.moved hW.alike hK⟩⟩ rfl rfl hl.1 rfl (lv_room (Nat.le_of_ble_eq_true rfl)) dX4_init_20 ⟨(show 20 ≤ 43 by decide), (show 168 ≤ 566 by decide)⟩) hS (fun q _ h => hFc q h) hFc (fun r2 t H locs ht hvm _ hB hz1 hk1 hS => ?_)
  obtain ⟨hP1, hD1⟩ := hB
  rw [ht] at hP1
  obtain ⟨hP, hD⟩ := va_join (wr := ((a, .inr (3, [.ref q1, .null, .null, .int 0, .null, .null, .null, .null])) :: wReef cI q1 r1)) (w1 := wReef cI q2 r2) hP hD [11] [0, 1, 2, 3, 4, 5, 6, 7, 8, 9, 10] rfl rfl (by decide) (by decide) hk1 hFc hP1 hD1
  have hP : va_P D clz ((a, .inr (3, [.ref q1, .null, .null, .int 0, .null, .null, .null, .null])) :: (wReef cI q1 r1 ++ wReef cI q2 r2)) H := hP
  have hD : va_D A ((a, .inr (3, [.ref q1, .null, .null, .int 0, .null, .null, .null, .null])) :: (wReef cI q1 r1 ++ wReef cI q2 r2)) := hD
  refine W.widen (k := 20) (n := 168) (by omega) (by omega) ?_
  refine va_putF (D := D) (ci := 3) (v := .ref q2) (ty := .object RX1) (C := RX4) (T := TX4) (N := 8) hx hb hG (uw_ok (c := 3) (by omega)) tyX4 tyX4_ok nmX4 hown hK hP hD hS 0 rfl rfl 1 (by decide) (hG _ ci_f_RX4_16) (fun _ h9 => h9) rfl hin rfl (by decide +kernel) rfl rfl (Nat.le_of_ble_eq_true rfl) dX4_init_23 (fun H locs hP hD hS => ?_)
  have hP : va_P D clz ((a, .inr (3, [.ref q1, .ref q2, .null, .int 0, .null, .null, .null, .null])) :: (wReef cI q1 r1 ++ wReef cI q2 r2)) H := hP
  have hD : va_D A ((a, .inr (3, [.ref q1, .ref q2, .null, .int 0, .null, .null, .null, .null])) :: (wReef cI q1 r1 ++ wReef cI q2 r2)) := hD
  refine lv_aload_n hx hb dX4_init_26 rfl (lv_at hl 0 rfl) ?_
  refine va_new (ci := 0) (fs := [.null, .null, .null, .null, .null, .null, .null, .null, .null, .int 0, .int 0, .int 0]) (C := RX1) (T := TX1) (N := 12) hx hb hG (uw_ok (c := 0) (by omega)) tyX1 tyX1_ok hown (hG _ ci_cl_RX4_RX1) (hG _ ci_in_RX1) (hG _ ci_n_RX1) hK hP hD hS hA rfl (fun j hj => by rcases (show j = 0 ∨ j = 1 ∨ j = 2 ∨ j = 3 ∨ j = 4 ∨ j = 5 ∨ j = 6 ∨ j = 7 ∨ j = 8 ∨ j = 9 ∨ j = 10 ∨ j = 11 by omega) with rfl | rfl | rfl | rfl | rfl | rfl | rfl | rfl | rfl | rfl | rfl | rfl <;> rfl) (show 21 ≤ 43 by decide) (show 180 ≤ 566 by decide) dX4_init_27 (fun q3 H hP hD hS => ?_)
  have hP : va_P D clz ((a, .inr (3, [.ref q1, .ref q2, .null, .int 0, .null, .null, .null, .null])) :: ((wReef cI q1 r1 ++ wReef cI q2 r2) ++ [(q3, .inr (0, [.null, .null, .null, .null, .null, .null, .null, .null, .null, .int 0, .int 0, .int 0]))])) H := hP
  have hD : va_D A ((a, .inr (3, [.ref q1, .ref q2, .null, .int 0, .null, .null, .null, .null])) :: ((wReef cI q1 r1 ++ wReef cI q2 r2) ++ [(q3, .inr (0, [.null, .null, .null, .null, .null, .null, .null, .null, .null, .int 0, .int 0, .int 0]))])) := hD
  refine W.widen (k := 21) (n := 180) (by omega) (by omega) ?_
  refine lv_dup hx hb dX4_init_30 rfl ?_
  have hPc := hP.sub (ws' := [(q3, .inr (0, [.null, .null, .null, .null, .null, .null, .null, .null, .null, .int 0, .int 0, .int 0]))]) [21] rfl
  have hFc := va_free (wc := [(q3, .inr (0, [.null, .null, .null, .null, .null, .null, .null, .null, .null, .int 0, .int 0, .int 0]))]) hD hS hA [21] rfl
  refine va_callv (va_runI (As := []) (rest := [.ref q3, .ref a]) ⟨hx, hb, hml, hown, hG⟩ (k_iReef (sz := H.size)) (cwI 0 hG gi_Reef rfl rfl rfl (hG _ ci_n_RX1) (hG _ ci_l_RX4_X1) (hG _ ci_i_RX1) rfl (by decide +kernel) ⟨Nat.le_of_ble_eq_true rfl, Nat.le_of_ble_eq_true rfl⟩) ⟨bl_ctor, fun U hU hW => ⟨rfl, by rw [hU], by rw [hU]; exact hPc, va_K.moved hW.alike hK⟩⟩ rfl rfl hl.1 rfl (lv_room (Nat.le_of_ble_eq_true rfl)) dX4_init_31 ⟨(show 30 ≤ 43 by decide), (show 252 ≤ 566 by decide)⟩) hS (fun q _ h => hFc q h) hFc (fun r3 t H locs ht hvm _ hB hz1 hk1 hS => ?_)
  obtain ⟨hP1, hD1⟩ := hB
  rw [ht] at hP1
  obtain ⟨hP, hD⟩ := va_join (wr := ((a, .inr (3, [.ref q1, .ref q2, .null, .int 0, .null, .null, .null, .null])) :: (wReef cI q1 r1 ++ wReef cI q2 r2))) (w1 := wReef cI q3 r3) hP hD [21] [0, 1, 2, 3, 4, 5, 6, 7, 8, 9, 10, 11, 12, 13, 14, 15, 16, 17, 18, 19, 20] rfl rfl (by decide) (by decide) hk1 hFc hP1 hD1
  have hP : va_P D clz ((a, .inr (3, [.ref q1, .ref q2, .null, .int 0, .null, .null, .null, .null])) :: ((wReef cI q1 r1 ++ wReef cI q2 r2) ++ wReef cI q3 r3)) H := hP
  have hD : va_D A ((a, .inr (3, [.ref q1, .ref q2, .null, .int 0, .null, .null, .null, .null])) :: ((wReef cI q1 r1 ++ wReef cI q2 r2) ++ wReef cI q3 r3)) := hD
  refine W.widen (k := 30) (n := 252) (by omega) (by omega) ?_
  refine va_putF (D := D) (ci := 3) (v := .ref q3) (ty := .object RX1) (C := RX4) (T := TX4) (N := 8) hx hb hG (uw_ok (c := 3) (by omega)) tyX4 tyX4_ok nmX4 hown hK hP hD hS 0 rfl rfl 2 (by decide) (hG _ ci_f_RX4_19) (fun _ h9 => h9) rfl hin rfl (by decide +kernel) rfl rfl (Nat.le_of_ble_eq_true rfl) dX4_init_34 (fun H locs hP hD hS => ?_)
  have hP : va_P D clz ((a, .inr (3, [.ref q1, .ref q2, .ref q3, .int 0, .null, .null, .null, .null])) :: ((wReef cI q1 r1 ++ wReef cI q2 r2) ++ wReef cI q3 r3)) H := hP
  have hD : va_D A ((a, .inr (3, [.ref q1, .ref q2, .ref q3, .int 0, .null, .null, .null, .null])) :: ((wReef cI q1 r1 ++ wReef cI q2 r2) ++ wReef cI q3 r3)) := hD
  refine lv_aload_n hx hb dX4_init_37 rfl (lv_at hl 0 rfl) ?_
  refine lv_iconst (v := 0) hx hb dX4_init_38 (by decide) ?_
  refine va_put (D := D) (ci := 3) (v := .int 0) (ty := .boolean) (C := RX4) (T := TX4) (N := 8) hx hb hG (uw_ok (c := 3) (by omega)) tyX4 tyX4_ok nmX4 hown hK hP hD hS 0 rfl rfl 3 (by decide) (hG _ ci_f_RX4_22) (fun _ h9 => h9) rfl (by decide +kernel) rfl rfl (Nat.le_of_ble_eq_true rfl) dX4_init_39 (fun H locs hP hD hS => ?_)
  have hP : va_P D clz ((a, .inr (3, [.ref q1, .ref q2, .ref q3, .int 0, .null, .null, .null, .null])) :: ((wReef cI q1 r1 ++ wReef cI q2 r2) ++ wReef cI q3 r3)) H := hP
  have hD : va_D A ((a, .inr (3, [.ref q1, .ref q2, .ref q3, .int 0, .null, .null, .null, .null])) :: ((wReef cI q1 r1 ++ wReef cI q2 r2) ++ wReef cI q3 r3)) := hD
  refine lv_aload_n hx hb dX4_init_42 rfl (lv_at hl 0 rfl) ?_
  refine lv_iconst (v := 4) hx hb dX4_init_43 (by decide) ?_
  refine nw_Q hx hb hown (hG _ ci_cl_RX4_RX2) hE.1 hK hP hD hS hA (N' := 4) (by decide) (by decide) (Nat.le_of_ble_eq_true rfl) (show 31 ≤ 43 by decide) (show 256 ≤ 566 by decide) dX4_init_44 (fun qa H hP hD hS => ?_)
  have hP : va_P D clz ((a, .inr (3, [.ref q1, .ref q2, .ref q3, .int 0, .null, .null, .null, .null])) :: (((wReef cI q1 r1 ++ wReef cI q2 r2) ++ wReef cI q3 r3) ++ [(qa, .inl (cQ, 4, .inr (.inr (.inr (.inr (fun _ => none))))))])) H := hP
  have hD : va_D A ((a, .inr (3, [.ref q1, .ref q2, .ref q3, .int 0, .null, .null, .null, .null])) :: (((wReef cI q1 r1 ++ wReef cI q2 r2) ++ wReef cI q3 r3) ++ [(qa, .inl (cQ, 4, .inr (.inr (.inr (.inr (fun _ => none))))))])) := hD
  refine W.widen (k := 31) (n := 256) (by omega) (by omega) ?_
  refine va_putF (D := D) (ci := 3) (v := .ref qa) (ty := .array (.object RX2)) (C := RX4) (T := TX4) (N := 8) hx hb hG (uw_ok (c := 3) (by omega)) tyX4 tyX4_ok nmX4 hown hK hP hD hS 0 rfl rfl 4 (by decide) (hG _ ci_f_RX4_28) (fun _ h9 => h9) rfl hin rfl (by decide +kernel) rfl rfl (Nat.le_of_ble_eq_true rfl) dX4_init_47 (fun H locs hP hD hS => ?_)
  have hP : va_P D clz ((a, .inr (3, [.ref q1, .ref q2, .ref q3, .int 0, .ref qa, .null, .null, .null])) :: (((wReef cI q1 r1 ++ wReef cI q2 r2) ++ wReef cI q3 r3) ++ [(qa, .inl (cQ, 4, .inr (.inr (.inr (.inr (fun _ => none))))))])) H := hP
  have hD : va_D A ((a, .inr (3, [.ref q1, .ref q2, .ref q3, .int 0, .ref qa, .null, .null, .null])) :: (((wReef cI q1 r1 ++ wReef cI q2 r2) ++ wReef cI q3 r3) ++ [(qa, .inl (cQ, 4, .inr (.inr (.inr (.inr (fun _ => none))))))])) := hD
  refine lv_aload_n hx hb dX4_init_50 rfl (lv_at hl 0 rfl) ?_
  refine va_new (ci := 2) (fs := [.null, .int 0, .int 0, .int 0, .int 0, .int 0]) (C := RX3) (T := TX3) (N := 6) hx hb hG (uw_ok (c := 2) (by omega)) tyX3 tyX3_ok hown (hG _ ci_cl_RX4_RX3) (hG _ ci_in_RX3) (hG _ ci_n_RX3) hK hP hD hS hA rfl (fun j hj => by rcases (show j = 0 ∨ j = 1 ∨ j = 2 ∨ j = 3 ∨ j = 4 ∨ j = 5 by omega) with rfl | rfl | rfl | rfl | rfl | rfl <;> rfl) (show 32 ≤ 43 by decide) (show 262 ≤ 566 by decide) dX4_init_51 (fun qt H hP hD hS => ?_)
  have hP : va_P D clz ((a, .inr (3, [.ref q1, .ref q2, .ref q3, .int 0, .ref qa, .null, .null, .null])) :: ((((wReef cI q1 r1 ++ wReef cI q2 r2) ++ wReef cI q3 r3) ++ [(qa, .inl (cQ, 4, .inr (.inr (.inr (.inr (fun _ => none))))))]) ++ [(qt, .inr (2, [.null, .int 0, .int 0, .int 0, .int 0, .int 0]))])) H := hP
  have hD : va_D A ((a, .inr (3, [.ref q1, .ref q2, .ref q3, .int 0, .ref qa, .null, .null, .null])) :: ((((wReef cI q1 r1 ++ wReef cI q2 r2) ++ wReef cI q3 r3) ++ [(qa, .inl (cQ, 4, .inr (.inr (.inr (.inr (fun _ => none))))))]) ++ [(qt, .inr (2, [.null, .int 0, .int 0, .int 0, .int 0, .int 0]))])) := hD
  refine W.widen (k := 32) (n := 262) (by omega) (by omega) ?_
  refine lv_dup hx hb dX4_init_54 rfl ?_
  have hPc := hP.sub (ws' := [(qt, .inr (2, [.null, .int 0, .int 0, .int 0, .int 0, .int 0]))]) [32] rfl
  have hFc := va_free (wc := [(qt, .inr (2, [.null, .int 0, .int 0, .int 0, .int 0, .int 0]))]) hD hS hA [32] rfl
  refine va_callv (va_runIN (As := []) (rest := [.ref qt, .ref a]) ⟨hx, hb, hml, hown, hG⟩ (k_iTape (sz := H.size)) ⟨va_cnB 0 hG gi_Tape rfl rfl rfl hE.2.1 (hG _ ci_n_RX3) (by decide +kernel) ⟨Nat.le_of_ble_eq_true rfl, Nat.le_of_ble_eq_true rfl⟩, rfl, hG _ ci_i_RX3⟩ ⟨bl_ctor, fun U hU hW => ⟨rfl, by rw [hU], by rw [hU]; exact hPc, va_K.moved hW.alike hK⟩⟩ rfl rfl hl.1 rfl (lv_room (Nat.le_of_ble_eq_true rfl)) dX4_init_55 ⟨(show 33 ≤ 43 by decide), (show 382 ≤ 566 by decide)⟩) hS (fun q _ h => hFc q h) hFc (fun rt t H locs ht hvm _ hB hz1 hk1 hS => ?_)
  obtain ⟨hP1, hD1⟩ := hB
  rw [ht] at hP1
  obtain ⟨hP, hD⟩ := va_join (wr := ((a, .inr (3, [.ref q1, .ref q2, .ref q3, .int 0, .ref qa, .null, .null, .null])) :: (((wReef cI q1 r1 ++ wReef cI q2 r2) ++ wReef cI q3 r3) ++ [(qa, .inl (cQ, 4, .inr (.inr (.inr (.inr (fun _ => none))))))]))) (w1 := wTape cI qt rt) hP hD [32] [0, 1, 2, 3, 4, 5, 6, 7, 8, 9, 10, 11, 12, 13, 14, 15, 16, 17, 18, 19, 20, 21, 22, 23, 24, 25, 26, 27, 28, 29, 30, 31] rfl rfl (by decide) (by decide) hk1 hFc hP1 hD1
  have hP : va_P D clz ((a, .inr (3, [.ref q1, .ref q2, .ref q3, .int 0, .ref qa, .null, .null, .null])) :: ((((wReef cI q1 r1 ++ wReef cI q2 r2) ++ wReef cI q3 r3) ++ [(qa, .inl (cQ, 4, .inr (.inr (.inr (.inr (fun _ => none))))))]) ++ wTape cI qt rt)) H := hP
  have hD : va_D A ((a, .inr (3, [.ref q1, .ref q2, .ref q3, .int 0, .ref qa, .null, .null, .null])) :: ((((wReef cI q1 r1 ++ wReef cI q2 r2) ++ wReef cI q3 r3) ++ [(qa, .inl (cQ, 4, .inr (.inr (.inr (.inr (fun _ => none))))))]) ++ wTape cI qt rt)) := hD
  refine W.widen (k := 33) (n := 382) (by omega) (by omega) ?_
  refine va_putF (D := D) (ci := 3) (v := .ref qt) (ty := .object RX3) (C := RX4) (T := TX4) (N := 8) hx hb hG (uw_ok (c := 3) (by omega)) tyX4 tyX4_ok nmX4 hown hK hP hD hS 0 rfl rfl 5 (by decide) (hG _ ci_f_RX4_35) (fun _ h9 => h9) rfl hin rfl (by decide +kernel) rfl rfl (Nat.le_of_ble_eq_true rfl) dX4_init_58 (fun H locs hP hD hS => ?_)
  have hP : va_P D clz ((a, .inr (3, [.ref q1, .ref q2, .ref q3, .int 0, .ref qa, .ref qt, .null, .null])) :: ((((wReef cI q1 r1 ++ wReef cI q2 r2) ++ wReef cI q3 r3) ++ [(qa, .inl (cQ, 4, .inr (.inr (.inr (.inr (fun _ => none))))))]) ++ wTape cI qt rt)) H := hP
  have hD : va_D A ((a, .inr (3, [.ref q1, .ref q2, .ref q3, .int 0, .ref qa, .ref qt, .null, .null])) :: ((((wReef cI q1 r1 ++ wReef cI q2 r2) ++ wReef cI q3 r3) ++ [(qa, .inl (cQ, 4, .inr (.inr (.inr (.inr (fun _ => none))))))]) ++ wTape cI qt rt)) := hD
  refine lv_aload_n hx hb dX4_init_61 rfl (lv_at hl 0 rfl) ?_
  refine lv_bipush (v := 7) hx hb dX4_init_62 (by decide) ?_
  refine nw_I hx hb (hG _ ci_ar_int) hK hP hD hS hA (fun _ => 0) rfl (N' := 7) (by decide) (by decide) (Nat.le_of_ble_eq_true rfl) (show 34 ≤ 43 by decide) (show 389 ≤ 566 by decide) dX4_init_64 (fun qf H hP hD hS => ?_)
  have hP : va_P D clz ((a, .inr (3, [.ref q1, .ref q2, .ref q3, .int 0, .ref qa, .ref qt, .null, .null])) :: (((((wReef cI q1 r1 ++ wReef cI q2 r2) ++ wReef cI q3 r3) ++ [(qa, .inl (cQ, 4, .inr (.inr (.inr (.inr (fun _ => none))))))]) ++ wTape cI qt rt) ++ [(qf, .inl (cI, 7, .inl (fun _ => 0)))])) H := hP
  have hD : va_D A ((a, .inr (3, [.ref q1, .ref q2, .ref q3, .int 0, .ref qa, .ref qt, .null, .null])) :: (((((wReef cI q1 r1 ++ wReef cI q2 r2) ++ wReef cI q3 r3) ++ [(qa, .inl (cQ, 4, .inr (.inr (.inr (.inr (fun _ => none))))))]) ++ wTape cI qt rt) ++ [(qf, .inl (cI, 7, .inl (fun _ => 0)))])) := hD
  refine W.widen (k := 34) (n := 389) (by omega) (by omega) ?_
  refine va_putF (D := D) (ci := 3) (v := .ref qf) (ty := .array .int) (C := RX4) (T := TX4) (N := 8) hx hb hG (uw_ok (c := 3) (by omega)) tyX4 tyX4_ok nmX4 hown hK hP hD hS 0 rfl rfl 6 (by decide) (hG _ ci_f_RX4_39) (fun _ h9 => h9) rfl hin rfl (by decide +kernel) rfl rfl (Nat.le_of_ble_eq_true rfl) dX4_init_66 (fun H locs hP hD hS => ?_)
  have hP : va_P D clz ((a, .inr (3, [.ref q1, .ref q2, .ref q3, .int 0, .ref qa, .ref qt, .ref qf, .null])) :: (((((wReef cI q1 r1 ++ wReef cI q2 r2) ++ wReef cI q3 r3) ++ [(qa, .inl (cQ, 4, .inr (.inr (.inr (.inr (fun _ => none))))))]) ++ wTape cI qt rt) ++ [(qf, .inl (cI, 7, .inl (fun _ => 0)))])) H := hP
  have hD : va_D A ((a, .inr (3, [.ref q1, .ref q2, .ref q3, .int 0, .ref qa, .ref qt, .ref qf, .null])) :: (((((wReef cI q1 r1 ++ wReef cI q2 r2) ++ wReef cI q3 r3) ++ [(qa, .inl (cQ, 4, .inr (.inr (.inr (.inr (fun _ => none))))))]) ++ wTape cI qt rt) ++ [(qf, .inl (cI, 7, .inl (fun _ => 0)))])) := hD
  refine lv_aload_n hx hb dX4_init_69 rfl (lv_at hl 0 rfl) ?_
  refine lv_iconst (v := 5) hx hb dX4_init_70 (by decide) ?_
  refine nw_L hx hb (hG _ ci_ar_long) hK hP hD hS hA (N' := 5) (by decide) (by decide) (Nat.le_of_ble_eq_true rfl) (show 35 ≤ 43 by decide) (show 394 ≤ 566 by decide) dX4_init_71 (fun qw H hP hD hS => ?_)
  have hP : va_P D clz ((a, .inr (3, [.ref q1, .ref q2, .ref q3, .int 0, .ref qa, .ref qt, .ref qf, .null])) :: ((((((wReef cI q1 r1 ++ wReef cI q2 r2) ++ wReef cI q3 r3) ++ [(qa, .inl (cQ, 4, .inr (.inr (.inr (.inr (fun _ => none))))))]) ++ wTape cI qt rt) ++ [(qf, .inl (cI, 7, .inl (fun _ => 0)))]) ++ [(qw, .inl (cL, 5, .inr (.inl (fun _ => 0))))])) H := hP
  have hD : va_D A ((a, .inr (3, [.ref q1, .ref q2, .ref q3, .int 0, .ref qa, .ref qt, .ref qf, .null])) :: ((((((wReef cI q1 r1 ++ wReef cI q2 r2) ++ wReef cI q3 r3) ++ [(qa, .inl (cQ, 4, .inr (.inr (.inr (.inr (fun _ => none))))))]) ++ wTape cI qt rt) ++ [(qf, .inl (cI, 7, .inl (fun _ => 0)))]) ++ [(qw, .inl (cL, 5, .inr (.inl (fun _ => 0))))])) := hD
  refine W.widen (k := 35) (n := 394) (by omega) (by omega) ?_
  refine va_putF (D := D) (ci := 3) (v := .ref qw) (ty := .array .long) (C := RX4) (T := TX4) (N := 8) hx hb hG (uw_ok (c := 3) (by omega)) tyX4 tyX4_ok nmX4 hown hK hP hD hS 0 rfl rfl 7 (by decide) (hG _ ci_f_RX4_43) (fun _ h9 => h9) rfl hin rfl (by decide +kernel) rfl rfl (Nat.le_of_ble_eq_true rfl) dX4_init_73 (fun H locs hP hD hS => ?_)
  have hP : va_P D clz ((a, .inr (3, [.ref q1, .ref q2, .ref q3, .int 0, .ref qa, .ref qt, .ref qf, .ref qw])) :: ((((((wReef cI q1 r1 ++ wReef cI q2 r2) ++ wReef cI q3 r3) ++ [(qa, .inl (cQ, 4, .inr (.inr (.inr (.inr (fun _ => none))))))]) ++ wTape cI qt rt) ++ [(qf, .inl (cI, 7, .inl (fun _ => 0)))]) ++ [(qw, .inl (cL, 5, .inr (.inl (fun _ => 0))))])) H := hP
  have hD : va_D A ((a, .inr (3, [.ref q1, .ref q2, .ref q3, .int 0, .ref qa, .ref qt, .ref qf, .ref qw])) :: ((((((wReef cI q1 r1 ++ wReef cI q2 r2) ++ wReef cI q3 r3) ++ [(qa, .inl (cQ, 4, .inr (.inr (.inr (.inr (fun _ => none))))))]) ++ wTape cI qt rt) ++ [(qf, .inl (cI, 7, .inl (fun _ => 0)))]) ++ [(qw, .inl (cL, 5, .inr (.inl (fun _ => 0))))])) := hD
  refine lv_iconst (v := nI 0) hx hb dX4_init_76 (by decide) ?_
  refine lv_istore_n (lv' := [(1, .int (nI 0)), (0, .ref a)]) hx hb dX4_init_77 rfl hl (by decide) rfl (fun ls hl => ?_)
  refine lv_iload_n hx hb dX4_init_78 rfl (lv_at hl 0 rfl) ?_
  refine lv_iconst (v := nI 4) hx hb dX4_init_79 (by decide) ?_
  refine lv_icmp_ge (tgt := 102) hx hb dX4_init_80 (by decide) (fun z => absurd z (by rw [nn_le (by omega) (by omega)]; omega)) (fun _ => ?_)
  refine lv_aload_n hx hb dX4_init_83 rfl (lv_at hl 1 rfl) ?_
  refine va_get (D := D) (ci := 3) (v := .ref qa) (C := RX4) (T := TX4) (N := 8) hx hb hG (uw_ok (c := 3) (by omega)) hown hK hP 0 rfl rfl 4 (by decide) (hG _ ci_f_RX4_28) (fun _ h9 => h9) rfl dX4_init_84 ?_
  refine lv_iload_n hx hb dX4_init_87 rfl (lv_at hl 0 rfl) ?_
  refine va_new (ci := 1) (fs := [.null, .int 0, .int 0]) (C := RX2) (T := TX2) (N := 3) hx hb hG (uw_ok (c := 1) (by omega)) tyX2 tyX2_ok hown (hG _ ci_cl_RX4_RX2) (hG _ ci_in_RX2) (hG _ ci_n_RX2) hK hP hD hS hA rfl (fun j hj => by rcases (show j = 0 ∨ j = 1 ∨ j = 2 by omega) with rfl | rfl | rfl <;> rfl) (show 36 ≤ 43 by decide) (show 397 ≤ 566 by decide) dX4_init_88 (fun u0 H hP hD hS => ?_)
  have hP : va_P D clz ((a, .inr (3, [.ref q1, .ref q2, .ref q3, .int 0, .ref qa, .ref qt, .ref qf, .ref qw])) :: (((((((wReef cI q1 r1 ++ wReef cI q2 r2) ++ wReef cI q3 r3) ++ [(qa, .inl (cQ, 4, .inr (.inr (.inr (.inr (fun _ => none))))))]) ++ wTape cI qt rt) ++ [(qf, .inl (cI, 7, .inl (fun _ => 0)))]) ++ [(qw, .inl (cL, 5, .inr (.inl (fun _ => 0))))]) ++ [(u0, .inr (1, [.null, .int 0, .int 0]))])) H := hP
  have hD : va_D A ((a, .inr (3, [.ref q1, .ref q2, .ref q3, .int 0, .ref qa, .ref qt, .ref qf, .ref qw])) :: (((((((wReef cI q1 r1 ++ wReef cI q2 r2) ++ wReef cI q3 r3) ++ [(qa, .inl (cQ, 4, .inr (.inr (.inr (.inr (fun _ => none))))))]) ++ wTape cI qt rt) ++ [(qf, .inl (cI, 7, .inl (fun _ => 0)))]) ++ [(qw, .inl (cL, 5, .inr (.inl (fun _ => 0))))]) ++ [(u0, .inr (1, [.null, .int 0, .int 0]))])) := hD
  refine W.widen (k := 36) (n := 397) (by omega) (by omega) ?_
  refine lv_dup hx hb dX4_init_91 rfl ?_
  have hPc := hP.sub (ws' := [(u0, .inr (1, [.null, .int 0, .int 0]))]) [36] rfl
  have hFc := va_free (wc := [(u0, .inr (1, [.null, .int 0, .int 0]))]) hD hS hA [36] rfl
  refine va_callv (va_runIN (As := []) (rest := [.ref u0, .int (nI 0), .ref qa]) ⟨hx, hb, hml, hown, hG⟩ (k_iSheet (sz := H.size)) ⟨va_cnB 0 hG gi_Sheet rfl rfl rfl hE.2.2 (hG _ ci_n_RX2) (by decide +kernel) ⟨Nat.le_of_ble_eq_true rfl, Nat.le_of_ble_eq_true rfl⟩, rfl, hG _ ci_i_RX2⟩ ⟨bl_ctor, fun U hU hW => ⟨rfl, by rw [hU], by rw [hU]; exact hPc, va_K.moved hW.alike hK⟩⟩ rfl rfl hl.1 rfl (lv_room (Nat.le_of_ble_eq_true rfl)) dX4_init_92 ⟨(show 37 ≤ 43 by decide), (show 437 ≤ 566 by decide)⟩) hS (fun q _ h => hFc q h) hFc (fun v0 t H locs ht hvm _ hB hz1 hk1 hS => ?_)
  obtain ⟨hP1, hD1⟩ := hB
  rw [ht] at hP1
  obtain ⟨hP, hD⟩ := va_join (wr := ((a, .inr (3, [.ref q1, .ref q2, .ref q3, .int 0, .ref qa, .ref qt, .ref qf, .ref qw])) :: ((((((wReef cI q1 r1 ++ wReef cI q2 r2) ++ wReef cI q3 r3) ++ [(qa, .inl (cQ, 4, .inr (.inr (.inr (.inr (fun _ => none))))))]) ++ wTape cI qt rt) ++ [(qf, .inl (cI, 7, .inl (fun _ => 0)))]) ++ [(qw, .inl (cL, 5, .inr (.inl (fun _ => 0))))]))) (w1 := wSheet cI u0 v0) hP hD [36] [0, 1, 2, 3, 4, 5, 6, 7, 8, 9, 10, 11, 12, 13, 14, 15, 16, 17, 18, 19, 20, 21, 22, 23, 24, 25, 26, 27, 28, 29, 30, 31, 32, 33, 34, 35] rfl rfl (by decide) (by decide) hk1 hFc hP1 hD1
  have hP : va_P D clz ((a, .inr (3, [.ref q1, .ref q2, .ref q3, .int 0, .ref qa, .ref qt, .ref qf, .ref qw])) :: (((((((wReef cI q1 r1 ++ wReef cI q2 r2) ++ wReef cI q3 r3) ++ [(qa, .inl (cQ, 4, .inr (.inr (.inr (.inr (fun _ => none))))))]) ++ wTape cI qt rt) ++ [(qf, .inl (cI, 7, .inl (fun _ => 0)))]) ++ [(qw, .inl (cL, 5, .inr (.inl (fun _ => 0))))]) ++ wSheet cI u0 v0)) H := hP
  have hD : va_D A ((a, .inr (3, [.ref q1, .ref q2, .ref q3, .int 0, .ref qa, .ref qt, .ref qf, .ref qw])) :: (((((((wReef cI q1 r1 ++ wReef cI q2 r2) ++ wReef cI q3 r3) ++ [(qa, .inl (cQ, 4, .inr (.inr (.inr (.inr (fun _ => none))))))]) ++ wTape cI qt rt) ++ [(qf, .inl (cI, 7, .inl (fun _ => 0)))]) ++ [(qw, .inl (cL, 5, .inr (.inl (fun _ => 0))))]) ++ wSheet cI u0 v0)) := hD
  refine W.widen (k := 37) (n := 437) (by omega) (by omega) ?_
  refine va_astq hx hb hK hP hD hS 31 2 36 1 (r := (RX2, TX2, 3)) rfl rfl rfl rfl (vp_in_nI (show 0 < 4 by omega) (by omega)) dX4_init_95 (fun H locs hP hD hS => ?_)
  rw [nI_clamp (by omega)] at hP hD
  have hP : va_P D clz ((a, .inr (3, [.ref q1, .ref q2, .ref q3, .int 0, .ref qa, .ref qt, .ref qf, .ref qw])) :: (((((((wReef cI q1 r1 ++ wReef cI q2 r2) ++ wReef cI q3 r3) ++ [(qa, .inl (cQ, 4, .inr (.inr (.inr (.inr (va_up (fun _ => none) 0 (some u0)))))))]) ++ wTape cI qt rt) ++ [(qf, .inl (cI, 7, .inl (fun _ => 0)))]) ++ [(qw, .inl (cL, 5, .inr (.inl (fun _ => 0))))]) ++ wSheet cI u0 v0)) H := hP
  have hD : va_D A ((a, .inr (3, [.ref q1, .ref q2, .ref q3, .int 0, .ref qa, .ref qt, .ref qf, .ref qw])) :: (((((((wReef cI q1 r1 ++ wReef cI q2 r2) ++ wReef cI q3 r3) ++ [(qa, .inl (cQ, 4, .inr (.inr (.inr (.inr (va_up (fun _ => none) 0 (some u0)))))))]) ++ wTape cI qt rt) ++ [(qf, .inl (cI, 7, .inl (fun _ => 0)))]) ++ [(qw, .inl (cL, 5, .inr (.inl (fun _ => 0))))]) ++ wSheet cI u0 v0)) := hD
  refine lv_iinc (v := nI 1) (lv' := [(1, .int (nI 1)), (0, .ref a)]) hx hb dX4_init_96 hl (k := 0) rfl (nI_1 0) (by decide) rfl (fun ls hl => ?_)
  refine lv_goto (tgt := 78) hx hb dX4_init_99 (by decide) ?_
  refine lv_iload_n hx hb dX4_init_78 rfl (lv_at hl 0 rfl) ?_
  refine lv_iconst (v := nI 4) hx hb dX4_init_79 (by decide) ?_
  refine lv_icmp_ge (tgt := 102) hx hb dX4_init_80 (by decide) (fun z => absurd z (by rw [nn_le (by omega) (by omega)]; omega)) (fun _ => ?_)
  refine lv_aload_n hx hb dX4_init_83 rfl (lv_at hl 1 rfl) ?_
  refine va_get (D := D) (ci := 3) (v := .ref qa) (C := RX4) (T := TX4) (N := 8) hx hb hG (uw_ok (c := 3) (by omega)) hown hK hP 0 rfl rfl 4 (by decide) (hG _ ci_f_RX4_28) (fun _ h9 => h9) rfl dX4_init_84 ?_
  refine lv_iload_n hx hb dX4_init_87 rfl (lv_at hl 0 rfl) ?_
  refine va_new (ci := 1) (fs := [.null, .int 0, .int 0]) (C := RX2) (T := TX2) (N := 3) hx hb hG (uw_ok (c := 1) (by omega)) tyX2 tyX2_ok hown (hG _ ci_cl_RX4_RX2) (hG _ ci_in_RX2) (hG _ ci_n_RX2) hK hP hD hS hA rfl (fun j hj => by rcases (show j = 0 ∨ j = 1 ∨ j = 2 by omega) with rfl | rfl | rfl <;> rfl) (show 38 ≤ 43 by decide) (show 440 ≤ 566 by decide) dX4_init_88 (fun u1 H hP hD hS => ?_)
  have hP : va_P D clz ((a, .inr (3, [.ref q1, .ref q2, .ref q3, .int 0, .ref qa, .ref qt, .ref qf, .ref qw])) :: ((((((((wReef cI q1 r1 ++ wReef cI q2 r2) ++ wReef cI q3 r3) ++ [(qa, .inl (cQ, 4, .inr (.inr (.inr (.inr (va_up (fun _ => none) 0 (some u0)))))))]) ++ wTape cI qt rt) ++ [(qf, .inl (cI, 7, .inl (fun _ => 0)))]) ++ [(qw, .inl (cL, 5, .inr (.inl (fun _ => 0))))]) ++ wSheet cI u0 v0) ++ [(u1, .inr (1, [.null, .int 0, .int 0]))])) H := hP
  have hD : va_D A ((a, .inr (3, [.ref q1, .ref q2, .ref q3, .int 0, .ref qa, .ref qt, .ref qf, .ref qw])) :: ((((((((wReef cI q1 r1 ++ wReef cI q2 r2) ++ wReef cI q3 r3) ++ [(qa, .inl (cQ, 4, .inr (.inr (.inr (.inr (va_up (fun _ => none) 0 (some u0)))))))]) ++ wTape cI qt rt) ++ [(qf, .inl (cI, 7, .inl (fun _ => 0)))]) ++ [(qw, .inl (cL, 5, .inr (.inl (fun _ => 0))))]) ++ wSheet cI u0 v0) ++ [(u1, .inr (1, [.null, .int 0, .int 0]))])) := hD
  refine W.widen (k := 38) (n := 440) (by omega) (by omega) ?_
  refine lv_dup hx hb dX4_init_91 rfl ?_
  have hPc := hP.sub (ws' := [(u1, .inr (1, [.null, .int 0, .int 0]))]) [38] rfl
  have hFc := va_free (wc := [(u1, .inr (1, [.null, .int 0, .int 0]))]) hD hS hA [38] rfl
  refine va_callv (va_runIN (As := []) (rest := [.ref u1, .int (nI 1), .ref qa]) ⟨hx, hb, hml, hown, hG⟩ (k_iSheet (sz := H.size)) ⟨va_cnB 0 hG gi_Sheet rfl rfl rfl hE.2.2 (hG _ ci_n_RX2) (by decide +kernel) ⟨Nat.le_of_ble_eq_true rfl, Nat.le_of_ble_eq_true rfl⟩, rfl, hG _ ci_i_RX2⟩ ⟨bl_ctor, fun U hU hW => ⟨rfl, by rw [hU], by rw [hU]; exact hPc, va_K.moved hW.alike hK⟩⟩ rfl rfl hl.1 rfl (lv_room (Nat.le_of_ble_eq_true rfl)) dX4_init_92 ⟨(show 39 ≤ 43 by decide), (show 480 ≤ 566 by decide)⟩) hS (fun q _ h => hFc q h) hFc (fun v1 t H locs ht hvm _ hB hz1 hk1 hS => ?_)
  obtain ⟨hP1, hD1⟩ := hB
  rw [ht] at hP1
  obtain ⟨hP, hD⟩ := va_join (wr := ((a, .inr (3, [.ref q1, .ref q2, .ref q3, .int 0, .ref qa, .ref qt, .ref qf, .ref qw])) :: (((((((wReef cI q1 r1 ++ wReef cI q2 r2) ++ wReef cI q3 r3) ++ [(qa, .inl (cQ, 4, .inr (.inr (.inr (.inr (va_up (fun _ => none) 0 (some u0)))))))]) ++ wTape cI qt rt) ++ [(qf, .inl (cI, 7, .inl (fun _ => 0)))]) ++ [(qw, .inl (cL, 5, .inr (.inl (fun _ => 0))))]) ++ wSheet cI u0 v0))) (w1 := wSheet cI u1 v1) hP hD [38] [0, 1, 2, 3, 4, 5, 6, 7, 8, 9, 10, 11, 12, 13, 14, 15, 16, 17, 18, 19, 20, 21, 22, 23, 24, 25, 26, 27, 28, 29, 30, 31, 32, 33, 34, 35, 36, 37] rfl rfl (by decide) (by decide) hk1 hFc hP1 hD1
  have hP : va_P D clz ((a, .inr (3, [.ref q1, .ref q2, .ref q3, .int 0, .ref qa, .ref qt, .ref qf, .ref qw])) :: ((((((((wReef cI q1 r1 ++ wReef cI q2 r2) ++ wReef cI q3 r3) ++ [(qa, .inl (cQ, 4, .inr (.inr (.inr (.inr (va_up (fun _ => none) 0 (some u0)))))))]) ++ wTape cI qt rt) ++ [(qf, .inl (cI, 7, .inl (fun _ => 0)))]) ++ [(qw, .inl (cL, 5, .inr (.inl (fun _ => 0))))]) ++ wSheet cI u0 v0) ++ wSheet cI u1 v1)) H := hP
  have hD : va_D A ((a, .inr (3, [.ref q1, .ref q2, .ref q3, .int 0, .ref qa, .ref qt, .ref qf, .ref qw])) :: ((((((((wReef cI q1 r1 ++ wReef cI q2 r2) ++ wReef cI q3 r3) ++ [(qa, .inl (cQ, 4, .inr (.inr (.inr (.inr (va_up (fun _ => none) 0 (some u0)))))))]) ++ wTape cI qt rt) ++ [(qf, .inl (cI, 7, .inl (fun _ => 0)))]) ++ [(qw, .inl (cL, 5, .inr (.inl (fun _ => 0))))]) ++ wSheet cI u0 v0) ++ wSheet cI u1 v1)) := hD
  refine W.widen (k := 39) (n := 480) (by omega) (by omega) ?_
  refine va_astq hx hb hK hP hD hS 31 2 38 1 (r := (RX2, TX2, 3)) rfl rfl rfl rfl (vp_in_nI (show 1 < 4 by omega) (by omega)) dX4_init_95 (fun H locs hP hD hS => ?_)
  rw [nI_clamp (by omega)] at hP hD
  have hP : va_P D clz ((a, .inr (3, [.ref q1, .ref q2, .ref q3, .int 0, .ref qa, .ref qt, .ref qf, .ref qw])) :: ((((((((wReef cI q1 r1 ++ wReef cI q2 r2) ++ wReef cI q3 r3) ++ [(qa, .inl (cQ, 4, .inr (.inr (.inr (.inr (va_up (va_up (fun _ => none) 0 (some u0)) 1 (some u1)))))))]) ++ wTape cI qt rt) ++ [(qf, .inl (cI, 7, .inl (fun _ => 0)))]) ++ [(qw, .inl (cL, 5, .inr (.inl (fun _ => 0))))]) ++ wSheet cI u0 v0) ++ wSheet cI u1 v1)) H := hP
  have hD : va_D A ((a, .inr (3, [.ref q1, .ref q2, .ref q3, .int 0, .ref qa, .ref qt, .ref qf, .ref qw])) :: ((((((((wReef cI q1 r1 ++ wReef cI q2 r2) ++ wReef cI q3 r3) ++ [(qa, .inl (cQ, 4, .inr (.inr (.inr (.inr (va_up (va_up (fun _ => none) 0 (some u0)) 1 (some u1)))))))]) ++ wTape cI qt rt) ++ [(qf, .inl (cI, 7, .inl (fun _ => 0)))]) ++ [(qw, .inl (cL, 5, .inr (.inl (fun _ => 0))))]) ++ wSheet cI u0 v0) ++ wSheet cI u1 v1)) := hD
  refine lv_iinc (v := nI 2) (lv' := [(1, .int (nI 2)), (0, .ref a)]) hx hb dX4_init_96 hl (k := 0) rfl (nI_1 1) (by decide) rfl (fun ls hl => ?_)
  refine lv_goto (tgt := 78) hx hb dX4_init_99 (by decide) ?_
  refine lv_iload_n hx hb dX4_init_78 rfl (lv_at hl 0 rfl) ?_
  refine lv_iconst (v := nI 4) hx hb dX4_init_79 (by decide) ?_
  refine lv_icmp_ge (tgt := 102) hx hb dX4_init_80 (by decide) (fun z => absurd z (by rw [nn_le (by omega) (by omega)]; omega)) (fun _ => ?_)
  refine lv_aload_n hx hb dX4_init_83 rfl (lv_at hl 1 rfl) ?_
  refine va_get (D := D) (ci := 3) (v := .ref qa) (C := RX4) (T := TX4) (N := 8) hx hb hG (uw_ok (c := 3) (by omega)) hown hK hP 0 rfl rfl 4 (by decide) (hG _ ci_f_RX4_28) (fun _ h9 => h9) rfl dX4_init_84 ?_
  refine lv_iload_n hx hb dX4_init_87 rfl (lv_at hl 0 rfl) ?_
  refine va_new (ci := 1) (fs := [.null, .int 0, .int 0]) (C := RX2) (T := TX2) (N := 3) hx hb hG (uw_ok (c := 1) (by omega)) tyX2 tyX2_ok hown (hG _ ci_cl_RX4_RX2) (hG _ ci_in_RX2) (hG _ ci_n_RX2) hK hP hD hS hA rfl (fun j hj => by rcases (show j = 0 ∨ j = 1 ∨ j = 2 by omega) with rfl | rfl | rfl <;> rfl) (show 40 ≤ 43 by decide) (show 483 ≤ 566 by decide) dX4_init_88 (fun u2 H hP hD hS => ?_)
  have hP : va_P D clz ((a, .inr (3, [.ref q1, .ref q2, .ref q3, .int 0, .ref qa, .ref qt, .ref qf, .ref qw])) :: (((((((((wReef cI q1 r1 ++ wReef cI q2 r2) ++ wReef cI q3 r3) ++ [(qa, .inl (cQ, 4, .inr (.inr (.inr (.inr (va_up (va_up (fun _ => none) 0 (some u0)) 1 (some u1)))))))]) ++ wTape cI qt rt) ++ [(qf, .inl (cI, 7, .inl (fun _ => 0)))]) ++ [(qw, .inl (cL, 5, .inr (.inl (fun _ => 0))))]) ++ wSheet cI u0 v0) ++ wSheet cI u1 v1) ++ [(u2, .inr (1, [.null, .int 0, .int 0]))])) H := hP
  have hD : va_D A ((a, .inr (3, [.ref q1, .ref q2, .ref q3, .int 0, .ref qa, .ref qt, .ref qf, .ref qw])) :: (((((((((wReef cI q1 r1 ++ wReef cI q2 r2) ++ wReef cI q3 r3) ++ [(qa, .inl (cQ, 4, .inr (.inr (.inr (.inr (va_up (va_up (fun _ => none) 0 (some u0)) 1 (some u1)))))))]) ++ wTape cI qt rt) ++ [(qf, .inl (cI, 7, .inl (fun _ => 0)))]) ++ [(qw, .inl (cL, 5, .inr (.inl (fun _ => 0))))]) ++ wSheet cI u0 v0) ++ wSheet cI u1 v1) ++ [(u2, .inr (1, [.null, .int 0, .int 0]))])) := hD
  refine W.widen (k := 40) (n := 483) (by omega) (by omega) ?_
  refine lv_dup hx hb dX4_init_91 rfl ?_
  have hPc := hP.sub (ws' := [(u2, .inr (1, [.null, .int 0, .int 0]))]) [40] rfl
  have hFc := va_free (wc := [(u2, .inr (1, [.null, .int 0, .int 0]))]) hD hS hA [40] rfl
  refine va_callv (va_runIN (As := []) (rest := [.ref u2, .int (nI 2), .ref qa]) ⟨hx, hb, hml, hown, hG⟩ (k_iSheet (sz := H.size)) ⟨va_cnB 0 hG gi_Sheet rfl rfl rfl hE.2.2 (hG _ ci_n_RX2) (by decide +kernel) ⟨Nat.le_of_ble_eq_true rfl, Nat.le_of_ble_eq_true rfl⟩, rfl, hG _ ci_i_RX2⟩ ⟨bl_ctor, fun U hU hW => ⟨rfl, by rw [hU], by rw [hU]; exact hPc, va_K.moved hW.alike hK⟩⟩ rfl rfl hl.1 rfl (lv_room (Nat.le_of_ble_eq_true rfl)) dX4_init_92 ⟨(show 41 ≤ 43 by decide), (show 523 ≤ 566 by decide)⟩) hS (fun q _ h => hFc q h) hFc (fun v2 t H locs ht hvm _ hB hz1 hk1 hS => ?_)
  obtain ⟨hP1, hD1⟩ := hB
  rw [ht] at hP1
  obtain ⟨hP, hD⟩ := va_join (wr := ((a, .inr (3, [.ref q1, .ref q2, .ref q3, .int 0, .ref qa, .ref qt, .ref qf, .ref qw])) :: ((((((((wReef cI q1 r1 ++ wReef cI q2 r2) ++ wReef cI q3 r3) ++ [(qa, .inl (cQ, 4, .inr (.inr (.inr (.inr (va_up (va_up (fun _ => none) 0 (some u0)) 1 (some u1)))))))]) ++ wTape cI qt rt) ++ [(qf, .inl (cI, 7, .inl (fun _ => 0)))]) ++ [(qw, .inl (cL, 5, .inr (.inl (fun _ => 0))))]) ++ wSheet cI u0 v0) ++ wSheet cI u1 v1))) (w1 := wSheet cI u2 v2) hP hD [40] [0, 1, 2, 3, 4, 5, 6, 7, 8, 9, 10, 11, 12, 13, 14, 15, 16, 17, 18, 19, 20, 21, 22, 23, 24, 25, 26, 27, 28, 29, 30, 31, 32, 33, 34, 35, 36, 37, 38, 39] rfl rfl (by decide) (by decide) hk1 hFc hP1 hD1
  have hP : va_P D clz ((a, .inr (3, [.ref q1, .ref q2, .ref q3, .int 0, .ref qa, .ref qt, .ref qf, .ref qw])) :: (((((((((wReef cI q1 r1 ++ wReef cI q2 r2) ++ wReef cI q3 r3) ++ [(qa, .inl (cQ, 4, .inr (.inr (.inr (.inr (va_up (va_up (fun _ => none) 0 (some u0)) 1 (some u1)))))))]) ++ wTape cI qt rt) ++ [(qf, .inl (cI, 7, .inl (fun _ => 0)))]) ++ [(qw, .inl (cL, 5, .inr (.inl (fun _ => 0))))]) ++ wSheet cI u0 v0) ++ wSheet cI u1 v1) ++ wSheet cI u2 v2)) H := hP
  have hD : va_D A ((a, .inr (3, [.ref q1, .ref q2, .ref q3, .int 0, .ref qa, .ref qt, .ref qf, .ref qw])) :: (((((((((wReef cI q1 r1 ++ wReef cI q2 r2) ++ wReef cI q3 r3) ++ [(qa, .inl (cQ, 4, .inr (.inr (.inr (.inr (va_up (va_up (fun _ => none) 0 (some u0)) 1 (some u1)))))))]) ++ wTape cI qt rt) ++ [(qf, .inl (cI, 7, .inl (fun _ => 0)))]) ++ [(qw, .inl (cL, 5, .inr (.inl (fun _ => 0))))]) ++ wSheet cI u0 v0) ++ wSheet cI u1 v1) ++ wSheet cI u2 v2)) := hD
  refine W.widen (k := 41) (n := 523) (by omega) (by omega) ?_
  refine va_astq hx hb hK hP hD hS 31 2 40 1 (r := (RX2, TX2, 3)) rfl rfl rfl rfl (vp_in_nI (show 2 < 4 by omega) (by omega)) dX4_init_95 (fun H locs hP hD hS => ?_)
  rw [nI_clamp (by omega)] at hP hD
  have hP : va_P D clz ((a, .inr (3, [.ref q1, .ref q2, .ref q3, .int 0, .ref qa, .ref qt, .ref qf, .ref qw])) :: (((((((((wReef cI q1 r1 ++ wReef cI q2 r2) ++ wReef cI q3 r3) ++ [(qa, .inl (cQ, 4, .inr (.inr (.inr (.inr (va_up (va_up (va_up (fun _ => none) 0 (some u0)) 1 (some u1)) 2 (some u2)))))))]) ++ wTape cI qt rt) ++ [(qf, .inl (cI, 7, .inl (fun _ => 0)))]) ++ [(qw, .inl (cL, 5, .inr (.inl (fun _ => 0))))]) ++ wSheet cI u0 v0) ++ wSheet cI u1 v1) ++ wSheet cI u2 v2)) H := hP
  have hD : va_D A ((a, .inr (3, [.ref q1, .ref q2, .ref q3, .int 0, .ref qa, .ref qt, .ref qf, .ref qw])) :: (((((((((wReef cI q1 r1 ++ wReef cI q2 r2) ++ wReef cI q3 r3) ++ [(qa, .inl (cQ, 4, .inr (.inr (.inr (.inr (va_up (va_up (va_up (fun _ => none) 0 (some u0)) 1 (some u1)) 2 (some u2)))))))]) ++ wTape cI qt rt) ++ [(qf, .inl (cI, 7, .inl (fun _ => 0)))]) ++ [(qw, .inl (cL, 5, .inr (.inl (fun _ => 0))))]) ++ wSheet cI u0 v0) ++ wSheet cI u1 v1) ++ wSheet cI u2 v2)) := hD
  refine lv_iinc (v := nI 3) (lv' := [(1, .int (nI 3)), (0, .ref a)]) hx hb dX4_init_96 hl (k := 0) rfl (nI_1 2) (by decide) rfl (fun ls hl => ?_)
  refine lv_goto (tgt := 78) hx hb dX4_init_99 (by decide) ?_
  refine lv_iload_n hx hb dX4_init_78 rfl (lv_at hl 0 rfl) ?_
  refine lv_iconst (v := nI 4) hx hb dX4_init_79 (by decide) ?_
  refine lv_icmp_ge (tgt := 102) hx hb dX4_init_80 (by decide) (fun z => absurd z (by rw [nn_le (by omega) (by omega)]; omega)) (fun _ => ?_)
  refine lv_aload_n hx hb dX4_init_83 rfl (lv_at hl 1 rfl) ?_
  refine va_get (D := D) (ci := 3) (v := .ref qa) (C := RX4) (T := TX4) (N := 8) hx hb hG (uw_ok (c := 3) (by omega)) hown hK hP 0 rfl rfl 4 (by decide) (hG _ ci_f_RX4_28) (fun _ h9 => h9) rfl dX4_init_84 ?_
  refine lv_iload_n hx hb dX4_init_87 rfl (lv_at hl 0 rfl) ?_
  refine va_new (ci := 1) (fs := [.null, .int 0, .int 0]) (C := RX2) (T := TX2) (N := 3) hx hb hG (uw_ok (c := 1) (by omega)) tyX2 tyX2_ok hown (hG _ ci_cl_RX4_RX2) (hG _ ci_in_RX2) (hG _ ci_n_RX2) hK hP hD hS hA rfl (fun j hj => by rcases (show j = 0 ∨ j = 1 ∨ j = 2 by omega) with rfl | rfl | rfl <;> rfl) (show 42 ≤ 43 by decide) (show 526 ≤ 566 by decide) dX4_init_88 (fun u3 H hP hD hS => ?_)
  have hP : va_P D clz ((a, .inr (3, [.ref q1, .ref q2, .ref q3, .int 0, .ref qa, .ref qt, .ref qf, .ref qw])) :: ((((((((((wReef cI q1 r1 ++ wReef cI q2 r2) ++ wReef cI q3 r3) ++ [(qa, .inl (cQ, 4, .inr (.inr (.inr (.inr (va_up (va_up (va_up (fun _ => none) 0 (some u0)) 1 (some u1)) 2 (some u2)))))))]) ++ wTape cI qt rt) ++ [(qf, .inl (cI, 7, .inl (fun _ => 0)))]) ++ [(qw, .inl (cL, 5, .inr (.inl (fun _ => 0))))]) ++ wSheet cI u0 v0) ++ wSheet cI u1 v1) ++ wSheet cI u2 v2) ++ [(u3, .inr (1, [.null, .int 0, .int 0]))])) H := hP
  have hD : va_D A ((a, .inr (3, [.ref q1, .ref q2, .ref q3, .int 0, .ref qa, .ref qt, .ref qf, .ref qw])) :: ((((((((((wReef cI q1 r1 ++ wReef cI q2 r2) ++ wReef cI q3 r3) ++ [(qa, .inl (cQ, 4, .inr (.inr (.inr (.inr (va_up (va_up (va_up (fun _ => none) 0 (some u0)) 1 (some u1)) 2 (some u2)))))))]) ++ wTape cI qt rt) ++ [(qf, .inl (cI, 7, .inl (fun _ => 0)))]) ++ [(qw, .inl (cL, 5, .inr (.inl (fun _ => 0))))]) ++ wSheet cI u0 v0) ++ wSheet cI u1 v1) ++ wSheet cI u2 v2) ++ [(u3, .inr (1, [.null, .int 0, .int 0]))])) := hD
  refine W.widen (k := 42) (n := 526) (by omega) (by omega) ?_
  refine lv_dup hx hb dX4_init_91 rfl ?_
  have hPc := hP.sub (ws' := [(u3, .inr (1, [.null, .int 0, .int 0]))]) [42] rfl
  have hFc := va_free (wc := [(u3, .inr (1, [.null, .int 0, .int 0]))]) hD hS hA [42] rfl
  refine va_callv (va_runIN (As := []) (rest := [.ref u3, .int (nI 3), .ref qa]) ⟨hx, hb, hml, hown, hG⟩ (k_iSheet (sz := H.size)) ⟨va_cnB 0 hG gi_Sheet rfl rfl rfl hE.2.2 (hG _ ci_n_RX2) (by decide +kernel) ⟨Nat.le_of_ble_eq_true rfl, Nat.le_of_ble_eq_true rfl⟩, rfl, hG _ ci_i_RX2⟩ ⟨bl_ctor, fun U hU hW => ⟨rfl, by rw [hU], by rw [hU]; exact hPc, va_K.moved hW.alike hK⟩⟩ rfl rfl hl.1 rfl (lv_room (Nat.le_of_ble_eq_true rfl)) dX4_init_92 ⟨(show 43 ≤ 43 by decide), (show 566 ≤ 566 by decide)⟩) hS (fun q _ h => hFc q h) hFc (fun v3 t H locs ht hvm _ hB hz1 hk1 hS => ?_)
  obtain ⟨hP1, hD1⟩ := hB
  rw [ht] at hP1
  obtain ⟨hP, hD⟩ := va_join (wr := ((a, .inr (3, [.ref q1, .ref q2, .ref q3, .int 0, .ref qa, .ref qt, .ref qf, .ref qw])) :: (((((((((wReef cI q1 r1 ++ wReef cI q2 r2) ++ wReef cI q3 r3) ++ [(qa, .inl (cQ, 4, .inr (.inr (.inr (.inr (va_up (va_up (va_up (fun _ => none) 0 (some u0)) 1 (some u1)) 2 (some u2)))))))]) ++ wTape cI qt rt) ++ [(qf, .inl (cI, 7, .inl (fun _ => 0)))]) ++ [(qw, .inl (cL, 5, .inr (.inl (fun _ => 0))))]) ++ wSheet cI u0 v0) ++ wSheet cI u1 v1) ++ wSheet cI u2 v2))) (w1 := wSheet cI u3 v3) hP hD [42] [0, 1, 2, 3, 4, 5, 6, 7, 8, 9, 10, 11, 12, 13, 14, 15, 16, 17, 18, 19, 20, 21, 22, 23, 24, 25, 26, 27, 28, 29, 30, 31, 32, 33, 34, 35, 36, 37, 38, 39, 40, 41] rfl rfl (by decide) (by decide) hk1 hFc hP1 hD1
  have hP : va_P D clz ((a, .inr (3, [.ref q1, .ref q2, .ref q3, .int 0, .ref qa, .ref qt, .ref qf, .ref qw])) :: ((((((((((wReef cI q1 r1 ++ wReef cI q2 r2) ++ wReef cI q3 r3) ++ [(qa, .inl (cQ, 4, .inr (.inr (.inr (.inr (va_up (va_up (va_up (fun _ => none) 0 (some u0)) 1 (some u1)) 2 (some u2)))))))]) ++ wTape cI qt rt) ++ [(qf, .inl (cI, 7, .inl (fun _ => 0)))]) ++ [(qw, .inl (cL, 5, .inr (.inl (fun _ => 0))))]) ++ wSheet cI u0 v0) ++ wSheet cI u1 v1) ++ wSheet cI u2 v2) ++ wSheet cI u3 v3)) H := hP
  have hD : va_D A ((a, .inr (3, [.ref q1, .ref q2, .ref q3, .int 0, .ref qa, .ref qt, .ref qf, .ref qw])) :: ((((((((((wReef cI q1 r1 ++ wReef cI q2 r2) ++ wReef cI q3 r3) ++ [(qa, .inl (cQ, 4, .inr (.inr (.inr (.inr (va_up (va_up (va_up (fun _ => none) 0 (some u0)) 1 (some u1)) 2 (some u2)))))))]) ++ wTape cI qt rt) ++ [(qf, .inl (cI, 7, .inl (fun _ => 0)))]) ++ [(qw, .inl (cL, 5, .inr (.inl (fun _ => 0))))]) ++ wSheet cI u0 v0) ++ wSheet cI u1 v1) ++ wSheet cI u2 v2) ++ wSheet cI u3 v3)) := hD
  refine W.widen (k := 43) (n := 566) (by omega) (by omega) ?_
  refine va_astq hx hb hK hP hD hS 31 2 42 1 (r := (RX2, TX2, 3)) rfl rfl rfl rfl (vp_in_nI (show 3 < 4 by omega) (by omega)) dX4_init_95 (fun H locs hP hD hS => ?_)
  rw [nI_clamp (by omega)] at hP hD
  have hP : va_P D clz ((a, .inr (3, [.ref q1, .ref q2, .ref q3, .int 0, .ref qa, .ref qt, .ref qf, .ref qw])) :: ((((((((((wReef cI q1 r1 ++ wReef cI q2 r2) ++ wReef cI q3 r3) ++ [(qa, .inl (cQ, 4, .inr (.inr (.inr (.inr (va_up (va_up (va_up (va_up (fun _ => none) 0 (some u0)) 1 (some u1)) 2 (some u2)) 3 (some u3)))))))]) ++ wTape cI qt rt) ++ [(qf, .inl (cI, 7, .inl (fun _ => 0)))]) ++ [(qw, .inl (cL, 5, .inr (.inl (fun _ => 0))))]) ++ wSheet cI u0 v0) ++ wSheet cI u1 v1) ++ wSheet cI u2 v2) ++ wSheet cI u3 v3)) H := hP
  have hD : va_D A ((a, .inr (3, [.ref q1, .ref q2, .ref q3, .int 0, .ref qa, .ref qt, .ref qf, .ref qw])) :: ((((((((((wReef cI q1 r1 ++ wReef cI q2 r2) ++ wReef cI q3 r3) ++ [(qa, .inl (cQ, 4, .inr (.inr (.inr (.inr (va_up (va_up (va_up (va_up (fun _ => none) 0 (some u0)) 1 (some u1)) 2 (some u2)) 3 (some u3)))))))]) ++ wTape cI qt rt) ++ [(qf, .inl (cI, 7, .inl (fun _ => 0)))]) ++ [(qw, .inl (cL, 5, .inr (.inl (fun _ => 0))))]) ++ wSheet cI u0 v0) ++ wSheet cI u1 v1) ++ wSheet cI u2 v2) ++ wSheet cI u3 v3)) := hD
  refine lv_iinc (v := nI 4) (lv' := [(1, .int (nI 4)), (0, .ref a)]) hx hb dX4_init_96 hl (k := 0) rfl (nI_1 3) (by decide) rfl (fun ls hl => ?_)
  refine lv_goto (tgt := 78) hx hb dX4_init_99 (by decide) ?_
  refine lv_iload_n hx hb dX4_init_78 rfl (lv_at hl 0 rfl) ?_
  refine lv_iconst (v := nI 4) hx hb dX4_init_79 (by decide) ?_
  refine lv_icmp_ge (tgt := 102) hx hb dX4_init_80 (by decide) (fun _ => ?_) (fun z => absurd (Int32.le_refl _) z)
  obtain ⟨L, hL⟩ : ∃ L : List Nat, L = [a, q1, r1 1, r1 2, r1 3, r1 4, r1 5, r1 6, r1 7, r1 8, r1 9, q2, r2 1, r2 2, r2 3, r2 4, r2 5, r2 6, r2 7, r2 8, r2 9, q3, r3 1, r3 2, r3 3, r3 4, r3 5, r3 6, r3 7, r3 8, r3 9, qa, u0, v0 1, u1, v1 1, u2, v2 1, u3, v3 1, qt, rt 1, qf, qw] := ⟨_, rfl⟩
  have hP := va_P_cellQ (b := 31) (a := qa) (n := 4) (cA := cQ) (f := (va_up (va_up (va_up (va_up (fun _ => none) 0 (some u0)) 1 (some u1)) 2 (some u2)) 3 (some u3))) (g := fun j => some (lst44 L (32 + 2 * j))) (ws := ((a, .inr (3, [.ref q1, .ref q2, .ref q3, .int 0, .ref qa, .ref qt, .ref qf, .ref qw])) :: ((((((((((wReef cI q1 r1 ++ wReef cI q2 r2) ++ wReef cI q3 r3) ++ [(qa, .inl (cQ, 4, .inr (.inr (.inr (.inr (va_up (va_up (va_up (va_up (fun _ => none) 0 (some u0)) 1 (some u1)) 2 (some u2)) 3 (some u3)))))))]) ++ wTape cI qt rt) ++ [(qf, .inl (cI, 7, .inl (fun _ => 0)))]) ++ [(qw, .inl (cL, 5, .inr (.inl (fun _ => 0))))]) ++ wSheet cI u0 v0) ++ wSheet cI u1 v1) ++ wSheet cI u2 v2) ++ wSheet cI u3 v3))) hP (Nat.le_of_ble_eq_true rfl) (by subst hL; intro j hj; rcases (show j = 0 ∨ j = 1 ∨ j = 2 ∨ j = 3 by omega) with rfl | rfl | rfl | rfl <;> rfl)
  have hD : va_D A (List.set ((a, .inr (3, [.ref q1, .ref q2, .ref q3, .int 0, .ref qa, .ref qt, .ref qf, .ref qw])) :: ((((((((((wReef cI q1 r1 ++ wReef cI q2 r2) ++ wReef cI q3 r3) ++ [(qa, .inl (cQ, 4, .inr (.inr (.inr (.inr (va_up (va_up (va_up (va_up (fun _ => none) 0 (some u0)) 1 (some u1)) 2 (some u2)) 3 (some u3)))))))]) ++ wTape cI qt rt) ++ [(qf, .inl (cI, 7, .inl (fun _ => 0)))]) ++ [(qw, .inl (cL, 5, .inr (.inl (fun _ => 0))))]) ++ wSheet cI u0 v0) ++ wSheet cI u1 v1) ++ wSheet cI u2 v2) ++ wSheet cI u3 v3)) 31 (qa, .inl (cQ, 4, .inr (.inr (.inr (.inr (fun j => some (lst44 L (32 + 2 * j)))))))) ) := hD.set (show (((a, .inr (3, [.ref q1, .ref q2, .ref q3, .int 0, .ref qa, .ref qt, .ref qf, .ref qw])) :: ((((((((((wReef cI q1 r1 ++ wReef cI q2 r2) ++ wReef cI q3 r3) ++ [(qa, .inl (cQ, 4, .inr (.inr (.inr (.inr (va_up (va_up (va_up (va_up (fun _ => none) 0 (some u0)) 1 (some u1)) 2 (some u2)) 3 (some u3)))))))]) ++ wTape cI qt rt) ++ [(qf, .inl (cI, 7, .inl (fun _ => 0)))]) ++ [(qw, .inl (cL, 5, .inr (.inl (fun _ => 0))))]) ++ wSheet cI u0 v0) ++ wSheet cI u1 v1) ++ wSheet cI u2 v2) ++ wSheet cI u3 v3)) : va_W)[31]? = some _ from rfl)
  have hP := hP.sub (ws' := wBW cI cL cQ (lst44 L)) [0, 1, 2, 3, 4, 5, 6, 7, 8, 9, 10, 11, 12, 13, 14, 15, 16, 17, 18, 19, 20, 21, 22, 23, 24, 25, 26, 27, 28, 29, 30, 31, 36, 37, 38, 39, 40, 41, 42, 43, 32, 33, 34, 35] (by subst hL; rfl)
  have hD := hD.sub (ws' := wBW cI cL cQ (lst44 L)) [0, 1, 2, 3, 4, 5, 6, 7, 8, 9, 10, 11, 12, 13, 14, 15, 16, 17, 18, 19, 20, 21, 22, 23, 24, 25, 26, 27, 28, 29, 30, 31, 36, 37, 38, 39, 40, 41, 42, 43, 32, 33, 34, 35] (by decide) (by subst hL; rfl)
  exact W.vret hx hb hr (fun t ht hW => ⟨⟨lst44 L, rfl, by rw [hL]; rfl, by rw [ht]; exact hP, hD⟩, hS.F ht⟩) hS.2.2 dX4_init_102
