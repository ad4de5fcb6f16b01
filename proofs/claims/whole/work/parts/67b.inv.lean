theorem i_hold {d : Nat} {A : Gs} {x y : Int32} (h : Inv d A) : Inv (d + 60) (o_hold A x y).2 := by
  have h0 := h.1.1
  have h8 := h.2.2.2.2.2.2.2.1
  unfold o_hold
  split
  · rename_i q
    have hy : un y < A 0 0 ∨ un y = 4294967295 := by
      rcases q.2 with e | e
      · right; subst e; rfl
      · left
        rcases isW_case A y h0 with ⟨k, hk, hk8, rfl, -, -⟩ | e2
        · have e3 : un (nI k) = k := by
            show (UInt32.ofNat k).toNat = k
            rw [UInt32.toNat_ofNat', Nat.mod_eq_of_lt (by omega)]
          rw [e3]; exact hk
        · rw [e] at e2; exact absurd e2 (by decide)
    show Inv (d + 60) (up A 9 (ix x) (un y))
    refine h.reef (up_r (by omega)) h.1.u9 (fun k hk => ?_) (by rw [up_nc _ (by omega)]; omega) (Nat.le_add_right _ _)
    rw [up_nc A (a := 0) (by omega)]
    by_cases e : k = ix x
    · subst e; rw [up_at]; exact hy
    · rw [up_nk _ e]; exact h.2.1 k hk
  · exact h.bd (by omega)
theorem Inv.tape {d : Nat} {A : Gs} (h : Inv d A) {v : Nat} (hv : v ≤ 120) : Inv d (up A 20 1 v) := by
  obtain ⟨i1, i2, i3, i4, i5, i6, i7, i8, i9⟩ := id h
  refine h.hi (up_lo A (by omega)) (fun z => by rw [up_nk _ (by omega)] at z; exact z) (by rw [up_nk _ (by omega)]; exact i4) (by rw [up_at]; exact hv) (fun j hj => by rw [up_nc _ (by omega)]; exact i6 j hj) ?_ ?_
  · have e : up A 20 1 v 22 = A 22 := funext fun j => up_nc _ (by omega)
    rw [e]; exact i7
  · intro t ht
    rw [up_nc _ (by omega), up_nc _ (by omega)]; exact i3 t ht
theorem Inv.byte {d : Nat} {A : Gs} (h : Inv d A) {i v : Nat} (hv : v < 256) : Inv d (up A 21 i v) := by
  obtain ⟨i1, i2, i3, i4, i5, i6, i7, i8, i9⟩ := id h
  refine h.hi (up_lo A (by omega)) (fun z => by rw [up_nc _ (by omega)] at z; exact z) (by rw [up_nc _ (by omega)]; exact i4) (by rw [up_nc _ (by omega)]; exact i5) (fun j hj => ?_) ?_ ?_
  · by_cases e : j = i
    · subst e; rw [up_at]; exact hv
    · rw [up_nk _ e]; exact i6 j hj
  · have e : up A 21 i v 22 = A 22 := funext fun j => up_nc _ (by omega)
    rw [e]; exact i7
  · intro t ht
    rw [up_nc _ (by omega), up_nc _ (by omega)]; exact i3 t ht
theorem Inv.feed {d : Nat} {x : Int32} : ∀ (m : Nat) {A : Gs}, Inv d A → A 20 1 + m ≤ 120 → Inv d (fdS x m A)
  | 0, _, h, _ => h
  | m + 1, A, h, hm => by
    have hb : byt x m < 256 := Nat.mod_lt _ (by omega)
    exact Inv.feed m ((h.byte hb).tape (by omega)) (by rw [up_at]; omega)
theorem i_feed {d : Nat} {A : Gs} {x n : Int32} (h : Inv d A) : Inv (d + 60) (o_feed A x n).2 := by
  unfold o_feed
  split
  · split
    · exact h.bd (by omega)
    · exact (Inv.feed _ h (by omega)).same
  · exact h.bd (by omega)
theorem i_wipe {d : Nat} {A : Gs} (h : Inv d A) : Inv (d + 60) (o_wipe A).2 := (h.tape (by omega)).same
theorem i_text {d : Nat} {A : Gs} (h : Inv d A) : Inv (d + 60) (o_text A).2 := by
  have hk0 := tok_in (A 20 1) (A 21) (p := 0) (by omega)
  have ht0 : tko (A 20 1) (tok (A 20 1) (A 21) 0) := ⟨hk0.2.1, hk0.2.2.1, hk0.2.2.2.2.1, hk0.2.2.2.1⟩
  unfold o_text
  cases q : txN (A 20 1) (A 21) 120 1 A (tok (A 20 1) (A 21) 0) with
  | inl p => exact (h.tape (by omega)).same
  | inr y =>
    obtain ⟨G, i⟩ := y
    exact (h.Q (txN_r h.1 120 1 A _ G i (Qs.rf A) ht0 q)).tape (by omega)
theorem i_image {d : Nat} {A : Gs} (h : Inv d A) : Inv (d + 60) (o_image A).2 := by
  obtain ⟨i1, i2, i3, i4, i5, i6, i7, i8, i9⟩ := id h
  refine Inv.same ?_
  show Inv d (img A)
  have ek : ∀ c, c < 10 → Imr (img A) c = A c := fun c hc => funext fun k => by
    show (if 10 ≤ 10 + c ∧ 10 + c < 20 then A (10 + c - 10) k else _) = _
    rw [if_pos (by omega), Nat.add_sub_cancel_left]
  have e10 : img A 10 1 = A 0 1 := rfl
  refine ⟨i1.eqs (fun c hc => img_lo A (by omega)), i2.eqs (img_lo A (by omega)) (by rw [img_lo A (by omega)]; exact Nat.le_refl _), ?_, Nat.le_refl 1, ?_, ?_, ?_, ?_, fun _ => ⟨i1.eqs (fun c hc => ek c (by omega)), i2.eqs (ek 9 (by omega)) (by rw [ek 0 (by omega)]; exact Nat.le_refl _), by rw [e10]; exact i8⟩⟩
  · intro t ht
    rw [img_hi A (by omega), img_hi A (by omega)]; exact i3 t ht
  · exact i5
  · rw [img_hi A (by omega)]; exact i6
  · rw [img_hi A (by omega)]; exact i7
  · rw [img_lo A (by omega)]; exact i8
theorem i_undo {d : Nat} {A : Gs} (h : Inv d A) : Inv (d + 60) (o_undo A).2 := by
  obtain ⟨i1, i2, i3, i4, i5, i6, i7, i8, i9⟩ := id h
  unfold o_undo
  split
  · rename_i q
    have k := i9 q
    refine Inv.same ?_
    show Inv d (und A)
    have hu : ∀ c, 10 ≤ c → und A c = A c := fun c hc => funext fun k => if_neg (by omega)
    have hl : ∀ c, c < 10 → und A c = Imr A c := fun c hc => funext fun k => if_pos hc
    have ei : Imr (und A) = Imr A := funext fun c => hu (10 + c) (by omega)
    refine ⟨k.1.eqs (fun c hc => hl c (by omega)), k.2.1.eqs (hl 9 (by omega)) (by rw [hl 0 (by omega)]; exact Nat.le_refl _), ?_, ?_, ?_, ?_, ?_, ?_, ?_⟩
    · intro t ht
      rw [hu 23 (by omega), hu 24 (by omega)]; exact i3 t ht
    · rw [hu 20 (by omega)]; exact i4
    · rw [hu 20 (by omega)]; exact i5
    · rw [hu 21 (by omega)]; exact i6
    · rw [hu 22 (by omega)]; exact i7
    · rw [hl 0 (by omega)]; exact k.2.2
    · rw [hu 20 (by omega), ei, hu 10 (by omega)]; exact i9
  · exact h.bd (by omega)
theorem i_tear {d : Nat} {A : Gs} (h : Inv d A) : Inv (d + 60) (o_tear A).2 := by
  obtain ⟨i1, i2, i3, i4, i5, i6, i7, i8, i9⟩ := id h
  refine Inv.same ?_
  show Inv d (up A 20 0 0)
  refine h.hi (up_lo A (by omega)) (fun z => by rw [up_at] at z; exact absurd z (by decide)) (by rw [up_at]; omega) (by rw [up_nk _ (by omega)]; exact i5) (fun j hj => by rw [up_nc _ (by omega)]; exact i6 j hj) ?_ ?_
  · have e : up A 20 0 0 22 = A 22 := funext fun j => up_nc _ (by omega)
    rw [e]; exact i7
  · intro t ht
    rw [up_nc _ (by omega), up_nc _ (by omega)]; exact i3 t ht
theorem Inv.sheets {d : Nat} {A A' : Gs} (h : Inv d A) (e : ∀ c, c < 23 → A' c = A c) (hS : Shs A') : Inv d A' := by
  obtain ⟨i1, i2, i3, i4, i5, i6, i7, i8, i9⟩ := id h
  refine h.hi (fun c hc => e c (by omega)) (fun z => by rw [e 20 (by omega)] at z; exact z) (by rw [e 20 (by omega)]; exact i4) (by rw [e 20 (by omega)]; exact i5) (by rw [e 21 (by omega)]; exact i6) (by rw [e 22 (by omega)]; exact i7) hS
theorem zr_lo (t : Nat) : ∀ (m k : Nat) (A : Gs) {c : Nat}, c < 25 → zr t m k A c = A c
  | 0, _, _, _, _ => rfl
  | m + 1, k, A, c, h => by
    rw [zr, zr_lo t m (k + 1) _ h]
    funext j
    rw [up_nc _ (by omega)]
theorem i_sheet {d : Nat} {A : Gs} {t b n : Int32} (h : Inv d A) : Inv (d + 60) (o_sheet A t b n).2 := by
  unfold o_sheet
  split
  · rename_i q
    split
    · exact h.bd (by omega)
    · split
      · rename_i q3
        have hn := ok_ix q3
        show Inv (d + 60) (zr (ix t) 40 0 (up (up A 23 (ix t) (ix b)) 24 (ix t) (if b = nI 0 then 0 else ix n)))
        refine (Inv.sheets h (fun c hc => ?_) ?_).same
        · rw [zr_lo _ _ _ _ (by omega)]
          funext j
          rw [up_nc _ (by omega), up_nc _ (by omega)]
        · intro u hu
          rw [zr_lo _ _ _ _ (by omega), zr_lo _ _ _ _ (by omega)]
          have k := h.2.2.1 u hu
          constructor
          · rw [up_nc _ (by omega)]
            by_cases e : u = ix t
            · subst e
              rw [up_at]
              rcases q.2 with rfl | rfl | rfl | rfl
              · exact Or.inl rfl
              · exact Or.inr (Or.inl rfl)
              · exact Or.inr (Or.inr (Or.inl rfl))
              · exact Or.inr (Or.inr (Or.inr rfl))
            · rw [up_nk _ e]; exact k.1
          · by_cases e : u = ix t
            · subst e
              rw [up_at]
              split <;> omega
            · rw [up_nk _ e, up_nc _ (by omega)]; exact k.2
      · exact h.bd (by omega)
  · exact h.bd (by omega)
theorem i_write {d : Nat} {A : Gs} {t i v : Int32} (h : Inv d A) : Inv (d + 60) (o_write A t i v).2 := by
  unfold o_write
  split
  · split
    · exact h.bd (by omega)
    · split
      · have e : ∀ vv c, c < 25 → up A (25 + ix t) (ix i) vv c = A c := fun vv c hc => funext fun j => up_nc _ (by omega)
        show Inv (d + 60) (up A (25 + ix t) (ix i) (un (lowb (A 23 (ix t)) v)))
        refine (Inv.sheets (A' := up A (25 + ix t) (ix i) (un (lowb (A 23 (ix t)) v))) h (fun c hc => e _ c (by omega)) ?_).same
        intro u hu
        rw [e _ 23 (by omega), e _ 24 (by omega)]; exact h.2.2.1 u hu
      · exact h.bd (by omega)
  · exact h.bd (by omega)
theorem i_copy {d : Nat} {A : Gs} {t f u g n : Int32} (h : Inv d A) : Inv (d + 60) (o_copy A t f u g n).2 := by
  unfold o_copy
  split
  · split
    · exact h.bd (by omega)
    · split
      · exact h.bd (by omega)
      · split
        · have e : ∀ c, c < 25 → cpyS A (ix t) (ix f) (ix u) (ix g) (ix n) c = A c := fun c hc => funext fun j => if_neg (by omega)
          show Inv (d + 60) (cpyS A (ix t) (ix f) (ix u) (ix g) (ix n))
          refine (Inv.sheets h (fun c hc => e c (by omega)) ?_).same
          intro z hz
          rw [e 23 (by omega), e 24 (by omega)]; exact h.2.2.1 z hz
        · exact h.bd (by omega)
  · exact h.bd (by omega)
theorem ldN_ok (row : Nat → Nat) (z : Nat) : ∀ m k j, k ≤ j → j < ldN row z m k → ok (nI (row j)) 999 = true
  | 0, k, j, h1, h2 => by
    have : j < k := h2
    omega
  | m + 1, k, j, h1, h2 => by
    rw [ldN] at h2
    by_cases q : k < z ∧ ok (nI (row k)) 999 = true
    · rw [if_pos q] at h2
      by_cases e : j = k
      · rw [e]; exact q.2
      · exact ldN_ok row z m (k + 1) j (by omega) h2
    · rw [if_neg q] at h2
      omega
theorem Iv.ld (row : Nat → Nat) : ∀ m k {A : Gs}, Iv A → (∀ j, k ≤ j → j < k + m → ix (nI (row j)) ≤ 999) → Iv (ldS row m k A)
  | 0, _, _, h, _ => h
  | m + 1, k, A, h, hr => Iv.ld row m (k + 1) (h.u1 (hr k (by omega) (by omega))) (fun j h1 h2 => hr j (by omega) (by omega))
theorem i_load {d : Nat} {A : Gs} {t : Int32} (h : Inv d A) : Inv (d + 60) (o_load A t).2 := by
  have h8 := h.2.2.2.2.2.2.2.1
  unfold o_load
  split
  · split
    · exact h.bd (by omega)
    · show Inv (d + 60) (ldS (A (25 + ix t)) (ldN (A (25 + ix t)) (A 24 (ix t)) 10 0) 0 A)
      refine h.reef (fun c hc => ldS_1 _ _ _ _ (by omega)) (Iv.ld _ _ 0 h.1 (fun j h1 h2 => ok_ix (ldN_ok (A (25 + ix t)) (A 24 (ix t)) 10 0 j h1 (by omega)))) (h.2.1.eqs (ldS_1 _ _ _ _ (by omega)) ?_) ?_ (Nat.le_add_right _ _)
      · show A 0 0 ≤ ldS _ _ 0 A 0 0
        rw [ldS_1 _ _ _ _ (by omega)]; exact Nat.le_refl _
      · show ldS _ _ 0 A 0 1 ≤ d + 60
        rw [ldS_1 _ _ _ _ (by omega)]; omega
  · exact h.bd (by omega)
theorem i_bones {d : Nat} {A : Gs} {x : Int32} (h : Inv d A) : Inv (d + 60) (o_bones A x).2 := by
  unfold o_bones
  (repeat' split) <;> first | exact h.same | exact h.bd (by omega)
theorem i_fishOf {d : Nat} {A : Gs} {x y : Int32} (h : Inv d A) : Inv (d + 60) (o_fishOf A x y).2 := by
  unfold o_fishOf
  (repeat' split) <;> first | exact h.same | exact h.bd (by omega)
theorem i_of {d : Nat} {A : Gs} {x y : Int32} (h : Inv d A) : Inv (d + 60) (o_of A x y).2 := by
  unfold o_of
  (repeat' split) <;> first | exact h.same | exact h.bd (by omega)
theorem i_keeps {d : Nat} {A : Gs} {x y : Int32} (h : Inv d A) : Inv (d + 60) (o_keeps A x y).2 := by
  unfold o_keeps
  (repeat' split) <;> first | exact h.same | exact h.bd (by omega)
theorem i_spells {d : Nat} {A : Gs} {x : Int32} (h : Inv d A) : Inv (d + 60) (o_spells A x).2 := by
  unfold o_spells
  (repeat' split) <;> first | exact h.same | exact h.bd (by omega)
theorem i_now {d : Nat} {A : Gs} {x : Int32} (h : Inv d A) : Inv (d + 60) (o_now A x).2 := by
  unfold o_now
  (repeat' split) <;> first | exact h.same | exact h.bd (by omega)
theorem i_ahead {d : Nat} {A : Gs} {x y n : Int32} (h : Inv d A) : Inv (d + 60) (o_ahead A x y n).2 := by
  unfold o_ahead
  (repeat' split) <;> first | exact h.same | exact h.bd (by omega)
theorem i_later {d : Nat} {A : Gs} {x n : Int32} (h : Inv d A) : Inv (d + 60) (o_later A x n).2 := by
  unfold o_later
  (repeat' split) <;> first | exact h.same | exact h.bd (by omega)
theorem i_when {d : Nat} {A : Gs} {x v : Int32} (h : Inv d A) : Inv (d + 60) (o_when A x v).2 := by
  unfold o_when
  (repeat' split) <;> first | exact h.same | exact h.bd (by omega)
theorem i_starves {d : Nat} {A : Gs} {x : Int32} (h : Inv d A) : Inv (d + 60) (o_starves A x).2 := by
  unfold o_starves o_none
  (repeat' split) <;> first | exact h.same | exact h.bd (by omega)
theorem i_out {d : Nat} {A : Gs} {x : Int32} (h : Inv d A) : Inv (d + 60) (o_out A x).2 := by
  unfold o_out o_none
  (repeat' split) <;> first | exact h.same | exact h.bd (by omega)
theorem i_catchFor {d : Nat} {A : Gs} {x : Int32} (h : Inv d A) : Inv (d + 60) (o_catchFor A x).2 := by
  unfold o_catchFor
  (repeat' split) <;> first | exact h.same | exact h.bd (by omega)
theorem i_fewest {d : Nat} {A : Gs} {x y v n : Int32} (h : Inv d A) : Inv (d + 60) (o_fewest A x y v n).2 := by
  unfold o_fewest
  (repeat' split) <;> first | exact h.same | exact h.bd (by omega)
theorem i_letterFor {d : Nat} {A : Gs} {x n : Int32} (h : Inv d A) : Inv (d + 60) (o_letterFor A x n).2 := by
  unfold o_letterFor
  (repeat' split) <;> first | exact h.same | exact h.bd (by omega)
theorem i_kindFor {d : Nat} {A : Gs} {x n : Int32} (h : Inv d A) : Inv (d + 60) (o_kindFor A x n).2 := by
  unfold o_kindFor
  (repeat' split) <;> first | exact h.same | exact h.bd (by omega)
theorem i_away {d : Nat} {A : Gs} {x v n : Int32} (h : Inv d A) : Inv (d + 60) (o_away A x v n).2 := by
  unfold o_away
  (repeat' split) <;> first | exact h.same | exact h.bd (by omega)
theorem i_bonesFor {d : Nat} {A : Gs} {x n : Int32} (h : Inv d A) : Inv (d + 60) (o_bonesFor A x n).2 := by
  unfold o_bonesFor
  (repeat' split) <;> first | exact h.same | exact h.bd (by omega)
theorem i_fits {d : Nat} {A : Gs} {t x : Int32} (h : Inv d A) : Inv (d + 60) (o_fits A t x).2 := by
  unfold o_fits o_told
  (repeat' split) <;> first | exact h.same | exact h.bd (by omega)
theorem i_kinds {d : Nat} {A : Gs} {t x : Int32} (h : Inv d A) : Inv (d + 60) (o_kinds A t x).2 := by
  unfold o_kinds o_told
  (repeat' split) <;> first | exact h.same | exact h.bd (by omega)
theorem i_texts {d : Nat} {A : Gs} {x : Int32} (h : Inv d A) : Inv (d + 60) (o_texts A x).2 := by
  unfold o_texts
  (repeat' split) <;> first | exact h.same | exact h.bd (by omega)
theorem i_odds {d : Nat} {A : Gs} {x y : Int32} (h : Inv d A) : Inv (d + 60) (o_odds A x y).2 := by
  unfold o_odds
  (repeat' split) <;> first | exact h.same | exact h.bd (by omega)
theorem i_as {d : Nat} {A : Gs} {x y : Int32} (h : Inv d A) : Inv (d + 60) (o_as A x y).2 := by
  unfold o_as
  (repeat' split) <;> first | exact h.same | exact h.bd (by omega)
theorem i_judge {d : Nat} {A : Gs} {t : Int32} (h : Inv d A) : Inv (d + 60) (o_judge A t).2 := by
  unfold o_judge
  (repeat' split) <;> first | exact h.same | exact h.bd (by omega)
theorem i_count {d : Nat} {A : Gs} {x : Int32} (h : Inv d A) : Inv (d + 60) (o_count A x).2 := by
  unfold o_count
  (repeat' split) <;> first | exact h.same | exact h.bd (by omega)
theorem i_status {d : Nat} {A : Gs} {x : Int32} (h : Inv d A) : Inv (d + 60) (o_status A x).2 := by
  unfold o_status
  (repeat' split) <;> first | exact h.same | exact h.bd (by omega)
