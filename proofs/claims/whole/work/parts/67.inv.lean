/-! WHAT STAYS TRUE OF THE WHOLE STATE -/
def Imr (A : Gs) : Gs := fun c => A (10 + c)
def Inv (d : Nat) (A : Gs) : Prop := Iv A ∧ Spt A ∧ Shs A ∧ A 20 0 ≤ 1 ∧ A 20 1 ≤ 120 ∧ (∀ j, j < 120 → A 21 j < 256) ∧ A 22 0 = sm (A 22) 7 1 ∧ A 0 1 ≤ d ∧ (A 20 0 = 1 → Iv (Imr A) ∧ Spt (Imr A) ∧ A 10 1 ≤ d)
theorem Inv.le {d d' : Nat} {A : Gs} (h : Inv d A) (hd : d ≤ d') : Inv d' A := by
  obtain ⟨i1, i2, i3, i4, i5, i6, i7, i8, i9⟩ := h
  exact ⟨i1, i2, i3, i4, i5, i6, i7, Nat.le_trans i8 hd, fun z => ⟨(i9 z).1, (i9 z).2.1, Nat.le_trans (i9 z).2.2 hd⟩⟩
theorem Iv.eqs {A A' : Gs} (h : Iv A) (e : ∀ c, c < 9 → A' c = A c) : Iv A' := by
  obtain ⟨a0, a1, a2, a3, a4⟩ := h
  refine ⟨by rw [e 0 (by omega)]; exact a0, fun k hk => by rw [e 1 (by omega)]; exact a1 k hk, fun k hk => by rw [e 2 (by omega)]; exact a2 k hk, fun k hk => by rw [e 3 (by omega)]; exact a3 k hk, fun k hk => ?_⟩
  rw [e 4 (by omega), e 5 (by omega), e 6 (by omega), e 7 (by omega), e 8 (by omega)]
  exact a4 k hk
theorem Spt.eqs {A A' : Gs} (h : Spt A) (e9 : A' 9 = A 9) (e0 : A 0 0 ≤ A' 0 0) : Spt A' := fun k hk => by
  rw [e9]
  rcases h k hk with q | q
  · exact Or.inl (Nat.lt_of_lt_of_le q e0)
  · exact Or.inr q
theorem Inv.reef {d d' : Nat} {A A' : Gs} (h : Inv d A) (hr : ∀ c, 10 ≤ c → A' c = A c) (hI : Iv A') (hs : Spt A') (hd : A' 0 1 ≤ d') (hdd : d ≤ d') : Inv d' A' := by
  obtain ⟨i1, i2, i3, i4, i5, i6, i7, i8, i9⟩ := h
  refine ⟨hI, hs, ?_, by rw [hr 20 (by omega)]; exact i4, by rw [hr 20 (by omega)]; exact i5, by rw [hr 21 (by omega)]; exact i6, by rw [hr 22 (by omega)]; exact i7, hd, ?_⟩
  · intro t ht
    rw [hr 23 (by omega), hr 24 (by omega)]
    exact i3 t ht
  · have e : Imr A' = Imr A := funext fun c => hr (10 + c) (by omega)
    rw [hr 20 (by omega), e, hr 10 (by omega)]
    exact fun z => ⟨(i9 z).1, (i9 z).2.1, Nat.le_trans (i9 z).2.2 hdd⟩
theorem Inv.hi {d : Nat} {A A' : Gs} (h : Inv d A) (hlo : ∀ c, c < 20 → A' c = A c) (hk : A' 20 0 = 1 → A 20 0 = 1) (p0 : A' 20 0 ≤ 1) (p1 : A' 20 1 ≤ 120) (p2 : ∀ j, j < 120 → A' 21 j < 256) (p3 : A' 22 0 = sm (A' 22) 7 1) (p4 : Shs A') : Inv d A' := by
  obtain ⟨i1, i2, i3, i4, i5, i6, i7, i8, i9⟩ := h
  refine ⟨i1.eqs (fun c hc => hlo c (by omega)), i2.eqs (hlo 9 (by omega)) (by rw [hlo 0 (by omega)]; exact Nat.le_refl _), p4, p0, p1, p2, p3, by rw [hlo 0 (by omega)]; exact i8, ?_⟩
  intro z
  have k := i9 (hk z)
  have e : ∀ c, c < 10 → Imr A' c = Imr A c := fun c hc => hlo (10 + c) (by omega)
  exact ⟨k.1.eqs (fun c hc => e c (by omega)), k.2.1.eqs (e 9 (by omega)) (by rw [e 0 (by omega)]; exact Nat.le_refl _), by rw [hlo 10 (by omega)]; exact k.2.2⟩
theorem fnd_22 (A : Gs) (k j : Nat) : fnd A k 22 j = if j = k + 1 then A 22 (k + 1) + 1 else if j = 0 then A 22 0 + 1 else A 22 j := by
  unfold fnd
  by_cases q : j = k + 1
  · subst q; rw [up_at, if_pos rfl]
  · rw [up_nk _ q, if_neg q]
    by_cases q0 : j = 0
    · subst q0; rw [up_at, if_pos rfl]
    · rw [up_nk _ q0, if_neg q0]
theorem Inv.bad {d : Nat} {A : Gs} (h : Inv d A) {k : Nat} (hk : k < 7) : Inv d (fnd A k) := by
  have i7 : A 22 0 = A 22 1 + (A 22 2 + (A 22 3 + (A 22 4 + (A 22 5 + (A 22 6 + (A 22 7 + 0)))))) := h.2.2.2.2.2.2.1
  refine h.hi (fun c hc => fnd_row A k (by omega)) (fun z => by rw [fnd_row A k (by omega)] at z; exact z) (by rw [fnd_row A k (by omega)]; exact h.2.2.2.1) (by rw [fnd_row A k (by omega)]; exact h.2.2.2.2.1) (by rw [fnd_row A k (by omega)]; exact h.2.2.2.2.2.1) ?_ ?_
  · show fnd A k 22 0 = fnd A k 22 1 + (fnd A k 22 2 + (fnd A k 22 3 + (fnd A k 22 4 + (fnd A k 22 5 + (fnd A k 22 6 + (fnd A k 22 7 + 0))))))
    rcases (by omega : k = 0 ∨ k = 1 ∨ k = 2 ∨ k = 3 ∨ k = 4 ∨ k = 5 ∨ k = 6) with rfl | rfl | rfl | rfl | rfl | rfl | rfl <;> simp only [fnd_22, Nat.reduceAdd, Nat.reduceEqDiff, ↓reduceIte] <;> omega
  · intro t ht
    rw [fnd_row A k (by omega), fnd_row A k (by omega)]
    exact h.2.2.1 t ht
theorem ok_ix {v : Int32} {hi : Nat} (h : ok v hi = true) : ix v ≤ hi := by
  have h2 : 0 ≤ v.toInt ∧ v.toInt ≤ (hi : Int) := of_decide_eq_true h
  show v.toInt.toNat ≤ hi
  omega
theorem ok2_ix {v : Int32} {a b : Nat} (h : ok2 v a b = true) : ix v ≤ b := by
  have h2 : (a : Int) ≤ v.toInt ∧ v.toInt ≤ (b : Int) := of_decide_eq_true h
  show v.toInt.toNat ≤ b
  omega
theorem isW_ix {A : Gs} {x : Int32} (h : isW A x = true) : ix x < A 0 0 := by
  have h2 : 0 ≤ x.toInt ∧ x.toInt < (A 0 0 : Int) := of_decide_eq_true h
  show x.toInt.toNat < A 0 0
  omega
theorem Inv.set {d : Nat} {A : Gs} (h : Inv d A) {c k v : Nat} (hc : 1 ≤ c) (hc9 : c < 9) (hI : Iv (up A c k v)) : Inv (d + 60) (up A c k v) :=
  h.reef (up_r (by omega)) hI (h.2.1.eqs (funext fun j => up_nc _ (by omega)) (by rw [up_nc _ (by omega)]; exact Nat.le_refl _)) (by rw [up_nc _ (by omega)]; exact Nat.le_trans h.2.2.2.2.2.2.2.1 (Nat.le_add_right _ _)) (Nat.le_add_right _ _)
theorem Inv.Q {d : Nat} {A A' : Gs} (h : Inv d A) (hQ : Qs A A') : Inv (d + 60) A' :=
  h.reef hQ.1 (hQ.2.1 h.1) (h.2.1.eqs hQ.2.2.1 hQ.2.2.2.1) (by rw [hQ.2.2.2.2]; exact Nat.le_trans h.2.2.2.2.2.2.2.1 (Nat.le_add_right _ _)) (Nat.le_add_right _ _)
theorem Inv.same {d : Nat} {A : Gs} (h : Inv d A) : Inv (d + 60) A := h.le (Nat.le_add_right _ _)
theorem Inv.fd {d : Nat} {A : Gs} (h : Inv d A) {k : Nat} (hk : k < 7) : Inv (d + 60) (fnd A k) := (h.bad hk).same
theorem Inv.bd {d : Nat} {A : Gs} (h : Inv d A) {k : Nat} (hk : k < 7) : Inv (d + 60) (Jvm.Pilot.@@N@@.bad A k).2 := (h.bad hk).same
theorem i_jar {d : Nat} {A : Gs} {x v : Int32} (h : Inv d A) : Inv (d + 60) (o_jar A x v).2 := by
  unfold o_jar
  split
  · rename_i q
    exact h.set (by omega) (by omega) (h.1.u1 (ok_ix q.2))
  · exact h.bd (by omega)
theorem i_fish {d : Nat} {A : Gs} {x y v : Int32} (h : Inv d A) : Inv (d + 60) (o_fish A x y v).2 := by
  unfold o_fish
  by_cases q : ok x 5 = true ∧ ok y 1 = true ∧ ok v (if y = 0 then 999 else 20) = true
  · rw [if_pos q]
    obtain ⟨q1, q2, q3⟩ := q
    show Inv (d + 60) (up A (2 + ix y) (ix x) (ix v))
    rcases ok_case y 1 (by omega) with ⟨m, hm, e, f1, f2⟩ | f1
    · rw [f2]
      rcases (by omega : m = 0 ∨ m = 1) with rfl | rfl
      · rw [if_pos (by rw [e]; rfl)] at q3
        exact h.set (by omega) (by omega) (h.1.u2 (ok_ix q3))
      · rw [if_neg (by rw [e]; decide)] at q3
        exact h.set (by omega) (by omega) (h.1.u3 (ok_ix q3))
    · rw [f1] at q2; exact absurd q2 (by decide)
  · rw [if_neg q]
    exact h.bd (by omega)
theorem i_writer {d : Nat} {A : Gs} {x y : Int32} (h : Inv d A) : Inv (d + 60) (o_writer A x y).2 := by
  have h0 := h.1.1
  unfold o_writer
  split
  · rename_i q
    have q1 := ok_ix q.1
    split
    · exact h.bd (by omega)
    · exact h.Q (Qs.comes (by omega) (by omega) (ok_ix q.2) (by omega))
  · exact h.bd (by omega)
theorem i_change {d : Nat} {A : Gs} {x y v : Int32} (h : Inv d A) : Inv (d + 60) (o_change A x y v).2 := by
  unfold o_change
  split
  · rename_i q
    obtain ⟨q1, q2, q3⟩ := q
    have h2 := ok_ix q2
    have h3 := ok_ix q3
    refine h.set (by omega) (by omega) (h.1.uw ?_)
    rcases (by omega : ix y = 0 ∨ ix y = 1 ∨ ix y = 2 ∨ ix y = 3 ∨ ix y = 4) with e | e | e | e | e <;> rw [e] at h3 <;> simp only [mst, Nat.reduceEqDiff, ↓reduceIte] at h3 <;> omega
  · exact h.bd (by omega)
theorem i_go {d : Nat} {A : Gs} {x : Int32} (h : Inv d A) : Inv (d + 60) (o_go A x).2 := by
  have h8 := h.2.2.2.2.2.2.2.1
  unfold o_go
  split
  · rename_i q
    have h1 := ok2_ix q
    show Inv (d + 60) (days 0 (ix x) A)
    refine h.reef (days_r _ A) (Iv.days 0 _ h.1) (h.2.1.eqs (days_row 0 (by omega) (by omega) (by omega) (by omega) (by omega) _ A) (by rw [days_0 0 (by omega)]; exact Nat.le_refl _)) ?_ (Nat.le_add_right _ _)
    rw [days_01]
    omega
  · exact h.bd (by omega)
theorem ct_9 (A : Gs) : ct A 9 = A 9 := by
  unfold ct
  rw [day_row 0 _ (by omega) (by omega) (by omega) (by omega) (by omega)]
  funext j
  rw [up_nc _ (by omega), up_nc _ (by omega)]
theorem cts_9 : ∀ n (A : Gs), cts n A 9 = A 9
  | 0, _ => rfl
  | n + 1, A => by rw [cts, cts_9 n, ct_9]
theorem cts_01 : ∀ n (A : Gs), cts n A 0 1 = A 0 1 + n
  | 0, _ => rfl
  | n + 1, A => by rw [cts, cts_01 n, ct_01]; omega
theorem i_catches {d : Nat} {A : Gs} {x : Int32} (h : Inv d A) : Inv (d + 60) (o_catches A x).2 := by
  have h8 := h.2.2.2.2.2.2.2.1
  unfold o_catches
  split
  · rename_i q
    have h1 := ok2_ix q
    show Inv (d + 60) (cts (ix x) A)
    refine h.reef (cts_r _ A) (Iv.cts _ h.1) (h.2.1.eqs (cts_9 _ A) (by rw [cts_00]; exact Nat.le_refl _)) ?_ (Nat.le_add_right _ _)
    rw [cts_01]
    omega
  · exact h.bd (by omega)
theorem i_seed {d : Nat} {A : Gs} {x : Int32} (h : Inv d A) : Inv (d + 60) (o_seed A x).2 := by
  have h8 := h.2.2.2.2.2.2.2.1
  show Inv (d + 60) (up A 0 2 (un x))
  refine h.reef (up_r (by omega)) (h.1.u0 (by omega)) (h.2.1.eqs (funext fun j => up_nc _ (by omega)) (by rw [up_nk _ (by omega)]; exact Nat.le_refl _)) ?_ (Nat.le_add_right _ _)
  rw [up_nk _ (by omega)]
  omega
