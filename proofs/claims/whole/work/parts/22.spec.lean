/-! THE DAYS, AS FUNCTIONS OF A REEF -/
def Iv (G : Gs) : Prop := G 0 0 ≤ 8 ∧ (∀ k, k < 10 → G 1 k ≤ 999) ∧ (∀ k, k < 6 → G 2 k ≤ 999) ∧ (∀ k, k < 6 → G 3 k ≤ 20) ∧ ∀ k, k < 8 → G 4 k < 7 ∧ G 5 k ≤ 9999 ∧ G 6 k < 4 ∧ G 7 k ≤ 99 ∧ G 8 k ≤ 9999
theorem up_up (G : Gs) (c k v v' : Nat) : up (up G c k v) c k v' = up G c k v' := by
  funext a b
  unfold up
  by_cases h : a = c ∧ b = k <;> simp [h]
theorem up_id (G : Gs) {c k v : Nat} (h : G c k = v) : up G c k v = G := by
  funext a b
  unfold up
  by_cases h2 : a = c ∧ b = k
  · rw [if_pos h2, h2.1, h2.2, h]
  · rw [if_neg h2]
theorem up_cm (G : Gs) {c k v c' k' v' : Nat} (h : c ≠ c' ∨ k ≠ k') : up (up G c k v) c' k' v' = up (up G c' k' v') c k v := by
  funext a b
  unfold up
  by_cases h1 : a = c ∧ b = k
  · by_cases h2 : a = c' ∧ b = k'
    · omega
    · simp [h1, h2]; omega
  · by_cases h2 : a = c' ∧ b = k'
    · simp [h1, h2]; intro q1 q2; omega
    · simp [h1, h2]
theorem Iv.u1 {G : Gs} (h : Iv G) {k v : Nat} (hv : v ≤ 999) : Iv (up G 1 k v) := by
  obtain ⟨h0, h1, h2, h3, h4⟩ := h
  refine ⟨by rw [up_nc G (by omega)]; exact h0, fun a ha => ?_, fun a ha => by rw [up_nc G (by omega)]; exact h2 a ha, fun a ha => by rw [up_nc G (by omega)]; exact h3 a ha, fun a ha => ?_⟩
  · by_cases e : a = k
    · subst e; rw [up_at]; exact hv
    · rw [up_nk G e]; exact h1 a ha
  · rw [up_nc G (by omega), up_nc G (by omega), up_nc G (by omega), up_nc G (by omega), up_nc G (by omega)]; exact h4 a ha
theorem Iv.u2 {G : Gs} (h : Iv G) {k v : Nat} (hv : v ≤ 999) : Iv (up G 2 k v) := by
  obtain ⟨h0, h1, h2, h3, h4⟩ := h
  refine ⟨by rw [up_nc G (by omega)]; exact h0, fun a ha => by rw [up_nc G (by omega)]; exact h1 a ha, fun a ha => ?_, fun a ha => by rw [up_nc G (by omega)]; exact h3 a ha, fun a ha => ?_⟩
  · by_cases e : a = k
    · subst e; rw [up_at]; exact hv
    · rw [up_nk G e]; exact h2 a ha
  · rw [up_nc G (by omega), up_nc G (by omega), up_nc G (by omega), up_nc G (by omega), up_nc G (by omega)]; exact h4 a ha
theorem Iv.u3 {G : Gs} (h : Iv G) {k v : Nat} (hv : v ≤ 20) : Iv (up G 3 k v) := by
  obtain ⟨h0, h1, h2, h3, h4⟩ := h
  refine ⟨by rw [up_nc G (by omega)]; exact h0, fun a ha => by rw [up_nc G (by omega)]; exact h1 a ha, fun a ha => by rw [up_nc G (by omega)]; exact h2 a ha, fun a ha => ?_, fun a ha => ?_⟩
  · by_cases e : a = k
    · subst e; rw [up_at]; exact hv
    · rw [up_nk G e]; exact h3 a ha
  · rw [up_nc G (by omega), up_nc G (by omega), up_nc G (by omega), up_nc G (by omega), up_nc G (by omega)]; exact h4 a ha
theorem Iv.uw {G : Gs} (h : Iv G) {c k v : Nat} (hv : (c = 4 ∧ v < 7) ∨ (c = 5 ∧ v ≤ 9999) ∨ (c = 6 ∧ v < 4) ∨ (c = 7 ∧ v ≤ 99) ∨ (c = 8 ∧ v ≤ 9999)) : Iv (up G c k v) := by
  obtain ⟨h0, h1, h2, h3, h4⟩ := h
  refine ⟨by rw [up_nc G (by omega)]; exact h0, fun a ha => by rw [up_nc G (by omega)]; exact h1 a ha, fun a ha => by rw [up_nc G (by omega)]; exact h2 a ha, fun a ha => by rw [up_nc G (by omega)]; exact h3 a ha, fun a ha => ?_⟩
  have h5 := h4 a ha
  unfold up
  refine ⟨?_, ?_, ?_, ?_, ?_⟩ <;> split <;> omega
theorem Iv.u0 {G : Gs} (h : Iv G) {k v : Nat} (hk : k ≠ 0) : Iv (up G 0 k v) := by
  obtain ⟨h0, h1, h2, h3, h4⟩ := h
  refine ⟨by rw [up_nk G (by omega)]; exact h0, fun a ha => by rw [up_nc G (by omega)]; exact h1 a ha, fun a ha => by rw [up_nc G (by omega)]; exact h2 a ha, fun a ha => by rw [up_nc G (by omega)]; exact h3 a ha, fun a ha => ?_⟩
  rw [up_nc G (by omega), up_nc G (by omega), up_nc G (by omega), up_nc G (by omega), up_nc G (by omega)]; exact h4 a ha
theorem Iv.u9 {G : Gs} (h : Iv G) {k v : Nat} : Iv (up G 9 k v) := by
  obtain ⟨h0, h1, h2, h3, h4⟩ := h
  refine ⟨by rw [up_nc G (by omega)]; exact h0, fun a ha => by rw [up_nc G (by omega)]; exact h1 a ha, fun a ha => by rw [up_nc G (by omega)]; exact h2 a ha, fun a ha => by rw [up_nc G (by omega)]; exact h3 a ha, fun a ha => ?_⟩
  rw [up_nc G (by omega), up_nc G (by omega), up_nc G (by omega), up_nc G (by omega), up_nc G (by omega)]; exact h4 a ha
/-- one letter of n fishes comes to the jar -/
def kb1 (kd b n p : Nat) (G : Gs) : Gs := if kp kd p (dg b (p + 1)) = true then up G 1 (dg b (p + 1)) (min 999 (G 1 (dg b (p + 1)) + n)) else G
def kb (kd b n : Nat) (G : Gs) : Gs := kb1 kd b n 2 (kb1 kd b n 1 (kb1 kd b n 0 G))
def eat1 (a b : Nat) (G : Gs) : Gs := up (kb (G 4 a) b 1 G) 7 a (min 99 (G 7 a + 3))
def eatN (a b : Nat) : Nat → Gs → Gs
  | 0, G => G
  | n + 1, G => eatN a b n (eat1 a b G)
def wr1 (a : Nat) (G : Gs) : Gs := if G 6 a = 3 then up (up (up G 1 (dg (G 5 a) (G 6 a)) (G 1 (dg (G 5 a) (G 6 a)) - 1)) 6 a 0) 8 a (min 9999 (G 8 a + 1)) else up (up G 1 (dg (G 5 a) (G 6 a)) (G 1 (dg (G 5 a) (G 6 a)) - 1)) 6 a (G 6 a + 1)
def wrN (a : Nat) : Nat → Gs → Gs
  | 0, G => G
  | n + 1, G => if G 1 (dg (G 5 a) (G 6 a)) = 0 then G else wrN a n (wr1 a G)
def aw (set a : Nat) : Bool := decide (set / 2 ^ a % 2 = 1)
def eph (set b : Nat) : Nat → Nat → Nat → Gs → Gs
  | 0, _, _, G => G
  | m + 1, a, left, G => eph set b m (a + 1) (left - (if aw set a = true then 0 else min left (eat (G 4 a) (G 7 a) (G 6 a)))) (eatN a b (if aw set a = true then 0 else min left (eat (G 4 a) (G 7 a) (G 6 a))) G)
def wph (set : Nat) : Nat → Nat → Gs → Gs
  | 0, _, G => G
  | m + 1, a, G => wph set m (a + 1) (wrN a (if aw set a = true then 0 else wrt (G 4 a) (G 7 a)) G)
def fph : Nat → Nat → Gs → Gs
  | 0, _, G => G
  | m + 1, a, G => fph m (a + 1) (up G 7 a (G 7 a - 2))
def soup : Nat → Nat → Gs → Gs
  | 0, _, G => G
  | m + 1, a, G => soup m (a + 1) (up G 1 a (G 1 a - G 1 a / 10))
def day1 (set : Nat) (G : Gs) : Gs := eph set (G 2 (G 0 1 % 6)) (G 0 0) 0 (G 3 (G 0 1 % 6)) G
def day2 (set : Nat) (G : Gs) : Gs := wph set (G 0 0) 0 (day1 set G)
def day3 (set : Nat) (G : Gs) : Gs := fph (G 0 0) 0 (day2 set G)
def day4 (set : Nat) (G : Gs) : Gs := up (day3 set G) 0 1 (G 0 1 + 1)
def day (set : Nat) (G : Gs) : Gs := if (G 0 1 + 1) % 7 = 0 then soup 10 0 (day4 set G) else day4 set G
def days (set : Nat) : Nat → Gs → Gs
  | 0, G => G
  | n + 1, G => days set n (day set G)
/-- a day leaves all rows but those of the jar, at, fat, written and the number of the day -/
def fr (G G' : Gs) : Prop := ∀ c, c ≠ 1 → c ≠ 6 → c ≠ 7 → c ≠ 8 → G' c = G c
theorem fr.rf (G : Gs) : fr G G := fun _ _ _ _ _ => rfl
theorem fr.tr {G G' G'' : Gs} (h : fr G G') (h' : fr G' G'') : fr G G'' := fun c a b d e => (h' c a b d e).trans (h c a b d e)
theorem fr.up {G G' : Gs} (h : fr G G') {c k v : Nat} (hc : c = 1 ∨ c = 6 ∨ c = 7 ∨ c = 8) : fr G (up G' c k v) := fun c' a b d e => by
  funext j
  rw [up_nc G' (by omega), h c' a b d e]
theorem kb1_fr (kd b n p : Nat) (G : Gs) : fr G (kb1 kd b n p G) := by
  unfold kb1
  split
  · exact (fr.rf G).up (Or.inl rfl)
  · exact fr.rf G
theorem kb_fr (kd b n : Nat) (G : Gs) : fr G (kb kd b n G) := (kb1_fr _ _ _ _ _).tr ((kb1_fr _ _ _ _ _).tr (kb1_fr _ _ _ _ _))
theorem eat1_fr (a b : Nat) (G : Gs) : fr G (eat1 a b G) := (kb_fr _ _ _ _).up (Or.inr (Or.inr (Or.inl rfl)))
theorem eatN_fr (a b : Nat) : ∀ (n : Nat) (G : Gs), fr G (eatN a b n G)
  | 0, G => fr.rf G
  | n + 1, G => (eat1_fr a b G).tr (eatN_fr a b n _)
theorem wr1_fr (a : Nat) (G : Gs) : fr G (wr1 a G) := by
  unfold wr1
  split
  · exact (((fr.rf G).up (Or.inl rfl)).up (Or.inr (Or.inl rfl))).up (Or.inr (Or.inr (Or.inr rfl)))
  · exact ((fr.rf G).up (Or.inl rfl)).up (Or.inr (Or.inl rfl))
theorem wrN_fr (a : Nat) : ∀ (n : Nat) (G : Gs), fr G (wrN a n G)
  | 0, G => fr.rf G
  | n + 1, G => by
    unfold wrN
    split
    · exact fr.rf G
    · exact (wr1_fr a G).tr (wrN_fr a n _)
theorem eph_fr (set b : Nat) : ∀ (m a left : Nat) (G : Gs), fr G (eph set b m a left G)
  | 0, _, _, G => fr.rf G
  | m + 1, a, left, G => (eatN_fr a b _ G).tr (eph_fr set b m _ _ _)
theorem wph_fr (set : Nat) : ∀ (m a : Nat) (G : Gs), fr G (wph set m a G)
  | 0, _, G => fr.rf G
  | m + 1, a, G => (wrN_fr a _ G).tr (wph_fr set m _ _)
theorem fph_fr : ∀ (m a : Nat) (G : Gs), fr G (fph m a G)
  | 0, _, G => fr.rf G
  | m + 1, a, G => ((fr.rf G).up (Or.inr (Or.inr (Or.inl rfl)))).tr (fph_fr m _ _)
theorem soup_fr : ∀ (m a : Nat) (G : Gs), fr G (soup m a G)
  | 0, _, G => fr.rf G
  | m + 1, a, G => ((fr.rf G).up (Or.inl rfl)).tr (soup_fr m _ _)
theorem day1_fr (set : Nat) (G : Gs) : fr G (day1 set G) := eph_fr _ _ _ _ _ _
theorem day2_fr (set : Nat) (G : Gs) : fr G (day2 set G) := (day1_fr set G).tr (wph_fr _ _ _ _)
theorem day3_fr (set : Nat) (G : Gs) : fr G (day3 set G) := (day2_fr set G).tr (fph_fr _ _ _)
theorem day_row (set : Nat) (G : Gs) {c : Nat} (h : c ≠ 0) (h1 : c ≠ 1) (h6 : c ≠ 6) (h7 : c ≠ 7) (h8 : c ≠ 8) : day set G c = G c := by
  have e : day4 set G c = G c := by
    funext j
    unfold day4
    rw [up_nc _ h, day3_fr set G c h1 h6 h7 h8]
  unfold day
  split
  · rw [soup_fr 10 0 _ c h1 h6 h7 h8, e]
  · exact e
theorem day_0 (set : Nat) (G : Gs) {k : Nat} (h : k ≠ 1) : day set G 0 k = G 0 k := by
  have e : day4 set G 0 k = G 0 k := by
    unfold day4
    rw [up_nk _ h, day3_fr set G 0 (by omega) (by omega) (by omega) (by omega)]
  unfold day
  split
  · rw [soup_fr 10 0 _ 0 (by omega) (by omega) (by omega) (by omega), e]
  · exact e
theorem day_01 (set : Nat) (G : Gs) : day set G 0 1 = G 0 1 + 1 := by
  have e : day4 set G 0 1 = G 0 1 + 1 := up_at _ _ _ _
  unfold day
  split
  · rw [soup_fr 10 0 _ 0 (by omega) (by omega) (by omega) (by omega), e]
  · exact e
theorem Iv.kb1 {G : Gs} (h : Iv G) (kd b n p : Nat) : Iv (kb1 kd b n p G) := by
  unfold Jvm.Pilot.@@N@@.kb1
  split
  · exact h.u1 (Nat.min_le_left _ _)
  · exact h
theorem Iv.kb {G : Gs} (h : Iv G) (kd b n : Nat) : Iv (kb kd b n G) := ((h.kb1 _ _ _ _).kb1 _ _ _ _).kb1 _ _ _ _
theorem Iv.eat1 {G : Gs} (h : Iv G) (a b : Nat) : Iv (eat1 a b G) := (h.kb _ _ _).uw (Or.inr (Or.inr (Or.inr (Or.inl ⟨rfl, Nat.min_le_left _ _⟩))))
theorem Iv.eatN (a b : Nat) : ∀ (n : Nat) {G : Gs}, Iv G → Iv (eatN a b n G)
  | 0, _, h => h
  | n + 1, _, h => Iv.eatN a b n (h.eat1 a b)
theorem Iv.wr1 {G : Gs} (h : Iv G) {a : Nat} (ha : a < 8) : Iv (wr1 a G) := by
  have h1 := h.2.1 (dg (G 5 a) (G 6 a)) (dg_lt _ _)
  have h2 := h.2.2.2.2 a ha
  unfold Jvm.Pilot.@@N@@.wr1
  split
  · exact ((h.u1 (by omega)).uw (Or.inr (Or.inr (Or.inl ⟨rfl, by omega⟩)))).uw (Or.inr (Or.inr (Or.inr (Or.inr ⟨rfl, Nat.min_le_left _ _⟩))))
  · exact (h.u1 (by omega)).uw (Or.inr (Or.inr (Or.inl ⟨rfl, by omega⟩)))
theorem Iv.wrN {a : Nat} (ha : a < 8) : ∀ (n : Nat) {G : Gs}, Iv G → Iv (wrN a n G)
  | 0, _, h => h
  | n + 1, G, h => by
    unfold Jvm.Pilot.@@N@@.wrN
    split
    · exact h
    · exact Iv.wrN ha n (h.wr1 ha)
theorem Iv.eph (set b : Nat) : ∀ (m a left : Nat) {G : Gs}, Iv G → Iv (eph set b m a left G)
  | 0, _, _, _, h => h
  | m + 1, a, left, _, h => Iv.eph set b m _ _ (Iv.eatN a b _ h)
theorem Iv.wph (set : Nat) : ∀ (m a : Nat) {G : Gs}, a + m ≤ 8 → Iv G → Iv (wph set m a G)
  | 0, _, _, _, h => h
  | m + 1, a, _, ha, h => Iv.wph set m _ (by omega) (Iv.wrN (by omega) _ h)
theorem Iv.fph : ∀ (m a : Nat) {G : Gs}, a + m ≤ 8 → Iv G → Iv (fph m a G)
  | 0, _, _, _, h => h
  | m + 1, a, G, ha, h => Iv.fph m _ (by omega) (h.uw (Or.inr (Or.inr (Or.inr (Or.inl ⟨rfl, by have := h.2.2.2.2 a (by omega); omega⟩)))))
theorem Iv.soup : ∀ (m a : Nat) {G : Gs}, a + m ≤ 10 → Iv G → Iv (soup m a G)
  | 0, _, _, _, h => h
  | m + 1, a, G, ha, h => Iv.soup m _ (by omega) (h.u1 (by have := h.2.1 a (by omega); omega))
theorem Iv.day1 {G : Gs} (h : Iv G) (set : Nat) : Iv (day1 set G) := Iv.eph _ _ _ _ _ h
theorem Iv.day2 {G : Gs} (h : Iv G) (set : Nat) : Iv (day2 set G) := Iv.wph _ _ _ (by have := h.1; omega) (h.day1 set)
theorem Iv.day3 {G : Gs} (h : Iv G) (set : Nat) : Iv (day3 set G) := Iv.fph _ _ (by have := h.1; omega) (h.day2 set)
theorem Iv.day {G : Gs} (h : Iv G) (set : Nat) : Iv (day set G) := by
  unfold Jvm.Pilot.@@N@@.day
  split
  · exact Iv.soup 10 0 (by omega) ((h.day3 set).u0 (by omega))
  · exact (h.day3 set).u0 (by omega)
theorem Iv.days (set : Nat) : ∀ (n : Nat) {G : Gs}, Iv G → Iv (days set n G)
  | 0, _, h => h
  | n + 1, _, h => Iv.days set n (h.day set)
theorem days_01 (set : Nat) : ∀ (n : Nat) (G : Gs), days set n G 0 1 = G 0 1 + n
  | 0, _ => rfl
  | n + 1, G => by rw [days, days_01 set n, day_01]; omega
theorem days_0 (set : Nat) {k : Nat} (hk : k ≠ 1) : ∀ (n : Nat) (G : Gs), days set n G 0 k = G 0 k
  | 0, _ => rfl
  | n + 1, G => by rw [days, days_0 set hk n, day_0 set G hk]
theorem days_row (set : Nat) {c : Nat} (h : c ≠ 0) (h1 : c ≠ 1) (h6 : c ≠ 6) (h7 : c ≠ 7) (h8 : c ≠ 8) : ∀ (n : Nat) (G : Gs), days set n G c = G c
  | 0, _ => rfl
  | n + 1, G => by rw [days, days_row set h h1 h6 h7 h8 n, day_row set G h h1 h6 h7 h8]
