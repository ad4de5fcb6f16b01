/-! HOW MANY WORDS, COUNTED BY LETTERS -/
def sN (g : Nat → Nat) : Nat → Nat
  | 0 => 0
  | m + 1 => sN g m + g m
theorem sN_0 (g : Nat → Nat) : ∀ m, sN g (m + 1) = g 0 + sN (fun i => g (i + 1)) m
  | 0 => by simp [sN]
  | m + 1 => by
    rw [sN, sN_0 g m]
    show g 0 + sN (fun i => g (i + 1)) m + g (m + 1) = g 0 + (sN (fun i => g (i + 1)) m + g (m + 1))
    omega
theorem sN_c {g g' : Nat → Nat} : ∀ {m : Nat}, (∀ i, i < m → g i = g' i) → sN g m = sN g' m
  | 0, _ => rfl
  | m + 1, h => by
    rw [sN, sN, sN_c (fun i hi => h i (by omega)), h m (by omega)]
theorem sN_z {g : Nat → Nat} : ∀ {m : Nat}, (∀ i, i < m → g i = 0) → sN g m = 0
  | 0, _ => rfl
  | m + 1, h => by rw [sN, sN_z (fun i hi => h i (by omega)), h m (by omega)]
theorem sN_a (g : Nat → Nat) (m : Nat) : ∀ n, sN g (m + n) = sN g m + sN (fun i => g (m + i)) n
  | 0 => rfl
  | n + 1 => by
    show sN g (m + n) + g (m + n) = sN g m + (sN (fun i => g (m + i)) n + g (m + n))
    rw [sN_a g m n]
    omega
theorem sN_mul (g : Nat → Nat) (b : Nat) : ∀ a, sN g (b * a) = sN (fun i => sN (fun j => g (b * i + j)) b) a
  | 0 => rfl
  | a + 1 => by
    rw [Nat.mul_succ, sN_a, sN_mul g b a]
    rfl
theorem sN_if (P : Prop) {dP : Decidable P} (g : Nat → Nat) (m : Nat) : (if P then sN g m else 0) = sN (fun i => if P then g i else 0) m := by
  by_cases h : P
  · simp only [if_pos h]
  · simp only [if_neg h]
    exact (sN_z (fun _ _ => rfl)).symm
/-- in how many ways j of k places are chosen -/
def bin (k j : Nat) : Nat := match k, j with
  | 1, 1 => 1
  | 2, 1 => 2
  | 2, 2 => 1
  | 3, 1 => 3
  | 3, 2 => 3
  | 3, 3 => 1
  | 4, 1 => 4
  | 4, 2 => 6
  | 4, 3 => 4
  | 4, 4 => 1
  | _, _ => 0
def jS (f : Nat → Nat) (k : Nat) : Nat → Nat → Nat
  | 0, _ => 0
  | m + 1, j => bin k j * f (k - j) + jS f k m (j + 1)
def lst (c : Nat) (f : Nat → Nat) : Nat → Nat := fun i => if 1 ≤ i ∧ i ≤ 4 then f i + jS f i (min c i) 1 else f i
theorem st_0_0 (f : Nat → Nat) : lst 0 f 0 = f 0 := rfl
theorem st_0_1 (f : Nat → Nat) : lst 0 f 1 = f 1 + (0) := rfl
theorem st_0_2 (f : Nat → Nat) : lst 0 f 2 = f 2 + (0) := rfl
theorem st_0_3 (f : Nat → Nat) : lst 0 f 3 = f 3 + (0) := rfl
theorem st_0_4 (f : Nat → Nat) : lst 0 f 4 = f 4 + (0) := rfl
theorem st_1_0 (f : Nat → Nat) : lst 1 f 0 = f 0 := rfl
theorem st_1_1 (f : Nat → Nat) : lst 1 f 1 = f 1 + (1 * f 0 + 0) := rfl
theorem st_1_2 (f : Nat → Nat) : lst 1 f 2 = f 2 + (2 * f 1 + 0) := rfl
theorem st_1_3 (f : Nat → Nat) : lst 1 f 3 = f 3 + (3 * f 2 + 0) := rfl
theorem st_1_4 (f : Nat → Nat) : lst 1 f 4 = f 4 + (4 * f 3 + 0) := rfl
theorem st_2_0 (f : Nat → Nat) : lst 2 f 0 = f 0 := rfl
theorem st_2_1 (f : Nat → Nat) : lst 2 f 1 = f 1 + (1 * f 0 + 0) := rfl
theorem st_2_2 (f : Nat → Nat) : lst 2 f 2 = f 2 + (2 * f 1 + (1 * f 0 + 0)) := rfl
theorem st_2_3 (f : Nat → Nat) : lst 2 f 3 = f 3 + (3 * f 2 + (3 * f 1 + 0)) := rfl
theorem st_2_4 (f : Nat → Nat) : lst 2 f 4 = f 4 + (4 * f 3 + (6 * f 2 + 0)) := rfl
theorem st_3_0 (f : Nat → Nat) : lst 3 f 0 = f 0 := rfl
theorem st_3_1 (f : Nat → Nat) : lst 3 f 1 = f 1 + (1 * f 0 + 0) := rfl
theorem st_3_2 (f : Nat → Nat) : lst 3 f 2 = f 2 + (2 * f 1 + (1 * f 0 + 0)) := rfl
theorem st_3_3 (f : Nat → Nat) : lst 3 f 3 = f 3 + (3 * f 2 + (3 * f 1 + (1 * f 0 + 0))) := rfl
theorem st_3_4 (f : Nat → Nat) : lst 3 f 4 = f 4 + (4 * f 3 + (6 * f 2 + (4 * f 1 + 0))) := rfl
theorem st_4_0 (f : Nat → Nat) : lst 4 f 0 = f 0 := rfl
theorem st_4_1 (f : Nat → Nat) : lst 4 f 1 = f 1 + (1 * f 0 + 0) := rfl
theorem st_4_2 (f : Nat → Nat) : lst 4 f 2 = f 2 + (2 * f 1 + (1 * f 0 + 0)) := rfl
theorem st_4_3 (f : Nat → Nat) : lst 4 f 3 = f 3 + (3 * f 2 + (3 * f 1 + (1 * f 0 + 0))) := rfl
theorem st_4_4 (f : Nat → Nat) : lst 4 f 4 = f 4 + (4 * f 3 + (6 * f 2 + (4 * f 1 + (1 * f 0 + 0)))) := rfl
theorem c4_cases {c : Nat} (h : c ≤ 4) : c = 0 ∨ c = 1 ∨ c = 2 ∨ c = 3 ∨ c = 4 := by omega
theorem lst_add {c k : Nat} (hc : c ≤ 4) (hk : k ≤ 4) (f g : Nat → Nat) : lst c (fun i => f i + g i) k = lst c f k + lst c g k := by
  rcases c4_cases hc with rfl | rfl | rfl | rfl | rfl <;> rcases c4_cases hk with rfl | rfl | rfl | rfl | rfl <;> simp only [st_0_0, st_0_1, st_0_2, st_0_3, st_0_4, st_1_0, st_1_1, st_1_2, st_1_3, st_1_4, st_2_0, st_2_1, st_2_2, st_2_3, st_2_4, st_3_0, st_3_1, st_3_2, st_3_3, st_3_4, st_4_0, st_4_1, st_4_2, st_4_3, st_4_4] <;> omega
theorem lst_0 {c k : Nat} (hc : c ≤ 4) (hk : k ≤ 4) : lst c (fun _ => 0) k = 0 := by
  rcases c4_cases hc with rfl | rfl | rfl | rfl | rfl <;> rcases c4_cases hk with rfl | rfl | rfl | rfl | rfl <;> rfl
theorem lst_d {c k : Nat} (hc : c ≤ 4) (hk : k ≤ 3) (f V : Nat → Nat) (h : ∀ i, i ≤ 3 → f (i + 1) = V i) : lst c f (k + 1) = lst c V k + (if 1 ≤ c then lst (c - 1) f k else 0) := by
  have h0 : f 1 = V 0 := h 0 (by omega)
  have h1 : f 2 = V 1 := h 1 (by omega)
  have h2 : f 3 = V 2 := h 2 (by omega)
  have h3 : f 4 = V 3 := h 3 (by omega)
  rcases (by omega : k = 0 ∨ k = 1 ∨ k = 2 ∨ k = 3) with rfl | rfl | rfl | rfl <;> rcases c4_cases hc with rfl | rfl | rfl | rfl | rfl <;> simp only [Nat.reduceAdd, Nat.reduceSub, Nat.reduceLeDiff, ↓reduceIte, st_0_0, st_0_1, st_0_2, st_0_3, st_0_4, st_1_0, st_1_1, st_1_2, st_1_3, st_1_4, st_2_0, st_2_1, st_2_2, st_2_3, st_2_4, st_3_0, st_3_1, st_3_2, st_3_3, st_3_4, st_4_0, st_4_1, st_4_2, st_4_3, st_4_4, h0, h1, h2, h3] <;> omega
/-- the ways to fill k places with the letters below l, each at most as often as c says -/
def Rv (c : Nat → Nat) : Nat → Nat → Nat
  | 0 => fun j => if j = 0 then 1 else 0
  | l + 1 => lst (c l) (Rv c l)
def dec (c : Nat → Nat) (d : Nat) : Nat → Nat := fun x => if x = d then c x - 1 else c x
theorem Rv_c {c c' : Nat → Nat} : ∀ {l : Nat}, (∀ d, d < l → c d = c' d) → Rv c l = Rv c' l
  | 0, _ => rfl
  | l + 1, h => by rw [Rv, Rv, Rv_c (fun d hd => h d (by omega)), h l (by omega)]
def VS (c : Nat → Nat) (l m k : Nat) : Nat := sN (fun d => if 1 ≤ c d then Rv (dec c d) l k else 0) m
theorem VS_st {c : Nat → Nat} (hc : ∀ d, c d ≤ 4) {l : Nat} : ∀ m, m ≤ l → ∀ k, k ≤ 4 → VS c (l + 1) m k = lst (c l) (VS c l m) k
  | 0, _, k, hk => (lst_0 (hc l) hk).symm
  | m + 1, hm, k, hk => by
    have e1 : VS c (l + 1) (m + 1) k = VS c (l + 1) m k + (if 1 ≤ c m then Rv (dec c m) (l + 1) k else 0) := rfl
    have e2 : VS c l (m + 1) = fun k => VS c l m k + (if 1 ≤ c m then Rv (dec c m) l k else 0) := rfl
    rw [e1, e2, lst_add (hc l) hk, VS_st hc m (by omega) k hk]
    congr 1
    by_cases h : 1 ≤ c m
    · simp only [if_pos h]
      have e3 : dec c m l = c l := if_neg (by omega)
      rw [Rv, e3]
    · simp only [if_neg h]
      exact (lst_0 (hc l) hk).symm
theorem Rv_d {c : Nat → Nat} (hc : ∀ d, c d ≤ 4) : ∀ l k, k ≤ 3 → Rv c l (k + 1) = VS c l l k
  | 0, k, hk => by
    show (if k + 1 = 0 then 1 else 0) = 0
    rw [if_neg (by omega)]
  | l + 1, k, hk => by
    have e1 : VS c (l + 1) (l + 1) k = VS c (l + 1) l k + (if 1 ≤ c l then Rv (dec c l) (l + 1) k else 0) := rfl
    have e2 : Rv c (l + 1) (k + 1) = lst (c l) (Rv c l) (k + 1) := rfl
    rw [e1, e2, lst_d (hc l) hk (Rv c l) (VS c l l) (fun i hi => Rv_d hc l i hi), VS_st hc l (Nat.le_refl _) k (by omega)]
    congr 1
    by_cases h : 1 ≤ c l
    · rw [if_pos h, if_pos h, Rv]
      have e3 : dec c l l = c l - 1 := if_pos rfl
      have e4 : Rv (dec c l) l = Rv c l := Rv_c (fun d hd => if_neg (by omega))
      rw [e3, e4]
    · rw [if_neg h, if_neg h]
/-- the words, place by place -/
def fS : Nat → (Nat → Nat) → Nat
  | 0, _ => 1
  | m + 1, c => sN (fun d => if 1 ≤ c d then fS m (dec c d) else 0) 10
theorem Rv_0 (c : Nat → Nat) : ∀ l, Rv c l 0 = 1
  | 0 => rfl
  | l + 1 => by
    show lst (c l) (Rv c l) 0 = 1
    unfold lst
    rw [if_neg (by omega)]
    exact Rv_0 c l
theorem fS_R : ∀ m, m ≤ 4 → ∀ c : Nat → Nat, (∀ d, c d ≤ 4) → fS m c = Rv c 10 m
  | 0, _, c, _ => (Rv_0 c 10).symm
  | m + 1, hm, c, hc => by
    rw [Rv_d hc 10 m (by omega), fS]
    refine sN_c (fun d _ => ?_)
    by_cases h : 1 ≤ c d
    · rw [if_pos h, if_pos h]
      exact fS_R m (by omega) _ (fun x => by
        have := hc x
        unfold dec
        split <;> omega)
    · rw [if_neg h, if_neg h]
theorem leaf_ok {c : Nat → Nat} {d0 d1 d2 d3 : Nat} : ((if d0 = d0 then 1 else 0) + ((if d1 = d0 then 1 else 0) + ((if d2 = d0 then 1 else 0) + ((if d3 = d0 then 1 else 0) + 0))) ≤ c d0 ∧ (if d0 = d1 then 1 else 0) + ((if d1 = d1 then 1 else 0) + ((if d2 = d1 then 1 else 0) + ((if d3 = d1 then 1 else 0) + 0))) ≤ c d1 ∧ (if d0 = d2 then 1 else 0) + ((if d1 = d2 then 1 else 0) + ((if d2 = d2 then 1 else 0) + ((if d3 = d2 then 1 else 0) + 0))) ≤ c d2 ∧ (if d0 = d3 then 1 else 0) + ((if d1 = d3 then 1 else 0) + ((if d2 = d3 then 1 else 0) + ((if d3 = d3 then 1 else 0) + 0))) ≤ c d3) ↔ (1 ≤ c d0 ∧ 1 ≤ dec c d0 d1 ∧ 1 ≤ dec (dec c d0) d1 d2 ∧ 1 ≤ dec (dec (dec c d0) d1) d2 d3) := by
  by_cases e01 : d0 = d1
  · subst e01
    by_cases e02 : d0 = d2
    · subst e02
      by_cases e03 : d0 = d3
      · subst e03
        simp only [dec, ↓reduceIte, eq_self] <;> omega
      · have f30 : ¬ d3 = d0 := fun z => e03 z.symm
        simp only [dec, ↓reduceIte, eq_self, e03, f30] <;> omega
    · have f20 : ¬ d2 = d0 := fun z => e02 z.symm
      by_cases e03 : d0 = d3
      · subst e03
        simp only [dec, ↓reduceIte, eq_self, e02, f20] <;> omega
      · have f30 : ¬ d3 = d0 := fun z => e03 z.symm
        by_cases e23 : d2 = d3
        · subst e23
          simp only [dec, ↓reduceIte, eq_self, e02, f20, e03, f30] <;> omega
        · have f32 : ¬ d3 = d2 := fun z => e23 z.symm
          simp only [dec, ↓reduceIte, eq_self, e02, f20, e03, f30, e23, f32] <;> omega
  · have f10 : ¬ d1 = d0 := fun z => e01 z.symm
    by_cases e02 : d0 = d2
    · subst e02
      by_cases e03 : d0 = d3
      · subst e03
        simp only [dec, ↓reduceIte, eq_self, e01, f10] <;> omega
      · have f30 : ¬ d3 = d0 := fun z => e03 z.symm
        by_cases e13 : d1 = d3
        · subst e13
          simp only [dec, ↓reduceIte, eq_self, e01, f10, e03, f30] <;> omega
        · have f31 : ¬ d3 = d1 := fun z => e13 z.symm
          simp only [dec, ↓reduceIte, eq_self, e01, f10, e03, f30, e13, f31] <;> omega
    · have f20 : ¬ d2 = d0 := fun z => e02 z.symm
      by_cases e12 : d1 = d2
      · subst e12
        by_cases e03 : d0 = d3
        · subst e03
          simp only [dec, ↓reduceIte, eq_self, e01, f10, e02, f20] <;> omega
        · have f30 : ¬ d3 = d0 := fun z => e03 z.symm
          by_cases e13 : d1 = d3
          · subst e13
            simp only [dec, ↓reduceIte, eq_self, e01, f10, e02, f20, e03, f30] <;> omega
          · have f31 : ¬ d3 = d1 := fun z => e13 z.symm
            simp only [dec, ↓reduceIte, eq_self, e01, f10, e02, f20, e03, f30, e13, f31] <;> omega
      · have f21 : ¬ d2 = d1 := fun z => e12 z.symm
        by_cases e03 : d0 = d3
        · subst e03
          simp only [dec, ↓reduceIte, eq_self, e01, f10, e02, f20, e12, f21] <;> omega
        · have f30 : ¬ d3 = d0 := fun z => e03 z.symm
          by_cases e13 : d1 = d3
          · subst e13
            simp only [dec, ↓reduceIte, eq_self, e01, f10, e02, f20, e12, f21, e03, f30] <;> omega
          · have f31 : ¬ d3 = d1 := fun z => e13 z.symm
            by_cases e23 : d2 = d3
            · subst e23
              simp only [dec, ↓reduceIte, eq_self, e01, f10, e02, f20, e12, f21, e03, f30, e13, f31] <;> omega
            · have f32 : ¬ d3 = d2 := fun z => e23 z.symm
              simp only [dec, ↓reduceIte, eq_self, e01, f10, e02, f20, e12, f21, e03, f30, e13, f31, e23, f32] <;> omega
def capv (v J : Nat) : Nat := if v = 0 then 4 else min 4 (J / v)
theorem cap_iff {v J h : Nat} (h1 : 1 ≤ h) (h4 : h ≤ 4) : v ≤ J / h ↔ h ≤ capv v J := by
  unfold capv
  by_cases q : v = 0
  · rw [if_pos q, q]
    exact ⟨fun _ => h4, fun _ => Nat.zero_le _⟩
  · rw [if_neg q, Nat.le_div_iff_mul_le (by omega), Nat.le_min, Nat.le_div_iff_mul_le (by omega), Nat.mul_comm]
    constructor
    · exact fun z => ⟨h4, z⟩
    · exact fun z => z.2
theorem hw_4 (x d : Nat) : hw x d 4 0 = (if dg x 0 = d then 1 else 0) + ((if dg x 1 = d then 1 else 0) + ((if dg x 2 = d then 1 else 0) + ((if dg x 3 = d then 1 else 0) + 0))) := rfl
theorem hw_in (x : Nat) {p : Nat} (hp : p < 4) : 1 ≤ hw x (dg x p) 4 0 ∧ hw x (dg x p) 4 0 ≤ 4 := by
  refine ⟨?_, hw_le x _ 4 0⟩
  rw [hw_4]
  rcases t_cases hp with rfl | rfl | rfl | rfl <;> simp only [↓reduceIte] <;> omega
theorem spl_iff {A : Gs} {v x : Nat} (hv : v ≤ 9) : v ≤ spl A x 4 0 999 ↔ (hw x (dg x 0) 4 0 ≤ capv v (A 1 (dg x 0)) ∧ hw x (dg x 1) 4 0 ≤ capv v (A 1 (dg x 1)) ∧ hw x (dg x 2) 4 0 ≤ capv v (A 1 (dg x 2)) ∧ hw x (dg x 3) 4 0 ≤ capv v (A 1 (dg x 3))) := by
  have e : spl A x 4 0 999 = min (min (min (min 999 (A 1 (dg x 0) / hw x (dg x 0) 4 0)) (A 1 (dg x 1) / hw x (dg x 1) 4 0)) (A 1 (dg x 2) / hw x (dg x 2) 4 0)) (A 1 (dg x 3) / hw x (dg x 3) 4 0) := rfl
  have i0 := hw_in x (p := 0) (by omega)
  have i1 := hw_in x (p := 1) (by omega)
  have i2 := hw_in x (p := 2) (by omega)
  have i3 := hw_in x (p := 3) (by omega)
  rw [e, Nat.le_min, Nat.le_min, Nat.le_min, Nat.le_min, cap_iff i0.1 i0.2, cap_iff i1.1 i1.2, cap_iff i2.1 i2.2, cap_iff i3.1 i3.2]
  constructor
  · rintro ⟨⟨⟨⟨-, a⟩, b⟩, c⟩, d⟩
    exact ⟨a, b, c, d⟩
  · rintro ⟨a, b, c, d⟩
    exact ⟨⟨⟨⟨by omega, a⟩, b⟩, c⟩, d⟩
theorem if4 (P Q R S : Prop) {h1 : Decidable P} {h2 : Decidable Q} {h3 : Decidable R} {h4 : Decidable S} {X : Prop} {hX : Decidable X} (h : X = (P ∧ Q ∧ R ∧ S)) : (if P then (if Q then (if R then (if S then 1 else 0) else 0) else 0) else 0 : Nat) = if X then 1 else 0 := by
  by_cases p : P
  · by_cases q : Q
    · by_cases r : R
      · by_cases s : S
        · rw [if_pos p, if_pos q, if_pos r, if_pos s, if_pos (h ▸ ⟨p, q, r, s⟩)]
        · rw [if_pos p, if_pos q, if_pos r, if_neg s, if_neg (fun z => by rw [h] at z; exact s z.2.2.2)]
      · rw [if_pos p, if_pos q, if_neg r, if_neg (fun z => by rw [h] at z; exact r z.2.2.1)]
    · rw [if_pos p, if_neg q, if_neg (fun z => by rw [h] at z; exact q z.2.1)]
  · rw [if_neg p, if_neg (fun z => by rw [h] at z; exact p z.1)]
theorem word_leaf {A : Gs} {v d0 d1 d2 d3 : Nat} (hv : v ≤ 9) (h0 : d0 < 10) (h1 : d1 < 10) (h2 : d2 < 10) (h3 : d3 < 10) : (v ≤ spl A (1000 * d0 + (100 * d1 + (10 * d2 + d3))) 4 0 999) = (1 ≤ capv v (A 1 d0) ∧ 1 ≤ dec (fun d => capv v (A 1 d)) d0 d1 ∧ 1 ≤ dec (dec (fun d => capv v (A 1 d)) d0) d1 d2 ∧ 1 ≤ dec (dec (dec (fun d => capv v (A 1 d)) d0) d1) d2 d3) := by
  have g0 : dg (1000 * d0 + (100 * d1 + (10 * d2 + d3))) 0 = d0 := by show _ / 1000 % 10 = d0; omega
  have g1 : dg (1000 * d0 + (100 * d1 + (10 * d2 + d3))) 1 = d1 := by show _ / 100 % 10 = d1; omega
  have g2 : dg (1000 * d0 + (100 * d1 + (10 * d2 + d3))) 2 = d2 := by show _ / 10 % 10 = d2; omega
  have g3 : dg (1000 * d0 + (100 * d1 + (10 * d2 + d3))) 3 = d3 := by show _ / 1 % 10 = d3; omega
  rw [propext (spl_iff (A := A) hv), hw_4, hw_4, hw_4, hw_4, g0, g1, g2, g3]
  exact propext (leaf_ok (c := fun d => capv v (A 1 d)))
theorem cntT_s (A : Gs) (v : Nat) : ∀ m k, cntT A v m k = sN (fun i => if v ≤ spl A (k + i) 4 0 999 then 1 else 0) m
  | 0, _ => rfl
  | m + 1, k => by
    rw [cntT, sN_0, cntT_s A v m (k + 1)]
    congr 1
    refine sN_c (fun i _ => ?_)
    rw [show k + 1 + i = k + (i + 1) by omega]
theorem cnt_R {A : Gs} {v : Nat} (hv : v ≤ 9) : cntT A v 10000 0 = Rv (fun d => capv v (A 1 d)) 10 4 := by
  have hc : ∀ d, (fun d => capv v (A 1 d)) d ≤ 4 := fun d => by
    show capv v (A 1 d) ≤ 4
    unfold capv
    split
    · omega
    · exact Nat.min_le_left _ _
  rw [← fS_R 4 (by omega) _ hc, cntT_s]
  refine (sN_mul _ 1000 10).trans ?_
  show _ = sN (fun d0 => if 1 ≤ capv v (A 1 d0) then sN (fun d1 => if 1 ≤ dec (fun d => capv v (A 1 d)) d0 d1 then sN (fun d2 => if 1 ≤ dec (dec (fun d => capv v (A 1 d)) d0) d1 d2 then sN (fun d3 => if 1 ≤ dec (dec (dec (fun d => capv v (A 1 d)) d0) d1) d2 d3 then 1 else 0) 10 else 0) 10 else 0) 10 else 0) 10
  refine sN_c (fun d0 h0 => ?_)
  rw [sN_if]
  refine (sN_mul _ 100 10).trans ?_
  refine sN_c (fun d1 h1 => ?_)
  rw [sN_if, sN_if]
  refine (sN_mul _ 10 10).trans ?_
  refine sN_c (fun d2 h2 => ?_)
  rw [sN_if, sN_if, sN_if]
  refine sN_c (fun d3 h3 => ?_)
  have e : 0 + (1000 * d0 + (100 * d1 + (10 * d2 + d3))) = 1000 * d0 + (100 * d1 + (10 * d2 + d3)) := Nat.zero_add _
  show (if v ≤ spl A (0 + (1000 * d0 + (100 * d1 + (10 * d2 + d3)))) 4 0 999 then 1 else 0) = _
  rw [e]
  exact (if4 _ _ _ _ (word_leaf (A := A) hv h0 h1 h2 h3)).symm
