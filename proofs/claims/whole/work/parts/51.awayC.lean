/-! AWAY: BY SIZE, OR THE BEST OF ALL -/
def ain (P : Nat → Bool) : Nat → Nat → Nat
  | 0, _ => 256
  | m + 1, s => if P s = true then s else ain P m (s + 1)
def awP (Q : Nat → Bool) (a z s : Nat) : Bool := decide (pop s = z) && decide (s / 2 ^ a % 2 = 0) && Q s
def aout (Q : Nat → Bool) (a N : Nat) : Nat → Nat → Nat
  | 0, _ => 256
  | m + 1, z => if ain (awP Q a z) (2 ^ N) 0 < 256 then ain (awP Q a z) (2 ^ N) 0 else aout Q a N m (z + 1)
def Bst (Q : Nat → Bool) (a s b : Nat) : Prop := (b = 256 ∧ ∀ i, i < s → ¬ (i / 2 ^ a % 2 = 0 ∧ Q i = true)) ∨ (b < s ∧ (b / 2 ^ a % 2 = 0 ∧ Q b = true) ∧ ∀ i, i < s → (i / 2 ^ a % 2 = 0 ∧ Q i = true) → pop b < pop i ∨ pop b = pop i ∧ b ≤ i)
theorem awm_ch (Q : Nat → Bool) (a : Nat) : ∀ m s b, s + m ≤ 256 → Bst Q a s b → Bst Q a (s + m) (awm Q a m s b)
  | 0, _, _, _, h => h
  | m + 1, s, b, hs, h => by
    have e : s + (m + 1) = s + 1 + m := by omega
    rw [awm, e]
    refine awm_ch Q a m (s + 1) _ (by omega) ?_
    by_cases q1 : s / 2 ^ a % 2 = 0 ∧ Q s = true
    · rcases h with ⟨h1, h2⟩ | ⟨h1, h2, h3⟩
      · rw [if_pos ⟨q1.1, Or.inl (by omega), q1.2⟩]
        refine Or.inr ⟨by omega, q1, fun i hi hp => ?_⟩
        by_cases hi2 : i = s
        · subst hi2; exact Or.inr ⟨rfl, Nat.le_refl _⟩
        · exact absurd hp (h2 i (by omega))
      · by_cases q2 : pop s < pop b
        · rw [if_pos ⟨q1.1, Or.inr q2, q1.2⟩]
          refine Or.inr ⟨by omega, q1, fun i hi hp => ?_⟩
          by_cases hi2 : i = s
          · subst hi2; exact Or.inr ⟨rfl, Nat.le_refl _⟩
          · have := h3 i (by omega) hp
            omega
        · rw [if_neg (fun z => by have := z.2.1; omega)]
          refine Or.inr ⟨by omega, h2, fun i hi hp => ?_⟩
          by_cases hi2 : i = s
          · subst hi2; omega
          · exact h3 i (by omega) hp
    · rw [if_neg (fun z => q1 ⟨z.1, z.2.2⟩)]
      rcases h with ⟨h1, h2⟩ | ⟨h1, h2, h3⟩
      · refine Or.inl ⟨h1, fun i hi hp => ?_⟩
        by_cases hi2 : i = s
        · subst hi2; exact q1 hp
        · exact h2 i (by omega) hp
      · refine Or.inr ⟨by omega, h2, fun i hi hp => ?_⟩
        by_cases hi2 : i = s
        · subst hi2; exact absurd hp q1
        · exact h3 i (by omega) hp
theorem ain_ch (P : Nat → Bool) : ∀ m s, s + m ≤ 256 → (ain P m s = 256 ∧ ∀ i, s ≤ i → i < s + m → P i = false) ∨ (s ≤ ain P m s ∧ ain P m s < s + m ∧ P (ain P m s) = true ∧ ∀ i, s ≤ i → i < ain P m s → P i = false)
  | 0, s, _ => Or.inl ⟨rfl, fun i h1 h2 => by omega⟩
  | m + 1, s, hs => by
    rw [ain]
    cases q : P s with
    | true =>
      rw [if_pos rfl]
      exact Or.inr ⟨Nat.le_refl _, by omega, q, fun i h1 h2 => by omega⟩
    | false =>
      rw [if_neg (by decide)]
      rcases ain_ch P m (s + 1) (by omega) with ⟨h1, h2⟩ | ⟨h1, h2, h3, h4⟩
      · refine Or.inl ⟨h1, fun i g1 g2 => ?_⟩
        by_cases e : i = s
        · subst e; exact q
        · exact h2 i (by omega) (by omega)
      · refine Or.inr ⟨by omega, by omega, h3, fun i g1 g2 => ?_⟩
        by_cases e : i = s
        · subst e; exact q
        · exact h4 i (by omega) g2
theorem awP_t {Q : Nat → Bool} {a z s : Nat} : awP Q a z s = true ↔ pop s = z ∧ s / 2 ^ a % 2 = 0 ∧ Q s = true := by
  unfold awP
  rw [Bool.and_eq_true, Bool.and_eq_true, decide_eq_true_eq, decide_eq_true_eq, and_assoc]
theorem aout_ch (Q : Nat → Bool) (a N : Nat) (hN : N ≤ 8) : ∀ m z, (∀ i, i < 2 ^ N → i / 2 ^ a % 2 = 0 ∧ Q i = true → z ≤ pop i ∧ pop i < z + m) → Bst Q a (2 ^ N) (aout Q a N m z)
  | 0, z, h => Or.inl ⟨rfl, fun i hi hp => by have := h i hi hp; omega⟩
  | m + 1, z, h => by
    have hp8 := pow_le8 hN
    rw [aout]
    rcases ain_ch (awP Q a z) (2 ^ N) 0 (by omega) with ⟨h1, h2⟩ | ⟨h1, h2, h3, h4⟩
    · rw [if_neg (by omega)]
      refine aout_ch Q a N hN m (z + 1) (fun i hi hp => ?_)
      have q := h i hi hp
      have q2 := h2 i (by omega) (by omega)
      have q3 : pop i ≠ z := fun e => by
        have := awP_t.mpr ⟨e, hp.1, hp.2⟩
        rw [q2] at this
        exact absurd this (by decide)
      omega
    · rw [if_pos (by omega)]
      have q3 := awP_t.mp h3
      refine Or.inr ⟨by omega, q3.2, fun i hi hp => ?_⟩
      have q := h i hi hp
      by_cases e : pop i = z
      · right
        refine ⟨by omega, ?_⟩
        by_cases q5 : i < ain (awP Q a z) (2 ^ N) 0
        · have q6 := h4 i (by omega) q5
          have := awP_t.mpr ⟨e, hp.1, hp.2⟩
          rw [q6] at this
          exact absurd this (by decide)
        · omega
      · left; omega
theorem Bst_un {Q : Nat → Bool} {a s b b' : Nat} (hs : s ≤ 256) (h : Bst Q a s b) (h' : Bst Q a s b') : b = b' := by
  rcases h with ⟨h1, h2⟩ | ⟨h1, h2, h3⟩
  · rcases h' with ⟨g1, g2⟩ | ⟨g1, g2, g3⟩
    · omega
    · exact absurd g2 (h2 b' g1)
  · rcases h' with ⟨g1, g2⟩ | ⟨g1, g2, g3⟩
    · exact absurd h2 (g2 b h1)
    · have q1 := h3 b' g1 g2
      have q2 := g3 b h1 h2
      omega
theorem pop_lt : ∀ a, a < 8 → ∀ N, N < 9 → ∀ s, s < 256 → ¬ (a < N ∧ s < 2 ^ N ∧ s / 2 ^ a % 2 = 0) ∨ pop s < N := by decide +kernel
theorem away_same (Q : Nat → Bool) {a N : Nat} (hN : N ≤ 8) (ha : a < N) : aout Q a N N 0 = awm Q a (2 ^ N) 0 256 := by
  have hp8 := pow_le8 hN
  refine Bst_un (s := 2 ^ N) hp8 (aout_ch Q a N hN N 0 (fun i hi hp => ⟨by omega, ?_⟩)) ?_
  · rcases pop_lt a (by omega) N (by omega) i (by omega) with q | q
    · exact absurd ⟨ha, hi, hp.1⟩ q
    · omega
  · have := awm_ch Q a (2 ^ N) 0 256 (by omega) (Or.inl ⟨rfl, fun i hi => by omega⟩)
    rw [Nat.zero_add] at this
    exact this
