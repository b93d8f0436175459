/-! ===== a tune is copied, on both sides ===== -/
theorem rpC_o {τ : Nat → Nat → Nat} {u v w : Nat} {mv : Nat → Nat} {i : Nat} (h : ∀ p, p < 32 → i ≠ v * 32 + p) : ∀ k, rpC τ u v w mv k i = τ 0 i
  | 0 => rfl
  | k + 1 => by
    show fu (rpC τ u v w mv k) (v * 32 + (k + w) % 32) _ i = _
    rw [fu_ne (h _ (Nat.mod_lt _ (by decide))), rpC_o h k]
theorem rpC_at {τ : Nat → Nat → Nat} {u v w : Nat} {mv : Nat → Nat} (huv : u ≠ v) : ∀ k, k ≤ 32 → ∀ i, i < k → rpC τ u v w mv k (v * 32 + (i + w) % 32) = mv (τ 0 (u * 32 + i)) &&& 4095
  | 0, _, i, hi => by omega
  | k + 1, hk, i, hi => by
    show fu (rpC τ u v w mv k) (v * 32 + (k + w) % 32) (mv (rpC τ u v w mv k (u * 32 + k)) &&& 4095) _ = _
    by_cases e : i = k
    · subst e
      rw [fu_at, rpC_o (fun p hp => by omega)]
    · rw [fu_ne (by omega), rpC_at huv k (by omega) i (by omega)]
theorem clr_at {g : Nat → Nat} {t : Nat} : ∀ k i, clr g t k i = if 12 * t ≤ i ∧ i < 12 * t + k then 0 else g i
  | 0, i => by
    rw [if_neg (by omega)]; rfl
  | k + 1, i => by
    show fu (clr g t k) (12 * t + k) 0 i = _
    by_cases e : i = 12 * t + k
    · rw [e, fu_at, if_pos (by omega)]
    · rw [fu_ne e, clr_at k i]
      by_cases h : 12 * t ≤ i ∧ i < 12 * t + k
      · rw [if_pos h, if_pos (by omega)]
      · rw [if_neg h, if_neg (by omega)]
theorem cpl_o {g : Nat → Nat} {f t u v i : Nat} (h : ∀ j, j < 12 → i ≠ 12 * t + j) : ∀ k, cpl g f t u v k i = g i
  | 0 => rfl
  | k + 1 => by
    rw [cpl]
    split
    · rename_i c
      rw [fu_ne (h _ (by omega)), cpl_o h k]
    · exact cpl_o h k
theorem cpl_bit {g : Nat → Nat} {f t u v : Nat} (hft : f ≠ t) (j p : Nat) (hj : j < 12) : ∀ k, k ≤ 384 → ((cpl g f t u v k (12 * t + j)).testBit p = true ↔ (g (12 * t + j)).testBit p = true ∨ ∃ m, m < k ∧ pb g f (m / 32) (m % 32) = true ∧ m / 32 + v = j + 12 ∧ (m % 32 + u) % 32 = p)
  | 0, _ => by
    constructor
    · exact Or.inl
    · rintro (q | ⟨m, hm, -⟩)
      · exact q
      · omega
  | k + 1, hk => by
    have ih := cpl_bit (u := u) (v := v) (g := g) hft j p hj k (by omega)
    have hsrc : pb (cpl g f t u v k) f (k / 32) (k % 32) = pb g f (k / 32) (k % 32) := by
      unfold pb
      rw [cpl_o (fun j hj => by omega)]
    by_cases c : pb g f (k / 32) (k % 32) = true ∧ 12 ≤ k / 32 + v ∧ k / 32 + v < 24
    · rw [cpl_t (by rw [hsrc]; exact c.1) c.2.1 c.2.2]
      by_cases e : k / 32 + v - 12 = j
      · rw [e, fu_at, Nat.testBit_or, Nat.testBit_two_pow, Bool.or_eq_true, ih]
        constructor
        · rintro ((q | ⟨m, hm, q⟩) | q)
          · exact Or.inl q
          · exact Or.inr ⟨m, by omega, q⟩
          · exact Or.inr ⟨k, by omega, c.1, by omega, of_decide_eq_true q⟩
        · rintro (q | ⟨m, hm, q1, q2, q3⟩)
          · exact Or.inl (Or.inl q)
          · by_cases em : m = k
            · subst em
              exact Or.inr (decide_eq_true q3)
            · exact Or.inl (Or.inr ⟨m, by omega, q1, q2, q3⟩)
      · rw [fu_ne (by omega), ih]
        constructor
        · rintro (q | ⟨m, hm, q⟩)
          · exact Or.inl q
          · exact Or.inr ⟨m, by omega, q⟩
        · rintro (q | ⟨m, hm, q1, q2, q3⟩)
          · exact Or.inl q
          · by_cases em : m = k
            · subst em; omega
            · exact Or.inr ⟨m, by omega, q1, q2, q3⟩
    · rw [cpl_f (by rw [hsrc]; exact c), ih]
      constructor
      · rintro (q | ⟨m, hm, q⟩)
        · exact Or.inl q
        · exact Or.inr ⟨m, by omega, q⟩
      · rintro (q | ⟨m, hm, q1, q2, q3⟩)
        · exact Or.inl q
        · by_cases em : m = k
          · subst em
            exact absurd ⟨q1, by omega, by omega⟩ c
          · exact Or.inr ⟨m, by omega, q1, q2, q3⟩
