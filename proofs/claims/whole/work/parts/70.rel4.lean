/-! ===== pins set and taken, on both sides ===== -/
theorem rlC.put {g σ : Nat → Nat} (h : rlC g σ) {t j p : Nat} (ht : t < 3) (hj : j < 12) (hp : p < 32) : rlC (fu g (t * 32 + p) (g (t * 32 + p) ||| 2 ^ j)) (fu σ (12 * t + j) (σ (12 * t + j) ||| 2 ^ p)) := by
  intro t' ht' j' hj' p' hp'
  by_cases a : t' = t
  · subst a
    by_cases b : p' = p
    · subst b
      rw [fu_at, Nat.testBit_or, Nat.testBit_two_pow]
      by_cases c : j' = j
      · subst c
        rw [fu_at, Nat.testBit_or, Nat.testBit_two_pow, h t' ht' j' hj' p' hp']
        simp
      · rw [fu_ne (show 12 * t' + j' ≠ 12 * t' + j by omega), h t' ht' j' hj' p' hp']
        have e : ¬ j = j' := fun q => c q.symm
        simp [e]
    · rw [fu_ne (show t' * 32 + p' ≠ t' * 32 + p by omega), h t' ht' j' hj' p' hp']
      by_cases c : j' = j
      · subst c
        rw [fu_at, Nat.testBit_or, Nat.testBit_two_pow]
        have e : ¬ p = p' := fun q => b q.symm
        simp [e]
      · rw [fu_ne (show 12 * t' + j' ≠ 12 * t' + j by omega)]
  · rw [fu_ne (show t' * 32 + p' ≠ t * 32 + p by omega), fu_ne (show 12 * t' + j' ≠ 12 * t + j by omega)]
    exact h t' ht' j' hj' p' hp'
theorem ntb {i k : Nat} (hk : k < 32) (hi : i < 32) : (2 ^ k ^^^ 4294967295).testBit i = !decide (k = i) := by
  rw [Nat.testBit_xor, Nat.testBit_two_pow, show (4294967295 : Nat) = 2 ^ 32 - 1 from rfl, Nat.testBit_two_pow_sub_one]
  simp [hi]
theorem rlC.take {g σ : Nat → Nat} (h : rlC g σ) {t j p : Nat} (ht : t < 3) (hj : j < 12) (hp : p < 32) : rlC (fu g (t * 32 + p) (g (t * 32 + p) &&& (2 ^ j ^^^ 4294967295))) (fu σ (12 * t + j) (σ (12 * t + j) &&& (2 ^ p ^^^ 4294967295))) := by
  intro t' ht' j' hj' p' hp'
  by_cases a : t' = t
  · subst a
    by_cases b : p' = p
    · subst b
      rw [fu_at, Nat.testBit_and, ntb (by omega) (by omega)]
      by_cases c : j' = j
      · subst c
        rw [fu_at, Nat.testBit_and, ntb hp (by omega)]
        simp
      · rw [fu_ne (show 12 * t' + j' ≠ 12 * t' + j by omega), h t' ht' j' hj' p' hp']
        have e : ¬ j = j' := fun q => c q.symm
        simp [e]
    · rw [fu_ne (show t' * 32 + p' ≠ t' * 32 + p by omega), h t' ht' j' hj' p' hp']
      by_cases c : j' = j
      · subst c
        rw [fu_at, Nat.testBit_and, ntb hp (by omega)]
        have e : ¬ p = p' := fun q => b q.symm
        simp [e]
      · rw [fu_ne (show 12 * t' + j' ≠ 12 * t' + j by omega)]
  · rw [fu_ne (show t' * 32 + p' ≠ t * 32 + p by omega), fu_ne (show 12 * t' + j' ≠ 12 * t + j by omega)]
    exact h t' ht' j' hj' p' hp'
