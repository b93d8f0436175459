/-! ===== a pin comes to a tooth, on both sides ===== -/
theorem rl_dims {τ : Nat → Nat → Nat} {σ : Nat → Nat} (h : rl τ σ) : ∀ j, j < 12 → τ 1 j - τ 12 0 = σ (36 + 4 * j + 0) ∧ τ 2 j = σ (36 + 4 * j + 1) ∧ (τ 7 0).testBit j = decide (¬ σ (36 + 4 * j + 2) = 0) ∧ τ 3 j = σ (36 + 4 * j + 3) := h.2.1
/-- what a relation asks of two that differ at a tooth's four places and at the squeaks -/
theorem rl_tooth {τ υ : Nat → Nat → Nat} {σ ψ : Nat → Nat} {j : Nat} (h : rl τ σ) (hj : j < 12)
    (hσ : ∀ i, (i < 36 ∨ 84 ≤ i) → i ≠ 140 → ψ i = σ i) (ht : ∀ i, i < 12 → i ≠ j → ∀ w, w < 4 → ψ (36 + 4 * i + w) = σ (36 + 4 * i + w))
    (u0 : υ 0 = τ 0) (u1 : ∀ i, i ≠ j → υ 1 i = τ 1 i) (u2 : ∀ i, i ≠ j → υ 2 i = τ 2 i) (u3 : υ 3 = τ 3) (u4 : υ 4 = τ 4) (u5 : υ 5 = τ 5) (u6 : υ 6 = τ 6) (u7 : ∀ i, i ≠ j → i < 12 → (υ 7 0).testBit i = (τ 7 0).testBit i) (u8 : ∀ k, 8 ≤ k → k ≠ 15 → υ k = τ k)
    (k1 : υ 1 j - τ 12 0 = ψ (36 + 4 * j + 0)) (k2 : υ 2 j = ψ (36 + 4 * j + 1)) (k3 : (υ 7 0).testBit j = decide (¬ ψ (36 + 4 * j + 2) = 0)) (k4 : ψ (36 + 4 * j + 3) = σ (36 + 4 * j + 3)) (k5 : υ 15 0 = ψ 140) : rl υ ψ := by
  obtain ⟨hC, hT, ⟨n1, n2⟩, ⟨v0, v1, v2, v3, v4, v5, v6, v7, v8⟩, ⟨s0, s1, s2, s3, s4⟩⟩ := h
  have e8 := u8 8 (by decide) (by decide)
  have e9 := u8 9 (by decide) (by decide)
  have e10 := u8 10 (by decide) (by decide)
  have e11 := u8 11 (by decide) (by decide)
  have e12 := u8 12 (by decide) (by decide)
  have e13 := u8 13 (by decide) (by decide)
  have e14 := u8 14 (by decide) (by decide)
  have e16 := u8 16 (by decide) (by decide)
  refine ⟨?_, ?_, ⟨?_, ?_⟩, ⟨?_, ?_, ?_, ?_, ?_, ?_, ?_, ?_, ?_⟩, ⟨?_, ?_, ?_, ?_, ?_⟩⟩
  · intro t ht' i hi p hp
    rw [u0, hσ _ (by omega) (by omega)]
    exact hC t ht' i hi p hp
  · intro i hi
    by_cases e : i = j
    · subst e
      rw [e12, u3, k4]
      exact ⟨k1, k2, k3, (hT i hi).2.2.2⟩
    · rw [e12, u1 i e, u2 i e, u3, u7 i e hi, ht i hi e 0 (by decide), ht i hi e 1 (by decide), ht i hi e 2 (by decide), ht i hi e 3 (by decide)]
      exact hT i hi
  · rw [hσ _ (by omega) (by omega), e14]; exact n1
  · intro b hb
    rw [hσ 132 (by omega) (by omega)] at hb
    have hb24 : b < 24 := by omega
    rw [hσ _ (by omega) (by omega), hσ _ (by omega) (by omega), u4, u5, e14]
    exact n2 b hb
  · rw [e8, hσ _ (by omega) (by omega)]; exact v0
  · rw [e9, hσ _ (by omega) (by omega)]; exact v1
  · rw [e10, hσ _ (by omega) (by omega)]; exact v2
  · rw [e11, hσ _ (by omega) (by omega)]; exact v3
  · rw [e12, hσ _ (by omega) (by omega)]; exact v4
  · rw [e13, hσ _ (by omega) (by omega)]; exact v5
  · rw [e14, hσ _ (by omega) (by omega)]; exact v6
  · exact k5
  · rw [e16, hσ _ (by omega) (by omega)]; exact v8
  · rw [u6, hσ _ (by omega) (by omega)]; exact s0
  · rw [u6, hσ _ (by omega) (by omega)]; exact s1
  · rw [u6, hσ _ (by omega) (by omega)]; exact s2
  · rw [u6, hσ _ (by omega) (by omega)]; exact s3
  · rw [u6, hσ _ (by omega) (by omega)]; exact s4
