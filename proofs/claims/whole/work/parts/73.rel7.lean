theorem rl_copy {τ : Nat → Nat → Nat} {σ : Nat → Nat} (h : rlC (τ 0) σ) (hg : ∀ k, k < 96 → τ 0 k < 4096) {f t w v : Nat} {mv : Nat → Nat} (hf : f < 3) (ht : t < 3) (hft : f ≠ t) (hw : w < 64)
    (hmv : ∀ x, x < 4096 → ∀ j, j < 12 → ((mv x).testBit j = true ↔ ∃ a, a < 12 ∧ x.testBit a = true ∧ a + v = j + 12)) : rlC (rpC τ f t w mv 32) (cpl (clr σ t 12) f t w v 384) := by
  intro t' ht' j hj p hp
  by_cases e : t' = t
  · subst e
    have hi : (p + 64 - w) % 32 < 32 := Nat.mod_lt _ (by decide)
    have hpi : ((p + 64 - w) % 32 + w) % 32 = p := by omega
    have e1 := rpC_at (τ := τ) (w := w) (mv := mv) hft 32 (Nat.le_refl _) _ hi
    rw [hpi] at e1
    rw [e1]
    have hx : τ 0 (f * 32 + (p + 64 - w) % 32) < 4096 := hg _ (by omega)
    have h4 : (4095 : Nat).testBit j = true := by
      rw [show (4095 : Nat) = 2 ^ 12 - 1 from rfl, Nat.testBit_two_pow_sub_one]
      exact decide_eq_true hj
    rw [Nat.testBit_and, h4, Bool.and_true]
    have e2 := cpl_bit (g := clr σ t' 12) (u := w) (v := v) hft j p hj 384 (Nat.le_refl _)
    have e3 : clr σ t' 12 (12 * t' + j) = 0 := by rw [clr_at, if_pos (by omega)]
    rw [e3, Nat.zero_testBit] at e2
    have e4 : (mv (τ 0 (f * 32 + (p + 64 - w) % 32))).testBit j = true ↔ (cpl (clr σ t' 12) f t' w v 384 (12 * t' + j)).testBit p = true := by
      rw [hmv _ hx j hj, e2]
      constructor
      · rintro ⟨a, ha, q, hv⟩
        refine Or.inr ⟨a * 32 + (p + 64 - w) % 32, by omega, ?_, by omega, by omega⟩
        have d1 : (a * 32 + (p + 64 - w) % 32) / 32 = a := by omega
        have d2 : (a * 32 + (p + 64 - w) % 32) % 32 = (p + 64 - w) % 32 := by omega
        rw [d1, d2]
        show (clr σ t' 12 (12 * f + a)).testBit _ = true
        rw [clr_at, if_neg (by omega), ← h f hf a ha _ hi]
        exact q
      · rintro (q | ⟨m, hm, q1, q2, q3⟩)
        · cases q
        · have d3 : m % 32 = (p + 64 - w) % 32 := by omega
          refine ⟨m / 32, by omega, ?_, q2⟩
          have q4 : (clr σ t' 12 (12 * f + m / 32)).testBit (m % 32) = true := q1
          rw [clr_at, if_neg (by omega), ← h f hf (m / 32) (by omega) _ (Nat.mod_lt _ (by decide)), d3] at q4
          exact q4
    cases c : (cpl (clr σ t' 12) f t' w v 384 (12 * t' + j)).testBit p
    · cases d : (mv (τ 0 (f * 32 + (p + 64 - w) % 32))).testBit j
      · rfl
      · rw [e4.mp d] at c; cases c
    · exact e4.mpr c
  · rw [rpC_o (fun p hp => by omega), cpl_o (fun j hj => by omega), clr_at, if_neg (by omega)]
    exact h t' ht' j hj p hp
theorem mv_up {h : Nat} (hh : h ≤ 11) : ∀ x, x < 4096 → ∀ j, j < 12 → ((x * 2 ^ h).testBit j = true ↔ ∃ a, a < 12 ∧ x.testBit a = true ∧ a + (h + 12) = j + 12) := by
  intro x hx j hj
  rw [← Nat.shiftLeft_eq, Nat.testBit_shiftLeft, Bool.and_eq_true, decide_eq_true_eq]
  constructor
  · rintro ⟨q1, q2⟩
    exact ⟨j - h, by omega, q2, by omega⟩
  · rintro ⟨a, ha, q, e⟩
    have e2 : j - h = a := by omega
    exact ⟨by omega, by rw [e2]; exact q⟩
theorem mv_dn {q : Nat} (hq : q < 12) : ∀ x, x < 4096 → ∀ j, j < 12 → ((x / 2 ^ (12 - q)).testBit j = true ↔ ∃ a, a < 12 ∧ x.testBit a = true ∧ a + q = j + 12) := by
  intro x hx j hj
  rw [← Nat.shiftRight_eq_div_pow, Nat.testBit_shiftRight]
  constructor
  · intro c
    refine ⟨12 - q + j, ?_, c, by omega⟩
    refine Nat.lt_of_not_le fun k => ?_
    rw [bit_hi (n := 12) hx k] at c
    cases c
  · rintro ⟨a, ha, c, e⟩
    have e2 : 12 - q + j = a := by omega
    rw [e2]
    exact c
