/-- a pin comes to a tooth that isn't broken -/
theorem rl_strike {τ : Nat → Nat → Nat} {σ : Nat → Nat} (h : rl τ σ) {j w : Nat} (hj : j < 12) (hw : τ 2 j ≤ 9) (h0 : σ (36 + 4 * j + 2) = 0) (ht : τ 12 0 < 1000000000) : rl (srS τ j w) (plk σ j w) := by
  obtain ⟨t1, t2, t3, -⟩ := h.2.1 j hj
  have s1 : τ 6 1 = σ 143 := h.2.2.2.2.2.1
  have hb0 : (τ 7 0).testBit j = false := by rw [t3, h0]; rfl
  by_cases c : 0 < τ 1 j - τ 12 0 ∧ ¬ τ 6 1 + τ 2 j < w
  · have e1 : stS τ j w = sqS τ j := if_pos c
    have c1 : 0 < σ (36 + 4 * j + 0) := by rw [← t1]; exact c.1
    have c2 : w ≤ σ 143 + σ (36 + 4 * j + 1) := by rw [← t2, ← s1]; omega
    by_cases h9 : τ 2 j < 9
    · have r := rl_wear h hj h9 h0
      have hb : (sqS τ j 7 0).testBit j = false := by
        rw [(r.2.1 j hj).2.2.1, pkY_at hj h0, if_neg (by omega), if_neg (by omega), h0]; rfl
      have e2 : srS τ j w = plS (sqS τ j) j := by
        unfold srS
        rw [e1, if_neg (by rw [hb]; decide)]
      have e12 : sqS τ j 12 0 = τ 12 0 := by
        unfold sqS
        split <;> rfl
      rw [e2, plk_2 c1 c2 (by rw [← t2]; omega)]
      exact rl_plS r hj (by rw [e12]; exact ht)
    · have r := rl_break h hj h9
      have hb : (sqS τ j 7 0).testBit j = true := by
        rw [(r.2.1 j hj).2.2.1, pkX_at hj, if_neg (by omega), if_pos rfl]; rfl
      have e2 : srS τ j w = sqS τ j := by
        unfold srS
        rw [e1, if_pos hb]
      rw [e2, plk_1 c1 c2 (by rw [← t2]; omega)]
      exact r
  · have e1 : stS τ j w = τ := if_neg c
    have e2 : srS τ j w = plS τ j := by
      unfold srS
      rw [e1, if_neg (by rw [hb0]; decide)]
    rw [e2, plk_3 (by rw [← t1, ← t2, ← s1]; intro q; exact c ⟨q.1, by omega⟩)]
    exact rl_plS h hj ht
