/-! ===== a tooth sounds, on both sides ===== -/
theorem sounds_at {σ : Nat → Nat} {j : Nat} (hj : j < 12) (i : Nat) : sounds σ j i = if i = 132 then σ 132 + (if σ 132 < 24 then 1 else 0) else if i = 85 then σ 137 else if i = 84 then j else if 86 ≤ i ∧ i < 132 then σ (i - 2) else if i = 139 then σ 139 + 1 else if i = 36 + 4 * j + 3 then σ (36 + 4 * j + 3) + 1 else if i = 36 + 4 * j + 0 then max 4 (σ 142 - 2 * j) else σ i := by
  have hA : ∀ k, sdA σ j k = if k = 36 + 4 * j + 0 then max 4 (σ 142 - 2 * j) else σ k := fun k => rfl
  have hA3 : sdA σ j (36 + 4 * j + 3) = σ (36 + 4 * j + 3) := by rw [hA, if_neg (by omega)]
  have hB : ∀ k, sdB σ j k = if k = 36 + 4 * j + 3 then σ (36 + 4 * j + 3) + 1 else sdA σ j k := fun k => by
    show (if k = 36 + 4 * j + 3 then sdA σ j (36 + 4 * j + 3) + 1 else sdA σ j k) = _
    rw [hA3]
  have hB9 : sdB σ j 139 = σ 139 := by rw [hB, if_neg (by omega), hA, if_neg (by omega)]
  have hC : ∀ k, sdC σ j k = if k = 139 then σ 139 + 1 else sdB σ j k := fun k => by
    show (if k = 139 then sdB σ j 139 + 1 else sdB σ j k) = _
    rw [hB9]
  have hE : ∀ k, sdE σ j k = if k = 84 then j else if 85 < k ∧ k < 132 then sdC σ j (k - 2) else sdC σ j k := fun k => by
    show (if k = 84 then j else shr (sdC σ j) 46 k) = _
    rw [shr_eq _ _ 46 (Nat.le_refl _)]
  have hE137 : sdE σ j 137 = σ 137 := by
    rw [hE, if_neg (by omega), if_neg (by omega), hC, if_neg (by omega), hB, if_neg (by omega), hA, if_neg (by omega)]
  have hF : ∀ k, sdF σ j k = if k = 85 then σ 137 else sdE σ j k := fun k => by
    show (if k = 85 then sdE σ j 137 else sdE σ j k) = _
    rw [hE137]
  have hF132 : sdF σ j 132 = σ 132 := by
    rw [hF, if_neg (by omega), hE, if_neg (by omega), if_neg (by omega), hC, if_neg (by omega), hB, if_neg (by omega), hA, if_neg (by omega)]
  show (if i = 132 then sdF σ j 132 + (if sdF σ j 132 < 24 then 1 else 0) else sdF σ j i) = _
  rw [hF132]
  by_cases c1 : i = 132
  · rw [if_pos c1, if_pos c1]
  rw [if_neg c1, if_neg c1, hF]
  by_cases c2 : i = 85
  · rw [if_pos c2, if_pos c2]
  rw [if_neg c2, if_neg c2, hE]
  by_cases c3 : i = 84
  · rw [if_pos c3, if_pos c3]
  rw [if_neg c3, if_neg c3]
  by_cases c4 : 86 ≤ i ∧ i < 132
  · rw [if_pos (by omega), if_pos c4, hC, if_neg (by omega), hB, if_neg (by omega), hA, if_neg (by omega)]
  rw [if_neg (by omega), if_neg c4, hC]
  by_cases c5 : i = 139
  · rw [if_pos c5, if_pos c5]
  rw [if_neg c5, if_neg c5, hB]
  by_cases c6 : i = 36 + 4 * j + 3
  · rw [if_pos c6, if_pos c6]
  rw [if_neg c6, if_neg c6, hA]
theorem sounds_o {σ : Nat → Nat} {j : Nat} (hj : j < 12) {i : Nat} (h1 : i < 84 ∨ 132 < i) (h2 : i ≠ 139) (h3 : i ≠ 36 + 4 * j + 3) (h4 : i ≠ 36 + 4 * j + 0) : sounds σ j i = σ i := by
  rw [sounds_at hj, if_neg (by omega), if_neg (by omega), if_neg (by omega), if_neg (by omega), if_neg h2, if_neg h3, if_neg h4]
theorem rl_plS {τ : Nat → Nat → Nat} {σ : Nat → Nat} (h : rl τ σ) {j : Nat} (hj : j < 12) (hrest : τ 12 0 < 1000000000) : rl (plS τ j) (sounds σ j) := by
  obtain ⟨hC, hT, ⟨n1, n2⟩, ⟨v0, v1, v2, v3, v4, v5, v6, v7, v8⟩, ⟨s0, s1, s2, s3, s4⟩⟩ := h
  refine ⟨?_, ?_, ⟨?_, ?_⟩, ⟨?_, ?_, ?_, ?_, ?_, ?_, ?_, ?_, ?_⟩, ⟨?_, ?_, ?_, ?_, ?_⟩⟩
  · intro t ht i hi p hp
    rw [sounds_o hj (by omega) (by omega) (by omega) (by omega)]
    exact hC t ht i hi p hp
  · intro i hi
    obtain ⟨t1, t2, t3, t4⟩ := hT i hi
    refine ⟨?_, ?_, ?_, ?_⟩
    · show fu (τ 1) j (τ 12 0 + max 4 (τ 6 0 - 2 * j)) i - τ 12 0 = _
      by_cases e : i = j
      · subst e
        rw [fu_at, sounds_at hj, if_neg (by omega), if_neg (by omega), if_neg (by omega), if_neg (by omega), if_neg (by omega), if_neg (by omega), if_pos rfl, s0]
        omega
      · rw [fu_ne e, sounds_o hj (by omega) (by omega) (by omega) (by omega)]
        exact t1
    · rw [sounds_o hj (by omega) (by omega) (by omega) (by omega)]
      exact t2
    · rw [sounds_o hj (by omega) (by omega) (by omega) (by omega)]
      exact t3
    · show fu (τ 3) j (τ 3 j + 1) i = _
      by_cases e : i = j
      · subst e
        rw [fu_at, sounds_at hj, if_neg (by omega), if_neg (by omega), if_neg (by omega), if_neg (by omega), if_neg (by omega), if_pos rfl, t4]
      · rw [fu_ne e, sounds_o hj (by omega) (by omega) (by omega) (by omega)]
        exact t4
  · rw [sounds_at hj, if_pos rfl]
    show _ = min 24 (τ 14 0 + 1)
    split <;> omega
  · intro b hb
    rw [sounds_at hj, if_pos rfl] at hb
    have hb24 : b < 24 := by
      split at hb <;> omega
    show _ = fu (τ 4) (τ 14 0 % 24) j ((τ 14 0 + 1 - 1 - b) % 24) ∧ _ = fu (τ 5) (τ 14 0 % 24) (τ 12 0) ((τ 14 0 + 1 - 1 - b) % 24)
    by_cases e : b = 0
    · subst e
      rw [show (τ 14 0 + 1 - 1 - 0) % 24 = τ 14 0 % 24 from rfl, fu_at, fu_at, sounds_at hj, sounds_at hj, if_neg (by omega), if_neg (by omega), if_pos rfl, if_neg (by omega), if_pos rfl]
      exact ⟨rfl, v4.symm⟩
    · have hb1 : b - 1 < σ 132 := by
        split at hb <;> omega
      obtain ⟨q1, q2⟩ := n2 (b - 1) hb1
      have hle : b ≤ τ 14 0 := by omega
      have e2 : (τ 14 0 + 1 - 1 - b) % 24 = (τ 14 0 - 1 - (b - 1)) % 24 := by
        rw [show τ 14 0 + 1 - 1 - b = τ 14 0 - 1 - (b - 1) by omega]
      have e3 : (τ 14 0 - 1 - (b - 1)) % 24 ≠ τ 14 0 % 24 := by omega
      rw [e2, fu_ne e3, fu_ne e3, ← q1, ← q2, sounds_at hj, sounds_at hj, if_neg (by omega), if_neg (by omega), if_neg (by omega), if_pos (by omega), if_neg (by omega), if_neg (by omega), if_neg (by omega), if_pos (by omega)]
      exact ⟨by rw [show 84 + 2 * b + 0 - 2 = 84 + 2 * (b - 1) + 0 by omega], by rw [show 84 + 2 * b + 1 - 2 = 84 + 2 * (b - 1) + 1 by omega]⟩
  all_goals first
    | (rw [sounds_o hj (by omega) (by omega) (by omega) (by omega)]; first | exact v0 | exact v1 | exact v2 | exact v3 | exact v4 | exact v5 | exact v7 | exact v8 | exact s0 | exact s1 | exact s2 | exact s3 | exact s4)
    | (rw [sounds_at hj, if_neg (by omega), if_neg (by omega), if_neg (by omega), if_neg (by omega), if_pos rfl]; exact congrArg (· + 1) v6)
