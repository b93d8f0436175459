theorem pkX_at {σ : Nat → Nat} {j : Nat} (hj : j < 12) (i : Nat) : pkX σ j i = if i = 36 + 4 * j + 0 then 0 else if i = 36 + 4 * j + 2 then 1 else if i = 140 then σ 140 + 1 else σ i := by
  have e1 : fu σ 140 (σ 140 + 1) (36 + 4 * j + 1) = σ (36 + 4 * j + 1) := fu_ne (by omega)
  show (if i = 36 + 4 * j + 0 then 0 else if i = 36 + 4 * j + 2 then 1 else if i = 36 + 4 * j + 1 then fu σ 140 (σ 140 + 1) (36 + 4 * j + 1) + 0 else if i = 140 then σ 140 + 1 else σ i) = _
  rw [e1]
  by_cases c1 : i = 36 + 4 * j + 0
  · rw [if_pos c1, if_pos c1]
  rw [if_neg c1, if_neg c1]
  by_cases c2 : i = 36 + 4 * j + 2
  · rw [if_pos c2, if_pos c2]
  rw [if_neg c2, if_neg c2]
  by_cases c3 : i = 36 + 4 * j + 1
  · rw [if_pos c3, if_neg (by omega), c3]; rfl
  · rw [if_neg c3]
theorem pkY_at {σ : Nat → Nat} {j : Nat} (hj : j < 12) (h0 : σ (36 + 4 * j + 2) = 0) (i : Nat) : pkY σ j i = if i = 36 + 4 * j + 1 then σ (36 + 4 * j + 1) + 1 else if i = 140 then σ 140 + 1 else σ i := by
  have e1 : fu σ 140 (σ 140 + 1) (36 + 4 * j + 1) = σ (36 + 4 * j + 1) := fu_ne (by omega)
  have hZ : ∀ k, pkZ σ j k = if k = 36 + 4 * j + 1 then σ (36 + 4 * j + 1) + 1 else if k = 140 then σ 140 + 1 else σ k := fun k => by
    show (if k = 36 + 4 * j + 2 then 0 else if k = 36 + 4 * j + 1 then fu σ 140 (σ 140 + 1) (36 + 4 * j + 1) + 1 else if k = 140 then σ 140 + 1 else σ k) = _
    rw [e1]
    by_cases c : k = 36 + 4 * j + 2
    · rw [if_pos c, if_neg (by omega), if_neg (by omega), c, h0]
    · rw [if_neg c]
  rw [show pkY σ j = pkZ σ j from fu_self rfl]
  exact hZ i
/-- the damper squeaks, and the tooth breaks or wears -/
theorem rl_break {τ : Nat → Nat → Nat} {σ : Nat → Nat} (h : rl τ σ) {j : Nat} (hj : j < 12) (h9 : ¬ τ 2 j < 9) : rl (sqS τ j) (pkX σ j) := by
  have hT := h.2.1
  have v7 := h.2.2.2.1.2.2.2.2.2.2.2.1
  have e : sqS τ j = pu (pu (pu τ 15 (kc (τ 15 0 + 1))) 7 (kc (τ 7 0 ||| 2 ^ j))) 1 (fu (τ 1) j (τ 12 0)) := by unfold sqS; rw [if_neg h9]
  rw [e]
  refine rl_tooth h hj (fun i h1 h2 => ?_) (fun i hi hij w hw => ?_) rfl (fun i hi => fu_ne hi) (fun i hi => rfl) rfl rfl rfl rfl (fun i hi h12 => ?_) (fun k h8 h15 => ?_) ?_ ?_ ?_ ?_ ?_
  · rw [pkX_at hj, if_neg (by omega), if_neg (by omega), if_neg h2]
  · rw [pkX_at hj, if_neg (by omega), if_neg (by omega), if_neg (by omega)]
  · show (τ 7 0 ||| 2 ^ j).testBit i = _
    rw [Nat.testBit_or, Nat.testBit_two_pow, decide_eq_false (fun q => hi q.symm), Bool.or_false]
  · show (if k = 1 then _ else if k = 7 then _ else if k = 15 then _ else τ k) = τ k
    rw [if_neg (by omega), if_neg (by omega), if_neg h15]
  · show fu (τ 1) j (τ 12 0) j - τ 12 0 = _
    rw [fu_at, pkX_at hj, if_pos rfl, Nat.sub_self]
  · rw [pkX_at hj, if_neg (by omega), if_neg (by omega), if_neg (by omega)]
    exact (hT j hj).2.1
  · show (τ 7 0 ||| 2 ^ j).testBit j = _
    rw [Nat.testBit_or, Nat.testBit_two_pow, decide_eq_true rfl, Bool.or_true, pkX_at hj, if_neg (by omega), if_pos rfl]
    rfl
  · rw [pkX_at hj, if_neg (by omega), if_neg (by omega), if_neg (by omega)]
  · show τ 15 0 + 1 = _
    rw [pkX_at hj, if_neg (by omega), if_neg (by omega), if_pos rfl, v7]
theorem rl_wear {τ : Nat → Nat → Nat} {σ : Nat → Nat} (h : rl τ σ) {j : Nat} (hj : j < 12) (h9 : τ 2 j < 9) (h0 : σ (36 + 4 * j + 2) = 0) : rl (sqS τ j) (pkY σ j) := by
  have hT := h.2.1
  have v7 := h.2.2.2.1.2.2.2.2.2.2.2.1
  have e : sqS τ j = pu (pu τ 15 (kc (τ 15 0 + 1))) 2 (fu (τ 2) j (τ 2 j + 1)) := by unfold sqS; rw [if_pos h9]
  rw [e]
  refine rl_tooth h hj (fun i h1 h2 => ?_) (fun i hi hij w hw => ?_) rfl (fun i hi => rfl) (fun i hi => fu_ne hi) rfl rfl rfl rfl (fun i hi h12 => rfl) (fun k h8 h15 => ?_) ?_ ?_ ?_ ?_ ?_
  · rw [pkY_at hj h0, if_neg (by omega), if_neg h2]
  · rw [pkY_at hj h0, if_neg (by omega), if_neg (by omega)]
  · show (if k = 2 then _ else if k = 15 then _ else τ k) = τ k
    rw [if_neg (by omega), if_neg h15]
  · rw [pkY_at hj h0, if_neg (by omega), if_neg (by omega)]
    exact (hT j hj).1
  · show fu (τ 2) j (τ 2 j + 1) j = _
    rw [fu_at, pkY_at hj h0, if_pos rfl, (hT j hj).2.1]
  · rw [pkY_at hj h0, if_neg (by omega), if_neg (by omega)]
    exact (hT j hj).2.2.1
  · rw [pkY_at hj h0, if_neg (by omega), if_neg (by omega)]
  · show τ 15 0 + 1 = _
    rw [pkY_at hj h0, if_neg (by omega), if_pos rfl, v7]
