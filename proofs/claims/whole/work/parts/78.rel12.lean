/-! ===== a step, on both sides ===== -/
theorem g7_at {g : Nat → Nat} {T : Nat} : ∀ k i, g7 g T k i = if 36 ≤ i ∧ i < 36 + 4 * k ∧ (i - 36) % 4 = 0 then g i - T else g i
  | 0, i => by rw [if_neg (by omega)]; rfl
  | k + 1, i => by
    show fu (g7 g T k) (36 + 4 * k + 0) (g7 g T k (36 + 4 * k + 0) - T) i = _
    by_cases e : i = 36 + 4 * k + 0
    · rw [e, fu_at, g7_at k, if_neg (by omega), if_pos (by omega)]
    · rw [fu_ne e, g7_at k i]
      by_cases c : 36 ≤ i ∧ i < 36 + 4 * k ∧ (i - 36) % 4 = 0
      · rw [if_pos c, if_pos (by omega)]
      · rw [if_neg c, if_neg (by omega)]
theorem g5_at (σ : Nat → Nat) (i : Nat) : g5 σ i = if i = 138 then σ 138 + 1 else if i = 141 then σ 141 + need σ else if i = 135 then σ 135 - need σ else if i = 133 then (σ 133 + 1) % 32 else if i = 134 then ntu σ else σ i := by
  have e1 : ∀ k, g1 σ k = if k = 134 then ntu σ else σ k := fun k => rfl
  have e2 : ∀ k, g2 σ k = if k = 133 then (σ 133 + 1) % 32 else g1 σ k := fun k => rfl
  have e3 : ∀ k, g3 σ k = if k = 135 then σ 135 - need σ else g2 σ k := fun k => rfl
  have e4 : ∀ k, g4 σ k = if k = 141 then σ 141 + need σ else g3 σ k := fun k => rfl
  have e5 : ∀ k, g5 σ k = if k = 138 then σ 138 + 1 else g4 σ k := fun k => rfl
  rw [e5, e4, e3, e2, e1]
theorem g6_at (σ : Nat → Nat) (i : Nat) : g6 σ i = if i = 137 then σ 137 + tks σ else g5 σ i := by
  have e : g5 σ 137 = σ 137 := by rw [g5_at]; rfl
  show (if i = 137 then g5 σ 137 + tks σ else g5 σ i) = _
  rw [e]
theorem rl_tune {τ : Nat → Nat → Nat} {σ : Nat → Nat} (h : rl τ σ) : pnS τ = (σ 133 + 1) % 32 ∧ tnS τ = ntu σ := by
  obtain ⟨-, -, -, ⟨v0, v1, -⟩, ⟨-, -, s2, -⟩⟩ := h
  have e : pnS τ = (σ 133 + 1) % 32 := by unfold pnS; rw [v0]
  refine ⟨e, ?_⟩
  unfold tnS tcS ntu
  rw [e, v1, s2]
theorem rl_stk {τ : Nat → Nat → Nat} {σ : Nat → Nat} (h : rl τ σ) (ht : tnS τ < 3) {j : Nat} (hj : j < 12) : (stk τ).testBit j = strk σ j := by
  obtain ⟨e1, e2⟩ := rl_tune h
  have hp : pnS τ < 32 := Nat.mod_lt _ (by decide)
  have h7 := (h.2.1 j hj).2.2.1
  show (τ 0 (tnS τ * 32 + pnS τ) &&& (τ 7 0 ^^^ 4294967295)).testBit j = _
  rw [Nat.testBit_and, Nat.testBit_xor, h.1 _ ht j hj _ hp, h7, show (4294967295 : Nat) = 2 ^ 32 - 1 from rfl, Nat.testBit_two_pow_sub_one, e1, e2]
  unfold strk pb
  by_cases c : σ (36 + 4 * j + 2) = 0
  · simp [c, show j < 32 by omega]
  · simp [c, show j < 32 by omega]
theorem rl_need {τ : Nat → Nat → Nat} {σ : Nat → Nat} (h : rl τ σ) (ht : tnS τ < 3) (hg : ∀ k, k < 96 → τ 0 k < 4096) : ndS τ = need σ := by
  have hp : pnS τ < 32 := Nat.mod_lt _ (by decide)
  have hs : stk τ < 4096 := Nat.lt_of_le_of_lt Nat.and_le_left (hg _ (by omega))
  show 1 + ones (stk τ) = 1 + ct (strk σ) 12
  rw [ones12 hs, ct_congr 12 (fun j hj => rl_stk h ht hj)]
theorem rl_can {τ : Nat → Nat → Nat} {σ : Nat → Nat} (h : rl τ σ) (ht : tnS τ < 3) (hg : ∀ k, k < 96 → τ 0 k < 4096) : canS τ = can σ := by
  unfold canS can
  rw [rl_need h ht hg, h.2.2.2.1.2.2.1]
theorem rl_ticks {τ : Nat → Nat → Nat} {σ : Nat → Nat} (h : rl τ σ) (ht : tnS τ < 3) (hg : ∀ k, k < 96 → τ 0 k < 4096) : tiS τ = tks σ := by
  have e1 : g5 σ 135 = σ 135 - need σ := by rw [g5_at]; rfl
  have e2 : g5 σ 136 = σ 136 := by rw [g5_at]; rfl
  unfold tiS tks
  rw [rl_need h ht hg, h.2.2.2.1.2.2.1, h.2.2.2.1.2.2.2.1, e1, e2]
theorem rl_go0 {τ : Nat → Nat → Nat} {σ : Nat → Nat} (h : rl τ σ) (ht : tnS τ < 3) (hg : ∀ k, k < 96 → τ 0 k < 4096) : rl (goA τ) (g7 (g6 σ) (tks σ) 12) := by
  have e1 := rl_tune h
  have e2 := rl_need h ht hg
  have e3 := rl_ticks h ht hg
  obtain ⟨hC, hT, ⟨n1, n2⟩, ⟨v0, v1, v2, v3, v4, v5, v6, v7, v8⟩, ⟨s0, s1, s2, s3, s4⟩⟩ := h
  have ho : ∀ i, (i < 36 ∨ 84 ≤ i) → g7 (g6 σ) (tks σ) 12 i = g6 σ i := fun i hi => by rw [g7_at, if_neg (by omega)]
  have h6 : ∀ i, (i < 133 ∨ 141 < i ∨ i = 136 ∨ i = 139 ∨ i = 140) → g6 σ i = σ i := fun i hi => by
    rw [g6_at, if_neg (by omega), g5_at, if_neg (by omega), if_neg (by omega), if_neg (by omega), if_neg (by omega), if_neg (by omega)]
  refine ⟨?_, ?_, ⟨?_, ?_⟩, ⟨?_, ?_, ?_, ?_, ?_, ?_, ?_, ?_, ?_⟩, ⟨?_, ?_, ?_, ?_, ?_⟩⟩
  · intro t ht' i hi p hp
    rw [ho _ (by omega), h6 _ (by omega)]
    exact hC t ht' i hi p hp
  · intro i hi
    obtain ⟨t1, t2, t3, t4⟩ := hT i hi
    refine ⟨?_, ?_, ?_, ?_⟩
    · show τ 1 i - (τ 12 0 + tiS τ) = _
      rw [g7_at, if_pos (by omega), h6 _ (by omega), ← t1, e3]
      omega
    · rw [g7_at, if_neg (by omega), h6 _ (by omega)]; exact t2
    · rw [g7_at, if_neg (by omega), h6 _ (by omega)]; exact t3
    · rw [g7_at, if_neg (by omega), h6 _ (by omega)]; exact t4
  · rw [ho _ (by omega), h6 _ (by omega)]; exact n1
  · intro b hb
    rw [ho _ (by omega), h6 _ (by omega)] at hb
    have hb24 : b < 24 := by omega
    rw [ho _ (by omega), ho _ (by omega), h6 _ (by omega), h6 _ (by omega)]
    exact n2 b hb
  · rw [ho _ (by omega), g6_at, g5_at]; exact e1.1
  · rw [ho _ (by omega), g6_at, g5_at]; exact e1.2
  · rw [ho _ (by omega), g6_at, g5_at]
    show τ 10 0 - ndS τ = σ 135 - need σ
    rw [v2, e2]
  · rw [ho _ (by omega), h6 _ (by omega)]; exact v3
  · rw [ho _ (by omega), g6_at]
    show τ 12 0 + tiS τ = σ 137 + tks σ
    rw [v4, e3]
  · rw [ho _ (by omega), g6_at, g5_at]
    exact congrArg (· + 1) v5
  · rw [ho _ (by omega), h6 _ (by omega)]; exact v6
  · rw [ho _ (by omega), h6 _ (by omega)]; exact v7
  · rw [ho _ (by omega), g6_at, g5_at]
    show τ 16 0 + ndS τ = σ 141 + need σ
    rw [v8, e2]
  · rw [ho _ (by omega), h6 _ (by omega)]; exact s0
  · rw [ho _ (by omega), h6 _ (by omega)]; exact s1
  · rw [ho _ (by omega), h6 _ (by omega)]; exact s2
  · rw [ho _ (by omega), h6 _ (by omega)]; exact s3
  · rw [ho _ (by omega), h6 _ (by omega)]; exact s4
