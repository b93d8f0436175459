theorem wid_s (x k : Nat) : wid x (k + 1) = (if x.testBit (k % 32) && decide (32 ≤ k) && decide ((wid x k).1 < (wid x k).2 + 1) then (wid x k).2 + 1 else (wid x k).1, if x.testBit (k % 32) then 0 else (wid x k).2 + 1) := rfl
theorem wid_a {x k : Nat} (h1 : x.testBit (k % 32) = true) (h2 : 32 ≤ k) (h3 : (wid x k).1 < (wid x k).2 + 1) : (wid x k).2 + 1 = (wid x (k + 1)).1 := by
  rw [wid_s]
  dsimp only
  rw [h1, decide_eq_true h2, decide_eq_true h3]
  rfl
theorem wid_b {x k : Nat} (h1 : x.testBit (k % 32) = false) : (wid x k).1 = (wid x (k + 1)).1 := by
  rw [wid_s]
  dsimp only
  rw [h1]
  rfl
theorem wid_c {x k : Nat} (h2 : k < 32) : (wid x k).1 = (wid x (k + 1)).1 := by
  rw [wid_s]
  dsimp only
  rw [decide_eq_false (Nat.not_le.mpr h2), Bool.and_false, Bool.false_and]
  rfl
theorem wid_d {x k : Nat} (h3 : (wid x k).2 + 1 ≤ (wid x k).1) : (wid x k).1 = (wid x (k + 1)).1 := by
  rw [wid_s]
  dsimp only
  rw [decide_eq_false (Nat.not_lt.mpr h3), Bool.and_false]
  rfl
theorem wid_e {x k : Nat} (h1 : x.testBit (k % 32) = true) : 0 = (wid x (k + 1)).2 := by
  rw [wid_s]
  dsimp only
  rw [h1]
  rfl
theorem wid_f {x k : Nat} (h1 : x.testBit (k % 32) = false) : (wid x k).2 + 1 = (wid x (k + 1)).2 := by
  rw [wid_s]
  dsimp only
  rw [h1]
  rfl
theorem wide_0 {σ : Nat → Nat} {j k : Nat} (h : σ (12 * σ 134 + j) = 0) (hk : k = 0) : (wid (σ (12 * σ 134 + j)) k).1 = wide σ j := by
  subst hk
  unfold wide
  rw [if_pos h]
  rfl
theorem wide_1 {σ : Nat → Nat} {j k : Nat} (h : σ (12 * σ 134 + j) = 0 → k = 0) (h1 : 64 ≤ k) (h2 : k ≤ 64) : (wid (σ (12 * σ 134 + j)) k).1 = wide σ j := by
  unfold wide
  rw [if_neg (fun q => by have := h q; omega), show k = 64 by omega]
