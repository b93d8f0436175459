/-! ===== a range is pulled, on both sides ===== -/
theorem and_clear {x q : Nat} (hx : x < 2 ^ 32) (hq : q < 32) (h : x.testBit q = false) : x &&& (2 ^ q ^^^ 4294967295) = x := by
  apply Nat.eq_of_testBit_eq
  intro i
  rw [Nat.testBit_and]
  by_cases hi : i < 32
  · rw [ntb hq hi]
    by_cases e : q = i
    · subst e; rw [h]; rfl
    · simp [e]
  · rw [bit_hi hx (by omega), Bool.false_and]
theorem fu_self {f : Nat → Nat} {i v : Nat} (h : v = f i) : fu f i v = f := by
  funext k
  unfold fu
  split
  · rename_i e; rw [e, h]
  · rfl
theorem rl_pull {τ : Nat → Nat → Nat} {σ : Nat → Nat} (h : rlC (τ 0) σ) {t j x : Nat} (ht : t < 3) (hj : j < 12) (hs : σ (12 * t + j) < 2 ^ 32) : ∀ k, x + k ≤ 32 → rlC (tkC τ t j x k).2 (pul σ (12 * t + j) x k) ∧ (tkC τ t j x k).1 = pulc σ (12 * t + j) x k
  | 0, _ => ⟨h, rfl⟩
  | k + 1, hk => by
    obtain ⟨h1, h2⟩ := rl_pull h (x := x) ht hj hs k (by omega)
    have hb1 : hb (pu τ 0 (tkC τ t j x k).2) t j (x + k) = (pul σ (12 * t + j) x k (12 * t + j)).testBit (x + k) := h1 t ht j hj (x + k) (by omega)
    have hlt : pul σ (12 * t + j) x k (12 * t + j) < 2 ^ 32 := Nat.lt_of_le_of_lt (pul_bit σ (12 * t + j) x hs k).2 hs
    show rlC (tkC τ t j x (k + 1)).2 (fu (pul σ (12 * t + j) x k) (12 * t + j) (pul σ (12 * t + j) x k (12 * t + j) &&& (2 ^ (x + k) ^^^ 4294967295))) ∧ (tkC τ t j x (k + 1)).1 = pulc σ (12 * t + j) x k + ((pul σ (12 * t + j) x k (12 * t + j)).testBit (x + k)).toNat
    cases c : hb (pu τ 0 (tkC τ t j x k).2) t j (x + k)
    · rw [tkC_f rfl c]
      rw [c] at hb1
      rw [← hb1, and_clear hlt (by omega) hb1.symm, fu_self rfl]
      exact ⟨h1, h2⟩
    · rw [tkC_t rfl c]
      rw [c] at hb1
      rw [← hb1]
      exact ⟨h1.take ht hj (by omega), congrArg (· + 1) h2⟩
