/-! ===== the State against the reference's row: fullest step, teeth used, next pin ===== -/
theorem rl_ful {τ : Nat → Nat → Nat} {σ : Nat → Nat} (h : rlC (τ 0) σ) (hg : ∀ k, k < 96 → τ 0 k < 4096) {t : Nat} (ht : t < 3) : ∀ k, k ≤ 31 → flS τ t k = ful σ t k
  | 0, _ => rfl
  | k + 1, hk => by
    have ih := rl_ful h hg ht k (by omega)
    have hle := ful_le σ t k
    rw [flS, ful, ih, rl_chord h (p := ful σ t k) ht (by omega) (hg _ (by omega)), rl_chord h (p := 1 + k) ht (by omega) (hg _ (by omega))]
theorem tuS_bit (τ : Nat → Nat → Nat) (t j : Nat) : ∀ n, (tuS τ t n).testBit j = true ↔ ∃ p, p < n ∧ (τ 0 (t * 32 + p)).testBit j = true
  | 0 => by
    show (0 : Nat).testBit j = true ↔ _
    rw [Nat.zero_testBit]
    constructor
    · intro q; cases q
    · rintro ⟨p, hp, -⟩; omega
  | n + 1 => by
    show (tuS τ t n ||| τ 0 (t * 32 + n)).testBit j = true ↔ _
    rw [Nat.testBit_or, Bool.or_eq_true, tuS_bit τ t j n]
    constructor
    · rintro (⟨p, hp, q⟩ | q)
      · exact ⟨p, by omega, q⟩
      · exact ⟨n, by omega, q⟩
    · rintro ⟨p, hp, q⟩
      by_cases e : p = n
      · subst e; exact Or.inr q
      · exact Or.inl ⟨p, by omega, q⟩
theorem bits0 {x n : Nat} (hx : x < 2 ^ n) : x ≠ 0 ↔ ∃ p, p < n ∧ x.testBit p = true := by
  constructor
  · intro h
    refine Classical.byContradiction fun q => h ?_
    apply Nat.eq_of_testBit_eq
    intro i
    rw [Nat.zero_testBit]
    by_cases hi : i < n
    · cases e : x.testBit i
      · rfl
      · exact absurd ⟨i, hi, e⟩ q
    · exact bit_hi hx (by omega)
  · rintro ⟨p, -, hp⟩ e
    rw [e, Nat.zero_testBit] at hp
    cases hp
theorem rl_used {τ : Nat → Nat → Nat} {σ : Nat → Nat} (h : rlC (τ 0) σ) (hg : ∀ k, k < 96 → τ 0 k < 4096) (hs : ∀ i, i < 36 → σ i < 2 ^ 32) {t : Nat} (ht : t < 3) : tuS τ t 32 = tof σ t := by
  apply Nat.eq_of_testBit_eq
  intro j
  show _ = (mk (fun j => decide (¬ σ (12 * t + j) = 0)) 12).testBit j
  rw [mk_bit]
  by_cases hj : j < 12
  · have e : (tuS τ t 32).testBit j = true ↔ σ (12 * t + j) ≠ 0 := by
      rw [tuS_bit, bits0 (hs _ (by omega))]
      constructor
      · rintro ⟨p, hp, q⟩; exact ⟨p, hp, by rw [← h t ht j hj p hp]; exact q⟩
      · rintro ⟨p, hp, q⟩; exact ⟨p, hp, by rw [h t ht j hj p hp]; exact q⟩
    rw [decide_eq_true hj, Bool.true_and]
    by_cases z : σ (12 * t + j) = 0
    · rw [decide_eq_false (by exact fun q => q z)]
      cases c : (tuS τ t 32).testBit j
      · rfl
      · exact absurd z (e.mp c)
    · rw [decide_eq_true z]
      exact e.mpr z
  · rw [bit_hi (n := 12) (tuS_lt hg ht 32 (Nat.le_refl _)) (by omega), decide_eq_false hj, Bool.false_and]
theorem rl_next {τ : Nat → Nat → Nat} {σ : Nat → Nat} (h : rlC (τ 0) σ) {t j p : Nat} (ht : t < 3) (hj : j < 12) : ∀ n, n ≤ 32 → nfS τ t j p (32 - n) n = nxd σ t j p n
  | 0, _ => rfl
  | n + 1, hn => by
    have ih := rl_next h (p := p) ht hj n (by omega)
    rw [nfS, nxd, h.hb ht hj (Nat.mod_lt _ (by decide)), show 32 - (n + 1) = 31 - n by omega, show 31 - n + 1 = 32 - n by omega, ih]
