/-! ===== the whole relation of a State and a row; the numbers ===== -/
def rlN (τ : Nat → Nat → Nat) (σ : Nat → Nat) : Prop := σ 132 = min 24 (τ 14 0) ∧ ∀ b, b < σ 132 → σ (84 + 2 * b + 0) = τ 4 ((τ 14 0 - 1 - b) % 24) ∧ σ (84 + 2 * b + 1) = τ 5 ((τ 14 0 - 1 - b) % 24)
def rlT (τ : Nat → Nat → Nat) (σ : Nat → Nat) : Prop := ∀ j, j < 12 → τ 1 j - τ 12 0 = σ (36 + 4 * j + 0) ∧ τ 2 j = σ (36 + 4 * j + 1) ∧ (τ 7 0).testBit j = decide (¬ σ (36 + 4 * j + 2) = 0) ∧ τ 3 j = σ (36 + 4 * j + 3)
def rlV (τ : Nat → Nat → Nat) (σ : Nat → Nat) : Prop := τ 8 0 = σ 133 ∧ τ 9 0 = σ 134 ∧ τ 10 0 = σ 135 ∧ τ 11 0 = σ 136 ∧ τ 12 0 = σ 137 ∧ τ 13 0 = σ 138 ∧ τ 14 0 = σ 139 ∧ τ 15 0 = σ 140 ∧ τ 16 0 = σ 141
def rlS (τ : Nat → Nat → Nat) (σ : Nat → Nat) : Prop := τ 6 0 = σ 142 ∧ τ 6 1 = σ 143 ∧ τ 6 2 = σ 144 ∧ τ 6 3 = σ 145 ∧ τ 6 4 = σ 146
/-- the State τ is the row σ -/
def rl (τ : Nat → Nat → Nat) (σ : Nat → Nat) : Prop := rlC (τ 0) σ ∧ rlT τ σ ∧ rlN τ σ ∧ rlV τ σ ∧ rlS τ σ
theorem rl_ringing {τ : Nat → Nat → Nat} {σ : Nat → Nat} (h : rlT τ σ) : rgS τ 12 = tth σ 0 :=
  ct_congr 12 (fun j hj => by
    show decide (0 < τ 1 j - τ 12 0) = decide (0 < σ (36 + 4 * j + 0))
    rw [(h j hj).1])
theorem rl_broken {τ : Nat → Nat → Nat} {σ : Nat → Nat} (h : rlT τ σ) (h7 : τ 7 0 < 4096) : ones (τ 7 0) = tth σ 2 := by
  rw [ones12 h7]
  refine ct_congr 12 (fun j hj => ?_)
  show (τ 7 0).testBit j = decide (0 < σ (36 + 4 * j + 2))
  rw [(h j hj).2.2.1]
  by_cases c : σ (36 + 4 * j + 2) = 0
  · rw [c]; rfl
  · rw [decide_eq_true c, decide_eq_true (Nat.pos_of_ne_zero c)]
theorem rl_numT {τ : Nat → Nat → Nat} {σ : Nat → Nat} (h : rlC (τ 0) σ) (hg : ∀ k, k < 96 → τ 0 k < 4096) (hs : ∀ i, i < 36 → σ i < 2 ^ 32) {t w : Nat} (ht : t < 3) (hw : w < 5) : numT τ t w = otu σ t w := by
  have hf := rl_ful h hg ht 31 (Nat.le_refl _)
  have hle := ful_le σ t 31
  rcases (show w = 0 ∨ w = 1 ∨ w = 2 ∨ w = 3 ∨ w = 4 by omega) with e | e | e | e | e <;> rw [e]
  · rw [numT_0, rl_pins h hg ht]; exact (if_pos (Or.inl rfl)).symm
  · rw [numT_1, rl_pinsB h ht]; exact (if_pos (Or.inr rfl)).symm
  · rw [numT_2, hf, rl_chord h (p := ful σ t 31) ht (by omega) (hg _ (by omega))]
    exact ((if_neg (by decide)).trans (if_pos rfl)).symm
  · rw [numT_3, hf]
    exact ((if_neg (by decide)).trans ((if_neg (by decide)).trans (if_pos rfl))).symm
  · rw [numT_4, rl_used h hg hs ht]
    exact ((if_neg (by decide)).trans ((if_neg (by decide)).trans (if_neg (by decide)))).symm
theorem rl_numN {τ : Nat → Nat → Nat} {σ : Nat → Nat} (h : rl τ σ) (hg : ∀ k, k < 96 → τ 0 k < 4096) (h7 : τ 7 0 < 4096) (n : Nat) {w : Nat} (hw : w < 18) : (if w = 17 then n else numN τ w) = cnt σ n w := by
  obtain ⟨hC, hT, -, ⟨v0, v1, v2, v3, v4, v5, v6, v7, v8⟩, ⟨s0, s1, s2, s3, s4⟩⟩ := h
  have e8 := rl_ringing hT
  have e9 := rl_broken hT h7
  have e10 := rl_all hC hg
  rcases (show w = 0 ∨ w = 1 ∨ w = 2 ∨ w = 3 ∨ w = 4 ∨ w = 5 ∨ w = 6 ∨ w = 7 ∨ w = 8 ∨ w = 9 ∨ w = 10 ∨ w = 11 ∨ w = 12 ∨ w = 13 ∨ w = 14 ∨ w = 15 ∨ w = 16 ∨ w = 17 by omega) with e | e | e | e | e | e | e | e | e | e | e | e | e | e | e | e | e | e <;> rw [e]
  · rw [if_neg (by decide), numN_0, v0]; rfl
  · rw [if_neg (by decide), numN_1, v1]; rfl
  · rw [if_neg (by decide), numN_2, v2]; rfl
  · rw [if_neg (by decide), numN_3, v3]; rfl
  · rw [if_neg (by decide), numN_4, v4]; rfl
  · rw [if_neg (by decide), numN_5, v5]; rfl
  · rw [if_neg (by decide), numN_6, v6]; rfl
  · rw [if_neg (by decide), numN_7, v7]; rfl
  · rw [if_neg (by decide), numN_8, e8]; exact (if_pos rfl).symm
  · rw [if_neg (by decide), numN_9, e9]; exact ((if_neg (by decide)).trans (if_pos rfl)).symm
  · rw [if_neg (by decide), numN_10, e10]; exact ((if_neg (by decide)).trans ((if_neg (by decide)).trans (if_pos rfl))).symm
  · rw [if_neg (by decide), numN_11, v8]; rfl
  · rw [if_neg (by decide), numN_12, s0]; rfl
  · rw [if_neg (by decide), numN_13, s1]; rfl
  · rw [if_neg (by decide), numN_14, s2]; rfl
  · rw [if_neg (by decide), numN_15, s3]; rfl
  · rw [if_neg (by decide), numN_16, s4]; rfl
  · rw [if_pos rfl]; rfl
