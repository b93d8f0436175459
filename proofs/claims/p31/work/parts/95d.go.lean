/-! ===== a step, and what the acts leave ===== -/
theorem bit_not {x j : Nat} (hj : j < 32) : (x ^^^ 4294967295).testBit j = !x.testBit j := by
  rw [Nat.testBit_xor, show (4294967295 : Nat) = 2 ^ 32 - 1 from rfl, Nat.testBit_two_pow_sub_one, decide_eq_true hj]
  cases x.testBit j <;> rfl
theorem stk_bit {τ : Nat → Nat → Nat} {j : Nat} (hj : j < 12) : (stk τ).testBit j = ((τ 0 (tnS τ * 32 + pnS τ)).testBit j && !(τ 7 0).testBit j) := by
  show (τ 0 (tnS τ * 32 + pnS τ) &&& (τ 7 0 ^^^ 4294967295)).testBit j = _
  rw [Nat.testBit_and, bit_not (by omega)]
theorem pnS_lt (τ : Nat → Nat → Nat) : pnS τ < 32 := Nat.mod_lt _ (by decide)
theorem tnS_lt {τ : Nat → Nat → Nat} {T : Nat} (h : okS τ T) : tnS τ < 3 := tcS_lt h.2.2.2.2.2.2.1
theorem stk_lt {τ : Nat → Nat → Nat} {T : Nat} (h : okS τ T) : stk τ < 4096 := by
  have h1 := tnS_lt h
  have h2 := pnS_lt τ
  exact Nat.lt_of_le_of_lt Nat.and_le_left (h.1 _ (by omega))
theorem nd_eq {τ : Nat → Nat → Nat} {T : Nat} (h : okS τ T) : ndS τ = 1 + ct (fun i => (stk τ).testBit i) 12 := by
  rw [← ones12 (stk_lt h)]; rfl
theorem nd_le {τ : Nat → Nat → Nat} {T : Nat} (h : okS τ T) : 1 ≤ ndS τ ∧ ndS τ ≤ 13 := by
  have := ct_le (fun i => (stk τ).testBit i) 12
  rw [nd_eq h]; omega
theorem ti_eq {τ : Nat → Nat → Nat} {T : Nat} (h : okS τ T) : tiS τ = 12 - (τ 10 0 - ndS τ) / 50 + τ 11 0 := by
  have h10 : τ 10 0 ≤ 400 := h.2.2.2.2.2.2.2.1
  unfold tiS
  omega
theorem go_out {τ : Nat → Nat → Nat} {T : Nat} (h : Iv τ T) (hc : canS τ = true) : Iv (goS τ) (T + 45) ∧ SKq (goA τ) (goS τ) (stk τ) 12 := by
  obtain ⟨⟨h1, h2, ⟨h3, h4, h5⟩, h6, h7, h8, h9, h10⟩, h11⟩ := h
  have nd := nd_le h1
  have ht : tiS τ ≤ 21 := tiS_le h1
  have ht2 : 2 ≤ tiS τ := Nat.le_max_left _ _
  have hA : Iw (goA τ) (T + 21) := by
    refine ⟨goA_ok h1, h2, ⟨?_, ?_, ?_⟩, ?_, ?_, h8, ?_, h10⟩
    · show τ 13 0 + 1 ≤ T + 21; omega
    · show τ 16 0 + ndS τ ≤ T + 21; omega
    · show 2 * (τ 13 0 + 1) ≤ τ 12 0 + tiS τ; omega
    · intro j hj
      have := h6 j hj
      show τ 1 j ≤ τ 12 0 + tiS τ + 90; omega
    · intro j hj hb
      have := h7 j hj hb
      show τ 1 j ≤ τ 12 0 + tiS τ; omega
    · intro b hb hn
      obtain ⟨a1, a2⟩ := h9 b hb hn
      refine ⟨a1, ?_⟩
      show τ 5 ((τ 14 0 - 1 - b) % 24) ≤ τ 12 0 + tiS τ; omega
  have key := sk_out (x := stk τ) (w := tiS τ) hA (fun j hj hb => by
    rw [stk_bit hj] at hb
    have := (and_true_iff' hb).2
    show (τ 7 0).testBit j = false
    cases e : (τ 7 0).testBit j
    · rfl
    · rw [e] at this; cases this) 12 (Nat.le_refl _)
  obtain ⟨k1, k2⟩ := key
  refine ⟨⟨k1.mono (by omega), ?_⟩, k2⟩
  obtain ⟨q1, ⟨q2, q3, q4⟩, ⟨q5, q6, q7⟩, -⟩ := k2
  have e13 : goS τ 13 0 = τ 13 0 + 1 := by
    have := q1 13 (by omega)
    show skS (goA τ) (stk τ) (tiS τ) 12 13 0 = _
    rw [this]; rfl
  have e16 : goS τ 16 0 = τ 16 0 + ndS τ := by
    have := q1 16 (by omega)
    show skS (goA τ) (stk τ) (tiS τ) 12 16 0 = _
    rw [this]; rfl
  have e14 : goA τ 14 0 = τ 14 0 := rfl
  have en := nd_eq h1
  have q5' : goS τ 14 0 - goA τ 14 0 + (ones (goS τ 7 0) - ones (goA τ 7 0)) = ct (fun i => (stk τ).testBit i) 12 := q5
  have q2' : goA τ 14 0 ≤ goS τ 14 0 := q2
  rw [e14] at q5' q2'
  rw [e13, e16]
  omega
theorem Iv.on : ∀ (n : Nat) {τ : Nat → Nat → Nat} {T : Nat}, Iv τ T → Iv (onS n τ).2 (T + 45 * n)
  | 0, _, _, h => h
  | n + 1, τ, T, h => by
    cases c : canS τ
    · rw [onS_f c]; exact h.mono (by omega)
    · rw [onS_t c]; exact (Iv.on n (go_out h c).1).mono (by omega)
theorem Iv.c0 {τ : Nat → Nat → Nat} {T : Nat} (h : Iv τ T) {g : Nat → Nat} (hg : ∀ k, k < 96 → g k < 4096) : Iv (pu τ 0 g) T := ⟨⟨h.1.1.p0 hg, h.1.2⟩, h.2⟩
theorem Iv.c9 {τ : Nat → Nat → Nat} {T : Nat} (h : Iv τ T) {v : Nat} (hv : v < 3) : Iv (pu τ 9 (kc v)) T := ⟨⟨h.1.1.p9 hv, h.1.2⟩, h.2⟩
theorem Iv.c10 {τ : Nat → Nat → Nat} {T : Nat} (h : Iv τ T) {v : Nat} (hv : v ≤ 400) : Iv (pu τ 10 (kc v)) T := ⟨⟨h.1.1.p10 hv, h.1.2⟩, h.2⟩
theorem Iv.c11 {τ : Nat → Nat → Nat} {T : Nat} (h : Iv τ T) {v : Nat} (hv : v ≤ 9) : Iv (pu τ 11 (kc v)) T := ⟨⟨h.1.1.p11 hv, rfl, h.1.2.2⟩, h.2⟩
theorem Iv.c6 {τ : Nat → Nat → Nat} {T : Nat} (h : Iv τ T) {i v : Nat} (hi : i < 5) (hv : v ≤ hiS i) : Iv (pu τ 6 (fu (τ 6) i v)) T := by
  obtain ⟨⟨⟨a1, a2, a3, ⟨b0, b1, b2, b3, b4⟩, a4⟩, h2⟩, h3⟩ := h
  refine ⟨⟨⟨a1, a2, a3, ?_, a4⟩, h2⟩, h3⟩
  show fu (τ 6) i v 0 ≤ 90 ∧ fu (τ 6) i v 1 ≤ 20 ∧ fu (τ 6) i v 2 ≤ 1 ∧ fu (τ 6) i v 3 ≤ 8 ∧ fu (τ 6) i v 4 ≤ 12
  rcases (show i = 0 ∨ i = 1 ∨ i = 2 ∨ i = 3 ∨ i = 4 by omega) with rfl | rfl | rfl | rfl | rfl
  · exact ⟨hv, b1, b2, b3, b4⟩
  · exact ⟨b0, hv, b2, b3, b4⟩
  · exact ⟨b0, b1, hv, b3, b4⟩
  · exact ⟨b0, b1, b2, hv, b4⟩
  · exact ⟨b0, b1, b2, b3, hv⟩
theorem Iv.md {τ : Nat → Nat → Nat} {T j : Nat} (h : Iv τ T) (hj : j < 12) : Iv (mdS τ j) T := by
  obtain ⟨⟨ok, h2, h3, h6, h7, h8⟩, h11⟩ := h
  have e7 : τ 7 0 &&& (2 ^ j ^^^ 4294967295) < 4096 := Nat.lt_of_le_of_lt Nat.and_le_left ok.2.2.2.2.1
  have h12 : τ 12 0 ≤ T := ok.2.2.2.2.2.2.2.2.2.1
  refine ⟨⟨?_, h2, h3, ?_, ?_, h8⟩, h11⟩
  · refine ((ok.p2 (g := fu (τ 2) j 0) (fun i hi => ?_)).p7 e7).p1 (g := fu (τ 1) j (τ 12 0)) (fun i hi => ?_)
    · unfold fu
      split
      · exact Nat.zero_le _
      · exact ok.2.2.1 i hi
    · unfold fu
      split
      · omega
      · exact ok.2.1 i hi
  · intro i hi
    show fu (τ 1) j (τ 12 0) i ≤ τ 12 0 + 90
    by_cases e : i = j
    · subst e; rw [fu_at]; omega
    · rw [fu_ne e]; exact h6 i hi
  · intro i hi hbi
    have hbi' : (τ 7 0 &&& (2 ^ j ^^^ 4294967295)).testBit i = true := hbi
    show fu (τ 1) j (τ 12 0) i ≤ τ 12 0
    by_cases e : i = j
    · subst e; rw [fu_at]; exact Nat.le_refl _
    · rw [fu_ne e]
      rw [Nat.testBit_and] at hbi'
      exact h7 i hi (and_true_iff' hbi').1
theorem Iv.i : Iv iS 0 := by
  have h0 : ∀ i j, i ≠ 6 → i ≠ 8 → i ≠ 11 → iS i j = 0 := fun i j a b c => by
    unfold iS
    rw [if_neg a, if_neg b, if_neg c]
    rfl
  refine ⟨⟨⟨fun k _ => ?_, fun j _ => ?_, fun j _ => ?_, ⟨by decide, by decide, by decide, by decide, by decide⟩, by decide, by decide, by decide, by decide, by decide, by decide, by decide, by decide⟩, rfl, ⟨by decide, by decide, by decide⟩, fun j _ => ?_, fun j _ _ => ?_, by decide, fun b _ hb => ?_, fun b _ hb => ?_⟩, by decide⟩
  · rw [h0 0 k (by decide) (by decide) (by decide)]; decide
  · rw [h0 1 j (by decide) (by decide) (by decide)]; exact Nat.zero_le _
  · rw [h0 2 j (by decide) (by decide) (by decide)]; exact Nat.zero_le _
  · rw [h0 1 j (by decide) (by decide) (by decide)]; exact Nat.zero_le _
  · rw [h0 1 j (by decide) (by decide) (by decide)]; exact Nat.zero_le _
  · rw [h0 14 0 (by decide) (by decide) (by decide)] at hb; omega
  · rw [h0 14 0 (by decide) (by decide) (by decide)] at hb; omega
theorem pu_self {τ : Nat → Nat → Nat} {i : Nat} {g : Nat → Nat} (h : τ i = g) : pu τ i g = τ := by
  funext k
  unfold pu
  split
  · rename_i e; rw [e, h]
  · rfl
/-- a step by hand: all that is asked of it -/
def stepQ (τ u : Nat → Nat → Nat) : Prop :=
  u 13 0 = τ 13 0 + 1 ∧ u 12 0 = τ 12 0 + tiS τ ∧ u 10 0 = τ 10 0 - ndS τ ∧ u 8 0 = pnS τ ∧ u 9 0 = tnS τ ∧ (τ 14 0 ≤ u 14 0 ∧ τ 15 0 ≤ u 15 0 ∧ ones (τ 7 0) ≤ ones (u 7 0)) ∧
  ((u 14 0 - τ 14 0) + (ones (u 7 0) - ones (τ 7 0)) = ndS τ - 1 ∧ ones (u 7 0) - ones (τ 7 0) ≤ u 15 0 - τ 15 0 ∧ u 15 0 - τ 15 0 ≤ ndS τ - 1) ∧
  (∀ b, b < u 14 0 - τ 14 0 → u 4 ((u 14 0 - 1 - b) % 24) < 12 ∧ (τ 0 (tnS τ * 32 + pnS τ)).testBit (u 4 ((u 14 0 - 1 - b) % 24)) = true ∧ u 5 ((u 14 0 - 1 - b) % 24) = τ 12 0 + tiS τ ∧ 4 ≤ u 1 (u 4 ((u 14 0 - 1 - b) % 24)) - u 12 0 ∧ (∀ b', b' < b → u 4 ((u 14 0 - 1 - b) % 24) < u 4 ((u 14 0 - 1 - b') % 24)))
theorem step_q {τ : Nat → Nat → Nat} {T : Nat} (h : Iv τ T) (hc : canS τ = true) : stepQ τ (goS τ) := by
  obtain ⟨i1, q1, ⟨q2, q3, q4⟩, ⟨q5, q6, q7⟩, q8, q9⟩ := go_out h hc
  have en := nd_eq h.1.1
  have f13 : goS τ 13 0 = τ 13 0 + 1 := by rw [q1 13 (by omega)]; rfl
  have f12 : goS τ 12 0 = τ 12 0 + tiS τ := by rw [q1 12 (by omega)]; rfl
  have f10 : goS τ 10 0 = τ 10 0 - ndS τ := by rw [q1 10 (by omega)]; rfl
  have f8 : goS τ 8 0 = pnS τ := by rw [q1 8 (by omega)]; rfl
  have f9 : goS τ 9 0 = tnS τ := by rw [q1 9 (by omega)]; rfl
  have g12 : goA τ 12 0 = τ 12 0 + tiS τ := rfl
  have g14 : goA τ 14 0 = τ 14 0 := rfl
  have g15 : goA τ 15 0 = τ 15 0 := rfl
  have g7 : goA τ 7 0 = τ 7 0 := rfl
  rw [g14] at q2 q5 q9
  rw [g15] at q3 q6 q7
  rw [g7] at q4 q5 q6
  rw [g12] at q9
  refine ⟨f13, f12, f10, f8, f9, ⟨q2, q3, q4⟩, ⟨by omega, q6, by omega⟩, fun b hb => ?_⟩
  obtain ⟨r1, r2, r3, r4, r5⟩ := q9 b hb
  refine ⟨r1, ?_, r3, by rw [f12]; omega, r5⟩
  rw [stk_bit r1] at r2
  exact (and_true_iff' r2).1
theorem wo_mono {τ : Nat → Nat → Nat} : ∀ n k, (woS τ k).1 + n ≤ (woS τ (k + n)).1
  | 0, _ => Nat.le_refl _
  | n + 1, k => by
    have h := wo_mono (τ := τ) n k
    have e : woS τ (k + (n + 1)) = woS τ (k + n + 1) := rfl
    rw [e]
    show _ ≤ (woS τ (k + n)).1 + wfS τ _ _
    unfold wfS
    omega
