/-! ===== the widest gap, on both sides ===== -/
section
variable {τ : Nat → Nat → Nat} {t j x : Nat}
theorem wgA {k : Nat} (hh : hb τ t j k = false) : wgS τ t j (k + 1) = wgS τ t j k := by
  rw [wgS, if_neg (by rw [hh]; decide)]
theorem wgB {k : Nat} (hh : hb τ t j k = true) (hf : (wgS τ t j k).1 = 4294967295) : wgS τ t j (k + 1) = (k, k, (wgS τ t j k).2.2) := by
  rw [wgS, if_pos hh, if_pos hf]
theorem wgC {k : Nat} (hh : hb τ t j k = true) (hf : ¬ (wgS τ t j k).1 = 4294967295) : wgS τ t j (k + 1) = ((wgS τ t j k).1, k, max (wgS τ t j k).2.2 (k - (wgS τ t j k).2.1)) := by
  rw [wgS, if_pos hh, if_neg hf]
theorem wg_st : ∀ k, k ≤ 32 → (wgS τ t j k = (4294967295, 4294967295, 0) ∧ ∀ p, p < k → hb τ t j p = false) ∨ ((wgS τ t j k).1 ≤ (wgS τ t j k).2.1 ∧ (wgS τ t j k).2.1 < k ∧ hb τ t j (wgS τ t j k).2.1 = true)
  | 0, _ => Or.inl ⟨rfl, fun p hp => absurd hp (Nat.not_lt_zero p)⟩
  | k + 1, hk => by
    cases c : hb τ t j k
    · rw [wgA c]
      rcases wg_st k (by omega) with ⟨h1, h2⟩ | ⟨h1, h2, h3⟩
      · refine Or.inl ⟨h1, fun p hp => ?_⟩
        by_cases e : p = k
        · rw [e]; exact c
        · exact h2 p (by omega)
      · exact Or.inr ⟨h1, by omega, h3⟩
    · rcases wg_st k (by omega) with ⟨h1, h2⟩ | ⟨h1, h2, h3⟩
      · rw [wgB c (by rw [h1])]
        exact Or.inr ⟨Nat.le_refl k, Nat.lt_succ_self k, c⟩
      · rw [wgC c (by omega)]
        exact Or.inr ⟨by dsimp only; omega, Nat.lt_succ_self k, c⟩
theorem wid_1 (hx : ∀ p, p < 32 → x.testBit p = hb τ t j p) : ∀ k, k ≤ 32 → (wid x k).1 = 0 ∧ (wid x k).2 = if (wgS τ t j k).1 = 4294967295 then k else k - 1 - (wgS τ t j k).2.1
  | 0, _ => ⟨rfl, rfl⟩
  | k + 1, hk => by
    obtain ⟨i1, i2⟩ := wid_1 hx k (by omega)
    have e1 := (wid_c (x := x) (k := k) (by omega)).symm
    have hm : k % 32 = k := by omega
    have hst := wg_st (τ := τ) (t := t) (j := j) k (by omega)
    cases c : hb τ t j k
    · have e2 := (wid_f (x := x) (k := k) (by rw [hm, hx k (by omega)]; exact c)).symm
      rw [e1, e2, wgA c]
      refine ⟨i1, ?_⟩
      rw [i2]
      by_cases f : (wgS τ t j k).1 = 4294967295
      · rw [if_pos f, if_pos f]
      · rw [if_neg f, if_neg f]
        rcases hst with ⟨h1, -⟩ | ⟨-, h2, -⟩
        · rw [h1] at f; exact absurd rfl f
        · omega
    · have e2 := (wid_e (x := x) (k := k) (by rw [hm, hx k (by omega)]; exact c)).symm
      by_cases f : (wgS τ t j k).1 = 4294967295
      · rw [e1, e2, wgB c f]
        refine ⟨i1, ?_⟩
        dsimp only
        rw [if_neg (by omega)]
        omega
      · rw [e1, e2, wgC c f]
        refine ⟨i1, ?_⟩
        dsimp only
        rw [if_neg f]
        omega
theorem wid_2 (hx : ∀ p, p < 32 → x.testBit p = hb τ t j p) (hF : ¬ (wgS τ t j 32).1 = 4294967295) : ∀ k, k ≤ 32 → wid x (32 + k) = if (wgS τ t j k).1 = 4294967295 then (0, 31 - (wgS τ t j 32).2.1 + k) else (max (wgS τ t j k).2.2 ((wgS τ t j k).1 + 32 - (wgS τ t j 32).2.1), k - 1 - (wgS τ t j k).2.1)
  | 0, _ => by
    obtain ⟨i1, i2⟩ := wid_1 hx 32 (Nat.le_refl _)
    rw [if_neg hF] at i2
    rw [wgS_0, if_pos rfl]
    exact Prod.ext i1 i2
  | k + 1, hk => by
    have ih := wid_2 hx hF k (by omega)
    have hm : (32 + k) % 32 = k := by omega
    have hst := wg_st (τ := τ) (t := t) (j := j) k (by omega)
    have hG : (wgS τ t j 32).2.1 < 32 := by
      rcases wg_st (τ := τ) (t := t) (j := j) 32 (Nat.le_refl _) with ⟨h1, -⟩ | ⟨-, h2, -⟩
      · rw [h1] at hF; exact absurd rfl hF
      · exact h2
    show wid x (32 + k + 1) = _
    cases c : hb τ t j k
    · have e2 := wid_f (x := x) (k := 32 + k) (by rw [hm, hx k (by omega)]; exact c)
      have e1 := wid_b (x := x) (k := 32 + k) (by rw [hm, hx k (by omega)]; exact c)
      rw [wgA c]
      refine Prod.ext (e1.symm.trans ?_) (e2.symm.trans ?_) <;> rw [ih] <;> by_cases f : (wgS τ t j k).1 = 4294967295
      · rw [if_pos f, if_pos f]
      · rw [if_neg f, if_neg f]
      · rw [if_pos f, if_pos f]
        dsimp only
        omega
      · rw [if_neg f, if_neg f]
        dsimp only
        rcases hst with ⟨h1, -⟩ | ⟨-, h2, -⟩
        · rw [h1] at f; exact absurd rfl f
        · omega
    · have e2 := wid_e (x := x) (k := 32 + k) (by rw [hm, hx k (by omega)]; exact c)
      have e1 : (wid x (32 + k + 1)).1 = max (wid x (32 + k)).1 ((wid x (32 + k)).2 + 1) := by
        by_cases d : (wid x (32 + k)).1 < (wid x (32 + k)).2 + 1
        · rw [← wid_a (by rw [hm, hx k (by omega)]; exact c) (by omega) d]
          omega
        · rw [← wid_d (x := x) (k := 32 + k) (by omega)]
          omega
      by_cases f : (wgS τ t j k).1 = 4294967295
      · rw [if_pos f] at ih
        rcases hst with ⟨h1, -⟩ | ⟨h1, h2, -⟩
        · rw [wgB c f, h1]
          dsimp only
          rw [if_neg (by omega)]
          refine Prod.ext ?_ ?_
          · rw [e1, ih]
            dsimp only
            omega
          · rw [← e2]
            dsimp only
            omega
        · omega
      · rw [if_neg f] at ih
        rcases hst with ⟨h1, -⟩ | ⟨h1, h2, -⟩
        · rw [h1] at f; exact absurd rfl f
        · rw [wgC c f]
          dsimp only
          rw [if_neg f]
          refine Prod.ext ?_ ?_
          · rw [e1, ih]
            dsimp only
            omega
          · rw [← e2]
            dsimp only
            omega
end
theorem rl_wide {τ : Nat → Nat → Nat} {σ : Nat → Nat} (h : rlC (τ 0) σ) {j : Nat} (ht : τ 9 0 < 3) (h9 : τ 9 0 = σ 134) (hj : j < 12) (hs : ∀ i, i < 36 → σ i < 2 ^ 32) : wgN (wgS τ (τ 9 0) j 32) = wide σ j := by
  rw [h9] at ht ⊢
  have hx : ∀ p, p < 32 → (σ (12 * σ 134 + j)).testBit p = hb τ (σ 134) j p := fun p hp => (h.hb ht hj hp).symm
  unfold wide
  rcases wg_st (τ := τ) (t := σ 134) (j := j) 32 (Nat.le_refl _) with ⟨h1, h2⟩ | ⟨h1, h2, h3⟩
  · have e0 : σ (12 * σ 134 + j) = 0 := by
      refine Classical.byContradiction fun q => ?_
      obtain ⟨p, hp, hb⟩ := (bits0 (hs (12 * σ 134 + j) (by omega))).mp q
      rw [hx p hp, h2 p hp] at hb
      cases hb
    rw [h1, if_pos e0]
    rfl
  · have e0 : ¬ σ (12 * σ 134 + j) = 0 := (bits0 (hs (12 * σ 134 + j) (by omega))).mpr ⟨_, h2, by rw [hx _ h2]; exact h3⟩
    have hF : ¬ (wgS τ (σ 134) j 32).1 = 4294967295 := by omega
    rw [if_neg e0, show (64 : Nat) = 32 + 32 from rfl, wid_2 hx hF 32 (Nat.le_refl _), if_neg hF]
    unfold wgN
    rw [if_neg hF]
theorem rl_numK {τ : Nat → Nat → Nat} {σ : Nat → Nat} (h : rl τ σ) (ok : okM σ) (ht : τ 9 0 < 3) {j w : Nat} (hj : j < 12) (hw : w < 5) : numK τ j w = oto σ j w := by
  obtain ⟨t1, t2, t3, t4⟩ := h.2.1 j hj
  unfold oto
  rcases (show w = 0 ∨ w = 1 ∨ w = 2 ∨ w = 3 ∨ w = 4 by omega) with e | e | e | e | e <;> rw [e]
  · rw [numK_0, if_pos (by decide)]; exact t1
  · rw [numK_1, if_pos (by decide)]; exact t2
  · rw [numK_2, if_pos (by decide), t3]
    have := ok.broken hj
    by_cases c : σ (36 + 4 * j + 2) = 0
    · rw [c]; rfl
    · rw [decide_eq_true c]
      show 1 = _
      omega
  · rw [numK_3, if_pos (by decide)]; exact t4
  · rw [numK_4, if_neg (by decide)]
    exact rl_wide h.1 ht h.2.2.2.1.2.1 hj (fun i hi => ok.pin hi)
