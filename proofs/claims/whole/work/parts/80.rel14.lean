/-! ===== a range of pins is set, on both sides; a number or a setting changes; a tooth is mended ===== -/
theorem rl_range {τ : Nat → Nat → Nat} {σ : Nat → Nat} (h : rlC (τ 0) σ) (hg : ∀ k, k < 96 → τ 0 k < 4096) (h3 : τ 6 3 = σ 145) (h4 : τ 6 4 = σ 146) {t j x : Nat} (ht : t < 3) (hj : j < 12) : ∀ k, x + k ≤ 32 → rlC (prC τ t j x k).2 (prs σ t j x k) ∧ (prC τ t j x k).1 = prc σ t j x k ∧ (∀ i, 36 ≤ i → prs σ t j x k i = σ i)
  | 0, _ => ⟨h, rfl, fun _ _ => rfl⟩
  | k + 1, hk => by
    obtain ⟨h1, h2, h5⟩ := rl_range h hg h3 h4 (x := x) ht hj k (by omega)
    have ok := (prC_ok (x := x) hg hj ht k (by omega)).2
    have e : hiS' (pu τ 0 (prC τ t j x k).2) t j (x + k) = hind (prs σ t j x k) t j (x + k) := rl_hind (τ := pu τ 0 (prC τ t j x k).2) h1 ht hj (by omega) (ok _ (by omega)) (by rw [h5 145 (by decide)]; exact h3) (by rw [h5 146 (by decide)]; exact h4)
    by_cases c : hind (prs σ t j x k) t j (x + k) = 0
    · rw [prC_t rfl (e.trans c), (prs_t c).1, (prs_t c).2]
      exact ⟨h1.put ht hj (by omega), congrArg (· + 1) h2, fun i hi => by rw [fu_ne (by omega)]; exact h5 i hi⟩
    · rw [prC_f rfl (by rw [e]; exact c), (prs_f c).1, (prs_f c).2]
      exact ⟨h1, h2, h5⟩
/-- other pins, all else the same -/
theorem rl.cho {τ : Nat → Nat → Nat} {σ ψ g : Nat → Nat} (h : rl τ σ) (hC : rlC g ψ) (ho : ∀ i, 36 ≤ i → ψ i = σ i) : rl (pu τ 0 g) ψ := by
  obtain ⟨-, hT, ⟨n1, n2⟩, ⟨v0, v1, v2, v3, v4, v5, v6, v7, v8⟩, ⟨s0, s1, s2, s3, s4⟩⟩ := h
  refine ⟨hC, fun j hj => ?_, ⟨(ho 132 (by decide)).trans n1, fun b hb => ?_⟩, ⟨v0.trans (ho _ (by decide)).symm, v1.trans (ho _ (by decide)).symm, v2.trans (ho _ (by decide)).symm, v3.trans (ho _ (by decide)).symm, v4.trans (ho _ (by decide)).symm, v5.trans (ho _ (by decide)).symm, v6.trans (ho _ (by decide)).symm, v7.trans (ho _ (by decide)).symm, v8.trans (ho _ (by decide)).symm⟩, ⟨s0.trans (ho _ (by decide)).symm, s1.trans (ho _ (by decide)).symm, s2.trans (ho _ (by decide)).symm, s3.trans (ho _ (by decide)).symm, s4.trans (ho _ (by decide)).symm⟩⟩
  · rw [ho _ (by omega), ho _ (by omega), ho _ (by omega), ho _ (by omega)]
    exact hT j hj
  · rw [ho 132 (by decide)] at hb
    rw [ho _ (by omega), ho _ (by omega)]
    exact n2 b hb
/-- one of the numbers changes -/
theorem rl_val {τ υ : Nat → Nat → Nat} {σ : Nat → Nat} (h : rl τ σ) {i v : Nat} (hi : i = 133 ∨ i = 134 ∨ i = 135 ∨ i = 136) (hlow : ∀ k, k < 8 → υ k = τ k) (hhi : ∀ k, 12 ≤ k → υ k = τ k)
    (h8 : υ 8 0 = fu σ i v 133) (h9 : υ 9 0 = fu σ i v 134) (h10 : υ 10 0 = fu σ i v 135) (h11 : υ 11 0 = fu σ i v 136) : rl υ (fu σ i v) := by
  obtain ⟨hC, hT, ⟨n1, n2⟩, ⟨v0, v1, v2, v3, v4, v5, v6, v7, v8⟩, ⟨s0, s1, s2, s3, s4⟩⟩ := h
  have e : ∀ k, k < 133 ∨ 137 ≤ k → fu σ i v k = σ k := fun k hk => fu_ne (by omega)
  have e0 := hlow 0 (by decide)
  have e1 := hlow 1 (by decide)
  have e2 := hlow 2 (by decide)
  have e3 := hlow 3 (by decide)
  have e4 := hlow 4 (by decide)
  have e5 := hlow 5 (by decide)
  have e6 := hlow 6 (by decide)
  have e7 := hlow 7 (by decide)
  have e12 := hhi 12 (by decide)
  have e13 := hhi 13 (by decide)
  have e14 := hhi 14 (by decide)
  have e15 := hhi 15 (by decide)
  have e16 := hhi 16 (by decide)
  refine ⟨fun t ht j hj p hp => ?_, fun j hj => ?_, ⟨?_, fun b hb => ?_⟩, ⟨h8, h9, h10, h11, ?_, ?_, ?_, ?_, ?_⟩, ⟨?_, ?_, ?_, ?_, ?_⟩⟩
  · rw [e0, e _ (by omega)]; exact hC t ht j hj p hp
  · rw [e1, e12, e2, e7, e3, e _ (by omega), e _ (by omega), e _ (by omega), e _ (by omega)]; exact hT j hj
  · rw [e _ (by omega), e14]; exact n1
  · rw [e 132 (by omega)] at hb
    rw [e _ (by omega), e _ (by omega), e4, e5, e14]; exact n2 b hb
  · rw [e12, e _ (by omega)]; exact v4
  · rw [e13, e _ (by omega)]; exact v5
  · rw [e14, e _ (by omega)]; exact v6
  · rw [e15, e _ (by omega)]; exact v7
  · rw [e16, e _ (by omega)]; exact v8
  · rw [e6, e _ (by omega)]; exact s0
  · rw [e6, e _ (by omega)]; exact s1
  · rw [e6, e _ (by omega)]; exact s2
  · rw [e6, e _ (by omega)]; exact s3
  · rw [e6, e _ (by omega)]; exact s4
theorem pu_ne {φ : Nat → Nat → Nat} {i k : Nat} {g : Nat → Nat} (h : k ≠ i) : pu φ i g k = φ k := if_neg h
theorem rl_8 {τ : Nat → Nat → Nat} {σ : Nat → Nat} (h : rl τ σ) (v : Nat) : rl (pu τ 8 (kc v)) (fu σ 133 v) :=
  rl_val h (Or.inl rfl) (fun k hk => pu_ne (by omega)) (fun k hk => pu_ne (by omega)) rfl h.2.2.2.1.2.1 h.2.2.2.1.2.2.1 h.2.2.2.1.2.2.2.1
theorem rl_9 {τ : Nat → Nat → Nat} {σ : Nat → Nat} (h : rl τ σ) (v : Nat) : rl (pu τ 9 (kc v)) (fu σ 134 v) :=
  rl_val h (Or.inr (Or.inl rfl)) (fun k hk => pu_ne (by omega)) (fun k hk => pu_ne (by omega)) h.2.2.2.1.1 rfl h.2.2.2.1.2.2.1 h.2.2.2.1.2.2.2.1
theorem rl_10 {τ : Nat → Nat → Nat} {σ : Nat → Nat} (h : rl τ σ) (v : Nat) : rl (pu τ 10 (kc v)) (fu σ 135 v) :=
  rl_val h (Or.inr (Or.inr (Or.inl rfl))) (fun k hk => pu_ne (by omega)) (fun k hk => pu_ne (by omega)) h.2.2.2.1.1 h.2.2.2.1.2.1 rfl h.2.2.2.1.2.2.2.1
theorem rl_11 {τ : Nat → Nat → Nat} {σ : Nat → Nat} (h : rl τ σ) (v : Nat) : rl (pu τ 11 (kc v)) (fu σ 136 v) :=
  rl_val h (Or.inr (Or.inr (Or.inr rfl))) (fun k hk => pu_ne (by omega)) (fun k hk => pu_ne (by omega)) h.2.2.2.1.1 h.2.2.2.1.2.1 h.2.2.2.1.2.2.1 rfl
theorem rl_set {τ : Nat → Nat → Nat} {σ : Nat → Nat} (h : rl τ σ) {i v : Nat} (hi : i < 5) : rl (pu τ 6 (fu (τ 6) i v)) (fu σ (142 + i) v) := by
  obtain ⟨hC, hT, ⟨n1, n2⟩, ⟨v0, v1, v2, v3, v4, v5, v6, v7, v8⟩, ⟨s0, s1, s2, s3, s4⟩⟩ := h
  have e : ∀ k, k < 142 → fu σ (142 + i) v k = σ k := fun k hk => fu_ne (by omega)
  have es : ∀ k, τ 6 k = σ (142 + k) → fu (τ 6) i v k = fu σ (142 + i) v (142 + k) := fun k hh => by
    by_cases c : k = i
    · subst c; rw [fu_at, fu_at]
    · rw [fu_ne c, fu_ne (by omega)]; exact hh
  refine ⟨fun t ht j hj p hp => ?_, fun j hj => ?_, ⟨?_, fun b hb => ?_⟩, ⟨v0.trans (e _ (by decide)).symm, v1.trans (e _ (by decide)).symm, v2.trans (e _ (by decide)).symm, v3.trans (e _ (by decide)).symm, v4.trans (e _ (by decide)).symm, v5.trans (e _ (by decide)).symm, v6.trans (e _ (by decide)).symm, v7.trans (e _ (by decide)).symm, v8.trans (e _ (by decide)).symm⟩, ⟨es 0 s0, es 1 s1, es 2 s2, es 3 s3, es 4 s4⟩⟩
  · rw [e _ (by omega)]; exact hC t ht j hj p hp
  · rw [e _ (by omega), e _ (by omega), e _ (by omega), e _ (by omega)]; exact hT j hj
  · rw [e _ (by omega)]; exact n1
  · rw [e 132 (by omega)] at hb
    rw [e _ (by omega), e _ (by omega)]; exact n2 b hb
theorem rl_mend {τ : Nat → Nat → Nat} {σ : Nat → Nat} (h : rl τ σ) {j : Nat} (hj : j < 12) : rl (mdS τ j) (fu (fu (fu σ (36 + 4 * j + 1) 0) (36 + 4 * j + 0) 0) (36 + 4 * j + 2) 0) := by
  have hT := h.2.1
  have v7 := h.2.2.2.1.2.2.2.2.2.2.2.1
  have e : ∀ i, fu (fu (fu σ (36 + 4 * j + 1) 0) (36 + 4 * j + 0) 0) (36 + 4 * j + 2) 0 i = if i = 36 + 4 * j + 2 then 0 else if i = 36 + 4 * j + 0 then 0 else if i = 36 + 4 * j + 1 then 0 else σ i := fun i => rfl
  unfold mdS
  refine rl_tooth h hj (fun i h1 h2 => ?_) (fun i hi hij w hw => ?_) rfl (fun i hi => fu_ne hi) (fun i hi => fu_ne hi) rfl rfl rfl rfl (fun i hi h12 => ?_) (fun k h8 h15 => ?_) ?_ ?_ ?_ ?_ ?_
  · rw [e, if_neg (by omega), if_neg (by omega), if_neg (by omega)]
  · rw [e, if_neg (by omega), if_neg (by omega), if_neg (by omega)]
  · show (τ 7 0 &&& (2 ^ j ^^^ 4294967295)).testBit i = _
    rw [Nat.testBit_and, ntb (by omega) (by omega), decide_eq_false (fun q => hi q.symm)]
    simp
  · show (if k = 1 then _ else if k = 7 then _ else if k = 2 then _ else τ k) = τ k
    rw [if_neg (by omega), if_neg (by omega), if_neg (by omega)]
  · show fu (τ 1) j (τ 12 0) j - τ 12 0 = _
    rw [fu_at, e, if_neg (by omega), if_pos rfl, Nat.sub_self]
  · show fu (τ 2) j 0 j = _
    rw [fu_at, e, if_neg (by omega), if_neg (by omega), if_pos rfl]
  · show (τ 7 0 &&& (2 ^ j ^^^ 4294967295)).testBit j = _
    rw [Nat.testBit_and, ntb (by omega) (by omega), decide_eq_true rfl, e, if_pos rfl]
    simp
  · rw [e, if_neg (by omega), if_neg (by omega), if_neg (by omega)]
  · show τ 15 0 = _
    rw [e, if_neg (by omega), if_neg (by omega), if_neg (by omega), v7]
