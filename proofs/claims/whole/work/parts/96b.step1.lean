/-! ===== each thing to do, on both sides: the state ===== -/
theorem R0.pin {τ : Nat → Nat → Nat} {σ : Nat → Nat} {T t j p : Nat} (h : R0 τ σ T) (ht : t < 3) (hj : j < 12) (hp : p < 32) : R0 (pu τ 0 (fu (τ 0) (t * 32 + p) (τ 0 (t * 32 + p) ||| 2 ^ j))) (fu σ (12 * t + j) (σ (12 * t + j) ||| 2 ^ p)) T ∧ poS (pu τ 0 (fu (τ 0) (t * 32 + p) (τ 0 (t * 32 + p) ||| 2 ^ j))) t 32 = pins (fu σ (12 * t + j) (σ (12 * t + j) ||| 2 ^ p)) t := by
  obtain ⟨r, ok, om⟩ := h
  have hC := rlC.put r.1 ht hj hp
  have hlt : τ 0 (t * 32 + p) ||| 2 ^ j < 4096 := Nat.or_lt_two_pow (n := 12) (ok.1 _ (by omega)) (Nat.pow_lt_pow_right (by decide) hj)
  have r' := r.cho hC (fun i hi => fu_ne (by omega))
  have ok' := ok.p0 (fu_lt (i := t * 32 + p) ok.1 hlt)
  exact ⟨⟨r', ok', om.setpin (by omega) hp⟩, rl_pins r'.1 ok'.1 ht⟩
theorem R0.pull {τ : Nat → Nat → Nat} {σ : Nat → Nat} {T t j x k : Nat} (h : R0 τ σ T) (ht : t < 3) (hj : j < 12) (hx : x + k ≤ 32) : R0 (pu τ 0 (tkC τ t j x k).2) (pul σ (12 * t + j) x k) T ∧ (tkC τ t j x k).1 = pulc σ (12 * t + j) x k := by
  obtain ⟨r, ok, om⟩ := h
  have hs : σ (12 * t + j) < 4294967296 := om.pin (by omega)
  obtain ⟨h1, h2⟩ := rl_pull (x := x) r.1 ht hj hs k hx
  obtain ⟨q1, q2⟩ := pul_bit σ (12 * t + j) x hs k
  refine ⟨⟨r.cho h1 (fun i hi => q1 i (by omega)), ok.p0 (tkC_ok (x := x) ok.1 hj ht k hx).2, fun i hi => ?_⟩, h2⟩
  by_cases e : i = 12 * t + j
  · rw [e] at hi ⊢; exact Nat.le_trans q2 (om _ hi)
  · rw [q1 i e]; exact om i hi
theorem R0.copy {τ : Nat → Nat → Nat} {σ : Nat → Nat} {T f t w v : Nat} {mv : Nat → Nat} (h : R0 τ σ T) (hf : f < 3) (ht : t < 3) (hft : f ≠ t) (hw : w < 64)
    (hmv : ∀ x, x < 4096 → ∀ j, j < 12 → ((mv x).testBit j = true ↔ ∃ a, a < 12 ∧ x.testBit a = true ∧ a + v = j + 12)) : R0 (pu τ 0 (rpC τ f t w mv 32)) (cpl (clr σ t 12) f t w v 384) T ∧ poS (pu τ 0 (rpC τ f t w mv 32)) t 32 = pins (cpl (clr σ t 12) f t w v 384) t := by
  obtain ⟨r, ok, om⟩ := h
  have hC := rl_copy r.1 ok.1 hf ht hft hw hmv
  have ho : ∀ i, (∀ j, j < 12 → i ≠ 12 * t + j) → cpl (clr σ t 12) f t w v 384 i = σ i := fun i hi => by
    rw [cpl_o hi, clr_at, if_neg (fun q => hi (i - 12 * t) (by omega) (by omega))]
  have r' := r.cho hC (fun i hi => ho i (fun j hj => by omega))
  have ok' := ok.p0 (g := rpC τ f t w mv 32) (rpC_ok ok.1 32)
  refine ⟨⟨r', ok', fun i hi => ?_⟩, rl_pins r'.1 ok'.1 ht⟩
  by_cases c : 12 * t ≤ i ∧ i < 12 * t + 12
  · have hlt : cpl (clr σ t 12) f t w v 384 i < 2 ^ 32 := Nat.lt_pow_two_of_testBit _ (fun p hp => by
      cases e : (cpl (clr σ t 12) f t w v 384 i).testBit p with
      | false => rfl
      | true =>
        rw [show i = 12 * t + (i - 12 * t) by omega] at e
        rcases (cpl_bit hft (i - 12 * t) p (by omega) 384 (Nat.le_refl _)).mp e with q | ⟨m, -, -, -, q⟩
        · rw [clr_at, if_pos (by omega), Nat.zero_testBit] at q
          cases q
        · have := Nat.mod_lt (m % 32 + w) (show 0 < 32 by decide)
          omega)
    have hb : bnd i = 4294967295 := if_pos (by omega)
    rw [hb]
    omega
  · rw [ho i (fun j hj => by omega)]
    exact om i hi
theorem R0.wind {τ : Nat → Nat → Nat} {σ : Nat → Nat} {T v : Nat} (h : R0 τ σ T) (hv : v ≤ 400) : R0 (pu τ 10 (kc v)) (fu σ 135 v) T := ⟨rl_10 h.1 v, h.2.1.p10 hv, h.2.2.put (fun _ => by rw [show bnd 135 = 400 from rfl]; exact hv)⟩
theorem R0.vanes {τ : Nat → Nat → Nat} {σ : Nat → Nat} {T v : Nat} (h : R0 τ σ T) (hv : v ≤ 9) : R0 (pu τ 11 (kc v)) (fu σ 136 v) T := ⟨rl_11 h.1 v, h.2.1.p11 hv, h.2.2.put (fun _ => by rw [show bnd 136 = 9 from rfl]; exact hv)⟩
theorem R0.shift {τ : Nat → Nat → Nat} {σ : Nat → Nat} {T v : Nat} (h : R0 τ σ T) (hv : v < 3) : R0 (pu τ 9 (kc v)) (fu σ 134 v) T := ⟨rl_9 h.1 v, h.2.1.p9 hv, h.2.2.put (fun _ => by rw [show bnd 134 = 2 from rfl]; omega)⟩
theorem R0.set {τ : Nat → Nat → Nat} {σ : Nat → Nat} {T i v : Nat} (h : R0 τ σ T) (hi : i < 5) (hv : v ≤ hiS i) : R0 (pu τ 6 (fu (τ 6) i v)) (fu σ (142 + i) v) T := by
  obtain ⟨r, ok, om⟩ := h
  obtain ⟨a0, a1, a2, a3, a4⟩ := ok.2.2.2.1
  refine ⟨rl_set r hi, ⟨ok.1, ok.2.1, ok.2.2.1, ?_, ok.2.2.2.2⟩, om.put (fun _ => ?_)⟩
  · rcases (show i = 0 ∨ i = 1 ∨ i = 2 ∨ i = 3 ∨ i = 4 by omega) with rfl | rfl | rfl | rfl | rfl
    · exact ⟨hv, a1, a2, a3, a4⟩
    · exact ⟨a0, hv, a2, a3, a4⟩
    · exact ⟨a0, a1, hv, a3, a4⟩
    · exact ⟨a0, a1, a2, hv, a4⟩
    · exact ⟨a0, a1, a2, a3, hv⟩
  · rcases (show i = 0 ∨ i = 1 ∨ i = 2 ∨ i = 3 ∨ i = 4 by omega) with rfl | rfl | rfl | rfl | rfl <;> exact hv
theorem R0.mend {τ : Nat → Nat → Nat} {σ : Nat → Nat} {T j : Nat} (h : R0 τ σ T) (hj : j < 12) : R0 (mdS τ j) (fu (fu (fu σ (36 + 4 * j + 1) 0) (36 + 4 * j + 0) 0) (36 + 4 * j + 2) 0) T := by
  obtain ⟨r, ok, om⟩ := h
  refine ⟨rl_mend r hj, ?_, ((om.put (fun _ => Nat.zero_le _)).put (fun _ => Nat.zero_le _)).put (fun _ => Nat.zero_le _)⟩
  have h7 : τ 7 0 &&& (2 ^ j ^^^ 4294967295) < 4096 := Nat.lt_of_le_of_lt Nat.and_le_left ok.2.2.2.2.1
  have h12 : τ 12 0 ≤ T := ok.2.2.2.2.2.2.2.2.2.1
  refine ((ok.p2 (g := fu (τ 2) j 0) (fun i hi => ?_)).p7 h7).p1 (g := fu (τ 1) j (τ 12 0)) (fun i hi => ?_)
  · unfold fu
    split
    · exact Nat.zero_le _
    · exact ok.2.2.1 i hi
  · unfold fu
    split
    · omega
    · exact ok.2.1 i hi
theorem R0.play {τ : Nat → Nat → Nat} {σ : Nat → Nat} {T n : Nat} (h : R0 τ σ T) (hT : T + 45 * n < 800000000) : R0 (onS n τ).2 (on n σ).2 (T + 45 * n) ∧ (onS n τ).1 = (on n σ).1 := by
  obtain ⟨r, ok, om⟩ := h
  obtain ⟨h1, h2⟩ := rl_on n r ok hT
  exact ⟨⟨h2, onS_ok n ok, okM.on n om⟩, h1⟩
/-! ===== the reader over two buffers that agree ===== -/
theorem rbR_congr {u v : Nat → Nat} : ∀ n s ρ, (∀ i, s ≤ i → i < s + n → u i = v i) → rbR u n s ρ = rbR v n s ρ
  | 0, s, ρ, _ => rfl
  | n + 1, s, ρ, h => by
    rw [rbR, rbR, h s (Nat.le_refl _) (by omega), rbR_congr n (s + 1) _ (fun i h1 h2 => h i (by omega) (by omega))]
theorem ppR_congr {u v : Nat → Nat} : ∀ n s d τ ρ, (∀ i, s ≤ i → i < s + n → u i = v i) → ppR u n s d τ ρ = ppR v n s d τ ρ
  | 0, s, d, τ, ρ, _ => rfl
  | n + 1, s, d, τ, ρ, h => by
    rw [ppR, ppR, h s (Nat.le_refl _) (by omega), ppR_congr n (s + 1) _ _ _ (fun i h1 h2 => h i (by omega) (by omega)), ppR_congr n (s + 1) _ _ _ (fun i h1 h2 => h i (by omega) (by omega))]
theorem rbR_le {u : Nat → Nat} : ∀ n s ρ, (rbR u n s ρ).1 ≤ s + n
  | 0, s, ρ => Nat.le_refl _
  | n + 1, s, ρ => by
    rw [rbR]
    split
    · exact Nat.le_trans (rbR_le n (s + 1) _) (by omega)
    · exact Nat.le_add_right s _
/-! ===== each thing to do, on both sides: the whole ===== -/
theorem Rl.five {θ : Nat → Nat → Nat → Nat} {ρ κ φ : Nat → Nat → Nat} {T : Nat} (h : Rl θ ρ κ φ T) (g : Nat → Nat) : Rl θ ρ κ (pu φ 5 g) T := h.look (fun _ _ => rfl) rfl rfl rfl rfl rfl rfl rfl
theorem Rl.undo {θ : Nat → Nat → Nat → Nat} {ρ κ φ : Nat → Nat → Nat} {T : Nat} (h : Rl θ ρ κ φ T) (h0 : ¬ κ 3 0 = 0) : Rl (pst θ 0 (θ (3 + (κ 2 0 + (κ 3 0 - 1)) % 6))) ρ (pu κ 3 (kc (κ 3 0 - 1))) (pu (pu (pu φ 5 (kc (0))) 0 (rowk (φ 2) (φ 6 0 - 1))) 6 (kc (φ 6 0 - 1))) T := by
  obtain ⟨a0, ⟨e, k2, k3, hr⟩, aN, aB, aR⟩ := h
  refine ⟨?_, ⟨?_, k2, ?_, fun i hi => ?_⟩, aN, aB, aR⟩
  · have h1 := hr (κ 3 0 - 1) (by omega)
    rw [e] at h1 ⊢
    exact h1
  · show κ 3 0 - 1 = φ 6 0 - 1
    rw [e]
  · show κ 3 0 - 1 ≤ 6
    omega
  · have hi' : i < κ 3 0 - 1 := hi
    have h1 := hr i (by omega)
    have h2 : pst θ 0 (θ (3 + (κ 2 0 + (κ 3 0 - 1)) % 6)) (3 + (κ 2 0 + i) % 6) = θ (3 + (κ 2 0 + i) % 6) := if_neg (by omega)
    show R0 (pst θ 0 (θ (3 + (κ 2 0 + (κ 3 0 - 1)) % 6)) (3 + (κ 2 0 + i) % 6)) (rowk (φ 2) i) T
    rw [h2]
    exact h1
theorem Rl.keep {θ : Nat → Nat → Nat → Nat} {ρ κ φ : Nat → Nat → Nat} {T : Nat} (h : Rl θ ρ κ φ T) : Rl (pst θ 2 (θ 0)) ρ (pu κ 1 (kc (1))) (pu (pu (pu φ 5 (kc (0))) 3 (φ 0)) 7 (kc (1))) T := by
  obtain ⟨a0, ⟨e, k2, k3, hr⟩, aN, aB, aR⟩ := h
  refine ⟨a0, ⟨e, k2, k3, fun i hi => ?_⟩, ⟨rfl, Nat.le_refl 1, fun _ => a0⟩, aB, aR⟩
  show R0 (pst θ 2 (θ 0) (3 + (κ 2 0 + i) % 6)) (rowk (φ 2) i) T
  rw [show pst θ 2 (θ 0) (3 + (κ 2 0 + i) % 6) = θ (3 + (κ 2 0 + i) % 6) from if_neg (by omega)]
  exact hr i hi
theorem Rl.clear {θ : Nat → Nat → Nat → Nat} {ρ κ φ : Nat → Nat → Nat} {T : Nat} (h : Rl θ ρ κ φ T) : Rl θ ρ (pu κ 4 (kc (0))) (pu (pu φ 5 (kc (0))) 8 (kc (0))) T :=
  ⟨h.1, h.2.1, h.2.2.1, ⟨rfl, Nat.zero_le _, fun i hi => absurd hi (Nat.not_lt_zero i)⟩, h.2.2.2.2⟩
theorem Rl.append {θ : Nat → Nat → Nat → Nat} {ρ κ φ : Nat → Nat → Nat} {T n : Nat} (h : Rl θ ρ κ φ T) (hn : n < 128) (hl : κ 4 0 < 60) : Rl θ ρ (pu (pu κ 0 (fu (κ 0) (κ 4 0) n)) 4 (kc (κ 4 0 + 1))) (pu (pu (pu φ 5 (kc (0))) 4 (fu (φ 4) (φ 8 0) n)) 8 (kc (φ 8 0 + 1))) T := by
  obtain ⟨a0, aV, aN, ⟨e, k4, hb⟩, aR⟩ := h
  refine ⟨a0, aV, aN, ⟨?_, ?_, fun i hi => ?_⟩, aR⟩
  · show κ 4 0 + 1 = φ 8 0 + 1
    rw [e]
  · show κ 4 0 + 1 ≤ 60
    omega
  · have hi' : i < κ 4 0 + 1 := hi
    show fu (κ 0) (κ 4 0) n i = fu (φ 4) (φ 8 0) n i ∧ fu (κ 0) (κ 4 0) n i < 128
    rw [← e]
    unfold fu
    split
    · exact ⟨rfl, hn⟩
    · exact hb i (by omega)
