theorem plk_o {σ : Nat → Nat} {j T i : Nat} (hj : j < 12) (h : i < 36 ∨ i = 133 ∨ i = 134 ∨ (36 ≤ i ∧ i < 84 ∧ (i < 36 + 4 * j ∨ 36 + 4 * j + 4 ≤ i))) : plk σ j T i = σ i := by
  have hX : pkX σ j i = σ i := by rw [pkX_at hj, if_neg (by omega), if_neg (by omega), if_neg (by omega)]
  have hZ : pkY σ j i = σ i := by
    have e : ∀ k, pkY σ j k = if k = 36 + 4 * j + 0 then pkZ σ j (36 + 4 * j + 0) else if k = 36 + 4 * j + 2 then 0 else if k = 36 + 4 * j + 1 then fu σ 140 (σ 140 + 1) (36 + 4 * j + 1) + 1 else if k = 140 then σ 140 + 1 else σ k := fun k => rfl
    rw [e, if_neg (by omega), if_neg (by omega), if_neg (by omega), if_neg (by omega)]
  unfold plk
  split
  · split
    · exact hX
    · rw [sounds_o hj (by omega) (by omega) (by omega) (by omega)]
      exact hZ
  · exact sounds_o hj (by omega) (by omega) (by omega) (by omega)
theorem g8_o {g : Nat → Nat} {T : Nat} : ∀ k, k ≤ 12 → ∀ i, (i < 36 ∨ i = 133 ∨ i = 134 ∨ (36 + 4 * k ≤ i ∧ i < 84)) → g8 g T k i = g i
  | 0, _, _, _ => rfl
  | k + 1, hk, i, h => by
    rw [show g8 g T (k + 1) = if pb (g8 g T k) (g8 g T k 134) k (g8 g T k 133) && decide (g8 g T k (36 + 4 * k + 2) = 0) then plk (g8 g T k) k T else g8 g T k from rfl]
    split
    · rw [plk_o (by omega) (by omega)]
      exact g8_o k (by omega) i (by omega)
    · exact g8_o k (by omega) i (by omega)
theorem rl_strikes {τ : Nat → Nat → Nat} {g : Nat → Nat} {x w T : Nat} (h : rl τ g) (ok : okS τ T) (hT : T < 900000000) (hx : ∀ j, j < 12 → x.testBit j = (pb g (g 134) j (g 133) && decide (g (36 + 4 * j + 2) = 0))) : ∀ k, k ≤ 12 → rl (skS τ x w k) (g8 g w k)
  | 0, _ => h
  | k + 1, hk => by
    have ih := rl_strikes (w := w) h ok hT hx k (by omega)
    have okk := skS_ok (x := x) (w := w) ok k (by omega)
    have hkk : k < 12 := by omega
    have e1 := hx k hkk
    have o134 := g8_o (g := g) (T := w) k (by omega) 134 (by omega)
    have o133 := g8_o (g := g) (T := w) k (by omega) 133 (by omega)
    have ob := g8_o (g := g) (T := w) k (by omega) (36 + 4 * k + 2) (by omega)
    have e2 : (pb (g8 g w k) (g8 g w k 134) k (g8 g w k 133) && decide (g8 g w k (36 + 4 * k + 2) = 0)) = x.testBit k := by
      rw [e1, o134, o133, ob]
      unfold pb
      by_cases c : 12 * g 134 + k < 36
      · rw [g8_o k (by omega) (12 * g 134 + k) (by omega)]
      · have h9 : τ 9 0 = g 134 := h.2.2.2.1.2.1
        have h93 : τ 9 0 < 3 := ok.2.2.2.2.2.2.1
        omega
    rw [show g8 g w (k + 1) = if pb (g8 g w k) (g8 g w k 134) k (g8 g w k 133) && decide (g8 g w k (36 + 4 * k + 2) = 0) then plk (g8 g w k) k w else g8 g w k from rfl, e2]
    cases c : x.testBit k
    · rw [skS_f c]
      exact ih
    · rw [skS_t c]
      rw [c] at e1
      have h0 : g8 g w k (36 + 4 * k + 2) = 0 := by
        rw [ob]
        have := (Bool.and_eq_true _ _).mp e1.symm
        exact of_decide_eq_true this.2
      exact rl_strike ih hkk (okk.2.2.1 k hkk) h0 (by have := okk.2.2.2.2.2.2.2.2.2.1; omega)
theorem rl_goes {τ : Nat → Nat → Nat} {σ : Nat → Nat} {T : Nat} (h : rl τ σ) (ok : okS τ T) (hT : T < 800000000) : rl (goS τ) (goes σ) := by
  have ht : tnS τ < 3 := tcS_lt ok.2.2.2.2.2.2.1
  have h0 := rl_go0 h ht ok.1
  have e3 := rl_ticks h ht ok.1
  have r : rl (skS (goA τ) (stk τ) (tiS τ) 12) (g8 (g7 (g6 σ) (tks σ) 12) (tiS τ) 12) := rl_strikes h0 (goA_ok ok) (by omega) (fun j hj => by
    rw [rl_stk h ht hj]
    have e7 : ∀ i, (i < 36 ∨ 84 ≤ i ∨ (36 ≤ i ∧ (i - 36) % 4 = 2)) → g7 (g6 σ) (tks σ) 12 i = g6 σ i := fun i hi => by rw [g7_at, if_neg (by omega)]
    have e134 : g7 (g6 σ) (tks σ) 12 134 = ntu σ := by rw [e7 _ (by omega), g6_at, g5_at]; rfl
    have e133 : g7 (g6 σ) (tks σ) 12 133 = (σ 133 + 1) % 32 := by rw [e7 _ (by omega), g6_at, g5_at]; rfl
    have e36 : ∀ i, i < 84 → g6 σ i = σ i := fun i hi => by
      rw [g6_at, if_neg (by omega), g5_at, if_neg (by omega), if_neg (by omega), if_neg (by omega), if_neg (by omega), if_neg (by omega)]
    have hn : ntu σ < 3 := by rw [← (rl_tune h).2]; exact ht
    rw [e134, e133]
    unfold strk pb
    rw [e7 (12 * ntu σ + j) (by omega), e36 _ (by omega), e7 (36 + 4 * j + 2) (by omega), e36 _ (by omega)]) 12 (Nat.le_refl _)
  rw [e3] at r
  show rl (skS (goA τ) (stk τ) (tiS τ) 12) (g8 (g7 (g6 σ) (tks σ) 12) (tks σ) 12)
  rw [e3]
  exact r
theorem rl_on : ∀ (n : Nat) {τ : Nat → Nat → Nat} {σ : Nat → Nat} {T : Nat}, rl τ σ → okS τ T → T + 45 * n < 800000000 → (onS n τ).1 = (on n σ).1 ∧ rl (onS n τ).2 (on n σ).2
  | 0, _, _, _, h, _, _ => ⟨rfl, h⟩
  | n + 1, τ, σ, T, h, ok, hT => by
    have ht : tnS τ < 3 := tcS_lt ok.2.2.2.2.2.2.1
    have hc := rl_can h ht ok.1
    cases c : canS τ
    · rw [onS_f c, on_f (by rw [← hc]; exact c)]
      exact ⟨rfl, h⟩
    · rw [onS_t c, on_t (by rw [← hc]; exact c)]
      have r := rl_on n (rl_goes h ok (by omega)) (goS_ok ok) (by omega)
      exact ⟨congrArg (· + 1) r.1, r.2⟩
