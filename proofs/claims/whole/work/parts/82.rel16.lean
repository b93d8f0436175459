/-! ===== what would be, on both sides ===== -/
theorem plk_s {σ : Nat → Nat} {j T : Nat} (hj : j < 12) : plk σ j T 138 = σ 138 := by
  have hX : pkX σ j 138 = σ 138 := by rw [pkX_at hj, if_neg (by omega), if_neg (by omega), if_neg (by decide)]
  have hZ : pkY σ j 138 = σ 138 := by
    have e : ∀ k, pkY σ j k = if k = 36 + 4 * j + 0 then pkZ σ j (36 + 4 * j + 0) else if k = 36 + 4 * j + 2 then 0 else if k = 36 + 4 * j + 1 then fu σ 140 (σ 140 + 1) (36 + 4 * j + 1) + 1 else if k = 140 then σ 140 + 1 else σ k := fun k => rfl
    rw [e, if_neg (by omega), if_neg (by omega), if_neg (by omega), if_neg (by decide)]
  unfold plk
  split
  · split
    · exact hX
    · rw [sounds_o hj (by omega) (by omega) (by omega) (by omega)]
      exact hZ
  · exact sounds_o hj (by omega) (by omega) (by omega) (by omega)
theorem g8_s {g : Nat → Nat} {T : Nat} : ∀ k, k ≤ 12 → g8 g T k 138 = g 138
  | 0, _ => rfl
  | k + 1, hk => by
    rw [show g8 g T (k + 1) = if pb (g8 g T k) (g8 g T k 134) k (g8 g T k 133) && decide (g8 g T k (36 + 4 * k + 2) = 0) then plk (g8 g T k) k T else g8 g T k from rfl]
    split
    · rw [plk_s (by omega)]
      exact g8_s k (by omega)
    · exact g8_s k (by omega)
theorem goes_s (σ : Nat → Nat) : goes σ 138 = σ 138 + 1 := by
  unfold goes
  rw [g8_s 12 (Nat.le_refl _), g7_at, if_neg (by decide), g6_at, if_neg (by decide), g5_at, if_pos rfl]
theorem on_s : ∀ (n : Nat) (σ : Nat → Nat), (on n σ).2 138 = σ 138 + (on n σ).1
  | 0, _ => rfl
  | n + 1, σ => by
    cases c : can σ
    · rw [on_f c]; rfl
    · rw [on_t c]
      show (on n (goes σ)).2 138 = σ 138 + ((on n (goes σ)).1 + 1)
      rw [on_s n (goes σ), goes_s]
      omega
theorem nI_dif (a b : Nat) : nI (a + b) - nI a = nI b := by
  rw [pk_sub (by omega), Nat.add_sub_cancel_left]
def wbS (τ u : Nat → Nat → Nat) (w : Nat) : Int32 := if w = 0 then nI (u 13 0) - nI (τ 13 0) else if w = 1 then nI (u 14 0) - nI (τ 14 0) else if w = 2 then nI (u 15 0) - nI (τ 15 0) else if w = 3 then nI (u 12 0) - nI (τ 12 0) else nI (ones (u 7 0)) - nI (ones (τ 7 0))
theorem rl_wb {τ : Nat → Nat → Nat} {σ : Nat → Nat} {T n w : Nat} (h : rl τ σ) (ok : okS τ T) (hT : T + 45 * n < 800000000) (hw : w < 5) : wbS τ (onS n τ).2 w = wb σ n w := by
  obtain ⟨r1, r2⟩ := rl_on n h ok hT
  have o2 := onS_ok n ok
  have v := h.2.2.2.1
  have u := r2.2.2.2.1
  have q1 := rl_broken h.2.1 ok.2.2.2.2.1
  have q2 := rl_broken r2.2.1 o2.2.2.2.2.1
  unfold wbS wb
  rcases (show w = 0 ∨ w = 1 ∨ w = 2 ∨ w = 3 ∨ w = 4 by omega) with e | e | e | e | e <;> rw [e]
  · rw [if_pos rfl, if_pos rfl, u.2.2.2.2.2.1, v.2.2.2.2.2.1, on_s, nI_dif]
  · rw [if_neg (by decide), if_pos rfl, if_neg (by decide), if_pos rfl, u.2.2.2.2.2.2.1, v.2.2.2.2.2.2.1]
  · rw [if_neg (by decide), if_neg (by decide), if_pos rfl, if_neg (by decide), if_neg (by decide), if_pos rfl, u.2.2.2.2.2.2.2.1, v.2.2.2.2.2.2.2.1]
  · rw [if_neg (by decide), if_neg (by decide), if_neg (by decide), if_pos rfl, if_neg (by decide), if_neg (by decide), if_neg (by decide), if_pos rfl, u.2.2.2.2.1, v.2.2.2.2.1]
  · rw [if_neg (by decide), if_neg (by decide), if_neg (by decide), if_neg (by decide), if_neg (by decide), if_neg (by decide), if_neg (by decide), if_neg (by decide), q1, q2]
theorem rl_same {τ : Nat → Nat → Nat} {σ : Nat → Nat} (h : rl τ σ) : rl (pu τ 11 (kc (τ 11 0))) σ := by
  have e := rl_11 h (τ 11 0)
  rw [h.2.2.2.1.2.2.2.1, fu_self rfl, ← h.2.2.2.1.2.2.2.1] at e
  exact e
theorem qv_is (σ : Nat → Nat) (k : Nat) : qv σ (k + 1) = fu σ 136 (9 - k) := by
  funext i
  by_cases e : i = 136
  · rw [e, fu_at]
    exact fu_at _ _ _
  · rw [fu_ne e]
    exact qv_eq σ e (k + 1)
theorem i32_sz (x y : Int32) : x - y = 0 ↔ x = y := by
  constructor <;> intro h <;> grind
theorem rl_quiet {τ : Nat → Nat → Nat} {σ : Nat → Nat} {T : Nat} (h : rl τ σ) (ok : okS τ T) (hT : T < 200000000) : ∀ n, n ≤ 9 → ∀ g, (fqT τ n (10 - n) g).1 = qf σ n
  | 0, _, _ => rfl
  | n + 1, hn, g => by
    have hv : 10 - (n + 1) = 9 - n := by omega
    have r := rl_on 32 (rl_11 h (9 - n)) (ok.p11 (v := 9 - n) (by omega)) (by omega)
    have o := trS_ok (v := 9 - n) ok (by omega)
    have u := r.2.2.2.2.1
    have v := h.2.2.2.1
    have e1 : trS τ (9 - n) 15 0 = (on 32 (qv σ (n + 1))).2 140 := by rw [qv_is]; exact u.2.2.2.2.2.2.2.1
    have e2 : τ 15 0 = qv σ (n + 1) 140 := by rw [qv_eq σ (by decide)]; exact v.2.2.2.2.2.2.2.1
    have e3 : wb (qv σ (n + 1)) 32 2 = nI ((on 32 (qv σ (n + 1))).2 140) - nI (qv σ (n + 1) 140) := rfl
    have b1 : trS τ (9 - n) 15 0 ≤ T + 1440 := o.2.2.2.2.2.2.2.2.2.2.2
    have b2 : τ 15 0 ≤ T := ok.2.2.2.2.2.2.2.2.2.2.2
    have key : trS τ (9 - n) 15 0 = τ 15 0 ↔ wb (qv σ (n + 1)) 32 2 = 0 := by
      rw [e3, ← e1, ← e2, i32_sz, nI_eq (by omega) (by omega)]
    rw [hv, fqT, qf]
    by_cases c : trS τ (9 - n) 15 0 = τ 15 0
    · rw [if_pos c, if_pos (key.mp c)]
    · rw [if_neg c, if_neg (fun q => c (key.mpr q)), show 9 - n + 1 = 10 - n by omega]
      exact rl_quiet h ok hT n (by omega) _
theorem rl_windOf {τ : Nat → Nat → Nat} {σ : Nat → Nat} (h : rl τ σ) (ht : τ 9 0 < 3) (hg : ∀ k, k < 96 → τ 0 k < 4096) : ∀ k, ∃ υ, rl υ (wst σ k) ∧ (∀ i, i ≠ 8 → i ≠ 9 → υ i = τ i) ∧ woS τ k = (wsm σ k, υ 8 0, υ 9 0) ∧ υ 9 0 < 3
  | 0 => ⟨τ, h, fun _ _ _ => rfl, rfl, ht⟩
  | k + 1 => by
    obtain ⟨υ, r, o, w, t3⟩ := rl_windOf h ht hg k
    obtain ⟨e1, e2⟩ := rl_tune r
    have t4 : tnS υ < 3 := tcS_lt t3
    have nd := rl_need r t4 (fun k hk => by rw [o 0 (by decide) (by decide)]; exact hg k hk)
    have c1 : ∀ t p, wfS υ t p = wfS τ t p := fun t p => by
      unfold wfS
      rw [o 0 (by decide) (by decide), o 7 (by decide) (by decide)]
    have c2 : ∀ t p, tcS υ t p = tcS τ t p := fun t p => by
      unfold tcS
      rw [o 6 (by decide) (by decide)]
    have e1' : (υ 8 0 + 1) % 32 = (wst σ k 133 + 1) % 32 := e1
    have e2' : tcS τ (υ 9 0) ((υ 8 0 + 1) % 32) = ntu (wst σ k) := (c2 _ _).symm.trans e2
    have nd' : wfS τ (tcS τ (υ 9 0) ((υ 8 0 + 1) % 32)) ((υ 8 0 + 1) % 32) = need (wst σ k) := by
      rw [← nd, ← c1, ← c2]
      rfl
    have q1 : g1 (wst σ k) 133 = wst σ k 133 := fu_ne (by decide)
    refine ⟨pu (pu υ 9 (kc (ntu (wst σ k)))) 8 (kc ((g1 (wst σ k) 133 + 1) % 32)), rl_8 (rl_9 r _) _, fun i h8 h9 => ?_, ?_, ?_⟩
    · rw [pu_ne h8, pu_ne h9]
      exact o i h8 h9
    · rw [woS_s w, nd', e2', e1', q1]
      rfl
    · show ntu (wst σ k) < 3
      rw [← e2]
      exact t4
theorem rl_woS {τ : Nat → Nat → Nat} {σ : Nat → Nat} (h : rl τ σ) (ht : τ 9 0 < 3) (hg : ∀ k, k < 96 → τ 0 k < 4096) (k : Nat) : (woS τ k).1 = wsm σ k := by
  obtain ⟨υ, -, -, w, -⟩ := rl_windOf h ht hg k
  rw [w]
