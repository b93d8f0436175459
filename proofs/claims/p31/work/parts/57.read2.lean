/-! ===== the buffer is read ===== -/
theorem a_ok {ρ : Nat → Nat → Nat} (h : okR ρ) : ∀ (i v : Nat), (i = 0 → v ≤ 7) → (i = 1 → v < 3) → (i = 2 → v < 12) → (i = 3 → v < 32) → (i = 4 → v < 32) → okR (pu ρ i (kc v)) := by
  intro i v h0 h1 h2 h3 h4
  obtain ⟨r0, r1, r2, r3, r4⟩ := h
  refine ⟨?_, ?_, ?_, ?_, ?_⟩
  · show (if 0 = i then kc v else ρ 0) 0 ≤ 7
    split
    · exact h0 (by omega)
    · exact r0
  · show (if 1 = i then kc v else ρ 1) 0 < 3
    split
    · exact h1 (by omega)
    · exact r1
  · show (if 2 = i then kc v else ρ 2) 0 < 12
    split
    · exact h2 (by omega)
    · exact r2
  · show (if 3 = i then kc v else ρ 3) 0 < 32
    split
    · exact h3 (by omega)
    · exact r3
  · show (if 4 = i then kc v else ρ 4) 0 < 32
    split
    · exact h4 (by omega)
    · exact r4
theorem stR_ok {ρ : Nat → Nat → Nat} (h : okR ρ) (x : Nat) : okR ((stR ρ x).getD ρ) := by
  have r4 := h.2.2.2.2
  have hsp : okR (spR ρ x) := by
    unfold spR
    exact a_ok h _ _ (fun _ => by split <;> omega) (fun q => by omega) (fun q => by omega) (fun q => by omega) (fun q => by omega)
  unfold stR a0R a2R a3R a4R a5R a6R a7R s5R s7R rgR goR
  repeat' split
  all_goals first
    | exact h
    | exact hsp
    | (refine a_ok (a_ok h _ _ ?_ ?_ ?_ ?_ ?_) _ _ ?_ ?_ ?_ ?_ ?_ <;> omega)
    | (refine a_ok h _ _ ?_ ?_ ?_ ?_ ?_ <;> omega)
/-- the reader over the buffer, n characters from i on: where it stops, and how it stands then -/
def rbR (β : Nat → Nat) : Nat → Nat → (Nat → Nat → Nat) → Nat × (Nat → Nat → Nat)
  | 0, i, ρ => (i, ρ)
  | n + 1, i, ρ => if (stR ρ (β i)).isSome then rbR β n (i + 1) ((stR ρ (β i)).getD ρ) else (i, ρ)
theorem rbR_t {β : Nat → Nat} {N k : Nat} {ρ : Nat → Nat → Nat} (hk : k < N) (h : (stR ρ (β k)).isSome = true) : rbR β (N - k) k ρ = rbR β (N - (k + 1)) (k + 1) ((stR ρ (β k)).getD ρ) := by
  rw [show N - k = (N - (k + 1)) + 1 by omega, rbR, if_pos h]
theorem rbR_f {β : Nat → Nat} {N k : Nat} {ρ : Nat → Nat → Nat} (hk : k < N) (h : (stR ρ (β k)).isSome = false) : rbR β (N - k) k ρ = (k, ρ) ∧ (stR ρ (β k)).getD ρ = ρ := by
  refine ⟨by rw [show N - k = (N - (k + 1)) + 1 by omega, rbR, if_neg (by rw [h]; decide)], ?_⟩
  cases e : stR ρ (β k) with
  | none => rfl
  | some z => rw [e] at h; cases h
theorem rbR_0 {β : Nat → Nat} {N k : Nat} {ρ : Nat → Nat → Nat} (hk : N ≤ k) : rbR β (N - k) k ρ = (k, ρ) := by
  rw [show N - k = 0 by omega, rbR]
/-- the trial of fewer and fewer squeaks -/
def trS (τ : Nat → Nat → Nat) (v : Nat) : Nat → Nat → Nat := (onS 32 (pu τ 11 (kc v))).2
def fqT (τ : Nat → Nat → Nat) : Nat → Nat → (Nat → Nat → Nat) → Nat × (Nat → Nat → Nat)
  | 0, _, g => (4294967295, g)
  | n + 1, v, _ => if trS τ v 15 0 = τ 15 0 then (v, trS τ v) else fqT τ n (v + 1) (trS τ v)
theorem fqT_t {τ g : Nat → Nat → Nat} {N k : Nat} (hk : 1 + k ≤ N) (h : trS τ (1 + k) 15 0 = τ 15 0) : fqT τ (N - k) (1 + k) g = (1 + k, trS τ (1 + k)) := by
  rw [show N - k = (N - (k + 1)) + 1 by omega, fqT, if_pos h]
theorem fqT_f {τ g : Nat → Nat → Nat} {N k : Nat} (hk : 1 + k ≤ N) (h : ¬ trS τ (1 + k) 15 0 = τ 15 0) : fqT τ (N - k) (1 + k) g = fqT τ (N - (k + 1)) (1 + (k + 1)) (trS τ (1 + k)) := by
  rw [show N - k = (N - (k + 1)) + 1 by omega, fqT, if_neg h]
  rfl
theorem fqT_0 {τ g : Nat → Nat → Nat} {N k : Nat} (hk : N ≤ k) : fqT τ (N - k) (1 + k) g = (4294967295, g) := by
  rw [show N - k = 0 by omega, fqT]
theorem trS_ok {τ : Nat → Nat → Nat} {T v : Nat} (ok : okS τ T) (hv : v ≤ 9) : okS (trS τ v) (T + 1440) := onS_ok 32 (ok.p11 hv)
theorem cp_h12 : ∀ h, h < 12 → inb (nI h) (nI 4294967285) (nI 11) = true := by decide +kernel
