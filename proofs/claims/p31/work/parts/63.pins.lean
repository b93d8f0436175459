/-! ===== pins; prospects ===== -/
theorem rbR_ok {β : Nat → Nat} : ∀ (n i : Nat) {ρ : Nat → Nat → Nat}, okR ρ → okR (rbR β n i ρ).2
  | 0, _, _, h => h
  | n + 1, i, ρ, h => by
    rw [rbR]
    split
    · exact rbR_ok n (i + 1) (stR_ok h _)
    · exact h
def fwS (τ u : Nat → Nat → Nat) : Nat → Int32 := fun w => if w = 0 then nI (u 13 0) - nI (τ 13 0) else if w = 1 then nI (u 14 0) - nI (τ 14 0) else if w = 2 then nI (u 15 0) - nI (τ 15 0) else if w = 3 then nI (u 12 0) - nI (τ 12 0) else nI (ones (u 7 0)) - nI (ones (τ 7 0))
def fbS (β : Nat → Nat) : Nat → Int32 := fun i => nI (β i)
theorem ppR_r {β : Nat → Nat} : ∀ (n i d : Nat) (τ ρ : Nat → Nat → Nat), okR ρ → okR (ppR β n i d τ ρ).2.2
  | 0, _, _, _, _, h => h
  | n + 1, i, d, τ, ρ, h => by
    rw [ppR]
    split
    · exact ppR_r n (i + 1) _ _ _ (stR_ok h _)
    · exact ppR_r n (i + 1) _ _ _ (stR_ok h _)
