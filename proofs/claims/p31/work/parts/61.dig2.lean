/-! ===== digests of the cylinder, as functions ===== -/
def fcS (τ : Nat → Nat → Nat) (n : Nat) : Nat → Int32 := fun w => nI (if w = 17 then n else numN τ w)
def fT2 (τ : Nat → Nat → Nat) (t : Nat) : Nat → Int32 := fun w => nI (numT τ t w)
def gT2 (τ : Nat → Nat → Nat) (t : Nat) : Nat → Int32 := fun p => nI (τ 0 (t * 32 + p))
def fK2 (τ : Nat → Nat → Nat) (j : Nat) : Nat → Int32 := fun w => nI (numK τ j w)
def dnS (τ : Nat → Nat → Nat) (h : Int64) : Nat → Int64
  | 0 => h
  | b + 1 => 31 * (31 * dnS τ h b + (nI (τ 4 ((τ 14 0 - 1 - b) % 24))).toInt64) + (nI (τ 5 ((τ 14 0 - 1 - b) % 24))).toInt64
theorem dnS_0 (τ : Nat → Nat → Nat) (h : Int64) : dnS τ h 0 = h := rfl
theorem dnS_s (τ : Nat → Nat → Nat) (h : Int64) (b : Nat) : dnS τ h (b + 1) = 31 * (31 * dnS τ h b + (nI (τ 4 ((τ 14 0 - 1 - b) % 24))).toInt64) + (nI (τ 5 ((τ 14 0 - 1 - b) % 24))).toInt64 := rfl
