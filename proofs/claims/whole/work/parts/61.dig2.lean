/-! ===== digests of the cylinder, as functions ===== -/
def fcS (τ : Nat → Nat → Nat) (n : Nat) : Nat → Int32 := fun w => nI (if w = 17 then n else numN τ w)
def fT2 (τ : Nat → Nat → Nat) (t : Nat) : Nat → Int32 := fun w => nI (numT τ t w)
def gT2 (τ : Nat → Nat → Nat) (t : Nat) : Nat → Int32 := fun p => nI (τ 0 (t * 32 + p))
def dtS (τ : Nat → Nat → Nat) (h : Int64) : Nat → Int64
  | 0 => h
  | t + 1 => d1 (d1 (dtS τ h t) (fT2 τ t) 5) (gT2 τ t) 32
theorem dtS_0 (τ : Nat → Nat → Nat) (h : Int64) : dtS τ h 0 = h := rfl
theorem dtS_s (τ : Nat → Nat → Nat) (h : Int64) (t : Nat) : dtS τ h (t + 1) = d1 (d1 (dtS τ h t) (fT2 τ t) 5) (gT2 τ t) 32 := rfl
def fK2 (τ : Nat → Nat → Nat) (j : Nat) : Nat → Int32 := fun w => nI (numK τ j w)
def dkS (τ : Nat → Nat → Nat) (h : Int64) : Nat → Int64
  | 0 => h
  | j + 1 => d1 (dkS τ h j) (fK2 τ j) 5
theorem dkS_0 (τ : Nat → Nat → Nat) (h : Int64) : dkS τ h 0 = h := rfl
theorem dkS_s (τ : Nat → Nat → Nat) (h : Int64) (j : Nat) : dkS τ h (j + 1) = d1 (dkS τ h j) (fK2 τ j) 5 := rfl
def dnS (τ : Nat → Nat → Nat) (h : Int64) : Nat → Int64
  | 0 => h
  | b + 1 => 31 * (31 * dnS τ h b + (nI (τ 4 ((τ 14 0 - 1 - b) % 24))).toInt64) + (nI (τ 5 ((τ 14 0 - 1 - b) % 24))).toInt64
theorem dnS_0 (τ : Nat → Nat → Nat) (h : Int64) : dnS τ h 0 = h := rfl
theorem dnS_s (τ : Nat → Nat → Nat) (h : Int64) (b : Nat) : dnS τ h (b + 1) = 31 * (31 * dnS τ h b + (nI (τ 4 ((τ 14 0 - 1 - b) % 24))).toInt64) + (nI (τ 5 ((τ 14 0 - 1 - b) % 24))).toInt64 := rfl
