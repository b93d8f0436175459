/-! ===== digests, as functions ===== -/
def d1 (h : Int64) (f : Nat → Int32) : Nat → Int64
  | 0 => h
  | k + 1 => 31 * d1 h f k + (f k).toInt64
def fwt (σ : Nat → Nat) (t : Nat) : Nat → Int32 := fun z => nI (otu σ t z)
def fpt (σ : Nat → Nat) (t : Nat) : Nat → Int32 := fun z => nI (mk (fun j => pb σ t j z) 12)
def fo (σ : Nat → Nat) : Nat → Int32 := fun z => nI (oto σ (z / 5) (z % 5))
def f84 (σ : Nat → Nat) : Nat → Int32 := fun z => nI (σ (84 + z))
def fcn (σ : Nat → Nat) (n : Nat) : Nat → Int32 := fun z => nI (cnt σ n z)
def fwb (σ : Nat → Nat) : Nat → Int32 := fun z => wb σ 40 z
def fbu (u : Nat → Nat) : Nat → Int32 := fun z => nI (u z)
def dgt (σ : Nat → Nat) (h : Int64) : Nat → Int64
  | 0 => h
  | t + 1 => d1 (d1 (dgt σ h t) (fwt σ t) 5) (fpt σ t) 32
def dgc (σ : Nat → Nat) (h : Int64) : Int64 := d1 (d1 (dgt σ h 3) (fo σ) 60) (f84 σ) (2 * σ 132)
def da (f σ : Nat → Nat) : Nat → Nat → Nat
  | 0 => f
  | _ + 1 => σ
/-- the digest: σ the row, n the saved ones, b the bits of clean, u the buffer, m its length -/
def dig0 (σ : Nat → Nat) (n : Nat) : Int64 := d1 (dgc σ (d1 3797 (fcn σ n) 18)) (fwb σ) 5
def dig1 (σ : Nat → Nat) (n : Nat) (b : Int64) : Int64 := 31 * (31 * (31 * dig0 σ n + (nI (qf σ 9)).toInt64) + (nI (wsm σ (32 * 2))).toInt64) + b
def dig (σ : Nat → Nat) (n : Nat) (b : Int64) (u : Nat → Nat) (m : Nat) : Int64 := d1 (31 * dig1 σ n b + (nI m).toInt64) (fbu u) m
theorem pul_bit (g : Nat → Nat) (i p : Nat) (hg : g i < 4294967296) : ∀ k, (∀ h, h ≠ i → pul g i p k h = g h) ∧ pul g i p k i ≤ g i
  | 0 => ⟨fun _ _ => rfl, Nat.le_refl _⟩
  | k + 1 => by
    have h1 := pul_bit g i p hg k
    constructor
    · intro h hh
      exact (fu_ne hh).trans (h1.1 h hh)
    · show fu (pul g i p k) i (pul g i p k i &&& (2 ^ (p + k) ^^^ 4294967295)) i ≤ _
      rw [fu_at]
      exact Nat.le_trans Nat.and_le_left h1.2
theorem d1_0 (h : Int64) (f : Nat → Int32) : d1 h f 0 = h := rfl
theorem d1_s (h : Int64) (f : Nat → Int32) (k : Nat) : d1 h f (k + 1) = 31 * d1 h f k + (f k).toInt64 := rfl
theorem dgt_s (σ : Nat → Nat) (h : Int64) (t : Nat) : dgt σ h (t + 1) = d1 (d1 (dgt σ h t) (fwt σ t) 5) (fpt σ t) 32 := rfl
