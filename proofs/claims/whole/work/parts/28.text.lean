/-! ===== the reference's reading of the buffer u of length m: s the place, w whether it is wrong ===== -/
def nxb (u : Nat → Nat) (m s : Nat) (w : Bool) (lo hi : Int32) : Bool := !w && decide (s < m) && inb (nI (u s)) lo hi
theorem nxb_lt {u : Nat → Nat} {m s : Nat} {w : Bool} {lo hi : Int32} (h : nxb u m s w lo hi = true) : s < m := by
  unfold nxb at h
  simp only [Bool.and_eq_true, decide_eq_true_eq] at h
  exact h.1.2
def tkv (u : Nat → Nat) (m s : Nat) (w : Bool) (lo hi : Int32) : Int32 := if nxb u m s w lo hi then nI (u s) - lo else nI 0
def bgI (v lo hi : Int32) : Bool := inb v lo hi || (!(decide (v ≤ 0)) && !(decide (hi < nI 10 * v)) && !(decide (nI 10 * v + nI 9 < lo)))
def nmV (u : Nat → Nat) (m s : Nat) (w : Bool) : Int32 := if nxb u m s w (nI 48) (nI 57) then nI (u s) - nI 48 else nI 4294967295
def nmW1 (u : Nat → Nat) (m s : Nat) (w : Bool) (lo hi : Int32) : Bool := w || !(bgI (nmV u m s w) lo hi)
def nmS1 (u : Nat → Nat) (m s : Nat) (w : Bool) (lo hi : Int32) : Nat := s + (!(nmW1 u m s w lo hi)).toNat
def nmV1 (u : Nat → Nat) (m s : Nat) (w : Bool) (lo hi : Int32) : Int32 := nI 10 * nmV u m s w + nI (u (nmS1 u m s w lo hi)) - nI 48
def nmN2 (u : Nat → Nat) (m s : Nat) (w : Bool) (lo hi : Int32) : Bool := !(decide (nmV u m s w ≤ 0)) && nxb u m (nmS1 u m s w lo hi) (nmW1 u m s w lo hi) (nI 48) (nI 57) && inb (nmV1 u m s w lo hi) lo hi
def nmV2 (u : Nat → Nat) (m s : Nat) (w : Bool) (lo hi : Int32) : Int32 := if nmN2 u m s w lo hi then nmV1 u m s w lo hi else nmV u m s w
def nmS2 (u : Nat → Nat) (m s : Nat) (w : Bool) (lo hi : Int32) : Nat := nmS1 u m s w lo hi + (nmN2 u m s w lo hi).toNat
def nmW2 (u : Nat → Nat) (m s : Nat) (w : Bool) (lo hi : Int32) : Bool := nmW1 u m s w lo hi || !(inb (nmV2 u m s w lo hi) lo hi)
theorem nmS1_le (u : Nat → Nat) (m s : Nat) (w : Bool) (lo hi : Int32) : s ≤ nmS1 u m s w lo hi ∧ nmS1 u m s w lo hi ≤ s + 1 := by
  unfold nmS1
  have := Bool.toNat_le (!(nmW1 u m s w lo hi))
  omega
theorem nmS2_le (u : Nat → Nat) (m s : Nat) (w : Bool) (lo hi : Int32) : s ≤ nmS2 u m s w lo hi ∧ nmS2 u m s w lo hi ≤ s + 2 := by
  have := nmS1_le u m s w lo hi
  have := Bool.toNat_le (nmN2 u m s w lo hi)
  unfold nmS2
  omega
theorem Bool_t {b : Bool} (h : b = true) : b.toNat = 1 := by rw [h]; rfl
theorem Bool_f {b : Bool} (h : b = false) : b.toNat = 0 := by rw [h]; rfl
theorem k_or1 {a b : Bool} (h : a = true) : nI 1 = nI (a || !b).toNat := by rw [h]; rfl
theorem k_or2 {a b : Bool} (h : b = false) : nI 1 = nI (a || !b).toNat := by rw [h]; cases a <;> rfl
theorem k_or0 {a b : Bool} (h : a = false) (h2 : b = true) : nI 0 = nI (a || !b).toNat := by rw [h, h2]; rfl
theorem nxb_1 {u : Nat → Nat} {m s : Nat} {w : Bool} {lo hi : Int32} (h : w = true) : nI 0 = nI (nxb u m s w lo hi).toNat := by
  unfold nxb
  rw [h]; rfl
theorem nxb_2 {u : Nat → Nat} {m s : Nat} {w : Bool} {lo hi : Int32} (h : m ≤ s) : nI 0 = nI (nxb u m s w lo hi).toNat := by
  unfold nxb
  rw [decide_eq_false (Nat.not_lt.mpr h), Bool.and_false]; rfl
theorem nxb_3 {u : Nat → Nat} {m s : Nat} {w : Bool} {lo hi : Int32} (h : inb (nI (u s)) lo hi = false) : nI 0 = nI (nxb u m s w lo hi).toNat := by
  unfold nxb
  rw [h, Bool.and_false]; rfl
theorem nxb_0 {u : Nat → Nat} {m s : Nat} {w : Bool} {lo hi : Int32} (h : w = false) (h1 : s < m) (h2 : inb (nI (u s)) lo hi = true) : nI 1 = nI (nxb u m s w lo hi).toNat := by
  unfold nxb
  rw [h, h2, decide_eq_true h1]; rfl
