/-! ===== the worlds ===== -/
/-- the reference at a 0, its rows s, aside, saved, snapshot, text at a 1 .. a 5; φ 0 .. φ 4 what they hold; φ 5 0 ..: thrown, savedMany, isKept, length, spot, isWrong, wereSet; δ: digested -/
def wM (c : Nat → ClassId) (a : Nat → Nat) (φ : Nat → Nat → Nat) (δ : Int64) : va_W :=
  [(a 0, .inr (3, [.int (nI (φ 5 0)), .ref (a 1), .ref (a 2), .ref (a 3), .int (nI (φ 6 0)), .ref (a 4), .int (nI (φ 7 0)), .ref (a 5), .int (nI (φ 8 0)), .int (nI (φ 9 0)), .int (nI (φ 10 0)), .int (nI (φ 11 0)), .long δ])),
   (a 1, .inl (c 0, 147, .inl (fun k => nI (φ 0 k)))), (a 2, .inl (c 0, 147, .inl (fun k => nI (φ 1 k)))), (a 3, .inl (c 0, 882, .inl (fun k => nI (φ 2 k)))), (a 4, .inl (c 0, 147, .inl (fun k => nI (φ 3 k)))), (a 5, .inl (c 0, 60, .inl (fun k => nI (φ 4 k))))]
/-- a State at a 0, its rows chords, restsAt, wear, notesOf, keptTeeth, keptTimes, settings at a 1 .. a 7; τ 0 .. τ 6 what they hold; τ 7 0 ..: broken, place, played, wind, vanes, time, stepsDone, notes, squeaks, windNeeded -/
def wS (c : Nat → ClassId) (a : Nat → Nat) (τ : Nat → Nat → Nat) : va_W :=
  [(a 0, .inr (1, [.ref (a 1), .ref (a 2), .ref (a 3), .ref (a 4), .ref (a 5), .ref (a 6), .ref (a 7), .int (nI (τ 7 0)), .int (nI (τ 8 0)), .int (nI (τ 9 0)), .int (nI (τ 10 0)), .int (nI (τ 11 0)), .int (nI (τ 12 0)), .int (nI (τ 13 0)), .int (nI (τ 14 0)), .int (nI (τ 15 0)), .int (nI (τ 16 0))])),
   (a 1, .inl (c 0, 96, .inl (fun k => nI (τ 0 k)))), (a 2, .inl (c 0, 12, .inl (fun k => nI (τ 1 k)))), (a 3, .inl (c 0, 12, .inl (fun k => nI (τ 2 k)))), (a 4, .inl (c 0, 12, .inl (fun k => nI (τ 3 k)))), (a 5, .inl (c 0, 24, .inl (fun k => nI (τ 4 k)))), (a 6, .inl (c 0, 24, .inl (fun k => nI (τ 5 k)))), (a 7, .inl (c 0, 5, .inl (fun k => nI (τ 6 k))))]
/-- the reader: phase, tune, tooth, from, number -/
def wR (a : Nat → Nat) (ρ : Nat → Nat → Nat) : va_W := [(a 0, .inr (0, [.int (nI (ρ 0 0)), .int (nI (ρ 1 0)), .int (nI (ρ 2 0)), .int (nI (ρ 3 0)), .int (nI (ρ 4 0))]))]
/-- 'low <= v and v <= high' as it is compared -/
def inb (v lo hi : Int32) : Bool := !(decide (v < lo)) && !(decide (hi < v))
theorem inb_nI {v k : Nat} (hv : v < 2 ^ 31) (hk : k < 2 ^ 31) : inb (nI v) (nI 0) (nI k) = decide (v ≤ k) := by
  have h0 : ¬ nI v < nI 0 := by
    have := nI_pos hv
    first | exact this | simpa using this
  have h1 : (nI k < nI v) ↔ k < v := nI_ltI hk hv
  unfold inb
  by_cases h : v ≤ k
  · simp [h0, h1, h, Nat.not_lt.mpr h]
  · simp [h0, h1, h, Nat.lt_of_not_le h]
theorem inb_of {v : Int32} {k : Nat} (hk : k < 2 ^ 31) (h : inb v (nI 0) (nI k) = true) : ∃ n : Nat, n ≤ k ∧ v = nI n := by
  unfold inb at h
  simp only [Bool.and_eq_true, Bool.not_eq_true', decide_eq_false_iff_not] at h
  have h0 : ¬ v < 0 := by
    have := h.1
    first | exact this | simpa using this
  obtain ⟨j, hj, rfl⟩ := nI_of h0
  exact ⟨j, Nat.le_of_not_lt (fun q => h.2 (nI_lt q hj)), rfl⟩
