/-! ===== the start: both keep the relation ===== -/
theorem iM0_0 {i : Nat} (h1 : i ≠ 133) (h2 : i ≠ 136) (h3 : i ≠ 142) (h4 : i ≠ 143) (h5 : i ≠ 145) (h6 : i ≠ 146) : iM 0 i = 0 := by
  show fu (fu (fu (fu (fu (fu (kc 0) 133 31) 136 5) 142 40) 143 6) 145 1) 146 6 i = 0
  rw [fu_ne h6, fu_ne h5, fu_ne h4, fu_ne h3, fu_ne h2, fu_ne h1]
  rfl
theorem rl_start : rl iS (iM 0) := by
  refine ⟨fun t ht j hj p hp => ?_, fun j hj => ⟨?_, ?_, ?_, ?_⟩, ⟨rfl, fun b hb => ?_⟩, ⟨rfl, rfl, rfl, rfl, rfl, rfl, rfl, rfl, rfl⟩, ⟨rfl, rfl, rfl, rfl, rfl⟩⟩
  · rw [iM0_0 (by omega) (by omega) (by omega) (by omega) (by omega) (by omega)]
    show (0 : Nat).testBit j = (0 : Nat).testBit p
    rw [Nat.zero_testBit, Nat.zero_testBit]
  · rw [iM0_0 (by omega) (by omega) (by omega) (by omega) (by omega) (by omega)]; rfl
  · rw [iM0_0 (by omega) (by omega) (by omega) (by omega) (by omega) (by omega)]; rfl
  · rw [iM0_0 (by omega) (by omega) (by omega) (by omega) (by omega) (by omega)]
    show (0 : Nat).testBit j = decide (¬ 0 = 0)
    rw [Nat.zero_testBit]; rfl
  · rw [iM0_0 (by omega) (by omega) (by omega) (by omega) (by omega) (by omega)]; rfl
  · have h0 : iM 0 132 = 0 := rfl
    rw [h0] at hb
    exact absurd hb (Nat.not_lt_zero b)
theorem okS_start : okS iS 0 := by
  refine ⟨fun k _ => ?_, fun j _ => ?_, fun j _ => ?_, ⟨?_, ?_, ?_, ?_, ?_⟩, ?_, ?_, ?_, ?_, ?_, ?_, ?_, ?_⟩
  · show (0 : Nat) < 4096; decide
  · show (0 : Nat) ≤ 0 + 90; decide
  · show (0 : Nat) ≤ 9; decide
  all_goals decide
theorem okM_start : okM (iM 0) := by
  intro i hi
  by_cases c : i = 133 ∨ i = 136 ∨ i = 142 ∨ i = 143 ∨ i = 145 ∨ i = 146
  · rcases c with rfl | rfl | rfl | rfl | rfl | rfl <;> decide
  · rw [iM0_0 (by omega) (by omega) (by omega) (by omega) (by omega) (by omega)]
    exact Nat.zero_le _
theorem Rl.start : Rl (fun _ => iS) (fun _ => kc 0) (fun _ => kc 0) iM 0 := by
  refine ⟨⟨rl_start, okS_start, okM_start⟩, ⟨rfl, by decide, by decide, fun i hi => ?_⟩, ⟨rfl, by decide, fun e => ?_⟩, ⟨rfl, by decide, fun i hi => ?_⟩, by decide, by decide, by decide, by decide, by decide⟩
  · exact absurd hi (Nat.not_lt_zero i)
  · have e' : (0 : Nat) = 1 := e
    omega
  · exact absurd hi (Nat.not_lt_zero i)
