/-! ===== the law's step by hand ===== -/
theorem nI_dif (a b : Nat) : nI (a + b) - nI a = nI b := by
  rw [pk_sub (Nat.le_add_right a b), Nat.add_sub_cancel_left]
theorem ip0 {a b c d e : Int32} : (if 0 = 0 then a else if 0 = 1 then b else if 0 = 2 then c else if 0 = 3 then d else e) = a := if_pos rfl
theorem ip1 {a b c d e : Int32} : (if 1 = 0 then a else if 1 = 1 then b else if 1 = 2 then c else if 1 = 3 then d else e) = b := (if_neg (by decide)).trans (if_pos rfl)
theorem ip2 {a b c d e : Int32} : (if 2 = 0 then a else if 2 = 1 then b else if 2 = 2 then c else if 2 = 3 then d else e) = c := (if_neg (by decide)).trans ((if_neg (by decide)).trans (if_pos rfl))
theorem ip3 {a b c d e : Int32} : (if 3 = 0 then a else if 3 = 1 then b else if 3 = 2 then c else if 3 = 3 then d else e) = d := (if_neg (by decide)).trans ((if_neg (by decide)).trans ((if_neg (by decide)).trans (if_pos rfl)))
theorem ip4 {a b c d e : Int32} : (if 4 = 0 then a else if 4 = 1 then b else if 4 = 2 then c else if 4 = 3 then d else e) = e := (if_neg (by decide)).trans ((if_neg (by decide)).trans ((if_neg (by decide)).trans (if_neg (by decide))))
theorem tn_1 {τ : Nat → Nat → Nat} (h : pnS τ = 0) (h2 : ¬ τ 6 2 = 0) : nI ((τ 9 0 + 1) % 3) = nI (tnS τ) := congrArg nI (if_pos ⟨h, h2⟩).symm
theorem tn_2 {τ : Nat → Nat → Nat} (h : ¬ pnS τ = 0 ∨ τ 6 2 = 0) : nI (τ 9 0) = nI (tnS τ) := congrArg nI (if_neg (fun z => h.elim (fun h => h z.1) (fun h => z.2 h))).symm
theorem st_1 {τ : Nat → Nat → Nat} {k : Nat} (hk : k < 12) (h : (τ 0 (tnS τ * 32 + pnS τ)).testBit k = false) : (stk τ).testBit k = false := by rw [stk_bit hk, h, Bool.false_and]
theorem st_2 {τ : Nat → Nat → Nat} {k : Nat} (hk : k < 12) (h : (τ 7 0).testBit k = true) : (stk τ).testBit k = false := by rw [stk_bit hk, h, Bool.not_true, Bool.and_false]
theorem st_3 {τ : Nat → Nat → Nat} {k : Nat} (hk : k < 12) (h : (τ 0 (tnS τ * 32 + pnS τ)).testBit k = true) (h2 : ((τ 7 0).testBit k).toNat = 0) : (stk τ).testBit k = true := by
  rw [stk_bit hk, h]
  cases c : (τ 7 0).testBit k
  · rfl
  · rw [c] at h2; cases h2
theorem wo_le (τ : Nat → Nat → Nat) : ∀ k, (woS τ k).1 ≤ 33 * k
  | 0 => Nat.le_refl _
  | k + 1 => by
    have h := wo_le τ k
    show (woS τ k).1 + wfS τ _ _ ≤ _
    have h2 := wfS_le τ (tcS τ (woS τ k).2.2 (((woS τ k).2.1 + 1) % 32)) (((woS τ k).2.1 + 1) % 32)
    omega
theorem svk_2 {κ : Nat → Nat → Nat} : svK κ 2 0 = if κ 3 0 < 6 then κ 2 0 else (κ 2 0 + 1) % 6 := by
  unfold svK
  split <;> rfl
theorem svk_3 {κ : Nat → Nat → Nat} : svK κ 3 0 = if κ 3 0 < 6 then κ 3 0 + 1 else κ 3 0 := by
  unfold svK
  split <;> rfl
theorem svk_ok {κ : Nat → Nat → Nat} (hold : κ 2 0 < 6) (hcnt : κ 3 0 ≤ 6) : svK κ 2 0 < 6 ∧ svK κ 3 0 ≤ 6 ∧ ¬ svK κ 3 0 = 0 := by
  rw [svk_2, svk_3]
  split <;> omega
theorem svT_at {θ : Nat → Nat → Nat → Nat} {q : Nat} : svT θ q (3 + q) = θ 0 := by
  rw [Nat.add_comm]
  exact if_pos rfl
/-- undone it is as it was -/
theorem undo_eq {θ : Nat → Nat → Nat → Nat} {κ τ : Nat → Nat → Nat} (hold : κ 2 0 < 6) (hcnt : κ 3 0 ≤ 6) : pst (svT θ ((κ 2 0 + κ 3 0) % 6)) 0 τ (3 + (svK κ 2 0 + (svK κ 3 0 - 1)) % 6) = θ 0 := by
  have e : (svK κ 2 0 + (svK κ 3 0 - 1)) % 6 = (κ 2 0 + κ 3 0) % 6 := by
    rw [svk_2, svk_3]
    split <;> omega
  rw [e]
  have h : pst (svT θ ((κ 2 0 + κ 3 0) % 6)) 0 τ (3 + (κ 2 0 + κ 3 0) % 6) = svT θ ((κ 2 0 + κ 3 0) % 6) (3 + (κ 2 0 + κ 3 0) % 6) := if_neg (by omega)
  rw [h, svT_at]
