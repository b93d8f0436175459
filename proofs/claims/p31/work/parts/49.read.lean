/-! ===== the reader: what a character does, over rho: phase, tune, tooth, from, number ===== -/
def sepB (x : Nat) : Bool := decide (x = 44 ∨ x = 59)
def dgO (x : Nat) : Nat := if 48 ≤ x ∧ x ≤ 57 then x - 48 else 4294967295
theorem dgO_c (x : Nat) : ((48 ≤ x ∧ x ≤ 57) ∧ dgO x = x - 48) ∨ (¬ (48 ≤ x ∧ x ≤ 57) ∧ dgO x = 4294967295) := by
  by_cases h : 48 ≤ x ∧ x ≤ 57
  · exact Or.inl ⟨h, if_pos h⟩
  · exact Or.inr ⟨h, if_neg h⟩
def lnO (n x : Nat) : Nat := if ¬ n = 0 ∧ 48 ≤ x ∧ x ≤ 57 then n * 10 + (x - 48) else 4294967295
theorem lnO_c (n x : Nat) : ((¬ n = 0 ∧ 48 ≤ x ∧ x ≤ 57) ∧ lnO n x = n * 10 + (x - 48)) ∨ (¬ (¬ n = 0 ∧ 48 ≤ x ∧ x ≤ 57) ∧ lnO n x = 4294967295) := by
  by_cases h : ¬ n = 0 ∧ 48 ≤ x ∧ x ≤ 57
  · exact Or.inl ⟨h, if_pos h⟩
  · exact Or.inr ⟨h, if_neg h⟩
def grF (d : Nat) : Nat := if 0 < d ∧ d * 10 < 32 then min 31 (d * 10 + 9) else d
abbrev rOp := Option (Nat → Nat → Nat)
def goR (ρ : Nat → Nat → Nat) (n : Nat) : Nat → Nat → Nat := pu ρ 0 (kc n)
def a0R (ρ : Nat → Nat → Nat) (x : Nat) : rOp := if (48 ≤ x ∧ x ≤ 57) ∧ x - 48 < 3 then some (pu (pu ρ 1 (kc (x - 48))) 0 (kc 1)) else none
def a2R (ρ : Nat → Nat → Nat) (x : Nat) : rOp := if 48 ≤ x ∧ x ≤ 57 then some (pu (pu ρ 2 (kc (x - 48))) 0 (kc 3)) else none
def a3R (ρ : Nat → Nat → Nat) (x : Nat) : rOp := if (¬ ρ 2 0 = 0 ∧ 48 ≤ x ∧ x ≤ 57) ∧ ρ 2 0 * 10 + (x - 48) < 12 then some (pu ρ 2 (kc (ρ 2 0 * 10 + (x - 48)))) else none
def a4R (ρ : Nat → Nat → Nat) (x : Nat) : rOp := if 48 ≤ x ∧ x ≤ 57 then some (pu (pu ρ 4 (kc (x - 48))) 0 (kc 5)) else none
def spR (ρ : Nat → Nat → Nat) (x : Nat) : Nat → Nat → Nat := pu ρ 0 (kc (if x = 44 then 4 else 0))
def rgR (ρ : Nat → Nat → Nat) : rOp := if ρ 4 0 < 31 then some (pu (pu ρ 3 (kc (ρ 4 0))) 0 (kc 6)) else none
def s5R (ρ : Nat → Nat → Nat) (x : Nat) : rOp := if (¬ ρ 4 0 = 0 ∧ 48 ≤ x ∧ x ≤ 57) ∧ ρ 4 0 * 10 + (x - 48) < 32 then some (pu ρ 4 (kc (ρ 4 0 * 10 + (x - 48)))) else none
def a5R (ρ : Nat → Nat → Nat) (x : Nat) : rOp := if sepB x then some (spR ρ x) else if x = 45 then rgR ρ else s5R ρ x
def a6R (ρ : Nat → Nat → Nat) (x : Nat) : rOp := if (48 ≤ x ∧ x ≤ 57) ∧ ρ 3 0 < grF (x - 48) then some (pu (pu ρ 4 (kc (x - 48))) 0 (kc 7)) else none
def s7R (ρ : Nat → Nat → Nat) (x : Nat) : rOp := if (¬ ρ 4 0 = 0 ∧ 48 ≤ x ∧ x ≤ 57) ∧ ρ 3 0 < ρ 4 0 * 10 + (x - 48) ∧ ρ 4 0 * 10 + (x - 48) < 32 then some (pu ρ 4 (kc (ρ 4 0 * 10 + (x - 48)))) else none
def a7R (ρ : Nat → Nat → Nat) (x : Nat) : rOp := if sepB x then (if ρ 3 0 < ρ 4 0 then some (spR ρ x) else none) else s7R ρ x
def stR (ρ : Nat → Nat → Nat) (x : Nat) : rOp :=
  if ρ 0 0 = 0 then a0R ρ x else if ρ 0 0 = 1 then (if x = 47 then some (goR ρ 2) else none) else if ρ 0 0 = 2 then a2R ρ x else if ρ 0 0 = 3 then (if x = 58 then some (goR ρ 4) else a3R ρ x) else if ρ 0 0 = 4 then a4R ρ x else if ρ 0 0 = 5 then a5R ρ x else if ρ 0 0 = 6 then a6R ρ x else a7R ρ x
theorem stR_0 {ρ : Nat → Nat → Nat} {x : Nat} (h : ρ 0 0 = 0) : stR ρ x = a0R ρ x := if_pos h
theorem stR_1 {ρ : Nat → Nat → Nat} {x : Nat} (h : ρ 0 0 = 1) : stR ρ x = if x = 47 then some (goR ρ 2) else none := by unfold stR; rw [h]; rfl
theorem stR_2 {ρ : Nat → Nat → Nat} {x : Nat} (h : ρ 0 0 = 2) : stR ρ x = a2R ρ x := by unfold stR; rw [h]; rfl
theorem stR_3 {ρ : Nat → Nat → Nat} {x : Nat} (h : ρ 0 0 = 3) : stR ρ x = if x = 58 then some (goR ρ 4) else a3R ρ x := by unfold stR; rw [h]; rfl
theorem stR_4 {ρ : Nat → Nat → Nat} {x : Nat} (h : ρ 0 0 = 4) : stR ρ x = a4R ρ x := by unfold stR; rw [h]; rfl
theorem stR_5 {ρ : Nat → Nat → Nat} {x : Nat} (h : ρ 0 0 = 5) : stR ρ x = a5R ρ x := by unfold stR; rw [h]; rfl
theorem stR_6 {ρ : Nat → Nat → Nat} {x : Nat} (h : ρ 0 0 = 6) : stR ρ x = a6R ρ x := by unfold stR; rw [h]; rfl
theorem stR_7 {ρ : Nat → Nat → Nat} {x : Nat} (h : ρ 0 0 = 7) : stR ρ x = a7R ρ x := by unfold stR; rw [h]; rfl
/-- what the reader keeps to -/
def okR (ρ : Nat → Nat → Nat) : Prop := ρ 0 0 ≤ 7 ∧ ρ 1 0 < 3 ∧ ρ 2 0 < 12 ∧ ρ 3 0 < 32 ∧ ρ 4 0 < 32
theorem grF_le (d : Nat) (hd : d < 10) : grF d ≤ 31 := by
  unfold grF
  split <;> omega
section KQ
variable {p : Program} {l : Launch} {e : Env} {R : Room} {s : State} {m : MethodId} {args : Array Value} {below : List Frame} {meth : Method} {cd : Code} {H : Heap} {locs : List Loc} {cells slots : Nat} {Q : State → Prop} {pc : Nat} {ls : Array Slot} {rest : List Value} {cc : ByteArray} {nL : Nat} {Ts : List Cond} {own : String}
theorem kq_le (S : CallFix p m cd cc nL s args Ts own) {y : Nat} {off : Int} {tgt : Nat} (hdg : decode cc pc = .ok (.if_icmp .le off, 3)) (ht : (pc : Int) + off = (tgt : Int)) (hy : y < 2 ^ 31) (kt : W p l e R s m args below meth cd H locs cells slots Q (F0 m tgt ls rest)) : W p l e R s m args below meth cd H locs cells slots Q (F0 m pc ls (.int (nI y) :: .int (nI 4294967295) :: rest)) :=
  lv_icmp_le S.1 S.2.1 hdg ht (fun _ => kt) (fun h => absurd h (by
    have e0 : (nI 4294967295).toInt = -1 := by decide
    first
      | (rw [Int32.le_iff_toInt_le, e0, nI_toInt hy]; omega)
      | (rw [Int32.lt_iff_toInt_lt, e0, nI_toInt hy]; omega)))
end KQ
