/-! ===== a row of States; arguments ===== -/
section KR
variable {p : Program} {l : Launch} {e : Env} {R : Room} {s : State} {m : MethodId} {args : Array Value} {below : List Frame} {meth : Method} {cd : Code} {H : Heap} {locs : List Loc} {cells slots : Nat} {Q : State → Prop} {pc : Nat} {ls : Array Slot} {rest : List Value} {cc : ByteArray} {D : va_G} {c : Nat → ClassId} {A : Nat → Prop} {ws : va_W} {H0 : Heap} {nL : Nat} {Ts : List Cond} {own : String}
theorem kq_ald (S : CallFix p m cd cc nL s args Ts own) (hK : va_K D vwCl (vT c) s) (hW : kw D A H0 ws H locs) (q0 : Nat) {b n i : Nat} {f : Nat → Option Nat} (ha : ws[q0]? = some (b, .inl (c 2, n, .inr (.inr (.inr (.inr f)))))) (hi : i < n) (hn : n < 2 ^ 31) (hdg : decode cc pc = .ok (.aaload, 1))
    (k : W p l e R s m args below meth cd H locs cells slots Q (F0 m (pc + 1) ls (va_rf (f i) :: rest))) : W p l e R s m args below meth cd H locs cells slots Q (F0 m pc ls (.int (nI i) :: .ref b :: rest)) :=
  va_aldq S.1 S.2.1 hK hW.1 q0 2 ha rfl (vp_in_nI hi hn) hdg (by
    have e1 : (nI i).toNatClampNeg = i := nI_clamp (Nat.lt_trans hi hn)
    rw [e1]; exact k)
end KR
theorem lt6 {x : Nat} (h : x < 6) : x = 0 ∨ x = 1 ∨ x = 2 ∨ x = 3 ∨ x = 4 ∨ x = 5 := by omega
/-- '0 <= v and v < k' as it is compared -/
def blw (v k : Int32) : Bool := !(decide (v < nI 0)) && decide (v < k)
theorem blw_t {v k : Nat} (h : v < k) (hk : k < 2 ^ 31) : blw (nI v) (nI k) = true := by
  have h0 : ¬ nI v < nI 0 := nI_nlt (Nat.zero_le v) (by omega)
  unfold blw
  simp [h0, nI_lt h hk]
theorem blw_of {v : Int32} {k : Nat} (hk : k < 2 ^ 31) (h : blw v (nI k) = true) : ∃ n : Nat, n < k ∧ v = nI n := by
  unfold blw at h
  simp only [Bool.and_eq_true, Bool.not_eq_true', decide_eq_false_iff_not, decide_eq_true_eq] at h
  have h0 : ¬ v < 0 := by
    have := h.1
    first | exact this | simpa using this
  obtain ⟨j, hj, rfl⟩ := nI_of h0
  exact ⟨j, Nat.lt_of_not_le (fun q => nI_nlt q hj h.2), rfl⟩
theorem blw_1 {v k : Int32} (h : v < 0) : blw v k = false := by
  have h' : v < nI 0 := h
  unfold blw
  simp [h']
theorem blw_2 {v k : Int32} (h : k ≤ v) : blw v k = false := by
  have h' : ¬ v < k := Int32.not_lt.mpr h
  unfold blw
  simp [h']
theorem blw_3 {v k : Int32} (h0 : ¬ v < 0) (h : ¬ k ≤ v) : blw v k = true := by
  have h1 : ¬ v < nI 0 := h0
  have h' : v < k := Int32.not_le.mp h
  unfold blw
  simp [h1, h']
