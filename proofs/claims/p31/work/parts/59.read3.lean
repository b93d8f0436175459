/-! ===== a character is stored; the pins of a buffer are set ===== -/
theorem nar_chr : ∀ v, v < 128 → vp_nar .char (nI v) = nI v := by decide +kernel
theorem i2c_chr : ∀ v, v < 128 → ((nI v).toUInt32 % 65536).toInt32 = nI v := by decide +kernel
section KT
variable {p : Program} {l : Launch} {e : Env} {R : Room} {s : State} {m : MethodId} {args : Array Value} {below : List Frame} {meth : Method} {cd : Code} {H : Heap} {locs : List Loc} {cells slots : Nat} {Q : State → Prop} {pc : Nat} {ls : Array Slot} {rest : List Value} {cc : ByteArray} {D : va_G} {c : Nat → ClassId} {A : Nat → Prop} {ws : va_W} {H0 : Heap} {nL : Nat} {Ts : List Cond} {own : String}
theorem kn_cst (S : CallFix p m cd cc nL s args Ts own) (hK : va_K D vwCl (vT c) s) (hW : kw D A H0 ws H locs) (q0 : Nat) {b n i v : Nat} {f : Nat → Nat} (ha : ws[q0]? = some (b, .inl (c 1, n, .inl (fun k => nI (f k))))) (hi : i < n) (hn : n < 2 ^ 31) (hv : v < 128) (hdg : decode cc pc = .ok (.castore, 1))
    (k : ∀ (H1 : Heap) (locs1 : List Loc), kw D A H0 (ws.set q0 (b, .inl (c 1, n, .inl (fun k => nI (fu f i v k))))) H1 locs1 → W p l e R s m args below meth cd H1 locs1 cells slots Q (F0 m (pc + 1) ls rest)) : W p l e R s m args below meth cd H locs cells slots Q (F0 m pc ls (.int (nI v) :: .int (nI i) :: .ref b :: rest)) :=
  va_cast S.1 S.2.1 hK hW.1 hW.2.1 hW.2.2 q0 1 ha rfl (vp_in_nI hi hn) hdg (fun H1 locs1 h1 h2 h3 => by
    rw [nar_chr v hv, k_upd (Nat.lt_trans hi hn)] at h1 h2
    exact k H1 locs1 ⟨h1, h2, h3⟩)
end KT
def fromR (ρ : Nat → Nat → Nat) : Nat := if ρ 0 0 = 7 then ρ 3 0 else ρ 4 0
def prR (τ ρ : Nat → Nat → Nat) : Nat × (Nat → Nat) := prC τ (ρ 1 0) (ρ 2 0) (if ρ 0 0 = 7 then ρ 3 0 else ρ 4 0) (ρ 4 0 + 1 - (if ρ 0 0 = 7 then ρ 3 0 else ρ 4 0))
theorem prR_ok {τ ρ : Nat → Nat → Nat} {T : Nat} (ok : okS τ T) (okr : okR ρ) (hr : ρ 0 0 = 7 → ρ 3 0 ≤ ρ 4 0) : okS (pu τ 0 (prR τ ρ).2) T := by
  obtain ⟨r0, r1, r2, r3, r4⟩ := okr
  refine ok.p0 (prC_ok (x := if ρ 0 0 = 7 then ρ 3 0 else ρ 4 0) ok.1 r2 r1 _ ?_).2
  split
  · rename_i h
    have := hr h
    omega
  · omega
theorem sep7 {ρ : Nat → Nat → Nat} {x : Nat} (hx : sepB x = true) (h : (stR ρ x).isSome = true) (h7 : ρ 0 0 = 7) : ρ 3 0 ≤ ρ 4 0 := by
  rw [stR_7 h7] at h
  unfold a7R at h
  rw [if_pos hx] at h
  by_cases c : ρ 3 0 < ρ 4 0
  · exact Nat.le_of_lt c
  · rw [if_neg c] at h; cases h
def ppR (β : Nat → Nat) : Nat → Nat → Nat → (Nat → Nat → Nat) → (Nat → Nat → Nat) → Nat × (Nat → Nat → Nat) × (Nat → Nat → Nat)
  | 0, _, d, τ, ρ => (d + (prR τ ρ).1, pu τ 0 (prR τ ρ).2, ρ)
  | n + 1, i, d, τ, ρ => if sepB (β i) then ppR β n (i + 1) (d + (prR τ ρ).1) (pu τ 0 (prR τ ρ).2) ((stR ρ (β i)).getD ρ) else ppR β n (i + 1) d τ ((stR ρ (β i)).getD ρ)
theorem ppR_t {β : Nat → Nat} {N k d : Nat} {τ ρ : Nat → Nat → Nat} (hk : k < N) (h : sepB (β k) = true) : ppR β (N - k) k d τ ρ = ppR β (N - (k + 1)) (k + 1) (d + (prR τ ρ).1) (pu τ 0 (prR τ ρ).2) ((stR ρ (β k)).getD ρ) := by
  rw [show N - k = (N - (k + 1)) + 1 by omega, ppR, if_pos h]
theorem ppR_f {β : Nat → Nat} {N k d : Nat} {τ ρ : Nat → Nat → Nat} (hk : k < N) (h : sepB (β k) = false) : ppR β (N - k) k d τ ρ = ppR β (N - (k + 1)) (k + 1) d τ ((stR ρ (β k)).getD ρ) := by
  rw [show N - k = (N - (k + 1)) + 1 by omega, ppR, if_neg (by rw [h]; decide)]
theorem ppR_0 {β : Nat → Nat} {N k d : Nat} {τ ρ : Nat → Nat → Nat} (hk : N ≤ k) : ppR β (N - k) k d τ ρ = (d + (prR τ ρ).1, pu τ 0 (prR τ ρ).2, ρ) := by
  rw [show N - k = 0 by omega, ppR]
theorem rb_some {β : Nat → Nat} {N k : Nat} {ρ : Nat → Nat → Nat} {z : Nat × (Nat → Nat → Nat)} (hz : z = rbR β (N - k) k ρ) (hk : k < N) (hall : z.1 = N) : (stR ρ (β k)).isSome = true := by
  cases e : (stR ρ (β k)).isSome
  · rw [hz, (rbR_f hk e).1] at hall
    exact absurd hall (by show ¬ k = N; omega)
  · rfl
theorem svK_0 (κ : Nat → Nat → Nat) : svK κ 0 = κ 0 := by unfold svK; split <;> rfl
theorem svK_4 (κ : Nat → Nat → Nat) : svK κ 4 = κ 4 := by unfold svK; split <;> rfl
