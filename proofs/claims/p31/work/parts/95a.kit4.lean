/-! ===== the law's looks, number by number ===== -/
section KXD
variable {p : Program} {l : Launch} {e : Env} {R : Room} {s : State} {m : MethodId} {args : Array Value} {below : List Frame} {meth : Method} {cd : Code} {H : Heap} {locs : List Loc} {cells slots : Nat} {Q : State → Prop} {pc : Nat} {ls : Array Slot} {rest : List Value}
theorem k_topd {x y : UInt64} (h : x = y) (k : W p l e R s m args below meth cd H locs cells slots Q (F0 m pc ls (.double y :: rest))) : W p l e R s m args below meth cd H locs cells slots Q (F0 m pc ls (.double x :: rest)) := h ▸ k
end KXD
theorem cn_0 (τ : Nat → Nat → Nat) (n : Nat) : nI (if 0 = 17 then n else numN τ 0) = nI (τ 8 0) := congrArg nI ((if_neg (by decide)).trans (numN_0 τ))
theorem cn_1 (τ : Nat → Nat → Nat) (n : Nat) : nI (if 1 = 17 then n else numN τ 1) = nI (τ 9 0) := congrArg nI ((if_neg (by decide)).trans (numN_1 τ))
theorem cn_2 (τ : Nat → Nat → Nat) (n : Nat) : nI (if 2 = 17 then n else numN τ 2) = nI (τ 10 0) := congrArg nI ((if_neg (by decide)).trans (numN_2 τ))
theorem cn_3 (τ : Nat → Nat → Nat) (n : Nat) : nI (if 3 = 17 then n else numN τ 3) = nI (τ 11 0) := congrArg nI ((if_neg (by decide)).trans (numN_3 τ))
theorem cn_4 (τ : Nat → Nat → Nat) (n : Nat) : nI (if 4 = 17 then n else numN τ 4) = nI (τ 12 0) := congrArg nI ((if_neg (by decide)).trans (numN_4 τ))
theorem cn_5 (τ : Nat → Nat → Nat) (n : Nat) : nI (if 5 = 17 then n else numN τ 5) = nI (τ 13 0) := congrArg nI ((if_neg (by decide)).trans (numN_5 τ))
theorem cn_6 (τ : Nat → Nat → Nat) (n : Nat) : nI (if 6 = 17 then n else numN τ 6) = nI (τ 14 0) := congrArg nI ((if_neg (by decide)).trans (numN_6 τ))
theorem cn_7 (τ : Nat → Nat → Nat) (n : Nat) : nI (if 7 = 17 then n else numN τ 7) = nI (τ 15 0) := congrArg nI ((if_neg (by decide)).trans (numN_7 τ))
theorem cn_8 (τ : Nat → Nat → Nat) (n : Nat) : nI (if 8 = 17 then n else numN τ 8) = nI (rgS τ 12) := congrArg nI ((if_neg (by decide)).trans (numN_8 τ))
theorem cn_9 (τ : Nat → Nat → Nat) (n : Nat) : nI (if 9 = 17 then n else numN τ 9) = nI (ones (τ 7 0)) := congrArg nI ((if_neg (by decide)).trans (numN_9 τ))
theorem cn_10 (τ : Nat → Nat → Nat) (n : Nat) : nI (if 10 = 17 then n else numN τ 10) = nI (paS τ 3) := congrArg nI ((if_neg (by decide)).trans (numN_10 τ))
theorem cn_11 (τ : Nat → Nat → Nat) (n : Nat) : nI (if 11 = 17 then n else numN τ 11) = nI (τ 16 0) := congrArg nI ((if_neg (by decide)).trans (numN_11 τ))
theorem cn_12 (τ : Nat → Nat → Nat) (n : Nat) : nI (if 12 = 17 then n else numN τ 12) = nI (τ 6 0) := congrArg nI ((if_neg (by decide)).trans (numN_12 τ))
theorem cn_13 (τ : Nat → Nat → Nat) (n : Nat) : nI (if 13 = 17 then n else numN τ 13) = nI (τ 6 1) := congrArg nI ((if_neg (by decide)).trans (numN_13 τ))
theorem cn_14 (τ : Nat → Nat → Nat) (n : Nat) : nI (if 14 = 17 then n else numN τ 14) = nI (τ 6 2) := congrArg nI ((if_neg (by decide)).trans (numN_14 τ))
theorem cn_15 (τ : Nat → Nat → Nat) (n : Nat) : nI (if 15 = 17 then n else numN τ 15) = nI (τ 6 3) := congrArg nI ((if_neg (by decide)).trans (numN_15 τ))
theorem cn_16 (τ : Nat → Nat → Nat) (n : Nat) : nI (if 16 = 17 then n else numN τ 16) = nI (τ 6 4) := congrArg nI ((if_neg (by decide)).trans (numN_16 τ))
theorem cn_17 (τ : Nat → Nat → Nat) (n : Nat) : nI (if 17 = 17 then n else numN τ 17) = nI n := congrArg nI (if_pos rfl)
theorem nt_0 {τ : Nat → Nat → Nat} {b : Nat} (h : b < min 24 (τ 14 0)) : nI (if b < min 24 (τ 14 0) then (if 0 = 0 then τ 4 ((τ 14 0 - 1 - b) % 24) else τ 5 ((τ 14 0 - 1 - b) % 24)) else 4294967295) = nI (τ 4 ((τ 14 0 - 1 - b) % 24)) := congrArg nI ((if_pos h).trans (if_pos rfl))
theorem nt_1 {τ : Nat → Nat → Nat} {b : Nat} (h : b < min 24 (τ 14 0)) : nI (if b < min 24 (τ 14 0) then (if 1 = 0 then τ 4 ((τ 14 0 - 1 - b) % 24) else τ 5 ((τ 14 0 - 1 - b) % 24)) else 4294967295) = nI (τ 5 ((τ 14 0 - 1 - b) % 24)) := congrArg nI ((if_pos h).trans (if_neg (by decide)))
theorem nt_n {τ : Nat → Nat → Nat} {b x : Nat} (h : ¬ b < min 24 (τ 14 0)) : nI (if b < min 24 (τ 14 0) then x else 4294967295) = nI 4294967295 := congrArg nI (if_neg h)
