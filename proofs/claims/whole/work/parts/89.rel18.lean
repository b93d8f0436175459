/-! ===== the digest, on both sides ===== -/
theorem d1_congr {f g : Nat → Int32} (h : Int64) : ∀ n, (∀ k, k < n → f k = g k) → d1 h f n = d1 h g n
  | 0, _ => rfl
  | n + 1, e => by
    show 31 * d1 h f n + (f n).toInt64 = 31 * d1 h g n + (g n).toInt64
    rw [d1_congr h n (fun k hk => e k (by omega)), e n (by omega)]
theorem d1_add (h : Int64) (f : Nat → Int32) (a : Nat) : ∀ b, d1 h f (a + b) = d1 (d1 h f a) (fun k => f (a + k)) b
  | 0 => rfl
  | b + 1 => by
    show 31 * d1 h f (a + b) + (f (a + b)).toInt64 = 31 * d1 (d1 h f a) (fun k => f (a + k)) b + (f (a + b)).toInt64
    rw [d1_add h f a b]
section
variable {τ : Nat → Nat → Nat} {σ : Nat → Nat} {T : Nat}
theorem rl_dt (h : R0 τ σ T) (x : Int64) : ∀ t, t ≤ 3 → dtS τ x t = dgt σ x t
  | 0, _ => rfl
  | t + 1, ht => by
    rw [dtS_s, rl_dt h x t (by omega)]
    show d1 (d1 (dgt σ x t) (fT2 τ t) 5) (gT2 τ t) 32 = d1 (d1 (dgt σ x t) (fwt σ t) 5) (fpt σ t) 32
    have e1 : d1 (dgt σ x t) (fT2 τ t) 5 = d1 (dgt σ x t) (fwt σ t) 5 := d1_congr _ 5 (fun w hw => congrArg nI (rl_numT h.1.1 h.2.1.1 (fun i hi => h.2.2.pin hi) (by omega) hw))
    rw [e1]
    exact d1_congr _ 32 (fun p hp => congrArg nI (rl_chord h.1.1 (by omega) hp (h.2.1.1 _ (by omega))))
theorem rl_dk (h : R0 τ σ T) (x : Int64) : ∀ j, j ≤ 12 → dkS τ x j = d1 x (fo σ) (5 * j)
  | 0, _ => rfl
  | j + 1, hj => by
    rw [dkS_s, rl_dk h x j (by omega), show 5 * (j + 1) = 5 * j + 5 by omega, d1_add]
    refine d1_congr _ 5 (fun w hw => ?_)
    show nI (numK τ j w) = nI (oto σ ((5 * j + w) / 5) ((5 * j + w) % 5))
    rw [show (5 * j + w) / 5 = j by omega, show (5 * j + w) % 5 = w by omega, rl_numK h.1 h.2.2 h.2.1.2.2.2.2.2.2.1 (by omega) hw]
theorem rl_dn (h : R0 τ σ T) (x : Int64) : ∀ b, b ≤ σ 132 → dnS τ x b = d1 x (f84 σ) (2 * b)
  | 0, _ => rfl
  | b + 1, hb => by
    obtain ⟨e1, e2⟩ := h.1.2.2.1.2 b (by omega)
    rw [dnS_s, rl_dn h x b (by omega), ← e1, ← e2, show 2 * (b + 1) = 2 * b + 1 + 1 by omega]
    rfl
end
/-- the digest that the cylinder comes to -/
def digS (θ : Nat → Nat → Nat → Nat) (κ : Nat → Nat → Nat) (b : Int64) : Int64 := d1 (31 * (31 * (31 * (31 * d1 (dnS (θ 0) (dkS (θ 0) (dtS (θ 0) (d1 3797 (fcS (θ 0) (κ 3 0)) 18) 3) 12) (min 24 (θ 0 14 0))) (fwS (θ 0) ((onS 40 (pu (θ 0) 11 (kc (θ 0 11 0)))).2)) 5 + (nI ((fqT (θ 0) 9 1 ((onS 40 (pu (θ 0) 11 (kc (θ 0 11 0)))).2)).1)).toInt64) + (nI ((woS (θ 0) 64).1)).toInt64) + b) + (nI (κ 4 0)).toInt64) (fbS (κ 0)) (κ 4 0)
theorem rl_digest {θ : Nat → Nat → Nat → Nat} {ρ κ φ : Nat → Nat → Nat} {T : Nat} (h : Rl θ ρ κ φ T) (hT : T < 200000000) (b : Int64) : digS θ κ b = dig (φ 0) (φ 6 0) b (φ 4) (φ 8 0) := by
  obtain ⟨a0, aV, aN, aB, aR⟩ := h
  have c1 : d1 3797 (fcS (θ 0) (κ 3 0)) 18 = d1 3797 (fcn (φ 0) (φ 6 0)) 18 := d1_congr _ 18 (fun w hw => by
    show nI (if w = 17 then κ 3 0 else numN (θ 0) w) = nI (cnt (φ 0) (φ 6 0) w)
    rw [aV.1, rl_numN a0.1 a0.2.1.1 a0.2.1.2.2.2.2.1 _ hw])
  have c2 := rl_dt a0 (d1 3797 (fcn (φ 0) (φ 6 0)) 18) 3 (Nat.le_refl _)
  have c3 := rl_dk a0 (dgt (φ 0) (d1 3797 (fcn (φ 0) (φ 6 0)) 18) 3) 12 (Nat.le_refl _)
  have hn : min 24 (θ 0 14 0) = φ 0 132 := a0.1.2.2.1.1.symm
  have c4 := rl_dn a0 (d1 (dgt (φ 0) (d1 3797 (fcn (φ 0) (φ 6 0)) 18) 3) (fo (φ 0)) 60) (φ 0 132) (Nat.le_refl _)
  have r1 : rl (pu (θ 0) 11 (kc (θ 0 11 0))) (φ 0) := rl_same a0.1
  have o1 : okS (pu (θ 0) 11 (kc (θ 0 11 0))) T := a0.2.1.p11 a0.2.1.2.2.2.2.2.2.2.2.1
  have c5 : ∀ x, d1 x (fwS (θ 0) ((onS 40 (pu (θ 0) 11 (kc (θ 0 11 0)))).2)) 5 = d1 x (fwb (φ 0)) 5 := fun x => d1_congr _ 5 (fun w hw => rl_wb (n := 40) r1 o1 (by omega) hw)
  have c6 : ∀ g, (fqT (θ 0) 9 1 g).1 = qf (φ 0) 9 := fun g => rl_quiet a0.1 a0.2.1 hT 9 (Nat.le_refl _) g
  have c7 : (woS (θ 0) 64).1 = wsm (φ 0) (32 * 2) := rl_woS a0.1 a0.2.1.2.2.2.2.2.2.1 a0.2.1.1 64
  unfold digS
  rw [c1, c2, c3, hn, show 5 * 12 = 60 from rfl, c4, c5, c6, c7, aB.1]
  show d1 _ (fbS (κ 0)) (φ 8 0) = d1 _ (fbu (φ 4)) (φ 8 0)
  refine d1_congr _ _ (fun k hk => ?_)
  exact congrArg nI (aB.2.2 k (by rw [aB.1]; exact hk)).1
