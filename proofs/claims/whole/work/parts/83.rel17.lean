/-! ===== the cylinder against the reference: state, saved ones, snapshot, buffer ===== -/
theorem rl.congr {τ : Nat → Nat → Nat} {σ ψ : Nat → Nat} (h : rl τ σ) (e : ∀ i, i < 147 → ψ i = σ i) : rl τ ψ := by
  obtain ⟨hC, hT, ⟨n1, n2⟩, ⟨v0, v1, v2, v3, v4, v5, v6, v7, v8⟩, ⟨s0, s1, s2, s3, s4⟩⟩ := h
  refine ⟨fun t ht j hj p hp => ?_, fun j hj => ?_, ⟨(e _ (by decide)).trans n1, fun b hb => ?_⟩, ⟨v0.trans (e _ (by decide)).symm, v1.trans (e _ (by decide)).symm, v2.trans (e _ (by decide)).symm, v3.trans (e _ (by decide)).symm, v4.trans (e _ (by decide)).symm, v5.trans (e _ (by decide)).symm, v6.trans (e _ (by decide)).symm, v7.trans (e _ (by decide)).symm, v8.trans (e _ (by decide)).symm⟩, ⟨s0.trans (e _ (by decide)).symm, s1.trans (e _ (by decide)).symm, s2.trans (e _ (by decide)).symm, s3.trans (e _ (by decide)).symm, s4.trans (e _ (by decide)).symm⟩⟩
  · rw [e _ (by omega)]; exact hC t ht j hj p hp
  · rw [e _ (by omega), e _ (by omega), e _ (by omega), e _ (by omega)]; exact hT j hj
  · rw [e 132 (by decide)] at hb
    rw [e _ (by omega), e _ (by omega)]; exact n2 b hb
theorem okM.congr {σ ψ : Nat → Nat} (h : okM σ) (e : ∀ i, i < 147 → ψ i = σ i) : okM ψ := by
  intro i hi
  rw [e i (by unfold bnds at hi; omega)]
  exact h i hi
def R0 (τ : Nat → Nat → Nat) (σ : Nat → Nat) (T : Nat) : Prop := rl τ σ ∧ okS τ T ∧ okM σ
theorem R0.congr {τ : Nat → Nat → Nat} {σ ψ : Nat → Nat} {T : Nat} (h : R0 τ σ T) (e : ∀ i, i < 147 → ψ i = σ i) : R0 τ ψ T := ⟨h.1.congr e, h.2.1, h.2.2.congr e⟩
theorem R0.mono {τ : Nat → Nat → Nat} {σ : Nat → Nat} {T U : Nat} (h : R0 τ σ T) (hT : T ≤ U) : R0 τ σ U := ⟨h.1, h.2.1.mono hT, h.2.2⟩
def RV (θ : Nat → Nat → Nat → Nat) (κ φ : Nat → Nat → Nat) (T : Nat) : Prop := κ 3 0 = φ 6 0 ∧ κ 2 0 < 6 ∧ κ 3 0 ≤ 6 ∧ ∀ i, i < κ 3 0 → R0 (θ (3 + (κ 2 0 + i) % 6)) (rowk (φ 2) i) T
def RN (θ : Nat → Nat → Nat → Nat) (κ φ : Nat → Nat → Nat) (T : Nat) : Prop := κ 1 0 = φ 7 0 ∧ κ 1 0 ≤ 1 ∧ (κ 1 0 = 1 → R0 (θ 2) (φ 3) T)
def RB (κ φ : Nat → Nat → Nat) : Prop := κ 4 0 = φ 8 0 ∧ κ 4 0 ≤ 60 ∧ ∀ i, i < κ 4 0 → κ 0 i = φ 4 i ∧ κ 0 i < 128
/-- the whole relation; T bounds the clocks -/
def Rl (θ : Nat → Nat → Nat → Nat) (ρ κ φ : Nat → Nat → Nat) (T : Nat) : Prop := R0 (θ 0) (φ 0) T ∧ RV θ κ φ T ∧ RN θ κ φ T ∧ RB κ φ ∧ okR ρ
theorem RV.mono {θ : Nat → Nat → Nat → Nat} {κ φ : Nat → Nat → Nat} {T U : Nat} (h : RV θ κ φ T) (hT : T ≤ U) : RV θ κ φ U := ⟨h.1, h.2.1, h.2.2.1, fun i hi => (h.2.2.2 i hi).mono hT⟩
theorem RN.mono {θ : Nat → Nat → Nat → Nat} {κ φ : Nat → Nat → Nat} {T U : Nat} (h : RN θ κ φ T) (hT : T ≤ U) : RN θ κ φ U := ⟨h.1, h.2.1, fun e => (h.2.2 e).mono hT⟩
theorem Rl.mono {θ : Nat → Nat → Nat → Nat} {ρ κ φ : Nat → Nat → Nat} {T U : Nat} (h : Rl θ ρ κ φ T) (hT : T ≤ U) : Rl θ ρ κ φ U := ⟨h.1.mono hT, h.2.1.mono hT, h.2.2.1.mono hT, h.2.2.2⟩
theorem svT_at (θ : Nat → Nat → Nat → Nat) (q i : Nat) : svT θ q (3 + i) = if i = q then θ 0 else θ (3 + i) := by
  rw [Nat.add_comm 3 i]
  rfl
theorem svf_lt {v σ : Nat → Nat} {n r i : Nat} (hn : ¬ n = 6) (hr : r < n) (hi : i < 147) : rowk (svf v σ n) r i = rowk v r i := by
  unfold rowk svf
  rw [if_neg hn, if_neg (by omega)]
theorem svf_at {v σ : Nat → Nat} {n i : Nat} (hn : ¬ n = 6) (hi : i < 147) : rowk (svf v σ n) n i = σ i := by
  unfold rowk svf
  rw [if_neg hn, if_pos (by omega), Nat.add_sub_cancel_left]
theorem svf_6 {v σ : Nat → Nat} {r i : Nat} (hr : r < 5) (hi : i < 147) : rowk (svf v σ 6) r i = rowk v (r + 1) i := by
  unfold rowk svf
  rw [if_pos rfl, if_pos (by omega)]
  exact congrArg v (by omega)
theorem svf_65 {v σ : Nat → Nat} {i : Nat} (hi : i < 147) : rowk (svf v σ 6) 5 i = σ i := by
  unfold rowk svf
  rw [if_pos rfl, if_neg (by omega), if_pos (by omega)]
  exact congrArg σ (by omega)
/-- a state is saved -/
theorem RV.save {θ θ' : Nat → Nat → Nat → Nat} {κ κ' φ φ' : Nat → Nat → Nat} {T : Nat} (h : RV θ κ φ T) (h0 : R0 (θ 0) (φ 0) T) (ht : ∀ i, θ' (3 + i) = svT θ ((κ 2 0 + κ 3 0) % 6) (3 + i)) (hk2 : κ' 2 0 = svK κ 2 0) (hk3 : κ' 3 0 = svK κ 3 0) (h6 : φ' 6 0 = svn (φ 6 0)) (h2 : φ' 2 = svf (φ 2) (φ 0) (φ 6 0)) : RV θ' κ' φ' T := by
  obtain ⟨e, k2, k3, hr⟩ := h
  rw [← e] at h6 h2
  by_cases c : κ 3 0 < 6
  · have s3 : svK κ 3 0 = κ 3 0 + 1 := by unfold svK; rw [if_pos c]; rfl
    have s2 : svK κ 2 0 = κ 2 0 := by unfold svK; rw [if_pos c]; rfl
    have sn : svn (κ 3 0) = κ 3 0 + 1 := by unfold svn; rw [if_neg (by omega)]
    refine ⟨by rw [hk3, s3, h6, sn], by rw [hk2, s2]; exact k2, by rw [hk3, s3]; omega, fun i hi => ?_⟩
    rw [hk3, s3] at hi
    rw [hk2, s2, ht, svT_at, h2]
    by_cases d : i = κ 3 0
    · rw [if_pos (by rw [d]), d]
      exact h0.congr (fun x hx => svf_at (by omega) hx)
    · rw [if_neg (by omega)]
      exact (hr i (by omega)).congr (fun x hx => svf_lt (by omega) (by omega) hx)
  · have h36 : κ 3 0 = 6 := by omega
    have s3 : svK κ 3 0 = 6 := by unfold svK; rw [if_neg c]; exact h36
    have s2 : svK κ 2 0 = (κ 2 0 + 1) % 6 := by unfold svK; rw [if_neg c]; rfl
    have sn : svn (κ 3 0) = 6 := by unfold svn; rw [if_pos h36]
    refine ⟨by rw [hk3, s3, h6, sn], by rw [hk2, s2]; exact Nat.mod_lt _ (by decide), by rw [hk3, s3]; exact Nat.le_refl 6, fun i hi => ?_⟩
    rw [hk3, s3] at hi
    rw [hk2, s2, ht, svT_at, h2, h36]
    by_cases d : i = 5
    · rw [if_pos (by omega), d]
      exact h0.congr (fun x hx => svf_65 hx)
    · rw [if_neg (by omega), show ((κ 2 0 + 1) % 6 + i) % 6 = (κ 2 0 + (i + 1)) % 6 by omega]
      exact (hr (i + 1) (by omega)).congr (fun x hx => svf_6 (by omega) hx)
theorem svK_1 (κ : Nat → Nat → Nat) : svK κ 1 = κ 1 := by unfold svK; split <;> rfl
/-- what changes the state, and saves the one before -/
theorem Rl.chg {θ : Nat → Nat → Nat → Nat} {ρ κ φ φ' : Nat → Nat → Nat} {T U : Nat} (h : Rl θ ρ κ φ T) (hT : T ≤ U) {τ : Nat → Nat → Nat} (h0 : R0 τ (φ' 0) U) (h6 : φ' 6 0 = svn (φ 6 0)) (h2 : φ' 2 = svf (φ 2) (φ 0) (φ 6 0)) (h3 : φ' 3 = φ 3) (h7 : φ' 7 = φ 7) (h8 : φ' 8 = φ 8) (h4 : φ' 4 = φ 4) :
    Rl (pst (svT θ ((κ 2 0 + κ 3 0) % 6)) 0 τ) ρ (svK κ) φ' U := by
  obtain ⟨a0, aV, aN, aB, aR⟩ := h.mono hT
  refine ⟨h0, aV.save a0 (fun i => if_neg (by omega)) rfl rfl h6 h2, ?_, ?_, aR⟩
  · unfold RN
    rw [svK_1, h7, h3]
    exact aN
  · unfold RB
    rw [svK_4, svK_0, h8, h4]
    exact aB
/-- what changes nothing but numbers that the relation does not read -/
theorem Rl.look {θ θ' : Nat → Nat → Nat → Nat} {ρ κ φ φ' : Nat → Nat → Nat} {T : Nat} (h : Rl θ ρ κ φ T) (ht : ∀ i, i ≠ 1 → θ' i = θ i) (h0 : φ' 0 = φ 0) (h6 : φ' 6 = φ 6) (h2 : φ' 2 = φ 2) (h3 : φ' 3 = φ 3) (h7 : φ' 7 = φ 7) (h8 : φ' 8 = φ 8) (h4 : φ' 4 = φ 4) : Rl θ' ρ κ φ' T := by
  obtain ⟨a0, aV, aN, aB, aR⟩ := h
  unfold Rl R0 RV RN RB
  rw [h0, h6, h2, h3, h7, h8, h4, ht 0 (by decide), ht 2 (by decide)]
  refine ⟨a0, ⟨aV.1, aV.2.1, aV.2.2.1, fun i hi => ?_⟩, aN, aB, aR⟩
  rw [ht _ (by omega)]
  exact aV.2.2.2 i hi
theorem Rl.reader {θ : Nat → Nat → Nat → Nat} {ρ ρ' κ φ : Nat → Nat → Nat} {T : Nat} (h : Rl θ ρ κ φ T) (hr : okR ρ') : Rl θ ρ' κ φ T := ⟨h.1, h.2.1, h.2.2.1, h.2.2.2.1, hr⟩
