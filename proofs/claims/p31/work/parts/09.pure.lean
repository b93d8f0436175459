/-! ===== what the reference's looks say, over its row σ ===== -/
/-- is there a pin -/
def pb (σ : Nat → Nat) (t j p : Nat) : Bool := (σ (12 * t + j)).testBit p
/-- a mask of the first n places where f holds -/
def mk (f : Nat → Bool) : Nat → Nat
  | 0 => 0
  | n + 1 => mk f n ||| (if f n then 2 ^ n else 0)
/-- how many of the first n places -/
def ct (f : Nat → Bool) : Nat → Nat
  | 0 => 0
  | n + 1 => ct f n + (f n).toNat
def sm (f : Nat → Nat) : Nat → Nat
  | 0 => 0
  | n + 1 => sm f n + f n
theorem ct_le (f : Nat → Bool) : ∀ n, ct f n ≤ n
  | 0 => Nat.le_refl 0
  | n + 1 => by
    have h := ct_le f n
    have h2 : (f n).toNat ≤ 1 := by cases f n <;> decide
    show ct f n + (f n).toNat ≤ n + 1
    omega
theorem mk_lt (f : Nat → Bool) : ∀ n, mk f n < 2 ^ n
  | 0 => Nat.one_pos
  | n + 1 => by
    have h := mk_lt f n
    show mk f n ||| (if f n then 2 ^ n else 0) < 2 ^ (n + 1)
    refine Nat.or_lt_two_pow (Nat.lt_of_lt_of_le h (Nat.pow_le_pow_right (by decide) (Nat.le_succ n))) ?_
    split
    · exact Nat.pow_lt_pow_right (by decide) (Nat.lt_succ_self n)
    · exact Nat.two_pow_pos _
theorem mk_bit (f : Nat → Bool) (i : Nat) : ∀ n, (mk f n).testBit i = (decide (i < n) && f i)
  | 0 => by
    show (0 : Nat).testBit i = _
    rw [Nat.zero_testBit]
    simp
  | n + 1 => by
    show (mk f n ||| (if f n then 2 ^ n else 0)).testBit i = _
    rw [Nat.testBit_or, mk_bit f i n]
    by_cases h : f n = true
    · rw [if_pos h, Nat.testBit_two_pow]
      by_cases e : n = i
      · subst e; simp [h]
      · have e2 : (i < n + 1) ↔ (i < n) := by omega
        simp [e, e2]
    · rw [if_neg h, Nat.zero_testBit]
      by_cases e : n = i
      · subst e; simp [h]
      · have e2 : (i < n + 1) ↔ (i < n) := by omega
        simp [e2]
theorem mk_t {f : Nat → Bool} {n : Nat} (h : f n = true) : mk f n ||| 2 ^ n = mk f (n + 1) := by
  show _ = mk f n ||| (if f n then 2 ^ n else 0)
  rw [if_pos h]
theorem mk_f {f : Nat → Bool} {n : Nat} (h : f n = false) : mk f n ||| 0 = mk f (n + 1) := by
  show _ = mk f n ||| (if f n then 2 ^ n else 0)
  rw [h]; rfl
theorem ct_t {f : Nat → Bool} {n : Nat} (h : f n = true) : ct f n + 1 = ct f (n + 1) := by
  show _ = ct f n + (f n).toNat
  rw [h]; rfl
theorem ct_f {f : Nat → Bool} {n : Nat} (h : f n = false) : ct f n = ct f (n + 1) := by
  show _ = ct f n + (f n).toNat
  rw [h]; rfl
def ones (x : Nat) : Nat := ct (fun i => x.testBit i) 32
theorem ones_le (x : Nat) : ones x ≤ 32 := ct_le _ 32
def pins (σ : Nat → Nat) (t : Nat) : Nat := sm (fun j => ones (σ (12 * t + j))) 12
theorem sm_le {f : Nat → Nat} {b : Nat} (h : ∀ k, f k ≤ b) : ∀ n, sm f n ≤ n * b
  | 0 => by show 0 ≤ _; omega
  | n + 1 => by
    have h1 := sm_le h n
    have h2 := h n
    show sm f n + f n ≤ (n + 1) * b
    rw [Nat.succ_mul]
    omega
theorem pins_le (σ : Nat → Nat) (t : Nat) : pins σ t ≤ 384 := sm_le (fun _ => ones_le _) 12
def allp (σ : Nat → Nat) : Nat := pins σ 0 + pins σ 1 + pins σ 2
/-- one of the n - 1 steps next to a step has a pin, as the reference looks -/
def near (σ : Nat → Nat) (t j p : Nat) : Nat → Bool
  | 0 => false
  | n + 1 => near σ t j p n || pb σ t j ((p + (1 + n)) % 32) || pb σ t j ((p + 32 - (1 + n)) % 32)
def hind (σ : Nat → Nat) (t j p : Nat) : Nat := if pb σ t j p then 1 else if near σ t j p (σ 145 - 1) then 2 else if σ 146 ≤ ones (mk (fun j => pb σ t j p) 12) then 3 else 0
/-- what the reference's row keeps to -/
def bnd (i : Nat) : Nat := if i < 36 then 4294967295 else if i < 84 then (if (i - 36) % 4 = 0 then 90 else if (i - 36) % 4 = 1 then 9 else if (i - 36) % 4 = 2 then 1 else 0) else if i = 132 then 24 else if i = 133 then 31 else if i = 134 then 2 else if i = 135 then 400 else if i = 136 then 9 else if i = 142 then 90 else if i = 143 then 20 else if i = 144 then 1 else if i = 145 then 8 else if i = 146 then 12 else 0
def bnds (i : Nat) : Prop := (i < 36) ∨ (36 ≤ i ∧ i < 84 ∧ (i - 36) % 4 ≠ 3) ∨ (132 ≤ i ∧ i ≤ 136) ∨ (142 ≤ i ∧ i ≤ 146)
def okM (σ : Nat → Nat) : Prop := ∀ i, bnds i → σ i ≤ bnd i
theorem okM.put {σ : Nat → Nat} (h : okM σ) {i v : Nat} (hv : bnds i → v ≤ bnd i) : okM (fu σ i v) := by
  intro k hk
  unfold fu
  split
  · rename_i e; rw [e] at hk ⊢; exact hv hk
  · exact h k hk
theorem okM.at {σ : Nat → Nat} (h : okM σ) (i b : Nat) (hi : bnds i) (hb : bnd i = b) : σ i ≤ b := hb ▸ h i hi
theorem bnd_rw {j w : Nat} (hj : j < 12) (hw : w < 3) : bnds (36 + 4 * j + w) ∧ bnd (36 + 4 * j + w) = if w = 0 then 90 else if w = 1 then 9 else 1 := by
  have e : (36 + 4 * j + w - 36) % 4 = w := by omega
  refine ⟨Or.inr (Or.inl ⟨by omega, by omega, by omega⟩), ?_⟩
  unfold bnd
  rw [if_neg (by omega), if_pos (by omega), e]
  rcases (show w = 0 ∨ w = 1 ∨ w = 2 by omega) with rfl | rfl | rfl <;> rfl
theorem okM.rings {σ : Nat → Nat} (h : okM σ) {j : Nat} (hj : j < 12) : σ (36 + 4 * j + 0) ≤ 90 := h.at _ _ (bnd_rw hj (by decide)).1 (bnd_rw (w := 0) hj (by decide)).2
theorem okM.wear {σ : Nat → Nat} (h : okM σ) {j : Nat} (hj : j < 12) : σ (36 + 4 * j + 1) ≤ 9 := h.at _ _ (bnd_rw hj (by decide)).1 (bnd_rw (w := 1) hj (by decide)).2
theorem okM.broken {σ : Nat → Nat} (h : okM σ) {j : Nat} (hj : j < 12) : σ (36 + 4 * j + 2) ≤ 1 := h.at _ _ (bnd_rw hj (by decide)).1 (bnd_rw (w := 2) hj (by decide)).2
theorem okM.pin {σ : Nat → Nat} (h : okM σ) {i : Nat} (hi : i < 36) : σ i < 4294967296 := by
  have h1 := h i (Or.inl hi)
  unfold bnd at h1
  rw [if_pos hi] at h1
  omega
theorem okM.k132 {σ : Nat → Nat} (h : okM σ) : σ 132 ≤ 24 := h.at 132 24 (Or.inr (Or.inr (Or.inl (by omega)))) rfl
theorem okM.k133 {σ : Nat → Nat} (h : okM σ) : σ 133 ≤ 31 := h.at 133 31 (Or.inr (Or.inr (Or.inl (by omega)))) rfl
theorem okM.k134 {σ : Nat → Nat} (h : okM σ) : σ 134 ≤ 2 := h.at 134 2 (Or.inr (Or.inr (Or.inl (by omega)))) rfl
theorem okM.k135 {σ : Nat → Nat} (h : okM σ) : σ 135 ≤ 400 := h.at 135 400 (Or.inr (Or.inr (Or.inl (by omega)))) rfl
theorem okM.k136 {σ : Nat → Nat} (h : okM σ) : σ 136 ≤ 9 := h.at 136 9 (Or.inr (Or.inr (Or.inl (by omega)))) rfl
theorem okM.k142 {σ : Nat → Nat} (h : okM σ) : σ 142 ≤ 90 := h.at 142 90 (Or.inr (Or.inr (Or.inr (by omega)))) rfl
theorem okM.k143 {σ : Nat → Nat} (h : okM σ) : σ 143 ≤ 20 := h.at 143 20 (Or.inr (Or.inr (Or.inr (by omega)))) rfl
theorem okM.k144 {σ : Nat → Nat} (h : okM σ) : σ 144 ≤ 1 := h.at 144 1 (Or.inr (Or.inr (Or.inr (by omega)))) rfl
theorem okM.k145 {σ : Nat → Nat} (h : okM σ) : σ 145 ≤ 8 := h.at 145 8 (Or.inr (Or.inr (Or.inr (by omega)))) rfl
theorem okM.k146 {σ : Nat → Nat} (h : okM σ) : σ 146 ≤ 12 := h.at 146 12 (Or.inr (Or.inr (Or.inr (by omega)))) rfl
/-- the tune of the coming step -/
def ntu (σ : Nat → Nat) : Nat := if (σ 133 + 1) % 32 = 0 ∧ ¬ σ 144 = 0 then (σ 134 + 1) % 3 else σ 134
theorem ntu_lt {σ : Nat → Nat} (ok : okM σ) : ntu σ < 3 := by
  have h := ok.k134
  unfold ntu
  split <;> omega
/-- the tooth has a pin in the coming step, and is not broken -/
def strk (σ : Nat → Nat) (j : Nat) : Bool := pb σ (ntu σ) j ((σ 133 + 1) % 32) && decide (σ (36 + 4 * j + 2) = 0)
def need (σ : Nat → Nat) : Nat := 1 + ct (strk σ) 12
