/-! ===== the cylinder's State against the reference's row: pins ===== -/
def rlC (g σ : Nat → Nat) : Prop := ∀ t, t < 3 → ∀ j, j < 12 → ∀ p, p < 32 → (g (t * 32 + p)).testBit j = (σ (12 * t + j)).testBit p
theorem rlC.hb {τ : Nat → Nat → Nat} {σ : Nat → Nat} (h : rlC (τ 0) σ) {t j p : Nat} (ht : t < 3) (hj : j < 12) (hp : p < 32) : hb τ t j p = pb σ t j p := h t ht j hj p hp
theorem rl_near {τ : Nat → Nat → Nat} {σ : Nat → Nat} (h : rlC (τ 0) σ) {t j p : Nat} (ht : t < 3) (hj : j < 12) : ∀ n, nrS τ t j p n = near σ t j p n
  | 0 => rfl
  | n + 1 => by
    show (nrS τ t j p n || _ || _) = (near σ t j p n || _ || _)
    rw [rl_near h ht hj n, h.hb ht hj (Nat.mod_lt _ (by decide)), h.hb ht hj (Nat.mod_lt _ (by decide))]
theorem bit_hi {x n i : Nat} (hx : x < 2 ^ n) (hi : n ≤ i) : x.testBit i = false :=
  Nat.testBit_lt_two_pow (Nat.lt_of_lt_of_le hx (Nat.pow_le_pow_right (by decide) hi))
theorem rl_chord {g σ : Nat → Nat} (h : rlC g σ) {t p : Nat} (ht : t < 3) (hp : p < 32) (hg : g (t * 32 + p) < 4096) : g (t * 32 + p) = mk (fun j => pb σ t j p) 12 := by
  apply Nat.eq_of_testBit_eq
  intro i
  rw [mk_bit]
  by_cases hi : i < 12
  · rw [h t ht i hi p hp]
    simp [hi, pb]
  · rw [bit_hi (n := 12) hg (by omega)]
    simp [hi]
theorem rl_hind {τ : Nat → Nat → Nat} {σ : Nat → Nat} (h : rlC (τ 0) σ) {t j p : Nat} (ht : t < 3) (hj : j < 12) (hp : p < 32) (hg : τ 0 (t * 32 + p) < 4096) (h3 : τ 6 3 = σ 145) (h4 : τ 6 4 = σ 146) : hiS' τ t j p = hind σ t j p := by
  unfold hiS' hind
  rw [h.hb ht hj hp, rl_near h ht hj, h3, h4, rl_chord h ht hp hg]
theorem ct_congr {f g : Nat → Bool} : ∀ n, (∀ i, i < n → f i = g i) → ct f n = ct g n
  | 0, _ => rfl
  | n + 1, h => by
    show ct f n + (f n).toNat = ct g n + (g n).toNat
    rw [ct_congr n (fun i hi => h i (Nat.lt_succ_of_lt hi)), h n (Nat.lt_succ_self n)]
theorem sm_congr {f g : Nat → Nat} : ∀ n, (∀ i, i < n → f i = g i) → sm f n = sm g n
  | 0, _ => rfl
  | n + 1, h => by
    show sm f n + f n = sm g n + g n
    rw [sm_congr n (fun i hi => h i (Nat.lt_succ_of_lt hi)), h n (Nat.lt_succ_self n)]
theorem ct_cut {f : Nat → Bool} {m : Nat} : ∀ n, m ≤ n → (∀ i, m ≤ i → f i = false) → ct f n = ct f m
  | 0, h, _ => by
    have e : m = 0 := by omega
    rw [e]
  | n + 1, h, hf => by
    by_cases e : m = n + 1
    · rw [e]
    · show ct f n + (f n).toNat = _
      rw [hf n (by omega), ct_cut n (by omega) hf]
      rfl
theorem ones12 {x : Nat} (hx : x < 4096) : ones x = ct (fun i => x.testBit i) 12 := ct_cut 32 (by decide) (fun i hi => bit_hi (n := 12) hx hi)
theorem sm_add (f g : Nat → Nat) : ∀ n, sm (fun i => f i + g i) n = sm f n + sm g n
  | 0 => rfl
  | n + 1 => by
    show sm (fun i => f i + g i) n + (f n + g n) = (sm f n + f n) + (sm g n + g n)
    rw [sm_add f g n]
    omega
theorem sm_ct (f : Nat → Bool) : ∀ n, sm (fun i => (f i).toNat) n = ct f n
  | 0 => rfl
  | n + 1 => by
    show sm (fun i => (f i).toNat) n + (f n).toNat = ct f n + (f n).toNat
    rw [sm_ct f n]
theorem sm_zero : ∀ n, sm (fun _ => 0) n = 0
  | 0 => rfl
  | n + 1 => sm_zero n
/-- counted by rows or by columns -/
theorem ct_swap (f : Nat → Nat → Bool) (n : Nat) : ∀ m, sm (fun p => ct (f p) m) n = sm (fun j => ct (fun p => f p j) n) m
  | 0 => sm_zero n
  | m + 1 => by
    show sm (fun p => ct (f p) m + (f p m).toNat) n = sm (fun j => ct (fun p => f p j) n) m + ct (fun p => f p m) n
    rw [sm_add, ct_swap f n m, sm_ct]
theorem rl_pins {τ : Nat → Nat → Nat} {σ : Nat → Nat} (h : rlC (τ 0) σ) (hg : ∀ k, k < 96 → τ 0 k < 4096) {t : Nat} (ht : t < 3) : poS τ t 32 = pins σ t := by
  have e1 : poS τ t 32 = sm (fun p => ct (fun j => hb τ t j p) 12) 32 := sm_congr 32 (fun p hp => ones12 (hg _ (by omega)))
  have e2 : pins σ t = sm (fun j => ct (fun p => hb τ t j p) 32) 12 := sm_congr 12 (fun j hj => ct_congr 32 (fun p hp => (h.hb ht hj hp).symm))
  rw [e1, e2, ct_swap (fun p j => hb τ t j p) 32 12]
theorem rl_pinsB {τ : Nat → Nat → Nat} {σ : Nat → Nat} (h : rlC (τ 0) σ) {t : Nat} (ht : t < 3) : pbA τ t 12 = pins σ t :=
  sm_congr 12 (fun j hj => ct_congr 32 (fun p hp => h.hb ht hj hp))
theorem rl_all {τ : Nat → Nat → Nat} {σ : Nat → Nat} (h : rlC (τ 0) σ) (hg : ∀ k, k < 96 → τ 0 k < 4096) : paS τ 3 = allp σ := by
  show 0 + poS τ 0 32 + poS τ 1 32 + poS τ 2 32 = pins σ 0 + pins σ 1 + pins σ 2
  rw [rl_pins h hg (by decide), rl_pins h hg (by decide), rl_pins h hg (by decide), Nat.zero_add]
