/-! ===== bits and counts ===== -/
theorem bit_hi {x n i : Nat} (hx : x < 2 ^ n) (hi : n ≤ i) : x.testBit i = false :=
  Nat.testBit_lt_two_pow (Nat.lt_of_lt_of_le hx (Nat.pow_le_pow_right (by decide) hi))
theorem ct_congr {f g : Nat → Bool} : ∀ n, (∀ i, i < n → f i = g i) → ct f n = ct g n
  | 0, _ => rfl
  | n + 1, h => by
    show ct f n + (f n).toNat = ct g n + (g n).toNat
    rw [ct_congr n (fun i hi => h i (Nat.lt_succ_of_lt hi)), h n (Nat.lt_succ_self n)]
theorem sm_congr {f g : Nat → Nat} : ∀ n, (∀ i, i < n → f i = g i) → sm f n = sm g n
  | 0, _ => rfl
  | n + 1, h => by
    show sm f n + f n = sm g n + g n
    rw [sm_congr n (fun i hi => h i (Nat.lt_succ_of_lt hi)), h n (Nat.lt_succ_self n)]
theorem ct_cut {f : Nat → Bool} {m : Nat} : ∀ n, m ≤ n → (∀ i, m ≤ i → f i = false) → ct f n = ct f m
  | 0, h, _ => by
    have e : m = 0 := by omega
    rw [e]
  | n + 1, h, hf => by
    by_cases e : m = n + 1
    · rw [e]
    · show ct f n + (f n).toNat = _
      rw [hf n (by omega), ct_cut n (by omega) hf]
      rfl
theorem ones12 {x : Nat} (hx : x < 4096) : ones x = ct (fun i => x.testBit i) 12 := ct_cut 32 (by decide) (fun i hi => bit_hi (n := 12) hx hi)
theorem sm_add (f g : Nat → Nat) : ∀ n, sm (fun i => f i + g i) n = sm f n + sm g n
  | 0 => rfl
  | n + 1 => by
    show sm (fun i => f i + g i) n + (f n + g n) = (sm f n + f n) + (sm g n + g n)
    rw [sm_add f g n]
    omega
theorem sm_ct (f : Nat → Bool) : ∀ n, sm (fun i => (f i).toNat) n = ct f n
  | 0 => rfl
  | n + 1 => by
    show sm (fun i => (f i).toNat) n + (f n).toNat = ct f n + (f n).toNat
    rw [sm_ct f n]
theorem sm_zero : ∀ n, sm (fun _ => 0) n = 0
  | 0 => rfl
  | n + 1 => sm_zero n
/-- counted by rows or by columns -/
theorem ct_swap (f : Nat → Nat → Bool) (n : Nat) : ∀ m, sm (fun p => ct (f p) m) n = sm (fun j => ct (fun p => f p j) n) m
  | 0 => sm_zero n
  | m + 1 => by
    show sm (fun p => ct (f p) m + (f p m).toNat) n = sm (fun j => ct (fun p => f p j) n) m + ct (fun p => f p m) n
    rw [sm_add, ct_swap f n m, sm_ct]
theorem tuS_bit (τ : Nat → Nat → Nat) (t j : Nat) : ∀ n, (tuS τ t n).testBit j = true ↔ ∃ p, p < n ∧ (τ 0 (t * 32 + p)).testBit j = true
  | 0 => by
    show (0 : Nat).testBit j = true ↔ _
    rw [Nat.zero_testBit]
    constructor
    · intro q; cases q
    · rintro ⟨p, hp, -⟩; omega
  | n + 1 => by
    show (tuS τ t n ||| τ 0 (t * 32 + n)).testBit j = true ↔ _
    rw [Nat.testBit_or, Bool.or_eq_true, tuS_bit τ t j n]
    constructor
    · rintro (⟨p, hp, q⟩ | q)
      · exact ⟨p, by omega, q⟩
      · exact ⟨n, by omega, q⟩
    · rintro ⟨p, hp, q⟩
      by_cases e : p = n
      · subst e; exact Or.inr q
      · exact Or.inl ⟨p, by omega, q⟩
theorem bits0 {x n : Nat} (hx : x < 2 ^ n) : x ≠ 0 ↔ ∃ p, p < n ∧ x.testBit p = true := by
  constructor
  · intro h
    refine Classical.byContradiction fun q => h ?_
    apply Nat.eq_of_testBit_eq
    intro i
    rw [Nat.zero_testBit]
    by_cases hi : i < n
    · cases e : x.testBit i
      · rfl
      · exact absurd ⟨i, hi, e⟩ q
    · exact bit_hi hx (by omega)
  · rintro ⟨p, -, hp⟩ e
    rw [e, Nat.zero_testBit] at hp
    cases hp
theorem ntb {i k : Nat} (hk : k < 32) (hi : i < 32) : (2 ^ k ^^^ 4294967295).testBit i = !decide (k = i) := by
  rw [Nat.testBit_xor, Nat.testBit_two_pow, show (4294967295 : Nat) = 2 ^ 32 - 1 from rfl, Nat.testBit_two_pow_sub_one]
  simp [hi]
theorem pu_ne {φ : Nat → Nat → Nat} {i k : Nat} {g : Nat → Nat} (h : k ≠ i) : pu φ i g k = φ k := if_neg h
theorem blw_inb {v : Int32} {k : Nat} (hk : k + 1 < 2 ^ 31) : blw v (nI (k + 1)) = inb v (nI 0) (nI k) := by
  unfold blw inb
  congr 1
  rw [Bool.eq_iff_iff, Bool.not_eq_true', decide_eq_true_eq, decide_eq_false_iff_not, Int32.lt_iff_toInt_lt, Int32.lt_iff_toInt_lt, nI_toInt hk, nI_toInt (by omega)]
  omega
theorem inb_sub {x : Int32} {k lo hi : Nat} (hk : k < 2 ^ 30) (hlo : (nI lo).toInt = -(k : Int) + 1) (hhi : hi < 2 ^ 30) (h : inb x (nI lo) (nI hi) = true) : ∃ n : Nat, 1 ≤ n ∧ n ≤ k + hi ∧ x = nI n - nI k := by
  unfold inb at h
  simp only [Bool.and_eq_true, Bool.not_eq_true', decide_eq_false_iff_not] at h
  obtain ⟨h1, h2⟩ := h
  rw [Int32.lt_iff_toInt_lt, hlo] at h1
  rw [Int32.lt_iff_toInt_lt, nI_toInt (by omega)] at h2
  refine ⟨(x.toInt + k).toNat, by omega, by omega, Int32.toInt_inj.mp ?_⟩
  have e : (nI (x.toInt + k).toNat - nI k).toInt = ((x.toInt + k).toNat : Int) - k := by
    rw [Int32.toInt_sub, nI_toInt (by omega), nI_toInt (by omega)]
    exact Int.bmod_eq_of_le (by omega) (by omega)
  rw [e]
  omega
theorem and_true_iff' {x y : Bool} (h : (x && y) = true) : x = true ∧ y = true := by
  cases x <;> cases y <;> first | exact ⟨rfl, rfl⟩ | cases h
/-- a number that isn't wrong is in its range -/
theorem inb_rng {v : Int32} {a b : Nat} (ha : a < 2 ^ 31) (hb : b < 2 ^ 31) (h : inb v (nI a) (nI b) = true) : ∃ n : Nat, a ≤ n ∧ n ≤ b ∧ v = nI n := by
  unfold inb at h
  simp only [Bool.and_eq_true, Bool.not_eq_true', decide_eq_false_iff_not] at h
  have h0 : ¬ v < 0 := fun q => h.1 (by
    rw [Int32.lt_iff_toInt_lt] at q ⊢
    rw [nI_toInt ha]
    have e : (0 : Int32).toInt = 0 := rfl
    omega)
  obtain ⟨j, hj, rfl⟩ := nI_of h0
  exact ⟨j, Nat.le_of_not_lt (fun q => h.1 (nI_lt q ha)), Nat.le_of_not_lt (fun q => h.2 (nI_lt q hj)), rfl⟩
theorem inb_d {v a b : Nat} (hv : v < 2 ^ 31) (ha : a < 2 ^ 31) (hb : b < 2 ^ 31) : inb (nI v) (nI a) (nI b) = decide (a ≤ v ∧ v ≤ b) := by
  have h1 : (nI v < nI a) ↔ v < a := nI_ltI hv ha
  have h2 : (nI b < nI v) ↔ b < v := nI_ltI hb hv
  unfold inb
  rw [Bool.eq_iff_iff]
  simp only [Bool.and_eq_true, Bool.not_eq_true', decide_eq_true_eq, decide_eq_false_iff_not, h1, h2]
  omega
