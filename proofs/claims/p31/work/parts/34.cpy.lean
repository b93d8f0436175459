/-! ===== a tune is copied; shares and their bits ===== -/
def clr (g : Nat → Nat) (t : Nat) : Nat → Nat → Nat
  | 0 => g
  | k + 1 => fu (clr g t k) (12 * t + k) 0
def cpl (g : Nat → Nat) (f t u v : Nat) : Nat → Nat → Nat
  | 0 => g
  | k + 1 => if pb (cpl g f t u v k) f (k / 32) (k % 32) = true ∧ 12 ≤ k / 32 + v ∧ k / 32 + v < 24 then fu (cpl g f t u v k) (12 * t + (k / 32 + v - 12)) (cpl g f t u v k (12 * t + (k / 32 + v - 12)) ||| 2 ^ ((k % 32 + u) % 32)) else cpl g f t u v k
theorem cpl_t {g : Nat → Nat} {f t u v k : Nat} (h1 : pb (cpl g f t u v k) f (k / 32) (k % 32) = true) (h2 : 12 ≤ k / 32 + v) (h3 : k / 32 + v < 24) : cpl g f t u v (k + 1) = fu (cpl g f t u v k) (12 * t + (k / 32 + v - 12)) (cpl g f t u v k (12 * t + (k / 32 + v - 12)) ||| 2 ^ ((k % 32 + u) % 32)) := by
  rw [cpl, if_pos ⟨h1, h2, h3⟩]
theorem cpl_f {g : Nat → Nat} {f t u v k : Nat} (h : ¬ (pb (cpl g f t u v k) f (k / 32) (k % 32) = true ∧ 12 ≤ k / 32 + v ∧ k / 32 + v < 24)) : cpl g f t u v (k + 1) = cpl g f t u v k := by
  rw [cpl, if_neg h]
theorem i32_a (x y z : Int32) : x + (y - z) + z = x + y := by grind
theorem cp_st (a u : Nat) : nI a + (nI u - nI 32) + nI 32 = nI (a + u) := by
  rw [i32_a]
  exact nI_add a u
theorem i32_b (x y z : Int32) : x + (y - z) = x + y - z := by grind
theorem cp_int {a v : Nat} (ha : a < 1000) (hv : v < 1000) : (nI a + (nI v - nI 12)).toInt = (a : Int) + v - 12 := by
  rw [i32_b, nI_add, pk_sub_toInt (by omega) (by omega)]
  omega
theorem cp_in {a v : Nat} (ha : a < 1000) (hv : v < 1000) (h : inb (nI a + (nI v - nI 12)) (nI 0) (nI 11) = true) : 12 ≤ a + v ∧ a + v < 24 ∧ nI a + (nI v - nI 12) = nI (a + v - 12) := by
  unfold inb at h
  simp only [Bool.and_eq_true, Bool.not_eq_true', decide_eq_false_iff_not] at h
  have h1 := h.1
  have h2 := h.2
  rw [Int32.lt_iff_toInt_lt, cp_int ha hv, nI_toInt (by decide)] at h1 h2
  refine ⟨by omega, by omega, ?_⟩
  rw [i32_b, nI_add, pk_sub (by omega)]
theorem cp_out {a v : Nat} (ha : a < 1000) (hv : v < 1000) (h : inb (nI a + (nI v - nI 12)) (nI 0) (nI 11) = false) : ¬ (12 ≤ a + v ∧ a + v < 24) := by
  intro q
  have h3 : inb (nI a + (nI v - nI 12)) (nI 0) (nI 11) = true := by
    rw [i32_b, nI_add, pk_sub (by omega)]
    exact inb_t (Nat.zero_le _) (by omega) (by decide)
  rw [h3] at h
  cases h
theorem i32_c (u c lo : Nat) (x : Int32) (hx : x.toInt = (u : Int) - c) (hlo : (nI lo).toInt = -(c : Int) + 1) {hi : Nat} (hh : hi < 2 ^ 31) (h1 : 1 ≤ u) (h2 : (u : Int) - c ≤ hi) : inb x (nI lo) (nI hi) = true := by
  unfold inb
  have e1 : ¬ x < nI lo := by
    rw [Int32.lt_iff_toInt_lt, hx, hlo]
    omega
  have e2 : ¬ nI hi < x := by
    rw [Int32.lt_iff_toInt_lt, hx, nI_toInt hh]
    omega
  simp [e1, e2]
theorem cp_ok32 {u : Nat} (h1 : 1 ≤ u) (h2 : u ≤ 63) : inb (nI u - nI 32) (nI 4294967265) (nI 31) = true :=
  i32_c u 32 4294967265 _ (pk_sub_toInt (by omega) (by omega)) (by decide) (by decide) h1 (by omega)
theorem cp_ok12 {u : Nat} (h1 : 1 ≤ u) (h2 : u ≤ 23) : inb (nI u - nI 12) (nI 4294967285) (nI 11) = true :=
  i32_c u 12 4294967285 _ (pk_sub_toInt (by omega) (by omega)) (by decide) (by decide) h1 (by omega)
/-- how many notes came without a squeak, as a share -/
def sh (n q : Nat) : UInt64 := if n = 0 then FP.dconst1 else FP.ddiv (FP.i2d (nI (n - q))) (FP.i2d (nI n))
def dbl (v : UInt64) : Nat → UInt64
  | 0 => v
  | k + 1 => FP.dmul (dbl v k) 4611686018427387904
def pw : Nat → Int64
  | 0 => 1023
  | k + 1 => pw k - 1
def bitv (v : UInt64) (n : Nat) : Int64 := pw n * 4503599627370496 + FP.d2l (FP.dmul (FP.dsub (dbl v n) FP.dconst1) 4841369599423283200)
/-- what the doublings of v come to -/
def bitK (v : UInt64) (n : Nat) : Prop := (∀ k, k < n → ¬ (0 : Int32) ≤ Op.cmpValue (FP.dcmp (dbl v k) FP.dconst1) CmpOp.g) ∧ (0 : Int32) ≤ Op.cmpValue (FP.dcmp (dbl v n) FP.dconst1) CmpOp.g ∧ (∀ k, k < n → vf_n64 (FP.dmul (dbl v k) 4611686018427387904)) ∧ vf_n64 (FP.dsub (dbl v n) FP.dconst1) ∧ vf_n64 (FP.dmul (FP.dsub (dbl v n) FP.dconst1) 4841369599423283200)
def bitP (v : UInt64) (b : Int64) : Prop := (Op.cmpValue (FP.dcmp v FP.dconst0) CmpOp.l = 0 ∧ b = 0) ∨ (¬ Op.cmpValue (FP.dcmp v FP.dconst0) CmpOp.l = 0 ∧ ∃ n, bitK v n ∧ b = bitv v n)
