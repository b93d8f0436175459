/-! ===== a State: what its methods do, over tau ===== -/
def hb (τ : Nat → Nat → Nat) (t j p : Nat) : Bool := (τ 0 (t * 32 + p)).testBit j
/-- counting bits as the JDK does -/
def b1 (x : Nat) : Nat := x - (x / 2 ^ 1 &&& 1431655765)
def b2 (x : Nat) : Nat := (b1 x &&& 858993459) + (b1 x / 2 ^ 2 &&& 858993459)
def b3 (x : Nat) : Nat := b2 x + b2 x / 2 ^ 4 &&& 252645135
def b4 (x : Nat) : Nat := b3 x + b3 x / 2 ^ 8
def b5 (x : Nat) : Nat := b4 x + b4 x / 2 ^ 16
theorem b_le {x : Nat} (hx : x < 4096) : b1 x ≤ 4095 ∧ b2 x ≤ 8190 ∧ b3 x ≤ 16380 ∧ b4 x ≤ 32760 ∧ b5 x ≤ 65520 := by
  have h1 : b1 x ≤ x := Nat.sub_le _ _
  have h2 : b1 x &&& 858993459 ≤ b1 x := Nat.and_le_left
  have h3 : b1 x / 2 ^ 2 &&& 858993459 ≤ b1 x / 2 ^ 2 := Nat.and_le_left
  have h4 : b1 x / 2 ^ 2 ≤ b1 x := Nat.div_le_self _ _
  have e2 : b2 x = (b1 x &&& 858993459) + (b1 x / 2 ^ 2 &&& 858993459) := rfl
  have h5 : b3 x ≤ b2 x + b2 x / 2 ^ 4 := Nat.and_le_left
  have h6 : b2 x / 2 ^ 4 ≤ b2 x := Nat.div_le_self _ _
  have h7 : b3 x / 2 ^ 8 ≤ b3 x := Nat.div_le_self _ _
  have e4 : b4 x = b3 x + b3 x / 2 ^ 8 := rfl
  have h8 : b4 x / 2 ^ 16 ≤ b4 x := Nat.div_le_self _ _
  have e5 : b5 x = b4 x + b4 x / 2 ^ 16 := rfl
  omega
theorem b_all2 : ∀ a, a < 64 → ∀ b, b < 64 → b5 (64 * a + b) &&& 63 = ones (64 * a + b) := by decide +kernel
theorem b_all {x : Nat} (hx : x < 4096) : b5 x &&& 63 = ones x := by
  have h := b_all2 (x / 64) (by omega) (x % 64) (by omega)
  rwa [Nat.div_add_mod] at h
theorem kn_ushr {n : Nat} (hn : n < 2 ^ 32) (k : Nat) (s : Int32) (hs : ((s.toUInt32 &&& Int32.toUInt32 31).toBitVec % 32).toNat = k) : ((nI n).toUInt32 >>> (s.toUInt32 &&& Int32.toUInt32 31)).toInt32 = nI (n / 2 ^ k) := pk_ushrN hn s k hs
/-- floorMod by 32, from -32 on -/
def fmI (x y : Int32) : Int32 := if 0 ≤ x ^^^ y then x - x / y * y else if x - x / y * y = 0 then x - x / y * y else x - x / y * y + y
theorem fm_all : ∀ a, a < 128 → fmI (nI a - nI 32) (nI 32) = nI (a % 32) := by decide +kernel
theorem ar_neg {p q : Nat} (h : q ≤ p + 32) : nI p - nI q = nI (p + 32 - q) - nI 32 := by
  rw [← pk_sub h, ← nI_add]
  have e : ∀ x y z : Int32, x - y = x + z - y - z := by intro x y z; grind
  exact e _ _ _
theorem i32_d (x y z : Int32) : x + (y - z) = x + y - z := by grind
theorem ar_pos (k u : Nat) : nI k + (nI u - nI 32) = nI (k + u) - nI 32 := by
  rw [i32_d, nI_add]
/-- one of the n steps next to a step has a pin -/
def nrS (τ : Nat → Nat → Nat) (t j p : Nat) : Nat → Bool
  | 0 => false
  | n + 1 => nrS τ t j p n || hb τ t j ((p + (1 + n)) % 32) || hb τ t j ((p + 32 - (1 + n)) % 32)
theorem nrS_mono {τ : Nat → Nat → Nat} {t j p : Nat} {k : Nat} (h : nrS τ t j p k = true) : ∀ n, k ≤ n → nrS τ t j p n = true := by
  intro n
  induction n with
  | zero =>
    intro hk
    have e : k = 0 := by omega
    subst e
    exact h
  | succ n ih =>
    intro hk
    by_cases e : k = n + 1
    · subst e; exact h
    · show (nrS τ t j p n || _ || _) = true
      rw [ih (by omega)]
      rfl
def hiS' (τ : Nat → Nat → Nat) (t j p : Nat) : Nat := if hb τ t j p then 1 else if nrS τ t j p (τ 6 3 - 1) then 2 else if τ 6 4 ≤ ones (τ 0 (t * 32 + p)) then 3 else 0
theorem hiS'_le (τ : Nat → Nat → Nat) (t j p : Nat) : hiS' τ t j p ≤ 3 := by
  unfold hiS'
  repeat' split
  all_goals omega
/-- what a State keeps to; T bounds its clocks -/
def okS (τ : Nat → Nat → Nat) (T : Nat) : Prop :=
  (∀ k, k < 96 → τ 0 k < 4096) ∧ (∀ j, j < 12 → τ 1 j ≤ T + 90) ∧ (∀ j, j < 12 → τ 2 j ≤ 9) ∧ (τ 6 0 ≤ 90 ∧ τ 6 1 ≤ 20 ∧ τ 6 2 ≤ 1 ∧ τ 6 3 ≤ 8 ∧ τ 6 4 ≤ 12) ∧ τ 7 0 < 4096 ∧ τ 8 0 < 32 ∧ τ 9 0 < 3 ∧ τ 10 0 ≤ 400 ∧ τ 11 0 ≤ 9 ∧ τ 12 0 ≤ T ∧ τ 14 0 ≤ T ∧ τ 15 0 ≤ T
theorem k_mx0 {r t : Nat} (hr : r < 2 ^ 30) (ht : t < 2 ^ 30) : (if nI 0 < nI r - nI t then nI r - nI t else nI 0) = nI (r - t) := by
  have e0 : (nI 0).toInt = 0 := rfl
  by_cases h : t < r
  · rw [if_pos (by rw [Int32.lt_iff_toInt_lt, pk_sub_toInt hr ht, e0]; omega), pk_sub (by omega)]
  · rw [if_neg (by rw [Int32.lt_iff_toInt_lt, pk_sub_toInt hr ht, e0]; omega)]
    exact congrArg nI (by omega)
theorem k_mx4 {x y : Nat} (hx : x ≤ 90) (hy : y ≤ 22) : (if nI 4 < nI x - nI y then nI x - nI y else nI 4) = nI (max 4 (x - y)) := by
  have e0 : (nI 4).toInt = 4 := rfl
  by_cases h : y + 4 < x
  · rw [if_pos (by rw [Int32.lt_iff_toInt_lt, rg_int hx hy, e0]; omega), pk_sub (by omega)]
    exact congrArg nI (by omega)
  · rw [if_neg (by rw [Int32.lt_iff_toInt_lt, rg_int hx hy, e0]; omega)]
    exact congrArg nI (by omega)
section KM
variable {p : Program} {l : Launch} {e : Env} {R : Room} {s : State} {m : MethodId} {args : Array Value} {below : List Frame} {meth : Method} {cd : Code} {H : Heap} {locs : List Loc} {cells slots : Nat} {Q : State → Prop} {pc : Nat} {ls : Array Slot} {rest : List Value} {cc : ByteArray} {nL : Nat} {Ts : List Cond} {own : String}
theorem kr_max (S : CallFix p m cd cc nL s args Ts own) {x y : Int32} {index : Nat} (hl : ls.size = nL) (h1 : Cond.methodLink own index Lib.Math.max.name ∈ Ts) (h2 : Cond.static Lib.Math.max.name ∈ Ts) (h3 : Cond.initialized "java/lang/Math" ∈ Ts) (h4 : Cond.code Lib.Math.max.name Lib.Math.max.code 2 (some .int) ∈ Ts) (hR : 1 ≤ R.frames ∧ (rest.map fun v => v.category).sum + 13 ≤ R.locals) (hcs : cells ≤ R.cells ∧ slots ≤ R.slots) (hdg : decode cc pc = .ok (.invokestatic index, 3)) (k : W p l e R s m args below meth cd H locs cells slots Q (F0 m (pc + 3) ls (.int (if x < y then y else x) :: rest))) : W p l e R s m args below meth cd H locs cells slots Q (F0 m pc ls (.int y :: .int x :: rest)) := va_mmax S.1 S.2.1 (S.2.2.1.trans hl.symm) S.2.2.2.1 (S.2.2.2.2 _ h1) (S.2.2.2.2 _ h2) (S.2.2.2.2 _ h3) (S.2.2.2.2 _ h4) hR.1 hR.2 hcs.1 hcs.2 hdg k
theorem kn_iushr (S : CallFix p m cd cc nL s args Ts own) {x y : Nat} (hdg : decode cc pc = .ok (.iushr, 1)) (hx : x < 2 ^ 32) (hs : (((nI y).toUInt32 &&& Int32.toUInt32 31).toBitVec % 32).toNat = y) (k : W p l e R s m args below meth cd H locs cells slots Q (F0 m (pc + 1) ls (.int (nI (x / 2 ^ y)) :: rest))) : W p l e R s m args below meth cd H locs cells slots Q (F0 m pc ls (.int (nI y) :: .int (nI x) :: rest)) := lv_iushr S.1 S.2.1 hdg (kn_ushr hx y (nI y) hs) k
end KM
theorem fm_pos {x y : Nat} (hx : x < 2147483648) (hy : y < 2147483648) : (0 : Int32) ≤ nI x ^^^ nI y := by
  rw [kn_xor]
  exact nI_pos' (Nat.xor_lt_two_pow (n := 31) hx hy)
