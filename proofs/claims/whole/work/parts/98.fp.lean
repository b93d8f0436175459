/-! ===== the doubles ===== -/
section FPS
theorem fp_vf {r : UInt64} (h : FP.Core.dIsNaN r = false) : vf_n64 r := by
  have h1 : ¬ (9218868437227405312 < r.toNat % 2 ^ 63) := fun q => by rw [(FP.Core.isNaN_bits r).mpr q] at h; cases h
  unfold vf_n64
  rw [UInt64.le_iff_toNat_le, UInt64.toNat_and]
  have e : (0x7fffffffffffffff : UInt64).toNat = 2 ^ 63 - 1 := by decide
  have e2 : (0x7ff0000000000000 : UInt64).toNat = 9218868437227405312 := by decide
  rw [e, e2, Nat.and_two_pow_sub_one_eq_mod]
  omega
theorem fp_shift (x : Int64) : x <<< ((nI 52).toInt64 &&& 63) = x * 4503599627370496 := by
  have e : ((nI 52).toInt64 &&& 63) = 52 := by decide
  rw [e]
  apply Int64.toBitVec_inj.mp
  rw [Int64.toBitVec_shiftLeft, Int64.toBitVec_mul]
  have e2 : ((52 : Int64).toBitVec.smod 64) = 52#64 := by decide
  rw [e2, BitVec.shiftLeft_eq', BitVec.shiftLeft_eq_mul_twoPow]
  rfl
theorem fp_two : FP.Core.DFin (4611686018427387904 : UInt64) ∧ ¬ FP.Core.DZero (4611686018427387904 : UInt64) := ⟨by rw [FP.Core.fin_bits]; decide, by rw [FP.Core.zero_bits2]; decide⟩
theorem fp_big : FP.Core.DFin (4841369599423283200 : UInt64) ∧ ¬ FP.Core.DZero (4841369599423283200 : UInt64) := ⟨by rw [FP.Core.fin_bits]; decide, by rw [FP.Core.zero_bits2]; decide⟩
theorem fp_one : FP.Core.DFin (FP.dconst1) := ⟨_, _, _, FP.Core.val64_dconst1⟩
theorem fp_dbl {v : UInt64} (h : FP.Core.dIsNaN v = false) : ∀ k, FP.Core.dIsNaN (dbl v k) = false
  | 0 => h
  | k + 1 => FP.Core.dmul_out' (fp_dbl h k) fp_two.1 fp_two.2
theorem fp_val2 : FP.Core.val64 (4611686018427387904 : UInt64) = .fin false (2 ^ 52) (-51) := by decide +kernel
theorem fp_step {v : UInt64} {c : Nat} {e : Int} (h : FP.Core.val64 v = .fin false c e) (h1 : 2 ^ 52 ≤ c) (h2 : c < 2 ^ 53) (h3 : -1074 ≤ e) (h4 : e ≤ 0) : FP.Core.val64 (FP.dmul v 4611686018427387904) = .fin false c (e + 1) := by
  show FP.Core.val64 (FP.Core.dmul v 4611686018427387904) = _
  rw [FP.Core.val64_dmul, h, fp_val2]
  show FP.Core.roundRatio FP.Core.b64 (false != false) (c * 2 ^ 52) 1 (e + -51) = _
  refine FP.Core.roundRatio_exact FP.Core.good_b64 (by decide) ⟨?_, ?_, ?_, Or.inr ?_⟩ ?_
  · exact h2
  · rw [FP.Core.qmin_b64]; omega
  · have e5 : FP.Core.b64.qmax = 971 := by decide
    rw [e5]; omega
  · rw [FP.Core.tails_b64]; exact h1
  · rw [show e + -51 - (e + 1) = -52 by omega, show e + 1 - (e + -51) = 52 by omega]
    show c * 2 ^ 52 * 2 ^ 0 = c * 1 * 2 ^ 52
    rw [Nat.pow_zero, Nat.mul_one, Nat.mul_one]
theorem fp_dbls {v : UInt64} {c : Nat} {e : Int} (h : FP.Core.val64 v = .fin false c e) (h1 : 2 ^ 52 ≤ c) (h2 : c < 2 ^ 53) (h3 : -1074 ≤ e) : ∀ k : Nat, e + k ≤ 1 → FP.Core.val64 (dbl v k) = .fin false c (e + k)
  | 0, _ => by rw [show e + ((0 : Nat) : Int) = e by omega]; exact h
  | k + 1, hk => by
    have q := fp_step (fp_dbls h h1 h2 h3 k (by omega)) h1 h2 (by omega) (by omega)
    rw [show e + ((k + 1 : Nat) : Int) = e + (k : Int) + 1 by omega]
    exact q
theorem fp_cmp1 {v : UInt64} {c : Nat} {e : Int} (h : FP.Core.val64 v = .fin false c e) (h1 : 2 ^ 52 ≤ c) (he : -52 ≤ e) : (0 : Int32) ≤ Op.cmpValue (FP.dcmp v FP.dconst1) CmpOp.g := by
  have e1 : FP.dcmp v FP.dconst1 = FP.Core.order (FP.Core.val64 v) (FP.Core.val64 FP.Core.dconst1) := rfl
  rw [e1, h, FP.Core.val64_dconst1]
  have hm : min e (-52) = -52 := by omega
  show (0 : Int32) ≤ Op.cmpValue (some (compare (FP.Core.signed false (FP.Core.inUnits c e (min e (-52)))) (FP.Core.signed false (FP.Core.inUnits (2 ^ 52) (-52) (min e (-52)))))) CmpOp.g
  rw [hm]
  have h3 : 2 ^ 52 ≤ FP.Core.inUnits c e (-52) := Nat.le_trans h1 (Nat.le_mul_of_pos_right _ (Nat.two_pow_pos _))
  have h4 : FP.Core.inUnits (2 ^ 52) (-52) (-52) = 2 ^ 52 := by decide
  rw [h4]
  show (0 : Int32) ≤ Op.cmpValue (some (compare ((FP.Core.inUnits c e (-52) : Nat) : Int) ((2 ^ 52 : Nat) : Int))) CmpOp.g
  rcases Nat.lt_or_eq_of_le h3 with q | q
  · rw [show compare ((FP.Core.inUnits c e (-52) : Nat) : Int) ((2 ^ 52 : Nat) : Int) = .gt from Int.compare_eq_gt.mpr (by omega)]
    decide
  · rw [← q]
    decide
theorem fp_least {P : Nat → Prop} (N : Nat) : ∀ n, n ≤ N → P n → ∃ k, k ≤ N ∧ P k ∧ ∀ j, j < k → ¬ P j := by
  intro n
  induction n using Nat.strongRecOn with
  | _ n ih =>
    intro hn hP
    by_cases c : ∃ j, j < n ∧ P j
    · obtain ⟨j, hj, hPj⟩ := c
      exact ih j hj (by omega) hPj
    · exact ⟨n, hn, hP, fun j hj hPj => c ⟨j, hj, hPj⟩⟩
/-- a share that is no NaN and at least 2 ^ -31 -/
theorem fp_pos {v : UInt64} (hn : FP.Core.dIsNaN v = false) (hs : v.toNat < 2 ^ 63) (hm : 992 * 2 ^ 52 ≤ v.toNat) : ∃ b : Int64, bitP v b ∧ bitQ v b := by
  have hne : FP.Core.val64 v ≠ .nan := (FP.Core.notNaN_iff v).mp hn
  have hsg : FP.Core.sgn (FP.Core.val64 v) = false := by rw [FP.Core.sgn_bits hne]; exact decide_eq_false (by omega)
  have key : FP.dcmp v FP.dconst0 = some .gt ∧ ∃ k, k ≤ 1022 ∧ (0 : Int32) ≤ Op.cmpValue (FP.dcmp (dbl v k) FP.dconst1) CmpOp.g := by
    have e0 : FP.dcmp v FP.dconst0 = FP.Core.order (FP.Core.val64 v) (FP.Core.val64 FP.Core.dconst0) := rfl
    have e1 : FP.dcmp (dbl v 0) FP.dconst1 = FP.Core.order (FP.Core.val64 v) (FP.Core.val64 FP.Core.dconst1) := rfl
    cases hv : FP.Core.val64 v with
    | nan => exact absurd hv hne
    | inf s =>
      rw [hv] at hsg
      have hs' : s = false := hsg
      subst hs'
      refine ⟨by rw [e0, hv, FP.Core.val64_dconst0]; decide, 0, by decide, ?_⟩
      rw [e1, hv, FP.Core.val64_dconst1]
      decide
    | fin s c q =>
      have hsg' := hsg
      rw [hv] at hsg'
      have hs' : s = false := hsg'
      subst hs'
      have hfit := FP.Core.val64_fits v
      have hz := FP.Core.zmag_bits hne
      rw [hv] at hfit hz
      obtain ⟨f1, f2, f3, f4⟩ := hfit
      rw [Nat.mod_eq_of_lt hs] at hz
      have hz' : FP.Core.inUnits c q FP.Core.b64.qmin = FP.Core.unitsOf FP.Core.b64 v.toNat := hz
      have hge : FP.Core.unitsOf FP.Core.b64 (992 * FP.Core.b64.tails) ≤ FP.Core.unitsOf FP.Core.b64 v.toNat := FP.Core.unitsOf_le_iff.mpr (by rw [FP.Core.tails_b64]; exact hm)
      rw [FP.Core.unitsOf_start (by decide), ← hz', FP.Core.tails_b64, FP.Core.qmin_b64] at hge
      rw [FP.Core.qmin_b64, FP.Core.tails_b64] at f4
      rw [FP.Core.qmin_b64] at f2
      have f1' : c < 2 ^ 53 := f1
      have hge' : 2 ^ 52 * 2 ^ (992 - 1) ≤ c * 2 ^ (q - -1074).toNat := hge
      have hq : -83 ≤ q := by
        refine Int.not_lt.mp fun hq => ?_
        have l1 : c * 2 ^ (q - -1074).toNat < 2 ^ 53 * 2 ^ 990 :=
          Nat.lt_of_lt_of_le (Nat.mul_lt_mul_of_pos_right f1' (Nat.two_pow_pos _)) (Nat.mul_le_mul_left _ (Nat.pow_le_pow_right (by decide) (by omega)))
        rw [← Nat.pow_add] at l1 hge'
        exact absurd (Nat.lt_of_le_of_lt hge' l1) (Nat.not_lt_of_le (Nat.pow_le_pow_right (by decide) (by decide)))
      have hc : 2 ^ 52 ≤ c := by
        rcases f4 with f4 | f4
        · omega
        · exact f4
      refine ⟨?_, ?_⟩
      · rw [e0, hv, FP.Core.val64_dconst0]
        show some (compare (((FP.Core.inUnits c q (min q FP.Core.b64.qmin)) : Nat) : Int) ((FP.Core.inUnits 0 FP.Core.b64.qmin (min q FP.Core.b64.qmin) : Nat) : Int)) = some .gt
        have hp : 0 < FP.Core.inUnits c q (min q FP.Core.b64.qmin) := Nat.mul_pos (by omega) (Nat.two_pow_pos _)
        have hz0 : FP.Core.inUnits 0 FP.Core.b64.qmin (min q FP.Core.b64.qmin) = 0 := Nat.zero_mul _
        rw [hz0, Int.compare_eq_gt.mpr (by omega)]
      · by_cases hb : -52 ≤ q
        · exact ⟨0, by decide, fp_cmp1 (v := dbl v 0) hv hc hb⟩
        · refine ⟨(-52 - q).toNat, by omega, fp_cmp1 (fp_dbls hv hc f1' (by omega) _ (by omega)) hc (by omega)⟩
  obtain ⟨k0, k1022, k2, hk⟩ := key
  obtain ⟨n, n1, n2, n3⟩ := fp_least (P := fun k => (0 : Int32) ≤ Op.cmpValue (FP.dcmp (dbl v k) FP.dconst1) CmpOp.g) 1022 k1022 k2 hk
  have hd := fp_dbl hn
  have hsub : FP.Core.dIsNaN (FP.Core.dsub (dbl v n) FP.Core.dconst1) = false := FP.Core.dsub_out (hd n) fp_one
  have hK : bitK v n := ⟨n3, n2, fun k _ => fp_vf (FP.Core.dmul_out' (hd k) fp_two.1 fp_two.2), fp_vf hsub, fp_vf (FP.Core.dmul_out' hsub fp_big.1 fp_big.2)⟩
  refine ⟨bitv v n, Or.inr ⟨?_, n, hK, rfl⟩, Or.inr ⟨?_, n, n1, hK, ?_⟩⟩
  · rw [k0]; decide
  · rw [k0]; decide
  · unfold bitv bitw
    rw [fp_shift]
theorem fp_zero {v : UInt64} {s : Bool} {q : Int} (h : FP.Core.val64 v = .fin s 0 q) : ∃ b : Int64, bitP v b ∧ bitQ v b := by
  have e0 : FP.dcmp v FP.dconst0 = some .eq := by
    have e1 : FP.dcmp v FP.dconst0 = FP.Core.order (FP.Core.val64 v) (FP.Core.val64 FP.Core.dconst0) := rfl
    rw [e1, h, FP.Core.val64_dconst0]
    show some (compare (FP.Core.signed s (FP.Core.inUnits 0 q (min q FP.Core.b64.qmin))) (FP.Core.signed false (FP.Core.inUnits 0 FP.Core.b64.qmin (min q FP.Core.b64.qmin)))) = some .eq
    unfold FP.Core.inUnits
    rw [Nat.zero_mul, Nat.zero_mul, FP.Core.signed_zero, FP.Core.signed_zero]
    rfl
  refine ⟨0, Or.inl ⟨?_, rfl⟩, Or.inl ⟨?_, rfl⟩⟩
  · rw [e0]; decide
  · rw [e0]; decide
theorem fp_i2d {a : Nat} (h : a < 2147483648) : ∃ (s : Bool) (c : Nat) (q : Int), FP.Core.val64 (FP.i2d (nI a)) = .fin s c q ∧ FP.Core.b64.qmin ≤ q ∧ FP.Core.inUnits c q FP.Core.b64.qmin = a * 2 ^ 1074 ∧ (0 < a → s = false) ∧ (a = 0 → c = 0) := by
  have hw : FP.Core.DInt (nI a).toInt (FP.Core.i2d (nI a)) := FP.Core.i2d_int (nI a)
  rw [nI_toInt h] at hw
  obtain ⟨s, c, q, hv⟩ := FP.Core.i2d_fin (nI a)
  have hfit := FP.Core.val64_fits (FP.Core.i2d (nI a))
  rw [hv] at hfit
  have hw' : FP.Core.Whole (a : Int) (.fin s c q) := hv ▸ hw
  have hu := FP.Core.whole_units hw' hfit.2.1
  rw [FP.Core.qmin_b64] at hu
  refine ⟨s, c, q, hv, hfit.2.1, ?_, fun ha => ?_, fun ha => ?_⟩
  · have h2 := congrArg Int.natAbs hu
    rw [Int.natAbs_mul, Int.natAbs_mul, FP.Core.natAbs_signed] at h2
    rw [FP.Core.qmin_b64]
    have e1 : (-1074 : Int).toNat = 0 := by decide
    have e2 : (-(-1074 : Int)).toNat = 1074 := by decide
    rw [e1, e2, Int.natAbs_natCast, Int.natAbs_natCast, Int.natAbs_natCast, Nat.pow_zero, Nat.mul_one] at h2
    exact h2
  · have := FP.Core.whole_sign hw' (by omega)
    rw [this]
    exact decide_eq_false (by omega)
  · exact (FP.Core.whole_zero hw').mpr (by omega)
theorem fp_ok : fpOk := by
  intro n q hn hq
  have hnan : ¬ n = 0 → FP.Core.dIsNaN (FP.ddiv (FP.i2d (nI (n - q))) (FP.i2d (nI n))) = false := fun h0 => by
    refine FP.Core.ddiv_out (FP.Core.i2d_fin _).notNaN (FP.Core.i2d_fin _) fun hz => ?_
    rw [FP.Core.zero_bits2] at hz
    exact FP.Core.i2d_ne_zero (v := nI n) (fun e => h0 (by
      have := nI_toInt (n := n) hn
      rw [e] at this
      have e9 : (0 : Int32).toInt = 0 := rfl
      omega)) hz
  refine ⟨fun h0 => fp_vf (hnan h0), ?_⟩
  by_cases h0 : n = 0
  · have e : sh n q = FP.dconst1 := if_pos h0
    rw [e]
    exact fp_pos fp_one.notNaN (by decide) (by decide)
  · have e : sh n q = FP.ddiv (FP.i2d (nI (n - q))) (FP.i2d (nI n)) := if_neg h0
    obtain ⟨s, c, r, x1, x2, x3, x4, x5⟩ := fp_i2d (a := n - q) (by omega)
    obtain ⟨t, d, u, y1, y2, y3, y4, y5⟩ := fp_i2d (a := n) hn
    have hd0 : ¬ d = 0 := fun q9 => by
      rw [q9] at y3
      have : FP.Core.inUnits 0 u FP.Core.b64.qmin = 0 := Nat.zero_mul _
      rw [this] at y3
      have := Nat.mul_pos (Nat.pos_of_ne_zero h0) (Nat.two_pow_pos 1074)
      omega
    have hval : FP.Core.val64 (FP.ddiv (FP.i2d (nI (n - q))) (FP.i2d (nI n))) = FP.Core.roundRatio FP.Core.b64 (s != t) c d (r - u) := by
      show FP.Core.val64 (FP.Core.ddiv (FP.Core.i2d (nI (n - q))) (FP.Core.i2d (nI n))) = _
      rw [FP.Core.val64_ddiv]
      have x1' : FP.Core.val64 (FP.Core.i2d (nI (n - q))) = .fin s c r := x1
      have y1' : FP.Core.val64 (FP.Core.i2d (nI n)) = .fin t d u := y1
      rw [x1', y1']
      simp only [FP.Core.quotient, if_neg hd0]
    rw [e]
    by_cases ha : n - q = 0
    · have hc := x5 ha
      rw [hc] at hval
      have hz : FP.Core.roundRatio FP.Core.b64 (s != t) 0 d (r - u) = .fin (s != t) 0 FP.Core.b64.qmin := if_pos rfl
      exact fp_zero (hval.trans hz)
    · have hs : s = false := x4 (Nat.pos_of_ne_zero ha)
      have ht : t = false := y4 (Nat.pos_of_ne_zero h0)
      subst hs; subst ht
      have hne : FP.Core.val64 (FP.ddiv (FP.i2d (nI (n - q))) (FP.i2d (nI n))) ≠ .nan := by rw [hval]; exact FP.Core.roundRatio_ne_nan _ _ _ _ _
      have hsg : FP.Core.sgn (FP.Core.val64 (FP.ddiv (FP.i2d (nI (n - q))) (FP.i2d (nI n)))) = false := by rw [hval, FP.Core.sgn_roundRatio]; rfl
      rw [FP.Core.sgn_bits hne] at hsg
      have hlt : (FP.ddiv (FP.i2d (nI (n - q))) (FP.i2d (nI n))).toNat < 2 ^ 63 := Nat.lt_of_not_le (of_decide_eq_false hsg)
      refine fp_pos (hnan h0) hlt ?_
      have hqn := FP.Core.qmin_neg FP.Core.good_b64
      have hm := FP.Core.mag_ge FP.Core.good_b64 (m := 992 * FP.Core.b64.tails) (e0 := 2 * FP.Core.b64.qmin - u) hval (Nat.pos_of_ne_zero hd0) (by omega) (by omega) (by decide) ?_
      · rw [FP.Core.mag_toNat64, Nat.mod_eq_of_lt hlt, FP.Core.tails_b64] at hm
        exact hm
      · rw [FP.Core.unitsOf_start (by decide)]
        have e1 : FP.Core.inUnits c (r - u) (2 * FP.Core.b64.qmin - u) = FP.Core.inUnits c r FP.Core.b64.qmin * 2 ^ 1074 := by
          show c * _ = c * _ * _
          rw [Nat.mul_assoc, ← Nat.pow_add, FP.Core.qmin_b64]
          rw [FP.Core.qmin_b64] at x2
          congr 2; omega
        have e2 : 2 ^ (FP.Core.b64.qmin - (2 * FP.Core.b64.qmin - u)).toNat * d = FP.Core.inUnits d u FP.Core.b64.qmin := by
          show _ = d * _
          rw [Nat.mul_comm]; congr 2; omega
        rw [e1, Nat.mul_assoc, e2, x3, y3, FP.Core.tails_b64]
        have hpos : 1 ≤ n - q := Nat.pos_of_ne_zero ha
        calc 2 ^ 52 * 2 ^ (992 - 1) * (n * 2 ^ 1074) ≤ 2 ^ 52 * 2 ^ (992 - 1) * (2 ^ 31 * 2 ^ 1074) := Nat.mul_le_mul_left _ (Nat.mul_le_mul_right _ (by omega))
          _ = 1 * 2 ^ 1074 * 2 ^ 1074 := by
            rw [Nat.one_mul, ← Nat.pow_add, ← Nat.pow_add, ← Nat.pow_add, ← Nat.pow_add]
          _ ≤ (n - q) * 2 ^ 1074 * 2 ^ 1074 := Nat.mul_le_mul_right _ (Nat.mul_le_mul_right _ hpos)
end FPS
