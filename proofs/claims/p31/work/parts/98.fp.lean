/-! ===== the doubles ===== -/
section FPS
theorem fp_vf {r : UInt64} (h : FP.Core.dIsNaN r = false) : vf_n64 r := by
  have h1 : ¬ (9218868437227405312 < r.toNat % 2 ^ 63) := fun q => by rw [(FP.Core.isNaN_bits r).mpr q] at h; cases h
  unfold vf_n64
  rw [UInt64.le_iff_toNat_le, UInt64.toNat_and]
  have e : (0x7fffffffffffffff : UInt64).toNat = 2 ^ 63 - 1 := by decide
  have e2 : (0x7ff0000000000000 : UInt64).toNat = 9218868437227405312 := by decide
  rw [e, e2, Nat.and_two_pow_sub_one_eq_mod]
  omega
theorem fp_one : FP.Core.DFin (FP.dconst1) := ⟨_, _, _, FP.Core.val64_dconst1⟩
theorem fp_eq {v : UInt64} (h : FP.Core.dIsNaN v = false) : Op.cmpValue (FP.dcmp v v) CmpOp.l = 0 := by
  have e : FP.dcmp v v = some .eq := FP.Core.dcmp_self ((FP.Core.notNaN_iff v).mp h)
  rw [e]; decide
theorem fp_ok2 : fpOk2 := by
  intro n q hn hq
  have h1 : FP.Core.dIsNaN (FP.i2d (nI (n - q))) = false := (FP.Core.i2d_fin _).notNaN
  have e1 : FP.dmul (FP.i2d (nI (n - q))) FP.dconst1 = FP.i2d (nI (n - q)) := FP.Core.dmul_one ((FP.Core.notNaN_iff _).mp h1)
  have hnan : ¬ n = 0 → FP.Core.dIsNaN (FP.ddiv (FP.i2d (nI (n - q))) (FP.i2d (nI n))) = false := fun h0 => by
    refine FP.Core.ddiv_out (FP.Core.i2d_fin _).notNaN (FP.Core.i2d_fin _) fun hz => ?_
    rw [FP.Core.zero_bits2] at hz
    exact FP.Core.i2d_ne_zero (v := nI n) (fun e => h0 (by
      have := nI_toInt (n := n) hn
      rw [e] at this
      have e9 : (0 : Int32).toInt = 0 := rfl
      omega)) hz
  refine ⟨by rw [e1]; exact fp_vf h1, e1, fun h0 => fp_vf (hnan h0), ?_⟩
  by_cases h0 : n = 0
  · have e : sh n q = FP.dconst1 := if_pos h0
    rw [e]
    exact fp_eq fp_one.notNaN
  · have e : sh n q = FP.ddiv (FP.i2d (nI (n - q))) (FP.i2d (nI n)) := if_neg h0
    rw [e]
    exact fp_eq (hnan h0)
end FPS
