/-! ===== the bits of a share, as the cylinder reckons them ===== -/
def bitw (v : UInt64) (n : Nat) : Int64 := pw n <<< ((nI 52).toInt64 &&& 63) + FP.d2l (FP.dmul (FP.dsub (dbl v n) FP.dconst1) 4841369599423283200)
def bitQ (v : UInt64) (b : Int64) : Prop := (¬ 0 < Op.cmpValue (FP.dcmp v FP.dconst0) CmpOp.g ∧ b = 0) ∨ (0 < Op.cmpValue (FP.dcmp v FP.dconst0) CmpOp.g ∧ ∃ n, n ≤ 1022 ∧ bitK v n ∧ b = bitw v n)
