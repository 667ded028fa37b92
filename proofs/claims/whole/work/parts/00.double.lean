/-! an int quotient as a double is no NaN (the library's FloatLaws2 and FloatLaws3, called) -/
theorem dd_num {a b : Int32} (h : ¬ b = 0) : vf_n64 (FP.ddiv (FP.i2d a) (FP.i2d b)) := by
  have h1 : FP.Core.dIsNaN (FP.Core.ddiv (FP.Core.i2d a) (FP.Core.i2d b)) = false :=
    FP.Core.ddiv_out (FP.Core.DFin.notNaN (FP.Core.i2d_fin a)) (FP.Core.i2d_fin b) (fun q => FP.Core.i2d_ne_zero h ((FP.Core.zero_bits2 _).mp q))
  have h2 : ¬ 9218868437227405312 < (FP.Core.ddiv (FP.Core.i2d a) (FP.Core.i2d b)).toNat % 2 ^ 63 := by
    rw [← FP.Core.isNaN_bits, h1]; exact Bool.false_ne_true
  show (FP.Core.ddiv (FP.Core.i2d a) (FP.Core.i2d b)) &&& 0x7fffffffffffffff ≤ 0x7ff0000000000000
  rw [UInt64.le_iff_toNat_le, FP.Core.mask_toNat]
  have h3 : (0x7ff0000000000000 : UInt64).toNat = 9218868437227405312 := by decide
  omega
