/-! A quotient of two whole numbers, the second not 0, is no NaN. (Lemmas of the library's rest: the rounds go over the whole of it.) -/
theorem fl_n32 {r : UInt32} (h : FP.Core.fIsNaN r = false) : r &&& 0x7fffffff ≤ 0x7f800000 := by
  have h2 : ¬ FP.Core.fIsNaN r = true := by rw [h]; decide
  rw [FP.Core.isNaN_bits32] at h2
  have e1 : (0x7fffffff : UInt32).toNat = 2 ^ 31 - 1 := by decide
  have e2 : (0x7f800000 : UInt32).toNat = 2139095040 := by decide
  rw [UInt32.le_iff_toNat_le, UInt32.toNat_and, e1, e2, Nat.and_two_pow_sub_one_eq_mod]
  omega
theorem fl_n64 {r : UInt64} (h : FP.Core.dIsNaN r = false) : r &&& 0x7fffffffffffffff ≤ 0x7ff0000000000000 := by
  have h2 : ¬ FP.Core.dIsNaN r = true := by rw [h]; decide
  rw [FP.Core.isNaN_bits] at h2
  have e1 : (0x7fffffffffffffff : UInt64).toNat = 2 ^ 63 - 1 := by decide
  have e2 : (0x7ff0000000000000 : UInt64).toNat = 9218868437227405312 := by decide
  rw [UInt64.le_iff_toNat_le, UInt64.toNat_and, e1, e2, Nat.and_two_pow_sub_one_eq_mod]
  omega
theorem fl_fdiv {a b : Int32} (hb : ¬ b = 0) : FP.Core.fIsNaN (FP.fdiv (FP.i2f a) (FP.i2f b)) = false := FP.Core.fdiv_out (FP.Core.FFin.notNaN (FP.Core.i2f_fin a)) (FP.Core.i2f_fin b) (fun h => FP.Core.i2f_ne_zero hb ((FP.Core.zero_bits232 _).mp h))
theorem fl_ddiv {a b : Int32} (hb : ¬ b = 0) : FP.Core.dIsNaN (FP.ddiv (FP.i2d a) (FP.i2d b)) = false := FP.Core.ddiv_out (FP.Core.DFin.notNaN (FP.Core.i2d_fin a)) (FP.Core.i2d_fin b) (fun h => FP.Core.i2d_ne_zero hb ((FP.Core.zero_bits2 _).mp h))
theorem fl_f2d {x : UInt32} (h : FP.Core.fIsNaN x = false) : FP.Core.dIsNaN (FP.f2d x) = false := (FP.f2d_nan x).trans h
theorem fl_cmp {x : UInt64} (h : FP.Core.dIsNaN x = false) : FP.dcmp x x = some .eq := FP.Core.dcmp_refl h
