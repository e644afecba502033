/-! the library's word for 'not a NaN', named here so that the rounds take the whole library from the first part on -/
theorem fl_nan (a : UInt64) : FP.Core.val64 a ≠ .nan ↔ a.toNat % 2 ^ 63 ≤ 9218868437227405312 := FP.Core.ne_nan a
