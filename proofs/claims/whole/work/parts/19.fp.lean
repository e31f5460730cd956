/-! FLOATS: no answer here is a NaN -/
theorem n64_of {r : UInt64} (h : FP.Core.dIsNaN r = false) : vf_n64 r := by
  have h1 : ¬ 9218868437227405312 < r.toNat % 2 ^ 63 := fun q => by
    have := (FP.Core.isNaN_bits r).mpr q
    rw [h] at this
    cases this
  unfold vf_n64
  rw [UInt64.le_iff_toNat_le, UInt64.toNat_and, show (0x7fffffffffffffff : UInt64).toNat = 2 ^ 63 - 1 from rfl, Nat.and_two_pow_sub_one_eq_mod]
  exact Nat.le_of_not_lt h1
theorem n32_of {r : UInt32} (h : FP.Core.fIsNaN r = false) : vf_n32 r := by
  have h1 : ¬ 2139095040 < r.toNat % 2 ^ 31 := fun q => by
    have := (FP.Core.isNaN_bits32 r).mpr q
    rw [h] at this
    cases this
  unfold vf_n32
  rw [UInt32.le_iff_toNat_le, UInt32.toNat_and, show (0x7fffffff : UInt32).toNat = 2 ^ 31 - 1 from rfl, Nat.and_two_pow_sub_one_eq_mod]
  exact Nat.le_of_not_lt h1
theorem ddiv_ok (s : Int64) {n : Nat} (h0 : 0 < n) (hn : n < 2147483648) : FP.Core.dIsNaN (FP.ddiv (FP.l2d s) (FP.i2d (nI n))) = false := FP.Core.ddiv_out (FP.Core.l2d_fin s).notNaN (FP.Core.i2d_fin _) (fun z => FP.Core.i2d_ne_zero (nI_ne0 h0 hn) ((FP.Core.zero_bits2 _).mp z))
theorem fdiv_ok (s : Int32) {n : Nat} (h0 : 0 < n) (hn : n < 2147483648) : FP.Core.fIsNaN (FP.fdiv (FP.i2f s) (FP.i2f (nI n))) = false := FP.Core.fdiv_out (FP.Core.i2f_fin s).notNaN (FP.Core.i2f_fin _) (fun z => FP.Core.i2f_ne_zero (nI_ne0 h0 hn) ((FP.Core.zero_bits232 _).mp z))
theorem f2d_ok {a : UInt32} (h : FP.Core.fIsNaN a = false) : FP.Core.dIsNaN (FP.f2d a) = false := by
  unfold FP.f2d
  rw [if_neg (by rw [h]; decide)]
  exact FP.Core.f2d_out h
