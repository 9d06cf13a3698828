/-! ===== floats of whole numbers (the library's float laws: this part comes first, so that a round finds at once that it must be read over the whole library) ===== -/
theorem fl_i2f (x : Int32) : FP.i2f x = FP.l2f x.toInt64 := FP.Core.i2f_l2f x
theorem fl_div {a b : Int64} (hne : b ≠ 0) : vf_n32 (FP.fdiv (FP.l2f a) (FP.l2f b)) := by
  have hz : ¬ FP.Core.FZero (FP.Core.l2f b) := by
    intro h
    have h2 := FP.Core.l2f_ne_zero hne
    rw [FP.Core.zero_bits232] at h
    exact h2 h
  have h : FP.Core.fIsNaN (FP.fdiv (FP.l2f a) (FP.l2f b)) = false := FP.Core.fdiv_out (a := FP.Core.l2f a) (FP.Core.l2f_fin a).notNaN (FP.Core.l2f_fin b) hz
  have h2 : ¬ (2139095040 < (FP.fdiv (FP.l2f a) (FP.l2f b)).toNat % 2 ^ 31) := fun hq => by
    rw [(FP.Core.isNaN_bits32 _).mpr hq] at h
    cases h
  unfold vf_n32
  rw [UInt32.le_iff_toNat_le, FP.Core.mask_toNat32]
  exact Nat.not_lt.mp h2
