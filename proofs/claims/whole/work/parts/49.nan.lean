/-! a line's mean is a number -/
theorem z_nan : ∀ c, c < 60 → ∀ s, s < 121 → vf_n32 (FP.fdiv (FP.i2f (nI s)) (FP.i2f (nI (c + 1)))) := by unfold vf_n32; decide +kernel

