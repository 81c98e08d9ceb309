/-! the quotient of two small numbers is a number -/
theorem fq_all : ∀ b, b < 64 → ∀ a, a < 65 → vf_n32 (FP.fdiv (FP.i2f (nI a)) (FP.i2f (nI (b + 1)))) ∧ vf_n64 (FP.f2d (FP.fdiv (FP.i2f (nI a)) (FP.i2f (nI (b + 1))))) := by
  unfold vf_n32 vf_n64
  decide +kernel
