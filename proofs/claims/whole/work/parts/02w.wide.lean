/-- (for the rounds alone: it makes them read the whole library, so that a mistyped name does not; to be taken out before the hand-in) -/
theorem zz_wide : True := by
  have := @Jvm.Bundle.chainSX
  trivial
