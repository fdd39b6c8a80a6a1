/-- names a law of the whole library at once, so that a round on a new machine is read over the whole of it from its first part on -/
theorem aa_wide : True := by
  have _h := @Bundle.chainSX
  exact trivial
