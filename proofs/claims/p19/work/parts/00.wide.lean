/-! laws that only the whole library has -/
theorem wide_see : True := by
  have _h := @Stand.thenCaughtThrough
  have _k := @Stand.ldcStringW
  trivial
