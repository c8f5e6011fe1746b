/-! the rows of exceptions (part 2890) rest on this one: it stands first, so that a round is read over the whole library from its start -/
theorem aw_wide : True := by
  have h := @Jvm.Stand.thenCaughtThrough
  trivial
