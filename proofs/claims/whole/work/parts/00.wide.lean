/-- the rows of exceptions (part 77 and on) stand in the rest of the library: this claim is read over the whole of it -/
theorem gs_wide : True := by
  have _ := @Jvm.Stand.thenCaughtThrough
  trivial
