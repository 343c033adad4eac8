/-- the whole library from the first part on -/
theorem wd_first : True := by
  have _h := @Jvm.Free.Multi.outerC
  trivial
