/-! A name of the library's rest, at the front: then all parts are read over the whole of it from the start. -/
theorem x_far : True := by
  have _h := @Jvm.Free.Multi.outerC
  trivial
