/-! THE WHOLE LIBRARY is wanted (048.vx names a row of its rest): said here first, so that all parts are built over it at once -/
theorem zl_lib : True := by
  have _h := @Jvm.Stand.thenCaughtThrough
  trivial
