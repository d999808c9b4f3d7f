/-! names of the library's rest, so that rounds are read over the whole of it -/
theorem vx_wide : True := (fun _ => trivial) @Jvm.Stand.thenCaughtThrough
