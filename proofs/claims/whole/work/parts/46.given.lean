theorem zNp_of {args : Array Value} {s : State} (h : (Jvm.Cond.and given_1 narrow_1).before args s = true) : zNp s := by
  have hs := flat_of_before _ h
  intro q hq
  rcases List.mem_cons.mp hq with rfl | hq
  · exact va_Nc.of (hs _ (by decide +kernel))
  rcases List.mem_cons.mp hq with rfl | hq
  · exact va_Nc.of (hs _ (by decide +kernel))
  rw [List.mem_singleton.mp hq]
  exact va_Nc.of (hs _ (by decide +kernel))
