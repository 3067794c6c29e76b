theorem zNp_of {args : Array Value} {s : State} (h : (Jvm.Cond.and given_1 narrow_1).before args s = true) : zNp s := by
  have hs := flat_of_before _ h
  intro q hq
  rcases List.mem_cons.mp hq with rfl | hq
  · exact va_Nc.of (hs _ (by decide +kernel))
  rcases List.mem_cons.mp hq with rfl | hq
  · exact va_Nc.of (hs _ (by decide +kernel))
  rw [List.mem_singleton.mp hq]
  exact va_Nc.of (hs _ (by decide +kernel))
theorem zZU_of {args : Array Value} {s : State} {A : Nat → Prop} (ht : ∀ w ∈ lw_tbl, w.before args s = true) (h : (Jvm.Cond.and given_1 narrow_1).before args s = true) (hA : ∀ a : Nat, a < s.heap.size → ¬ A a) : zZU A s s.heap := by
  have hs := flat_of_before _ h
  exact ⟨vx_Zqof (ht _ (by decide +kernel)) (zTs_of ht _ q_in_java_lang_Throwable) (hs _ (by decide +kernel)) hA, vx_Zqof (ht _ (by decide +kernel)) (zTs_of ht _ q_in_java_lang_Throwable) (hs _ (by decide +kernel)) hA⟩
