/-! the law's entry -/
theorem zArr1 {args : Array Value} {s : State} {ty : FieldType} (h : (Cond.arrayClass ty).before args s = true) : ∃ (c : ClassId) (kA : Class) (comp : ClassId), s.vm.findClass ("[" ++ ty.toString) = some c ∧ s.vm.classes[c]? = some kA ∧ kA.kind = .array comp ty := Cond.arrayClass_spec h
theorem zTy_ex {args : Array Value} {s : State} (h : ∀ w ∈ zTs, w.before args s = true) : ∃ t : ClassId × ClassId × ClassId, ∀ (k : Nat) (q : ClassId × FieldType), (zTy t)[k]? = some q → ArrOfT s q.1 q.2 ∧ va_RA s q.1 q.2 := by
  obtain ⟨c1, k1, p1, a1, b1, d1⟩ := zArr1 (h _ q_ac_int)
  refine ⟨(c1, c1, c1), fun k q hq => ?_⟩
  rcases k with - | k
  · cases hq; exact ⟨fun n z => ⟨fun k h => (by cases h), k1, b1, p1, d1⟩, a1⟩
  · simp at hq
theorem zK_ex {args : Array Value} {s : State} (h : ∀ w ∈ zTs, w.before args s = true) : ∃ (D : va_G) (t : ClassId × ClassId × ClassId), va_K D vwCl (zTy t) s := by
  obtain ⟨t, ht⟩ := zTy_ex h
  obtain ⟨c0, i0, k0⟩ := u_known (C := RX0) (T := TX0) (N := 2) (n := 2) h inZ0 (h _ q_is_X0)
  obtain ⟨c1, i1, k1⟩ := u_known (C := RX1) (T := TX1) (N := 10) (n := 10) h inZ1 (h _ q_is_X1)
  obtain ⟨c2, i2, k2⟩ := u_known (C := RX2) (T := TX2) (N := 4) (n := 4) h inZ2 (h _ q_is_X2)
  obtain ⟨c3, i3, k3⟩ := u_known (C := RX3) (T := TX3) (N := 8) (n := 8) h inZ3 (h _ q_is_X3)
  refine ⟨(fun k => [c0, c1, c2, c3].getD k 0, fun k => [i0, i1, i2, i3].getD k i0), t, fun k q hq => ?_, ht⟩
  rcases k with - | - | - | - | k
  · cases hq; exact k0
  · cases hq; exact k1
  · cases hq; exact k2
  · cases hq; exact k3
  · simp [vwCl] at hq
theorem zFx_of {args : Array Value} {s : State} (h : ∀ w ∈ lw_tbl, w.before args s = true) : zFx s := by
  intro w hw
  obtain ⟨h1, h2⟩ := List.mem_filter.mp hw
  simp only [Bool.and_eq_true] at h2
  exact va_tabs (u := s) (U := s) h2.1 rfl (h w h1)
theorem zTs_of {args : Array Value} {s : State} (h : ∀ w ∈ lw_tbl, w.before args s = true) : ∀ w ∈ zTs, w.before args s = true := fun w hw => h w (List.mem_filter.mp hw).1
theorem zNst_of {args : Array Value} {s : State} {w : Cond} (h : ∀ w ∈ lw_tbl, w.before args s = true) (hw : w ∈ lw_tbl) (ht : w.onTables = true) : va_Nw w s := va_tabs (u := s) (U := s) ht rfl (h w hw)
set_option maxRecDepth 100000 in
theorem zNest_in : zNest ∈ lw_tbl := by decide +kernel
set_option maxRecDepth 100000 in
theorem zNest2_in : zNest2 ∈ lw_tbl := by decide +kernel
