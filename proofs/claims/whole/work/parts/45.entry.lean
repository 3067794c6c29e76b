/-! the law's entry -/
theorem zArr1 {args : Array Value} {s : State} {ty : FieldType} (h : (Cond.arrayClass ty).before args s = true) : ∃ (c : ClassId) (kA : Class) (comp : ClassId), s.vm.findClass ("[" ++ ty.toString) = some c ∧ s.vm.classes[c]? = some kA ∧ kA.kind = .array comp ty := Cond.arrayClass_spec h
theorem zTy_ex {args : Array Value} {s : State} (h : ∀ w ∈ zTs, w.before args s = true) : ∃ t : ClassId × ClassId × ClassId, ∀ (k : Nat) (q : ClassId × FieldType), (zTy t)[k]? = some q → ArrOfT s q.1 q.2 ∧ va_RA s q.1 q.2 := by
  obtain ⟨c1, k1, p1, a1, b1, d1⟩ := zArr1 (h _ q_ac_int)
  obtain ⟨c2, k2, p2, a2, b2, d2⟩ := zArr1 (h _ q_ac_boolean)
  obtain ⟨c3, k3, p3, a3, b3, d3⟩ := zArr1 (h _ q_ac_long)
  refine ⟨(c1, c2, c3), fun k q hq => ?_⟩
  rcases k with - | - | - | k
  · cases hq; exact ⟨fun n z => ⟨fun k h => (by cases h), k1, b1, p1, d1⟩, a1⟩
  · cases hq; exact ⟨fun n z => ⟨fun k h => (by cases h), k2, b2, p2, d2⟩, a2⟩
  · cases hq; exact ⟨fun n z => ⟨fun k h => (by cases h), k3, b3, p3, d3⟩, a3⟩
  · simp at hq
