theorem zStr1 {args : Array Value} {s : State} {k : Nat} {tx : String} (h : (Cond.stringRef RX3 k tx).before args s = true) : ∃ a, vk_R RX3 k tx a s := by
  have h0 : (Cond.stringRef RX3 k tx).before #[] s = true := by
    simp only [Cond.before, Cond.holds, Cond.value] at h ⊢
    exact h
  have h1 := h0
  simp only [Cond.before, Cond.holds, Cond.value] at h1
  cases hc : s.vm.findClass RX3 with
  | none => simp [hc] at h1
  | some cur =>
    obtain ⟨k9, cf, i9, a, -, -, -, -, -, ha⟩ := Cond.stringRef_spec hc h0
    exact ⟨a, vk_R.of h0 ha⟩
set_option maxRecDepth 100000 in
theorem zStrs_in : ∀ q ∈ zStrs, Cond.stringRef RX3 q.1 q.2 ∈ lw_tbl := by decide +kernel
theorem zSt_of {args : Array Value} {s : State} (ht : ∀ w ∈ lw_tbl, w.before args s = true) : zSt s := fun q hq => zStr1 (ht _ (zStrs_in q hq))
