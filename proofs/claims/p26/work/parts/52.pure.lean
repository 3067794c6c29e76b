/-! what the law's checks rest on -/
/-- the cost of the first k scores -/
def csN (sc : Nat → Nat) : Nat → Nat
  | 0 => 0
  | k + 1 => csN sc k + cst (sc k)
theorem cs4_N (sc : Nat → Nat) : cs4 sc = csN sc 4 := by simp [cs4, csN]
section
variable {S S' : zS} {f f' : Nat → Int32} {s s' x y z G : Nat}
/-- only gifts of the set work -/
theorem wkN_sub : ∀ n, sub8 (wkN S f s n) s
  | 0 => fun i h => by
    have h' : (0 : Nat).testBit i = true := h
    rw [Nat.zero_testBit] at h'; cases h'
  | n + 1 => fun i h => by
    have h' : (wks S f s (wkN S f s n) (n % 8)).testBit i = true := h
    unfold wks at h'
    by_cases c : s.testBit (n % 8) = true ∧ pS S (n % 8) ∧ pL S f (n % 8) ∧ pO S (wkN S f s n) (n % 8)
    · rw [zif_t c, or_bit] at h'
      rcases (by simpa using h' : (wkN S f s n).testBit i = true ∨ n % 8 = i) with q | q
      · exact wkN_sub n i q
      · rw [← q]; exact c.1
    · rw [zif_f c] at h'; exact wkN_sub n i h'
theorem wk_dif0 : dif (wk S f s) s = 0 := (dif_0 (wkN_lt 64)).mpr (wkN_sub 64)
/-- what works goes with what works under harder rules -/
theorem wkN_mono (h0 : sub8 s s') (h1 : ∀ j, j < 8 → pS S j → pS S' j) (h2 : ∀ j, j < 8 → pL S f j → pL S' f' j) (h3 : ∀ j, j < 8 → S 4 j = S' 4 j) : ∀ n, sub8 (wkN S f s n) (wkN S' f' s' n)
  | 0 => fun i h => h
  | n + 1 => fun i h => by
    have ih := wkN_mono h0 h1 h2 h3 n
    have hj : n % 8 < 8 := Nat.mod_lt _ (by decide)
    have h' : (wks S f s (wkN S f s n) (n % 8)).testBit i = true := h
    show (wks S' f' s' (wkN S' f' s' n) (n % 8)).testBit i = true
    unfold wks at h' ⊢
    have up : (wkN S' f' s' n).testBit i = true → (zif (s'.testBit (n % 8) = true ∧ pS S' (n % 8) ∧ pL S' f' (n % 8) ∧ pO S' (wkN S' f' s' n) (n % 8)) (wkN S' f' s' n ||| 2 ^ (n % 8)) (wkN S' f' s' n)).testBit i = true := fun q => by
      by_cases c : s'.testBit (n % 8) = true ∧ pS S' (n % 8) ∧ pL S' f' (n % 8) ∧ pO S' (wkN S' f' s' n) (n % 8)
      · rw [zif_t c, or_bit, q]; rfl
      · rw [zif_f c]; exact q
    by_cases c : s.testBit (n % 8) = true ∧ pS S (n % 8) ∧ pL S f (n % 8) ∧ pO S (wkN S f s n) (n % 8)
    · rw [zif_t c, or_bit] at h'
      rcases (by simpa using h' : (wkN S f s n).testBit i = true ∨ n % 8 = i) with q | q
      · exact up (ih i q)
      · have hO : pO S' (wkN S' f' s' n) (n % 8) := by
          rcases c.2.2.2 with o | o
          · exact Or.inl ((h3 _ hj).symm.trans o)
          · refine Or.inr ?_
            rw [← h3 _ hj]
            exact ih _ o
        rw [zif_t ⟨h0 _ c.1, h1 _ hj c.2.1, h2 _ hj c.2.2.1, hO⟩, or_bit, q]
        simp
    · rw [zif_f c] at h'; exact up (ih i h')
theorem sub8_rf : sub8 s s := fun _ h => h
theorem l3_mono {x' y' z' c : Nat} (hx : x ≤ x') (hy : y ≤ y') (hz : z ≤ z') (hb : x' + y' + z' ≤ 8) : l3 x y z c ≤ l3 x' y' z' c := by
  unfold l3
  split
  · exact (nI_leI (by omega) (by omega)).mpr hx
  · split
    · exact (nI_leI (by omega) (by omega)).mpr hy
    · exact (nI_leI (by omega) (by omega)).mpr hz
/-- a level more takes no working gift away -/
theorem wk_lev {x' y' z' : Nat} (hR : Ru S' S) (hx : x ≤ x') (hy : y ≤ y') (hz : z ≤ z') (hb : x' + y' + z' ≤ 8) : dif (wk S (l3 x y z) G) (wk S' (l3 x' y' z') G) = 0 := by
  refine (dif_0 (wkN_lt 64)).mpr (wkN_mono sub8_rf (fun j _ h => ?_) (fun j _ h => ?_) (fun j _ => (hR 4 (by omega)).symm ▸ rfl) 64)
  · unfold pS at h ⊢; rw [hR 0 (by omega), hR 1 (by omega), hR 14 (by omega)]; exact h
  · unfold pL at h ⊢
    rw [hR 2 (by omega), hR 3 (by omega)]
    exact h.imp id (fun q => Int32.le_trans q (l3_mono hx hy hz hb))
/-- a score that isn't lower takes no working gift away -/
theorem wk_sc {k j i : Nat} (hk : S 14 k = nI i) (hi : i ≤ j) (hj : j ≤ 16) : dif (wk S f G) (wk (va_up S 14 (upd (S 14) k (nI j))) f G) = 0 := by
  refine (dif_0 (wkN_lt 64)).mpr (wkN_mono (S := S) (S' := va_up S 14 (upd (S 14) k (nI j))) (f := f) (f' := f) sub8_rf (fun j9 _ h => ?_) (fun j9 _ h => h) (fun j9 _ => rfl) 64)
  rcases h with h | h
  · exact Or.inl h
  · refine Or.inr (Int32.le_trans h ?_)
    show S 14 (S 0 j9).toNatClampNeg ≤ upd (S 14) k (nI j) (S 0 j9).toNatClampNeg
    unfold upd
    by_cases e : (S 0 j9).toNatClampNeg = k
    · rw [if_pos e, e, hk]; exact (nI_leI (by omega) (by omega)).mpr hi
    · rw [if_neg e]; exact Int32.le_refl _
/-! the gifts that may be taken -/
theorem opN_bit : ∀ n i, (opN S x y z G n).testBit i = true ↔ i < n ∧ mt S x y z G i
  | 0, i => by
    show (0 : Nat).testBit i = true ↔ _
    rw [Nat.zero_testBit]; simp
  | n + 1, i => by
    show (zif (mt S x y z G n) (opN S x y z G n ||| 2 ^ n) (opN S x y z G n)).testBit i = true ↔ _
    have ih := opN_bit n i
    by_cases c : mt S x y z G n
    · rw [zif_t c, or_bit]
      constructor
      · intro h
        rcases (by simpa using h : (opN S x y z G n).testBit i = true ∨ n = i) with q | q
        · exact ⟨Nat.lt_succ_of_lt (ih.mp q).1, (ih.mp q).2⟩
        · subst q; exact ⟨Nat.lt_succ_self n, c⟩
      · rintro ⟨h1, h2⟩
        rcases Nat.lt_succ_iff_lt_or_eq.mp h1 with q | q
        · rw [ih.mpr ⟨q, h2⟩]; rfl
        · rw [q]; simp
    · rw [zif_f c, ih]
      constructor
      · rintro ⟨h1, h2⟩; exact ⟨Nat.lt_succ_of_lt h1, h2⟩
      · rintro ⟨h1, h2⟩
        rcases Nat.lt_succ_iff_lt_or_eq.mp h1 with q | q
        · exact ⟨q, h2⟩
        · subst q; exact absurd h2 c
theorem opN_and : opN S x y z G 8 &&& G = 0 := by
  apply Nat.eq_of_testBit_eq
  intro i
  rw [Nat.testBit_and, Nat.zero_testBit]
  cases h : (opN S x y z G 8).testBit i with
  | false => rfl
  | true => rw [((opN_bit 8 i).mp h).2.1]; rfl
theorem opN_room (h : ¬ opN S x y z G 8 = 0) : p8 G < 1 + (x + y + z) / 2 := by
  have : ∃ i, (opN S x y z G 8).testBit i = true := by
    apply Classical.byContradiction
    intro c
    refine h (Nat.eq_of_testBit_eq (fun i => ?_))
    rw [Nat.zero_testBit]
    cases q : (opN S x y z G 8).testBit i with
    | false => rfl
    | true => exact absurd ⟨i, q⟩ c
  obtain ⟨i, hi⟩ := this
  exact ((opN_bit 8 i).mp hi).2.2.1
theorem op_bit {j : Nat} (hj : j < 8) : opN S x y z G 8 / 2 ^ j % 2 = 1 ↔ mt S x y z G j := by
  rw [zt_bit, opN_bit]
  exact ⟨fun h => h.2, fun h => ⟨hj, h⟩⟩
end
/-! the attack, in eighths -/
theorem atk_x {x y z : Nat} (h : 0 < x) : (0 + x * 4 + y * 5 + z * 7) / 8 = atk x y z := by
  unfold atk; rw [if_pos h]; congr 1; omega
theorem atk_y {y z : Nat} (h : 0 < y) : (0 + 0 * 4 + y * 6 + z * 7) / 8 = atk 0 y z := by
  unfold atk; rw [if_neg (by decide), if_pos h]; congr 1; omega
theorem atk_z {z : Nat} : (0 + 0 * 4 + 0 * 6 + z * 8) / 8 = atk 0 0 z := by
  unfold atk; rw [if_neg (by decide), if_neg (by decide)]; congr 1; omega
theorem atk_lt {x y z : Nat} (h : x + y + z ≤ 8) : atk x y z < 2 ^ 31 := by
  unfold atk
  refine Nat.lt_of_le_of_lt (Nat.div_le_self _ _) ?_
  split
  · omega
  · split <;> omega
/-- the law's own copy of scores and level -/
def LC (sc : Nat → Nat) (m : Nat) (fC : Nat → Int32) : Prop := (∀ k, k < 4 → fC k = nI (sc k)) ∧ fC 4 = nI m
