/-! what leads on, as the reference finds it -/
def LK (S : zS) (X Y Z G x y z s k : Nat) : Prop := stp S X Y Z G x y z s k ∧ Rc S X Y Z G (gx k x) (gy k y) (gz k z) (gs k s)
def LO (S : zS) (X Y Z G x y z s n : Nat) : Prop := (x = X ∧ y = Y ∧ z = Z ∧ s = G) ∨ ∃ k, k < n ∧ LK S X Y Z G x y z s k
def Lb (S : zS) (X Y Z G : Nat) (f : Nat → Int32) (p : Nat) : Prop := ∀ x y z s, x ≤ X → y ≤ Y → z ≤ Z → s < 256 → p ≤ ix Y Z x y z s → bz (f (ix Y Z x y z s)) (Rc S X Y Z G x y z s)
section
variable {S : zS} {X Y Z G x y z s k n p : Nat} {f : Nat → Int32}
theorem LO_s : LO S X Y Z G x y z s (n + 1) ↔ LO S X Y Z G x y z s n ∨ LK S X Y Z G x y z s n := by
  unfold LO
  constructor
  · rintro (h | ⟨k, h1, h2⟩)
    · exact Or.inl (Or.inl h)
    · rcases Nat.lt_succ_iff_lt_or_eq.mp h1 with q | rfl
      · exact Or.inl (Or.inr ⟨k, q, h2⟩)
      · exact Or.inr h2
  · rintro ((h | ⟨k, h1, h2⟩) | h)
    · exact Or.inl h
    · exact Or.inr ⟨k, by omega, h2⟩
    · exact Or.inr ⟨n, by omega, h⟩
theorem LO_0 : LO S X Y Z G x y z s 0 ↔ (x = X ∧ y = Y ∧ z = Z ∧ s = G) := ⟨fun h => h.elim id (fun ⟨k, h1, _⟩ => absurd h1 (Nat.not_lt_zero k)), Or.inl⟩
theorem LO_up {m : Nat} (h : LO S X Y Z G x y z s n) (hm : n ≤ m) : LO S X Y Z G x y z s m := h.imp id (fun ⟨k, h1, h2⟩ => ⟨k, by omega, h2⟩)
theorem LO_Rc : LO S X Y Z G x y z s 11 ↔ Rc S X Y Z G x y z s := Rc_step.symm
theorem LK_0 : LK S X Y Z G x y z s 0 ↔ x < X ∧ Rc S X Y Z G (x + 1) y z s := by
  constructor
  · rintro ⟨h1, h2⟩
    rcases h1 with ⟨-, h⟩ | ⟨h, -⟩ | ⟨h, -⟩ | ⟨h, -⟩
    · exact ⟨h, h2⟩
    all_goals omega
  · rintro ⟨h1, h2⟩
    exact ⟨Or.inl ⟨rfl, h1⟩, h2⟩
theorem LK_1 : LK S X Y Z G x y z s 1 ↔ y < Y ∧ Rc S X Y Z G x (y + 1) z s := by
  constructor
  · rintro ⟨h1, h2⟩
    rcases h1 with ⟨h, -⟩ | ⟨-, h⟩ | ⟨h, -⟩ | ⟨h, -⟩
    · omega
    · exact ⟨h, h2⟩
    all_goals omega
  · rintro ⟨h1, h2⟩
    exact ⟨Or.inr (Or.inl ⟨rfl, h1⟩), h2⟩
theorem LK_2 : LK S X Y Z G x y z s 2 ↔ z < Z ∧ Rc S X Y Z G x y (z + 1) s := by
  constructor
  · rintro ⟨h1, h2⟩
    rcases h1 with ⟨h, -⟩ | ⟨h, -⟩ | ⟨-, h⟩ | ⟨h, -⟩
    · omega
    · omega
    · exact ⟨h, h2⟩
    · omega
  · rintro ⟨h1, h2⟩
    exact ⟨Or.inr (Or.inr (Or.inl ⟨rfl, h1⟩)), h2⟩
theorem LK_g {j : Nat} (hj : j < 8) : LK S X Y Z G x y z s (3 + j) ↔ G.testBit j = true ∧ mt S x y z s j ∧ Rc S X Y Z G x y z (s ||| 2 ^ j) := by
  have e0 : 3 + j - 3 = j := by omega
  have e1 : gx (3 + j) x = x := by unfold gx; rw [if_neg (by omega)]
  have e2 : gy (3 + j) y = y := by unfold gy; rw [if_neg (by omega)]
  have e3 : gz (3 + j) z = z := by unfold gz; rw [if_neg (by omega)]
  have e4 : gs (3 + j) s = s ||| 2 ^ j := by unfold gs; rw [if_pos (by omega), e0]
  unfold LK
  rw [e1, e2, e3, e4]
  constructor
  · rintro ⟨h1, h2⟩
    rcases h1 with ⟨h, -⟩ | ⟨h, -⟩ | ⟨h, -⟩ | ⟨-, -, h3, h4⟩
    · omega
    · omega
    · omega
    · rw [e0] at h3 h4; exact ⟨h3, h4, h2⟩
  · rintro ⟨h1, h2, h3⟩
    exact ⟨Or.inr (Or.inr (Or.inr ⟨by omega, by omega, by rw [e0]; exact h1, by rw [e0]; exact h2⟩)), h3⟩
theorem ix_lt (hX : X + Y + Z ≤ 8) (hx : x ≤ X) (hy : y ≤ Y) (hz : z ≤ Z) (hs : s < 256) : ix Y Z x y z s < 12288 := by
  have := stg_lt hX hx hy hz
  unfold ix; omega
theorem ix_x (hy : y ≤ Y) (hz : z ≤ Z) (hs : s < 256) : ix Y Z x y z s + 1 ≤ ix Y Z (x + 1) y z s := by
  have h1 := stg_x (X := 0) (Y := Y) (Z := Z) (x := x) hy hz
  have h2 := stg_mono (Y := Y) (Z := Z) (Nat.le_refl (x + 1)) (Nat.zero_le y) (Nat.zero_le z)
  unfold ix; omega
theorem ix_y (hz : z ≤ Z) (hs : s < 256) : ix Y Z x y z s + 1 ≤ ix Y Z x (y + 1) z s := by
  have h1 := stg_y (Y := Y) (Z := Z) (x := x) (y := y) hz
  have h2 := stg_mono (Y := Y) (Z := Z) (Nat.le_refl x) (Nat.le_refl (y + 1)) (Nat.zero_le z)
  unfold ix; omega
theorem ix_z : ix Y Z x y z s + 1 ≤ ix Y Z x y (z + 1) s := by unfold ix; rw [stg_z]; omega
theorem ix_g {j : Nat} (h : s.testBit j = false) : ix Y Z x y z s + 1 ≤ ix Y Z x y z (s ||| 2 ^ j) := by
  have := or_gt h
  unfold ix; omega
theorem Lb_0 (h : stg Y Z (X + 1) 0 0 * 256 ≤ p) : Lb S X Y Z G f p := by
  intro x y z s hx hy hz hs hp
  have h1 := stg_x (X := X) (x := x) hy hz
  have h2 := stg_mono (Y := Y) (Z := Z) (show x + 1 ≤ X + 1 by omega) (Nat.le_refl 0) (Nat.le_refl 0)
  unfold ix at hp
  omega
theorem Lb_set {v : Int32} (hL : Lb S X Y Z G f (ix Y Z x y z (s + 1))) (hy : y ≤ Y) (hz : z ≤ Z) (hs : s < 256) (hv : bz v (Rc S X Y Z G x y z s)) : Lb S X Y Z G (upd f (ix Y Z x y z s) v) (ix Y Z x y z s) := by
  rw [ixs] at hL
  intro x' y' z' s' hx' hy' hz' hs' hp
  unfold upd
  by_cases e : ix Y Z x' y' z' s' = ix Y Z x y z s
  · obtain ⟨rfl, rfl, rfl, rfl⟩ := ix_inj hy' hz' hy hz hs' hs e
    rw [if_pos rfl]; exact hv
  · rw [if_neg e]
    exact hL x' y' z' s' hx' hy' hz' hs' (by omega)
end
