/-! steps, and what can be reached -/
def gx (k x : Nat) : Nat := if k = 0 then x + 1 else x
def gy (k y : Nat) : Nat := if k = 1 then y + 1 else y
def gz (k z : Nat) : Nat := if k = 2 then z + 1 else z
def gs (k s : Nat) : Nat := if 3 ≤ k then s ||| 2 ^ (k - 3) else s
/-- step k may be taken towards levels X Y Z and gifts G -/
def stp (S : zS) (X Y Z G x y z s k : Nat) : Prop := (k = 0 ∧ x < X) ∨ (k = 1 ∧ y < Y) ∨ (k = 2 ∧ z < Z) ∨ (3 ≤ k ∧ k < 11 ∧ G.testBit (k - 3) = true ∧ mt S x y z s (k - 3))
/-- the goal is reached by just n steps -/
def ldn (S : zS) (X Y Z G : Nat) : Nat → Nat → Nat → Nat → Nat → Prop
  | 0, x, y, z, s => x = X ∧ y = Y ∧ z = Z ∧ s = G
  | n + 1, x, y, z, s => ∃ k, k < 11 ∧ stp S X Y Z G x y z s k ∧ ldn S X Y Z G n (gx k x) (gy k y) (gz k z) (gs k s)
def Rc (S : zS) (X Y Z G x y z s : Nat) : Prop := ∃ n, ldn S X Y Z G n x y z s
/-- n steps can be taken -/
def orn (S : zS) (X Y Z G : Nat) : Nat → Nat → Nat → Nat → Nat → Prop
  | 0, _, _, _, _ => True
  | n + 1, x, y, z, s => ∃ k, k < 11 ∧ stp S X Y Z G x y z s k ∧ orn S X Y Z G n (gx k x) (gy k y) (gz k z) (gs k s)
section
variable {S : zS} {X Y Z G x y z s k n : Nat}
theorem Rc_step : Rc S X Y Z G x y z s ↔ (x = X ∧ y = Y ∧ z = Z ∧ s = G) ∨ ∃ k, k < 11 ∧ stp S X Y Z G x y z s k ∧ Rc S X Y Z G (gx k x) (gy k y) (gz k z) (gs k s) := by
  constructor
  · rintro ⟨n, h⟩
    cases n with
    | zero => exact Or.inl h
    | succ n =>
      obtain ⟨k, h1, h2, h3⟩ := h
      exact Or.inr ⟨k, h1, h2, n, h3⟩
  · rintro (h | ⟨k, h1, h2, n, h3⟩)
    · exact ⟨0, h⟩
    · exact ⟨n + 1, k, h1, h2, h3⟩
def sub8 (s G : Nat) : Prop := ∀ i, s.testBit i = true → G.testBit i = true
theorem stp_le (h : stp S X Y Z G x y z s k) : gx k x ≤ X ↔ x ≤ X := by
  unfold gx
  rcases h with ⟨rfl, h⟩ | ⟨rfl, h⟩ | ⟨rfl, h⟩ | ⟨h1, h2, h3, h4⟩
  · simp; omega
  · simp
  · simp
  · rw [if_neg (by omega)]
theorem stp_cases (h : stp S X Y Z G x y z s k) : (k = 0 ∧ x < X ∧ gx k x = x + 1 ∧ gy k y = y ∧ gz k z = z ∧ gs k s = s) ∨ (k = 1 ∧ y < Y ∧ gx k x = x ∧ gy k y = y + 1 ∧ gz k z = z ∧ gs k s = s) ∨ (k = 2 ∧ z < Z ∧ gx k x = x ∧ gy k y = y ∧ gz k z = z + 1 ∧ gs k s = s) ∨ (∃ j, k = j + 3 ∧ j < 8 ∧ G.testBit j = true ∧ mt S x y z s j ∧ gx k x = x ∧ gy k y = y ∧ gz k z = z ∧ gs k s = s ||| 2 ^ j) := by
  rcases h with ⟨rfl, h⟩ | ⟨rfl, h⟩ | ⟨rfl, h⟩ | ⟨h1, h2, h3, h4⟩
  · exact Or.inl ⟨rfl, h, rfl, rfl, rfl, rfl⟩
  · exact Or.inr (Or.inl ⟨rfl, h, rfl, rfl, rfl, rfl⟩)
  · exact Or.inr (Or.inr (Or.inl ⟨rfl, h, rfl, rfl, rfl, rfl⟩))
  · refine Or.inr (Or.inr (Or.inr ⟨k - 3, by omega, by omega, h3, h4, ?_, ?_, ?_, ?_⟩))
    · unfold gx; rw [if_neg (by omega)]
    · unfold gy; rw [if_neg (by omega)]
    · unfold gz; rw [if_neg (by omega)]
    · unfold gs; rw [if_pos h1]
theorem or_bit {s j i : Nat} : (s ||| 2 ^ j).testBit i = (s.testBit i || decide (j = i)) := by
  rw [Nat.testBit_or, Nat.testBit_two_pow]
/-- a stage on the way -/
def inB (X Y Z G x y z s : Nat) : Prop := x ≤ X ∧ y ≤ Y ∧ z ≤ Z ∧ sub8 s G
theorem stp_inB (h : stp S X Y Z G x y z s k) : inB X Y Z G (gx k x) (gy k y) (gz k z) (gs k s) ↔ inB X Y Z G x y z s := by
  unfold inB
  rcases stp_cases h with ⟨-, h0, e1, e2, e3, e4⟩ | ⟨-, h0, e1, e2, e3, e4⟩ | ⟨-, h0, e1, e2, e3, e4⟩ | ⟨j, -, hj, hb, hm, e1, e2, e3, e4⟩
  · rw [e1, e2, e3, e4]
    exact ⟨fun h => ⟨by omega, h.2⟩, fun h => ⟨by omega, h.2⟩⟩
  · rw [e1, e2, e3, e4]
    exact ⟨fun h => ⟨h.1, by omega, h.2.2⟩, fun h => ⟨h.1, by omega, h.2.2⟩⟩
  · rw [e1, e2, e3, e4]
    exact ⟨fun h => ⟨h.1, h.2.1, by omega, h.2.2.2⟩, fun h => ⟨h.1, h.2.1, by omega, h.2.2.2⟩⟩
  · rw [e1, e2, e3, e4]
    refine ⟨fun h => ⟨h.1, h.2.1, h.2.2.1, fun i hi => h.2.2.2 i (by rw [or_bit, hi]; rfl)⟩, fun h => ⟨h.1, h.2.1, h.2.2.1, fun i hi => ?_⟩⟩
    rw [or_bit] at hi
    rcases Bool.or_eq_true_iff.mp hi with q | q
    · exact h.2.2.2 i q
    · rw [← of_decide_eq_true q]; exact hb
theorem ldn_inB : ∀ (n x y z s : Nat), ldn S X Y Z G n x y z s → inB X Y Z G x y z s
  | 0, x, y, z, s, h => by
    obtain ⟨rfl, rfl, rfl, rfl⟩ := h
    exact ⟨Nat.le_refl _, Nat.le_refl _, Nat.le_refl _, fun _ h => h⟩
  | n + 1, x, y, z, s, h => by
    obtain ⟨k, h1, h2, h3⟩ := h
    exact (stp_inB h2).mp (ldn_inB n _ _ _ _ h3)
theorem Rc_inB (h : Rc S X Y Z G x y z s) : inB X Y Z G x y z s := h.elim fun n h => ldn_inB n _ _ _ _ h
theorem bit_mod {s i : Nat} : s / 2 ^ i % 2 = (s.testBit i).toNat := by
  rw [Nat.testBit_eq_decide_div_mod_eq]
  rcases Nat.mod_two_eq_zero_or_one (s / 2 ^ i) with h | h <;> simp [h]
theorem pc_sub (h : sub8 s G) : ∀ i, pcN s i ≤ pcN G i ∧ (pcN s i = pcN G i → ∀ k, k < i → s.testBit k = G.testBit k)
  | 0 => ⟨Nat.le_refl _, fun _ k hk => absurd hk (Nat.not_lt_zero _)⟩
  | i + 1 => by
    obtain ⟨h1, h2⟩ := pc_sub h i
    have h3 := h i
    show pcN s i + s / 2 ^ i % 2 ≤ pcN G i + G / 2 ^ i % 2 ∧ (pcN s i + s / 2 ^ i % 2 = pcN G i + G / 2 ^ i % 2 → _)
    rw [bit_mod, bit_mod]
    cases hs : s.testBit i <;> cases hg : G.testBit i
    · refine ⟨by simpa using h1, fun e k hk => ?_⟩
      rcases Nat.lt_succ_iff_lt_or_eq.mp hk with q | q
      · exact h2 (by simpa using e) k q
      · rw [q, hs, hg]
    · refine ⟨by simp; omega, fun e k hk => ?_⟩
      simp at e; omega
    · rw [h3 hs] at hg; cases hg
    · refine ⟨by simpa using h1, fun e k hk => ?_⟩
      rcases Nat.lt_succ_iff_lt_or_eq.mp hk with q | q
      · exact h2 (by simpa using e) k q
      · rw [q, hs, hg]
theorem big_bit {s i : Nat} (hs : s < 256) (hi : 8 ≤ i) : s.testBit i = false := Nat.testBit_lt_two_pow (Nat.lt_of_lt_of_le hs (Nat.pow_le_pow_right (n := 2) (by decide) hi))
theorem p8_eq (h : sub8 s G) (hs : s < 256) (hG : G < 256) (e : p8 s = p8 G) : s = G := by
  apply Nat.eq_of_testBit_eq
  intro i
  rcases Nat.lt_or_ge i 8 with q | q
  · exact (pc_sub h 8).2 e i q
  · rw [big_bit hs q, big_bit hG q]
theorem sub8_lt (h : sub8 s G) (hG : G < 256) : s < 256 := by
  apply Nat.lt_pow_two_of_testBit (n := 8)
  intro i hi
  cases hb : s.testBit i with
  | false => rfl
  | true => rw [← h i hb]; exact (big_bit hG hi).symm ▸ rfl
theorem p8_or : ∀ s, s < 256 → ∀ j, j < 8 → s.testBit j = false → p8 (s ||| 2 ^ j) = p8 s + 1 := by decide +kernel
/-- the steps that are left -/
def rem (X Y Z G x y z s : Nat) : Nat := (X - x) + (Y - y) + (Z - z) + (p8 G - p8 s)
theorem rem_step (hG : G < 256) (h : stp S X Y Z G x y z s k) (hb : inB X Y Z G x y z s) : rem X Y Z G (gx k x) (gy k y) (gz k z) (gs k s) + 1 = rem X Y Z G x y z s := by
  unfold rem
  have hb2 := (stp_inB h).mpr hb
  rcases stp_cases h with ⟨-, h0, e1, e2, e3, e4⟩ | ⟨-, h0, e1, e2, e3, e4⟩ | ⟨-, h0, e1, e2, e3, e4⟩ | ⟨j, -, hj, hbj, hm, e1, e2, e3, e4⟩
  · rw [e1, e2, e3, e4]; omega
  · rw [e1, e2, e3, e4]; omega
  · rw [e1, e2, e3, e4]; omega
  · rw [e4] at hb2
    rw [e1, e2, e3, e4]
    have h1 : p8 (s ||| 2 ^ j) ≤ p8 G := (pc_sub hb2.2.2.2 8).1
    have h2 := p8_or s (sub8_lt hb.2.2.2 hG) j hj hm.1
    rw [h2] at h1 ⊢
    omega
theorem rem_0 (hG : G < 256) (hb : inB X Y Z G x y z s) (h : rem X Y Z G x y z s = 0) : x = X ∧ y = Y ∧ z = Z ∧ s = G := by
  unfold rem at h
  obtain ⟨h1, h2, h3, h4⟩ := hb
  exact ⟨by omega, by omega, by omega, p8_eq h4 (sub8_lt h4 hG) hG (by have : p8 s ≤ p8 G := (pc_sub h4 8).1; omega)⟩
theorem rem_fin : rem X Y Z G X Y Z G = 0 := by unfold rem; omega
theorem orn_ldn (hG : G < 256) : ∀ (n x y z s : Nat), inB X Y Z G x y z s → rem X Y Z G x y z s = n → (orn S X Y Z G n x y z s ↔ ldn S X Y Z G n x y z s)
  | 0, x, y, z, s, hb, hr => ⟨fun _ => rem_0 hG hb hr, fun _ => trivial⟩
  | n + 1, x, y, z, s, hb, hr => by
    constructor
    · rintro ⟨k, h1, h2, h3⟩
      exact ⟨k, h1, h2, (orn_ldn hG n _ _ _ _ ((stp_inB h2).mpr hb) (by have := rem_step hG h2 hb; omega)).mp h3⟩
    · rintro ⟨k, h1, h2, h3⟩
      exact ⟨k, h1, h2, (orn_ldn hG n _ _ _ _ ((stp_inB h2).mpr hb) (by have := rem_step hG h2 hb; omega)).mpr h3⟩
theorem ldn_rem (hG : G < 256) : ∀ (n x y z s : Nat), ldn S X Y Z G n x y z s → rem X Y Z G x y z s = n
  | 0, x, y, z, s, h => by obtain ⟨rfl, rfl, rfl, rfl⟩ := h; exact rem_fin
  | n + 1, x, y, z, s, h => by
    have hb := ldn_inB (n + 1) _ _ _ _ h
    obtain ⟨k, h1, h2, h3⟩ := h
    have := ldn_rem hG n _ _ _ _ h3
    have := rem_step hG h2 hb
    omega
/-- trying every order finds the same -/
theorem orn_Rc (hG : G < 256) (hb : inB X Y Z G x y z s) : orn S X Y Z G (rem X Y Z G x y z s) x y z s ↔ Rc S X Y Z G x y z s := by
  rw [orn_ldn hG _ _ _ _ _ hb rfl]
  constructor
  · exact fun h => ⟨_, h⟩
  · rintro ⟨n, h⟩
    rw [ldn_rem hG n _ _ _ _ h]; exact h
end
/-! the place of a stage -/
def stg (Y Z x y z : Nat) : Nat := (x * (Y + 1) + y) * (Z + 1) + z
theorem stg_max : ∀ X, X < 9 → ∀ Y, Y < 9 → ∀ Z, Z < 9 → X + Y + Z ≤ 8 → (X + 1) * (Y + 1) * (Z + 1) ≤ 48 := by decide +kernel
theorem stg_lt {X Y Z x y z : Nat} (hX : X + Y + Z ≤ 8) (hx : x ≤ X) (hy : y ≤ Y) (hz : z ≤ Z) : stg Y Z x y z < 48 := by
  have h1 := stg_max X (by omega) Y (by omega) Z (by omega) hX
  have h2 : x * (Y + 1) + y + 1 ≤ (X + 1) * (Y + 1) := by
    have := Nat.mul_le_mul_right (Y + 1) hx
    rw [Nat.add_mul, Nat.one_mul]; omega
  have h3 : (x * (Y + 1) + y + 1) * (Z + 1) ≤ (X + 1) * (Y + 1) * (Z + 1) := Nat.mul_le_mul_right _ h2
  unfold stg
  rw [Nat.add_mul, Nat.one_mul] at h3
  omega
theorem stg_x {X Y Z x y z : Nat} (hy : y ≤ Y) (hz : z ≤ Z) : stg Y Z x y z < stg Y Z (x + 1) 0 0 := by
  have h2 : x * (Y + 1) + y + 1 ≤ (x + 1) * (Y + 1) + 0 := by rw [Nat.add_mul, Nat.one_mul]; omega
  have h3 := Nat.mul_le_mul_right (Z + 1) h2
  unfold stg
  rw [Nat.add_mul, Nat.one_mul] at h3
  omega
theorem stg_y {Y Z x y z : Nat} (hz : z ≤ Z) : stg Y Z x y z < stg Y Z x (y + 1) 0 := by
  unfold stg
  rw [← Nat.add_assoc, Nat.add_mul (x * (Y + 1) + y), Nat.one_mul]
  omega
theorem stg_z {Y Z x y z : Nat} : stg Y Z x y (z + 1) = stg Y Z x y z + 1 := rfl
theorem stg_mono {Y Z x y z x' y' z' : Nat} (hx : x ≤ x') (hy : y ≤ y') (hz : z ≤ z') : stg Y Z x y z ≤ stg Y Z x' y' z' := by
  unfold stg
  have h1 := Nat.mul_le_mul_right (Y + 1) hx
  have h2 := Nat.mul_le_mul_right (Z + 1) (Nat.add_le_add h1 hy)
  omega
theorem stg_0 {Y Z : Nat} : stg Y Z 0 0 0 = 0 := by unfold stg; simp
/-- different stages have different places -/
theorem stg_inj {Y Z x y z x' y' z' : Nat} (hy : y ≤ Y) (hz : z ≤ Z) (hy' : y' ≤ Y) (hz' : z' ≤ Z) (h : stg Y Z x y z = stg Y Z x' y' z') : x = x' ∧ y = y' ∧ z = z' := by
  have key : ∀ (N a b c d : Nat), b ≤ N → d ≤ N → a * (N + 1) + b = c * (N + 1) + d → a = c ∧ b = d := by
    intro N a b c d hb hd e
    have e1 : (a * (N + 1) + b) / (N + 1) = a := by rw [Nat.mul_comm, Nat.mul_add_div (by omega), Nat.div_eq_of_lt (by omega)]; rfl
    have e2 : (c * (N + 1) + d) / (N + 1) = c := by rw [Nat.mul_comm, Nat.mul_add_div (by omega), Nat.div_eq_of_lt (by omega)]; rfl
    have e3 : a = c := by rw [← e1, e, e2]
    subst e3
    exact ⟨rfl, by omega⟩
  obtain ⟨h1, h2⟩ := key Z _ z _ z' hz hz' h
  obtain ⟨h3, h4⟩ := key Y x y x' y' hy hy' h1
  exact ⟨h3, h4, h2⟩
/-! bits -/
def btm (x : Int32) (i : Nat) : Prop := x.toBitVec.getLsbD i = true
theorem btm_0 (i : Nat) : ¬ btm (nI 0) i := by
  unfold btm
  rw [show (nI 0).toBitVec = 0#32 from rfl]
  simp
theorem btm_pow {i j : Nat} (hi : i < 32) (hj : j < 32) : btm (nI (2 ^ i)) j ↔ i = j := by
  unfold btm
  rw [show (nI (2 ^ i)).toBitVec = BitVec.ofNat 32 (2 ^ i) from rfl, BitVec.getLsbD_ofNat, Nat.testBit_two_pow]
  simp [hj]
theorem btm_or {x y : Int32} {i : Nat} : btm (x ||| y) i ↔ btm x i ∨ btm y i := by
  unfold btm
  rw [Int32.toBitVec_or, BitVec.getLsbD_or, Bool.or_eq_true]
theorem btm_and {x : Int32} {i : Nat} (hi : i < 32) : x &&& nI (2 ^ i) = 0 ↔ ¬ btm x i := by
  constructor
  · intro h hb
    have h1 : (x &&& nI (2 ^ i)).toBitVec.getLsbD i = true := by
      rw [Int32.toBitVec_and, BitVec.getLsbD_and]
      have := (btm_pow hi hi).mpr rfl
      unfold btm at hb this
      rw [hb, this]; rfl
    rw [h] at h1
    revert h1
    rw [show (0 : Int32).toBitVec = 0#32 from rfl]
    simp
  · intro h
    apply Int32.toBitVec_inj.mp
    apply BitVec.eq_of_getLsbD_eq
    intro j hj
    rw [Int32.toBitVec_and, BitVec.getLsbD_and, show (0 : Int32).toBitVec = 0#32 from rfl]
    by_cases e : i = j
    · subst e
      unfold btm at h
      simp at h
      simp [h]
    · have : ¬ btm (nI (2 ^ i)) j := fun q => e ((btm_pow hi hj).mp q)
      unfold btm at this
      simp at this
      simp [this]
