/-! the state: S k j is place j of field k: 0 ability 1 score 2 calling 3 level 4 other 5 barCalling 6 barLevel 7 bonusValue 8 bonusKind 9 bonusAmount (gifts); 10 base 11 ability 12 calling 13 other (values); 14 scores 15 levels 16 taken 17 how many levels 18 gifts held; 19 20 the trial's levels and gifts, 21 endings (the class alone); 22 leads 23 thrown (the reference alone) -/
abbrev zS : Type := Nat → Nat → Int32
def wR (t : ClassId × ClassId × ClassId) (a : Nat → Nat) (S : zS) : va_W := [(a 0, .inr (3, [.ref (a 1), .ref (a 2), .ref (a 3), .ref (a 4), .ref (a 5), .int (S 17 0), .ref (a 6), .ref (a 7)])), (a 1, .inr (1, [.ref (a 8), .ref (a 9), .ref (a 10), .ref (a 11), .ref (a 12), .ref (a 13), .ref (a 14), .ref (a 15), .ref (a 16), .ref (a 17)])), (a 2, .inr (2, [.ref (a 18), .ref (a 19), .ref (a 20), .ref (a 21)])), (a 3, .inl (t.1, 4, .inl (S 14))), (a 4, .inr (0, [.ref (a 22), .int (S 18 0)])), (a 5, .inl (t.1, 8, .inl (S 16))), (a 6, .inr (0, [.ref (a 23), .int (S 20 0)])), (a 7, .inl (t.1, 384, .inl (S 21))), (a 8, .inl (t.1, 8, .inl (S 0))), (a 9, .inl (t.1, 8, .inl (S 1))), (a 10, .inl (t.1, 8, .inl (S 2))), (a 11, .inl (t.1, 8, .inl (S 3))), (a 12, .inl (t.1, 8, .inl (S 4))), (a 13, .inl (t.1, 8, .inl (S 5))), (a 14, .inl (t.1, 8, .inl (S 6))), (a 15, .inl (t.1, 8, .inl (S 7))), (a 16, .inl (t.1, 8, .inl (S 8))), (a 17, .inl (t.1, 8, .inl (S 9))), (a 18, .inl (t.1, 6, .inl (S 10))), (a 19, .inl (t.1, 6, .inl (S 11))), (a 20, .inl (t.1, 6, .inl (S 12))), (a 21, .inl (t.1, 6, .inl (S 13))), (a 22, .inl (t.1, 3, .inl (S 15))), (a 23, .inl (t.1, 3, .inl (S 19)))]
abbrev aR (a : Nat → Nat) : List Nat := [a 0, a 1, a 2, a 3, a 4, a 5, a 6, a 7, a 8, a 9, a 10, a 11, a 12, a 13, a 14, a 15, a 16, a 17, a 18, a 19, a 20, a 21, a 22, a 23]
section
variable {t : ClassId × ClassId × ClassId} {a b : Nat → Nat} {S : zS} {f : Nat → Int32} {v : Int32}
theorem aR_eq : (wR t a S).map (fun x => x.1) = aR a := rfl
theorem uR_0 : (wR t a S).set 8 (a 8, .inl (t.1, 8, .inl f)) = wR t a (va_up S 0 f) := rfl
theorem uR_1 : (wR t a S).set 9 (a 9, .inl (t.1, 8, .inl f)) = wR t a (va_up S 1 f) := rfl
theorem uR_2 : (wR t a S).set 10 (a 10, .inl (t.1, 8, .inl f)) = wR t a (va_up S 2 f) := rfl
theorem uR_3 : (wR t a S).set 11 (a 11, .inl (t.1, 8, .inl f)) = wR t a (va_up S 3 f) := rfl
theorem uR_4 : (wR t a S).set 12 (a 12, .inl (t.1, 8, .inl f)) = wR t a (va_up S 4 f) := rfl
theorem uR_5 : (wR t a S).set 13 (a 13, .inl (t.1, 8, .inl f)) = wR t a (va_up S 5 f) := rfl
theorem uR_6 : (wR t a S).set 14 (a 14, .inl (t.1, 8, .inl f)) = wR t a (va_up S 6 f) := rfl
theorem uR_7 : (wR t a S).set 15 (a 15, .inl (t.1, 8, .inl f)) = wR t a (va_up S 7 f) := rfl
theorem uR_8 : (wR t a S).set 16 (a 16, .inl (t.1, 8, .inl f)) = wR t a (va_up S 8 f) := rfl
theorem uR_9 : (wR t a S).set 17 (a 17, .inl (t.1, 8, .inl f)) = wR t a (va_up S 9 f) := rfl
theorem uR_10 : (wR t a S).set 18 (a 18, .inl (t.1, 6, .inl f)) = wR t a (va_up S 10 f) := rfl
theorem uR_11 : (wR t a S).set 19 (a 19, .inl (t.1, 6, .inl f)) = wR t a (va_up S 11 f) := rfl
theorem uR_12 : (wR t a S).set 20 (a 20, .inl (t.1, 6, .inl f)) = wR t a (va_up S 12 f) := rfl
theorem uR_13 : (wR t a S).set 21 (a 21, .inl (t.1, 6, .inl f)) = wR t a (va_up S 13 f) := rfl
theorem uR_14 : (wR t a S).set 3 (a 3, .inl (t.1, 4, .inl f)) = wR t a (va_up S 14 f) := rfl
theorem uR_15 : (wR t a S).set 22 (a 22, .inl (t.1, 3, .inl f)) = wR t a (va_up S 15 f) := rfl
theorem uR_16 : (wR t a S).set 5 (a 5, .inl (t.1, 8, .inl f)) = wR t a (va_up S 16 f) := rfl
theorem uR_19 : (wR t a S).set 23 (a 23, .inl (t.1, 3, .inl f)) = wR t a (va_up S 19 f) := rfl
theorem uR_21 : (wR t a S).set 7 (a 7, .inl (t.1, 384, .inl f)) = wR t a (va_up S 21 f) := rfl
theorem uR_17 : (wR t a S).set 0 (a 0, .inr (3, [.ref (a 1), .ref (a 2), .ref (a 3), .ref (a 4), .ref (a 5), .int v, .ref (a 6), .ref (a 7)])) = wR t a (va_up S 17 (fun _ => v)) := rfl
theorem uR_18 : (wR t a S).set 4 (a 4, .inr (0, [.ref (a 22), .int v])) = wR t a (va_up S 18 (fun _ => v)) := rfl
theorem uR_20 : (wR t a S).set 6 (a 6, .inr (0, [.ref (a 23), .int v])) = wR t a (va_up S 20 (fun _ => v)) := rfl
end
theorem up_s {S : zS} {k : Nat} {f : Nat → Int32} : va_up S k f k = f := va_up_self _ _ _
theorem up_n {S : zS} {k j : Nat} {f : Nat → Int32} (h : j ≠ k) : va_up S k f j = S j := va_up_ne _ _ h
/-- levels in the three callings -/
def l3 (x y z : Nat) : Nat → Int32 := fun i => if i = 0 then nI x else if i = 1 then nI y else nI z
theorem l3_0 {x y z : Nat} : l3 x y z 0 = nI x := rfl
theorem l3_1 {x y z : Nat} : l3 x y z 1 = nI y := rfl
theorem l3_2 {x y z : Nat} : l3 x y z 2 = nI z := rfl
/-- how many bits of the low i ones are set -/
def pcN (s : Nat) : Nat → Nat
  | 0 => 0
  | i + 1 => pcN s i + s / 2 ^ i % 2
abbrev p8 (s : Nat) : Nat := pcN s 8
theorem p8_le : ∀ s, s < 256 → p8 s ≤ 8 := by decide +kernel
/-- scores, levels, the other gift, the bar -/
def pS (S : zS) (j : Nat) : Prop := S 0 j = -1 ∨ S 1 j ≤ S 14 (S 0 j).toNatClampNeg
def pL (S : zS) (f : Nat → Int32) (j : Nat) : Prop := S 2 j = -1 ∨ S 3 j ≤ f (S 2 j).toNatClampNeg
def pO (S : zS) (s j : Nat) : Prop := S 4 j = -1 ∨ s.testBit (S 4 j).toNatClampNeg = true
def pB (S : zS) (f : Nat → Int32) (j : Nat) : Prop := S 5 j = -1 ∨ f (S 5 j).toNatClampNeg ≤ S 6 j
/-- a gift may be taken -/
def mt (S : zS) (x y z s j : Nat) : Prop := s.testBit j = false ∧ p8 s < 1 + (x + y + z) / 2 ∧ pS S j ∧ pL S (l3 x y z) j ∧ pO S s j ∧ pB S (l3 x y z) j
/-- the rules are in their ranges -/
def zI (S : zS) : Prop := (∀ j, j < 8 → zo (S 0 j) 4) ∧ (∀ j, j < 8 → zo (S 2 j) 3) ∧ (∀ j, j < 8 → zo (S 4 j) 8) ∧ (∀ j, j < 8 → zo (S 5 j) 3) ∧ (∀ j, j < 8 → zo (S 7 j) 6) ∧ (∀ j, j < 6 → zo (S 11 j) 4) ∧ (∀ j, j < 6 → zo (S 12 j) 3) ∧ (∀ j, j < 6 → zo (S 13 j) 6)
noncomputable def zif {α : Type} (P : Prop) (x y : α) : α := @ite α P (Classical.propDecidable P) x y
theorem zif_t {α : Type} {P : Prop} {x y : α} (h : P) : zif P x y = x := @if_pos P (Classical.propDecidable P) h α x y
theorem zif_f {α : Type} {P : Prop} {x y : α} (h : ¬ P) : zif P x y = y := @if_neg P (Classical.propDecidable P) h α x y
theorem zt_bit {s j : Nat} : s / 2 ^ j % 2 = 1 ↔ s.testBit j = true := by
  rw [Nat.testBit_eq_decide_div_mod_eq]; simp
theorem zt_bit1 {s j : Nat} : (s / 2 ^ j) &&& 1 = s / 2 ^ j % 2 := Nat.and_one_is_mod _
theorem zt_b2 {s j : Nat} (h : s / 2 ^ j % 2 = 0) : s.testBit j = false := by
  rw [Nat.testBit_eq_decide_div_mod_eq]; simp [h]
theorem zt_b1 {s j : Nat} (h : ¬ s / 2 ^ j % 2 = 0) : s.testBit j = true := zt_bit.mp (by omega)
theorem i_nle {x y : Int32} (h : y < x) : ¬ x ≤ y := Int32.not_le.mpr h
theorem i_le {x y : Int32} (h : ¬ y < x) : x ≤ y := Int32.not_lt.mp h
