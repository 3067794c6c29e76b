theorem ldn_mt {S S' : zS} {X Y Z G : Nat} (h : ∀ x y z s j, mt S x y z s j ↔ mt S' x y z s j) : ∀ n x y z s, ldn S X Y Z G n x y z s ↔ ldn S' X Y Z G n x y z s
  | 0, x, y, z, s => Iff.rfl
  | n + 1, x, y, z, s => by
    have e : ∀ k, stp S X Y Z G x y z s k ↔ stp S' X Y Z G x y z s k := fun k => by unfold stp; rw [h]
    constructor
    · rintro ⟨k, h1, h2, h3⟩
      exact ⟨k, h1, (e k).mp h2, (ldn_mt h n _ _ _ _).mp h3⟩
    · rintro ⟨k, h1, h2, h3⟩
      exact ⟨k, h1, (e k).mpr h2, (ldn_mt h n _ _ _ _).mpr h3⟩
theorem Rc_mt {S S' : zS} {X Y Z G x y z s : Nat} (h : ∀ x y z s j, mt S x y z s j ↔ mt S' x y z s j) : Rc S X Y Z G x y z s ↔ Rc S' X Y Z G x y z s :=
  ⟨fun ⟨n, q⟩ => ⟨n, (ldn_mt h n _ _ _ _).mp q⟩, fun ⟨n, q⟩ => ⟨n, (ldn_mt h n _ _ _ _).mpr q⟩⟩
/-! the rules alone (scores among them) -/
def Ru (S S' : zS) : Prop := ∀ k, k ≤ 14 → S k = S' k
section
variable {S S' : zS} {x y z s : Nat} {e f g : Nat → Int32}
theorem mt_ru (h : Ru S S') (x y z s j : Nat) : mt S x y z s j ↔ mt S' x y z s j := by
  unfold mt pS pL pO pB
  rw [h 0 (by omega), h 1 (by omega), h 2 (by omega), h 3 (by omega), h 4 (by omega), h 5 (by omega), h 6 (by omega), h 14 (by omega)]
theorem wk_ru (h : Ru S S') (f : Nat → Int32) (s n : Nat) : wkN S f s n = wkN S' f s n := by
  refine wkN_mt (fun j => ?_) (fun j => ?_) (fun s j => ?_) n
  · unfold pS; rw [h 0 (by omega), h 1 (by omega), h 14 (by omega)]
  · unfold pL; rw [h 2 (by omega), h 3 (by omega)]
  · unfold pO; rw [h 4 (by omega)]
theorem bnS_ru (h : Ru S S') (w : Nat) (v k : Int32) : ∀ j, bnS S w v k j = bnS S' w v k j
  | 0 => rfl
  | j + 1 => by
    show zif (bnC S w v k j ∧ (k = 0 ∨ S 9 j < 0)) (bnS S w v k j + S 9 j) (bnS S w v k j) = zif (bnC S' w v k j ∧ (k = 0 ∨ S' 9 j < 0)) (bnS S' w v k j + S' 9 j) (bnS S' w v k j)
    rw [bnS_ru h w v k j]
    unfold bnC
    rw [h 7 (by omega), h 8 (by omega), h 9 (by omega)]
theorem bnG_ru (h : Ru S S') (w : Nat) (v k : Int32) : ∀ j, bnG S w v k j = bnG S' w v k j
  | 0 => rfl
  | j + 1 => by
    show zif (bnC S w v k j ∧ ¬ (k = 0 ∨ S 9 j < 0)) (if bnG S w v k j < S 9 j then S 9 j else bnG S w v k j) (bnG S w v k j) = zif (bnC S' w v k j ∧ ¬ (k = 0 ∨ S' 9 j < 0)) (if bnG S' w v k j < S' 9 j then S' 9 j else bnG S' w v k j) (bnG S' w v k j)
    rw [bnG_ru h w v k j]
    unfold bnC
    rw [h 7 (by omega), h 8 (by omega), h 9 (by omega)]
theorem bn_ru (h : Ru S S') (w : Nat) (v k : Int32) : bn S w v k = bn S' w v k := by
  unfold bn; rw [bnS_ru h, bnG_ru h]
theorem ch_ru (h : Ru S S') (v : Int32) : ∀ k, ch S v k = ch S' v k
  | 0 => rfl
  | k + 1 => by
    show (if ch S v k = -1 then -1 else S 13 (ch S v k).toNatClampNeg) = (if ch S' v k = -1 then -1 else S' 13 (ch S' v k).toNatClampNeg)
    rw [ch_ru h v k, h 13 (by omega)]
theorem vl_ru (h : Ru S S') (f : Nat → Int32) (w : Nat) : ∀ (m : Nat) (c : Int32), vl S f w m c = vl S' f w m c
  | 0, _ => rfl
  | m + 1, c => by
    show (if c = -1 then nI 0 else S 10 c.toNatClampNeg + md S (S 11 c.toNatClampNeg) + lvv f (S 12 c.toNatClampNeg) + hlf (vl S f w m (S 13 c.toNatClampNeg)) + bn S w c (nI 0) + bn S w c (nI 1) + bn S w c (nI 2) + bn S w c (nI 3)) = (if c = -1 then nI 0 else S' 10 c.toNatClampNeg + md S' (S' 11 c.toNatClampNeg) + lvv f (S' 12 c.toNatClampNeg) + hlf (vl S' f w m (S' 13 c.toNatClampNeg)) + bn S' w c (nI 0) + bn S' w c (nI 1) + bn S' w c (nI 2) + bn S' w c (nI 3))
    unfold md
    rw [vl_ru h f w m, h 10 (by omega), h 11 (by omega), h 12 (by omega), h 13 (by omega), h 14 (by omega), bn_ru h, bn_ru h, bn_ru h, bn_ru h]
theorem opN_ru (h : Ru S S') (x y z G : Nat) : ∀ j, opN S x y z G j = opN S' x y z G j
  | 0 => rfl
  | j + 1 => by
    show zif (mt S x y z G j) (opN S x y z G j ||| 2 ^ j) (opN S x y z G j) = zif (mt S' x y z G j) (opN S' x y z G j ||| 2 ^ j) (opN S' x y z G j)
    rw [opN_ru h x y z G j, mt_ru h]
theorem faN_ru (h : Ru S S') (f : Nat → Int32) (G k j : Nat) : faN S f G k j = faN S' f G k j := by
  show dif (dif (wkN S f G 64) (wkN S f (exN G k j) 64)) (2 ^ k) = dif (dif (wkN S' f G 64) (wkN S' f (exN G k j) 64)) (2 ^ k)
  rw [wk_ru h, wk_ru h]
theorem Rc_ru (h : Ru S S') {X Y Z G x y z s : Nat} : Rc S X Y Z G x y z s ↔ Rc S' X Y Z G x y z s := Rc_mt (fun _ _ _ _ _ => mt_ru h _ _ _ _ _)
theorem stp_ru (h : Ru S S') {X Y Z G x y z s k : Nat} : stp S X Y Z G x y z s k ↔ stp S' X Y Z G x y z s k := by unfold stp; rw [mt_ru h]
theorem lead_ru (h : Ru S S') {X Y Z G k : Nat} {c : Nat × Nat × Nat × Nat} : lead S X Y Z G c k ↔ lead S' X Y Z G c k := by
  unfold lead
  simp only [stp_ru h, Rc_ru h]
theorem pth_ru (h : Ru S S') {X Y Z G : Nat} : ∀ (m : Nat) (c : Nat × Nat × Nat × Nat), pth S X Y Z G m c ↔ pth S' X Y Z G m c
  | 0, c => Iff.rfl
  | m + 1, c => by
    show (∃ c' k, pth S X Y Z G m c' ∧ lead S X Y Z G c' k ∧ c = goc k c') ↔ (∃ c' k, pth S' X Y Z G m c' ∧ lead S' X Y Z G c' k ∧ c = goc k c')
    simp only [pth_ru h m, lead_ru h]
theorem zI_ru (h : Ru S S') : zI S ↔ zI S' := by
  unfold zI
  rw [h 0 (by omega), h 2 (by omega), h 4 (by omega), h 5 (by omega), h 7 (by omega), h 11 (by omega), h 12 (by omega), h 13 (by omega)]
theorem zSc_ru (h : Ru S S') {sc : Nat → Nat} : zSc S sc ↔ zSc S' sc := by unfold zSc; rw [h 14 (by omega)]
end
/-- the trial and what was taken, of one object -/
abbrev zT : Type := Nat × Nat × Nat × Nat × (Nat → Int32) × (Nat → Int32)
abbrev T6 (S : zS) (p : zT) : zS := T3 (va_up S 16 p.2.2.2.2.2) p.1 p.2.1 p.2.2.1 p.2.2.2.1 p.2.2.2.2.1
theorem Ru_16 {S : zS} {q : Nat → Int32} : Ru (va_up S 16 q) S := fun k hk => up_n (by omega)
theorem Ru_T6 {S : zS} {p : zT} : Ru (T6 S p) S := fun k hk => by
  show T3 _ _ _ _ _ _ k = S k
  unfold T3
  rw [up_n (by omega), up_n (by omega), up_n (by omega), up_n (by omega)]
/-- what holds of an object between calls, but what was taken -/
def zKs (S : zS) (sc : Nat → Nat) (x y z G : Nat) : Prop := zI S ∧ zSc S sc ∧ cs4 sc ≤ 20 ∧ S 17 0 = nI (x + y + z) ∧ x + y + z ≤ 8 ∧ S 18 0 = nI G ∧ G < 256 ∧ S 15 = l3 x y z
/-- what was taken -/
def zTk (tk : Nat → Nat) (q : Nat → Int32) (m : Nat) : Prop := ∀ j, j < m → tk j < 3 ∧ q j = nI (tk j)
def zCt (tk : Nat → Nat) (x y z : Nat) : Prop := x = ctk tk (x + y + z) 0 ∧ y = ctk tk (x + y + z) 1 ∧ z = ctk tk (x + y + z) 2
section
variable {S : zS} {p : zT} {sc : Nat → Nat} {x y z G : Nat} {t : ClassId × ClassId × ClassId} {a : Nat → Nat}
theorem K_I6 (h : zKs S sc x y z G) : zI (T6 S p) := (zI_ru Ru_T6).mpr h.1
theorem K_I16 (h : zKs S sc x y z G) : zI (va_up S 16 p.2.2.2.2.2) := (zI_ru Ru_16).mpr h.1
theorem K_sc6 (h : zKs S sc x y z G) : zSc (T6 S p) sc := (zSc_ru Ru_T6).mpr h.2.1
theorem K_17 (h : zKs S sc x y z G) : T6 S p 17 0 = nI (x + y + z) := h.2.2.2.1
theorem K_18 (h : zKs S sc x y z G) : T6 S p 18 0 = nI G := h.2.2.2.2.2.1
theorem K_15 (h : zKs S sc x y z G) : T6 S p 15 = l3 x y z := h.2.2.2.2.2.2.2
theorem K_17q (h : zKs S sc x y z G) : va_up S 16 p.2.2.2.2.2 17 0 = nI (x + y + z) := h.2.2.2.1
theorem K_18q (h : zKs S sc x y z G) : va_up S 16 p.2.2.2.2.2 18 0 = nI G := h.2.2.2.2.2.1
theorem K_15q (h : zKs S sc x y z G) : va_up S 16 p.2.2.2.2.2 15 = l3 x y z := h.2.2.2.2.2.2.2
theorem K_X (h : zKs S sc x y z G) : x + y + z ≤ 8 := h.2.2.2.2.1
theorem K_G (h : zKs S sc x y z G) : G < 256 := h.2.2.2.2.2.2.1
theorem K_c (h : zKs S sc x y z G) : cs4 sc ≤ 20 := h.2.2.1
/-- an object's cells where the gifts are written again -/
theorem wR18 {v : Int32} (h : S 18 0 = v) : wR t a (va_up S 18 (fun _ => v)) = wR t a S := by subst h; rfl
end
/-! the class's own methods, once more -/
section
variable (l : Launch) (D : va_G) (t : ClassId × ClassId × ClassId) (a : Nat → Nat) {S : zS} (p : zT) {sc : Nat → Nat} {x y z G : Nat}
theorem o_gifts (h : zKs S sc x y z G) : zM1 l yX3_gifts cX3_gifts 1 (some .int) 2 D t [.ref (a 0)] (wR t a (T6 S p)) (fun r => r = nI G) := (c_X3_gifts l D t a (T6 S p)).imp (fun r e => e.trans (K_18 h))
theorem o_working (h : zKs S sc x y z G) : zM1 l yX3_working cX3_working 1 (some .int) 2 D t [.ref (a 0)] (wR t a (T6 S p)) (fun r => r = nI (wk S (l3 x y z) G)) := (c_X3_working l D t a (T6 S p) G (K_18 h) (K_G h) (K_I6 h)).imp (fun r e => by rw [e, K_15 h]; exact congrArg nI (wk_ru Ru_T6 _ _ 64))
theorem o_places (h : zKs S sc x y z G) : zM1 l yX3_places cX3_places 1 (some .int) 2 D t [.ref (a 0)] (wR t a (T6 S p)) (fun r => r = nI (1 + (x + y + z) / 2)) := c_X3_places l D t a (T6 S p) x y z (K_15 h) (K_X h)
theorem o_points (h : zKs S sc x y z G) : zM1 l yX3_points cX3_points 1 (some .int) 4 D t [.ref (a 0)] (wR t a (T6 S p)) (fun r => r = nI (20 - cs4 sc)) := c_X3_points l D t a (T6 S p) sc (K_sc6 h) (K_c h)
theorem o_open (h : zKs S sc x y z G) : zM1 l yX3_open cX3_open 3 (some .int) 4 D t [.ref (a 0)] (wR t a (T6 S p)) (fun r => r = nI (opN S x y z G 8)) := (c_X3_open l D t a (T6 S p) x y z G (K_15 h) (K_18 h) (K_G h) (K_X h) (K_I6 h)).imp (fun r e => by rw [e, opN_ru Ru_T6])
theorem o_attack (h : zKs S sc x y z G) : zM1 l yX3_attack cX3_attack 5 (some .int) 1 D t [.ref (a 0)] (wR t a (T6 S p)) (fun r => r = nI (atk x y z)) := c_X3_attack l D t a (T6 S p) x y z (K_15 h) (K_X h)
theorem o_isLawful (h : zKs S sc x y z G) : zM2 l yX3_isLawful cX3_isLawful 1 (some .boolean) 10 D t [.ref (a 0)] (wR t a (T6 S p)) (fun r (_ : Nat → Int32) => bz r (Rc S x y z G 0 0 0 0)) (fun u => wR t a (T6 S (0, 0, 0, 0, u, p.2.2.2.2.2))) := (c_X3_isLawful l D t a (va_up S 16 p.2.2.2.2.2) x y z G (K_15q h) (K_18q h) (K_G h) (K_X h) (K_I16 h) (K_17q h) p.1 p.2.1 p.2.2.1 p.2.2.2.1 p.2.2.2.2.1).imp (fun r u e => ⟨u, e.iff (Rc_ru Ru_16), fun _ q => q⟩)
/-- without levels and gifts -/
def clS (S : zS) : zS := va_up (va_up (va_up S 18 (fun _ => nI 0)) 15 (l3 0 0 0)) 17 (fun _ => nI 0)
theorem o_clear (h : zKs S sc x y z G) : zM2 l yX3_clear cX3_clear 2 (some .int) 4 D t [.ref (a 0)] (wR t a (T6 S p)) (fun r (_ : Unit) => r = nI (x + y + z + p8 G)) (fun _ => wR t a (T6 (clS S) p)) := (c_X3_clear l D t a (T6 S p) (x + y + z) G (K_17 h) (K_18 h) (K_G h)).imp (fun r u e => ⟨u, e, fun _ q => by rw [show wR t a (T6 (clS S) p) = wR t a (va_up (va_up (va_up (T6 S p) 18 (fun _ => nI 0)) 15 (l3 0 0 0)) 17 (fun _ => nI 0)) from rfl, l3_000]; exact q⟩)
end
theorem K_clear {S : zS} {sc : Nat → Nat} {x y z G : Nat} (h : zKs S sc x y z G) : zKs (clS S) sc 0 0 0 0 := ⟨h.1, h.2.1, h.2.2.1, rfl, by decide, rfl, by decide, rfl⟩
