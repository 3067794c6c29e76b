/-! the law's own rows -/
section ZL
variable {E : zE} {k n pc : Nat} {lv : List (Option Value)} {st : List Value} {ws : va_W} {own : String} {cc : ByteArray} {nL : Nat} {rm : Room} {D : va_G} {t : ClassId × ClassId × ClassId} {l : Launch} {b L : Nat} {xs : Nat → Int32}
theorem z_sld (X : zX E own cc nL rm D t l) (hX : va_X b L xs (zs E) (zs E).heap) (hbl : b < (zs E).heap.size) (hbA : ¬ zA E b) {j : Nat} (hj : j < L) (hL : L < 2 ^ 31) (hd : decode cc pc = .ok (.iaload, 1)) (kk : Wz E k n (pc + 1) lv (.int (xs j) :: st) ws) : Wz E k n pc lv (.int (nI j) :: .ref b :: st) ws := by
  intro ls H locs hl hP hD hS
  have e : (nI j).toNatClampNeg = j := nI_clamp (Nat.lt_trans hj hL)
  refine va_sld X.1 X.2.1 hX hbl hbA hS (fun q => ?_) hd ?_
  · rcases q with q | q
    · exact Int32.not_lt.mpr (nI_pos' (Nat.lt_trans hj hL)) q
    · rw [e] at q; exact absurd hj (Nat.not_lt.mpr q)
  · rw [e]; exact kk ls H locs hl hP hD hS
theorem z_slen (X : zX E own cc nL rm D t l) (hX : va_X b L xs (zs E) (zs E).heap) (hbl : b < (zs E).heap.size) (hbA : ¬ zA E b) (hd : decode cc pc = .ok (.arraylength, 1)) (kk : Wz E k n (pc + 1) lv (.int (nI L) :: st) ws) : Wz E k n pc lv (.ref b :: st) ws := by
  intro ls H locs hl hP hD hS
  exact va_slen X.1 X.2.1 hX hbl hbA hS hd (kk ls H locs hl hP hD hS)
theorem z_tswO (X : zX E own cc nL rm D t l) {dflt lo hi : Int} {offs : Array Int} {len tgt : Nat} {x : Int32} (hd : decode cc pc = .ok (.tableswitch dflt lo hi offs, len)) (h : x.toInt < lo ∨ hi < x.toInt) (ht : (pc : Int) + dflt = (tgt : Int)) (kk : Wz E k n tgt lv st ws) : Wz E k n pc lv (.int x :: st) ws :=
  fun ls H locs hl hP hD hS => lv_tableOut X.1 X.2.1 hd h ht (kk ls H locs hl hP hD hS)
theorem z_tswI (X : zX E own cc nL rm D t l) {dflt lo hi off : Int} {offs : Array Int} {len tgt : Nat} {x : Int32} (hd : decode cc pc = .ok (.tableswitch dflt lo hi offs, len)) (h1 : ¬ x.toInt < lo) (h2 : ¬ hi < x.toInt) (ho : offs[(x.toInt - lo).toNat]? = some off) (ht : (pc : Int) + off = (tgt : Int)) (kk : Wz E k n tgt lv st ws) : Wz E k n pc lv (.int x :: st) ws :=
  fun ls H locs hl hP hD hS => lv_tableIn X.1 X.2.1 hd h1 h2 ho ht (kk ls H locs hl hP hD hS)
end ZL
theorem and31 (v : Int32) : ∃ k, k < 32 ∧ v &&& nI 31 = nI k := by
  refine ⟨v.toBitVec.toNat &&& 31, Nat.lt_succ_of_le Nat.and_le_right, ?_⟩
  rw [← zn_and]
  congr 1
  apply Int32.toBitVec_inj.mp
  show v.toBitVec = BitVec.ofNat 32 v.toBitVec.toNat
  simp
theorem toInt31 : ∀ k, k < 32 → (nI k).toInt = (k : Int) := by decide +kernel
/-- the world of the law's loop -/
abbrev wL (t : ClassId × ClassId × ClassId) (a b : Nat → Nat) (o : Nat) (S : zS) (x y z s : Nat) (e f g : Nat → Int32) (q : Nat → Int64) : va_W := wR t a (T3 S x y z s e) ++ wM t b (va_up (va_up S 22 f) 23 g) ++ [(o, .inl (t.2.2, 1, .inr (.inl q)))]
theorem lpR {t : ClassId × ClassId × ClassId} {a b : Nat → Nat} {o : Nat} {S : zS} {x y z s : Nat} {e f g : Nat → Int32} {q : Nat → Int64} : zPart (wL t a b o S x y z s e f g q) is24 (wR t a (T3 S x y z s e)) := ⟨by decide, rfl⟩
theorem lpM {t : ClassId × ClassId × ClassId} {a b : Nat → Nat} {o : Nat} {S : zS} {x y z s : Nat} {e f g : Nat → Int32} {q : Nat → Int64} : zPart (wL t a b o S x y z s e f g q) [24, 25, 26, 27, 28, 29, 30, 31, 32, 33, 34, 35, 36, 37, 38, 39, 40, 41, 42] (wM t b (va_up (va_up S 22 f) 23 g)) := ⟨by decide, rfl⟩
theorem lpRo {t : ClassId × ClassId × ClassId} {a b : Nat → Nat} {o : Nat} {S : zS} {x y z s : Nat} {e f g : Nat → Int32} {q : Nat → Int64} : zPart (wL t a b o S x y z s e f g q) [0, 1, 2, 3, 4, 5, 6, 7, 8, 9, 10, 11, 12, 13, 14, 15, 16, 17, 18, 19, 20, 21, 22, 23, 43] (wR t a (T3 S x y z s e) ++ [(o, .inl (t.2.2, 1, .inr (.inl q)))]) := ⟨by decide, rfl⟩
