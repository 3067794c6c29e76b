/-! the law's own rows -/
section ZL
variable {E : zE} {k n pc : Nat} {lv : List (Option Value)} {st : List Value} {ws : va_W} {own : String} {cc : ByteArray} {nL : Nat} {rm : Room} {D : va_G} {t : ClassId × ClassId × ClassId} {l : Launch} {b L : Nat} {xs : Nat → Int32}
theorem z_sld (X : zX E own cc nL rm D t l) (hX : va_X b L xs (zs E) (zs E).heap) (hbl : b < (zs E).heap.size) (hbA : ¬ zA E b) {j : Nat} (hj : j < L) (hL : L < 2 ^ 31) (hd : decode cc pc = .ok (.iaload, 1)) (kk : Wz E k n (pc + 1) lv (.int (xs j) :: st) ws) : Wz E k n pc lv (.int (nI j) :: .ref b :: st) ws := by
  intro ls H locs hl hP hD hS
  have e : (nI j).toNatClampNeg = j := nI_clamp (Nat.lt_trans hj hL)
  refine va_sld X.1 X.2.1 hX hbl hbA hS (fun q => ?_) hd ?_
  · rcases q with q | q
    · exact Int32.not_lt.mpr (nI_pos' (Nat.lt_trans hj hL)) q
    · rw [e] at q; exact absurd hj (Nat.not_lt.mpr q)
  · rw [e]; exact kk ls H locs hl hP hD hS
theorem z_slen (X : zX E own cc nL rm D t l) (hX : va_X b L xs (zs E) (zs E).heap) (hbl : b < (zs E).heap.size) (hbA : ¬ zA E b) (hd : decode cc pc = .ok (.arraylength, 1)) (kk : Wz E k n (pc + 1) lv (.int (nI L) :: st) ws) : Wz E k n pc lv (.ref b :: st) ws := by
  intro ls H locs hl hP hD hS
  exact va_slen X.1 X.2.1 hX hbl hbA hS hd (kk ls H locs hl hP hD hS)
end ZL
