/-! orders: a longer way, and the way that is told -/
section
variable {S S' : zS} {X Y Z G X' Y' Z' G' x y z s k j : Nat}
theorem stp_up (hX : X ≤ X') (hY : Y ≤ Y') (hZ : Z ≤ Z') (hG : sub8 G G') (h : stp S X Y Z G x y z s k) : stp S X' Y' Z' G' x y z s k := by
  rcases h with ⟨h1, h2⟩ | ⟨h1, h2⟩ | ⟨h1, h2⟩ | ⟨h1, h2, h3, h4⟩
  · exact Or.inl ⟨h1, by omega⟩
  · exact Or.inr (Or.inl ⟨h1, by omega⟩)
  · exact Or.inr (Or.inr (Or.inl ⟨h1, by omega⟩))
  · exact Or.inr (Or.inr (Or.inr ⟨h1, h2, hG _ h3, h4⟩))
theorem ldn_up (hX : X ≤ X') (hY : Y ≤ Y') (hZ : Z ≤ Z') (hG : sub8 G G') (hR : Rc S X' Y' Z' G' X Y Z G) : ∀ (n x y z s : Nat), ldn S X Y Z G n x y z s → Rc S X' Y' Z' G' x y z s
  | 0, x, y, z, s, h => by obtain ⟨rfl, rfl, rfl, rfl⟩ := h; exact hR
  | n + 1, x, y, z, s, h => by
    obtain ⟨k, h1, h2, h3⟩ := h
    exact Rc_step.mpr (Or.inr ⟨k, h1, stp_up hX hY hZ hG h2, ldn_up hX hY hZ hG hR n _ _ _ _ h3⟩)
theorem Rc_rf : Rc S X Y Z G X Y Z G := ⟨0, rfl, rfl, rfl, rfl⟩
theorem Rc_up (hX : X ≤ X') (hY : Y ≤ Y') (hZ : Z ≤ Z') (hG : sub8 G G') (hR : Rc S X' Y' Z' G' X Y Z G) (h : Rc S X Y Z G x y z s) : Rc S X' Y' Z' G' x y z s := h.elim (fun n h => ldn_up hX hY hZ hG hR n _ _ _ _ h)
/-- a lawful character stays lawful with a level .. -/
theorem Rc_lev (hk : k < 3) (h : Rc S x y z G 0 0 0 0) : Rc S (gx k x) (gy k y) (gz k z) G 0 0 0 0 := by
  have e : gs k G = G := if_neg (by omega)
  refine Rc_up (X := x) (Y := y) (Z := z) (G := G) ?_ ?_ ?_ sub8_rf ?_ h
  · unfold gx; split <;> omega
  · unfold gy; split <;> omega
  · unfold gz; split <;> omega
  · refine Rc_step.mpr (Or.inr ⟨k, by omega, ?_, ?_⟩)
    · rcases (show k = 0 ∨ k = 1 ∨ k = 2 by omega) with rfl | rfl | rfl
      · exact Or.inl ⟨rfl, Nat.lt_succ_self x⟩
      · exact Or.inr (Or.inl ⟨rfl, Nat.lt_succ_self y⟩)
      · exact Or.inr (Or.inr (Or.inl ⟨rfl, Nat.lt_succ_self z⟩))
    · rw [e]; exact Rc_rf
/-- .. or with a gift that is taken -/
theorem Rc_gift (hj : j < 8) (hm : mt S x y z G j) (h : Rc S x y z G 0 0 0 0) : Rc S x y z (G ||| 2 ^ j) 0 0 0 0 := by
  refine Rc_up (Nat.le_refl x) (Nat.le_refl y) (Nat.le_refl z) (fun i q => by rw [or_bit, q]; rfl) ?_ h
  refine Rc_step.mpr (Or.inr ⟨j + 3, by omega, Or.inr (Or.inr (Or.inr ⟨by omega, by omega, ?_, hm⟩)), ?_⟩)
  · rw [Nat.add_sub_cancel, or_bit]; simp
  · have e1 : gx (j + 3) x = x := if_neg (by omega)
    have e2 : gy (j + 3) y = y := if_neg (by omega)
    have e3 : gz (j + 3) z = z := if_neg (by omega)
    have e4 : gs (j + 3) G = G ||| 2 ^ j := if_pos (by omega)
    rw [e1, e2, e3, e4]; exact Rc_rf
theorem gk_j {j x y z s : Nat} : gx (j + 3) x = x ∧ gy (j + 3) y = y ∧ gz (j + 3) z = z ∧ gs (j + 3) s = s ||| 2 ^ j :=
  ⟨if_neg (by omega), if_neg (by omega), if_neg (by omega), if_pos (by omega)⟩
theorem Rc_next (hk : k < 11) (hs : stp S X Y Z G x y z s k) (h : Rc S x y z s 0 0 0 0) : Rc S (gx k x) (gy k y) (gz k z) (gs k s) 0 0 0 0 := by
  rcases Nat.lt_or_ge k 3 with q | q
  · rw [show gs k s = s from if_neg (by omega)]; exact Rc_lev q h
  · obtain ⟨j, rfl⟩ : ∃ j, k = j + 3 := ⟨k - 3, by omega⟩
    obtain ⟨e1, e2, e3, e4⟩ := gk_j (j := j) (x := x) (y := y) (z := z) (s := s)
    rw [e1, e2, e3, e4]
    rcases hs with ⟨h1, -⟩ | ⟨h1, -⟩ | ⟨h1, -⟩ | ⟨h1, h2, h3, h4⟩
    · omega
    · omega
    · omega
    · rw [Nat.add_sub_cancel] at h4
      exact Rc_gift (by omega) h4 h
/-- what the way that is told has behind m steps -/
theorem pth_ok (hG : G < 256) : ∀ (m : Nat) (c : Nat × Nat × Nat × Nat), pth S X Y Z G m c → inB X Y Z G c.1 c.2.1 c.2.2.1 c.2.2.2 ∧ rem X Y Z G c.1 c.2.1 c.2.2.1 c.2.2.2 + m = X + Y + Z + p8 G ∧ Rc S c.1 c.2.1 c.2.2.1 c.2.2.2 0 0 0 0
  | 0, c, h => by
    have e : c = (0, 0, 0, 0) := h
    subst e
    exact ⟨inB_0, rem_all, Rc_rf⟩
  | m + 1, c, h => by
    obtain ⟨c', k, h1, h2, rfl⟩ := h
    obtain ⟨i1, i2, i3⟩ := pth_ok hG m c' h1
    have i4 := lead_rem hG h2 i1
    refine ⟨(stp_inB h2.2.1).mpr i1, ?_, Rc_next h2.1 h2.2.1 i3⟩
    show rem X Y Z G (gx k c'.1) (gy k c'.2.1) (gz k c'.2.2.1) (gs k c'.2.2.2) + (m + 1) = _
    omega
theorem pth_end (hG : G < 256) {c : Nat × Nat × Nat × Nat} (h : pth S X Y Z G (X + Y + Z + p8 G) c) : c = (X, Y, Z, G) := by
  obtain ⟨i1, i2, -⟩ := pth_ok hG _ c h
  obtain ⟨c1, c2, c3, c4⟩ := c
  obtain ⟨e1, e2, e3, e4⟩ := rem_0 hG i1 (by omega)
  have e1' : c1 = X := e1
  have e2' : c2 = Y := e2
  have e3' : c3 = Z := e3
  have e4' : c4 = G := e4
  rw [e1', e2', e3', e4']
/-- a level that is told can be taken, and a gift too -/
theorem stp_room (hX : X + Y + Z ≤ 8) (hb : inB X Y Z G x y z s) (hk : k < 3) (h : stp S X Y Z G x y z s k) : x + y + z < 8 := by
  obtain ⟨b1, b2, b3, -⟩ := hb
  rcases h with ⟨-, h2⟩ | ⟨-, h2⟩ | ⟨-, h2⟩ | ⟨h1, -⟩ <;> omega
theorem stp_mt (h : stp S X Y Z G x y z s (j + 3)) : j < 8 ∧ mt S x y z s j := by
  rcases h with ⟨h1, -⟩ | ⟨h1, -⟩ | ⟨h1, -⟩ | ⟨h1, h2, h3, h4⟩
  · omega
  · omega
  · omega
  · rw [Nat.add_sub_cancel] at h4
    exact ⟨by omega, h4⟩
end
/-! an object with other levels and gifts -/
def mvS (S : zS) (x y z G : Nat) : zS := va_up (va_up (va_up S 18 (fun _ => nI G)) 17 (fun _ => nI (x + y + z))) 15 (l3 x y z)
section
variable {S : zS} {p : zT} {sc : Nat → Nat} {x y z G x' y' z' G' k j : Nat} {t : ClassId × ClassId × ClassId} {a b : Nat → Nat} {A A' B B' : zS} {qb qv qc : Nat} {fB fV fC : Nat → Int32}
theorem wA_A (h : wR t a A = wR t a A') : wA t a b A B qb qv qc fB fV fC = wA t a b A' B qb qv qc fB fV fC := by unfold wA; rw [h]
theorem wA_B (h : wR t b B = wR t b B') : wA t a b A B qb qv qc fB fV fC = wA t a b A B' qb qv qc fB fV fC := by unfold wA; rw [h]
theorem Ru_mv : Ru (mvS S x y z G) S := fun k hk => by
  unfold mvS
  rw [up_n (by omega), up_n (by omega), up_n (by omega)]
theorem K_mv (h : zKs S sc x y z G) (hX : x' + y' + z' ≤ 8) (hG : G' < 256) : zKs (mvS S x' y' z' G') sc x' y' z' G' := ⟨h.1, h.2.1, h.2.2.1, rfl, hX, rfl, hG, rfl⟩
theorem wR17 {v : Int32} (h : S 17 0 = v) : wR t a (va_up S 17 (fun _ => v)) = wR t a S := by subst h; rfl
theorem wR15 {f : Nat → Int32} (h : S 15 = f) : wR t a (va_up S 15 f) = wR t a S := by subst h; rfl
theorem wR_mv (h : zKs S sc x y z G) : wR t a (T6 (mvS S x y z G) p) = wR t a (T6 S p) := by
  have e : wR t a (T6 (mvS S x y z G) p) = wR t a (va_up (va_up (va_up (T6 S p) 18 (fun _ => nI G)) 17 (fun _ => nI (x + y + z))) 15 (l3 x y z)) := rfl
  rw [e]
  exact (wR15 (S := va_up (va_up (T6 S p) 18 (fun _ => nI G)) 17 (fun _ => nI (x + y + z))) (K_15 (p := p) h)).trans ((wR17 (S := va_up (T6 S p) 18 (fun _ => nI G)) (K_17 (p := p) h)).trans (wR18 (S := T6 S p) (K_18 (p := p) h)))
theorem wR_tk (hk : k < 3) : wR t a (T6 (tkS (mvS S x y z G) k x y z) p) = wR t a (T6 (mvS S (gx k x) (gy k y) (gz k z) (gs k G)) p) := by
  have e1 : gs k G = G := if_neg (by omega)
  have e2 : x + y + z + 1 = gx k x + gy k y + gz k z := by
    rcases (show k = 0 ∨ k = 1 ∨ k = 2 by omega) with rfl | rfl | rfl
    · show _ = (x + 1) + y + z; omega
    · show _ = x + (y + 1) + z; omega
    · show _ = x + y + (z + 1); omega
  have e : wR t a (T6 (tkS (mvS S x y z G) k x y z) p) = wR t a (va_up (va_up (va_up (T6 S p) 18 (fun _ => nI G)) 17 (fun _ => nI (x + y + z + 1))) 15 (l3 (gx k x) (gy k y) (gz k z))) := rfl
  rw [e, e1, e2]; rfl
theorem wR_gi : wR t a (T6 (giS (mvS S x y z G) (G ||| 2 ^ j)) p) = wR t a (T6 (mvS S (gx (j + 3) x) (gy (j + 3) y) (gz (j + 3) z) (gs (j + 3) G)) p) := by
  obtain ⟨e1, e2, e3, e4⟩ := gk_j (j := j) (x := x) (y := y) (z := z) (s := G)
  rw [e1, e2, e3, e4]; rfl
end
