theorem kw_loseLevel : zPkW yL_loseLevel cL_loseLevel 2 [(0, 4, 5, 38)] 1 := ⟨q_st_L_loseLevel, q_in_L, q_cw_L_loseLevel, by decide +kernel⟩
theorem kw_bonus : zPkW yL_bonus cL_bonus 4 [(0, 6, 7, 16), (0, 6, 11, 19)] 3 := ⟨q_st_L_bonus, q_in_L, q_cw_L_bonus, by decide +kernel⟩
theorem kw_level : zPkW yL_level cL_level 3 [(0, 5, 6, 16)] 2 := ⟨q_st_L_level, q_in_L, q_cw_L_level, by decide +kernel⟩
theorem kw_isRing : zPkW yL_isRing cL_isRing 3 [(0, 13, 14, 16)] 2 := ⟨q_st_L_isRing, q_in_L, q_cw_L_isRing, by decide +kernel⟩
theorem kw_value : zPkW yL_value cL_value 3 [(0, 5, 6, 16), (0, 5, 10, 38)] 2 := ⟨q_st_L_value, q_in_L, q_cw_L_value, by decide +kernel⟩
theorem kw_byOrders : zPkW yL_byOrders cL_byOrders 2 [(0, 12, 13, 38)] 1 := ⟨q_st_L_byOrders, q_in_L, q_cw_L_byOrders, by decide +kernel⟩
theorem kw_stepAt : zPkW yL_stepAt cL_stepAt 3 [(0, 5, 6, 16), (0, 5, 10, 38)] 2 := ⟨q_st_L_stepAt, q_in_L, q_cw_L_stepAt, by decide +kernel⟩
theorem kw_takeLevel : zPkW yL_takeLevel cL_takeLevel 3 [(0, 5, 6, 16), (0, 5, 10, 38)] 2 := ⟨q_st_L_takeLevel, q_in_L, q_cw_L_takeLevel, by decide +kernel⟩
theorem kw_takeGift : zPkW yL_takeGift cL_takeGift 3 [(0, 5, 6, 16), (0, 5, 10, 38)] 2 := ⟨q_st_L_takeGift, q_in_L, q_cw_L_takeGift, by decide +kernel⟩
theorem kw_setNeeds : zPkW yL_setNeeds cL_setNeeds 8 [(0, 14, 15, 16), (0, 14, 20, 19)] 7 := ⟨q_st_L_setNeeds, q_in_L, q_cw_L_setNeeds, by decide +kernel⟩
theorem kw_bar : zPkW yL_bar cL_bar 5 [(0, 8, 9, 16), (0, 8, 14, 19)] 4 := ⟨q_st_L_bar, q_in_L, q_cw_L_bar, by decide +kernel⟩
theorem kw_setBonus : zPkW yL_setBonus cL_setBonus 6 [(0, 10, 11, 16), (0, 10, 16, 19)] 5 := ⟨q_st_L_setBonus, q_in_L, q_cw_L_setBonus, by decide +kernel⟩
theorem kw_setValue : zPkW yL_setValue cL_setValue 7 [(0, 12, 13, 16), (0, 12, 18, 19)] 6 := ⟨q_st_L_setValue, q_in_L, q_cw_L_setValue, by decide +kernel⟩
theorem kw_setScore : zPkW yL_setScore cL_setScore 4 [(0, 6, 7, 16), (0, 6, 11, 19), (0, 6, 15, 38)] 3 := ⟨q_st_L_setScore, q_in_L, q_cw_L_setScore, by decide +kernel⟩
theorem kw_exchange : zPkW yL_exchange cL_exchange 4 [(0, 6, 7, 16), (0, 6, 11, 38)] 3 := ⟨q_st_L_exchange, q_in_L, q_cw_L_exchange, by decide +kernel⟩
theorem k8_at : zPk8 yL_at cL_at 2 (some .int) 2 := ⟨q_st_L_at, q_in_L, q_co_L_at, by decide +kernel⟩
theorem k8_values : zPk8 yL_values cL_values 13 (some .boolean) 4 := ⟨q_st_L_values, q_in_L, q_co_L_values, by decide +kernel⟩
theorem k8_numbers : zPk8 yL_numbers cL_numbers 8 (some .boolean) 2 := ⟨q_st_L_numbers, q_in_L, q_co_L_numbers, by decide +kernel⟩
theorem k8_levels : zPk8 yL_levels cL_levels 1 (some .int) 1 := ⟨q_st_L_levels, q_in_L, q_co_L_levels, by decide +kernel⟩
theorem k8_many : zPk8 yL_many cL_many 3 (some .int) 1 := ⟨q_st_L_many, q_in_L, q_co_L_many, by decide +kernel⟩
theorem k8_orders : zPk8 yL_orders cL_orders 9 (some .boolean) 2 := ⟨q_st_L_orders, q_in_L, q_co_L_orders, by decide +kernel⟩
theorem k8_acts : zPk8 yL_acts cL_acts 14 (some .boolean) 7 := ⟨q_st_L_acts, q_in_L, q_co_L_acts, by decide +kernel⟩
theorem k8_low : zPk8 yL_low cL_low 2 (some .int) 2 := ⟨q_st_L_low, q_in_L, q_co_L_low, by decide +kernel⟩
theorem k8_takes : zPk8 yL_takes cL_takes 7 (some .boolean) 3 := ⟨q_st_L_takes, q_in_L, q_co_L_takes, by decide +kernel⟩
theorem k8_exchanges : zPk8 yL_exchanges cL_exchanges 8 (some .boolean) 4 := ⟨q_st_L_exchanges, q_in_L, q_co_L_exchanges, by decide +kernel⟩
theorem rg_of {j lo hi : Nat} {v : Int32} (h1 : lo ≤ j) (h2 : j ≤ hi) (hh : hi < 2 ^ 31) (hv : v = nI j) : rg v (nI lo) (nI hi) := by
  subst hv
  exact ⟨(nI_leI (by omega) (by omega)).mpr h1, (nI_leI (by omega) hh).mpr h2⟩
theorem am_n {k m : Nat} (h : k < m) : am (nI k) m := ⟨k, h, rfl⟩
theorem am_of {k m : Nat} (hk : k < 2 ^ 31) (hm : m < 2 ^ 31) (h : am (nI k) m) : k < m := by
  obtain ⟨j, hj, e⟩ := h
  have := zn_inj hk (by omega) e
  omega
theorem am_no {k m : Nat} (hk : k < 2 ^ 31) (hm : m < 2 ^ 31) (h : m ≤ k) : ¬ am (nI k) m := fun q => by
  have := am_of hk hm q
  omega
theorem am_m {m : Nat} (hm : m < 2 ^ 31) : ¬ am (-1) m := fun ⟨j, hj, e⟩ => zn_m1 j (by omega) e.symm
/-- one level more -/
def tkS (S : zS) (k x y z : Nat) : zS := va_up (va_up S 17 (fun _ => nI (x + y + z + 1))) 15 (l3 (gx k x) (gy k y) (gz k z))
/-- other levels -/
def lvS (S : zS) (x y z : Nat) : zS := va_up (va_up S 17 (fun _ => nI (x + y + z))) 15 (l3 x y z)
/-- other gifts -/
abbrev giS (S : zS) (G : Nat) : zS := va_up S 18 (fun _ => nI G)
/-- other scores -/
abbrev scS (S : zS) (k j : Nat) : zS := va_up S 14 (upd (S 14) k (nI j))
abbrev pq (p : zT) : Nat → Int32 := p.2.2.2.2.2
/-- another trial, the same taken -/
abbrev pu (u : Nat × Nat × Nat × Nat × (Nat → Int32)) (p : zT) : zT := (u.1, u.2.1, u.2.2.1, u.2.2.2.1, u.2.2.2.2, pq p)
abbrev p0 (e : Nat → Int32) (p : zT) : zT := (0, 0, 0, 0, e, pq p)
theorem zP15 {t : ClassId × ClassId × ClassId} {a : Nat → Nat} {S : zS} {D : va_G} {H : Heap} {f g : Nat → Int32} (h : ∀ i, i < 3 → f i = g i) (hP : va_P D vwCl (wR t a (va_up S 15 f)) H) : va_P D vwCl (wR t a (va_up S 15 g)) H := by
  have e2 : wR t a (va_up S 15 g) = (wR t a (va_up S 15 f)).set 22 (a 22, .inl (t.1, 3, .inl g)) := rfl
  rw [e2]
  intro k q hq
  by_cases e : k = 22
  · subst e
    have hq' : (a 22, (.inl (t.1, 3, .inl g) : va_E)) = q := by
      rw [List.getElem?_set_self (by show 22 < 24; decide)] at hq
      exact Option.some.inj hq
    subst hq'
    exact zcell h (fun k q hq => by cases k with | zero => cases hq; exact hP 22 _ rfl | succ k => simp at hq) 0 _ rfl
  · rw [List.getElem?_set_ne (Ne.symm e)] at hq
    exact hP k q hq
theorem l3_gx {x y z k : Nat} (hk : k < 3) : ∀ i, i < 3 → upd (l3 x y z) k (l3 x y z k + nI 1) i = l3 (gx k x) (gy k y) (gz k z) i := by
  intro i hi
  rw [l3_up hk i hi]
  unfold gx gy gz l3
  rcases (show k = 0 ∨ k = 1 ∨ k = 2 by omega) with rfl | rfl | rfl <;> simp
theorem l3_dx {x y z k : Nat} (hk : k < 3) : ∀ i, i < 3 → upd (l3 (gx k x) (gy k y) (gz k z)) k (l3 (gx k x) (gy k y) (gz k z) k + (-1)) i = l3 x y z i := by
  refine l3_dn hk ?_ ?_ ?_
  · unfold gx; split <;> rfl
  · unfold gy; split <;> rfl
  · unfold gz; split <;> rfl
theorem w_level (l : Launch) (hfl : l.stackTraces = false) (D : va_G) (t : ClassId × ClassId × ClassId) (a : Nat → Nat) {S : zS} (p : zT) {sc : Nat → Nat} {x y z G : Nat} (h : zKs S sc x y z G) {k : Nat} (hk : k < 3) (sz : Nat) : zM7 l yL_level cL_level 3 [(0, 5, 6, 16)] 24 D t [.ref (a 0), .int (nI k)] (wR t a (T6 S p)) sz (fun r (_ : Unit) => r = l3 x y z k) (fun _ => wR t a (T6 S p)) := by
  refine (c_L_level l hfl D t sz a (T6 S p) (nI k)).imp ?_
  rintro r w9 (⟨r1, u, ⟨hu, e, hr⟩, rfl, rfl⟩ | ⟨C, u, ⟨rfl, hn⟩, -, -⟩)
  · exact ⟨(), by rw [hr, K_15 h, zn_inj (by omega) (by omega) e], fun _ q => q⟩
  · exact absurd (am_n hk) hn
theorem w_level_I (l : Launch) (hfl : l.stackTraces = false) (D : va_G) (t : ClassId × ClassId × ClassId) (a : Nat → Nat) {S : zS} (p : zT) {c : Int32} (hc : ¬ am c 3) (sz : Nat) : zM7 l yL_level cL_level 3 [(0, 5, 6, 16)] 24 D t [.ref (a 0), .int c] (wR t a (T6 S p)) sz (fun r (_ : Unit) => r = -1000001) (fun _ => wR t a (T6 S p)) := by
  refine (c_L_level l hfl D t sz a (T6 S p) c).imp ?_
  rintro r w9 (⟨r1, u, ⟨hu, e, hr⟩, rfl, rfl⟩ | ⟨C, u, ⟨rfl, hn⟩, rfl, rfl⟩)
  · exact absurd ⟨u, hu, e⟩ hc
  · exact ⟨(), zcd_I, fun _ q => q⟩
theorem w_bonus (l : Launch) (hfl : l.stackTraces = false) (D : va_G) (t : ClassId × ClassId × ClassId) (a : Nat → Nat) {S : zS} (p : zT) {sc : Nat → Nat} {x y z G : Nat} (h : zKs S sc x y z G) {v kd : Nat} (hv : v < 6) (hk : kd < 4) (sz : Nat) : zM7 l yL_bonus cL_bonus 4 [(0, 6, 7, 16), (0, 6, 11, 19)] 24 D t [.ref (a 0), .int (nI v), .int (nI kd)] (wR t a (T6 S p)) sz (fun r (_ : Unit) => r = bn S (wk S (l3 x y z) G) (nI v) (nI kd)) (fun _ => wR t a (T6 S p)) := by
  refine (c_L_bonus l hfl D t sz a (T6 S p) (nI v) (nI kd) G (K_18 h) (K_G h) (K_I6 h)).imp ?_
  rintro r w9 (⟨r1, u, ⟨h1, h2, hr⟩, rfl, rfl⟩ | ⟨C, u, (⟨rfl, hn⟩ | ⟨rfl, -, hn⟩), -, -⟩)
  · refine ⟨(), ?_, fun _ q => q⟩
    rw [hr, K_15 h, bn_ru Ru_T6]
    exact congrArg (fun w => bn S w (nI v) (nI kd)) (wk_ru Ru_T6 _ _ 64)
  · exact absurd (am_n hv) hn
  · exact absurd (am_n hk) hn
theorem w_bonus_I (l : Launch) (hfl : l.stackTraces = false) (D : va_G) (t : ClassId × ClassId × ClassId) (a : Nat → Nat) {S : zS} (p : zT) {sc : Nat → Nat} {x y z G : Nat} (h : zKs S sc x y z G) {v kd : Int32} (hv : ¬ am v 6) (sz : Nat) : zM7 l yL_bonus cL_bonus 4 [(0, 6, 7, 16), (0, 6, 11, 19)] 24 D t [.ref (a 0), .int v, .int kd] (wR t a (T6 S p)) sz (fun r (_ : Unit) => r = -1000001) (fun _ => wR t a (T6 S p)) := by
  refine (c_L_bonus l hfl D t sz a (T6 S p) v kd G (K_18 h) (K_G h) (K_I6 h)).imp ?_
  rintro r w9 (⟨r1, u, ⟨h1, h2, hr⟩, rfl, rfl⟩ | ⟨C, u, (⟨rfl, hn⟩ | ⟨rfl, h1, hn⟩), rfl, rfl⟩)
  · exact absurd h1 hv
  · exact ⟨(), zcd_I, fun _ q => q⟩
  · exact absurd h1 hv
theorem w_bonus_A (l : Launch) (hfl : l.stackTraces = false) (D : va_G) (t : ClassId × ClassId × ClassId) (a : Nat → Nat) {S : zS} (p : zT) {sc : Nat → Nat} {x y z G : Nat} (h : zKs S sc x y z G) {v kd : Int32} (hv : am v 6) (hk : ¬ am kd 4) (sz : Nat) : zM7 l yL_bonus cL_bonus 4 [(0, 6, 7, 16), (0, 6, 11, 19)] 24 D t [.ref (a 0), .int v, .int kd] (wR t a (T6 S p)) sz (fun r (_ : Unit) => r = -1000002) (fun _ => wR t a (T6 S p)) := by
  refine (c_L_bonus l hfl D t sz a (T6 S p) v kd G (K_18 h) (K_G h) (K_I6 h)).imp ?_
  rintro r w9 (⟨r1, u, ⟨h1, h2, hr⟩, rfl, rfl⟩ | ⟨C, u, (⟨rfl, hn⟩ | ⟨rfl, h1, hn⟩), rfl, rfl⟩)
  · exact absurd h2 hk
  · exact absurd hv hn
  · exact ⟨(), zcd_A, fun _ q => q⟩
theorem w_isRing (l : Launch) (hfl : l.stackTraces = false) (D : va_G) (t : ClassId × ClassId × ClassId) (a : Nat → Nat) {S : zS} (p : zT) {sc : Nat → Nat} {x y z G : Nat} (h : zKs S sc x y z G) {v : Nat} (hv : v < 6) (sz : Nat) : zM7 l yL_isRing cL_isRing 3 [(0, 13, 14, 16)] 24 D t [.ref (a 0), .int (nI v)] (wR t a (T6 S p)) sz (fun r (_ : Unit) => bz r (¬ ch S (nI v) 6 = -1)) (fun _ => wR t a (T6 S p)) := by
  refine (c_L_isRing l hfl D t sz a (T6 S p) (nI v) (K_I6 h)).imp ?_
  rintro r w9 (⟨r1, u, ⟨hu, e, hr⟩, rfl, rfl⟩ | ⟨C, u, ⟨rfl, hn⟩, -, -⟩)
  · refine ⟨(), ?_, fun _ q => q⟩
    rw [← zn_inj (by omega) (by omega) e, ch_ru Ru_T6] at hr
    exact hr
  · exact absurd (am_n hv) hn
theorem w_isRing_I (l : Launch) (hfl : l.stackTraces = false) (D : va_G) (t : ClassId × ClassId × ClassId) (a : Nat → Nat) {S : zS} (p : zT) {sc : Nat → Nat} {x y z G : Nat} (h : zKs S sc x y z G) {v : Int32} (hv : ¬ am v 6) (sz : Nat) : zM7 l yL_isRing cL_isRing 3 [(0, 13, 14, 16)] 24 D t [.ref (a 0), .int v] (wR t a (T6 S p)) sz (fun r (_ : Unit) => r = -1000001) (fun _ => wR t a (T6 S p)) := by
  refine (c_L_isRing l hfl D t sz a (T6 S p) v (K_I6 h)).imp ?_
  rintro r w9 (⟨r1, u, ⟨hu, e, hr⟩, rfl, rfl⟩ | ⟨C, u, ⟨rfl, hn⟩, rfl, rfl⟩)
  · exact absurd ⟨u, hu, e⟩ hv
  · exact ⟨(), zcd_I, fun _ q => q⟩
theorem w_value (l : Launch) (hfl : l.stackTraces = false) (D : va_G) (t : ClassId × ClassId × ClassId) (a : Nat → Nat) {S : zS} (p : zT) {sc : Nat → Nat} {x y z G : Nat} (h : zKs S sc x y z G) {v : Nat} (hv : v < 6) (hc : ch S (nI v) 6 = -1) (sz : Nat) : zM7 l yL_value cL_value 3 [(0, 5, 6, 16), (0, 5, 10, 38)] 24 D t [.ref (a 0), .int (nI v)] (wR t a (T6 S p)) sz (fun r (_ : Unit) => r = vl S (l3 x y z) (wk S (l3 x y z) G) 6 (nI v)) (fun _ => wR t a (T6 S p)) := by
  refine (c_L_value l hfl D t sz a (T6 S p) (nI v) G (K_18 h) (K_G h) (K_I6 h)).imp ?_
  rintro r w9 (⟨r1, u, ⟨hu, e, h2, hr⟩, rfl, rfl⟩ | ⟨C, u, (⟨rfl, hn⟩ | ⟨rfl, k, hk, e, hn⟩), -, -⟩)
  · refine ⟨(), ?_, fun _ q => q⟩
    rw [← zn_inj (by omega) (by omega) e, K_15 h, vl_ru Ru_T6] at hr
    rw [hr]
    exact congrArg (fun w => vl S (l3 x y z) w 6 (nI v)) (wk_ru Ru_T6 _ _ 64)
  · exact absurd (am_n hv) hn
  · rw [← zn_inj (by omega) (by omega) e, ch_ru Ru_T6] at hn
    exact absurd hc hn
theorem w_value_S (l : Launch) (hfl : l.stackTraces = false) (D : va_G) (t : ClassId × ClassId × ClassId) (a : Nat → Nat) {S : zS} (p : zT) {sc : Nat → Nat} {x y z G : Nat} (h : zKs S sc x y z G) {v : Nat} (hv : v < 6) (hc : ¬ ch S (nI v) 6 = -1) (sz : Nat) : zM7 l yL_value cL_value 3 [(0, 5, 6, 16), (0, 5, 10, 38)] 24 D t [.ref (a 0), .int (nI v)] (wR t a (T6 S p)) sz (fun r (_ : Unit) => r = -1000003) (fun _ => wR t a (T6 S p)) := by
  refine (c_L_value l hfl D t sz a (T6 S p) (nI v) G (K_18 h) (K_G h) (K_I6 h)).imp ?_
  rintro r w9 (⟨r1, u, ⟨hu, e, h2, hr⟩, rfl, rfl⟩ | ⟨C, u, (⟨rfl, hn⟩ | ⟨rfl, k, hk, e, hn⟩), rfl, rfl⟩)
  · rw [← zn_inj (by omega) (by omega) e, ch_ru Ru_T6] at h2
    exact absurd h2 hc
  · exact absurd (am_n hv) hn
  · exact ⟨(), zcd_S, fun _ q => q⟩
theorem w_value_I (l : Launch) (hfl : l.stackTraces = false) (D : va_G) (t : ClassId × ClassId × ClassId) (a : Nat → Nat) {S : zS} (p : zT) {sc : Nat → Nat} {x y z G : Nat} (h : zKs S sc x y z G) {v : Int32} (hv : ¬ am v 6) (sz : Nat) : zM7 l yL_value cL_value 3 [(0, 5, 6, 16), (0, 5, 10, 38)] 24 D t [.ref (a 0), .int v] (wR t a (T6 S p)) sz (fun r (_ : Unit) => r = -1000001) (fun _ => wR t a (T6 S p)) := by
  refine (c_L_value l hfl D t sz a (T6 S p) v G (K_18 h) (K_G h) (K_I6 h)).imp ?_
  rintro r w9 (⟨r1, u, ⟨hu, e, h2, hr⟩, rfl, rfl⟩ | ⟨C, u, (⟨rfl, hn⟩ | ⟨rfl, k, hk, e, hn⟩), rfl, rfl⟩)
  · exact absurd ⟨u, hu, e⟩ hv
  · exact ⟨(), zcd_I, fun _ q => q⟩
  · exact absurd ⟨k, hk, e⟩ hv
theorem w_byOrders (l : Launch) (hfl : l.stackTraces = false) (D : va_G) (t : ClassId × ClassId × ClassId) (a : Nat → Nat) {S : zS} (p : zT) {sc : Nat → Nat} {x y z G : Nat} (h : zKs S sc x y z G) (hc : x + y + z + p8 G ≤ 8) (sz : Nat) : zM7 l yL_byOrders cL_byOrders 2 [(0, 12, 13, 38)] 24 D t [.ref (a 0)] (wR t a (T6 S p)) sz (fun r (_ : Unit) => bz r (Rc S x y z G 0 0 0 0)) (fun _ => wR t a (T6 S (p0 p.2.2.2.2.1 p))) := by
  refine (c_L_byOrders l hfl D t sz a (va_up S 16 (pq p)) x y z G (K_15q h) (K_18q h) (K_G h) (K_X h) (K_I16 h) (K_17q h) p.1 p.2.1 p.2.2.1 p.2.2.2.1 p.2.2.2.2.1).imp ?_
  rintro r w9 (⟨r1, u, ⟨h1, h2⟩, rfl, rfl⟩ | ⟨C, u, ⟨rfl, hn⟩, -, -⟩)
  · exact ⟨(), h1.iff (Rc_ru Ru_16), fun _ q => q⟩
  · omega
theorem w_byOrders_S (l : Launch) (hfl : l.stackTraces = false) (D : va_G) (t : ClassId × ClassId × ClassId) (a : Nat → Nat) {S : zS} (p : zT) {sc : Nat → Nat} {x y z G : Nat} (h : zKs S sc x y z G) (hc : 8 < x + y + z + p8 G) (sz : Nat) : zM7 l yL_byOrders cL_byOrders 2 [(0, 12, 13, 38)] 24 D t [.ref (a 0)] (wR t a (T6 S p)) sz (fun r (_ : Unit) => r = -1000003) (fun _ => wR t a (T6 S p)) := by
  refine (c_L_byOrders l hfl D t sz a (va_up S 16 (pq p)) x y z G (K_15q h) (K_18q h) (K_G h) (K_X h) (K_I16 h) (K_17q h) p.1 p.2.1 p.2.2.1 p.2.2.2.1 p.2.2.2.2.1).imp ?_
  rintro r w9 (⟨r1, u, ⟨h1, h2⟩, rfl, rfl⟩ | ⟨C, u, ⟨rfl, hn⟩, rfl, rfl⟩)
  · omega
  · exact ⟨(), zcd_S, fun _ q => q⟩
theorem w_stepAt_I (l : Launch) (hfl : l.stackTraces = false) (D : va_G) (t : ClassId × ClassId × ClassId) (a : Nat → Nat) {S : zS} (p : zT) {sc : Nat → Nat} {x y z G : Nat} (h : zKs S sc x y z G) {v : Int32} (hv : v < 0) (sz : Nat) : zM7 l yL_stepAt cL_stepAt 3 [(0, 5, 6, 16), (0, 5, 10, 38)] 24 D t [.ref (a 0), .int v] (wR t a (T6 S p)) sz (fun r (u : Nat × Nat × Nat × Nat × (Nat → Int32)) => r = -1000001) (fun u => wR t a (T6 S (pu u p))) := by
  refine (c_L_stepAt l hfl D t sz a (va_up S 16 (pq p)) x y z G (K_15q h) (K_18q h) (K_G h) (K_X h) (K_I16 h) (K_17q h) p.1 p.2.1 p.2.2.1 p.2.2.2.1 p.2.2.2.2.1 v).imp ?_
  rintro r w9 (⟨r1, u, ⟨w, hw, e, hR, hr⟩, rfl, rfl⟩ | ⟨C, u, (⟨rfl, hn⟩ | ⟨rfl, hn, hR⟩), rfl, rfl⟩)
  · rw [e] at hv; exact absurd hv (nI_pos hw)
  · exact ⟨u, zcd_I, fun _ q => q⟩
  · exact absurd hv hn
theorem w_stepAt_S (l : Launch) (hfl : l.stackTraces = false) (D : va_G) (t : ClassId × ClassId × ClassId) (a : Nat → Nat) {S : zS} (p : zT) {sc : Nat → Nat} {x y z G : Nat} (h : zKs S sc x y z G) {v : Nat} (hv : v < 2 ^ 31) (hc : ¬ Rc S x y z G 0 0 0 0) (sz : Nat) : zM7 l yL_stepAt cL_stepAt 3 [(0, 5, 6, 16), (0, 5, 10, 38)] 24 D t [.ref (a 0), .int (nI v)] (wR t a (T6 S p)) sz (fun r (u : Nat × Nat × Nat × Nat × (Nat → Int32)) => r = -1000003) (fun u => wR t a (T6 S (pu u p))) := by
  refine (c_L_stepAt l hfl D t sz a (va_up S 16 (pq p)) x y z G (K_15q h) (K_18q h) (K_G h) (K_X h) (K_I16 h) (K_17q h) p.1 p.2.1 p.2.2.1 p.2.2.2.1 p.2.2.2.2.1 (nI v)).imp ?_
  rintro r w9 (⟨r1, u, ⟨w, hw, e, hR, hr⟩, rfl, rfl⟩ | ⟨C, u, (⟨rfl, hn⟩ | ⟨rfl, hn, hR⟩), rfl, rfl⟩)
  · exact absurd ((Rc_ru Ru_16).mp hR) hc
  · exact absurd hn (nI_pos hv)
  · exact ⟨u, zcd_S, fun _ q => q⟩
theorem w_stepAt_N (l : Launch) (hfl : l.stackTraces = false) (D : va_G) (t : ClassId × ClassId × ClassId) (a : Nat → Nat) {S : zS} (p : zT) {sc : Nat → Nat} {x y z G : Nat} (h : zKs S sc x y z G) {v : Nat} (hv : v < 2 ^ 31) (hc : Rc S x y z G 0 0 0 0) (hm : x + y + z + p8 G ≤ v) (sz : Nat) : zM7 l yL_stepAt cL_stepAt 3 [(0, 5, 6, 16), (0, 5, 10, 38)] 24 D t [.ref (a 0), .int (nI v)] (wR t a (T6 S p)) sz (fun r (u : Nat × Nat × Nat × Nat × (Nat → Int32)) => r = -1) (fun u => wR t a (T6 S (pu u p))) := by
  refine (c_L_stepAt l hfl D t sz a (va_up S 16 (pq p)) x y z G (K_15q h) (K_18q h) (K_G h) (K_X h) (K_I16 h) (K_17q h) p.1 p.2.1 p.2.2.1 p.2.2.2.1 p.2.2.2.2.1 (nI v)).imp ?_
  rintro r w9 (⟨r1, u, ⟨w, hw, e, hR, hr⟩, rfl, rfl⟩ | ⟨C, u, (⟨rfl, hn⟩ | ⟨rfl, hn, hR⟩), rfl, rfl⟩)
  · have := zn_inj hv hw e
    rcases hr with ⟨-, hr⟩ | ⟨hr, -⟩
    · exact ⟨u, hr, fun _ q => q⟩
    · omega
  · exact absurd hn (nI_pos hv)
  · exact absurd ((Rc_ru Ru_16).mpr hc) hR
theorem w_stepAt (l : Launch) (hfl : l.stackTraces = false) (D : va_G) (t : ClassId × ClassId × ClassId) (a : Nat → Nat) {S : zS} (p : zT) {sc : Nat → Nat} {x y z G : Nat} (h : zKs S sc x y z G) {v : Nat} (hv : v < 2 ^ 31) (hc : Rc S x y z G 0 0 0 0) (hm : v < x + y + z + p8 G) (sz : Nat) : zM7 l yL_stepAt cL_stepAt 3 [(0, 5, 6, 16), (0, 5, 10, 38)] 24 D t [.ref (a 0), .int (nI v)] (wR t a (T6 S p)) sz (fun r (u : Nat × Nat × Nat × Nat × (Nat → Int32)) => ∃ c k, pth S x y z G v c ∧ lead S x y z G c k ∧ r = nI (cnv k)) (fun u => wR t a (T6 S (pu u p))) := by
  refine (c_L_stepAt l hfl D t sz a (va_up S 16 (pq p)) x y z G (K_15q h) (K_18q h) (K_G h) (K_X h) (K_I16 h) (K_17q h) p.1 p.2.1 p.2.2.1 p.2.2.2.1 p.2.2.2.2.1 (nI v)).imp ?_
  rintro r w9 (⟨r1, u, ⟨w, hw, e, hR, hr⟩, rfl, rfl⟩ | ⟨C, u, (⟨rfl, hn⟩ | ⟨rfl, hn, hR⟩), rfl, rfl⟩)
  · have e2 := zn_inj hv hw e
    rcases hr with ⟨hr, -⟩ | ⟨-, c, k, h1, h2, h3⟩
    · omega
    · rw [← e2] at h1
      exact ⟨u, ⟨c, k, (pth_ru Ru_16 _ _).mp h1, (lead_ru Ru_16).mp h2, h3⟩, fun _ q => q⟩
  · exact absurd hn (nI_pos hv)
  · exact absurd ((Rc_ru Ru_16).mpr hc) hR
theorem w_takeLevel (l : Launch) (hfl : l.stackTraces = false) (D : va_G) (t : ClassId × ClassId × ClassId) (a : Nat → Nat) {S : zS} (p : zT) {sc : Nat → Nat} {x y z G : Nat} (h : zKs S sc x y z G) {k : Nat} (hk : k < 3) (hc : x + y + z < 8) (sz : Nat) : zM7 l yL_takeLevel cL_takeLevel 3 [(0, 5, 6, 16), (0, 5, 10, 38)] 24 D t [.ref (a 0), .int (nI k)] (wR t a (T6 S p)) sz (fun r (_ : Unit) => r = nI (x + y + z + 1)) (fun _ => wR t a (T6 (tkS S k x y z) (p.1, p.2.1, p.2.2.1, p.2.2.2.1, p.2.2.2.2.1, upd (pq p) (x + y + z) (nI k)))) := by
  refine (c_L_takeLevel l hfl D t sz a (T6 S p) (x + y + z) (nI k) (K_17 h) (K_X h)).imp ?_
  rintro r w9 (⟨r1, u, ⟨hu, e, hm, hr⟩, rfl, rfl⟩ | ⟨C, u, (⟨rfl, hn⟩ | ⟨rfl, hn, hm⟩), rfl, rfl⟩)
  · refine ⟨(), hr, fun H q => ?_⟩
    have e2 := zn_inj (by omega) (by omega) e
    subst e2
    have q2 : va_P D vwCl (wR t a (va_up (T6 (va_up S 17 (fun _ => nI (x + y + z + 1))) (p.1, p.2.1, p.2.2.1, p.2.2.2.1, p.2.2.2.2.1, upd (pq p) (x + y + z) (nI k))) 15 (upd (S 15) k (S 15 k + nI 1)))) H := q
    rw [show S 15 = l3 x y z from h.2.2.2.2.2.2.2] at q2
    exact zP15 (l3_gx hk) q2
  · exact absurd (am_n hk) hn
  · omega
theorem w_takeLevel_S (l : Launch) (hfl : l.stackTraces = false) (D : va_G) (t : ClassId × ClassId × ClassId) (a : Nat → Nat) {S : zS} (p : zT) {sc : Nat → Nat} {x y z G : Nat} (h : zKs S sc x y z G) {k : Nat} (hk : k < 3) (hc : x + y + z = 8) (sz : Nat) : zM7 l yL_takeLevel cL_takeLevel 3 [(0, 5, 6, 16), (0, 5, 10, 38)] 24 D t [.ref (a 0), .int (nI k)] (wR t a (T6 S p)) sz (fun r (_ : Unit) => r = -1000003) (fun _ => wR t a (T6 S p)) := by
  refine (c_L_takeLevel l hfl D t sz a (T6 S p) (x + y + z) (nI k) (K_17 h) (K_X h)).imp ?_
  rintro r w9 (⟨r1, u, ⟨hu, e, hm, hr⟩, rfl, rfl⟩ | ⟨C, u, (⟨rfl, hn⟩ | ⟨rfl, hn, hm⟩), rfl, rfl⟩)
  · omega
  · exact absurd (am_n hk) hn
  · exact ⟨(), zcd_S, fun _ q => q⟩
theorem w_takeLevel_I (l : Launch) (hfl : l.stackTraces = false) (D : va_G) (t : ClassId × ClassId × ClassId) (a : Nat → Nat) {S : zS} (p : zT) {sc : Nat → Nat} {x y z G : Nat} (h : zKs S sc x y z G) {c : Int32} (hc : ¬ am c 3) (sz : Nat) : zM7 l yL_takeLevel cL_takeLevel 3 [(0, 5, 6, 16), (0, 5, 10, 38)] 24 D t [.ref (a 0), .int c] (wR t a (T6 S p)) sz (fun r (_ : Unit) => r = -1000001) (fun _ => wR t a (T6 S p)) := by
  refine (c_L_takeLevel l hfl D t sz a (T6 S p) (x + y + z) c (K_17 h) (K_X h)).imp ?_
  rintro r w9 (⟨r1, u, ⟨hu, e, hm, hr⟩, rfl, rfl⟩ | ⟨C, u, (⟨rfl, hn⟩ | ⟨rfl, hn, hm⟩), rfl, rfl⟩)
  · exact absurd ⟨u, hu, e⟩ hc
  · exact ⟨(), zcd_I, fun _ q => q⟩
  · exact absurd hn hc
theorem w_takeGift (l : Launch) (hfl : l.stackTraces = false) (D : va_G) (t : ClassId × ClassId × ClassId) (a : Nat → Nat) {S : zS} (p : zT) {sc : Nat → Nat} {x y z G : Nat} (h : zKs S sc x y z G) {j : Nat} (hj : j < 8) (hc : mt S x y z G j) (sz : Nat) : zM7 l yL_takeGift cL_takeGift 3 [(0, 5, 6, 16), (0, 5, 10, 38)] 24 D t [.ref (a 0), .int (nI j)] (wR t a (T6 S p)) sz (fun r (_ : Unit) => r = nI (p8 (G ||| 2 ^ j))) (fun _ => wR t a (T6 (giS S (G ||| 2 ^ j)) p)) := by
  refine (c_L_takeGift l hfl D t sz a (T6 S p) x y z G (K_15 h) (K_18 h) (K_G h) (K_X h) (K_I6 h) (nI j)).imp ?_
  rintro r w9 (⟨r1, u, ⟨hu, e, hm, hr⟩, rfl, rfl⟩ | ⟨C, u, (⟨rfl, hn⟩ | ⟨rfl, k, hk, e, hn⟩), rfl, rfl⟩)
  · have e2 := zn_inj (by omega) (by omega) e
    subst e2
    exact ⟨(), hr, fun _ q => q⟩
  · exact absurd (am_n hj) hn
  · rw [← zn_inj (by omega) (by omega) e, mt_ru Ru_T6] at hn
    exact absurd hc hn
theorem w_takeGift_S (l : Launch) (hfl : l.stackTraces = false) (D : va_G) (t : ClassId × ClassId × ClassId) (a : Nat → Nat) {S : zS} (p : zT) {sc : Nat → Nat} {x y z G : Nat} (h : zKs S sc x y z G) {j : Nat} (hj : j < 8) (hc : ¬ mt S x y z G j) (sz : Nat) : zM7 l yL_takeGift cL_takeGift 3 [(0, 5, 6, 16), (0, 5, 10, 38)] 24 D t [.ref (a 0), .int (nI j)] (wR t a (T6 S p)) sz (fun r (_ : Unit) => r = -1000003) (fun _ => wR t a (T6 S p)) := by
  refine (c_L_takeGift l hfl D t sz a (T6 S p) x y z G (K_15 h) (K_18 h) (K_G h) (K_X h) (K_I6 h) (nI j)).imp ?_
  rintro r w9 (⟨r1, u, ⟨hu, e, hm, hr⟩, rfl, rfl⟩ | ⟨C, u, (⟨rfl, hn⟩ | ⟨rfl, k, hk, e, hn⟩), rfl, rfl⟩)
  · rw [← zn_inj (by omega) (by omega) e, mt_ru Ru_T6] at hm
    exact absurd hm hc
  · exact absurd (am_n hj) hn
  · exact ⟨(), zcd_S, fun _ q => q⟩
theorem w_takeGift_I (l : Launch) (hfl : l.stackTraces = false) (D : va_G) (t : ClassId × ClassId × ClassId) (a : Nat → Nat) {S : zS} (p : zT) {sc : Nat → Nat} {x y z G : Nat} (h : zKs S sc x y z G) {c : Int32} (hc : ¬ am c 8) (sz : Nat) : zM7 l yL_takeGift cL_takeGift 3 [(0, 5, 6, 16), (0, 5, 10, 38)] 24 D t [.ref (a 0), .int c] (wR t a (T6 S p)) sz (fun r (_ : Unit) => r = -1000001) (fun _ => wR t a (T6 S p)) := by
  refine (c_L_takeGift l hfl D t sz a (T6 S p) x y z G (K_15 h) (K_18 h) (K_G h) (K_X h) (K_I6 h) c).imp ?_
  rintro r w9 (⟨r1, u, ⟨hu, e, hm, hr⟩, rfl, rfl⟩ | ⟨C, u, (⟨rfl, hn⟩ | ⟨rfl, k, hk, e, hn⟩), rfl, rfl⟩)
  · exact absurd ⟨u, hu, e⟩ hc
  · exact ⟨(), zcd_I, fun _ q => q⟩
  · exact absurd ⟨k, hk, e⟩ hc
theorem w_loseLevel (l : Launch) (hfl : l.stackTraces = false) (D : va_G) (t : ClassId × ClassId × ClassId) (a : Nat → Nat) {S : zS} (p : zT) {sc : Nat → Nat} {x y z G : Nat} {x9 y9 z9 k : Nat} (h : zKs S sc x9 y9 z9 G) {tk : Nat → Nat} (hT : zTk tk (pq p) (x9 + y9 + z9)) (hk : k < 3) (hx : x9 = gx k x) (hy : y9 = gy k y) (hz : z9 = gz k z) (hm : x9 + y9 + z9 = x + y + z + 1) (htk : tk (x + y + z) = k) (sz : Nat) : zM7 l yL_loseLevel cL_loseLevel 2 [(0, 4, 5, 38)] 24 D t [.ref (a 0)] (wR t a (T6 S p)) sz (fun r (_ : Unit) => r = nI k) (fun _ => wR t a (T6 (lvS S x y z) p)) := by
  refine (c_L_loseLevel l hfl D t sz a (T6 S p) (x9 + y9 + z9) tk (K_17 h) (K_X h) hT).imp ?_
  rintro r w9 (⟨r1, u, ⟨h1, hr⟩, rfl, rfl⟩ | ⟨C, u, ⟨rfl, hn⟩, -, -⟩)
  · have e1 : x9 + y9 + z9 - 1 = x + y + z := by omega
    refine ⟨(), by rw [hr, e1, htk], fun H q => ?_⟩
    rw [e1] at q
    have q2 : va_P D vwCl (wR t a (va_up (T6 (va_up S 17 (fun _ => nI (x + y + z))) p) 15 (upd (S 15) (tk (x + y + z)) (S 15 (tk (x + y + z)) + (-1))))) H := q
    rw [show S 15 = l3 x9 y9 z9 from h.2.2.2.2.2.2.2, htk, hx, hy, hz] at q2
    exact zP15 (l3_dx hk) q2
  · omega
theorem w_loseLevel_S (l : Launch) (hfl : l.stackTraces = false) (D : va_G) (t : ClassId × ClassId × ClassId) (a : Nat → Nat) {S : zS} (p : zT) {sc : Nat → Nat} {x y z G : Nat} (h : zKs S sc x y z G) {tk : Nat → Nat} (hT : zTk tk (pq p) (x + y + z)) (hm : x + y + z = 0) (sz : Nat) : zM7 l yL_loseLevel cL_loseLevel 2 [(0, 4, 5, 38)] 24 D t [.ref (a 0)] (wR t a (T6 S p)) sz (fun r (_ : Unit) => r = -1000003) (fun _ => wR t a (T6 S p)) := by
  refine (c_L_loseLevel l hfl D t sz a (T6 S p) (x + y + z) tk (K_17 h) (K_X h) hT).imp ?_
  rintro r w9 (⟨r1, u, ⟨h1, hr⟩, rfl, rfl⟩ | ⟨C, u, ⟨rfl, hn⟩, rfl, rfl⟩)
  · omega
  · exact ⟨(), zcd_S, fun _ q => q⟩
theorem w_exchange (l : Launch) (hfl : l.stackTraces = false) (D : va_G) (t : ClassId × ClassId × ClassId) (a : Nat → Nat) {S : zS} (p : zT) {sc : Nat → Nat} {x y z G : Nat} (h : zKs S sc x y z G) {i j : Nat} (hi : i < 8) (hj : j < 8) (hb : G.testBit i = true) (hc : G.testBit j = false) (hR : Rc S x y z (exN G i j) 0 0 0 0) (sz : Nat) : zM7 l yL_exchange cL_exchange 4 [(0, 6, 7, 16), (0, 6, 11, 38)] 24 D t [.ref (a 0), .int (nI i), .int (nI j)] (wR t a (T6 S p)) sz (fun r (u : Nat → Int32) => r = nI (p8 (faN S (l3 x y z) G i j))) (fun u => wR t a (T6 (giS S (exN G i j)) (p0 u p))) := by
  refine (c_L_exchange l hfl D t sz a (va_up S 16 (pq p)) x y z G (K_15q h) (K_18q h) (K_G h) (K_X h) (K_I16 h) (K_17q h) p.1 p.2.1 p.2.2.1 p.2.2.2.1 p.2.2.2.2.1 (nI i) (nI j)).imp ?_
  rintro r w9 (⟨r1, u, ⟨h1, h2, e1, e2, b1, b2, hR9, hr⟩, rfl, rfl⟩ | ⟨C, u, (⟨rfl, hn⟩ | ⟨rfl, k, j, hk, hj, e1, e2, hn⟩), rfl, rfl⟩)
  · have f1 := zn_inj (by omega) (by omega) e1
    have f2 := zn_inj (by omega) (by omega) e2
    refine ⟨u.2.2, ?_, fun H q => ?_⟩
    · rw [hr, ← f1, ← f2, K_15q h, faN_ru Ru_16]
    · rw [f1, f2]
      exact q
  · exact absurd ⟨am_n hi, am_n hj⟩ hn
  · have f1 := zn_inj (by omega) (by omega) e1
    have f2 := zn_inj (by omega) (by omega) e2
    subst f1 f2
    exact absurd ⟨hb, hc, (Rc_ru Ru_16).mpr ‹_›⟩ hn
theorem w_exchange_S (l : Launch) (hfl : l.stackTraces = false) (D : va_G) (t : ClassId × ClassId × ClassId) (a : Nat → Nat) {S : zS} (p : zT) {sc : Nat → Nat} {x y z G : Nat} (h : zKs S sc x y z G) {i j : Nat} (hi : i < 8) (hj : j < 8) (hc : ¬ (G.testBit i = true ∧ G.testBit j = false ∧ Rc S x y z (exN G i j) 0 0 0 0)) (sz : Nat) : zM7 l yL_exchange cL_exchange 4 [(0, 6, 7, 16), (0, 6, 11, 38)] 24 D t [.ref (a 0), .int (nI i), .int (nI j)] (wR t a (T6 S p)) sz (fun r (u : Nat × Nat × Nat × Nat × (Nat → Int32)) => r = -1000003) (fun u => wR t a (T6 S (pu u p))) := by
  refine (c_L_exchange l hfl D t sz a (va_up S 16 (pq p)) x y z G (K_15q h) (K_18q h) (K_G h) (K_X h) (K_I16 h) (K_17q h) p.1 p.2.1 p.2.2.1 p.2.2.2.1 p.2.2.2.2.1 (nI i) (nI j)).imp ?_
  rintro r w9 (⟨r1, u, ⟨h1, h2, e1, e2, b1, b2, hR, hr⟩, rfl, rfl⟩ | ⟨C, u, (⟨rfl, hn⟩ | ⟨rfl, k, j, hk, hj, e1, e2, hn⟩), rfl, rfl⟩)
  · have f1 := zn_inj (by omega) (by omega) e1
    have f2 := zn_inj (by omega) (by omega) e2
    rw [← f1] at b1 hR
    rw [← f2] at b2 hR
    exact absurd ⟨b1, b2, (Rc_ru Ru_16).mp hR⟩ hc
  · exact absurd ⟨am_n hi, am_n hj⟩ hn
  · exact ⟨u, zcd_S, fun _ q => q⟩
theorem w_exchange_I (l : Launch) (hfl : l.stackTraces = false) (D : va_G) (t : ClassId × ClassId × ClassId) (a : Nat → Nat) {S : zS} (p : zT) {sc : Nat → Nat} {x y z G : Nat} (h : zKs S sc x y z G) {g o : Int32} (hc : ¬ am o 8) (sz : Nat) : zM7 l yL_exchange cL_exchange 4 [(0, 6, 7, 16), (0, 6, 11, 38)] 24 D t [.ref (a 0), .int g, .int o] (wR t a (T6 S p)) sz (fun r (u : Nat × Nat × Nat × Nat × (Nat → Int32)) => r = -1000001) (fun u => wR t a (T6 S (pu u p))) := by
  refine (c_L_exchange l hfl D t sz a (va_up S 16 (pq p)) x y z G (K_15q h) (K_18q h) (K_G h) (K_X h) (K_I16 h) (K_17q h) p.1 p.2.1 p.2.2.1 p.2.2.2.1 p.2.2.2.2.1 g o).imp ?_
  rintro r w9 (⟨r1, u, ⟨h1, h2, e1, e2, b1, b2, hR, hr⟩, rfl, rfl⟩ | ⟨C, u, (⟨rfl, hn⟩ | ⟨rfl, k, j, hk, hj, e1, e2, hn⟩), rfl, rfl⟩)
  · exact absurd ⟨_, h2, e2⟩ hc
  · exact ⟨u, zcd_I, fun _ q => q⟩
  · exact absurd ⟨_, hj, e2⟩ hc
theorem w_setNeeds (l : Launch) (hfl : l.stackTraces = false) (D : va_G) (t : ClassId × ClassId × ClassId) (a : Nat → Nat) {S : zS} (p : zT) {k : Nat} {ab s9 ca lw ot : Int32} (hk : k < 8) (h1 : nd1 (nI k) ab ca ot) (h2 : nd2 ab s9 ca lw) (sz : Nat) : zM7 l yL_setNeeds cL_setNeeds 8 [(0, 14, 15, 16), (0, 14, 20, 19)] 24 D t [.ref (a 0), .int (nI k), .int ab, .int s9, .int ca, .int lw, .int ot] (wR t a (T6 S p)) sz (fun r (_ : Unit) => r = nI 0) (fun _ => wR t a (T6 (ndS S k ab s9 ca lw ot) p)) := by
  refine (c_L_setNeeds l hfl D t sz a (T6 S p) (nI k) ab s9 ca lw ot).imp ?_
  rintro r w9 (⟨rfl, u, ⟨hu, e, h19, h29⟩, rfl⟩ | ⟨C, u, (⟨rfl, hn⟩ | ⟨rfl, hn, hn2⟩), rfl, rfl⟩)
  · refine ⟨(), rfl, fun H q => ?_⟩
    have f1 := zn_inj (by omega) (by omega) e
    subst f1
    exact q
  · exact absurd h1 hn
  · exact absurd h2 hn2
theorem w_setNeeds_A (l : Launch) (hfl : l.stackTraces = false) (D : va_G) (t : ClassId × ClassId × ClassId) (a : Nat → Nat) {S : zS} (p : zT) {g ab s9 ca lw ot : Int32} (h1 : nd1 g ab ca ot) (h2 : ¬ (nd2 ab s9 ca lw)) (sz : Nat) : zM7 l yL_setNeeds cL_setNeeds 8 [(0, 14, 15, 16), (0, 14, 20, 19)] 24 D t [.ref (a 0), .int g, .int ab, .int s9, .int ca, .int lw, .int ot] (wR t a (T6 S p)) sz (fun r (_ : Unit) => r = -1000002) (fun _ => wR t a (T6 S p)) := by
  refine (c_L_setNeeds l hfl D t sz a (T6 S p) g ab s9 ca lw ot).imp ?_
  rintro r w9 (⟨rfl, u, ⟨hu, e, h19, h29⟩, rfl⟩ | ⟨C, u, (⟨rfl, hn⟩ | ⟨rfl, hn, hn2⟩), rfl, rfl⟩)
  · exact absurd ‹nd2 ab s9 ca lw› h2
  · exact absurd h1 hn
  · exact ⟨(), zcd_A, fun _ q => q⟩
theorem w_setNeeds_I (l : Launch) (hfl : l.stackTraces = false) (D : va_G) (t : ClassId × ClassId × ClassId) (a : Nat → Nat) {S : zS} (p : zT) {g ab s9 ca lw ot : Int32} (h1 : ¬ (nd1 g ab ca ot)) (sz : Nat) : zM7 l yL_setNeeds cL_setNeeds 8 [(0, 14, 15, 16), (0, 14, 20, 19)] 24 D t [.ref (a 0), .int g, .int ab, .int s9, .int ca, .int lw, .int ot] (wR t a (T6 S p)) sz (fun r (_ : Unit) => r = -1000001) (fun _ => wR t a (T6 S p)) := by
  refine (c_L_setNeeds l hfl D t sz a (T6 S p) g ab s9 ca lw ot).imp ?_
  rintro r w9 (⟨rfl, u, ⟨hu, e, h19, h29⟩, rfl⟩ | ⟨C, u, (⟨rfl, hn⟩ | ⟨rfl, hn, hn2⟩), rfl, rfl⟩)
  · exact absurd ‹nd1 g ab ca ot› h1
  · exact ⟨(), zcd_I, fun _ q => q⟩
  · exact absurd hn h1
theorem w_bar (l : Launch) (hfl : l.stackTraces = false) (D : va_G) (t : ClassId × ClassId × ClassId) (a : Nat → Nat) {S : zS} (p : zT) {k : Nat} {ca lw : Int32} (hk : k < 8) (h1 : br1 (nI k) ca) (h2 : br2 ca lw) (sz : Nat) : zM7 l yL_bar cL_bar 5 [(0, 8, 9, 16), (0, 8, 14, 19)] 24 D t [.ref (a 0), .int (nI k), .int ca, .int lw] (wR t a (T6 S p)) sz (fun r (_ : Unit) => r = nI 0) (fun _ => wR t a (T6 (brS S k ca lw) p)) := by
  refine (c_L_bar l hfl D t sz a (T6 S p) (nI k) ca lw).imp ?_
  rintro r w9 (⟨rfl, u, ⟨hu, e, h19, h29⟩, rfl⟩ | ⟨C, u, (⟨rfl, hn⟩ | ⟨rfl, hn, hn2⟩), rfl, rfl⟩)
  · refine ⟨(), rfl, fun H q => ?_⟩
    have f1 := zn_inj (by omega) (by omega) e
    subst f1
    exact q
  · exact absurd h1 hn
  · exact absurd h2 hn2
theorem w_bar_A (l : Launch) (hfl : l.stackTraces = false) (D : va_G) (t : ClassId × ClassId × ClassId) (a : Nat → Nat) {S : zS} (p : zT) {g ca lw : Int32} (h1 : br1 g ca) (h2 : ¬ (br2 ca lw)) (sz : Nat) : zM7 l yL_bar cL_bar 5 [(0, 8, 9, 16), (0, 8, 14, 19)] 24 D t [.ref (a 0), .int g, .int ca, .int lw] (wR t a (T6 S p)) sz (fun r (_ : Unit) => r = -1000002) (fun _ => wR t a (T6 S p)) := by
  refine (c_L_bar l hfl D t sz a (T6 S p) g ca lw).imp ?_
  rintro r w9 (⟨rfl, u, ⟨hu, e, h19, h29⟩, rfl⟩ | ⟨C, u, (⟨rfl, hn⟩ | ⟨rfl, hn, hn2⟩), rfl, rfl⟩)
  · exact absurd ‹br2 ca lw› h2
  · exact absurd h1 hn
  · exact ⟨(), zcd_A, fun _ q => q⟩
theorem w_bar_I (l : Launch) (hfl : l.stackTraces = false) (D : va_G) (t : ClassId × ClassId × ClassId) (a : Nat → Nat) {S : zS} (p : zT) {g ca lw : Int32} (h1 : ¬ (br1 g ca)) (sz : Nat) : zM7 l yL_bar cL_bar 5 [(0, 8, 9, 16), (0, 8, 14, 19)] 24 D t [.ref (a 0), .int g, .int ca, .int lw] (wR t a (T6 S p)) sz (fun r (_ : Unit) => r = -1000001) (fun _ => wR t a (T6 S p)) := by
  refine (c_L_bar l hfl D t sz a (T6 S p) g ca lw).imp ?_
  rintro r w9 (⟨rfl, u, ⟨hu, e, h19, h29⟩, rfl⟩ | ⟨C, u, (⟨rfl, hn⟩ | ⟨rfl, hn, hn2⟩), rfl, rfl⟩)
  · exact absurd ‹br1 g ca› h1
  · exact ⟨(), zcd_I, fun _ q => q⟩
  · exact absurd hn h1
theorem w_setBonus (l : Launch) (hfl : l.stackTraces = false) (D : va_G) (t : ClassId × ClassId × ClassId) (a : Nat → Nat) {S : zS} (p : zT) {k : Nat} {v kd i : Int32} (hk : k < 8) (h1 : bo1 (nI k) v) (h2 : bo2 kd i) (sz : Nat) : zM7 l yL_setBonus cL_setBonus 6 [(0, 10, 11, 16), (0, 10, 16, 19)] 24 D t [.ref (a 0), .int (nI k), .int v, .int kd, .int i] (wR t a (T6 S p)) sz (fun r (_ : Unit) => r = nI 0) (fun _ => wR t a (T6 (boS S k v kd i) p)) := by
  refine (c_L_setBonus l hfl D t sz a (T6 S p) (nI k) v kd i).imp ?_
  rintro r w9 (⟨rfl, u, ⟨hu, e, hu2, e2, h19, h29⟩, rfl⟩ | ⟨C, u, (⟨rfl, hn⟩ | ⟨rfl, hn, hn2⟩), rfl, rfl⟩)
  · refine ⟨(), rfl, fun H q => ?_⟩
    obtain ⟨u1, u2⟩ := u
    have f1 : k = u1 := zn_inj (by omega) (Nat.lt_trans hu (by decide)) e
    subst f1
    have e3 : kd = nI u2 := e2
    subst e3
    exact q
  · exact absurd h1 hn
  · exact absurd h2 hn2
theorem w_setBonus_A (l : Launch) (hfl : l.stackTraces = false) (D : va_G) (t : ClassId × ClassId × ClassId) (a : Nat → Nat) {S : zS} (p : zT) {g v kd i : Int32} (h1 : bo1 g v) (h2 : ¬ (bo2 kd i)) (sz : Nat) : zM7 l yL_setBonus cL_setBonus 6 [(0, 10, 11, 16), (0, 10, 16, 19)] 24 D t [.ref (a 0), .int g, .int v, .int kd, .int i] (wR t a (T6 S p)) sz (fun r (_ : Unit) => r = -1000002) (fun _ => wR t a (T6 S p)) := by
  refine (c_L_setBonus l hfl D t sz a (T6 S p) g v kd i).imp ?_
  rintro r w9 (⟨rfl, u, ⟨hu, e, hu2, e2, h19, h29⟩, rfl⟩ | ⟨C, u, (⟨rfl, hn⟩ | ⟨rfl, hn, hn2⟩), rfl, rfl⟩)
  · exact absurd ‹bo2 kd i› h2
  · exact absurd h1 hn
  · exact ⟨(), zcd_A, fun _ q => q⟩
theorem w_setBonus_I (l : Launch) (hfl : l.stackTraces = false) (D : va_G) (t : ClassId × ClassId × ClassId) (a : Nat → Nat) {S : zS} (p : zT) {g v kd i : Int32} (h1 : ¬ (bo1 g v)) (sz : Nat) : zM7 l yL_setBonus cL_setBonus 6 [(0, 10, 11, 16), (0, 10, 16, 19)] 24 D t [.ref (a 0), .int g, .int v, .int kd, .int i] (wR t a (T6 S p)) sz (fun r (_ : Unit) => r = -1000001) (fun _ => wR t a (T6 S p)) := by
  refine (c_L_setBonus l hfl D t sz a (T6 S p) g v kd i).imp ?_
  rintro r w9 (⟨rfl, u, ⟨hu, e, hu2, e2, h19, h29⟩, rfl⟩ | ⟨C, u, (⟨rfl, hn⟩ | ⟨rfl, hn, hn2⟩), rfl, rfl⟩)
  · exact absurd ‹bo1 g v› h1
  · exact ⟨(), zcd_I, fun _ q => q⟩
  · exact absurd hn h1
theorem w_setValue (l : Launch) (hfl : l.stackTraces = false) (D : va_G) (t : ClassId × ClassId × ClassId) (a : Nat → Nat) {S : zS} (p : zT) {k : Nat} {i ab ca ot : Int32} (hk : k < 6) (h1 : va1 (nI k) ab ca ot) (h2 : va2 i) (sz : Nat) : zM7 l yL_setValue cL_setValue 7 [(0, 12, 13, 16), (0, 12, 18, 19)] 24 D t [.ref (a 0), .int (nI k), .int i, .int ab, .int ca, .int ot] (wR t a (T6 S p)) sz (fun r (_ : Unit) => r = nI 0) (fun _ => wR t a (T6 (vaS S k i ab ca ot) p)) := by
  refine (c_L_setValue l hfl D t sz a (T6 S p) (nI k) i ab ca ot).imp ?_
  rintro r w9 (⟨rfl, u, ⟨hu, e, h19, h29⟩, rfl⟩ | ⟨C, u, (⟨rfl, hn⟩ | ⟨rfl, hn, hn2⟩), rfl, rfl⟩)
  · refine ⟨(), rfl, fun H q => ?_⟩
    have f1 := zn_inj (by omega) (by omega) e
    subst f1
    exact q
  · exact absurd h1 hn
  · exact absurd h2 hn2
theorem w_setValue_A (l : Launch) (hfl : l.stackTraces = false) (D : va_G) (t : ClassId × ClassId × ClassId) (a : Nat → Nat) {S : zS} (p : zT) {v i ab ca ot : Int32} (h1 : va1 v ab ca ot) (h2 : ¬ (va2 i)) (sz : Nat) : zM7 l yL_setValue cL_setValue 7 [(0, 12, 13, 16), (0, 12, 18, 19)] 24 D t [.ref (a 0), .int v, .int i, .int ab, .int ca, .int ot] (wR t a (T6 S p)) sz (fun r (_ : Unit) => r = -1000002) (fun _ => wR t a (T6 S p)) := by
  refine (c_L_setValue l hfl D t sz a (T6 S p) v i ab ca ot).imp ?_
  rintro r w9 (⟨rfl, u, ⟨hu, e, h19, h29⟩, rfl⟩ | ⟨C, u, (⟨rfl, hn⟩ | ⟨rfl, hn, hn2⟩), rfl, rfl⟩)
  · exact absurd ‹va2 i› h2
  · exact absurd h1 hn
  · exact ⟨(), zcd_A, fun _ q => q⟩
theorem w_setValue_I (l : Launch) (hfl : l.stackTraces = false) (D : va_G) (t : ClassId × ClassId × ClassId) (a : Nat → Nat) {S : zS} (p : zT) {v i ab ca ot : Int32} (h1 : ¬ (va1 v ab ca ot)) (sz : Nat) : zM7 l yL_setValue cL_setValue 7 [(0, 12, 13, 16), (0, 12, 18, 19)] 24 D t [.ref (a 0), .int v, .int i, .int ab, .int ca, .int ot] (wR t a (T6 S p)) sz (fun r (_ : Unit) => r = -1000001) (fun _ => wR t a (T6 S p)) := by
  refine (c_L_setValue l hfl D t sz a (T6 S p) v i ab ca ot).imp ?_
  rintro r w9 (⟨rfl, u, ⟨hu, e, h19, h29⟩, rfl⟩ | ⟨C, u, (⟨rfl, hn⟩ | ⟨rfl, hn, hn2⟩), rfl, rfl⟩)
  · exact absurd ‹va1 v ab ca ot› h1
  · exact ⟨(), zcd_I, fun _ q => q⟩
  · exact absurd hn h1
theorem w_setScore (l : Launch) (hfl : l.stackTraces = false) (D : va_G) (t : ClassId × ClassId × ClassId) (a : Nat → Nat) {S : zS} (p : zT) {sc : Nat → Nat} {x y z G : Nat} (h : zKs S sc x y z G) {k j : Nat} (hk : k < 4) (h8 : 8 ≤ j) (h16 : j ≤ 16) (hc : cs4 (scU sc k j) ≤ 20) (sz : Nat) : zM7 l yL_setScore cL_setScore 4 [(0, 6, 7, 16), (0, 6, 11, 19), (0, 6, 15, 38)] 24 D t [.ref (a 0), .int (nI k), .int (nI j)] (wR t a (T6 S p)) sz (fun r (_ : Unit) => r = nI (20 - cs4 (scU sc k j))) (fun _ => wR t a (T6 (scS S k j) p)) := by
  refine (c_L_setScore l hfl D t sz a (T6 S p) sc (nI k) (nI j) (K_sc6 h) (K_c h)).imp ?_
  rintro r w9 (⟨r1, u, ⟨hu, e1, h89, h169, e2, hc9, hr⟩, rfl, rfl⟩ | ⟨C, u, (⟨rfl, hn⟩ | ⟨rfl, hn, hn2⟩ | ⟨rfl, k9, j9, hk9, e1, h89, h169, e2, hn⟩), rfl, rfl⟩)
  · obtain ⟨u1, u2⟩ := u
    have f1 : k = u1 := zn_inj (by omega) (Nat.lt_trans hu (by decide)) e1
    have f2 : j = u2 := zn_inj (by omega) (Nat.lt_of_le_of_lt h169 (by decide)) e2
    subst f1 f2
    exact ⟨(), hr, fun _ q => q⟩
  · exact absurd (am_n hk) hn
  · exact absurd (rg_of h8 h16 (by decide) rfl) hn2
  · have f1 := zn_inj (by omega) (by omega) e1
    have f2 := zn_inj (by omega) (by omega) e2
    subst f1 f2
    omega
theorem w_setScore_S (l : Launch) (hfl : l.stackTraces = false) (D : va_G) (t : ClassId × ClassId × ClassId) (a : Nat → Nat) {S : zS} (p : zT) {sc : Nat → Nat} {x y z G : Nat} (h : zKs S sc x y z G) {k j : Nat} (hk : k < 4) (h8 : 8 ≤ j) (h16 : j ≤ 16) (hc : 20 < cs4 (scU sc k j)) (sz : Nat) : zM7 l yL_setScore cL_setScore 4 [(0, 6, 7, 16), (0, 6, 11, 19), (0, 6, 15, 38)] 24 D t [.ref (a 0), .int (nI k), .int (nI j)] (wR t a (T6 S p)) sz (fun r (_ : Unit) => r = -1000003) (fun _ => wR t a (T6 S p)) := by
  refine (c_L_setScore l hfl D t sz a (T6 S p) sc (nI k) (nI j) (K_sc6 h) (K_c h)).imp ?_
  rintro r w9 (⟨r1, u, ⟨hu, e1, h89, h169, e2, hc9, hr⟩, rfl, rfl⟩ | ⟨C, u, (⟨rfl, hn⟩ | ⟨rfl, hn, hn2⟩ | ⟨rfl, k9, j9, hk9, e1, h89, h169, e2, hn⟩), rfl, rfl⟩)
  · obtain ⟨u1, u2⟩ := u
    have f1 : k = u1 := zn_inj (by omega) (Nat.lt_trans hu (by decide)) e1
    have f2 : j = u2 := zn_inj (by omega) (Nat.lt_of_le_of_lt h169 (by decide)) e2
    subst f1 f2
    exact absurd hc9 (Nat.not_le.mpr hc)
  · exact absurd (am_n hk) hn
  · exact absurd (rg_of h8 h16 (by decide) rfl) hn2
  · exact ⟨(), zcd_S, fun _ q => q⟩
theorem w_setScore_A (l : Launch) (hfl : l.stackTraces = false) (D : va_G) (t : ClassId × ClassId × ClassId) (a : Nat → Nat) {S : zS} (p : zT) {sc : Nat → Nat} {x y z G : Nat} (h : zKs S sc x y z G) {c v : Int32} (hk : am c 4) (hv : ¬ rg v (nI 8) (nI 16)) (sz : Nat) : zM7 l yL_setScore cL_setScore 4 [(0, 6, 7, 16), (0, 6, 11, 19), (0, 6, 15, 38)] 24 D t [.ref (a 0), .int c, .int v] (wR t a (T6 S p)) sz (fun r (_ : Unit) => r = -1000002) (fun _ => wR t a (T6 S p)) := by
  refine (c_L_setScore l hfl D t sz a (T6 S p) sc c v (K_sc6 h) (K_c h)).imp ?_
  rintro r w9 (⟨r1, u, ⟨hu, e1, h8, h16, e2, hc9, hr⟩, rfl, rfl⟩ | ⟨C, u, (⟨rfl, hn⟩ | ⟨rfl, hn, hn2⟩ | ⟨rfl, k9, j9, hk9, e1, h8, h16, e2, hn⟩), rfl, rfl⟩)
  · obtain ⟨u1, u2⟩ := u
    exact absurd (rg_of h8 h16 (by decide) e2) hv
  · exact absurd hk hn
  · exact ⟨(), zcd_A, fun _ q => q⟩
  · exact absurd (rg_of h8 h16 (by decide) e2) hv
theorem w_setScore_I (l : Launch) (hfl : l.stackTraces = false) (D : va_G) (t : ClassId × ClassId × ClassId) (a : Nat → Nat) {S : zS} (p : zT) {sc : Nat → Nat} {x y z G : Nat} (h : zKs S sc x y z G) {c v : Int32} (hk : ¬ am c 4) (sz : Nat) : zM7 l yL_setScore cL_setScore 4 [(0, 6, 7, 16), (0, 6, 11, 19), (0, 6, 15, 38)] 24 D t [.ref (a 0), .int c, .int v] (wR t a (T6 S p)) sz (fun r (_ : Unit) => r = -1000001) (fun _ => wR t a (T6 S p)) := by
  refine (c_L_setScore l hfl D t sz a (T6 S p) sc c v (K_sc6 h) (K_c h)).imp ?_
  rintro r w9 (⟨r1, u, ⟨hu, e1, h8, h16, e2, hc9, hr⟩, rfl, rfl⟩ | ⟨C, u, (⟨rfl, hn⟩ | ⟨rfl, hn, hn2⟩ | ⟨rfl, k9, j9, hk9, e1, h8, h16, e2, hn⟩), rfl, rfl⟩)
  · exact absurd ⟨_, hu, e1⟩ hk
  · exact ⟨(), zcd_I, fun _ q => q⟩
  · exact absurd hn hk
  · exact absurd ⟨_, hk9, e1⟩ hk
