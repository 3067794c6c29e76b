/-! the reference's small methods -/
theorem lxs {P : Int32 → Prop} {x y z : Nat} {c v : Int32} (h : v = (if c = 0 then nI x else if c = 1 then nI y else nI z)) : True := trivial
/-- the level that a calling names, as the reference picks it -/
def lx (x y z : Nat) (c : Int32) : Int32 := if c = 0 then nI x else if c = 1 then nI y else nI z
theorem lx_l3 {x y z k : Nat} (hk : k < 3) : lx x y z (nI k) = l3 x y z k := by
  rcases (show k = 0 ∨ k = 1 ∨ k = 2 by omega) with rfl | rfl | rfl <;> rfl
theorem pL_lx {S : zS} {x y z j : Nat} (h : zo (S 2 j) 3) : pL S (l3 x y z) j ↔ (S 2 j = -1 ∨ S 3 j ≤ lx x y z (S 2 j)) := by
  unfold pL
  rcases h with h | ⟨k, hk, h⟩
  · exact ⟨fun _ => Or.inl h, fun _ => Or.inl h⟩
  · rw [h, nI_clamp (by omega), lx_l3 hk]
theorem pB_lx {S : zS} {x y z j : Nat} (h : zo (S 5 j) 3) : pB S (l3 x y z) j ↔ (S 5 j = -1 ∨ lx x y z (S 5 j) ≤ S 6 j) := by
  unfold pB
  rcases h with h | ⟨k, hk, h⟩
  · exact ⟨fun _ => Or.inl h, fun _ => Or.inl h⟩
  · rw [h, nI_clamp (by omega), lx_l3 hk]
theorem hlf_nI {a : Nat} (h : a < 2 ^ 31) : hlf (nI a) = nI (a / 2) := by
  unfold hlf; exact zn_shr h (by decide)
theorem am_in {x : Int32} {m : Nat} (hm : m < 2 ^ 31) : (nI 0 ≤ x ∧ x ≤ nI m) ↔ am x (m + 1) := by
  constructor
  · intro h
    obtain ⟨k, -, h2, h3⟩ := (zr_ft (by decide) hm).mp h
    exact ⟨k, by omega, h3⟩
  · rintro ⟨k, h1, rfl⟩
    exact (zr_ft (by decide) hm).mpr ⟨k, by omega, by omega, rfl⟩
theorem zo_in {x : Int32} {m : Nat} (hm : m + 1 < 2 ^ 31) : ((-1) ≤ x ∧ x ≤ nI m) ↔ zo x (m + 1) := zr_m1 hm
set_option maxHeartbeats 4000000 in
set_option maxRecDepth 100000 in
theorem c_X4_in (l : Launch) (D : va_G) (t : ClassId × ClassId × ClassId) (v lo hi : Int32) : zM1 l yX4_in cX4_in 3 (some .boolean) 0 D t [.int v, .int lo, .int hi] ([]) (fun r => bz r (lo ≤ v ∧ v ≤ hi)) := by
  refine z_m1 (by decide +kernel) (Nat.le_of_ble_eq_true rfl) (by simp [Value.category]) ?_
  intro E X Z
  refine z_lv (lv' := [some (.int v), some (.int lo), some (.int hi)]) rfl ?_
  refine z_iload_n X dX4_in_0 rfl rfl ?_
  refine z_iload_n X dX4_in_1 rfl rfl ?_
  refine z_icmp_lt (tgt := 14) X dX4_in_2 (by decide) (fun c2 => ?_) (fun c2 => ?_)
  ·
    refine z_iconst (v := nI 0) X dX4_in_14 (by decide) ?_
    refine z_iret X Z (by decide +kernel) dX4_in_15 ?_
    first
      | exact ⟨(), bz_t ⟨Int32.not_lt.mp c2, Int32.not_lt.mp c7⟩, fun _ _ => trivial⟩
      | exact ⟨(), bz_f (fun h => Int32.not_lt.mpr h.1 c2), fun _ _ => trivial⟩
      | exact ⟨(), bz_f (fun h => Int32.not_lt.mpr h.2 c7), fun _ _ => trivial⟩
  ·
    refine z_iload_n X dX4_in_5 rfl rfl ?_
    refine z_iload_n X dX4_in_6 rfl rfl ?_
    refine z_icmp_gt (tgt := 14) X dX4_in_7 (by decide) (fun c7 => ?_) (fun c7 => ?_)
    ·
      refine z_iconst (v := nI 0) X dX4_in_14 (by decide) ?_
      refine z_iret X Z (by decide +kernel) dX4_in_15 ?_
      first
        | exact ⟨(), bz_t ⟨Int32.not_lt.mp c2, Int32.not_lt.mp c7⟩, fun _ _ => trivial⟩
        | exact ⟨(), bz_f (fun h => Int32.not_lt.mpr h.1 c2), fun _ _ => trivial⟩
        | exact ⟨(), bz_f (fun h => Int32.not_lt.mpr h.2 c7), fun _ _ => trivial⟩
    ·
      refine z_iconst (v := nI 1) X dX4_in_10 (by decide) ?_
      refine z_goto (tgt := 15) X dX4_in_11 (by decide) ?_
      refine z_iret X Z (by decide +kernel) dX4_in_15 ?_
      first
        | exact ⟨(), bz_t ⟨Int32.not_lt.mp c2, Int32.not_lt.mp c7⟩, fun _ _ => trivial⟩
        | exact ⟨(), bz_f (fun h => Int32.not_lt.mpr h.1 c2), fun _ _ => trivial⟩
        | exact ⟨(), bz_f (fun h => Int32.not_lt.mpr h.2 c7), fun _ _ => trivial⟩
set_option maxHeartbeats 4000000 in
set_option maxRecDepth 100000 in
theorem c_X4_isGift (l : Launch) (D : va_G) (t : ClassId × ClassId × ClassId) (v : Int32) : zM1 l yX4_isGift cX4_isGift 1 (some .boolean) 1 D t [.int v] ([]) (fun r => bz r (am v 8)) := by
  refine z_m1 (by decide +kernel) (Nat.le_of_ble_eq_true rfl) (by simp [Value.category]) ?_
  intro E X Z
  refine z_lv (lv' := [some (.int v)]) rfl ?_
  refine z_iload_n X dX4_isGift_0 rfl rfl ?_
  refine z_iconst (v := nI 0) X dX4_isGift_1 (by decide) ?_
  refine z_bipush (v := nI 7) X dX4_isGift_2 (by decide) ?_
  refine z_callS1 (k := 0) (n := 0) (st := []) X (c_X4_in l D t v (nI 0) (nI 7)) k_X4_in q_ml_X4_69 [] ⟨by decide, rfl⟩ (by decide) rfl rfl rfl (Nat.le_of_ble_eq_true rfl) ⟨Nat.zero_le _, Nat.zero_le _⟩ dX4_isGift_4 (fun r4 h4 => ?_)
  refine z_iret X Z h4.bool dX4_isGift_7 ?_
  exact ⟨(), h4.iff (am_in (by decide)), fun _ _ => trivial⟩
set_option maxHeartbeats 4000000 in
set_option maxRecDepth 100000 in
theorem c_X4_isCalling (l : Launch) (D : va_G) (t : ClassId × ClassId × ClassId) (v : Int32) : zM1 l yX4_isCalling cX4_isCalling 1 (some .boolean) 1 D t [.int v] ([]) (fun r => bz r (am v 3)) := by
  refine z_m1 (by decide +kernel) (Nat.le_of_ble_eq_true rfl) (by simp [Value.category]) ?_
  intro E X Z
  refine z_lv (lv' := [some (.int v)]) rfl ?_
  refine z_iload_n X dX4_isCalling_0 rfl rfl ?_
  refine z_iconst (v := nI 0) X dX4_isCalling_1 (by decide) ?_
  refine z_iconst (v := nI 2) X dX4_isCalling_2 (by decide) ?_
  refine z_callS1 (k := 0) (n := 0) (st := []) X (c_X4_in l D t v (nI 0) (nI 2)) k_X4_in q_ml_X4_69 [] ⟨by decide, rfl⟩ (by decide) rfl rfl rfl (Nat.le_of_ble_eq_true rfl) ⟨Nat.zero_le _, Nat.zero_le _⟩ dX4_isCalling_3 (fun r3 h3 => ?_)
  refine z_iret X Z h3.bool dX4_isCalling_6 ?_
  exact ⟨(), h3.iff (am_in (by decide)), fun _ _ => trivial⟩
set_option maxHeartbeats 4000000 in
set_option maxRecDepth 100000 in
theorem c_X4_isValue (l : Launch) (D : va_G) (t : ClassId × ClassId × ClassId) (v : Int32) : zM1 l yX4_isValue cX4_isValue 1 (some .boolean) 1 D t [.int v] ([]) (fun r => bz r (am v 6)) := by
  refine z_m1 (by decide +kernel) (Nat.le_of_ble_eq_true rfl) (by simp [Value.category]) ?_
  intro E X Z
  refine z_lv (lv' := [some (.int v)]) rfl ?_
  refine z_iload_n X dX4_isValue_0 rfl rfl ?_
  refine z_iconst (v := nI 0) X dX4_isValue_1 (by decide) ?_
  refine z_iconst (v := nI 5) X dX4_isValue_2 (by decide) ?_
  refine z_callS1 (k := 0) (n := 0) (st := []) X (c_X4_in l D t v (nI 0) (nI 5)) k_X4_in q_ml_X4_69 [] ⟨by decide, rfl⟩ (by decide) rfl rfl rfl (Nat.le_of_ble_eq_true rfl) ⟨Nat.zero_le _, Nat.zero_le _⟩ dX4_isValue_3 (fun r3 h3 => ?_)
  refine z_iret X Z h3.bool dX4_isValue_6 ?_
  exact ⟨(), h3.iff (am_in (by decide)), fun _ _ => trivial⟩
set_option maxHeartbeats 4000000 in
set_option maxRecDepth 100000 in
theorem c_X4_has (l : Launch) (D : va_G) (t : ClassId × ClassId × ClassId) (s j : Nat) (hs : s < 2 ^ 31) (hj : j < 32) : zM1 l yX4_has cX4_has 2 (some .boolean) 0 D t [.int (nI s), .int (nI j)] ([]) (fun r => bz r (s.testBit j = true)) := by
  refine z_m1 (by decide +kernel) (Nat.le_of_ble_eq_true rfl) (by simp [Value.category]) ?_
  intro E X Z
  refine z_lv (lv' := [some (.int (nI s)), some (.int (nI j))]) rfl ?_
  refine z_iload_n X dX4_has_0 rfl rfl ?_
  refine z_iload_n X dX4_has_1 rfl rfl ?_
  refine n_ishr X dX4_has_2 (by omega) (by omega) ?_
  refine z_iconst (v := nI 1) X dX4_has_3 (by decide) ?_
  refine n_iand X dX4_has_4 ?_
  rw [zt_bit1]
  refine z_iconst (v := nI 1) X dX4_has_5 (by decide) ?_
  refine n_icmp_ne (tgt := 13) X dX4_has_6 (by decide) (by omega) (by omega) (fun c6 => ?_) (fun c6 => ?_)
  ·
    refine z_iconst (v := nI 0) X dX4_has_13 (by decide) ?_
    refine z_iret X Z (by decide +kernel) dX4_has_14 ?_
    exact ⟨(), bz_f (fun h => c6 (zt_bit.mpr h)), fun _ _ => trivial⟩
  ·
    refine z_iconst (v := nI 1) X dX4_has_9 (by decide) ?_
    refine z_goto (tgt := 14) X dX4_has_10 (by decide) ?_
    refine z_iret X Z (by decide +kernel) dX4_has_14 ?_
    exact ⟨(), bz_t (zt_bit.mp c6), fun _ _ => trivial⟩
set_option maxHeartbeats 4000000 in
set_option maxRecDepth 100000 in
theorem c_X4_many (l : Launch) (D : va_G) (t : ClassId × ClassId × ClassId) (s : Nat) (hs : s < 2 ^ 31) : zM1 l yX4_many cX4_many 3 (some .int) 0 D t [.int (nI s)] ([]) (fun r => r = nI (p8 s)) := by
  refine z_m1 (by decide +kernel) (Nat.le_of_ble_eq_true rfl) (by simp [Value.category]) ?_
  intro E X Z
  refine z_lv (lv' := [some (.int (nI s)), none, none]) rfl ?_
  refine z_iconst (v := nI 0) X dX4_many_0 (by decide) ?_
  refine z_istore_n X dX4_many_1 rfl (Nat.le_of_ble_eq_true rfl) ?_
  refine z_lv (lv' := [some (.int (nI s)), some (.int (nI 0)), none]) rfl ?_
  refine z_iconst (v := nI 0) X dX4_many_2 (by decide) ?_
  refine z_istore_n X dX4_many_3 rfl (Nat.le_of_ble_eq_true rfl) ?_
  refine z_lv (lv' := [some (.int (nI s)), some (.int (nI 0)), some (.int (nI 0))]) rfl ?_
  refine Wz.less (lv' := [some (.int (nI s)), some (.int (nI (pcN s 0))), some (.int (nI 0))]) (by simp [zle] <;> rfl) ?_
  refine zl_up 8 (fun j => Wz E 0 0 4 [some (.int (nI s)), some (.int (nI (pcN s j))), some (.int (nI j))] [] ([])) ?_ ?_ 0 (by omega)
  ·
    refine z_iload_n X dX4_many_4 rfl rfl ?_
    refine z_bipush (v := nI 8) X dX4_many_5 (by decide) ?_
    refine n_icmp_ge (tgt := 24) X dX4_many_7 (by decide) (by omega) (by omega) (fun _ => ?_) (fun c7 => absurd c7 (by decide))
    refine z_iload_n X dX4_many_24 rfl rfl ?_
    refine z_iret X Z rfl dX4_many_25 ?_
    exact ⟨(), rfl, fun _ _ => trivial⟩
  ·
    intro j hj ihj
    refine z_iload_n X dX4_many_4 rfl rfl ?_
    refine z_bipush (v := nI 8) X dX4_many_5 (by decide) ?_
    refine n_icmp_ge (tgt := 24) X dX4_many_7 (by decide) (by omega) (by omega) (fun c7 => absurd c7 (by omega)) (fun _ => ?_)
    refine z_iload_n X dX4_many_10 rfl rfl ?_
    refine z_iload_n X dX4_many_11 rfl rfl ?_
    refine z_iload_n X dX4_many_12 rfl rfl ?_
    refine n_ishr X dX4_many_13 (by omega) (by omega) ?_
    refine z_iconst (v := nI 1) X dX4_many_14 (by decide) ?_
    refine n_iand X dX4_many_15 ?_
    rw [zt_bit1]
    refine n_iadd X dX4_many_16 ?_
    refine z_istore_n X dX4_many_17 rfl (Nat.le_of_ble_eq_true rfl) ?_
    refine z_lv (lv' := [some (.int (nI s)), some (.int (nI ((pcN s j) + (s / 2 ^ j % 2)))), some (.int (nI j))]) rfl ?_
    refine z_iinc (v := nI (j + 1)) X dX4_many_18 rfl (nI_add j 1) ?_
    refine z_lv (lv' := [some (.int (nI s)), some (.int (nI ((pcN s j) + (s / 2 ^ j % 2)))), some (.int (nI (j + 1)))]) rfl ?_
    refine z_goto (tgt := 4) X dX4_many_21 (by decide) ?_
    refine Wz.less (lv' := [some (.int (nI s)), some (.int (nI (pcN s (j + 1)))), some (.int (nI (j + 1)))]) (by simp [zle] <;> rfl) ?_
    exact ihj
set_option maxHeartbeats 4000000 in
set_option maxRecDepth 100000 in
theorem c_X4_half (l : Launch) (D : va_G) (t : ClassId × ClassId × ClassId) (v : Int32) : zM1 l yX4_half cX4_half 1 (some .int) 0 D t [.int v] ([]) (fun r => r = hlf v) := by
  refine z_m1 (by decide +kernel) (Nat.le_of_ble_eq_true rfl) (by simp [Value.category]) ?_
  intro E X Z
  refine z_lv (lv' := [some (.int v)]) rfl ?_
  refine z_iload_n X dX4_half_0 rfl rfl ?_
  refine z_iconst (v := nI 1) X dX4_half_1 (by decide) ?_
  refine z_ishr X dX4_half_2 ?_
  refine z_iret X Z rfl dX4_half_3 ?_
  exact ⟨(), rfl, fun _ _ => trivial⟩
set_option maxHeartbeats 4000000 in
set_option maxRecDepth 100000 in
theorem c_X4_costOf (l : Launch) (D : va_G) (t : ClassId × ClassId × ClassId) (k : Nat) (h8 : 8 ≤ k) (h16 : k ≤ 16) : zM1 l yX4_costOf cX4_costOf 1 (some .int) 0 D t [.int (nI k)] ([]) (fun r => r = nI (cst k)) := by
  refine z_m1 (by decide +kernel) (Nat.le_of_ble_eq_true rfl) (by simp [Value.category]) ?_
  intro E X Z
  refine z_lv (lv' := [some (.int (nI k))]) rfl ?_
  refine z_iload_n X dX4_costOf_0 rfl rfl ?_
  refine z_bipush (v := nI 8) X dX4_costOf_1 (by decide) ?_
  refine n_isub X dX4_costOf_3 (by omega) ?_
  refine z_iload_n X dX4_costOf_4 rfl rfl ?_
  refine z_bipush (v := nI 12) X dX4_costOf_5 (by decide) ?_
  refine n_icmp_le (tgt := 17) X dX4_costOf_7 (by decide) (by omega) (by omega) (fun c7 => ?_) (fun c7 => ?_)
  ·
    refine z_iconst (v := nI 0) X dX4_costOf_17 (by decide) ?_
    refine n_iadd X dX4_costOf_18 ?_
    refine z_iret X Z rfl dX4_costOf_19 ?_
    exact ⟨(), congrArg nI (by unfold cst; omega), fun _ _ => trivial⟩
  ·
    refine z_iload_n X dX4_costOf_10 rfl rfl ?_
    refine z_bipush (v := nI 12) X dX4_costOf_11 (by decide) ?_
    refine n_isub X dX4_costOf_13 (by omega) ?_
    refine z_goto (tgt := 18) X dX4_costOf_14 (by decide) ?_
    refine n_iadd X dX4_costOf_18 ?_
    refine z_iret X Z rfl dX4_costOf_19 ?_
    exact ⟨(), congrArg nI (by unfold cst; omega), fun _ _ => trivial⟩
def csN (sc : Nat → Nat) : Nat → Nat
  | 0 => 0
  | k + 1 => csN sc k + cst (sc k)
theorem csN_4 (sc : Nat → Nat) : csN sc 4 = cs4 sc := by unfold cs4; simp [csN]
set_option maxHeartbeats 4000000 in
set_option maxRecDepth 100000 in
theorem c_X4_cost (l : Launch) (D : va_G) (t : ClassId × ClassId × ClassId) (b : Nat → Nat) (S : zS) (sc : Nat → Nat) (hsc : zSc S sc) : zM1 l yX4_cost cX4_cost 3 (some .int) 1 D t [.ref (b 0)] (wM t b S) (fun r => r = nI (cs4 sc)) := by
  refine z_m1 (by decide +kernel) (Nat.le_of_ble_eq_true rfl) (by simp [Value.category]) ?_
  intro E X Z
  refine z_lv (lv' := [some (.ref (b 0)), none, none]) rfl ?_
  refine z_iconst (v := nI 0) X dX4_cost_0 (by decide) ?_
  refine z_istore_n X dX4_cost_1 rfl (Nat.le_of_ble_eq_true rfl) ?_
  refine z_lv (lv' := [some (.ref (b 0)), some (.int (nI 0)), none]) rfl ?_
  refine z_iconst (v := nI 0) X dX4_cost_2 (by decide) ?_
  refine z_istore_n X dX4_cost_3 rfl (Nat.le_of_ble_eq_true rfl) ?_
  refine z_lv (lv' := [some (.ref (b 0)), some (.int (nI 0)), some (.int (nI 0))]) rfl ?_
  refine Wz.less (lv' := [some (.ref (b 0)), some (.int (nI (csN sc 0))), some (.int (nI 0))]) (by simp [zle] <;> rfl) ?_
  refine zl_up 4 (fun j => Wz E 0 0 4 [some (.ref (b 0)), some (.int (nI (csN sc j))), some (.int (nI j))] [] (wM t b S)) ?_ ?_ 0 (by omega)
  ·
    refine z_iload_n X dX4_cost_4 rfl rfl ?_
    refine z_iconst (v := nI 4) X dX4_cost_5 (by decide) ?_
    refine n_icmp_ge (tgt := 27) X dX4_cost_6 (by decide) (by omega) (by omega) (fun _ => ?_) (fun c6 => absurd c6 (by decide))
    refine z_iload_n X dX4_cost_27 rfl rfl ?_
    refine z_iret X Z rfl dX4_cost_28 ?_
    exact ⟨(), congrArg nI (csN_4 sc), fun _ _ => trivial⟩
  ·
    intro j hj ihj
    obtain ⟨e9, l9, u9⟩ := hsc j hj
    refine z_iload_n X dX4_cost_4 rfl rfl ?_
    refine z_iconst (v := nI 4) X dX4_cost_5 (by decide) ?_
    refine n_icmp_ge (tgt := 27) X dX4_cost_6 (by decide) (by omega) (by omega) (fun c6 => absurd c6 (by omega)) (fun _ => ?_)
    refine z_iload_n X dX4_cost_9 rfl rfl ?_
    refine z_aload_n X dX4_cost_10 rfl rfl ?_
    refine z_get X (C := RX4) (T := TX4) (N := 21) (ci := 4) (v := .ref (b 1)) inZ4 0 0 rfl rfl (by decide) q_fl_X4_7 rfl rfl dX4_cost_11 ?_
    refine z_iload_n X dX4_cost_14 rfl rfl ?_
    refine n_iald (f := S 14) X 1 rfl (by omega) (by decide) dX4_cost_15 ?_
    refine z_top (y := nI (sc j)) (e9) ?_
    refine z_callS1 (k := 0) (n := 0) (st := [.int (nI (csN sc j))]) X (c_X4_costOf l D t (sc j) (by omega) (by omega)) k_X4_costOf q_ml_X4_84 [] ⟨by decide, rfl⟩ (by decide) rfl rfl rfl (Nat.le_of_ble_eq_true rfl) ⟨Nat.zero_le _, Nat.zero_le _⟩ dX4_cost_16 (fun r16 h16 => ?_)
    subst h16
    refine n_iadd X dX4_cost_19 ?_
    refine z_istore_n X dX4_cost_20 rfl (Nat.le_of_ble_eq_true rfl) ?_
    refine z_lv (lv' := [some (.ref (b 0)), some (.int (nI ((csN sc j) + (cst (sc j))))), some (.int (nI j))]) rfl ?_
    refine z_iinc (v := nI (j + 1)) X dX4_cost_21 rfl (nI_add j 1) ?_
    refine z_lv (lv' := [some (.ref (b 0)), some (.int (nI ((csN sc j) + (cst (sc j))))), some (.int (nI (j + 1)))]) rfl ?_
    refine z_goto (tgt := 4) X dX4_cost_24 (by decide) ?_
    refine Wz.less (lv' := [some (.ref (b 0)), some (.int (nI (csN sc (j + 1)))), some (.int (nI (j + 1)))]) (by simp [zle] <;> rfl) ?_
    exact ihj
set_option maxHeartbeats 4000000 in
set_option maxRecDepth 100000 in
theorem c_X4_thrown (l : Launch) (D : va_G) (t : ClassId × ClassId × ClassId) (b : Nat → Nat) (S : zS) : zM1 l yX4_thrown cX4_thrown 1 (some .int) 1 D t [.ref (b 0)] (wM t b S) (fun r => r = S 23 0) := by
  refine z_m1 (by decide +kernel) (Nat.le_of_ble_eq_true rfl) (by simp [Value.category]) ?_
  intro E X Z
  refine z_lv (lv' := [some (.ref (b 0))]) rfl ?_
  refine z_aload_n X dX4_thrown_0 rfl rfl ?_
  refine z_get X (C := RX4) (T := TX4) (N := 21) (ci := 4) (v := .int (S 23 0)) inZ4 0 20 rfl rfl (by decide) q_fl_X4_65 rfl rfl dX4_thrown_1 ?_
  refine z_iret X Z rfl dX4_thrown_4 ?_
  exact ⟨(), rfl, fun _ _ => trivial⟩
set_option maxHeartbeats 4000000 in
set_option maxRecDepth 100000 in
theorem c_X4_told (l : Launch) (D : va_G) (t : ClassId × ClassId × ClassId) (b : Nat → Nat) (S : zS) (v : Int32) : zM2 l yX4_told cX4_told 2 (some .int) 1 D t [.ref (b 0), .int v] (wM t b S) (fun r (_ : Unit) => r = v) (fun _ => wM t b (va_up S 23 (fun _ => nI 0))) := by
  refine z_m2 (by decide +kernel) (Nat.le_of_ble_eq_true rfl) (by simp [Value.category]) ?_
  intro E X Z Y
  refine z_lv (lv' := [some (.ref (b 0)), some (.int v)]) rfl ?_
  refine z_aload_n X dX4_told_0 rfl rfl ?_
  refine z_iconst (v := nI 0) X dX4_told_1 (by decide) ?_
  refine z_put X Y (C := RX4) (T := TX4) (N := 21) (ci := 4) (ty := .int) inZ4 tyX4 tyX4_ok nmX4 0 20 aM_eq rfl rfl (by decide) q_fl_X4_65 rfl rfl (by decide +kernel) rfl rfl (Nat.le_of_ble_eq_true rfl) dX4_told_2 ?_
  refine Wz.eq (uM_23 (v := nI 0)) ?_
  refine z_iload_n X dX4_told_5 rfl rfl ?_
  refine z_iret X Z rfl dX4_told_6 ?_
  exact ⟨(), rfl, fun q hq => hq⟩
set_option maxHeartbeats 4000000 in
set_option maxRecDepth 100000 in
theorem c_X4_goes (l : Launch) (D : va_G) (t : ClassId × ClassId × ClassId) (b : Nat → Nat) (S : zS) (r1 r2 r3 : Int32) (P1 P2 P3 : Prop) (b1 : bz r1 P1) (b2 : bz r2 P2) (b3 : bz r3 P3) : zM2 l yX4_goes cX4_goes 4 (some .boolean) 1 D t [.ref (b 0), .int r1, .int r2, .int r3] (wM t b S) (fun r (u : Nat) => (u = 0 ∧ r = nI 1 ∧ P1 ∧ P2 ∧ P3) ∨ (u = 1 ∧ r = nI 0 ∧ ¬ P1) ∨ (u = 2 ∧ r = nI 0 ∧ P1 ∧ ¬ P2) ∨ (u = 3 ∧ r = nI 0 ∧ P1 ∧ P2 ∧ ¬ P3)) (fun u => wM t b (va_up S 23 (fun _ => nI u))) := by
  refine z_m2 (by decide +kernel) (Nat.le_of_ble_eq_true rfl) (by simp [Value.category]) ?_
  intro E X Z Y
  refine z_lv (lv' := [some (.ref (b 0)), some (.int r1), some (.int r2), some (.int r3)]) rfl ?_
  rcases b1 with ⟨rfl, b1⟩ | ⟨rfl, b1⟩
  ·
    refine z_aload_n X dX4_goes_0 rfl rfl ?_
    refine z_iload_n X dX4_goes_1 rfl rfl ?_
    refine n_if_ne (tgt := 9) X dX4_goes_2 (by decide) (by omega) (fun _ => ?_) (fun c2 => absurd c2 (by decide))
    rcases b2 with ⟨rfl, b2⟩ | ⟨rfl, b2⟩
    ·
      refine z_iload_n X dX4_goes_9 rfl rfl ?_
      refine n_if_ne (tgt := 17) X dX4_goes_10 (by decide) (by omega) (fun _ => ?_) (fun c10 => absurd c10 (by decide))
      rcases b3 with ⟨rfl, b3⟩ | ⟨rfl, b3⟩
      ·
        refine z_iload_n X dX4_goes_17 rfl rfl ?_
        refine n_if_ne (tgt := 25) X dX4_goes_18 (by decide) (by omega) (fun _ => ?_) (fun c18 => absurd c18 (by decide))
        refine z_iconst (v := nI 0) X dX4_goes_25 (by decide) ?_
        refine z_put X Y (C := RX4) (T := TX4) (N := 21) (ci := 4) (ty := .int) inZ4 tyX4 tyX4_ok nmX4 0 20 aM_eq rfl rfl (by decide) q_fl_X4_65 rfl rfl (by decide +kernel) rfl rfl (Nat.le_of_ble_eq_true rfl) dX4_goes_26 ?_
        refine Wz.eq (uM_23 (v := nI 0)) ?_
        refine z_aload_n X dX4_goes_29 rfl rfl ?_
        refine z_get X (C := RX4) (T := TX4) (N := 21) (ci := 4) (v := .int (nI 0)) inZ4 0 20 rfl rfl (by decide) q_fl_X4_65 rfl rfl dX4_goes_30 ?_
        refine n_if_ne (tgt := 40) X dX4_goes_33 (by decide) (by omega) (fun c33 => absurd c33 (by decide)) (fun _ => ?_)
        refine z_iconst (v := nI 1) X dX4_goes_36 (by decide) ?_
        refine z_goto (tgt := 41) X dX4_goes_37 (by decide) ?_
        refine z_iret X Z (by decide +kernel) dX4_goes_41 ?_
        first
          | exact ⟨0, Or.inl ⟨rfl, rfl, b1, b2, b3⟩, fun q hq => hq⟩
          | exact ⟨1, Or.inr (Or.inl ⟨rfl, rfl, b1⟩), fun q hq => hq⟩
          | exact ⟨2, Or.inr (Or.inr (Or.inl ⟨rfl, rfl, b1, b2⟩)), fun q hq => hq⟩
          | exact ⟨3, Or.inr (Or.inr (Or.inr ⟨rfl, rfl, b1, b2, b3⟩)), fun q hq => hq⟩
      ·
        refine z_iload_n X dX4_goes_17 rfl rfl ?_
        refine n_if_ne (tgt := 25) X dX4_goes_18 (by decide) (by omega) (fun c18 => absurd c18 (by decide)) (fun _ => ?_)
        refine z_iconst (v := nI 3) X dX4_goes_21 (by decide) ?_
        refine z_goto (tgt := 26) X dX4_goes_22 (by decide) ?_
        refine z_put X Y (C := RX4) (T := TX4) (N := 21) (ci := 4) (ty := .int) inZ4 tyX4 tyX4_ok nmX4 0 20 aM_eq rfl rfl (by decide) q_fl_X4_65 rfl rfl (by decide +kernel) rfl rfl (Nat.le_of_ble_eq_true rfl) dX4_goes_26 ?_
        refine Wz.eq (uM_23 (v := nI 3)) ?_
        refine z_aload_n X dX4_goes_29 rfl rfl ?_
        refine z_get X (C := RX4) (T := TX4) (N := 21) (ci := 4) (v := .int (nI 3)) inZ4 0 20 rfl rfl (by decide) q_fl_X4_65 rfl rfl dX4_goes_30 ?_
        refine n_if_ne (tgt := 40) X dX4_goes_33 (by decide) (by omega) (fun _ => ?_) (fun c33 => absurd c33 (by decide))
        refine z_iconst (v := nI 0) X dX4_goes_40 (by decide) ?_
        refine z_iret X Z (by decide +kernel) dX4_goes_41 ?_
        first
          | exact ⟨0, Or.inl ⟨rfl, rfl, b1, b2, b3⟩, fun q hq => hq⟩
          | exact ⟨1, Or.inr (Or.inl ⟨rfl, rfl, b1⟩), fun q hq => hq⟩
          | exact ⟨2, Or.inr (Or.inr (Or.inl ⟨rfl, rfl, b1, b2⟩)), fun q hq => hq⟩
          | exact ⟨3, Or.inr (Or.inr (Or.inr ⟨rfl, rfl, b1, b2, b3⟩)), fun q hq => hq⟩
    ·
      refine z_iload_n X dX4_goes_9 rfl rfl ?_
      refine n_if_ne (tgt := 17) X dX4_goes_10 (by decide) (by omega) (fun c10 => absurd c10 (by decide)) (fun _ => ?_)
      refine z_iconst (v := nI 2) X dX4_goes_13 (by decide) ?_
      refine z_goto (tgt := 26) X dX4_goes_14 (by decide) ?_
      refine z_put X Y (C := RX4) (T := TX4) (N := 21) (ci := 4) (ty := .int) inZ4 tyX4 tyX4_ok nmX4 0 20 aM_eq rfl rfl (by decide) q_fl_X4_65 rfl rfl (by decide +kernel) rfl rfl (Nat.le_of_ble_eq_true rfl) dX4_goes_26 ?_
      refine Wz.eq (uM_23 (v := nI 2)) ?_
      refine z_aload_n X dX4_goes_29 rfl rfl ?_
      refine z_get X (C := RX4) (T := TX4) (N := 21) (ci := 4) (v := .int (nI 2)) inZ4 0 20 rfl rfl (by decide) q_fl_X4_65 rfl rfl dX4_goes_30 ?_
      refine n_if_ne (tgt := 40) X dX4_goes_33 (by decide) (by omega) (fun _ => ?_) (fun c33 => absurd c33 (by decide))
      refine z_iconst (v := nI 0) X dX4_goes_40 (by decide) ?_
      refine z_iret X Z (by decide +kernel) dX4_goes_41 ?_
      first
        | exact ⟨0, Or.inl ⟨rfl, rfl, b1, b2, b3⟩, fun q hq => hq⟩
        | exact ⟨1, Or.inr (Or.inl ⟨rfl, rfl, b1⟩), fun q hq => hq⟩
        | exact ⟨2, Or.inr (Or.inr (Or.inl ⟨rfl, rfl, b1, b2⟩)), fun q hq => hq⟩
        | exact ⟨3, Or.inr (Or.inr (Or.inr ⟨rfl, rfl, b1, b2, b3⟩)), fun q hq => hq⟩
  ·
    refine z_aload_n X dX4_goes_0 rfl rfl ?_
    refine z_iload_n X dX4_goes_1 rfl rfl ?_
    refine n_if_ne (tgt := 9) X dX4_goes_2 (by decide) (by omega) (fun c2 => absurd c2 (by decide)) (fun _ => ?_)
    refine z_iconst (v := nI 1) X dX4_goes_5 (by decide) ?_
    refine z_goto (tgt := 26) X dX4_goes_6 (by decide) ?_
    refine z_put X Y (C := RX4) (T := TX4) (N := 21) (ci := 4) (ty := .int) inZ4 tyX4 tyX4_ok nmX4 0 20 aM_eq rfl rfl (by decide) q_fl_X4_65 rfl rfl (by decide +kernel) rfl rfl (Nat.le_of_ble_eq_true rfl) dX4_goes_26 ?_
    refine Wz.eq (uM_23 (v := nI 1)) ?_
    refine z_aload_n X dX4_goes_29 rfl rfl ?_
    refine z_get X (C := RX4) (T := TX4) (N := 21) (ci := 4) (v := .int (nI 1)) inZ4 0 20 rfl rfl (by decide) q_fl_X4_65 rfl rfl dX4_goes_30 ?_
    refine n_if_ne (tgt := 40) X dX4_goes_33 (by decide) (by omega) (fun _ => ?_) (fun c33 => absurd c33 (by decide))
    refine z_iconst (v := nI 0) X dX4_goes_40 (by decide) ?_
    refine z_iret X Z (by decide +kernel) dX4_goes_41 ?_
    first
      | exact ⟨0, Or.inl ⟨rfl, rfl, b1, b2, b3⟩, fun q hq => hq⟩
      | exact ⟨1, Or.inr (Or.inl ⟨rfl, rfl, b1⟩), fun q hq => hq⟩
      | exact ⟨2, Or.inr (Or.inr (Or.inl ⟨rfl, rfl, b1, b2⟩)), fun q hq => hq⟩
      | exact ⟨3, Or.inr (Or.inr (Or.inr ⟨rfl, rfl, b1, b2, b3⟩)), fun q hq => hq⟩
set_option maxHeartbeats 4000000 in
set_option maxRecDepth 100000 in
theorem c_X4_areScores (l : Launch) (D : va_G) (t : ClassId × ClassId × ClassId) (b : Nat → Nat) (S : zS) (j : Nat) (hj : j < 8) (hI : zI S) : zM1 l yX4_areScores cX4_areScores 2 (some .boolean) 0 D t [.ref (b 0), .int (nI j)] (wM t b S) (fun r => bz r (pS S j)) := by
  refine z_m1 (by decide +kernel) (Nat.le_of_ble_eq_true rfl) (by simp [Value.category]) ?_
  intro E X Z
  refine z_lv (lv' := [some (.ref (b 0)), some (.int (nI j))]) rfl ?_
  rcases hI.1 j hj with h0 | ⟨k, hk, h0⟩
  ·
    refine z_aload_n X dX4_areScores_0 rfl rfl ?_
    refine z_get X (C := RX4) (T := TX4) (N := 21) (ci := 4) (v := .ref (b 4)) inZ4 0 5 rfl rfl (by decide) q_fl_X4_19 rfl rfl dX4_areScores_1 ?_
    refine z_iload_n X dX4_areScores_4 rfl rfl ?_
    refine n_iald (f := S 0) X 4 rfl (by omega) (by decide) dX4_areScores_5 ?_
    refine z_top (y := (-1)) (h0) ?_
    refine z_iconst (v := (-1)) X dX4_areScores_6 (by decide) ?_
    refine z_icmp_eq (tgt := 30) X dX4_areScores_7 (by decide) (fun _ => ?_) (fun c7 => absurd c7 (by decide))
    refine z_iconst (v := nI 1) X dX4_areScores_30 (by decide) ?_
    refine z_goto (tgt := 35) X dX4_areScores_31 (by decide) ?_
    refine z_iret X Z (by decide +kernel) dX4_areScores_35 ?_
    first
      | exact ⟨(), bz_t (Or.inl h0), fun _ _ => trivial⟩
      | exact ⟨(), bz_t ((pS_k h0 (by omega)).mpr (i_le c27)), fun _ _ => trivial⟩
      | exact ⟨(), bz_f (fun h => i_nle c27 ((pS_k h0 (by omega)).mp h)), fun _ _ => trivial⟩
  ·
    refine z_aload_n X dX4_areScores_0 rfl rfl ?_
    refine z_get X (C := RX4) (T := TX4) (N := 21) (ci := 4) (v := .ref (b 4)) inZ4 0 5 rfl rfl (by decide) q_fl_X4_19 rfl rfl dX4_areScores_1 ?_
    refine z_iload_n X dX4_areScores_4 rfl rfl ?_
    refine n_iald (f := S 0) X 4 rfl (by omega) (by decide) dX4_areScores_5 ?_
    refine z_top (y := nI k) (h0) ?_
    refine z_iconst (v := (-1)) X dX4_areScores_6 (by decide) ?_
    refine z_icmp_eq (tgt := 30) X dX4_areScores_7 (by decide) (fun c7 => absurd c7 (zn_m1 k (by omega))) (fun c7 => ?_)
    refine z_aload_n X dX4_areScores_10 rfl rfl ?_
    refine z_get X (C := RX4) (T := TX4) (N := 21) (ci := 4) (v := .ref (b 1)) inZ4 0 0 rfl rfl (by decide) q_fl_X4_7 rfl rfl dX4_areScores_11 ?_
    refine z_aload_n X dX4_areScores_14 rfl rfl ?_
    refine z_get X (C := RX4) (T := TX4) (N := 21) (ci := 4) (v := .ref (b 4)) inZ4 0 5 rfl rfl (by decide) q_fl_X4_19 rfl rfl dX4_areScores_15 ?_
    refine z_iload_n X dX4_areScores_18 rfl rfl ?_
    refine n_iald (f := S 0) X 4 rfl (by omega) (by decide) dX4_areScores_19 ?_
    refine z_top (y := nI k) (h0) ?_
    refine n_iald (f := S 14) X 1 rfl (by omega) (by decide) dX4_areScores_20 ?_
    refine z_aload_n X dX4_areScores_21 rfl rfl ?_
    refine z_get X (C := RX4) (T := TX4) (N := 21) (ci := 4) (v := .ref (b 5)) inZ4 0 6 rfl rfl (by decide) q_fl_X4_22 rfl rfl dX4_areScores_22 ?_
    refine z_iload_n X dX4_areScores_25 rfl rfl ?_
    refine n_iald (f := S 1) X 5 rfl (by omega) (by decide) dX4_areScores_26 ?_
    refine z_icmp_lt (tgt := 34) X dX4_areScores_27 (by decide) (fun c27 => ?_) (fun c27 => ?_)
    ·
      refine z_iconst (v := nI 0) X dX4_areScores_34 (by decide) ?_
      refine z_iret X Z (by decide +kernel) dX4_areScores_35 ?_
      first
        | exact ⟨(), bz_t (Or.inl h0), fun _ _ => trivial⟩
        | exact ⟨(), bz_t ((pS_k h0 (by omega)).mpr (i_le c27)), fun _ _ => trivial⟩
        | exact ⟨(), bz_f (fun h => i_nle c27 ((pS_k h0 (by omega)).mp h)), fun _ _ => trivial⟩
    ·
      refine z_iconst (v := nI 1) X dX4_areScores_30 (by decide) ?_
      refine z_goto (tgt := 35) X dX4_areScores_31 (by decide) ?_
      refine z_iret X Z (by decide +kernel) dX4_areScores_35 ?_
      first
        | exact ⟨(), bz_t (Or.inl h0), fun _ _ => trivial⟩
        | exact ⟨(), bz_t ((pS_k h0 (by omega)).mpr (i_le c27)), fun _ _ => trivial⟩
        | exact ⟨(), bz_f (fun h => i_nle c27 ((pS_k h0 (by omega)).mp h)), fun _ _ => trivial⟩
set_option maxHeartbeats 4000000 in
set_option maxRecDepth 100000 in
theorem c_X4_place (l : Launch) (D : va_G) (t : ClassId × ClassId × ClassId) (b : Nat → Nat) (S : zS) (Xn Yn Zn : Nat) (h15 : S 15 = l3 Xn Yn Zn) (x y z s : Nat) : zM1 l yX4_place cX4_place 5 (some .int) 0 D t [.ref (b 0), .int (nI x), .int (nI y), .int (nI z), .int (nI s)] (wM t b S) (fun r => r = nI (ix Yn Zn x y z s)) := by
  refine z_m1 (by decide +kernel) (Nat.le_of_ble_eq_true rfl) (by simp [Value.category]) ?_
  intro E X Z
  refine z_lv (lv' := [some (.ref (b 0)), some (.int (nI x)), some (.int (nI y)), some (.int (nI z)), some (.int (nI s))]) rfl ?_
  refine z_sipush (v := nI 256) X dX4_place_0 (by decide) ?_
  refine z_iload_n X dX4_place_3 rfl rfl ?_
  refine z_aload_n X dX4_place_4 rfl rfl ?_
  refine z_get X (C := RX4) (T := TX4) (N := 21) (ci := 4) (v := .ref (b 3)) inZ4 0 2 rfl rfl (by decide) q_fl_X4_16 rfl rfl dX4_place_5 ?_
  refine z_iconst (v := nI 1) X dX4_place_8 (by decide) ?_
  refine n_iald (f := S 15) X 3 rfl (by omega) (by decide) dX4_place_9 ?_
  refine z_top (y := nI Yn) (by rw [h15]; rfl) ?_
  refine z_iconst (v := nI 1) X dX4_place_10 (by decide) ?_
  refine n_iadd X dX4_place_11 ?_
  refine n_imul X dX4_place_12 ?_
  refine z_iload_n X dX4_place_13 rfl rfl ?_
  refine n_iadd X dX4_place_14 ?_
  refine z_aload_n X dX4_place_15 rfl rfl ?_
  refine z_get X (C := RX4) (T := TX4) (N := 21) (ci := 4) (v := .ref (b 3)) inZ4 0 2 rfl rfl (by decide) q_fl_X4_16 rfl rfl dX4_place_16 ?_
  refine z_iconst (v := nI 2) X dX4_place_19 (by decide) ?_
  refine n_iald (f := S 15) X 3 rfl (by omega) (by decide) dX4_place_20 ?_
  refine z_top (y := nI Zn) (by rw [h15]; rfl) ?_
  refine z_iconst (v := nI 1) X dX4_place_21 (by decide) ?_
  refine n_iadd X dX4_place_22 ?_
  refine n_imul X dX4_place_23 ?_
  refine z_iload_n X dX4_place_24 rfl rfl ?_
  refine n_iadd X dX4_place_25 ?_
  refine n_imul X dX4_place_26 ?_
  refine z_iload X dX4_place_27 rfl ?_
  refine n_iadd X dX4_place_29 ?_
  refine z_iret X Z rfl dX4_place_30 ?_
  exact ⟨(), congrArg nI (by unfold ix stg; rw [Nat.mul_comm 256]), fun _ _ => trivial⟩
set_option maxHeartbeats 4000000 in
set_option maxRecDepth 100000 in
theorem c_X4_mayTake (l : Launch) (D : va_G) (t : ClassId × ClassId × ClassId) (b : Nat → Nat) (S : zS) (j x y z s : Nat) (hj : j < 8) (hs : s < 256) (hx : x + y + z ≤ 8) (hI : zI S) : zM1 l yX4_mayTake cX4_mayTake 12 (some .boolean) 1 D t [.ref (b 0), .int (nI j), .int (nI x), .int (nI y), .int (nI z), .int (nI s)] (wM t b S) (fun r => bz r (mt S x y z s j)) := by
  refine z_m1 (by decide +kernel) (Nat.le_of_ble_eq_true rfl) (by simp [Value.category]) ?_
  intro E X Z
  refine z_lv (lv' := [some (.ref (b 0)), some (.int (nI j)), some (.int (nI x)), some (.int (nI y)), some (.int (nI z)), some (.int (nI s)), none, none, none, none, none, none]) rfl ?_
  refine z_aload_n X dX4_mayTake_0 rfl rfl ?_
  refine z_get X (C := RX4) (T := TX4) (N := 21) (ci := 4) (v := .ref (b 6)) inZ4 0 7 rfl rfl (by decide) q_fl_X4_25 rfl rfl dX4_mayTake_1 ?_
  refine z_iload_n X dX4_mayTake_4 rfl rfl ?_
  refine n_iald (f := S 2) X 6 rfl (by omega) (by decide) dX4_mayTake_5 ?_
  refine z_istore X dX4_mayTake_6 (Nat.le_of_ble_eq_true rfl) ?_
  refine z_lv (lv' := [some (.ref (b 0)), some (.int (nI j)), some (.int (nI x)), some (.int (nI y)), some (.int (nI z)), some (.int (nI s)), some (.int (S 2 j)), none, none, none, none, none]) rfl ?_
  refine z_aload_n X dX4_mayTake_8 rfl rfl ?_
  refine z_get X (C := RX4) (T := TX4) (N := 21) (ci := 4) (v := .ref (b 9)) inZ4 0 10 rfl rfl (by decide) q_fl_X4_34 rfl rfl dX4_mayTake_9 ?_
  refine z_iload_n X dX4_mayTake_12 rfl rfl ?_
  refine n_iald (f := S 5) X 9 rfl (by omega) (by decide) dX4_mayTake_13 ?_
  refine z_istore X dX4_mayTake_14 (Nat.le_of_ble_eq_true rfl) ?_
  refine z_lv (lv' := [some (.ref (b 0)), some (.int (nI j)), some (.int (nI x)), some (.int (nI y)), some (.int (nI z)), some (.int (nI s)), some (.int (S 2 j)), some (.int (S 5 j)), none, none, none, none]) rfl ?_
  have jv1 : ∀ (v1 : Int32), v1 = lx x y z (S 2 j) → Wz E 0 0 37 [some (.ref (b 0)), some (.int (nI j)), some (.int (nI x)), some (.int (nI y)), some (.int (nI z)), some (.int (nI s)), some (.int (S 2 j)), some (.int (S 5 j)), none, none, none, none] [.int v1] (wM t b S) := by
    intro v1 hjv1
    refine z_istore X dX4_mayTake_37 (Nat.le_of_ble_eq_true rfl) ?_
    refine z_lv (lv' := [some (.ref (b 0)), some (.int (nI j)), some (.int (nI x)), some (.int (nI y)), some (.int (nI z)), some (.int (nI s)), some (.int (S 2 j)), some (.int (S 5 j)), some (.int v1), none, none, none]) rfl ?_
    have jv2 : ∀ (v2 : Int32), v2 = lx x y z (S 5 j) → Wz E 0 0 60 [some (.ref (b 0)), some (.int (nI j)), some (.int (nI x)), some (.int (nI y)), some (.int (nI z)), some (.int (nI s)), some (.int (S 2 j)), some (.int (S 5 j)), some (.int v1), none, none, none] [.int v2] (wM t b S) := by
      intro v2 hjv2
      refine z_istore X dX4_mayTake_60 (Nat.le_of_ble_eq_true rfl) ?_
      refine z_lv (lv' := [some (.ref (b 0)), some (.int (nI j)), some (.int (nI x)), some (.int (nI y)), some (.int (nI z)), some (.int (nI s)), some (.int (S 2 j)), some (.int (S 5 j)), some (.int v1), some (.int v2), none, none]) rfl ?_
      have hp8 := p8_le s hs
      have jv3 : ∀ (v3 : Int32), bz v3 (p8 s < 1 + (x + y + z) / 2) → Wz E 0 0 86 [some (.ref (b 0)), some (.int (nI j)), some (.int (nI x)), some (.int (nI y)), some (.int (nI z)), some (.int (nI s)), some (.int (S 2 j)), some (.int (S 5 j)), some (.int v1), some (.int v2), none, none] [.int v3] (wM t b S) := by
        intro v3 hjv3
        refine z_istore X dX4_mayTake_86 (Nat.le_of_ble_eq_true rfl) ?_
        refine z_lv (lv' := [some (.ref (b 0)), some (.int (nI j)), some (.int (nI x)), some (.int (nI y)), some (.int (nI z)), some (.int (nI s)), some (.int (S 2 j)), some (.int (S 5 j)), some (.int v1), some (.int v2), some (.int v3), none]) rfl ?_
        have jv4 : ∀ (v4 : Int32), bz v4 (pS S j ∧ pL S (l3 x y z) j ∧ pO S s j) → Wz E 0 0 142 [some (.ref (b 0)), some (.int (nI j)), some (.int (nI x)), some (.int (nI y)), some (.int (nI z)), some (.int (nI s)), some (.int (S 2 j)), some (.int (S 5 j)), some (.int v1), some (.int v2), some (.int v3), none] [.int v4] (wM t b S) := by
          intro v4 hjv4
          refine z_istore X dX4_mayTake_142 (Nat.le_of_ble_eq_true rfl) ?_
          refine z_lv (lv' := [some (.ref (b 0)), some (.int (nI j)), some (.int (nI x)), some (.int (nI y)), some (.int (nI z)), some (.int (nI s)), some (.int (S 2 j)), some (.int (S 5 j)), some (.int v1), some (.int v2), some (.int v3), some (.int v4)]) rfl ?_
          refine z_iload X dX4_mayTake_144 rfl ?_
          refine z_iload_n X dX4_mayTake_146 rfl rfl ?_
          refine z_callS1 (k := 0) (n := 0) (st := []) X (c_X4_has l D t s j (by omega) (by omega)) k_X4_has q_ml_X4_107 [] ⟨by decide, rfl⟩ (by decide) rfl rfl rfl (Nat.le_of_ble_eq_true rfl) ⟨Nat.zero_le _, Nat.zero_le _⟩ dX4_mayTake_147 (fun r147 h147 => ?_)
          rcases h147 with ⟨rfl, h147⟩ | ⟨rfl, h147⟩
          ·
            refine n_if_ne (tgt := 184) X dX4_mayTake_150 (by decide) (by omega) (fun _ => ?_) (fun c150 => absurd c150 (by decide))
            refine z_iconst (v := nI 0) X dX4_mayTake_184 (by decide) ?_
            refine z_iret X Z (by decide +kernel) dX4_mayTake_185 ?_
            first
              | exact ⟨(), bz_t ⟨by simpa using h147, hjv3, hjv4.1, hjv4.2.1, hjv4.2.2, (pB_lx (hI.2.2.2.1 j hj)).mpr (Or.inl c166)⟩, fun _ _ => trivial⟩
              | exact ⟨(), bz_t ⟨by simpa using h147, hjv3, hjv4.1, hjv4.2.1, hjv4.2.2, (pB_lx (hI.2.2.2.1 j hj)).mpr (Or.inr (by rw [← hjv2]; exact i_le c177))⟩, fun _ _ => trivial⟩
              | exact ⟨(), bz_f (fun h => by have q := h.1; rw [h147] at q; cases q), fun _ _ => trivial⟩
              | exact ⟨(), bz_f (fun h => hjv3 h.2.1), fun _ _ => trivial⟩
              | exact ⟨(), bz_f (fun h => hjv4 ⟨h.2.2.1, h.2.2.2.1, h.2.2.2.2.1⟩), fun _ _ => trivial⟩
              | exact ⟨(), bz_f (fun h => ((pB_lx (hI.2.2.2.1 j hj)).mp h.2.2.2.2.2).elim c166 (fun q => by rw [← hjv2] at q; exact i_nle c177 q)), fun _ _ => trivial⟩
          ·
            refine n_if_ne (tgt := 184) X dX4_mayTake_150 (by decide) (by omega) (fun c150 => absurd c150 (by decide)) (fun _ => ?_)
            rcases hjv3 with ⟨rfl, hjv3⟩ | ⟨rfl, hjv3⟩
            ·
              refine z_iload X dX4_mayTake_153 rfl ?_
              refine n_if_eq (tgt := 184) X dX4_mayTake_155 (by decide) (by omega) (fun c155 => absurd c155 (by decide)) (fun _ => ?_)
              rcases hjv4 with ⟨rfl, hjv4⟩ | ⟨rfl, hjv4⟩
              ·
                refine z_iload X dX4_mayTake_158 rfl ?_
                refine n_if_eq (tgt := 184) X dX4_mayTake_160 (by decide) (by omega) (fun c160 => absurd c160 (by decide)) (fun _ => ?_)
                refine z_iload X dX4_mayTake_163 rfl ?_
                refine z_iconst (v := (-1)) X dX4_mayTake_165 (by decide) ?_
                refine z_icmp_eq (tgt := 180) X dX4_mayTake_166 (by decide) (fun c166 => ?_) (fun c166 => ?_)
                ·
                  refine z_iconst (v := nI 1) X dX4_mayTake_180 (by decide) ?_
                  refine z_goto (tgt := 185) X dX4_mayTake_181 (by decide) ?_
                  refine z_iret X Z (by decide +kernel) dX4_mayTake_185 ?_
                  first
                    | exact ⟨(), bz_t ⟨by simpa using h147, hjv3, hjv4.1, hjv4.2.1, hjv4.2.2, (pB_lx (hI.2.2.2.1 j hj)).mpr (Or.inl c166)⟩, fun _ _ => trivial⟩
                    | exact ⟨(), bz_t ⟨by simpa using h147, hjv3, hjv4.1, hjv4.2.1, hjv4.2.2, (pB_lx (hI.2.2.2.1 j hj)).mpr (Or.inr (by rw [← hjv2]; exact i_le c177))⟩, fun _ _ => trivial⟩
                    | exact ⟨(), bz_f (fun h => by have q := h.1; rw [h147] at q; cases q), fun _ _ => trivial⟩
                    | exact ⟨(), bz_f (fun h => hjv3 h.2.1), fun _ _ => trivial⟩
                    | exact ⟨(), bz_f (fun h => hjv4 ⟨h.2.2.1, h.2.2.2.1, h.2.2.2.2.1⟩), fun _ _ => trivial⟩
                    | exact ⟨(), bz_f (fun h => ((pB_lx (hI.2.2.2.1 j hj)).mp h.2.2.2.2.2).elim c166 (fun q => by rw [← hjv2] at q; exact i_nle c177 q)), fun _ _ => trivial⟩
                ·
                  refine z_iload X dX4_mayTake_169 rfl ?_
                  refine z_aload_n X dX4_mayTake_171 rfl rfl ?_
                  refine z_get X (C := RX4) (T := TX4) (N := 21) (ci := 4) (v := .ref (b 10)) inZ4 0 11 rfl rfl (by decide) q_fl_X4_37 rfl rfl dX4_mayTake_172 ?_
                  refine z_iload_n X dX4_mayTake_175 rfl rfl ?_
                  refine n_iald (f := S 6) X 10 rfl (by omega) (by decide) dX4_mayTake_176 ?_
                  refine z_icmp_gt (tgt := 184) X dX4_mayTake_177 (by decide) (fun c177 => ?_) (fun c177 => ?_)
                  ·
                    refine z_iconst (v := nI 0) X dX4_mayTake_184 (by decide) ?_
                    refine z_iret X Z (by decide +kernel) dX4_mayTake_185 ?_
                    first
                      | exact ⟨(), bz_t ⟨by simpa using h147, hjv3, hjv4.1, hjv4.2.1, hjv4.2.2, (pB_lx (hI.2.2.2.1 j hj)).mpr (Or.inl c166)⟩, fun _ _ => trivial⟩
                      | exact ⟨(), bz_t ⟨by simpa using h147, hjv3, hjv4.1, hjv4.2.1, hjv4.2.2, (pB_lx (hI.2.2.2.1 j hj)).mpr (Or.inr (by rw [← hjv2]; exact i_le c177))⟩, fun _ _ => trivial⟩
                      | exact ⟨(), bz_f (fun h => by have q := h.1; rw [h147] at q; cases q), fun _ _ => trivial⟩
                      | exact ⟨(), bz_f (fun h => hjv3 h.2.1), fun _ _ => trivial⟩
                      | exact ⟨(), bz_f (fun h => hjv4 ⟨h.2.2.1, h.2.2.2.1, h.2.2.2.2.1⟩), fun _ _ => trivial⟩
                      | exact ⟨(), bz_f (fun h => ((pB_lx (hI.2.2.2.1 j hj)).mp h.2.2.2.2.2).elim c166 (fun q => by rw [← hjv2] at q; exact i_nle c177 q)), fun _ _ => trivial⟩
                  ·
                    refine z_iconst (v := nI 1) X dX4_mayTake_180 (by decide) ?_
                    refine z_goto (tgt := 185) X dX4_mayTake_181 (by decide) ?_
                    refine z_iret X Z (by decide +kernel) dX4_mayTake_185 ?_
                    first
                      | exact ⟨(), bz_t ⟨by simpa using h147, hjv3, hjv4.1, hjv4.2.1, hjv4.2.2, (pB_lx (hI.2.2.2.1 j hj)).mpr (Or.inl c166)⟩, fun _ _ => trivial⟩
                      | exact ⟨(), bz_t ⟨by simpa using h147, hjv3, hjv4.1, hjv4.2.1, hjv4.2.2, (pB_lx (hI.2.2.2.1 j hj)).mpr (Or.inr (by rw [← hjv2]; exact i_le c177))⟩, fun _ _ => trivial⟩
                      | exact ⟨(), bz_f (fun h => by have q := h.1; rw [h147] at q; cases q), fun _ _ => trivial⟩
                      | exact ⟨(), bz_f (fun h => hjv3 h.2.1), fun _ _ => trivial⟩
                      | exact ⟨(), bz_f (fun h => hjv4 ⟨h.2.2.1, h.2.2.2.1, h.2.2.2.2.1⟩), fun _ _ => trivial⟩
                      | exact ⟨(), bz_f (fun h => ((pB_lx (hI.2.2.2.1 j hj)).mp h.2.2.2.2.2).elim c166 (fun q => by rw [← hjv2] at q; exact i_nle c177 q)), fun _ _ => trivial⟩
              ·
                refine z_iload X dX4_mayTake_158 rfl ?_
                refine n_if_eq (tgt := 184) X dX4_mayTake_160 (by decide) (by omega) (fun _ => ?_) (fun c160 => absurd c160 (by decide))
                refine z_iconst (v := nI 0) X dX4_mayTake_184 (by decide) ?_
                refine z_iret X Z (by decide +kernel) dX4_mayTake_185 ?_
                first
                  | exact ⟨(), bz_t ⟨by simpa using h147, hjv3, hjv4.1, hjv4.2.1, hjv4.2.2, (pB_lx (hI.2.2.2.1 j hj)).mpr (Or.inl c166)⟩, fun _ _ => trivial⟩
                  | exact ⟨(), bz_t ⟨by simpa using h147, hjv3, hjv4.1, hjv4.2.1, hjv4.2.2, (pB_lx (hI.2.2.2.1 j hj)).mpr (Or.inr (by rw [← hjv2]; exact i_le c177))⟩, fun _ _ => trivial⟩
                  | exact ⟨(), bz_f (fun h => by have q := h.1; rw [h147] at q; cases q), fun _ _ => trivial⟩
                  | exact ⟨(), bz_f (fun h => hjv3 h.2.1), fun _ _ => trivial⟩
                  | exact ⟨(), bz_f (fun h => hjv4 ⟨h.2.2.1, h.2.2.2.1, h.2.2.2.2.1⟩), fun _ _ => trivial⟩
                  | exact ⟨(), bz_f (fun h => ((pB_lx (hI.2.2.2.1 j hj)).mp h.2.2.2.2.2).elim c166 (fun q => by rw [← hjv2] at q; exact i_nle c177 q)), fun _ _ => trivial⟩
            ·
              refine z_iload X dX4_mayTake_153 rfl ?_
              refine n_if_eq (tgt := 184) X dX4_mayTake_155 (by decide) (by omega) (fun _ => ?_) (fun c155 => absurd c155 (by decide))
              refine z_iconst (v := nI 0) X dX4_mayTake_184 (by decide) ?_
              refine z_iret X Z (by decide +kernel) dX4_mayTake_185 ?_
              first
                | exact ⟨(), bz_t ⟨by simpa using h147, hjv3, hjv4.1, hjv4.2.1, hjv4.2.2, (pB_lx (hI.2.2.2.1 j hj)).mpr (Or.inl c166)⟩, fun _ _ => trivial⟩
                | exact ⟨(), bz_t ⟨by simpa using h147, hjv3, hjv4.1, hjv4.2.1, hjv4.2.2, (pB_lx (hI.2.2.2.1 j hj)).mpr (Or.inr (by rw [← hjv2]; exact i_le c177))⟩, fun _ _ => trivial⟩
                | exact ⟨(), bz_f (fun h => by have q := h.1; rw [h147] at q; cases q), fun _ _ => trivial⟩
                | exact ⟨(), bz_f (fun h => hjv3 h.2.1), fun _ _ => trivial⟩
                | exact ⟨(), bz_f (fun h => hjv4 ⟨h.2.2.1, h.2.2.2.1, h.2.2.2.2.1⟩), fun _ _ => trivial⟩
                | exact ⟨(), bz_f (fun h => ((pB_lx (hI.2.2.2.1 j hj)).mp h.2.2.2.2.2).elim c166 (fun q => by rw [← hjv2] at q; exact i_nle c177 q)), fun _ _ => trivial⟩
        refine z_aload_n X dX4_mayTake_88 rfl rfl ?_
        refine z_iload_n X dX4_mayTake_89 rfl rfl ?_
        refine z_callV1 (k := 0) (n := 0) (st := []) X (c_X4_areScores l D t b S j (by omega) hI) k_X4_areScores q_ml_X4_104 is19 ⟨by decide, rfl⟩ 0 4 rfl rfl (by decide) rfl rfl rfl (Nat.le_of_ble_eq_true rfl) ⟨Nat.zero_le _, Nat.zero_le _⟩ dX4_mayTake_90 (fun r90 h90 => ?_)
        rcases h90 with ⟨rfl, h90⟩ | ⟨rfl, h90⟩
        ·
          refine n_if_eq (tgt := 141) X dX4_mayTake_93 (by decide) (by omega) (fun c93 => absurd c93 (by decide)) (fun _ => ?_)
          refine z_iload X dX4_mayTake_96 rfl ?_
          refine z_iconst (v := (-1)) X dX4_mayTake_98 (by decide) ?_
          refine z_icmp_eq (tgt := 113) X dX4_mayTake_99 (by decide) (fun c99 => ?_) (fun c99 => ?_)
          ·
            rcases hI.2.2.1 j hj with h0 | ⟨k, hk, h0⟩
            ·
              refine z_aload_n X dX4_mayTake_113 rfl rfl ?_
              refine z_get X (C := RX4) (T := TX4) (N := 21) (ci := 4) (v := .ref (b 8)) inZ4 0 9 rfl rfl (by decide) q_fl_X4_31 rfl rfl dX4_mayTake_114 ?_
              refine z_iload_n X dX4_mayTake_117 rfl rfl ?_
              refine n_iald (f := S 4) X 8 rfl (by omega) (by decide) dX4_mayTake_118 ?_
              refine z_top (y := (-1)) (h0) ?_
              refine z_iconst (v := (-1)) X dX4_mayTake_119 (by decide) ?_
              refine z_icmp_eq (tgt := 137) X dX4_mayTake_120 (by decide) (fun _ => ?_) (fun c120 => absurd c120 (by decide))
              refine z_iconst (v := nI 1) X dX4_mayTake_137 (by decide) ?_
              refine z_goto (tgt := 142) X dX4_mayTake_138 (by decide) ?_
              exact jv4 (nI 1) (by
                        first
                          | exact bz_t (⟨h90, (pL_lx (hI.2.1 j hj)).mpr (Or.inl c99), Or.inl h0⟩)
                          | exact bz_t (⟨h90, (pL_lx (hI.2.1 j hj)).mpr (Or.inl c99), (pO_k h0 (by omega)).mpr h131⟩)
                          | exact bz_t (⟨h90, (pL_lx (hI.2.1 j hj)).mpr (Or.inr (by rw [← hjv1]; exact i_le c110)), Or.inl h0⟩)
                          | exact bz_t (⟨h90, (pL_lx (hI.2.1 j hj)).mpr (Or.inr (by rw [← hjv1]; exact i_le c110)), (pO_k h0 (by omega)).mpr h131⟩)
                          | exact bz_f (fun h => h90 h.1)
                          | exact bz_f (fun h => ((pL_lx (hI.2.1 j hj)).mp h.2.1).elim c99 (fun q => by rw [← hjv1] at q; exact i_nle c110 q))
                          | exact bz_f (fun h => h131 ((pO_k h0 (by omega)).mp h.2.2)))
            ·
              refine z_aload_n X dX4_mayTake_113 rfl rfl ?_
              refine z_get X (C := RX4) (T := TX4) (N := 21) (ci := 4) (v := .ref (b 8)) inZ4 0 9 rfl rfl (by decide) q_fl_X4_31 rfl rfl dX4_mayTake_114 ?_
              refine z_iload_n X dX4_mayTake_117 rfl rfl ?_
              refine n_iald (f := S 4) X 8 rfl (by omega) (by decide) dX4_mayTake_118 ?_
              refine z_top (y := nI k) (h0) ?_
              refine z_iconst (v := (-1)) X dX4_mayTake_119 (by decide) ?_
              refine z_icmp_eq (tgt := 137) X dX4_mayTake_120 (by decide) (fun c120 => absurd c120 (zn_m1 k (by omega))) (fun c120 => ?_)
              refine z_iload X dX4_mayTake_123 rfl ?_
              refine z_aload_n X dX4_mayTake_125 rfl rfl ?_
              refine z_get X (C := RX4) (T := TX4) (N := 21) (ci := 4) (v := .ref (b 8)) inZ4 0 9 rfl rfl (by decide) q_fl_X4_31 rfl rfl dX4_mayTake_126 ?_
              refine z_iload_n X dX4_mayTake_129 rfl rfl ?_
              refine n_iald (f := S 4) X 8 rfl (by omega) (by decide) dX4_mayTake_130 ?_
              refine z_top (y := nI k) (h0) ?_
              refine z_callS1 (k := 0) (n := 0) (st := []) X (c_X4_has l D t s k (by omega) (by omega)) k_X4_has q_ml_X4_107 [] ⟨by decide, rfl⟩ (by decide) rfl rfl rfl (Nat.le_of_ble_eq_true rfl) ⟨Nat.zero_le _, Nat.zero_le _⟩ dX4_mayTake_131 (fun r131 h131 => ?_)
              rcases h131 with ⟨rfl, h131⟩ | ⟨rfl, h131⟩
              ·
                refine n_if_eq (tgt := 141) X dX4_mayTake_134 (by decide) (by omega) (fun c134 => absurd c134 (by decide)) (fun _ => ?_)
                refine z_iconst (v := nI 1) X dX4_mayTake_137 (by decide) ?_
                refine z_goto (tgt := 142) X dX4_mayTake_138 (by decide) ?_
                exact jv4 (nI 1) (by
                        first
                          | exact bz_t (⟨h90, (pL_lx (hI.2.1 j hj)).mpr (Or.inl c99), Or.inl h0⟩)
                          | exact bz_t (⟨h90, (pL_lx (hI.2.1 j hj)).mpr (Or.inl c99), (pO_k h0 (by omega)).mpr h131⟩)
                          | exact bz_t (⟨h90, (pL_lx (hI.2.1 j hj)).mpr (Or.inr (by rw [← hjv1]; exact i_le c110)), Or.inl h0⟩)
                          | exact bz_t (⟨h90, (pL_lx (hI.2.1 j hj)).mpr (Or.inr (by rw [← hjv1]; exact i_le c110)), (pO_k h0 (by omega)).mpr h131⟩)
                          | exact bz_f (fun h => h90 h.1)
                          | exact bz_f (fun h => ((pL_lx (hI.2.1 j hj)).mp h.2.1).elim c99 (fun q => by rw [← hjv1] at q; exact i_nle c110 q))
                          | exact bz_f (fun h => h131 ((pO_k h0 (by omega)).mp h.2.2)))
              ·
                refine n_if_eq (tgt := 141) X dX4_mayTake_134 (by decide) (by omega) (fun _ => ?_) (fun c134 => absurd c134 (by decide))
                refine z_iconst (v := nI 0) X dX4_mayTake_141 (by decide) ?_
                exact jv4 (nI 0) (by
                        first
                          | exact bz_t (⟨h90, (pL_lx (hI.2.1 j hj)).mpr (Or.inl c99), Or.inl h0⟩)
                          | exact bz_t (⟨h90, (pL_lx (hI.2.1 j hj)).mpr (Or.inl c99), (pO_k h0 (by omega)).mpr h131⟩)
                          | exact bz_t (⟨h90, (pL_lx (hI.2.1 j hj)).mpr (Or.inr (by rw [← hjv1]; exact i_le c110)), Or.inl h0⟩)
                          | exact bz_t (⟨h90, (pL_lx (hI.2.1 j hj)).mpr (Or.inr (by rw [← hjv1]; exact i_le c110)), (pO_k h0 (by omega)).mpr h131⟩)
                          | exact bz_f (fun h => h90 h.1)
                          | exact bz_f (fun h => ((pL_lx (hI.2.1 j hj)).mp h.2.1).elim c99 (fun q => by rw [← hjv1] at q; exact i_nle c110 q))
                          | exact bz_f (fun h => h131 ((pO_k h0 (by omega)).mp h.2.2)))
          ·
            refine z_iload X dX4_mayTake_102 rfl ?_
            refine z_aload_n X dX4_mayTake_104 rfl rfl ?_
            refine z_get X (C := RX4) (T := TX4) (N := 21) (ci := 4) (v := .ref (b 7)) inZ4 0 8 rfl rfl (by decide) q_fl_X4_28 rfl rfl dX4_mayTake_105 ?_
            refine z_iload_n X dX4_mayTake_108 rfl rfl ?_
            refine n_iald (f := S 3) X 7 rfl (by omega) (by decide) dX4_mayTake_109 ?_
            refine z_icmp_lt (tgt := 141) X dX4_mayTake_110 (by decide) (fun c110 => ?_) (fun c110 => ?_)
            ·
              refine z_iconst (v := nI 0) X dX4_mayTake_141 (by decide) ?_
              exact jv4 (nI 0) (by
                        first
                          | exact bz_t (⟨h90, (pL_lx (hI.2.1 j hj)).mpr (Or.inl c99), Or.inl h0⟩)
                          | exact bz_t (⟨h90, (pL_lx (hI.2.1 j hj)).mpr (Or.inl c99), (pO_k h0 (by omega)).mpr h131⟩)
                          | exact bz_t (⟨h90, (pL_lx (hI.2.1 j hj)).mpr (Or.inr (by rw [← hjv1]; exact i_le c110)), Or.inl h0⟩)
                          | exact bz_t (⟨h90, (pL_lx (hI.2.1 j hj)).mpr (Or.inr (by rw [← hjv1]; exact i_le c110)), (pO_k h0 (by omega)).mpr h131⟩)
                          | exact bz_f (fun h => h90 h.1)
                          | exact bz_f (fun h => ((pL_lx (hI.2.1 j hj)).mp h.2.1).elim c99 (fun q => by rw [← hjv1] at q; exact i_nle c110 q))
                          | exact bz_f (fun h => h131 ((pO_k h0 (by omega)).mp h.2.2)))
            ·
              rcases hI.2.2.1 j hj with h0 | ⟨k, hk, h0⟩
              ·
                refine z_aload_n X dX4_mayTake_113 rfl rfl ?_
                refine z_get X (C := RX4) (T := TX4) (N := 21) (ci := 4) (v := .ref (b 8)) inZ4 0 9 rfl rfl (by decide) q_fl_X4_31 rfl rfl dX4_mayTake_114 ?_
                refine z_iload_n X dX4_mayTake_117 rfl rfl ?_
                refine n_iald (f := S 4) X 8 rfl (by omega) (by decide) dX4_mayTake_118 ?_
                refine z_top (y := (-1)) (h0) ?_
                refine z_iconst (v := (-1)) X dX4_mayTake_119 (by decide) ?_
                refine z_icmp_eq (tgt := 137) X dX4_mayTake_120 (by decide) (fun _ => ?_) (fun c120 => absurd c120 (by decide))
                refine z_iconst (v := nI 1) X dX4_mayTake_137 (by decide) ?_
                refine z_goto (tgt := 142) X dX4_mayTake_138 (by decide) ?_
                exact jv4 (nI 1) (by
                        first
                          | exact bz_t (⟨h90, (pL_lx (hI.2.1 j hj)).mpr (Or.inl c99), Or.inl h0⟩)
                          | exact bz_t (⟨h90, (pL_lx (hI.2.1 j hj)).mpr (Or.inl c99), (pO_k h0 (by omega)).mpr h131⟩)
                          | exact bz_t (⟨h90, (pL_lx (hI.2.1 j hj)).mpr (Or.inr (by rw [← hjv1]; exact i_le c110)), Or.inl h0⟩)
                          | exact bz_t (⟨h90, (pL_lx (hI.2.1 j hj)).mpr (Or.inr (by rw [← hjv1]; exact i_le c110)), (pO_k h0 (by omega)).mpr h131⟩)
                          | exact bz_f (fun h => h90 h.1)
                          | exact bz_f (fun h => ((pL_lx (hI.2.1 j hj)).mp h.2.1).elim c99 (fun q => by rw [← hjv1] at q; exact i_nle c110 q))
                          | exact bz_f (fun h => h131 ((pO_k h0 (by omega)).mp h.2.2)))
              ·
                refine z_aload_n X dX4_mayTake_113 rfl rfl ?_
                refine z_get X (C := RX4) (T := TX4) (N := 21) (ci := 4) (v := .ref (b 8)) inZ4 0 9 rfl rfl (by decide) q_fl_X4_31 rfl rfl dX4_mayTake_114 ?_
                refine z_iload_n X dX4_mayTake_117 rfl rfl ?_
                refine n_iald (f := S 4) X 8 rfl (by omega) (by decide) dX4_mayTake_118 ?_
                refine z_top (y := nI k) (h0) ?_
                refine z_iconst (v := (-1)) X dX4_mayTake_119 (by decide) ?_
                refine z_icmp_eq (tgt := 137) X dX4_mayTake_120 (by decide) (fun c120 => absurd c120 (zn_m1 k (by omega))) (fun c120 => ?_)
                refine z_iload X dX4_mayTake_123 rfl ?_
                refine z_aload_n X dX4_mayTake_125 rfl rfl ?_
                refine z_get X (C := RX4) (T := TX4) (N := 21) (ci := 4) (v := .ref (b 8)) inZ4 0 9 rfl rfl (by decide) q_fl_X4_31 rfl rfl dX4_mayTake_126 ?_
                refine z_iload_n X dX4_mayTake_129 rfl rfl ?_
                refine n_iald (f := S 4) X 8 rfl (by omega) (by decide) dX4_mayTake_130 ?_
                refine z_top (y := nI k) (h0) ?_
                refine z_callS1 (k := 0) (n := 0) (st := []) X (c_X4_has l D t s k (by omega) (by omega)) k_X4_has q_ml_X4_107 [] ⟨by decide, rfl⟩ (by decide) rfl rfl rfl (Nat.le_of_ble_eq_true rfl) ⟨Nat.zero_le _, Nat.zero_le _⟩ dX4_mayTake_131 (fun r131 h131 => ?_)
                rcases h131 with ⟨rfl, h131⟩ | ⟨rfl, h131⟩
                ·
                  refine n_if_eq (tgt := 141) X dX4_mayTake_134 (by decide) (by omega) (fun c134 => absurd c134 (by decide)) (fun _ => ?_)
                  refine z_iconst (v := nI 1) X dX4_mayTake_137 (by decide) ?_
                  refine z_goto (tgt := 142) X dX4_mayTake_138 (by decide) ?_
                  exact jv4 (nI 1) (by
                        first
                          | exact bz_t (⟨h90, (pL_lx (hI.2.1 j hj)).mpr (Or.inl c99), Or.inl h0⟩)
                          | exact bz_t (⟨h90, (pL_lx (hI.2.1 j hj)).mpr (Or.inl c99), (pO_k h0 (by omega)).mpr h131⟩)
                          | exact bz_t (⟨h90, (pL_lx (hI.2.1 j hj)).mpr (Or.inr (by rw [← hjv1]; exact i_le c110)), Or.inl h0⟩)
                          | exact bz_t (⟨h90, (pL_lx (hI.2.1 j hj)).mpr (Or.inr (by rw [← hjv1]; exact i_le c110)), (pO_k h0 (by omega)).mpr h131⟩)
                          | exact bz_f (fun h => h90 h.1)
                          | exact bz_f (fun h => ((pL_lx (hI.2.1 j hj)).mp h.2.1).elim c99 (fun q => by rw [← hjv1] at q; exact i_nle c110 q))
                          | exact bz_f (fun h => h131 ((pO_k h0 (by omega)).mp h.2.2)))
                ·
                  refine n_if_eq (tgt := 141) X dX4_mayTake_134 (by decide) (by omega) (fun _ => ?_) (fun c134 => absurd c134 (by decide))
                  refine z_iconst (v := nI 0) X dX4_mayTake_141 (by decide) ?_
                  exact jv4 (nI 0) (by
                        first
                          | exact bz_t (⟨h90, (pL_lx (hI.2.1 j hj)).mpr (Or.inl c99), Or.inl h0⟩)
                          | exact bz_t (⟨h90, (pL_lx (hI.2.1 j hj)).mpr (Or.inl c99), (pO_k h0 (by omega)).mpr h131⟩)
                          | exact bz_t (⟨h90, (pL_lx (hI.2.1 j hj)).mpr (Or.inr (by rw [← hjv1]; exact i_le c110)), Or.inl h0⟩)
                          | exact bz_t (⟨h90, (pL_lx (hI.2.1 j hj)).mpr (Or.inr (by rw [← hjv1]; exact i_le c110)), (pO_k h0 (by omega)).mpr h131⟩)
                          | exact bz_f (fun h => h90 h.1)
                          | exact bz_f (fun h => ((pL_lx (hI.2.1 j hj)).mp h.2.1).elim c99 (fun q => by rw [← hjv1] at q; exact i_nle c110 q))
                          | exact bz_f (fun h => h131 ((pO_k h0 (by omega)).mp h.2.2)))
        ·
          refine n_if_eq (tgt := 141) X dX4_mayTake_93 (by decide) (by omega) (fun _ => ?_) (fun c93 => absurd c93 (by decide))
          refine z_iconst (v := nI 0) X dX4_mayTake_141 (by decide) ?_
          exact jv4 (nI 0) (by
                        first
                          | exact bz_t (⟨h90, (pL_lx (hI.2.1 j hj)).mpr (Or.inl c99), Or.inl h0⟩)
                          | exact bz_t (⟨h90, (pL_lx (hI.2.1 j hj)).mpr (Or.inl c99), (pO_k h0 (by omega)).mpr h131⟩)
                          | exact bz_t (⟨h90, (pL_lx (hI.2.1 j hj)).mpr (Or.inr (by rw [← hjv1]; exact i_le c110)), Or.inl h0⟩)
                          | exact bz_t (⟨h90, (pL_lx (hI.2.1 j hj)).mpr (Or.inr (by rw [← hjv1]; exact i_le c110)), (pO_k h0 (by omega)).mpr h131⟩)
                          | exact bz_f (fun h => h90 h.1)
                          | exact bz_f (fun h => ((pL_lx (hI.2.1 j hj)).mp h.2.1).elim c99 (fun q => by rw [← hjv1] at q; exact i_nle c110 q))
                          | exact bz_f (fun h => h131 ((pO_k h0 (by omega)).mp h.2.2)))
      refine z_iload X dX4_mayTake_62 rfl ?_
      refine z_callS1 (k := 0) (n := 0) (st := []) X (c_X4_many l D t s (by omega)) k_X4_many q_ml_X4_98 [] ⟨by decide, rfl⟩ (by decide) rfl rfl rfl (Nat.le_of_ble_eq_true rfl) ⟨Nat.zero_le _, Nat.zero_le _⟩ dX4_mayTake_64 (fun r64 h64 => ?_)
      subst h64
      refine z_iconst (v := nI 1) X dX4_mayTake_67 (by decide) ?_
      refine z_iload_n X dX4_mayTake_68 rfl rfl ?_
      refine z_iload_n X dX4_mayTake_69 rfl rfl ?_
      refine n_iadd X dX4_mayTake_70 ?_
      refine z_iload X dX4_mayTake_71 rfl ?_
      refine n_iadd X dX4_mayTake_73 ?_
      refine z_callS1 (k := 0) (n := 0) (st := [.int (nI 1), .int (nI (p8 s))]) X (c_X4_half l D t (nI ((x + y) + z))) k_X4_half q_ml_X4_101 [] ⟨by decide, rfl⟩ (by decide) rfl rfl rfl (Nat.le_of_ble_eq_true rfl) ⟨Nat.zero_le _, Nat.zero_le _⟩ dX4_mayTake_74 (fun r74 h74 => ?_)
      subst h74
      refine z_top (y := nI (((x + y) + z) / 2)) (hlf_nI (by omega)) ?_
      refine n_iadd X dX4_mayTake_77 ?_
      refine n_icmp_ge (tgt := 85) X dX4_mayTake_78 (by decide) (by omega) (by omega) (fun c78 => ?_) (fun c78 => ?_)
      ·
        refine z_iconst (v := nI 0) X dX4_mayTake_85 (by decide) ?_
        exact jv3 (nI 0) (by
                      first
                        | exact bz_t (c78)
                        | exact bz_f (Nat.not_lt.mpr c78))
      ·
        refine z_iconst (v := nI 1) X dX4_mayTake_81 (by decide) ?_
        refine z_goto (tgt := 86) X dX4_mayTake_82 (by decide) ?_
        exact jv3 (nI 1) (by
                      first
                        | exact bz_t (c78)
                        | exact bz_f (Nat.not_lt.mpr c78))
    refine z_iload X dX4_mayTake_39 rfl ?_
    refine z_if_ne (tgt := 48) X dX4_mayTake_41 (by decide) (fun c41 => ?_) (fun c41 => ?_)
    ·
      refine z_iload X dX4_mayTake_48 rfl ?_
      refine z_iconst (v := nI 1) X dX4_mayTake_50 (by decide) ?_
      refine z_icmp_ne (tgt := 58) X dX4_mayTake_51 (by decide) (fun c51 => ?_) (fun c51 => ?_)
      ·
        refine z_iload X dX4_mayTake_58 rfl ?_
        exact jv2 (nI z) (by
                    first
                      | exact (if_pos c41).symm
                      | exact ((if_neg c41).trans (if_pos c51)).symm
                      | exact ((if_neg c41).trans (if_neg c51)).symm)
      ·
        refine z_iload_n X dX4_mayTake_54 rfl rfl ?_
        refine z_goto (tgt := 60) X dX4_mayTake_55 (by decide) ?_
        exact jv2 (nI y) (by
                    first
                      | exact (if_pos c41).symm
                      | exact ((if_neg c41).trans (if_pos c51)).symm
                      | exact ((if_neg c41).trans (if_neg c51)).symm)
    ·
      refine z_iload_n X dX4_mayTake_44 rfl rfl ?_
      refine z_goto (tgt := 60) X dX4_mayTake_45 (by decide) ?_
      exact jv2 (nI x) (by
                    first
                      | exact (if_pos c41).symm
                      | exact ((if_neg c41).trans (if_pos c51)).symm
                      | exact ((if_neg c41).trans (if_neg c51)).symm)
  refine z_iload X dX4_mayTake_16 rfl ?_
  refine z_if_ne (tgt := 25) X dX4_mayTake_18 (by decide) (fun c18 => ?_) (fun c18 => ?_)
  ·
    refine z_iload X dX4_mayTake_25 rfl ?_
    refine z_iconst (v := nI 1) X dX4_mayTake_27 (by decide) ?_
    refine z_icmp_ne (tgt := 35) X dX4_mayTake_28 (by decide) (fun c28 => ?_) (fun c28 => ?_)
    ·
      refine z_iload X dX4_mayTake_35 rfl ?_
      exact jv1 (nI z) (by
                  first
                    | exact (if_pos c18).symm
                    | exact ((if_neg c18).trans (if_pos c28)).symm
                    | exact ((if_neg c18).trans (if_neg c28)).symm)
    ·
      refine z_iload_n X dX4_mayTake_31 rfl rfl ?_
      refine z_goto (tgt := 37) X dX4_mayTake_32 (by decide) ?_
      exact jv1 (nI y) (by
                  first
                    | exact (if_pos c18).symm
                    | exact ((if_neg c18).trans (if_pos c28)).symm
                    | exact ((if_neg c18).trans (if_neg c28)).symm)
  ·
    refine z_iload_n X dX4_mayTake_21 rfl rfl ?_
    refine z_goto (tgt := 37) X dX4_mayTake_22 (by decide) ?_
    exact jv1 (nI x) (by
                  first
                    | exact (if_pos c18).symm
                    | exact ((if_neg c18).trans (if_pos c28)).symm
                    | exact ((if_neg c18).trans (if_neg c28)).symm)
