/-! ranges of ints -/
theorem zr_pl {x : Int32} {m : Nat} (hm : m < 2 ^ 31) : (0 ≤ x ∧ x < nI m) ↔ ∃ k, k < m ∧ x = nI k := by
  constructor
  · rintro ⟨h1, h2⟩
    obtain ⟨j, hj, rfl⟩ := nI_of (Int32.not_lt.mpr h1)
    exact ⟨j, (nI_ltI hj hm).mp h2, rfl⟩
  · rintro ⟨k, hk, rfl⟩
    exact ⟨nI_pos' (by omega), (nI_ltI (by omega) hm).mpr hk⟩
theorem zr_no {x : Int32} {m : Nat} (hm : m < 2 ^ 31) : (x = -1 ∨ (0 ≤ x ∧ x < nI m)) ↔ zo x m := by
  rw [zr_pl hm]; rfl
theorem zr_ft {x : Int32} {a b : Nat} (ha : a < 2 ^ 31) (hb : b < 2 ^ 31) : (nI a ≤ x ∧ x ≤ nI b) ↔ ∃ k, a ≤ k ∧ k ≤ b ∧ x = nI k := by
  constructor
  · rintro ⟨h1, h2⟩
    obtain ⟨j, hj, rfl⟩ := nI_of (x := x) (fun h => by
      have h3 := nI_pos' ha
      exact Int32.lt_irrefl (Int32.lt_of_le_of_lt (Int32.le_trans h3 h1) h))
    exact ⟨j, (nI_leI ha hj).mp h1, (nI_leI hj hb).mp h2, rfl⟩
  · rintro ⟨k, h1, h2, rfl⟩
    exact ⟨(nI_leI ha (by omega)).mpr h1, (nI_leI (by omega) hb).mpr h2⟩
theorem zr_m1 {x : Int32} {b : Nat} (hb : b + 1 < 2 ^ 31) : (-1 ≤ x ∧ x ≤ nI b) ↔ zo x (b + 1) := by
  constructor
  · rintro ⟨h1, h2⟩
    by_cases h : x < 0
    · left
      apply Int32.toInt_inj.mp
      rw [Int32.le_iff_toInt_le] at h1
      rw [Int32.lt_iff_toInt_lt] at h
      have e1 : (-1 : Int32).toInt = -1 := by decide
      have e2 : (0 : Int32).toInt = 0 := by decide
      omega
    · right
      obtain ⟨j, hj, rfl⟩ := nI_of h
      exact ⟨j, by have := (nI_leI hj (by omega)).mp h2; omega, rfl⟩
  · rintro (rfl | ⟨k, hk, rfl⟩)
    · exact ⟨by decide, Int32.le_of_lt (zn_m1lt b (by omega))⟩
    · exact ⟨Int32.le_of_lt (zn_m1lt k (by omega)), (nI_leI (by omega) (by omega)).mpr (by omega)⟩
theorem pt_0 {P : Nat → Prop} (h : True) : True := h
theorem zPart_nil {ws : va_W} : zPart ws [] [] := ⟨rfl, rfl⟩
set_option maxHeartbeats 4000000 in
set_option maxRecDepth 100000 in
theorem c_X3_isAmong_g (l : Launch) (D : va_G) (t : ClassId × ClassId × ClassId) (x : Int32) (m : Nat) (hm : m < 2 ^ 31) : zM1 l yX3_isAmong cX3_isAmong 2 (some .boolean) 0 D t [.int x, .int (nI m)] ([]) (fun r => bz r (∃ k, k < m ∧ x = nI k)) := by
  refine z_m1 (by decide +kernel) (Nat.le_of_ble_eq_true rfl) (by simp [Value.category]) ?_
  intro E X Z
  refine z_lv (lv' := [some (.int x), some (.int (nI m))]) rfl ?_
  refine z_iload_n X dX3_isAmong_0 rfl rfl ?_
  refine z_if_lt (tgt := 13) X dX3_isAmong_1 (by decide) (fun c1 => ?_) (fun c1 => ?_)
  ·
    refine z_iconst (v := nI 0) X dX3_isAmong_13 (by decide) ?_
    refine z_iret X Z (by decide +kernel) dX3_isAmong_14 ?_
    exact ⟨(), bz_f (fun h => Int32.not_lt.mpr ((zr_pl hm).mpr h).1 c1), fun _ _ => trivial⟩
  ·
    refine z_iload_n X dX3_isAmong_4 rfl rfl ?_
    refine z_iload_n X dX3_isAmong_5 rfl rfl ?_
    refine z_icmp_ge (tgt := 13) X dX3_isAmong_6 (by decide) (fun c6 => ?_) (fun c6 => ?_)
    ·
      refine z_iconst (v := nI 0) X dX3_isAmong_13 (by decide) ?_
      refine z_iret X Z (by decide +kernel) dX3_isAmong_14 ?_
      exact ⟨(), bz_f (fun h => Int32.not_lt.mpr c6 ((zr_pl hm).mpr h).2), fun _ _ => trivial⟩
    ·
      refine z_iconst (v := nI 1) X dX3_isAmong_9 (by decide) ?_
      refine z_goto (tgt := 14) X dX3_isAmong_10 (by decide) ?_
      refine z_iret X Z (by decide +kernel) dX3_isAmong_14 ?_
      exact ⟨(), bz_t ((zr_pl hm).mp ⟨Int32.not_lt.mp c1, Int32.not_le.mp c6⟩), fun _ _ => trivial⟩
set_option maxHeartbeats 4000000 in
set_option maxRecDepth 100000 in
theorem c_X3_isAmong (l : Launch) (D : va_G) (t : ClassId × ClassId × ClassId) (k m : Nat) (hk : k < 2 ^ 31) (hm : m < 2 ^ 31) : zM1 l yX3_isAmong cX3_isAmong 2 (some .boolean) 0 D t [.int (nI k), .int (nI m)] ([]) (fun r => bz r (k < m)) := by
  refine z_m1 (by decide +kernel) (Nat.le_of_ble_eq_true rfl) (by simp [Value.category]) ?_
  intro E X Z
  refine z_lv (lv' := [some (.int (nI k)), some (.int (nI m))]) rfl ?_
  refine z_iload_n X dX3_isAmong_0 rfl rfl ?_
  refine n_if_lt (tgt := 13) X dX3_isAmong_1 (by decide) (by omega) ?_
  refine z_iload_n X dX3_isAmong_4 rfl rfl ?_
  refine z_iload_n X dX3_isAmong_5 rfl rfl ?_
  refine n_icmp_ge (tgt := 13) X dX3_isAmong_6 (by decide) (by omega) (by omega) (fun c6 => ?_) (fun c6 => ?_)
  ·
    refine z_iconst (v := nI 0) X dX3_isAmong_13 (by decide) ?_
    refine z_iret X Z (by decide +kernel) dX3_isAmong_14 ?_
    exact ⟨(), bz_f (by omega), fun _ _ => trivial⟩
  ·
    refine z_iconst (v := nI 1) X dX3_isAmong_9 (by decide) ?_
    refine z_goto (tgt := 14) X dX3_isAmong_10 (by decide) ?_
    refine z_iret X Z (by decide +kernel) dX3_isAmong_14 ?_
    exact ⟨(), bz_t (by omega), fun _ _ => trivial⟩
set_option maxHeartbeats 4000000 in
set_option maxRecDepth 100000 in
theorem c_X3_isAmong_m (l : Launch) (D : va_G) (t : ClassId × ClassId × ClassId) (m : Nat) : zM1 l yX3_isAmong cX3_isAmong 2 (some .boolean) 0 D t [.int (-1), .int (nI m)] ([]) (fun r => r = nI 0) := by
  refine z_m1 (by decide +kernel) (Nat.le_of_ble_eq_true rfl) (by simp [Value.category]) ?_
  intro E X Z
  refine z_lv (lv' := [some (.int (-1)), some (.int (nI m))]) rfl ?_
  refine z_iload_n X dX3_isAmong_0 rfl rfl ?_
  refine z_if_lt (tgt := 13) X dX3_isAmong_1 (by decide) (fun _ => ?_) (fun c1 => absurd c1 (by decide))
  refine z_iconst (v := nI 0) X dX3_isAmong_13 (by decide) ?_
  refine z_iret X Z (by decide +kernel) dX3_isAmong_14 ?_
  exact ⟨(), rfl, fun _ _ => trivial⟩
set_option maxHeartbeats 4000000 in
set_option maxRecDepth 100000 in
theorem c_X3_isAmongOrNone (l : Launch) (D : va_G) (t : ClassId × ClassId × ClassId) (x : Int32) (m : Nat) (hm : m < 2 ^ 31) : zM1 l yX3_isAmongOrNone cX3_isAmongOrNone 2 (some .boolean) 1 D t [.int x, .int (nI m)] ([]) (fun r => bz r (zo x m)) := by
  refine z_m1 (by decide +kernel) (Nat.le_of_ble_eq_true rfl) (by simp [Value.category]) ?_
  intro E X Z
  refine z_lv (lv' := [some (.int x), some (.int (nI m))]) rfl ?_
  refine z_iload_n X dX3_isAmongOrNone_0 rfl rfl ?_
  refine z_iconst (v := (-1)) X dX3_isAmongOrNone_1 (by decide) ?_
  refine z_icmp_eq (tgt := 13) X dX3_isAmongOrNone_2 (by decide) (fun c2 => ?_) (fun c2 => ?_)
  ·
    refine z_iconst (v := nI 1) X dX3_isAmongOrNone_13 (by decide) ?_
    refine z_goto (tgt := 18) X dX3_isAmongOrNone_14 (by decide) ?_
    refine z_iret X Z (by decide +kernel) dX3_isAmongOrNone_18 ?_
    exact ⟨(), bz_t (Or.inl c2), fun _ _ => trivial⟩
  ·
    refine z_iload_n X dX3_isAmongOrNone_5 rfl rfl ?_
    refine z_iload_n X dX3_isAmongOrNone_6 rfl rfl ?_
    refine z_callS1 (k := 0) (n := 0) (st := []) X (c_X3_isAmong_g l D t x m hm) k_X3_isAmong q_ml_X3_53 [] ⟨by decide, rfl⟩ (by decide) rfl rfl rfl (Nat.le_of_ble_eq_true rfl) ⟨Nat.zero_le _, Nat.zero_le _⟩ dX3_isAmongOrNone_7 (fun r7 h7 => ?_)
    rcases h7 with ⟨rfl, h7⟩ | ⟨rfl, h7⟩
    ·
      refine n_if_eq (tgt := 17) X dX3_isAmongOrNone_10 (by decide) (by omega) (fun c10 => absurd c10 (by decide)) (fun _ => ?_)
      refine z_iconst (v := nI 1) X dX3_isAmongOrNone_13 (by decide) ?_
      refine z_goto (tgt := 18) X dX3_isAmongOrNone_14 (by decide) ?_
      refine z_iret X Z (by decide +kernel) dX3_isAmongOrNone_18 ?_
      exact ⟨(), bz_t (Or.inr h7), fun _ _ => trivial⟩
    ·
      refine n_if_eq (tgt := 17) X dX3_isAmongOrNone_10 (by decide) (by omega) (fun _ => ?_) (fun c10 => absurd c10 (by decide))
      refine z_iconst (v := nI 0) X dX3_isAmongOrNone_17 (by decide) ?_
      refine z_iret X Z (by decide +kernel) dX3_isAmongOrNone_18 ?_
      exact ⟨(), bz_f (fun h => h.elim c2 h7), fun _ _ => trivial⟩
set_option maxHeartbeats 4000000 in
set_option maxRecDepth 100000 in
theorem c_X3_isFromTo (l : Launch) (D : va_G) (t : ClassId × ClassId × ClassId) (x a b : Int32) : zM1 l yX3_isFromTo cX3_isFromTo 3 (some .boolean) 0 D t [.int x, .int a, .int b] ([]) (fun r => bz r (a ≤ x ∧ x ≤ b)) := by
  refine z_m1 (by decide +kernel) (Nat.le_of_ble_eq_true rfl) (by simp [Value.category]) ?_
  intro E X Z
  refine z_lv (lv' := [some (.int x), some (.int a), some (.int b)]) rfl ?_
  refine z_iload_n X dX3_isFromTo_0 rfl rfl ?_
  refine z_iload_n X dX3_isFromTo_1 rfl rfl ?_
  refine z_icmp_lt (tgt := 14) X dX3_isFromTo_2 (by decide) (fun c2 => ?_) (fun c2 => ?_)
  ·
    refine z_iconst (v := nI 0) X dX3_isFromTo_14 (by decide) ?_
    refine z_iret X Z (by decide +kernel) dX3_isFromTo_15 ?_
    exact ⟨(), bz_f (fun h => Int32.not_lt.mpr h.1 c2), fun _ _ => trivial⟩
  ·
    refine z_iload_n X dX3_isFromTo_5 rfl rfl ?_
    refine z_iload_n X dX3_isFromTo_6 rfl rfl ?_
    refine z_icmp_gt (tgt := 14) X dX3_isFromTo_7 (by decide) (fun c7 => ?_) (fun c7 => ?_)
    ·
      refine z_iconst (v := nI 0) X dX3_isFromTo_14 (by decide) ?_
      refine z_iret X Z (by decide +kernel) dX3_isFromTo_15 ?_
      exact ⟨(), bz_f (fun h => Int32.not_lt.mpr h.2 c7), fun _ _ => trivial⟩
    ·
      refine z_iconst (v := nI 1) X dX3_isFromTo_10 (by decide) ?_
      refine z_goto (tgt := 15) X dX3_isFromTo_11 (by decide) ?_
      refine z_iret X Z (by decide +kernel) dX3_isFromTo_15 ?_
      exact ⟨(), bz_t ⟨Int32.not_lt.mp c2, Int32.not_lt.mp c7⟩, fun _ _ => trivial⟩
/-- what a score costs -/
def cst (k : Nat) : Nat := k - 8 + (k - 12)
set_option maxHeartbeats 4000000 in
set_option maxRecDepth 100000 in
theorem c_X3_costOf (l : Launch) (D : va_G) (t : ClassId × ClassId × ClassId) (k : Nat) (h8 : 8 ≤ k) (h16 : k ≤ 16) : zM1 l yX3_costOf cX3_costOf 1 (some .int) 1 D t [.int (nI k)] ([]) (fun r => r = nI (cst k)) := by
  refine z_m1 (by decide +kernel) (Nat.le_of_ble_eq_true rfl) (by simp [Value.category]) ?_
  intro E X Z
  refine z_lv (lv' := [some (.int (nI k))]) rfl ?_
  refine z_iload_n X dX3_costOf_0 rfl rfl ?_
  refine z_bipush (v := nI 8) X dX3_costOf_1 (by decide) ?_
  refine z_isub X dX3_costOf_3 ?_
  refine z_iconst (v := nI 0) X dX3_costOf_4 (by decide) ?_
  refine z_iload_n X dX3_costOf_5 rfl rfl ?_
  refine z_bipush (v := nI 12) X dX3_costOf_6 (by decide) ?_
  refine z_isub X dX3_costOf_8 ?_
  refine z_callS1 (k := 0) (n := 0) (st := [.int (nI k - nI 8)]) X (c_J9_max_7cf53 l D t (nI 0) (nI k - nI 12)) k_J9_max_7cf53 q_ml_X3_227 [] ⟨by decide, rfl⟩ (by decide) rfl rfl rfl (Nat.le_of_ble_eq_true rfl) ⟨Nat.zero_le _, Nat.zero_le _⟩ dX3_costOf_9 (fun r9 h9 => ?_)
  subst h9
  refine z_iadd X dX3_costOf_12 ?_
  refine z_iret X Z rfl dX3_costOf_13 ?_
  exact ⟨(), (by decide +kernel : ∀ k, k < 17 → 8 ≤ k → (nI k - nI 8) + (if nI 0 < nI k - nI 12 then nI k - nI 12 else nI 0) = nI (cst k)) k (by omega) h8, fun _ _ => trivial⟩
set_option maxHeartbeats 4000000 in
set_option maxRecDepth 100000 in
theorem c_X3_placesAt (l : Launch) (D : va_G) (t : ClassId × ClassId × ClassId) (k : Nat) (hk : k < 2 ^ 31) : zM1 l yX3_placesAt cX3_placesAt 1 (some .int) 0 D t [.int (nI k)] ([]) (fun r => r = nI (1 + k / 2)) := by
  refine z_m1 (by decide +kernel) (Nat.le_of_ble_eq_true rfl) (by simp [Value.category]) ?_
  intro E X Z
  refine z_lv (lv' := [some (.int (nI k))]) rfl ?_
  refine z_iconst (v := nI 1) X dX3_placesAt_0 (by decide) ?_
  refine z_iload_n X dX3_placesAt_1 rfl rfl ?_
  refine z_iconst (v := nI 2) X dX3_placesAt_2 (by decide) ?_
  refine n_idiv X dX3_placesAt_3 (by omega) (by decide) (by decide) ?_
  refine n_iadd X dX3_placesAt_4 ?_
  refine z_iret X Z rfl dX3_placesAt_5 ?_
  exact ⟨(), rfl, fun _ _ => trivial⟩
set_option maxHeartbeats 4000000 in
set_option maxRecDepth 100000 in
theorem c_X0_has (l : Launch) (D : va_G) (t : ClassId × ClassId × ClassId) (b q h j : Nat) (x : Int32) (f : Nat → Int32) (hx : x = nI h) (hh : h < 2 ^ 31) (hj : j < 32) : zM1 l yX0_has cX0_has 2 (some .boolean) 0 D t [.ref b, .int (nI j)] ([(b, .inr (0, [.ref q, .int x])), (q, .inl (t.1, 3, .inl f))]) (fun r => bz r (h.testBit j = true)) := by
  refine z_m1 (by decide +kernel) (Nat.le_of_ble_eq_true rfl) (by simp [Value.category]) ?_
  intro E X Z
  refine z_lv (lv' := [some (.ref b), some (.int (nI j))]) rfl ?_
  refine z_aload_n X dX0_has_0 rfl rfl ?_
  refine z_get X (C := RX0) (T := TX0) (N := 2) (ci := 0) (v := .int x) inZ0 0 1 rfl rfl (by decide) q_fl_X0_15 rfl rfl dX0_has_1 ?_
  refine z_top (y := nI h) (hx) ?_
  refine z_iload_n X dX0_has_4 rfl rfl ?_
  refine n_ishr X dX0_has_5 (by omega) (by omega) ?_
  refine z_iconst (v := nI 1) X dX0_has_6 (by decide) ?_
  refine n_iand X dX0_has_7 ?_
  rw [zt_bit1]
  refine n_if_eq (tgt := 15) X dX0_has_8 (by decide) (by omega) (fun c8 => ?_) (fun c8 => ?_)
  ·
    refine z_iconst (v := nI 0) X dX0_has_15 (by decide) ?_
    refine z_iret X Z (by decide +kernel) dX0_has_16 ?_
    exact ⟨(), bz_f (by rw [zt_b2 c8]; decide), fun _ _ => trivial⟩
  ·
    refine z_iconst (v := nI 1) X dX0_has_11 (by decide) ?_
    refine z_goto (tgt := 16) X dX0_has_12 (by decide) ?_
    refine z_iret X Z (by decide +kernel) dX0_has_16 ?_
    exact ⟨(), bz_t (zt_b1 c8), fun _ _ => trivial⟩
set_option maxHeartbeats 4000000 in
set_option maxRecDepth 100000 in
theorem c_X0_heldCount (l : Launch) (D : va_G) (t : ClassId × ClassId × ClassId) (b q h : Nat) (x : Int32) (f : Nat → Int32) (hx : x = nI h) (hh : h < 256) : zM1 l yX0_heldCount cX0_heldCount 1 (some .int) 1 D t [.ref b] ([(b, .inr (0, [.ref q, .int x])), (q, .inl (t.1, 3, .inl f))]) (fun r => r = nI (p8 h)) := by
  refine z_m1 (by decide +kernel) (Nat.le_of_ble_eq_true rfl) (by simp [Value.category]) ?_
  intro E X Z
  refine z_lv (lv' := [some (.ref b)]) rfl ?_
  refine z_aload_n X dX0_heldCount_0 rfl rfl ?_
  refine z_get X (C := RX0) (T := TX0) (N := 2) (ci := 0) (v := .int x) inZ0 0 1 rfl rfl (by decide) q_fl_X0_15 rfl rfl dX0_heldCount_1 ?_
  refine z_top (y := nI h) (hx) ?_
  refine z_callS1 (k := 0) (n := 0) (st := []) X (c_J6_bitCount_0f7a4 l D t h (by omega)) k_J6_bitCount_0f7a4 q_ml_X0_25 [] ⟨by decide, rfl⟩ (by decide) rfl rfl rfl (Nat.le_of_ble_eq_true rfl) ⟨Nat.zero_le _, Nat.zero_le _⟩ dX0_heldCount_4 (fun r4 h4 => ?_)
  subst h4
  refine z_iret X Z rfl dX0_heldCount_7 ?_
  exact ⟨(), rfl, fun _ _ => trivial⟩
set_option maxHeartbeats 4000000 in
set_option maxRecDepth 100000 in
theorem c_X0_levelIn (l : Launch) (D : va_G) (t : ClassId × ClassId × ClassId) (b q : Nat) (c x : Int32) (f : Nat → Int32) (hc : zo c 3) : zM1 l yX0_levelIn cX0_levelIn 2 (some .int) 0 D t [.ref b, .int c] ([(b, .inr (0, [.ref q, .int x])), (q, .inl (t.1, 3, .inl f))]) (fun r => r = if c = -1 then 0 else f c.toNatClampNeg) := by
  refine z_m1 (by decide +kernel) (Nat.le_of_ble_eq_true rfl) (by simp [Value.category]) ?_
  intro E X Z
  refine z_lv (lv' := [some (.ref b), some (.int c)]) rfl ?_
  rcases hc with rfl | ⟨k, hk, rfl⟩
  ·
    refine z_iload_n X dX0_levelIn_0 rfl rfl ?_
    refine z_if_lt (tgt := 18) X dX0_levelIn_1 (by decide) (fun _ => ?_) (fun c1 => absurd c1 (by decide))
    refine z_iconst (v := nI 0) X dX0_levelIn_18 (by decide) ?_
    refine z_iret X Z rfl dX0_levelIn_19 ?_
    exact ⟨(), (if_pos rfl).symm, fun _ _ => trivial⟩
  ·
    refine z_iload_n X dX0_levelIn_0 rfl rfl ?_
    refine n_if_lt (tgt := 18) X dX0_levelIn_1 (by decide) (by omega) ?_
    refine z_iload_n X dX0_levelIn_4 rfl rfl ?_
    refine z_iconst (v := nI 3) X dX0_levelIn_5 (by decide) ?_
    refine n_icmp_ge (tgt := 18) X dX0_levelIn_6 (by decide) (by omega) (by omega) (fun c6 => absurd c6 (by omega)) (fun c6 => ?_)
    refine z_aload_n X dX0_levelIn_9 rfl rfl ?_
    refine z_get X (C := RX0) (T := TX0) (N := 2) (ci := 0) (v := .ref q) inZ0 0 0 rfl rfl (by decide) q_fl_X0_9 rfl rfl dX0_levelIn_10 ?_
    refine z_iload_n X dX0_levelIn_13 rfl rfl ?_
    refine n_iald (f := f) X 1 rfl (by omega) (by decide) dX0_levelIn_14 ?_
    refine z_goto (tgt := 19) X dX0_levelIn_15 (by decide) ?_
    refine z_iret X Z rfl dX0_levelIn_19 ?_
    exact ⟨(), by rw [if_neg (zn_m1 k (by omega)), nI_clamp (by omega)], fun _ _ => trivial⟩
set_option maxHeartbeats 4000000 in
set_option maxRecDepth 100000 in
theorem c_X0_levelInAll (l : Launch) (D : va_G) (t : ClassId × ClassId × ClassId) (b q x y z : Nat) (v : Int32) (f : Nat → Int32) (hf : f = l3 x y z) : zM1 l yX0_levelInAll cX0_levelInAll 3 (some .int) 0 D t [.ref b] ([(b, .inr (0, [.ref q, .int v])), (q, .inl (t.1, 3, .inl f))]) (fun r => r = nI (x + y + z)) := by
  refine z_m1 (by decide +kernel) (Nat.le_of_ble_eq_true rfl) (by simp [Value.category]) ?_
  intro E X Z
  refine z_lv (lv' := [some (.ref b), none, none]) rfl ?_
  refine z_iconst (v := nI 0) X dX0_levelInAll_0 (by decide) ?_
  refine z_istore_n X dX0_levelInAll_1 rfl (Nat.le_of_ble_eq_true rfl) ?_
  refine z_lv (lv' := [some (.ref b), some (.int (nI 0)), none]) rfl ?_
  refine z_iconst (v := nI 0) X dX0_levelInAll_2 (by decide) ?_
  refine z_istore_n X dX0_levelInAll_3 rfl (Nat.le_of_ble_eq_true rfl) ?_
  refine z_lv (lv' := [some (.ref b), some (.int (nI 0)), some (.int (nI 0))]) rfl ?_
  refine z_iload_n X dX0_levelInAll_4 rfl rfl ?_
  refine z_iconst (v := nI 3) X dX0_levelInAll_5 (by decide) ?_
  refine n_icmp_ge (tgt := 24) X dX0_levelInAll_6 (by decide) (by omega) (by omega) (fun c6 => absurd c6 (by decide)) (fun _ => ?_)
  refine z_iload_n X dX0_levelInAll_9 rfl rfl ?_
  refine z_aload_n X dX0_levelInAll_10 rfl rfl ?_
  refine z_get X (C := RX0) (T := TX0) (N := 2) (ci := 0) (v := .ref q) inZ0 0 0 rfl rfl (by decide) q_fl_X0_9 rfl rfl dX0_levelInAll_11 ?_
  refine z_iload_n X dX0_levelInAll_14 rfl rfl ?_
  refine n_iald (f := f) X 1 rfl (by omega) (by decide) dX0_levelInAll_15 ?_
  refine z_top (y := nI x) (by rw [hf]; rfl) ?_
  refine n_iadd X dX0_levelInAll_16 ?_
  refine z_istore_n X dX0_levelInAll_17 rfl (Nat.le_of_ble_eq_true rfl) ?_
  refine z_lv (lv' := [some (.ref b), some (.int (nI (0 + x))), some (.int (nI 0))]) rfl ?_
  refine z_iinc (v := nI 1) X dX0_levelInAll_18 rfl (by decide) ?_
  refine z_lv (lv' := [some (.ref b), some (.int (nI (0 + x))), some (.int (nI 1))]) rfl ?_
  refine z_goto (tgt := 4) X dX0_levelInAll_21 (by decide) ?_
  refine z_iload_n X dX0_levelInAll_4 rfl rfl ?_
  refine z_iconst (v := nI 3) X dX0_levelInAll_5 (by decide) ?_
  refine n_icmp_ge (tgt := 24) X dX0_levelInAll_6 (by decide) (by omega) (by omega) (fun c6 => absurd c6 (by decide)) (fun _ => ?_)
  refine z_iload_n X dX0_levelInAll_9 rfl rfl ?_
  refine z_aload_n X dX0_levelInAll_10 rfl rfl ?_
  refine z_get X (C := RX0) (T := TX0) (N := 2) (ci := 0) (v := .ref q) inZ0 0 0 rfl rfl (by decide) q_fl_X0_9 rfl rfl dX0_levelInAll_11 ?_
  refine z_iload_n X dX0_levelInAll_14 rfl rfl ?_
  refine n_iald (f := f) X 1 rfl (by omega) (by decide) dX0_levelInAll_15 ?_
  refine z_top (y := nI y) (by rw [hf]; rfl) ?_
  refine n_iadd X dX0_levelInAll_16 ?_
  refine z_istore_n X dX0_levelInAll_17 rfl (Nat.le_of_ble_eq_true rfl) ?_
  refine z_lv (lv' := [some (.ref b), some (.int (nI ((0 + x) + y))), some (.int (nI 1))]) rfl ?_
  refine z_iinc (v := nI 2) X dX0_levelInAll_18 rfl (by decide) ?_
  refine z_lv (lv' := [some (.ref b), some (.int (nI ((0 + x) + y))), some (.int (nI 2))]) rfl ?_
  refine z_goto (tgt := 4) X dX0_levelInAll_21 (by decide) ?_
  refine z_iload_n X dX0_levelInAll_4 rfl rfl ?_
  refine z_iconst (v := nI 3) X dX0_levelInAll_5 (by decide) ?_
  refine n_icmp_ge (tgt := 24) X dX0_levelInAll_6 (by decide) (by omega) (by omega) (fun c6 => absurd c6 (by decide)) (fun _ => ?_)
  refine z_iload_n X dX0_levelInAll_9 rfl rfl ?_
  refine z_aload_n X dX0_levelInAll_10 rfl rfl ?_
  refine z_get X (C := RX0) (T := TX0) (N := 2) (ci := 0) (v := .ref q) inZ0 0 0 rfl rfl (by decide) q_fl_X0_9 rfl rfl dX0_levelInAll_11 ?_
  refine z_iload_n X dX0_levelInAll_14 rfl rfl ?_
  refine n_iald (f := f) X 1 rfl (by omega) (by decide) dX0_levelInAll_15 ?_
  refine z_top (y := nI z) (by rw [hf]; rfl) ?_
  refine n_iadd X dX0_levelInAll_16 ?_
  refine z_istore_n X dX0_levelInAll_17 rfl (Nat.le_of_ble_eq_true rfl) ?_
  refine z_lv (lv' := [some (.ref b), some (.int (nI (((0 + x) + y) + z))), some (.int (nI 2))]) rfl ?_
  refine z_iinc (v := nI 3) X dX0_levelInAll_18 rfl (by decide) ?_
  refine z_lv (lv' := [some (.ref b), some (.int (nI (((0 + x) + y) + z))), some (.int (nI 3))]) rfl ?_
  refine z_goto (tgt := 4) X dX0_levelInAll_21 (by decide) ?_
  refine z_iload_n X dX0_levelInAll_4 rfl rfl ?_
  refine z_iconst (v := nI 3) X dX0_levelInAll_5 (by decide) ?_
  refine n_icmp_ge (tgt := 24) X dX0_levelInAll_6 (by decide) (by omega) (by omega) (fun _ => ?_) (fun c6 => absurd c6 (by decide))
  refine z_iload_n X dX0_levelInAll_24 rfl rfl ?_
  refine z_iret X Z rfl dX0_levelInAll_25 ?_
  exact ⟨(), by rw [Nat.zero_add], fun _ _ => trivial⟩
theorem z_callSN1 {E : zE} {k n pc : Nat} {lv : List (Option Value)} {st st0 : List Value} {ws : va_W} {cc : ByteArray} {nL : Nat} {D : va_G} {t : ClassId × ClassId × ClassId} {l : Launch} {h : Nat} {As : List Value} {φ : Int32 → Prop} {rc rs : Nat} (X : zX E RX0 cc nL (zRm h rc rs) D t l) (hM : zM1 l yX3_isAmong cX3_isAmong 2 (some .boolean) 0 D t As [] φ) (hh : 0 < h) (hnp : As.length = 2) (hnl : lv.length = nL) (hs0 : st0 = As.reverse ++ st) (hst : (st.map fun v => v.category).sum ≤ 8) (hcs : k ≤ rc ∧ n ≤ rs) (hd : decode cc pc = .ok (.invokestatic 31, 3)) (kk : ∀ r, φ r → Wz E k n (pc + 3) lv (.int r :: st) ws) : Wz E k n pc lv st0 ws := by
  intro ls H locs hl hP hD hS
  subst hs0
  obtain ⟨p1, p2, p3, p4, p5⟩ := k_X3_isAmong
  have hl2 : E.2.1 = l := X.2.2.2.2.2.2.2.2.2
  have hR : E.2.2.2.1 = zRm h rc rs := X.2.2.2.2.2.1
  have hrun : va_Run E.1 E.2.1 E.2.2.1 E.2.2.2.1 (zs E) (zm E) (zargs E) (zb E) (zh E) (zc E) H locs k n 0 0 (F0 (zm E) pc ls (As.reverse ++ st)) st (va_Qi (fun r (_ : Unit) => φ r) (fun _ _ => True) (fun _ => False) As.toArray) (fun _ => False) := by
    rw [hl2]
    refine va_runSN (host := "Rulesheet") (nL := nL) (n := 2) (own := RX0) (bytes := cX3_isAmong) (maxL := 2) (ret := some .boolean) ⟨X.1, X.2.1, X.2.2.1, X.2.2.2.1, X.2.2.2.2.2.2.1⟩ hM ⟨va_cnB 2 X.2.2.2.2.2.2.1 (zGoodW p3) rfl rfl rfl X.2.2.2.2.1.2 (X.w p2) p4 ?_, X.w p1, trivial⟩ (z_preS X (zPart_nil (ws := ws)) hP hD) rfl hnp ?_ rfl (lv_room hst) hd ?_
    · rw [hR]; exact ⟨hh, by show 8 + (2 + 11) + 32 * 0 ≤ 32 * h; omega⟩
    · exact hl.1.1.trans hnl
    · rw [hR]; exact hcs
  refine va_calli hrun hS (fun q _ z => z.elim) (fun q z => z.elim) (fun r u T H1 locs1 hT _ hφ _ hz hk hS1 => ?_)
  exact kk r hφ ls H1 locs1 hl (hP.kept fun j q hq => hk q.1 (hP j q hq).lt id) hD hS1
set_option maxHeartbeats 4000000 in
set_option maxRecDepth 100000 in
theorem c_X0_changeLevel (l : Launch) (D : va_G) (t : ClassId × ClassId × ClassId) (b q k : Nat) (x c : Int32) (f : Nat → Int32) (hk : k < 3) : zM3 l yX0_changeLevel cX0_changeLevel 3 1 D t [.ref b, .int (nI k), .int c] ([(b, .inr (0, [.ref q, .int x])), (q, .inl (t.1, 3, .inl f))]) (fun _ : Unit => True) (fun _ => [(b, .inr (0, [.ref q, .int x])), (q, .inl (t.1, 3, .inl (upd f k (f k + c))))]) := by
  refine z_m3 (by decide +kernel) (Nat.le_of_ble_eq_true rfl) (by simp [Value.category]) ?_
  intro E X Z Y
  refine z_lv (lv' := [some (.ref b), some (.int (nI k)), some (.int c)]) rfl ?_
  refine z_iload_n X dX0_changeLevel_0 rfl rfl ?_
  refine z_iconst (v := nI 3) X dX0_changeLevel_1 (by decide) ?_
  refine z_callSN1 (k := 0) (n := 0) (st := []) X (c_X3_isAmong l D t k 3 (by omega) (by decide)) (by decide) rfl rfl rfl (Nat.le_of_ble_eq_true rfl) ⟨Nat.zero_le _, Nat.zero_le _⟩ dX0_changeLevel_2 (fun r2 h2 => ?_)
  rcases h2 with ⟨rfl, h2⟩ | ⟨rfl, h2⟩
  rotate_left
  · exact absurd hk h2
  refine n_if_eq (tgt := 18) X dX0_changeLevel_5 (by decide) (by omega) (fun c5 => absurd c5 (by decide)) (fun _ => ?_)
  refine z_aload_n X dX0_changeLevel_8 rfl rfl ?_
  refine z_get X (C := RX0) (T := TX0) (N := 2) (ci := 0) (v := .ref q) inZ0 0 0 rfl rfl (by decide) q_fl_X0_9 rfl rfl dX0_changeLevel_9 ?_
  refine z_iload_n X dX0_changeLevel_12 rfl rfl ?_
  refine z_dup2 X dX0_changeLevel_13 rfl rfl ?_
  refine n_iald (f := f) X 1 rfl (by omega) (by decide) dX0_changeLevel_14 ?_
  refine z_iload_n X dX0_changeLevel_15 rfl rfl ?_
  refine z_iadd X dX0_changeLevel_16 ?_
  refine n_iast X Y 1 rfl rfl (by omega) (by decide) dX0_changeLevel_17 ?_
  refine Wz.eq (ws' := [(b, .inr (0, [.ref q, .int x])), (q, .inl (t.1, 3, .inl (upd f k (f k + c))))]) rfl ?_
  refine z_vret X Z dX0_changeLevel_18 ?_
  exact ⟨(), trivial, fun q hq => hq⟩
