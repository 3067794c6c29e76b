section
variable {S : zS} {f : Nat → Int32} {j k s : Nat}
theorem pS_k (h : S 0 j = nI k) (hk : k < 2 ^ 31) : pS S j ↔ S 1 j ≤ S 14 k := by
  unfold pS; rw [h, nI_clamp hk]
  exact ⟨fun q => q.elim (fun e => absurd e (zn_m1 k hk)) id, Or.inr⟩
theorem pL_k (h : S 2 j = nI k) (hk : k < 2 ^ 31) : pL S f j ↔ S 3 j ≤ f k := by
  unfold pL; rw [h, nI_clamp hk]
  exact ⟨fun q => q.elim (fun e => absurd e (zn_m1 k hk)) id, Or.inr⟩
theorem pO_k (h : S 4 j = nI k) (hk : k < 2 ^ 31) : pO S s j ↔ s.testBit k = true := by
  unfold pO; rw [h, nI_clamp hk]
  exact ⟨fun q => q.elim (fun e => absurd e (zn_m1 k hk)) id, Or.inr⟩
theorem pB_k (h : S 5 j = nI k) (hk : k < 2 ^ 31) : pB S f j ↔ f k ≤ S 6 j := by
  unfold pB; rw [h, nI_clamp hk]
  exact ⟨fun q => q.elim (fun e => absurd e (zn_m1 k hk)) id, Or.inr⟩
end
/-- what all scores cost -/
def cs4 (sc : Nat → Nat) : Nat := cst (sc 0) + cst (sc 1) + cst (sc 2) + cst (sc 3)
/-- the scores are sc -/
def zSc (S : zS) (sc : Nat → Nat) : Prop := ∀ j, j < 4 → S 14 j = nI (sc j) ∧ 8 ≤ sc j ∧ sc j ≤ 16
set_option maxHeartbeats 4000000 in
set_option maxRecDepth 100000 in
theorem c_X3_pointsLeft (l : Launch) (D : va_G) (t : ClassId × ClassId × ClassId) (a : Nat → Nat) (S : zS) (sc : Nat → Nat) (hsc : zSc S sc) (hc : cs4 sc ≤ 20) : zM1 l yX3_pointsLeft cX3_pointsLeft 3 (some .int) 2 D t [.ref (a 0)] (wR t a S) (fun r => r = nI (20 - cs4 sc)) := by
  refine z_m1 (by decide +kernel) (Nat.le_of_ble_eq_true rfl) (by simp [Value.category]) ?_
  intro E X Z
  refine z_lv (lv' := [some (.ref (a 0)), none, none]) rfl ?_
  obtain ⟨e0, l0, u0⟩ := hsc 0 (by decide)
  obtain ⟨e1, l1, u1⟩ := hsc 1 (by decide)
  obtain ⟨e2, l2, u2⟩ := hsc 2 (by decide)
  obtain ⟨e3, l3, u3⟩ := hsc 3 (by decide)
  unfold cs4 at hc
  refine z_bipush (v := nI 20) X dX3_pointsLeft_0 (by decide) ?_
  refine z_istore_n X dX3_pointsLeft_2 rfl (Nat.le_of_ble_eq_true rfl) ?_
  refine z_lv (lv' := [some (.ref (a 0)), some (.int (nI 20)), none]) rfl ?_
  refine z_iconst (v := nI 0) X dX3_pointsLeft_3 (by decide) ?_
  refine z_istore_n X dX3_pointsLeft_4 rfl (Nat.le_of_ble_eq_true rfl) ?_
  refine z_lv (lv' := [some (.ref (a 0)), some (.int (nI 20)), some (.int (nI 0))]) rfl ?_
  refine z_iload_n X dX3_pointsLeft_5 rfl rfl ?_
  refine z_iconst (v := nI 4) X dX3_pointsLeft_6 (by decide) ?_
  refine n_icmp_ge (tgt := 28) X dX3_pointsLeft_7 (by decide) (by omega) (by omega) (fun c7 => absurd c7 (by decide)) (fun _ => ?_)
  refine z_iload_n X dX3_pointsLeft_10 rfl rfl ?_
  refine z_aload_n X dX3_pointsLeft_11 rfl rfl ?_
  refine z_get X (C := RX3) (T := TX3) (N := 8) (ci := 3) (v := .ref (a 3)) inZ3 0 2 rfl rfl (by decide) q_fl_X3_23 rfl rfl dX3_pointsLeft_12 ?_
  refine z_iload_n X dX3_pointsLeft_15 rfl rfl ?_
  refine n_iald (f := S 14) X 3 rfl (by omega) (by decide) dX3_pointsLeft_16 ?_
  refine z_top (y := nI (sc 0)) (e0) ?_
  refine z_callS1 (k := 0) (n := 0) (st := [.int (nI 20)]) X (c_X3_costOf l D t (sc 0) (by omega) (by omega)) k_X3_costOf q_ml_X3_130 [] ⟨by decide, rfl⟩ (by decide) rfl rfl rfl (Nat.le_of_ble_eq_true rfl) ⟨Nat.zero_le _, Nat.zero_le _⟩ dX3_pointsLeft_17 (fun r17 h17 => ?_)
  subst h17
  refine n_isub X dX3_pointsLeft_20 (by omega) ?_
  refine z_istore_n X dX3_pointsLeft_21 rfl (Nat.le_of_ble_eq_true rfl) ?_
  refine z_lv (lv' := [some (.ref (a 0)), some (.int (nI (20 - (cst (sc 0))))), some (.int (nI 0))]) rfl ?_
  refine z_iinc (v := nI 1) X dX3_pointsLeft_22 rfl (by decide) ?_
  refine z_lv (lv' := [some (.ref (a 0)), some (.int (nI (20 - (cst (sc 0))))), some (.int (nI 1))]) rfl ?_
  refine z_goto (tgt := 5) X dX3_pointsLeft_25 (by decide) ?_
  refine z_iload_n X dX3_pointsLeft_5 rfl rfl ?_
  refine z_iconst (v := nI 4) X dX3_pointsLeft_6 (by decide) ?_
  refine n_icmp_ge (tgt := 28) X dX3_pointsLeft_7 (by decide) (by omega) (by omega) (fun c7 => absurd c7 (by decide)) (fun _ => ?_)
  refine z_iload_n X dX3_pointsLeft_10 rfl rfl ?_
  refine z_aload_n X dX3_pointsLeft_11 rfl rfl ?_
  refine z_get X (C := RX3) (T := TX3) (N := 8) (ci := 3) (v := .ref (a 3)) inZ3 0 2 rfl rfl (by decide) q_fl_X3_23 rfl rfl dX3_pointsLeft_12 ?_
  refine z_iload_n X dX3_pointsLeft_15 rfl rfl ?_
  refine n_iald (f := S 14) X 3 rfl (by omega) (by decide) dX3_pointsLeft_16 ?_
  refine z_top (y := nI (sc 1)) (e1) ?_
  refine z_callS1 (k := 0) (n := 0) (st := [.int (nI (20 - (cst (sc 0))))]) X (c_X3_costOf l D t (sc 1) (by omega) (by omega)) k_X3_costOf q_ml_X3_130 [] ⟨by decide, rfl⟩ (by decide) rfl rfl rfl (Nat.le_of_ble_eq_true rfl) ⟨Nat.zero_le _, Nat.zero_le _⟩ dX3_pointsLeft_17 (fun r17 h17 => ?_)
  subst h17
  refine n_isub X dX3_pointsLeft_20 (by omega) ?_
  refine z_istore_n X dX3_pointsLeft_21 rfl (Nat.le_of_ble_eq_true rfl) ?_
  refine z_lv (lv' := [some (.ref (a 0)), some (.int (nI ((20 - (cst (sc 0))) - (cst (sc 1))))), some (.int (nI 1))]) rfl ?_
  refine z_iinc (v := nI 2) X dX3_pointsLeft_22 rfl (by decide) ?_
  refine z_lv (lv' := [some (.ref (a 0)), some (.int (nI ((20 - (cst (sc 0))) - (cst (sc 1))))), some (.int (nI 2))]) rfl ?_
  refine z_goto (tgt := 5) X dX3_pointsLeft_25 (by decide) ?_
  refine z_iload_n X dX3_pointsLeft_5 rfl rfl ?_
  refine z_iconst (v := nI 4) X dX3_pointsLeft_6 (by decide) ?_
  refine n_icmp_ge (tgt := 28) X dX3_pointsLeft_7 (by decide) (by omega) (by omega) (fun c7 => absurd c7 (by decide)) (fun _ => ?_)
  refine z_iload_n X dX3_pointsLeft_10 rfl rfl ?_
  refine z_aload_n X dX3_pointsLeft_11 rfl rfl ?_
  refine z_get X (C := RX3) (T := TX3) (N := 8) (ci := 3) (v := .ref (a 3)) inZ3 0 2 rfl rfl (by decide) q_fl_X3_23 rfl rfl dX3_pointsLeft_12 ?_
  refine z_iload_n X dX3_pointsLeft_15 rfl rfl ?_
  refine n_iald (f := S 14) X 3 rfl (by omega) (by decide) dX3_pointsLeft_16 ?_
  refine z_top (y := nI (sc 2)) (e2) ?_
  refine z_callS1 (k := 0) (n := 0) (st := [.int (nI ((20 - (cst (sc 0))) - (cst (sc 1))))]) X (c_X3_costOf l D t (sc 2) (by omega) (by omega)) k_X3_costOf q_ml_X3_130 [] ⟨by decide, rfl⟩ (by decide) rfl rfl rfl (Nat.le_of_ble_eq_true rfl) ⟨Nat.zero_le _, Nat.zero_le _⟩ dX3_pointsLeft_17 (fun r17 h17 => ?_)
  subst h17
  refine n_isub X dX3_pointsLeft_20 (by omega) ?_
  refine z_istore_n X dX3_pointsLeft_21 rfl (Nat.le_of_ble_eq_true rfl) ?_
  refine z_lv (lv' := [some (.ref (a 0)), some (.int (nI (((20 - (cst (sc 0))) - (cst (sc 1))) - (cst (sc 2))))), some (.int (nI 2))]) rfl ?_
  refine z_iinc (v := nI 3) X dX3_pointsLeft_22 rfl (by decide) ?_
  refine z_lv (lv' := [some (.ref (a 0)), some (.int (nI (((20 - (cst (sc 0))) - (cst (sc 1))) - (cst (sc 2))))), some (.int (nI 3))]) rfl ?_
  refine z_goto (tgt := 5) X dX3_pointsLeft_25 (by decide) ?_
  refine z_iload_n X dX3_pointsLeft_5 rfl rfl ?_
  refine z_iconst (v := nI 4) X dX3_pointsLeft_6 (by decide) ?_
  refine n_icmp_ge (tgt := 28) X dX3_pointsLeft_7 (by decide) (by omega) (by omega) (fun c7 => absurd c7 (by decide)) (fun _ => ?_)
  refine z_iload_n X dX3_pointsLeft_10 rfl rfl ?_
  refine z_aload_n X dX3_pointsLeft_11 rfl rfl ?_
  refine z_get X (C := RX3) (T := TX3) (N := 8) (ci := 3) (v := .ref (a 3)) inZ3 0 2 rfl rfl (by decide) q_fl_X3_23 rfl rfl dX3_pointsLeft_12 ?_
  refine z_iload_n X dX3_pointsLeft_15 rfl rfl ?_
  refine n_iald (f := S 14) X 3 rfl (by omega) (by decide) dX3_pointsLeft_16 ?_
  refine z_top (y := nI (sc 3)) (e3) ?_
  refine z_callS1 (k := 0) (n := 0) (st := [.int (nI (((20 - (cst (sc 0))) - (cst (sc 1))) - (cst (sc 2))))]) X (c_X3_costOf l D t (sc 3) (by omega) (by omega)) k_X3_costOf q_ml_X3_130 [] ⟨by decide, rfl⟩ (by decide) rfl rfl rfl (Nat.le_of_ble_eq_true rfl) ⟨Nat.zero_le _, Nat.zero_le _⟩ dX3_pointsLeft_17 (fun r17 h17 => ?_)
  subst h17
  refine n_isub X dX3_pointsLeft_20 (by omega) ?_
  refine z_istore_n X dX3_pointsLeft_21 rfl (Nat.le_of_ble_eq_true rfl) ?_
  refine z_lv (lv' := [some (.ref (a 0)), some (.int (nI ((((20 - (cst (sc 0))) - (cst (sc 1))) - (cst (sc 2))) - (cst (sc 3))))), some (.int (nI 3))]) rfl ?_
  refine z_iinc (v := nI 4) X dX3_pointsLeft_22 rfl (by decide) ?_
  refine z_lv (lv' := [some (.ref (a 0)), some (.int (nI ((((20 - (cst (sc 0))) - (cst (sc 1))) - (cst (sc 2))) - (cst (sc 3))))), some (.int (nI 4))]) rfl ?_
  refine z_goto (tgt := 5) X dX3_pointsLeft_25 (by decide) ?_
  refine z_iload_n X dX3_pointsLeft_5 rfl rfl ?_
  refine z_iconst (v := nI 4) X dX3_pointsLeft_6 (by decide) ?_
  refine n_icmp_ge (tgt := 28) X dX3_pointsLeft_7 (by decide) (by omega) (by omega) (fun _ => ?_) (fun c7 => absurd c7 (by decide))
  refine z_iload_n X dX3_pointsLeft_28 rfl rfl ?_
  refine z_iret X Z rfl dX3_pointsLeft_29 ?_
  exact ⟨(), by unfold cs4; congr 1; omega, fun _ _ => trivial⟩
/-- the modifier of an ability, or of none -/
def md (S : zS) (c : Int32) : Int32 := if c = -1 then 0 else hlf (S 14 c.toNatClampNeg - nI 10)
theorem md_k {S : zS} {k : Nat} (hk : k < 2 ^ 31) : md S (nI k) = hlf (S 14 k - nI 10) := by unfold md; rw [if_neg (zn_m1 k hk), nI_clamp hk]
set_option maxHeartbeats 4000000 in
set_option maxRecDepth 100000 in
theorem c_X3_modifierOf (l : Launch) (D : va_G) (t : ClassId × ClassId × ClassId) (a : Nat → Nat) (S : zS) (c : Int32) (hc : zo c 4) : zM1 l yX3_modifierOf cX3_modifierOf 2 (some .int) 1 D t [.ref (a 0), .int c] (wR t a S) (fun r => r = md S c) := by
  refine z_m1 (by decide +kernel) (Nat.le_of_ble_eq_true rfl) (by simp [Value.category]) ?_
  intro E X Z
  refine z_lv (lv' := [some (.ref (a 0)), some (.int c)]) rfl ?_
  rcases hc with rfl | ⟨k, hk, rfl⟩
  ·
    refine z_iload_n X dX3_modifierOf_0 rfl rfl ?_
    refine z_iconst (v := nI 4) X dX3_modifierOf_1 (by decide) ?_
    refine z_callS1 (k := 0) (n := 0) (st := []) X (c_X3_isAmong_m l D t 4) k_X3_isAmong q_ml_X3_53 [] ⟨by decide, rfl⟩ (by decide) rfl rfl rfl (Nat.le_of_ble_eq_true rfl) ⟨Nat.zero_le _, Nat.zero_le _⟩ dX3_modifierOf_2 (fun r2 h2 => ?_)
    subst h2
    refine n_if_eq (tgt := 24) X dX3_modifierOf_5 (by decide) (by omega) (fun _ => ?_) (fun c5 => absurd c5 (by decide))
    refine z_iconst (v := nI 0) X dX3_modifierOf_24 (by decide) ?_
    refine z_iret X Z rfl dX3_modifierOf_25 ?_
    exact ⟨(), rfl, fun _ _ => trivial⟩
  ·
    refine z_iload_n X dX3_modifierOf_0 rfl rfl ?_
    refine z_iconst (v := nI 4) X dX3_modifierOf_1 (by decide) ?_
    refine z_callS1 (k := 0) (n := 0) (st := []) X (c_X3_isAmong l D t k 4 (by omega) (by decide)) k_X3_isAmong q_ml_X3_53 [] ⟨by decide, rfl⟩ (by decide) rfl rfl rfl (Nat.le_of_ble_eq_true rfl) ⟨Nat.zero_le _, Nat.zero_le _⟩ dX3_modifierOf_2 (fun r2 h2 => ?_)
    rcases h2 with ⟨rfl, h2⟩ | ⟨rfl, h2⟩
    rotate_left
    · exact absurd (by omega) h2
    refine n_if_eq (tgt := 24) X dX3_modifierOf_5 (by decide) (by omega) (fun c5 => absurd c5 (by decide)) (fun _ => ?_)
    refine z_aload_n X dX3_modifierOf_8 rfl rfl ?_
    refine z_get X (C := RX3) (T := TX3) (N := 8) (ci := 3) (v := .ref (a 3)) inZ3 0 2 rfl rfl (by decide) q_fl_X3_23 rfl rfl dX3_modifierOf_9 ?_
    refine z_iload_n X dX3_modifierOf_12 rfl rfl ?_
    refine n_iald (f := S 14) X 3 rfl (by omega) (by decide) dX3_modifierOf_13 ?_
    refine z_bipush (v := nI 10) X dX3_modifierOf_14 (by decide) ?_
    refine z_isub X dX3_modifierOf_16 ?_
    refine z_iconst (v := nI 2) X dX3_modifierOf_17 (by decide) ?_
    refine z_callS1 (k := 0) (n := 0) (st := []) X (c_J9_floorDiv_7cf53 l D t ((S 14 k) - (nI 10))) k_J9_floorDiv_7cf53 q_ml_X3_233 [] ⟨by decide, rfl⟩ (by decide) rfl rfl rfl (Nat.le_of_ble_eq_true rfl) ⟨Nat.zero_le _, Nat.zero_le _⟩ dX3_modifierOf_18 (fun r18 h18 => ?_)
    subst h18
    refine z_goto (tgt := 25) X dX3_modifierOf_21 (by decide) ?_
    refine z_iret X Z rfl dX3_modifierOf_25 ?_
    exact ⟨(), (md_k (by omega)).symm, fun _ _ => trivial⟩
set_option maxHeartbeats 4000000 in
set_option maxRecDepth 100000 in
theorem c_X3_hasScoreFor (l : Launch) (D : va_G) (t : ClassId × ClassId × ClassId) (a : Nat → Nat) (S : zS) (j : Nat) (hj : j < 8) (hI : zI S) : zM1 l yX3_hasScoreFor cX3_hasScoreFor 3 (some .boolean) 0 D t [.ref (a 0), .int (nI j)] (wR t a S) (fun r => bz r (pS S j)) := by
  refine z_m1 (by decide +kernel) (Nat.le_of_ble_eq_true rfl) (by simp [Value.category]) ?_
  intro E X Z
  refine z_lv (lv' := [some (.ref (a 0)), some (.int (nI j)), none]) rfl ?_
  refine z_aload_n X dX3_hasScoreFor_0 rfl rfl ?_
  refine z_get X (C := RX3) (T := TX3) (N := 8) (ci := 3) (v := .ref (a 1)) inZ3 0 0 rfl rfl (by decide) q_fl_X3_12 rfl rfl dX3_hasScoreFor_1 ?_
  refine z_get X (C := RX1) (T := TX1) (N := 10) (ci := 1) (v := .ref (a 8)) inZ1 1 0 rfl rfl (by decide) q_fl_X3_78 rfl rfl dX3_hasScoreFor_4 ?_
  refine z_iload_n X dX3_hasScoreFor_7 rfl rfl ?_
  refine n_iald (f := S 0) X 8 rfl (by omega) (by decide) dX3_hasScoreFor_8 ?_
  rcases hI.1 j hj with h0 | ⟨k, hk, h0⟩
  ·
    rw [h0]
    refine z_istore_n X dX3_hasScoreFor_9 rfl (Nat.le_of_ble_eq_true rfl) ?_
    refine z_lv (lv' := [some (.ref (a 0)), some (.int (nI j)), some (.int (-1))]) rfl ?_
    refine z_iload_n X dX3_hasScoreFor_10 rfl rfl ?_
    refine z_if_lt (tgt := 37) X dX3_hasScoreFor_11 (by decide) (fun _ => ?_) (fun c11 => absurd c11 (by decide))
    refine z_iconst (v := nI 1) X dX3_hasScoreFor_37 (by decide) ?_
    refine z_goto (tgt := 42) X dX3_hasScoreFor_38 (by decide) ?_
    refine z_iret X Z (by decide +kernel) dX3_hasScoreFor_42 ?_
    exact ⟨(), bz_t (Or.inl h0), fun _ _ => trivial⟩
  ·
    rw [h0]
    refine z_istore_n X dX3_hasScoreFor_9 rfl (Nat.le_of_ble_eq_true rfl) ?_
    refine z_lv (lv' := [some (.ref (a 0)), some (.int (nI j)), some (.int (nI k))]) rfl ?_
    refine z_iload_n X dX3_hasScoreFor_10 rfl rfl ?_
    refine n_if_lt (tgt := 37) X dX3_hasScoreFor_11 (by decide) (by omega) ?_
    refine z_iload_n X dX3_hasScoreFor_14 rfl rfl ?_
    refine z_iconst (v := nI 4) X dX3_hasScoreFor_15 (by decide) ?_
    refine n_icmp_ge (tgt := 37) X dX3_hasScoreFor_16 (by decide) (by omega) (by omega) (fun c16 => absurd c16 (by omega)) (fun _ => ?_)
    refine z_aload_n X dX3_hasScoreFor_19 rfl rfl ?_
    refine z_get X (C := RX3) (T := TX3) (N := 8) (ci := 3) (v := .ref (a 3)) inZ3 0 2 rfl rfl (by decide) q_fl_X3_23 rfl rfl dX3_hasScoreFor_20 ?_
    refine z_iload_n X dX3_hasScoreFor_23 rfl rfl ?_
    refine n_iald (f := S 14) X 3 rfl (by omega) (by decide) dX3_hasScoreFor_24 ?_
    refine z_aload_n X dX3_hasScoreFor_25 rfl rfl ?_
    refine z_get X (C := RX3) (T := TX3) (N := 8) (ci := 3) (v := .ref (a 1)) inZ3 0 0 rfl rfl (by decide) q_fl_X3_12 rfl rfl dX3_hasScoreFor_26 ?_
    refine z_get X (C := RX1) (T := TX1) (N := 10) (ci := 1) (v := .ref (a 9)) inZ1 1 1 rfl rfl (by decide) q_fl_X3_81 rfl rfl dX3_hasScoreFor_29 ?_
    refine z_iload_n X dX3_hasScoreFor_32 rfl rfl ?_
    refine n_iald (f := S 1) X 9 rfl (by omega) (by decide) dX3_hasScoreFor_33 ?_
    refine z_icmp_lt (tgt := 41) X dX3_hasScoreFor_34 (by decide) (fun c34 => ?_) (fun c34 => ?_)
    ·
      refine z_iconst (v := nI 0) X dX3_hasScoreFor_41 (by decide) ?_
      refine z_iret X Z (by decide +kernel) dX3_hasScoreFor_42 ?_
      exact ⟨(), bz_f (fun h => i_nle c34 ((pS_k h0 (by omega)).mp h)), fun _ _ => trivial⟩
    ·
      refine z_iconst (v := nI 1) X dX3_hasScoreFor_37 (by decide) ?_
      refine z_goto (tgt := 42) X dX3_hasScoreFor_38 (by decide) ?_
      refine z_iret X Z (by decide +kernel) dX3_hasScoreFor_42 ?_
      exact ⟨(), bz_t ((pS_k h0 (by omega)).mpr (i_le c34)), fun _ _ => trivial⟩
set_option maxHeartbeats 4000000 in
set_option maxRecDepth 100000 in
theorem c_X3_hasLevelForC (l : Launch) (D : va_G) (t : ClassId × ClassId × ClassId) (a : Nat → Nat) (S : zS) (j : Nat) (hj : j < 8) (hI : zI S) : zM1 l yX3_hasLevelFor cX3_hasLevelFor 4 (some .boolean) 0 D t [.ref (a 0), .ref (a 4), .int (nI j)] (wR t a S) (fun r => bz r (pL S (S 15) j)) := by
  refine z_m1 (by decide +kernel) (Nat.le_of_ble_eq_true rfl) (by simp [Value.category]) ?_
  intro E X Z
  refine z_lv (lv' := [some (.ref (a 0)), some (.ref (a 4)), some (.int (nI j)), none]) rfl ?_
  refine z_aload_n X dX3_hasLevelFor_0 rfl rfl ?_
  refine z_get X (C := RX3) (T := TX3) (N := 8) (ci := 3) (v := .ref (a 1)) inZ3 0 0 rfl rfl (by decide) q_fl_X3_12 rfl rfl dX3_hasLevelFor_1 ?_
  refine z_get X (C := RX1) (T := TX1) (N := 10) (ci := 1) (v := .ref (a 10)) inZ1 1 2 rfl rfl (by decide) q_fl_X3_84 rfl rfl dX3_hasLevelFor_4 ?_
  refine z_iload_n X dX3_hasLevelFor_7 rfl rfl ?_
  refine n_iald (f := S 2) X 10 rfl (by omega) (by decide) dX3_hasLevelFor_8 ?_
  rcases hI.2.1 j hj with h0 | ⟨k, hk, h0⟩
  ·
    rw [h0]
    refine z_istore_n X dX3_hasLevelFor_9 rfl (Nat.le_of_ble_eq_true rfl) ?_
    refine z_lv (lv' := [some (.ref (a 0)), some (.ref (a 4)), some (.int (nI j)), some (.int (-1))]) rfl ?_
    refine z_iload_n X dX3_hasLevelFor_10 rfl rfl ?_
    refine z_if_lt (tgt := 37) X dX3_hasLevelFor_11 (by decide) (fun _ => ?_) (fun c11 => absurd c11 (by decide))
    refine z_iconst (v := nI 1) X dX3_hasLevelFor_37 (by decide) ?_
    refine z_goto (tgt := 42) X dX3_hasLevelFor_38 (by decide) ?_
    refine z_iret X Z (by decide +kernel) dX3_hasLevelFor_42 ?_
    exact ⟨(), bz_t (Or.inl h0), fun _ _ => trivial⟩
  ·
    rw [h0]
    refine z_istore_n X dX3_hasLevelFor_9 rfl (Nat.le_of_ble_eq_true rfl) ?_
    refine z_lv (lv' := [some (.ref (a 0)), some (.ref (a 4)), some (.int (nI j)), some (.int (nI k))]) rfl ?_
    refine z_iload_n X dX3_hasLevelFor_10 rfl rfl ?_
    refine n_if_lt (tgt := 37) X dX3_hasLevelFor_11 (by decide) (by omega) ?_
    refine z_iload_n X dX3_hasLevelFor_14 rfl rfl ?_
    refine z_iconst (v := nI 3) X dX3_hasLevelFor_15 (by decide) ?_
    refine n_icmp_ge (tgt := 37) X dX3_hasLevelFor_16 (by decide) (by omega) (by omega) (fun c16 => absurd c16 (by omega)) (fun _ => ?_)
    refine z_aload_n X dX3_hasLevelFor_19 rfl rfl ?_
    refine z_get X (C := RX0) (T := TX0) (N := 2) (ci := 0) (v := .ref (a 22)) inZ0 4 0 rfl rfl (by decide) q_fl_X3_236 rfl rfl dX3_hasLevelFor_20 ?_
    refine z_iload_n X dX3_hasLevelFor_23 rfl rfl ?_
    refine n_iald (f := S 15) X 22 rfl (by omega) (by decide) dX3_hasLevelFor_24 ?_
    refine z_aload_n X dX3_hasLevelFor_25 rfl rfl ?_
    refine z_get X (C := RX3) (T := TX3) (N := 8) (ci := 3) (v := .ref (a 1)) inZ3 0 0 rfl rfl (by decide) q_fl_X3_12 rfl rfl dX3_hasLevelFor_26 ?_
    refine z_get X (C := RX1) (T := TX1) (N := 10) (ci := 1) (v := .ref (a 11)) inZ1 1 3 rfl rfl (by decide) q_fl_X3_87 rfl rfl dX3_hasLevelFor_29 ?_
    refine z_iload_n X dX3_hasLevelFor_32 rfl rfl ?_
    refine n_iald (f := S 3) X 11 rfl (by omega) (by decide) dX3_hasLevelFor_33 ?_
    refine z_icmp_lt (tgt := 41) X dX3_hasLevelFor_34 (by decide) (fun c34 => ?_) (fun c34 => ?_)
    ·
      refine z_iconst (v := nI 0) X dX3_hasLevelFor_41 (by decide) ?_
      refine z_iret X Z (by decide +kernel) dX3_hasLevelFor_42 ?_
      exact ⟨(), bz_f (fun h => i_nle c34 ((pL_k h0 (by omega)).mp h)), fun _ _ => trivial⟩
    ·
      refine z_iconst (v := nI 1) X dX3_hasLevelFor_37 (by decide) ?_
      refine z_goto (tgt := 42) X dX3_hasLevelFor_38 (by decide) ?_
      refine z_iret X Z (by decide +kernel) dX3_hasLevelFor_42 ?_
      exact ⟨(), bz_t ((pL_k h0 (by omega)).mpr (i_le c34)), fun _ _ => trivial⟩
set_option maxHeartbeats 4000000 in
set_option maxRecDepth 100000 in
theorem c_X3_isBarredC (l : Launch) (D : va_G) (t : ClassId × ClassId × ClassId) (a : Nat → Nat) (S : zS) (j : Nat) (hj : j < 8) (hI : zI S) : zM1 l yX3_isBarred cX3_isBarred 4 (some .boolean) 0 D t [.ref (a 0), .ref (a 4), .int (nI j)] (wR t a S) (fun r => bz r (¬ pB S (S 15) j)) := by
  refine z_m1 (by decide +kernel) (Nat.le_of_ble_eq_true rfl) (by simp [Value.category]) ?_
  intro E X Z
  refine z_lv (lv' := [some (.ref (a 0)), some (.ref (a 4)), some (.int (nI j)), none]) rfl ?_
  refine z_aload_n X dX3_isBarred_0 rfl rfl ?_
  refine z_get X (C := RX3) (T := TX3) (N := 8) (ci := 3) (v := .ref (a 1)) inZ3 0 0 rfl rfl (by decide) q_fl_X3_12 rfl rfl dX3_isBarred_1 ?_
  refine z_get X (C := RX1) (T := TX1) (N := 10) (ci := 1) (v := .ref (a 13)) inZ1 1 5 rfl rfl (by decide) q_fl_X3_95 rfl rfl dX3_isBarred_4 ?_
  refine z_iload_n X dX3_isBarred_7 rfl rfl ?_
  refine n_iald (f := S 5) X 13 rfl (by omega) (by decide) dX3_isBarred_8 ?_
  rcases hI.2.2.2.1 j hj with h0 | ⟨k, hk, h0⟩
  ·
    rw [h0]
    refine z_istore_n X dX3_isBarred_9 rfl (Nat.le_of_ble_eq_true rfl) ?_
    refine z_lv (lv' := [some (.ref (a 0)), some (.ref (a 4)), some (.int (nI j)), some (.int (-1))]) rfl ?_
    refine z_iload_n X dX3_isBarred_10 rfl rfl ?_
    refine z_if_lt (tgt := 41) X dX3_isBarred_11 (by decide) (fun _ => ?_) (fun c11 => absurd c11 (by decide))
    refine z_iconst (v := nI 0) X dX3_isBarred_41 (by decide) ?_
    refine z_iret X Z (by decide +kernel) dX3_isBarred_42 ?_
    exact ⟨(), bz_f (fun h => h (Or.inl h0)), fun _ _ => trivial⟩
  ·
    rw [h0]
    refine z_istore_n X dX3_isBarred_9 rfl (Nat.le_of_ble_eq_true rfl) ?_
    refine z_lv (lv' := [some (.ref (a 0)), some (.ref (a 4)), some (.int (nI j)), some (.int (nI k))]) rfl ?_
    refine z_iload_n X dX3_isBarred_10 rfl rfl ?_
    refine n_if_lt (tgt := 41) X dX3_isBarred_11 (by decide) (by omega) ?_
    refine z_iload_n X dX3_isBarred_14 rfl rfl ?_
    refine z_iconst (v := nI 3) X dX3_isBarred_15 (by decide) ?_
    refine n_icmp_ge (tgt := 41) X dX3_isBarred_16 (by decide) (by omega) (by omega) (fun c16 => absurd c16 (by omega)) (fun _ => ?_)
    refine z_aload_n X dX3_isBarred_19 rfl rfl ?_
    refine z_get X (C := RX0) (T := TX0) (N := 2) (ci := 0) (v := .ref (a 22)) inZ0 4 0 rfl rfl (by decide) q_fl_X3_236 rfl rfl dX3_isBarred_20 ?_
    refine z_iload_n X dX3_isBarred_23 rfl rfl ?_
    refine n_iald (f := S 15) X 22 rfl (by omega) (by decide) dX3_isBarred_24 ?_
    refine z_aload_n X dX3_isBarred_25 rfl rfl ?_
    refine z_get X (C := RX3) (T := TX3) (N := 8) (ci := 3) (v := .ref (a 1)) inZ3 0 0 rfl rfl (by decide) q_fl_X3_12 rfl rfl dX3_isBarred_26 ?_
    refine z_get X (C := RX1) (T := TX1) (N := 10) (ci := 1) (v := .ref (a 14)) inZ1 1 6 rfl rfl (by decide) q_fl_X3_98 rfl rfl dX3_isBarred_29 ?_
    refine z_iload_n X dX3_isBarred_32 rfl rfl ?_
    refine n_iald (f := S 6) X 14 rfl (by omega) (by decide) dX3_isBarred_33 ?_
    refine z_icmp_le (tgt := 41) X dX3_isBarred_34 (by decide) (fun c34 => ?_) (fun c34 => ?_)
    ·
      refine z_iconst (v := nI 0) X dX3_isBarred_41 (by decide) ?_
      refine z_iret X Z (by decide +kernel) dX3_isBarred_42 ?_
      exact ⟨(), bz_f (fun h => h ((pB_k h0 (by omega)).mpr c34)), fun _ _ => trivial⟩
    ·
      refine z_iconst (v := nI 1) X dX3_isBarred_37 (by decide) ?_
      refine z_goto (tgt := 42) X dX3_isBarred_38 (by decide) ?_
      refine z_iret X Z (by decide +kernel) dX3_isBarred_42 ?_
      exact ⟨(), bz_t (fun h => i_nle (Int32.not_le.mp c34) ((pB_k h0 (by omega)).mp h)), fun _ _ => trivial⟩
set_option maxHeartbeats 4000000 in
set_option maxRecDepth 100000 in
theorem c_X3_hasLevelForT (l : Launch) (D : va_G) (t : ClassId × ClassId × ClassId) (a : Nat → Nat) (S : zS) (j : Nat) (hj : j < 8) (hI : zI S) : zM1 l yX3_hasLevelFor cX3_hasLevelFor 4 (some .boolean) 0 D t [.ref (a 0), .ref (a 6), .int (nI j)] (wR t a S) (fun r => bz r (pL S (S 19) j)) := by
  refine z_m1 (by decide +kernel) (Nat.le_of_ble_eq_true rfl) (by simp [Value.category]) ?_
  intro E X Z
  refine z_lv (lv' := [some (.ref (a 0)), some (.ref (a 6)), some (.int (nI j)), none]) rfl ?_
  refine z_aload_n X dX3_hasLevelFor_0 rfl rfl ?_
  refine z_get X (C := RX3) (T := TX3) (N := 8) (ci := 3) (v := .ref (a 1)) inZ3 0 0 rfl rfl (by decide) q_fl_X3_12 rfl rfl dX3_hasLevelFor_1 ?_
  refine z_get X (C := RX1) (T := TX1) (N := 10) (ci := 1) (v := .ref (a 10)) inZ1 1 2 rfl rfl (by decide) q_fl_X3_84 rfl rfl dX3_hasLevelFor_4 ?_
  refine z_iload_n X dX3_hasLevelFor_7 rfl rfl ?_
  refine n_iald (f := S 2) X 10 rfl (by omega) (by decide) dX3_hasLevelFor_8 ?_
  rcases hI.2.1 j hj with h0 | ⟨k, hk, h0⟩
  ·
    rw [h0]
    refine z_istore_n X dX3_hasLevelFor_9 rfl (Nat.le_of_ble_eq_true rfl) ?_
    refine z_lv (lv' := [some (.ref (a 0)), some (.ref (a 6)), some (.int (nI j)), some (.int (-1))]) rfl ?_
    refine z_iload_n X dX3_hasLevelFor_10 rfl rfl ?_
    refine z_if_lt (tgt := 37) X dX3_hasLevelFor_11 (by decide) (fun _ => ?_) (fun c11 => absurd c11 (by decide))
    refine z_iconst (v := nI 1) X dX3_hasLevelFor_37 (by decide) ?_
    refine z_goto (tgt := 42) X dX3_hasLevelFor_38 (by decide) ?_
    refine z_iret X Z (by decide +kernel) dX3_hasLevelFor_42 ?_
    exact ⟨(), bz_t (Or.inl h0), fun _ _ => trivial⟩
  ·
    rw [h0]
    refine z_istore_n X dX3_hasLevelFor_9 rfl (Nat.le_of_ble_eq_true rfl) ?_
    refine z_lv (lv' := [some (.ref (a 0)), some (.ref (a 6)), some (.int (nI j)), some (.int (nI k))]) rfl ?_
    refine z_iload_n X dX3_hasLevelFor_10 rfl rfl ?_
    refine n_if_lt (tgt := 37) X dX3_hasLevelFor_11 (by decide) (by omega) ?_
    refine z_iload_n X dX3_hasLevelFor_14 rfl rfl ?_
    refine z_iconst (v := nI 3) X dX3_hasLevelFor_15 (by decide) ?_
    refine n_icmp_ge (tgt := 37) X dX3_hasLevelFor_16 (by decide) (by omega) (by omega) (fun c16 => absurd c16 (by omega)) (fun _ => ?_)
    refine z_aload_n X dX3_hasLevelFor_19 rfl rfl ?_
    refine z_get X (C := RX0) (T := TX0) (N := 2) (ci := 0) (v := .ref (a 23)) inZ0 6 0 rfl rfl (by decide) q_fl_X3_236 rfl rfl dX3_hasLevelFor_20 ?_
    refine z_iload_n X dX3_hasLevelFor_23 rfl rfl ?_
    refine n_iald (f := S 19) X 23 rfl (by omega) (by decide) dX3_hasLevelFor_24 ?_
    refine z_aload_n X dX3_hasLevelFor_25 rfl rfl ?_
    refine z_get X (C := RX3) (T := TX3) (N := 8) (ci := 3) (v := .ref (a 1)) inZ3 0 0 rfl rfl (by decide) q_fl_X3_12 rfl rfl dX3_hasLevelFor_26 ?_
    refine z_get X (C := RX1) (T := TX1) (N := 10) (ci := 1) (v := .ref (a 11)) inZ1 1 3 rfl rfl (by decide) q_fl_X3_87 rfl rfl dX3_hasLevelFor_29 ?_
    refine z_iload_n X dX3_hasLevelFor_32 rfl rfl ?_
    refine n_iald (f := S 3) X 11 rfl (by omega) (by decide) dX3_hasLevelFor_33 ?_
    refine z_icmp_lt (tgt := 41) X dX3_hasLevelFor_34 (by decide) (fun c34 => ?_) (fun c34 => ?_)
    ·
      refine z_iconst (v := nI 0) X dX3_hasLevelFor_41 (by decide) ?_
      refine z_iret X Z (by decide +kernel) dX3_hasLevelFor_42 ?_
      exact ⟨(), bz_f (fun h => i_nle c34 ((pL_k h0 (by omega)).mp h)), fun _ _ => trivial⟩
    ·
      refine z_iconst (v := nI 1) X dX3_hasLevelFor_37 (by decide) ?_
      refine z_goto (tgt := 42) X dX3_hasLevelFor_38 (by decide) ?_
      refine z_iret X Z (by decide +kernel) dX3_hasLevelFor_42 ?_
      exact ⟨(), bz_t ((pL_k h0 (by omega)).mpr (i_le c34)), fun _ _ => trivial⟩
set_option maxHeartbeats 4000000 in
set_option maxRecDepth 100000 in
theorem c_X3_isBarredT (l : Launch) (D : va_G) (t : ClassId × ClassId × ClassId) (a : Nat → Nat) (S : zS) (j : Nat) (hj : j < 8) (hI : zI S) : zM1 l yX3_isBarred cX3_isBarred 4 (some .boolean) 0 D t [.ref (a 0), .ref (a 6), .int (nI j)] (wR t a S) (fun r => bz r (¬ pB S (S 19) j)) := by
  refine z_m1 (by decide +kernel) (Nat.le_of_ble_eq_true rfl) (by simp [Value.category]) ?_
  intro E X Z
  refine z_lv (lv' := [some (.ref (a 0)), some (.ref (a 6)), some (.int (nI j)), none]) rfl ?_
  refine z_aload_n X dX3_isBarred_0 rfl rfl ?_
  refine z_get X (C := RX3) (T := TX3) (N := 8) (ci := 3) (v := .ref (a 1)) inZ3 0 0 rfl rfl (by decide) q_fl_X3_12 rfl rfl dX3_isBarred_1 ?_
  refine z_get X (C := RX1) (T := TX1) (N := 10) (ci := 1) (v := .ref (a 13)) inZ1 1 5 rfl rfl (by decide) q_fl_X3_95 rfl rfl dX3_isBarred_4 ?_
  refine z_iload_n X dX3_isBarred_7 rfl rfl ?_
  refine n_iald (f := S 5) X 13 rfl (by omega) (by decide) dX3_isBarred_8 ?_
  rcases hI.2.2.2.1 j hj with h0 | ⟨k, hk, h0⟩
  ·
    rw [h0]
    refine z_istore_n X dX3_isBarred_9 rfl (Nat.le_of_ble_eq_true rfl) ?_
    refine z_lv (lv' := [some (.ref (a 0)), some (.ref (a 6)), some (.int (nI j)), some (.int (-1))]) rfl ?_
    refine z_iload_n X dX3_isBarred_10 rfl rfl ?_
    refine z_if_lt (tgt := 41) X dX3_isBarred_11 (by decide) (fun _ => ?_) (fun c11 => absurd c11 (by decide))
    refine z_iconst (v := nI 0) X dX3_isBarred_41 (by decide) ?_
    refine z_iret X Z (by decide +kernel) dX3_isBarred_42 ?_
    exact ⟨(), bz_f (fun h => h (Or.inl h0)), fun _ _ => trivial⟩
  ·
    rw [h0]
    refine z_istore_n X dX3_isBarred_9 rfl (Nat.le_of_ble_eq_true rfl) ?_
    refine z_lv (lv' := [some (.ref (a 0)), some (.ref (a 6)), some (.int (nI j)), some (.int (nI k))]) rfl ?_
    refine z_iload_n X dX3_isBarred_10 rfl rfl ?_
    refine n_if_lt (tgt := 41) X dX3_isBarred_11 (by decide) (by omega) ?_
    refine z_iload_n X dX3_isBarred_14 rfl rfl ?_
    refine z_iconst (v := nI 3) X dX3_isBarred_15 (by decide) ?_
    refine n_icmp_ge (tgt := 41) X dX3_isBarred_16 (by decide) (by omega) (by omega) (fun c16 => absurd c16 (by omega)) (fun _ => ?_)
    refine z_aload_n X dX3_isBarred_19 rfl rfl ?_
    refine z_get X (C := RX0) (T := TX0) (N := 2) (ci := 0) (v := .ref (a 23)) inZ0 6 0 rfl rfl (by decide) q_fl_X3_236 rfl rfl dX3_isBarred_20 ?_
    refine z_iload_n X dX3_isBarred_23 rfl rfl ?_
    refine n_iald (f := S 19) X 23 rfl (by omega) (by decide) dX3_isBarred_24 ?_
    refine z_aload_n X dX3_isBarred_25 rfl rfl ?_
    refine z_get X (C := RX3) (T := TX3) (N := 8) (ci := 3) (v := .ref (a 1)) inZ3 0 0 rfl rfl (by decide) q_fl_X3_12 rfl rfl dX3_isBarred_26 ?_
    refine z_get X (C := RX1) (T := TX1) (N := 10) (ci := 1) (v := .ref (a 14)) inZ1 1 6 rfl rfl (by decide) q_fl_X3_98 rfl rfl dX3_isBarred_29 ?_
    refine z_iload_n X dX3_isBarred_32 rfl rfl ?_
    refine n_iald (f := S 6) X 14 rfl (by omega) (by decide) dX3_isBarred_33 ?_
    refine z_icmp_le (tgt := 41) X dX3_isBarred_34 (by decide) (fun c34 => ?_) (fun c34 => ?_)
    ·
      refine z_iconst (v := nI 0) X dX3_isBarred_41 (by decide) ?_
      refine z_iret X Z (by decide +kernel) dX3_isBarred_42 ?_
      exact ⟨(), bz_f (fun h => h ((pB_k h0 (by omega)).mpr c34)), fun _ _ => trivial⟩
    ·
      refine z_iconst (v := nI 1) X dX3_isBarred_37 (by decide) ?_
      refine z_goto (tgt := 42) X dX3_isBarred_38 (by decide) ?_
      refine z_iret X Z (by decide +kernel) dX3_isBarred_42 ?_
      exact ⟨(), bz_t (fun h => i_nle (Int32.not_le.mp c34) ((pB_k h0 (by omega)).mp h)), fun _ _ => trivial⟩
set_option maxHeartbeats 4000000 in
set_option maxRecDepth 100000 in
theorem c_X3_isOtherIn (l : Launch) (D : va_G) (t : ClassId × ClassId × ClassId) (a : Nat → Nat) (S : zS) (s j : Nat) (hs : s < 2 ^ 31) (hj : j < 8) (hI : zI S) : zM1 l yX3_isOtherIn cX3_isOtherIn 4 (some .boolean) 0 D t [.ref (a 0), .int (nI s), .int (nI j)] (wR t a S) (fun r => bz r (pO S s j)) := by
  refine z_m1 (by decide +kernel) (Nat.le_of_ble_eq_true rfl) (by simp [Value.category]) ?_
  intro E X Z
  refine z_lv (lv' := [some (.ref (a 0)), some (.int (nI s)), some (.int (nI j)), none]) rfl ?_
  refine z_aload_n X dX3_isOtherIn_0 rfl rfl ?_
  refine z_get X (C := RX3) (T := TX3) (N := 8) (ci := 3) (v := .ref (a 1)) inZ3 0 0 rfl rfl (by decide) q_fl_X3_12 rfl rfl dX3_isOtherIn_1 ?_
  refine z_get X (C := RX1) (T := TX1) (N := 10) (ci := 1) (v := .ref (a 12)) inZ1 1 4 rfl rfl (by decide) q_fl_X3_90 rfl rfl dX3_isOtherIn_4 ?_
  refine z_iload_n X dX3_isOtherIn_7 rfl rfl ?_
  refine n_iald (f := S 4) X 12 rfl (by omega) (by decide) dX3_isOtherIn_8 ?_
  rcases hI.2.2.1 j hj with h0 | ⟨k, hk, h0⟩
  ·
    rw [h0]
    refine z_istore_n X dX3_isOtherIn_9 rfl (Nat.le_of_ble_eq_true rfl) ?_
    refine z_lv (lv' := [some (.ref (a 0)), some (.int (nI s)), some (.int (nI j)), some (.int (-1))]) rfl ?_
    refine z_iload_n X dX3_isOtherIn_10 rfl rfl ?_
    refine z_iconst (v := (-1)) X dX3_isOtherIn_11 (by decide) ?_
    refine z_icmp_eq (tgt := 23) X dX3_isOtherIn_12 (by decide) (fun _ => ?_) (fun c12 => absurd c12 (by decide))
    refine z_iconst (v := nI 1) X dX3_isOtherIn_23 (by decide) ?_
    refine z_goto (tgt := 28) X dX3_isOtherIn_24 (by decide) ?_
    refine z_iret X Z (by decide +kernel) dX3_isOtherIn_28 ?_
    exact ⟨(), bz_t (Or.inl h0), fun _ _ => trivial⟩
  ·
    rw [h0]
    refine z_istore_n X dX3_isOtherIn_9 rfl (Nat.le_of_ble_eq_true rfl) ?_
    refine z_lv (lv' := [some (.ref (a 0)), some (.int (nI s)), some (.int (nI j)), some (.int (nI k))]) rfl ?_
    refine z_iload_n X dX3_isOtherIn_10 rfl rfl ?_
    refine z_iconst (v := (-1)) X dX3_isOtherIn_11 (by decide) ?_
    refine z_icmp_eq (tgt := 23) X dX3_isOtherIn_12 (by decide) (fun c12 => absurd c12 (zn_m1 k (by omega))) (fun c12 => ?_)
    refine z_iload_n X dX3_isOtherIn_15 rfl rfl ?_
    refine z_iload_n X dX3_isOtherIn_16 rfl rfl ?_
    refine n_ishr X dX3_isOtherIn_17 (by omega) (by omega) ?_
    refine z_iconst (v := nI 1) X dX3_isOtherIn_18 (by decide) ?_
    refine n_iand X dX3_isOtherIn_19 ?_
    rw [zt_bit1]
    refine n_if_eq (tgt := 27) X dX3_isOtherIn_20 (by decide) (by omega) (fun c20 => ?_) (fun c20 => ?_)
    ·
      refine z_iconst (v := nI 0) X dX3_isOtherIn_27 (by decide) ?_
      refine z_iret X Z (by decide +kernel) dX3_isOtherIn_28 ?_
      exact ⟨(), bz_f (fun h => by rw [(pO_k h0 (by omega)), zt_b2 c20] at h; cases h), fun _ _ => trivial⟩
    ·
      refine z_iconst (v := nI 1) X dX3_isOtherIn_23 (by decide) ?_
      refine z_goto (tgt := 28) X dX3_isOtherIn_24 (by decide) ?_
      refine z_iret X Z (by decide +kernel) dX3_isOtherIn_28 ?_
      exact ⟨(), bz_t ((pO_k h0 (by omega)).mpr (zt_b1 c20)), fun _ _ => trivial⟩
