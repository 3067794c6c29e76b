/-- counting down: what stands in the counter -/
def sv : Nat → Int32
  | 0 => -1
  | i + 1 => nI i
theorem sv_m (i : Nat) : nI i + (-1) = sv i := by
  cases i with
  | zero => decide
  | succ i => exact pk_m1 i
theorem zl_dn (F : Nat → Prop) (h0 : F 0) (hs : ∀ i, F i → F (i + 1)) : ∀ i, F i
  | 0 => h0
  | i + 1 => hs i (zl_dn F h0 hs i)
section
variable {S : zS} {X Y Z G x y z s k j : Nat} {e : Nat → Int32}
theorem stp_0 : stp S X Y Z G x y z s 0 ↔ x < X := by
  refine ⟨fun h => ?_, fun h => Or.inl ⟨rfl, h⟩⟩
  rcases h with ⟨-, h⟩ | ⟨h, -⟩ | ⟨h, -⟩ | ⟨h, -⟩
  · exact h
  · omega
  · omega
  · omega
theorem stp_1 : stp S X Y Z G x y z s 1 ↔ y < Y := by
  refine ⟨fun h => ?_, fun h => Or.inr (Or.inl ⟨rfl, h⟩)⟩
  rcases h with ⟨h, -⟩ | ⟨-, h⟩ | ⟨h, -⟩ | ⟨h, -⟩
  · omega
  · exact h
  · omega
  · omega
theorem stp_2 : stp S X Y Z G x y z s 2 ↔ z < Z := by
  refine ⟨fun h => ?_, fun h => Or.inr (Or.inr (Or.inl ⟨rfl, h⟩))⟩
  rcases h with ⟨h, -⟩ | ⟨h, -⟩ | ⟨-, h⟩ | ⟨h, -⟩
  · omega
  · omega
  · exact h
  · omega
theorem stp_j (hj : j < 8) : stp S X Y Z G x y z s (j + 3) ↔ G.testBit j = true ∧ mt S x y z s j := by
  refine ⟨fun h => ?_, fun h => Or.inr (Or.inr (Or.inr ⟨by omega, by omega, by rw [Nat.add_sub_cancel]; exact h.1, by rw [Nat.add_sub_cancel]; exact h.2⟩))⟩
  rcases h with ⟨h, -⟩ | ⟨h, -⟩ | ⟨h, -⟩ | ⟨-, -, h⟩
  · omega
  · omega
  · omega
  · rw [Nat.add_sub_cancel] at h; exact h
theorem stp_gs (h : stp S X Y Z G x y z s k) : 3 ≤ k → s.testBit (k - 3) = false := by
  intro h3
  rcases h with ⟨h, -⟩ | ⟨h, -⟩ | ⟨h, -⟩ | ⟨-, -, -, h⟩
  · omega
  · omega
  · omega
  · exact h.1
/-- a step after which the goal is marked to be reachable -/
def Pk (S : zS) (X Y Z G x y z s : Nat) (e : Nat → Int32) (k : Nat) : Prop := stp S X Y Z G x y z s k ∧ mkd e Y Z (gx k x) (gy k y) (gz k z) (gs k s)
def fstR (r : Int32) (P : Nat → Prop) : Prop := (∃ k, k < 11 ∧ r = nI k ∧ P k ∧ ∀ i, i < k → ¬ P i) ∨ (r = -1 ∧ ∀ k, k < 11 → ¬ P k)
end
theorem k11 {k : Nat} (hk : k < 11) : k = 0 ∨ k = 1 ∨ k = 2 ∨ (∃ j, k = j + 3 ∧ j < 8) := by
  rcases (show k = 0 ∨ k = 1 ∨ k = 2 ∨ 3 ≤ k by omega) with h | h | h | h
  · exact Or.inl h
  · exact Or.inr (Or.inl h)
  · exact Or.inr (Or.inr (Or.inl h))
  · exact Or.inr (Or.inr (Or.inr ⟨k - 3, by omega, by omega⟩))
set_option maxHeartbeats 4000000 in
set_option maxRecDepth 100000 in
theorem c_X3_isStepTowards (l : Launch) (D : va_G) (t : ClassId × ClassId × ClassId) (a : Nat → Nat) (S : zS) (Xn Yn Zn G x y z s : Nat) (e : Nat → Int32) (k : Nat) (hk : k < 11) (h15 : S 15 = l3 Xn Yn Zn) (hI : zI S) (hG : G < 256) (hX : Xn + Yn + Zn ≤ 8) (hb : inB Xn Yn Zn G x y z s) : zM1 l yX3_isStepTowards cX3_isStepTowards 4 (some .boolean) 3 D t [.ref (a 0), .int (nI G), .int (nI k)] (wR t a (T3 S x y z s e)) (fun r => bz r (stp S Xn Yn Zn G x y z s k)) := by
  refine z_m1 (by decide +kernel) (Nat.le_of_ble_eq_true rfl) (by simp [Value.category]) ?_
  intro E X Z
  refine z_lv (lv' := [some (.ref (a 0)), some (.int (nI G)), some (.int (nI k)), none]) rfl ?_
  have hs := sub8_lt hb.2.2.2 hG
  have hx1 := hb.1
  have hx2 := hb.2.1
  have hx3 := hb.2.2.1
  rcases k11 hk with rfl | rfl | rfl | ⟨j, rfl, hj⟩
  ·
    refine z_iload_n X dX3_isStepTowards_0 rfl rfl ?_
    refine z_iconst (v := nI 3) X dX3_isStepTowards_1 (by decide) ?_
    refine z_callS1 (k := 0) (n := 0) (st := []) X (c_X3_isAmong l D t 0 3 (by omega) (by decide)) k_X3_isAmong q_ml_X3_53 [] ⟨by decide, rfl⟩ (by decide) rfl rfl rfl (Nat.le_of_ble_eq_true rfl) ⟨Nat.zero_le _, Nat.zero_le _⟩ dX3_isStepTowards_2 (fun r2 h2 => ?_)
    rcases h2 with ⟨rfl, h2⟩ | ⟨rfl, h2⟩
    rotate_left
    · exact absurd (by omega) h2
    refine n_if_eq (tgt := 35) X dX3_isStepTowards_5 (by decide) (by omega) (fun c5 => absurd c5 (by decide)) (fun _ => ?_)
    refine z_aload_n X dX3_isStepTowards_8 rfl rfl ?_
    refine z_get X (C := RX3) (T := TX3) (N := 8) (ci := 3) (v := .ref (a 6)) inZ3 0 6 rfl rfl (by decide) q_fl_X3_41 rfl rfl dX3_isStepTowards_9 ?_
    refine z_get X (C := RX0) (T := TX0) (N := 2) (ci := 0) (v := .ref (a 23)) inZ0 6 0 rfl rfl (by decide) q_fl_X3_236 rfl rfl dX3_isStepTowards_12 ?_
    refine z_iload_n X dX3_isStepTowards_15 rfl rfl ?_
    refine n_iald (f := l3 x y z) X 23 rfl (by omega) (by decide) dX3_isStepTowards_16 ?_
    refine z_top (y := nI x) (rfl) ?_
    refine z_aload_n X dX3_isStepTowards_17 rfl rfl ?_
    refine z_get X (C := RX3) (T := TX3) (N := 8) (ci := 3) (v := .ref (a 4)) inZ3 0 3 rfl rfl (by decide) q_fl_X3_30 rfl rfl dX3_isStepTowards_18 ?_
    refine z_get X (C := RX0) (T := TX0) (N := 2) (ci := 0) (v := .ref (a 22)) inZ0 4 0 rfl rfl (by decide) q_fl_X3_236 rfl rfl dX3_isStepTowards_21 ?_
    refine z_iload_n X dX3_isStepTowards_24 rfl rfl ?_
    refine n_iald (f := S 15) X 22 rfl (by omega) (by decide) dX3_isStepTowards_25 ?_
    refine z_top (y := nI Xn) (by rw [h15]; rfl) ?_
    refine n_icmp_ge (tgt := 33) X dX3_isStepTowards_26 (by decide) (by omega) (by omega) (fun c26 => ?_) (fun c26 => ?_)
    ·
      refine z_iconst (v := nI 0) X dX3_isStepTowards_33 (by decide) ?_
      refine z_iret X Z (by decide +kernel) dX3_isStepTowards_34 ?_
      first
        | exact ⟨(), bz_f (fun h => absurd (stp_0.mp h) (by omega)), fun _ _ => trivial⟩
        | exact ⟨(), bz_f (fun h => absurd (stp_1.mp h) (by omega)), fun _ _ => trivial⟩
        | exact ⟨(), bz_f (fun h => absurd (stp_2.mp h) (by omega)), fun _ _ => trivial⟩
        | exact ⟨(), bz_f (fun h => h62 ((stp_j hj).mp h).2), fun _ _ => trivial⟩
        | exact ⟨(), bz_f (fun h => by have q := ((stp_j hj).mp h).1; rw [zt_b2 c53] at q; cases q), fun _ _ => trivial⟩
    ·
      refine z_iconst (v := nI 1) X dX3_isStepTowards_29 (by decide) ?_
      refine z_goto (tgt := 34) X dX3_isStepTowards_30 (by decide) ?_
      refine z_iret X Z (by decide +kernel) dX3_isStepTowards_34 ?_
      first
        | exact ⟨(), bz_t (stp_0.mpr c26), fun _ _ => trivial⟩
        | exact ⟨(), bz_t (stp_1.mpr c26), fun _ _ => trivial⟩
        | exact ⟨(), bz_t (stp_2.mpr c26), fun _ _ => trivial⟩
        | exact ⟨(), bz_t ((stp_j hj).mpr ⟨zt_b1 c53, T3mt.mp h62⟩), fun _ _ => trivial⟩
  ·
    refine z_iload_n X dX3_isStepTowards_0 rfl rfl ?_
    refine z_iconst (v := nI 3) X dX3_isStepTowards_1 (by decide) ?_
    refine z_callS1 (k := 0) (n := 0) (st := []) X (c_X3_isAmong l D t 1 3 (by omega) (by decide)) k_X3_isAmong q_ml_X3_53 [] ⟨by decide, rfl⟩ (by decide) rfl rfl rfl (Nat.le_of_ble_eq_true rfl) ⟨Nat.zero_le _, Nat.zero_le _⟩ dX3_isStepTowards_2 (fun r2 h2 => ?_)
    rcases h2 with ⟨rfl, h2⟩ | ⟨rfl, h2⟩
    rotate_left
    · exact absurd (by omega) h2
    refine n_if_eq (tgt := 35) X dX3_isStepTowards_5 (by decide) (by omega) (fun c5 => absurd c5 (by decide)) (fun _ => ?_)
    refine z_aload_n X dX3_isStepTowards_8 rfl rfl ?_
    refine z_get X (C := RX3) (T := TX3) (N := 8) (ci := 3) (v := .ref (a 6)) inZ3 0 6 rfl rfl (by decide) q_fl_X3_41 rfl rfl dX3_isStepTowards_9 ?_
    refine z_get X (C := RX0) (T := TX0) (N := 2) (ci := 0) (v := .ref (a 23)) inZ0 6 0 rfl rfl (by decide) q_fl_X3_236 rfl rfl dX3_isStepTowards_12 ?_
    refine z_iload_n X dX3_isStepTowards_15 rfl rfl ?_
    refine n_iald (f := l3 x y z) X 23 rfl (by omega) (by decide) dX3_isStepTowards_16 ?_
    refine z_top (y := nI y) (rfl) ?_
    refine z_aload_n X dX3_isStepTowards_17 rfl rfl ?_
    refine z_get X (C := RX3) (T := TX3) (N := 8) (ci := 3) (v := .ref (a 4)) inZ3 0 3 rfl rfl (by decide) q_fl_X3_30 rfl rfl dX3_isStepTowards_18 ?_
    refine z_get X (C := RX0) (T := TX0) (N := 2) (ci := 0) (v := .ref (a 22)) inZ0 4 0 rfl rfl (by decide) q_fl_X3_236 rfl rfl dX3_isStepTowards_21 ?_
    refine z_iload_n X dX3_isStepTowards_24 rfl rfl ?_
    refine n_iald (f := S 15) X 22 rfl (by omega) (by decide) dX3_isStepTowards_25 ?_
    refine z_top (y := nI Yn) (by rw [h15]; rfl) ?_
    refine n_icmp_ge (tgt := 33) X dX3_isStepTowards_26 (by decide) (by omega) (by omega) (fun c26 => ?_) (fun c26 => ?_)
    ·
      refine z_iconst (v := nI 0) X dX3_isStepTowards_33 (by decide) ?_
      refine z_iret X Z (by decide +kernel) dX3_isStepTowards_34 ?_
      first
        | exact ⟨(), bz_f (fun h => absurd (stp_0.mp h) (by omega)), fun _ _ => trivial⟩
        | exact ⟨(), bz_f (fun h => absurd (stp_1.mp h) (by omega)), fun _ _ => trivial⟩
        | exact ⟨(), bz_f (fun h => absurd (stp_2.mp h) (by omega)), fun _ _ => trivial⟩
        | exact ⟨(), bz_f (fun h => h62 ((stp_j hj).mp h).2), fun _ _ => trivial⟩
        | exact ⟨(), bz_f (fun h => by have q := ((stp_j hj).mp h).1; rw [zt_b2 c53] at q; cases q), fun _ _ => trivial⟩
    ·
      refine z_iconst (v := nI 1) X dX3_isStepTowards_29 (by decide) ?_
      refine z_goto (tgt := 34) X dX3_isStepTowards_30 (by decide) ?_
      refine z_iret X Z (by decide +kernel) dX3_isStepTowards_34 ?_
      first
        | exact ⟨(), bz_t (stp_0.mpr c26), fun _ _ => trivial⟩
        | exact ⟨(), bz_t (stp_1.mpr c26), fun _ _ => trivial⟩
        | exact ⟨(), bz_t (stp_2.mpr c26), fun _ _ => trivial⟩
        | exact ⟨(), bz_t ((stp_j hj).mpr ⟨zt_b1 c53, T3mt.mp h62⟩), fun _ _ => trivial⟩
  ·
    refine z_iload_n X dX3_isStepTowards_0 rfl rfl ?_
    refine z_iconst (v := nI 3) X dX3_isStepTowards_1 (by decide) ?_
    refine z_callS1 (k := 0) (n := 0) (st := []) X (c_X3_isAmong l D t 2 3 (by omega) (by decide)) k_X3_isAmong q_ml_X3_53 [] ⟨by decide, rfl⟩ (by decide) rfl rfl rfl (Nat.le_of_ble_eq_true rfl) ⟨Nat.zero_le _, Nat.zero_le _⟩ dX3_isStepTowards_2 (fun r2 h2 => ?_)
    rcases h2 with ⟨rfl, h2⟩ | ⟨rfl, h2⟩
    rotate_left
    · exact absurd (by omega) h2
    refine n_if_eq (tgt := 35) X dX3_isStepTowards_5 (by decide) (by omega) (fun c5 => absurd c5 (by decide)) (fun _ => ?_)
    refine z_aload_n X dX3_isStepTowards_8 rfl rfl ?_
    refine z_get X (C := RX3) (T := TX3) (N := 8) (ci := 3) (v := .ref (a 6)) inZ3 0 6 rfl rfl (by decide) q_fl_X3_41 rfl rfl dX3_isStepTowards_9 ?_
    refine z_get X (C := RX0) (T := TX0) (N := 2) (ci := 0) (v := .ref (a 23)) inZ0 6 0 rfl rfl (by decide) q_fl_X3_236 rfl rfl dX3_isStepTowards_12 ?_
    refine z_iload_n X dX3_isStepTowards_15 rfl rfl ?_
    refine n_iald (f := l3 x y z) X 23 rfl (by omega) (by decide) dX3_isStepTowards_16 ?_
    refine z_top (y := nI z) (rfl) ?_
    refine z_aload_n X dX3_isStepTowards_17 rfl rfl ?_
    refine z_get X (C := RX3) (T := TX3) (N := 8) (ci := 3) (v := .ref (a 4)) inZ3 0 3 rfl rfl (by decide) q_fl_X3_30 rfl rfl dX3_isStepTowards_18 ?_
    refine z_get X (C := RX0) (T := TX0) (N := 2) (ci := 0) (v := .ref (a 22)) inZ0 4 0 rfl rfl (by decide) q_fl_X3_236 rfl rfl dX3_isStepTowards_21 ?_
    refine z_iload_n X dX3_isStepTowards_24 rfl rfl ?_
    refine n_iald (f := S 15) X 22 rfl (by omega) (by decide) dX3_isStepTowards_25 ?_
    refine z_top (y := nI Zn) (by rw [h15]; rfl) ?_
    refine n_icmp_ge (tgt := 33) X dX3_isStepTowards_26 (by decide) (by omega) (by omega) (fun c26 => ?_) (fun c26 => ?_)
    ·
      refine z_iconst (v := nI 0) X dX3_isStepTowards_33 (by decide) ?_
      refine z_iret X Z (by decide +kernel) dX3_isStepTowards_34 ?_
      first
        | exact ⟨(), bz_f (fun h => absurd (stp_0.mp h) (by omega)), fun _ _ => trivial⟩
        | exact ⟨(), bz_f (fun h => absurd (stp_1.mp h) (by omega)), fun _ _ => trivial⟩
        | exact ⟨(), bz_f (fun h => absurd (stp_2.mp h) (by omega)), fun _ _ => trivial⟩
        | exact ⟨(), bz_f (fun h => h62 ((stp_j hj).mp h).2), fun _ _ => trivial⟩
        | exact ⟨(), bz_f (fun h => by have q := ((stp_j hj).mp h).1; rw [zt_b2 c53] at q; cases q), fun _ _ => trivial⟩
    ·
      refine z_iconst (v := nI 1) X dX3_isStepTowards_29 (by decide) ?_
      refine z_goto (tgt := 34) X dX3_isStepTowards_30 (by decide) ?_
      refine z_iret X Z (by decide +kernel) dX3_isStepTowards_34 ?_
      first
        | exact ⟨(), bz_t (stp_0.mpr c26), fun _ _ => trivial⟩
        | exact ⟨(), bz_t (stp_1.mpr c26), fun _ _ => trivial⟩
        | exact ⟨(), bz_t (stp_2.mpr c26), fun _ _ => trivial⟩
        | exact ⟨(), bz_t ((stp_j hj).mpr ⟨zt_b1 c53, T3mt.mp h62⟩), fun _ _ => trivial⟩
  ·
    refine z_iload_n X dX3_isStepTowards_0 rfl rfl ?_
    refine z_iconst (v := nI 3) X dX3_isStepTowards_1 (by decide) ?_
    refine z_callS1 (k := 0) (n := 0) (st := []) X (c_X3_isAmong l D t (j + 3) 3 (by omega) (by decide)) k_X3_isAmong q_ml_X3_53 [] ⟨by decide, rfl⟩ (by decide) rfl rfl rfl (Nat.le_of_ble_eq_true rfl) ⟨Nat.zero_le _, Nat.zero_le _⟩ dX3_isStepTowards_2 (fun r2 h2 => ?_)
    rcases h2 with ⟨rfl, h2⟩ | ⟨rfl, h2⟩
    · exact absurd h2 (by omega)
    refine n_if_eq (tgt := 35) X dX3_isStepTowards_5 (by decide) (by omega) (fun _ => ?_) (fun c5 => absurd c5 (by decide))
    refine z_iload_n X dX3_isStepTowards_35 rfl rfl ?_
    refine z_iconst (v := nI 3) X dX3_isStepTowards_36 (by decide) ?_
    refine n_isub X dX3_isStepTowards_37 (by omega) ?_
    refine z_top (y := nI j) (by rw [Nat.add_sub_cancel]) ?_
    refine z_istore_n X dX3_isStepTowards_38 rfl (Nat.le_of_ble_eq_true rfl) ?_
    refine z_lv (lv' := [some (.ref (a 0)), some (.int (nI G)), some (.int (nI (j + 3))), some (.int (nI j))]) rfl ?_
    refine z_iload_n X dX3_isStepTowards_39 rfl rfl ?_
    refine z_bipush (v := nI 8) X dX3_isStepTowards_40 (by decide) ?_
    refine z_callS1 (k := 0) (n := 0) (st := []) X (c_X3_isAmong l D t j 8 (by omega) (by decide)) k_X3_isAmong q_ml_X3_53 [] ⟨by decide, rfl⟩ (by decide) rfl rfl rfl (Nat.le_of_ble_eq_true rfl) ⟨Nat.zero_le _, Nat.zero_le _⟩ dX3_isStepTowards_42 (fun r42 h42 => ?_)
    rcases h42 with ⟨rfl, h42⟩ | ⟨rfl, h42⟩
    rotate_left
    · exact absurd (by omega) h42
    refine n_if_eq (tgt := 72) X dX3_isStepTowards_45 (by decide) (by omega) (fun c45 => absurd c45 (by decide)) (fun _ => ?_)
    refine z_iload_n X dX3_isStepTowards_48 rfl rfl ?_
    refine z_iload_n X dX3_isStepTowards_49 rfl rfl ?_
    refine n_ishr X dX3_isStepTowards_50 (by omega) (by omega) ?_
    refine z_iconst (v := nI 1) X dX3_isStepTowards_51 (by decide) ?_
    refine n_iand X dX3_isStepTowards_52 ?_
    rw [zt_bit1]
    refine n_if_eq (tgt := 72) X dX3_isStepTowards_53 (by decide) (by omega) (fun c53 => ?_) (fun c53 => ?_)
    ·
      refine z_iconst (v := nI 0) X dX3_isStepTowards_72 (by decide) ?_
      refine z_iret X Z (by decide +kernel) dX3_isStepTowards_73 ?_
      first
        | exact ⟨(), bz_f (fun h => absurd (stp_0.mp h) (by omega)), fun _ _ => trivial⟩
        | exact ⟨(), bz_f (fun h => absurd (stp_1.mp h) (by omega)), fun _ _ => trivial⟩
        | exact ⟨(), bz_f (fun h => absurd (stp_2.mp h) (by omega)), fun _ _ => trivial⟩
        | exact ⟨(), bz_f (fun h => h62 ((stp_j hj).mp h).2), fun _ _ => trivial⟩
        | exact ⟨(), bz_f (fun h => by have q := ((stp_j hj).mp h).1; rw [zt_b2 c53] at q; cases q), fun _ _ => trivial⟩
    ·
      refine z_aload_n X dX3_isStepTowards_56 rfl rfl ?_
      refine z_aload_n X dX3_isStepTowards_57 rfl rfl ?_
      refine z_get X (C := RX3) (T := TX3) (N := 8) (ci := 3) (v := .ref (a 6)) inZ3 0 6 rfl rfl (by decide) q_fl_X3_41 rfl rfl dX3_isStepTowards_58 ?_
      refine z_iload_n X dX3_isStepTowards_61 rfl rfl ?_
      refine z_callV1 (k := 0) (n := 0) (st := []) X (c_X3_mayTakeT l D t a (T3 S x y z s e) x y z s j rfl rfl (by omega) (by omega) (by omega) (T3I hI)) k_X3_mayTake q_ml_X3_149 is24 ⟨by decide, rfl⟩ 0 3 rfl rfl (by decide) rfl rfl rfl (Nat.le_of_ble_eq_true rfl) ⟨Nat.zero_le _, Nat.zero_le _⟩ dX3_isStepTowards_62 (fun r62 h62 => ?_)
      rcases h62 with ⟨rfl, h62⟩ | ⟨rfl, h62⟩
      ·
        refine n_if_eq (tgt := 72) X dX3_isStepTowards_65 (by decide) (by omega) (fun c65 => absurd c65 (by decide)) (fun _ => ?_)
        refine z_iconst (v := nI 1) X dX3_isStepTowards_68 (by decide) ?_
        refine z_goto (tgt := 73) X dX3_isStepTowards_69 (by decide) ?_
        refine z_iret X Z (by decide +kernel) dX3_isStepTowards_73 ?_
        first
          | exact ⟨(), bz_t (stp_0.mpr c26), fun _ _ => trivial⟩
          | exact ⟨(), bz_t (stp_1.mpr c26), fun _ _ => trivial⟩
          | exact ⟨(), bz_t (stp_2.mpr c26), fun _ _ => trivial⟩
          | exact ⟨(), bz_t ((stp_j hj).mpr ⟨zt_b1 c53, T3mt.mp h62⟩), fun _ _ => trivial⟩
      ·
        refine n_if_eq (tgt := 72) X dX3_isStepTowards_65 (by decide) (by omega) (fun _ => ?_) (fun c65 => absurd c65 (by decide))
        refine z_iconst (v := nI 0) X dX3_isStepTowards_72 (by decide) ?_
        refine z_iret X Z (by decide +kernel) dX3_isStepTowards_73 ?_
        first
          | exact ⟨(), bz_f (fun h => absurd (stp_0.mp h) (by omega)), fun _ _ => trivial⟩
          | exact ⟨(), bz_f (fun h => absurd (stp_1.mp h) (by omega)), fun _ _ => trivial⟩
          | exact ⟨(), bz_f (fun h => absurd (stp_2.mp h) (by omega)), fun _ _ => trivial⟩
          | exact ⟨(), bz_f (fun h => h62 ((stp_j hj).mp h).2), fun _ _ => trivial⟩
          | exact ⟨(), bz_f (fun h => by have q := ((stp_j hj).mp h).1; rw [zt_b2 c53] at q; cases q), fun _ _ => trivial⟩
set_option maxHeartbeats 4000000 in
set_option maxRecDepth 100000 in
theorem c_X3_firstStepTowards (l : Launch) (D : va_G) (t : ClassId × ClassId × ClassId) (a : Nat → Nat) (S : zS) (Xn Yn Zn G x y z s : Nat) (e : Nat → Int32) (h15 : S 15 = l3 Xn Yn Zn) (hI : zI S) (hG : G < 256) (hX : Xn + Yn + Zn ≤ 8) (hb : inB Xn Yn Zn G x y z s) : zM2 l yX3_firstStepTowards cX3_firstStepTowards 4 (some .int) 4 D t [.ref (a 0), .int (nI G)] (wR t a (T3 S x y z s e)) (fun r (_ : Unit) => fstR r (Pk S Xn Yn Zn G x y z s e)) (fun _ => wR t a (T3 S x y z s e)) := by
  refine z_m2 (by decide +kernel) (Nat.le_of_ble_eq_true rfl) (by simp [Value.category]) ?_
  intro E X Z Y
  refine z_lv (lv' := [some (.ref (a 0)), some (.int (nI G)), none, none]) rfl ?_
  have hs := sub8_lt hb.2.2.2 hG
  refine z_iconst (v := nI 0) X dX3_firstStepTowards_0 (by decide) ?_
  refine z_istore_n X dX3_firstStepTowards_1 rfl (Nat.le_of_ble_eq_true rfl) ?_
  refine z_lv (lv' := [some (.ref (a 0)), some (.int (nI G)), some (.int (nI 0)), none]) rfl ?_
  refine zl_up 11 (fun i => (∀ q, q < i → ¬ Pk S Xn Yn Zn G x y z s e q) → Wz E 0 0 2 [some (.ref (a 0)), some (.int (nI G)), some (.int (nI i)), none] [] (wR t a (T3 S x y z s e))) ?_ ?_ 0 (by omega) (fun q h => absurd h (Nat.not_lt_zero q))
  ·
    intro hv
    refine z_iload_n X dX3_firstStepTowards_2 rfl rfl ?_
    refine z_bipush (v := nI 11) X dX3_firstStepTowards_3 (by decide) ?_
    refine n_icmp_ge (tgt := 50) X dX3_firstStepTowards_5 (by decide) (by omega) (by omega) (fun _ => ?_) (fun c5 => absurd c5 (by decide))
    refine z_iconst (v := (-1)) X dX3_firstStepTowards_50 (by decide) ?_
    refine z_iret X Z rfl dX3_firstStepTowards_51 ?_
    exact ⟨(), Or.inr ⟨rfl, hv⟩, fun q hq => hq⟩
  ·
    intro i hi ih hv
    refine z_iload_n X dX3_firstStepTowards_2 rfl rfl ?_
    refine z_bipush (v := nI 11) X dX3_firstStepTowards_3 (by decide) ?_
    refine n_icmp_ge (tgt := 50) X dX3_firstStepTowards_5 (by decide) (by omega) (by omega) (fun c5 => absurd c5 (by omega)) (fun _ => ?_)
    refine z_aload_n X dX3_firstStepTowards_8 rfl rfl ?_
    refine z_iload_n X dX3_firstStepTowards_9 rfl rfl ?_
    refine z_iload_n X dX3_firstStepTowards_10 rfl rfl ?_
    refine z_callV1 (k := 0) (n := 0) (st := []) X (c_X3_isStepTowards l D t a S Xn Yn Zn G x y z s e i (by omega) h15 hI hG hX hb) k_X3_isStepTowards q_ml_X3_268 is24 ⟨by decide, rfl⟩ 0 3 rfl rfl (by decide) rfl rfl rfl (Nat.le_of_ble_eq_true rfl) ⟨Nat.zero_le _, Nat.zero_le _⟩ dX3_firstStepTowards_11 (fun r11 h11 => ?_)
    rcases h11 with ⟨rfl, h11⟩ | ⟨rfl, h11⟩
    ·
      refine n_if_eq (tgt := 44) X dX3_firstStepTowards_14 (by decide) (by omega) (fun c14 => absurd c14 (by decide)) (fun _ => ?_)
      refine z_aload_n X dX3_firstStepTowards_17 rfl rfl ?_
      refine z_get X (C := RX3) (T := TX3) (N := 8) (ci := 3) (v := .ref (a 6)) inZ3 0 6 rfl rfl (by decide) q_fl_X3_41 rfl rfl dX3_firstStepTowards_18 ?_
      refine z_iload_n X dX3_firstStepTowards_21 rfl rfl ?_
      refine z_callV3 (k := 0) (n := 0) (st := []) X Y aR_eq (c_goOnT l D t a x y z s i (by omega) (by omega)) k_X0_goOn q_ml_X3_271 [6, 23] (fun _ => wR t a (T3 S (gx i x) (gy i y) (gz i z) (gs i s) e)) (fun _ => swT3) ppT3 6 0 rfl rfl (by decide) rfl rfl rfl (Nat.le_of_ble_eq_true rfl) ⟨Nat.zero_le _, Nat.zero_le _⟩ dX3_firstStepTowards_22 (fun _ _ => ?_)
      refine z_aload_n X dX3_firstStepTowards_25 rfl rfl ?_
      refine z_callV1 (k := 0) (n := 0) (st := []) X (c_X3_isMarked l D t a S Xn Yn Zn (gx i x) (gy i y) (gz i z) (gs i s) e h15 (sub8_lt ((stp_inB h11).mpr hb).2.2.2 hG) (wd_lt hX ((stp_inB h11).mpr hb).1 ((stp_inB h11).mpr hb).2.1 ((stp_inB h11).mpr hb).2.2.1 (sub8_lt ((stp_inB h11).mpr hb).2.2.2 hG))) k_X3_isMarked q_ml_X3_258 is24 ⟨by decide, rfl⟩ 0 3 rfl rfl (by decide) rfl rfl rfl (Nat.le_of_ble_eq_true rfl) ⟨Nat.zero_le _, Nat.zero_le _⟩ dX3_firstStepTowards_26 (fun r26 h26 => ?_)
      rcases h26 with ⟨rfl, h26⟩ | ⟨rfl, h26⟩
      ·
        refine z_istore_n X dX3_firstStepTowards_29 rfl (Nat.le_of_ble_eq_true rfl) ?_
        refine z_lv (lv' := [some (.ref (a 0)), some (.int (nI G)), some (.int (nI i)), some (.int (nI 1))]) rfl ?_
        refine z_aload_n X dX3_firstStepTowards_30 rfl rfl ?_
        refine z_get X (C := RX3) (T := TX3) (N := 8) (ci := 3) (v := .ref (a 6)) inZ3 0 6 rfl rfl (by decide) q_fl_X3_41 rfl rfl dX3_firstStepTowards_31 ?_
        refine z_iload_n X dX3_firstStepTowards_34 rfl rfl ?_
        refine z_callV3 (k := 0) (n := 0) (st := []) X Y aR_eq (c_goBackT l D t a x y z s i (by omega) (by omega) (stp_gs h11)) k_X0_goBack q_ml_X3_274 [6, 23] (fun _ => wR t a (T3 S x y z s e)) (fun _ => swT3) ppT3 6 0 rfl rfl (by decide) rfl rfl rfl (Nat.le_of_ble_eq_true rfl) ⟨Nat.zero_le _, Nat.zero_le _⟩ dX3_firstStepTowards_35 (fun _ _ => ?_)
        refine z_iload_n X dX3_firstStepTowards_38 rfl rfl ?_
        refine n_if_eq (tgt := 44) X dX3_firstStepTowards_39 (by decide) (by omega) (fun c39 => absurd c39 (by decide)) (fun _ => ?_)
        refine z_iload_n X dX3_firstStepTowards_42 rfl rfl ?_
        refine z_iret X Z rfl dX3_firstStepTowards_43 ?_
        exact ⟨(), Or.inl ⟨i, hi, rfl, ⟨h11, h26⟩, hv⟩, fun q hq => hq⟩
      ·
        refine z_istore_n X dX3_firstStepTowards_29 rfl (Nat.le_of_ble_eq_true rfl) ?_
        refine z_lv (lv' := [some (.ref (a 0)), some (.int (nI G)), some (.int (nI i)), some (.int (nI 0))]) rfl ?_
        refine z_aload_n X dX3_firstStepTowards_30 rfl rfl ?_
        refine z_get X (C := RX3) (T := TX3) (N := 8) (ci := 3) (v := .ref (a 6)) inZ3 0 6 rfl rfl (by decide) q_fl_X3_41 rfl rfl dX3_firstStepTowards_31 ?_
        refine z_iload_n X dX3_firstStepTowards_34 rfl rfl ?_
        refine z_callV3 (k := 0) (n := 0) (st := []) X Y aR_eq (c_goBackT l D t a x y z s i (by omega) (by omega) (stp_gs h11)) k_X0_goBack q_ml_X3_274 [6, 23] (fun _ => wR t a (T3 S x y z s e)) (fun _ => swT3) ppT3 6 0 rfl rfl (by decide) rfl rfl rfl (Nat.le_of_ble_eq_true rfl) ⟨Nat.zero_le _, Nat.zero_le _⟩ dX3_firstStepTowards_35 (fun _ _ => ?_)
        refine z_iload_n X dX3_firstStepTowards_38 rfl rfl ?_
        refine n_if_eq (tgt := 44) X dX3_firstStepTowards_39 (by decide) (by omega) (fun _ => ?_) (fun c39 => absurd c39 (by decide))
        refine z_iinc (v := nI (i + 1)) X dX3_firstStepTowards_44 rfl (nI_add i 1) ?_
        refine z_lv (lv' := [some (.ref (a 0)), some (.int (nI G)), some (.int (nI (i + 1))), some (.int (nI 0))]) rfl ?_
        refine z_goto (tgt := 2) X dX3_firstStepTowards_47 (by decide) ?_
        have hv2 : ∀ q, q < i + 1 → ¬ Pk S Xn Yn Zn G x y z s e q := by
          intro q hq hp
          rcases Nat.lt_succ_iff_lt_or_eq.mp hq with q1 | rfl
          · exact hv q q1 hp
          · first | exact h11 hp.1 | exact h26 hp.2
        refine Wz.less (lv' := [some (.ref (a 0)), some (.int (nI G)), some (.int (nI (i + 1))), none]) (by simp [zle] <;> rfl) ?_
        exact ih hv2
    ·
      refine n_if_eq (tgt := 44) X dX3_firstStepTowards_14 (by decide) (by omega) (fun _ => ?_) (fun c14 => absurd c14 (by decide))
      refine z_iinc (v := nI (i + 1)) X dX3_firstStepTowards_44 rfl (nI_add i 1) ?_
      refine z_lv (lv' := [some (.ref (a 0)), some (.int (nI G)), some (.int (nI (i + 1))), none]) rfl ?_
      refine z_goto (tgt := 2) X dX3_firstStepTowards_47 (by decide) ?_
      have hv2 : ∀ q, q < i + 1 → ¬ Pk S Xn Yn Zn G x y z s e q := by
        intro q hq hp
        rcases Nat.lt_succ_iff_lt_or_eq.mp hq with q1 | rfl
        · exact hv q q1 hp
        · first | exact h11 hp.1 | exact h26 hp.2
      exact ih hv2
