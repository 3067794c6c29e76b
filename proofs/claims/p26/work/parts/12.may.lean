set_option maxHeartbeats 4000000 in
set_option maxRecDepth 100000 in
theorem c_X3_mayTakeC (l : Launch) (D : va_G) (t : ClassId × ClassId × ClassId) (a : Nat → Nat) (S : zS) (x y z s j : Nat) (hl : S 15 = l3 x y z) (hh : S 18 0 = nI s) (hs : s < 256) (hx : x + y + z ≤ 8) (hj : j < 8) (hI : zI S) : zM1 l yX3_mayTake cX3_mayTake 3 (some .boolean) 2 D t [.ref (a 0), .ref (a 4), .int (nI j)] (wR t a S) (fun r => bz r (mt S x y z s j)) := by
  refine z_m1 (by decide +kernel) (Nat.le_of_ble_eq_true rfl) (by simp [Value.category]) ?_
  intro E X Z
  refine z_lv (lv' := [some (.ref (a 0)), some (.ref (a 4)), some (.int (nI j))]) rfl ?_
  refine z_aload_n X dX3_mayTake_0 rfl rfl ?_
  refine z_iload_n X dX3_mayTake_1 rfl rfl ?_
  refine z_callV1 (k := 0) (n := 0) (st := []) X (c_X0_has l D t (a 4) (a 22) s j (S 18 0) (S 15) hh (by omega) (by omega)) k_X0_has q_ml_X3_165 [4, 22] ⟨by decide, rfl⟩ 4 0 rfl rfl (by decide) rfl rfl rfl (Nat.le_of_ble_eq_true rfl) ⟨Nat.zero_le _, Nat.zero_le _⟩ dX3_mayTake_2 (fun r2 h2 => ?_)
  rcases h2 with ⟨rfl, h2⟩ | ⟨rfl, h2⟩
  ·
    refine n_if_ne (tgt := 67) X dX3_mayTake_5 (by decide) (by omega) (fun _ => ?_) (fun c5 => absurd c5 (by decide))
    refine z_iconst (v := nI 0) X dX3_mayTake_67 (by decide) ?_
    refine z_iret X Z (by decide +kernel) dX3_mayTake_68 ?_
    first
      | exact ⟨(), bz_f (fun h => h27 h.2.2.1), fun _ _ => trivial⟩
      | exact ⟨(), bz_f (fun h => h36 (by rw [hl]; exact h.2.2.2.1)), fun _ _ => trivial⟩
      | exact ⟨(), bz_f (fun h => h48 h.2.2.2.2.1), fun _ _ => trivial⟩
      | exact ⟨(), bz_f (fun h => h57 (by rw [hl]; exact h.2.2.2.2.2)), fun _ _ => trivial⟩
      | exact ⟨(), bz_f (fun h => absurd h.2.1 (by omega)), fun _ _ => trivial⟩
      | exact ⟨(), bz_f (fun h => by rw [h.1] at h2; cases h2), fun _ _ => trivial⟩
  ·
    refine n_if_ne (tgt := 67) X dX3_mayTake_5 (by decide) (by omega) (fun c5 => absurd c5 (by decide)) (fun _ => ?_)
    refine z_aload_n X dX3_mayTake_8 rfl rfl ?_
    refine z_get X (C := RX0) (T := TX0) (N := 2) (ci := 0) (v := .int (S 18 0)) inZ0 4 1 rfl rfl (by decide) q_fl_X3_155 rfl rfl dX3_mayTake_9 ?_
    refine z_top (y := nI s) (hh) ?_
    have hp8 := p8_le s hs
    refine z_callS1 (k := 0) (n := 0) (st := []) X (c_J6_bitCount_0f7a4 l D t s (by omega)) k_J6_bitCount_0f7a4 q_ml_X3_177 [] ⟨by decide, rfl⟩ (by decide) rfl rfl rfl (Nat.le_of_ble_eq_true rfl) ⟨Nat.zero_le _, Nat.zero_le _⟩ dX3_mayTake_12 (fun r12 h12 => ?_)
    subst h12
    refine z_aload_n X dX3_mayTake_15 rfl rfl ?_
    refine z_callV1 (k := 0) (n := 0) (st := [.int (nI (p8 s))]) X (c_X0_levelInAll l D t (a 4) (a 22) x y z (S 18 0) (S 15) hl) k_X0_levelInAll q_ml_X3_191 [4, 22] ⟨by decide, rfl⟩ 4 0 rfl rfl (by decide) rfl rfl rfl (Nat.le_of_ble_eq_true rfl) ⟨Nat.zero_le _, Nat.zero_le _⟩ dX3_mayTake_16 (fun r16 h16 => ?_)
    subst h16
    refine z_callS1 (k := 0) (n := 0) (st := [.int (nI (p8 s))]) X (c_X3_placesAt l D t (x + y + z) (by omega)) k_X3_placesAt q_ml_X3_194 [] ⟨by decide, rfl⟩ (by decide) rfl rfl rfl (Nat.le_of_ble_eq_true rfl) ⟨Nat.zero_le _, Nat.zero_le _⟩ dX3_mayTake_19 (fun r19 h19 => ?_)
    subst h19
    refine n_icmp_ge (tgt := 67) X dX3_mayTake_22 (by decide) (by omega) (by omega) (fun c22 => ?_) (fun c22 => ?_)
    ·
      refine z_iconst (v := nI 0) X dX3_mayTake_67 (by decide) ?_
      refine z_iret X Z (by decide +kernel) dX3_mayTake_68 ?_
      first
        | exact ⟨(), bz_f (fun h => h27 h.2.2.1), fun _ _ => trivial⟩
        | exact ⟨(), bz_f (fun h => h36 (by rw [hl]; exact h.2.2.2.1)), fun _ _ => trivial⟩
        | exact ⟨(), bz_f (fun h => h48 h.2.2.2.2.1), fun _ _ => trivial⟩
        | exact ⟨(), bz_f (fun h => h57 (by rw [hl]; exact h.2.2.2.2.2)), fun _ _ => trivial⟩
        | exact ⟨(), bz_f (fun h => absurd h.2.1 (by omega)), fun _ _ => trivial⟩
        | exact ⟨(), bz_f (fun h => by rw [h.1] at h2; cases h2), fun _ _ => trivial⟩
    ·
      refine z_aload_n X dX3_mayTake_25 rfl rfl ?_
      refine z_iload_n X dX3_mayTake_26 rfl rfl ?_
      refine z_callV1 (k := 0) (n := 0) (st := []) X (c_X3_hasScoreFor l D t a S j (by omega) hI) k_X3_hasScoreFor q_ml_X3_239 is24 ⟨by decide, rfl⟩ 0 3 rfl rfl (by decide) rfl rfl rfl (Nat.le_of_ble_eq_true rfl) ⟨Nat.zero_le _, Nat.zero_le _⟩ dX3_mayTake_27 (fun r27 h27 => ?_)
      rcases h27 with ⟨rfl, h27⟩ | ⟨rfl, h27⟩
      ·
        refine n_if_eq (tgt := 67) X dX3_mayTake_30 (by decide) (by omega) (fun c30 => absurd c30 (by decide)) (fun _ => ?_)
        refine z_aload_n X dX3_mayTake_33 rfl rfl ?_
        refine z_aload_n X dX3_mayTake_34 rfl rfl ?_
        refine z_iload_n X dX3_mayTake_35 rfl rfl ?_
        refine z_callV1 (k := 0) (n := 0) (st := []) X (c_X3_hasLevelForC l D t a S j (by omega) hI) k_X3_hasLevelFor q_ml_X3_242 is24 ⟨by decide, rfl⟩ 0 3 rfl rfl (by decide) rfl rfl rfl (Nat.le_of_ble_eq_true rfl) ⟨Nat.zero_le _, Nat.zero_le _⟩ dX3_mayTake_36 (fun r36 h36 => ?_)
        rcases h36 with ⟨rfl, h36⟩ | ⟨rfl, h36⟩
        ·
          refine n_if_eq (tgt := 67) X dX3_mayTake_39 (by decide) (by omega) (fun c39 => absurd c39 (by decide)) (fun _ => ?_)
          refine z_aload_n X dX3_mayTake_42 rfl rfl ?_
          refine z_aload_n X dX3_mayTake_43 rfl rfl ?_
          refine z_get X (C := RX0) (T := TX0) (N := 2) (ci := 0) (v := .int (S 18 0)) inZ0 4 1 rfl rfl (by decide) q_fl_X3_155 rfl rfl dX3_mayTake_44 ?_
          refine z_top (y := nI s) (hh) ?_
          refine z_iload_n X dX3_mayTake_47 rfl rfl ?_
          refine z_callV1 (k := 0) (n := 0) (st := []) X (c_X3_isOtherIn l D t a S s j (by omega) (by omega) hI) k_X3_isOtherIn q_ml_X3_245 is24 ⟨by decide, rfl⟩ 0 3 rfl rfl (by decide) rfl rfl rfl (Nat.le_of_ble_eq_true rfl) ⟨Nat.zero_le _, Nat.zero_le _⟩ dX3_mayTake_48 (fun r48 h48 => ?_)
          rcases h48 with ⟨rfl, h48⟩ | ⟨rfl, h48⟩
          ·
            refine n_if_eq (tgt := 67) X dX3_mayTake_51 (by decide) (by omega) (fun c51 => absurd c51 (by decide)) (fun _ => ?_)
            refine z_aload_n X dX3_mayTake_54 rfl rfl ?_
            refine z_aload_n X dX3_mayTake_55 rfl rfl ?_
            refine z_iload_n X dX3_mayTake_56 rfl rfl ?_
            refine z_callV1 (k := 0) (n := 0) (st := []) X (c_X3_isBarredC l D t a S j (by omega) hI) k_X3_isBarred q_ml_X3_248 is24 ⟨by decide, rfl⟩ 0 3 rfl rfl (by decide) rfl rfl rfl (Nat.le_of_ble_eq_true rfl) ⟨Nat.zero_le _, Nat.zero_le _⟩ dX3_mayTake_57 (fun r57 h57 => ?_)
            rcases h57 with ⟨rfl, h57⟩ | ⟨rfl, h57⟩
            ·
              refine n_if_ne (tgt := 67) X dX3_mayTake_60 (by decide) (by omega) (fun _ => ?_) (fun c60 => absurd c60 (by decide))
              refine z_iconst (v := nI 0) X dX3_mayTake_67 (by decide) ?_
              refine z_iret X Z (by decide +kernel) dX3_mayTake_68 ?_
              first
                | exact ⟨(), bz_f (fun h => h27 h.2.2.1), fun _ _ => trivial⟩
                | exact ⟨(), bz_f (fun h => h36 (by rw [hl]; exact h.2.2.2.1)), fun _ _ => trivial⟩
                | exact ⟨(), bz_f (fun h => h48 h.2.2.2.2.1), fun _ _ => trivial⟩
                | exact ⟨(), bz_f (fun h => h57 (by rw [hl]; exact h.2.2.2.2.2)), fun _ _ => trivial⟩
                | exact ⟨(), bz_f (fun h => absurd h.2.1 (by omega)), fun _ _ => trivial⟩
                | exact ⟨(), bz_f (fun h => by rw [h.1] at h2; cases h2), fun _ _ => trivial⟩
            ·
              refine n_if_ne (tgt := 67) X dX3_mayTake_60 (by decide) (by omega) (fun c60 => absurd c60 (by decide)) (fun _ => ?_)
              refine z_iconst (v := nI 1) X dX3_mayTake_63 (by decide) ?_
              refine z_goto (tgt := 68) X dX3_mayTake_64 (by decide) ?_
              refine z_iret X Z (by decide +kernel) dX3_mayTake_68 ?_
              exact ⟨(), bz_t ⟨by simpa using h2, by omega, h27, by rw [← hl]; exact h36, h48, by rw [← hl]; exact Classical.not_not.mp h57⟩, fun _ _ => trivial⟩
          ·
            refine n_if_eq (tgt := 67) X dX3_mayTake_51 (by decide) (by omega) (fun _ => ?_) (fun c51 => absurd c51 (by decide))
            refine z_iconst (v := nI 0) X dX3_mayTake_67 (by decide) ?_
            refine z_iret X Z (by decide +kernel) dX3_mayTake_68 ?_
            first
              | exact ⟨(), bz_f (fun h => h27 h.2.2.1), fun _ _ => trivial⟩
              | exact ⟨(), bz_f (fun h => h36 (by rw [hl]; exact h.2.2.2.1)), fun _ _ => trivial⟩
              | exact ⟨(), bz_f (fun h => h48 h.2.2.2.2.1), fun _ _ => trivial⟩
              | exact ⟨(), bz_f (fun h => h57 (by rw [hl]; exact h.2.2.2.2.2)), fun _ _ => trivial⟩
              | exact ⟨(), bz_f (fun h => absurd h.2.1 (by omega)), fun _ _ => trivial⟩
              | exact ⟨(), bz_f (fun h => by rw [h.1] at h2; cases h2), fun _ _ => trivial⟩
        ·
          refine n_if_eq (tgt := 67) X dX3_mayTake_39 (by decide) (by omega) (fun _ => ?_) (fun c39 => absurd c39 (by decide))
          refine z_iconst (v := nI 0) X dX3_mayTake_67 (by decide) ?_
          refine z_iret X Z (by decide +kernel) dX3_mayTake_68 ?_
          first
            | exact ⟨(), bz_f (fun h => h27 h.2.2.1), fun _ _ => trivial⟩
            | exact ⟨(), bz_f (fun h => h36 (by rw [hl]; exact h.2.2.2.1)), fun _ _ => trivial⟩
            | exact ⟨(), bz_f (fun h => h48 h.2.2.2.2.1), fun _ _ => trivial⟩
            | exact ⟨(), bz_f (fun h => h57 (by rw [hl]; exact h.2.2.2.2.2)), fun _ _ => trivial⟩
            | exact ⟨(), bz_f (fun h => absurd h.2.1 (by omega)), fun _ _ => trivial⟩
            | exact ⟨(), bz_f (fun h => by rw [h.1] at h2; cases h2), fun _ _ => trivial⟩
      ·
        refine n_if_eq (tgt := 67) X dX3_mayTake_30 (by decide) (by omega) (fun _ => ?_) (fun c30 => absurd c30 (by decide))
        refine z_iconst (v := nI 0) X dX3_mayTake_67 (by decide) ?_
        refine z_iret X Z (by decide +kernel) dX3_mayTake_68 ?_
        first
          | exact ⟨(), bz_f (fun h => h27 h.2.2.1), fun _ _ => trivial⟩
          | exact ⟨(), bz_f (fun h => h36 (by rw [hl]; exact h.2.2.2.1)), fun _ _ => trivial⟩
          | exact ⟨(), bz_f (fun h => h48 h.2.2.2.2.1), fun _ _ => trivial⟩
          | exact ⟨(), bz_f (fun h => h57 (by rw [hl]; exact h.2.2.2.2.2)), fun _ _ => trivial⟩
          | exact ⟨(), bz_f (fun h => absurd h.2.1 (by omega)), fun _ _ => trivial⟩
          | exact ⟨(), bz_f (fun h => by rw [h.1] at h2; cases h2), fun _ _ => trivial⟩
set_option maxHeartbeats 4000000 in
set_option maxRecDepth 100000 in
theorem c_X3_mayTakeT (l : Launch) (D : va_G) (t : ClassId × ClassId × ClassId) (a : Nat → Nat) (S : zS) (x y z s j : Nat) (hl : S 19 = l3 x y z) (hh : S 20 0 = nI s) (hs : s < 256) (hx : x + y + z ≤ 8) (hj : j < 8) (hI : zI S) : zM1 l yX3_mayTake cX3_mayTake 3 (some .boolean) 2 D t [.ref (a 0), .ref (a 6), .int (nI j)] (wR t a S) (fun r => bz r (mt S x y z s j)) := by
  refine z_m1 (by decide +kernel) (Nat.le_of_ble_eq_true rfl) (by simp [Value.category]) ?_
  intro E X Z
  refine z_lv (lv' := [some (.ref (a 0)), some (.ref (a 6)), some (.int (nI j))]) rfl ?_
  refine z_aload_n X dX3_mayTake_0 rfl rfl ?_
  refine z_iload_n X dX3_mayTake_1 rfl rfl ?_
  refine z_callV1 (k := 0) (n := 0) (st := []) X (c_X0_has l D t (a 6) (a 23) s j (S 20 0) (S 19) hh (by omega) (by omega)) k_X0_has q_ml_X3_165 [6, 23] ⟨by decide, rfl⟩ 6 0 rfl rfl (by decide) rfl rfl rfl (Nat.le_of_ble_eq_true rfl) ⟨Nat.zero_le _, Nat.zero_le _⟩ dX3_mayTake_2 (fun r2 h2 => ?_)
  rcases h2 with ⟨rfl, h2⟩ | ⟨rfl, h2⟩
  ·
    refine n_if_ne (tgt := 67) X dX3_mayTake_5 (by decide) (by omega) (fun _ => ?_) (fun c5 => absurd c5 (by decide))
    refine z_iconst (v := nI 0) X dX3_mayTake_67 (by decide) ?_
    refine z_iret X Z (by decide +kernel) dX3_mayTake_68 ?_
    first
      | exact ⟨(), bz_f (fun h => h27 h.2.2.1), fun _ _ => trivial⟩
      | exact ⟨(), bz_f (fun h => h36 (by rw [hl]; exact h.2.2.2.1)), fun _ _ => trivial⟩
      | exact ⟨(), bz_f (fun h => h48 h.2.2.2.2.1), fun _ _ => trivial⟩
      | exact ⟨(), bz_f (fun h => h57 (by rw [hl]; exact h.2.2.2.2.2)), fun _ _ => trivial⟩
      | exact ⟨(), bz_f (fun h => absurd h.2.1 (by omega)), fun _ _ => trivial⟩
      | exact ⟨(), bz_f (fun h => by rw [h.1] at h2; cases h2), fun _ _ => trivial⟩
  ·
    refine n_if_ne (tgt := 67) X dX3_mayTake_5 (by decide) (by omega) (fun c5 => absurd c5 (by decide)) (fun _ => ?_)
    refine z_aload_n X dX3_mayTake_8 rfl rfl ?_
    refine z_get X (C := RX0) (T := TX0) (N := 2) (ci := 0) (v := .int (S 20 0)) inZ0 6 1 rfl rfl (by decide) q_fl_X3_155 rfl rfl dX3_mayTake_9 ?_
    refine z_top (y := nI s) (hh) ?_
    have hp8 := p8_le s hs
    refine z_callS1 (k := 0) (n := 0) (st := []) X (c_J6_bitCount_0f7a4 l D t s (by omega)) k_J6_bitCount_0f7a4 q_ml_X3_177 [] ⟨by decide, rfl⟩ (by decide) rfl rfl rfl (Nat.le_of_ble_eq_true rfl) ⟨Nat.zero_le _, Nat.zero_le _⟩ dX3_mayTake_12 (fun r12 h12 => ?_)
    subst h12
    refine z_aload_n X dX3_mayTake_15 rfl rfl ?_
    refine z_callV1 (k := 0) (n := 0) (st := [.int (nI (p8 s))]) X (c_X0_levelInAll l D t (a 6) (a 23) x y z (S 20 0) (S 19) hl) k_X0_levelInAll q_ml_X3_191 [6, 23] ⟨by decide, rfl⟩ 6 0 rfl rfl (by decide) rfl rfl rfl (Nat.le_of_ble_eq_true rfl) ⟨Nat.zero_le _, Nat.zero_le _⟩ dX3_mayTake_16 (fun r16 h16 => ?_)
    subst h16
    refine z_callS1 (k := 0) (n := 0) (st := [.int (nI (p8 s))]) X (c_X3_placesAt l D t (x + y + z) (by omega)) k_X3_placesAt q_ml_X3_194 [] ⟨by decide, rfl⟩ (by decide) rfl rfl rfl (Nat.le_of_ble_eq_true rfl) ⟨Nat.zero_le _, Nat.zero_le _⟩ dX3_mayTake_19 (fun r19 h19 => ?_)
    subst h19
    refine n_icmp_ge (tgt := 67) X dX3_mayTake_22 (by decide) (by omega) (by omega) (fun c22 => ?_) (fun c22 => ?_)
    ·
      refine z_iconst (v := nI 0) X dX3_mayTake_67 (by decide) ?_
      refine z_iret X Z (by decide +kernel) dX3_mayTake_68 ?_
      first
        | exact ⟨(), bz_f (fun h => h27 h.2.2.1), fun _ _ => trivial⟩
        | exact ⟨(), bz_f (fun h => h36 (by rw [hl]; exact h.2.2.2.1)), fun _ _ => trivial⟩
        | exact ⟨(), bz_f (fun h => h48 h.2.2.2.2.1), fun _ _ => trivial⟩
        | exact ⟨(), bz_f (fun h => h57 (by rw [hl]; exact h.2.2.2.2.2)), fun _ _ => trivial⟩
        | exact ⟨(), bz_f (fun h => absurd h.2.1 (by omega)), fun _ _ => trivial⟩
        | exact ⟨(), bz_f (fun h => by rw [h.1] at h2; cases h2), fun _ _ => trivial⟩
    ·
      refine z_aload_n X dX3_mayTake_25 rfl rfl ?_
      refine z_iload_n X dX3_mayTake_26 rfl rfl ?_
      refine z_callV1 (k := 0) (n := 0) (st := []) X (c_X3_hasScoreFor l D t a S j (by omega) hI) k_X3_hasScoreFor q_ml_X3_239 is24 ⟨by decide, rfl⟩ 0 3 rfl rfl (by decide) rfl rfl rfl (Nat.le_of_ble_eq_true rfl) ⟨Nat.zero_le _, Nat.zero_le _⟩ dX3_mayTake_27 (fun r27 h27 => ?_)
      rcases h27 with ⟨rfl, h27⟩ | ⟨rfl, h27⟩
      ·
        refine n_if_eq (tgt := 67) X dX3_mayTake_30 (by decide) (by omega) (fun c30 => absurd c30 (by decide)) (fun _ => ?_)
        refine z_aload_n X dX3_mayTake_33 rfl rfl ?_
        refine z_aload_n X dX3_mayTake_34 rfl rfl ?_
        refine z_iload_n X dX3_mayTake_35 rfl rfl ?_
        refine z_callV1 (k := 0) (n := 0) (st := []) X (c_X3_hasLevelForT l D t a S j (by omega) hI) k_X3_hasLevelFor q_ml_X3_242 is24 ⟨by decide, rfl⟩ 0 3 rfl rfl (by decide) rfl rfl rfl (Nat.le_of_ble_eq_true rfl) ⟨Nat.zero_le _, Nat.zero_le _⟩ dX3_mayTake_36 (fun r36 h36 => ?_)
        rcases h36 with ⟨rfl, h36⟩ | ⟨rfl, h36⟩
        ·
          refine n_if_eq (tgt := 67) X dX3_mayTake_39 (by decide) (by omega) (fun c39 => absurd c39 (by decide)) (fun _ => ?_)
          refine z_aload_n X dX3_mayTake_42 rfl rfl ?_
          refine z_aload_n X dX3_mayTake_43 rfl rfl ?_
          refine z_get X (C := RX0) (T := TX0) (N := 2) (ci := 0) (v := .int (S 20 0)) inZ0 6 1 rfl rfl (by decide) q_fl_X3_155 rfl rfl dX3_mayTake_44 ?_
          refine z_top (y := nI s) (hh) ?_
          refine z_iload_n X dX3_mayTake_47 rfl rfl ?_
          refine z_callV1 (k := 0) (n := 0) (st := []) X (c_X3_isOtherIn l D t a S s j (by omega) (by omega) hI) k_X3_isOtherIn q_ml_X3_245 is24 ⟨by decide, rfl⟩ 0 3 rfl rfl (by decide) rfl rfl rfl (Nat.le_of_ble_eq_true rfl) ⟨Nat.zero_le _, Nat.zero_le _⟩ dX3_mayTake_48 (fun r48 h48 => ?_)
          rcases h48 with ⟨rfl, h48⟩ | ⟨rfl, h48⟩
          ·
            refine n_if_eq (tgt := 67) X dX3_mayTake_51 (by decide) (by omega) (fun c51 => absurd c51 (by decide)) (fun _ => ?_)
            refine z_aload_n X dX3_mayTake_54 rfl rfl ?_
            refine z_aload_n X dX3_mayTake_55 rfl rfl ?_
            refine z_iload_n X dX3_mayTake_56 rfl rfl ?_
            refine z_callV1 (k := 0) (n := 0) (st := []) X (c_X3_isBarredT l D t a S j (by omega) hI) k_X3_isBarred q_ml_X3_248 is24 ⟨by decide, rfl⟩ 0 3 rfl rfl (by decide) rfl rfl rfl (Nat.le_of_ble_eq_true rfl) ⟨Nat.zero_le _, Nat.zero_le _⟩ dX3_mayTake_57 (fun r57 h57 => ?_)
            rcases h57 with ⟨rfl, h57⟩ | ⟨rfl, h57⟩
            ·
              refine n_if_ne (tgt := 67) X dX3_mayTake_60 (by decide) (by omega) (fun _ => ?_) (fun c60 => absurd c60 (by decide))
              refine z_iconst (v := nI 0) X dX3_mayTake_67 (by decide) ?_
              refine z_iret X Z (by decide +kernel) dX3_mayTake_68 ?_
              first
                | exact ⟨(), bz_f (fun h => h27 h.2.2.1), fun _ _ => trivial⟩
                | exact ⟨(), bz_f (fun h => h36 (by rw [hl]; exact h.2.2.2.1)), fun _ _ => trivial⟩
                | exact ⟨(), bz_f (fun h => h48 h.2.2.2.2.1), fun _ _ => trivial⟩
                | exact ⟨(), bz_f (fun h => h57 (by rw [hl]; exact h.2.2.2.2.2)), fun _ _ => trivial⟩
                | exact ⟨(), bz_f (fun h => absurd h.2.1 (by omega)), fun _ _ => trivial⟩
                | exact ⟨(), bz_f (fun h => by rw [h.1] at h2; cases h2), fun _ _ => trivial⟩
            ·
              refine n_if_ne (tgt := 67) X dX3_mayTake_60 (by decide) (by omega) (fun c60 => absurd c60 (by decide)) (fun _ => ?_)
              refine z_iconst (v := nI 1) X dX3_mayTake_63 (by decide) ?_
              refine z_goto (tgt := 68) X dX3_mayTake_64 (by decide) ?_
              refine z_iret X Z (by decide +kernel) dX3_mayTake_68 ?_
              exact ⟨(), bz_t ⟨by simpa using h2, by omega, h27, by rw [← hl]; exact h36, h48, by rw [← hl]; exact Classical.not_not.mp h57⟩, fun _ _ => trivial⟩
          ·
            refine n_if_eq (tgt := 67) X dX3_mayTake_51 (by decide) (by omega) (fun _ => ?_) (fun c51 => absurd c51 (by decide))
            refine z_iconst (v := nI 0) X dX3_mayTake_67 (by decide) ?_
            refine z_iret X Z (by decide +kernel) dX3_mayTake_68 ?_
            first
              | exact ⟨(), bz_f (fun h => h27 h.2.2.1), fun _ _ => trivial⟩
              | exact ⟨(), bz_f (fun h => h36 (by rw [hl]; exact h.2.2.2.1)), fun _ _ => trivial⟩
              | exact ⟨(), bz_f (fun h => h48 h.2.2.2.2.1), fun _ _ => trivial⟩
              | exact ⟨(), bz_f (fun h => h57 (by rw [hl]; exact h.2.2.2.2.2)), fun _ _ => trivial⟩
              | exact ⟨(), bz_f (fun h => absurd h.2.1 (by omega)), fun _ _ => trivial⟩
              | exact ⟨(), bz_f (fun h => by rw [h.1] at h2; cases h2), fun _ _ => trivial⟩
        ·
          refine n_if_eq (tgt := 67) X dX3_mayTake_39 (by decide) (by omega) (fun _ => ?_) (fun c39 => absurd c39 (by decide))
          refine z_iconst (v := nI 0) X dX3_mayTake_67 (by decide) ?_
          refine z_iret X Z (by decide +kernel) dX3_mayTake_68 ?_
          first
            | exact ⟨(), bz_f (fun h => h27 h.2.2.1), fun _ _ => trivial⟩
            | exact ⟨(), bz_f (fun h => h36 (by rw [hl]; exact h.2.2.2.1)), fun _ _ => trivial⟩
            | exact ⟨(), bz_f (fun h => h48 h.2.2.2.2.1), fun _ _ => trivial⟩
            | exact ⟨(), bz_f (fun h => h57 (by rw [hl]; exact h.2.2.2.2.2)), fun _ _ => trivial⟩
            | exact ⟨(), bz_f (fun h => absurd h.2.1 (by omega)), fun _ _ => trivial⟩
            | exact ⟨(), bz_f (fun h => by rw [h.1] at h2; cases h2), fun _ _ => trivial⟩
      ·
        refine n_if_eq (tgt := 67) X dX3_mayTake_30 (by decide) (by omega) (fun _ => ?_) (fun c30 => absurd c30 (by decide))
        refine z_iconst (v := nI 0) X dX3_mayTake_67 (by decide) ?_
        refine z_iret X Z (by decide +kernel) dX3_mayTake_68 ?_
        first
          | exact ⟨(), bz_f (fun h => h27 h.2.2.1), fun _ _ => trivial⟩
          | exact ⟨(), bz_f (fun h => h36 (by rw [hl]; exact h.2.2.2.1)), fun _ _ => trivial⟩
          | exact ⟨(), bz_f (fun h => h48 h.2.2.2.2.1), fun _ _ => trivial⟩
          | exact ⟨(), bz_f (fun h => h57 (by rw [hl]; exact h.2.2.2.2.2)), fun _ _ => trivial⟩
          | exact ⟨(), bz_f (fun h => absurd h.2.1 (by omega)), fun _ _ => trivial⟩
          | exact ⟨(), bz_f (fun h => by rw [h.1] at h2; cases h2), fun _ _ => trivial⟩
