/-! what changes the character -/
theorem sb_0 : nI 0 - nI 1 = (-1 : Int32) := by decide
set_option maxHeartbeats 4000000 in
set_option maxRecDepth 100000 in
theorem c_X3_takeLevel (l : Launch) (hfl : l.stackTraces = false) (D : va_G) (t : ClassId × ClassId × ClassId) (sz : Nat) (a : Nat → Nat) (S : zS) (m : Nat) (c : Int32) (h17 : S 17 0 = nI m) (hm : m ≤ 8) : zM4 l yX3_takeLevel cX3_takeLevel 2 (some .int) 20 D t [.ref (a 0), .int c] (wR t a S) sz (fun r (u : Nat) => u < 3 ∧ c = nI u ∧ m < 8 ∧ r = nI (m + 1)) (fun u => wR t a (va_up (va_up (va_up S 16 (upd (S 16) m (nI u))) 17 (fun _ => nI (m + 1))) 15 (upd (S 15) u (S 15 u + nI 1)))) (fun E (_ : Unit) => (E = eI ∧ ¬ am c 3) ∨ (E = eS ∧ am c 3 ∧ m = 8)) (fun _ => wR t a S) := by
  refine z_m4 hfl (by decide +kernel) (Nat.le_of_ble_eq_true rfl) (by simp [Value.category]) ?_
  intro E X Z V Y
  refine z_lv (lv' := [some (.ref (a 0)), some (.int c)]) rfl ?_
  refine z_iload_n X dX3_takeLevel_0 rfl rfl ?_
  refine z_iconst (v := nI 3) X dX3_takeLevel_1 (by decide) ?_
  refine z_callS1 (k := 0) (n := 0) (st := []) X (c_X3_isAmong_g l D t c 3 (by decide)) k_X3_isAmong q_ml_X3_53 [] ⟨by decide, rfl⟩ (by decide) rfl rfl rfl (Nat.le_of_ble_eq_true rfl) ⟨Nat.zero_le _, Nat.zero_le _⟩ dX3_takeLevel_2 (fun r2 h2 => ?_)
  rcases h2 with ⟨rfl, kc, hkc, rfl⟩ | ⟨rfl, h2⟩
  ·
    refine n_if_ne (tgt := 18) X dX3_takeLevel_5 (by decide) (by omega) (fun _ => ?_) (fun c5 => absurd c5 (by decide))
    refine z_aload_n X dX3_takeLevel_18 rfl rfl ?_
    refine z_get X (C := RX3) (T := TX3) (N := 8) (ci := 3) (v := .int (S 17 0)) inZ3 0 5 rfl rfl (by decide) q_fl_X3_37 rfl rfl dX3_takeLevel_19 ?_
    refine z_top (y := nI m) (h17) ?_
    refine z_bipush (v := nI 8) X dX3_takeLevel_22 (by decide) ?_
    refine z_callS1 (k := 0) (n := 0) (st := []) X (c_X3_isAmong l D t m 8 (by omega) (by decide)) k_X3_isAmong q_ml_X3_53 [] ⟨by decide, rfl⟩ (by decide) rfl rfl rfl (Nat.le_of_ble_eq_true rfl) ⟨Nat.zero_le _, Nat.zero_le _⟩ dX3_takeLevel_24 (fun r24 h24 => ?_)
    rcases h24 with ⟨rfl, h24⟩ | ⟨rfl, h24⟩
    ·
      refine n_if_ne (tgt := 40) X dX3_takeLevel_27 (by decide) (by omega) (fun _ => ?_) (fun c27 => absurd c27 (by decide))
      refine z_aload_n X dX3_takeLevel_40 rfl rfl ?_
      refine z_get X (C := RX3) (T := TX3) (N := 8) (ci := 3) (v := .ref (a 5)) inZ3 0 4 rfl rfl (by decide) q_fl_X3_34 rfl rfl dX3_takeLevel_41 ?_
      refine z_aload_n X dX3_takeLevel_44 rfl rfl ?_
      refine z_get X (C := RX3) (T := TX3) (N := 8) (ci := 3) (v := .int (S 17 0)) inZ3 0 5 rfl rfl (by decide) q_fl_X3_37 rfl rfl dX3_takeLevel_45 ?_
      refine z_top (y := nI m) (h17) ?_
      refine z_iload_n X dX3_takeLevel_48 rfl rfl ?_
      refine n_iast X Y 5 aR_eq rfl (by omega) (by decide) dX3_takeLevel_49 ?_
      refine Wz.eq (uR_16 (f := upd (S 16) m (nI kc))) ?_
      refine z_aload_n X dX3_takeLevel_50 rfl rfl ?_
      refine z_dup X dX3_takeLevel_51 rfl ?_
      refine z_get X (C := RX3) (T := TX3) (N := 8) (ci := 3) (v := .int (S 17 0)) inZ3 0 5 rfl rfl (by decide) q_fl_X3_37 rfl rfl dX3_takeLevel_52 ?_
      refine z_top (y := nI m) (h17) ?_
      refine z_iconst (v := nI 1) X dX3_takeLevel_55 (by decide) ?_
      refine n_iadd X dX3_takeLevel_56 ?_
      refine z_put X Y (C := RX3) (T := TX3) (N := 8) (ci := 3) (ty := .int) inZ3 tyX3 tyX3_ok nmX3 0 5 aR_eq rfl rfl (by decide) q_fl_X3_37 rfl rfl (by decide +kernel) rfl rfl (Nat.le_of_ble_eq_true rfl) dX3_takeLevel_57 ?_
      refine Wz.eq (uR_17 (v := nI (m + 1))) ?_
      refine z_aload_n X dX3_takeLevel_60 rfl rfl ?_
      refine z_get X (C := RX3) (T := TX3) (N := 8) (ci := 3) (v := .ref (a 4)) inZ3 0 3 rfl rfl (by decide) q_fl_X3_30 rfl rfl dX3_takeLevel_61 ?_
      refine z_iload_n X dX3_takeLevel_64 rfl rfl ?_
      refine z_iconst (v := nI 1) X dX3_takeLevel_65 (by decide) ?_
      refine z_callV3 (k := 0) (n := 0) (st := []) X Y aR_eq (c_X0_changeLevel l D t (a 4) (a 22) kc ((va_up (va_up S 16 (upd (S 16) m (nI kc))) 17 (fun _ => nI (m + 1))) 18 0) (nI 1) ((va_up (va_up S 16 (upd (S 16) m (nI kc))) 17 (fun _ => nI (m + 1))) 15) (by omega)) k_X0_changeLevel q_ml_X3_143 [4, 22] (fun _ => wR t a (va_up (va_up (va_up S 16 (upd (S 16) m (nI kc))) 17 (fun _ => nI (m + 1))) 15 (upd (S 15) kc (S 15 kc + nI 1)))) (fun _ => swC_f) ⟨by decide, rfl⟩ 4 0 rfl rfl (by decide) rfl rfl rfl (Nat.le_of_ble_eq_true rfl) ⟨Nat.zero_le _, Nat.zero_le _⟩ dX3_takeLevel_66 (fun _ _ => ?_)
      refine z_aload_n X dX3_takeLevel_69 rfl rfl ?_
      refine z_get X (C := RX3) (T := TX3) (N := 8) (ci := 3) (v := .int (nI (m + 1))) inZ3 0 5 rfl rfl (by decide) q_fl_X3_37 rfl rfl dX3_takeLevel_70 ?_
      refine z_iretX X Z rfl dX3_takeLevel_73 ?_
      exact ⟨kc, ⟨hkc, rfl, h24, rfl⟩, fun q hq => hq⟩
    ·
      refine n_if_ne (tgt := 40) X dX3_takeLevel_27 (by decide) (by omega) (fun c27 => absurd c27 (by decide)) (fun _ => ?_)
      refine z_throw (h := 20) (cls := eS) (text := "the character has all levels") (is := 141) X Z V (Nat.le_of_ble_eq_true rfl) rfl zat_S q_cl_X3_134 q_in_java_lang_IllegalStateException (by decide +kernel) (by decide +kernel) (by decide) dX3_takeLevel_30 dX3_takeLevel_33 dX3_takeLevel_34 dX3_takeLevel_36 dX3_takeLevel_39 ?_
      exact ⟨(), Or.inr ⟨rfl, ⟨kc, hkc, rfl⟩, by omega⟩, fun q hq => hq⟩
  ·
    refine n_if_ne (tgt := 18) X dX3_takeLevel_5 (by decide) (by omega) (fun c5 => absurd c5 (by decide)) (fun _ => ?_)
    refine z_throw (h := 20) (cls := eI) (text := "no such calling") (is := 139) X Z V (Nat.le_of_ble_eq_true rfl) rfl zat_I q_cl_X3_60 q_in_java_lang_IndexOutOfBoundsException (by decide +kernel) (by decide +kernel) (by decide) dX3_takeLevel_8 dX3_takeLevel_11 dX3_takeLevel_12 dX3_takeLevel_14 dX3_takeLevel_17 ?_
    exact ⟨(), Or.inl ⟨rfl, h2⟩, fun q hq => hq⟩
set_option maxHeartbeats 4000000 in
set_option maxRecDepth 100000 in
theorem c_X3_takeGift (l : Launch) (hfl : l.stackTraces = false) (D : va_G) (t : ClassId × ClassId × ClassId) (sz : Nat) (a : Nat → Nat) (S : zS) (x y z G : Nat) (h15 : S 15 = l3 x y z) (h18 : S 18 0 = nI G) (hG : G < 256) (hX : x + y + z ≤ 8) (hI : zI S) (g : Int32) : zM4 l yX3_takeGift cX3_takeGift 2 (some .int) 20 D t [.ref (a 0), .int g] (wR t a S) sz (fun r (u : Nat) => u < 8 ∧ g = nI u ∧ mt S x y z G u ∧ r = nI (p8 (G ||| 2 ^ u))) (fun u => wR t a (va_up S 18 (fun _ => nI (G ||| 2 ^ u)))) (fun E (_ : Unit) => (E = eI ∧ ¬ am g 8) ∨ (E = eS ∧ ∃ k, k < 8 ∧ g = nI k ∧ ¬ mt S x y z G k)) (fun _ => wR t a S) := by
  refine z_m4 hfl (by decide +kernel) (Nat.le_of_ble_eq_true rfl) (by simp [Value.category]) ?_
  intro E X Z V Y
  refine z_lv (lv' := [some (.ref (a 0)), some (.int g)]) rfl ?_
  refine z_iload_n X dX3_takeGift_0 rfl rfl ?_
  refine z_bipush (v := nI 8) X dX3_takeGift_1 (by decide) ?_
  refine z_callS1 (k := 0) (n := 0) (st := []) X (c_X3_isAmong_g l D t g 8 (by decide)) k_X3_isAmong q_ml_X3_53 [] ⟨by decide, rfl⟩ (by decide) rfl rfl rfl (Nat.le_of_ble_eq_true rfl) ⟨Nat.zero_le _, Nat.zero_le _⟩ dX3_takeGift_3 (fun r3 h3 => ?_)
  rcases h3 with ⟨rfl, kg, hkg, rfl⟩ | ⟨rfl, h3⟩
  ·
    refine n_if_ne (tgt := 19) X dX3_takeGift_6 (by decide) (by omega) (fun _ => ?_) (fun c6 => absurd c6 (by decide))
    refine z_aload_n X dX3_takeGift_19 rfl rfl ?_
    refine z_aload_n X dX3_takeGift_20 rfl rfl ?_
    refine z_get X (C := RX3) (T := TX3) (N := 8) (ci := 3) (v := .ref (a 4)) inZ3 0 3 rfl rfl (by decide) q_fl_X3_30 rfl rfl dX3_takeGift_21 ?_
    refine z_iload_n X dX3_takeGift_24 rfl rfl ?_
    refine z_callV1 (k := 0) (n := 0) (st := []) X (c_X3_mayTakeC l D t a S x y z G kg h15 h18 hG hX (by omega) hI) k_X3_mayTake q_ml_X3_149 is24 ⟨by decide, rfl⟩ 0 3 rfl rfl (by decide) rfl rfl rfl (Nat.le_of_ble_eq_true rfl) ⟨Nat.zero_le _, Nat.zero_le _⟩ dX3_takeGift_25 (fun r25 h25 => ?_)
    rcases h25 with ⟨rfl, h25⟩ | ⟨rfl, h25⟩
    ·
      refine n_if_ne (tgt := 41) X dX3_takeGift_28 (by decide) (by omega) (fun _ => ?_) (fun c28 => absurd c28 (by decide))
      have hg9 := zn_or8 G hG kg hkg
      refine z_aload_n X dX3_takeGift_41 rfl rfl ?_
      refine z_get X (C := RX3) (T := TX3) (N := 8) (ci := 3) (v := .ref (a 4)) inZ3 0 3 rfl rfl (by decide) q_fl_X3_30 rfl rfl dX3_takeGift_42 ?_
      refine z_dup X dX3_takeGift_45 rfl ?_
      refine z_get X (C := RX0) (T := TX0) (N := 2) (ci := 0) (v := .int (S 18 0)) inZ0 4 1 rfl rfl (by decide) q_fl_X3_155 rfl rfl dX3_takeGift_46 ?_
      refine z_top (y := nI G) (h18) ?_
      refine z_iconst (v := nI 1) X dX3_takeGift_49 (by decide) ?_
      refine z_iload_n X dX3_takeGift_50 rfl rfl ?_
      refine n_ishl1 X dX3_takeGift_51 (by omega) ?_
      refine n_ior X dX3_takeGift_52 ?_
      refine z_put X Y (C := RX0) (T := TX0) (N := 2) (ci := 0) (ty := .int) inZ0 tyX0 tyX0_ok nmX0 4 1 aR_eq rfl rfl (by decide) q_fl_X3_155 rfl rfl (by decide +kernel) rfl rfl (Nat.le_of_ble_eq_true rfl) dX3_takeGift_53 ?_
      refine Wz.eq (uR_18 (v := nI (G ||| (2 ^ kg)))) ?_
      refine z_aload_n X dX3_takeGift_56 rfl rfl ?_
      refine z_get X (C := RX3) (T := TX3) (N := 8) (ci := 3) (v := .ref (a 4)) inZ3 0 3 rfl rfl (by decide) q_fl_X3_30 rfl rfl dX3_takeGift_57 ?_
      refine z_callV1 (k := 0) (n := 0) (st := []) X (c_X0_heldCount l D t (a 4) (a 22) (G ||| 2 ^ kg) ((va_up S 18 (fun _ => nI (G ||| (2 ^ kg)))) 18 0) ((va_up S 18 (fun _ => nI (G ||| (2 ^ kg)))) 15) rfl (by omega)) k_X0_heldCount q_ml_X3_158 [4, 22] ⟨by decide, rfl⟩ 4 0 rfl rfl (by decide) rfl rfl rfl (Nat.le_of_ble_eq_true rfl) ⟨Nat.zero_le _, Nat.zero_le _⟩ dX3_takeGift_60 (fun r60 h60 => ?_)
      subst h60
      refine z_iretX X Z rfl dX3_takeGift_63 ?_
      exact ⟨kg, ⟨hkg, rfl, h25, rfl⟩, fun q hq => hq⟩
    ·
      refine n_if_ne (tgt := 41) X dX3_takeGift_28 (by decide) (by omega) (fun c28 => absurd c28 (by decide)) (fun _ => ?_)
      refine z_throw (h := 20) (cls := eS) (text := "the character may not take the gift") (is := 153) X Z V (Nat.le_of_ble_eq_true rfl) rfl zat_S q_cl_X3_134 q_in_java_lang_IllegalStateException (by decide +kernel) (by decide +kernel) (by decide) dX3_takeGift_31 dX3_takeGift_34 dX3_takeGift_35 dX3_takeGift_37 dX3_takeGift_40 ?_
      exact ⟨(), Or.inr ⟨rfl, kg, hkg, rfl, h25⟩, fun q hq => hq⟩
  ·
    refine n_if_ne (tgt := 19) X dX3_takeGift_6 (by decide) (by omega) (fun c6 => absurd c6 (by decide)) (fun _ => ?_)
    refine z_throw (h := 20) (cls := eI) (text := "no such gift") (is := 147) X Z V (Nat.le_of_ble_eq_true rfl) rfl zat_I q_cl_X3_60 q_in_java_lang_IndexOutOfBoundsException (by decide +kernel) (by decide +kernel) (by decide) dX3_takeGift_9 dX3_takeGift_12 dX3_takeGift_13 dX3_takeGift_15 dX3_takeGift_18 ?_
    exact ⟨(), Or.inl ⟨rfl, h3⟩, fun q hq => hq⟩
set_option maxHeartbeats 4000000 in
set_option maxRecDepth 100000 in
theorem c_X3_loseLevel (l : Launch) (hfl : l.stackTraces = false) (D : va_G) (t : ClassId × ClassId × ClassId) (sz : Nat) (a : Nat → Nat) (S : zS) (m : Nat) (tk : Nat → Nat) (h17 : S 17 0 = nI m) (hm : m ≤ 8) (h16 : ∀ j, j < m → tk j < 3 ∧ S 16 j = nI (tk j)) : zM4 l yX3_loseLevel cX3_loseLevel 2 (some .int) 20 D t [.ref (a 0)] (wR t a S) sz (fun r (_ : Unit) => 0 < m ∧ r = nI (tk (m - 1))) (fun _ => wR t a (va_up (va_up S 17 (fun _ => nI (m - 1))) 15 (upd (S 15) (tk (m - 1)) (S 15 (tk (m - 1)) + (-1))))) (fun E (_ : Unit) => E = eS ∧ m = 0) (fun _ => wR t a S) := by
  refine z_m4 hfl (by decide +kernel) (Nat.le_of_ble_eq_true rfl) (by simp [Value.category]) ?_
  intro E X Z V Y
  refine z_lv (lv' := [some (.ref (a 0)), none]) rfl ?_
  refine z_aload_n X dX3_loseLevel_0 rfl rfl ?_
  refine z_get X (C := RX3) (T := TX3) (N := 8) (ci := 3) (v := .int (S 17 0)) inZ3 0 5 rfl rfl (by decide) q_fl_X3_37 rfl rfl dX3_loseLevel_1 ?_
  refine z_top (y := nI m) (h17) ?_
  refine z_iconst (v := nI 1) X dX3_loseLevel_4 (by decide) ?_
  rcases Nat.eq_zero_or_pos m with hm0 | hm0
  ·
    refine z_isub X dX3_loseLevel_5 ?_
    refine z_top (y := (-1)) (by rw [hm0]; exact sb_0) ?_
    refine z_istore_n X dX3_loseLevel_6 rfl (Nat.le_of_ble_eq_true rfl) ?_
    refine z_lv (lv' := [some (.ref (a 0)), some (.int (-1))]) rfl ?_
    refine z_iload_n X dX3_loseLevel_7 rfl rfl ?_
    refine z_bipush (v := nI 8) X dX3_loseLevel_8 (by decide) ?_
    refine z_callS1 (k := 0) (n := 0) (st := []) X (c_X3_isAmong_m l D t 8) k_X3_isAmong q_ml_X3_53 [] ⟨by decide, rfl⟩ (by decide) rfl rfl rfl (Nat.le_of_ble_eq_true rfl) ⟨Nat.zero_le _, Nat.zero_le _⟩ dX3_loseLevel_10 (fun r10 h10 => ?_)
    subst h10
    refine n_if_ne (tgt := 26) X dX3_loseLevel_13 (by decide) (by omega) (fun c13 => absurd c13 (by decide)) (fun _ => ?_)
    refine z_throw (h := 20) (cls := eS) (text := "there are no levels") (is := 161) X Z V (Nat.le_of_ble_eq_true rfl) rfl zat_S q_cl_X3_134 q_in_java_lang_IllegalStateException (by decide +kernel) (by decide +kernel) (by decide) dX3_loseLevel_16 dX3_loseLevel_19 dX3_loseLevel_20 dX3_loseLevel_22 dX3_loseLevel_25 ?_
    exact ⟨(), ⟨rfl, hm0⟩, fun q hq => hq⟩
  ·
    obtain ⟨ht3, h16e⟩ := h16 (m - 1) (by omega)
    refine n_isub X dX3_loseLevel_5 (by omega) ?_
    refine z_istore_n X dX3_loseLevel_6 rfl (Nat.le_of_ble_eq_true rfl) ?_
    refine z_lv (lv' := [some (.ref (a 0)), some (.int (nI (m - 1)))]) rfl ?_
    refine z_iload_n X dX3_loseLevel_7 rfl rfl ?_
    refine z_bipush (v := nI 8) X dX3_loseLevel_8 (by decide) ?_
    refine z_callS1 (k := 0) (n := 0) (st := []) X (c_X3_isAmong l D t (m - 1) 8 (by omega) (by decide)) k_X3_isAmong q_ml_X3_53 [] ⟨by decide, rfl⟩ (by decide) rfl rfl rfl (Nat.le_of_ble_eq_true rfl) ⟨Nat.zero_le _, Nat.zero_le _⟩ dX3_loseLevel_10 (fun r10 h10 => ?_)
    rcases h10 with ⟨rfl, h10⟩ | ⟨rfl, h10⟩
    rotate_left
    · exact absurd (by omega) h10
    refine n_if_ne (tgt := 26) X dX3_loseLevel_13 (by decide) (by omega) (fun _ => ?_) (fun c13 => absurd c13 (by decide))
    refine z_aload_n X dX3_loseLevel_26 rfl rfl ?_
    refine z_iload_n X dX3_loseLevel_27 rfl rfl ?_
    refine z_put X Y (C := RX3) (T := TX3) (N := 8) (ci := 3) (ty := .int) inZ3 tyX3 tyX3_ok nmX3 0 5 aR_eq rfl rfl (by decide) q_fl_X3_37 rfl rfl (by decide +kernel) rfl rfl (Nat.le_of_ble_eq_true rfl) dX3_loseLevel_28 ?_
    refine Wz.eq (uR_17 (v := nI (m - 1))) ?_
    refine z_aload_n X dX3_loseLevel_31 rfl rfl ?_
    refine z_get X (C := RX3) (T := TX3) (N := 8) (ci := 3) (v := .ref (a 4)) inZ3 0 3 rfl rfl (by decide) q_fl_X3_30 rfl rfl dX3_loseLevel_32 ?_
    refine z_aload_n X dX3_loseLevel_35 rfl rfl ?_
    refine z_get X (C := RX3) (T := TX3) (N := 8) (ci := 3) (v := .ref (a 5)) inZ3 0 4 rfl rfl (by decide) q_fl_X3_34 rfl rfl dX3_loseLevel_36 ?_
    refine z_iload_n X dX3_loseLevel_39 rfl rfl ?_
    refine n_iald (f := S 16) X 5 rfl (by omega) (by decide) dX3_loseLevel_40 ?_
    refine z_top (y := nI (tk (m - 1))) (h16e) ?_
    refine z_iconst (v := (-1)) X dX3_loseLevel_41 (by decide) ?_
    refine z_callV3 (k := 0) (n := 0) (st := []) X Y aR_eq (c_X0_changeLevel l D t (a 4) (a 22) (tk (m - 1)) ((va_up S 17 (fun _ => nI (m - 1))) 18 0) (-1) ((va_up S 17 (fun _ => nI (m - 1))) 15) (by omega)) k_X0_changeLevel q_ml_X3_143 [4, 22] (fun _ => wR t a (va_up (va_up S 17 (fun _ => nI (m - 1))) 15 (upd (S 15) (tk (m - 1)) (S 15 (tk (m - 1)) + (-1))))) (fun _ => swC_f) ⟨by decide, rfl⟩ 4 0 rfl rfl (by decide) rfl rfl rfl (Nat.le_of_ble_eq_true rfl) ⟨Nat.zero_le _, Nat.zero_le _⟩ dX3_loseLevel_42 (fun _ _ => ?_)
    refine z_aload_n X dX3_loseLevel_45 rfl rfl ?_
    refine z_get X (C := RX3) (T := TX3) (N := 8) (ci := 3) (v := .ref (a 5)) inZ3 0 4 rfl rfl (by decide) q_fl_X3_34 rfl rfl dX3_loseLevel_46 ?_
    refine z_iload_n X dX3_loseLevel_49 rfl rfl ?_
    refine n_iald (f := S 16) X 5 rfl (by omega) (by decide) dX3_loseLevel_50 ?_
    refine z_top (y := nI (tk (m - 1))) (h16e) ?_
    refine z_iretX X Z rfl dX3_loseLevel_51 ?_
    exact ⟨(), ⟨hm0, rfl⟩, fun q hq => hq⟩
set_option maxHeartbeats 4000000 in
set_option maxRecDepth 100000 in
theorem c_X3_clear (l : Launch) (D : va_G) (t : ClassId × ClassId × ClassId) (a : Nat → Nat) (S : zS) (m G : Nat) (h17 : S 17 0 = nI m) (h18 : S 18 0 = nI G) (hG : G < 256) : zM2 l yX3_clear cX3_clear 2 (some .int) 4 D t [.ref (a 0)] (wR t a S) (fun r (_ : Unit) => r = nI (m + p8 G)) (fun _ => wR t a (va_up (va_up (va_up S 18 (fun _ => nI 0)) 15 (fun _ => nI 0)) 17 (fun _ => nI 0))) := by
  refine z_m2 (by decide +kernel) (Nat.le_of_ble_eq_true rfl) (by simp [Value.category]) ?_
  intro E X Z Y
  refine z_lv (lv' := [some (.ref (a 0)), none]) rfl ?_
  refine z_aload_n X dX3_clear_0 rfl rfl ?_
  refine z_callV1 (k := 0) (n := 0) (st := []) X (c_X3_stepCount l D t a S m G h17 h18 hG) k_X3_stepCount q_ml_X3_182 is24 ⟨by decide, rfl⟩ 0 3 rfl rfl (by decide) rfl rfl rfl (Nat.le_of_ble_eq_true rfl) ⟨Nat.zero_le _, Nat.zero_le _⟩ dX3_clear_1 (fun r1 h1 => ?_)
  subst h1
  refine z_istore_n X dX3_clear_4 rfl (Nat.le_of_ble_eq_true rfl) ?_
  refine z_lv (lv' := [some (.ref (a 0)), some (.int (nI (m + p8 G)))]) rfl ?_
  refine z_aload_n X dX3_clear_5 rfl rfl ?_
  refine z_get X (C := RX3) (T := TX3) (N := 8) (ci := 3) (v := .ref (a 4)) inZ3 0 3 rfl rfl (by decide) q_fl_X3_30 rfl rfl dX3_clear_6 ?_
  refine z_callV3 (k := 0) (n := 0) (st := []) X Y aR_eq (c_X0_empty l D t (a 4) (a 22) (S 18 0) (S 15)) k_X0_empty q_ml_X3_185 [4, 22] (fun _ => wR t a (va_up (va_up S 18 (fun _ => nI 0)) 15 (fun _ => nI 0))) (fun _ => swC_xf) ⟨by decide, rfl⟩ 4 0 rfl rfl (by decide) rfl rfl rfl (Nat.le_of_ble_eq_true rfl) ⟨Nat.zero_le _, Nat.zero_le _⟩ dX3_clear_9 (fun _ _ => ?_)
  refine z_aload_n X dX3_clear_12 rfl rfl ?_
  refine z_iconst (v := nI 0) X dX3_clear_13 (by decide) ?_
  refine z_put X Y (C := RX3) (T := TX3) (N := 8) (ci := 3) (ty := .int) inZ3 tyX3 tyX3_ok nmX3 0 5 aR_eq rfl rfl (by decide) q_fl_X3_37 rfl rfl (by decide +kernel) rfl rfl (Nat.le_of_ble_eq_true rfl) dX3_clear_14 ?_
  refine Wz.eq (uR_17 (v := nI 0)) ?_
  refine z_iload_n X dX3_clear_17 rfl rfl ?_
  refine z_iret X Z rfl dX3_clear_18 ?_
  exact ⟨(), rfl, fun q hq => hq⟩
set_option maxHeartbeats 4000000 in
set_option maxRecDepth 100000 in
theorem c_X3_isLawful (l : Launch) (D : va_G) (t : ClassId × ClassId × ClassId) (a : Nat → Nat) (S : zS) (Xn Yn Zn G : Nat) (h15 : S 15 = l3 Xn Yn Zn) (h18 : S 18 0 = nI G) (hG : G < 256) (hX : Xn + Yn + Zn ≤ 8) (hI : zI S) (h17 : S 17 0 = nI (Xn + Yn + Zn)) (x y z s : Nat) (e : Nat → Int32) : zM2 l yX3_isLawful cX3_isLawful 1 (some .boolean) 10 D t [.ref (a 0)] (wR t a (T3 S x y z s e)) (fun r (u : Nat → Int32) => bz r (Rc S Xn Yn Zn G 0 0 0 0)) (fun u => wR t a (T3 S 0 0 0 0 u)) := by
  refine z_m2 (by decide +kernel) (Nat.le_of_ble_eq_true rfl) (by simp [Value.category]) ?_
  intro E X Z Y
  refine z_lv (lv' := [some (.ref (a 0))]) rfl ?_
  refine z_aload_n X dX3_isLawful_0 rfl rfl ?_
  refine z_aload_n X dX3_isLawful_1 rfl rfl ?_
  refine z_get X (C := RX3) (T := TX3) (N := 8) (ci := 3) (v := .ref (a 4)) inZ3 0 3 rfl rfl (by decide) q_fl_X3_30 rfl rfl dX3_isLawful_2 ?_
  refine z_get X (C := RX0) (T := TX0) (N := 2) (ci := 0) (v := .int (S 18 0)) inZ0 4 1 rfl rfl (by decide) q_fl_X3_155 rfl rfl dX3_isLawful_5 ?_
  refine z_top (y := nI G) (h18) ?_
  refine z_callV2 (k := 0) (n := 0) (st := []) X Y aR_eq (c_X3_canReach l D t a S Xn Yn Zn G x y z s e h15 h17 hI hG hX) k_X3_canReach q_ml_X3_169 is24 (fun u => wR t a (T3 S 0 0 0 0 u)) (fun u => swR) ppR 0 3 rfl rfl (by decide) rfl rfl rfl (Nat.le_of_ble_eq_true rfl) ⟨Nat.zero_le _, Nat.zero_le _⟩ dX3_isLawful_8 (fun r8 u8 h8 => ?_)
  obtain ⟨h8, hT8⟩ := h8
  rcases h8 with ⟨rfl, h8⟩ | ⟨rfl, h8⟩
  ·
    refine z_iret X Z (by decide +kernel) dX3_isLawful_11 ?_
    exact ⟨u8, bz_t h8, fun q hq => hq⟩
  ·
    refine z_iret X Z (by decide +kernel) dX3_isLawful_11 ?_
    exact ⟨u8, bz_f h8, fun q hq => hq⟩
set_option maxHeartbeats 4000000 in
set_option maxRecDepth 100000 in
theorem c_X3_exchange (l : Launch) (hfl : l.stackTraces = false) (D : va_G) (t : ClassId × ClassId × ClassId) (sz : Nat) (a : Nat → Nat) (S : zS) (Xn Yn Zn G : Nat) (h15 : S 15 = l3 Xn Yn Zn) (h18 : S 18 0 = nI G) (hG : G < 256) (hX : Xn + Yn + Zn ≤ 8) (hI : zI S) (h17 : S 17 0 = nI (Xn + Yn + Zn)) (x y z s : Nat) (e : Nat → Int32) (g o : Int32) : zM4 l yX3_exchange cX3_exchange 5 (some .int) 20 D t [.ref (a 0), .int g, .int o] (wR t a (T3 S x y z s e)) sz (fun r (u : Nat × Nat × (Nat → Int32)) => u.1 < 8 ∧ u.2.1 < 8 ∧ g = nI u.1 ∧ o = nI u.2.1 ∧ G.testBit u.1 = true ∧ G.testBit u.2.1 = false ∧ Rc S Xn Yn Zn (exN G u.1 u.2.1) 0 0 0 0 ∧ r = nI (p8 (faN S (S 15) G u.1 u.2.1))) (fun u => wR t a (va_up (T3 S 0 0 0 0 u.2.2) 18 (fun _ => nI (exN G u.1 u.2.1)))) (fun E (u : Nat × Nat × Nat × Nat × (Nat → Int32)) => (E = eI ∧ ¬ (am g 8 ∧ am o 8)) ∨ (E = eS ∧ ∃ k j, k < 8 ∧ j < 8 ∧ g = nI k ∧ o = nI j ∧ ¬ (G.testBit k = true ∧ G.testBit j = false ∧ Rc S Xn Yn Zn (exN G k j) 0 0 0 0))) (fun u => wR t a (T3 S u.1 u.2.1 u.2.2.1 u.2.2.2.1 u.2.2.2.2)) := by
  refine z_m4 hfl (by decide +kernel) (Nat.le_of_ble_eq_true rfl) (by simp [Value.category]) ?_
  intro E X Z V Y
  refine z_lv (lv' := [some (.ref (a 0)), some (.int g), some (.int o), none, none]) rfl ?_
  refine z_iload_n X dX3_exchange_0 rfl rfl ?_
  refine z_bipush (v := nI 8) X dX3_exchange_1 (by decide) ?_
  refine z_callS1 (k := 0) (n := 0) (st := []) X (c_X3_isAmong_g l D t g 8 (by decide)) k_X3_isAmong q_ml_X3_53 [] ⟨by decide, rfl⟩ (by decide) rfl rfl rfl (Nat.le_of_ble_eq_true rfl) ⟨Nat.zero_le _, Nat.zero_le _⟩ dX3_exchange_3 (fun r3 h3 => ?_)
  rcases h3 with ⟨rfl, kg, hkg, rfl⟩ | ⟨rfl, h3⟩
  ·
    refine n_if_eq (tgt := 18) X dX3_exchange_6 (by decide) (by omega) (fun c6 => absurd c6 (by decide)) (fun _ => ?_)
    refine z_iload_n X dX3_exchange_9 rfl rfl ?_
    refine z_bipush (v := nI 8) X dX3_exchange_10 (by decide) ?_
    refine z_callS1 (k := 0) (n := 0) (st := []) X (c_X3_isAmong_g l D t o 8 (by decide)) k_X3_isAmong q_ml_X3_53 [] ⟨by decide, rfl⟩ (by decide) rfl rfl rfl (Nat.le_of_ble_eq_true rfl) ⟨Nat.zero_le _, Nat.zero_le _⟩ dX3_exchange_12 (fun r12 h12 => ?_)
    rcases h12 with ⟨rfl, ko, hko, rfl⟩ | ⟨rfl, h12⟩
    ·
      refine n_if_ne (tgt := 28) X dX3_exchange_15 (by decide) (by omega) (fun _ => ?_) (fun c15 => absurd c15 (by decide))
      refine z_aload_n X dX3_exchange_28 rfl rfl ?_
      refine z_get X (C := RX3) (T := TX3) (N := 8) (ci := 3) (v := .ref (a 4)) inZ3 0 3 rfl rfl (by decide) q_fl_X3_30 rfl rfl dX3_exchange_29 ?_
      refine z_get X (C := RX0) (T := TX0) (N := 2) (ci := 0) (v := .int (S 18 0)) inZ0 4 1 rfl rfl (by decide) q_fl_X3_155 rfl rfl dX3_exchange_32 ?_
      refine z_top (y := nI G) (h18) ?_
      refine z_iconst (v := nI 1) X dX3_exchange_35 (by decide) ?_
      refine z_iload_n X dX3_exchange_36 rfl rfl ?_
      refine n_ishl1 X dX3_exchange_37 (by omega) ?_
      refine z_iconst (v := (-1)) X dX3_exchange_38 (by decide) ?_
      refine z_ixor X dX3_exchange_39 ?_
      refine z_iand X dX3_exchange_40 ?_
      refine z_top (y := nI (dif G (2 ^ kg))) (zn_dif G (2 ^ kg)) ?_
      refine z_iconst (v := nI 1) X dX3_exchange_41 (by decide) ?_
      refine z_iload_n X dX3_exchange_42 rfl rfl ?_
      refine n_ishl1 X dX3_exchange_43 (by omega) ?_
      refine n_ior X dX3_exchange_44 ?_
      refine z_top (y := nI (exN G kg ko)) rfl ?_
      have hex := exN_lt (k := kg) hG hko
      refine z_istore_n X dX3_exchange_45 rfl (Nat.le_of_ble_eq_true rfl) ?_
      refine z_lv (lv' := [some (.ref (a 0)), some (.int (nI kg)), some (.int (nI ko)), some (.int (nI (exN G kg ko))), none]) rfl ?_
      refine z_aload_n X dX3_exchange_46 rfl rfl ?_
      refine z_get X (C := RX3) (T := TX3) (N := 8) (ci := 3) (v := .ref (a 4)) inZ3 0 3 rfl rfl (by decide) q_fl_X3_30 rfl rfl dX3_exchange_47 ?_
      refine z_iload_n X dX3_exchange_50 rfl rfl ?_
      refine z_callV1 (k := 0) (n := 0) (st := []) X (c_X0_has l D t (a 4) (a 22) G kg ((T3 S x y z s e) 18 0) ((T3 S x y z s e) 15) h18 (by omega) (by omega)) k_X0_has q_ml_X3_165 [4, 22] ⟨by decide, rfl⟩ 4 0 rfl rfl (by decide) rfl rfl rfl (Nat.le_of_ble_eq_true rfl) ⟨Nat.zero_le _, Nat.zero_le _⟩ dX3_exchange_51 (fun r51 h51 => ?_)
      rcases h51 with ⟨rfl, h51⟩ | ⟨rfl, h51⟩
      ·
        refine n_if_eq (tgt := 76) X dX3_exchange_54 (by decide) (by omega) (fun c54 => absurd c54 (by decide)) (fun _ => ?_)
        refine z_aload_n X dX3_exchange_57 rfl rfl ?_
        refine z_get X (C := RX3) (T := TX3) (N := 8) (ci := 3) (v := .ref (a 4)) inZ3 0 3 rfl rfl (by decide) q_fl_X3_30 rfl rfl dX3_exchange_58 ?_
        refine z_iload_n X dX3_exchange_61 rfl rfl ?_
        refine z_callV1 (k := 0) (n := 0) (st := []) X (c_X0_has l D t (a 4) (a 22) G ko ((T3 S x y z s e) 18 0) ((T3 S x y z s e) 15) h18 (by omega) (by omega)) k_X0_has q_ml_X3_165 [4, 22] ⟨by decide, rfl⟩ 4 0 rfl rfl (by decide) rfl rfl rfl (Nat.le_of_ble_eq_true rfl) ⟨Nat.zero_le _, Nat.zero_le _⟩ dX3_exchange_62 (fun r62 h62 => ?_)
        rcases h62 with ⟨rfl, h62⟩ | ⟨rfl, h62⟩
        ·
          refine n_if_ne (tgt := 76) X dX3_exchange_65 (by decide) (by omega) (fun _ => ?_) (fun c65 => absurd c65 (by decide))
          refine z_throw (h := 20) (cls := eS) (text := "the gift can't be exchanged for the other") (is := 172) X Z V (Nat.le_of_ble_eq_true rfl) rfl zat_S q_cl_X3_134 q_in_java_lang_IllegalStateException (by decide +kernel) (by decide +kernel) (by decide) dX3_exchange_76 dX3_exchange_79 dX3_exchange_80 dX3_exchange_82 dX3_exchange_85 ?_
          first
            | exact ⟨(x, y, z, s, e), Or.inr ⟨rfl, kg, ko, hkg, hko, rfl, rfl, fun q => h51 q.1⟩, fun q hq => hq⟩
            | exact ⟨(x, y, z, s, e), Or.inr ⟨rfl, kg, ko, hkg, hko, rfl, rfl, fun q => h70 q.2.2⟩, fun q hq => hq⟩
            | exact ⟨(x, y, z, s, e), Or.inr ⟨rfl, kg, ko, hkg, hko, rfl, rfl, fun q => by rw [h62] at q; cases q.2.1⟩, fun q hq => hq⟩
            | exact ⟨(0, 0, 0, 0, u70), Or.inr ⟨rfl, kg, ko, hkg, hko, rfl, rfl, fun q => h51 q.1⟩, fun q hq => hq⟩
            | exact ⟨(0, 0, 0, 0, u70), Or.inr ⟨rfl, kg, ko, hkg, hko, rfl, rfl, fun q => h70 q.2.2⟩, fun q hq => hq⟩
            | exact ⟨(0, 0, 0, 0, u70), Or.inr ⟨rfl, kg, ko, hkg, hko, rfl, rfl, fun q => by rw [h62] at q; cases q.2.1⟩, fun q hq => hq⟩
        ·
          refine n_if_ne (tgt := 76) X dX3_exchange_65 (by decide) (by omega) (fun c65 => absurd c65 (by decide)) (fun _ => ?_)
          refine z_aload_n X dX3_exchange_68 rfl rfl ?_
          refine z_iload_n X dX3_exchange_69 rfl rfl ?_
          refine z_callV2 (k := 0) (n := 0) (st := []) X Y aR_eq (c_X3_canReach l D t a S Xn Yn Zn (exN G kg ko) x y z s e h15 h17 hI hex hX) k_X3_canReach q_ml_X3_169 is24 (fun u => wR t a (T3 S 0 0 0 0 u)) (fun u => swR) ppR 0 3 rfl rfl (by decide) rfl rfl rfl (Nat.le_of_ble_eq_true rfl) ⟨Nat.zero_le _, Nat.zero_le _⟩ dX3_exchange_70 (fun r70 u70 h70 => ?_)
          obtain ⟨h70, hT70⟩ := h70
          rcases h70 with ⟨rfl, h70⟩ | ⟨rfl, h70⟩
          ·
            refine n_if_ne (tgt := 86) X dX3_exchange_73 (by decide) (by omega) (fun _ => ?_) (fun c73 => absurd c73 (by decide))
            refine z_aload_n X dX3_exchange_86 rfl rfl ?_
            refine z_aload_n X dX3_exchange_87 rfl rfl ?_
            refine z_get X (C := RX3) (T := TX3) (N := 8) (ci := 3) (v := .ref (a 4)) inZ3 0 3 rfl rfl (by decide) q_fl_X3_30 rfl rfl dX3_exchange_88 ?_
            refine z_get X (C := RX0) (T := TX0) (N := 2) (ci := 0) (v := .int (S 18 0)) inZ0 4 1 rfl rfl (by decide) q_fl_X3_155 rfl rfl dX3_exchange_91 ?_
            refine z_top (y := nI G) (h18) ?_
            refine z_callV1 (k := 0) (n := 0) (st := []) X (c_X3_workingAmong l D t a (T3 S 0 0 0 0 u70) G (by omega) (T3I hI)) k_X3_workingAmong q_ml_X3_174 is24 ⟨by decide, rfl⟩ 0 3 rfl rfl (by decide) rfl rfl rfl (Nat.le_of_ble_eq_true rfl) ⟨Nat.zero_le _, Nat.zero_le _⟩ dX3_exchange_94 (fun r94 h94 => ?_)
            subst h94
            refine z_top (y := nI (wk S (S 15) G)) (congrArg nI (wkN_T3 64)) ?_
            refine z_aload_n X dX3_exchange_97 rfl rfl ?_
            refine z_iload_n X dX3_exchange_98 rfl rfl ?_
            refine z_callV1 (k := 0) (n := 0) (st := [.int (nI (wk S (S 15) G))]) X (c_X3_workingAmong l D t a (T3 S 0 0 0 0 u70) (exN G kg ko) (by omega) (T3I hI)) k_X3_workingAmong q_ml_X3_174 is24 ⟨by decide, rfl⟩ 0 3 rfl rfl (by decide) rfl rfl rfl (Nat.le_of_ble_eq_true rfl) ⟨Nat.zero_le _, Nat.zero_le _⟩ dX3_exchange_99 (fun r99 h99 => ?_)
            subst h99
            refine z_top (y := nI (wk S (S 15) (exN G kg ko))) (congrArg nI (wkN_T3 64)) ?_
            refine z_iconst (v := (-1)) X dX3_exchange_102 (by decide) ?_
            refine z_ixor X dX3_exchange_103 ?_
            refine z_iand X dX3_exchange_104 ?_
            refine z_top (y := nI (dif (wk S (S 15) G) (wk S (S 15) (exN G kg ko)))) (zn_dif _ _) ?_
            refine z_iconst (v := nI 1) X dX3_exchange_105 (by decide) ?_
            refine z_iload_n X dX3_exchange_106 rfl rfl ?_
            refine n_ishl1 X dX3_exchange_107 (by omega) ?_
            refine z_iconst (v := (-1)) X dX3_exchange_108 (by decide) ?_
            refine z_ixor X dX3_exchange_109 ?_
            refine z_iand X dX3_exchange_110 ?_
            refine z_top (y := nI (faN S (S 15) G kg ko)) (zn_dif _ _) ?_
            have hfa := faN_lt (S := S) (f := S 15) (G := G) (k := kg) (j := ko)
            refine z_istore X dX3_exchange_111 (Nat.le_of_ble_eq_true rfl) ?_
            refine z_lv (lv' := [some (.ref (a 0)), some (.int (nI kg)), some (.int (nI ko)), some (.int (nI (exN G kg ko))), some (.int (nI (faN S (S 15) G kg ko)))]) rfl ?_
            refine z_aload_n X dX3_exchange_113 rfl rfl ?_
            refine z_get X (C := RX3) (T := TX3) (N := 8) (ci := 3) (v := .ref (a 4)) inZ3 0 3 rfl rfl (by decide) q_fl_X3_30 rfl rfl dX3_exchange_114 ?_
            refine z_iload_n X dX3_exchange_117 rfl rfl ?_
            refine z_put X Y (C := RX0) (T := TX0) (N := 2) (ci := 0) (ty := .int) inZ0 tyX0 tyX0_ok nmX0 4 1 aR_eq rfl rfl (by decide) q_fl_X3_155 rfl rfl (by decide +kernel) rfl rfl (Nat.le_of_ble_eq_true rfl) dX3_exchange_118 ?_
            refine Wz.eq (uR_18 (v := nI (exN G kg ko))) ?_
            refine z_iload X dX3_exchange_121 rfl ?_
            refine z_callS1 (k := 0) (n := 0) (st := []) X (c_J6_bitCount_0f7a4 l D t (faN S (S 15) G kg ko) (by omega)) k_J6_bitCount_0f7a4 q_ml_X3_177 [] ⟨by decide, rfl⟩ (by decide) rfl rfl rfl (Nat.le_of_ble_eq_true rfl) ⟨Nat.zero_le _, Nat.zero_le _⟩ dX3_exchange_123 (fun r123 h123 => ?_)
            subst h123
            refine z_iretX X Z rfl dX3_exchange_126 ?_
            exact ⟨(kg, ko, u70), ⟨hkg, hko, rfl, rfl, h51, by simpa using h62, h70, rfl⟩, fun q hq => hq⟩
          ·
            refine n_if_ne (tgt := 86) X dX3_exchange_73 (by decide) (by omega) (fun c73 => absurd c73 (by decide)) (fun _ => ?_)
            refine z_throw (h := 20) (cls := eS) (text := "the gift can't be exchanged for the other") (is := 172) X Z V (Nat.le_of_ble_eq_true rfl) rfl zat_S q_cl_X3_134 q_in_java_lang_IllegalStateException (by decide +kernel) (by decide +kernel) (by decide) dX3_exchange_76 dX3_exchange_79 dX3_exchange_80 dX3_exchange_82 dX3_exchange_85 ?_
            first
              | exact ⟨(x, y, z, s, e), Or.inr ⟨rfl, kg, ko, hkg, hko, rfl, rfl, fun q => h51 q.1⟩, fun q hq => hq⟩
              | exact ⟨(x, y, z, s, e), Or.inr ⟨rfl, kg, ko, hkg, hko, rfl, rfl, fun q => h70 q.2.2⟩, fun q hq => hq⟩
              | exact ⟨(x, y, z, s, e), Or.inr ⟨rfl, kg, ko, hkg, hko, rfl, rfl, fun q => by rw [h62] at q; cases q.2.1⟩, fun q hq => hq⟩
              | exact ⟨(0, 0, 0, 0, u70), Or.inr ⟨rfl, kg, ko, hkg, hko, rfl, rfl, fun q => h51 q.1⟩, fun q hq => hq⟩
              | exact ⟨(0, 0, 0, 0, u70), Or.inr ⟨rfl, kg, ko, hkg, hko, rfl, rfl, fun q => h70 q.2.2⟩, fun q hq => hq⟩
              | exact ⟨(0, 0, 0, 0, u70), Or.inr ⟨rfl, kg, ko, hkg, hko, rfl, rfl, fun q => by rw [h62] at q; cases q.2.1⟩, fun q hq => hq⟩
      ·
        refine n_if_eq (tgt := 76) X dX3_exchange_54 (by decide) (by omega) (fun _ => ?_) (fun c54 => absurd c54 (by decide))
        refine z_throw (h := 20) (cls := eS) (text := "the gift can't be exchanged for the other") (is := 172) X Z V (Nat.le_of_ble_eq_true rfl) rfl zat_S q_cl_X3_134 q_in_java_lang_IllegalStateException (by decide +kernel) (by decide +kernel) (by decide) dX3_exchange_76 dX3_exchange_79 dX3_exchange_80 dX3_exchange_82 dX3_exchange_85 ?_
        first
          | exact ⟨(x, y, z, s, e), Or.inr ⟨rfl, kg, ko, hkg, hko, rfl, rfl, fun q => h51 q.1⟩, fun q hq => hq⟩
          | exact ⟨(x, y, z, s, e), Or.inr ⟨rfl, kg, ko, hkg, hko, rfl, rfl, fun q => h70 q.2.2⟩, fun q hq => hq⟩
          | exact ⟨(x, y, z, s, e), Or.inr ⟨rfl, kg, ko, hkg, hko, rfl, rfl, fun q => by rw [h62] at q; cases q.2.1⟩, fun q hq => hq⟩
          | exact ⟨(0, 0, 0, 0, u70), Or.inr ⟨rfl, kg, ko, hkg, hko, rfl, rfl, fun q => h51 q.1⟩, fun q hq => hq⟩
          | exact ⟨(0, 0, 0, 0, u70), Or.inr ⟨rfl, kg, ko, hkg, hko, rfl, rfl, fun q => h70 q.2.2⟩, fun q hq => hq⟩
          | exact ⟨(0, 0, 0, 0, u70), Or.inr ⟨rfl, kg, ko, hkg, hko, rfl, rfl, fun q => by rw [h62] at q; cases q.2.1⟩, fun q hq => hq⟩
    ·
      refine n_if_ne (tgt := 28) X dX3_exchange_15 (by decide) (by omega) (fun c15 => absurd c15 (by decide)) (fun _ => ?_)
      refine z_throw (h := 20) (cls := eI) (text := "no such gift or other") (is := 163) X Z V (Nat.le_of_ble_eq_true rfl) rfl zat_I q_cl_X3_60 q_in_java_lang_IndexOutOfBoundsException (by decide +kernel) (by decide +kernel) (by decide) dX3_exchange_18 dX3_exchange_21 dX3_exchange_22 dX3_exchange_24 dX3_exchange_27 ?_
      first
        | exact ⟨(x, y, z, s, e), Or.inl ⟨rfl, fun q => h12 q.2⟩, fun q hq => hq⟩
        | exact ⟨(x, y, z, s, e), Or.inl ⟨rfl, fun q => h3 q.1⟩, fun q hq => hq⟩
  ·
    refine n_if_eq (tgt := 18) X dX3_exchange_6 (by decide) (by omega) (fun _ => ?_) (fun c6 => absurd c6 (by decide))
    refine z_throw (h := 20) (cls := eI) (text := "no such gift or other") (is := 163) X Z V (Nat.le_of_ble_eq_true rfl) rfl zat_I q_cl_X3_60 q_in_java_lang_IndexOutOfBoundsException (by decide +kernel) (by decide +kernel) (by decide) dX3_exchange_18 dX3_exchange_21 dX3_exchange_22 dX3_exchange_24 dX3_exchange_27 ?_
    first
      | exact ⟨(x, y, z, s, e), Or.inl ⟨rfl, fun q => h12 q.2⟩, fun q hq => hq⟩
      | exact ⟨(x, y, z, s, e), Or.inl ⟨rfl, fun q => h3 q.1⟩, fun q hq => hq⟩
set_option maxHeartbeats 4000000 in
set_option maxRecDepth 100000 in
theorem c_X3_isLawfulByOrders (l : Launch) (hfl : l.stackTraces = false) (D : va_G) (t : ClassId × ClassId × ClassId) (sz : Nat) (a : Nat → Nat) (S : zS) (Xn Yn Zn G : Nat) (h15 : S 15 = l3 Xn Yn Zn) (h18 : S 18 0 = nI G) (hG : G < 256) (hX : Xn + Yn + Zn ≤ 8) (hI : zI S) (h17 : S 17 0 = nI (Xn + Yn + Zn)) (x y z s : Nat) (e : Nat → Int32) : zM4 l yX3_isLawfulByOrders cX3_isLawfulByOrders 2 (some .boolean) 20 D t [.ref (a 0)] (wR t a (T3 S x y z s e)) sz (fun r (_ : Unit) => bz r (Rc S Xn Yn Zn G 0 0 0 0) ∧ Xn + Yn + Zn + p8 G ≤ 8) (fun _ => wR t a (T3 S 0 0 0 0 e)) (fun E (_ : Unit) => E = eS ∧ 8 < Xn + Yn + Zn + p8 G) (fun _ => wR t a (T3 S x y z s e)) := by
  refine z_m4 hfl (by decide +kernel) (Nat.le_of_ble_eq_true rfl) (by simp [Value.category]) ?_
  intro E X Z V Y
  refine z_lv (lv' := [some (.ref (a 0)), none]) rfl ?_
  refine z_aload_n X dX3_isLawfulByOrders_0 rfl rfl ?_
  refine z_callV1 (k := 0) (n := 0) (st := []) X (c_X3_stepCount l D t a (T3 S x y z s e) (Xn + Yn + Zn) G h17 h18 hG) k_X3_stepCount q_ml_X3_182 is24 ⟨by decide, rfl⟩ 0 3 rfl rfl (by decide) rfl rfl rfl (Nat.le_of_ble_eq_true rfl) ⟨Nat.zero_le _, Nat.zero_le _⟩ dX3_isLawfulByOrders_1 (fun r1 h1 => ?_)
  subst h1
  refine z_istore_n X dX3_isLawfulByOrders_4 rfl (Nat.le_of_ble_eq_true rfl) ?_
  refine z_lv (lv' := [some (.ref (a 0)), some (.int (nI (Xn + Yn + Zn + p8 G)))]) rfl ?_
  have hp8 := p8_le G hG
  refine z_iload_n X dX3_isLawfulByOrders_5 rfl rfl ?_
  refine z_bipush (v := nI 8) X dX3_isLawfulByOrders_6 (by decide) ?_
  refine n_icmp_le (tgt := 21) X dX3_isLawfulByOrders_8 (by decide) (by omega) (by omega) (fun c8 => ?_) (fun c8 => ?_)
  ·
    refine z_aload_n X dX3_isLawfulByOrders_21 rfl rfl ?_
    refine z_get X (C := RX3) (T := TX3) (N := 8) (ci := 3) (v := .ref (a 6)) inZ3 0 6 rfl rfl (by decide) q_fl_X3_41 rfl rfl dX3_isLawfulByOrders_22 ?_
    refine z_callV3 (k := 0) (n := 0) (st := []) X Y aR_eq (c_X0_empty l D t (a 6) (a 23) (nI s) (l3 x y z)) k_X0_empty q_ml_X3_185 [6, 23] (fun _ => wR t a (T3 S 0 0 0 0 e)) (fun _ => ⟨⟨by decide, rfl⟩, ⟨by decide, by rw [← l3_000]; rfl⟩, rfl, rfl⟩) ⟨by decide, rfl⟩ 6 0 rfl rfl (by decide) rfl rfl rfl (Nat.le_of_ble_eq_true rfl) ⟨Nat.zero_le _, Nat.zero_le _⟩ dX3_isLawfulByOrders_25 (fun _ _ => ?_)
    refine z_aload_n X dX3_isLawfulByOrders_28 rfl rfl ?_
    refine z_iload_n X dX3_isLawfulByOrders_29 rfl rfl ?_
    refine z_callV2 (k := 0) (n := 0) (st := []) X Y aR_eq (c_X3_someOrderEnds l D t a S Xn Yn Zn G e h15 h18 hI hG hX (Xn + Yn + Zn + p8 G) (by omega) 0 0 0 0 inB_0) k_X3_someOrderEnds q_ml_X3_217 is24 (fun u => wR t a (T3 S 0 0 0 0 e)) (fun u => swR) ppR 0 3 rfl rfl (by omega) rfl rfl rfl (Nat.le_of_ble_eq_true rfl) ⟨Nat.zero_le _, Nat.zero_le _⟩ dX3_isLawfulByOrders_30 (fun r30 u30 h30 => ?_)
    rw [← rem_all] at h30
    replace h30 := h30.iff (orn_Rc hG inB_0)
    refine z_iretX X Z h30.bool dX3_isLawfulByOrders_33 ?_
    exact ⟨(), ⟨h30, by omega⟩, fun q hq => hq⟩
  ·
    refine z_throw (h := 20) (cls := eS) (text := "too many levels and gifts to try every order") (is := 215) X Z V (Nat.le_of_ble_eq_true rfl) rfl zat_S q_cl_X3_134 q_in_java_lang_IllegalStateException (by decide +kernel) (by decide +kernel) (by decide) dX3_isLawfulByOrders_11 dX3_isLawfulByOrders_14 dX3_isLawfulByOrders_15 dX3_isLawfulByOrders_17 dX3_isLawfulByOrders_20 ?_
    exact ⟨(), ⟨rfl, by omega⟩, fun q hq => hq⟩
set_option maxHeartbeats 4000000 in
set_option maxRecDepth 100000 in
theorem c_X3_stepAt (l : Launch) (hfl : l.stackTraces = false) (D : va_G) (t : ClassId × ClassId × ClassId) (sz : Nat) (a : Nat → Nat) (S : zS) (Xn Yn Zn G : Nat) (h15 : S 15 = l3 Xn Yn Zn) (h18 : S 18 0 = nI G) (hG : G < 256) (hX : Xn + Yn + Zn ≤ 8) (hI : zI S) (h17 : S 17 0 = nI (Xn + Yn + Zn)) (x y z s : Nat) (e : Nat → Int32) (v : Int32) : zM4 l yX3_stepAt cX3_stepAt 2 (some .int) 20 D t [.ref (a 0), .int v] (wR t a (T3 S x y z s e)) sz (fun r (u : Nat × Nat × Nat × Nat × (Nat → Int32)) => ∃ w, w < 2 ^ 31 ∧ v = nI w ∧ Rc S Xn Yn Zn G 0 0 0 0 ∧ ((Xn + Yn + Zn + p8 G ≤ w ∧ r = -1) ∨ (w < Xn + Yn + Zn + p8 G ∧ ∃ c k, pth S Xn Yn Zn G w c ∧ lead S Xn Yn Zn G c k ∧ r = nI (cnv k)))) (fun u => wR t a (T3 S u.1 u.2.1 u.2.2.1 u.2.2.2.1 u.2.2.2.2)) (fun E (u : Nat × Nat × Nat × Nat × (Nat → Int32)) => (E = eI ∧ v < 0) ∨ (E = eS ∧ ¬ v < 0 ∧ ¬ Rc S Xn Yn Zn G 0 0 0 0)) (fun u => wR t a (T3 S u.1 u.2.1 u.2.2.1 u.2.2.2.1 u.2.2.2.2)) := by
  refine z_m4 hfl (by decide +kernel) (Nat.le_of_ble_eq_true rfl) (by simp [Value.category]) ?_
  intro E X Z V Y
  refine z_lv (lv' := [some (.ref (a 0)), some (.int v)]) rfl ?_
  refine z_iload_n X dX3_stepAt_0 rfl rfl ?_
  refine z_if_ge (tgt := 14) X dX3_stepAt_1 (by decide) (fun c1 => ?_) (fun c1 => ?_)
  ·
    obtain ⟨w, hw, rfl⟩ := nI_of (Int32.not_lt.mpr c1)
    have hp8 := p8_le G hG
    refine z_aload_n X dX3_stepAt_14 rfl rfl ?_
    refine z_aload_n X dX3_stepAt_15 rfl rfl ?_
    refine z_get X (C := RX3) (T := TX3) (N := 8) (ci := 3) (v := .ref (a 4)) inZ3 0 3 rfl rfl (by decide) q_fl_X3_30 rfl rfl dX3_stepAt_16 ?_
    refine z_get X (C := RX0) (T := TX0) (N := 2) (ci := 0) (v := .int (S 18 0)) inZ0 4 1 rfl rfl (by decide) q_fl_X3_155 rfl rfl dX3_stepAt_19 ?_
    refine z_top (y := nI G) (h18) ?_
    refine z_callV2 (k := 0) (n := 0) (st := []) X Y aR_eq (c_X3_canReach l D t a S Xn Yn Zn G x y z s e h15 h17 hI hG hX) k_X3_canReach q_ml_X3_169 is24 (fun u => wR t a (T3 S 0 0 0 0 u)) (fun u => swR) ppR 0 3 rfl rfl (by decide) rfl rfl rfl (Nat.le_of_ble_eq_true rfl) ⟨Nat.zero_le _, Nat.zero_le _⟩ dX3_stepAt_22 (fun r22 u22 h22 => ?_)
    obtain ⟨h22, hT22⟩ := h22
    rcases h22 with ⟨rfl, h22⟩ | ⟨rfl, h22⟩
    ·
      refine n_if_ne (tgt := 38) X dX3_stepAt_25 (by decide) (by omega) (fun _ => ?_) (fun c25 => absurd c25 (by decide))
      refine z_iload_n X dX3_stepAt_38 rfl rfl ?_
      refine z_aload_n X dX3_stepAt_39 rfl rfl ?_
      refine z_callV1 (k := 0) (n := 0) (st := [.int (nI w)]) X (c_X3_stepCount l D t a (T3 S 0 0 0 0 u22) (Xn + Yn + Zn) G h17 h18 hG) k_X3_stepCount q_ml_X3_182 is24 ⟨by decide, rfl⟩ 0 3 rfl rfl (by decide) rfl rfl rfl (Nat.le_of_ble_eq_true rfl) ⟨Nat.zero_le _, Nat.zero_le _⟩ dX3_stepAt_40 (fun r40 h40 => ?_)
      subst h40
      refine n_icmp_ge (tgt := 54) X dX3_stepAt_43 (by decide) (by omega) (by omega) (fun c43 => ?_) (fun c43 => ?_)
      ·
        refine z_iconst (v := (-1)) X dX3_stepAt_54 (by decide) ?_
        refine z_iretX X Z rfl dX3_stepAt_55 ?_
        exact ⟨(0, 0, 0, 0, u22), ⟨w, hw, rfl, h22, Or.inl ⟨by omega, rfl⟩⟩, fun q hq => hq⟩
      ·
        refine z_aload_n X dX3_stepAt_46 rfl rfl ?_
        refine z_iload_n X dX3_stepAt_47 rfl rfl ?_
        refine z_callV2 (k := 0) (n := 0) (st := []) X Y aR_eq (c_X3_stepOfFirstOrder l D t a S Xn Yn Zn G u22 w h15 h18 hI hG hX hT22 h22 (by omega)) k_X3_stepOfFirstOrder q_ml_X3_224 is24 (fun u => wR t a (T3 S u.1 u.2.1 u.2.2.1 u.2.2.2 u22)) (fun u => swR) ppR 0 3 rfl rfl (by decide) rfl rfl rfl (Nat.le_of_ble_eq_true rfl) ⟨Nat.zero_le _, Nat.zero_le _⟩ dX3_stepAt_48 (fun r48 u48 h48 => ?_)
        refine z_goto (tgt := 55) X dX3_stepAt_51 (by decide) ?_
        refine z_iretX X Z rfl dX3_stepAt_55 ?_
        exact ⟨(u48.1, u48.2.1, u48.2.2.1, u48.2.2.2, u22), ⟨w, hw, rfl, h22, Or.inr ⟨by omega, h48⟩⟩, fun q hq => hq⟩
    ·
      refine n_if_ne (tgt := 38) X dX3_stepAt_25 (by decide) (by omega) (fun c25 => absurd c25 (by decide)) (fun _ => ?_)
      refine z_throw (h := 20) (cls := eS) (text := "the character is not lawful") (is := 222) X Z V (Nat.le_of_ble_eq_true rfl) rfl zat_S q_cl_X3_134 q_in_java_lang_IllegalStateException (by decide +kernel) (by decide +kernel) (by decide) dX3_stepAt_28 dX3_stepAt_31 dX3_stepAt_32 dX3_stepAt_34 dX3_stepAt_37 ?_
      exact ⟨(0, 0, 0, 0, u22), Or.inr ⟨rfl, Int32.not_lt.mpr c1, h22⟩, fun q hq => hq⟩
  ·
    refine z_throw (h := 20) (cls := eI) (text := "the step is below 0") (is := 220) X Z V (Nat.le_of_ble_eq_true rfl) rfl zat_I q_cl_X3_60 q_in_java_lang_IndexOutOfBoundsException (by decide +kernel) (by decide +kernel) (by decide) dX3_stepAt_4 dX3_stepAt_7 dX3_stepAt_8 dX3_stepAt_10 dX3_stepAt_13 ?_
    exact ⟨(x, y, z, s, e), Or.inl ⟨rfl, Int32.not_le.mp c1⟩, fun q hq => hq⟩
