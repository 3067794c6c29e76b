set_option maxHeartbeats 4000000 in
set_option maxRecDepth 100000 in
theorem c_X3_sumOf_0 (l : Launch) (D : va_G) (t : ClassId × ClassId × ClassId) (a : Nat → Nat) (S : zS) (w : Nat) (hw : w < 256) (hI : zI S) (c : Int32) (hc : zo c 6) : zM1 l yX3_sumOf cX3_sumOf 6 (some .int) 2 D t [.ref (a 0), .int c, .int (nI w), .int (nI 6)] (wR t a S) (fun r => r = vl S (S 15) w 0 c) := by
  refine z_m1 (by decide +kernel) (Nat.le_of_ble_eq_true rfl) (by simp [Value.category]) ?_
  intro E X Z
  refine z_lv (lv' := [some (.ref (a 0)), some (.int c), some (.int (nI w)), some (.int (nI 6)), none, none]) rfl ?_
  rcases hc with rfl | ⟨k, hk, rfl⟩
  ·
    refine z_iload_n X dX3_sumOf_0 rfl rfl ?_
    refine z_bipush (v := nI 6) X dX3_sumOf_1 (by decide) ?_
    refine z_callS1 (k := 0) (n := 0) (st := []) X (c_X3_isAmong_m l D t 6) k_X3_isAmong q_ml_X3_53 [] ⟨by decide, rfl⟩ (by decide) rfl rfl rfl (Nat.le_of_ble_eq_true rfl) ⟨Nat.zero_le _, Nat.zero_le _⟩ dX3_sumOf_3 (fun r3 h3 => ?_)
    subst h3
    refine n_if_eq (tgt := 15) X dX3_sumOf_6 (by decide) (by omega) (fun _ => ?_) (fun c6 => absurd c6 (by decide))
    refine z_iconst (v := nI 0) X dX3_sumOf_15 (by decide) ?_
    refine z_iret X Z rfl dX3_sumOf_16 ?_
    exact ⟨(), rfl, fun _ _ => trivial⟩
  ·
    refine z_iload_n X dX3_sumOf_0 rfl rfl ?_
    refine z_bipush (v := nI 6) X dX3_sumOf_1 (by decide) ?_
    refine z_callS1 (k := 0) (n := 0) (st := []) X (c_X3_isAmong l D t k 6 (by omega) (by decide)) k_X3_isAmong q_ml_X3_53 [] ⟨by decide, rfl⟩ (by decide) rfl rfl rfl (Nat.le_of_ble_eq_true rfl) ⟨Nat.zero_le _, Nat.zero_le _⟩ dX3_sumOf_3 (fun r3 h3 => ?_)
    rcases h3 with ⟨rfl, h3⟩ | ⟨rfl, h3⟩
    rotate_left
    · exact absurd (by omega) h3
    refine n_if_eq (tgt := 15) X dX3_sumOf_6 (by decide) (by omega) (fun c6 => absurd c6 (by decide)) (fun _ => ?_)
    refine z_iload_n X dX3_sumOf_9 rfl rfl ?_
    refine z_bipush (v := nI 6) X dX3_sumOf_10 (by decide) ?_
    refine n_icmp_lt (tgt := 17) X dX3_sumOf_12 (by decide) (by omega) (by omega) (fun c12 => absurd c12 (by decide)) (fun _ => ?_)
    refine z_iconst (v := nI 0) X dX3_sumOf_15 (by decide) ?_
    refine z_iret X Z rfl dX3_sumOf_16 ?_
    exact ⟨(), rfl, fun _ _ => trivial⟩
set_option maxHeartbeats 4000000 in
set_option maxRecDepth 100000 in
theorem c_X3_sumOf_s (l : Launch) (D : va_G) (t : ClassId × ClassId × ClassId) (a : Nat → Nat) (S : zS) (w : Nat) (hw : w < 256) (hI : zI S) (m : Nat) (hm : m ≤ 5) (ih : ∀ c, zo c 6 → zM1 l yX3_sumOf cX3_sumOf 6 (some .int) (m + 2) D t [.ref (a 0), .int c, .int (nI w), .int (nI (6 - m))] (wR t a S) (fun r => r = vl S (S 15) w m c)) (c : Int32) (hc : zo c 6) : zM1 l yX3_sumOf cX3_sumOf 6 (some .int) (m + 3) D t [.ref (a 0), .int c, .int (nI w), .int (nI (5 - m))] (wR t a S) (fun r => r = vl S (S 15) w (m + 1) c) := by
  refine z_m1 (by decide +kernel) (Nat.le_of_ble_eq_true rfl) (by simp [Value.category]) ?_
  intro E X Z
  refine z_lv (lv' := [some (.ref (a 0)), some (.int c), some (.int (nI w)), some (.int (nI (5 - m))), none, none]) rfl ?_
  rcases hc with rfl | ⟨k, hk, rfl⟩
  ·
    refine z_iload_n X dX3_sumOf_0 rfl rfl ?_
    refine z_bipush (v := nI 6) X dX3_sumOf_1 (by decide) ?_
    refine z_callS1 (k := 0) (n := 0) (st := []) X (c_X3_isAmong_m l D t 6) k_X3_isAmong q_ml_X3_53 [] ⟨by decide, rfl⟩ (by omega) rfl rfl rfl (Nat.le_of_ble_eq_true rfl) ⟨Nat.zero_le _, Nat.zero_le _⟩ dX3_sumOf_3 (fun r3 h3 => ?_)
    subst h3
    refine n_if_eq (tgt := 15) X dX3_sumOf_6 (by decide) (by omega) (fun _ => ?_) (fun c6 => absurd c6 (by decide))
    refine z_iconst (v := nI 0) X dX3_sumOf_15 (by decide) ?_
    refine z_iret X Z rfl dX3_sumOf_16 ?_
    exact ⟨(), rfl, fun _ _ => trivial⟩
  ·
    refine z_iload_n X dX3_sumOf_0 rfl rfl ?_
    refine z_bipush (v := nI 6) X dX3_sumOf_1 (by decide) ?_
    refine z_callS1 (k := 0) (n := 0) (st := []) X (c_X3_isAmong l D t k 6 (by omega) (by decide)) k_X3_isAmong q_ml_X3_53 [] ⟨by decide, rfl⟩ (by omega) rfl rfl rfl (Nat.le_of_ble_eq_true rfl) ⟨Nat.zero_le _, Nat.zero_le _⟩ dX3_sumOf_3 (fun r3 h3 => ?_)
    rcases h3 with ⟨rfl, h3⟩ | ⟨rfl, h3⟩
    rotate_left
    · exact absurd (by omega) h3
    refine n_if_eq (tgt := 15) X dX3_sumOf_6 (by decide) (by omega) (fun c6 => absurd c6 (by decide)) (fun _ => ?_)
    refine z_iload_n X dX3_sumOf_9 rfl rfl ?_
    refine z_bipush (v := nI 6) X dX3_sumOf_10 (by decide) ?_
    refine n_icmp_lt (tgt := 17) X dX3_sumOf_12 (by decide) (by omega) (by omega) (fun c12 => ?_) (fun c12 => absurd c12 (by omega))
    refine z_aload_n X dX3_sumOf_17 rfl rfl ?_
    refine z_get X (C := RX3) (T := TX3) (N := 8) (ci := 3) (v := .ref (a 2)) inZ3 0 1 rfl rfl (by decide) q_fl_X3_19 rfl rfl dX3_sumOf_18 ?_
    refine z_get X (C := RX2) (T := TX2) (N := 4) (ci := 2) (v := .ref (a 18)) inZ2 2 0 rfl rfl (by decide) q_fl_X3_118 rfl rfl dX3_sumOf_21 ?_
    refine z_iload_n X dX3_sumOf_24 rfl rfl ?_
    refine n_iald (f := S 10) X 18 rfl (by omega) (by decide) dX3_sumOf_25 ?_
    refine z_aload_n X dX3_sumOf_26 rfl rfl ?_
    refine z_aload_n X dX3_sumOf_27 rfl rfl ?_
    refine z_get X (C := RX3) (T := TX3) (N := 8) (ci := 3) (v := .ref (a 2)) inZ3 0 1 rfl rfl (by decide) q_fl_X3_19 rfl rfl dX3_sumOf_28 ?_
    refine z_get X (C := RX2) (T := TX2) (N := 4) (ci := 2) (v := .ref (a 19)) inZ2 2 1 rfl rfl (by decide) q_fl_X3_121 rfl rfl dX3_sumOf_31 ?_
    refine z_iload_n X dX3_sumOf_34 rfl rfl ?_
    refine n_iald (f := S 11) X 19 rfl (by omega) (by decide) dX3_sumOf_35 ?_
    refine z_callV1 (k := 0) (n := 0) (st := [.int (S 10 k)]) X (c_X3_modifierOf l D t a S (S 11 k) (hI.2.2.2.2.2.1 k hk)) k_X3_modifierOf q_ml_X3_251 is24 ⟨by decide, rfl⟩ 0 3 rfl rfl (by omega) rfl rfl rfl (Nat.le_of_ble_eq_true rfl) ⟨Nat.zero_le _, Nat.zero_le _⟩ dX3_sumOf_36 (fun r36 h36 => ?_)
    subst h36
    refine z_iadd X dX3_sumOf_39 ?_
    refine z_aload_n X dX3_sumOf_40 rfl rfl ?_
    refine z_get X (C := RX3) (T := TX3) (N := 8) (ci := 3) (v := .ref (a 4)) inZ3 0 3 rfl rfl (by decide) q_fl_X3_30 rfl rfl dX3_sumOf_41 ?_
    refine z_aload_n X dX3_sumOf_44 rfl rfl ?_
    refine z_get X (C := RX3) (T := TX3) (N := 8) (ci := 3) (v := .ref (a 2)) inZ3 0 1 rfl rfl (by decide) q_fl_X3_19 rfl rfl dX3_sumOf_45 ?_
    refine z_get X (C := RX2) (T := TX2) (N := 4) (ci := 2) (v := .ref (a 20)) inZ2 2 2 rfl rfl (by decide) q_fl_X3_122 rfl rfl dX3_sumOf_48 ?_
    refine z_iload_n X dX3_sumOf_51 rfl rfl ?_
    refine n_iald (f := S 12) X 20 rfl (by omega) (by decide) dX3_sumOf_52 ?_
    refine z_callV1 (k := 0) (n := 0) (st := [.int ((S 10 k) + (md S (S 11 k)))]) X (c_X0_levelIn l D t (a 4) (a 22) (S 12 k) (S 18 0) (S 15) (hI.2.2.2.2.2.2.1 k hk)) k_X0_levelIn q_ml_X3_188 [4, 22] ⟨by decide, rfl⟩ 4 0 rfl rfl (by omega) rfl rfl rfl (Nat.le_of_ble_eq_true rfl) ⟨Nat.zero_le _, Nat.zero_le _⟩ dX3_sumOf_53 (fun r53 h53 => ?_)
    subst h53
    refine z_iadd X dX3_sumOf_56 ?_
    refine z_aload_n X dX3_sumOf_57 rfl rfl ?_
    refine z_aload_n X dX3_sumOf_58 rfl rfl ?_
    refine z_get X (C := RX3) (T := TX3) (N := 8) (ci := 3) (v := .ref (a 2)) inZ3 0 1 rfl rfl (by decide) q_fl_X3_19 rfl rfl dX3_sumOf_59 ?_
    refine z_get X (C := RX2) (T := TX2) (N := 4) (ci := 2) (v := .ref (a 21)) inZ2 2 3 rfl rfl (by decide) q_fl_X3_123 rfl rfl dX3_sumOf_62 ?_
    refine z_iload_n X dX3_sumOf_65 rfl rfl ?_
    refine n_iald (f := S 13) X 21 rfl (by omega) (by decide) dX3_sumOf_66 ?_
    refine z_iload_n X dX3_sumOf_67 rfl rfl ?_
    refine z_iload_n X dX3_sumOf_68 rfl rfl ?_
    refine z_iconst (v := nI 1) X dX3_sumOf_69 (by decide) ?_
    refine n_iadd X dX3_sumOf_70 ?_
    refine z_top (y := nI (6 - m)) (by congr 1; omega) ?_
    refine z_callV1 (k := 0) (n := 0) (st := [.int (((S 10 k) + (md S (S 11 k))) + (lvv (S 15) (S 12 k)))]) X (ih (S 13 k) (hI.2.2.2.2.2.2.2 k hk)) k_X3_sumOf q_ml_X3_204 is24 ⟨by decide, rfl⟩ 0 3 rfl rfl (by omega) rfl rfl rfl (Nat.le_of_ble_eq_true rfl) ⟨Nat.zero_le _, Nat.zero_le _⟩ dX3_sumOf_71 (fun r71 h71 => ?_)
    subst h71
    refine z_iconst (v := nI 2) X dX3_sumOf_74 (by decide) ?_
    refine z_callS1 (k := 0) (n := 0) (st := [.int (((S 10 k) + (md S (S 11 k))) + (lvv (S 15) (S 12 k)))]) X (c_J9_floorDiv_7cf53 l D t (vl S (S 15) w m (S 13 k))) k_J9_floorDiv_7cf53 q_ml_X3_233 [] ⟨by decide, rfl⟩ (by omega) rfl rfl rfl (Nat.le_of_ble_eq_true rfl) ⟨Nat.zero_le _, Nat.zero_le _⟩ dX3_sumOf_75 (fun r75 h75 => ?_)
    subst h75
    refine z_iadd X dX3_sumOf_78 ?_
    refine z_istore X dX3_sumOf_79 (Nat.le_of_ble_eq_true rfl) ?_
    refine z_lv (lv' := [some (.ref (a 0)), some (.int (nI k)), some (.int (nI w)), some (.int (nI (5 - m))), some (.int ((((S 10 k) + (md S (S 11 k))) + (lvv (S 15) (S 12 k))) + (hlf (vl S (S 15) w m (S 13 k))))), none]) rfl ?_
    refine z_iconst (v := nI 0) X dX3_sumOf_81 (by decide) ?_
    refine z_istore X dX3_sumOf_82 (Nat.le_of_ble_eq_true rfl) ?_
    refine z_lv (lv' := [some (.ref (a 0)), some (.int (nI k)), some (.int (nI w)), some (.int (nI (5 - m))), some (.int ((((S 10 k) + (md S (S 11 k))) + (lvv (S 15) (S 12 k))) + (hlf (vl S (S 15) w m (S 13 k))))), some (.int (nI 0))]) rfl ?_
    refine z_iload X dX3_sumOf_84 rfl ?_
    refine z_iconst (v := nI 4) X dX3_sumOf_86 (by decide) ?_
    refine n_icmp_ge (tgt := 109) X dX3_sumOf_87 (by decide) (by omega) (by omega) (fun c87 => absurd c87 (by decide)) (fun _ => ?_)
    refine z_iload X dX3_sumOf_90 rfl ?_
    refine z_aload_n X dX3_sumOf_92 rfl rfl ?_
    refine z_iload_n X dX3_sumOf_93 rfl rfl ?_
    refine z_iload_n X dX3_sumOf_94 rfl rfl ?_
    refine z_iload X dX3_sumOf_95 rfl ?_
    refine z_callV1 (k := 0) (n := 0) (st := [.int ((((S 10 k) + (md S (S 11 k))) + (lvv (S 15) (S 12 k))) + (hlf (vl S (S 15) w m (S 13 k))))]) X (c_X3_bonusFrom l D t a S w (nI k) (nI 0) hw) k_X3_bonusFrom q_ml_X3_210 is24 ⟨by decide, rfl⟩ 0 3 rfl rfl (by omega) rfl rfl rfl (Nat.le_of_ble_eq_true rfl) ⟨Nat.zero_le _, Nat.zero_le _⟩ dX3_sumOf_97 (fun r97 h97 => ?_)
    subst h97
    refine z_iadd X dX3_sumOf_100 ?_
    refine z_istore X dX3_sumOf_101 (Nat.le_of_ble_eq_true rfl) ?_
    refine z_lv (lv' := [some (.ref (a 0)), some (.int (nI k)), some (.int (nI w)), some (.int (nI (5 - m))), some (.int (((((S 10 k) + (md S (S 11 k))) + (lvv (S 15) (S 12 k))) + (hlf (vl S (S 15) w m (S 13 k)))) + (bn S w (nI k) (nI 0)))), some (.int (nI 0))]) rfl ?_
    refine z_iinc (v := nI 1) X dX3_sumOf_103 rfl (by decide) ?_
    refine z_lv (lv' := [some (.ref (a 0)), some (.int (nI k)), some (.int (nI w)), some (.int (nI (5 - m))), some (.int (((((S 10 k) + (md S (S 11 k))) + (lvv (S 15) (S 12 k))) + (hlf (vl S (S 15) w m (S 13 k)))) + (bn S w (nI k) (nI 0)))), some (.int (nI 1))]) rfl ?_
    refine z_goto (tgt := 84) X dX3_sumOf_106 (by decide) ?_
    refine z_iload X dX3_sumOf_84 rfl ?_
    refine z_iconst (v := nI 4) X dX3_sumOf_86 (by decide) ?_
    refine n_icmp_ge (tgt := 109) X dX3_sumOf_87 (by decide) (by omega) (by omega) (fun c87 => absurd c87 (by decide)) (fun _ => ?_)
    refine z_iload X dX3_sumOf_90 rfl ?_
    refine z_aload_n X dX3_sumOf_92 rfl rfl ?_
    refine z_iload_n X dX3_sumOf_93 rfl rfl ?_
    refine z_iload_n X dX3_sumOf_94 rfl rfl ?_
    refine z_iload X dX3_sumOf_95 rfl ?_
    refine z_callV1 (k := 0) (n := 0) (st := [.int (((((S 10 k) + (md S (S 11 k))) + (lvv (S 15) (S 12 k))) + (hlf (vl S (S 15) w m (S 13 k)))) + (bn S w (nI k) (nI 0)))]) X (c_X3_bonusFrom l D t a S w (nI k) (nI 1) hw) k_X3_bonusFrom q_ml_X3_210 is24 ⟨by decide, rfl⟩ 0 3 rfl rfl (by omega) rfl rfl rfl (Nat.le_of_ble_eq_true rfl) ⟨Nat.zero_le _, Nat.zero_le _⟩ dX3_sumOf_97 (fun r97 h97 => ?_)
    subst h97
    refine z_iadd X dX3_sumOf_100 ?_
    refine z_istore X dX3_sumOf_101 (Nat.le_of_ble_eq_true rfl) ?_
    refine z_lv (lv' := [some (.ref (a 0)), some (.int (nI k)), some (.int (nI w)), some (.int (nI (5 - m))), some (.int ((((((S 10 k) + (md S (S 11 k))) + (lvv (S 15) (S 12 k))) + (hlf (vl S (S 15) w m (S 13 k)))) + (bn S w (nI k) (nI 0))) + (bn S w (nI k) (nI 1)))), some (.int (nI 1))]) rfl ?_
    refine z_iinc (v := nI 2) X dX3_sumOf_103 rfl (by decide) ?_
    refine z_lv (lv' := [some (.ref (a 0)), some (.int (nI k)), some (.int (nI w)), some (.int (nI (5 - m))), some (.int ((((((S 10 k) + (md S (S 11 k))) + (lvv (S 15) (S 12 k))) + (hlf (vl S (S 15) w m (S 13 k)))) + (bn S w (nI k) (nI 0))) + (bn S w (nI k) (nI 1)))), some (.int (nI 2))]) rfl ?_
    refine z_goto (tgt := 84) X dX3_sumOf_106 (by decide) ?_
    refine z_iload X dX3_sumOf_84 rfl ?_
    refine z_iconst (v := nI 4) X dX3_sumOf_86 (by decide) ?_
    refine n_icmp_ge (tgt := 109) X dX3_sumOf_87 (by decide) (by omega) (by omega) (fun c87 => absurd c87 (by decide)) (fun _ => ?_)
    refine z_iload X dX3_sumOf_90 rfl ?_
    refine z_aload_n X dX3_sumOf_92 rfl rfl ?_
    refine z_iload_n X dX3_sumOf_93 rfl rfl ?_
    refine z_iload_n X dX3_sumOf_94 rfl rfl ?_
    refine z_iload X dX3_sumOf_95 rfl ?_
    refine z_callV1 (k := 0) (n := 0) (st := [.int ((((((S 10 k) + (md S (S 11 k))) + (lvv (S 15) (S 12 k))) + (hlf (vl S (S 15) w m (S 13 k)))) + (bn S w (nI k) (nI 0))) + (bn S w (nI k) (nI 1)))]) X (c_X3_bonusFrom l D t a S w (nI k) (nI 2) hw) k_X3_bonusFrom q_ml_X3_210 is24 ⟨by decide, rfl⟩ 0 3 rfl rfl (by omega) rfl rfl rfl (Nat.le_of_ble_eq_true rfl) ⟨Nat.zero_le _, Nat.zero_le _⟩ dX3_sumOf_97 (fun r97 h97 => ?_)
    subst h97
    refine z_iadd X dX3_sumOf_100 ?_
    refine z_istore X dX3_sumOf_101 (Nat.le_of_ble_eq_true rfl) ?_
    refine z_lv (lv' := [some (.ref (a 0)), some (.int (nI k)), some (.int (nI w)), some (.int (nI (5 - m))), some (.int (((((((S 10 k) + (md S (S 11 k))) + (lvv (S 15) (S 12 k))) + (hlf (vl S (S 15) w m (S 13 k)))) + (bn S w (nI k) (nI 0))) + (bn S w (nI k) (nI 1))) + (bn S w (nI k) (nI 2)))), some (.int (nI 2))]) rfl ?_
    refine z_iinc (v := nI 3) X dX3_sumOf_103 rfl (by decide) ?_
    refine z_lv (lv' := [some (.ref (a 0)), some (.int (nI k)), some (.int (nI w)), some (.int (nI (5 - m))), some (.int (((((((S 10 k) + (md S (S 11 k))) + (lvv (S 15) (S 12 k))) + (hlf (vl S (S 15) w m (S 13 k)))) + (bn S w (nI k) (nI 0))) + (bn S w (nI k) (nI 1))) + (bn S w (nI k) (nI 2)))), some (.int (nI 3))]) rfl ?_
    refine z_goto (tgt := 84) X dX3_sumOf_106 (by decide) ?_
    refine z_iload X dX3_sumOf_84 rfl ?_
    refine z_iconst (v := nI 4) X dX3_sumOf_86 (by decide) ?_
    refine n_icmp_ge (tgt := 109) X dX3_sumOf_87 (by decide) (by omega) (by omega) (fun c87 => absurd c87 (by decide)) (fun _ => ?_)
    refine z_iload X dX3_sumOf_90 rfl ?_
    refine z_aload_n X dX3_sumOf_92 rfl rfl ?_
    refine z_iload_n X dX3_sumOf_93 rfl rfl ?_
    refine z_iload_n X dX3_sumOf_94 rfl rfl ?_
    refine z_iload X dX3_sumOf_95 rfl ?_
    refine z_callV1 (k := 0) (n := 0) (st := [.int (((((((S 10 k) + (md S (S 11 k))) + (lvv (S 15) (S 12 k))) + (hlf (vl S (S 15) w m (S 13 k)))) + (bn S w (nI k) (nI 0))) + (bn S w (nI k) (nI 1))) + (bn S w (nI k) (nI 2)))]) X (c_X3_bonusFrom l D t a S w (nI k) (nI 3) hw) k_X3_bonusFrom q_ml_X3_210 is24 ⟨by decide, rfl⟩ 0 3 rfl rfl (by omega) rfl rfl rfl (Nat.le_of_ble_eq_true rfl) ⟨Nat.zero_le _, Nat.zero_le _⟩ dX3_sumOf_97 (fun r97 h97 => ?_)
    subst h97
    refine z_iadd X dX3_sumOf_100 ?_
    refine z_istore X dX3_sumOf_101 (Nat.le_of_ble_eq_true rfl) ?_
    refine z_lv (lv' := [some (.ref (a 0)), some (.int (nI k)), some (.int (nI w)), some (.int (nI (5 - m))), some (.int ((((((((S 10 k) + (md S (S 11 k))) + (lvv (S 15) (S 12 k))) + (hlf (vl S (S 15) w m (S 13 k)))) + (bn S w (nI k) (nI 0))) + (bn S w (nI k) (nI 1))) + (bn S w (nI k) (nI 2))) + (bn S w (nI k) (nI 3)))), some (.int (nI 3))]) rfl ?_
    refine z_iinc (v := nI 4) X dX3_sumOf_103 rfl (by decide) ?_
    refine z_lv (lv' := [some (.ref (a 0)), some (.int (nI k)), some (.int (nI w)), some (.int (nI (5 - m))), some (.int ((((((((S 10 k) + (md S (S 11 k))) + (lvv (S 15) (S 12 k))) + (hlf (vl S (S 15) w m (S 13 k)))) + (bn S w (nI k) (nI 0))) + (bn S w (nI k) (nI 1))) + (bn S w (nI k) (nI 2))) + (bn S w (nI k) (nI 3)))), some (.int (nI 4))]) rfl ?_
    refine z_goto (tgt := 84) X dX3_sumOf_106 (by decide) ?_
    refine z_iload X dX3_sumOf_84 rfl ?_
    refine z_iconst (v := nI 4) X dX3_sumOf_86 (by decide) ?_
    refine n_icmp_ge (tgt := 109) X dX3_sumOf_87 (by decide) (by omega) (by omega) (fun _ => ?_) (fun c87 => absurd c87 (by decide))
    refine z_iload X dX3_sumOf_109 rfl ?_
    refine z_iret X Z rfl dX3_sumOf_111 ?_
    exact ⟨(), by
        show _ = if nI k = -1 then _ else _
        rw [if_neg (zn_m1 k (by omega)), nI_clamp (by omega)], fun _ _ => trivial⟩
theorem c_X3_sumOf (l : Launch) (D : va_G) (t : ClassId × ClassId × ClassId) (a : Nat → Nat) (S : zS) (w : Nat) (hw : w < 256) (hI : zI S) : ∀ m, m ≤ 6 → ∀ c, zo c 6 → zM1 l yX3_sumOf cX3_sumOf 6 (some .int) (m + 2) D t [.ref (a 0), .int c, .int (nI w), .int (nI (6 - m))] (wR t a S) (fun r => r = vl S (S 15) w m c)
  | 0, _, c, hc => c_X3_sumOf_0 l D t a S w hw hI c hc
  | m + 1, hm, c, hc => by
    have h := c_X3_sumOf_s l D t a S w hw hI m (by omega) (fun c hc => c_X3_sumOf l D t a S w hw hI m (by omega) c hc) c hc
    rw [show 5 - m = 6 - (m + 1) by omega] at h
    exact h
set_option maxHeartbeats 4000000 in
set_option maxRecDepth 100000 in
theorem c_X3_leadsIntoRing (l : Launch) (D : va_G) (t : ClassId × ClassId × ClassId) (a : Nat → Nat) (S : zS) (v : Nat) (hv : v < 6) (hI : zI S) : zM1 l yX3_leadsIntoRing cX3_leadsIntoRing 4 (some .boolean) 1 D t [.ref (a 0), .int (nI v)] (wR t a S) (fun r => bz r (¬ ch S (nI v) 6 = -1)) := by
  refine z_m1 (by decide +kernel) (Nat.le_of_ble_eq_true rfl) (by simp [Value.category]) ?_
  intro E X Z
  refine z_lv (lv' := [some (.ref (a 0)), some (.int (nI v)), none, none]) rfl ?_
  refine z_iload_n X dX3_leadsIntoRing_0 rfl rfl ?_
  refine z_istore_n X dX3_leadsIntoRing_1 rfl (Nat.le_of_ble_eq_true rfl) ?_
  refine z_lv (lv' := [some (.ref (a 0)), some (.int (nI v)), some (.int (nI v)), none]) rfl ?_
  refine z_iconst (v := nI 0) X dX3_leadsIntoRing_2 (by decide) ?_
  refine z_istore_n X dX3_leadsIntoRing_3 rfl (Nat.le_of_ble_eq_true rfl) ?_
  refine z_lv (lv' := [some (.ref (a 0)), some (.int (nI v)), some (.int (nI v)), some (.int (nI 0))]) rfl ?_
  refine z_lv (lv' := [some (.ref (a 0)), some (.int (nI v)), some (.int (ch S (nI v) 0)), some (.int (nI 0))]) rfl ?_
  refine zl_up 6 (fun i => Wz E 0 0 4 [some (.ref (a 0)), some (.int (nI v)), some (.int (ch S (nI v) i)), some (.int (nI i))] [] (wR t a S)) ?_ ?_ 0 (by omega)
  ·
    refine z_iload_n X dX3_leadsIntoRing_4 rfl rfl ?_
    refine z_bipush (v := nI 6) X dX3_leadsIntoRing_5 (by decide) ?_
    refine n_icmp_ge (tgt := 35) X dX3_leadsIntoRing_7 (by decide) (by omega) (by omega) (fun _ => ?_) (fun c7 => absurd c7 (by decide))
    rcases ch_zo hI.2.2.2.2.2.2.2 (Or.inr ⟨v, hv, rfl⟩) 6 with h0 | ⟨k, hk, h0⟩
    ·
      rw [h0]
      refine z_iload_n X dX3_leadsIntoRing_35 rfl rfl ?_
      refine z_bipush (v := nI 6) X dX3_leadsIntoRing_36 (by decide) ?_
      refine z_callS1 (k := 0) (n := 0) (st := []) X (c_X3_isAmong_m l D t 6) k_X3_isAmong q_ml_X3_53 [] ⟨by decide, rfl⟩ (by decide) rfl rfl rfl (Nat.le_of_ble_eq_true rfl) ⟨Nat.zero_le _, Nat.zero_le _⟩ dX3_leadsIntoRing_38 (fun r38 h38 => ?_)
      subst h38
      refine z_iret X Z (by decide +kernel) dX3_leadsIntoRing_41 ?_
      exact ⟨(), bz_f (fun h => h h0), fun _ _ => trivial⟩
    ·
      rw [h0]
      refine z_iload_n X dX3_leadsIntoRing_35 rfl rfl ?_
      refine z_bipush (v := nI 6) X dX3_leadsIntoRing_36 (by decide) ?_
      refine z_callS1 (k := 0) (n := 0) (st := []) X (c_X3_isAmong l D t k 6 (by omega) (by decide)) k_X3_isAmong q_ml_X3_53 [] ⟨by decide, rfl⟩ (by decide) rfl rfl rfl (Nat.le_of_ble_eq_true rfl) ⟨Nat.zero_le _, Nat.zero_le _⟩ dX3_leadsIntoRing_38 (fun r38 h38 => ?_)
      rcases h38 with ⟨rfl, h38⟩ | ⟨rfl, h38⟩
      rotate_left
      · exact absurd (by omega) h38
      refine z_iret X Z (by decide +kernel) dX3_leadsIntoRing_41 ?_
      exact ⟨(), bz_t (by rw [h0]; exact zn_m1 k (by omega)), fun _ _ => trivial⟩
  ·
    intro i hi ih
    refine z_iload_n X dX3_leadsIntoRing_4 rfl rfl ?_
    refine z_bipush (v := nI 6) X dX3_leadsIntoRing_5 (by decide) ?_
    refine n_icmp_ge (tgt := 35) X dX3_leadsIntoRing_7 (by decide) (by omega) (by omega) (fun c7 => absurd c7 (by omega)) (fun _ => ?_)
    rcases ch_zo hI.2.2.2.2.2.2.2 (Or.inr ⟨v, hv, rfl⟩) i with h0 | ⟨k, hk, h0⟩
    ·
      rw [h0]
      refine z_iload_n X dX3_leadsIntoRing_10 rfl rfl ?_
      refine z_bipush (v := nI 6) X dX3_leadsIntoRing_11 (by decide) ?_
      refine z_callS1 (k := 0) (n := 0) (st := []) X (c_X3_isAmong_m l D t 6) k_X3_isAmong q_ml_X3_53 [] ⟨by decide, rfl⟩ (by decide) rfl rfl rfl (Nat.le_of_ble_eq_true rfl) ⟨Nat.zero_le _, Nat.zero_le _⟩ dX3_leadsIntoRing_13 (fun r13 h13 => ?_)
      subst h13
      refine n_if_eq (tgt := 35) X dX3_leadsIntoRing_16 (by decide) (by omega) (fun _ => ?_) (fun c16 => absurd c16 (by decide))
      refine z_iload_n X dX3_leadsIntoRing_35 rfl rfl ?_
      refine z_bipush (v := nI 6) X dX3_leadsIntoRing_36 (by decide) ?_
      refine z_callS1 (k := 0) (n := 0) (st := []) X (c_X3_isAmong_m l D t 6) k_X3_isAmong q_ml_X3_53 [] ⟨by decide, rfl⟩ (by decide) rfl rfl rfl (Nat.le_of_ble_eq_true rfl) ⟨Nat.zero_le _, Nat.zero_le _⟩ dX3_leadsIntoRing_38 (fun r38 h38 => ?_)
      subst h38
      refine z_iret X Z (by decide +kernel) dX3_leadsIntoRing_41 ?_
      exact ⟨(), bz_f (fun h => h (by have q := ch_m h0 (6 - i); rw [show i + (6 - i) = 6 by omega] at q; exact q)), fun _ _ => trivial⟩
    ·
      rw [h0]
      refine z_iload_n X dX3_leadsIntoRing_10 rfl rfl ?_
      refine z_bipush (v := nI 6) X dX3_leadsIntoRing_11 (by decide) ?_
      refine z_callS1 (k := 0) (n := 0) (st := []) X (c_X3_isAmong l D t k 6 (by omega) (by decide)) k_X3_isAmong q_ml_X3_53 [] ⟨by decide, rfl⟩ (by decide) rfl rfl rfl (Nat.le_of_ble_eq_true rfl) ⟨Nat.zero_le _, Nat.zero_le _⟩ dX3_leadsIntoRing_13 (fun r13 h13 => ?_)
      rcases h13 with ⟨rfl, h13⟩ | ⟨rfl, h13⟩
      rotate_left
      · exact absurd (by omega) h13
      refine n_if_eq (tgt := 35) X dX3_leadsIntoRing_16 (by decide) (by omega) (fun c16 => absurd c16 (by decide)) (fun _ => ?_)
      refine z_aload_n X dX3_leadsIntoRing_19 rfl rfl ?_
      refine z_get X (C := RX3) (T := TX3) (N := 8) (ci := 3) (v := .ref (a 2)) inZ3 0 1 rfl rfl (by decide) q_fl_X3_19 rfl rfl dX3_leadsIntoRing_20 ?_
      refine z_get X (C := RX2) (T := TX2) (N := 4) (ci := 2) (v := .ref (a 21)) inZ2 2 3 rfl rfl (by decide) q_fl_X3_123 rfl rfl dX3_leadsIntoRing_23 ?_
      refine z_iload_n X dX3_leadsIntoRing_26 rfl rfl ?_
      refine n_iald (f := S 13) X 21 rfl (by omega) (by decide) dX3_leadsIntoRing_27 ?_
      refine z_top (y := ch S (nI v) (i + 1)) ((ch_s h0 (by omega)).symm) ?_
      refine z_istore_n X dX3_leadsIntoRing_28 rfl (Nat.le_of_ble_eq_true rfl) ?_
      refine z_lv (lv' := [some (.ref (a 0)), some (.int (nI v)), some (.int (ch S (nI v) (i + 1))), some (.int (nI i))]) rfl ?_
      refine z_iinc (v := nI (i + 1)) X dX3_leadsIntoRing_29 rfl (nI_add i 1) ?_
      refine z_lv (lv' := [some (.ref (a 0)), some (.int (nI v)), some (.int (ch S (nI v) (i + 1))), some (.int (nI (i + 1)))]) rfl ?_
      refine z_goto (tgt := 4) X dX3_leadsIntoRing_32 (by decide) ?_
      exact ih
set_option maxHeartbeats 4000000 in
set_option maxRecDepth 100000 in
theorem c_X3_stepCount (l : Launch) (D : va_G) (t : ClassId × ClassId × ClassId) (a : Nat → Nat) (S : zS) (m h : Nat) (h17 : S 17 0 = nI m) (h18 : S 18 0 = nI h) (hh : h < 256) : zM1 l yX3_stepCount cX3_stepCount 1 (some .int) 2 D t [.ref (a 0)] (wR t a S) (fun r => r = nI (m + p8 h)) := by
  refine z_m1 (by decide +kernel) (Nat.le_of_ble_eq_true rfl) (by simp [Value.category]) ?_
  intro E X Z
  refine z_lv (lv' := [some (.ref (a 0))]) rfl ?_
  refine z_aload_n X dX3_stepCount_0 rfl rfl ?_
  refine z_get X (C := RX3) (T := TX3) (N := 8) (ci := 3) (v := .int (S 17 0)) inZ3 0 5 rfl rfl (by decide) q_fl_X3_37 rfl rfl dX3_stepCount_1 ?_
  refine z_top (y := nI m) (h17) ?_
  refine z_aload_n X dX3_stepCount_4 rfl rfl ?_
  refine z_get X (C := RX3) (T := TX3) (N := 8) (ci := 3) (v := .ref (a 4)) inZ3 0 3 rfl rfl (by decide) q_fl_X3_30 rfl rfl dX3_stepCount_5 ?_
  refine z_callV1 (k := 0) (n := 0) (st := [.int (nI m)]) X (c_X0_heldCount l D t (a 4) (a 22) h (S 18 0) (S 15) h18 (by omega)) k_X0_heldCount q_ml_X3_158 [4, 22] ⟨by decide, rfl⟩ 4 0 rfl rfl (by decide) rfl rfl rfl (Nat.le_of_ble_eq_true rfl) ⟨Nat.zero_le _, Nat.zero_le _⟩ dX3_stepCount_8 (fun r8 h8 => ?_)
  subst h8
  refine n_iadd X dX3_stepCount_11 ?_
  refine z_iret X Z rfl dX3_stepCount_12 ?_
  exact ⟨(), rfl, fun _ _ => trivial⟩
