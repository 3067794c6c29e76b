theorem wkN_T3 {S : zS} {x y z s : Nat} {e f : Nat → Int32} {g : Nat} : ∀ n, wkN (T3 S x y z s e) f g n = wkN S f g n
  | 0 => rfl
  | n + 1 => by
    show wks (T3 S x y z s e) f g (wkN (T3 S x y z s e) f g n) (n % 8) = wks S f g (wkN S f g n) (n % 8)
    rw [wkN_T3 n]; rfl
/-- one gift exchanged for another -/
def exN (G k j : Nat) : Nat := dif G (2 ^ k) ||| 2 ^ j
theorem exN_lt {G k j : Nat} (hG : G < 256) (hj : j < 8) : exN G k j < 256 := zn_or8 _ (Nat.lt_of_le_of_lt (dif_le _ _) hG) j hj
/-- gifts that stop working -/
noncomputable def faN (S : zS) (f : Nat → Int32) (G k j : Nat) : Nat := dif (dif (wk S f G) (wk S f (exN G k j))) (2 ^ k)
theorem faN_lt {S : zS} {f : Nat → Int32} {G k j : Nat} : faN S f G k j < 256 := Nat.lt_of_le_of_lt (Nat.le_trans (dif_le _ _) (dif_le _ _)) (wkN_lt 64)
/-- the gifts that may be taken now, among the first n -/
noncomputable def opN (S : zS) (x y z G : Nat) : Nat → Nat
  | 0 => 0
  | j + 1 => zif (mt S x y z G j) (opN S x y z G j ||| 2 ^ j) (opN S x y z G j)
theorem opN_lt {S : zS} {x y z G : Nat} : ∀ j, j ≤ 8 → opN S x y z G j < 256
  | 0, _ => Nat.le_of_ble_eq_true rfl
  | j + 1, h => by
    show zif _ _ _ < 256
    by_cases q : mt S x y z G j
    · rw [zif_t q]; exact zn_or8 _ (opN_lt j (by omega)) j (by omega)
    · rw [zif_f q]; exact opN_lt j (by omega)
theorem rem_all {X Y Z G : Nat} : rem X Y Z G 0 0 0 0 = X + Y + Z + p8 G := by unfold rem; simp [pcN]
theorem inB_0 {X Y Z G : Nat} : inB X Y Z G 0 0 0 0 := ⟨Nat.zero_le _, Nat.zero_le _, Nat.zero_le _, fun i h => by rw [Nat.zero_testBit] at h; cases h⟩
section
variable {t : ClassId × ClassId × ClassId} {a : Nat → Nat} {S : zS} {f : Nat → Int32} {v : Int32}
end
set_option maxHeartbeats 4000000 in
set_option maxRecDepth 100000 in
theorem c_X3_gifts (l : Launch) (D : va_G) (t : ClassId × ClassId × ClassId) (a : Nat → Nat) (S : zS) : zM1 l yX3_gifts cX3_gifts 1 (some .int) 2 D t [.ref (a 0)] (wR t a S) (fun r => r = S 18 0) := by
  refine z_m1 (by decide +kernel) (Nat.le_of_ble_eq_true rfl) (by simp [Value.category]) ?_
  intro E X Z
  refine z_lv (lv' := [some (.ref (a 0))]) rfl ?_
  refine z_aload_n X dX3_gifts_0 rfl rfl ?_
  refine z_get X (C := RX3) (T := TX3) (N := 8) (ci := 3) (v := .ref (a 4)) inZ3 0 3 rfl rfl (by decide) q_fl_X3_30 rfl rfl dX3_gifts_1 ?_
  refine z_get X (C := RX0) (T := TX0) (N := 2) (ci := 0) (v := .int (S 18 0)) inZ0 4 1 rfl rfl (by decide) q_fl_X3_155 rfl rfl dX3_gifts_4 ?_
  refine z_iret X Z rfl dX3_gifts_7 ?_
  exact ⟨(), rfl, fun _ _ => trivial⟩
set_option maxHeartbeats 4000000 in
set_option maxRecDepth 100000 in
theorem c_X3_working (l : Launch) (D : va_G) (t : ClassId × ClassId × ClassId) (a : Nat → Nat) (S : zS) (G : Nat) (h18 : S 18 0 = nI G) (hG : G < 256) (hI : zI S) : zM1 l yX3_working cX3_working 1 (some .int) 2 D t [.ref (a 0)] (wR t a S) (fun r => r = nI (wk S (S 15) G)) := by
  refine z_m1 (by decide +kernel) (Nat.le_of_ble_eq_true rfl) (by simp [Value.category]) ?_
  intro E X Z
  refine z_lv (lv' := [some (.ref (a 0))]) rfl ?_
  refine z_aload_n X dX3_working_0 rfl rfl ?_
  refine z_aload_n X dX3_working_1 rfl rfl ?_
  refine z_get X (C := RX3) (T := TX3) (N := 8) (ci := 3) (v := .ref (a 4)) inZ3 0 3 rfl rfl (by decide) q_fl_X3_30 rfl rfl dX3_working_2 ?_
  refine z_get X (C := RX0) (T := TX0) (N := 2) (ci := 0) (v := .int (S 18 0)) inZ0 4 1 rfl rfl (by decide) q_fl_X3_155 rfl rfl dX3_working_5 ?_
  refine z_top (y := nI G) (h18) ?_
  refine z_callV1 (k := 0) (n := 0) (st := []) X (c_X3_workingAmong l D t a S G (by omega) hI) k_X3_workingAmong q_ml_X3_174 is24 ⟨by decide, rfl⟩ 0 3 rfl rfl (by decide) rfl rfl rfl (Nat.le_of_ble_eq_true rfl) ⟨Nat.zero_le _, Nat.zero_le _⟩ dX3_working_8 (fun r8 h8 => ?_)
  subst h8
  refine z_iret X Z rfl dX3_working_11 ?_
  exact ⟨(), rfl, fun _ _ => trivial⟩
set_option maxHeartbeats 4000000 in
set_option maxRecDepth 100000 in
theorem c_X3_places (l : Launch) (D : va_G) (t : ClassId × ClassId × ClassId) (a : Nat → Nat) (S : zS) (x y z : Nat) (h15 : S 15 = l3 x y z) (hX : x + y + z ≤ 8) : zM1 l yX3_places cX3_places 1 (some .int) 2 D t [.ref (a 0)] (wR t a S) (fun r => r = nI (1 + (x + y + z) / 2)) := by
  refine z_m1 (by decide +kernel) (Nat.le_of_ble_eq_true rfl) (by simp [Value.category]) ?_
  intro E X Z
  refine z_lv (lv' := [some (.ref (a 0))]) rfl ?_
  refine z_aload_n X dX3_places_0 rfl rfl ?_
  refine z_get X (C := RX3) (T := TX3) (N := 8) (ci := 3) (v := .ref (a 4)) inZ3 0 3 rfl rfl (by decide) q_fl_X3_30 rfl rfl dX3_places_1 ?_
  refine z_callV1 (k := 0) (n := 0) (st := []) X (c_X0_levelInAll l D t (a 4) (a 22) x y z (S 18 0) (S 15) h15) k_X0_levelInAll q_ml_X3_191 [4, 22] ⟨by decide, rfl⟩ 4 0 rfl rfl (by decide) rfl rfl rfl (Nat.le_of_ble_eq_true rfl) ⟨Nat.zero_le _, Nat.zero_le _⟩ dX3_places_4 (fun r4 h4 => ?_)
  subst h4
  refine z_callS1 (k := 0) (n := 0) (st := []) X (c_X3_placesAt l D t (x + y + z) (by omega)) k_X3_placesAt q_ml_X3_194 [] ⟨by decide, rfl⟩ (by decide) rfl rfl rfl (Nat.le_of_ble_eq_true rfl) ⟨Nat.zero_le _, Nat.zero_le _⟩ dX3_places_7 (fun r7 h7 => ?_)
  subst h7
  refine z_iret X Z rfl dX3_places_10 ?_
  exact ⟨(), rfl, fun _ _ => trivial⟩
set_option maxHeartbeats 4000000 in
set_option maxRecDepth 100000 in
theorem c_X3_points (l : Launch) (D : va_G) (t : ClassId × ClassId × ClassId) (a : Nat → Nat) (S : zS) (sc : Nat → Nat) (hsc : zSc S sc) (hc : cs4 sc ≤ 20) : zM1 l yX3_points cX3_points 1 (some .int) 4 D t [.ref (a 0)] (wR t a S) (fun r => r = nI (20 - cs4 sc)) := by
  refine z_m1 (by decide +kernel) (Nat.le_of_ble_eq_true rfl) (by simp [Value.category]) ?_
  intro E X Z
  refine z_lv (lv' := [some (.ref (a 0))]) rfl ?_
  refine z_aload_n X dX3_points_0 rfl rfl ?_
  refine z_callV1 (k := 0) (n := 0) (st := []) X (c_X3_pointsLeft l D t a S sc hsc hc) k_X3_pointsLeft q_ml_X3_126 is24 ⟨by decide, rfl⟩ 0 3 rfl rfl (by decide) rfl rfl rfl (Nat.le_of_ble_eq_true rfl) ⟨Nat.zero_le _, Nat.zero_le _⟩ dX3_points_1 (fun r1 h1 => ?_)
  subst h1
  refine z_iret X Z rfl dX3_points_4 ?_
  exact ⟨(), rfl, fun _ _ => trivial⟩
set_option maxHeartbeats 4000000 in
set_option maxRecDepth 100000 in
theorem c_X3_open (l : Launch) (D : va_G) (t : ClassId × ClassId × ClassId) (a : Nat → Nat) (S : zS) (x y z G : Nat) (h15 : S 15 = l3 x y z) (h18 : S 18 0 = nI G) (hG : G < 256) (hX : x + y + z ≤ 8) (hI : zI S) : zM1 l yX3_open cX3_open 3 (some .int) 4 D t [.ref (a 0)] (wR t a S) (fun r => r = nI (opN S x y z G 8)) := by
  refine z_m1 (by decide +kernel) (Nat.le_of_ble_eq_true rfl) (by simp [Value.category]) ?_
  intro E X Z
  refine z_lv (lv' := [some (.ref (a 0)), none, none]) rfl ?_
  refine z_iconst (v := nI 0) X dX3_open_0 (by decide) ?_
  refine z_istore_n X dX3_open_1 rfl (Nat.le_of_ble_eq_true rfl) ?_
  refine z_lv (lv' := [some (.ref (a 0)), some (.int (nI 0)), none]) rfl ?_
  refine z_iconst (v := nI 0) X dX3_open_2 (by decide) ?_
  refine z_istore_n X dX3_open_3 rfl (Nat.le_of_ble_eq_true rfl) ?_
  refine z_lv (lv' := [some (.ref (a 0)), some (.int (nI 0)), some (.int (nI 0))]) rfl ?_
  refine Wz.less (lv' := [some (.ref (a 0)), some (.int (nI (opN S x y z G 0))), some (.int (nI 0))]) (by simp [zle] <;> rfl) ?_
  refine zl_up 8 (fun j => Wz E 0 0 4 [some (.ref (a 0)), some (.int (nI (opN S x y z G j))), some (.int (nI j))] [] (wR t a S)) ?_ ?_ 0 (by omega)
  ·
    refine z_iload_n X dX3_open_4 rfl rfl ?_
    refine z_bipush (v := nI 8) X dX3_open_5 (by decide) ?_
    refine n_icmp_ge (tgt := 34) X dX3_open_7 (by decide) (by omega) (by omega) (fun _ => ?_) (fun c7 => absurd c7 (by decide))
    refine z_iload_n X dX3_open_34 rfl rfl ?_
    refine z_iret X Z rfl dX3_open_35 ?_
    exact ⟨(), rfl, fun _ _ => trivial⟩
  ·
    intro j hj ihj
    refine z_iload_n X dX3_open_4 rfl rfl ?_
    refine z_bipush (v := nI 8) X dX3_open_5 (by decide) ?_
    refine n_icmp_ge (tgt := 34) X dX3_open_7 (by decide) (by omega) (by omega) (fun c7 => absurd c7 (by omega)) (fun _ => ?_)
    refine z_aload_n X dX3_open_10 rfl rfl ?_
    refine z_aload_n X dX3_open_11 rfl rfl ?_
    refine z_get X (C := RX3) (T := TX3) (N := 8) (ci := 3) (v := .ref (a 4)) inZ3 0 3 rfl rfl (by decide) q_fl_X3_30 rfl rfl dX3_open_12 ?_
    refine z_iload_n X dX3_open_15 rfl rfl ?_
    refine z_callV1 (k := 0) (n := 0) (st := []) X (c_X3_mayTakeC l D t a S x y z G j h15 h18 hG hX (by omega) hI) k_X3_mayTake q_ml_X3_149 is24 ⟨by decide, rfl⟩ 0 3 rfl rfl (by decide) rfl rfl rfl (Nat.le_of_ble_eq_true rfl) ⟨Nat.zero_le _, Nat.zero_le _⟩ dX3_open_16 (fun r16 h16 => ?_)
    rcases h16 with ⟨rfl, h16⟩ | ⟨rfl, h16⟩
    ·
      refine n_if_eq (tgt := 28) X dX3_open_19 (by decide) (by omega) (fun c19 => absurd c19 (by decide)) (fun _ => ?_)
      refine z_iload_n X dX3_open_22 rfl rfl ?_
      refine z_iconst (v := nI 1) X dX3_open_23 (by decide) ?_
      refine z_iload_n X dX3_open_24 rfl rfl ?_
      refine n_ishl1 X dX3_open_25 (by omega) ?_
      refine n_ior X dX3_open_26 ?_
      refine z_istore_n X dX3_open_27 rfl (Nat.le_of_ble_eq_true rfl) ?_
      refine z_lv (lv' := [some (.ref (a 0)), some (.int (nI ((opN S x y z G j) ||| (2 ^ j)))), some (.int (nI j))]) rfl ?_
      refine z_iinc (v := nI (j + 1)) X dX3_open_28 rfl (nI_add j 1) ?_
      refine z_lv (lv' := [some (.ref (a 0)), some (.int (nI ((opN S x y z G j) ||| (2 ^ j)))), some (.int (nI (j + 1)))]) rfl ?_
      refine z_goto (tgt := 4) X dX3_open_31 (by decide) ?_
      have e9 : opN S x y z G (j + 1) = (opN S x y z G j) ||| (2 ^ j) := by first | exact zif_t h16 | exact zif_f h16
      rw [← e9]
      exact ihj
    ·
      refine n_if_eq (tgt := 28) X dX3_open_19 (by decide) (by omega) (fun _ => ?_) (fun c19 => absurd c19 (by decide))
      refine z_iinc (v := nI (j + 1)) X dX3_open_28 rfl (nI_add j 1) ?_
      refine z_lv (lv' := [some (.ref (a 0)), some (.int (nI (opN S x y z G j))), some (.int (nI (j + 1)))]) rfl ?_
      refine z_goto (tgt := 4) X dX3_open_31 (by decide) ?_
      have e9 : opN S x y z G (j + 1) = opN S x y z G j := by first | exact zif_t h16 | exact zif_f h16
      rw [← e9]
      exact ihj
set_option maxHeartbeats 4000000 in
set_option maxRecDepth 100000 in
theorem c_X3_level (l : Launch) (hfl : l.stackTraces = false) (D : va_G) (t : ClassId × ClassId × ClassId) (sz : Nat) (a : Nat → Nat) (S : zS) (c : Int32) : zM4 l yX3_level cX3_level 2 (some .int) 20 D t [.ref (a 0), .int c] (wR t a S) sz (fun r (u : Nat) => u < 3 ∧ c = nI u ∧ r = S 15 u) (fun _ => wR t a S) (fun E (_ : Unit) => E = eI ∧ ¬ am c 3) (fun _ => wR t a S) := by
  refine z_m4 hfl (by decide +kernel) (Nat.le_of_ble_eq_true rfl) (by simp [Value.category]) ?_
  intro E X Z V Y
  refine z_lv (lv' := [some (.ref (a 0)), some (.int c)]) rfl ?_
  refine z_iload_n X dX3_level_0 rfl rfl ?_
  refine z_iconst (v := nI 3) X dX3_level_1 (by decide) ?_
  refine z_callS1 (k := 0) (n := 0) (st := []) X (c_X3_isAmong_g l D t c 3 (by decide)) k_X3_isAmong q_ml_X3_53 [] ⟨by decide, rfl⟩ (by decide) rfl rfl rfl (Nat.le_of_ble_eq_true rfl) ⟨Nat.zero_le _, Nat.zero_le _⟩ dX3_level_2 (fun r2 h2 => ?_)
  rcases h2 with ⟨rfl, kc, hkc, rfl⟩ | ⟨rfl, h2⟩
  ·
    refine n_if_ne (tgt := 18) X dX3_level_5 (by decide) (by omega) (fun _ => ?_) (fun c5 => absurd c5 (by decide))
    refine z_aload_n X dX3_level_18 rfl rfl ?_
    refine z_get X (C := RX3) (T := TX3) (N := 8) (ci := 3) (v := .ref (a 4)) inZ3 0 3 rfl rfl (by decide) q_fl_X3_30 rfl rfl dX3_level_19 ?_
    refine z_iload_n X dX3_level_22 rfl rfl ?_
    refine z_callV1 (k := 0) (n := 0) (st := []) X (c_X0_levelIn l D t (a 4) (a 22) (nI kc) (S 18 0) (S 15) (Or.inr ⟨kc, by omega, rfl⟩)) k_X0_levelIn q_ml_X3_188 [4, 22] ⟨by decide, rfl⟩ 4 0 rfl rfl (by decide) rfl rfl rfl (Nat.le_of_ble_eq_true rfl) ⟨Nat.zero_le _, Nat.zero_le _⟩ dX3_level_23 (fun r23 h23 => ?_)
    subst h23
    refine z_iretX X Z rfl dX3_level_26 ?_
    exact ⟨kc, ⟨hkc, rfl, by rw [if_neg (zn_m1 kc (by omega)), nI_clamp (by omega)]⟩, fun q hq => hq⟩
  ·
    refine n_if_ne (tgt := 18) X dX3_level_5 (by decide) (by omega) (fun c5 => absurd c5 (by decide)) (fun _ => ?_)
    refine z_throw (h := 20) (cls := eI) (text := "no such calling") (is := 139) X Z V (Nat.le_of_ble_eq_true rfl) rfl zat_I q_cl_X3_60 q_in_java_lang_IndexOutOfBoundsException (by decide +kernel) (by decide +kernel) (by decide) dX3_level_8 dX3_level_11 dX3_level_12 dX3_level_14 dX3_level_17 ?_
    exact ⟨(), ⟨rfl, h2⟩, fun q hq => hq⟩
set_option maxHeartbeats 4000000 in
set_option maxRecDepth 100000 in
theorem c_X3_value (l : Launch) (hfl : l.stackTraces = false) (D : va_G) (t : ClassId × ClassId × ClassId) (sz : Nat) (a : Nat → Nat) (S : zS) (v : Int32) (G : Nat) (h18 : S 18 0 = nI G) (hG : G < 256) (hI : zI S) : zM4 l yX3_value cX3_value 2 (some .int) 20 D t [.ref (a 0), .int v] (wR t a S) sz (fun r (u : Nat) => u < 6 ∧ v = nI u ∧ ch S (nI u) 6 = -1 ∧ r = vl S (S 15) (wk S (S 15) G) 6 (nI u)) (fun _ => wR t a S) (fun E (_ : Unit) => (E = eI ∧ ¬ am v 6) ∨ (E = eS ∧ ∃ k, k < 6 ∧ v = nI k ∧ ¬ ch S (nI k) 6 = -1)) (fun _ => wR t a S) := by
  refine z_m4 hfl (by decide +kernel) (Nat.le_of_ble_eq_true rfl) (by simp [Value.category]) ?_
  intro E X Z V Y
  refine z_lv (lv' := [some (.ref (a 0)), some (.int v)]) rfl ?_
  refine z_iload_n X dX3_value_0 rfl rfl ?_
  refine z_bipush (v := nI 6) X dX3_value_1 (by decide) ?_
  refine z_callS1 (k := 0) (n := 0) (st := []) X (c_X3_isAmong_g l D t v 6 (by decide)) k_X3_isAmong q_ml_X3_53 [] ⟨by decide, rfl⟩ (by decide) rfl rfl rfl (Nat.le_of_ble_eq_true rfl) ⟨Nat.zero_le _, Nat.zero_le _⟩ dX3_value_3 (fun r3 h3 => ?_)
  rcases h3 with ⟨rfl, kv, hkv, rfl⟩ | ⟨rfl, h3⟩
  ·
    refine n_if_ne (tgt := 19) X dX3_value_6 (by decide) (by omega) (fun _ => ?_) (fun c6 => absurd c6 (by decide))
    refine z_aload_n X dX3_value_19 rfl rfl ?_
    refine z_iload_n X dX3_value_20 rfl rfl ?_
    refine z_callV1 (k := 0) (n := 0) (st := []) X (c_X3_leadsIntoRing l D t a S kv (by omega) hI) k_X3_leadsIntoRing q_ml_X3_199 is24 ⟨by decide, rfl⟩ 0 3 rfl rfl (by decide) rfl rfl rfl (Nat.le_of_ble_eq_true rfl) ⟨Nat.zero_le _, Nat.zero_le _⟩ dX3_value_21 (fun r21 h21 => ?_)
    rcases h21 with ⟨rfl, h21⟩ | ⟨rfl, h21⟩
    ·
      refine n_if_eq (tgt := 37) X dX3_value_24 (by decide) (by omega) (fun c24 => absurd c24 (by decide)) (fun _ => ?_)
      refine z_throw (h := 20) (cls := eS) (text := "the value is in a ring") (is := 202) X Z V (Nat.le_of_ble_eq_true rfl) rfl zat_S q_cl_X3_134 q_in_java_lang_IllegalStateException (by decide +kernel) (by decide +kernel) (by decide) dX3_value_27 dX3_value_30 dX3_value_31 dX3_value_33 dX3_value_36 ?_
      exact ⟨(), Or.inr ⟨rfl, kv, hkv, rfl, h21⟩, fun q hq => hq⟩
    ·
      refine n_if_eq (tgt := 37) X dX3_value_24 (by decide) (by omega) (fun _ => ?_) (fun c24 => absurd c24 (by decide))
      refine z_aload_n X dX3_value_37 rfl rfl ?_
      refine z_iload_n X dX3_value_38 rfl rfl ?_
      refine z_aload_n X dX3_value_39 rfl rfl ?_
      refine z_aload_n X dX3_value_40 rfl rfl ?_
      refine z_get X (C := RX3) (T := TX3) (N := 8) (ci := 3) (v := .ref (a 4)) inZ3 0 3 rfl rfl (by decide) q_fl_X3_30 rfl rfl dX3_value_41 ?_
      refine z_get X (C := RX0) (T := TX0) (N := 2) (ci := 0) (v := .int (S 18 0)) inZ0 4 1 rfl rfl (by decide) q_fl_X3_155 rfl rfl dX3_value_44 ?_
      refine z_top (y := nI G) (h18) ?_
      refine z_callV1 (k := 0) (n := 0) (st := [.int (nI kv), .ref (a 0)]) X (c_X3_workingAmong l D t a S G (by omega) hI) k_X3_workingAmong q_ml_X3_174 is24 ⟨by decide, rfl⟩ 0 3 rfl rfl (by decide) rfl rfl rfl (Nat.le_of_ble_eq_true rfl) ⟨Nat.zero_le _, Nat.zero_le _⟩ dX3_value_47 (fun r47 h47 => ?_)
      subst h47
      refine z_iconst (v := nI 0) X dX3_value_50 (by decide) ?_
      refine z_callV1 (k := 0) (n := 0) (st := []) X (c_X3_sumOf l D t a S (wk S (S 15) G) (wkN_lt 64) hI 6 (by decide) (nI kv) (Or.inr ⟨kv, hkv, rfl⟩)) k_X3_sumOf q_ml_X3_204 is24 ⟨by decide, rfl⟩ 0 3 rfl rfl (by decide) rfl rfl rfl (Nat.le_of_ble_eq_true rfl) ⟨Nat.zero_le _, Nat.zero_le _⟩ dX3_value_51 (fun r51 h51 => ?_)
      subst h51
      refine z_iretX X Z rfl dX3_value_54 ?_
      exact ⟨kv, ⟨hkv, rfl, Classical.not_not.mp h21, rfl⟩, fun q hq => hq⟩
  ·
    refine n_if_ne (tgt := 19) X dX3_value_6 (by decide) (by omega) (fun c6 => absurd c6 (by decide)) (fun _ => ?_)
    refine z_throw (h := 20) (cls := eI) (text := "no such value") (is := 197) X Z V (Nat.le_of_ble_eq_true rfl) rfl zat_I q_cl_X3_60 q_in_java_lang_IndexOutOfBoundsException (by decide +kernel) (by decide +kernel) (by decide) dX3_value_9 dX3_value_12 dX3_value_13 dX3_value_15 dX3_value_18 ?_
    exact ⟨(), Or.inl ⟨rfl, h3⟩, fun q hq => hq⟩
set_option maxHeartbeats 4000000 in
set_option maxRecDepth 100000 in
theorem c_X3_bonus (l : Launch) (hfl : l.stackTraces = false) (D : va_G) (t : ClassId × ClassId × ClassId) (sz : Nat) (a : Nat → Nat) (S : zS) (v kd : Int32) (G : Nat) (h18 : S 18 0 = nI G) (hG : G < 256) (hI : zI S) : zM4 l yX3_bonus cX3_bonus 3 (some .int) 20 D t [.ref (a 0), .int v, .int kd] (wR t a S) sz (fun r (_ : Unit) => am v 6 ∧ am kd 4 ∧ r = bn S (wk S (S 15) G) v kd) (fun _ => wR t a S) (fun E (_ : Unit) => (E = eI ∧ ¬ am v 6) ∨ (E = eA ∧ am v 6 ∧ ¬ am kd 4)) (fun _ => wR t a S) := by
  refine z_m4 hfl (by decide +kernel) (Nat.le_of_ble_eq_true rfl) (by simp [Value.category]) ?_
  intro E X Z V Y
  refine z_lv (lv' := [some (.ref (a 0)), some (.int v), some (.int kd)]) rfl ?_
  refine z_iload_n X dX3_bonus_0 rfl rfl ?_
  refine z_bipush (v := nI 6) X dX3_bonus_1 (by decide) ?_
  refine z_callS1 (k := 0) (n := 0) (st := []) X (c_X3_isAmong_g l D t v 6 (by decide)) k_X3_isAmong q_ml_X3_53 [] ⟨by decide, rfl⟩ (by decide) rfl rfl rfl (Nat.le_of_ble_eq_true rfl) ⟨Nat.zero_le _, Nat.zero_le _⟩ dX3_bonus_3 (fun r3 h3 => ?_)
  rcases h3 with ⟨rfl, kv, hkv, rfl⟩ | ⟨rfl, h3⟩
  ·
    refine n_if_ne (tgt := 19) X dX3_bonus_6 (by decide) (by omega) (fun _ => ?_) (fun c6 => absurd c6 (by decide))
    refine z_iload_n X dX3_bonus_19 rfl rfl ?_
    refine z_iconst (v := nI 4) X dX3_bonus_20 (by decide) ?_
    refine z_callS1 (k := 0) (n := 0) (st := []) X (c_X3_isAmong_g l D t kd 4 (by decide)) k_X3_isAmong q_ml_X3_53 [] ⟨by decide, rfl⟩ (by decide) rfl rfl rfl (Nat.le_of_ble_eq_true rfl) ⟨Nat.zero_le _, Nat.zero_le _⟩ dX3_bonus_21 (fun r21 h21 => ?_)
    rcases h21 with ⟨rfl, kkd, hkkd, rfl⟩ | ⟨rfl, h21⟩
    ·
      refine n_if_ne (tgt := 37) X dX3_bonus_24 (by decide) (by omega) (fun _ => ?_) (fun c24 => absurd c24 (by decide))
      refine z_aload_n X dX3_bonus_37 rfl rfl ?_
      refine z_aload_n X dX3_bonus_38 rfl rfl ?_
      refine z_aload_n X dX3_bonus_39 rfl rfl ?_
      refine z_get X (C := RX3) (T := TX3) (N := 8) (ci := 3) (v := .ref (a 4)) inZ3 0 3 rfl rfl (by decide) q_fl_X3_30 rfl rfl dX3_bonus_40 ?_
      refine z_get X (C := RX0) (T := TX0) (N := 2) (ci := 0) (v := .int (S 18 0)) inZ0 4 1 rfl rfl (by decide) q_fl_X3_155 rfl rfl dX3_bonus_43 ?_
      refine z_top (y := nI G) (h18) ?_
      refine z_callV1 (k := 0) (n := 0) (st := [.ref (a 0)]) X (c_X3_workingAmong l D t a S G (by omega) hI) k_X3_workingAmong q_ml_X3_174 is24 ⟨by decide, rfl⟩ 0 3 rfl rfl (by decide) rfl rfl rfl (Nat.le_of_ble_eq_true rfl) ⟨Nat.zero_le _, Nat.zero_le _⟩ dX3_bonus_46 (fun r46 h46 => ?_)
      subst h46
      refine z_iload_n X dX3_bonus_49 rfl rfl ?_
      refine z_iload_n X dX3_bonus_50 rfl rfl ?_
      refine z_callV1 (k := 0) (n := 0) (st := []) X (c_X3_bonusFrom l D t a S (wk S (S 15) G) (nI kv) (nI kkd) (wkN_lt 64)) k_X3_bonusFrom q_ml_X3_210 is24 ⟨by decide, rfl⟩ 0 3 rfl rfl (by decide) rfl rfl rfl (Nat.le_of_ble_eq_true rfl) ⟨Nat.zero_le _, Nat.zero_le _⟩ dX3_bonus_51 (fun r51 h51 => ?_)
      subst h51
      refine z_iretX X Z rfl dX3_bonus_54 ?_
      exact ⟨(), ⟨⟨kv, hkv, rfl⟩, ⟨kkd, hkkd, rfl⟩, rfl⟩, fun q hq => hq⟩
    ·
      refine n_if_ne (tgt := 37) X dX3_bonus_24 (by decide) (by omega) (fun c24 => absurd c24 (by decide)) (fun _ => ?_)
      refine z_throw (h := 20) (cls := eA) (text := "the kind is out of range") (is := 208) X Z V (Nat.le_of_ble_eq_true rfl) rfl zat_A q_cl_X3_71 q_in_java_lang_IllegalArgumentException (by decide +kernel) (by decide +kernel) (by decide) dX3_bonus_27 dX3_bonus_30 dX3_bonus_31 dX3_bonus_33 dX3_bonus_36 ?_
      first
        | exact ⟨(), Or.inr ⟨rfl, ⟨kv, hkv, rfl⟩, h19⟩, fun q hq => hq⟩
        | exact ⟨(), Or.inr ⟨rfl, ⟨kv, hkv, rfl⟩, h20⟩, fun q hq => hq⟩
        | exact ⟨(), Or.inr ⟨rfl, ⟨kv, hkv, rfl⟩, h21⟩, fun q hq => hq⟩
        | exact ⟨(), Or.inr ⟨rfl, ⟨kv, hkv, rfl⟩, h22⟩, fun q hq => hq⟩
        | exact ⟨(), Or.inr ⟨rfl, ⟨kv, hkv, rfl⟩, h23⟩, fun q hq => hq⟩
        | exact ⟨(), Or.inr ⟨rfl, ⟨kv, hkv, rfl⟩, h24⟩, fun q hq => hq⟩
        | exact ⟨(), Or.inr ⟨rfl, ⟨kv, hkv, rfl⟩, h25⟩, fun q hq => hq⟩
  ·
    refine n_if_ne (tgt := 19) X dX3_bonus_6 (by decide) (by omega) (fun c6 => absurd c6 (by decide)) (fun _ => ?_)
    refine z_throw (h := 20) (cls := eI) (text := "no such value") (is := 197) X Z V (Nat.le_of_ble_eq_true rfl) rfl zat_I q_cl_X3_60 q_in_java_lang_IndexOutOfBoundsException (by decide +kernel) (by decide +kernel) (by decide) dX3_bonus_9 dX3_bonus_12 dX3_bonus_13 dX3_bonus_15 dX3_bonus_18 ?_
    first
      | exact ⟨(), Or.inl ⟨rfl, h2⟩, fun q hq => hq⟩
      | exact ⟨(), Or.inl ⟨rfl, h3⟩, fun q hq => hq⟩
set_option maxHeartbeats 4000000 in
set_option maxRecDepth 100000 in
theorem c_X3_isRing (l : Launch) (hfl : l.stackTraces = false) (D : va_G) (t : ClassId × ClassId × ClassId) (sz : Nat) (a : Nat → Nat) (S : zS) (v : Int32) (hI : zI S) : zM4 l yX3_isRing cX3_isRing 2 (some .boolean) 20 D t [.ref (a 0), .int v] (wR t a S) sz (fun r (u : Nat) => u < 6 ∧ v = nI u ∧ bz r (¬ ch S (nI u) 6 = -1)) (fun _ => wR t a S) (fun E (_ : Unit) => E = eI ∧ ¬ am v 6) (fun _ => wR t a S) := by
  refine z_m4 hfl (by decide +kernel) (Nat.le_of_ble_eq_true rfl) (by simp [Value.category]) ?_
  intro E X Z V Y
  refine z_lv (lv' := [some (.ref (a 0)), some (.int v)]) rfl ?_
  refine z_iload_n X dX3_isRing_0 rfl rfl ?_
  refine z_bipush (v := nI 6) X dX3_isRing_1 (by decide) ?_
  refine z_callS1 (k := 0) (n := 0) (st := []) X (c_X3_isAmong_g l D t v 6 (by decide)) k_X3_isAmong q_ml_X3_53 [] ⟨by decide, rfl⟩ (by decide) rfl rfl rfl (Nat.le_of_ble_eq_true rfl) ⟨Nat.zero_le _, Nat.zero_le _⟩ dX3_isRing_3 (fun r3 h3 => ?_)
  rcases h3 with ⟨rfl, kv, hkv, rfl⟩ | ⟨rfl, h3⟩
  ·
    refine n_if_ne (tgt := 19) X dX3_isRing_6 (by decide) (by omega) (fun _ => ?_) (fun c6 => absurd c6 (by decide))
    refine z_aload_n X dX3_isRing_19 rfl rfl ?_
    refine z_iload_n X dX3_isRing_20 rfl rfl ?_
    refine z_callV1 (k := 0) (n := 0) (st := []) X (c_X3_leadsIntoRing l D t a S kv (by omega) hI) k_X3_leadsIntoRing q_ml_X3_199 is24 ⟨by decide, rfl⟩ 0 3 rfl rfl (by decide) rfl rfl rfl (Nat.le_of_ble_eq_true rfl) ⟨Nat.zero_le _, Nat.zero_le _⟩ dX3_isRing_21 (fun r21 h21 => ?_)
    refine z_iretX X Z h21.bool dX3_isRing_24 ?_
    exact ⟨kv, ⟨hkv, rfl, h21⟩, fun q hq => hq⟩
  ·
    refine n_if_ne (tgt := 19) X dX3_isRing_6 (by decide) (by omega) (fun c6 => absurd c6 (by decide)) (fun _ => ?_)
    refine z_throw (h := 20) (cls := eI) (text := "no such value") (is := 197) X Z V (Nat.le_of_ble_eq_true rfl) rfl zat_I q_cl_X3_60 q_in_java_lang_IndexOutOfBoundsException (by decide +kernel) (by decide +kernel) (by decide) dX3_isRing_9 dX3_isRing_12 dX3_isRing_13 dX3_isRing_15 dX3_isRing_18 ?_
    first
      | exact ⟨(), ⟨rfl, h2⟩, fun q hq => hq⟩
      | exact ⟨(), ⟨rfl, h3⟩, fun q hq => hq⟩
