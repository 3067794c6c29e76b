/-- the attack, in eighths -/
def atk (x y z : Nat) : Nat := (4 * x + 6 * y + 8 * z - (if 0 < x then y + z else if 0 < y then z else 0)) / 8
/-- a lead: the least step behind which the goal can be reached -/
def lead (S : zS) (X Y Z G : Nat) (c : Nat × Nat × Nat × Nat) (k : Nat) : Prop := k < 11 ∧ stp S X Y Z G c.1 c.2.1 c.2.2.1 c.2.2.2 k ∧ Rc S X Y Z G (gx k c.1) (gy k c.2.1) (gz k c.2.2.1) (gs k c.2.2.2) ∧ ∀ i, i < k → ¬ (stp S X Y Z G c.1 c.2.1 c.2.2.1 c.2.2.2 i ∧ Rc S X Y Z G (gx i c.1) (gy i c.2.1) (gz i c.2.2.1) (gs i c.2.2.2))
def goc (k : Nat) (c : Nat × Nat × Nat × Nat) : Nat × Nat × Nat × Nat := (gx k c.1, gy k c.2.1, gz k c.2.2.1, gs k c.2.2.2)
/-- where the first lawful order is after m steps -/
def pth (S : zS) (X Y Z G : Nat) : Nat → Nat × Nat × Nat × Nat → Prop
  | 0, c => c = (0, 0, 0, 0)
  | m + 1, c => ∃ c' k, pth S X Y Z G m c' ∧ lead S X Y Z G c' k ∧ c = goc k c'
/-- how a step is told -/
def cnv (k : Nat) : Nat := if k < 3 then k else 10 + k - 3
section
variable {S : zS} {X Y Z G x y z s : Nat} {e : Nat → Int32}
theorem lead_u {c : Nat × Nat × Nat × Nat} {k k' : Nat} (h : lead S X Y Z G c k) (h' : lead S X Y Z G c k') : k = k' := by
  rcases Nat.lt_trichotomy k k' with q | q | q
  · exact absurd ⟨h.2.1, h.2.2.1⟩ (h'.2.2.2 k q)
  · exact q
  · exact absurd ⟨h'.2.1, h'.2.2.1⟩ (h.2.2.2 k' q)
theorem pth_u : ∀ (m : Nat) (c c' : Nat × Nat × Nat × Nat), pth S X Y Z G m c → pth S X Y Z G m c' → c = c'
  | 0, c, c', h, h' => by rw [h, h']
  | m + 1, c, c', ⟨d, k, h1, h2, h3⟩, ⟨d', k', h1', h2', h3'⟩ => by
    have e := pth_u m d d' h1 h1'
    subst e
    have e := lead_u h2 h2'
    subst e
    rw [h3, h3']
theorem Pk_Rc0 {k : Nat} (hT : Tb S X Y Z G e 0) (hb : inB X Y Z G x y z s) (hG : G < 256) : Pk S X Y Z G x y z s e k ↔ stp S X Y Z G x y z s k ∧ Rc S X Y Z G (gx k x) (gy k y) (gz k z) (gs k s) := by
  unfold Pk
  constructor
  · rintro ⟨h1, h2⟩
    have b := (stp_inB h1).mpr hb
    exact ⟨h1, ((hT _ _ _ _ b.1 b.2.1 b.2.2.1 (sub8_lt b.2.2.2 hG)).1 (Nat.zero_le _)).mp h2⟩
  · rintro ⟨h1, h2⟩
    have b := (stp_inB h1).mpr hb
    exact ⟨h1, ((hT _ _ _ _ b.1 b.2.1 b.2.2.1 (sub8_lt b.2.2.2 hG)).1 (Nat.zero_le _)).mpr h2⟩
theorem fst_lead {r : Int32} (hT : Tb S X Y Z G e 0) (hG : G < 256) (hR : Rc S X Y Z G x y z s) (hn : 0 < rem X Y Z G x y z s) (h : fstR r (Pk S X Y Z G x y z s e)) : ∃ k, r = nI k ∧ lead S X Y Z G (x, y, z, s) k := by
  have hb := Rc_inB hR
  rcases h with ⟨k, h1, rfl, h2, h3⟩ | ⟨-, h⟩
  · have h4 := (Pk_Rc0 hT hb hG).mp h2
    exact ⟨k, rfl, h1, h4.1, h4.2, fun i hi q => h3 i hi ((Pk_Rc0 hT hb hG).mpr q)⟩
  · rcases Rc_step.mp hR with ⟨rfl, rfl, rfl, rfl⟩ | ⟨k, h1, h2⟩
    · rw [rem_fin] at hn; omega
    · exact absurd ((Pk_Rc0 hT hb hG).mpr h2) (h k h1)
theorem lead_rem {c : Nat × Nat × Nat × Nat} {k : Nat} (hG : G < 256) (h : lead S X Y Z G c k) (hb : inB X Y Z G c.1 c.2.1 c.2.2.1 c.2.2.2) : rem X Y Z G (gx k c.1) (gy k c.2.1) (gz k c.2.2.1) (gs k c.2.2.2) + 1 = rem X Y Z G c.1 c.2.1 c.2.2.1 c.2.2.2 := rem_step hG h.2.1 hb
end
set_option maxHeartbeats 4000000 in
set_option maxRecDepth 100000 in
theorem c_X3_attack (l : Launch) (D : va_G) (t : ClassId × ClassId × ClassId) (a : Nat → Nat) (S : zS) (x y z : Nat) (h15 : S 15 = l3 x y z) (hx : x + y + z ≤ 8) : zM1 l yX3_attack cX3_attack 5 (some .int) 1 D t [.ref (a 0)] (wR t a S) (fun r => r = nI (atk x y z)) := by
  refine z_m1 (by decide +kernel) (Nat.le_of_ble_eq_true rfl) (by simp [Value.category]) ?_
  intro E X Z
  refine z_lv (lv' := [some (.ref (a 0)), none, none, none, none]) rfl ?_
  refine z_fconst0 X dX3_attack_0 ?_
  refine z_fstore_n X dX3_attack_1 rfl (Nat.le_of_ble_eq_true rfl) ?_
  refine z_lv (lv' := [some (.ref (a 0)), some (.float FP.fconst0), none, none, none]) rfl ?_
  refine z_iconst (v := nI 0) X dX3_attack_2 (by decide) ?_
  refine z_istore_n X dX3_attack_3 rfl (Nat.le_of_ble_eq_true rfl) ?_
  refine z_lv (lv' := [some (.ref (a 0)), some (.float FP.fconst0), some (.int (nI 0)), none, none]) rfl ?_
  refine z_iconst (v := nI 0) X dX3_attack_4 (by decide) ?_
  refine z_istore_n X dX3_attack_5 rfl (Nat.le_of_ble_eq_true rfl) ?_
  refine z_lv (lv' := [some (.ref (a 0)), some (.float FP.fconst0), some (.int (nI 0)), some (.int (nI 0)), none]) rfl ?_
  refine z_iload_n X dX3_attack_6 rfl rfl ?_
  refine z_iconst (v := nI 3) X dX3_attack_7 (by decide) ?_
  refine n_icmp_ge (tgt := 69) X dX3_attack_8 (by decide) (by omega) (by omega) (fun c8 => absurd c8 (by decide)) (fun _ => ?_)
  refine z_aload_n X dX3_attack_11 rfl rfl ?_
  refine z_get X (C := RX3) (T := TX3) (N := 8) (ci := 3) (v := .ref (a 4)) inZ3 0 3 rfl rfl (by decide) q_fl_X3_30 rfl rfl dX3_attack_12 ?_
  refine z_iload_n X dX3_attack_15 rfl rfl ?_
  refine z_callV1 (k := 0) (n := 0) (st := []) X (c_X0_levelIn l D t (a 4) (a 22) (nI 0) (S 18 0) (S 15) (Or.inr ⟨0, by decide, rfl⟩)) k_X0_levelIn q_ml_X3_188 [4, 22] ⟨by decide, rfl⟩ 4 0 rfl rfl (by decide) rfl rfl rfl (Nat.le_of_ble_eq_true rfl) ⟨Nat.zero_le _, Nat.zero_le _⟩ dX3_attack_16 (fun r16 h16 => ?_)
  rw [if_neg (zn_m1 0 (by decide)), nI_clamp (by decide), h15] at h16
  subst h16
  refine z_top (y := nI x) rfl ?_
  refine z_istore X dX3_attack_19 (Nat.le_of_ble_eq_true rfl) ?_
  refine z_lv (lv' := [some (.ref (a 0)), some (.float FP.fconst0), some (.int (nI 0)), some (.int (nI 0)), some (.int (nI x))]) rfl ?_
  refine z_fload_n X dX3_attack_21 rfl rfl ?_
  refine z_iload X dX3_attack_22 rfl ?_
  refine z_i2f X dX3_attack_24 ?_
  refine z_iload_n X dX3_attack_25 rfl rfl ?_
  refine z_iconst (v := nI 2) X dX3_attack_26 (by decide) ?_
  refine n_iadd X dX3_attack_27 ?_
  refine z_i2f X dX3_attack_28 ?_
  refine z_ldcf X q_kf_X3_213 dX3_attack_29 ?_
  refine z_fdiv X dX3_attack_31 ((by unfold vf_n32; decide +kernel : vf_n32 (FP.fdiv (FP.i2f (nI 2)) 1082130432))) ?_
  refine z_fmul X dX3_attack_32 ((by unfold vf_n32; decide +kernel : ∀ x, x < 9 → vf_n32 (FP.fmul (FP.i2f (nI x)) (FP.fdiv (FP.i2f (nI 2)) 1082130432))) x (by omega)) ?_
  refine z_fadd X dX3_attack_33 ((by unfold vf_n32; decide +kernel : ∀ x, x < 9 → vf_n32 (FP.fadd FP.fconst0 (FP.fmul (FP.i2f (nI x)) (FP.fdiv (FP.i2f (nI 2)) 1082130432)))) x (by omega)) ?_
  refine z_fstore_n X dX3_attack_34 rfl (Nat.le_of_ble_eq_true rfl) ?_
  refine z_lv (lv' := [some (.ref (a 0)), some (.float (FP.fadd FP.fconst0 (FP.fmul (FP.i2f (nI x)) (FP.fdiv (FP.i2f (nI 2)) 1082130432)))), some (.int (nI 0)), some (.int (nI 0)), some (.int (nI x))]) rfl ?_
  refine z_iload_n X dX3_attack_35 rfl rfl ?_
  refine n_if_eq (tgt := 48) X dX3_attack_36 (by decide) (by omega) (fun _ => ?_) (fun c36 => absurd c36 (by decide))
  refine z_iload_n X dX3_attack_48 rfl rfl ?_
  refine n_if_ne (tgt := 57) X dX3_attack_49 (by decide) (by omega) (fun c49 => absurd c49 (by decide)) (fun _ => ?_)
  refine z_iload X dX3_attack_52 rfl ?_
  refine n_if_le (tgt := 61) X dX3_attack_54 (by decide) (by omega) (fun kx => ?_) (fun kx => ?_)
  ·
    refine z_iconst (v := nI 0) X dX3_attack_61 (by decide) ?_
    refine z_istore_n X dX3_attack_62 rfl (Nat.le_of_ble_eq_true rfl) ?_
    refine z_lv (lv' := [some (.ref (a 0)), some (.float (FP.fadd FP.fconst0 (FP.fmul (FP.i2f (nI x)) (FP.fdiv (FP.i2f (nI 2)) 1082130432)))), some (.int (nI 0)), some (.int (nI 0)), some (.int (nI x))]) rfl ?_
    refine z_iinc (v := nI 1) X dX3_attack_63 rfl (by decide) ?_
    refine z_lv (lv' := [some (.ref (a 0)), some (.float (FP.fadd FP.fconst0 (FP.fmul (FP.i2f (nI x)) (FP.fdiv (FP.i2f (nI 2)) 1082130432)))), some (.int (nI 0)), some (.int (nI 1)), some (.int (nI x))]) rfl ?_
    refine z_goto (tgt := 6) X dX3_attack_66 (by decide) ?_
    refine z_iload_n X dX3_attack_6 rfl rfl ?_
    refine z_iconst (v := nI 3) X dX3_attack_7 (by decide) ?_
    refine n_icmp_ge (tgt := 69) X dX3_attack_8 (by decide) (by omega) (by omega) (fun c8 => absurd c8 (by decide)) (fun _ => ?_)
    refine z_aload_n X dX3_attack_11 rfl rfl ?_
    refine z_get X (C := RX3) (T := TX3) (N := 8) (ci := 3) (v := .ref (a 4)) inZ3 0 3 rfl rfl (by decide) q_fl_X3_30 rfl rfl dX3_attack_12 ?_
    refine z_iload_n X dX3_attack_15 rfl rfl ?_
    refine z_callV1 (k := 0) (n := 0) (st := []) X (c_X0_levelIn l D t (a 4) (a 22) (nI 1) (S 18 0) (S 15) (Or.inr ⟨1, by decide, rfl⟩)) k_X0_levelIn q_ml_X3_188 [4, 22] ⟨by decide, rfl⟩ 4 0 rfl rfl (by decide) rfl rfl rfl (Nat.le_of_ble_eq_true rfl) ⟨Nat.zero_le _, Nat.zero_le _⟩ dX3_attack_16 (fun r16 h16 => ?_)
    rw [if_neg (zn_m1 1 (by decide)), nI_clamp (by decide), h15] at h16
    subst h16
    refine z_top (y := nI y) rfl ?_
    refine z_istore X dX3_attack_19 (Nat.le_of_ble_eq_true rfl) ?_
    refine z_lv (lv' := [some (.ref (a 0)), some (.float (FP.fadd FP.fconst0 (FP.fmul (FP.i2f (nI x)) (FP.fdiv (FP.i2f (nI 2)) 1082130432)))), some (.int (nI 0)), some (.int (nI 1)), some (.int (nI y))]) rfl ?_
    refine z_fload_n X dX3_attack_21 rfl rfl ?_
    refine z_iload X dX3_attack_22 rfl ?_
    refine z_i2f X dX3_attack_24 ?_
    refine z_iload_n X dX3_attack_25 rfl rfl ?_
    refine z_iconst (v := nI 2) X dX3_attack_26 (by decide) ?_
    refine n_iadd X dX3_attack_27 ?_
    refine z_i2f X dX3_attack_28 ?_
    refine z_ldcf X q_kf_X3_213 dX3_attack_29 ?_
    refine z_fdiv X dX3_attack_31 ((by unfold vf_n32; decide +kernel : vf_n32 (FP.fdiv (FP.i2f (nI 3)) 1082130432))) ?_
    refine z_fmul X dX3_attack_32 ((by unfold vf_n32; decide +kernel : ∀ y, y < 9 → vf_n32 (FP.fmul (FP.i2f (nI y)) (FP.fdiv (FP.i2f (nI 3)) 1082130432))) y (by omega)) ?_
    refine z_fadd X dX3_attack_33 ((by unfold vf_n32; decide +kernel : ∀ x, x < 9 → ∀ y, y < 9 → vf_n32 (FP.fadd (FP.fadd FP.fconst0 (FP.fmul (FP.i2f (nI x)) (FP.fdiv (FP.i2f (nI 2)) 1082130432))) (FP.fmul (FP.i2f (nI y)) (FP.fdiv (FP.i2f (nI 3)) 1082130432)))) x (by omega) y (by omega)) ?_
    refine z_fstore_n X dX3_attack_34 rfl (Nat.le_of_ble_eq_true rfl) ?_
    refine z_lv (lv' := [some (.ref (a 0)), some (.float (FP.fadd (FP.fadd FP.fconst0 (FP.fmul (FP.i2f (nI x)) (FP.fdiv (FP.i2f (nI 2)) 1082130432))) (FP.fmul (FP.i2f (nI y)) (FP.fdiv (FP.i2f (nI 3)) 1082130432)))), some (.int (nI 0)), some (.int (nI 1)), some (.int (nI y))]) rfl ?_
    refine z_iload_n X dX3_attack_35 rfl rfl ?_
    refine n_if_eq (tgt := 48) X dX3_attack_36 (by decide) (by omega) (fun _ => ?_) (fun c36 => absurd c36 (by decide))
    refine z_iload_n X dX3_attack_48 rfl rfl ?_
    refine n_if_ne (tgt := 57) X dX3_attack_49 (by decide) (by omega) (fun c49 => absurd c49 (by decide)) (fun _ => ?_)
    refine z_iload X dX3_attack_52 rfl ?_
    refine n_if_le (tgt := 61) X dX3_attack_54 (by decide) (by omega) (fun ky => ?_) (fun ky => ?_)
    ·
      refine z_iconst (v := nI 0) X dX3_attack_61 (by decide) ?_
      refine z_istore_n X dX3_attack_62 rfl (Nat.le_of_ble_eq_true rfl) ?_
      refine z_lv (lv' := [some (.ref (a 0)), some (.float (FP.fadd (FP.fadd FP.fconst0 (FP.fmul (FP.i2f (nI x)) (FP.fdiv (FP.i2f (nI 2)) 1082130432))) (FP.fmul (FP.i2f (nI y)) (FP.fdiv (FP.i2f (nI 3)) 1082130432)))), some (.int (nI 0)), some (.int (nI 1)), some (.int (nI y))]) rfl ?_
      refine z_iinc (v := nI 2) X dX3_attack_63 rfl (by decide) ?_
      refine z_lv (lv' := [some (.ref (a 0)), some (.float (FP.fadd (FP.fadd FP.fconst0 (FP.fmul (FP.i2f (nI x)) (FP.fdiv (FP.i2f (nI 2)) 1082130432))) (FP.fmul (FP.i2f (nI y)) (FP.fdiv (FP.i2f (nI 3)) 1082130432)))), some (.int (nI 0)), some (.int (nI 2)), some (.int (nI y))]) rfl ?_
      refine z_goto (tgt := 6) X dX3_attack_66 (by decide) ?_
      refine z_iload_n X dX3_attack_6 rfl rfl ?_
      refine z_iconst (v := nI 3) X dX3_attack_7 (by decide) ?_
      refine n_icmp_ge (tgt := 69) X dX3_attack_8 (by decide) (by omega) (by omega) (fun c8 => absurd c8 (by decide)) (fun _ => ?_)
      refine z_aload_n X dX3_attack_11 rfl rfl ?_
      refine z_get X (C := RX3) (T := TX3) (N := 8) (ci := 3) (v := .ref (a 4)) inZ3 0 3 rfl rfl (by decide) q_fl_X3_30 rfl rfl dX3_attack_12 ?_
      refine z_iload_n X dX3_attack_15 rfl rfl ?_
      refine z_callV1 (k := 0) (n := 0) (st := []) X (c_X0_levelIn l D t (a 4) (a 22) (nI 2) (S 18 0) (S 15) (Or.inr ⟨2, by decide, rfl⟩)) k_X0_levelIn q_ml_X3_188 [4, 22] ⟨by decide, rfl⟩ 4 0 rfl rfl (by decide) rfl rfl rfl (Nat.le_of_ble_eq_true rfl) ⟨Nat.zero_le _, Nat.zero_le _⟩ dX3_attack_16 (fun r16 h16 => ?_)
      rw [if_neg (zn_m1 2 (by decide)), nI_clamp (by decide), h15] at h16
      subst h16
      refine z_top (y := nI z) rfl ?_
      refine z_istore X dX3_attack_19 (Nat.le_of_ble_eq_true rfl) ?_
      refine z_lv (lv' := [some (.ref (a 0)), some (.float (FP.fadd (FP.fadd FP.fconst0 (FP.fmul (FP.i2f (nI x)) (FP.fdiv (FP.i2f (nI 2)) 1082130432))) (FP.fmul (FP.i2f (nI y)) (FP.fdiv (FP.i2f (nI 3)) 1082130432)))), some (.int (nI 0)), some (.int (nI 2)), some (.int (nI z))]) rfl ?_
      refine z_fload_n X dX3_attack_21 rfl rfl ?_
      refine z_iload X dX3_attack_22 rfl ?_
      refine z_i2f X dX3_attack_24 ?_
      refine z_iload_n X dX3_attack_25 rfl rfl ?_
      refine z_iconst (v := nI 2) X dX3_attack_26 (by decide) ?_
      refine n_iadd X dX3_attack_27 ?_
      refine z_i2f X dX3_attack_28 ?_
      refine z_ldcf X q_kf_X3_213 dX3_attack_29 ?_
      refine z_fdiv X dX3_attack_31 ((by unfold vf_n32; decide +kernel : vf_n32 (FP.fdiv (FP.i2f (nI 4)) 1082130432))) ?_
      refine z_fmul X dX3_attack_32 ((by unfold vf_n32; decide +kernel : ∀ z, z < 9 → vf_n32 (FP.fmul (FP.i2f (nI z)) (FP.fdiv (FP.i2f (nI 4)) 1082130432))) z (by omega)) ?_
      refine z_fadd X dX3_attack_33 ((by unfold vf_n32; decide +kernel : ∀ x, x < 9 → ∀ y, y < 9 → ∀ z, z < 9 → x + y + z ≤ 8 → vf_n32 (FP.fadd (FP.fadd (FP.fadd FP.fconst0 (FP.fmul (FP.i2f (nI x)) (FP.fdiv (FP.i2f (nI 2)) 1082130432))) (FP.fmul (FP.i2f (nI y)) (FP.fdiv (FP.i2f (nI 3)) 1082130432))) (FP.fmul (FP.i2f (nI z)) (FP.fdiv (FP.i2f (nI 4)) 1082130432)))) x (by omega) y (by omega) z (by omega) (by omega)) ?_
      refine z_fstore_n X dX3_attack_34 rfl (Nat.le_of_ble_eq_true rfl) ?_
      refine z_lv (lv' := [some (.ref (a 0)), some (.float (FP.fadd (FP.fadd (FP.fadd FP.fconst0 (FP.fmul (FP.i2f (nI x)) (FP.fdiv (FP.i2f (nI 2)) 1082130432))) (FP.fmul (FP.i2f (nI y)) (FP.fdiv (FP.i2f (nI 3)) 1082130432))) (FP.fmul (FP.i2f (nI z)) (FP.fdiv (FP.i2f (nI 4)) 1082130432)))), some (.int (nI 0)), some (.int (nI 2)), some (.int (nI z))]) rfl ?_
      refine z_iload_n X dX3_attack_35 rfl rfl ?_
      refine n_if_eq (tgt := 48) X dX3_attack_36 (by decide) (by omega) (fun _ => ?_) (fun c36 => absurd c36 (by decide))
      refine z_iload_n X dX3_attack_48 rfl rfl ?_
      refine n_if_ne (tgt := 57) X dX3_attack_49 (by decide) (by omega) (fun c49 => absurd c49 (by decide)) (fun _ => ?_)
      refine z_iload X dX3_attack_52 rfl ?_
      refine n_if_le (tgt := 61) X dX3_attack_54 (by decide) (by omega) (fun kz => ?_) (fun kz => ?_)
      ·
        refine z_iconst (v := nI 0) X dX3_attack_61 (by decide) ?_
        refine z_istore_n X dX3_attack_62 rfl (Nat.le_of_ble_eq_true rfl) ?_
        refine z_lv (lv' := [some (.ref (a 0)), some (.float (FP.fadd (FP.fadd (FP.fadd FP.fconst0 (FP.fmul (FP.i2f (nI x)) (FP.fdiv (FP.i2f (nI 2)) 1082130432))) (FP.fmul (FP.i2f (nI y)) (FP.fdiv (FP.i2f (nI 3)) 1082130432))) (FP.fmul (FP.i2f (nI z)) (FP.fdiv (FP.i2f (nI 4)) 1082130432)))), some (.int (nI 0)), some (.int (nI 2)), some (.int (nI z))]) rfl ?_
        refine z_iinc (v := nI 3) X dX3_attack_63 rfl (by decide) ?_
        refine z_lv (lv' := [some (.ref (a 0)), some (.float (FP.fadd (FP.fadd (FP.fadd FP.fconst0 (FP.fmul (FP.i2f (nI x)) (FP.fdiv (FP.i2f (nI 2)) 1082130432))) (FP.fmul (FP.i2f (nI y)) (FP.fdiv (FP.i2f (nI 3)) 1082130432))) (FP.fmul (FP.i2f (nI z)) (FP.fdiv (FP.i2f (nI 4)) 1082130432)))), some (.int (nI 0)), some (.int (nI 3)), some (.int (nI z))]) rfl ?_
        refine z_goto (tgt := 6) X dX3_attack_66 (by decide) ?_
        refine z_iload_n X dX3_attack_6 rfl rfl ?_
        refine z_iconst (v := nI 3) X dX3_attack_7 (by decide) ?_
        refine n_icmp_ge (tgt := 69) X dX3_attack_8 (by decide) (by omega) (by omega) (fun _ => ?_) (fun c8 => absurd c8 (by decide))
        refine z_fload_n X dX3_attack_69 rfl rfl ?_
        refine z_f2i X dX3_attack_70 ?_
        refine z_iret X Z rfl dX3_attack_71 ?_
        exact ⟨(), (by decide +kernel : ∀ x, x < 9 → ∀ y, y < 9 → ∀ z, z < 9 → x + y + z ≤ 8 ∧ x ≤ 0 ∧ y ≤ 0 → FP.f2i (FP.fadd (FP.fadd (FP.fadd FP.fconst0 (FP.fmul (FP.i2f (nI x)) (FP.fdiv (FP.i2f (nI 2)) 1082130432))) (FP.fmul (FP.i2f (nI y)) (FP.fdiv (FP.i2f (nI 3)) 1082130432))) (FP.fmul (FP.i2f (nI z)) (FP.fdiv (FP.i2f (nI 4)) 1082130432))) = nI (atk x y z)) x (by omega) y (by omega) z (by omega) ⟨hx, (Nat.le_of_eq kx), (Nat.le_of_eq ky)⟩, fun _ _ => trivial⟩
      ·
        refine z_iconst (v := nI 1) X dX3_attack_57 (by decide) ?_
        refine z_goto (tgt := 62) X dX3_attack_58 (by decide) ?_
        refine z_istore_n X dX3_attack_62 rfl (Nat.le_of_ble_eq_true rfl) ?_
        refine z_lv (lv' := [some (.ref (a 0)), some (.float (FP.fadd (FP.fadd (FP.fadd FP.fconst0 (FP.fmul (FP.i2f (nI x)) (FP.fdiv (FP.i2f (nI 2)) 1082130432))) (FP.fmul (FP.i2f (nI y)) (FP.fdiv (FP.i2f (nI 3)) 1082130432))) (FP.fmul (FP.i2f (nI z)) (FP.fdiv (FP.i2f (nI 4)) 1082130432)))), some (.int (nI 1)), some (.int (nI 2)), some (.int (nI z))]) rfl ?_
        refine z_iinc (v := nI 3) X dX3_attack_63 rfl (by decide) ?_
        refine z_lv (lv' := [some (.ref (a 0)), some (.float (FP.fadd (FP.fadd (FP.fadd FP.fconst0 (FP.fmul (FP.i2f (nI x)) (FP.fdiv (FP.i2f (nI 2)) 1082130432))) (FP.fmul (FP.i2f (nI y)) (FP.fdiv (FP.i2f (nI 3)) 1082130432))) (FP.fmul (FP.i2f (nI z)) (FP.fdiv (FP.i2f (nI 4)) 1082130432)))), some (.int (nI 1)), some (.int (nI 3)), some (.int (nI z))]) rfl ?_
        refine z_goto (tgt := 6) X dX3_attack_66 (by decide) ?_
        refine z_iload_n X dX3_attack_6 rfl rfl ?_
        refine z_iconst (v := nI 3) X dX3_attack_7 (by decide) ?_
        refine n_icmp_ge (tgt := 69) X dX3_attack_8 (by decide) (by omega) (by omega) (fun _ => ?_) (fun c8 => absurd c8 (by decide))
        refine z_fload_n X dX3_attack_69 rfl rfl ?_
        refine z_f2i X dX3_attack_70 ?_
        refine z_iret X Z rfl dX3_attack_71 ?_
        exact ⟨(), (by decide +kernel : ∀ x, x < 9 → ∀ y, y < 9 → ∀ z, z < 9 → x + y + z ≤ 8 ∧ x ≤ 0 ∧ y ≤ 0 → FP.f2i (FP.fadd (FP.fadd (FP.fadd FP.fconst0 (FP.fmul (FP.i2f (nI x)) (FP.fdiv (FP.i2f (nI 2)) 1082130432))) (FP.fmul (FP.i2f (nI y)) (FP.fdiv (FP.i2f (nI 3)) 1082130432))) (FP.fmul (FP.i2f (nI z)) (FP.fdiv (FP.i2f (nI 4)) 1082130432))) = nI (atk x y z)) x (by omega) y (by omega) z (by omega) ⟨hx, (Nat.le_of_eq kx), (Nat.le_of_eq ky)⟩, fun _ _ => trivial⟩
    ·
      refine z_iconst (v := nI 1) X dX3_attack_57 (by decide) ?_
      refine z_goto (tgt := 62) X dX3_attack_58 (by decide) ?_
      refine z_istore_n X dX3_attack_62 rfl (Nat.le_of_ble_eq_true rfl) ?_
      refine z_lv (lv' := [some (.ref (a 0)), some (.float (FP.fadd (FP.fadd FP.fconst0 (FP.fmul (FP.i2f (nI x)) (FP.fdiv (FP.i2f (nI 2)) 1082130432))) (FP.fmul (FP.i2f (nI y)) (FP.fdiv (FP.i2f (nI 3)) 1082130432)))), some (.int (nI 1)), some (.int (nI 1)), some (.int (nI y))]) rfl ?_
      refine z_iinc (v := nI 2) X dX3_attack_63 rfl (by decide) ?_
      refine z_lv (lv' := [some (.ref (a 0)), some (.float (FP.fadd (FP.fadd FP.fconst0 (FP.fmul (FP.i2f (nI x)) (FP.fdiv (FP.i2f (nI 2)) 1082130432))) (FP.fmul (FP.i2f (nI y)) (FP.fdiv (FP.i2f (nI 3)) 1082130432)))), some (.int (nI 1)), some (.int (nI 2)), some (.int (nI y))]) rfl ?_
      refine z_goto (tgt := 6) X dX3_attack_66 (by decide) ?_
      refine z_iload_n X dX3_attack_6 rfl rfl ?_
      refine z_iconst (v := nI 3) X dX3_attack_7 (by decide) ?_
      refine n_icmp_ge (tgt := 69) X dX3_attack_8 (by decide) (by omega) (by omega) (fun c8 => absurd c8 (by decide)) (fun _ => ?_)
      refine z_aload_n X dX3_attack_11 rfl rfl ?_
      refine z_get X (C := RX3) (T := TX3) (N := 8) (ci := 3) (v := .ref (a 4)) inZ3 0 3 rfl rfl (by decide) q_fl_X3_30 rfl rfl dX3_attack_12 ?_
      refine z_iload_n X dX3_attack_15 rfl rfl ?_
      refine z_callV1 (k := 0) (n := 0) (st := []) X (c_X0_levelIn l D t (a 4) (a 22) (nI 2) (S 18 0) (S 15) (Or.inr ⟨2, by decide, rfl⟩)) k_X0_levelIn q_ml_X3_188 [4, 22] ⟨by decide, rfl⟩ 4 0 rfl rfl (by decide) rfl rfl rfl (Nat.le_of_ble_eq_true rfl) ⟨Nat.zero_le _, Nat.zero_le _⟩ dX3_attack_16 (fun r16 h16 => ?_)
      rw [if_neg (zn_m1 2 (by decide)), nI_clamp (by decide), h15] at h16
      subst h16
      refine z_top (y := nI z) rfl ?_
      refine z_istore X dX3_attack_19 (Nat.le_of_ble_eq_true rfl) ?_
      refine z_lv (lv' := [some (.ref (a 0)), some (.float (FP.fadd (FP.fadd FP.fconst0 (FP.fmul (FP.i2f (nI x)) (FP.fdiv (FP.i2f (nI 2)) 1082130432))) (FP.fmul (FP.i2f (nI y)) (FP.fdiv (FP.i2f (nI 3)) 1082130432)))), some (.int (nI 1)), some (.int (nI 2)), some (.int (nI z))]) rfl ?_
      refine z_fload_n X dX3_attack_21 rfl rfl ?_
      refine z_iload X dX3_attack_22 rfl ?_
      refine z_i2f X dX3_attack_24 ?_
      refine z_iload_n X dX3_attack_25 rfl rfl ?_
      refine z_iconst (v := nI 2) X dX3_attack_26 (by decide) ?_
      refine n_iadd X dX3_attack_27 ?_
      refine z_i2f X dX3_attack_28 ?_
      refine z_ldcf X q_kf_X3_213 dX3_attack_29 ?_
      refine z_fdiv X dX3_attack_31 ((by unfold vf_n32; decide +kernel : vf_n32 (FP.fdiv (FP.i2f (nI 4)) 1082130432))) ?_
      refine z_fmul X dX3_attack_32 ((by unfold vf_n32; decide +kernel : ∀ z, z < 9 → vf_n32 (FP.fmul (FP.i2f (nI z)) (FP.fdiv (FP.i2f (nI 4)) 1082130432))) z (by omega)) ?_
      refine z_fadd X dX3_attack_33 ((by unfold vf_n32; decide +kernel : ∀ x, x < 9 → ∀ y, y < 9 → ∀ z, z < 9 → x + y + z ≤ 8 → vf_n32 (FP.fadd (FP.fadd (FP.fadd FP.fconst0 (FP.fmul (FP.i2f (nI x)) (FP.fdiv (FP.i2f (nI 2)) 1082130432))) (FP.fmul (FP.i2f (nI y)) (FP.fdiv (FP.i2f (nI 3)) 1082130432))) (FP.fmul (FP.i2f (nI z)) (FP.fdiv (FP.i2f (nI 4)) 1082130432)))) x (by omega) y (by omega) z (by omega) (by omega)) ?_
      refine z_fstore_n X dX3_attack_34 rfl (Nat.le_of_ble_eq_true rfl) ?_
      refine z_lv (lv' := [some (.ref (a 0)), some (.float (FP.fadd (FP.fadd (FP.fadd FP.fconst0 (FP.fmul (FP.i2f (nI x)) (FP.fdiv (FP.i2f (nI 2)) 1082130432))) (FP.fmul (FP.i2f (nI y)) (FP.fdiv (FP.i2f (nI 3)) 1082130432))) (FP.fmul (FP.i2f (nI z)) (FP.fdiv (FP.i2f (nI 4)) 1082130432)))), some (.int (nI 1)), some (.int (nI 2)), some (.int (nI z))]) rfl ?_
      refine z_iload_n X dX3_attack_35 rfl rfl ?_
      refine n_if_eq (tgt := 48) X dX3_attack_36 (by decide) (by omega) (fun c36 => absurd c36 (by decide)) (fun _ => ?_)
      refine z_fload_n X dX3_attack_39 rfl rfl ?_
      refine z_ldcf X q_kf_X3_214 dX3_attack_40 ?_
      refine z_iload X dX3_attack_42 rfl ?_
      refine z_i2f X dX3_attack_44 ?_
      refine z_fmul X dX3_attack_45 ((by unfold vf_n32; decide +kernel : ∀ z, z < 9 → vf_n32 (FP.fmul 1040187392 (FP.i2f (nI z)))) z (by omega)) ?_
      refine z_fsub X dX3_attack_46 ((by unfold vf_n32; decide +kernel : ∀ x, x < 9 → ∀ y, y < 9 → ∀ z, z < 9 → x + y + z ≤ 8 → vf_n32 (FP.fsub (FP.fadd (FP.fadd (FP.fadd FP.fconst0 (FP.fmul (FP.i2f (nI x)) (FP.fdiv (FP.i2f (nI 2)) 1082130432))) (FP.fmul (FP.i2f (nI y)) (FP.fdiv (FP.i2f (nI 3)) 1082130432))) (FP.fmul (FP.i2f (nI z)) (FP.fdiv (FP.i2f (nI 4)) 1082130432))) (FP.fmul 1040187392 (FP.i2f (nI z))))) x (by omega) y (by omega) z (by omega) (by omega)) ?_
      refine z_fstore_n X dX3_attack_47 rfl (Nat.le_of_ble_eq_true rfl) ?_
      refine z_lv (lv' := [some (.ref (a 0)), some (.float (FP.fsub (FP.fadd (FP.fadd (FP.fadd FP.fconst0 (FP.fmul (FP.i2f (nI x)) (FP.fdiv (FP.i2f (nI 2)) 1082130432))) (FP.fmul (FP.i2f (nI y)) (FP.fdiv (FP.i2f (nI 3)) 1082130432))) (FP.fmul (FP.i2f (nI z)) (FP.fdiv (FP.i2f (nI 4)) 1082130432))) (FP.fmul 1040187392 (FP.i2f (nI z))))), some (.int (nI 1)), some (.int (nI 2)), some (.int (nI z))]) rfl ?_
      refine z_iload_n X dX3_attack_48 rfl rfl ?_
      refine n_if_ne (tgt := 57) X dX3_attack_49 (by decide) (by omega) (fun _ => ?_) (fun c49 => absurd c49 (by decide))
      refine z_iconst (v := nI 1) X dX3_attack_57 (by decide) ?_
      refine z_goto (tgt := 62) X dX3_attack_58 (by decide) ?_
      refine z_istore_n X dX3_attack_62 rfl (Nat.le_of_ble_eq_true rfl) ?_
      refine z_lv (lv' := [some (.ref (a 0)), some (.float (FP.fsub (FP.fadd (FP.fadd (FP.fadd FP.fconst0 (FP.fmul (FP.i2f (nI x)) (FP.fdiv (FP.i2f (nI 2)) 1082130432))) (FP.fmul (FP.i2f (nI y)) (FP.fdiv (FP.i2f (nI 3)) 1082130432))) (FP.fmul (FP.i2f (nI z)) (FP.fdiv (FP.i2f (nI 4)) 1082130432))) (FP.fmul 1040187392 (FP.i2f (nI z))))), some (.int (nI 1)), some (.int (nI 2)), some (.int (nI z))]) rfl ?_
      refine z_iinc (v := nI 3) X dX3_attack_63 rfl (by decide) ?_
      refine z_lv (lv' := [some (.ref (a 0)), some (.float (FP.fsub (FP.fadd (FP.fadd (FP.fadd FP.fconst0 (FP.fmul (FP.i2f (nI x)) (FP.fdiv (FP.i2f (nI 2)) 1082130432))) (FP.fmul (FP.i2f (nI y)) (FP.fdiv (FP.i2f (nI 3)) 1082130432))) (FP.fmul (FP.i2f (nI z)) (FP.fdiv (FP.i2f (nI 4)) 1082130432))) (FP.fmul 1040187392 (FP.i2f (nI z))))), some (.int (nI 1)), some (.int (nI 3)), some (.int (nI z))]) rfl ?_
      refine z_goto (tgt := 6) X dX3_attack_66 (by decide) ?_
      refine z_iload_n X dX3_attack_6 rfl rfl ?_
      refine z_iconst (v := nI 3) X dX3_attack_7 (by decide) ?_
      refine n_icmp_ge (tgt := 69) X dX3_attack_8 (by decide) (by omega) (by omega) (fun _ => ?_) (fun c8 => absurd c8 (by decide))
      refine z_fload_n X dX3_attack_69 rfl rfl ?_
      refine z_f2i X dX3_attack_70 ?_
      refine z_iret X Z rfl dX3_attack_71 ?_
      exact ⟨(), (by decide +kernel : ∀ x, x < 9 → ∀ y, y < 9 → ∀ z, z < 9 → x + y + z ≤ 8 ∧ x ≤ 0 ∧ 0 < y → FP.f2i (FP.fsub (FP.fadd (FP.fadd (FP.fadd FP.fconst0 (FP.fmul (FP.i2f (nI x)) (FP.fdiv (FP.i2f (nI 2)) 1082130432))) (FP.fmul (FP.i2f (nI y)) (FP.fdiv (FP.i2f (nI 3)) 1082130432))) (FP.fmul (FP.i2f (nI z)) (FP.fdiv (FP.i2f (nI 4)) 1082130432))) (FP.fmul 1040187392 (FP.i2f (nI z)))) = nI (atk x y z)) x (by omega) y (by omega) z (by omega) ⟨hx, (Nat.le_of_eq kx), ky⟩, fun _ _ => trivial⟩
  ·
    refine z_iconst (v := nI 1) X dX3_attack_57 (by decide) ?_
    refine z_goto (tgt := 62) X dX3_attack_58 (by decide) ?_
    refine z_istore_n X dX3_attack_62 rfl (Nat.le_of_ble_eq_true rfl) ?_
    refine z_lv (lv' := [some (.ref (a 0)), some (.float (FP.fadd FP.fconst0 (FP.fmul (FP.i2f (nI x)) (FP.fdiv (FP.i2f (nI 2)) 1082130432)))), some (.int (nI 1)), some (.int (nI 0)), some (.int (nI x))]) rfl ?_
    refine z_iinc (v := nI 1) X dX3_attack_63 rfl (by decide) ?_
    refine z_lv (lv' := [some (.ref (a 0)), some (.float (FP.fadd FP.fconst0 (FP.fmul (FP.i2f (nI x)) (FP.fdiv (FP.i2f (nI 2)) 1082130432)))), some (.int (nI 1)), some (.int (nI 1)), some (.int (nI x))]) rfl ?_
    refine z_goto (tgt := 6) X dX3_attack_66 (by decide) ?_
    refine z_iload_n X dX3_attack_6 rfl rfl ?_
    refine z_iconst (v := nI 3) X dX3_attack_7 (by decide) ?_
    refine n_icmp_ge (tgt := 69) X dX3_attack_8 (by decide) (by omega) (by omega) (fun c8 => absurd c8 (by decide)) (fun _ => ?_)
    refine z_aload_n X dX3_attack_11 rfl rfl ?_
    refine z_get X (C := RX3) (T := TX3) (N := 8) (ci := 3) (v := .ref (a 4)) inZ3 0 3 rfl rfl (by decide) q_fl_X3_30 rfl rfl dX3_attack_12 ?_
    refine z_iload_n X dX3_attack_15 rfl rfl ?_
    refine z_callV1 (k := 0) (n := 0) (st := []) X (c_X0_levelIn l D t (a 4) (a 22) (nI 1) (S 18 0) (S 15) (Or.inr ⟨1, by decide, rfl⟩)) k_X0_levelIn q_ml_X3_188 [4, 22] ⟨by decide, rfl⟩ 4 0 rfl rfl (by decide) rfl rfl rfl (Nat.le_of_ble_eq_true rfl) ⟨Nat.zero_le _, Nat.zero_le _⟩ dX3_attack_16 (fun r16 h16 => ?_)
    rw [if_neg (zn_m1 1 (by decide)), nI_clamp (by decide), h15] at h16
    subst h16
    refine z_top (y := nI y) rfl ?_
    refine z_istore X dX3_attack_19 (Nat.le_of_ble_eq_true rfl) ?_
    refine z_lv (lv' := [some (.ref (a 0)), some (.float (FP.fadd FP.fconst0 (FP.fmul (FP.i2f (nI x)) (FP.fdiv (FP.i2f (nI 2)) 1082130432)))), some (.int (nI 1)), some (.int (nI 1)), some (.int (nI y))]) rfl ?_
    refine z_fload_n X dX3_attack_21 rfl rfl ?_
    refine z_iload X dX3_attack_22 rfl ?_
    refine z_i2f X dX3_attack_24 ?_
    refine z_iload_n X dX3_attack_25 rfl rfl ?_
    refine z_iconst (v := nI 2) X dX3_attack_26 (by decide) ?_
    refine n_iadd X dX3_attack_27 ?_
    refine z_i2f X dX3_attack_28 ?_
    refine z_ldcf X q_kf_X3_213 dX3_attack_29 ?_
    refine z_fdiv X dX3_attack_31 ((by unfold vf_n32; decide +kernel : vf_n32 (FP.fdiv (FP.i2f (nI 3)) 1082130432))) ?_
    refine z_fmul X dX3_attack_32 ((by unfold vf_n32; decide +kernel : ∀ y, y < 9 → vf_n32 (FP.fmul (FP.i2f (nI y)) (FP.fdiv (FP.i2f (nI 3)) 1082130432))) y (by omega)) ?_
    refine z_fadd X dX3_attack_33 ((by unfold vf_n32; decide +kernel : ∀ x, x < 9 → ∀ y, y < 9 → vf_n32 (FP.fadd (FP.fadd FP.fconst0 (FP.fmul (FP.i2f (nI x)) (FP.fdiv (FP.i2f (nI 2)) 1082130432))) (FP.fmul (FP.i2f (nI y)) (FP.fdiv (FP.i2f (nI 3)) 1082130432)))) x (by omega) y (by omega)) ?_
    refine z_fstore_n X dX3_attack_34 rfl (Nat.le_of_ble_eq_true rfl) ?_
    refine z_lv (lv' := [some (.ref (a 0)), some (.float (FP.fadd (FP.fadd FP.fconst0 (FP.fmul (FP.i2f (nI x)) (FP.fdiv (FP.i2f (nI 2)) 1082130432))) (FP.fmul (FP.i2f (nI y)) (FP.fdiv (FP.i2f (nI 3)) 1082130432)))), some (.int (nI 1)), some (.int (nI 1)), some (.int (nI y))]) rfl ?_
    refine z_iload_n X dX3_attack_35 rfl rfl ?_
    refine n_if_eq (tgt := 48) X dX3_attack_36 (by decide) (by omega) (fun c36 => absurd c36 (by decide)) (fun _ => ?_)
    refine z_fload_n X dX3_attack_39 rfl rfl ?_
    refine z_ldcf X q_kf_X3_214 dX3_attack_40 ?_
    refine z_iload X dX3_attack_42 rfl ?_
    refine z_i2f X dX3_attack_44 ?_
    refine z_fmul X dX3_attack_45 ((by unfold vf_n32; decide +kernel : ∀ y, y < 9 → vf_n32 (FP.fmul 1040187392 (FP.i2f (nI y)))) y (by omega)) ?_
    refine z_fsub X dX3_attack_46 ((by unfold vf_n32; decide +kernel : ∀ x, x < 9 → ∀ y, y < 9 → vf_n32 (FP.fsub (FP.fadd (FP.fadd FP.fconst0 (FP.fmul (FP.i2f (nI x)) (FP.fdiv (FP.i2f (nI 2)) 1082130432))) (FP.fmul (FP.i2f (nI y)) (FP.fdiv (FP.i2f (nI 3)) 1082130432))) (FP.fmul 1040187392 (FP.i2f (nI y))))) x (by omega) y (by omega)) ?_
    refine z_fstore_n X dX3_attack_47 rfl (Nat.le_of_ble_eq_true rfl) ?_
    refine z_lv (lv' := [some (.ref (a 0)), some (.float (FP.fsub (FP.fadd (FP.fadd FP.fconst0 (FP.fmul (FP.i2f (nI x)) (FP.fdiv (FP.i2f (nI 2)) 1082130432))) (FP.fmul (FP.i2f (nI y)) (FP.fdiv (FP.i2f (nI 3)) 1082130432))) (FP.fmul 1040187392 (FP.i2f (nI y))))), some (.int (nI 1)), some (.int (nI 1)), some (.int (nI y))]) rfl ?_
    refine z_iload_n X dX3_attack_48 rfl rfl ?_
    refine n_if_ne (tgt := 57) X dX3_attack_49 (by decide) (by omega) (fun _ => ?_) (fun c49 => absurd c49 (by decide))
    refine z_iconst (v := nI 1) X dX3_attack_57 (by decide) ?_
    refine z_goto (tgt := 62) X dX3_attack_58 (by decide) ?_
    refine z_istore_n X dX3_attack_62 rfl (Nat.le_of_ble_eq_true rfl) ?_
    refine z_lv (lv' := [some (.ref (a 0)), some (.float (FP.fsub (FP.fadd (FP.fadd FP.fconst0 (FP.fmul (FP.i2f (nI x)) (FP.fdiv (FP.i2f (nI 2)) 1082130432))) (FP.fmul (FP.i2f (nI y)) (FP.fdiv (FP.i2f (nI 3)) 1082130432))) (FP.fmul 1040187392 (FP.i2f (nI y))))), some (.int (nI 1)), some (.int (nI 1)), some (.int (nI y))]) rfl ?_
    refine z_iinc (v := nI 2) X dX3_attack_63 rfl (by decide) ?_
    refine z_lv (lv' := [some (.ref (a 0)), some (.float (FP.fsub (FP.fadd (FP.fadd FP.fconst0 (FP.fmul (FP.i2f (nI x)) (FP.fdiv (FP.i2f (nI 2)) 1082130432))) (FP.fmul (FP.i2f (nI y)) (FP.fdiv (FP.i2f (nI 3)) 1082130432))) (FP.fmul 1040187392 (FP.i2f (nI y))))), some (.int (nI 1)), some (.int (nI 2)), some (.int (nI y))]) rfl ?_
    refine z_goto (tgt := 6) X dX3_attack_66 (by decide) ?_
    refine z_iload_n X dX3_attack_6 rfl rfl ?_
    refine z_iconst (v := nI 3) X dX3_attack_7 (by decide) ?_
    refine n_icmp_ge (tgt := 69) X dX3_attack_8 (by decide) (by omega) (by omega) (fun c8 => absurd c8 (by decide)) (fun _ => ?_)
    refine z_aload_n X dX3_attack_11 rfl rfl ?_
    refine z_get X (C := RX3) (T := TX3) (N := 8) (ci := 3) (v := .ref (a 4)) inZ3 0 3 rfl rfl (by decide) q_fl_X3_30 rfl rfl dX3_attack_12 ?_
    refine z_iload_n X dX3_attack_15 rfl rfl ?_
    refine z_callV1 (k := 0) (n := 0) (st := []) X (c_X0_levelIn l D t (a 4) (a 22) (nI 2) (S 18 0) (S 15) (Or.inr ⟨2, by decide, rfl⟩)) k_X0_levelIn q_ml_X3_188 [4, 22] ⟨by decide, rfl⟩ 4 0 rfl rfl (by decide) rfl rfl rfl (Nat.le_of_ble_eq_true rfl) ⟨Nat.zero_le _, Nat.zero_le _⟩ dX3_attack_16 (fun r16 h16 => ?_)
    rw [if_neg (zn_m1 2 (by decide)), nI_clamp (by decide), h15] at h16
    subst h16
    refine z_top (y := nI z) rfl ?_
    refine z_istore X dX3_attack_19 (Nat.le_of_ble_eq_true rfl) ?_
    refine z_lv (lv' := [some (.ref (a 0)), some (.float (FP.fsub (FP.fadd (FP.fadd FP.fconst0 (FP.fmul (FP.i2f (nI x)) (FP.fdiv (FP.i2f (nI 2)) 1082130432))) (FP.fmul (FP.i2f (nI y)) (FP.fdiv (FP.i2f (nI 3)) 1082130432))) (FP.fmul 1040187392 (FP.i2f (nI y))))), some (.int (nI 1)), some (.int (nI 2)), some (.int (nI z))]) rfl ?_
    refine z_fload_n X dX3_attack_21 rfl rfl ?_
    refine z_iload X dX3_attack_22 rfl ?_
    refine z_i2f X dX3_attack_24 ?_
    refine z_iload_n X dX3_attack_25 rfl rfl ?_
    refine z_iconst (v := nI 2) X dX3_attack_26 (by decide) ?_
    refine n_iadd X dX3_attack_27 ?_
    refine z_i2f X dX3_attack_28 ?_
    refine z_ldcf X q_kf_X3_213 dX3_attack_29 ?_
    refine z_fdiv X dX3_attack_31 ((by unfold vf_n32; decide +kernel : vf_n32 (FP.fdiv (FP.i2f (nI 4)) 1082130432))) ?_
    refine z_fmul X dX3_attack_32 ((by unfold vf_n32; decide +kernel : ∀ z, z < 9 → vf_n32 (FP.fmul (FP.i2f (nI z)) (FP.fdiv (FP.i2f (nI 4)) 1082130432))) z (by omega)) ?_
    refine z_fadd X dX3_attack_33 ((by unfold vf_n32; decide +kernel : ∀ x, x < 9 → ∀ y, y < 9 → ∀ z, z < 9 → x + y + z ≤ 8 → vf_n32 (FP.fadd (FP.fsub (FP.fadd (FP.fadd FP.fconst0 (FP.fmul (FP.i2f (nI x)) (FP.fdiv (FP.i2f (nI 2)) 1082130432))) (FP.fmul (FP.i2f (nI y)) (FP.fdiv (FP.i2f (nI 3)) 1082130432))) (FP.fmul 1040187392 (FP.i2f (nI y)))) (FP.fmul (FP.i2f (nI z)) (FP.fdiv (FP.i2f (nI 4)) 1082130432)))) x (by omega) y (by omega) z (by omega) (by omega)) ?_
    refine z_fstore_n X dX3_attack_34 rfl (Nat.le_of_ble_eq_true rfl) ?_
    refine z_lv (lv' := [some (.ref (a 0)), some (.float (FP.fadd (FP.fsub (FP.fadd (FP.fadd FP.fconst0 (FP.fmul (FP.i2f (nI x)) (FP.fdiv (FP.i2f (nI 2)) 1082130432))) (FP.fmul (FP.i2f (nI y)) (FP.fdiv (FP.i2f (nI 3)) 1082130432))) (FP.fmul 1040187392 (FP.i2f (nI y)))) (FP.fmul (FP.i2f (nI z)) (FP.fdiv (FP.i2f (nI 4)) 1082130432)))), some (.int (nI 1)), some (.int (nI 2)), some (.int (nI z))]) rfl ?_
    refine z_iload_n X dX3_attack_35 rfl rfl ?_
    refine n_if_eq (tgt := 48) X dX3_attack_36 (by decide) (by omega) (fun c36 => absurd c36 (by decide)) (fun _ => ?_)
    refine z_fload_n X dX3_attack_39 rfl rfl ?_
    refine z_ldcf X q_kf_X3_214 dX3_attack_40 ?_
    refine z_iload X dX3_attack_42 rfl ?_
    refine z_i2f X dX3_attack_44 ?_
    refine z_fmul X dX3_attack_45 ((by unfold vf_n32; decide +kernel : ∀ z, z < 9 → vf_n32 (FP.fmul 1040187392 (FP.i2f (nI z)))) z (by omega)) ?_
    refine z_fsub X dX3_attack_46 ((by unfold vf_n32; decide +kernel : ∀ x, x < 9 → ∀ y, y < 9 → ∀ z, z < 9 → x + y + z ≤ 8 → vf_n32 (FP.fsub (FP.fadd (FP.fsub (FP.fadd (FP.fadd FP.fconst0 (FP.fmul (FP.i2f (nI x)) (FP.fdiv (FP.i2f (nI 2)) 1082130432))) (FP.fmul (FP.i2f (nI y)) (FP.fdiv (FP.i2f (nI 3)) 1082130432))) (FP.fmul 1040187392 (FP.i2f (nI y)))) (FP.fmul (FP.i2f (nI z)) (FP.fdiv (FP.i2f (nI 4)) 1082130432))) (FP.fmul 1040187392 (FP.i2f (nI z))))) x (by omega) y (by omega) z (by omega) (by omega)) ?_
    refine z_fstore_n X dX3_attack_47 rfl (Nat.le_of_ble_eq_true rfl) ?_
    refine z_lv (lv' := [some (.ref (a 0)), some (.float (FP.fsub (FP.fadd (FP.fsub (FP.fadd (FP.fadd FP.fconst0 (FP.fmul (FP.i2f (nI x)) (FP.fdiv (FP.i2f (nI 2)) 1082130432))) (FP.fmul (FP.i2f (nI y)) (FP.fdiv (FP.i2f (nI 3)) 1082130432))) (FP.fmul 1040187392 (FP.i2f (nI y)))) (FP.fmul (FP.i2f (nI z)) (FP.fdiv (FP.i2f (nI 4)) 1082130432))) (FP.fmul 1040187392 (FP.i2f (nI z))))), some (.int (nI 1)), some (.int (nI 2)), some (.int (nI z))]) rfl ?_
    refine z_iload_n X dX3_attack_48 rfl rfl ?_
    refine n_if_ne (tgt := 57) X dX3_attack_49 (by decide) (by omega) (fun _ => ?_) (fun c49 => absurd c49 (by decide))
    refine z_iconst (v := nI 1) X dX3_attack_57 (by decide) ?_
    refine z_goto (tgt := 62) X dX3_attack_58 (by decide) ?_
    refine z_istore_n X dX3_attack_62 rfl (Nat.le_of_ble_eq_true rfl) ?_
    refine z_lv (lv' := [some (.ref (a 0)), some (.float (FP.fsub (FP.fadd (FP.fsub (FP.fadd (FP.fadd FP.fconst0 (FP.fmul (FP.i2f (nI x)) (FP.fdiv (FP.i2f (nI 2)) 1082130432))) (FP.fmul (FP.i2f (nI y)) (FP.fdiv (FP.i2f (nI 3)) 1082130432))) (FP.fmul 1040187392 (FP.i2f (nI y)))) (FP.fmul (FP.i2f (nI z)) (FP.fdiv (FP.i2f (nI 4)) 1082130432))) (FP.fmul 1040187392 (FP.i2f (nI z))))), some (.int (nI 1)), some (.int (nI 2)), some (.int (nI z))]) rfl ?_
    refine z_iinc (v := nI 3) X dX3_attack_63 rfl (by decide) ?_
    refine z_lv (lv' := [some (.ref (a 0)), some (.float (FP.fsub (FP.fadd (FP.fsub (FP.fadd (FP.fadd FP.fconst0 (FP.fmul (FP.i2f (nI x)) (FP.fdiv (FP.i2f (nI 2)) 1082130432))) (FP.fmul (FP.i2f (nI y)) (FP.fdiv (FP.i2f (nI 3)) 1082130432))) (FP.fmul 1040187392 (FP.i2f (nI y)))) (FP.fmul (FP.i2f (nI z)) (FP.fdiv (FP.i2f (nI 4)) 1082130432))) (FP.fmul 1040187392 (FP.i2f (nI z))))), some (.int (nI 1)), some (.int (nI 3)), some (.int (nI z))]) rfl ?_
    refine z_goto (tgt := 6) X dX3_attack_66 (by decide) ?_
    refine z_iload_n X dX3_attack_6 rfl rfl ?_
    refine z_iconst (v := nI 3) X dX3_attack_7 (by decide) ?_
    refine n_icmp_ge (tgt := 69) X dX3_attack_8 (by decide) (by omega) (by omega) (fun _ => ?_) (fun c8 => absurd c8 (by decide))
    refine z_fload_n X dX3_attack_69 rfl rfl ?_
    refine z_f2i X dX3_attack_70 ?_
    refine z_iret X Z rfl dX3_attack_71 ?_
    exact ⟨(), (by decide +kernel : ∀ x, x < 9 → ∀ y, y < 9 → ∀ z, z < 9 → x + y + z ≤ 8 ∧ 0 < x → FP.f2i (FP.fsub (FP.fadd (FP.fsub (FP.fadd (FP.fadd FP.fconst0 (FP.fmul (FP.i2f (nI x)) (FP.fdiv (FP.i2f (nI 2)) 1082130432))) (FP.fmul (FP.i2f (nI y)) (FP.fdiv (FP.i2f (nI 3)) 1082130432))) (FP.fmul 1040187392 (FP.i2f (nI y)))) (FP.fmul (FP.i2f (nI z)) (FP.fdiv (FP.i2f (nI 4)) 1082130432))) (FP.fmul 1040187392 (FP.i2f (nI z)))) = nI (atk x y z)) x (by omega) y (by omega) z (by omega) ⟨hx, kx⟩, fun _ _ => trivial⟩
set_option maxHeartbeats 4000000 in
set_option maxRecDepth 100000 in
theorem c_X3_stepOfFirstOrder (l : Launch) (D : va_G) (t : ClassId × ClassId × ClassId) (a : Nat → Nat) (S : zS) (Xn Yn Zn G : Nat) (e : Nat → Int32) (w : Nat) (h15 : S 15 = l3 Xn Yn Zn) (h18 : S 18 0 = nI G) (hI : zI S) (hG : G < 256) (hX : Xn + Yn + Zn ≤ 8) (hT : Tb S Xn Yn Zn G e 0) (hR : Rc S Xn Yn Zn G 0 0 0 0) (hw : w < Xn + Yn + Zn + p8 G) : zM2 l yX3_stepOfFirstOrder cX3_stepOfFirstOrder 4 (some .int) 5 D t [.ref (a 0), .int (nI w)] (wR t a (T3 S 0 0 0 0 e)) (fun r (u : Nat × Nat × Nat × Nat) => ∃ c k, pth S Xn Yn Zn G w c ∧ lead S Xn Yn Zn G c k ∧ r = nI (cnv k)) (fun u => wR t a (T3 S u.1 u.2.1 u.2.2.1 u.2.2.2 e)) := by
  refine z_m2 (by decide +kernel) (Nat.le_of_ble_eq_true rfl) (by simp [Value.category]) ?_
  intro E X Z Y
  refine z_lv (lv' := [some (.ref (a 0)), some (.int (nI w)), none, none]) rfl ?_
  have hp8 := p8_le G hG
  refine z_iconst (v := (-1)) X dX3_stepOfFirstOrder_0 (by decide) ?_
  refine z_istore_n X dX3_stepOfFirstOrder_1 rfl (Nat.le_of_ble_eq_true rfl) ?_
  refine z_lv (lv' := [some (.ref (a 0)), some (.int (nI w)), some (.int (-1)), none]) rfl ?_
  refine z_iconst (v := nI 0) X dX3_stepOfFirstOrder_2 (by decide) ?_
  refine z_istore_n X dX3_stepOfFirstOrder_3 rfl (Nat.le_of_ble_eq_true rfl) ?_
  refine z_lv (lv' := [some (.ref (a 0)), some (.int (nI w)), some (.int (-1)), some (.int (nI 0))]) rfl ?_
  refine zl_up (w + 1) (fun i => ∀ (v : Int32) (x : Nat) (y : Nat) (z : Nat) (s : Nat), (pth S Xn Yn Zn G i (x, y, z, s) ∧ Rc S Xn Yn Zn G x y z s ∧ rem Xn Yn Zn G x y z s + i = Xn + Yn + Zn + p8 G ∧ (0 < i → ∃ c k, pth S Xn Yn Zn G (i - 1) c ∧ lead S Xn Yn Zn G c k ∧ v = nI k)) → Wz E 0 0 4 [some (.ref (a 0)), some (.int (nI w)), some (.int v), some (.int (nI i))] [] (wR t a (T3 S x y z s e))) ?_ ?_ 0 (by omega) (-1) 0 0 0 0 (⟨rfl, hR, by unfold rem; simp [pcN], fun h => absurd h (by decide)⟩)
  ·
    intro v x y z s hv
    refine z_iload_n X dX3_stepOfFirstOrder_4 rfl rfl ?_
    refine z_iload_n X dX3_stepOfFirstOrder_5 rfl rfl ?_
    refine n_icmp_gt (tgt := 35) X dX3_stepOfFirstOrder_6 (by decide) (by omega) (by omega) (fun c6 => ?_) (fun c6 => absurd c6 (by omega))
    obtain ⟨c, k, hc1, hc2, rfl⟩ := hv.2.2.2 (by omega)
    have hk := hc2.1
    rw [Nat.add_sub_cancel] at hc1
    refine z_iload_n X dX3_stepOfFirstOrder_35 rfl rfl ?_
    refine z_iconst (v := nI 3) X dX3_stepOfFirstOrder_36 (by decide) ?_
    refine n_icmp_ge (tgt := 44) X dX3_stepOfFirstOrder_37 (by decide) (by omega) (by omega) (fun c37 => ?_) (fun c37 => ?_)
    ·
      refine z_bipush (v := nI 10) X dX3_stepOfFirstOrder_44 (by decide) ?_
      refine z_iload_n X dX3_stepOfFirstOrder_46 rfl rfl ?_
      refine n_iadd X dX3_stepOfFirstOrder_47 ?_
      refine z_iconst (v := nI 3) X dX3_stepOfFirstOrder_48 (by decide) ?_
      refine n_isub X dX3_stepOfFirstOrder_49 (by omega) ?_
      refine z_iret X Z rfl dX3_stepOfFirstOrder_50 ?_
      exact ⟨(x, y, z, s), ⟨c, k, hc1, hc2, by unfold cnv; rw [if_neg (by omega)]⟩, fun q hq => hq⟩
    ·
      refine z_iload_n X dX3_stepOfFirstOrder_40 rfl rfl ?_
      refine z_goto (tgt := 50) X dX3_stepOfFirstOrder_41 (by decide) ?_
      refine z_iret X Z rfl dX3_stepOfFirstOrder_50 ?_
      exact ⟨(x, y, z, s), ⟨c, k, hc1, hc2, by unfold cnv; rw [if_pos (by omega)]⟩, fun q hq => hq⟩
  ·
    intro i hi ih v x y z s hv
    refine z_iload_n X dX3_stepOfFirstOrder_4 rfl rfl ?_
    refine z_iload_n X dX3_stepOfFirstOrder_5 rfl rfl ?_
    refine n_icmp_gt (tgt := 35) X dX3_stepOfFirstOrder_6 (by decide) (by omega) (by omega) (fun c6 => absurd c6 (by omega)) (fun c6 => ?_)
    refine z_aload_n X dX3_stepOfFirstOrder_9 rfl rfl ?_
    refine z_aload_n X dX3_stepOfFirstOrder_10 rfl rfl ?_
    refine z_get X (C := RX3) (T := TX3) (N := 8) (ci := 3) (v := .ref (a 4)) inZ3 0 3 rfl rfl (by decide) q_fl_X3_30 rfl rfl dX3_stepOfFirstOrder_11 ?_
    refine z_get X (C := RX0) (T := TX0) (N := 2) (ci := 0) (v := .int (S 18 0)) inZ0 4 1 rfl rfl (by decide) q_fl_X3_155 rfl rfl dX3_stepOfFirstOrder_14 ?_
    refine z_top (y := nI G) (h18) ?_
    refine z_callV2 (k := 0) (n := 0) (st := []) X Y aR_eq (c_X3_firstStepTowards l D t a S Xn Yn Zn G x y z s e h15 hI hG hX (Rc_inB hv.2.1)) k_X3_firstStepTowards q_ml_X3_262 is24 (fun u => wR t a (T3 S x y z s e)) (fun u => swR) ppR 0 3 rfl rfl (by decide) rfl rfl rfl (Nat.le_of_ble_eq_true rfl) ⟨Nat.zero_le _, Nat.zero_le _⟩ dX3_stepOfFirstOrder_17 (fun r17 u17 h17 => ?_)
    obtain ⟨k, rfl, hl⟩ := fst_lead hT hG hv.2.1 (by have q2 := hv.2.2.1; omega) h17
    have hk := hl.1
    have hs := sub8_lt (Rc_inB hv.2.1).2.2.2 hG
    refine z_istore_n X dX3_stepOfFirstOrder_20 rfl (Nat.le_of_ble_eq_true rfl) ?_
    refine z_lv (lv' := [some (.ref (a 0)), some (.int (nI w)), some (.int (nI k)), some (.int (nI i))]) rfl ?_
    refine z_aload_n X dX3_stepOfFirstOrder_21 rfl rfl ?_
    refine z_get X (C := RX3) (T := TX3) (N := 8) (ci := 3) (v := .ref (a 6)) inZ3 0 6 rfl rfl (by decide) q_fl_X3_41 rfl rfl dX3_stepOfFirstOrder_22 ?_
    refine z_iload_n X dX3_stepOfFirstOrder_25 rfl rfl ?_
    refine z_callV3 (k := 0) (n := 0) (st := []) X Y aR_eq (c_goOnT l D t a x y z s k (by omega) (by omega)) k_X0_goOn q_ml_X3_271 [6, 23] (fun _ => wR t a (T3 S (gx k x) (gy k y) (gz k z) (gs k s) e)) (fun _ => swT3) ppT3 6 0 rfl rfl (by decide) rfl rfl rfl (Nat.le_of_ble_eq_true rfl) ⟨Nat.zero_le _, Nat.zero_le _⟩ dX3_stepOfFirstOrder_26 (fun _ _ => ?_)
    refine z_iinc (v := nI (i + 1)) X dX3_stepOfFirstOrder_29 rfl (nI_add i 1) ?_
    refine z_lv (lv' := [some (.ref (a 0)), some (.int (nI w)), some (.int (nI k)), some (.int (nI (i + 1)))]) rfl ?_
    refine z_goto (tgt := 4) X dX3_stepOfFirstOrder_32 (by decide) ?_
    exact ih (nI k) (gx k x) (gy k y) (gz k z) (gs k s) (⟨⟨_, k, hv.1, hl, rfl⟩, hl.2.2.1, by have q := lead_rem hG hl (Rc_inB hv.2.1); have q2 := hv.2.2.1; simp only at q; omega, fun _ => ⟨_, k, hv.1, hl, rfl⟩⟩)
