theorem stp_mt {S S' : zS} {X Y Z G x y z s k : Nat} (h : ∀ x y z s j, mt S x y z s j ↔ mt S' x y z s j) : stp S X Y Z G x y z s k ↔ stp S' X Y Z G x y z s k := by unfold stp; rw [h]
theorem lead_mt {S S' : zS} {X Y Z G k : Nat} {c : Nat × Nat × Nat × Nat} (h : ∀ x y z s j, mt S x y z s j ↔ mt S' x y z s j) (hl : lead S X Y Z G c k) : lead S' X Y Z G c k :=
  ⟨hl.1, (stp_mt h).mp hl.2.1, (Rc_mt h).mp hl.2.2.1, fun i hi q => hl.2.2.2 i hi ⟨(stp_mt h).mpr q.1, (Rc_mt h).mpr q.2⟩⟩
theorem pth_mt {S S' : zS} {X Y Z G : Nat} (h : ∀ x y z s j, mt S x y z s j ↔ mt S' x y z s j) : ∀ m c, pth S X Y Z G m c → pth S' X Y Z G m c
  | 0, _, q => q
  | m + 1, _, ⟨c', k, h1, h2, h3⟩ => ⟨c', k, pth_mt h m c' h1, lead_mt h h2, h3⟩
theorem lead_go {S : zS} {X Y Z G x y z s k x' y' z' s' : Nat} (hG : G < 256) (hl : lead S X Y Z G (x, y, z, s) k) (hb : inB X Y Z G x y z s) (e : goc k (x, y, z, s) = (x', y', z', s')) : Rc S X Y Z G x' y' z' s' ∧ rem X Y Z G x' y' z' s' + 1 = rem X Y Z G x y z s ∧ ∀ m, pth S X Y Z G m (x, y, z, s) → pth S X Y Z G (m + 1) (x', y', z', s') := by
  have e1 : gx k x = x' := congrArg (fun c => c.1) e
  have e2 : gy k y = y' := congrArg (fun c => c.2.1) e
  have e3 : gz k z = z' := congrArg (fun c => c.2.2.1) e
  have e4 : gs k s = s' := congrArg (fun c => c.2.2.2) e
  subst e1 e2 e3 e4
  exact ⟨hl.2.2.1, lead_rem hG hl hb, fun m hp => ⟨(x, y, z, s), k, hp, hl, rfl⟩⟩
theorem goc_g {x y z s j : Nat} : goc (3 + j) (x, y, z, s) = (x, y, z, s ||| 2 ^ j) := by
  unfold goc gx gy gz gs
  simp only
  rw [if_neg (by omega), if_neg (by omega), if_neg (by omega), if_pos (by omega), show 3 + j - 3 = j by omega]
set_option maxHeartbeats 600000 in
set_option maxRecDepth 100000 in
theorem c_X4_stepAt (l : Launch) (D : va_G) (t : ClassId × ClassId × ClassId) (b : Nat → Nat) (S : zS) (Xn Yn Zn G : Nat) (h15 : S 15 = l3 Xn Yn Zn) (h18 : S 18 0 = nI G) (hG : G < 256) (hX : Xn + Yn + Zn ≤ 8) (hI : zI S) (h17 : S 17 0 = nI (Xn + Yn + Zn)) (v : Int32) : zM2 l yX4_stepAt cX4_stepAt 8 (some .int) 8 D t [.ref (b 0), .int v] (wM t b S) (fun r (u : zS) => (∃ w, w < 2 ^ 31 ∧ v = nI w ∧ Rc S Xn Yn Zn G 0 0 0 0 ∧ ((Xn + Yn + Zn + p8 G ≤ w ∧ r = -1) ∨ (w < Xn + Yn + Zn + p8 G ∧ ∃ c k, pth S Xn Yn Zn G w c ∧ lead S Xn Yn Zn G c k ∧ r = nI (cnv k))) ∧ ∃ f, u = va_up (va_up S 22 f) 23 (fun _ => nI 0)) ∨ (v < 0 ∧ ∃ f, u = va_up (va_up S 22 f) 23 (fun _ => nI 1)) ∨ (¬ v < 0 ∧ ¬ Rc S Xn Yn Zn G 0 0 0 0 ∧ ∃ f, u = va_up (va_up S 22 f) 23 (fun _ => nI 2))) (fun u => wM t b u) := by
  refine z_m2 (by decide +kernel) (Nat.le_of_ble_eq_true rfl) (by simp [Value.category]) ?_
  intro E X Z Y
  refine z_lv (lv' := [some (.ref (b 0)), some (.int v), none, none, none, none, none, none]) rfl ?_
  have hl5 := h15
  have hp8 := p8_le G hG
  have hmt : ∀ x y z s j, mt S x y z s j ↔ mt (va_up S 23 (fun _ => nI 0)) x y z s j := fun _ _ _ _ _ => Iff.rfl
  refine z_aload_n X dX4_stepAt_0 rfl rfl ?_
  refine z_iload_n X dX4_stepAt_1 rfl rfl ?_
  refine z_if_lt (tgt := 9) X dX4_stepAt_2 (by decide) (fun c2 => ?_) (fun c2 => ?_)
  ·
    refine z_iconst (v := nI 0) X dX4_stepAt_9 (by decide) ?_
    refine z_aload_n X dX4_stepAt_10 rfl rfl ?_
    refine z_aload_n X dX4_stepAt_11 rfl rfl ?_
    refine z_get X (C := RX4) (T := TX4) (N := 21) (ci := 4) (v := .int (S 18 0)) inZ4 0 4 rfl rfl (by decide) q_fl_X4_111 rfl rfl dX4_stepAt_12 ?_
    refine z_top (y := nI G) (h18) ?_
    refine z_callV2 (k := 0) (n := 0) (st := [.int (nI 0), .ref (b 0)]) X Y aM_eq (c_X4_isLawfulWith l D t b S (S 22) Xn Yn Zn G h15 hG hX hI) k_X4_isLawfulWith q_ml_X4_121 is19 (fun u => wM t b (va_up S 22 u)) (fun u => swMF) ppMF 0 4 rfl rfl (by decide) rfl rfl rfl (Nat.le_of_ble_eq_true rfl) ⟨Nat.zero_le _, Nat.zero_le _⟩ dX4_stepAt_15 (fun r15 u15 h15 => ?_)
    obtain ⟨h15, hL15⟩ := h15
    rcases h15 with ⟨rfl, h15⟩ | ⟨rfl, h15⟩
    ·
      refine z_iconst (v := nI 1) X dX4_stepAt_18 (by decide) ?_
      refine z_callV2 (k := 0) (n := 0) (st := []) X Y aM_eq (c_X4_goes l D t b (va_up S 22 u15) (nI 0) (nI 1) (nI 1) False True True (bz_f id) (bz_t trivial) (bz_t trivial)) k_X4_goes q_ml_X4_77 is19 (fun u => wM t b (va_up (va_up S 22 u15) 23 (fun _ => nI u))) (fun u => swM) ppM 0 4 rfl rfl (by decide) rfl rfl rfl (Nat.le_of_ble_eq_true rfl) ⟨Nat.zero_le _, Nat.zero_le _⟩ dX4_stepAt_19 (fun r19 u19 h19 => ?_)
      rcases h19 with ⟨rfl, rfl, g1, g2, g3⟩ | ⟨rfl, rfl, g1⟩ | ⟨rfl, rfl, g1, g2⟩ | ⟨rfl, rfl, g1, g2, g3⟩
      ·
        exact g1.elim
      ·
        refine n_if_eq (tgt := 41) X dX4_stepAt_22 (by decide) (by omega) (fun _ => ?_) (fun c22 => absurd c22 (by decide))
        refine z_aload_n X dX4_stepAt_41 rfl rfl ?_
        refine z_get X (C := RX4) (T := TX4) (N := 21) (ci := 4) (v := .int (nI 1)) inZ4 0 20 rfl rfl (by decide) q_fl_X4_65 rfl rfl dX4_stepAt_42 ?_
        refine n_if_ne (tgt := 52) X dX4_stepAt_45 (by decide) (by omega) (fun _ => ?_) (fun c45 => absurd c45 (by decide))
        refine z_iconst (v := nI 0) X dX4_stepAt_52 (by decide) ?_
        refine z_iret X Z rfl dX4_stepAt_53 ?_
        exact ⟨(va_up (va_up S 22 u15) 23 (fun _ => nI 1)), Or.inr (Or.inl ⟨c2, _, rfl⟩), fun q hq => hq⟩
      ·
        exact absurd trivial g2
      ·
        exact absurd trivial g3
    ·
      refine z_iconst (v := nI 1) X dX4_stepAt_18 (by decide) ?_
      refine z_callV2 (k := 0) (n := 0) (st := []) X Y aM_eq (c_X4_goes l D t b (va_up S 22 u15) (nI 0) (nI 0) (nI 1) False False True (bz_f id) (bz_f id) (bz_t trivial)) k_X4_goes q_ml_X4_77 is19 (fun u => wM t b (va_up (va_up S 22 u15) 23 (fun _ => nI u))) (fun u => swM) ppM 0 4 rfl rfl (by decide) rfl rfl rfl (Nat.le_of_ble_eq_true rfl) ⟨Nat.zero_le _, Nat.zero_le _⟩ dX4_stepAt_19 (fun r19 u19 h19 => ?_)
      rcases h19 with ⟨rfl, rfl, g1, g2, g3⟩ | ⟨rfl, rfl, g1⟩ | ⟨rfl, rfl, g1, g2⟩ | ⟨rfl, rfl, g1, g2, g3⟩
      ·
        exact g2.elim
      ·
        refine n_if_eq (tgt := 41) X dX4_stepAt_22 (by decide) (by omega) (fun _ => ?_) (fun c22 => absurd c22 (by decide))
        refine z_aload_n X dX4_stepAt_41 rfl rfl ?_
        refine z_get X (C := RX4) (T := TX4) (N := 21) (ci := 4) (v := .int (nI 1)) inZ4 0 20 rfl rfl (by decide) q_fl_X4_65 rfl rfl dX4_stepAt_42 ?_
        refine n_if_ne (tgt := 52) X dX4_stepAt_45 (by decide) (by omega) (fun _ => ?_) (fun c45 => absurd c45 (by decide))
        refine z_iconst (v := nI 0) X dX4_stepAt_52 (by decide) ?_
        refine z_iret X Z rfl dX4_stepAt_53 ?_
        exact ⟨(va_up (va_up S 22 u15) 23 (fun _ => nI 1)), Or.inr (Or.inl ⟨c2, _, rfl⟩), fun q hq => hq⟩
      ·
        exact g1.elim
      ·
        exact absurd trivial g3
  ·
    obtain ⟨w, hw, rfl⟩ := nI_of c2
    refine z_iconst (v := nI 1) X dX4_stepAt_5 (by decide) ?_
    refine z_goto (tgt := 10) X dX4_stepAt_6 (by decide) ?_
    refine z_aload_n X dX4_stepAt_10 rfl rfl ?_
    refine z_aload_n X dX4_stepAt_11 rfl rfl ?_
    refine z_get X (C := RX4) (T := TX4) (N := 21) (ci := 4) (v := .int (S 18 0)) inZ4 0 4 rfl rfl (by decide) q_fl_X4_111 rfl rfl dX4_stepAt_12 ?_
    refine z_top (y := nI G) (h18) ?_
    refine z_callV2 (k := 0) (n := 0) (st := [.int (nI 1), .ref (b 0)]) X Y aM_eq (c_X4_isLawfulWith l D t b S (S 22) Xn Yn Zn G h15 hG hX hI) k_X4_isLawfulWith q_ml_X4_121 is19 (fun u => wM t b (va_up S 22 u)) (fun u => swMF) ppMF 0 4 rfl rfl (by decide) rfl rfl rfl (Nat.le_of_ble_eq_true rfl) ⟨Nat.zero_le _, Nat.zero_le _⟩ dX4_stepAt_15 (fun r15 u15 h15 => ?_)
    obtain ⟨h15, hL15⟩ := h15
    rcases h15 with ⟨rfl, h15⟩ | ⟨rfl, h15⟩
    ·
      refine z_iconst (v := nI 1) X dX4_stepAt_18 (by decide) ?_
      refine z_callV2 (k := 0) (n := 0) (st := []) X Y aM_eq (c_X4_goes l D t b (va_up S 22 u15) (nI 1) (nI 1) (nI 1) True True True (bz_t trivial) (bz_t trivial) (bz_t trivial)) k_X4_goes q_ml_X4_77 is19 (fun u => wM t b (va_up (va_up S 22 u15) 23 (fun _ => nI u))) (fun u => swM) ppM 0 4 rfl rfl (by decide) rfl rfl rfl (Nat.le_of_ble_eq_true rfl) ⟨Nat.zero_le _, Nat.zero_le _⟩ dX4_stepAt_19 (fun r19 u19 h19 => ?_)
      rcases h19 with ⟨rfl, rfl, g1, g2, g3⟩ | ⟨rfl, rfl, g1⟩ | ⟨rfl, rfl, g1, g2⟩ | ⟨rfl, rfl, g1, g2, g3⟩
      ·
        refine n_if_eq (tgt := 41) X dX4_stepAt_22 (by decide) (by omega) (fun c22 => absurd c22 (by decide)) (fun _ => ?_)
        refine z_iload_n X dX4_stepAt_25 rfl rfl ?_
        refine z_aload_n X dX4_stepAt_26 rfl rfl ?_
        refine z_get X (C := RX4) (T := TX4) (N := 21) (ci := 4) (v := .int (S 17 0)) inZ4 0 3 rfl rfl (by decide) q_fl_X4_95 rfl rfl dX4_stepAt_27 ?_
        refine z_top (y := nI (Xn + Yn + Zn)) (h17) ?_
        refine z_aload_n X dX4_stepAt_30 rfl rfl ?_
        refine z_get X (C := RX4) (T := TX4) (N := 21) (ci := 4) (v := .int (S 18 0)) inZ4 0 4 rfl rfl (by decide) q_fl_X4_111 rfl rfl dX4_stepAt_31 ?_
        refine z_top (y := nI G) (h18) ?_
        refine z_callS1 (k := 0) (n := 0) (st := [.int (nI (Xn + Yn + Zn)), .int (nI w)]) X (c_X4_many l D t G (by omega)) k_X4_many q_ml_X4_98 [] ⟨by decide, rfl⟩ (by decide) rfl rfl rfl (Nat.le_of_ble_eq_true rfl) ⟨Nat.zero_le _, Nat.zero_le _⟩ dX4_stepAt_34 (fun r34 h34 => ?_)
        subst h34
        refine n_iadd X dX4_stepAt_37 ?_
        refine n_icmp_lt (tgt := 54) X dX4_stepAt_38 (by decide) (by omega) (by omega) (fun c38 => ?_) (fun c38 => ?_)
        ·
          refine z_iconst (v := nI 0) X dX4_stepAt_54 (by decide) ?_
          refine z_istore_n X dX4_stepAt_55 rfl (Nat.le_of_ble_eq_true rfl) ?_
          refine z_lv (lv' := [some (.ref (b 0)), some (.int (nI w)), some (.int (nI 0)), none, none, none, none, none]) rfl ?_
          refine z_iconst (v := nI 0) X dX4_stepAt_56 (by decide) ?_
          refine z_istore_n X dX4_stepAt_57 rfl (Nat.le_of_ble_eq_true rfl) ?_
          refine z_lv (lv' := [some (.ref (b 0)), some (.int (nI w)), some (.int (nI 0)), some (.int (nI 0)), none, none, none, none]) rfl ?_
          refine z_iconst (v := nI 0) X dX4_stepAt_58 (by decide) ?_
          refine z_istore X dX4_stepAt_59 (Nat.le_of_ble_eq_true rfl) ?_
          refine z_lv (lv' := [some (.ref (b 0)), some (.int (nI w)), some (.int (nI 0)), some (.int (nI 0)), some (.int (nI 0)), none, none, none]) rfl ?_
          refine z_iconst (v := nI 0) X dX4_stepAt_61 (by decide) ?_
          refine z_istore X dX4_stepAt_62 (Nat.le_of_ble_eq_true rfl) ?_
          refine z_lv (lv' := [some (.ref (b 0)), some (.int (nI w)), some (.int (nI 0)), some (.int (nI 0)), some (.int (nI 0)), some (.int (nI 0)), none, none]) rfl ?_
          refine z_aload_n X dX4_stepAt_64 rfl rfl ?_
          refine z_iload_n X dX4_stepAt_65 rfl rfl ?_
          refine z_iload_n X dX4_stepAt_66 rfl rfl ?_
          refine z_iload X dX4_stepAt_67 rfl ?_
          refine z_iload X dX4_stepAt_69 rfl ?_
          refine z_callV1 (k := 0) (n := 0) (st := []) X (c_X4_firstStep l D t b (va_up S 23 (fun _ => nI 0)) u15 Xn Yn Zn G hl5 hG hX hI h18 (fun x y z s h1 h2 h3 h4 h5 => (hL15 x y z s h1 h2 h3 h4 h5).iff (Rc_mt hmt)) 0 0 0 0 ((Rc_mt hmt).mp h15) (by rw [rem_all]; omega)) k_X4_firstStep q_ml_X4_149 is19 ⟨by decide, rfl⟩ 0 4 rfl rfl (by decide) rfl rfl rfl (Nat.le_of_ble_eq_true rfl) ⟨Nat.zero_le _, Nat.zero_le _⟩ dX4_stepAt_71 (fun r71 h71 => ?_)
          obtain ⟨q0, rfl, hl0⟩ := h71
          replace hl0 := lead_mt (S' := S) (fun x y z s j => (hmt x y z s j).symm) hl0
          refine z_istore X dX4_stepAt_74 (Nat.le_of_ble_eq_true rfl) ?_
          refine z_lv (lv' := [some (.ref (b 0)), some (.int (nI w)), some (.int (nI 0)), some (.int (nI 0)), some (.int (nI 0)), some (.int (nI 0)), some (.int (nI (cnv q0))), none]) rfl ?_
          refine z_iconst (v := nI 0) X dX4_stepAt_76 (by decide) ?_
          refine z_istore X dX4_stepAt_77 (Nat.le_of_ble_eq_true rfl) ?_
          refine z_lv (lv' := [some (.ref (b 0)), some (.int (nI w)), some (.int (nI 0)), some (.int (nI 0)), some (.int (nI 0)), some (.int (nI 0)), some (.int (nI (cnv q0))), some (.int (nI 0))]) rfl ?_
          refine zl_up w (fun i => ∀ (x : Nat) (y : Nat) (z : Nat) (s : Nat) (q : Nat), (pth S Xn Yn Zn G i (x, y, z, s) ∧ Rc S Xn Yn Zn G x y z s ∧ rem Xn Yn Zn G x y z s + i = Xn + Yn + Zn + p8 G ∧ lead S Xn Yn Zn G (x, y, z, s) q) → Wz E 0 0 79 [some (.ref (b 0)), some (.int (nI w)), some (.int (nI x)), some (.int (nI y)), some (.int (nI z)), some (.int (nI s)), some (.int (nI (cnv q))), some (.int (nI i))] [] (wM t b (va_up (va_up S 22 u15) 23 (fun _ => nI 0)))) ?_ ?_ 0 (by omega) 0 0 0 0 q0 (⟨rfl, h15, by rw [rem_all]; omega, hl0⟩)
          ·
            intro x y z s q hv
            refine z_iload X dX4_stepAt_79 rfl ?_
            refine z_iload_n X dX4_stepAt_81 rfl rfl ?_
            refine n_icmp_ge (tgt := 169) X dX4_stepAt_82 (by decide) (by omega) (by omega) (fun _ => ?_) (fun c82 => absurd c82 (by omega))
            refine z_iload X dX4_stepAt_169 rfl ?_
            refine z_iret X Z rfl dX4_stepAt_171 ?_
            exact ⟨(va_up (va_up S 22 u15) 23 (fun _ => nI 0)), Or.inl ⟨w, hw, rfl, h15, Or.inr ⟨c38, (x, y, z, s), q, hv.1, hv.2.2.2, rfl⟩, _, rfl⟩, fun q hq => hq⟩
          ·
            intro i hi ihi x y z s q hv
            refine z_iload X dX4_stepAt_79 rfl ?_
            refine z_iload_n X dX4_stepAt_81 rfl rfl ?_
            refine n_icmp_ge (tgt := 169) X dX4_stepAt_82 (by decide) (by omega) (by omega) (fun c82 => absurd c82 (by omega)) (fun _ => ?_)
            have hq := hv.2.2.2.1
            have hr := hv.2.2.1
            have hb := Rc_inB hv.2.1
            have hs := sub8_lt hb.2.2.2 hG
            obtain ⟨hx9, hy9, hz9, -⟩ := id hb
            rcases (show q = 0 ∨ q = 1 ∨ q = 2 ∨ ∃ j, q = 3 + j from if h : q < 3 then by omega else Or.inr (Or.inr (Or.inr ⟨q - 3, by omega⟩))) with rfl | rfl | rfl | ⟨j, rfl⟩
            ·
              refine z_lv (lv' := [some (.ref (b 0)), some (.int (nI w)), some (.int (nI x)), some (.int (nI y)), some (.int (nI z)), some (.int (nI s)), some (.int (nI 0)), some (.int (nI i))]) (rfl) ?_
              have hg := lead_go (x' := x + 1) (y' := y) (z' := z) (s' := s) hG hv.2.2.2 hb rfl
              have hR2 := hg.1
              have hg2 := hg.2.1
              have hn2 : 0 < rem Xn Yn Zn G (x + 1) y z s := by omega
              refine z_iload_n X dX4_stepAt_85 rfl rfl ?_
              refine z_iload X dX4_stepAt_86 rfl ?_
              refine n_if_ne (tgt := 95) X dX4_stepAt_88 (by decide) (by omega) (fun c88 => absurd c88 (by decide)) (fun _ => ?_)
              refine z_iconst (v := nI 1) X dX4_stepAt_91 (by decide) ?_
              refine z_goto (tgt := 96) X dX4_stepAt_92 (by decide) ?_
              refine n_iadd X dX4_stepAt_96 ?_
              refine z_istore_n X dX4_stepAt_97 rfl (Nat.le_of_ble_eq_true rfl) ?_
              refine z_lv (lv' := [some (.ref (b 0)), some (.int (nI w)), some (.int (nI (x + 1))), some (.int (nI y)), some (.int (nI z)), some (.int (nI s)), some (.int (nI 0)), some (.int (nI i))]) rfl ?_
              refine z_iload_n X dX4_stepAt_98 rfl rfl ?_
              refine z_iload X dX4_stepAt_99 rfl ?_
              refine z_iconst (v := nI 1) X dX4_stepAt_101 (by decide) ?_
              refine n_icmp_ne (tgt := 109) X dX4_stepAt_102 (by decide) (by omega) (by omega) (fun _ => ?_) (fun c102 => absurd c102 (by decide))
              refine z_iconst (v := nI 0) X dX4_stepAt_109 (by decide) ?_
              refine n_iadd X dX4_stepAt_110 ?_
              refine z_top (y := nI (y)) rfl ?_
              refine z_istore_n X dX4_stepAt_111 rfl (Nat.le_of_ble_eq_true rfl) ?_
              refine z_lv (lv' := [some (.ref (b 0)), some (.int (nI w)), some (.int (nI (x + 1))), some (.int (nI y)), some (.int (nI z)), some (.int (nI s)), some (.int (nI 0)), some (.int (nI i))]) rfl ?_
              refine z_iload X dX4_stepAt_112 rfl ?_
              refine z_iload X dX4_stepAt_114 rfl ?_
              refine z_iconst (v := nI 2) X dX4_stepAt_116 (by decide) ?_
              refine n_icmp_ne (tgt := 124) X dX4_stepAt_117 (by decide) (by omega) (by omega) (fun _ => ?_) (fun c117 => absurd c117 (by decide))
              refine z_iconst (v := nI 0) X dX4_stepAt_124 (by decide) ?_
              refine n_iadd X dX4_stepAt_125 ?_
              refine z_top (y := nI (z)) rfl ?_
              refine z_istore X dX4_stepAt_126 (Nat.le_of_ble_eq_true rfl) ?_
              refine z_lv (lv' := [some (.ref (b 0)), some (.int (nI w)), some (.int (nI (x + 1))), some (.int (nI y)), some (.int (nI z)), some (.int (nI s)), some (.int (nI 0)), some (.int (nI i))]) rfl ?_
              refine z_iload X dX4_stepAt_128 rfl ?_
              refine z_iload X dX4_stepAt_130 rfl ?_
              refine z_bipush (v := nI 10) X dX4_stepAt_132 (by decide) ?_
              refine n_icmp_lt (tgt := 147) X dX4_stepAt_134 (by decide) (by omega) (by omega) (fun _ => ?_) (fun c134 => absurd c134 (by decide))
              refine z_iconst (v := nI 0) X dX4_stepAt_147 (by decide) ?_
              refine n_ior X dX4_stepAt_148 ?_
              refine z_top (y := nI (s)) (congrArg nI (Nat.or_zero _)) ?_
              refine z_istore X dX4_stepAt_149 (Nat.le_of_ble_eq_true rfl) ?_
              refine z_lv (lv' := [some (.ref (b 0)), some (.int (nI w)), some (.int (nI (x + 1))), some (.int (nI y)), some (.int (nI z)), some (.int (nI s)), some (.int (nI 0)), some (.int (nI i))]) rfl ?_
              refine z_aload_n X dX4_stepAt_151 rfl rfl ?_
              refine z_iload_n X dX4_stepAt_152 rfl rfl ?_
              refine z_iload_n X dX4_stepAt_153 rfl rfl ?_
              refine z_iload X dX4_stepAt_154 rfl ?_
              refine z_iload X dX4_stepAt_156 rfl ?_
              refine z_callV1 (k := 0) (n := 0) (st := []) X (c_X4_firstStep l D t b (va_up S 23 (fun _ => nI 0)) u15 Xn Yn Zn G hl5 hG hX hI h18 (fun x y z s h1 h2 h3 h4 h5 => (hL15 x y z s h1 h2 h3 h4 h5).iff (Rc_mt hmt)) (x + 1) y z s ((Rc_mt hmt).mp hR2) hn2) k_X4_firstStep q_ml_X4_149 is19 ⟨by decide, rfl⟩ 0 4 rfl rfl (by decide) rfl rfl rfl (Nat.le_of_ble_eq_true rfl) ⟨Nat.zero_le _, Nat.zero_le _⟩ dX4_stepAt_158 (fun r158 h158 => ?_)
              obtain ⟨q2, rfl, hl2⟩ := h158
              replace hl2 := lead_mt (S' := S) (fun x y z s j => (hmt x y z s j).symm) hl2
              refine z_istore X dX4_stepAt_161 (Nat.le_of_ble_eq_true rfl) ?_
              refine z_lv (lv' := [some (.ref (b 0)), some (.int (nI w)), some (.int (nI (x + 1))), some (.int (nI y)), some (.int (nI z)), some (.int (nI s)), some (.int (nI (cnv q2))), some (.int (nI i))]) rfl ?_
              refine z_iinc (v := nI (i + 1)) X dX4_stepAt_163 rfl (nI_add i 1) ?_
              refine z_lv (lv' := [some (.ref (b 0)), some (.int (nI w)), some (.int (nI (x + 1))), some (.int (nI y)), some (.int (nI z)), some (.int (nI s)), some (.int (nI (cnv q2))), some (.int (nI (i + 1)))]) rfl ?_
              refine z_goto (tgt := 79) X dX4_stepAt_166 (by decide) ?_
              exact ihi (x + 1) y z s q2 (⟨hg.2.2 _ hv.1, hR2, by omega, hl2⟩)
            ·
              refine z_lv (lv' := [some (.ref (b 0)), some (.int (nI w)), some (.int (nI x)), some (.int (nI y)), some (.int (nI z)), some (.int (nI s)), some (.int (nI 1)), some (.int (nI i))]) (rfl) ?_
              have hg := lead_go (x' := x) (y' := y + 1) (z' := z) (s' := s) hG hv.2.2.2 hb rfl
              have hR2 := hg.1
              have hg2 := hg.2.1
              have hn2 : 0 < rem Xn Yn Zn G x (y + 1) z s := by omega
              refine z_iload_n X dX4_stepAt_85 rfl rfl ?_
              refine z_iload X dX4_stepAt_86 rfl ?_
              refine n_if_ne (tgt := 95) X dX4_stepAt_88 (by decide) (by omega) (fun _ => ?_) (fun c88 => absurd c88 (by decide))
              refine z_iconst (v := nI 0) X dX4_stepAt_95 (by decide) ?_
              refine n_iadd X dX4_stepAt_96 ?_
              refine z_top (y := nI (x)) rfl ?_
              refine z_istore_n X dX4_stepAt_97 rfl (Nat.le_of_ble_eq_true rfl) ?_
              refine z_lv (lv' := [some (.ref (b 0)), some (.int (nI w)), some (.int (nI x)), some (.int (nI y)), some (.int (nI z)), some (.int (nI s)), some (.int (nI 1)), some (.int (nI i))]) rfl ?_
              refine z_iload_n X dX4_stepAt_98 rfl rfl ?_
              refine z_iload X dX4_stepAt_99 rfl ?_
              refine z_iconst (v := nI 1) X dX4_stepAt_101 (by decide) ?_
              refine n_icmp_ne (tgt := 109) X dX4_stepAt_102 (by decide) (by omega) (by omega) (fun c102 => absurd c102 (by decide)) (fun _ => ?_)
              refine z_iconst (v := nI 1) X dX4_stepAt_105 (by decide) ?_
              refine z_goto (tgt := 110) X dX4_stepAt_106 (by decide) ?_
              refine n_iadd X dX4_stepAt_110 ?_
              refine z_istore_n X dX4_stepAt_111 rfl (Nat.le_of_ble_eq_true rfl) ?_
              refine z_lv (lv' := [some (.ref (b 0)), some (.int (nI w)), some (.int (nI x)), some (.int (nI (y + 1))), some (.int (nI z)), some (.int (nI s)), some (.int (nI 1)), some (.int (nI i))]) rfl ?_
              refine z_iload X dX4_stepAt_112 rfl ?_
              refine z_iload X dX4_stepAt_114 rfl ?_
              refine z_iconst (v := nI 2) X dX4_stepAt_116 (by decide) ?_
              refine n_icmp_ne (tgt := 124) X dX4_stepAt_117 (by decide) (by omega) (by omega) (fun _ => ?_) (fun c117 => absurd c117 (by decide))
              refine z_iconst (v := nI 0) X dX4_stepAt_124 (by decide) ?_
              refine n_iadd X dX4_stepAt_125 ?_
              refine z_top (y := nI (z)) rfl ?_
              refine z_istore X dX4_stepAt_126 (Nat.le_of_ble_eq_true rfl) ?_
              refine z_lv (lv' := [some (.ref (b 0)), some (.int (nI w)), some (.int (nI x)), some (.int (nI (y + 1))), some (.int (nI z)), some (.int (nI s)), some (.int (nI 1)), some (.int (nI i))]) rfl ?_
              refine z_iload X dX4_stepAt_128 rfl ?_
              refine z_iload X dX4_stepAt_130 rfl ?_
              refine z_bipush (v := nI 10) X dX4_stepAt_132 (by decide) ?_
              refine n_icmp_lt (tgt := 147) X dX4_stepAt_134 (by decide) (by omega) (by omega) (fun _ => ?_) (fun c134 => absurd c134 (by decide))
              refine z_iconst (v := nI 0) X dX4_stepAt_147 (by decide) ?_
              refine n_ior X dX4_stepAt_148 ?_
              refine z_top (y := nI (s)) (congrArg nI (Nat.or_zero _)) ?_
              refine z_istore X dX4_stepAt_149 (Nat.le_of_ble_eq_true rfl) ?_
              refine z_lv (lv' := [some (.ref (b 0)), some (.int (nI w)), some (.int (nI x)), some (.int (nI (y + 1))), some (.int (nI z)), some (.int (nI s)), some (.int (nI 1)), some (.int (nI i))]) rfl ?_
              refine z_aload_n X dX4_stepAt_151 rfl rfl ?_
              refine z_iload_n X dX4_stepAt_152 rfl rfl ?_
              refine z_iload_n X dX4_stepAt_153 rfl rfl ?_
              refine z_iload X dX4_stepAt_154 rfl ?_
              refine z_iload X dX4_stepAt_156 rfl ?_
              refine z_callV1 (k := 0) (n := 0) (st := []) X (c_X4_firstStep l D t b (va_up S 23 (fun _ => nI 0)) u15 Xn Yn Zn G hl5 hG hX hI h18 (fun x y z s h1 h2 h3 h4 h5 => (hL15 x y z s h1 h2 h3 h4 h5).iff (Rc_mt hmt)) x (y + 1) z s ((Rc_mt hmt).mp hR2) hn2) k_X4_firstStep q_ml_X4_149 is19 ⟨by decide, rfl⟩ 0 4 rfl rfl (by decide) rfl rfl rfl (Nat.le_of_ble_eq_true rfl) ⟨Nat.zero_le _, Nat.zero_le _⟩ dX4_stepAt_158 (fun r158 h158 => ?_)
              obtain ⟨q2, rfl, hl2⟩ := h158
              replace hl2 := lead_mt (S' := S) (fun x y z s j => (hmt x y z s j).symm) hl2
              refine z_istore X dX4_stepAt_161 (Nat.le_of_ble_eq_true rfl) ?_
              refine z_lv (lv' := [some (.ref (b 0)), some (.int (nI w)), some (.int (nI x)), some (.int (nI (y + 1))), some (.int (nI z)), some (.int (nI s)), some (.int (nI (cnv q2))), some (.int (nI i))]) rfl ?_
              refine z_iinc (v := nI (i + 1)) X dX4_stepAt_163 rfl (nI_add i 1) ?_
              refine z_lv (lv' := [some (.ref (b 0)), some (.int (nI w)), some (.int (nI x)), some (.int (nI (y + 1))), some (.int (nI z)), some (.int (nI s)), some (.int (nI (cnv q2))), some (.int (nI (i + 1)))]) rfl ?_
              refine z_goto (tgt := 79) X dX4_stepAt_166 (by decide) ?_
              exact ihi x (y + 1) z s q2 (⟨hg.2.2 _ hv.1, hR2, by omega, hl2⟩)
            ·
              refine z_lv (lv' := [some (.ref (b 0)), some (.int (nI w)), some (.int (nI x)), some (.int (nI y)), some (.int (nI z)), some (.int (nI s)), some (.int (nI 2)), some (.int (nI i))]) (rfl) ?_
              have hg := lead_go (x' := x) (y' := y) (z' := z + 1) (s' := s) hG hv.2.2.2 hb rfl
              have hR2 := hg.1
              have hg2 := hg.2.1
              have hn2 : 0 < rem Xn Yn Zn G x y (z + 1) s := by omega
              refine z_iload_n X dX4_stepAt_85 rfl rfl ?_
              refine z_iload X dX4_stepAt_86 rfl ?_
              refine n_if_ne (tgt := 95) X dX4_stepAt_88 (by decide) (by omega) (fun _ => ?_) (fun c88 => absurd c88 (by decide))
              refine z_iconst (v := nI 0) X dX4_stepAt_95 (by decide) ?_
              refine n_iadd X dX4_stepAt_96 ?_
              refine z_top (y := nI (x)) rfl ?_
              refine z_istore_n X dX4_stepAt_97 rfl (Nat.le_of_ble_eq_true rfl) ?_
              refine z_lv (lv' := [some (.ref (b 0)), some (.int (nI w)), some (.int (nI x)), some (.int (nI y)), some (.int (nI z)), some (.int (nI s)), some (.int (nI 2)), some (.int (nI i))]) rfl ?_
              refine z_iload_n X dX4_stepAt_98 rfl rfl ?_
              refine z_iload X dX4_stepAt_99 rfl ?_
              refine z_iconst (v := nI 1) X dX4_stepAt_101 (by decide) ?_
              refine n_icmp_ne (tgt := 109) X dX4_stepAt_102 (by decide) (by omega) (by omega) (fun _ => ?_) (fun c102 => absurd c102 (by decide))
              refine z_iconst (v := nI 0) X dX4_stepAt_109 (by decide) ?_
              refine n_iadd X dX4_stepAt_110 ?_
              refine z_top (y := nI (y)) rfl ?_
              refine z_istore_n X dX4_stepAt_111 rfl (Nat.le_of_ble_eq_true rfl) ?_
              refine z_lv (lv' := [some (.ref (b 0)), some (.int (nI w)), some (.int (nI x)), some (.int (nI y)), some (.int (nI z)), some (.int (nI s)), some (.int (nI 2)), some (.int (nI i))]) rfl ?_
              refine z_iload X dX4_stepAt_112 rfl ?_
              refine z_iload X dX4_stepAt_114 rfl ?_
              refine z_iconst (v := nI 2) X dX4_stepAt_116 (by decide) ?_
              refine n_icmp_ne (tgt := 124) X dX4_stepAt_117 (by decide) (by omega) (by omega) (fun c117 => absurd c117 (by decide)) (fun _ => ?_)
              refine z_iconst (v := nI 1) X dX4_stepAt_120 (by decide) ?_
              refine z_goto (tgt := 125) X dX4_stepAt_121 (by decide) ?_
              refine n_iadd X dX4_stepAt_125 ?_
              refine z_istore X dX4_stepAt_126 (Nat.le_of_ble_eq_true rfl) ?_
              refine z_lv (lv' := [some (.ref (b 0)), some (.int (nI w)), some (.int (nI x)), some (.int (nI y)), some (.int (nI (z + 1))), some (.int (nI s)), some (.int (nI 2)), some (.int (nI i))]) rfl ?_
              refine z_iload X dX4_stepAt_128 rfl ?_
              refine z_iload X dX4_stepAt_130 rfl ?_
              refine z_bipush (v := nI 10) X dX4_stepAt_132 (by decide) ?_
              refine n_icmp_lt (tgt := 147) X dX4_stepAt_134 (by decide) (by omega) (by omega) (fun _ => ?_) (fun c134 => absurd c134 (by decide))
              refine z_iconst (v := nI 0) X dX4_stepAt_147 (by decide) ?_
              refine n_ior X dX4_stepAt_148 ?_
              refine z_top (y := nI (s)) (congrArg nI (Nat.or_zero _)) ?_
              refine z_istore X dX4_stepAt_149 (Nat.le_of_ble_eq_true rfl) ?_
              refine z_lv (lv' := [some (.ref (b 0)), some (.int (nI w)), some (.int (nI x)), some (.int (nI y)), some (.int (nI (z + 1))), some (.int (nI s)), some (.int (nI 2)), some (.int (nI i))]) rfl ?_
              refine z_aload_n X dX4_stepAt_151 rfl rfl ?_
              refine z_iload_n X dX4_stepAt_152 rfl rfl ?_
              refine z_iload_n X dX4_stepAt_153 rfl rfl ?_
              refine z_iload X dX4_stepAt_154 rfl ?_
              refine z_iload X dX4_stepAt_156 rfl ?_
              refine z_callV1 (k := 0) (n := 0) (st := []) X (c_X4_firstStep l D t b (va_up S 23 (fun _ => nI 0)) u15 Xn Yn Zn G hl5 hG hX hI h18 (fun x y z s h1 h2 h3 h4 h5 => (hL15 x y z s h1 h2 h3 h4 h5).iff (Rc_mt hmt)) x y (z + 1) s ((Rc_mt hmt).mp hR2) hn2) k_X4_firstStep q_ml_X4_149 is19 ⟨by decide, rfl⟩ 0 4 rfl rfl (by decide) rfl rfl rfl (Nat.le_of_ble_eq_true rfl) ⟨Nat.zero_le _, Nat.zero_le _⟩ dX4_stepAt_158 (fun r158 h158 => ?_)
              obtain ⟨q2, rfl, hl2⟩ := h158
              replace hl2 := lead_mt (S' := S) (fun x y z s j => (hmt x y z s j).symm) hl2
              refine z_istore X dX4_stepAt_161 (Nat.le_of_ble_eq_true rfl) ?_
              refine z_lv (lv' := [some (.ref (b 0)), some (.int (nI w)), some (.int (nI x)), some (.int (nI y)), some (.int (nI (z + 1))), some (.int (nI s)), some (.int (nI (cnv q2))), some (.int (nI i))]) rfl ?_
              refine z_iinc (v := nI (i + 1)) X dX4_stepAt_163 rfl (nI_add i 1) ?_
              refine z_lv (lv' := [some (.ref (b 0)), some (.int (nI w)), some (.int (nI x)), some (.int (nI y)), some (.int (nI (z + 1))), some (.int (nI s)), some (.int (nI (cnv q2))), some (.int (nI (i + 1)))]) rfl ?_
              refine z_goto (tgt := 79) X dX4_stepAt_166 (by decide) ?_
              exact ihi x y (z + 1) s q2 (⟨hg.2.2 _ hv.1, hR2, by omega, hl2⟩)
            ·
              refine z_lv (lv' := [some (.ref (b 0)), some (.int (nI w)), some (.int (nI x)), some (.int (nI y)), some (.int (nI z)), some (.int (nI s)), some (.int (nI (10 + j))), some (.int (nI i))]) (by rw [cnv_g]) ?_
              have hg := lead_go (x' := x) (y' := y) (z' := z) (s' := s ||| 2 ^ j) hG hv.2.2.2 hb goc_g
              have hR2 := hg.1
              have hg2 := hg.2.1
              have hn2 : 0 < rem Xn Yn Zn G x y z (s ||| 2 ^ j) := by omega
              refine z_iload_n X dX4_stepAt_85 rfl rfl ?_
              refine z_iload X dX4_stepAt_86 rfl ?_
              refine n_if_ne (tgt := 95) X dX4_stepAt_88 (by decide) (by omega) (fun c88 => ?_) (fun c88 => absurd c88 (by omega))
              refine z_iconst (v := nI 0) X dX4_stepAt_95 (by decide) ?_
              refine n_iadd X dX4_stepAt_96 ?_
              refine z_top (y := nI (x)) rfl ?_
              refine z_istore_n X dX4_stepAt_97 rfl (Nat.le_of_ble_eq_true rfl) ?_
              refine z_lv (lv' := [some (.ref (b 0)), some (.int (nI w)), some (.int (nI x)), some (.int (nI y)), some (.int (nI z)), some (.int (nI s)), some (.int (nI (10 + j))), some (.int (nI i))]) rfl ?_
              refine z_iload_n X dX4_stepAt_98 rfl rfl ?_
              refine z_iload X dX4_stepAt_99 rfl ?_
              refine z_iconst (v := nI 1) X dX4_stepAt_101 (by decide) ?_
              refine n_icmp_ne (tgt := 109) X dX4_stepAt_102 (by decide) (by omega) (by omega) (fun c102 => ?_) (fun c102 => absurd c102 (by omega))
              refine z_iconst (v := nI 0) X dX4_stepAt_109 (by decide) ?_
              refine n_iadd X dX4_stepAt_110 ?_
              refine z_top (y := nI (y)) rfl ?_
              refine z_istore_n X dX4_stepAt_111 rfl (Nat.le_of_ble_eq_true rfl) ?_
              refine z_lv (lv' := [some (.ref (b 0)), some (.int (nI w)), some (.int (nI x)), some (.int (nI y)), some (.int (nI z)), some (.int (nI s)), some (.int (nI (10 + j))), some (.int (nI i))]) rfl ?_
              refine z_iload X dX4_stepAt_112 rfl ?_
              refine z_iload X dX4_stepAt_114 rfl ?_
              refine z_iconst (v := nI 2) X dX4_stepAt_116 (by decide) ?_
              refine n_icmp_ne (tgt := 124) X dX4_stepAt_117 (by decide) (by omega) (by omega) (fun c117 => ?_) (fun c117 => absurd c117 (by omega))
              refine z_iconst (v := nI 0) X dX4_stepAt_124 (by decide) ?_
              refine n_iadd X dX4_stepAt_125 ?_
              refine z_top (y := nI (z)) rfl ?_
              refine z_istore X dX4_stepAt_126 (Nat.le_of_ble_eq_true rfl) ?_
              refine z_lv (lv' := [some (.ref (b 0)), some (.int (nI w)), some (.int (nI x)), some (.int (nI y)), some (.int (nI z)), some (.int (nI s)), some (.int (nI (10 + j))), some (.int (nI i))]) rfl ?_
              refine z_iload X dX4_stepAt_128 rfl ?_
              refine z_iload X dX4_stepAt_130 rfl ?_
              refine z_bipush (v := nI 10) X dX4_stepAt_132 (by decide) ?_
              refine n_icmp_lt (tgt := 147) X dX4_stepAt_134 (by decide) (by omega) (by omega) (fun c134 => absurd c134 (by omega)) (fun c134 => ?_)
              refine z_iconst (v := nI 1) X dX4_stepAt_137 (by decide) ?_
              refine z_iload X dX4_stepAt_138 rfl ?_
              refine z_bipush (v := nI 10) X dX4_stepAt_140 (by decide) ?_
              refine n_isub X dX4_stepAt_142 (by omega) ?_
              refine z_top (y := nI j) (by rw [Nat.add_sub_cancel_left]) ?_
              refine n_ishl1 X dX4_stepAt_143 (by omega) ?_
              refine z_goto (tgt := 148) X dX4_stepAt_144 (by decide) ?_
              refine n_ior X dX4_stepAt_148 ?_
              refine z_istore X dX4_stepAt_149 (Nat.le_of_ble_eq_true rfl) ?_
              refine z_lv (lv' := [some (.ref (b 0)), some (.int (nI w)), some (.int (nI x)), some (.int (nI y)), some (.int (nI z)), some (.int (nI (s ||| 2 ^ j))), some (.int (nI (10 + j))), some (.int (nI i))]) rfl ?_
              refine z_aload_n X dX4_stepAt_151 rfl rfl ?_
              refine z_iload_n X dX4_stepAt_152 rfl rfl ?_
              refine z_iload_n X dX4_stepAt_153 rfl rfl ?_
              refine z_iload X dX4_stepAt_154 rfl ?_
              refine z_iload X dX4_stepAt_156 rfl ?_
              refine z_callV1 (k := 0) (n := 0) (st := []) X (c_X4_firstStep l D t b (va_up S 23 (fun _ => nI 0)) u15 Xn Yn Zn G hl5 hG hX hI h18 (fun x y z s h1 h2 h3 h4 h5 => (hL15 x y z s h1 h2 h3 h4 h5).iff (Rc_mt hmt)) x y z (s ||| 2 ^ j) ((Rc_mt hmt).mp hR2) hn2) k_X4_firstStep q_ml_X4_149 is19 ⟨by decide, rfl⟩ 0 4 rfl rfl (by decide) rfl rfl rfl (Nat.le_of_ble_eq_true rfl) ⟨Nat.zero_le _, Nat.zero_le _⟩ dX4_stepAt_158 (fun r158 h158 => ?_)
              obtain ⟨q2, rfl, hl2⟩ := h158
              replace hl2 := lead_mt (S' := S) (fun x y z s j => (hmt x y z s j).symm) hl2
              refine z_istore X dX4_stepAt_161 (Nat.le_of_ble_eq_true rfl) ?_
              refine z_lv (lv' := [some (.ref (b 0)), some (.int (nI w)), some (.int (nI x)), some (.int (nI y)), some (.int (nI z)), some (.int (nI (s ||| 2 ^ j))), some (.int (nI (cnv q2))), some (.int (nI i))]) rfl ?_
              refine z_iinc (v := nI (i + 1)) X dX4_stepAt_163 rfl (nI_add i 1) ?_
              refine z_lv (lv' := [some (.ref (b 0)), some (.int (nI w)), some (.int (nI x)), some (.int (nI y)), some (.int (nI z)), some (.int (nI (s ||| 2 ^ j))), some (.int (nI (cnv q2))), some (.int (nI (i + 1)))]) rfl ?_
              refine z_goto (tgt := 79) X dX4_stepAt_166 (by decide) ?_
              exact ihi x y z (s ||| 2 ^ j) q2 (⟨hg.2.2 _ hv.1, hR2, by omega, hl2⟩)
        ·
          refine z_aload_n X dX4_stepAt_41 rfl rfl ?_
          refine z_get X (C := RX4) (T := TX4) (N := 21) (ci := 4) (v := .int (nI 0)) inZ4 0 20 rfl rfl (by decide) q_fl_X4_65 rfl rfl dX4_stepAt_42 ?_
          refine n_if_ne (tgt := 52) X dX4_stepAt_45 (by decide) (by omega) (fun c45 => absurd c45 (by decide)) (fun _ => ?_)
          refine z_iconst (v := (-1)) X dX4_stepAt_48 (by decide) ?_
          refine z_goto (tgt := 53) X dX4_stepAt_49 (by decide) ?_
          refine z_iret X Z rfl dX4_stepAt_53 ?_
          exact ⟨(va_up (va_up S 22 u15) 23 (fun _ => nI 0)), Or.inl ⟨w, hw, rfl, h15, Or.inl ⟨by omega, rfl⟩, _, rfl⟩, fun q hq => hq⟩
      ·
        exact absurd trivial g1
      ·
        exact absurd trivial g2
      ·
        exact absurd trivial g3
    ·
      refine z_iconst (v := nI 1) X dX4_stepAt_18 (by decide) ?_
      refine z_callV2 (k := 0) (n := 0) (st := []) X Y aM_eq (c_X4_goes l D t b (va_up S 22 u15) (nI 1) (nI 0) (nI 1) True False True (bz_t trivial) (bz_f id) (bz_t trivial)) k_X4_goes q_ml_X4_77 is19 (fun u => wM t b (va_up (va_up S 22 u15) 23 (fun _ => nI u))) (fun u => swM) ppM 0 4 rfl rfl (by decide) rfl rfl rfl (Nat.le_of_ble_eq_true rfl) ⟨Nat.zero_le _, Nat.zero_le _⟩ dX4_stepAt_19 (fun r19 u19 h19 => ?_)
      rcases h19 with ⟨rfl, rfl, g1, g2, g3⟩ | ⟨rfl, rfl, g1⟩ | ⟨rfl, rfl, g1, g2⟩ | ⟨rfl, rfl, g1, g2, g3⟩
      ·
        exact g2.elim
      ·
        exact absurd trivial g1
      ·
        refine n_if_eq (tgt := 41) X dX4_stepAt_22 (by decide) (by omega) (fun _ => ?_) (fun c22 => absurd c22 (by decide))
        refine z_aload_n X dX4_stepAt_41 rfl rfl ?_
        refine z_get X (C := RX4) (T := TX4) (N := 21) (ci := 4) (v := .int (nI 2)) inZ4 0 20 rfl rfl (by decide) q_fl_X4_65 rfl rfl dX4_stepAt_42 ?_
        refine n_if_ne (tgt := 52) X dX4_stepAt_45 (by decide) (by omega) (fun _ => ?_) (fun c45 => absurd c45 (by decide))
        refine z_iconst (v := nI 0) X dX4_stepAt_52 (by decide) ?_
        refine z_iret X Z rfl dX4_stepAt_53 ?_
        exact ⟨(va_up (va_up S 22 u15) 23 (fun _ => nI 2)), Or.inr (Or.inr ⟨c2, h15, _, rfl⟩), fun q hq => hq⟩
      ·
        exact absurd trivial g3
